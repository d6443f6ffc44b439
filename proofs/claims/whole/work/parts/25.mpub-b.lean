set_option maxHeartbeats 4000000 in
set_option maxRecDepth 100000 in
theorem c_MD_seal_e (l : Launch) (D : va_G) (cI cC cJ : ClassId) (gg : Nat → Nat) (ft : Int32) (n0 : Nat) (S : Nat → Nat) (n2 : Nat) (M : Nat → Nat) (n3 : Nat) (B : Nat → Nat) (n4 : Nat) (E : Nat → Nat) (rt : Nat) (hh : zm_inj gg) (hn0 : n0 ≤ 4) (hn2 : n2 ≤ 40) (hn3 : n3 ≤ 120) (hn4 : n4 ≤ 160) (x f g : Int32) (hrc : zs_rc n0 (zs_un x) = 0) : Met l y_MD_seal (zw k_MD_seal) ({ frames := 3, cells := 0, slots := 0, locals := 74 }) (zPc [.ref (gg 0), .int x, .int f, .int g] (fun H => zMo D cI cC gg ft n0 S n2 M n3 B n4 E rt H) D cI cC cJ) (zQm (some (.int (nI 0))) (fun H => zMo D cI cC gg (nI 1) n0 S n2 M n3 B n4 E rt H) (zAM gg)) 0 0 (zAM gg) := by
  refine zMet (by decide) (Nat.le_of_ble_eq_true rfl) ?_
  intro p e s m below meth c hx hb hr hg hown hlk hml hB0 hE ls hl
  have hl : lv_has ls 10 [(0, .ref (gg 0)), (1, .int x), (2, .int f), (3, .int g)] := hl
  have hS9 : CallFix p m c b_MD_seal 10 s [.ref (gg 0), .int x, .int f, .int g].toArray zg "SealedFilesModel" := ⟨hx, hb, hml, hown, hg⟩
  obtain ⟨rd, e0, e2, e3, e5, e4, hS0, hM, hB, hE9, hP⟩ := hB0
  have hP : va_P D zcl [((gg 0), .inr (2, [.int ft, .int (nI n0), .ref (gg 1), .int (nI n2), .int (nI n3), .int (nI rt), .ref (gg 2), .ref (gg 3), .ref (gg 4), .int (nI rd), .int (nI n4), .ref (gg 5)])), ((gg 1), .inl (cI, 4, .inl e0)), ((gg 2), .inl (cI, 40, .inl e2)), ((gg 3), .inl (cI, 120, .inl e3)), ((gg 4), .inl (cI, 40, .inl e5)), ((gg 5), .inl (cC, 160, .inl e4))] s.heap := hP
  have hD : va_D (zAM gg) [((gg 0), .inr (2, [.int ft, .int (nI n0), .ref (gg 1), .int (nI n2), .int (nI n3), .int (nI rt), .ref (gg 2), .ref (gg 3), .ref (gg 4), .int (nI rd), .int (nI n4), .ref (gg 5)])), ((gg 1), .inl (cI, 4, .inl e0)), ((gg 2), .inl (cI, 40, .inl e2)), ((gg 3), .inl (cI, 120, .inl e3)), ((gg 4), .inl (cI, 40, .inl e5)), ((gg 5), .inl (cC, 160, .inl e4))] := zMd_D hh
  have hS : va_S (zAM gg) s.heap s.heap [] := va_S.rf
  refine lv_aload_n hx hb d_MD_seal_0 rfl (lv_at hl 0 rfl) ?_
  refine lv_iconst (v := (nI 0)) hx hb d_MD_seal_1 (by decide) ?_
  refine va_put (D := D) (ci := 2) (v := .int (nI 0)) (ty := .int) (C := R_MD) (T := F_MD) (N := 12) hx hb hg i_MD t_MD t_MD_ok n_MD hown hE.1 hP hD hS 0 rfl rfl 0 (by decide) (hg _ zw_488) (fun _ h9 => h9) rfl (by decide +kernel) rfl rfl (Nat.le_of_ble_eq_true rfl) d_MD_seal_2 (fun H locs hP hD hS => ?_)
  have hP : va_P D zcl [((gg 0), .inr (2, [.int (nI 0), .int (nI n0), .ref (gg 1), .int (nI n2), .int (nI n3), .int (nI rt), .ref (gg 2), .ref (gg 3), .ref (gg 4), .int (nI rd), .int (nI n4), .ref (gg 5)])), ((gg 1), .inl (cI, 4, .inl e0)), ((gg 2), .inl (cI, 40, .inl e2)), ((gg 3), .inl (cI, 120, .inl e3)), ((gg 4), .inl (cI, 40, .inl e5)), ((gg 5), .inl (cC, 160, .inl e4))] H := hP
  have hD : va_D (zAM gg) [((gg 0), .inr (2, [.int (nI 0), .int (nI n0), .ref (gg 1), .int (nI n2), .int (nI n3), .int (nI rt), .ref (gg 2), .ref (gg 3), .ref (gg 4), .int (nI rd), .int (nI n4), .ref (gg 5)])), ((gg 1), .inl (cI, 4, .inl e0)), ((gg 2), .inl (cI, 40, .inl e2)), ((gg 3), .inl (cI, 120, .inl e3)), ((gg 4), .inl (cI, 40, .inl e5)), ((gg 5), .inl (cC, 160, .inl e4))] := hD
  refine lv_iconst (v := (nI 0)) hx hb d_MD_seal_5 (by decide) ?_
  refine lv_istore hx hb d_MD_seal_6 hl (by decide) (lv' := [(4, .int (nI 0)), (0, .ref (gg 0)), (1, .int x), (2, .int f), (3, .int g)]) rfl (fun ls hl => ?_)
  refine lv_iconst (v := (nI 0)) hx hb d_MD_seal_8 (by decide) ?_
  refine lv_istore hx hb d_MD_seal_9 hl (by decide) (lv' := [(5, .int (nI 0)), (4, .int (nI 0)), (0, .ref (gg 0)), (1, .int x), (2, .int f), (3, .int g)]) rfl (fun ls hl => ?_)
  have hl : lv_has ls 10 [(5, .int (nI 0)), (4, .int (nI 0)), (0, .ref (gg 0)), (1, .int x), (2, .int f), (3, .int g)] := lv_sub hl [0, 1, 2, 3, 4, 5] rfl
  have cnt : ∀ (k : Nat) (i : Nat), i + k = 32 → ∀ ls : Array Slot, lv_has ls 10 [(5, .int (nI i)), (4, .int (nI (zs_cnt n0 (zs_un x) i))), (0, .ref (gg 0)), (1, .int x), (2, .int f), (3, .int g)] → (∀ ls : Array Slot, lv_has ls 10 [(4, .int (nI (zs_cnt n0 (zs_un x) 32))), (0, .ref (gg 0)), (1, .int x), (2, .int f), (3, .int g)] → W p l e ({ frames := 3, cells := 0, slots := 0, locals := 74 }) s m [.ref (gg 0), .int x, .int f, .int g].toArray below meth c H locs 0 0 (MQ below (zQm (some (.int (nI 0))) (fun H => zMo D cI cC gg (nI 1) n0 S n2 M n3 B n4 E rt H) (zAM gg)) [.ref (gg 0), .int x, .int f, .int g].toArray s 0 0 (zAM gg)) (F0 m 58 ls [])) → W p l e ({ frames := 3, cells := 0, slots := 0, locals := 74 }) s m [.ref (gg 0), .int x, .int f, .int g].toArray below meth c H locs 0 0 (MQ below (zQm (some (.int (nI 0))) (fun H => zMo D cI cC gg (nI 1) n0 S n2 M n3 B n4 E rt H) (zAM gg)) [.ref (gg 0), .int x, .int f, .int g].toArray s 0 0 (zAM gg)) (F0 m 11 ls []) := by
    intro k
    induction k with
    | zero =>
      intro i hi ls hl kk
      obtain rfl : i = 32 := by omega
      refine lv_iload hx hb d_MD_seal_11 (lv_at hl 0 rfl) ?_
      refine lv_bipush (v := (nI 32)) hx hb d_MD_seal_13 (by decide) ?_
      refine lv_icmp_ge hx hb d_MD_seal_15 (tgt := 58) (by decide) (fun _ => ?_) (fun z9 => absurd (Int32.le_refl _) z9)
      have hl : lv_has ls 10 [(4, .int (nI (zs_cnt n0 (zs_un x) 32))), (0, .ref (gg 0)), (1, .int x), (2, .int f), (3, .int g)] := lv_sub hl [1, 2, 3, 4, 5] rfl
      exact kk ls hl
    | succ k ih =>
      intro i hi ls hl kk
      have hle := zs_cnt_le n0 (zs_un x) i
      refine lv_iload hx hb d_MD_seal_11 (lv_at hl 0 rfl) ?_
      refine lv_bipush (v := (nI 32)) hx hb d_MD_seal_13 (by decide) ?_
      refine lv_icmp_ge hx hb d_MD_seal_15 (tgt := 58) (by decide) (fun z9 => absurd z9 (nI_ge (by omega) (by omega))) (fun _ => ?_)
      refine lv_iload_n hx hb d_MD_seal_18 rfl (lv_at hl 3 rfl) ?_
      refine lv_iload hx hb d_MD_seal_19 (lv_at hl 0 rfl) ?_
      refine lv_ishr hx hb d_MD_seal_21 ?_
      refine lv_iconst (v := (nI 1)) hx hb d_MD_seal_22 (by decide) ?_
      refine lv_iand hx hb d_MD_seal_23 ?_
      refine ztop (y := nI ((zs_un x) / 2 ^ i % 2)) (zs_sshr1 x (by omega)) ?_
      by_cases gz : (zs_un x) / 2 ^ i % 2 = 0
      · refine lv_if_ne hx hb d_MD_seal_24 (tgt := 32) (by decide) (fun z9 => absurd (by rw [gz]; rfl) z9) (fun _ => ?_)
        refine lv_iload hx hb d_MD_seal_27 (lv_at hl 1 rfl) ?_
        refine lv_goto hx hb d_MD_seal_29 (tgt := 50) (by decide) ?_
        refine ztop (y := nI (zs_cnt n0 (zs_un x) (i + 1))) (by rw [zs_cnt, if_pos gz]) ?_
        refine lv_istore hx hb d_MD_seal_50 hl (by decide) (lv' := [(4, .int (nI (zs_cnt n0 (zs_un x) (i + 1)))), (5, .int (nI i)), (0, .ref (gg 0)), (1, .int x), (2, .int f), (3, .int g)]) rfl (fun ls hl => ?_)
        refine lv_iinc (k := 1) (v := nI (i + 1)) hx hb d_MD_seal_52 hl rfl (nI_1 i) (by decide) (lv' := [(5, .int (nI (i + 1))), (4, .int (nI (zs_cnt n0 (zs_un x) (i + 1)))), (0, .ref (gg 0)), (1, .int x), (2, .int f), (3, .int g)]) rfl (fun ls hl => ?_)
        refine lv_goto hx hb d_MD_seal_55 (tgt := 11) (by decide) ?_
        have hl : lv_has ls 10 [(5, .int (nI (i + 1))), (4, .int (nI (zs_cnt n0 (zs_un x) (i + 1)))), (0, .ref (gg 0)), (1, .int x), (2, .int f), (3, .int g)] := lv_sub hl [0, 1, 2, 3, 4, 5] rfl
        exact ih (i + 1) (by omega) ls hl kk
      · refine lv_if_ne hx hb d_MD_seal_24 (tgt := 32) (by decide) (fun _ => ?_) (fun z9 => absurd z9 (nI_ne0 (by omega) (by omega)))
        refine lv_iload hx hb d_MD_seal_32 (lv_at hl 0 rfl) ?_
        refine lv_aload_n hx hb d_MD_seal_34 rfl (lv_at hl 2 rfl) ?_
        refine va_get (D := D) (ci := 2) (v := .int (nI n0)) (C := R_MD) (T := F_MD) (N := 12) hx hb hg i_MD hown hE.1 hP 0 rfl rfl 1 (by decide) (hg _ zw_489) (fun _ h9 => h9) rfl d_MD_seal_35 ?_
        by_cases g2 : i < n0
        · refine lv_icmp_ge hx hb d_MD_seal_38 (tgt := 48) (by decide) (fun z9 => absurd z9 (nI_ge g2 (by omega))) (fun _ => ?_)
          refine lv_iload hx hb d_MD_seal_41 (lv_at hl 1 rfl) ?_
          refine lv_iconst (v := (nI 1)) hx hb d_MD_seal_43 (by decide) ?_
          refine lv_iadd hx hb d_MD_seal_44 ?_
          refine ztop (y := nI (zs_cnt n0 (zs_un x) (i + 1))) (by rw [nI_add, zs_cnt, if_neg gz, if_pos g2]) ?_
          refine lv_goto hx hb d_MD_seal_45 (tgt := 50) (by decide) ?_
          refine lv_istore hx hb d_MD_seal_50 hl (by decide) (lv' := [(4, .int (nI (zs_cnt n0 (zs_un x) (i + 1)))), (5, .int (nI i)), (0, .ref (gg 0)), (1, .int x), (2, .int f), (3, .int g)]) rfl (fun ls hl => ?_)
          refine lv_iinc (k := 1) (v := nI (i + 1)) hx hb d_MD_seal_52 hl rfl (nI_1 i) (by decide) (lv' := [(5, .int (nI (i + 1))), (4, .int (nI (zs_cnt n0 (zs_un x) (i + 1)))), (0, .ref (gg 0)), (1, .int x), (2, .int f), (3, .int g)]) rfl (fun ls hl => ?_)
          refine lv_goto hx hb d_MD_seal_55 (tgt := 11) (by decide) ?_
          have hl : lv_has ls 10 [(5, .int (nI (i + 1))), (4, .int (nI (zs_cnt n0 (zs_un x) (i + 1)))), (0, .ref (gg 0)), (1, .int x), (2, .int f), (3, .int g)] := lv_sub hl [0, 1, 2, 3, 4, 5] rfl
          exact ih (i + 1) (by omega) ls hl kk
        · refine lv_icmp_ge hx hb d_MD_seal_38 (tgt := 48) (by decide) (fun _ => ?_) (fun z9 => absurd (nI_le (by omega) (by omega)) z9)
          refine lv_bipush (v := (nI 100)) hx hb d_MD_seal_48 (by decide) ?_
          refine ztop (y := nI (zs_cnt n0 (zs_un x) (i + 1))) (by rw [zs_cnt, if_neg gz, if_neg g2]) ?_
          refine lv_istore hx hb d_MD_seal_50 hl (by decide) (lv' := [(4, .int (nI (zs_cnt n0 (zs_un x) (i + 1)))), (5, .int (nI i)), (0, .ref (gg 0)), (1, .int x), (2, .int f), (3, .int g)]) rfl (fun ls hl => ?_)
          refine lv_iinc (k := 1) (v := nI (i + 1)) hx hb d_MD_seal_52 hl rfl (nI_1 i) (by decide) (lv' := [(5, .int (nI (i + 1))), (4, .int (nI (zs_cnt n0 (zs_un x) (i + 1)))), (0, .ref (gg 0)), (1, .int x), (2, .int f), (3, .int g)]) rfl (fun ls hl => ?_)
          refine lv_goto hx hb d_MD_seal_55 (tgt := 11) (by decide) ?_
          have hl : lv_has ls 10 [(5, .int (nI (i + 1))), (4, .int (nI (zs_cnt n0 (zs_un x) (i + 1)))), (0, .ref (gg 0)), (1, .int x), (2, .int f), (3, .int g)] := lv_sub hl [0, 1, 2, 3, 4, 5] rfl
          exact ih (i + 1) (by omega) ls hl kk
  refine cnt 32 0 (by omega) ls hl (fun ls hl => ?_)
  have hno : ¬ (1 ≤ zs_cnt n0 (zs_un x) 32 ∧ zs_cnt n0 (zs_un x) 32 ≤ 3) := by rcases zs_cnt_is hn0 (zs_un_lt x) with z | z; omega; exact z.2
  have hle := zs_cnt_le n0 (zs_un x) 32
  have rest : ∀ ls : Array Slot, lv_has ls 10 [(4, .int (nI (zs_cnt n0 (zs_un x) 32))), (0, .ref (gg 0)), (1, .int x), (2, .int f), (3, .int g)] → W p l e ({ frames := 3, cells := 0, slots := 0, locals := 74 }) s m [.ref (gg 0), .int x, .int f, .int g].toArray below meth c H locs 0 0 (MQ below (zQm (some (.int (nI 0))) (fun H => zMo D cI cC gg (nI 1) n0 S n2 M n3 B n4 E rt H) (zAM gg)) [.ref (gg 0), .int x, .int f, .int g].toArray s 0 0 (zAM gg)) (F0 m 70 ls []) := by
    intro ls hl
    refine lv_aload_n hx hb d_MD_seal_70 rfl (lv_at hl 1 rfl) ?_
    refine lv_iconst (v := (nI 1)) hx hb d_MD_seal_71 (by decide) ?_
    refine zWr (rest := []) (zrV hS9 (c_MD_fails l D cI cC cJ gg (nI 0) n0 n2 n3 rt rd n4 e0 e2 e3 e5 e4 (by omega) (by omega) (by omega) (by omega) hh (nI 1)) zc_MD_fails zw_534 zw_536 zp_26 (by decide) (va_recv hE.1 hP (ci := 2) (q := (R_MD, F_MD, 12)) rfl (q0 := 0) rfl) (hP) hE rfl hl.1 rfl (Nat.le_of_ble_eq_true rfl) d_MD_seal_72) hS (fun _ _ h => h) (fun _ h => h) (fun H locs hP hz hk9 hS => ?_)
    have hP : va_P D zcl [((gg 0), .inr (2, [.int (nI 1), .int (nI n0), .ref (gg 1), .int (nI n2), .int (nI n3), .int (nI rt), .ref (gg 2), .ref (gg 3), .ref (gg 4), .int (nI rd), .int (nI n4), .ref (gg 5)])), ((gg 1), .inl (cI, 4, .inl e0)), ((gg 2), .inl (cI, 40, .inl e2)), ((gg 3), .inl (cI, 120, .inl e3)), ((gg 4), .inl (cI, 40, .inl e5)), ((gg 5), .inl (cC, 160, .inl e4))] H := hP
    have hD : va_D (zAM gg) [((gg 0), .inr (2, [.int (nI 1), .int (nI n0), .ref (gg 1), .int (nI n2), .int (nI n3), .int (nI rt), .ref (gg 2), .ref (gg 3), .ref (gg 4), .int (nI rd), .int (nI n4), .ref (gg 5)])), ((gg 1), .inl (cI, 4, .inl e0)), ((gg 2), .inl (cI, 40, .inl e2)), ((gg 3), .inl (cI, 120, .inl e3)), ((gg 4), .inl (cI, 40, .inl e5)), ((gg 5), .inl (cC, 160, .inl e4))] := zMd_D hh
    exact W.iret (v := (nI 0)) hx hb hr (fun t ht _ => ⟨rfl, by rw [ht]; exact ⟨rd, e0, e2, e3, e5, e4, hS0, hM, hB, hE9, hP⟩, hS.F ht⟩) hS.2.2 d_MD_seal_75
  refine lv_iload hx hb d_MD_seal_58 (lv_at hl 0 rfl) ?_
  refine lv_iconst (v := (nI 1)) hx hb d_MD_seal_60 (by decide) ?_
  by_cases g1 : 1 ≤ zs_cnt n0 (zs_un x) 32
  · refine lv_icmp_lt hx hb d_MD_seal_61 (tgt := 70) (by decide) (fun z9 => absurd z9 (nI_nlt (by omega) (by omega))) (fun _ => ?_)
    refine lv_iload hx hb d_MD_seal_64 (lv_at hl 0 rfl) ?_
    refine lv_iconst (v := (nI 3)) hx hb d_MD_seal_66 (by decide) ?_
    refine lv_icmp_le hx hb d_MD_seal_67 (tgt := 76) (by decide) (fun z9 => absurd z9 (nI_ge (by omega) (by omega))) (fun _ => ?_)
    exact rest ls hl
  · refine lv_icmp_lt hx hb d_MD_seal_61 (tgt := 70) (by decide) (fun _ => ?_) (fun z9 => absurd (nI_lt (by omega) (by omega)) z9)
    exact rest ls hl

set_option maxHeartbeats 4000000 in
set_option maxRecDepth 100000 in
theorem c_MD_seal_ok (l : Launch) (D : va_G) (cI cC cJ : ClassId) (gg : Nat → Nat) (ft : Int32) (n0 : Nat) (S : Nat → Nat) (n2 : Nat) (M : Nat → Nat) (n3 : Nat) (B : Nat → Nat) (n4 : Nat) (E : Nat → Nat) (rt : Nat) (hh : zm_inj gg) (hn0 : n0 ≤ 4) (hn2 : n2 ≤ 40) (hn3 : n3 ≤ 120) (hn4 : n4 ≤ 160) (x f g : Int32) (hrc : zs_rc n0 (zs_un x) = 1) : Met l y_MD_seal (zw k_MD_seal) ({ frames := 3, cells := 0, slots := 0, locals := 74 }) (zPc [.ref (gg 0), .int x, .int f, .int g] (fun H => zMo D cI cC gg ft n0 S n2 M n3 B n4 E rt H) D cI cC cJ) (zQm (some (.int (nI (zs_seal S n0 n2 M x f g).1))) (fun H => zMo D cI cC gg (nI 0) n0 S n2 M (zs_seal S n0 n2 M x f g).1 (zs_seal S n0 n2 M x f g).2 n4 E rt H) (zAM gg)) 0 0 (zAM gg) := by
  refine zMet (by decide) (Nat.le_of_ble_eq_true rfl) ?_
  intro p e s m below meth c hx hb hr hg hown hlk hml hB0 hE ls hl
  have hl : lv_has ls 10 [(0, .ref (gg 0)), (1, .int x), (2, .int f), (3, .int g)] := hl
  have hS9 : CallFix p m c b_MD_seal 10 s [.ref (gg 0), .int x, .int f, .int g].toArray zg "SealedFilesModel" := ⟨hx, hb, hml, hown, hg⟩
  obtain ⟨rd, e0, e2, e3, e5, e4, hS0, hM, hB, hE9, hP⟩ := hB0
  have hP : va_P D zcl [((gg 0), .inr (2, [.int ft, .int (nI n0), .ref (gg 1), .int (nI n2), .int (nI n3), .int (nI rt), .ref (gg 2), .ref (gg 3), .ref (gg 4), .int (nI rd), .int (nI n4), .ref (gg 5)])), ((gg 1), .inl (cI, 4, .inl e0)), ((gg 2), .inl (cI, 40, .inl e2)), ((gg 3), .inl (cI, 120, .inl e3)), ((gg 4), .inl (cI, 40, .inl e5)), ((gg 5), .inl (cC, 160, .inl e4))] s.heap := hP
  have hD : va_D (zAM gg) [((gg 0), .inr (2, [.int ft, .int (nI n0), .ref (gg 1), .int (nI n2), .int (nI n3), .int (nI rt), .ref (gg 2), .ref (gg 3), .ref (gg 4), .int (nI rd), .int (nI n4), .ref (gg 5)])), ((gg 1), .inl (cI, 4, .inl e0)), ((gg 2), .inl (cI, 40, .inl e2)), ((gg 3), .inl (cI, 120, .inl e3)), ((gg 4), .inl (cI, 40, .inl e5)), ((gg 5), .inl (cC, 160, .inl e4))] := zMd_D hh
  have hS : va_S (zAM gg) s.heap s.heap [] := va_S.rf
  refine lv_aload_n hx hb d_MD_seal_0 rfl (lv_at hl 0 rfl) ?_
  refine lv_iconst (v := (nI 0)) hx hb d_MD_seal_1 (by decide) ?_
  refine va_put (D := D) (ci := 2) (v := .int (nI 0)) (ty := .int) (C := R_MD) (T := F_MD) (N := 12) hx hb hg i_MD t_MD t_MD_ok n_MD hown hE.1 hP hD hS 0 rfl rfl 0 (by decide) (hg _ zw_488) (fun _ h9 => h9) rfl (by decide +kernel) rfl rfl (Nat.le_of_ble_eq_true rfl) d_MD_seal_2 (fun H locs hP hD hS => ?_)
  have hP : va_P D zcl [((gg 0), .inr (2, [.int (nI 0), .int (nI n0), .ref (gg 1), .int (nI n2), .int (nI n3), .int (nI rt), .ref (gg 2), .ref (gg 3), .ref (gg 4), .int (nI rd), .int (nI n4), .ref (gg 5)])), ((gg 1), .inl (cI, 4, .inl e0)), ((gg 2), .inl (cI, 40, .inl e2)), ((gg 3), .inl (cI, 120, .inl e3)), ((gg 4), .inl (cI, 40, .inl e5)), ((gg 5), .inl (cC, 160, .inl e4))] H := hP
  have hD : va_D (zAM gg) [((gg 0), .inr (2, [.int (nI 0), .int (nI n0), .ref (gg 1), .int (nI n2), .int (nI n3), .int (nI rt), .ref (gg 2), .ref (gg 3), .ref (gg 4), .int (nI rd), .int (nI n4), .ref (gg 5)])), ((gg 1), .inl (cI, 4, .inl e0)), ((gg 2), .inl (cI, 40, .inl e2)), ((gg 3), .inl (cI, 120, .inl e3)), ((gg 4), .inl (cI, 40, .inl e5)), ((gg 5), .inl (cC, 160, .inl e4))] := hD
  refine lv_iconst (v := (nI 0)) hx hb d_MD_seal_5 (by decide) ?_
  refine lv_istore hx hb d_MD_seal_6 hl (by decide) (lv' := [(4, .int (nI 0)), (0, .ref (gg 0)), (1, .int x), (2, .int f), (3, .int g)]) rfl (fun ls hl => ?_)
  refine lv_iconst (v := (nI 0)) hx hb d_MD_seal_8 (by decide) ?_
  refine lv_istore hx hb d_MD_seal_9 hl (by decide) (lv' := [(5, .int (nI 0)), (4, .int (nI 0)), (0, .ref (gg 0)), (1, .int x), (2, .int f), (3, .int g)]) rfl (fun ls hl => ?_)
  have hl : lv_has ls 10 [(5, .int (nI 0)), (4, .int (nI 0)), (0, .ref (gg 0)), (1, .int x), (2, .int f), (3, .int g)] := lv_sub hl [0, 1, 2, 3, 4, 5] rfl
  have cnt : ∀ (k : Nat) (i : Nat), i + k = 32 → ∀ ls : Array Slot, lv_has ls 10 [(5, .int (nI i)), (4, .int (nI (zs_cnt n0 (zs_un x) i))), (0, .ref (gg 0)), (1, .int x), (2, .int f), (3, .int g)] → (∀ ls : Array Slot, lv_has ls 10 [(4, .int (nI (zs_cnt n0 (zs_un x) 32))), (0, .ref (gg 0)), (1, .int x), (2, .int f), (3, .int g)] → W p l e ({ frames := 3, cells := 0, slots := 0, locals := 74 }) s m [.ref (gg 0), .int x, .int f, .int g].toArray below meth c H locs 0 0 (MQ below (zQm (some (.int (nI (zs_seal S n0 n2 M x f g).1))) (fun H => zMo D cI cC gg (nI 0) n0 S n2 M (zs_seal S n0 n2 M x f g).1 (zs_seal S n0 n2 M x f g).2 n4 E rt H) (zAM gg)) [.ref (gg 0), .int x, .int f, .int g].toArray s 0 0 (zAM gg)) (F0 m 58 ls [])) → W p l e ({ frames := 3, cells := 0, slots := 0, locals := 74 }) s m [.ref (gg 0), .int x, .int f, .int g].toArray below meth c H locs 0 0 (MQ below (zQm (some (.int (nI (zs_seal S n0 n2 M x f g).1))) (fun H => zMo D cI cC gg (nI 0) n0 S n2 M (zs_seal S n0 n2 M x f g).1 (zs_seal S n0 n2 M x f g).2 n4 E rt H) (zAM gg)) [.ref (gg 0), .int x, .int f, .int g].toArray s 0 0 (zAM gg)) (F0 m 11 ls []) := by
    intro k
    induction k with
    | zero =>
      intro i hi ls hl kk
      obtain rfl : i = 32 := by omega
      refine lv_iload hx hb d_MD_seal_11 (lv_at hl 0 rfl) ?_
      refine lv_bipush (v := (nI 32)) hx hb d_MD_seal_13 (by decide) ?_
      refine lv_icmp_ge hx hb d_MD_seal_15 (tgt := 58) (by decide) (fun _ => ?_) (fun z9 => absurd (Int32.le_refl _) z9)
      have hl : lv_has ls 10 [(4, .int (nI (zs_cnt n0 (zs_un x) 32))), (0, .ref (gg 0)), (1, .int x), (2, .int f), (3, .int g)] := lv_sub hl [1, 2, 3, 4, 5] rfl
      exact kk ls hl
    | succ k ih =>
      intro i hi ls hl kk
      have hle := zs_cnt_le n0 (zs_un x) i
      refine lv_iload hx hb d_MD_seal_11 (lv_at hl 0 rfl) ?_
      refine lv_bipush (v := (nI 32)) hx hb d_MD_seal_13 (by decide) ?_
      refine lv_icmp_ge hx hb d_MD_seal_15 (tgt := 58) (by decide) (fun z9 => absurd z9 (nI_ge (by omega) (by omega))) (fun _ => ?_)
      refine lv_iload_n hx hb d_MD_seal_18 rfl (lv_at hl 3 rfl) ?_
      refine lv_iload hx hb d_MD_seal_19 (lv_at hl 0 rfl) ?_
      refine lv_ishr hx hb d_MD_seal_21 ?_
      refine lv_iconst (v := (nI 1)) hx hb d_MD_seal_22 (by decide) ?_
      refine lv_iand hx hb d_MD_seal_23 ?_
      refine ztop (y := nI ((zs_un x) / 2 ^ i % 2)) (zs_sshr1 x (by omega)) ?_
      by_cases gz : (zs_un x) / 2 ^ i % 2 = 0
      · refine lv_if_ne hx hb d_MD_seal_24 (tgt := 32) (by decide) (fun z9 => absurd (by rw [gz]; rfl) z9) (fun _ => ?_)
        refine lv_iload hx hb d_MD_seal_27 (lv_at hl 1 rfl) ?_
        refine lv_goto hx hb d_MD_seal_29 (tgt := 50) (by decide) ?_
        refine ztop (y := nI (zs_cnt n0 (zs_un x) (i + 1))) (by rw [zs_cnt, if_pos gz]) ?_
        refine lv_istore hx hb d_MD_seal_50 hl (by decide) (lv' := [(4, .int (nI (zs_cnt n0 (zs_un x) (i + 1)))), (5, .int (nI i)), (0, .ref (gg 0)), (1, .int x), (2, .int f), (3, .int g)]) rfl (fun ls hl => ?_)
        refine lv_iinc (k := 1) (v := nI (i + 1)) hx hb d_MD_seal_52 hl rfl (nI_1 i) (by decide) (lv' := [(5, .int (nI (i + 1))), (4, .int (nI (zs_cnt n0 (zs_un x) (i + 1)))), (0, .ref (gg 0)), (1, .int x), (2, .int f), (3, .int g)]) rfl (fun ls hl => ?_)
        refine lv_goto hx hb d_MD_seal_55 (tgt := 11) (by decide) ?_
        have hl : lv_has ls 10 [(5, .int (nI (i + 1))), (4, .int (nI (zs_cnt n0 (zs_un x) (i + 1)))), (0, .ref (gg 0)), (1, .int x), (2, .int f), (3, .int g)] := lv_sub hl [0, 1, 2, 3, 4, 5] rfl
        exact ih (i + 1) (by omega) ls hl kk
      · refine lv_if_ne hx hb d_MD_seal_24 (tgt := 32) (by decide) (fun _ => ?_) (fun z9 => absurd z9 (nI_ne0 (by omega) (by omega)))
        refine lv_iload hx hb d_MD_seal_32 (lv_at hl 0 rfl) ?_
        refine lv_aload_n hx hb d_MD_seal_34 rfl (lv_at hl 2 rfl) ?_
        refine va_get (D := D) (ci := 2) (v := .int (nI n0)) (C := R_MD) (T := F_MD) (N := 12) hx hb hg i_MD hown hE.1 hP 0 rfl rfl 1 (by decide) (hg _ zw_489) (fun _ h9 => h9) rfl d_MD_seal_35 ?_
        by_cases g2 : i < n0
        · refine lv_icmp_ge hx hb d_MD_seal_38 (tgt := 48) (by decide) (fun z9 => absurd z9 (nI_ge g2 (by omega))) (fun _ => ?_)
          refine lv_iload hx hb d_MD_seal_41 (lv_at hl 1 rfl) ?_
          refine lv_iconst (v := (nI 1)) hx hb d_MD_seal_43 (by decide) ?_
          refine lv_iadd hx hb d_MD_seal_44 ?_
          refine ztop (y := nI (zs_cnt n0 (zs_un x) (i + 1))) (by rw [nI_add, zs_cnt, if_neg gz, if_pos g2]) ?_
          refine lv_goto hx hb d_MD_seal_45 (tgt := 50) (by decide) ?_
          refine lv_istore hx hb d_MD_seal_50 hl (by decide) (lv' := [(4, .int (nI (zs_cnt n0 (zs_un x) (i + 1)))), (5, .int (nI i)), (0, .ref (gg 0)), (1, .int x), (2, .int f), (3, .int g)]) rfl (fun ls hl => ?_)
          refine lv_iinc (k := 1) (v := nI (i + 1)) hx hb d_MD_seal_52 hl rfl (nI_1 i) (by decide) (lv' := [(5, .int (nI (i + 1))), (4, .int (nI (zs_cnt n0 (zs_un x) (i + 1)))), (0, .ref (gg 0)), (1, .int x), (2, .int f), (3, .int g)]) rfl (fun ls hl => ?_)
          refine lv_goto hx hb d_MD_seal_55 (tgt := 11) (by decide) ?_
          have hl : lv_has ls 10 [(5, .int (nI (i + 1))), (4, .int (nI (zs_cnt n0 (zs_un x) (i + 1)))), (0, .ref (gg 0)), (1, .int x), (2, .int f), (3, .int g)] := lv_sub hl [0, 1, 2, 3, 4, 5] rfl
          exact ih (i + 1) (by omega) ls hl kk
        · refine lv_icmp_ge hx hb d_MD_seal_38 (tgt := 48) (by decide) (fun _ => ?_) (fun z9 => absurd (nI_le (by omega) (by omega)) z9)
          refine lv_bipush (v := (nI 100)) hx hb d_MD_seal_48 (by decide) ?_
          refine ztop (y := nI (zs_cnt n0 (zs_un x) (i + 1))) (by rw [zs_cnt, if_neg gz, if_neg g2]) ?_
          refine lv_istore hx hb d_MD_seal_50 hl (by decide) (lv' := [(4, .int (nI (zs_cnt n0 (zs_un x) (i + 1)))), (5, .int (nI i)), (0, .ref (gg 0)), (1, .int x), (2, .int f), (3, .int g)]) rfl (fun ls hl => ?_)
          refine lv_iinc (k := 1) (v := nI (i + 1)) hx hb d_MD_seal_52 hl rfl (nI_1 i) (by decide) (lv' := [(5, .int (nI (i + 1))), (4, .int (nI (zs_cnt n0 (zs_un x) (i + 1)))), (0, .ref (gg 0)), (1, .int x), (2, .int f), (3, .int g)]) rfl (fun ls hl => ?_)
          refine lv_goto hx hb d_MD_seal_55 (tgt := 11) (by decide) ?_
          have hl : lv_has ls 10 [(5, .int (nI (i + 1))), (4, .int (nI (zs_cnt n0 (zs_un x) (i + 1)))), (0, .ref (gg 0)), (1, .int x), (2, .int f), (3, .int g)] := lv_sub hl [0, 1, 2, 3, 4, 5] rfl
          exact ih (i + 1) (by omega) ls hl kk
  refine cnt 32 0 (by omega) ls hl (fun ls hl => ?_)
  have hcn : zs_cnt n0 (zs_un x) 32 = zs_pc (zs_un x) ∧ 1 ≤ zs_pc (zs_un x) ∧ zs_pc (zs_un x) ≤ 3 := by rcases zs_cnt_is hn0 (zs_un_lt x) with z | z; exact z.2; omega
  rw [hcn.1] at hl
  obtain ⟨-, hc1, hc3⟩ := hcn
  refine lv_iload hx hb d_MD_seal_58 (lv_at hl 0 rfl) ?_
  refine lv_iconst (v := (nI 1)) hx hb d_MD_seal_60 (by decide) ?_
  refine lv_icmp_lt hx hb d_MD_seal_61 (tgt := 70) (by decide) (fun z9 => absurd z9 (nI_nlt (by omega) (by omega))) (fun _ => ?_)
  refine lv_iload hx hb d_MD_seal_64 (lv_at hl 0 rfl) ?_
  refine lv_iconst (v := (nI 3)) hx hb d_MD_seal_66 (by decide) ?_
  refine lv_icmp_le hx hb d_MD_seal_67 (tgt := 76) (by decide) (fun _ => ?_) (fun z9 => absurd (nI_le (by omega) (by omega)) z9)
  refine lv_aload_n hx hb d_MD_seal_76 rfl (lv_at hl 1 rfl) ?_
  refine lv_iconst (v := (nI 0)) hx hb d_MD_seal_77 (by decide) ?_
  refine va_put (D := D) (ci := 2) (v := .int (nI 0)) (ty := .int) (C := R_MD) (T := F_MD) (N := 12) hx hb hg i_MD t_MD t_MD_ok n_MD hown hE.1 hP hD hS 0 rfl rfl 4 (by decide) (hg _ zw_492) (fun _ h9 => h9) rfl (by decide +kernel) rfl rfl (Nat.le_of_ble_eq_true rfl) d_MD_seal_78 (fun H locs hP hD hS => ?_)
  have hP : va_P D zcl [((gg 0), .inr (2, [.int (nI 0), .int (nI n0), .ref (gg 1), .int (nI n2), .int (nI 0), .int (nI rt), .ref (gg 2), .ref (gg 3), .ref (gg 4), .int (nI rd), .int (nI n4), .ref (gg 5)])), ((gg 1), .inl (cI, 4, .inl e0)), ((gg 2), .inl (cI, 40, .inl e2)), ((gg 3), .inl (cI, 120, .inl e3)), ((gg 4), .inl (cI, 40, .inl e5)), ((gg 5), .inl (cC, 160, .inl e4))] H := hP
  have hD : va_D (zAM gg) [((gg 0), .inr (2, [.int (nI 0), .int (nI n0), .ref (gg 1), .int (nI n2), .int (nI 0), .int (nI rt), .ref (gg 2), .ref (gg 3), .ref (gg 4), .int (nI rd), .int (nI n4), .ref (gg 5)])), ((gg 1), .inl (cI, 4, .inl e0)), ((gg 2), .inl (cI, 40, .inl e2)), ((gg 3), .inl (cI, 120, .inl e3)), ((gg 4), .inl (cI, 40, .inl e5)), ((gg 5), .inl (cC, 160, .inl e4))] := hD
  have hB : zs_hold 256 e3 (0, fun _ => 0) := zs_hold_0
  refine lv_aload_n hx hb d_MD_seal_81 rfl (lv_at hl 1 rfl) ?_
  refine lv_bipush (v := (nI 83)) hx hb d_MD_seal_82 (by decide) ?_
  refine zWr (rest := []) (zrV hS9 (c_MD_add l D cI cC cJ gg (nI 0) n0 n2 0 rt rd n4 e0 e2 e3 e5 e4 (by omega) (by omega) (by omega) (by omega) hh (nI 83) (by omega)) zc_MD_add zw_565 zw_567 zp_28 (by decide) (va_recv hE.1 hP (ci := 2) (q := (R_MD, F_MD, 12)) rfl (q0 := 0) rfl) (hP) hE rfl hl.1 rfl (Nat.le_of_ble_eq_true rfl) d_MD_seal_84) hS (fun _ _ h => h) (fun _ h => h) (fun H locs hP hz hk9 hS => ?_)
  have hP : va_P D zcl [((gg 0), .inr (2, [.int (nI 0), .int (nI n0), .ref (gg 1), .int (nI n2), .int (nI (0 + 1)), .int (nI rt), .ref (gg 2), .ref (gg 3), .ref (gg 4), .int (nI rd), .int (nI n4), .ref (gg 5)])), ((gg 1), .inl (cI, 4, .inl e0)), ((gg 2), .inl (cI, 40, .inl e2)), ((gg 3), .inl (cI, 120, .inl (upd e3 0 ((nI 83) &&& nI 255)))), ((gg 4), .inl (cI, 40, .inl e5)), ((gg 5), .inl (cC, 160, .inl e4))] H := hP
  have hD : va_D (zAM gg) [((gg 0), .inr (2, [.int (nI 0), .int (nI n0), .ref (gg 1), .int (nI n2), .int (nI (0 + 1)), .int (nI rt), .ref (gg 2), .ref (gg 3), .ref (gg 4), .int (nI rd), .int (nI n4), .ref (gg 5)])), ((gg 1), .inl (cI, 4, .inl e0)), ((gg 2), .inl (cI, 40, .inl e2)), ((gg 3), .inl (cI, 120, .inl (upd e3 0 ((nI 83) &&& nI 255)))), ((gg 4), .inl (cI, 40, .inl e5)), ((gg 5), .inl (cC, 160, .inl e4))] := zMd_D hh
  have hv9 : (nI 83) &&& nI 255 = nI 83 := by decide
  rw [hv9] at hP
  have hB : zs_hold 256 (upd e3 0 (nI 83)) (zs_push (0, fun _ => 0) 83) := zs_hold_push hB (by decide)
  have hP : va_P D zcl [((gg 0), .inr (2, [.int (nI 0), .int (nI n0), .ref (gg 1), .int (nI n2), .int (nI (0 + 1)), .int (nI rt), .ref (gg 2), .ref (gg 3), .ref (gg 4), .int (nI rd), .int (nI n4), .ref (gg 5)])), ((gg 1), .inl (cI, 4, .inl e0)), ((gg 2), .inl (cI, 40, .inl e2)), ((gg 3), .inl (cI, 120, .inl (upd e3 0 (nI 83)))), ((gg 4), .inl (cI, 40, .inl e5)), ((gg 5), .inl (cC, 160, .inl e4))] H := hP
  have hD : va_D (zAM gg) [((gg 0), .inr (2, [.int (nI 0), .int (nI n0), .ref (gg 1), .int (nI n2), .int (nI (0 + 1)), .int (nI rt), .ref (gg 2), .ref (gg 3), .ref (gg 4), .int (nI rd), .int (nI n4), .ref (gg 5)])), ((gg 1), .inl (cI, 4, .inl e0)), ((gg 2), .inl (cI, 40, .inl e2)), ((gg 3), .inl (cI, 120, .inl (upd e3 0 (nI 83)))), ((gg 4), .inl (cI, 40, .inl e5)), ((gg 5), .inl (cC, 160, .inl e4))] := zMd_D hh
  generalize (upd e3 0 (nI 83)) = e3a at hP hD hB
  refine lv_aload_n hx hb d_MD_seal_87 rfl (lv_at hl 1 rfl) ?_
  refine lv_iload hx hb d_MD_seal_88 (lv_at hl 0 rfl) ?_
  refine zWr (rest := []) (zrV hS9 (c_MD_add l D cI cC cJ gg (nI 0) n0 n2 (0 + 1) rt rd n4 e0 e2 e3a e5 e4 (by omega) (by omega) (by omega) (by omega) hh (nI (zs_pc (zs_un x))) (by omega)) zc_MD_add zw_565 zw_567 zp_28 (by decide) (va_recv hE.1 hP (ci := 2) (q := (R_MD, F_MD, 12)) rfl (q0 := 0) rfl) (hP) hE rfl hl.1 rfl (Nat.le_of_ble_eq_true rfl) d_MD_seal_90) hS (fun _ _ h => h) (fun _ h => h) (fun H locs hP hz hk9 hS => ?_)
  have hP : va_P D zcl [((gg 0), .inr (2, [.int (nI 0), .int (nI n0), .ref (gg 1), .int (nI n2), .int (nI ((0 + 1) + 1)), .int (nI rt), .ref (gg 2), .ref (gg 3), .ref (gg 4), .int (nI rd), .int (nI n4), .ref (gg 5)])), ((gg 1), .inl (cI, 4, .inl e0)), ((gg 2), .inl (cI, 40, .inl e2)), ((gg 3), .inl (cI, 120, .inl (upd e3a (0 + 1) ((nI (zs_pc (zs_un x))) &&& nI 255)))), ((gg 4), .inl (cI, 40, .inl e5)), ((gg 5), .inl (cC, 160, .inl e4))] H := hP
  have hD : va_D (zAM gg) [((gg 0), .inr (2, [.int (nI 0), .int (nI n0), .ref (gg 1), .int (nI n2), .int (nI ((0 + 1) + 1)), .int (nI rt), .ref (gg 2), .ref (gg 3), .ref (gg 4), .int (nI rd), .int (nI n4), .ref (gg 5)])), ((gg 1), .inl (cI, 4, .inl e0)), ((gg 2), .inl (cI, 40, .inl e2)), ((gg 3), .inl (cI, 120, .inl (upd e3a (0 + 1) ((nI (zs_pc (zs_un x))) &&& nI 255)))), ((gg 4), .inl (cI, 40, .inl e5)), ((gg 5), .inl (cC, 160, .inl e4))] := zMd_D hh
  have hv9 : (nI (zs_pc (zs_un x))) &&& nI 255 = nI (zs_pc (zs_un x)) := pk_andN (by omega) 8 (by decide) |>.trans (congrArg nI (Nat.mod_eq_of_lt (by omega)))
  rw [hv9] at hP
  have hB : zs_hold 256 (upd e3a (0 + 1) (nI (zs_pc (zs_un x)))) (zs_push (zs_push (0, fun _ => 0) 83) (zs_pc (zs_un x))) := zs_hold_push hB (by omega)
  have hP : va_P D zcl [((gg 0), .inr (2, [.int (nI 0), .int (nI n0), .ref (gg 1), .int (nI n2), .int (nI ((0 + 1) + 1)), .int (nI rt), .ref (gg 2), .ref (gg 3), .ref (gg 4), .int (nI rd), .int (nI n4), .ref (gg 5)])), ((gg 1), .inl (cI, 4, .inl e0)), ((gg 2), .inl (cI, 40, .inl e2)), ((gg 3), .inl (cI, 120, .inl (upd e3a (0 + 1) (nI (zs_pc (zs_un x)))))), ((gg 4), .inl (cI, 40, .inl e5)), ((gg 5), .inl (cC, 160, .inl e4))] H := hP
  have hD : va_D (zAM gg) [((gg 0), .inr (2, [.int (nI 0), .int (nI n0), .ref (gg 1), .int (nI n2), .int (nI ((0 + 1) + 1)), .int (nI rt), .ref (gg 2), .ref (gg 3), .ref (gg 4), .int (nI rd), .int (nI n4), .ref (gg 5)])), ((gg 1), .inl (cI, 4, .inl e0)), ((gg 2), .inl (cI, 40, .inl e2)), ((gg 3), .inl (cI, 120, .inl (upd e3a (0 + 1) (nI (zs_pc (zs_un x)))))), ((gg 4), .inl (cI, 40, .inl e5)), ((gg 5), .inl (cC, 160, .inl e4))] := zMd_D hh
  generalize (upd e3a (0 + 1) (nI (zs_pc (zs_un x)))) = e3b at hP hD hB
  refine lv_iconst (v := (nI 0)) hx hb d_MD_seal_93 (by decide) ?_
  refine lv_istore hx hb d_MD_seal_94 hl (by decide) (lv' := [(5, .int (nI 0)), (4, .int (nI (zs_pc (zs_un x)))), (0, .ref (gg 0)), (1, .int x), (2, .int f), (3, .int g)]) rfl (fun ls hl => ?_)
  have hl : lv_has ls 10 [(5, .int (nI 0)), (0, .ref (gg 0)), (1, .int x), (2, .int f), (3, .int g)] := lv_sub hl [0, 2, 3, 4, 5] rfl
  have loop : ∀ (k : Nat) (i : Nat) (ex : Nat → Int32) (H : Heap) (locs : List Loc), i + k = n0 → zs_hold 256 ex (zs_ents S x f g i) → va_P D zcl (zMd cI cC gg (nI 0) n0 n2 ((zs_ents S x f g i).1) rt rd n4 e0 e2 ex e5 e4) H → va_S (zAM gg) s.heap H locs → ∀ ls : Array Slot, lv_has ls 10 [(5, .int (nI i)), (0, .ref (gg 0)), (1, .int x), (2, .int f), (3, .int g)] → W p l e ({ frames := 3, cells := 0, slots := 0, locals := 74 }) s m [.ref (gg 0), .int x, .int f, .int g].toArray below meth c H locs 0 0 (MQ below (zQm (some (.int (nI (zs_seal S n0 n2 M x f g).1))) (fun H => zMo D cI cC gg (nI 0) n0 S n2 M (zs_seal S n0 n2 M x f g).1 (zs_seal S n0 n2 M x f g).2 n4 E rt H) (zAM gg)) [.ref (gg 0), .int x, .int f, .int g].toArray s 0 0 (zAM gg)) (F0 m 96 ls []) := by
    intro k
    induction k with
    | zero =>
      intro i ex H locs hi hB hP hS ls hl
      have hP : va_P D zcl [((gg 0), .inr (2, [.int (nI 0), .int (nI n0), .ref (gg 1), .int (nI n2), .int (nI ((zs_ents S x f g i).1)), .int (nI rt), .ref (gg 2), .ref (gg 3), .ref (gg 4), .int (nI rd), .int (nI n4), .ref (gg 5)])), ((gg 1), .inl (cI, 4, .inl e0)), ((gg 2), .inl (cI, 40, .inl e2)), ((gg 3), .inl (cI, 120, .inl ex)), ((gg 4), .inl (cI, 40, .inl e5)), ((gg 5), .inl (cC, 160, .inl e4))] H := hP
      have hD : va_D (zAM gg) [((gg 0), .inr (2, [.int (nI 0), .int (nI n0), .ref (gg 1), .int (nI n2), .int (nI ((zs_ents S x f g i).1)), .int (nI rt), .ref (gg 2), .ref (gg 3), .ref (gg 4), .int (nI rd), .int (nI n4), .ref (gg 5)])), ((gg 1), .inl (cI, 4, .inl e0)), ((gg 2), .inl (cI, 40, .inl e2)), ((gg 3), .inl (cI, 120, .inl ex)), ((gg 4), .inl (cI, 40, .inl e5)), ((gg 5), .inl (cC, 160, .inl e4))] := zMd_D hh
      have hle := zs_ents_le S x f g i
      have e9 : i = n0 := by omega
      rw [e9] at hB hP hle
      have hP : va_P D zcl [((gg 0), .inr (2, [.int (nI 0), .int (nI n0), .ref (gg 1), .int (nI n2), .int (nI ((zs_ents S x f g n0).1)), .int (nI rt), .ref (gg 2), .ref (gg 3), .ref (gg 4), .int (nI rd), .int (nI n4), .ref (gg 5)])), ((gg 1), .inl (cI, 4, .inl e0)), ((gg 2), .inl (cI, 40, .inl e2)), ((gg 3), .inl (cI, 120, .inl ex)), ((gg 4), .inl (cI, 40, .inl e5)), ((gg 5), .inl (cC, 160, .inl e4))] H := hP
      have hD : va_D (zAM gg) [((gg 0), .inr (2, [.int (nI 0), .int (nI n0), .ref (gg 1), .int (nI n2), .int (nI ((zs_ents S x f g n0).1)), .int (nI rt), .ref (gg 2), .ref (gg 3), .ref (gg 4), .int (nI rd), .int (nI n4), .ref (gg 5)])), ((gg 1), .inl (cI, 4, .inl e0)), ((gg 2), .inl (cI, 40, .inl e2)), ((gg 3), .inl (cI, 120, .inl ex)), ((gg 4), .inl (cI, 40, .inl e5)), ((gg 5), .inl (cC, 160, .inl e4))] := zMd_D hh
      refine lv_iload hx hb d_MD_seal_96 (lv_at hl 0 rfl) ?_
      refine lv_aload_n hx hb d_MD_seal_98 rfl (lv_at hl 1 rfl) ?_
      refine va_get (D := D) (ci := 2) (v := .int (nI n0)) (C := R_MD) (T := F_MD) (N := 12) hx hb hg i_MD hown hE.1 hP 0 rfl rfl 1 (by decide) (hg _ zw_489) (fun _ h9 => h9) rfl d_MD_seal_99 ?_
      refine lv_icmp_ge hx hb d_MD_seal_102 (tgt := 129) (by decide) (fun _ => ?_) (fun z9 => absurd (by rw [e9]; exact Int32.le_refl _) z9)
      refine lv_aload_n hx hb d_MD_seal_129 rfl (lv_at hl 1 rfl) ?_
      refine lv_iconst (v := (nI 0)) hx hb d_MD_seal_130 (by decide) ?_
      refine lv_aload_n hx hb d_MD_seal_131 rfl (lv_at hl 1 rfl) ?_
      refine va_get (D := D) (ci := 2) (v := .int (nI ((zs_ents S x f g n0).1))) (C := R_MD) (T := F_MD) (N := 12) hx hb hg i_MD hown hE.1 hP 0 rfl rfl 4 (by decide) (hg _ zw_492) (fun _ h9 => h9) rfl d_MD_seal_132 ?_
      refine lv_iload_n hx hb d_MD_seal_135 rfl (lv_at hl 3 rfl) ?_
      refine lv_iconst (v := (nI 0)) hx hb d_MD_seal_136 (by decide) ?_
      refine lv_iconst (v := (nI 3)) hx hb d_MD_seal_137 (by decide) ?_
      refine zRd (rest := [.int (nI ((zs_ents S x f g n0).1)), .int (nI 0), .ref (gg 0)]) (zrS hS9 (c_MD_word l D cI cC cJ f (nI 0) (nI 3)) zc_MD_word zw_573 zw_574 (by decide) (trivial) hE rfl hl.1 rfl (Nat.le_of_ble_eq_true rfl) d_MD_seal_138) ?_
      refine zRd (rest := []) (zrV hS9 (c_MD_sign l D cI cC cJ gg (nI 0) n0 n2 ((zs_ents S x f g n0).1) rt rd n4 e0 e2 ex e5 e4 (by omega) (by omega) (by omega) (by omega) (zs_ents S x f g n0).2 hB 0 ((zs_ents S x f g n0).1) (by omega) (by omega) (zs_word f (nI 0) (nI 3))) zc_MD_sign zw_585 zw_587 zp_31 (by decide) (va_recv hE.1 hP (ci := 2) (q := (R_MD, F_MD, 12)) rfl (q0 := 0) rfl) (hP) hE rfl hl.1 rfl (Nat.le_of_ble_eq_true rfl) d_MD_seal_141) ?_
      refine lv_istore hx hb d_MD_seal_144 hl (by decide) (lv' := [(5, .int (nI (zs_sg (zs_ents S x f g n0).2 0 ((zs_ents S x f g n0).1) (zs_word f (nI 0) (nI 3))))), (0, .ref (gg 0)), (1, .int x), (2, .int f), (3, .int g)]) rfl (fun ls hl => ?_)
      refine lv_aload_n hx hb d_MD_seal_146 rfl (lv_at hl 1 rfl) ?_
      refine lv_iload hx hb d_MD_seal_147 (lv_at hl 0 rfl) ?_
      have l9 := zs_sg_lt (zs_ents S x f g n0).2 0 (zs_ents S x f g n0).1 (zs_word f (nI 0) (nI 3))
      refine zWr (rest := []) (zrV hS9 (c_MD_addTwo l D cI cC cJ gg (nI 0) n0 n2 ((zs_ents S x f g n0).1) rt rd n4 e0 e2 ex e5 e4 (by omega) (by omega) (by omega) (by omega) hh (nI (zs_sg (zs_ents S x f g n0).2 0 (zs_ents S x f g n0).1 (zs_word f (nI 0) (nI 3)))) (by omega)) zc_MD_addTwo zw_581 zw_583 zp_30 (by decide) (va_recv hE.1 hP (ci := 2) (q := (R_MD, F_MD, 12)) rfl (q0 := 0) rfl) (hP) hE rfl hl.1 rfl (Nat.le_of_ble_eq_true rfl) d_MD_seal_149) hS (fun _ _ h => h) (fun _ h => h) (fun H locs hP hz hk9 hS => ?_)
      have hP : va_P D zcl [((gg 0), .inr (2, [.int (nI 0), .int (nI n0), .ref (gg 1), .int (nI n2), .int (nI (((zs_ents S x f g n0).1) + 2)), .int (nI rt), .ref (gg 2), .ref (gg 3), .ref (gg 4), .int (nI rd), .int (nI n4), .ref (gg 5)])), ((gg 1), .inl (cI, 4, .inl e0)), ((gg 2), .inl (cI, 40, .inl e2)), ((gg 3), .inl (cI, 120, .inl (upd (upd ex ((zs_ents S x f g n0).1) (nI ((zs_un (nI (zs_sg (zs_ents S x f g n0).2 0 (zs_ents S x f g n0).1 (zs_word f (nI 0) (nI 3)))) % 65536) / 256))) (((zs_ents S x f g n0).1) + 1) (nI ((zs_un (nI (zs_sg (zs_ents S x f g n0).2 0 (zs_ents S x f g n0).1 (zs_word f (nI 0) (nI 3)))) % 65536) % 256))))), ((gg 4), .inl (cI, 40, .inl e5)), ((gg 5), .inl (cC, 160, .inl e4))] H := hP
      have hD : va_D (zAM gg) [((gg 0), .inr (2, [.int (nI 0), .int (nI n0), .ref (gg 1), .int (nI n2), .int (nI (((zs_ents S x f g n0).1) + 2)), .int (nI rt), .ref (gg 2), .ref (gg 3), .ref (gg 4), .int (nI rd), .int (nI n4), .ref (gg 5)])), ((gg 1), .inl (cI, 4, .inl e0)), ((gg 2), .inl (cI, 40, .inl e2)), ((gg 3), .inl (cI, 120, .inl (upd (upd ex ((zs_ents S x f g n0).1) (nI ((zs_un (nI (zs_sg (zs_ents S x f g n0).2 0 (zs_ents S x f g n0).1 (zs_word f (nI 0) (nI 3)))) % 65536) / 256))) (((zs_ents S x f g n0).1) + 1) (nI ((zs_un (nI (zs_sg (zs_ents S x f g n0).2 0 (zs_ents S x f g n0).1 (zs_word f (nI 0) (nI 3)))) % 65536) % 256))))), ((gg 4), .inl (cI, 40, .inl e5)), ((gg 5), .inl (cC, 160, .inl e4))] := zMd_D hh
      have hv9 : zs_un (nI (zs_sg (zs_ents S x f g n0).2 0 (zs_ents S x f g n0).1 (zs_word f (nI 0) (nI 3)))) % 65536 = zs_sg (zs_ents S x f g n0).2 0 (zs_ents S x f g n0).1 (zs_word f (nI 0) (nI 3)) := by rw [zs_un_nI (by omega)]; exact Nat.mod_eq_of_lt (by omega)
      rw [hv9] at hP
      have hB : zs_hold 256 (upd (upd ex ((zs_ents S x f g n0).1) (nI ((zs_sg (zs_ents S x f g n0).2 0 (zs_ents S x f g n0).1 (zs_word f (nI 0) (nI 3))) / 256))) (((zs_ents S x f g n0).1) + 1) (nI ((zs_sg (zs_ents S x f g n0).2 0 (zs_ents S x f g n0).1 (zs_word f (nI 0) (nI 3))) % 256))) (zs_pair (zs_ents S x f g n0) (zs_sg (zs_ents S x f g n0).2 0 (zs_ents S x f g n0).1 (zs_word f (nI 0) (nI 3)))) := zs_hold_pair (v := zs_sg (zs_ents S x f g n0).2 0 (zs_ents S x f g n0).1 (zs_word f (nI 0) (nI 3))) hB (by omega)
      have hP : va_P D zcl [((gg 0), .inr (2, [.int (nI 0), .int (nI n0), .ref (gg 1), .int (nI n2), .int (nI (((zs_ents S x f g n0).1) + 2)), .int (nI rt), .ref (gg 2), .ref (gg 3), .ref (gg 4), .int (nI rd), .int (nI n4), .ref (gg 5)])), ((gg 1), .inl (cI, 4, .inl e0)), ((gg 2), .inl (cI, 40, .inl e2)), ((gg 3), .inl (cI, 120, .inl (upd (upd ex ((zs_ents S x f g n0).1) (nI ((zs_sg (zs_ents S x f g n0).2 0 (zs_ents S x f g n0).1 (zs_word f (nI 0) (nI 3))) / 256))) (((zs_ents S x f g n0).1) + 1) (nI ((zs_sg (zs_ents S x f g n0).2 0 (zs_ents S x f g n0).1 (zs_word f (nI 0) (nI 3))) % 256))))), ((gg 4), .inl (cI, 40, .inl e5)), ((gg 5), .inl (cC, 160, .inl e4))] H := hP
      have hD : va_D (zAM gg) [((gg 0), .inr (2, [.int (nI 0), .int (nI n0), .ref (gg 1), .int (nI n2), .int (nI (((zs_ents S x f g n0).1) + 2)), .int (nI rt), .ref (gg 2), .ref (gg 3), .ref (gg 4), .int (nI rd), .int (nI n4), .ref (gg 5)])), ((gg 1), .inl (cI, 4, .inl e0)), ((gg 2), .inl (cI, 40, .inl e2)), ((gg 3), .inl (cI, 120, .inl (upd (upd ex ((zs_ents S x f g n0).1) (nI ((zs_sg (zs_ents S x f g n0).2 0 (zs_ents S x f g n0).1 (zs_word f (nI 0) (nI 3))) / 256))) (((zs_ents S x f g n0).1) + 1) (nI ((zs_sg (zs_ents S x f g n0).2 0 (zs_ents S x f g n0).1 (zs_word f (nI 0) (nI 3))) % 256))))), ((gg 4), .inl (cI, 40, .inl e5)), ((gg 5), .inl (cC, 160, .inl e4))] := zMd_D hh
      generalize (upd (upd ex ((zs_ents S x f g n0).1) (nI ((zs_sg (zs_ents S x f g n0).2 0 (zs_ents S x f g n0).1 (zs_word f (nI 0) (nI 3))) / 256))) (((zs_ents S x f g n0).1) + 1) (nI ((zs_sg (zs_ents S x f g n0).2 0 (zs_ents S x f g n0).1 (zs_word f (nI 0) (nI 3))) % 256))) = eh at hP hD hB
      have hB : zs_hold 256 eh (zs_head S x f g n0) := hB
      have hhd : (zs_head S x f g n0).1 = (zs_ents S x f g n0).1 + 2 := rfl
      have hP : va_P D zcl [((gg 0), .inr (2, [.int (nI 0), .int (nI n0), .ref (gg 1), .int (nI n2), .int (nI ((zs_head S x f g n0).1)), .int (nI rt), .ref (gg 2), .ref (gg 3), .ref (gg 4), .int (nI rd), .int (nI n4), .ref (gg 5)])), ((gg 1), .inl (cI, 4, .inl e0)), ((gg 2), .inl (cI, 40, .inl e2)), ((gg 3), .inl (cI, 120, .inl eh)), ((gg 4), .inl (cI, 40, .inl e5)), ((gg 5), .inl (cC, 160, .inl e4))] H := hP
      have hD : va_D (zAM gg) [((gg 0), .inr (2, [.int (nI 0), .int (nI n0), .ref (gg 1), .int (nI n2), .int (nI ((zs_head S x f g n0).1)), .int (nI rt), .ref (gg 2), .ref (gg 3), .ref (gg 4), .int (nI rd), .int (nI n4), .ref (gg 5)])), ((gg 1), .inl (cI, 4, .inl e0)), ((gg 2), .inl (cI, 40, .inl e2)), ((gg 3), .inl (cI, 120, .inl eh)), ((gg 4), .inl (cI, 40, .inl e5)), ((gg 5), .inl (cC, 160, .inl e4))] := zMd_D hh
      refine lv_aload_n hx hb d_MD_seal_152 rfl (lv_at hl 1 rfl) ?_
      refine va_get (D := D) (ci := 2) (v := .int (nI n2)) (C := R_MD) (T := F_MD) (N := 12) hx hb hg i_MD hown hE.1 hP 0 rfl rfl 3 (by decide) (hg _ zw_491) (fun _ h9 => h9) rfl d_MD_seal_153 ?_
      have rest : ∀ ls : Array Slot, lv_has ls 10 [(5, .int (nI (zs_sg (zs_ents S x f g n0).2 0 ((zs_ents S x f g n0).1) (zs_word f (nI 0) (nI 3))))), (0, .ref (gg 0)), (1, .int x), (2, .int f), (3, .int g)] → W p l e ({ frames := 3, cells := 0, slots := 0, locals := 74 }) s m [.ref (gg 0), .int x, .int f, .int g].toArray below meth c H locs 0 0 (MQ below (zQm (some (.int (nI (zs_seal S n0 n2 M x f g).1))) (fun H => zMo D cI cC gg (nI 0) n0 S n2 M (zs_seal S n0 n2 M x f g).1 (zs_seal S n0 n2 M x f g).2 n4 E rt H) (zAM gg)) [.ref (gg 0), .int x, .int f, .int g].toArray s 0 0 (zAM gg)) (F0 m 173 ls [.int (nI (((n2 - 1) / 8) + 1))]) := by
        intro ls hl
        refine lv_istore hx hb d_MD_seal_173 hl (by decide) (lv' := [(6, .int (nI (((n2 - 1) / 8) + 1))), (5, .int (nI (zs_sg (zs_ents S x f g n0).2 0 ((zs_ents S x f g n0).1) (zs_word f (nI 0) (nI 3))))), (0, .ref (gg 0)), (1, .int x), (2, .int f), (3, .int g)]) rfl (fun ls hl => ?_)
        refine lv_iconst (v := (nI 0)) hx hb d_MD_seal_175 (by decide) ?_
        refine lv_istore hx hb d_MD_seal_176 hl (by decide) (lv' := [(7, .int (nI 0)), (6, .int (nI (((n2 - 1) / 8) + 1))), (5, .int (nI (zs_sg (zs_ents S x f g n0).2 0 ((zs_ents S x f g n0).1) (zs_word f (nI 0) (nI 3))))), (0, .ref (gg 0)), (1, .int x), (2, .int f), (3, .int g)]) rfl (fun ls hl => ?_)
        have hl : lv_has ls 10 [(7, .int (nI 0)), (6, .int (nI (((n2 - 1) / 8) + 1))), (0, .ref (gg 0)), (1, .int x), (2, .int f), (3, .int g)] := lv_sub hl [0, 1, 3, 4, 5, 6] rfl
        have outer : ∀ (k : Nat) (i : Nat) (ex : Nat → Int32) (H : Heap) (locs : List Loc), i + k = ((n2 - 1) / 8) + 1 → zs_hold 256 ex (zs_pcs n2 M f ((n2 - 1) / 8) (zs_head S x f g n0) i) → va_P D zcl (zMd cI cC gg (nI 0) n0 n2 ((zs_pcs n2 M f ((n2 - 1) / 8) (zs_head S x f g n0) i).1) rt rd n4 e0 e2 ex e5 e4) H → va_S (zAM gg) s.heap H locs → ∀ ls : Array Slot, lv_has ls 10 [(7, .int (nI i)), (6, .int (nI (((n2 - 1) / 8) + 1))), (0, .ref (gg 0)), (1, .int x), (2, .int f), (3, .int g)] → W p l e ({ frames := 3, cells := 0, slots := 0, locals := 74 }) s m [.ref (gg 0), .int x, .int f, .int g].toArray below meth c H locs 0 0 (MQ below (zQm (some (.int (nI (zs_seal S n0 n2 M x f g).1))) (fun H => zMo D cI cC gg (nI 0) n0 S n2 M (zs_seal S n0 n2 M x f g).1 (zs_seal S n0 n2 M x f g).2 n4 E rt H) (zAM gg)) [.ref (gg 0), .int x, .int f, .int g].toArray s 0 0 (zAM gg)) (F0 m 178 ls []) := by
          intro k
          induction k with
          | zero =>
            intro i ex H locs hi hB hP hS ls hl
            have hP : va_P D zcl [((gg 0), .inr (2, [.int (nI 0), .int (nI n0), .ref (gg 1), .int (nI n2), .int (nI ((zs_pcs n2 M f ((n2 - 1) / 8) (zs_head S x f g n0) i).1)), .int (nI rt), .ref (gg 2), .ref (gg 3), .ref (gg 4), .int (nI rd), .int (nI n4), .ref (gg 5)])), ((gg 1), .inl (cI, 4, .inl e0)), ((gg 2), .inl (cI, 40, .inl e2)), ((gg 3), .inl (cI, 120, .inl ex)), ((gg 4), .inl (cI, 40, .inl e5)), ((gg 5), .inl (cC, 160, .inl e4))] H := hP
            have hD : va_D (zAM gg) [((gg 0), .inr (2, [.int (nI 0), .int (nI n0), .ref (gg 1), .int (nI n2), .int (nI ((zs_pcs n2 M f ((n2 - 1) / 8) (zs_head S x f g n0) i).1)), .int (nI rt), .ref (gg 2), .ref (gg 3), .ref (gg 4), .int (nI rd), .int (nI n4), .ref (gg 5)])), ((gg 1), .inl (cI, 4, .inl e0)), ((gg 2), .inl (cI, 40, .inl e2)), ((gg 3), .inl (cI, 120, .inl ex)), ((gg 4), .inl (cI, 40, .inl e5)), ((gg 5), .inl (cC, 160, .inl e4))] := zMd_D hh
            have hle2 : (zs_pcs n2 M f ((n2 - 1) / 8) (zs_head S x f g n0) i).1 ≤ (zs_head S x f g n0).1 + 10 * i := zs_pcs_le _ _ _ _ _ _
            refine lv_iload hx hb d_MD_seal_178 (lv_at hl 0 rfl) ?_
            refine lv_iload hx hb d_MD_seal_180 (lv_at hl 1 rfl) ?_
            refine lv_icmp_ge hx hb d_MD_seal_182 (tgt := 302) (by decide) (fun _ => ?_) (fun z9 => absurd (nI_le (by omega) (by omega)) z9)
            refine lv_aload_n hx hb d_MD_seal_302 rfl (lv_at hl 2 rfl) ?_
            refine va_get (D := D) (ci := 2) (v := .int (nI ((zs_pcs n2 M f ((n2 - 1) / 8) (zs_head S x f g n0) i).1))) (C := R_MD) (T := F_MD) (N := 12) hx hb hg i_MD hown hE.1 hP 0 rfl rfl 4 (by decide) (hg _ zw_492) (fun _ h9 => h9) rfl d_MD_seal_303 ?_
            obtain rfl : i = ((n2 - 1) / 8) + 1 := by omega
            exact W.iret (v := (nI (zs_seal S n0 n2 M x f g).1)) hx hb hr (fun t ht _ => ⟨rfl, by rw [ht]; exact ⟨rd, e0, e2, ex, e5, e4, hS0, hM, hB, hE9, hP⟩, hS.F ht⟩) hS.2.2 d_MD_seal_306
          | succ k iho =>
            intro i ex H locs hi hB hP hS ls hl
            have hP : va_P D zcl [((gg 0), .inr (2, [.int (nI 0), .int (nI n0), .ref (gg 1), .int (nI n2), .int (nI ((zs_pcs n2 M f ((n2 - 1) / 8) (zs_head S x f g n0) i).1)), .int (nI rt), .ref (gg 2), .ref (gg 3), .ref (gg 4), .int (nI rd), .int (nI n4), .ref (gg 5)])), ((gg 1), .inl (cI, 4, .inl e0)), ((gg 2), .inl (cI, 40, .inl e2)), ((gg 3), .inl (cI, 120, .inl ex)), ((gg 4), .inl (cI, 40, .inl e5)), ((gg 5), .inl (cC, 160, .inl e4))] H := hP
            have hD : va_D (zAM gg) [((gg 0), .inr (2, [.int (nI 0), .int (nI n0), .ref (gg 1), .int (nI n2), .int (nI ((zs_pcs n2 M f ((n2 - 1) / 8) (zs_head S x f g n0) i).1)), .int (nI rt), .ref (gg 2), .ref (gg 3), .ref (gg 4), .int (nI rd), .int (nI n4), .ref (gg 5)])), ((gg 1), .inl (cI, 4, .inl e0)), ((gg 2), .inl (cI, 40, .inl e2)), ((gg 3), .inl (cI, 120, .inl ex)), ((gg 4), .inl (cI, 40, .inl e5)), ((gg 5), .inl (cC, 160, .inl e4))] := zMd_D hh
            have hle2 : (zs_pcs n2 M f ((n2 - 1) / 8) (zs_head S x f g n0) i).1 ≤ (zs_head S x f g n0).1 + 10 * i := zs_pcs_le _ _ _ _ _ _
            refine lv_iload hx hb d_MD_seal_178 (lv_at hl 0 rfl) ?_
            refine lv_iload hx hb d_MD_seal_180 (lv_at hl 1 rfl) ?_
            refine lv_icmp_ge hx hb d_MD_seal_182 (tgt := 302) (by decide) (fun z9 => absurd z9 (nI_ge (by omega) (by omega))) (fun _ => ?_)
            refine lv_aload_n hx hb d_MD_seal_185 rfl (lv_at hl 2 rfl) ?_
            refine va_get (D := D) (ci := 2) (v := .int (nI ((zs_pcs n2 M f ((n2 - 1) / 8) (zs_head S x f g n0) i).1))) (C := R_MD) (T := F_MD) (N := 12) hx hb hg i_MD hown hE.1 hP 0 rfl rfl 4 (by decide) (hg _ zw_492) (fun _ h9 => h9) rfl d_MD_seal_186 ?_
            refine lv_istore hx hb d_MD_seal_189 hl (by decide) (lv' := [(8, .int (nI ((zs_pcs n2 M f ((n2 - 1) / 8) (zs_head S x f g n0) i).1))), (7, .int (nI i)), (6, .int (nI (((n2 - 1) / 8) + 1))), (0, .ref (gg 0)), (1, .int x), (2, .int f), (3, .int g)]) rfl (fun ls hl => ?_)
            refine lv_bipush (v := (nI 8)) hx hb d_MD_seal_191 (by decide) ?_
            refine lv_iload hx hb d_MD_seal_193 (lv_at hl 1 rfl) ?_
            refine lv_imul hx hb d_MD_seal_195 ?_
            refine ztop (y := nI (8 * i)) (pk_mul _ _) ?_
            refine lv_istore hx hb d_MD_seal_196 hl (by decide) (lv' := [(9, .int (nI (8 * i))), (8, .int (nI ((zs_pcs n2 M f ((n2 - 1) / 8) (zs_head S x f g n0) i).1))), (7, .int (nI i)), (6, .int (nI (((n2 - 1) / 8) + 1))), (0, .ref (gg 0)), (1, .int x), (2, .int f), (3, .int g)]) rfl (fun ls hl => ?_)
            have hl : lv_has ls 10 [(9, .int (nI (8 * i))), (8, .int (nI ((zs_pcs n2 M f ((n2 - 1) / 8) (zs_head S x f g n0) i).1))), (7, .int (nI i)), (6, .int (nI (((n2 - 1) / 8) + 1))), (0, .ref (gg 0)), (1, .int x), (2, .int f), (3, .int g)] := lv_sub hl [0, 1, 2, 3, 4, 5, 6, 7] rfl
            have hq : min (n2 - 8 * i) 8 ≤ 8 := Nat.min_le_right _ _
            have hq2 : min (n2 - 8 * i) 8 ≤ n2 - 8 * i := Nat.min_le_left _ _
            have hq3 : min (n2 - 8 * i) 8 = n2 - 8 * i ∨ min (n2 - 8 * i) 8 = 8 := by omega
            generalize hqe : min (n2 - 8 * i) 8 = qn at hq hq2 hq3
            have inner : ∀ (k : Nat) (j : Nat) (ey : Nat → Int32) (H : Heap) (locs : List Loc), j + k = qn → zs_hold 256 ey (zs_cvs M f i (zs_pcs n2 M f ((n2 - 1) / 8) (zs_head S x f g n0) i) j) → va_P D zcl (zMd cI cC gg (nI 0) n0 n2 ((zs_cvs M f i (zs_pcs n2 M f ((n2 - 1) / 8) (zs_head S x f g n0) i) j).1) rt rd n4 e0 e2 ey e5 e4) H → va_S (zAM gg) s.heap H locs → ∀ ls : Array Slot, lv_has ls 10 [(9, .int (nI (8 * i + j))), (8, .int (nI ((zs_pcs n2 M f ((n2 - 1) / 8) (zs_head S x f g n0) i).1))), (7, .int (nI i)), (6, .int (nI (((n2 - 1) / 8) + 1))), (0, .ref (gg 0)), (1, .int x), (2, .int f), (3, .int g)] → W p l e ({ frames := 3, cells := 0, slots := 0, locals := 74 }) s m [.ref (gg 0), .int x, .int f, .int g].toArray below meth c H locs 0 0 (MQ below (zQm (some (.int (nI (zs_seal S n0 n2 M x f g).1))) (fun H => zMo D cI cC gg (nI 0) n0 S n2 M (zs_seal S n0 n2 M x f g).1 (zs_seal S n0 n2 M x f g).2 n4 E rt H) (zAM gg)) [.ref (gg 0), .int x, .int f, .int g].toArray s 0 0 (zAM gg)) (F0 m 198 ls []) := by
              intro k
              induction k with
              | zero =>
                intro j ey H locs hj hB hP hS ls hl
                have hP : va_P D zcl [((gg 0), .inr (2, [.int (nI 0), .int (nI n0), .ref (gg 1), .int (nI n2), .int (nI ((zs_cvs M f i (zs_pcs n2 M f ((n2 - 1) / 8) (zs_head S x f g n0) i) j).1)), .int (nI rt), .ref (gg 2), .ref (gg 3), .ref (gg 4), .int (nI rd), .int (nI n4), .ref (gg 5)])), ((gg 1), .inl (cI, 4, .inl e0)), ((gg 2), .inl (cI, 40, .inl e2)), ((gg 3), .inl (cI, 120, .inl ey)), ((gg 4), .inl (cI, 40, .inl e5)), ((gg 5), .inl (cC, 160, .inl e4))] H := hP
                have hD : va_D (zAM gg) [((gg 0), .inr (2, [.int (nI 0), .int (nI n0), .ref (gg 1), .int (nI n2), .int (nI ((zs_cvs M f i (zs_pcs n2 M f ((n2 - 1) / 8) (zs_head S x f g n0) i) j).1)), .int (nI rt), .ref (gg 2), .ref (gg 3), .ref (gg 4), .int (nI rd), .int (nI n4), .ref (gg 5)])), ((gg 1), .inl (cI, 4, .inl e0)), ((gg 2), .inl (cI, 40, .inl e2)), ((gg 3), .inl (cI, 120, .inl ey)), ((gg 4), .inl (cI, 40, .inl e5)), ((gg 5), .inl (cC, 160, .inl e4))] := zMd_D hh
                have hcn := zs_cvs_n M f i (zs_pcs n2 M f ((n2 - 1) / 8) (zs_head S x f g n0) i) j
                have rest2 : ∀ ls : Array Slot, lv_has ls 10 [(9, .int (nI (8 * i + j))), (8, .int (nI ((zs_pcs n2 M f ((n2 - 1) / 8) (zs_head S x f g n0) i).1))), (7, .int (nI i)), (6, .int (nI (((n2 - 1) / 8) + 1))), (0, .ref (gg 0)), (1, .int x), (2, .int f), (3, .int g)] → W p l e ({ frames := 3, cells := 0, slots := 0, locals := 74 }) s m [.ref (gg 0), .int x, .int f, .int g].toArray below meth c H locs 0 0 (MQ below (zQm (some (.int (nI (zs_seal S n0 n2 M x f g).1))) (fun H => zMo D cI cC gg (nI 0) n0 S n2 M (zs_seal S n0 n2 M x f g).1 (zs_seal S n0 n2 M x f g).2 n4 E rt H) (zAM gg)) [.ref (gg 0), .int x, .int f, .int g].toArray s 0 0 (zAM gg)) (F0 m 257 ls []) := by
                  intro ls hl
                  obtain rfl : j = qn := by omega
                  refine lv_aload_n hx hb d_MD_seal_257 rfl (lv_at hl 4 rfl) ?_
                  refine lv_iload hx hb d_MD_seal_258 (lv_at hl 1 rfl) ?_
                  refine lv_aload_n hx hb d_MD_seal_260 rfl (lv_at hl 4 rfl) ?_
                  refine va_get (D := D) (ci := 2) (v := .int (nI ((zs_cvs M f i (zs_pcs n2 M f ((n2 - 1) / 8) (zs_head S x f g n0) i) j).1))) (C := R_MD) (T := F_MD) (N := 12) hx hb hg i_MD hown hE.1 hP 0 rfl rfl 4 (by decide) (hg _ zw_492) (fun _ h9 => h9) rfl d_MD_seal_261 ?_
                  refine lv_iload_n hx hb d_MD_seal_264 rfl (lv_at hl 6 rfl) ?_
                  refine lv_iload hx hb d_MD_seal_265 (lv_at hl 2 rfl) ?_
                  refine lv_iload hx hb d_MD_seal_267 (lv_at hl 2 rfl) ?_
                  refine lv_iload hx hb d_MD_seal_269 (lv_at hl 3 rfl) ?_
                  refine lv_iconst (v := (nI 1)) hx hb d_MD_seal_271 (by decide) ?_
                  refine lv_isub hx hb d_MD_seal_272 ?_
                  refine ztop (y := nI ((n2 - 1) / 8)) (pk_sub (by omega)) ?_
                  by_cases g9 : i = ((n2 - 1) / 8)
                  · refine lv_icmp_ne hx hb d_MD_seal_273 (tgt := 281) (by decide) (fun z9 => absurd (by rw [g9]) z9) (fun _ => ?_)
                    refine lv_bipush (v := (nI 6)) hx hb d_MD_seal_276 (by decide) ?_
                    refine lv_goto hx hb d_MD_seal_278 (tgt := 282) (by decide) ?_
                    refine ztop (y := zs_use (if i = ((n2 - 1) / 8) then 1 else 0)) (by rw [zs_use, if_pos g9, if_neg (by decide)]) ?_
                    refine zRd (rest := [.int (nI ((zs_cvs M f i (zs_pcs n2 M f ((n2 - 1) / 8) (zs_head S x f g n0) i) j).1)), .int (nI ((zs_pcs n2 M f ((n2 - 1) / 8) (zs_head S x f g n0) i).1)), .ref (gg 0)]) (zrS hS9 (c_MD_word l D cI cC cJ f (nI i) (zs_use (if i = ((n2 - 1) / 8) then 1 else 0))) zc_MD_word zw_573 zw_574 (by decide) (trivial) hE rfl hl.1 rfl (Nat.le_of_ble_eq_true rfl) d_MD_seal_282) ?_
                    rw [hcn]
                    refine zRd (rest := []) (zrV hS9 (c_MD_sign l D cI cC cJ gg (nI 0) n0 n2 ((zs_cvs M f i (zs_pcs n2 M f ((n2 - 1) / 8) (zs_head S x f g n0) i) j).1) rt rd n4 e0 e2 ey e5 e4 (by omega) (by omega) (by omega) (by omega) (zs_cvs M f i (zs_pcs n2 M f ((n2 - 1) / 8) (zs_head S x f g n0) i) j).2 hB ((zs_pcs n2 M f ((n2 - 1) / 8) (zs_head S x f g n0) i).1) ((zs_pcs n2 M f ((n2 - 1) / 8) (zs_head S x f g n0) i).1 + j) (by omega) (by omega) (zs_word f (nI i) (zs_use (if i = ((n2 - 1) / 8) then 1 else 0)))) zc_MD_sign zw_585 zw_587 zp_31 (by decide) (va_recv hE.1 hP (ci := 2) (q := (R_MD, F_MD, 12)) rfl (q0 := 0) rfl) (hP) hE rfl hl.1 rfl (Nat.le_of_ble_eq_true rfl) d_MD_seal_285) ?_
                    have l9 := zs_sg_lt (zs_cvs M f i (zs_pcs n2 M f ((n2 - 1) / 8) (zs_head S x f g n0) i) j).2 (zs_pcs n2 M f ((n2 - 1) / 8) (zs_head S x f g n0) i).1 ((zs_pcs n2 M f ((n2 - 1) / 8) (zs_head S x f g n0) i).1 + j) (zs_word f (nI i) (zs_use (if i = ((n2 - 1) / 8) then 1 else 0)))
                    refine lv_istore hx hb d_MD_seal_288 hl (by decide) (lv' := [(9, .int (nI (zs_sg (zs_cvs M f i (zs_pcs n2 M f ((n2 - 1) / 8) (zs_head S x f g n0) i) j).2 ((zs_pcs n2 M f ((n2 - 1) / 8) (zs_head S x f g n0) i).1) ((zs_pcs n2 M f ((n2 - 1) / 8) (zs_head S x f g n0) i).1 + j) (zs_word f (nI i) (zs_use (if i = ((n2 - 1) / 8) then 1 else 0)))))), (8, .int (nI ((zs_pcs n2 M f ((n2 - 1) / 8) (zs_head S x f g n0) i).1))), (7, .int (nI i)), (6, .int (nI (((n2 - 1) / 8) + 1))), (0, .ref (gg 0)), (1, .int x), (2, .int f), (3, .int g)]) rfl (fun ls hl => ?_)
                    refine lv_aload_n hx hb d_MD_seal_290 rfl (lv_at hl 4 rfl) ?_
                    refine lv_iload hx hb d_MD_seal_291 (lv_at hl 0 rfl) ?_
                    refine zWr (rest := []) (zrV hS9 (c_MD_addTwo l D cI cC cJ gg (nI 0) n0 n2 ((zs_cvs M f i (zs_pcs n2 M f ((n2 - 1) / 8) (zs_head S x f g n0) i) j).1) rt rd n4 e0 e2 ey e5 e4 (by omega) (by omega) (by omega) (by omega) hh (nI (zs_sg (zs_cvs M f i (zs_pcs n2 M f ((n2 - 1) / 8) (zs_head S x f g n0) i) j).2 (zs_pcs n2 M f ((n2 - 1) / 8) (zs_head S x f g n0) i).1 ((zs_pcs n2 M f ((n2 - 1) / 8) (zs_head S x f g n0) i).1 + j) (zs_word f (nI i) (zs_use (if i = ((n2 - 1) / 8) then 1 else 0))))) (by omega)) zc_MD_addTwo zw_581 zw_583 zp_30 (by decide) (va_recv hE.1 hP (ci := 2) (q := (R_MD, F_MD, 12)) rfl (q0 := 0) rfl) (hP) hE rfl hl.1 rfl (Nat.le_of_ble_eq_true rfl) d_MD_seal_293) hS (fun _ _ h => h) (fun _ h => h) (fun H locs hP hz hk9 hS => ?_)
                    have hP : va_P D zcl [((gg 0), .inr (2, [.int (nI 0), .int (nI n0), .ref (gg 1), .int (nI n2), .int (nI (((zs_cvs M f i (zs_pcs n2 M f ((n2 - 1) / 8) (zs_head S x f g n0) i) j).1) + 2)), .int (nI rt), .ref (gg 2), .ref (gg 3), .ref (gg 4), .int (nI rd), .int (nI n4), .ref (gg 5)])), ((gg 1), .inl (cI, 4, .inl e0)), ((gg 2), .inl (cI, 40, .inl e2)), ((gg 3), .inl (cI, 120, .inl (upd (upd ey ((zs_cvs M f i (zs_pcs n2 M f ((n2 - 1) / 8) (zs_head S x f g n0) i) j).1) (nI ((zs_un (nI (zs_sg (zs_cvs M f i (zs_pcs n2 M f ((n2 - 1) / 8) (zs_head S x f g n0) i) j).2 (zs_pcs n2 M f ((n2 - 1) / 8) (zs_head S x f g n0) i).1 ((zs_pcs n2 M f ((n2 - 1) / 8) (zs_head S x f g n0) i).1 + j) (zs_word f (nI i) (zs_use (if i = ((n2 - 1) / 8) then 1 else 0))))) % 65536) / 256))) (((zs_cvs M f i (zs_pcs n2 M f ((n2 - 1) / 8) (zs_head S x f g n0) i) j).1) + 1) (nI ((zs_un (nI (zs_sg (zs_cvs M f i (zs_pcs n2 M f ((n2 - 1) / 8) (zs_head S x f g n0) i) j).2 (zs_pcs n2 M f ((n2 - 1) / 8) (zs_head S x f g n0) i).1 ((zs_pcs n2 M f ((n2 - 1) / 8) (zs_head S x f g n0) i).1 + j) (zs_word f (nI i) (zs_use (if i = ((n2 - 1) / 8) then 1 else 0))))) % 65536) % 256))))), ((gg 4), .inl (cI, 40, .inl e5)), ((gg 5), .inl (cC, 160, .inl e4))] H := hP
                    have hD : va_D (zAM gg) [((gg 0), .inr (2, [.int (nI 0), .int (nI n0), .ref (gg 1), .int (nI n2), .int (nI (((zs_cvs M f i (zs_pcs n2 M f ((n2 - 1) / 8) (zs_head S x f g n0) i) j).1) + 2)), .int (nI rt), .ref (gg 2), .ref (gg 3), .ref (gg 4), .int (nI rd), .int (nI n4), .ref (gg 5)])), ((gg 1), .inl (cI, 4, .inl e0)), ((gg 2), .inl (cI, 40, .inl e2)), ((gg 3), .inl (cI, 120, .inl (upd (upd ey ((zs_cvs M f i (zs_pcs n2 M f ((n2 - 1) / 8) (zs_head S x f g n0) i) j).1) (nI ((zs_un (nI (zs_sg (zs_cvs M f i (zs_pcs n2 M f ((n2 - 1) / 8) (zs_head S x f g n0) i) j).2 (zs_pcs n2 M f ((n2 - 1) / 8) (zs_head S x f g n0) i).1 ((zs_pcs n2 M f ((n2 - 1) / 8) (zs_head S x f g n0) i).1 + j) (zs_word f (nI i) (zs_use (if i = ((n2 - 1) / 8) then 1 else 0))))) % 65536) / 256))) (((zs_cvs M f i (zs_pcs n2 M f ((n2 - 1) / 8) (zs_head S x f g n0) i) j).1) + 1) (nI ((zs_un (nI (zs_sg (zs_cvs M f i (zs_pcs n2 M f ((n2 - 1) / 8) (zs_head S x f g n0) i) j).2 (zs_pcs n2 M f ((n2 - 1) / 8) (zs_head S x f g n0) i).1 ((zs_pcs n2 M f ((n2 - 1) / 8) (zs_head S x f g n0) i).1 + j) (zs_word f (nI i) (zs_use (if i = ((n2 - 1) / 8) then 1 else 0))))) % 65536) % 256))))), ((gg 4), .inl (cI, 40, .inl e5)), ((gg 5), .inl (cC, 160, .inl e4))] := zMd_D hh
                    have hv9 : zs_un (nI (zs_sg (zs_cvs M f i (zs_pcs n2 M f ((n2 - 1) / 8) (zs_head S x f g n0) i) j).2 (zs_pcs n2 M f ((n2 - 1) / 8) (zs_head S x f g n0) i).1 ((zs_pcs n2 M f ((n2 - 1) / 8) (zs_head S x f g n0) i).1 + j) (zs_word f (nI i) (zs_use (if i = ((n2 - 1) / 8) then 1 else 0))))) % 65536 = zs_sg (zs_cvs M f i (zs_pcs n2 M f ((n2 - 1) / 8) (zs_head S x f g n0) i) j).2 (zs_pcs n2 M f ((n2 - 1) / 8) (zs_head S x f g n0) i).1 ((zs_pcs n2 M f ((n2 - 1) / 8) (zs_head S x f g n0) i).1 + j) (zs_word f (nI i) (zs_use (if i = ((n2 - 1) / 8) then 1 else 0))) := by rw [zs_un_nI (by omega)]; exact Nat.mod_eq_of_lt (by omega)
                    rw [hv9] at hP
                    have hB : zs_hold 256 (upd (upd ey ((zs_cvs M f i (zs_pcs n2 M f ((n2 - 1) / 8) (zs_head S x f g n0) i) j).1) (nI ((zs_sg (zs_cvs M f i (zs_pcs n2 M f ((n2 - 1) / 8) (zs_head S x f g n0) i) j).2 (zs_pcs n2 M f ((n2 - 1) / 8) (zs_head S x f g n0) i).1 ((zs_pcs n2 M f ((n2 - 1) / 8) (zs_head S x f g n0) i).1 + j) (zs_word f (nI i) (zs_use (if i = ((n2 - 1) / 8) then 1 else 0)))) / 256))) (((zs_cvs M f i (zs_pcs n2 M f ((n2 - 1) / 8) (zs_head S x f g n0) i) j).1) + 1) (nI ((zs_sg (zs_cvs M f i (zs_pcs n2 M f ((n2 - 1) / 8) (zs_head S x f g n0) i) j).2 (zs_pcs n2 M f ((n2 - 1) / 8) (zs_head S x f g n0) i).1 ((zs_pcs n2 M f ((n2 - 1) / 8) (zs_head S x f g n0) i).1 + j) (zs_word f (nI i) (zs_use (if i = ((n2 - 1) / 8) then 1 else 0)))) % 256))) (zs_pair (zs_cvs M f i (zs_pcs n2 M f ((n2 - 1) / 8) (zs_head S x f g n0) i) j) (zs_sg (zs_cvs M f i (zs_pcs n2 M f ((n2 - 1) / 8) (zs_head S x f g n0) i) j).2 (zs_pcs n2 M f ((n2 - 1) / 8) (zs_head S x f g n0) i).1 ((zs_pcs n2 M f ((n2 - 1) / 8) (zs_head S x f g n0) i).1 + j) (zs_word f (nI i) (zs_use (if i = ((n2 - 1) / 8) then 1 else 0))))) := zs_hold_pair (v := zs_sg (zs_cvs M f i (zs_pcs n2 M f ((n2 - 1) / 8) (zs_head S x f g n0) i) j).2 (zs_pcs n2 M f ((n2 - 1) / 8) (zs_head S x f g n0) i).1 ((zs_pcs n2 M f ((n2 - 1) / 8) (zs_head S x f g n0) i).1 + j) (zs_word f (nI i) (zs_use (if i = ((n2 - 1) / 8) then 1 else 0)))) hB (by omega)
                    have hP : va_P D zcl [((gg 0), .inr (2, [.int (nI 0), .int (nI n0), .ref (gg 1), .int (nI n2), .int (nI (((zs_cvs M f i (zs_pcs n2 M f ((n2 - 1) / 8) (zs_head S x f g n0) i) j).1) + 2)), .int (nI rt), .ref (gg 2), .ref (gg 3), .ref (gg 4), .int (nI rd), .int (nI n4), .ref (gg 5)])), ((gg 1), .inl (cI, 4, .inl e0)), ((gg 2), .inl (cI, 40, .inl e2)), ((gg 3), .inl (cI, 120, .inl (upd (upd ey ((zs_cvs M f i (zs_pcs n2 M f ((n2 - 1) / 8) (zs_head S x f g n0) i) j).1) (nI ((zs_sg (zs_cvs M f i (zs_pcs n2 M f ((n2 - 1) / 8) (zs_head S x f g n0) i) j).2 (zs_pcs n2 M f ((n2 - 1) / 8) (zs_head S x f g n0) i).1 ((zs_pcs n2 M f ((n2 - 1) / 8) (zs_head S x f g n0) i).1 + j) (zs_word f (nI i) (zs_use (if i = ((n2 - 1) / 8) then 1 else 0)))) / 256))) (((zs_cvs M f i (zs_pcs n2 M f ((n2 - 1) / 8) (zs_head S x f g n0) i) j).1) + 1) (nI ((zs_sg (zs_cvs M f i (zs_pcs n2 M f ((n2 - 1) / 8) (zs_head S x f g n0) i) j).2 (zs_pcs n2 M f ((n2 - 1) / 8) (zs_head S x f g n0) i).1 ((zs_pcs n2 M f ((n2 - 1) / 8) (zs_head S x f g n0) i).1 + j) (zs_word f (nI i) (zs_use (if i = ((n2 - 1) / 8) then 1 else 0)))) % 256))))), ((gg 4), .inl (cI, 40, .inl e5)), ((gg 5), .inl (cC, 160, .inl e4))] H := hP
                    have hD : va_D (zAM gg) [((gg 0), .inr (2, [.int (nI 0), .int (nI n0), .ref (gg 1), .int (nI n2), .int (nI (((zs_cvs M f i (zs_pcs n2 M f ((n2 - 1) / 8) (zs_head S x f g n0) i) j).1) + 2)), .int (nI rt), .ref (gg 2), .ref (gg 3), .ref (gg 4), .int (nI rd), .int (nI n4), .ref (gg 5)])), ((gg 1), .inl (cI, 4, .inl e0)), ((gg 2), .inl (cI, 40, .inl e2)), ((gg 3), .inl (cI, 120, .inl (upd (upd ey ((zs_cvs M f i (zs_pcs n2 M f ((n2 - 1) / 8) (zs_head S x f g n0) i) j).1) (nI ((zs_sg (zs_cvs M f i (zs_pcs n2 M f ((n2 - 1) / 8) (zs_head S x f g n0) i) j).2 (zs_pcs n2 M f ((n2 - 1) / 8) (zs_head S x f g n0) i).1 ((zs_pcs n2 M f ((n2 - 1) / 8) (zs_head S x f g n0) i).1 + j) (zs_word f (nI i) (zs_use (if i = ((n2 - 1) / 8) then 1 else 0)))) / 256))) (((zs_cvs M f i (zs_pcs n2 M f ((n2 - 1) / 8) (zs_head S x f g n0) i) j).1) + 1) (nI ((zs_sg (zs_cvs M f i (zs_pcs n2 M f ((n2 - 1) / 8) (zs_head S x f g n0) i) j).2 (zs_pcs n2 M f ((n2 - 1) / 8) (zs_head S x f g n0) i).1 ((zs_pcs n2 M f ((n2 - 1) / 8) (zs_head S x f g n0) i).1 + j) (zs_word f (nI i) (zs_use (if i = ((n2 - 1) / 8) then 1 else 0)))) % 256))))), ((gg 4), .inl (cI, 40, .inl e5)), ((gg 5), .inl (cC, 160, .inl e4))] := zMd_D hh
                    generalize (upd (upd ey ((zs_cvs M f i (zs_pcs n2 M f ((n2 - 1) / 8) (zs_head S x f g n0) i) j).1) (nI ((zs_sg (zs_cvs M f i (zs_pcs n2 M f ((n2 - 1) / 8) (zs_head S x f g n0) i) j).2 (zs_pcs n2 M f ((n2 - 1) / 8) (zs_head S x f g n0) i).1 ((zs_pcs n2 M f ((n2 - 1) / 8) (zs_head S x f g n0) i).1 + j) (zs_word f (nI i) (zs_use (if i = ((n2 - 1) / 8) then 1 else 0)))) / 256))) (((zs_cvs M f i (zs_pcs n2 M f ((n2 - 1) / 8) (zs_head S x f g n0) i) j).1) + 1) (nI ((zs_sg (zs_cvs M f i (zs_pcs n2 M f ((n2 - 1) / 8) (zs_head S x f g n0) i) j).2 (zs_pcs n2 M f ((n2 - 1) / 8) (zs_head S x f g n0) i).1 ((zs_pcs n2 M f ((n2 - 1) / 8) (zs_head S x f g n0) i).1 + j) (zs_word f (nI i) (zs_use (if i = ((n2 - 1) / 8) then 1 else 0)))) % 256))) = ez at hP hD hB
                    have hB : zs_hold 256 ez (zs_pcs n2 M f ((n2 - 1) / 8) (zs_head S x f g n0) (i + 1)) := by rw [zs_pcs, hqe]; exact hB
                    have hP : va_P D zcl (zMd cI cC gg (nI 0) n0 n2 ((zs_pcs n2 M f ((n2 - 1) / 8) (zs_head S x f g n0) (i + 1)).1) rt rd n4 e0 e2 ez e5 e4) H := by rw [zs_pcs, hqe]; exact hP
                    refine lv_iinc (k := 2) (v := nI (i + 1)) hx hb d_MD_seal_296 hl rfl (nI_1 i) (by decide) (lv' := [(7, .int (nI (i + 1))), (9, .int (nI (zs_sg (zs_cvs M f i (zs_pcs n2 M f ((n2 - 1) / 8) (zs_head S x f g n0) i) j).2 ((zs_pcs n2 M f ((n2 - 1) / 8) (zs_head S x f g n0) i).1) ((zs_pcs n2 M f ((n2 - 1) / 8) (zs_head S x f g n0) i).1 + j) (zs_word f (nI i) (zs_use (if i = ((n2 - 1) / 8) then 1 else 0)))))), (8, .int (nI ((zs_pcs n2 M f ((n2 - 1) / 8) (zs_head S x f g n0) i).1))), (6, .int (nI (((n2 - 1) / 8) + 1))), (0, .ref (gg 0)), (1, .int x), (2, .int f), (3, .int g)]) rfl (fun ls hl => ?_)
                    refine lv_goto hx hb d_MD_seal_299 (tgt := 178) (by decide) ?_
                    have hl : lv_has ls 10 [(7, .int (nI (i + 1))), (6, .int (nI (((n2 - 1) / 8) + 1))), (0, .ref (gg 0)), (1, .int x), (2, .int f), (3, .int g)] := lv_sub hl [0, 3, 4, 5, 6, 7] rfl
                    exact iho (i + 1) ez H locs (by omega) hB hP hS ls hl
                  · refine lv_icmp_ne hx hb d_MD_seal_273 (tgt := 281) (by decide) (fun _ => ?_) (fun z9 => absurd z9 (fun z => g9 ((nI_eq (by omega) (by omega)).mp z)))
                    refine lv_iconst (v := (nI 5)) hx hb d_MD_seal_281 (by decide) ?_
                    refine ztop (y := zs_use (if i = ((n2 - 1) / 8) then 1 else 0)) (by rw [zs_use, if_neg g9, if_pos rfl]) ?_
                    refine zRd (rest := [.int (nI ((zs_cvs M f i (zs_pcs n2 M f ((n2 - 1) / 8) (zs_head S x f g n0) i) j).1)), .int (nI ((zs_pcs n2 M f ((n2 - 1) / 8) (zs_head S x f g n0) i).1)), .ref (gg 0)]) (zrS hS9 (c_MD_word l D cI cC cJ f (nI i) (zs_use (if i = ((n2 - 1) / 8) then 1 else 0))) zc_MD_word zw_573 zw_574 (by decide) (trivial) hE rfl hl.1 rfl (Nat.le_of_ble_eq_true rfl) d_MD_seal_282) ?_
                    rw [hcn]
                    refine zRd (rest := []) (zrV hS9 (c_MD_sign l D cI cC cJ gg (nI 0) n0 n2 ((zs_cvs M f i (zs_pcs n2 M f ((n2 - 1) / 8) (zs_head S x f g n0) i) j).1) rt rd n4 e0 e2 ey e5 e4 (by omega) (by omega) (by omega) (by omega) (zs_cvs M f i (zs_pcs n2 M f ((n2 - 1) / 8) (zs_head S x f g n0) i) j).2 hB ((zs_pcs n2 M f ((n2 - 1) / 8) (zs_head S x f g n0) i).1) ((zs_pcs n2 M f ((n2 - 1) / 8) (zs_head S x f g n0) i).1 + j) (by omega) (by omega) (zs_word f (nI i) (zs_use (if i = ((n2 - 1) / 8) then 1 else 0)))) zc_MD_sign zw_585 zw_587 zp_31 (by decide) (va_recv hE.1 hP (ci := 2) (q := (R_MD, F_MD, 12)) rfl (q0 := 0) rfl) (hP) hE rfl hl.1 rfl (Nat.le_of_ble_eq_true rfl) d_MD_seal_285) ?_
                    have l9 := zs_sg_lt (zs_cvs M f i (zs_pcs n2 M f ((n2 - 1) / 8) (zs_head S x f g n0) i) j).2 (zs_pcs n2 M f ((n2 - 1) / 8) (zs_head S x f g n0) i).1 ((zs_pcs n2 M f ((n2 - 1) / 8) (zs_head S x f g n0) i).1 + j) (zs_word f (nI i) (zs_use (if i = ((n2 - 1) / 8) then 1 else 0)))
                    refine lv_istore hx hb d_MD_seal_288 hl (by decide) (lv' := [(9, .int (nI (zs_sg (zs_cvs M f i (zs_pcs n2 M f ((n2 - 1) / 8) (zs_head S x f g n0) i) j).2 ((zs_pcs n2 M f ((n2 - 1) / 8) (zs_head S x f g n0) i).1) ((zs_pcs n2 M f ((n2 - 1) / 8) (zs_head S x f g n0) i).1 + j) (zs_word f (nI i) (zs_use (if i = ((n2 - 1) / 8) then 1 else 0)))))), (8, .int (nI ((zs_pcs n2 M f ((n2 - 1) / 8) (zs_head S x f g n0) i).1))), (7, .int (nI i)), (6, .int (nI (((n2 - 1) / 8) + 1))), (0, .ref (gg 0)), (1, .int x), (2, .int f), (3, .int g)]) rfl (fun ls hl => ?_)
                    refine lv_aload_n hx hb d_MD_seal_290 rfl (lv_at hl 4 rfl) ?_
                    refine lv_iload hx hb d_MD_seal_291 (lv_at hl 0 rfl) ?_
                    refine zWr (rest := []) (zrV hS9 (c_MD_addTwo l D cI cC cJ gg (nI 0) n0 n2 ((zs_cvs M f i (zs_pcs n2 M f ((n2 - 1) / 8) (zs_head S x f g n0) i) j).1) rt rd n4 e0 e2 ey e5 e4 (by omega) (by omega) (by omega) (by omega) hh (nI (zs_sg (zs_cvs M f i (zs_pcs n2 M f ((n2 - 1) / 8) (zs_head S x f g n0) i) j).2 (zs_pcs n2 M f ((n2 - 1) / 8) (zs_head S x f g n0) i).1 ((zs_pcs n2 M f ((n2 - 1) / 8) (zs_head S x f g n0) i).1 + j) (zs_word f (nI i) (zs_use (if i = ((n2 - 1) / 8) then 1 else 0))))) (by omega)) zc_MD_addTwo zw_581 zw_583 zp_30 (by decide) (va_recv hE.1 hP (ci := 2) (q := (R_MD, F_MD, 12)) rfl (q0 := 0) rfl) (hP) hE rfl hl.1 rfl (Nat.le_of_ble_eq_true rfl) d_MD_seal_293) hS (fun _ _ h => h) (fun _ h => h) (fun H locs hP hz hk9 hS => ?_)
                    have hP : va_P D zcl [((gg 0), .inr (2, [.int (nI 0), .int (nI n0), .ref (gg 1), .int (nI n2), .int (nI (((zs_cvs M f i (zs_pcs n2 M f ((n2 - 1) / 8) (zs_head S x f g n0) i) j).1) + 2)), .int (nI rt), .ref (gg 2), .ref (gg 3), .ref (gg 4), .int (nI rd), .int (nI n4), .ref (gg 5)])), ((gg 1), .inl (cI, 4, .inl e0)), ((gg 2), .inl (cI, 40, .inl e2)), ((gg 3), .inl (cI, 120, .inl (upd (upd ey ((zs_cvs M f i (zs_pcs n2 M f ((n2 - 1) / 8) (zs_head S x f g n0) i) j).1) (nI ((zs_un (nI (zs_sg (zs_cvs M f i (zs_pcs n2 M f ((n2 - 1) / 8) (zs_head S x f g n0) i) j).2 (zs_pcs n2 M f ((n2 - 1) / 8) (zs_head S x f g n0) i).1 ((zs_pcs n2 M f ((n2 - 1) / 8) (zs_head S x f g n0) i).1 + j) (zs_word f (nI i) (zs_use (if i = ((n2 - 1) / 8) then 1 else 0))))) % 65536) / 256))) (((zs_cvs M f i (zs_pcs n2 M f ((n2 - 1) / 8) (zs_head S x f g n0) i) j).1) + 1) (nI ((zs_un (nI (zs_sg (zs_cvs M f i (zs_pcs n2 M f ((n2 - 1) / 8) (zs_head S x f g n0) i) j).2 (zs_pcs n2 M f ((n2 - 1) / 8) (zs_head S x f g n0) i).1 ((zs_pcs n2 M f ((n2 - 1) / 8) (zs_head S x f g n0) i).1 + j) (zs_word f (nI i) (zs_use (if i = ((n2 - 1) / 8) then 1 else 0))))) % 65536) % 256))))), ((gg 4), .inl (cI, 40, .inl e5)), ((gg 5), .inl (cC, 160, .inl e4))] H := hP
                    have hD : va_D (zAM gg) [((gg 0), .inr (2, [.int (nI 0), .int (nI n0), .ref (gg 1), .int (nI n2), .int (nI (((zs_cvs M f i (zs_pcs n2 M f ((n2 - 1) / 8) (zs_head S x f g n0) i) j).1) + 2)), .int (nI rt), .ref (gg 2), .ref (gg 3), .ref (gg 4), .int (nI rd), .int (nI n4), .ref (gg 5)])), ((gg 1), .inl (cI, 4, .inl e0)), ((gg 2), .inl (cI, 40, .inl e2)), ((gg 3), .inl (cI, 120, .inl (upd (upd ey ((zs_cvs M f i (zs_pcs n2 M f ((n2 - 1) / 8) (zs_head S x f g n0) i) j).1) (nI ((zs_un (nI (zs_sg (zs_cvs M f i (zs_pcs n2 M f ((n2 - 1) / 8) (zs_head S x f g n0) i) j).2 (zs_pcs n2 M f ((n2 - 1) / 8) (zs_head S x f g n0) i).1 ((zs_pcs n2 M f ((n2 - 1) / 8) (zs_head S x f g n0) i).1 + j) (zs_word f (nI i) (zs_use (if i = ((n2 - 1) / 8) then 1 else 0))))) % 65536) / 256))) (((zs_cvs M f i (zs_pcs n2 M f ((n2 - 1) / 8) (zs_head S x f g n0) i) j).1) + 1) (nI ((zs_un (nI (zs_sg (zs_cvs M f i (zs_pcs n2 M f ((n2 - 1) / 8) (zs_head S x f g n0) i) j).2 (zs_pcs n2 M f ((n2 - 1) / 8) (zs_head S x f g n0) i).1 ((zs_pcs n2 M f ((n2 - 1) / 8) (zs_head S x f g n0) i).1 + j) (zs_word f (nI i) (zs_use (if i = ((n2 - 1) / 8) then 1 else 0))))) % 65536) % 256))))), ((gg 4), .inl (cI, 40, .inl e5)), ((gg 5), .inl (cC, 160, .inl e4))] := zMd_D hh
                    have hv9 : zs_un (nI (zs_sg (zs_cvs M f i (zs_pcs n2 M f ((n2 - 1) / 8) (zs_head S x f g n0) i) j).2 (zs_pcs n2 M f ((n2 - 1) / 8) (zs_head S x f g n0) i).1 ((zs_pcs n2 M f ((n2 - 1) / 8) (zs_head S x f g n0) i).1 + j) (zs_word f (nI i) (zs_use (if i = ((n2 - 1) / 8) then 1 else 0))))) % 65536 = zs_sg (zs_cvs M f i (zs_pcs n2 M f ((n2 - 1) / 8) (zs_head S x f g n0) i) j).2 (zs_pcs n2 M f ((n2 - 1) / 8) (zs_head S x f g n0) i).1 ((zs_pcs n2 M f ((n2 - 1) / 8) (zs_head S x f g n0) i).1 + j) (zs_word f (nI i) (zs_use (if i = ((n2 - 1) / 8) then 1 else 0))) := by rw [zs_un_nI (by omega)]; exact Nat.mod_eq_of_lt (by omega)
                    rw [hv9] at hP
                    have hB : zs_hold 256 (upd (upd ey ((zs_cvs M f i (zs_pcs n2 M f ((n2 - 1) / 8) (zs_head S x f g n0) i) j).1) (nI ((zs_sg (zs_cvs M f i (zs_pcs n2 M f ((n2 - 1) / 8) (zs_head S x f g n0) i) j).2 (zs_pcs n2 M f ((n2 - 1) / 8) (zs_head S x f g n0) i).1 ((zs_pcs n2 M f ((n2 - 1) / 8) (zs_head S x f g n0) i).1 + j) (zs_word f (nI i) (zs_use (if i = ((n2 - 1) / 8) then 1 else 0)))) / 256))) (((zs_cvs M f i (zs_pcs n2 M f ((n2 - 1) / 8) (zs_head S x f g n0) i) j).1) + 1) (nI ((zs_sg (zs_cvs M f i (zs_pcs n2 M f ((n2 - 1) / 8) (zs_head S x f g n0) i) j).2 (zs_pcs n2 M f ((n2 - 1) / 8) (zs_head S x f g n0) i).1 ((zs_pcs n2 M f ((n2 - 1) / 8) (zs_head S x f g n0) i).1 + j) (zs_word f (nI i) (zs_use (if i = ((n2 - 1) / 8) then 1 else 0)))) % 256))) (zs_pair (zs_cvs M f i (zs_pcs n2 M f ((n2 - 1) / 8) (zs_head S x f g n0) i) j) (zs_sg (zs_cvs M f i (zs_pcs n2 M f ((n2 - 1) / 8) (zs_head S x f g n0) i) j).2 (zs_pcs n2 M f ((n2 - 1) / 8) (zs_head S x f g n0) i).1 ((zs_pcs n2 M f ((n2 - 1) / 8) (zs_head S x f g n0) i).1 + j) (zs_word f (nI i) (zs_use (if i = ((n2 - 1) / 8) then 1 else 0))))) := zs_hold_pair (v := zs_sg (zs_cvs M f i (zs_pcs n2 M f ((n2 - 1) / 8) (zs_head S x f g n0) i) j).2 (zs_pcs n2 M f ((n2 - 1) / 8) (zs_head S x f g n0) i).1 ((zs_pcs n2 M f ((n2 - 1) / 8) (zs_head S x f g n0) i).1 + j) (zs_word f (nI i) (zs_use (if i = ((n2 - 1) / 8) then 1 else 0)))) hB (by omega)
                    have hP : va_P D zcl [((gg 0), .inr (2, [.int (nI 0), .int (nI n0), .ref (gg 1), .int (nI n2), .int (nI (((zs_cvs M f i (zs_pcs n2 M f ((n2 - 1) / 8) (zs_head S x f g n0) i) j).1) + 2)), .int (nI rt), .ref (gg 2), .ref (gg 3), .ref (gg 4), .int (nI rd), .int (nI n4), .ref (gg 5)])), ((gg 1), .inl (cI, 4, .inl e0)), ((gg 2), .inl (cI, 40, .inl e2)), ((gg 3), .inl (cI, 120, .inl (upd (upd ey ((zs_cvs M f i (zs_pcs n2 M f ((n2 - 1) / 8) (zs_head S x f g n0) i) j).1) (nI ((zs_sg (zs_cvs M f i (zs_pcs n2 M f ((n2 - 1) / 8) (zs_head S x f g n0) i) j).2 (zs_pcs n2 M f ((n2 - 1) / 8) (zs_head S x f g n0) i).1 ((zs_pcs n2 M f ((n2 - 1) / 8) (zs_head S x f g n0) i).1 + j) (zs_word f (nI i) (zs_use (if i = ((n2 - 1) / 8) then 1 else 0)))) / 256))) (((zs_cvs M f i (zs_pcs n2 M f ((n2 - 1) / 8) (zs_head S x f g n0) i) j).1) + 1) (nI ((zs_sg (zs_cvs M f i (zs_pcs n2 M f ((n2 - 1) / 8) (zs_head S x f g n0) i) j).2 (zs_pcs n2 M f ((n2 - 1) / 8) (zs_head S x f g n0) i).1 ((zs_pcs n2 M f ((n2 - 1) / 8) (zs_head S x f g n0) i).1 + j) (zs_word f (nI i) (zs_use (if i = ((n2 - 1) / 8) then 1 else 0)))) % 256))))), ((gg 4), .inl (cI, 40, .inl e5)), ((gg 5), .inl (cC, 160, .inl e4))] H := hP
                    have hD : va_D (zAM gg) [((gg 0), .inr (2, [.int (nI 0), .int (nI n0), .ref (gg 1), .int (nI n2), .int (nI (((zs_cvs M f i (zs_pcs n2 M f ((n2 - 1) / 8) (zs_head S x f g n0) i) j).1) + 2)), .int (nI rt), .ref (gg 2), .ref (gg 3), .ref (gg 4), .int (nI rd), .int (nI n4), .ref (gg 5)])), ((gg 1), .inl (cI, 4, .inl e0)), ((gg 2), .inl (cI, 40, .inl e2)), ((gg 3), .inl (cI, 120, .inl (upd (upd ey ((zs_cvs M f i (zs_pcs n2 M f ((n2 - 1) / 8) (zs_head S x f g n0) i) j).1) (nI ((zs_sg (zs_cvs M f i (zs_pcs n2 M f ((n2 - 1) / 8) (zs_head S x f g n0) i) j).2 (zs_pcs n2 M f ((n2 - 1) / 8) (zs_head S x f g n0) i).1 ((zs_pcs n2 M f ((n2 - 1) / 8) (zs_head S x f g n0) i).1 + j) (zs_word f (nI i) (zs_use (if i = ((n2 - 1) / 8) then 1 else 0)))) / 256))) (((zs_cvs M f i (zs_pcs n2 M f ((n2 - 1) / 8) (zs_head S x f g n0) i) j).1) + 1) (nI ((zs_sg (zs_cvs M f i (zs_pcs n2 M f ((n2 - 1) / 8) (zs_head S x f g n0) i) j).2 (zs_pcs n2 M f ((n2 - 1) / 8) (zs_head S x f g n0) i).1 ((zs_pcs n2 M f ((n2 - 1) / 8) (zs_head S x f g n0) i).1 + j) (zs_word f (nI i) (zs_use (if i = ((n2 - 1) / 8) then 1 else 0)))) % 256))))), ((gg 4), .inl (cI, 40, .inl e5)), ((gg 5), .inl (cC, 160, .inl e4))] := zMd_D hh
                    generalize (upd (upd ey ((zs_cvs M f i (zs_pcs n2 M f ((n2 - 1) / 8) (zs_head S x f g n0) i) j).1) (nI ((zs_sg (zs_cvs M f i (zs_pcs n2 M f ((n2 - 1) / 8) (zs_head S x f g n0) i) j).2 (zs_pcs n2 M f ((n2 - 1) / 8) (zs_head S x f g n0) i).1 ((zs_pcs n2 M f ((n2 - 1) / 8) (zs_head S x f g n0) i).1 + j) (zs_word f (nI i) (zs_use (if i = ((n2 - 1) / 8) then 1 else 0)))) / 256))) (((zs_cvs M f i (zs_pcs n2 M f ((n2 - 1) / 8) (zs_head S x f g n0) i) j).1) + 1) (nI ((zs_sg (zs_cvs M f i (zs_pcs n2 M f ((n2 - 1) / 8) (zs_head S x f g n0) i) j).2 (zs_pcs n2 M f ((n2 - 1) / 8) (zs_head S x f g n0) i).1 ((zs_pcs n2 M f ((n2 - 1) / 8) (zs_head S x f g n0) i).1 + j) (zs_word f (nI i) (zs_use (if i = ((n2 - 1) / 8) then 1 else 0)))) % 256))) = ez at hP hD hB
                    have hB : zs_hold 256 ez (zs_pcs n2 M f ((n2 - 1) / 8) (zs_head S x f g n0) (i + 1)) := by rw [zs_pcs, hqe]; exact hB
                    have hP : va_P D zcl (zMd cI cC gg (nI 0) n0 n2 ((zs_pcs n2 M f ((n2 - 1) / 8) (zs_head S x f g n0) (i + 1)).1) rt rd n4 e0 e2 ez e5 e4) H := by rw [zs_pcs, hqe]; exact hP
                    refine lv_iinc (k := 2) (v := nI (i + 1)) hx hb d_MD_seal_296 hl rfl (nI_1 i) (by decide) (lv' := [(7, .int (nI (i + 1))), (9, .int (nI (zs_sg (zs_cvs M f i (zs_pcs n2 M f ((n2 - 1) / 8) (zs_head S x f g n0) i) j).2 ((zs_pcs n2 M f ((n2 - 1) / 8) (zs_head S x f g n0) i).1) ((zs_pcs n2 M f ((n2 - 1) / 8) (zs_head S x f g n0) i).1 + j) (zs_word f (nI i) (zs_use (if i = ((n2 - 1) / 8) then 1 else 0)))))), (8, .int (nI ((zs_pcs n2 M f ((n2 - 1) / 8) (zs_head S x f g n0) i).1))), (6, .int (nI (((n2 - 1) / 8) + 1))), (0, .ref (gg 0)), (1, .int x), (2, .int f), (3, .int g)]) rfl (fun ls hl => ?_)
                    refine lv_goto hx hb d_MD_seal_299 (tgt := 178) (by decide) ?_
                    have hl : lv_has ls 10 [(7, .int (nI (i + 1))), (6, .int (nI (((n2 - 1) / 8) + 1))), (0, .ref (gg 0)), (1, .int x), (2, .int f), (3, .int g)] := lv_sub hl [0, 3, 4, 5, 6, 7] rfl
                    exact iho (i + 1) ez H locs (by omega) hB hP hS ls hl
                refine lv_iload hx hb d_MD_seal_198 (lv_at hl 0 rfl) ?_
                refine lv_aload_n hx hb d_MD_seal_200 rfl (lv_at hl 4 rfl) ?_
                refine va_get (D := D) (ci := 2) (v := .int (nI n2)) (C := R_MD) (T := F_MD) (N := 12) hx hb hg i_MD hown hE.1 hP 0 rfl rfl 3 (by decide) (hg _ zw_491) (fun _ h9 => h9) rfl d_MD_seal_201 ?_
                by_cases g1 : n2 ≤ 8 * i + j
                · refine lv_icmp_ge hx hb d_MD_seal_204 (tgt := 257) (by decide) (fun _ => ?_) (fun z9 => absurd (nI_le g1 (by omega)) z9)
                  exact rest2 ls hl
                · refine lv_icmp_ge hx hb d_MD_seal_204 (tgt := 257) (by decide) (fun z9 => absurd z9 (nI_ge (by omega) (by omega))) (fun _ => ?_)
                  refine lv_iload hx hb d_MD_seal_207 (lv_at hl 0 rfl) ?_
                  refine lv_bipush (v := (nI 8)) hx hb d_MD_seal_209 (by decide) ?_
                  refine lv_iload hx hb d_MD_seal_211 (lv_at hl 2 rfl) ?_
                  refine lv_imul hx hb d_MD_seal_213 ?_
                  refine lv_bipush (v := (nI 8)) hx hb d_MD_seal_214 (by decide) ?_
                  refine lv_iadd hx hb d_MD_seal_216 ?_
                  refine ztop (y := nI (8 * i + 8)) (by rw [pk_mul, nI_add]) ?_
                  refine lv_icmp_ge hx hb d_MD_seal_217 (tgt := 257) (by decide) (fun _ => ?_) (fun z9 => absurd (nI_le (by omega) (by omega)) z9)
                  exact rest2 ls hl
              | succ k ih2 =>
                intro j ey H locs hj hB hP hS ls hl
                have hP : va_P D zcl [((gg 0), .inr (2, [.int (nI 0), .int (nI n0), .ref (gg 1), .int (nI n2), .int (nI ((zs_cvs M f i (zs_pcs n2 M f ((n2 - 1) / 8) (zs_head S x f g n0) i) j).1)), .int (nI rt), .ref (gg 2), .ref (gg 3), .ref (gg 4), .int (nI rd), .int (nI n4), .ref (gg 5)])), ((gg 1), .inl (cI, 4, .inl e0)), ((gg 2), .inl (cI, 40, .inl e2)), ((gg 3), .inl (cI, 120, .inl ey)), ((gg 4), .inl (cI, 40, .inl e5)), ((gg 5), .inl (cC, 160, .inl e4))] H := hP
                have hD : va_D (zAM gg) [((gg 0), .inr (2, [.int (nI 0), .int (nI n0), .ref (gg 1), .int (nI n2), .int (nI ((zs_cvs M f i (zs_pcs n2 M f ((n2 - 1) / 8) (zs_head S x f g n0) i) j).1)), .int (nI rt), .ref (gg 2), .ref (gg 3), .ref (gg 4), .int (nI rd), .int (nI n4), .ref (gg 5)])), ((gg 1), .inl (cI, 4, .inl e0)), ((gg 2), .inl (cI, 40, .inl e2)), ((gg 3), .inl (cI, 120, .inl ey)), ((gg 4), .inl (cI, 40, .inl e5)), ((gg 5), .inl (cC, 160, .inl e4))] := zMd_D hh
                have hcn := zs_cvs_n M f i (zs_pcs n2 M f ((n2 - 1) / 8) (zs_head S x f g n0) i) j
                refine lv_iload hx hb d_MD_seal_198 (lv_at hl 0 rfl) ?_
                refine lv_aload_n hx hb d_MD_seal_200 rfl (lv_at hl 4 rfl) ?_
                refine va_get (D := D) (ci := 2) (v := .int (nI n2)) (C := R_MD) (T := F_MD) (N := 12) hx hb hg i_MD hown hE.1 hP 0 rfl rfl 3 (by decide) (hg _ zw_491) (fun _ h9 => h9) rfl d_MD_seal_201 ?_
                refine lv_icmp_ge hx hb d_MD_seal_204 (tgt := 257) (by decide) (fun z9 => absurd z9 (nI_ge (by omega) (by omega))) (fun _ => ?_)
                refine lv_iload hx hb d_MD_seal_207 (lv_at hl 0 rfl) ?_
                refine lv_bipush (v := (nI 8)) hx hb d_MD_seal_209 (by decide) ?_
                refine lv_iload hx hb d_MD_seal_211 (lv_at hl 2 rfl) ?_
                refine lv_imul hx hb d_MD_seal_213 ?_
                refine lv_bipush (v := (nI 8)) hx hb d_MD_seal_214 (by decide) ?_
                refine lv_iadd hx hb d_MD_seal_216 ?_
                refine ztop (y := nI (8 * i + 8)) (by rw [pk_mul, nI_add]) ?_
                refine lv_icmp_ge hx hb d_MD_seal_217 (tgt := 257) (by decide) (fun z9 => absurd z9 (nI_ge (by omega) (by omega))) (fun _ => ?_)
                refine lv_aload_n hx hb d_MD_seal_220 rfl (lv_at hl 4 rfl) ?_
                refine lv_aload_n hx hb d_MD_seal_221 rfl (lv_at hl 4 rfl) ?_
                refine va_get (D := D) (ci := 2) (v := .ref (gg 2)) (C := R_MD) (T := F_MD) (N := 12) hx hb hg i_MD hown hE.1 hP 0 rfl rfl 6 (by decide) (hg _ zw_494) (fun _ h9 => h9) rfl d_MD_seal_222 ?_
                refine lv_iload hx hb d_MD_seal_225 (lv_at hl 0 rfl) ?_
                refine zald hx hb hE.1 hP 2 0 rfl rfl (by omega) (by decide) d_MD_seal_227 ?_
                refine ztop (y := nI (M (8 * i + j))) ((hM (8 * i + j) (show 8 * i + j < n2 by omega)).1) ?_
                refine lv_iload_n hx hb d_MD_seal_228 rfl (lv_at hl 6 rfl) ?_
                refine lv_bipush (v := (nI 16)) hx hb d_MD_seal_229 (by decide) ?_
                refine lv_iload hx hb d_MD_seal_231 (lv_at hl 2 rfl) ?_
                refine lv_imul hx hb d_MD_seal_233 ?_
                refine lv_iload hx hb d_MD_seal_234 (lv_at hl 0 rfl) ?_
                refine lv_iadd hx hb d_MD_seal_236 ?_
                refine lv_bipush (v := (nI 8)) hx hb d_MD_seal_237 (by decide) ?_
                refine lv_iload hx hb d_MD_seal_239 (lv_at hl 2 rfl) ?_
                refine lv_imul hx hb d_MD_seal_241 ?_
                refine ztop (y := nI (8 * i)) (pk_mul _ _) ?_
                refine lv_isub hx hb d_MD_seal_242 ?_
                refine ztop (y := nI (16 * i + j)) (by rw [pk_mul, nI_add, pk_sub (by omega), show 16 * i + (8 * i + j) - 8 * i = 16 * i + j by omega]) ?_
                refine lv_iconst (v := (nI 4)) hx hb d_MD_seal_243 (by decide) ?_
                refine zRd (rest := [.int (nI (M (8 * i + j))), .ref (gg 0)]) (zrS hS9 (c_MD_word l D cI cC cJ f (nI (16 * i + j)) (nI 4)) zc_MD_word zw_573 zw_574 (by decide) (trivial) hE rfl hl.1 rfl (Nat.le_of_ble_eq_true rfl) d_MD_seal_244) ?_
                refine lv_ixor hx hb d_MD_seal_247 ?_
                have hm8 : M (8 * i + j) < 256 := (hM (8 * i + j) (show 8 * i + j < n2 by omega)).2
                refine zWr (rest := []) (zrV hS9 (c_MD_add l D cI cC cJ gg (nI 0) n0 n2 ((zs_cvs M f i (zs_pcs n2 M f ((n2 - 1) / 8) (zs_head S x f g n0) i) j).1) rt rd n4 e0 e2 ey e5 e4 (by omega) (by omega) (by omega) (by omega) hh (nI (M (8 * i + j)) ^^^ zs_word f (nI (16 * i + j)) (nI 4)) (by omega)) zc_MD_add zw_565 zw_567 zp_28 (by decide) (va_recv hE.1 hP (ci := 2) (q := (R_MD, F_MD, 12)) rfl (q0 := 0) rfl) (hP) hE rfl hl.1 rfl (Nat.le_of_ble_eq_true rfl) d_MD_seal_248) hS (fun _ _ h => h) (fun _ h => h) (fun H locs hP hz hk9 hS => ?_)
                have hP : va_P D zcl [((gg 0), .inr (2, [.int (nI 0), .int (nI n0), .ref (gg 1), .int (nI n2), .int (nI (((zs_cvs M f i (zs_pcs n2 M f ((n2 - 1) / 8) (zs_head S x f g n0) i) j).1) + 1)), .int (nI rt), .ref (gg 2), .ref (gg 3), .ref (gg 4), .int (nI rd), .int (nI n4), .ref (gg 5)])), ((gg 1), .inl (cI, 4, .inl e0)), ((gg 2), .inl (cI, 40, .inl e2)), ((gg 3), .inl (cI, 120, .inl (upd ey ((zs_cvs M f i (zs_pcs n2 M f ((n2 - 1) / 8) (zs_head S x f g n0) i) j).1) ((nI (M (8 * i + j)) ^^^ zs_word f (nI (16 * i + j)) (nI 4)) &&& nI 255)))), ((gg 4), .inl (cI, 40, .inl e5)), ((gg 5), .inl (cC, 160, .inl e4))] H := hP
                have hD : va_D (zAM gg) [((gg 0), .inr (2, [.int (nI 0), .int (nI n0), .ref (gg 1), .int (nI n2), .int (nI (((zs_cvs M f i (zs_pcs n2 M f ((n2 - 1) / 8) (zs_head S x f g n0) i) j).1) + 1)), .int (nI rt), .ref (gg 2), .ref (gg 3), .ref (gg 4), .int (nI rd), .int (nI n4), .ref (gg 5)])), ((gg 1), .inl (cI, 4, .inl e0)), ((gg 2), .inl (cI, 40, .inl e2)), ((gg 3), .inl (cI, 120, .inl (upd ey ((zs_cvs M f i (zs_pcs n2 M f ((n2 - 1) / 8) (zs_head S x f g n0) i) j).1) ((nI (M (8 * i + j)) ^^^ zs_word f (nI (16 * i + j)) (nI 4)) &&& nI 255)))), ((gg 4), .inl (cI, 40, .inl e5)), ((gg 5), .inl (cC, 160, .inl e4))] := zMd_D hh
                have hv9 : (nI (M (8 * i + j)) ^^^ zs_word f (nI (16 * i + j)) (nI 4)) &&& nI 255 = nI (zs_cv (M (8 * i + j)) f i j) := zs_cv_m hm8 _
                rw [hv9] at hP
                have hB : zs_hold 256 (upd ey ((zs_cvs M f i (zs_pcs n2 M f ((n2 - 1) / 8) (zs_head S x f g n0) i) j).1) (nI (zs_cv (M (8 * i + j)) f i j))) (zs_push (zs_cvs M f i (zs_pcs n2 M f ((n2 - 1) / 8) (zs_head S x f g n0) i) j) (zs_cv (M (8 * i + j)) f i j)) := zs_hold_push hB (zs_cv_lt hm8 f i j)
                have hP : va_P D zcl [((gg 0), .inr (2, [.int (nI 0), .int (nI n0), .ref (gg 1), .int (nI n2), .int (nI (((zs_cvs M f i (zs_pcs n2 M f ((n2 - 1) / 8) (zs_head S x f g n0) i) j).1) + 1)), .int (nI rt), .ref (gg 2), .ref (gg 3), .ref (gg 4), .int (nI rd), .int (nI n4), .ref (gg 5)])), ((gg 1), .inl (cI, 4, .inl e0)), ((gg 2), .inl (cI, 40, .inl e2)), ((gg 3), .inl (cI, 120, .inl (upd ey ((zs_cvs M f i (zs_pcs n2 M f ((n2 - 1) / 8) (zs_head S x f g n0) i) j).1) (nI (zs_cv (M (8 * i + j)) f i j))))), ((gg 4), .inl (cI, 40, .inl e5)), ((gg 5), .inl (cC, 160, .inl e4))] H := hP
                have hD : va_D (zAM gg) [((gg 0), .inr (2, [.int (nI 0), .int (nI n0), .ref (gg 1), .int (nI n2), .int (nI (((zs_cvs M f i (zs_pcs n2 M f ((n2 - 1) / 8) (zs_head S x f g n0) i) j).1) + 1)), .int (nI rt), .ref (gg 2), .ref (gg 3), .ref (gg 4), .int (nI rd), .int (nI n4), .ref (gg 5)])), ((gg 1), .inl (cI, 4, .inl e0)), ((gg 2), .inl (cI, 40, .inl e2)), ((gg 3), .inl (cI, 120, .inl (upd ey ((zs_cvs M f i (zs_pcs n2 M f ((n2 - 1) / 8) (zs_head S x f g n0) i) j).1) (nI (zs_cv (M (8 * i + j)) f i j))))), ((gg 4), .inl (cI, 40, .inl e5)), ((gg 5), .inl (cC, 160, .inl e4))] := zMd_D hh
                generalize (upd ey ((zs_cvs M f i (zs_pcs n2 M f ((n2 - 1) / 8) (zs_head S x f g n0) i) j).1) (nI (zs_cv (M (8 * i + j)) f i j))) = ez at hP hD hB
                refine lv_iinc (k := 0) (v := nI (8 * i + (j + 1))) hx hb d_MD_seal_251 hl rfl (nI_1 _) (by decide) (lv' := [(9, .int (nI (8 * i + (j + 1)))), (8, .int (nI ((zs_pcs n2 M f ((n2 - 1) / 8) (zs_head S x f g n0) i).1))), (7, .int (nI i)), (6, .int (nI (((n2 - 1) / 8) + 1))), (0, .ref (gg 0)), (1, .int x), (2, .int f), (3, .int g)]) rfl (fun ls hl => ?_)
                refine lv_goto hx hb d_MD_seal_254 (tgt := 198) (by decide) ?_
                have hl : lv_has ls 10 [(9, .int (nI (8 * i + (j + 1)))), (8, .int (nI ((zs_pcs n2 M f ((n2 - 1) / 8) (zs_head S x f g n0) i).1))), (7, .int (nI i)), (6, .int (nI (((n2 - 1) / 8) + 1))), (0, .ref (gg 0)), (1, .int x), (2, .int f), (3, .int g)] := lv_sub hl [0, 1, 2, 3, 4, 5, 6, 7] rfl
                exact ih2 (j + 1) ez H locs (by omega) hB hP hS ls hl
            exact inner qn 0 ex H locs (by omega) hB hP hS ls hl
        exact outer (((n2 - 1) / 8) + 1) 0 eh H locs (by omega) hB hP hS ls hl
      by_cases gl : n2 = 0
      · refine lv_if_ne hx hb d_MD_seal_156 (tgt := 163) (by decide) (fun z9 => absurd (by rw [gl]; rfl) z9) (fun _ => ?_)
        refine lv_iconst (v := (nI 1)) hx hb d_MD_seal_159 (by decide) ?_
        refine lv_goto hx hb d_MD_seal_160 (tgt := 173) (by decide) ?_
        refine ztop (y := nI (((n2 - 1) / 8) + 1)) (by rw [gl]) ?_
        exact rest ls hl
      · refine lv_if_ne hx hb d_MD_seal_156 (tgt := 163) (by decide) (fun _ => ?_) (fun z9 => absurd z9 (nI_ne0 (by omega) (by omega)))
        refine lv_aload_n hx hb d_MD_seal_163 rfl (lv_at hl 1 rfl) ?_
        refine va_get (D := D) (ci := 2) (v := .int (nI n2)) (C := R_MD) (T := F_MD) (N := 12) hx hb hg i_MD hown hE.1 hP 0 rfl rfl 3 (by decide) (hg _ zw_491) (fun _ h9 => h9) rfl d_MD_seal_164 ?_
        refine lv_bipush (v := (nI 7)) hx hb d_MD_seal_167 (by decide) ?_
        refine lv_iadd hx hb d_MD_seal_169 ?_
        refine lv_bipush (v := (nI 8)) hx hb d_MD_seal_170 (by decide) ?_
        refine lv_idiv hx hb d_MD_seal_172 (by decide) ?_
        refine ztop (y := nI (((n2 - 1) / 8) + 1)) (by rw [nI_add, pk_div (by omega) (by decide) (by decide), show (n2 + 7) / 8 = (n2 - 1) / 8 + 1 by omega]) ?_
        exact rest ls hl
    | succ k ih =>
      intro i ex H locs hi hB hP hS ls hl
      have hP : va_P D zcl [((gg 0), .inr (2, [.int (nI 0), .int (nI n0), .ref (gg 1), .int (nI n2), .int (nI ((zs_ents S x f g i).1)), .int (nI rt), .ref (gg 2), .ref (gg 3), .ref (gg 4), .int (nI rd), .int (nI n4), .ref (gg 5)])), ((gg 1), .inl (cI, 4, .inl e0)), ((gg 2), .inl (cI, 40, .inl e2)), ((gg 3), .inl (cI, 120, .inl ex)), ((gg 4), .inl (cI, 40, .inl e5)), ((gg 5), .inl (cC, 160, .inl e4))] H := hP
      have hD : va_D (zAM gg) [((gg 0), .inr (2, [.int (nI 0), .int (nI n0), .ref (gg 1), .int (nI n2), .int (nI ((zs_ents S x f g i).1)), .int (nI rt), .ref (gg 2), .ref (gg 3), .ref (gg 4), .int (nI rd), .int (nI n4), .ref (gg 5)])), ((gg 1), .inl (cI, 4, .inl e0)), ((gg 2), .inl (cI, 40, .inl e2)), ((gg 3), .inl (cI, 120, .inl ex)), ((gg 4), .inl (cI, 40, .inl e5)), ((gg 5), .inl (cC, 160, .inl e4))] := zMd_D hh
      have hle := zs_ents_le S x f g i
      refine lv_iload hx hb d_MD_seal_96 (lv_at hl 0 rfl) ?_
      refine lv_aload_n hx hb d_MD_seal_98 rfl (lv_at hl 1 rfl) ?_
      refine va_get (D := D) (ci := 2) (v := .int (nI n0)) (C := R_MD) (T := F_MD) (N := 12) hx hb hg i_MD hown hE.1 hP 0 rfl rfl 1 (by decide) (hg _ zw_489) (fun _ h9 => h9) rfl d_MD_seal_99 ?_
      refine lv_icmp_ge hx hb d_MD_seal_102 (tgt := 129) (by decide) (fun z9 => absurd z9 (nI_ge (by omega) (by omega))) (fun _ => ?_)
      refine lv_iload_n hx hb d_MD_seal_105 rfl (lv_at hl 2 rfl) ?_
      refine lv_iload hx hb d_MD_seal_106 (lv_at hl 0 rfl) ?_
      refine lv_ishr hx hb d_MD_seal_108 ?_
      refine lv_iconst (v := (nI 1)) hx hb d_MD_seal_109 (by decide) ?_
      refine lv_iand hx hb d_MD_seal_110 ?_
      refine ztop (y := nI ((zs_un x) / 2 ^ i % 2)) (zs_sshr1 x (by omega)) ?_
      refine lv_iconst (v := (nI 1)) hx hb d_MD_seal_111 (by decide) ?_
      by_cases gb : (zs_un x) / 2 ^ i % 2 = 1
      · refine lv_icmp_ne hx hb d_MD_seal_112 (tgt := 123) (by decide) (fun z9 => absurd (by rw [gb]) z9) (fun _ => ?_)
        refine lv_aload_n hx hb d_MD_seal_115 rfl (lv_at hl 1 rfl) ?_
        refine lv_iload hx hb d_MD_seal_116 (lv_at hl 0 rfl) ?_
        refine lv_iload_n hx hb d_MD_seal_118 rfl (lv_at hl 3 rfl) ?_
        refine lv_iload_n hx hb d_MD_seal_119 rfl (lv_at hl 4 rfl) ?_
        refine zWr (rest := []) (zrV hS9 (c_MD_entry l D cI cC cJ gg (nI 0) n0 n2 ((zs_ents S x f g i).1) rt rd n4 e0 e2 ex e5 e4 (by omega) (by omega) (by omega) (by omega) hh (zs_ents S x f g i).2 hB S hS0 i f g (by omega) (by omega)) zc_MD_entry zw_569 zw_571 zp_29 (by decide) (va_recv hE.1 hP (ci := 2) (q := (R_MD, F_MD, 12)) rfl (q0 := 0) rfl) (hP) hE rfl hl.1 rfl (Nat.le_of_ble_eq_true rfl) d_MD_seal_120) hS (fun _ _ h => h) (fun _ h => h) (fun H locs hP hz hk9 hS => ?_)
        obtain ⟨ez, hB, hP⟩ := hP
        have hP : va_P D zcl [((gg 0), .inr (2, [.int (nI 0), .int (nI n0), .ref (gg 1), .int (nI n2), .int (nI ((zs_ents S x f g i).1 + 8)), .int (nI rt), .ref (gg 2), .ref (gg 3), .ref (gg 4), .int (nI rd), .int (nI n4), .ref (gg 5)])), ((gg 1), .inl (cI, 4, .inl e0)), ((gg 2), .inl (cI, 40, .inl e2)), ((gg 3), .inl (cI, 120, .inl ez)), ((gg 4), .inl (cI, 40, .inl e5)), ((gg 5), .inl (cC, 160, .inl e4))] H := hP
        have hD : va_D (zAM gg) [((gg 0), .inr (2, [.int (nI 0), .int (nI n0), .ref (gg 1), .int (nI n2), .int (nI ((zs_ents S x f g i).1 + 8)), .int (nI rt), .ref (gg 2), .ref (gg 3), .ref (gg 4), .int (nI rd), .int (nI n4), .ref (gg 5)])), ((gg 1), .inl (cI, 4, .inl e0)), ((gg 2), .inl (cI, 40, .inl e2)), ((gg 3), .inl (cI, 120, .inl ez)), ((gg 4), .inl (cI, 40, .inl e5)), ((gg 5), .inl (cC, 160, .inl e4))] := zMd_D hh
        have hB : zs_hold 256 ez (zs_ents S x f g (i + 1)) := by rw [zs_ents, if_pos gb]; exact hB
        have hP : va_P D zcl (zMd cI cC gg (nI 0) n0 n2 ((zs_ents S x f g (i + 1)).1) rt rd n4 e0 e2 ez e5 e4) H := by rw [zs_ents, if_pos gb]; exact hP
        refine lv_iinc (k := 0) (v := nI (i + 1)) hx hb d_MD_seal_123 hl rfl (nI_1 i) (by decide) (lv' := [(5, .int (nI (i + 1))), (0, .ref (gg 0)), (1, .int x), (2, .int f), (3, .int g)]) rfl (fun ls hl => ?_)
        refine lv_goto hx hb d_MD_seal_126 (tgt := 96) (by decide) ?_
        have hl : lv_has ls 10 [(5, .int (nI (i + 1))), (0, .ref (gg 0)), (1, .int x), (2, .int f), (3, .int g)] := lv_sub hl [0, 1, 2, 3, 4] rfl
        exact ih (i + 1) ez H locs (by omega) hB hP hS ls hl
      · refine lv_icmp_ne hx hb d_MD_seal_112 (tgt := 123) (by decide) (fun _ => ?_) (fun z9 => absurd z9 (by rw [show (zs_un x) / 2 ^ i % 2 = 0 by omega]; decide))
        have hB : zs_hold 256 ex (zs_ents S x f g (i + 1)) := by rw [zs_ents, if_neg gb]; exact hB
        have hP : va_P D zcl (zMd cI cC gg (nI 0) n0 n2 ((zs_ents S x f g (i + 1)).1) rt rd n4 e0 e2 ex e5 e4) H := by rw [zs_ents, if_neg gb]; exact hP
        refine lv_iinc (k := 0) (v := nI (i + 1)) hx hb d_MD_seal_123 hl rfl (nI_1 i) (by decide) (lv' := [(5, .int (nI (i + 1))), (0, .ref (gg 0)), (1, .int x), (2, .int f), (3, .int g)]) rfl (fun ls hl => ?_)
        refine lv_goto hx hb d_MD_seal_126 (tgt := 96) (by decide) ?_
        have hl : lv_has ls 10 [(5, .int (nI (i + 1))), (0, .ref (gg 0)), (1, .int x), (2, .int f), (3, .int g)] := lv_sub hl [0, 1, 2, 3, 4] rfl
        exact ih (i + 1) ex H locs (by omega) hB hP hS ls hl
  exact loop n0 0 e3b H locs (by omega) hB hP hS ls hl

