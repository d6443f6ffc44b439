set_option maxHeartbeats 4000000 in
set_option maxRecDepth 100000 in
theorem c_MD_entry (l : Launch) (D : va_G) (cI cC cJ : ClassId) (gg : Nat → Nat) (ft : Int32) (n0 n2 n3 rt rd n4 : Nat) (e0 e2 e3 e5 e4 : Nat → Int32) (hn0 : n0 ≤ 4) (hn2 : n2 ≤ 40) (hn3 : n3 ≤ 120) (hn4 : n4 ≤ 160) (hh : zm_inj gg) (B : Nat → Nat) (hB : zs_hold 256 e3 (n3, B)) (S : Nat → Nat) (hS0 : zs_hold 32748 e0 (n0, S)) (k : Nat) (f g : Int32) (hk : k < n0) (hr9 : n3 + 8 ≤ 120) : Met l y_MD_entry (zw k_MD_entry) ({ frames := 2, cells := 0, slots := 0, locals := 44 }) (zPc [.ref (gg 0), .int (nI k), .int f, .int g] (fun H => va_P D zcl (zMd cI cC gg ft n0 n2 n3 rt rd n4 e0 e2 e3 e5 e4) H) D cI cC cJ) (zQm none (fun H => ∃ e3' : Nat → Int32, zs_hold 256 e3' (zs_entry (n3, B) (zs_pw 2 (S k)) f (zs_e f g k)) ∧ va_P D zcl (zMd cI cC gg ft n0 n2 (n3 + 8) rt rd n4 e0 e2 (e3') e5 e4) H) (zAM gg)) 0 0 (zAM gg) := by
  refine zMet (by decide) (Nat.le_of_ble_eq_true rfl) ?_
  intro p e s m below meth c hx hb hr hg hown hlk hml hP hE ls hl
  have hl : lv_has ls 11 [(0, .ref (gg 0)), (1, .int (nI k)), (2, .int f), (3, .int g)] := hl
  have hS9 : CallFix p m c b_MD_entry 11 s [.ref (gg 0), .int (nI k), .int f, .int g].toArray zg "SealedFilesModel" := ⟨hx, hb, hml, hown, hg⟩
  have hP : va_P D zcl [((gg 0), .inr (2, [.int ft, .int (nI n0), .ref (gg 1), .int (nI n2), .int (nI n3), .int (nI rt), .ref (gg 2), .ref (gg 3), .ref (gg 4), .int (nI rd), .int (nI n4), .ref (gg 5)])), ((gg 1), .inl (cI, 4, .inl e0)), ((gg 2), .inl (cI, 40, .inl e2)), ((gg 3), .inl (cI, 120, .inl e3)), ((gg 4), .inl (cI, 40, .inl e5)), ((gg 5), .inl (cC, 160, .inl e4))] s.heap := hP
  have hD : va_D (zAM gg) [((gg 0), .inr (2, [.int ft, .int (nI n0), .ref (gg 1), .int (nI n2), .int (nI n3), .int (nI rt), .ref (gg 2), .ref (gg 3), .ref (gg 4), .int (nI rd), .int (nI n4), .ref (gg 5)])), ((gg 1), .inl (cI, 4, .inl e0)), ((gg 2), .inl (cI, 40, .inl e2)), ((gg 3), .inl (cI, 120, .inl e3)), ((gg 4), .inl (cI, 40, .inl e5)), ((gg 5), .inl (cC, 160, .inl e4))] := zMd_D hh
  have hS : va_S (zAM gg) s.heap s.heap [] := va_S.rf
  have h8 : S k < 32748 := (hS0 k hk).2
  have he8 := zs_e_lt f g k
  have hB : zs_hold 256 e3 (n3, B) := hB
  have w9 := zs_un_lt (zs_wrap f (zs_pw (zs_pw 2 (S k)) (zs_e f g k)) (zs_pw 2 (S k)))
  have p1 := zs_pw_lt 2 (zs_e f g k)
  have p2 := zs_pw_lt 2 (S k)
  refine lv_iload_n hx hb d_MD_entry_0 rfl (lv_at hl 2 rfl) ?_
  refine lv_iload_n hx hb d_MD_entry_1 rfl (lv_at hl 3 rfl) ?_
  refine lv_iload_n hx hb d_MD_entry_2 rfl (lv_at hl 1 rfl) ?_
  refine zRd (rest := []) (zrS hS9 (c_MD_word l D cI cC cJ f g (nI k)) zc_MD_word zw_573 zw_574 (by decide) (trivial) hE rfl hl.1 rfl (Nat.le_of_ble_eq_true rfl) d_MD_entry_3) ?_
  refine lv_istore hx hb d_MD_entry_6 hl (by decide) (lv' := [(4, .int (zs_word f g (nI k))), (0, .ref (gg 0)), (1, .int (nI k)), (2, .int f), (3, .int g)]) rfl (fun ls hl => ?_)
  refine lv_iconst (v := (nI 2)) hx hb d_MD_entry_8 (by decide) ?_
  refine lv_iload hx hb d_MD_entry_9 (lv_at hl 0 rfl) ?_
  refine lv_iconst (v := (nI 1)) hx hb d_MD_entry_11 (by decide) ?_
  refine lv_iushr (v := zs_u (zs_word f g (nI k)) (nI 1)) hx hb d_MD_entry_12 rfl ?_
  refine lv_sipush (v := (nI 32746)) hx hb d_MD_entry_13 (by decide) ?_
  refine lv_irem hx hb d_MD_entry_16 (by decide) ?_
  refine lv_iadd hx hb d_MD_entry_17 ?_
  refine ztop (y := nI (zs_e f g k)) (zs_e_i _) ?_
  refine lv_istore hx hb d_MD_entry_18 hl (by decide) (lv' := [(4, .int (nI (zs_e f g k))), (0, .ref (gg 0)), (1, .int (nI k)), (2, .int f), (3, .int g)]) rfl (fun ls hl => ?_)
  refine lv_iconst (v := (nI 2)) hx hb d_MD_entry_20 (by decide) ?_
  refine lv_aload_n hx hb d_MD_entry_21 rfl (lv_at hl 1 rfl) ?_
  refine va_get (D := D) (ci := 2) (v := .ref (gg 1)) (C := R_MD) (T := F_MD) (N := 12) hx hb hg i_MD hown hE.1 hP 0 rfl rfl 2 (by decide) (hg _ zw_490) (fun _ h9 => h9) rfl d_MD_entry_22 ?_
  refine lv_iload_n hx hb d_MD_entry_25 rfl (lv_at hl 2 rfl) ?_
  refine zald hx hb hE.1 hP 1 0 rfl rfl (by omega) (by decide) d_MD_entry_26 ?_
  refine ztop (y := nI (S k)) ((hS0 k hk).1) ?_
  refine zRd (rest := []) (zrS hS9 (c_MD_power l D cI cC cJ 2 (S k) (by decide) (by omega)) zc_MD_power zw_546 zw_547 (by decide) (trivial) hE rfl hl.1 rfl (Nat.le_of_ble_eq_true rfl) d_MD_entry_27) ?_
  refine lv_istore hx hb d_MD_entry_30 hl (by decide) (lv' := [(5, .int (nI (zs_pw 2 (S k)))), (4, .int (nI (zs_e f g k))), (0, .ref (gg 0)), (1, .int (nI k)), (2, .int f), (3, .int g)]) rfl (fun ls hl => ?_)
  refine lv_iload hx hb d_MD_entry_32 (lv_at hl 0 rfl) ?_
  refine lv_iload hx hb d_MD_entry_34 (lv_at hl 1 rfl) ?_
  refine zRd (rest := []) (zrS hS9 (c_MD_power l D cI cC cJ (zs_pw 2 (S k)) (zs_e f g k) (by omega) (by omega)) zc_MD_power zw_546 zw_547 (by decide) (trivial) hE rfl hl.1 rfl (Nat.le_of_ble_eq_true rfl) d_MD_entry_36) ?_
  refine lv_istore hx hb d_MD_entry_39 hl (by decide) (lv' := [(6, .int (nI (zs_pw (zs_pw 2 (S k)) (zs_e f g k)))), (5, .int (nI (zs_pw 2 (S k)))), (4, .int (nI (zs_e f g k))), (0, .ref (gg 0)), (1, .int (nI k)), (2, .int f), (3, .int g)]) rfl (fun ls hl => ?_)
  refine lv_aload_n hx hb d_MD_entry_41 rfl (lv_at hl 3 rfl) ?_
  refine va_get (D := D) (ci := 2) (v := .int (nI n3)) (C := R_MD) (T := F_MD) (N := 12) hx hb hg i_MD hown hE.1 hP 0 rfl rfl 4 (by decide) (hg _ zw_492) (fun _ h9 => h9) rfl d_MD_entry_42 ?_
  refine lv_istore hx hb d_MD_entry_45 hl (by decide) (lv' := [(7, .int (nI n3)), (6, .int (nI (zs_pw (zs_pw 2 (S k)) (zs_e f g k)))), (5, .int (nI (zs_pw 2 (S k)))), (4, .int (nI (zs_e f g k))), (0, .ref (gg 0)), (1, .int (nI k)), (2, .int f), (3, .int g)]) rfl (fun ls hl => ?_)
  refine lv_iload_n hx hb d_MD_entry_47 rfl (lv_at hl 6 rfl) ?_
  refine lv_iload hx hb d_MD_entry_48 (lv_at hl 1 rfl) ?_
  refine lv_iload hx hb d_MD_entry_50 (lv_at hl 2 rfl) ?_
  refine lv_iconst (v := (nI 1)) hx hb d_MD_entry_52 (by decide) ?_
  refine zRd (rest := [.int f]) (zrS hS9 (c_MD_word l D cI cC cJ (nI (zs_pw (zs_pw 2 (S k)) (zs_e f g k))) (nI (zs_pw 2 (S k))) (nI 1)) zc_MD_word zw_573 zw_574 (by decide) (trivial) hE rfl hl.1 rfl (Nat.le_of_ble_eq_true rfl) d_MD_entry_53) ?_
  refine lv_ixor hx hb d_MD_entry_56 ?_
  refine ztop (y := (zs_wrap f (zs_pw (zs_pw 2 (S k)) (zs_e f g k)) (zs_pw 2 (S k)))) (rfl) ?_
  refine lv_istore hx hb d_MD_entry_57 hl (by decide) (lv' := [(8, .int (zs_wrap f (zs_pw (zs_pw 2 (S k)) (zs_e f g k)) (zs_pw 2 (S k)))), (7, .int (nI n3)), (6, .int (nI (zs_pw (zs_pw 2 (S k)) (zs_e f g k)))), (5, .int (nI (zs_pw 2 (S k)))), (4, .int (nI (zs_e f g k))), (0, .ref (gg 0)), (1, .int (nI k)), (2, .int f), (3, .int g)]) rfl (fun ls hl => ?_)
  refine lv_iconst (v := (nI 2)) hx hb d_MD_entry_59 (by decide) ?_
  refine lv_iload hx hb d_MD_entry_60 (lv_at hl 4 rfl) ?_
  refine zRd (rest := []) (zrS hS9 (c_MD_power l D cI cC cJ 2 (zs_e f g k) (by decide) (by omega)) zc_MD_power zw_546 zw_547 (by decide) (trivial) hE rfl hl.1 rfl (Nat.le_of_ble_eq_true rfl) d_MD_entry_62) ?_
  refine lv_istore hx hb d_MD_entry_65 hl (by decide) (lv' := [(9, .int (nI (zs_pw 2 (zs_e f g k)))), (8, .int (zs_wrap f (zs_pw (zs_pw 2 (S k)) (zs_e f g k)) (zs_pw 2 (S k)))), (7, .int (nI n3)), (6, .int (nI (zs_pw (zs_pw 2 (S k)) (zs_e f g k)))), (5, .int (nI (zs_pw 2 (S k)))), (4, .int (nI (zs_e f g k))), (0, .ref (gg 0)), (1, .int (nI k)), (2, .int f), (3, .int g)]) rfl (fun ls hl => ?_)
  refine lv_aload_n hx hb d_MD_entry_67 rfl (lv_at hl 6 rfl) ?_
  refine lv_iload hx hb d_MD_entry_68 (lv_at hl 0 rfl) ?_
  refine zWr (rest := []) (zrV hS9 (c_MD_addTwo l D cI cC cJ gg ft n0 n2 n3 rt rd n4 e0 e2 e3 e5 e4 (by omega) (by omega) (by omega) (by omega) hh (nI (zs_pw 2 (zs_e f g k))) (by omega)) zc_MD_addTwo zw_581 zw_583 zp_30 (by decide) (va_recv hE.1 hP (ci := 2) (q := (R_MD, F_MD, 12)) rfl (q0 := 0) rfl) (hP) hE rfl hl.1 rfl (Nat.le_of_ble_eq_true rfl) d_MD_entry_70) hS (fun _ _ h => h) (fun _ h => h) (fun H locs hP hz hk9 hS => ?_)
  have hP : va_P D zcl [((gg 0), .inr (2, [.int ft, .int (nI n0), .ref (gg 1), .int (nI n2), .int (nI (n3 + 2)), .int (nI rt), .ref (gg 2), .ref (gg 3), .ref (gg 4), .int (nI rd), .int (nI n4), .ref (gg 5)])), ((gg 1), .inl (cI, 4, .inl e0)), ((gg 2), .inl (cI, 40, .inl e2)), ((gg 3), .inl (cI, 120, .inl (upd (upd e3 n3 (nI ((zs_un (nI (zs_pw 2 (zs_e f g k))) % 65536) / 256))) (n3 + 1) (nI ((zs_un (nI (zs_pw 2 (zs_e f g k))) % 65536) % 256))))), ((gg 4), .inl (cI, 40, .inl e5)), ((gg 5), .inl (cC, 160, .inl e4))] H := hP
  have hD : va_D (zAM gg) [((gg 0), .inr (2, [.int ft, .int (nI n0), .ref (gg 1), .int (nI n2), .int (nI (n3 + 2)), .int (nI rt), .ref (gg 2), .ref (gg 3), .ref (gg 4), .int (nI rd), .int (nI n4), .ref (gg 5)])), ((gg 1), .inl (cI, 4, .inl e0)), ((gg 2), .inl (cI, 40, .inl e2)), ((gg 3), .inl (cI, 120, .inl (upd (upd e3 n3 (nI ((zs_un (nI (zs_pw 2 (zs_e f g k))) % 65536) / 256))) (n3 + 1) (nI ((zs_un (nI (zs_pw 2 (zs_e f g k))) % 65536) % 256))))), ((gg 4), .inl (cI, 40, .inl e5)), ((gg 5), .inl (cC, 160, .inl e4))] := zMd_D hh
  have hv9 : zs_un (nI (zs_pw 2 (zs_e f g k))) % 65536 = zs_pw 2 (zs_e f g k) := by rw [zs_un_nI (by omega)]; exact Nat.mod_eq_of_lt (by omega)
  rw [hv9] at hP
  have hB : zs_hold 256 (upd (upd e3 n3 (nI ((zs_pw 2 (zs_e f g k)) / 256))) (n3 + 1) (nI ((zs_pw 2 (zs_e f g k)) % 256))) (zs_pair (n3, B) (zs_pw 2 (zs_e f g k))) := zs_hold_pair (v := zs_pw 2 (zs_e f g k)) hB (by omega)
  have hP : va_P D zcl [((gg 0), .inr (2, [.int ft, .int (nI n0), .ref (gg 1), .int (nI n2), .int (nI (n3 + 2)), .int (nI rt), .ref (gg 2), .ref (gg 3), .ref (gg 4), .int (nI rd), .int (nI n4), .ref (gg 5)])), ((gg 1), .inl (cI, 4, .inl e0)), ((gg 2), .inl (cI, 40, .inl e2)), ((gg 3), .inl (cI, 120, .inl (upd (upd e3 n3 (nI ((zs_pw 2 (zs_e f g k)) / 256))) (n3 + 1) (nI ((zs_pw 2 (zs_e f g k)) % 256))))), ((gg 4), .inl (cI, 40, .inl e5)), ((gg 5), .inl (cC, 160, .inl e4))] H := hP
  have hD : va_D (zAM gg) [((gg 0), .inr (2, [.int ft, .int (nI n0), .ref (gg 1), .int (nI n2), .int (nI (n3 + 2)), .int (nI rt), .ref (gg 2), .ref (gg 3), .ref (gg 4), .int (nI rd), .int (nI n4), .ref (gg 5)])), ((gg 1), .inl (cI, 4, .inl e0)), ((gg 2), .inl (cI, 40, .inl e2)), ((gg 3), .inl (cI, 120, .inl (upd (upd e3 n3 (nI ((zs_pw 2 (zs_e f g k)) / 256))) (n3 + 1) (nI ((zs_pw 2 (zs_e f g k)) % 256))))), ((gg 4), .inl (cI, 40, .inl e5)), ((gg 5), .inl (cC, 160, .inl e4))] := zMd_D hh
  generalize (upd (upd e3 n3 (nI ((zs_pw 2 (zs_e f g k)) / 256))) (n3 + 1) (nI ((zs_pw 2 (zs_e f g k)) % 256))) = e31 at hP hD hB
  refine lv_aload_n hx hb d_MD_entry_73 rfl (lv_at hl 6 rfl) ?_
  refine lv_iload hx hb d_MD_entry_74 (lv_at hl 1 rfl) ?_
  refine lv_bipush (v := (nI 16)) hx hb d_MD_entry_76 (by decide) ?_
  refine lv_iushr (v := zs_u (zs_wrap f (zs_pw (zs_pw 2 (S k)) (zs_e f g k)) (zs_pw 2 (S k))) (nI 16)) hx hb d_MD_entry_78 rfl ?_
  refine ztop (y := nI (zs_un (zs_wrap f (zs_pw (zs_pw 2 (S k)) (zs_e f g k)) (zs_pw 2 (S k))) / 2 ^ 16)) (zs_u_un _ (by decide)) ?_
  refine zWr (rest := []) (zrV hS9 (c_MD_addTwo l D cI cC cJ gg ft n0 n2 (n3 + 2) rt rd n4 e0 e2 e31 e5 e4 (by omega) (by omega) (by omega) (by omega) hh (nI (zs_un (zs_wrap f (zs_pw (zs_pw 2 (S k)) (zs_e f g k)) (zs_pw 2 (S k))) / 2 ^ 16)) (by omega)) zc_MD_addTwo zw_581 zw_583 zp_30 (by decide) (va_recv hE.1 hP (ci := 2) (q := (R_MD, F_MD, 12)) rfl (q0 := 0) rfl) (hP) hE rfl hl.1 rfl (Nat.le_of_ble_eq_true rfl) d_MD_entry_79) hS (fun _ _ h => h) (fun _ h => h) (fun H locs hP hz hk9 hS => ?_)
  have hP : va_P D zcl [((gg 0), .inr (2, [.int ft, .int (nI n0), .ref (gg 1), .int (nI n2), .int (nI (n3 + 4)), .int (nI rt), .ref (gg 2), .ref (gg 3), .ref (gg 4), .int (nI rd), .int (nI n4), .ref (gg 5)])), ((gg 1), .inl (cI, 4, .inl e0)), ((gg 2), .inl (cI, 40, .inl e2)), ((gg 3), .inl (cI, 120, .inl (upd (upd e31 (n3 + 2) (nI ((zs_un (nI (zs_un (zs_wrap f (zs_pw (zs_pw 2 (S k)) (zs_e f g k)) (zs_pw 2 (S k))) / 2 ^ 16)) % 65536) / 256))) (n3 + 2 + 1) (nI ((zs_un (nI (zs_un (zs_wrap f (zs_pw (zs_pw 2 (S k)) (zs_e f g k)) (zs_pw 2 (S k))) / 2 ^ 16)) % 65536) % 256))))), ((gg 4), .inl (cI, 40, .inl e5)), ((gg 5), .inl (cC, 160, .inl e4))] H := hP
  have hD : va_D (zAM gg) [((gg 0), .inr (2, [.int ft, .int (nI n0), .ref (gg 1), .int (nI n2), .int (nI (n3 + 4)), .int (nI rt), .ref (gg 2), .ref (gg 3), .ref (gg 4), .int (nI rd), .int (nI n4), .ref (gg 5)])), ((gg 1), .inl (cI, 4, .inl e0)), ((gg 2), .inl (cI, 40, .inl e2)), ((gg 3), .inl (cI, 120, .inl (upd (upd e31 (n3 + 2) (nI ((zs_un (nI (zs_un (zs_wrap f (zs_pw (zs_pw 2 (S k)) (zs_e f g k)) (zs_pw 2 (S k))) / 2 ^ 16)) % 65536) / 256))) (n3 + 2 + 1) (nI ((zs_un (nI (zs_un (zs_wrap f (zs_pw (zs_pw 2 (S k)) (zs_e f g k)) (zs_pw 2 (S k))) / 2 ^ 16)) % 65536) % 256))))), ((gg 4), .inl (cI, 40, .inl e5)), ((gg 5), .inl (cC, 160, .inl e4))] := zMd_D hh
  have hv9 : zs_un (nI (zs_un (zs_wrap f (zs_pw (zs_pw 2 (S k)) (zs_e f g k)) (zs_pw 2 (S k))) / 2 ^ 16)) % 65536 = zs_un (zs_wrap f (zs_pw (zs_pw 2 (S k)) (zs_e f g k)) (zs_pw 2 (S k))) / 2 ^ 16 := by rw [zs_un_nI (by omega)]; exact Nat.mod_eq_of_lt (by omega)
  rw [hv9] at hP
  have hB : zs_hold 256 (upd (upd e31 (n3 + 2) (nI ((zs_un (zs_wrap f (zs_pw (zs_pw 2 (S k)) (zs_e f g k)) (zs_pw 2 (S k))) / 2 ^ 16) / 256))) (n3 + 2 + 1) (nI ((zs_un (zs_wrap f (zs_pw (zs_pw 2 (S k)) (zs_e f g k)) (zs_pw 2 (S k))) / 2 ^ 16) % 256))) (zs_pair (zs_pair (n3, B) (zs_pw 2 (zs_e f g k))) (zs_un (zs_wrap f (zs_pw (zs_pw 2 (S k)) (zs_e f g k)) (zs_pw 2 (S k))) / 2 ^ 16)) := zs_hold_pair (v := zs_un (zs_wrap f (zs_pw (zs_pw 2 (S k)) (zs_e f g k)) (zs_pw 2 (S k))) / 2 ^ 16) hB (by omega)
  have hP : va_P D zcl [((gg 0), .inr (2, [.int ft, .int (nI n0), .ref (gg 1), .int (nI n2), .int (nI (n3 + 4)), .int (nI rt), .ref (gg 2), .ref (gg 3), .ref (gg 4), .int (nI rd), .int (nI n4), .ref (gg 5)])), ((gg 1), .inl (cI, 4, .inl e0)), ((gg 2), .inl (cI, 40, .inl e2)), ((gg 3), .inl (cI, 120, .inl (upd (upd e31 (n3 + 2) (nI ((zs_un (zs_wrap f (zs_pw (zs_pw 2 (S k)) (zs_e f g k)) (zs_pw 2 (S k))) / 2 ^ 16) / 256))) (n3 + 2 + 1) (nI ((zs_un (zs_wrap f (zs_pw (zs_pw 2 (S k)) (zs_e f g k)) (zs_pw 2 (S k))) / 2 ^ 16) % 256))))), ((gg 4), .inl (cI, 40, .inl e5)), ((gg 5), .inl (cC, 160, .inl e4))] H := hP
  have hD : va_D (zAM gg) [((gg 0), .inr (2, [.int ft, .int (nI n0), .ref (gg 1), .int (nI n2), .int (nI (n3 + 4)), .int (nI rt), .ref (gg 2), .ref (gg 3), .ref (gg 4), .int (nI rd), .int (nI n4), .ref (gg 5)])), ((gg 1), .inl (cI, 4, .inl e0)), ((gg 2), .inl (cI, 40, .inl e2)), ((gg 3), .inl (cI, 120, .inl (upd (upd e31 (n3 + 2) (nI ((zs_un (zs_wrap f (zs_pw (zs_pw 2 (S k)) (zs_e f g k)) (zs_pw 2 (S k))) / 2 ^ 16) / 256))) (n3 + 2 + 1) (nI ((zs_un (zs_wrap f (zs_pw (zs_pw 2 (S k)) (zs_e f g k)) (zs_pw 2 (S k))) / 2 ^ 16) % 256))))), ((gg 4), .inl (cI, 40, .inl e5)), ((gg 5), .inl (cC, 160, .inl e4))] := zMd_D hh
  generalize (upd (upd e31 (n3 + 2) (nI ((zs_un (zs_wrap f (zs_pw (zs_pw 2 (S k)) (zs_e f g k)) (zs_pw 2 (S k))) / 2 ^ 16) / 256))) (n3 + 2 + 1) (nI ((zs_un (zs_wrap f (zs_pw (zs_pw 2 (S k)) (zs_e f g k)) (zs_pw 2 (S k))) / 2 ^ 16) % 256))) = e32 at hP hD hB
  refine lv_aload_n hx hb d_MD_entry_82 rfl (lv_at hl 6 rfl) ?_
  refine lv_iload hx hb d_MD_entry_83 (lv_at hl 1 rfl) ?_
  refine zWr (rest := []) (zrV hS9 (c_MD_addTwo l D cI cC cJ gg ft n0 n2 (n3 + 4) rt rd n4 e0 e2 e32 e5 e4 (by omega) (by omega) (by omega) (by omega) hh (zs_wrap f (zs_pw (zs_pw 2 (S k)) (zs_e f g k)) (zs_pw 2 (S k))) (by omega)) zc_MD_addTwo zw_581 zw_583 zp_30 (by decide) (va_recv hE.1 hP (ci := 2) (q := (R_MD, F_MD, 12)) rfl (q0 := 0) rfl) (hP) hE rfl hl.1 rfl (Nat.le_of_ble_eq_true rfl) d_MD_entry_85) hS (fun _ _ h => h) (fun _ h => h) (fun H locs hP hz hk9 hS => ?_)
  have hP : va_P D zcl [((gg 0), .inr (2, [.int ft, .int (nI n0), .ref (gg 1), .int (nI n2), .int (nI (n3 + 6)), .int (nI rt), .ref (gg 2), .ref (gg 3), .ref (gg 4), .int (nI rd), .int (nI n4), .ref (gg 5)])), ((gg 1), .inl (cI, 4, .inl e0)), ((gg 2), .inl (cI, 40, .inl e2)), ((gg 3), .inl (cI, 120, .inl (upd (upd e32 (n3 + 4) (nI ((zs_un (zs_wrap f (zs_pw (zs_pw 2 (S k)) (zs_e f g k)) (zs_pw 2 (S k))) % 65536) / 256))) (n3 + 4 + 1) (nI ((zs_un (zs_wrap f (zs_pw (zs_pw 2 (S k)) (zs_e f g k)) (zs_pw 2 (S k))) % 65536) % 256))))), ((gg 4), .inl (cI, 40, .inl e5)), ((gg 5), .inl (cC, 160, .inl e4))] H := hP
  have hD : va_D (zAM gg) [((gg 0), .inr (2, [.int ft, .int (nI n0), .ref (gg 1), .int (nI n2), .int (nI (n3 + 6)), .int (nI rt), .ref (gg 2), .ref (gg 3), .ref (gg 4), .int (nI rd), .int (nI n4), .ref (gg 5)])), ((gg 1), .inl (cI, 4, .inl e0)), ((gg 2), .inl (cI, 40, .inl e2)), ((gg 3), .inl (cI, 120, .inl (upd (upd e32 (n3 + 4) (nI ((zs_un (zs_wrap f (zs_pw (zs_pw 2 (S k)) (zs_e f g k)) (zs_pw 2 (S k))) % 65536) / 256))) (n3 + 4 + 1) (nI ((zs_un (zs_wrap f (zs_pw (zs_pw 2 (S k)) (zs_e f g k)) (zs_pw 2 (S k))) % 65536) % 256))))), ((gg 4), .inl (cI, 40, .inl e5)), ((gg 5), .inl (cC, 160, .inl e4))] := zMd_D hh
  have hv9 : zs_un (zs_wrap f (zs_pw (zs_pw 2 (S k)) (zs_e f g k)) (zs_pw 2 (S k))) % 65536 = zs_un (zs_wrap f (zs_pw (zs_pw 2 (S k)) (zs_e f g k)) (zs_pw 2 (S k))) % 2 ^ 16 := rfl
  rw [hv9] at hP
  have hB : zs_hold 256 (upd (upd e32 (n3 + 4) (nI ((zs_un (zs_wrap f (zs_pw (zs_pw 2 (S k)) (zs_e f g k)) (zs_pw 2 (S k))) % 2 ^ 16) / 256))) (n3 + 4 + 1) (nI ((zs_un (zs_wrap f (zs_pw (zs_pw 2 (S k)) (zs_e f g k)) (zs_pw 2 (S k))) % 2 ^ 16) % 256))) (zs_pair (zs_pair (zs_pair (n3, B) (zs_pw 2 (zs_e f g k))) (zs_un (zs_wrap f (zs_pw (zs_pw 2 (S k)) (zs_e f g k)) (zs_pw 2 (S k))) / 2 ^ 16)) (zs_un (zs_wrap f (zs_pw (zs_pw 2 (S k)) (zs_e f g k)) (zs_pw 2 (S k))) % 2 ^ 16)) := zs_hold_pair (v := zs_un (zs_wrap f (zs_pw (zs_pw 2 (S k)) (zs_e f g k)) (zs_pw 2 (S k))) % 2 ^ 16) hB (by omega)
  have hP : va_P D zcl [((gg 0), .inr (2, [.int ft, .int (nI n0), .ref (gg 1), .int (nI n2), .int (nI (n3 + 6)), .int (nI rt), .ref (gg 2), .ref (gg 3), .ref (gg 4), .int (nI rd), .int (nI n4), .ref (gg 5)])), ((gg 1), .inl (cI, 4, .inl e0)), ((gg 2), .inl (cI, 40, .inl e2)), ((gg 3), .inl (cI, 120, .inl (upd (upd e32 (n3 + 4) (nI ((zs_un (zs_wrap f (zs_pw (zs_pw 2 (S k)) (zs_e f g k)) (zs_pw 2 (S k))) % 2 ^ 16) / 256))) (n3 + 4 + 1) (nI ((zs_un (zs_wrap f (zs_pw (zs_pw 2 (S k)) (zs_e f g k)) (zs_pw 2 (S k))) % 2 ^ 16) % 256))))), ((gg 4), .inl (cI, 40, .inl e5)), ((gg 5), .inl (cC, 160, .inl e4))] H := hP
  have hD : va_D (zAM gg) [((gg 0), .inr (2, [.int ft, .int (nI n0), .ref (gg 1), .int (nI n2), .int (nI (n3 + 6)), .int (nI rt), .ref (gg 2), .ref (gg 3), .ref (gg 4), .int (nI rd), .int (nI n4), .ref (gg 5)])), ((gg 1), .inl (cI, 4, .inl e0)), ((gg 2), .inl (cI, 40, .inl e2)), ((gg 3), .inl (cI, 120, .inl (upd (upd e32 (n3 + 4) (nI ((zs_un (zs_wrap f (zs_pw (zs_pw 2 (S k)) (zs_e f g k)) (zs_pw 2 (S k))) % 2 ^ 16) / 256))) (n3 + 4 + 1) (nI ((zs_un (zs_wrap f (zs_pw (zs_pw 2 (S k)) (zs_e f g k)) (zs_pw 2 (S k))) % 2 ^ 16) % 256))))), ((gg 4), .inl (cI, 40, .inl e5)), ((gg 5), .inl (cC, 160, .inl e4))] := zMd_D hh
  generalize (upd (upd e32 (n3 + 4) (nI ((zs_un (zs_wrap f (zs_pw (zs_pw 2 (S k)) (zs_e f g k)) (zs_pw 2 (S k))) % 2 ^ 16) / 256))) (n3 + 4 + 1) (nI ((zs_un (zs_wrap f (zs_pw (zs_pw 2 (S k)) (zs_e f g k)) (zs_pw 2 (S k))) % 2 ^ 16) % 256))) = e33 at hP hD hB
  have hB : zs_hold 256 e33 (n3 + 6, (zs_ent3 (n3, B) (zs_pw 2 (S k)) f (zs_e f g k)).2) := hB
  refine lv_aload_n hx hb d_MD_entry_88 rfl (lv_at hl 6 rfl) ?_
  refine lv_iload hx hb d_MD_entry_89 (lv_at hl 2 rfl) ?_
  refine lv_aload_n hx hb d_MD_entry_91 rfl (lv_at hl 6 rfl) ?_
  refine va_get (D := D) (ci := 2) (v := .int (nI (n3 + 6))) (C := R_MD) (T := F_MD) (N := 12) hx hb hg i_MD hown hE.1 hP 0 rfl rfl 4 (by decide) (hg _ zw_492) (fun _ h9 => h9) rfl d_MD_entry_92 ?_
  refine lv_iload hx hb d_MD_entry_95 (lv_at hl 3 rfl) ?_
  refine lv_iload hx hb d_MD_entry_97 (lv_at hl 4 rfl) ?_
  refine lv_iconst (v := (nI 2)) hx hb d_MD_entry_99 (by decide) ?_
  refine zRd (rest := [.int (nI (n3 + 6)), .int (nI n3), .ref (gg 0)]) (zrS hS9 (c_MD_word l D cI cC cJ (nI (zs_pw (zs_pw 2 (S k)) (zs_e f g k))) (nI (zs_pw 2 (S k))) (nI 2)) zc_MD_word zw_573 zw_574 (by decide) (trivial) hE rfl hl.1 rfl (Nat.le_of_ble_eq_true rfl) d_MD_entry_100) ?_
  refine zRd (rest := []) (zrV hS9 (c_MD_sign l D cI cC cJ gg ft n0 n2 (n3 + 6) rt rd n4 e0 e2 e33 e5 e4 (by omega) (by omega) (by omega) (by omega) (zs_ent3 (n3, B) (zs_pw 2 (S k)) f (zs_e f g k)).2 hB n3 (n3 + 6) (by omega) (by omega) (zs_word (nI (zs_pw (zs_pw 2 (S k)) (zs_e f g k))) (nI (zs_pw 2 (S k))) (nI 2))) zc_MD_sign zw_585 zw_587 zp_31 (by decide) (va_recv hE.1 hP (ci := 2) (q := (R_MD, F_MD, 12)) rfl (q0 := 0) rfl) (hP) hE rfl hl.1 rfl (Nat.le_of_ble_eq_true rfl) d_MD_entry_103) ?_
  have l9 := zs_sg_lt (zs_ent3 (n3, B) (zs_pw 2 (S k)) f (zs_e f g k)).2 n3 (n3 + 6) (zs_word (nI (zs_pw (zs_pw 2 (S k)) (zs_e f g k))) (nI (zs_pw 2 (S k))) (nI 2))
  refine lv_istore hx hb d_MD_entry_106 hl (by decide) (lv' := [(10, .int (nI (zs_sg (zs_ent3 (n3, B) (zs_pw 2 (S k)) f (zs_e f g k)).2 n3 (n3 + 6) (zs_word (nI (zs_pw (zs_pw 2 (S k)) (zs_e f g k))) (nI (zs_pw 2 (S k))) (nI 2))))), (9, .int (nI (zs_pw 2 (zs_e f g k)))), (8, .int (zs_wrap f (zs_pw (zs_pw 2 (S k)) (zs_e f g k)) (zs_pw 2 (S k)))), (7, .int (nI n3)), (6, .int (nI (zs_pw (zs_pw 2 (S k)) (zs_e f g k)))), (5, .int (nI (zs_pw 2 (S k)))), (4, .int (nI (zs_e f g k))), (0, .ref (gg 0)), (1, .int (nI k)), (2, .int f), (3, .int g)]) rfl (fun ls hl => ?_)
  refine lv_aload_n hx hb d_MD_entry_108 rfl (lv_at hl 7 rfl) ?_
  refine lv_iload hx hb d_MD_entry_109 (lv_at hl 0 rfl) ?_
  refine zWr (rest := []) (zrV hS9 (c_MD_addTwo l D cI cC cJ gg ft n0 n2 (n3 + 6) rt rd n4 e0 e2 e33 e5 e4 (by omega) (by omega) (by omega) (by omega) hh (nI (zs_sg (zs_ent3 (n3, B) (zs_pw 2 (S k)) f (zs_e f g k)).2 n3 (n3 + 6) (zs_word (nI (zs_pw (zs_pw 2 (S k)) (zs_e f g k))) (nI (zs_pw 2 (S k))) (nI 2)))) (by omega)) zc_MD_addTwo zw_581 zw_583 zp_30 (by decide) (va_recv hE.1 hP (ci := 2) (q := (R_MD, F_MD, 12)) rfl (q0 := 0) rfl) (hP) hE rfl hl.1 rfl (Nat.le_of_ble_eq_true rfl) d_MD_entry_111) hS (fun _ _ h => h) (fun _ h => h) (fun H locs hP hz hk9 hS => ?_)
  have hP : va_P D zcl [((gg 0), .inr (2, [.int ft, .int (nI n0), .ref (gg 1), .int (nI n2), .int (nI (n3 + 8)), .int (nI rt), .ref (gg 2), .ref (gg 3), .ref (gg 4), .int (nI rd), .int (nI n4), .ref (gg 5)])), ((gg 1), .inl (cI, 4, .inl e0)), ((gg 2), .inl (cI, 40, .inl e2)), ((gg 3), .inl (cI, 120, .inl (upd (upd e33 (n3 + 6) (nI ((zs_un (nI (zs_sg (zs_ent3 (n3, B) (zs_pw 2 (S k)) f (zs_e f g k)).2 n3 (n3 + 6) (zs_word (nI (zs_pw (zs_pw 2 (S k)) (zs_e f g k))) (nI (zs_pw 2 (S k))) (nI 2)))) % 65536) / 256))) (n3 + 6 + 1) (nI ((zs_un (nI (zs_sg (zs_ent3 (n3, B) (zs_pw 2 (S k)) f (zs_e f g k)).2 n3 (n3 + 6) (zs_word (nI (zs_pw (zs_pw 2 (S k)) (zs_e f g k))) (nI (zs_pw 2 (S k))) (nI 2)))) % 65536) % 256))))), ((gg 4), .inl (cI, 40, .inl e5)), ((gg 5), .inl (cC, 160, .inl e4))] H := hP
  have hD : va_D (zAM gg) [((gg 0), .inr (2, [.int ft, .int (nI n0), .ref (gg 1), .int (nI n2), .int (nI (n3 + 8)), .int (nI rt), .ref (gg 2), .ref (gg 3), .ref (gg 4), .int (nI rd), .int (nI n4), .ref (gg 5)])), ((gg 1), .inl (cI, 4, .inl e0)), ((gg 2), .inl (cI, 40, .inl e2)), ((gg 3), .inl (cI, 120, .inl (upd (upd e33 (n3 + 6) (nI ((zs_un (nI (zs_sg (zs_ent3 (n3, B) (zs_pw 2 (S k)) f (zs_e f g k)).2 n3 (n3 + 6) (zs_word (nI (zs_pw (zs_pw 2 (S k)) (zs_e f g k))) (nI (zs_pw 2 (S k))) (nI 2)))) % 65536) / 256))) (n3 + 6 + 1) (nI ((zs_un (nI (zs_sg (zs_ent3 (n3, B) (zs_pw 2 (S k)) f (zs_e f g k)).2 n3 (n3 + 6) (zs_word (nI (zs_pw (zs_pw 2 (S k)) (zs_e f g k))) (nI (zs_pw 2 (S k))) (nI 2)))) % 65536) % 256))))), ((gg 4), .inl (cI, 40, .inl e5)), ((gg 5), .inl (cC, 160, .inl e4))] := zMd_D hh
  have hv9 : zs_un (nI (zs_sg (zs_ent3 (n3, B) (zs_pw 2 (S k)) f (zs_e f g k)).2 n3 (n3 + 6) (zs_word (nI (zs_pw (zs_pw 2 (S k)) (zs_e f g k))) (nI (zs_pw 2 (S k))) (nI 2)))) % 65536 = zs_sg (zs_ent3 (n3, B) (zs_pw 2 (S k)) f (zs_e f g k)).2 n3 (n3 + 6) (zs_word (nI (zs_pw (zs_pw 2 (S k)) (zs_e f g k))) (nI (zs_pw 2 (S k))) (nI 2)) := by rw [zs_un_nI (by omega)]; exact Nat.mod_eq_of_lt (by omega)
  rw [hv9] at hP
  have hB : zs_hold 256 (upd (upd e33 (n3 + 6) (nI ((zs_sg (zs_ent3 (n3, B) (zs_pw 2 (S k)) f (zs_e f g k)).2 n3 (n3 + 6) (zs_word (nI (zs_pw (zs_pw 2 (S k)) (zs_e f g k))) (nI (zs_pw 2 (S k))) (nI 2))) / 256))) (n3 + 6 + 1) (nI ((zs_sg (zs_ent3 (n3, B) (zs_pw 2 (S k)) f (zs_e f g k)).2 n3 (n3 + 6) (zs_word (nI (zs_pw (zs_pw 2 (S k)) (zs_e f g k))) (nI (zs_pw 2 (S k))) (nI 2))) % 256))) (zs_pair (n3 + 6, (zs_ent3 (n3, B) (zs_pw 2 (S k)) f (zs_e f g k)).2) (zs_sg (zs_ent3 (n3, B) (zs_pw 2 (S k)) f (zs_e f g k)).2 n3 (n3 + 6) (zs_word (nI (zs_pw (zs_pw 2 (S k)) (zs_e f g k))) (nI (zs_pw 2 (S k))) (nI 2)))) := zs_hold_pair (v := zs_sg (zs_ent3 (n3, B) (zs_pw 2 (S k)) f (zs_e f g k)).2 n3 (n3 + 6) (zs_word (nI (zs_pw (zs_pw 2 (S k)) (zs_e f g k))) (nI (zs_pw 2 (S k))) (nI 2))) hB (by omega)
  have hP : va_P D zcl [((gg 0), .inr (2, [.int ft, .int (nI n0), .ref (gg 1), .int (nI n2), .int (nI (n3 + 8)), .int (nI rt), .ref (gg 2), .ref (gg 3), .ref (gg 4), .int (nI rd), .int (nI n4), .ref (gg 5)])), ((gg 1), .inl (cI, 4, .inl e0)), ((gg 2), .inl (cI, 40, .inl e2)), ((gg 3), .inl (cI, 120, .inl (upd (upd e33 (n3 + 6) (nI ((zs_sg (zs_ent3 (n3, B) (zs_pw 2 (S k)) f (zs_e f g k)).2 n3 (n3 + 6) (zs_word (nI (zs_pw (zs_pw 2 (S k)) (zs_e f g k))) (nI (zs_pw 2 (S k))) (nI 2))) / 256))) (n3 + 6 + 1) (nI ((zs_sg (zs_ent3 (n3, B) (zs_pw 2 (S k)) f (zs_e f g k)).2 n3 (n3 + 6) (zs_word (nI (zs_pw (zs_pw 2 (S k)) (zs_e f g k))) (nI (zs_pw 2 (S k))) (nI 2))) % 256))))), ((gg 4), .inl (cI, 40, .inl e5)), ((gg 5), .inl (cC, 160, .inl e4))] H := hP
  have hD : va_D (zAM gg) [((gg 0), .inr (2, [.int ft, .int (nI n0), .ref (gg 1), .int (nI n2), .int (nI (n3 + 8)), .int (nI rt), .ref (gg 2), .ref (gg 3), .ref (gg 4), .int (nI rd), .int (nI n4), .ref (gg 5)])), ((gg 1), .inl (cI, 4, .inl e0)), ((gg 2), .inl (cI, 40, .inl e2)), ((gg 3), .inl (cI, 120, .inl (upd (upd e33 (n3 + 6) (nI ((zs_sg (zs_ent3 (n3, B) (zs_pw 2 (S k)) f (zs_e f g k)).2 n3 (n3 + 6) (zs_word (nI (zs_pw (zs_pw 2 (S k)) (zs_e f g k))) (nI (zs_pw 2 (S k))) (nI 2))) / 256))) (n3 + 6 + 1) (nI ((zs_sg (zs_ent3 (n3, B) (zs_pw 2 (S k)) f (zs_e f g k)).2 n3 (n3 + 6) (zs_word (nI (zs_pw (zs_pw 2 (S k)) (zs_e f g k))) (nI (zs_pw 2 (S k))) (nI 2))) % 256))))), ((gg 4), .inl (cI, 40, .inl e5)), ((gg 5), .inl (cC, 160, .inl e4))] := zMd_D hh
  generalize (upd (upd e33 (n3 + 6) (nI ((zs_sg (zs_ent3 (n3, B) (zs_pw 2 (S k)) f (zs_e f g k)).2 n3 (n3 + 6) (zs_word (nI (zs_pw (zs_pw 2 (S k)) (zs_e f g k))) (nI (zs_pw 2 (S k))) (nI 2))) / 256))) (n3 + 6 + 1) (nI ((zs_sg (zs_ent3 (n3, B) (zs_pw 2 (S k)) f (zs_e f g k)).2 n3 (n3 + 6) (zs_word (nI (zs_pw (zs_pw 2 (S k)) (zs_e f g k))) (nI (zs_pw 2 (S k))) (nI 2))) % 256))) = e34 at hP hD hB
  exact W.vret hx hb hr (fun t ht _ => ⟨rfl, by rw [ht]; exact ⟨e34, hB, hP⟩, hS.F ht⟩) hS.2.2 d_MD_entry_114

set_option maxHeartbeats 4000000 in
set_option maxRecDepth 100000 in
theorem c_MD_entryOf (l : Launch) (D : va_G) (cI cC cJ : ClassId) (gg : Nat → Nat) (ft : Int32) (n0 n2 n3 rt rd n4 : Nat) (e0 e2 e3 e5 e4 : Nat → Int32) (hn0 : n0 ≤ 4) (hn2 : n2 ≤ 40) (hn3 : n3 ≤ 120) (hn4 : n4 ≤ 160) (B : Nat → Nat) (hB : zs_hold 256 e3 (n3, B)) (S : Nat → Nat) (hS0 : zs_hold 32748 e0 (n0, S)) (k : Nat) (hk : k < n0) (h3 : B 1 ≤ 3) (h6 : 6 + B 1 * 8 ≤ n3) : Met l y_MD_entryOf (zw k_MD_entryOf) ({ frames := 2, cells := 0, slots := 0, locals := 44 }) (zPc [.ref (gg 0), .int (nI k)] (fun H => va_P D zcl (zMd cI cC gg ft n0 n2 n3 rt rd n4 e0 e2 e3 e5 e4) H) D cI cC cJ) (QcRead (zs_ent B (S k) (zs_pw 2 (S k)) 0 (B 1))) 0 0 (fun _ => False) := by
  refine zMet (by decide) (Nat.le_of_ble_eq_true rfl) ?_
  intro p e s m below meth c hx hb hr hg hown hlk hml hP hE ls hl
  have hl : lv_has ls 6 [(0, .ref (gg 0)), (1, .int (nI k))] := hl
  have hS9 : CallFix p m c b_MD_entryOf 6 s [.ref (gg 0), .int (nI k)].toArray zg "SealedFilesModel" := ⟨hx, hb, hml, hown, hg⟩
  have hP : va_P D zcl [((gg 0), .inr (2, [.int ft, .int (nI n0), .ref (gg 1), .int (nI n2), .int (nI n3), .int (nI rt), .ref (gg 2), .ref (gg 3), .ref (gg 4), .int (nI rd), .int (nI n4), .ref (gg 5)])), ((gg 1), .inl (cI, 4, .inl e0)), ((gg 2), .inl (cI, 40, .inl e2)), ((gg 3), .inl (cI, 120, .inl e3)), ((gg 4), .inl (cI, 40, .inl e5)), ((gg 5), .inl (cC, 160, .inl e4))] s.heap := hP
  have h8 : S k < 32748 := (hS0 k hk).2
  refine lv_iconst (v := (nI 2)) hx hb d_MD_entryOf_0 (by decide) ?_
  refine lv_aload_n hx hb d_MD_entryOf_1 rfl (lv_at hl 0 rfl) ?_
  refine va_get (D := D) (ci := 2) (v := .ref (gg 1)) (C := R_MD) (T := F_MD) (N := 12) hx hb hg i_MD hown hE.1 hP 0 rfl rfl 2 (by decide) (hg _ zw_490) (fun _ h9 => h9) rfl d_MD_entryOf_2 ?_
  refine lv_iload_n hx hb d_MD_entryOf_5 rfl (lv_at hl 1 rfl) ?_
  refine zald hx hb hE.1 hP 1 0 rfl rfl (by omega) (by decide) d_MD_entryOf_6 ?_
  refine ztop (y := nI (S k)) ((hS0 k hk).1) ?_
  refine zRd (rest := []) (zrS hS9 (c_MD_power l D cI cC cJ 2 (S k) (by decide) (by omega)) zc_MD_power zw_546 zw_547 (by decide) (trivial) hE rfl hl.1 rfl (Nat.le_of_ble_eq_true rfl) d_MD_entryOf_7) ?_
  refine lv_istore_n hx hb d_MD_entryOf_10 rfl hl (by decide) (lv' := [(2, .int (nI (zs_pw 2 (S k)))), (0, .ref (gg 0)), (1, .int (nI k))]) rfl (fun ls hl => ?_)
  refine lv_iconst (v := (nI 0)) hx hb d_MD_entryOf_11 (by decide) ?_
  refine lv_istore_n hx hb d_MD_entryOf_12 rfl hl (by decide) (lv' := [(3, .int (nI 0)), (2, .int (nI (zs_pw 2 (S k)))), (0, .ref (gg 0)), (1, .int (nI k))]) rfl (fun ls hl => ?_)
  have hl : lv_has ls 6 [(3, .int (nI 0)), (2, .int (nI (zs_pw 2 (S k)))), (0, .ref (gg 0)), (1, .int (nI k))] := lv_sub hl [0, 1, 2, 3] rfl
  have loop : ∀ (k_ : Nat) (i : Nat), i + k_ = B 1 → zs_ent B (S k) (zs_pw 2 (S k)) i k_ = zs_ent B (S k) (zs_pw 2 (S k)) 0 (B 1) → ∀ ls : Array Slot, lv_has ls 6 [(3, .int (nI i)), (2, .int (nI (zs_pw 2 (S k)))), (0, .ref (gg 0)), (1, .int (nI k))] → W p l e ({ frames := 2, cells := 0, slots := 0, locals := 44 }) s m [.ref (gg 0), .int (nI k)].toArray below meth c s.heap [] 0 0 (MQ below (QcRead (zs_ent B (S k) (zs_pw 2 (S k)) 0 (B 1))) [.ref (gg 0), .int (nI k)].toArray s 0 0 (fun _ => False)) (F0 m 13 ls []) := by
    intro k_
    induction k_ with
    | zero =>
      intro i hi he ls hl
      refine lv_iload_n hx hb d_MD_entryOf_13 rfl (lv_at hl 0 rfl) ?_
      refine lv_aload_n hx hb d_MD_entryOf_14 rfl (lv_at hl 2 rfl) ?_
      refine va_get (D := D) (ci := 2) (v := .ref (gg 3)) (C := R_MD) (T := F_MD) (N := 12) hx hb hg i_MD hown hE.1 hP 0 rfl rfl 7 (by decide) (hg _ zw_495) (fun _ h9 => h9) rfl d_MD_entryOf_15 ?_
      refine lv_iconst (v := (nI 1)) hx hb d_MD_entryOf_18 (by decide) ?_
      refine zald hx hb hE.1 hP 3 0 rfl rfl (by decide) (by decide) d_MD_entryOf_19 ?_
      refine ztop (y := nI (B 1)) ((hB 1 (show 1 < n3 by omega)).1) ?_
      refine lv_icmp_ge hx hb d_MD_entryOf_20 (tgt := 87) (by decide) (fun _ => ?_) (fun z9 => absurd (nI_le (by omega) (by omega)) z9)
      refine lv_iconst (v := (-1)) hx hb d_MD_entryOf_87 (by decide) ?_
      exact W.iret (v := (-1)) hx hb hr (fun t ht _ => ⟨congrArg (fun z => Outcome.returned (some (Value.int z))) (show (-1 : Int32) = _ from he), ht⟩) t_nil d_MD_entryOf_88
    | succ k_ ih =>
      intro i hi he ls hl
      refine lv_iload_n hx hb d_MD_entryOf_13 rfl (lv_at hl 0 rfl) ?_
      refine lv_aload_n hx hb d_MD_entryOf_14 rfl (lv_at hl 2 rfl) ?_
      refine va_get (D := D) (ci := 2) (v := .ref (gg 3)) (C := R_MD) (T := F_MD) (N := 12) hx hb hg i_MD hown hE.1 hP 0 rfl rfl 7 (by decide) (hg _ zw_495) (fun _ h9 => h9) rfl d_MD_entryOf_15 ?_
      refine lv_iconst (v := (nI 1)) hx hb d_MD_entryOf_18 (by decide) ?_
      refine zald hx hb hE.1 hP 3 0 rfl rfl (by decide) (by decide) d_MD_entryOf_19 ?_
      refine ztop (y := nI (B 1)) ((hB 1 (show 1 < n3 by omega)).1) ?_
      refine lv_icmp_ge hx hb d_MD_entryOf_20 (tgt := 87) (by decide) (fun z9 => absurd z9 (nI_ge (by omega) (by omega))) (fun _ => ?_)
      refine lv_iconst (v := (nI 2)) hx hb d_MD_entryOf_23 (by decide) ?_
      refine lv_bipush (v := (nI 8)) hx hb d_MD_entryOf_24 (by decide) ?_
      refine lv_iload_n hx hb d_MD_entryOf_26 rfl (lv_at hl 0 rfl) ?_
      refine lv_imul hx hb d_MD_entryOf_27 ?_
      refine lv_iadd hx hb d_MD_entryOf_28 ?_
      refine ztop (y := nI (2 + 8 * i)) (by rw [pk_mul, nI_add]) ?_
      refine lv_istore hx hb d_MD_entryOf_29 hl (by decide) (lv' := [(4, .int (nI (2 + 8 * i))), (3, .int (nI i)), (2, .int (nI (zs_pw 2 (S k)))), (0, .ref (gg 0)), (1, .int (nI k))]) rfl (fun ls hl => ?_)
      refine lv_aload_n hx hb d_MD_entryOf_31 rfl (lv_at hl 3 rfl) ?_
      refine lv_iload hx hb d_MD_entryOf_32 (lv_at hl 0 rfl) ?_
      refine zRd (rest := []) (zrV hS9 (c_MD_two l D cI cC cJ gg ft n0 n2 n3 rt rd n4 e0 e2 e3 e5 e4 (by omega) (by omega) (by omega) (by omega) B hB (2 + 8 * i) (by omega)) zc_MD_two zw_599 zw_601 zp_33 (by decide) (va_recv hE.1 hP (ci := 2) (q := (R_MD, F_MD, 12)) rfl (q0 := 0) rfl) (hP) hE rfl hl.1 rfl (Nat.le_of_ble_eq_true rfl) d_MD_entryOf_34) ?_
      refine lv_aload_n hx hb d_MD_entryOf_37 rfl (lv_at hl 3 rfl) ?_
      refine va_get (D := D) (ci := 2) (v := .ref (gg 1)) (C := R_MD) (T := F_MD) (N := 12) hx hb hg i_MD hown hE.1 hP 0 rfl rfl 2 (by decide) (hg _ zw_490) (fun _ h9 => h9) rfl d_MD_entryOf_38 ?_
      refine lv_iload_n hx hb d_MD_entryOf_41 rfl (lv_at hl 4 rfl) ?_
      refine zald hx hb hE.1 hP 1 0 rfl rfl (by omega) (by decide) d_MD_entryOf_42 ?_
      refine ztop (y := nI (S k)) ((hS0 k hk).1) ?_
      have h7 : zs_two B (2 + 8 * i) < 65536 := zs_two_lt ((hB (2 + 8 * i) (show 2 + 8 * i < n3 by omega)).2) ((hB (2 + 8 * i + 1) (show 2 + 8 * i + 1 < n3 by omega)).2)
      refine zRd (rest := []) (zrS hS9 (c_MD_power l D cI cC cJ (zs_two B (2 + 8 * i)) (S k) (by omega) (by omega)) zc_MD_power zw_546 zw_547 (by decide) (trivial) hE rfl hl.1 rfl (Nat.le_of_ble_eq_true rfl) d_MD_entryOf_43) ?_
      refine ztop (y := nI (zs_z B (2 + 8 * i) (S k))) (rfl) ?_
      refine lv_istore hx hb d_MD_entryOf_46 hl (by decide) (lv' := [(5, .int (nI (zs_z B (2 + 8 * i) (S k)))), (4, .int (nI (2 + 8 * i))), (3, .int (nI i)), (2, .int (nI (zs_pw 2 (S k)))), (0, .ref (gg 0)), (1, .int (nI k))]) rfl (fun ls hl => ?_)
      refine lv_aload_n hx hb d_MD_entryOf_48 rfl (lv_at hl 4 rfl) ?_
      refine lv_iload hx hb d_MD_entryOf_49 (lv_at hl 1 rfl) ?_
      refine lv_bipush (v := (nI 6)) hx hb d_MD_entryOf_51 (by decide) ?_
      refine lv_iadd hx hb d_MD_entryOf_53 ?_
      refine ztop (y := nI (2 + 8 * i + 6)) (nI_add _ _) ?_
      refine zRd (rest := []) (zrV hS9 (c_MD_two l D cI cC cJ gg ft n0 n2 n3 rt rd n4 e0 e2 e3 e5 e4 (by omega) (by omega) (by omega) (by omega) B hB (2 + 8 * i + 6) (by omega)) zc_MD_two zw_599 zw_601 zp_33 (by decide) (va_recv hE.1 hP (ci := 2) (q := (R_MD, F_MD, 12)) rfl (q0 := 0) rfl) (hP) hE rfl hl.1 rfl (Nat.le_of_ble_eq_true rfl) d_MD_entryOf_54) ?_
      refine lv_aload_n hx hb d_MD_entryOf_57 rfl (lv_at hl 4 rfl) ?_
      refine lv_iload hx hb d_MD_entryOf_58 (lv_at hl 1 rfl) ?_
      refine lv_iload hx hb d_MD_entryOf_60 (lv_at hl 1 rfl) ?_
      refine lv_bipush (v := (nI 6)) hx hb d_MD_entryOf_62 (by decide) ?_
      refine lv_iadd hx hb d_MD_entryOf_64 ?_
      refine ztop (y := nI (2 + 8 * i + 6)) (nI_add _ _) ?_
      refine lv_iload hx hb d_MD_entryOf_65 (lv_at hl 0 rfl) ?_
      refine lv_iload_n hx hb d_MD_entryOf_67 rfl (lv_at hl 3 rfl) ?_
      refine lv_iconst (v := (nI 2)) hx hb d_MD_entryOf_68 (by decide) ?_
      refine zRd (rest := [.int (nI (2 + 8 * i + 6)), .int (nI (2 + 8 * i)), .ref (gg 0), .int (nI (zs_two B (2 + 8 * i + 6)))]) (zrS hS9 (c_MD_word l D cI cC cJ (nI (zs_z B (2 + 8 * i) (S k))) (nI (zs_pw 2 (S k))) (nI 2)) zc_MD_word zw_573 zw_574 (by decide) (trivial) hE rfl hl.1 rfl (Nat.le_of_ble_eq_true rfl) d_MD_entryOf_69) ?_
      refine zRd (rest := [.int (nI (zs_two B (2 + 8 * i + 6)))]) (zrV hS9 (c_MD_sign l D cI cC cJ gg ft n0 n2 n3 rt rd n4 e0 e2 e3 e5 e4 (by omega) (by omega) (by omega) (by omega) B hB (2 + 8 * i) (2 + 8 * i + 6) (by omega) (by omega) (zs_word (nI (zs_z B (2 + 8 * i) (S k))) (nI (zs_pw 2 (S k))) (nI 2))) zc_MD_sign zw_585 zw_587 zp_31 (by decide) (va_recv hE.1 hP (ci := 2) (q := (R_MD, F_MD, 12)) rfl (q0 := 0) rfl) (hP) hE rfl hl.1 rfl (Nat.le_of_ble_eq_true rfl) d_MD_entryOf_72) ?_
      have l2 := zs_sg_lt B (2 + 8 * i) (2 + 8 * i + 6) (zs_word (nI (zs_z B (2 + 8 * i) (S k))) (nI (zs_pw 2 (S k))) (nI 2))
      have l1 : zs_two B (2 + 8 * i + 6) < 65536 := zs_two_lt ((hB (2 + 8 * i + 6) (show 2 + 8 * i + 6 < n3 by omega)).2) ((hB (2 + 8 * i + 6 + 1) (show 2 + 8 * i + 6 + 1 < n3 by omega)).2)
      by_cases gg9 : zs_two B (2 + 8 * i + 6) = zs_sg B (2 + 8 * i) (2 + 8 * i + 6) (zs_word (nI (zs_z B (2 + 8 * i) (S k))) (nI (zs_pw 2 (S k))) (nI 2))
      · refine lv_icmp_ne hx hb d_MD_entryOf_75 (tgt := 81) (by decide) (fun z9 => absurd (by rw [gg9]) z9) (fun _ => ?_)
        refine lv_iload hx hb d_MD_entryOf_78 (lv_at hl 1 rfl) ?_
        exact W.iret (v := (nI (2 + 8 * i))) hx hb hr (fun t ht _ => ⟨congrArg (fun z => Outcome.returned (some (Value.int z))) (by rw [← he, zs_ent, if_pos gg9]), ht⟩) t_nil d_MD_entryOf_80
      · refine lv_icmp_ne hx hb d_MD_entryOf_75 (tgt := 81) (by decide) (fun _ => ?_) (fun z9 => absurd z9 (fun z => gg9 ((nI_eq (by omega) (by omega)).mp z)))
        refine lv_iinc (k := 2) (v := nI (i + 1)) hx hb d_MD_entryOf_81 hl rfl (nI_1 i) (by decide) (lv' := [(3, .int (nI (i + 1))), (5, .int (nI (zs_z B (2 + 8 * i) (S k)))), (4, .int (nI (2 + 8 * i))), (2, .int (nI (zs_pw 2 (S k)))), (0, .ref (gg 0)), (1, .int (nI k))]) rfl (fun ls hl => ?_)
        refine lv_goto hx hb d_MD_entryOf_84 (tgt := 13) (by decide) ?_
        have hl : lv_has ls 6 [(3, .int (nI (i + 1))), (2, .int (nI (zs_pw 2 (S k)))), (0, .ref (gg 0)), (1, .int (nI k))] := lv_sub hl [0, 3, 4, 5] rfl
        exact ih (i + 1) (by omega) (by rw [zs_ent, if_neg gg9] at he; exact he) ls hl
  exact loop (B 1) 0 (by omega) rfl ls hl

set_option maxHeartbeats 4000000 in
set_option maxRecDepth 100000 in
theorem c_MD_piece (l : Launch) (D : va_G) (cI cC cJ : ClassId) (gg : Nat → Nat) (ft : Int32) (n0 n2 n3 rt rd n4 : Nat) (e0 e2 e3 e5 e4 : Nat → Int32) (hn0 : n0 ≤ 4) (hn2 : n2 ≤ 40) (hn3 : n3 ≤ 120) (hn4 : n4 ≤ 160) (B : Nat → Nat) (hB : zs_hold 256 e3 (n3, B)) (a n k t : Nat) (f : Int32) (hr9 : a + n + 2 ≤ n3) (ht9 : t < 2) : Met l y_MD_piece (zw k_MD_piece) ({ frames := 2, cells := 0, slots := 0, locals := 44 }) (zPc [.ref (gg 0), .int (nI a), .int (nI n), .int (nI k), .int f, .int (nI t)] (fun H => va_P D zcl (zMd cI cC gg ft n0 n2 n3 rt rd n4 e0 e2 e3 e5 e4) H) D cI cC cJ) (QcRead (zs_pcode B a (a + n) f k t)) 0 0 (fun _ => False) := by
  refine zMet (by decide) (Nat.le_of_ble_eq_true rfl) ?_
  intro p e s m below meth c hx hb hr hg hown hlk hml hP hE ls hl
  have hl : lv_has ls 7 [(0, .ref (gg 0)), (1, .int (nI a)), (2, .int (nI n)), (3, .int (nI k)), (4, .int f), (5, .int (nI t))] := hl
  have hS9 : CallFix p m c b_MD_piece 7 s [.ref (gg 0), .int (nI a), .int (nI n), .int (nI k), .int f, .int (nI t)].toArray zg "SealedFilesModel" := ⟨hx, hb, hml, hown, hg⟩
  have hP : va_P D zcl [((gg 0), .inr (2, [.int ft, .int (nI n0), .ref (gg 1), .int (nI n2), .int (nI n3), .int (nI rt), .ref (gg 2), .ref (gg 3), .ref (gg 4), .int (nI rd), .int (nI n4), .ref (gg 5)])), ((gg 1), .inl (cI, 4, .inl e0)), ((gg 2), .inl (cI, 40, .inl e2)), ((gg 3), .inl (cI, 120, .inl e3)), ((gg 4), .inl (cI, 40, .inl e5)), ((gg 5), .inl (cC, 160, .inl e4))] s.heap := hP
  have l1 : zs_two B (a + n) < 65536 := zs_two_lt ((hB (a + n) (show a + n < n3 by omega)).2) ((hB (a + n + 1) (show a + n + 1 < n3 by omega)).2)
  refine lv_aload_n hx hb d_MD_piece_0 rfl (lv_at hl 0 rfl) ?_
  refine lv_iload_n hx hb d_MD_piece_1 rfl (lv_at hl 1 rfl) ?_
  refine lv_iload_n hx hb d_MD_piece_2 rfl (lv_at hl 2 rfl) ?_
  refine lv_iadd hx hb d_MD_piece_3 ?_
  refine ztop (y := nI (a + n)) (nI_add _ _) ?_
  refine zRd (rest := []) (zrV hS9 (c_MD_two l D cI cC cJ gg ft n0 n2 n3 rt rd n4 e0 e2 e3 e5 e4 (by omega) (by omega) (by omega) (by omega) B hB (a + n) (by omega)) zc_MD_two zw_599 zw_601 zp_33 (by decide) (va_recv hE.1 hP (ci := 2) (q := (R_MD, F_MD, 12)) rfl (q0 := 0) rfl) (hP) hE rfl hl.1 rfl (Nat.le_of_ble_eq_true rfl) d_MD_piece_4) ?_
  refine lv_istore hx hb d_MD_piece_7 hl (by decide) (lv' := [(6, .int (nI (zs_two B (a + n)))), (0, .ref (gg 0)), (1, .int (nI a)), (2, .int (nI n)), (3, .int (nI k)), (4, .int f), (5, .int (nI t))]) rfl (fun ls hl => ?_)
  refine lv_iload hx hb d_MD_piece_9 (lv_at hl 0 rfl) ?_
  refine lv_aload_n hx hb d_MD_piece_11 rfl (lv_at hl 1 rfl) ?_
  refine lv_iload_n hx hb d_MD_piece_12 rfl (lv_at hl 2 rfl) ?_
  refine lv_iload_n hx hb d_MD_piece_13 rfl (lv_at hl 2 rfl) ?_
  refine lv_iload_n hx hb d_MD_piece_14 rfl (lv_at hl 3 rfl) ?_
  refine lv_iadd hx hb d_MD_piece_15 ?_
  refine ztop (y := nI (a + n)) (nI_add _ _) ?_
  refine lv_iload hx hb d_MD_piece_16 (lv_at hl 5 rfl) ?_
  refine lv_iload_n hx hb d_MD_piece_18 rfl (lv_at hl 4 rfl) ?_
  refine lv_iload hx hb d_MD_piece_19 (lv_at hl 6 rfl) ?_
  by_cases h9 : t = 0
  · refine lv_if_eq hx hb d_MD_piece_21 (tgt := 29) (by decide) (fun _ => ?_) (fun z9 => absurd (by rw [h9]; rfl) z9)
    refine lv_iconst (v := (nI 5)) hx hb d_MD_piece_29 (by decide) ?_
    refine ztop (y := zs_use t) (by rw [zs_use, if_pos h9]) ?_
    refine zRd (rest := [.int (nI (a + n)), .int (nI a), .ref (gg 0), .int (nI (zs_two B (a + n)))]) (zrS hS9 (c_MD_word l D cI cC cJ f (nI k) (zs_use t)) zc_MD_word zw_573 zw_574 (by decide) (trivial) hE rfl hl.1 rfl (Nat.le_of_ble_eq_true rfl) d_MD_piece_30) ?_
    refine zRd (rest := [.int (nI (zs_two B (a + n)))]) (zrV hS9 (c_MD_sign l D cI cC cJ gg ft n0 n2 n3 rt rd n4 e0 e2 e3 e5 e4 (by omega) (by omega) (by omega) (by omega) B hB a (a + n) (by omega) (by omega) (zs_word f (nI k) (zs_use t))) zc_MD_sign zw_585 zw_587 zp_31 (by decide) (va_recv hE.1 hP (ci := 2) (q := (R_MD, F_MD, 12)) rfl (q0 := 0) rfl) (hP) hE rfl hl.1 rfl (Nat.le_of_ble_eq_true rfl) d_MD_piece_33) ?_
    have l2 := zs_sg_lt B a (a + n) (zs_word f (nI k) (zs_use t))
    by_cases g1 : zs_two B (a + n) = zs_sg B a (a + n) (zs_word f (nI k) (zs_use t))
    · refine lv_icmp_ne hx hb d_MD_piece_36 (tgt := 41) (by decide) (fun z9 => absurd (by rw [g1]) z9) (fun _ => ?_)
      refine lv_iconst (v := (nI 0)) hx hb d_MD_piece_39 (by decide) ?_
      exact W.iret (v := (nI 0)) hx hb hr (fun t ht _ => ⟨congrArg (fun z => Outcome.returned (some (Value.int z))) (by rw [zs_pcode, if_pos g1]), ht⟩) t_nil d_MD_piece_40
    · refine lv_icmp_ne hx hb d_MD_piece_36 (tgt := 41) (by decide) (fun _ => ?_) (fun z9 => absurd z9 (fun z => g1 ((nI_eq (by omega) (by omega)).mp z)))
      refine lv_iload hx hb d_MD_piece_41 (lv_at hl 0 rfl) ?_
      refine lv_aload_n hx hb d_MD_piece_43 rfl (lv_at hl 1 rfl) ?_
      refine lv_iload_n hx hb d_MD_piece_44 rfl (lv_at hl 2 rfl) ?_
      refine lv_iload_n hx hb d_MD_piece_45 rfl (lv_at hl 2 rfl) ?_
      refine lv_iload_n hx hb d_MD_piece_46 rfl (lv_at hl 3 rfl) ?_
      refine lv_iadd hx hb d_MD_piece_47 ?_
      refine ztop (y := nI (a + n)) (nI_add _ _) ?_
      refine lv_iload hx hb d_MD_piece_48 (lv_at hl 5 rfl) ?_
      refine lv_iload_n hx hb d_MD_piece_50 rfl (lv_at hl 4 rfl) ?_
      refine lv_iload hx hb d_MD_piece_51 (lv_at hl 6 rfl) ?_
      refine lv_if_eq hx hb d_MD_piece_53 (tgt := 60) (by decide) (fun _ => ?_) (fun z9 => absurd (by rw [h9]; rfl) z9)
      refine lv_bipush (v := (nI 6)) hx hb d_MD_piece_60 (by decide) ?_
      refine ztop (y := zs_use (1 - t)) (by rw [zs_use, if_neg (by omega)]) ?_
      refine zRd (rest := [.int (nI (a + n)), .int (nI a), .ref (gg 0), .int (nI (zs_two B (a + n)))]) (zrS hS9 (c_MD_word l D cI cC cJ f (nI k) (zs_use (1 - t))) zc_MD_word zw_573 zw_574 (by decide) (trivial) hE rfl hl.1 rfl (Nat.le_of_ble_eq_true rfl) d_MD_piece_62) ?_
      refine zRd (rest := [.int (nI (zs_two B (a + n)))]) (zrV hS9 (c_MD_sign l D cI cC cJ gg ft n0 n2 n3 rt rd n4 e0 e2 e3 e5 e4 (by omega) (by omega) (by omega) (by omega) B hB a (a + n) (by omega) (by omega) (zs_word f (nI k) (zs_use (1 - t)))) zc_MD_sign zw_585 zw_587 zp_31 (by decide) (va_recv hE.1 hP (ci := 2) (q := (R_MD, F_MD, 12)) rfl (q0 := 0) rfl) (hP) hE rfl hl.1 rfl (Nat.le_of_ble_eq_true rfl) d_MD_piece_65) ?_
      have l3 := zs_sg_lt B a (a + n) (zs_word f (nI k) (zs_use (1 - t)))
      by_cases g2 : zs_two B (a + n) = zs_sg B a (a + n) (zs_word f (nI k) (zs_use (1 - t)))
      · refine lv_icmp_ne hx hb d_MD_piece_68 (tgt := 76) (by decide) (fun z9 => absurd (by rw [g2]) z9) (fun _ => ?_)
        refine lv_bipush (v := (-5)) hx hb d_MD_piece_71 (by decide) ?_
        refine lv_goto hx hb d_MD_piece_73 (tgt := 78) (by decide) ?_
        exact W.iret (v := (-5)) hx hb hr (fun t ht _ => ⟨congrArg (fun z => Outcome.returned (some (Value.int z))) (by rw [zs_pcode, if_neg g1, if_pos g2]), ht⟩) t_nil d_MD_piece_78
      · refine lv_icmp_ne hx hb d_MD_piece_68 (tgt := 76) (by decide) (fun _ => ?_) (fun z9 => absurd z9 (fun z => g2 ((nI_eq (by omega) (by omega)).mp z)))
        refine lv_bipush (v := (-4)) hx hb d_MD_piece_76 (by decide) ?_
        exact W.iret (v := (-4)) hx hb hr (fun t ht _ => ⟨congrArg (fun z => Outcome.returned (some (Value.int z))) (by rw [zs_pcode, if_neg g1, if_neg g2]), ht⟩) t_nil d_MD_piece_78
  · refine lv_if_eq hx hb d_MD_piece_21 (tgt := 29) (by decide) (fun z9 => absurd z9 (nI_ne0 (by omega) (by omega))) (fun _ => ?_)
    refine lv_bipush (v := (nI 6)) hx hb d_MD_piece_24 (by decide) ?_
    refine lv_goto hx hb d_MD_piece_26 (tgt := 30) (by decide) ?_
    refine ztop (y := zs_use t) (by rw [zs_use, if_neg h9]) ?_
    refine zRd (rest := [.int (nI (a + n)), .int (nI a), .ref (gg 0), .int (nI (zs_two B (a + n)))]) (zrS hS9 (c_MD_word l D cI cC cJ f (nI k) (zs_use t)) zc_MD_word zw_573 zw_574 (by decide) (trivial) hE rfl hl.1 rfl (Nat.le_of_ble_eq_true rfl) d_MD_piece_30) ?_
    refine zRd (rest := [.int (nI (zs_two B (a + n)))]) (zrV hS9 (c_MD_sign l D cI cC cJ gg ft n0 n2 n3 rt rd n4 e0 e2 e3 e5 e4 (by omega) (by omega) (by omega) (by omega) B hB a (a + n) (by omega) (by omega) (zs_word f (nI k) (zs_use t))) zc_MD_sign zw_585 zw_587 zp_31 (by decide) (va_recv hE.1 hP (ci := 2) (q := (R_MD, F_MD, 12)) rfl (q0 := 0) rfl) (hP) hE rfl hl.1 rfl (Nat.le_of_ble_eq_true rfl) d_MD_piece_33) ?_
    have l2 := zs_sg_lt B a (a + n) (zs_word f (nI k) (zs_use t))
    by_cases g1 : zs_two B (a + n) = zs_sg B a (a + n) (zs_word f (nI k) (zs_use t))
    · refine lv_icmp_ne hx hb d_MD_piece_36 (tgt := 41) (by decide) (fun z9 => absurd (by rw [g1]) z9) (fun _ => ?_)
      refine lv_iconst (v := (nI 0)) hx hb d_MD_piece_39 (by decide) ?_
      exact W.iret (v := (nI 0)) hx hb hr (fun t ht _ => ⟨congrArg (fun z => Outcome.returned (some (Value.int z))) (by rw [zs_pcode, if_pos g1]), ht⟩) t_nil d_MD_piece_40
    · refine lv_icmp_ne hx hb d_MD_piece_36 (tgt := 41) (by decide) (fun _ => ?_) (fun z9 => absurd z9 (fun z => g1 ((nI_eq (by omega) (by omega)).mp z)))
      refine lv_iload hx hb d_MD_piece_41 (lv_at hl 0 rfl) ?_
      refine lv_aload_n hx hb d_MD_piece_43 rfl (lv_at hl 1 rfl) ?_
      refine lv_iload_n hx hb d_MD_piece_44 rfl (lv_at hl 2 rfl) ?_
      refine lv_iload_n hx hb d_MD_piece_45 rfl (lv_at hl 2 rfl) ?_
      refine lv_iload_n hx hb d_MD_piece_46 rfl (lv_at hl 3 rfl) ?_
      refine lv_iadd hx hb d_MD_piece_47 ?_
      refine ztop (y := nI (a + n)) (nI_add _ _) ?_
      refine lv_iload hx hb d_MD_piece_48 (lv_at hl 5 rfl) ?_
      refine lv_iload_n hx hb d_MD_piece_50 rfl (lv_at hl 4 rfl) ?_
      refine lv_iload hx hb d_MD_piece_51 (lv_at hl 6 rfl) ?_
      refine lv_if_eq hx hb d_MD_piece_53 (tgt := 60) (by decide) (fun z9 => absurd z9 (nI_ne0 (by omega) (by omega))) (fun _ => ?_)
      refine lv_iconst (v := (nI 5)) hx hb d_MD_piece_56 (by decide) ?_
      refine lv_goto hx hb d_MD_piece_57 (tgt := 62) (by decide) ?_
      refine ztop (y := zs_use (1 - t)) (by rw [zs_use, if_pos (by omega)]) ?_
      refine zRd (rest := [.int (nI (a + n)), .int (nI a), .ref (gg 0), .int (nI (zs_two B (a + n)))]) (zrS hS9 (c_MD_word l D cI cC cJ f (nI k) (zs_use (1 - t))) zc_MD_word zw_573 zw_574 (by decide) (trivial) hE rfl hl.1 rfl (Nat.le_of_ble_eq_true rfl) d_MD_piece_62) ?_
      refine zRd (rest := [.int (nI (zs_two B (a + n)))]) (zrV hS9 (c_MD_sign l D cI cC cJ gg ft n0 n2 n3 rt rd n4 e0 e2 e3 e5 e4 (by omega) (by omega) (by omega) (by omega) B hB a (a + n) (by omega) (by omega) (zs_word f (nI k) (zs_use (1 - t)))) zc_MD_sign zw_585 zw_587 zp_31 (by decide) (va_recv hE.1 hP (ci := 2) (q := (R_MD, F_MD, 12)) rfl (q0 := 0) rfl) (hP) hE rfl hl.1 rfl (Nat.le_of_ble_eq_true rfl) d_MD_piece_65) ?_
      have l3 := zs_sg_lt B a (a + n) (zs_word f (nI k) (zs_use (1 - t)))
      by_cases g2 : zs_two B (a + n) = zs_sg B a (a + n) (zs_word f (nI k) (zs_use (1 - t)))
      · refine lv_icmp_ne hx hb d_MD_piece_68 (tgt := 76) (by decide) (fun z9 => absurd (by rw [g2]) z9) (fun _ => ?_)
        refine lv_bipush (v := (-5)) hx hb d_MD_piece_71 (by decide) ?_
        refine lv_goto hx hb d_MD_piece_73 (tgt := 78) (by decide) ?_
        exact W.iret (v := (-5)) hx hb hr (fun t ht _ => ⟨congrArg (fun z => Outcome.returned (some (Value.int z))) (by rw [zs_pcode, if_neg g1, if_pos g2]), ht⟩) t_nil d_MD_piece_78
      · refine lv_icmp_ne hx hb d_MD_piece_68 (tgt := 76) (by decide) (fun _ => ?_) (fun z9 => absurd z9 (fun z => g2 ((nI_eq (by omega) (by omega)).mp z)))
        refine lv_bipush (v := (-4)) hx hb d_MD_piece_76 (by decide) ?_
        exact W.iret (v := (-4)) hx hb hr (fun t ht _ => ⟨congrArg (fun z => Outcome.returned (some (Value.int z))) (by rw [zs_pcode, if_neg g1, if_neg g2]), ht⟩) t_nil d_MD_piece_78

set_option maxHeartbeats 4000000 in
set_option maxRecDepth 100000 in
theorem c_MD_uncover (l : Launch) (D : va_G) (cI cC cJ : ClassId) (gg : Nat → Nat) (ft : Int32) (n0 n2 n3 rt rd n4 : Nat) (e0 e2 e3 e5 e4 : Nat → Int32) (hn0 : n0 ≤ 4) (hn2 : n2 ≤ 40) (hn3 : n3 ≤ 120) (hn4 : n4 ≤ 160) (hh : zm_inj gg) (B : Nat → Nat) (hB : zs_hold 256 e3 (n3, B)) (O : Nat → Nat) (hO : zs_hold 256 e5 (rd, O)) (hrd : rd ≤ 40) (f : Int32) (a n k : Nat) (hr9 : a + n ≤ n3) : Met l y_MD_uncover (zw k_MD_uncover) ({ frames := 2, cells := 0, slots := 0, locals := 44 }) (zPc [.ref (gg 0), .int (nI a), .int (nI n), .int (nI k), .int f] (fun H => va_P D zcl (zMd cI cC gg ft n0 n2 n3 rt rd n4 e0 e2 e3 e5 e4) H) D cI cC cJ) (zQm none (fun H => ∃ e5' : Nat → Int32, zs_hold 256 e5' (zs_unc B f k a (rd, O) n) ∧ va_P D zcl (zMd cI cC gg ft n0 n2 n3 rt ((zs_unc B f k a (rd, O) n).1) n4 e0 e2 e3 (e5') e4) H) (zAM gg)) 0 0 (zAM gg) := by
  refine zMet (by decide) (Nat.le_of_ble_eq_true rfl) ?_
  intro p e s m below meth c hx hb hr hg hown hlk hml hP hE ls hl
  have hl : lv_has ls 6 [(0, .ref (gg 0)), (1, .int (nI a)), (2, .int (nI n)), (3, .int (nI k)), (4, .int f)] := hl
  have hS9 : CallFix p m c b_MD_uncover 6 s [.ref (gg 0), .int (nI a), .int (nI n), .int (nI k), .int f].toArray zg "SealedFilesModel" := ⟨hx, hb, hml, hown, hg⟩
  have hP : va_P D zcl [((gg 0), .inr (2, [.int ft, .int (nI n0), .ref (gg 1), .int (nI n2), .int (nI n3), .int (nI rt), .ref (gg 2), .ref (gg 3), .ref (gg 4), .int (nI rd), .int (nI n4), .ref (gg 5)])), ((gg 1), .inl (cI, 4, .inl e0)), ((gg 2), .inl (cI, 40, .inl e2)), ((gg 3), .inl (cI, 120, .inl e3)), ((gg 4), .inl (cI, 40, .inl e5)), ((gg 5), .inl (cC, 160, .inl e4))] s.heap := hP
  have hD : va_D (zAM gg) [((gg 0), .inr (2, [.int ft, .int (nI n0), .ref (gg 1), .int (nI n2), .int (nI n3), .int (nI rt), .ref (gg 2), .ref (gg 3), .ref (gg 4), .int (nI rd), .int (nI n4), .ref (gg 5)])), ((gg 1), .inl (cI, 4, .inl e0)), ((gg 2), .inl (cI, 40, .inl e2)), ((gg 3), .inl (cI, 120, .inl e3)), ((gg 4), .inl (cI, 40, .inl e5)), ((gg 5), .inl (cC, 160, .inl e4))] := zMd_D hh
  have hS : va_S (zAM gg) s.heap s.heap [] := va_S.rf
  refine lv_iconst (v := (nI 0)) hx hb d_MD_uncover_0 (by decide) ?_
  refine lv_istore hx hb d_MD_uncover_1 hl (by decide) (lv' := [(5, .int (nI 0)), (0, .ref (gg 0)), (1, .int (nI a)), (2, .int (nI n)), (3, .int (nI k)), (4, .int f)]) rfl (fun ls hl => ?_)
  have hl : lv_has ls 6 [(5, .int (nI 0)), (0, .ref (gg 0)), (1, .int (nI a)), (2, .int (nI n)), (3, .int (nI k)), (4, .int f)] := lv_sub hl [0, 1, 2, 3, 4, 5] rfl
  have loop : ∀ (k_ : Nat) (j : Nat) (ex : Nat → Int32) (H : Heap) (locs : List Loc), j + k_ = n → zs_hold 256 ex (zs_unc B f k a (rd, O) j) → va_P D zcl (zMd cI cC gg ft n0 n2 n3 rt ((zs_unc B f k a (rd, O) j).1) n4 e0 e2 e3 ex e4) H → va_S (zAM gg) s.heap H locs → ∀ ls : Array Slot, lv_has ls 6 [(5, .int (nI j)), (0, .ref (gg 0)), (1, .int (nI a)), (2, .int (nI n)), (3, .int (nI k)), (4, .int f)] → W p l e ({ frames := 2, cells := 0, slots := 0, locals := 44 }) s m [.ref (gg 0), .int (nI a), .int (nI n), .int (nI k), .int f].toArray below meth c H locs 0 0 (MQ below (zQm none (fun H => ∃ e5' : Nat → Int32, zs_hold 256 e5' (zs_unc B f k a (rd, O) n) ∧ va_P D zcl (zMd cI cC gg ft n0 n2 n3 rt ((zs_unc B f k a (rd, O) n).1) n4 e0 e2 e3 (e5') e4) H) (zAM gg)) [.ref (gg 0), .int (nI a), .int (nI n), .int (nI k), .int f].toArray s 0 0 (zAM gg)) (F0 m 3 ls []) := by
    intro k_
    induction k_ with
    | zero =>
      intro j ex H locs hj hO hP hS ls hl
      have hP : va_P D zcl [((gg 0), .inr (2, [.int ft, .int (nI n0), .ref (gg 1), .int (nI n2), .int (nI n3), .int (nI rt), .ref (gg 2), .ref (gg 3), .ref (gg 4), .int (nI ((zs_unc B f k a (rd, O) j).1)), .int (nI n4), .ref (gg 5)])), ((gg 1), .inl (cI, 4, .inl e0)), ((gg 2), .inl (cI, 40, .inl e2)), ((gg 3), .inl (cI, 120, .inl e3)), ((gg 4), .inl (cI, 40, .inl ex)), ((gg 5), .inl (cC, 160, .inl e4))] H := hP
      have hD : va_D (zAM gg) [((gg 0), .inr (2, [.int ft, .int (nI n0), .ref (gg 1), .int (nI n2), .int (nI n3), .int (nI rt), .ref (gg 2), .ref (gg 3), .ref (gg 4), .int (nI ((zs_unc B f k a (rd, O) j).1)), .int (nI n4), .ref (gg 5)])), ((gg 1), .inl (cI, 4, .inl e0)), ((gg 2), .inl (cI, 40, .inl e2)), ((gg 3), .inl (cI, 120, .inl e3)), ((gg 4), .inl (cI, 40, .inl ex)), ((gg 5), .inl (cC, 160, .inl e4))] := zMd_D hh
      refine lv_iload hx hb d_MD_uncover_3 (lv_at hl 0 rfl) ?_
      refine lv_iload_n hx hb d_MD_uncover_5 rfl (lv_at hl 3 rfl) ?_
      refine lv_icmp_ge hx hb d_MD_uncover_6 (tgt := 70) (by decide) (fun _ => ?_) (fun z9 => absurd (nI_le (by omega) (by omega)) z9)
      obtain rfl : j = n := by omega
      exact W.vret hx hb hr (fun t ht _ => ⟨rfl, by rw [ht]; exact ⟨ex, hO, hP⟩, hS.F ht⟩) hS.2.2 d_MD_uncover_70
    | succ k_ ih =>
      intro j ex H locs hj hO hP hS ls hl
      have hP : va_P D zcl [((gg 0), .inr (2, [.int ft, .int (nI n0), .ref (gg 1), .int (nI n2), .int (nI n3), .int (nI rt), .ref (gg 2), .ref (gg 3), .ref (gg 4), .int (nI ((zs_unc B f k a (rd, O) j).1)), .int (nI n4), .ref (gg 5)])), ((gg 1), .inl (cI, 4, .inl e0)), ((gg 2), .inl (cI, 40, .inl e2)), ((gg 3), .inl (cI, 120, .inl e3)), ((gg 4), .inl (cI, 40, .inl ex)), ((gg 5), .inl (cC, 160, .inl e4))] H := hP
      have hD : va_D (zAM gg) [((gg 0), .inr (2, [.int ft, .int (nI n0), .ref (gg 1), .int (nI n2), .int (nI n3), .int (nI rt), .ref (gg 2), .ref (gg 3), .ref (gg 4), .int (nI ((zs_unc B f k a (rd, O) j).1)), .int (nI n4), .ref (gg 5)])), ((gg 1), .inl (cI, 4, .inl e0)), ((gg 2), .inl (cI, 40, .inl e2)), ((gg 3), .inl (cI, 120, .inl e3)), ((gg 4), .inl (cI, 40, .inl ex)), ((gg 5), .inl (cC, 160, .inl e4))] := zMd_D hh
      have hle := zs_unc_le B f k a (F := (rd, O)) hrd j
      refine lv_iload hx hb d_MD_uncover_3 (lv_at hl 0 rfl) ?_
      refine lv_iload_n hx hb d_MD_uncover_5 rfl (lv_at hl 3 rfl) ?_
      refine lv_icmp_ge hx hb d_MD_uncover_6 (tgt := 70) (by decide) (fun z9 => absurd z9 (nI_ge (by omega) (by omega))) (fun _ => ?_)
      refine lv_aload_n hx hb d_MD_uncover_9 rfl (lv_at hl 1 rfl) ?_
      refine va_get (D := D) (ci := 2) (v := .int (nI ((zs_unc B f k a (rd, O) j).1))) (C := R_MD) (T := F_MD) (N := 12) hx hb hg i_MD hown hE.1 hP 0 rfl rfl 9 (by decide) (hg _ zw_497) (fun _ h9 => h9) rfl d_MD_uncover_10 ?_
      refine lv_bipush (v := (nI 40)) hx hb d_MD_uncover_13 (by decide) ?_
      by_cases g : (zs_unc B f k a (rd, O) j).1 < 40
      · refine lv_icmp_ge hx hb d_MD_uncover_15 (tgt := 64) (by decide) (fun z9 => absurd z9 (nI_ge g (by omega))) (fun _ => ?_)
        refine lv_aload_n hx hb d_MD_uncover_18 rfl (lv_at hl 1 rfl) ?_
        refine va_get (D := D) (ci := 2) (v := .ref (gg 4)) (C := R_MD) (T := F_MD) (N := 12) hx hb hg i_MD hown hE.1 hP 0 rfl rfl 8 (by decide) (hg _ zw_496) (fun _ h9 => h9) rfl d_MD_uncover_19 ?_
        refine lv_aload_n hx hb d_MD_uncover_22 rfl (lv_at hl 1 rfl) ?_
        refine va_get (D := D) (ci := 2) (v := .int (nI ((zs_unc B f k a (rd, O) j).1))) (C := R_MD) (T := F_MD) (N := 12) hx hb hg i_MD hown hE.1 hP 0 rfl rfl 9 (by decide) (hg _ zw_497) (fun _ h9 => h9) rfl d_MD_uncover_23 ?_
        refine lv_aload_n hx hb d_MD_uncover_26 rfl (lv_at hl 1 rfl) ?_
        refine va_get (D := D) (ci := 2) (v := .ref (gg 3)) (C := R_MD) (T := F_MD) (N := 12) hx hb hg i_MD hown hE.1 hP 0 rfl rfl 7 (by decide) (hg _ zw_495) (fun _ h9 => h9) rfl d_MD_uncover_27 ?_
        refine lv_iload_n hx hb d_MD_uncover_30 rfl (lv_at hl 2 rfl) ?_
        refine lv_iload hx hb d_MD_uncover_31 (lv_at hl 0 rfl) ?_
        refine lv_iadd hx hb d_MD_uncover_33 ?_
        refine ztop (y := nI (a + j)) (nI_add _ _) ?_
        refine zald hx hb hE.1 hP 3 0 rfl rfl (by omega) (by decide) d_MD_uncover_34 ?_
        refine ztop (y := nI (B (a + j))) ((hB (a + j) (show a + j < n3 by omega)).1) ?_
        refine lv_iload hx hb d_MD_uncover_35 (lv_at hl 5 rfl) ?_
        refine lv_bipush (v := (nI 16)) hx hb d_MD_uncover_37 (by decide) ?_
        refine lv_iload_n hx hb d_MD_uncover_39 rfl (lv_at hl 4 rfl) ?_
        refine lv_imul hx hb d_MD_uncover_40 ?_
        refine lv_iload hx hb d_MD_uncover_41 (lv_at hl 0 rfl) ?_
        refine lv_iadd hx hb d_MD_uncover_43 ?_
        refine ztop (y := nI (16 * k + j)) (by rw [pk_mul, nI_add]) ?_
        refine lv_iconst (v := (nI 4)) hx hb d_MD_uncover_44 (by decide) ?_
        refine zRd (rest := [.int (nI (B (a + j))), .int (nI ((zs_unc B f k a (rd, O) j).1)), .ref (gg 4)]) (zrS hS9 (c_MD_word l D cI cC cJ f (nI (16 * k + j)) (nI 4)) zc_MD_word zw_573 zw_574 (by decide) (trivial) hE rfl hl.1 rfl (Nat.le_of_ble_eq_true rfl) d_MD_uncover_45) ?_
        refine lv_sipush (v := (nI 255)) hx hb d_MD_uncover_48 (by decide) ?_
        refine lv_iand hx hb d_MD_uncover_51 ?_
        refine lv_ixor hx hb d_MD_uncover_52 ?_
        refine ztop (y := nI (zs_cv (B (a + j)) f k j)) (zs_cv_i _ _) ?_
        have hm8 : B (a + j) < 256 := (hB (a + j) (show a + j < n3 by omega)).2
        refine zast hx hb hE.1 hP hD hS 4 0 rfl rfl (g) (by decide) d_MD_uncover_53 (fun H locs hP hD hS => ?_)
        have hP : va_P D zcl [((gg 0), .inr (2, [.int ft, .int (nI n0), .ref (gg 1), .int (nI n2), .int (nI n3), .int (nI rt), .ref (gg 2), .ref (gg 3), .ref (gg 4), .int (nI ((zs_unc B f k a (rd, O) j).1)), .int (nI n4), .ref (gg 5)])), ((gg 1), .inl (cI, 4, .inl e0)), ((gg 2), .inl (cI, 40, .inl e2)), ((gg 3), .inl (cI, 120, .inl e3)), ((gg 4), .inl (cI, 40, .inl (upd ex ((zs_unc B f k a (rd, O) j).1) (nI (zs_cv (B (a + j)) f k j))))), ((gg 5), .inl (cC, 160, .inl e4))] H := hP
        have hD : va_D (zAM gg) [((gg 0), .inr (2, [.int ft, .int (nI n0), .ref (gg 1), .int (nI n2), .int (nI n3), .int (nI rt), .ref (gg 2), .ref (gg 3), .ref (gg 4), .int (nI ((zs_unc B f k a (rd, O) j).1)), .int (nI n4), .ref (gg 5)])), ((gg 1), .inl (cI, 4, .inl e0)), ((gg 2), .inl (cI, 40, .inl e2)), ((gg 3), .inl (cI, 120, .inl e3)), ((gg 4), .inl (cI, 40, .inl (upd ex ((zs_unc B f k a (rd, O) j).1) (nI (zs_cv (B (a + j)) f k j))))), ((gg 5), .inl (cC, 160, .inl e4))] := hD
        refine lv_aload_n hx hb d_MD_uncover_54 rfl (lv_at hl 1 rfl) ?_
        refine lv_dup hx hb d_MD_uncover_55 rfl ?_
        refine va_get (D := D) (ci := 2) (v := .int (nI ((zs_unc B f k a (rd, O) j).1))) (C := R_MD) (T := F_MD) (N := 12) hx hb hg i_MD hown hE.1 hP 0 rfl rfl 9 (by decide) (hg _ zw_497) (fun _ h9 => h9) rfl d_MD_uncover_56 ?_
        refine lv_iconst (v := (nI 1)) hx hb d_MD_uncover_59 (by decide) ?_
        refine lv_iadd hx hb d_MD_uncover_60 ?_
        refine ztop (y := nI ((zs_unc B f k a (rd, O) j).1 + 1)) (nI_1 _) ?_
        refine va_put (D := D) (ci := 2) (v := .int (nI ((zs_unc B f k a (rd, O) j).1 + 1))) (ty := .int) (C := R_MD) (T := F_MD) (N := 12) hx hb hg i_MD t_MD t_MD_ok n_MD hown hE.1 hP hD hS 0 rfl rfl 9 (by decide) (hg _ zw_497) (fun _ h9 => h9) rfl (by decide +kernel) rfl rfl (Nat.le_of_ble_eq_true rfl) d_MD_uncover_61 (fun H locs hP hD hS => ?_)
        have hP : va_P D zcl [((gg 0), .inr (2, [.int ft, .int (nI n0), .ref (gg 1), .int (nI n2), .int (nI n3), .int (nI rt), .ref (gg 2), .ref (gg 3), .ref (gg 4), .int (nI ((zs_unc B f k a (rd, O) j).1 + 1)), .int (nI n4), .ref (gg 5)])), ((gg 1), .inl (cI, 4, .inl e0)), ((gg 2), .inl (cI, 40, .inl e2)), ((gg 3), .inl (cI, 120, .inl e3)), ((gg 4), .inl (cI, 40, .inl (upd ex ((zs_unc B f k a (rd, O) j).1) (nI (zs_cv (B (a + j)) f k j))))), ((gg 5), .inl (cC, 160, .inl e4))] H := hP
        have hD : va_D (zAM gg) [((gg 0), .inr (2, [.int ft, .int (nI n0), .ref (gg 1), .int (nI n2), .int (nI n3), .int (nI rt), .ref (gg 2), .ref (gg 3), .ref (gg 4), .int (nI ((zs_unc B f k a (rd, O) j).1 + 1)), .int (nI n4), .ref (gg 5)])), ((gg 1), .inl (cI, 4, .inl e0)), ((gg 2), .inl (cI, 40, .inl e2)), ((gg 3), .inl (cI, 120, .inl e3)), ((gg 4), .inl (cI, 40, .inl (upd ex ((zs_unc B f k a (rd, O) j).1) (nI (zs_cv (B (a + j)) f k j))))), ((gg 5), .inl (cC, 160, .inl e4))] := hD
        have hO : zs_hold 256 (upd ex (zs_unc B f k a (rd, O) j).1 (nI (zs_cv (B (a + j)) f k j))) (zs_unc B f k a (rd, O) (j + 1)) := by rw [zs_unc, if_pos g]; exact zs_hold_push hO (zs_cv_lt hm8 f k j)
        have hP : va_P D zcl (zMd cI cC gg ft n0 n2 n3 rt ((zs_unc B f k a (rd, O) (j + 1)).1) n4 e0 e2 e3 (upd ex ((zs_unc B f k a (rd, O) j).1) (nI (zs_cv (B (a + j)) f k j))) e4) H := by rw [zs_unc, if_pos g]; exact hP
        refine lv_iinc (k := 0) (v := nI (j + 1)) hx hb d_MD_uncover_64 hl rfl (nI_1 j) (by decide) (lv' := [(5, .int (nI (j + 1))), (0, .ref (gg 0)), (1, .int (nI a)), (2, .int (nI n)), (3, .int (nI k)), (4, .int f)]) rfl (fun ls hl => ?_)
        refine lv_goto hx hb d_MD_uncover_67 (tgt := 3) (by decide) ?_
        have hl : lv_has ls 6 [(5, .int (nI (j + 1))), (0, .ref (gg 0)), (1, .int (nI a)), (2, .int (nI n)), (3, .int (nI k)), (4, .int f)] := lv_sub hl [0, 1, 2, 3, 4, 5] rfl
        exact ih (j + 1) _ H locs (by omega) hO hP hS ls hl
      · refine lv_icmp_ge hx hb d_MD_uncover_15 (tgt := 64) (by decide) (fun _ => ?_) (fun z9 => absurd (nI_le (by omega) (by omega)) z9)
        have hO : zs_hold 256 ex (zs_unc B f k a (rd, O) (j + 1)) := by rw [zs_unc, if_neg g]; exact hO
        have hP : va_P D zcl (zMd cI cC gg ft n0 n2 n3 rt ((zs_unc B f k a (rd, O) (j + 1)).1) n4 e0 e2 e3 ex e4) H := by rw [zs_unc, if_neg g]; exact hP
        refine lv_iinc (k := 0) (v := nI (j + 1)) hx hb d_MD_uncover_64 hl rfl (nI_1 j) (by decide) (lv' := [(5, .int (nI (j + 1))), (0, .ref (gg 0)), (1, .int (nI a)), (2, .int (nI n)), (3, .int (nI k)), (4, .int f)]) rfl (fun ls hl => ?_)
        refine lv_goto hx hb d_MD_uncover_67 (tgt := 3) (by decide) ?_
        have hl : lv_has ls 6 [(5, .int (nI (j + 1))), (0, .ref (gg 0)), (1, .int (nI a)), (2, .int (nI n)), (3, .int (nI k)), (4, .int f)] := lv_sub hl [0, 1, 2, 3, 4, 5] rfl
        exact ih (j + 1) ex H locs (by omega) hO hP hS ls hl
  exact loop n 0 e5 s.heap [] (by omega) hO hP hS ls hl

