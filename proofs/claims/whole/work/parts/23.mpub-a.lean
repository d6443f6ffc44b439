/-- characters in a draft, by their six bits -/
def zd_hold (e : Nat → Int32) (n : Nat) (E : Nat → Nat) : Prop := ∀ j, j < n → ∃ c : Nat, e j = nI c ∧ c < 65536 ∧ zs_six c = nI (E j) ∧ E j < 64
theorem zd_hold_0 {e : Nat → Int32} {E : Nat → Nat} : zd_hold e 0 E := fun _ h => absurd h (Nat.not_lt_zero _)
/-- a SealedFilesModel as its calls show it -/
def zMo (D : va_G) (cI cC : ClassId) (gg : Nat → Nat) (ft : Int32) (n0 : Nat) (S : Nat → Nat) (n2 : Nat) (M : Nat → Nat) (n3 : Nat) (B : Nat → Nat) (n4 : Nat) (E : Nat → Nat) (rt : Nat) (H : Heap) : Prop :=
  ∃ (rd : Nat) (e0 e2 e3 e5 e4 : Nat → Int32), zs_hold 32748 e0 (n0, S) ∧ zs_hold 256 e2 (n2, M) ∧ zs_hold 256 e3 (n3, B) ∧ zd_hold e4 n4 E ∧ va_P D zcl (zMd cI cC gg ft n0 n2 n3 rt rd n4 e0 e2 e3 e5 e4) H
theorem zo_at_in {n j : Nat} {B : Nat → Nat} (hj : j < n) (hn : n < 2 ^ 31) : zo_at n B (nI j) = nI (B j) := by
  rw [zo_at, zs_has_in hj hn, if_neg (by decide), nI_clamp (by omega)]
theorem zo_at_no {n : Nat} {B : Nat → Nat} {x : Int32} (h : x < 0 ∨ nI n ≤ x) : zo_at n B x = -1 := by
  rw [zo_at, if_pos]
  unfold zs_has
  rcases h with h | h
  · rw [if_pos h]; rfl
  · split
    · rfl
    · first | rfl | (rw [if_pos h]; rfl)
set_option maxHeartbeats 4000000 in
set_option maxRecDepth 100000 in
theorem c_MD_thrown (l : Launch) (D : va_G) (cI cC cJ : ClassId) (gg : Nat → Nat) (ft : Int32) (n0 : Nat) (S : Nat → Nat) (n2 : Nat) (M : Nat → Nat) (n3 : Nat) (B : Nat → Nat) (n4 : Nat) (E : Nat → Nat) (rt : Nat) (hh : zm_inj gg) (hn0 : n0 ≤ 4) (hn2 : n2 ≤ 40) (hn3 : n3 ≤ 120) (hn4 : n4 ≤ 160) : Met l y_MD_thrown (zw k_MD_thrown) ({ frames := 0, cells := 0, slots := 0, locals := 0 }) (zPc [.ref (gg 0)] (fun H => zMo D cI cC gg ft n0 S n2 M n3 B n4 E rt H) D cI cC cJ) (QcRead ft) 0 0 (fun _ => False) := by
  refine zMet (by decide) (Nat.le_of_ble_eq_true rfl) ?_
  intro p e s m below meth c hx hb hr hg hown hlk hml hB0 hE ls hl
  have hl : lv_has ls 1 [(0, .ref (gg 0))] := hl
  have hS9 : CallFix p m c b_MD_thrown 1 s [.ref (gg 0)].toArray zg "SealedFilesModel" := ⟨hx, hb, hml, hown, hg⟩
  obtain ⟨rd, e0, e2, e3, e5, e4, hS0, hM, hB, hE9, hP⟩ := hB0
  have hP : va_P D zcl [((gg 0), .inr (2, [.int ft, .int (nI n0), .ref (gg 1), .int (nI n2), .int (nI n3), .int (nI rt), .ref (gg 2), .ref (gg 3), .ref (gg 4), .int (nI rd), .int (nI n4), .ref (gg 5)])), ((gg 1), .inl (cI, 4, .inl e0)), ((gg 2), .inl (cI, 40, .inl e2)), ((gg 3), .inl (cI, 120, .inl e3)), ((gg 4), .inl (cI, 40, .inl e5)), ((gg 5), .inl (cC, 160, .inl e4))] s.heap := hP
  refine lv_aload_n hx hb d_MD_thrown_0 rfl (lv_at hl 0 rfl) ?_
  refine va_get (D := D) (ci := 2) (v := .int ft) (C := R_MD) (T := F_MD) (N := 12) hx hb hg i_MD hown hE.1 hP 0 rfl rfl 0 (by decide) (hg _ zw_488) (fun _ h9 => h9) rfl d_MD_thrown_1 ?_
  exact W.iret (v := ft) hx hb hr (fun t ht _ => ⟨congrArg (fun z => Outcome.returned (some (Value.int z))) (rfl), ht⟩) t_nil d_MD_thrown_4

set_option maxHeartbeats 4000000 in
set_option maxRecDepth 100000 in
theorem c_MD_key_ok (l : Launch) (D : va_G) (cI cC cJ : ClassId) (gg : Nat → Nat) (ft : Int32) (n0 : Nat) (S : Nat → Nat) (n2 : Nat) (M : Nat → Nat) (n3 : Nat) (B : Nat → Nat) (n4 : Nat) (E : Nat → Nat) (rt : Nat) (hh : zm_inj gg) (hn0 : n0 ≤ 4) (hn2 : n2 ≤ 40) (hn3 : n3 ≤ 120) (hn4 : n4 ≤ 160) (x : Nat) (hx1 : 2 ≤ x) (hx2 : x ≤ 32747) (hr9 : n0 < 4) : Met l y_MD_key (zw k_MD_key) ({ frames := 1, cells := 0, slots := 0, locals := 21 }) (zPc [.ref (gg 0), .int (nI x)] (fun H => zMo D cI cC gg ft n0 S n2 M n3 B n4 E rt H) D cI cC cJ) (zQm (some (.int (nI n0))) (fun H => zMo D cI cC gg (nI 0) (n0 + 1) (zs_push (n0, S) x).2 n2 M n3 B n4 E rt H) (zAM gg)) 0 0 (zAM gg) := by
  refine zMet (by decide) (Nat.le_of_ble_eq_true rfl) ?_
  intro p e s m below meth c hx hb hr hg hown hlk hml hB0 hE ls hl
  have hl : lv_has ls 2 [(0, .ref (gg 0)), (1, .int (nI x))] := hl
  have hS9 : CallFix p m c b_MD_key 2 s [.ref (gg 0), .int (nI x)].toArray zg "SealedFilesModel" := ⟨hx, hb, hml, hown, hg⟩
  obtain ⟨rd, e0, e2, e3, e5, e4, hS0, hM, hB, hE9, hP⟩ := hB0
  have hP : va_P D zcl [((gg 0), .inr (2, [.int ft, .int (nI n0), .ref (gg 1), .int (nI n2), .int (nI n3), .int (nI rt), .ref (gg 2), .ref (gg 3), .ref (gg 4), .int (nI rd), .int (nI n4), .ref (gg 5)])), ((gg 1), .inl (cI, 4, .inl e0)), ((gg 2), .inl (cI, 40, .inl e2)), ((gg 3), .inl (cI, 120, .inl e3)), ((gg 4), .inl (cI, 40, .inl e5)), ((gg 5), .inl (cC, 160, .inl e4))] s.heap := hP
  have hD : va_D (zAM gg) [((gg 0), .inr (2, [.int ft, .int (nI n0), .ref (gg 1), .int (nI n2), .int (nI n3), .int (nI rt), .ref (gg 2), .ref (gg 3), .ref (gg 4), .int (nI rd), .int (nI n4), .ref (gg 5)])), ((gg 1), .inl (cI, 4, .inl e0)), ((gg 2), .inl (cI, 40, .inl e2)), ((gg 3), .inl (cI, 120, .inl e3)), ((gg 4), .inl (cI, 40, .inl e5)), ((gg 5), .inl (cC, 160, .inl e4))] := zMd_D hh
  have hS : va_S (zAM gg) s.heap s.heap [] := va_S.rf
  refine lv_aload_n hx hb d_MD_key_0 rfl (lv_at hl 0 rfl) ?_
  refine lv_iconst (v := (nI 0)) hx hb d_MD_key_1 (by decide) ?_
  refine va_put (D := D) (ci := 2) (v := .int (nI 0)) (ty := .int) (C := R_MD) (T := F_MD) (N := 12) hx hb hg i_MD t_MD t_MD_ok n_MD hown hE.1 hP hD hS 0 rfl rfl 0 (by decide) (hg _ zw_488) (fun _ h9 => h9) rfl (by decide +kernel) rfl rfl (Nat.le_of_ble_eq_true rfl) d_MD_key_2 (fun H locs hP hD hS => ?_)
  have hP : va_P D zcl [((gg 0), .inr (2, [.int (nI 0), .int (nI n0), .ref (gg 1), .int (nI n2), .int (nI n3), .int (nI rt), .ref (gg 2), .ref (gg 3), .ref (gg 4), .int (nI rd), .int (nI n4), .ref (gg 5)])), ((gg 1), .inl (cI, 4, .inl e0)), ((gg 2), .inl (cI, 40, .inl e2)), ((gg 3), .inl (cI, 120, .inl e3)), ((gg 4), .inl (cI, 40, .inl e5)), ((gg 5), .inl (cC, 160, .inl e4))] H := hP
  have hD : va_D (zAM gg) [((gg 0), .inr (2, [.int (nI 0), .int (nI n0), .ref (gg 1), .int (nI n2), .int (nI n3), .int (nI rt), .ref (gg 2), .ref (gg 3), .ref (gg 4), .int (nI rd), .int (nI n4), .ref (gg 5)])), ((gg 1), .inl (cI, 4, .inl e0)), ((gg 2), .inl (cI, 40, .inl e2)), ((gg 3), .inl (cI, 120, .inl e3)), ((gg 4), .inl (cI, 40, .inl e5)), ((gg 5), .inl (cC, 160, .inl e4))] := hD
  refine lv_iload_n hx hb d_MD_key_5 rfl (lv_at hl 1 rfl) ?_
  refine lv_iconst (v := (nI 2)) hx hb d_MD_key_6 (by decide) ?_
  refine lv_icmp_lt hx hb d_MD_key_7 (tgt := 17) (by decide) (fun z9 => absurd z9 (nI_nlt (by omega) (by omega))) (fun _ => ?_)
  refine lv_iload_n hx hb d_MD_key_10 rfl (lv_at hl 1 rfl) ?_
  refine lv_sipush (v := (nI 32747)) hx hb d_MD_key_11 (by decide) ?_
  refine lv_icmp_le hx hb d_MD_key_14 (tgt := 23) (by decide) (fun _ => ?_) (fun z9 => absurd (nI_le (by omega) (by omega)) z9)
  refine lv_aload_n hx hb d_MD_key_23 rfl (lv_at hl 0 rfl) ?_
  refine va_get (D := D) (ci := 2) (v := .int (nI n0)) (C := R_MD) (T := F_MD) (N := 12) hx hb hg i_MD hown hE.1 hP 0 rfl rfl 1 (by decide) (hg _ zw_489) (fun _ h9 => h9) rfl d_MD_key_24 ?_
  refine lv_iconst (v := (nI 4)) hx hb d_MD_key_27 (by decide) ?_
  refine lv_icmp_ne hx hb d_MD_key_28 (tgt := 37) (by decide) (fun _ => ?_) (fun z9 => absurd z9 (fun z => absurd ((nI_eq (by omega) (by omega)).mp z) (by omega)))
  refine lv_aload_n hx hb d_MD_key_37 rfl (lv_at hl 0 rfl) ?_
  refine va_get (D := D) (ci := 2) (v := .ref (gg 1)) (C := R_MD) (T := F_MD) (N := 12) hx hb hg i_MD hown hE.1 hP 0 rfl rfl 2 (by decide) (hg _ zw_490) (fun _ h9 => h9) rfl d_MD_key_38 ?_
  refine lv_aload_n hx hb d_MD_key_41 rfl (lv_at hl 0 rfl) ?_
  refine va_get (D := D) (ci := 2) (v := .int (nI n0)) (C := R_MD) (T := F_MD) (N := 12) hx hb hg i_MD hown hE.1 hP 0 rfl rfl 1 (by decide) (hg _ zw_489) (fun _ h9 => h9) rfl d_MD_key_42 ?_
  refine lv_iload_n hx hb d_MD_key_45 rfl (lv_at hl 1 rfl) ?_
  refine zast hx hb hE.1 hP hD hS 1 0 rfl rfl (hr9) (by decide) d_MD_key_46 (fun H locs hP hD hS => ?_)
  have hP : va_P D zcl [((gg 0), .inr (2, [.int (nI 0), .int (nI n0), .ref (gg 1), .int (nI n2), .int (nI n3), .int (nI rt), .ref (gg 2), .ref (gg 3), .ref (gg 4), .int (nI rd), .int (nI n4), .ref (gg 5)])), ((gg 1), .inl (cI, 4, .inl (upd e0 n0 (nI x)))), ((gg 2), .inl (cI, 40, .inl e2)), ((gg 3), .inl (cI, 120, .inl e3)), ((gg 4), .inl (cI, 40, .inl e5)), ((gg 5), .inl (cC, 160, .inl e4))] H := hP
  have hD : va_D (zAM gg) [((gg 0), .inr (2, [.int (nI 0), .int (nI n0), .ref (gg 1), .int (nI n2), .int (nI n3), .int (nI rt), .ref (gg 2), .ref (gg 3), .ref (gg 4), .int (nI rd), .int (nI n4), .ref (gg 5)])), ((gg 1), .inl (cI, 4, .inl (upd e0 n0 (nI x)))), ((gg 2), .inl (cI, 40, .inl e2)), ((gg 3), .inl (cI, 120, .inl e3)), ((gg 4), .inl (cI, 40, .inl e5)), ((gg 5), .inl (cC, 160, .inl e4))] := hD
  refine lv_aload_n hx hb d_MD_key_47 rfl (lv_at hl 0 rfl) ?_
  refine lv_dup hx hb d_MD_key_48 rfl ?_
  refine va_get (D := D) (ci := 2) (v := .int (nI n0)) (C := R_MD) (T := F_MD) (N := 12) hx hb hg i_MD hown hE.1 hP 0 rfl rfl 1 (by decide) (hg _ zw_489) (fun _ h9 => h9) rfl d_MD_key_49 ?_
  refine lv_iconst (v := (nI 1)) hx hb d_MD_key_52 (by decide) ?_
  refine lv_iadd hx hb d_MD_key_53 ?_
  refine ztop (y := nI (n0 + 1)) (nI_1 _) ?_
  refine va_put (D := D) (ci := 2) (v := .int (nI (n0 + 1))) (ty := .int) (C := R_MD) (T := F_MD) (N := 12) hx hb hg i_MD t_MD t_MD_ok n_MD hown hE.1 hP hD hS 0 rfl rfl 1 (by decide) (hg _ zw_489) (fun _ h9 => h9) rfl (by decide +kernel) rfl rfl (Nat.le_of_ble_eq_true rfl) d_MD_key_54 (fun H locs hP hD hS => ?_)
  have hP : va_P D zcl [((gg 0), .inr (2, [.int (nI 0), .int (nI (n0 + 1)), .ref (gg 1), .int (nI n2), .int (nI n3), .int (nI rt), .ref (gg 2), .ref (gg 3), .ref (gg 4), .int (nI rd), .int (nI n4), .ref (gg 5)])), ((gg 1), .inl (cI, 4, .inl (upd e0 n0 (nI x)))), ((gg 2), .inl (cI, 40, .inl e2)), ((gg 3), .inl (cI, 120, .inl e3)), ((gg 4), .inl (cI, 40, .inl e5)), ((gg 5), .inl (cC, 160, .inl e4))] H := hP
  have hD : va_D (zAM gg) [((gg 0), .inr (2, [.int (nI 0), .int (nI (n0 + 1)), .ref (gg 1), .int (nI n2), .int (nI n3), .int (nI rt), .ref (gg 2), .ref (gg 3), .ref (gg 4), .int (nI rd), .int (nI n4), .ref (gg 5)])), ((gg 1), .inl (cI, 4, .inl (upd e0 n0 (nI x)))), ((gg 2), .inl (cI, 40, .inl e2)), ((gg 3), .inl (cI, 120, .inl e3)), ((gg 4), .inl (cI, 40, .inl e5)), ((gg 5), .inl (cC, 160, .inl e4))] := hD
  have hS0 := zs_hold_push (x := x) hS0 (by omega)
  refine lv_aload_n hx hb d_MD_key_57 rfl (lv_at hl 0 rfl) ?_
  refine va_get (D := D) (ci := 2) (v := .int (nI (n0 + 1))) (C := R_MD) (T := F_MD) (N := 12) hx hb hg i_MD hown hE.1 hP 0 rfl rfl 1 (by decide) (hg _ zw_489) (fun _ h9 => h9) rfl d_MD_key_58 ?_
  refine lv_iconst (v := (nI 1)) hx hb d_MD_key_61 (by decide) ?_
  refine lv_isub hx hb d_MD_key_62 ?_
  exact W.iret (v := ((nI (n0 + 1)) - (nI 1))) hx hb hr (fun t ht _ => ⟨congrArg (fun z => Outcome.returned (some (Value.int z))) (pk_sub (by omega)), by rw [ht]; exact ⟨rd, (upd e0 n0 (nI x)), e2, e3, e5, e4, hS0, hM, hB, hE9, hP⟩, hS.F ht⟩) hS.2.2 d_MD_key_63

set_option maxHeartbeats 4000000 in
set_option maxRecDepth 100000 in
theorem c_MD_key_e1 (l : Launch) (D : va_G) (cI cC cJ : ClassId) (gg : Nat → Nat) (ft : Int32) (n0 : Nat) (S : Nat → Nat) (n2 : Nat) (M : Nat → Nat) (n3 : Nat) (B : Nat → Nat) (n4 : Nat) (E : Nat → Nat) (rt : Nat) (hh : zm_inj gg) (hn0 : n0 ≤ 4) (hn2 : n2 ≤ 40) (hn3 : n3 ≤ 120) (hn4 : n4 ≤ 160) (x : Int32) (hx9 : x < nI 2 ∨ ¬ x ≤ nI 32747) : Met l y_MD_key (zw k_MD_key) ({ frames := 1, cells := 0, slots := 0, locals := 21 }) (zPc [.ref (gg 0), .int x] (fun H => zMo D cI cC gg ft n0 S n2 M n3 B n4 E rt H) D cI cC cJ) (zQm (some (.int (nI 0))) (fun H => zMo D cI cC gg (nI 1) n0 S n2 M n3 B n4 E rt H) (zAM gg)) 0 0 (zAM gg) := by
  refine zMet (by decide) (Nat.le_of_ble_eq_true rfl) ?_
  intro p e s m below meth c hx hb hr hg hown hlk hml hB0 hE ls hl
  have hl : lv_has ls 2 [(0, .ref (gg 0)), (1, .int x)] := hl
  have hS9 : CallFix p m c b_MD_key 2 s [.ref (gg 0), .int x].toArray zg "SealedFilesModel" := ⟨hx, hb, hml, hown, hg⟩
  obtain ⟨rd, e0, e2, e3, e5, e4, hS0, hM, hB, hE9, hP⟩ := hB0
  have hP : va_P D zcl [((gg 0), .inr (2, [.int ft, .int (nI n0), .ref (gg 1), .int (nI n2), .int (nI n3), .int (nI rt), .ref (gg 2), .ref (gg 3), .ref (gg 4), .int (nI rd), .int (nI n4), .ref (gg 5)])), ((gg 1), .inl (cI, 4, .inl e0)), ((gg 2), .inl (cI, 40, .inl e2)), ((gg 3), .inl (cI, 120, .inl e3)), ((gg 4), .inl (cI, 40, .inl e5)), ((gg 5), .inl (cC, 160, .inl e4))] s.heap := hP
  have hD : va_D (zAM gg) [((gg 0), .inr (2, [.int ft, .int (nI n0), .ref (gg 1), .int (nI n2), .int (nI n3), .int (nI rt), .ref (gg 2), .ref (gg 3), .ref (gg 4), .int (nI rd), .int (nI n4), .ref (gg 5)])), ((gg 1), .inl (cI, 4, .inl e0)), ((gg 2), .inl (cI, 40, .inl e2)), ((gg 3), .inl (cI, 120, .inl e3)), ((gg 4), .inl (cI, 40, .inl e5)), ((gg 5), .inl (cC, 160, .inl e4))] := zMd_D hh
  have hS : va_S (zAM gg) s.heap s.heap [] := va_S.rf
  refine lv_aload_n hx hb d_MD_key_0 rfl (lv_at hl 0 rfl) ?_
  refine lv_iconst (v := (nI 0)) hx hb d_MD_key_1 (by decide) ?_
  refine va_put (D := D) (ci := 2) (v := .int (nI 0)) (ty := .int) (C := R_MD) (T := F_MD) (N := 12) hx hb hg i_MD t_MD t_MD_ok n_MD hown hE.1 hP hD hS 0 rfl rfl 0 (by decide) (hg _ zw_488) (fun _ h9 => h9) rfl (by decide +kernel) rfl rfl (Nat.le_of_ble_eq_true rfl) d_MD_key_2 (fun H locs hP hD hS => ?_)
  have hP : va_P D zcl [((gg 0), .inr (2, [.int (nI 0), .int (nI n0), .ref (gg 1), .int (nI n2), .int (nI n3), .int (nI rt), .ref (gg 2), .ref (gg 3), .ref (gg 4), .int (nI rd), .int (nI n4), .ref (gg 5)])), ((gg 1), .inl (cI, 4, .inl e0)), ((gg 2), .inl (cI, 40, .inl e2)), ((gg 3), .inl (cI, 120, .inl e3)), ((gg 4), .inl (cI, 40, .inl e5)), ((gg 5), .inl (cC, 160, .inl e4))] H := hP
  have hD : va_D (zAM gg) [((gg 0), .inr (2, [.int (nI 0), .int (nI n0), .ref (gg 1), .int (nI n2), .int (nI n3), .int (nI rt), .ref (gg 2), .ref (gg 3), .ref (gg 4), .int (nI rd), .int (nI n4), .ref (gg 5)])), ((gg 1), .inl (cI, 4, .inl e0)), ((gg 2), .inl (cI, 40, .inl e2)), ((gg 3), .inl (cI, 120, .inl e3)), ((gg 4), .inl (cI, 40, .inl e5)), ((gg 5), .inl (cC, 160, .inl e4))] := hD
  refine lv_iload_n hx hb d_MD_key_5 rfl (lv_at hl 1 rfl) ?_
  refine lv_iconst (v := (nI 2)) hx hb d_MD_key_6 (by decide) ?_
  have rest : ∀ ls : Array Slot, lv_has ls 2 [(0, .ref (gg 0)), (1, .int x)] → W p l e ({ frames := 1, cells := 0, slots := 0, locals := 21 }) s m [.ref (gg 0), .int x].toArray below meth c H locs 0 0 (MQ below (zQm (some (.int (nI 0))) (fun H => zMo D cI cC gg (nI 1) n0 S n2 M n3 B n4 E rt H) (zAM gg)) [.ref (gg 0), .int x].toArray s 0 0 (zAM gg)) (F0 m 17 ls []) := by
    intro ls hl
    refine lv_aload_n hx hb d_MD_key_17 rfl (lv_at hl 0 rfl) ?_
    refine lv_iconst (v := (nI 1)) hx hb d_MD_key_18 (by decide) ?_
    refine zWr (rest := []) (zrV hS9 (c_MD_fails l D cI cC cJ gg (nI 0) n0 n2 n3 rt rd n4 e0 e2 e3 e5 e4 (by omega) (by omega) (by omega) (by omega) hh (nI 1)) zc_MD_fails zw_534 zw_536 zp_26 (by decide) (va_recv hE.1 hP (ci := 2) (q := (R_MD, F_MD, 12)) rfl (q0 := 0) rfl) (hP) hE rfl hl.1 rfl (Nat.le_of_ble_eq_true rfl) d_MD_key_19) hS (fun _ _ h => h) (fun _ h => h) (fun H locs hP hz hk9 hS => ?_)
    have hP : va_P D zcl [((gg 0), .inr (2, [.int (nI 1), .int (nI n0), .ref (gg 1), .int (nI n2), .int (nI n3), .int (nI rt), .ref (gg 2), .ref (gg 3), .ref (gg 4), .int (nI rd), .int (nI n4), .ref (gg 5)])), ((gg 1), .inl (cI, 4, .inl e0)), ((gg 2), .inl (cI, 40, .inl e2)), ((gg 3), .inl (cI, 120, .inl e3)), ((gg 4), .inl (cI, 40, .inl e5)), ((gg 5), .inl (cC, 160, .inl e4))] H := hP
    have hD : va_D (zAM gg) [((gg 0), .inr (2, [.int (nI 1), .int (nI n0), .ref (gg 1), .int (nI n2), .int (nI n3), .int (nI rt), .ref (gg 2), .ref (gg 3), .ref (gg 4), .int (nI rd), .int (nI n4), .ref (gg 5)])), ((gg 1), .inl (cI, 4, .inl e0)), ((gg 2), .inl (cI, 40, .inl e2)), ((gg 3), .inl (cI, 120, .inl e3)), ((gg 4), .inl (cI, 40, .inl e5)), ((gg 5), .inl (cC, 160, .inl e4))] := zMd_D hh
    exact W.iret (v := (nI 0)) hx hb hr (fun t ht _ => ⟨rfl, by rw [ht]; exact ⟨rd, e0, e2, e3, e5, e4, hS0, hM, hB, hE9, hP⟩, hS.F ht⟩) hS.2.2 d_MD_key_22
  refine lv_icmp_lt hx hb d_MD_key_7 (tgt := 17) (by decide) (fun g => ?_) (fun g => ?_)
  · exact rest ls hl
  · refine lv_iload_n hx hb d_MD_key_10 rfl (lv_at hl 1 rfl) ?_
    refine lv_sipush (v := (nI 32747)) hx hb d_MD_key_11 (by decide) ?_
    refine lv_icmp_le hx hb d_MD_key_14 (tgt := 23) (by decide) (fun z9 => absurd z9 (hx9.resolve_left g)) (fun _ => ?_)
    exact rest ls hl

set_option maxHeartbeats 4000000 in
set_option maxRecDepth 100000 in
theorem c_MD_key_e2 (l : Launch) (D : va_G) (cI cC cJ : ClassId) (gg : Nat → Nat) (ft : Int32) (n0 : Nat) (S : Nat → Nat) (n2 : Nat) (M : Nat → Nat) (n3 : Nat) (B : Nat → Nat) (n4 : Nat) (E : Nat → Nat) (rt : Nat) (hh : zm_inj gg) (hn0 : n0 ≤ 4) (hn2 : n2 ≤ 40) (hn3 : n3 ≤ 120) (hn4 : n4 ≤ 160) (x : Nat) (hx1 : 2 ≤ x) (hx2 : x ≤ 32747) (hr9 : n0 = 4) : Met l y_MD_key (zw k_MD_key) ({ frames := 1, cells := 0, slots := 0, locals := 21 }) (zPc [.ref (gg 0), .int (nI x)] (fun H => zMo D cI cC gg ft n0 S n2 M n3 B n4 E rt H) D cI cC cJ) (zQm (some (.int (nI 0))) (fun H => zMo D cI cC gg (nI 2) n0 S n2 M n3 B n4 E rt H) (zAM gg)) 0 0 (zAM gg) := by
  refine zMet (by decide) (Nat.le_of_ble_eq_true rfl) ?_
  intro p e s m below meth c hx hb hr hg hown hlk hml hB0 hE ls hl
  have hl : lv_has ls 2 [(0, .ref (gg 0)), (1, .int (nI x))] := hl
  have hS9 : CallFix p m c b_MD_key 2 s [.ref (gg 0), .int (nI x)].toArray zg "SealedFilesModel" := ⟨hx, hb, hml, hown, hg⟩
  obtain ⟨rd, e0, e2, e3, e5, e4, hS0, hM, hB, hE9, hP⟩ := hB0
  have hP : va_P D zcl [((gg 0), .inr (2, [.int ft, .int (nI n0), .ref (gg 1), .int (nI n2), .int (nI n3), .int (nI rt), .ref (gg 2), .ref (gg 3), .ref (gg 4), .int (nI rd), .int (nI n4), .ref (gg 5)])), ((gg 1), .inl (cI, 4, .inl e0)), ((gg 2), .inl (cI, 40, .inl e2)), ((gg 3), .inl (cI, 120, .inl e3)), ((gg 4), .inl (cI, 40, .inl e5)), ((gg 5), .inl (cC, 160, .inl e4))] s.heap := hP
  have hD : va_D (zAM gg) [((gg 0), .inr (2, [.int ft, .int (nI n0), .ref (gg 1), .int (nI n2), .int (nI n3), .int (nI rt), .ref (gg 2), .ref (gg 3), .ref (gg 4), .int (nI rd), .int (nI n4), .ref (gg 5)])), ((gg 1), .inl (cI, 4, .inl e0)), ((gg 2), .inl (cI, 40, .inl e2)), ((gg 3), .inl (cI, 120, .inl e3)), ((gg 4), .inl (cI, 40, .inl e5)), ((gg 5), .inl (cC, 160, .inl e4))] := zMd_D hh
  have hS : va_S (zAM gg) s.heap s.heap [] := va_S.rf
  refine lv_aload_n hx hb d_MD_key_0 rfl (lv_at hl 0 rfl) ?_
  refine lv_iconst (v := (nI 0)) hx hb d_MD_key_1 (by decide) ?_
  refine va_put (D := D) (ci := 2) (v := .int (nI 0)) (ty := .int) (C := R_MD) (T := F_MD) (N := 12) hx hb hg i_MD t_MD t_MD_ok n_MD hown hE.1 hP hD hS 0 rfl rfl 0 (by decide) (hg _ zw_488) (fun _ h9 => h9) rfl (by decide +kernel) rfl rfl (Nat.le_of_ble_eq_true rfl) d_MD_key_2 (fun H locs hP hD hS => ?_)
  have hP : va_P D zcl [((gg 0), .inr (2, [.int (nI 0), .int (nI n0), .ref (gg 1), .int (nI n2), .int (nI n3), .int (nI rt), .ref (gg 2), .ref (gg 3), .ref (gg 4), .int (nI rd), .int (nI n4), .ref (gg 5)])), ((gg 1), .inl (cI, 4, .inl e0)), ((gg 2), .inl (cI, 40, .inl e2)), ((gg 3), .inl (cI, 120, .inl e3)), ((gg 4), .inl (cI, 40, .inl e5)), ((gg 5), .inl (cC, 160, .inl e4))] H := hP
  have hD : va_D (zAM gg) [((gg 0), .inr (2, [.int (nI 0), .int (nI n0), .ref (gg 1), .int (nI n2), .int (nI n3), .int (nI rt), .ref (gg 2), .ref (gg 3), .ref (gg 4), .int (nI rd), .int (nI n4), .ref (gg 5)])), ((gg 1), .inl (cI, 4, .inl e0)), ((gg 2), .inl (cI, 40, .inl e2)), ((gg 3), .inl (cI, 120, .inl e3)), ((gg 4), .inl (cI, 40, .inl e5)), ((gg 5), .inl (cC, 160, .inl e4))] := hD
  refine lv_iload_n hx hb d_MD_key_5 rfl (lv_at hl 1 rfl) ?_
  refine lv_iconst (v := (nI 2)) hx hb d_MD_key_6 (by decide) ?_
  refine lv_icmp_lt hx hb d_MD_key_7 (tgt := 17) (by decide) (fun z9 => absurd z9 (nI_nlt (by omega) (by omega))) (fun _ => ?_)
  refine lv_iload_n hx hb d_MD_key_10 rfl (lv_at hl 1 rfl) ?_
  refine lv_sipush (v := (nI 32747)) hx hb d_MD_key_11 (by decide) ?_
  refine lv_icmp_le hx hb d_MD_key_14 (tgt := 23) (by decide) (fun _ => ?_) (fun z9 => absurd (nI_le (by omega) (by omega)) z9)
  refine lv_aload_n hx hb d_MD_key_23 rfl (lv_at hl 0 rfl) ?_
  refine va_get (D := D) (ci := 2) (v := .int (nI n0)) (C := R_MD) (T := F_MD) (N := 12) hx hb hg i_MD hown hE.1 hP 0 rfl rfl 1 (by decide) (hg _ zw_489) (fun _ h9 => h9) rfl d_MD_key_24 ?_
  refine lv_iconst (v := (nI 4)) hx hb d_MD_key_27 (by decide) ?_
  refine lv_icmp_ne hx hb d_MD_key_28 (tgt := 37) (by decide) (fun z9 => absurd (by rw [hr9]) z9) (fun _ => ?_)
  refine lv_aload_n hx hb d_MD_key_31 rfl (lv_at hl 0 rfl) ?_
  refine lv_iconst (v := (nI 2)) hx hb d_MD_key_32 (by decide) ?_
  refine zWr (rest := []) (zrV hS9 (c_MD_fails l D cI cC cJ gg (nI 0) n0 n2 n3 rt rd n4 e0 e2 e3 e5 e4 (by omega) (by omega) (by omega) (by omega) hh (nI 2)) zc_MD_fails zw_534 zw_536 zp_26 (by decide) (va_recv hE.1 hP (ci := 2) (q := (R_MD, F_MD, 12)) rfl (q0 := 0) rfl) (hP) hE rfl hl.1 rfl (Nat.le_of_ble_eq_true rfl) d_MD_key_33) hS (fun _ _ h => h) (fun _ h => h) (fun H locs hP hz hk9 hS => ?_)
  have hP : va_P D zcl [((gg 0), .inr (2, [.int (nI 2), .int (nI n0), .ref (gg 1), .int (nI n2), .int (nI n3), .int (nI rt), .ref (gg 2), .ref (gg 3), .ref (gg 4), .int (nI rd), .int (nI n4), .ref (gg 5)])), ((gg 1), .inl (cI, 4, .inl e0)), ((gg 2), .inl (cI, 40, .inl e2)), ((gg 3), .inl (cI, 120, .inl e3)), ((gg 4), .inl (cI, 40, .inl e5)), ((gg 5), .inl (cC, 160, .inl e4))] H := hP
  have hD : va_D (zAM gg) [((gg 0), .inr (2, [.int (nI 2), .int (nI n0), .ref (gg 1), .int (nI n2), .int (nI n3), .int (nI rt), .ref (gg 2), .ref (gg 3), .ref (gg 4), .int (nI rd), .int (nI n4), .ref (gg 5)])), ((gg 1), .inl (cI, 4, .inl e0)), ((gg 2), .inl (cI, 40, .inl e2)), ((gg 3), .inl (cI, 120, .inl e3)), ((gg 4), .inl (cI, 40, .inl e5)), ((gg 5), .inl (cC, 160, .inl e4))] := zMd_D hh
  exact W.iret (v := (nI 0)) hx hb hr (fun t ht _ => ⟨rfl, by rw [ht]; exact ⟨rd, e0, e2, e3, e5, e4, hS0, hM, hB, hE9, hP⟩, hS.F ht⟩) hS.2.2 d_MD_key_36

set_option maxHeartbeats 4000000 in
set_option maxRecDepth 100000 in
theorem c_MD_address (l : Launch) (D : va_G) (cI cC cJ : ClassId) (gg : Nat → Nat) (ft : Int32) (n0 : Nat) (S : Nat → Nat) (n2 : Nat) (M : Nat → Nat) (n3 : Nat) (B : Nat → Nat) (n4 : Nat) (E : Nat → Nat) (rt : Nat) (hh : zm_inj gg) (hn0 : n0 ≤ 4) (hn2 : n2 ≤ 40) (hn3 : n3 ≤ 120) (hn4 : n4 ≤ 160) (x : Int32) : Met l y_MD_address (zw k_MD_address) ({ frames := 1, cells := 0, slots := 0, locals := 24 }) (zPc [.ref (gg 0), .int x] (fun H => zMo D cI cC gg ft n0 S n2 M n3 B n4 E rt H) D cI cC cJ) (zQm (some (.int (zo_at n0 (fun j => zs_pw 2 (S j)) x))) (fun H => zMo D cI cC gg (nI 0) n0 S n2 M n3 B n4 E rt H) (zAM gg)) 0 0 (zAM gg) := by
  refine zMet (by decide) (Nat.le_of_ble_eq_true rfl) ?_
  intro p e s m below meth c hx hb hr hg hown hlk hml hB0 hE ls hl
  have hl : lv_has ls 2 [(0, .ref (gg 0)), (1, .int x)] := hl
  have hS9 : CallFix p m c b_MD_address 2 s [.ref (gg 0), .int x].toArray zg "SealedFilesModel" := ⟨hx, hb, hml, hown, hg⟩
  obtain ⟨rd, e0, e2, e3, e5, e4, hS0, hM, hB, hE9, hP⟩ := hB0
  have hP : va_P D zcl [((gg 0), .inr (2, [.int ft, .int (nI n0), .ref (gg 1), .int (nI n2), .int (nI n3), .int (nI rt), .ref (gg 2), .ref (gg 3), .ref (gg 4), .int (nI rd), .int (nI n4), .ref (gg 5)])), ((gg 1), .inl (cI, 4, .inl e0)), ((gg 2), .inl (cI, 40, .inl e2)), ((gg 3), .inl (cI, 120, .inl e3)), ((gg 4), .inl (cI, 40, .inl e5)), ((gg 5), .inl (cC, 160, .inl e4))] s.heap := hP
  have hD : va_D (zAM gg) [((gg 0), .inr (2, [.int ft, .int (nI n0), .ref (gg 1), .int (nI n2), .int (nI n3), .int (nI rt), .ref (gg 2), .ref (gg 3), .ref (gg 4), .int (nI rd), .int (nI n4), .ref (gg 5)])), ((gg 1), .inl (cI, 4, .inl e0)), ((gg 2), .inl (cI, 40, .inl e2)), ((gg 3), .inl (cI, 120, .inl e3)), ((gg 4), .inl (cI, 40, .inl e5)), ((gg 5), .inl (cC, 160, .inl e4))] := zMd_D hh
  have hS : va_S (zAM gg) s.heap s.heap [] := va_S.rf
  refine lv_aload_n hx hb d_MD_address_0 rfl (lv_at hl 0 rfl) ?_
  refine lv_iconst (v := (nI 0)) hx hb d_MD_address_1 (by decide) ?_
  refine va_put (D := D) (ci := 2) (v := .int (nI 0)) (ty := .int) (C := R_MD) (T := F_MD) (N := 12) hx hb hg i_MD t_MD t_MD_ok n_MD hown hE.1 hP hD hS 0 rfl rfl 0 (by decide) (hg _ zw_488) (fun _ h9 => h9) rfl (by decide +kernel) rfl rfl (Nat.le_of_ble_eq_true rfl) d_MD_address_2 (fun H locs hP hD hS => ?_)
  have hP : va_P D zcl [((gg 0), .inr (2, [.int (nI 0), .int (nI n0), .ref (gg 1), .int (nI n2), .int (nI n3), .int (nI rt), .ref (gg 2), .ref (gg 3), .ref (gg 4), .int (nI rd), .int (nI n4), .ref (gg 5)])), ((gg 1), .inl (cI, 4, .inl e0)), ((gg 2), .inl (cI, 40, .inl e2)), ((gg 3), .inl (cI, 120, .inl e3)), ((gg 4), .inl (cI, 40, .inl e5)), ((gg 5), .inl (cC, 160, .inl e4))] H := hP
  have hD : va_D (zAM gg) [((gg 0), .inr (2, [.int (nI 0), .int (nI n0), .ref (gg 1), .int (nI n2), .int (nI n3), .int (nI rt), .ref (gg 2), .ref (gg 3), .ref (gg 4), .int (nI rd), .int (nI n4), .ref (gg 5)])), ((gg 1), .inl (cI, 4, .inl e0)), ((gg 2), .inl (cI, 40, .inl e2)), ((gg 3), .inl (cI, 120, .inl e3)), ((gg 4), .inl (cI, 40, .inl e5)), ((gg 5), .inl (cC, 160, .inl e4))] := hD
  refine lv_aload_n hx hb d_MD_address_5 rfl (lv_at hl 0 rfl) ?_
  refine lv_iload_n hx hb d_MD_address_6 rfl (lv_at hl 1 rfl) ?_
  refine zRd (rest := []) (zrV hS9 (c_MD_isKey l D cI cC cJ gg (nI 0) n0 n2 n3 rt rd n4 e0 e2 e3 e5 e4 (by omega) (by omega) (by omega) (by omega) x) zc_MD_isKey zw_542 zw_544 zp_27 (by decide) (va_recv hE.1 hP (ci := 2) (q := (R_MD, F_MD, 12)) rfl (q0 := 0) rfl) (hP) hE rfl hl.1 rfl (Nat.le_of_ble_eq_true rfl) d_MD_address_7) ?_
  refine lv_if_eq hx hb d_MD_address_10 (tgt := 26) (by decide) (fun g => ?_) (fun g => ?_)
  · refine lv_iconst (v := (-1)) hx hb d_MD_address_26 (by decide) ?_
    exact W.iret (v := (-1)) hx hb hr (fun t ht _ => ⟨congrArg (fun z => Outcome.returned (some (Value.int z))) (by rw [zo_at, if_pos g]), by rw [ht]; exact ⟨rd, e0, e2, e3, e5, e4, hS0, hM, hB, hE9, hP⟩, hS.F ht⟩) hS.2.2 d_MD_address_27
  · obtain ⟨j, hj, rfl⟩ := zs_has_of (by omega) g
    refine lv_iconst (v := (nI 2)) hx hb d_MD_address_13 (by decide) ?_
    refine lv_aload_n hx hb d_MD_address_14 rfl (lv_at hl 0 rfl) ?_
    refine va_get (D := D) (ci := 2) (v := .ref (gg 1)) (C := R_MD) (T := F_MD) (N := 12) hx hb hg i_MD hown hE.1 hP 0 rfl rfl 2 (by decide) (hg _ zw_490) (fun _ h9 => h9) rfl d_MD_address_15 ?_
    refine lv_iload_n hx hb d_MD_address_18 rfl (lv_at hl 1 rfl) ?_
    refine zald hx hb hE.1 hP 1 0 rfl rfl (by omega) (by decide) d_MD_address_19 ?_
    refine ztop (y := nI (S j)) ((hS0 j hj).1) ?_
    have h8 : S j < 32748 := (hS0 j hj).2
    refine zRd (rest := []) (zrS hS9 (c_MD_power l D cI cC cJ 2 (S j) (by decide) (by omega)) zc_MD_power zw_546 zw_547 (by decide) (trivial) hE rfl hl.1 rfl (Nat.le_of_ble_eq_true rfl) d_MD_address_20) ?_
    refine lv_goto hx hb d_MD_address_23 (tgt := 27) (by decide) ?_
    exact W.iret (v := (nI (zs_pw 2 (S j)))) hx hb hr (fun t ht _ => ⟨congrArg (fun z => Outcome.returned (some (Value.int z))) ((zo_at_in (B := fun j => zs_pw 2 (S j)) hj (by omega)).symm), by rw [ht]; exact ⟨rd, e0, e2, e3, e5, e4, hS0, hM, hB, hE9, hP⟩, hS.F ht⟩) hS.2.2 d_MD_address_27

set_option maxHeartbeats 4000000 in
set_option maxRecDepth 100000 in
theorem c_MD_put_ok (l : Launch) (D : va_G) (cI cC cJ : ClassId) (gg : Nat → Nat) (ft : Int32) (n0 : Nat) (S : Nat → Nat) (n2 : Nat) (M : Nat → Nat) (n3 : Nat) (B : Nat → Nat) (n4 : Nat) (E : Nat → Nat) (rt : Nat) (hh : zm_inj gg) (hn0 : n0 ≤ 4) (hn2 : n2 ≤ 40) (hn3 : n3 ≤ 120) (hn4 : n4 ≤ 160) (b : Nat) (hb9 : b < 256) (hr9 : n2 < 40) : Met l y_MD_put (zw k_MD_put) ({ frames := 0, cells := 0, slots := 0, locals := 0 }) (zPc [.ref (gg 0), .int (nI b)] (fun H => zMo D cI cC gg ft n0 S n2 M n3 B n4 E rt H) D cI cC cJ) (zQm (some (.int (nI 1))) (fun H => zMo D cI cC gg (nI 0) n0 S (n2 + 1) (zs_push (n2, M) b).2 n3 B n4 E rt H) (zAM gg)) 0 0 (zAM gg) := by
  refine zMet (by decide) (Nat.le_of_ble_eq_true rfl) ?_
  intro p e s m below meth c hx hb hr hg hown hlk hml hB0 hE ls hl
  have hl : lv_has ls 2 [(0, .ref (gg 0)), (1, .int (nI b))] := hl
  have hS9 : CallFix p m c b_MD_put 2 s [.ref (gg 0), .int (nI b)].toArray zg "SealedFilesModel" := ⟨hx, hb, hml, hown, hg⟩
  obtain ⟨rd, e0, e2, e3, e5, e4, hS0, hM, hB, hE9, hP⟩ := hB0
  have hP : va_P D zcl [((gg 0), .inr (2, [.int ft, .int (nI n0), .ref (gg 1), .int (nI n2), .int (nI n3), .int (nI rt), .ref (gg 2), .ref (gg 3), .ref (gg 4), .int (nI rd), .int (nI n4), .ref (gg 5)])), ((gg 1), .inl (cI, 4, .inl e0)), ((gg 2), .inl (cI, 40, .inl e2)), ((gg 3), .inl (cI, 120, .inl e3)), ((gg 4), .inl (cI, 40, .inl e5)), ((gg 5), .inl (cC, 160, .inl e4))] s.heap := hP
  have hD : va_D (zAM gg) [((gg 0), .inr (2, [.int ft, .int (nI n0), .ref (gg 1), .int (nI n2), .int (nI n3), .int (nI rt), .ref (gg 2), .ref (gg 3), .ref (gg 4), .int (nI rd), .int (nI n4), .ref (gg 5)])), ((gg 1), .inl (cI, 4, .inl e0)), ((gg 2), .inl (cI, 40, .inl e2)), ((gg 3), .inl (cI, 120, .inl e3)), ((gg 4), .inl (cI, 40, .inl e5)), ((gg 5), .inl (cC, 160, .inl e4))] := zMd_D hh
  have hS : va_S (zAM gg) s.heap s.heap [] := va_S.rf
  refine lv_aload_n hx hb d_MD_put_0 rfl (lv_at hl 0 rfl) ?_
  refine lv_iconst (v := (nI 0)) hx hb d_MD_put_1 (by decide) ?_
  refine va_put (D := D) (ci := 2) (v := .int (nI 0)) (ty := .int) (C := R_MD) (T := F_MD) (N := 12) hx hb hg i_MD t_MD t_MD_ok n_MD hown hE.1 hP hD hS 0 rfl rfl 0 (by decide) (hg _ zw_488) (fun _ h9 => h9) rfl (by decide +kernel) rfl rfl (Nat.le_of_ble_eq_true rfl) d_MD_put_2 (fun H locs hP hD hS => ?_)
  have hP : va_P D zcl [((gg 0), .inr (2, [.int (nI 0), .int (nI n0), .ref (gg 1), .int (nI n2), .int (nI n3), .int (nI rt), .ref (gg 2), .ref (gg 3), .ref (gg 4), .int (nI rd), .int (nI n4), .ref (gg 5)])), ((gg 1), .inl (cI, 4, .inl e0)), ((gg 2), .inl (cI, 40, .inl e2)), ((gg 3), .inl (cI, 120, .inl e3)), ((gg 4), .inl (cI, 40, .inl e5)), ((gg 5), .inl (cC, 160, .inl e4))] H := hP
  have hD : va_D (zAM gg) [((gg 0), .inr (2, [.int (nI 0), .int (nI n0), .ref (gg 1), .int (nI n2), .int (nI n3), .int (nI rt), .ref (gg 2), .ref (gg 3), .ref (gg 4), .int (nI rd), .int (nI n4), .ref (gg 5)])), ((gg 1), .inl (cI, 4, .inl e0)), ((gg 2), .inl (cI, 40, .inl e2)), ((gg 3), .inl (cI, 120, .inl e3)), ((gg 4), .inl (cI, 40, .inl e5)), ((gg 5), .inl (cC, 160, .inl e4))] := hD
  refine lv_aload_n hx hb d_MD_put_5 rfl (lv_at hl 0 rfl) ?_
  refine va_get (D := D) (ci := 2) (v := .int (nI n2)) (C := R_MD) (T := F_MD) (N := 12) hx hb hg i_MD hown hE.1 hP 0 rfl rfl 3 (by decide) (hg _ zw_491) (fun _ h9 => h9) rfl d_MD_put_6 ?_
  refine lv_bipush (v := (nI 40)) hx hb d_MD_put_9 (by decide) ?_
  refine lv_icmp_eq hx hb d_MD_put_11 (tgt := 25) (by decide) (fun z9 => absurd z9 (fun z => absurd ((nI_eq (by omega) (by omega)).mp z) (by omega))) (fun _ => ?_)
  refine lv_iload_n hx hb d_MD_put_14 rfl (lv_at hl 1 rfl) ?_
  refine lv_if_lt hx hb d_MD_put_15 (tgt := 25) (by decide) (fun z9 => absurd z9 (nI_pos (by omega))) (fun _ => ?_)
  refine lv_iload_n hx hb d_MD_put_18 rfl (lv_at hl 1 rfl) ?_
  refine lv_sipush (v := (nI 255)) hx hb d_MD_put_19 (by decide) ?_
  refine lv_icmp_le hx hb d_MD_put_22 (tgt := 27) (by decide) (fun _ => ?_) (fun z9 => absurd (nI_le (by omega) (by omega)) z9)
  refine lv_aload_n hx hb d_MD_put_27 rfl (lv_at hl 0 rfl) ?_
  refine va_get (D := D) (ci := 2) (v := .ref (gg 2)) (C := R_MD) (T := F_MD) (N := 12) hx hb hg i_MD hown hE.1 hP 0 rfl rfl 6 (by decide) (hg _ zw_494) (fun _ h9 => h9) rfl d_MD_put_28 ?_
  refine lv_aload_n hx hb d_MD_put_31 rfl (lv_at hl 0 rfl) ?_
  refine va_get (D := D) (ci := 2) (v := .int (nI n2)) (C := R_MD) (T := F_MD) (N := 12) hx hb hg i_MD hown hE.1 hP 0 rfl rfl 3 (by decide) (hg _ zw_491) (fun _ h9 => h9) rfl d_MD_put_32 ?_
  refine lv_iload_n hx hb d_MD_put_35 rfl (lv_at hl 1 rfl) ?_
  refine zast hx hb hE.1 hP hD hS 2 0 rfl rfl (hr9) (by decide) d_MD_put_36 (fun H locs hP hD hS => ?_)
  have hP : va_P D zcl [((gg 0), .inr (2, [.int (nI 0), .int (nI n0), .ref (gg 1), .int (nI n2), .int (nI n3), .int (nI rt), .ref (gg 2), .ref (gg 3), .ref (gg 4), .int (nI rd), .int (nI n4), .ref (gg 5)])), ((gg 1), .inl (cI, 4, .inl e0)), ((gg 2), .inl (cI, 40, .inl (upd e2 n2 (nI b)))), ((gg 3), .inl (cI, 120, .inl e3)), ((gg 4), .inl (cI, 40, .inl e5)), ((gg 5), .inl (cC, 160, .inl e4))] H := hP
  have hD : va_D (zAM gg) [((gg 0), .inr (2, [.int (nI 0), .int (nI n0), .ref (gg 1), .int (nI n2), .int (nI n3), .int (nI rt), .ref (gg 2), .ref (gg 3), .ref (gg 4), .int (nI rd), .int (nI n4), .ref (gg 5)])), ((gg 1), .inl (cI, 4, .inl e0)), ((gg 2), .inl (cI, 40, .inl (upd e2 n2 (nI b)))), ((gg 3), .inl (cI, 120, .inl e3)), ((gg 4), .inl (cI, 40, .inl e5)), ((gg 5), .inl (cC, 160, .inl e4))] := hD
  refine lv_aload_n hx hb d_MD_put_37 rfl (lv_at hl 0 rfl) ?_
  refine lv_dup hx hb d_MD_put_38 rfl ?_
  refine va_get (D := D) (ci := 2) (v := .int (nI n2)) (C := R_MD) (T := F_MD) (N := 12) hx hb hg i_MD hown hE.1 hP 0 rfl rfl 3 (by decide) (hg _ zw_491) (fun _ h9 => h9) rfl d_MD_put_39 ?_
  refine lv_iconst (v := (nI 1)) hx hb d_MD_put_42 (by decide) ?_
  refine lv_iadd hx hb d_MD_put_43 ?_
  refine ztop (y := nI (n2 + 1)) (nI_1 _) ?_
  refine va_put (D := D) (ci := 2) (v := .int (nI (n2 + 1))) (ty := .int) (C := R_MD) (T := F_MD) (N := 12) hx hb hg i_MD t_MD t_MD_ok n_MD hown hE.1 hP hD hS 0 rfl rfl 3 (by decide) (hg _ zw_491) (fun _ h9 => h9) rfl (by decide +kernel) rfl rfl (Nat.le_of_ble_eq_true rfl) d_MD_put_44 (fun H locs hP hD hS => ?_)
  have hP : va_P D zcl [((gg 0), .inr (2, [.int (nI 0), .int (nI n0), .ref (gg 1), .int (nI (n2 + 1)), .int (nI n3), .int (nI rt), .ref (gg 2), .ref (gg 3), .ref (gg 4), .int (nI rd), .int (nI n4), .ref (gg 5)])), ((gg 1), .inl (cI, 4, .inl e0)), ((gg 2), .inl (cI, 40, .inl (upd e2 n2 (nI b)))), ((gg 3), .inl (cI, 120, .inl e3)), ((gg 4), .inl (cI, 40, .inl e5)), ((gg 5), .inl (cC, 160, .inl e4))] H := hP
  have hD : va_D (zAM gg) [((gg 0), .inr (2, [.int (nI 0), .int (nI n0), .ref (gg 1), .int (nI (n2 + 1)), .int (nI n3), .int (nI rt), .ref (gg 2), .ref (gg 3), .ref (gg 4), .int (nI rd), .int (nI n4), .ref (gg 5)])), ((gg 1), .inl (cI, 4, .inl e0)), ((gg 2), .inl (cI, 40, .inl (upd e2 n2 (nI b)))), ((gg 3), .inl (cI, 120, .inl e3)), ((gg 4), .inl (cI, 40, .inl e5)), ((gg 5), .inl (cC, 160, .inl e4))] := hD
  have hM := zs_hold_push (x := b) hM hb9
  refine lv_iconst (v := (nI 1)) hx hb d_MD_put_47 (by decide) ?_
  exact W.zret (v := (nI 1)) hx hb hr (rfl) (fun t ht _ => ⟨rfl, by rw [ht]; exact ⟨rd, e0, (upd e2 n2 (nI b)), e3, e5, e4, hS0, hM, hB, hE9, hP⟩, hS.F ht⟩) hS.2.2 d_MD_put_48

set_option maxHeartbeats 4000000 in
set_option maxRecDepth 100000 in
theorem c_MD_put_no (l : Launch) (D : va_G) (cI cC cJ : ClassId) (gg : Nat → Nat) (ft : Int32) (n0 : Nat) (S : Nat → Nat) (n2 : Nat) (M : Nat → Nat) (n3 : Nat) (B : Nat → Nat) (n4 : Nat) (E : Nat → Nat) (rt : Nat) (hh : zm_inj gg) (hn0 : n0 ≤ 4) (hn2 : n2 ≤ 40) (hn3 : n3 ≤ 120) (hn4 : n4 ≤ 160) (x : Int32) (hx9 : x < 0 ∨ nI 255 < x ∨ n2 = 40) : Met l y_MD_put (zw k_MD_put) ({ frames := 0, cells := 0, slots := 0, locals := 0 }) (zPc [.ref (gg 0), .int x] (fun H => zMo D cI cC gg ft n0 S n2 M n3 B n4 E rt H) D cI cC cJ) (zQm (some (.int (nI 0))) (fun H => zMo D cI cC gg (nI 0) n0 S n2 M n3 B n4 E rt H) (zAM gg)) 0 0 (zAM gg) := by
  refine zMet (by decide) (Nat.le_of_ble_eq_true rfl) ?_
  intro p e s m below meth c hx hb hr hg hown hlk hml hB0 hE ls hl
  have hl : lv_has ls 2 [(0, .ref (gg 0)), (1, .int x)] := hl
  have hS9 : CallFix p m c b_MD_put 2 s [.ref (gg 0), .int x].toArray zg "SealedFilesModel" := ⟨hx, hb, hml, hown, hg⟩
  obtain ⟨rd, e0, e2, e3, e5, e4, hS0, hM, hB, hE9, hP⟩ := hB0
  have hP : va_P D zcl [((gg 0), .inr (2, [.int ft, .int (nI n0), .ref (gg 1), .int (nI n2), .int (nI n3), .int (nI rt), .ref (gg 2), .ref (gg 3), .ref (gg 4), .int (nI rd), .int (nI n4), .ref (gg 5)])), ((gg 1), .inl (cI, 4, .inl e0)), ((gg 2), .inl (cI, 40, .inl e2)), ((gg 3), .inl (cI, 120, .inl e3)), ((gg 4), .inl (cI, 40, .inl e5)), ((gg 5), .inl (cC, 160, .inl e4))] s.heap := hP
  have hD : va_D (zAM gg) [((gg 0), .inr (2, [.int ft, .int (nI n0), .ref (gg 1), .int (nI n2), .int (nI n3), .int (nI rt), .ref (gg 2), .ref (gg 3), .ref (gg 4), .int (nI rd), .int (nI n4), .ref (gg 5)])), ((gg 1), .inl (cI, 4, .inl e0)), ((gg 2), .inl (cI, 40, .inl e2)), ((gg 3), .inl (cI, 120, .inl e3)), ((gg 4), .inl (cI, 40, .inl e5)), ((gg 5), .inl (cC, 160, .inl e4))] := zMd_D hh
  have hS : va_S (zAM gg) s.heap s.heap [] := va_S.rf
  refine lv_aload_n hx hb d_MD_put_0 rfl (lv_at hl 0 rfl) ?_
  refine lv_iconst (v := (nI 0)) hx hb d_MD_put_1 (by decide) ?_
  refine va_put (D := D) (ci := 2) (v := .int (nI 0)) (ty := .int) (C := R_MD) (T := F_MD) (N := 12) hx hb hg i_MD t_MD t_MD_ok n_MD hown hE.1 hP hD hS 0 rfl rfl 0 (by decide) (hg _ zw_488) (fun _ h9 => h9) rfl (by decide +kernel) rfl rfl (Nat.le_of_ble_eq_true rfl) d_MD_put_2 (fun H locs hP hD hS => ?_)
  have hP : va_P D zcl [((gg 0), .inr (2, [.int (nI 0), .int (nI n0), .ref (gg 1), .int (nI n2), .int (nI n3), .int (nI rt), .ref (gg 2), .ref (gg 3), .ref (gg 4), .int (nI rd), .int (nI n4), .ref (gg 5)])), ((gg 1), .inl (cI, 4, .inl e0)), ((gg 2), .inl (cI, 40, .inl e2)), ((gg 3), .inl (cI, 120, .inl e3)), ((gg 4), .inl (cI, 40, .inl e5)), ((gg 5), .inl (cC, 160, .inl e4))] H := hP
  have hD : va_D (zAM gg) [((gg 0), .inr (2, [.int (nI 0), .int (nI n0), .ref (gg 1), .int (nI n2), .int (nI n3), .int (nI rt), .ref (gg 2), .ref (gg 3), .ref (gg 4), .int (nI rd), .int (nI n4), .ref (gg 5)])), ((gg 1), .inl (cI, 4, .inl e0)), ((gg 2), .inl (cI, 40, .inl e2)), ((gg 3), .inl (cI, 120, .inl e3)), ((gg 4), .inl (cI, 40, .inl e5)), ((gg 5), .inl (cC, 160, .inl e4))] := hD
  refine lv_aload_n hx hb d_MD_put_5 rfl (lv_at hl 0 rfl) ?_
  refine va_get (D := D) (ci := 2) (v := .int (nI n2)) (C := R_MD) (T := F_MD) (N := 12) hx hb hg i_MD hown hE.1 hP 0 rfl rfl 3 (by decide) (hg _ zw_491) (fun _ h9 => h9) rfl d_MD_put_6 ?_
  refine lv_bipush (v := (nI 40)) hx hb d_MD_put_9 (by decide) ?_
  have rest : ∀ ls : Array Slot, lv_has ls 2 [(0, .ref (gg 0)), (1, .int x)] → W p l e ({ frames := 0, cells := 0, slots := 0, locals := 0 }) s m [.ref (gg 0), .int x].toArray below meth c H locs 0 0 (MQ below (zQm (some (.int (nI 0))) (fun H => zMo D cI cC gg (nI 0) n0 S n2 M n3 B n4 E rt H) (zAM gg)) [.ref (gg 0), .int x].toArray s 0 0 (zAM gg)) (F0 m 25 ls []) := by
    intro ls hl
    refine lv_iconst (v := (nI 0)) hx hb d_MD_put_25 (by decide) ?_
    exact W.zret (v := (nI 0)) hx hb hr (rfl) (fun t ht _ => ⟨rfl, by rw [ht]; exact ⟨rd, e0, e2, e3, e5, e4, hS0, hM, hB, hE9, hP⟩, hS.F ht⟩) hS.2.2 d_MD_put_26
  by_cases g : n2 = 40
  · refine lv_icmp_eq hx hb d_MD_put_11 (tgt := 25) (by decide) (fun _ => ?_) (fun z9 => absurd (by rw [g]) z9)
    exact rest ls hl
  · refine lv_icmp_eq hx hb d_MD_put_11 (tgt := 25) (by decide) (fun z9 => absurd z9 (fun z => g ((nI_eq (by omega) (by omega)).mp z))) (fun _ => ?_)
    refine lv_iload_n hx hb d_MD_put_14 rfl (lv_at hl 1 rfl) ?_
    refine lv_if_lt hx hb d_MD_put_15 (tgt := 25) (by decide) (fun g1 => ?_) (fun g1 => ?_)
    · exact rest ls hl
    · refine lv_iload_n hx hb d_MD_put_18 rfl (lv_at hl 1 rfl) ?_
      refine lv_sipush (v := (nI 255)) hx hb d_MD_put_19 (by decide) ?_
      refine lv_icmp_le hx hb d_MD_put_22 (tgt := 27) (by decide) (fun z9 => absurd z9 (fun z => (hx9.resolve_left g1).elim (fun q9 => Int32.not_lt.mpr z q9) g)) (fun _ => ?_)
      exact rest ls hl

set_option maxHeartbeats 4000000 in
set_option maxRecDepth 100000 in
theorem c_MD_clear (l : Launch) (D : va_G) (cI cC cJ : ClassId) (gg : Nat → Nat) (ft : Int32) (n0 : Nat) (S : Nat → Nat) (n2 : Nat) (M : Nat → Nat) (n3 : Nat) (B : Nat → Nat) (n4 : Nat) (E : Nat → Nat) (rt : Nat) (hh : zm_inj gg) (hn0 : n0 ≤ 4) (hn2 : n2 ≤ 40) (hn3 : n3 ≤ 120) (hn4 : n4 ≤ 160) : Met l y_MD_clear (zw k_MD_clear) ({ frames := 0, cells := 0, slots := 0, locals := 0 }) (zPc [.ref (gg 0)] (fun H => zMo D cI cC gg ft n0 S n2 M n3 B n4 E rt H) D cI cC cJ) (zQm (some (.int (nI n2))) (fun H => zMo D cI cC gg (nI 0) n0 S 0 M n3 B n4 E rt H) (zAM gg)) 0 0 (zAM gg) := by
  refine zMet (by decide) (Nat.le_of_ble_eq_true rfl) ?_
  intro p e s m below meth c hx hb hr hg hown hlk hml hB0 hE ls hl
  have hl : lv_has ls 2 [(0, .ref (gg 0))] := hl
  have hS9 : CallFix p m c b_MD_clear 2 s [.ref (gg 0)].toArray zg "SealedFilesModel" := ⟨hx, hb, hml, hown, hg⟩
  obtain ⟨rd, e0, e2, e3, e5, e4, hS0, hM, hB, hE9, hP⟩ := hB0
  have hP : va_P D zcl [((gg 0), .inr (2, [.int ft, .int (nI n0), .ref (gg 1), .int (nI n2), .int (nI n3), .int (nI rt), .ref (gg 2), .ref (gg 3), .ref (gg 4), .int (nI rd), .int (nI n4), .ref (gg 5)])), ((gg 1), .inl (cI, 4, .inl e0)), ((gg 2), .inl (cI, 40, .inl e2)), ((gg 3), .inl (cI, 120, .inl e3)), ((gg 4), .inl (cI, 40, .inl e5)), ((gg 5), .inl (cC, 160, .inl e4))] s.heap := hP
  have hD : va_D (zAM gg) [((gg 0), .inr (2, [.int ft, .int (nI n0), .ref (gg 1), .int (nI n2), .int (nI n3), .int (nI rt), .ref (gg 2), .ref (gg 3), .ref (gg 4), .int (nI rd), .int (nI n4), .ref (gg 5)])), ((gg 1), .inl (cI, 4, .inl e0)), ((gg 2), .inl (cI, 40, .inl e2)), ((gg 3), .inl (cI, 120, .inl e3)), ((gg 4), .inl (cI, 40, .inl e5)), ((gg 5), .inl (cC, 160, .inl e4))] := zMd_D hh
  have hS : va_S (zAM gg) s.heap s.heap [] := va_S.rf
  refine lv_aload_n hx hb d_MD_clear_0 rfl (lv_at hl 0 rfl) ?_
  refine lv_iconst (v := (nI 0)) hx hb d_MD_clear_1 (by decide) ?_
  refine va_put (D := D) (ci := 2) (v := .int (nI 0)) (ty := .int) (C := R_MD) (T := F_MD) (N := 12) hx hb hg i_MD t_MD t_MD_ok n_MD hown hE.1 hP hD hS 0 rfl rfl 0 (by decide) (hg _ zw_488) (fun _ h9 => h9) rfl (by decide +kernel) rfl rfl (Nat.le_of_ble_eq_true rfl) d_MD_clear_2 (fun H locs hP hD hS => ?_)
  have hP : va_P D zcl [((gg 0), .inr (2, [.int (nI 0), .int (nI n0), .ref (gg 1), .int (nI n2), .int (nI n3), .int (nI rt), .ref (gg 2), .ref (gg 3), .ref (gg 4), .int (nI rd), .int (nI n4), .ref (gg 5)])), ((gg 1), .inl (cI, 4, .inl e0)), ((gg 2), .inl (cI, 40, .inl e2)), ((gg 3), .inl (cI, 120, .inl e3)), ((gg 4), .inl (cI, 40, .inl e5)), ((gg 5), .inl (cC, 160, .inl e4))] H := hP
  have hD : va_D (zAM gg) [((gg 0), .inr (2, [.int (nI 0), .int (nI n0), .ref (gg 1), .int (nI n2), .int (nI n3), .int (nI rt), .ref (gg 2), .ref (gg 3), .ref (gg 4), .int (nI rd), .int (nI n4), .ref (gg 5)])), ((gg 1), .inl (cI, 4, .inl e0)), ((gg 2), .inl (cI, 40, .inl e2)), ((gg 3), .inl (cI, 120, .inl e3)), ((gg 4), .inl (cI, 40, .inl e5)), ((gg 5), .inl (cC, 160, .inl e4))] := hD
  refine lv_aload_n hx hb d_MD_clear_5 rfl (lv_at hl 0 rfl) ?_
  refine va_get (D := D) (ci := 2) (v := .int (nI n2)) (C := R_MD) (T := F_MD) (N := 12) hx hb hg i_MD hown hE.1 hP 0 rfl rfl 3 (by decide) (hg _ zw_491) (fun _ h9 => h9) rfl d_MD_clear_6 ?_
  refine lv_istore_n hx hb d_MD_clear_9 rfl hl (by decide) (lv' := [(1, .int (nI n2)), (0, .ref (gg 0))]) rfl (fun ls hl => ?_)
  refine lv_aload_n hx hb d_MD_clear_10 rfl (lv_at hl 1 rfl) ?_
  refine lv_iconst (v := (nI 0)) hx hb d_MD_clear_11 (by decide) ?_
  refine va_put (D := D) (ci := 2) (v := .int (nI 0)) (ty := .int) (C := R_MD) (T := F_MD) (N := 12) hx hb hg i_MD t_MD t_MD_ok n_MD hown hE.1 hP hD hS 0 rfl rfl 3 (by decide) (hg _ zw_491) (fun _ h9 => h9) rfl (by decide +kernel) rfl rfl (Nat.le_of_ble_eq_true rfl) d_MD_clear_12 (fun H locs hP hD hS => ?_)
  have hP : va_P D zcl [((gg 0), .inr (2, [.int (nI 0), .int (nI n0), .ref (gg 1), .int (nI 0), .int (nI n3), .int (nI rt), .ref (gg 2), .ref (gg 3), .ref (gg 4), .int (nI rd), .int (nI n4), .ref (gg 5)])), ((gg 1), .inl (cI, 4, .inl e0)), ((gg 2), .inl (cI, 40, .inl e2)), ((gg 3), .inl (cI, 120, .inl e3)), ((gg 4), .inl (cI, 40, .inl e5)), ((gg 5), .inl (cC, 160, .inl e4))] H := hP
  have hD : va_D (zAM gg) [((gg 0), .inr (2, [.int (nI 0), .int (nI n0), .ref (gg 1), .int (nI 0), .int (nI n3), .int (nI rt), .ref (gg 2), .ref (gg 3), .ref (gg 4), .int (nI rd), .int (nI n4), .ref (gg 5)])), ((gg 1), .inl (cI, 4, .inl e0)), ((gg 2), .inl (cI, 40, .inl e2)), ((gg 3), .inl (cI, 120, .inl e3)), ((gg 4), .inl (cI, 40, .inl e5)), ((gg 5), .inl (cC, 160, .inl e4))] := hD
  refine lv_iload_n hx hb d_MD_clear_15 rfl (lv_at hl 0 rfl) ?_
  exact W.iret (v := (nI n2)) hx hb hr (fun t ht _ => ⟨rfl, by rw [ht]; exact ⟨rd, e0, e2, e3, e5, e4, hS0, zs_hold_0, hB, hE9, hP⟩, hS.F ht⟩) hS.2.2 d_MD_clear_16

set_option maxHeartbeats 4000000 in
set_option maxRecDepth 100000 in
theorem c_MD_pieces (l : Launch) (D : va_G) (cI cC cJ : ClassId) (gg : Nat → Nat) (ft : Int32) (n0 : Nat) (S : Nat → Nat) (n2 : Nat) (M : Nat → Nat) (n3 : Nat) (B : Nat → Nat) (n4 : Nat) (E : Nat → Nat) (rt : Nat) (hh : zm_inj gg) (hn0 : n0 ≤ 4) (hn2 : n2 ≤ 40) (hn3 : n3 ≤ 120) (hn4 : n4 ≤ 160) : Met l y_MD_pieces (zw k_MD_pieces) ({ frames := 0, cells := 0, slots := 0, locals := 0 }) (zPc [.ref (gg 0)] (fun H => zMo D cI cC gg ft n0 S n2 M n3 B n4 E rt H) D cI cC cJ) (zQm (some (.int (nI rt))) (fun H => zMo D cI cC gg (nI 0) n0 S n2 M n3 B n4 E rt H) (zAM gg)) 0 0 (zAM gg) := by
  refine zMet (by decide) (Nat.le_of_ble_eq_true rfl) ?_
  intro p e s m below meth c hx hb hr hg hown hlk hml hB0 hE ls hl
  have hl : lv_has ls 1 [(0, .ref (gg 0))] := hl
  have hS9 : CallFix p m c b_MD_pieces 1 s [.ref (gg 0)].toArray zg "SealedFilesModel" := ⟨hx, hb, hml, hown, hg⟩
  obtain ⟨rd, e0, e2, e3, e5, e4, hS0, hM, hB, hE9, hP⟩ := hB0
  have hP : va_P D zcl [((gg 0), .inr (2, [.int ft, .int (nI n0), .ref (gg 1), .int (nI n2), .int (nI n3), .int (nI rt), .ref (gg 2), .ref (gg 3), .ref (gg 4), .int (nI rd), .int (nI n4), .ref (gg 5)])), ((gg 1), .inl (cI, 4, .inl e0)), ((gg 2), .inl (cI, 40, .inl e2)), ((gg 3), .inl (cI, 120, .inl e3)), ((gg 4), .inl (cI, 40, .inl e5)), ((gg 5), .inl (cC, 160, .inl e4))] s.heap := hP
  have hD : va_D (zAM gg) [((gg 0), .inr (2, [.int ft, .int (nI n0), .ref (gg 1), .int (nI n2), .int (nI n3), .int (nI rt), .ref (gg 2), .ref (gg 3), .ref (gg 4), .int (nI rd), .int (nI n4), .ref (gg 5)])), ((gg 1), .inl (cI, 4, .inl e0)), ((gg 2), .inl (cI, 40, .inl e2)), ((gg 3), .inl (cI, 120, .inl e3)), ((gg 4), .inl (cI, 40, .inl e5)), ((gg 5), .inl (cC, 160, .inl e4))] := zMd_D hh
  have hS : va_S (zAM gg) s.heap s.heap [] := va_S.rf
  refine lv_aload_n hx hb d_MD_pieces_0 rfl (lv_at hl 0 rfl) ?_
  refine lv_iconst (v := (nI 0)) hx hb d_MD_pieces_1 (by decide) ?_
  refine va_put (D := D) (ci := 2) (v := .int (nI 0)) (ty := .int) (C := R_MD) (T := F_MD) (N := 12) hx hb hg i_MD t_MD t_MD_ok n_MD hown hE.1 hP hD hS 0 rfl rfl 0 (by decide) (hg _ zw_488) (fun _ h9 => h9) rfl (by decide +kernel) rfl rfl (Nat.le_of_ble_eq_true rfl) d_MD_pieces_2 (fun H locs hP hD hS => ?_)
  have hP : va_P D zcl [((gg 0), .inr (2, [.int (nI 0), .int (nI n0), .ref (gg 1), .int (nI n2), .int (nI n3), .int (nI rt), .ref (gg 2), .ref (gg 3), .ref (gg 4), .int (nI rd), .int (nI n4), .ref (gg 5)])), ((gg 1), .inl (cI, 4, .inl e0)), ((gg 2), .inl (cI, 40, .inl e2)), ((gg 3), .inl (cI, 120, .inl e3)), ((gg 4), .inl (cI, 40, .inl e5)), ((gg 5), .inl (cC, 160, .inl e4))] H := hP
  have hD : va_D (zAM gg) [((gg 0), .inr (2, [.int (nI 0), .int (nI n0), .ref (gg 1), .int (nI n2), .int (nI n3), .int (nI rt), .ref (gg 2), .ref (gg 3), .ref (gg 4), .int (nI rd), .int (nI n4), .ref (gg 5)])), ((gg 1), .inl (cI, 4, .inl e0)), ((gg 2), .inl (cI, 40, .inl e2)), ((gg 3), .inl (cI, 120, .inl e3)), ((gg 4), .inl (cI, 40, .inl e5)), ((gg 5), .inl (cC, 160, .inl e4))] := hD
  refine lv_aload_n hx hb d_MD_pieces_5 rfl (lv_at hl 0 rfl) ?_
  refine va_get (D := D) (ci := 2) (v := .int (nI rt)) (C := R_MD) (T := F_MD) (N := 12) hx hb hg i_MD hown hE.1 hP 0 rfl rfl 5 (by decide) (hg _ zw_493) (fun _ h9 => h9) rfl d_MD_pieces_6 ?_
  exact W.iret (v := (nI rt)) hx hb hr (fun t ht _ => ⟨rfl, by rw [ht]; exact ⟨rd, e0, e2, e3, e5, e4, hS0, hM, hB, hE9, hP⟩, hS.F ht⟩) hS.2.2 d_MD_pieces_9

set_option maxHeartbeats 4000000 in
set_option maxRecDepth 100000 in
theorem c_MD_read_ok (l : Launch) (D : va_G) (cI cC cJ : ClassId) (gg : Nat → Nat) (ft : Int32) (n0 : Nat) (S : Nat → Nat) (n2 : Nat) (M : Nat → Nat) (n3 : Nat) (B : Nat → Nat) (n4 : Nat) (E : Nat → Nat) (rt : Nat) (hh : zm_inj gg) (hn0 : n0 ≤ 4) (hn2 : n2 ≤ 40) (hn3 : n3 ≤ 120) (hn4 : n4 ≤ 160) (j : Nat) (hj : j < n2) : Met l y_MD_read (zw k_MD_read) ({ frames := 1, cells := 0, slots := 0, locals := 21 }) (zPc [.ref (gg 0), .int (nI j)] (fun H => zMo D cI cC gg ft n0 S n2 M n3 B n4 E rt H) D cI cC cJ) (zQm (some (.int (nI (M j)))) (fun H => zMo D cI cC gg (nI 0) n0 S n2 M n3 B n4 E rt H) (zAM gg)) 0 0 (zAM gg) := by
  refine zMet (by decide) (Nat.le_of_ble_eq_true rfl) ?_
  intro p e s m below meth c hx hb hr hg hown hlk hml hB0 hE ls hl
  have hl : lv_has ls 2 [(0, .ref (gg 0)), (1, .int (nI j))] := hl
  have hS9 : CallFix p m c b_MD_read 2 s [.ref (gg 0), .int (nI j)].toArray zg "SealedFilesModel" := ⟨hx, hb, hml, hown, hg⟩
  obtain ⟨rd, e0, e2, e3, e5, e4, hS0, hM, hB, hE9, hP⟩ := hB0
  have hP : va_P D zcl [((gg 0), .inr (2, [.int ft, .int (nI n0), .ref (gg 1), .int (nI n2), .int (nI n3), .int (nI rt), .ref (gg 2), .ref (gg 3), .ref (gg 4), .int (nI rd), .int (nI n4), .ref (gg 5)])), ((gg 1), .inl (cI, 4, .inl e0)), ((gg 2), .inl (cI, 40, .inl e2)), ((gg 3), .inl (cI, 120, .inl e3)), ((gg 4), .inl (cI, 40, .inl e5)), ((gg 5), .inl (cC, 160, .inl e4))] s.heap := hP
  have hD : va_D (zAM gg) [((gg 0), .inr (2, [.int ft, .int (nI n0), .ref (gg 1), .int (nI n2), .int (nI n3), .int (nI rt), .ref (gg 2), .ref (gg 3), .ref (gg 4), .int (nI rd), .int (nI n4), .ref (gg 5)])), ((gg 1), .inl (cI, 4, .inl e0)), ((gg 2), .inl (cI, 40, .inl e2)), ((gg 3), .inl (cI, 120, .inl e3)), ((gg 4), .inl (cI, 40, .inl e5)), ((gg 5), .inl (cC, 160, .inl e4))] := zMd_D hh
  have hS : va_S (zAM gg) s.heap s.heap [] := va_S.rf
  refine lv_aload_n hx hb d_MD_read_0 rfl (lv_at hl 0 rfl) ?_
  refine lv_iconst (v := (nI 0)) hx hb d_MD_read_1 (by decide) ?_
  refine va_put (D := D) (ci := 2) (v := .int (nI 0)) (ty := .int) (C := R_MD) (T := F_MD) (N := 12) hx hb hg i_MD t_MD t_MD_ok n_MD hown hE.1 hP hD hS 0 rfl rfl 0 (by decide) (hg _ zw_488) (fun _ h9 => h9) rfl (by decide +kernel) rfl rfl (Nat.le_of_ble_eq_true rfl) d_MD_read_2 (fun H locs hP hD hS => ?_)
  have hP : va_P D zcl [((gg 0), .inr (2, [.int (nI 0), .int (nI n0), .ref (gg 1), .int (nI n2), .int (nI n3), .int (nI rt), .ref (gg 2), .ref (gg 3), .ref (gg 4), .int (nI rd), .int (nI n4), .ref (gg 5)])), ((gg 1), .inl (cI, 4, .inl e0)), ((gg 2), .inl (cI, 40, .inl e2)), ((gg 3), .inl (cI, 120, .inl e3)), ((gg 4), .inl (cI, 40, .inl e5)), ((gg 5), .inl (cC, 160, .inl e4))] H := hP
  have hD : va_D (zAM gg) [((gg 0), .inr (2, [.int (nI 0), .int (nI n0), .ref (gg 1), .int (nI n2), .int (nI n3), .int (nI rt), .ref (gg 2), .ref (gg 3), .ref (gg 4), .int (nI rd), .int (nI n4), .ref (gg 5)])), ((gg 1), .inl (cI, 4, .inl e0)), ((gg 2), .inl (cI, 40, .inl e2)), ((gg 3), .inl (cI, 120, .inl e3)), ((gg 4), .inl (cI, 40, .inl e5)), ((gg 5), .inl (cC, 160, .inl e4))] := hD
  refine lv_iload_n hx hb d_MD_read_5 rfl (lv_at hl 1 rfl) ?_
  refine lv_if_lt hx hb d_MD_read_6 (tgt := 26) (by decide) (fun z9 => absurd z9 (nI_pos (by omega))) (fun _ => ?_)
  refine lv_iload_n hx hb d_MD_read_9 rfl (lv_at hl 1 rfl) ?_
  refine lv_aload_n hx hb d_MD_read_10 rfl (lv_at hl 0 rfl) ?_
  refine va_get (D := D) (ci := 2) (v := .int (nI n2)) (C := R_MD) (T := F_MD) (N := 12) hx hb hg i_MD hown hE.1 hP 0 rfl rfl 3 (by decide) (hg _ zw_491) (fun _ h9 => h9) rfl d_MD_read_11 ?_
  refine lv_icmp_ge hx hb d_MD_read_14 (tgt := 26) (by decide) (fun z9 => absurd z9 (nI_ge hj (by omega))) (fun _ => ?_)
  refine lv_aload_n hx hb d_MD_read_17 rfl (lv_at hl 0 rfl) ?_
  refine va_get (D := D) (ci := 2) (v := .ref (gg 2)) (C := R_MD) (T := F_MD) (N := 12) hx hb hg i_MD hown hE.1 hP 0 rfl rfl 6 (by decide) (hg _ zw_494) (fun _ h9 => h9) rfl d_MD_read_18 ?_
  refine lv_iload_n hx hb d_MD_read_21 rfl (lv_at hl 1 rfl) ?_
  refine zald hx hb hE.1 hP 2 0 rfl rfl (by omega) (by decide) d_MD_read_22 ?_
  refine lv_goto hx hb d_MD_read_23 (tgt := 31) (by decide) ?_
  exact W.iret (v := (e2 j)) hx hb hr (fun t ht _ => ⟨congrArg (fun z => Outcome.returned (some (Value.int z))) ((hM j hj).1), by rw [ht]; exact ⟨rd, e0, e2, e3, e5, e4, hS0, hM, hB, hE9, hP⟩, hS.F ht⟩) hS.2.2 d_MD_read_31

set_option maxHeartbeats 4000000 in
set_option maxRecDepth 100000 in
theorem c_MD_read_e (l : Launch) (D : va_G) (cI cC cJ : ClassId) (gg : Nat → Nat) (ft : Int32) (n0 : Nat) (S : Nat → Nat) (n2 : Nat) (M : Nat → Nat) (n3 : Nat) (B : Nat → Nat) (n4 : Nat) (E : Nat → Nat) (rt : Nat) (hh : zm_inj gg) (hn0 : n0 ≤ 4) (hn2 : n2 ≤ 40) (hn3 : n3 ≤ 120) (hn4 : n4 ≤ 160) (x : Int32) (hx9 : x < 0 ∨ nI n2 ≤ x) : Met l y_MD_read (zw k_MD_read) ({ frames := 1, cells := 0, slots := 0, locals := 21 }) (zPc [.ref (gg 0), .int x] (fun H => zMo D cI cC gg ft n0 S n2 M n3 B n4 E rt H) D cI cC cJ) (zQm (some (.int (nI 0))) (fun H => zMo D cI cC gg (nI 1) n0 S n2 M n3 B n4 E rt H) (zAM gg)) 0 0 (zAM gg) := by
  refine zMet (by decide) (Nat.le_of_ble_eq_true rfl) ?_
  intro p e s m below meth c hx hb hr hg hown hlk hml hB0 hE ls hl
  have hl : lv_has ls 2 [(0, .ref (gg 0)), (1, .int x)] := hl
  have hS9 : CallFix p m c b_MD_read 2 s [.ref (gg 0), .int x].toArray zg "SealedFilesModel" := ⟨hx, hb, hml, hown, hg⟩
  obtain ⟨rd, e0, e2, e3, e5, e4, hS0, hM, hB, hE9, hP⟩ := hB0
  have hP : va_P D zcl [((gg 0), .inr (2, [.int ft, .int (nI n0), .ref (gg 1), .int (nI n2), .int (nI n3), .int (nI rt), .ref (gg 2), .ref (gg 3), .ref (gg 4), .int (nI rd), .int (nI n4), .ref (gg 5)])), ((gg 1), .inl (cI, 4, .inl e0)), ((gg 2), .inl (cI, 40, .inl e2)), ((gg 3), .inl (cI, 120, .inl e3)), ((gg 4), .inl (cI, 40, .inl e5)), ((gg 5), .inl (cC, 160, .inl e4))] s.heap := hP
  have hD : va_D (zAM gg) [((gg 0), .inr (2, [.int ft, .int (nI n0), .ref (gg 1), .int (nI n2), .int (nI n3), .int (nI rt), .ref (gg 2), .ref (gg 3), .ref (gg 4), .int (nI rd), .int (nI n4), .ref (gg 5)])), ((gg 1), .inl (cI, 4, .inl e0)), ((gg 2), .inl (cI, 40, .inl e2)), ((gg 3), .inl (cI, 120, .inl e3)), ((gg 4), .inl (cI, 40, .inl e5)), ((gg 5), .inl (cC, 160, .inl e4))] := zMd_D hh
  have hS : va_S (zAM gg) s.heap s.heap [] := va_S.rf
  refine lv_aload_n hx hb d_MD_read_0 rfl (lv_at hl 0 rfl) ?_
  refine lv_iconst (v := (nI 0)) hx hb d_MD_read_1 (by decide) ?_
  refine va_put (D := D) (ci := 2) (v := .int (nI 0)) (ty := .int) (C := R_MD) (T := F_MD) (N := 12) hx hb hg i_MD t_MD t_MD_ok n_MD hown hE.1 hP hD hS 0 rfl rfl 0 (by decide) (hg _ zw_488) (fun _ h9 => h9) rfl (by decide +kernel) rfl rfl (Nat.le_of_ble_eq_true rfl) d_MD_read_2 (fun H locs hP hD hS => ?_)
  have hP : va_P D zcl [((gg 0), .inr (2, [.int (nI 0), .int (nI n0), .ref (gg 1), .int (nI n2), .int (nI n3), .int (nI rt), .ref (gg 2), .ref (gg 3), .ref (gg 4), .int (nI rd), .int (nI n4), .ref (gg 5)])), ((gg 1), .inl (cI, 4, .inl e0)), ((gg 2), .inl (cI, 40, .inl e2)), ((gg 3), .inl (cI, 120, .inl e3)), ((gg 4), .inl (cI, 40, .inl e5)), ((gg 5), .inl (cC, 160, .inl e4))] H := hP
  have hD : va_D (zAM gg) [((gg 0), .inr (2, [.int (nI 0), .int (nI n0), .ref (gg 1), .int (nI n2), .int (nI n3), .int (nI rt), .ref (gg 2), .ref (gg 3), .ref (gg 4), .int (nI rd), .int (nI n4), .ref (gg 5)])), ((gg 1), .inl (cI, 4, .inl e0)), ((gg 2), .inl (cI, 40, .inl e2)), ((gg 3), .inl (cI, 120, .inl e3)), ((gg 4), .inl (cI, 40, .inl e5)), ((gg 5), .inl (cC, 160, .inl e4))] := hD
  refine lv_iload_n hx hb d_MD_read_5 rfl (lv_at hl 1 rfl) ?_
  have rest : ∀ ls : Array Slot, lv_has ls 2 [(0, .ref (gg 0)), (1, .int x)] → W p l e ({ frames := 1, cells := 0, slots := 0, locals := 21 }) s m [.ref (gg 0), .int x].toArray below meth c H locs 0 0 (MQ below (zQm (some (.int (nI 0))) (fun H => zMo D cI cC gg (nI 1) n0 S n2 M n3 B n4 E rt H) (zAM gg)) [.ref (gg 0), .int x].toArray s 0 0 (zAM gg)) (F0 m 26 ls []) := by
    intro ls hl
    refine lv_aload_n hx hb d_MD_read_26 rfl (lv_at hl 0 rfl) ?_
    refine lv_iconst (v := (nI 1)) hx hb d_MD_read_27 (by decide) ?_
    refine zWr (rest := []) (zrV hS9 (c_MD_fails l D cI cC cJ gg (nI 0) n0 n2 n3 rt rd n4 e0 e2 e3 e5 e4 (by omega) (by omega) (by omega) (by omega) hh (nI 1)) zc_MD_fails zw_534 zw_536 zp_26 (by decide) (va_recv hE.1 hP (ci := 2) (q := (R_MD, F_MD, 12)) rfl (q0 := 0) rfl) (hP) hE rfl hl.1 rfl (Nat.le_of_ble_eq_true rfl) d_MD_read_28) hS (fun _ _ h => h) (fun _ h => h) (fun H locs hP hz hk9 hS => ?_)
    have hP : va_P D zcl [((gg 0), .inr (2, [.int (nI 1), .int (nI n0), .ref (gg 1), .int (nI n2), .int (nI n3), .int (nI rt), .ref (gg 2), .ref (gg 3), .ref (gg 4), .int (nI rd), .int (nI n4), .ref (gg 5)])), ((gg 1), .inl (cI, 4, .inl e0)), ((gg 2), .inl (cI, 40, .inl e2)), ((gg 3), .inl (cI, 120, .inl e3)), ((gg 4), .inl (cI, 40, .inl e5)), ((gg 5), .inl (cC, 160, .inl e4))] H := hP
    have hD : va_D (zAM gg) [((gg 0), .inr (2, [.int (nI 1), .int (nI n0), .ref (gg 1), .int (nI n2), .int (nI n3), .int (nI rt), .ref (gg 2), .ref (gg 3), .ref (gg 4), .int (nI rd), .int (nI n4), .ref (gg 5)])), ((gg 1), .inl (cI, 4, .inl e0)), ((gg 2), .inl (cI, 40, .inl e2)), ((gg 3), .inl (cI, 120, .inl e3)), ((gg 4), .inl (cI, 40, .inl e5)), ((gg 5), .inl (cC, 160, .inl e4))] := zMd_D hh
    exact W.iret (v := (nI 0)) hx hb hr (fun t ht _ => ⟨rfl, by rw [ht]; exact ⟨rd, e0, e2, e3, e5, e4, hS0, hM, hB, hE9, hP⟩, hS.F ht⟩) hS.2.2 d_MD_read_31
  refine lv_if_lt hx hb d_MD_read_6 (tgt := 26) (by decide) (fun g => ?_) (fun g => ?_)
  · exact rest ls hl
  · refine lv_iload_n hx hb d_MD_read_9 rfl (lv_at hl 1 rfl) ?_
    refine lv_aload_n hx hb d_MD_read_10 rfl (lv_at hl 0 rfl) ?_
    refine va_get (D := D) (ci := 2) (v := .int (nI n2)) (C := R_MD) (T := F_MD) (N := 12) hx hb hg i_MD hown hE.1 hP 0 rfl rfl 3 (by decide) (hg _ zw_491) (fun _ h9 => h9) rfl d_MD_read_11 ?_
    refine lv_icmp_ge hx hb d_MD_read_14 (tgt := 26) (by decide) (fun _ => ?_) (fun z9 => absurd (hx9.resolve_left g) z9)
    exact rest ls hl

set_option maxHeartbeats 4000000 in
set_option maxRecDepth 100000 in
theorem c_MD_count (l : Launch) (D : va_G) (cI cC cJ : ClassId) (gg : Nat → Nat) (ft : Int32) (n0 : Nat) (S : Nat → Nat) (n2 : Nat) (M : Nat → Nat) (n3 : Nat) (B : Nat → Nat) (n4 : Nat) (E : Nat → Nat) (rt : Nat) (hh : zm_inj gg) (hn0 : n0 ≤ 4) (hn2 : n2 ≤ 40) (hn3 : n3 ≤ 120) (hn4 : n4 ≤ 160) (x : Int32) : Met l y_MD_count (zw k_MD_count) ({ frames := 0, cells := 0, slots := 0, locals := 0 }) (zPc [.ref (gg 0), .int x] (fun H => zMo D cI cC gg ft n0 S n2 M n3 B n4 E rt H) D cI cC cJ) (zQm (some (.int (zo_count n2 n3 n0 x))) (fun H => zMo D cI cC gg (nI 0) n0 S n2 M n3 B n4 E rt H) (zAM gg)) 0 0 (zAM gg) := by
  refine zMet (by decide) (Nat.le_of_ble_eq_true rfl) ?_
  intro p e s m below meth c hx hb hr hg hown hlk hml hB0 hE ls hl
  have hl : lv_has ls 2 [(0, .ref (gg 0)), (1, .int x)] := hl
  have hS9 : CallFix p m c b_MD_count 2 s [.ref (gg 0), .int x].toArray zg "SealedFilesModel" := ⟨hx, hb, hml, hown, hg⟩
  obtain ⟨rd, e0, e2, e3, e5, e4, hS0, hM, hB, hE9, hP⟩ := hB0
  have hP : va_P D zcl [((gg 0), .inr (2, [.int ft, .int (nI n0), .ref (gg 1), .int (nI n2), .int (nI n3), .int (nI rt), .ref (gg 2), .ref (gg 3), .ref (gg 4), .int (nI rd), .int (nI n4), .ref (gg 5)])), ((gg 1), .inl (cI, 4, .inl e0)), ((gg 2), .inl (cI, 40, .inl e2)), ((gg 3), .inl (cI, 120, .inl e3)), ((gg 4), .inl (cI, 40, .inl e5)), ((gg 5), .inl (cC, 160, .inl e4))] s.heap := hP
  have hD : va_D (zAM gg) [((gg 0), .inr (2, [.int ft, .int (nI n0), .ref (gg 1), .int (nI n2), .int (nI n3), .int (nI rt), .ref (gg 2), .ref (gg 3), .ref (gg 4), .int (nI rd), .int (nI n4), .ref (gg 5)])), ((gg 1), .inl (cI, 4, .inl e0)), ((gg 2), .inl (cI, 40, .inl e2)), ((gg 3), .inl (cI, 120, .inl e3)), ((gg 4), .inl (cI, 40, .inl e5)), ((gg 5), .inl (cC, 160, .inl e4))] := zMd_D hh
  have hS : va_S (zAM gg) s.heap s.heap [] := va_S.rf
  refine lv_aload_n hx hb d_MD_count_0 rfl (lv_at hl 0 rfl) ?_
  refine lv_iconst (v := (nI 0)) hx hb d_MD_count_1 (by decide) ?_
  refine va_put (D := D) (ci := 2) (v := .int (nI 0)) (ty := .int) (C := R_MD) (T := F_MD) (N := 12) hx hb hg i_MD t_MD t_MD_ok n_MD hown hE.1 hP hD hS 0 rfl rfl 0 (by decide) (hg _ zw_488) (fun _ h9 => h9) rfl (by decide +kernel) rfl rfl (Nat.le_of_ble_eq_true rfl) d_MD_count_2 (fun H locs hP hD hS => ?_)
  have hP : va_P D zcl [((gg 0), .inr (2, [.int (nI 0), .int (nI n0), .ref (gg 1), .int (nI n2), .int (nI n3), .int (nI rt), .ref (gg 2), .ref (gg 3), .ref (gg 4), .int (nI rd), .int (nI n4), .ref (gg 5)])), ((gg 1), .inl (cI, 4, .inl e0)), ((gg 2), .inl (cI, 40, .inl e2)), ((gg 3), .inl (cI, 120, .inl e3)), ((gg 4), .inl (cI, 40, .inl e5)), ((gg 5), .inl (cC, 160, .inl e4))] H := hP
  have hD : va_D (zAM gg) [((gg 0), .inr (2, [.int (nI 0), .int (nI n0), .ref (gg 1), .int (nI n2), .int (nI n3), .int (nI rt), .ref (gg 2), .ref (gg 3), .ref (gg 4), .int (nI rd), .int (nI n4), .ref (gg 5)])), ((gg 1), .inl (cI, 4, .inl e0)), ((gg 2), .inl (cI, 40, .inl e2)), ((gg 3), .inl (cI, 120, .inl e3)), ((gg 4), .inl (cI, 40, .inl e5)), ((gg 5), .inl (cC, 160, .inl e4))] := hD
  refine lv_iload_n hx hb d_MD_count_5 rfl (lv_at hl 1 rfl) ?_
  by_cases g0 : x = nI 0
  · refine lv_if_ne hx hb d_MD_count_6 (tgt := 16) (by decide) (fun z9 => absurd (g0) z9) (fun _ => ?_)
    refine lv_aload_n hx hb d_MD_count_9 rfl (lv_at hl 0 rfl) ?_
    refine va_get (D := D) (ci := 2) (v := .int (nI n2)) (C := R_MD) (T := F_MD) (N := 12) hx hb hg i_MD hown hE.1 hP 0 rfl rfl 3 (by decide) (hg _ zw_491) (fun _ h9 => h9) rfl d_MD_count_10 ?_
    refine lv_goto hx hb d_MD_count_13 (tgt := 41) (by decide) ?_
    exact W.iret (v := (nI n2)) hx hb hr (fun t ht _ => ⟨congrArg (fun z => Outcome.returned (some (Value.int z))) (by rw [zo_count, if_pos g0]), by rw [ht]; exact ⟨rd, e0, e2, e3, e5, e4, hS0, hM, hB, hE9, hP⟩, hS.F ht⟩) hS.2.2 d_MD_count_41
  · refine lv_if_ne hx hb d_MD_count_6 (tgt := 16) (by decide) (fun _ => ?_) (fun z9 => absurd z9 (g0))
    refine lv_iload_n hx hb d_MD_count_16 rfl (lv_at hl 1 rfl) ?_
    refine lv_iconst (v := (nI 1)) hx hb d_MD_count_17 (by decide) ?_
    by_cases g1 : x = nI 1
    · refine lv_icmp_ne hx hb d_MD_count_18 (tgt := 28) (by decide) (fun z9 => absurd (g1) z9) (fun _ => ?_)
      refine lv_aload_n hx hb d_MD_count_21 rfl (lv_at hl 0 rfl) ?_
      refine va_get (D := D) (ci := 2) (v := .int (nI n3)) (C := R_MD) (T := F_MD) (N := 12) hx hb hg i_MD hown hE.1 hP 0 rfl rfl 4 (by decide) (hg _ zw_492) (fun _ h9 => h9) rfl d_MD_count_22 ?_
      refine lv_goto hx hb d_MD_count_25 (tgt := 41) (by decide) ?_
      exact W.iret (v := (nI n3)) hx hb hr (fun t ht _ => ⟨congrArg (fun z => Outcome.returned (some (Value.int z))) (by rw [zo_count, if_neg g0, if_pos g1]), by rw [ht]; exact ⟨rd, e0, e2, e3, e5, e4, hS0, hM, hB, hE9, hP⟩, hS.F ht⟩) hS.2.2 d_MD_count_41
    · refine lv_icmp_ne hx hb d_MD_count_18 (tgt := 28) (by decide) (fun _ => ?_) (fun z9 => absurd z9 (g1))
      refine lv_iload_n hx hb d_MD_count_28 rfl (lv_at hl 1 rfl) ?_
      refine lv_iconst (v := (nI 2)) hx hb d_MD_count_29 (by decide) ?_
      by_cases g2 : x = nI 2
      · refine lv_icmp_ne hx hb d_MD_count_30 (tgt := 40) (by decide) (fun z9 => absurd (g2) z9) (fun _ => ?_)
        refine lv_aload_n hx hb d_MD_count_33 rfl (lv_at hl 0 rfl) ?_
        refine va_get (D := D) (ci := 2) (v := .int (nI n0)) (C := R_MD) (T := F_MD) (N := 12) hx hb hg i_MD hown hE.1 hP 0 rfl rfl 1 (by decide) (hg _ zw_489) (fun _ h9 => h9) rfl d_MD_count_34 ?_
        refine lv_goto hx hb d_MD_count_37 (tgt := 41) (by decide) ?_
        exact W.iret (v := (nI n0)) hx hb hr (fun t ht _ => ⟨congrArg (fun z => Outcome.returned (some (Value.int z))) (by rw [zo_count, if_neg g0, if_neg g1, if_pos g2]), by rw [ht]; exact ⟨rd, e0, e2, e3, e5, e4, hS0, hM, hB, hE9, hP⟩, hS.F ht⟩) hS.2.2 d_MD_count_41
      · refine lv_icmp_ne hx hb d_MD_count_30 (tgt := 40) (by decide) (fun _ => ?_) (fun z9 => absurd z9 (g2))
        refine lv_iconst (v := (-1)) hx hb d_MD_count_40 (by decide) ?_
        exact W.iret (v := (-1)) hx hb hr (fun t ht _ => ⟨congrArg (fun z => Outcome.returned (some (Value.int z))) (by rw [zo_count, if_neg g0, if_neg g1, if_neg g2]), by rw [ht]; exact ⟨rd, e0, e2, e3, e5, e4, hS0, hM, hB, hE9, hP⟩, hS.F ht⟩) hS.2.2 d_MD_count_41

set_option maxHeartbeats 4000000 in
set_option maxRecDepth 100000 in
theorem c_MD_at (l : Launch) (D : va_G) (cI cC cJ : ClassId) (gg : Nat → Nat) (ft : Int32) (n0 : Nat) (S : Nat → Nat) (n2 : Nat) (M : Nat → Nat) (n3 : Nat) (B : Nat → Nat) (n4 : Nat) (E : Nat → Nat) (rt : Nat) (hh : zm_inj gg) (hn0 : n0 ≤ 4) (hn2 : n2 ≤ 40) (hn3 : n3 ≤ 120) (hn4 : n4 ≤ 160) (x : Int32) : Met l y_MD_at (zw k_MD_at) ({ frames := 0, cells := 0, slots := 0, locals := 0 }) (zPc [.ref (gg 0), .int x] (fun H => zMo D cI cC gg ft n0 S n2 M n3 B n4 E rt H) D cI cC cJ) (zQm (some (.int (zo_at n3 B x))) (fun H => zMo D cI cC gg (nI 0) n0 S n2 M n3 B n4 E rt H) (zAM gg)) 0 0 (zAM gg) := by
  refine zMet (by decide) (Nat.le_of_ble_eq_true rfl) ?_
  intro p e s m below meth c hx hb hr hg hown hlk hml hB0 hE ls hl
  have hl : lv_has ls 2 [(0, .ref (gg 0)), (1, .int x)] := hl
  have hS9 : CallFix p m c b_MD_at 2 s [.ref (gg 0), .int x].toArray zg "SealedFilesModel" := ⟨hx, hb, hml, hown, hg⟩
  obtain ⟨rd, e0, e2, e3, e5, e4, hS0, hM, hB, hE9, hP⟩ := hB0
  have hP : va_P D zcl [((gg 0), .inr (2, [.int ft, .int (nI n0), .ref (gg 1), .int (nI n2), .int (nI n3), .int (nI rt), .ref (gg 2), .ref (gg 3), .ref (gg 4), .int (nI rd), .int (nI n4), .ref (gg 5)])), ((gg 1), .inl (cI, 4, .inl e0)), ((gg 2), .inl (cI, 40, .inl e2)), ((gg 3), .inl (cI, 120, .inl e3)), ((gg 4), .inl (cI, 40, .inl e5)), ((gg 5), .inl (cC, 160, .inl e4))] s.heap := hP
  have hD : va_D (zAM gg) [((gg 0), .inr (2, [.int ft, .int (nI n0), .ref (gg 1), .int (nI n2), .int (nI n3), .int (nI rt), .ref (gg 2), .ref (gg 3), .ref (gg 4), .int (nI rd), .int (nI n4), .ref (gg 5)])), ((gg 1), .inl (cI, 4, .inl e0)), ((gg 2), .inl (cI, 40, .inl e2)), ((gg 3), .inl (cI, 120, .inl e3)), ((gg 4), .inl (cI, 40, .inl e5)), ((gg 5), .inl (cC, 160, .inl e4))] := zMd_D hh
  have hS : va_S (zAM gg) s.heap s.heap [] := va_S.rf
  refine lv_aload_n hx hb d_MD_at_0 rfl (lv_at hl 0 rfl) ?_
  refine lv_iconst (v := (nI 0)) hx hb d_MD_at_1 (by decide) ?_
  refine va_put (D := D) (ci := 2) (v := .int (nI 0)) (ty := .int) (C := R_MD) (T := F_MD) (N := 12) hx hb hg i_MD t_MD t_MD_ok n_MD hown hE.1 hP hD hS 0 rfl rfl 0 (by decide) (hg _ zw_488) (fun _ h9 => h9) rfl (by decide +kernel) rfl rfl (Nat.le_of_ble_eq_true rfl) d_MD_at_2 (fun H locs hP hD hS => ?_)
  have hP : va_P D zcl [((gg 0), .inr (2, [.int (nI 0), .int (nI n0), .ref (gg 1), .int (nI n2), .int (nI n3), .int (nI rt), .ref (gg 2), .ref (gg 3), .ref (gg 4), .int (nI rd), .int (nI n4), .ref (gg 5)])), ((gg 1), .inl (cI, 4, .inl e0)), ((gg 2), .inl (cI, 40, .inl e2)), ((gg 3), .inl (cI, 120, .inl e3)), ((gg 4), .inl (cI, 40, .inl e5)), ((gg 5), .inl (cC, 160, .inl e4))] H := hP
  have hD : va_D (zAM gg) [((gg 0), .inr (2, [.int (nI 0), .int (nI n0), .ref (gg 1), .int (nI n2), .int (nI n3), .int (nI rt), .ref (gg 2), .ref (gg 3), .ref (gg 4), .int (nI rd), .int (nI n4), .ref (gg 5)])), ((gg 1), .inl (cI, 4, .inl e0)), ((gg 2), .inl (cI, 40, .inl e2)), ((gg 3), .inl (cI, 120, .inl e3)), ((gg 4), .inl (cI, 40, .inl e5)), ((gg 5), .inl (cC, 160, .inl e4))] := hD
  refine lv_iload_n hx hb d_MD_at_5 rfl (lv_at hl 1 rfl) ?_
  by_cases hx9 : x < 0 ∨ nI n3 ≤ x
  · have rest : ∀ ls : Array Slot, lv_has ls 2 [(0, .ref (gg 0)), (1, .int x)] → W p l e ({ frames := 0, cells := 0, slots := 0, locals := 0 }) s m [.ref (gg 0), .int x].toArray below meth c H locs 0 0 (MQ below (zQm (some (.int (zo_at n3 B x))) (fun H => zMo D cI cC gg (nI 0) n0 S n2 M n3 B n4 E rt H) (zAM gg)) [.ref (gg 0), .int x].toArray s 0 0 (zAM gg)) (F0 m 26 ls []) := by
      intro ls hl
      refine lv_iconst (v := (-1)) hx hb d_MD_at_26 (by decide) ?_
      exact W.iret (v := (-1)) hx hb hr (fun t ht _ => ⟨congrArg (fun z => Outcome.returned (some (Value.int z))) ((zo_at_no hx9).symm), by rw [ht]; exact ⟨rd, e0, e2, e3, e5, e4, hS0, hM, hB, hE9, hP⟩, hS.F ht⟩) hS.2.2 d_MD_at_27
    refine lv_if_lt hx hb d_MD_at_6 (tgt := 26) (by decide) (fun g => ?_) (fun g => ?_)
    · exact rest ls hl
    · refine lv_iload_n hx hb d_MD_at_9 rfl (lv_at hl 1 rfl) ?_
      refine lv_aload_n hx hb d_MD_at_10 rfl (lv_at hl 0 rfl) ?_
      refine va_get (D := D) (ci := 2) (v := .int (nI n3)) (C := R_MD) (T := F_MD) (N := 12) hx hb hg i_MD hown hE.1 hP 0 rfl rfl 4 (by decide) (hg _ zw_492) (fun _ h9 => h9) rfl d_MD_at_11 ?_
      refine lv_icmp_ge hx hb d_MD_at_14 (tgt := 26) (by decide) (fun _ => ?_) (fun z9 => absurd (hx9.resolve_left g) z9)
      exact rest ls hl
  · obtain ⟨j, hj, rfl⟩ : ∃ j, j < n3 ∧ x = nI j := by rcases pk_ix x (n := n3) (by omega) with z | z | z; exact absurd (Or.inl z) hx9; exact absurd (Or.inr z) hx9; exact z
    refine lv_if_lt hx hb d_MD_at_6 (tgt := 26) (by decide) (fun z9 => absurd z9 (nI_pos (by omega))) (fun _ => ?_)
    refine lv_iload_n hx hb d_MD_at_9 rfl (lv_at hl 1 rfl) ?_
    refine lv_aload_n hx hb d_MD_at_10 rfl (lv_at hl 0 rfl) ?_
    refine va_get (D := D) (ci := 2) (v := .int (nI n3)) (C := R_MD) (T := F_MD) (N := 12) hx hb hg i_MD hown hE.1 hP 0 rfl rfl 4 (by decide) (hg _ zw_492) (fun _ h9 => h9) rfl d_MD_at_11 ?_
    refine lv_icmp_ge hx hb d_MD_at_14 (tgt := 26) (by decide) (fun z9 => absurd z9 (nI_ge hj (by omega))) (fun _ => ?_)
    refine lv_aload_n hx hb d_MD_at_17 rfl (lv_at hl 0 rfl) ?_
    refine va_get (D := D) (ci := 2) (v := .ref (gg 3)) (C := R_MD) (T := F_MD) (N := 12) hx hb hg i_MD hown hE.1 hP 0 rfl rfl 7 (by decide) (hg _ zw_495) (fun _ h9 => h9) rfl d_MD_at_18 ?_
    refine lv_iload_n hx hb d_MD_at_21 rfl (lv_at hl 1 rfl) ?_
    refine zald hx hb hE.1 hP 3 0 rfl rfl (by omega) (by decide) d_MD_at_22 ?_
    refine lv_goto hx hb d_MD_at_23 (tgt := 27) (by decide) ?_
    exact W.iret (v := (e3 j)) hx hb hr (fun t ht _ => ⟨congrArg (fun z => Outcome.returned (some (Value.int z))) ((hB j hj).1.trans (zo_at_in hj (by omega)).symm), by rw [ht]; exact ⟨rd, e0, e2, e3, e5, e4, hS0, hM, hB, hE9, hP⟩, hS.F ht⟩) hS.2.2 d_MD_at_27

set_option maxHeartbeats 4000000 in
set_option maxRecDepth 100000 in
theorem c_MD_alter_ok (l : Launch) (D : va_G) (cI cC cJ : ClassId) (gg : Nat → Nat) (ft : Int32) (n0 : Nat) (S : Nat → Nat) (n2 : Nat) (M : Nat → Nat) (n3 : Nat) (B : Nat → Nat) (n4 : Nat) (E : Nat → Nat) (rt : Nat) (hh : zm_inj gg) (hn0 : n0 ≤ 4) (hn2 : n2 ≤ 40) (hn3 : n3 ≤ 120) (hn4 : n4 ≤ 160) (j : Nat) (x : Int32) (hj : j < n3) : Met l y_MD_alter (zw k_MD_alter) ({ frames := 1, cells := 0, slots := 0, locals := 21 }) (zPc [.ref (gg 0), .int (nI j), .int x] (fun H => zMo D cI cC gg ft n0 S n2 M n3 B n4 E rt H) D cI cC cJ) (zQm (some (.int (nI (zo_al (B j) x)))) (fun H => zMo D cI cC gg (nI 0) n0 S n2 M n3 (zs_set (n3, B) j (zo_al (B j) x)).2 n4 E rt H) (zAM gg)) 0 0 (zAM gg) := by
  refine zMet (by decide) (Nat.le_of_ble_eq_true rfl) ?_
  intro p e s m below meth c hx hb hr hg hown hlk hml hB0 hE ls hl
  have hl : lv_has ls 3 [(0, .ref (gg 0)), (1, .int (nI j)), (2, .int x)] := hl
  have hS9 : CallFix p m c b_MD_alter 3 s [.ref (gg 0), .int (nI j), .int x].toArray zg "SealedFilesModel" := ⟨hx, hb, hml, hown, hg⟩
  obtain ⟨rd, e0, e2, e3, e5, e4, hS0, hM, hB, hE9, hP⟩ := hB0
  have hP : va_P D zcl [((gg 0), .inr (2, [.int ft, .int (nI n0), .ref (gg 1), .int (nI n2), .int (nI n3), .int (nI rt), .ref (gg 2), .ref (gg 3), .ref (gg 4), .int (nI rd), .int (nI n4), .ref (gg 5)])), ((gg 1), .inl (cI, 4, .inl e0)), ((gg 2), .inl (cI, 40, .inl e2)), ((gg 3), .inl (cI, 120, .inl e3)), ((gg 4), .inl (cI, 40, .inl e5)), ((gg 5), .inl (cC, 160, .inl e4))] s.heap := hP
  have hD : va_D (zAM gg) [((gg 0), .inr (2, [.int ft, .int (nI n0), .ref (gg 1), .int (nI n2), .int (nI n3), .int (nI rt), .ref (gg 2), .ref (gg 3), .ref (gg 4), .int (nI rd), .int (nI n4), .ref (gg 5)])), ((gg 1), .inl (cI, 4, .inl e0)), ((gg 2), .inl (cI, 40, .inl e2)), ((gg 3), .inl (cI, 120, .inl e3)), ((gg 4), .inl (cI, 40, .inl e5)), ((gg 5), .inl (cC, 160, .inl e4))] := zMd_D hh
  have hS : va_S (zAM gg) s.heap s.heap [] := va_S.rf
  refine lv_aload_n hx hb d_MD_alter_0 rfl (lv_at hl 0 rfl) ?_
  refine lv_iconst (v := (nI 0)) hx hb d_MD_alter_1 (by decide) ?_
  refine va_put (D := D) (ci := 2) (v := .int (nI 0)) (ty := .int) (C := R_MD) (T := F_MD) (N := 12) hx hb hg i_MD t_MD t_MD_ok n_MD hown hE.1 hP hD hS 0 rfl rfl 0 (by decide) (hg _ zw_488) (fun _ h9 => h9) rfl (by decide +kernel) rfl rfl (Nat.le_of_ble_eq_true rfl) d_MD_alter_2 (fun H locs hP hD hS => ?_)
  have hP : va_P D zcl [((gg 0), .inr (2, [.int (nI 0), .int (nI n0), .ref (gg 1), .int (nI n2), .int (nI n3), .int (nI rt), .ref (gg 2), .ref (gg 3), .ref (gg 4), .int (nI rd), .int (nI n4), .ref (gg 5)])), ((gg 1), .inl (cI, 4, .inl e0)), ((gg 2), .inl (cI, 40, .inl e2)), ((gg 3), .inl (cI, 120, .inl e3)), ((gg 4), .inl (cI, 40, .inl e5)), ((gg 5), .inl (cC, 160, .inl e4))] H := hP
  have hD : va_D (zAM gg) [((gg 0), .inr (2, [.int (nI 0), .int (nI n0), .ref (gg 1), .int (nI n2), .int (nI n3), .int (nI rt), .ref (gg 2), .ref (gg 3), .ref (gg 4), .int (nI rd), .int (nI n4), .ref (gg 5)])), ((gg 1), .inl (cI, 4, .inl e0)), ((gg 2), .inl (cI, 40, .inl e2)), ((gg 3), .inl (cI, 120, .inl e3)), ((gg 4), .inl (cI, 40, .inl e5)), ((gg 5), .inl (cC, 160, .inl e4))] := hD
  have hbj : B j < 256 := (hB j hj).2
  refine lv_iload_n hx hb d_MD_alter_5 rfl (lv_at hl 1 rfl) ?_
  refine lv_if_lt hx hb d_MD_alter_6 (tgt := 17) (by decide) (fun z9 => absurd z9 (nI_pos (by omega))) (fun _ => ?_)
  refine lv_iload_n hx hb d_MD_alter_9 rfl (lv_at hl 1 rfl) ?_
  refine lv_aload_n hx hb d_MD_alter_10 rfl (lv_at hl 0 rfl) ?_
  refine va_get (D := D) (ci := 2) (v := .int (nI n3)) (C := R_MD) (T := F_MD) (N := 12) hx hb hg i_MD hown hE.1 hP 0 rfl rfl 4 (by decide) (hg _ zw_492) (fun _ h9 => h9) rfl d_MD_alter_11 ?_
  refine lv_icmp_lt hx hb d_MD_alter_14 (tgt := 23) (by decide) (fun _ => ?_) (fun z9 => absurd (nI_lt hj (by omega)) z9)
  refine lv_aload_n hx hb d_MD_alter_23 rfl (lv_at hl 0 rfl) ?_
  refine va_get (D := D) (ci := 2) (v := .ref (gg 3)) (C := R_MD) (T := F_MD) (N := 12) hx hb hg i_MD hown hE.1 hP 0 rfl rfl 7 (by decide) (hg _ zw_495) (fun _ h9 => h9) rfl d_MD_alter_24 ?_
  refine lv_iload_n hx hb d_MD_alter_27 rfl (lv_at hl 1 rfl) ?_
  refine lv_aload_n hx hb d_MD_alter_28 rfl (lv_at hl 0 rfl) ?_
  refine va_get (D := D) (ci := 2) (v := .ref (gg 3)) (C := R_MD) (T := F_MD) (N := 12) hx hb hg i_MD hown hE.1 hP 0 rfl rfl 7 (by decide) (hg _ zw_495) (fun _ h9 => h9) rfl d_MD_alter_29 ?_
  refine lv_iload_n hx hb d_MD_alter_32 rfl (lv_at hl 1 rfl) ?_
  refine zald hx hb hE.1 hP 3 0 rfl rfl (by omega) (by decide) d_MD_alter_33 ?_
  refine ztop (y := nI (B j)) ((hB j hj).1) ?_
  refine lv_iload_n hx hb d_MD_alter_34 rfl (lv_at hl 2 rfl) ?_
  refine lv_sipush (v := (nI 255)) hx hb d_MD_alter_35 (by decide) ?_
  refine lv_iand hx hb d_MD_alter_38 ?_
  refine lv_ixor hx hb d_MD_alter_39 ?_
  refine ztop (y := nI (zo_al (B j) x)) (zs_cv_i _ _) ?_
  refine zast hx hb hE.1 hP hD hS 3 0 rfl rfl (by omega) (by decide) d_MD_alter_40 (fun H locs hP hD hS => ?_)
  have hP : va_P D zcl [((gg 0), .inr (2, [.int (nI 0), .int (nI n0), .ref (gg 1), .int (nI n2), .int (nI n3), .int (nI rt), .ref (gg 2), .ref (gg 3), .ref (gg 4), .int (nI rd), .int (nI n4), .ref (gg 5)])), ((gg 1), .inl (cI, 4, .inl e0)), ((gg 2), .inl (cI, 40, .inl e2)), ((gg 3), .inl (cI, 120, .inl (upd e3 j (nI (zo_al (B j) x))))), ((gg 4), .inl (cI, 40, .inl e5)), ((gg 5), .inl (cC, 160, .inl e4))] H := hP
  have hD : va_D (zAM gg) [((gg 0), .inr (2, [.int (nI 0), .int (nI n0), .ref (gg 1), .int (nI n2), .int (nI n3), .int (nI rt), .ref (gg 2), .ref (gg 3), .ref (gg 4), .int (nI rd), .int (nI n4), .ref (gg 5)])), ((gg 1), .inl (cI, 4, .inl e0)), ((gg 2), .inl (cI, 40, .inl e2)), ((gg 3), .inl (cI, 120, .inl (upd e3 j (nI (zo_al (B j) x))))), ((gg 4), .inl (cI, 40, .inl e5)), ((gg 5), .inl (cC, 160, .inl e4))] := hD
  have hB : zs_hold 256 (upd e3 j (nI (zo_al (B j) x))) (zs_set (n3, B) j (zo_al (B j) x)) := zs_hold_set hB (zo_al_lt hbj x)
  refine lv_aload_n hx hb d_MD_alter_41 rfl (lv_at hl 0 rfl) ?_
  refine va_get (D := D) (ci := 2) (v := .ref (gg 3)) (C := R_MD) (T := F_MD) (N := 12) hx hb hg i_MD hown hE.1 hP 0 rfl rfl 7 (by decide) (hg _ zw_495) (fun _ h9 => h9) rfl d_MD_alter_42 ?_
  refine lv_iload_n hx hb d_MD_alter_45 rfl (lv_at hl 1 rfl) ?_
  refine zald hx hb hE.1 hP 3 0 rfl rfl (by omega) (by decide) d_MD_alter_46 ?_
  exact W.iret (v := ((upd e3 j (nI (zo_al (B j) x))) j)) hx hb hr (fun t ht _ => ⟨congrArg (fun z => Outcome.returned (some (Value.int z))) (pk_us), by rw [ht]; exact ⟨rd, e0, e2, (upd e3 j (nI (zo_al (B j) x))), e5, e4, hS0, hM, hB, hE9, hP⟩, hS.F ht⟩) hS.2.2 d_MD_alter_47

set_option maxHeartbeats 4000000 in
set_option maxRecDepth 100000 in
theorem c_MD_alter_e (l : Launch) (D : va_G) (cI cC cJ : ClassId) (gg : Nat → Nat) (ft : Int32) (n0 : Nat) (S : Nat → Nat) (n2 : Nat) (M : Nat → Nat) (n3 : Nat) (B : Nat → Nat) (n4 : Nat) (E : Nat → Nat) (rt : Nat) (hh : zm_inj gg) (hn0 : n0 ≤ 4) (hn2 : n2 ≤ 40) (hn3 : n3 ≤ 120) (hn4 : n4 ≤ 160) (x y : Int32) (hx9 : x < 0 ∨ nI n3 ≤ x) : Met l y_MD_alter (zw k_MD_alter) ({ frames := 1, cells := 0, slots := 0, locals := 21 }) (zPc [.ref (gg 0), .int x, .int y] (fun H => zMo D cI cC gg ft n0 S n2 M n3 B n4 E rt H) D cI cC cJ) (zQm (some (.int (nI 0))) (fun H => zMo D cI cC gg (nI 1) n0 S n2 M n3 B n4 E rt H) (zAM gg)) 0 0 (zAM gg) := by
  refine zMet (by decide) (Nat.le_of_ble_eq_true rfl) ?_
  intro p e s m below meth c hx hb hr hg hown hlk hml hB0 hE ls hl
  have hl : lv_has ls 3 [(0, .ref (gg 0)), (1, .int x), (2, .int y)] := hl
  have hS9 : CallFix p m c b_MD_alter 3 s [.ref (gg 0), .int x, .int y].toArray zg "SealedFilesModel" := ⟨hx, hb, hml, hown, hg⟩
  obtain ⟨rd, e0, e2, e3, e5, e4, hS0, hM, hB, hE9, hP⟩ := hB0
  have hP : va_P D zcl [((gg 0), .inr (2, [.int ft, .int (nI n0), .ref (gg 1), .int (nI n2), .int (nI n3), .int (nI rt), .ref (gg 2), .ref (gg 3), .ref (gg 4), .int (nI rd), .int (nI n4), .ref (gg 5)])), ((gg 1), .inl (cI, 4, .inl e0)), ((gg 2), .inl (cI, 40, .inl e2)), ((gg 3), .inl (cI, 120, .inl e3)), ((gg 4), .inl (cI, 40, .inl e5)), ((gg 5), .inl (cC, 160, .inl e4))] s.heap := hP
  have hD : va_D (zAM gg) [((gg 0), .inr (2, [.int ft, .int (nI n0), .ref (gg 1), .int (nI n2), .int (nI n3), .int (nI rt), .ref (gg 2), .ref (gg 3), .ref (gg 4), .int (nI rd), .int (nI n4), .ref (gg 5)])), ((gg 1), .inl (cI, 4, .inl e0)), ((gg 2), .inl (cI, 40, .inl e2)), ((gg 3), .inl (cI, 120, .inl e3)), ((gg 4), .inl (cI, 40, .inl e5)), ((gg 5), .inl (cC, 160, .inl e4))] := zMd_D hh
  have hS : va_S (zAM gg) s.heap s.heap [] := va_S.rf
  refine lv_aload_n hx hb d_MD_alter_0 rfl (lv_at hl 0 rfl) ?_
  refine lv_iconst (v := (nI 0)) hx hb d_MD_alter_1 (by decide) ?_
  refine va_put (D := D) (ci := 2) (v := .int (nI 0)) (ty := .int) (C := R_MD) (T := F_MD) (N := 12) hx hb hg i_MD t_MD t_MD_ok n_MD hown hE.1 hP hD hS 0 rfl rfl 0 (by decide) (hg _ zw_488) (fun _ h9 => h9) rfl (by decide +kernel) rfl rfl (Nat.le_of_ble_eq_true rfl) d_MD_alter_2 (fun H locs hP hD hS => ?_)
  have hP : va_P D zcl [((gg 0), .inr (2, [.int (nI 0), .int (nI n0), .ref (gg 1), .int (nI n2), .int (nI n3), .int (nI rt), .ref (gg 2), .ref (gg 3), .ref (gg 4), .int (nI rd), .int (nI n4), .ref (gg 5)])), ((gg 1), .inl (cI, 4, .inl e0)), ((gg 2), .inl (cI, 40, .inl e2)), ((gg 3), .inl (cI, 120, .inl e3)), ((gg 4), .inl (cI, 40, .inl e5)), ((gg 5), .inl (cC, 160, .inl e4))] H := hP
  have hD : va_D (zAM gg) [((gg 0), .inr (2, [.int (nI 0), .int (nI n0), .ref (gg 1), .int (nI n2), .int (nI n3), .int (nI rt), .ref (gg 2), .ref (gg 3), .ref (gg 4), .int (nI rd), .int (nI n4), .ref (gg 5)])), ((gg 1), .inl (cI, 4, .inl e0)), ((gg 2), .inl (cI, 40, .inl e2)), ((gg 3), .inl (cI, 120, .inl e3)), ((gg 4), .inl (cI, 40, .inl e5)), ((gg 5), .inl (cC, 160, .inl e4))] := hD
  refine lv_iload_n hx hb d_MD_alter_5 rfl (lv_at hl 1 rfl) ?_
  have rest : ∀ ls : Array Slot, lv_has ls 3 [(0, .ref (gg 0)), (1, .int x), (2, .int y)] → W p l e ({ frames := 1, cells := 0, slots := 0, locals := 21 }) s m [.ref (gg 0), .int x, .int y].toArray below meth c H locs 0 0 (MQ below (zQm (some (.int (nI 0))) (fun H => zMo D cI cC gg (nI 1) n0 S n2 M n3 B n4 E rt H) (zAM gg)) [.ref (gg 0), .int x, .int y].toArray s 0 0 (zAM gg)) (F0 m 17 ls []) := by
    intro ls hl
    refine lv_aload_n hx hb d_MD_alter_17 rfl (lv_at hl 0 rfl) ?_
    refine lv_iconst (v := (nI 1)) hx hb d_MD_alter_18 (by decide) ?_
    refine zWr (rest := []) (zrV hS9 (c_MD_fails l D cI cC cJ gg (nI 0) n0 n2 n3 rt rd n4 e0 e2 e3 e5 e4 (by omega) (by omega) (by omega) (by omega) hh (nI 1)) zc_MD_fails zw_534 zw_536 zp_26 (by decide) (va_recv hE.1 hP (ci := 2) (q := (R_MD, F_MD, 12)) rfl (q0 := 0) rfl) (hP) hE rfl hl.1 rfl (Nat.le_of_ble_eq_true rfl) d_MD_alter_19) hS (fun _ _ h => h) (fun _ h => h) (fun H locs hP hz hk9 hS => ?_)
    have hP : va_P D zcl [((gg 0), .inr (2, [.int (nI 1), .int (nI n0), .ref (gg 1), .int (nI n2), .int (nI n3), .int (nI rt), .ref (gg 2), .ref (gg 3), .ref (gg 4), .int (nI rd), .int (nI n4), .ref (gg 5)])), ((gg 1), .inl (cI, 4, .inl e0)), ((gg 2), .inl (cI, 40, .inl e2)), ((gg 3), .inl (cI, 120, .inl e3)), ((gg 4), .inl (cI, 40, .inl e5)), ((gg 5), .inl (cC, 160, .inl e4))] H := hP
    have hD : va_D (zAM gg) [((gg 0), .inr (2, [.int (nI 1), .int (nI n0), .ref (gg 1), .int (nI n2), .int (nI n3), .int (nI rt), .ref (gg 2), .ref (gg 3), .ref (gg 4), .int (nI rd), .int (nI n4), .ref (gg 5)])), ((gg 1), .inl (cI, 4, .inl e0)), ((gg 2), .inl (cI, 40, .inl e2)), ((gg 3), .inl (cI, 120, .inl e3)), ((gg 4), .inl (cI, 40, .inl e5)), ((gg 5), .inl (cC, 160, .inl e4))] := zMd_D hh
    exact W.iret (v := (nI 0)) hx hb hr (fun t ht _ => ⟨rfl, by rw [ht]; exact ⟨rd, e0, e2, e3, e5, e4, hS0, hM, hB, hE9, hP⟩, hS.F ht⟩) hS.2.2 d_MD_alter_22
  refine lv_if_lt hx hb d_MD_alter_6 (tgt := 17) (by decide) (fun g => ?_) (fun g => ?_)
  · exact rest ls hl
  · refine lv_iload_n hx hb d_MD_alter_9 rfl (lv_at hl 1 rfl) ?_
    refine lv_aload_n hx hb d_MD_alter_10 rfl (lv_at hl 0 rfl) ?_
    refine va_get (D := D) (ci := 2) (v := .int (nI n3)) (C := R_MD) (T := F_MD) (N := 12) hx hb hg i_MD hown hE.1 hP 0 rfl rfl 4 (by decide) (hg _ zw_492) (fun _ h9 => h9) rfl d_MD_alter_11 ?_
    refine lv_icmp_lt hx hb d_MD_alter_14 (tgt := 23) (by decide) (fun z9 => absurd z9 (Int32.not_lt.mpr (hx9.resolve_left g))) (fun _ => ?_)
    exact rest ls hl

set_option maxHeartbeats 4000000 in
set_option maxRecDepth 100000 in
theorem c_MD_cut_ok (l : Launch) (D : va_G) (cI cC cJ : ClassId) (gg : Nat → Nat) (ft : Int32) (n0 : Nat) (S : Nat → Nat) (n2 : Nat) (M : Nat → Nat) (n3 : Nat) (B : Nat → Nat) (n4 : Nat) (E : Nat → Nat) (rt : Nat) (hh : zm_inj gg) (hn0 : n0 ≤ 4) (hn2 : n2 ≤ 40) (hn3 : n3 ≤ 120) (hn4 : n4 ≤ 160) (j : Nat) (hj : j < n3) : Met l y_MD_cut (zw k_MD_cut) ({ frames := 0, cells := 0, slots := 0, locals := 0 }) (zPc [.ref (gg 0), .int (nI j)] (fun H => zMo D cI cC gg ft n0 S n2 M n3 B n4 E rt H) D cI cC cJ) (zQm (some (.int (nI 1))) (fun H => zMo D cI cC gg (nI 0) n0 S n2 M j B n4 E rt H) (zAM gg)) 0 0 (zAM gg) := by
  refine zMet (by decide) (Nat.le_of_ble_eq_true rfl) ?_
  intro p e s m below meth c hx hb hr hg hown hlk hml hB0 hE ls hl
  have hl : lv_has ls 2 [(0, .ref (gg 0)), (1, .int (nI j))] := hl
  have hS9 : CallFix p m c b_MD_cut 2 s [.ref (gg 0), .int (nI j)].toArray zg "SealedFilesModel" := ⟨hx, hb, hml, hown, hg⟩
  obtain ⟨rd, e0, e2, e3, e5, e4, hS0, hM, hB, hE9, hP⟩ := hB0
  have hP : va_P D zcl [((gg 0), .inr (2, [.int ft, .int (nI n0), .ref (gg 1), .int (nI n2), .int (nI n3), .int (nI rt), .ref (gg 2), .ref (gg 3), .ref (gg 4), .int (nI rd), .int (nI n4), .ref (gg 5)])), ((gg 1), .inl (cI, 4, .inl e0)), ((gg 2), .inl (cI, 40, .inl e2)), ((gg 3), .inl (cI, 120, .inl e3)), ((gg 4), .inl (cI, 40, .inl e5)), ((gg 5), .inl (cC, 160, .inl e4))] s.heap := hP
  have hD : va_D (zAM gg) [((gg 0), .inr (2, [.int ft, .int (nI n0), .ref (gg 1), .int (nI n2), .int (nI n3), .int (nI rt), .ref (gg 2), .ref (gg 3), .ref (gg 4), .int (nI rd), .int (nI n4), .ref (gg 5)])), ((gg 1), .inl (cI, 4, .inl e0)), ((gg 2), .inl (cI, 40, .inl e2)), ((gg 3), .inl (cI, 120, .inl e3)), ((gg 4), .inl (cI, 40, .inl e5)), ((gg 5), .inl (cC, 160, .inl e4))] := zMd_D hh
  have hS : va_S (zAM gg) s.heap s.heap [] := va_S.rf
  refine lv_aload_n hx hb d_MD_cut_0 rfl (lv_at hl 0 rfl) ?_
  refine lv_iconst (v := (nI 0)) hx hb d_MD_cut_1 (by decide) ?_
  refine va_put (D := D) (ci := 2) (v := .int (nI 0)) (ty := .int) (C := R_MD) (T := F_MD) (N := 12) hx hb hg i_MD t_MD t_MD_ok n_MD hown hE.1 hP hD hS 0 rfl rfl 0 (by decide) (hg _ zw_488) (fun _ h9 => h9) rfl (by decide +kernel) rfl rfl (Nat.le_of_ble_eq_true rfl) d_MD_cut_2 (fun H locs hP hD hS => ?_)
  have hP : va_P D zcl [((gg 0), .inr (2, [.int (nI 0), .int (nI n0), .ref (gg 1), .int (nI n2), .int (nI n3), .int (nI rt), .ref (gg 2), .ref (gg 3), .ref (gg 4), .int (nI rd), .int (nI n4), .ref (gg 5)])), ((gg 1), .inl (cI, 4, .inl e0)), ((gg 2), .inl (cI, 40, .inl e2)), ((gg 3), .inl (cI, 120, .inl e3)), ((gg 4), .inl (cI, 40, .inl e5)), ((gg 5), .inl (cC, 160, .inl e4))] H := hP
  have hD : va_D (zAM gg) [((gg 0), .inr (2, [.int (nI 0), .int (nI n0), .ref (gg 1), .int (nI n2), .int (nI n3), .int (nI rt), .ref (gg 2), .ref (gg 3), .ref (gg 4), .int (nI rd), .int (nI n4), .ref (gg 5)])), ((gg 1), .inl (cI, 4, .inl e0)), ((gg 2), .inl (cI, 40, .inl e2)), ((gg 3), .inl (cI, 120, .inl e3)), ((gg 4), .inl (cI, 40, .inl e5)), ((gg 5), .inl (cC, 160, .inl e4))] := hD
  refine lv_iload_n hx hb d_MD_cut_5 rfl (lv_at hl 1 rfl) ?_
  refine lv_if_lt hx hb d_MD_cut_6 (tgt := 17) (by decide) (fun z9 => absurd z9 (nI_pos (by omega))) (fun _ => ?_)
  refine lv_iload_n hx hb d_MD_cut_9 rfl (lv_at hl 1 rfl) ?_
  refine lv_aload_n hx hb d_MD_cut_10 rfl (lv_at hl 0 rfl) ?_
  refine va_get (D := D) (ci := 2) (v := .int (nI n3)) (C := R_MD) (T := F_MD) (N := 12) hx hb hg i_MD hown hE.1 hP 0 rfl rfl 4 (by decide) (hg _ zw_492) (fun _ h9 => h9) rfl d_MD_cut_11 ?_
  refine lv_icmp_lt hx hb d_MD_cut_14 (tgt := 19) (by decide) (fun _ => ?_) (fun z9 => absurd (nI_lt hj (by omega)) z9)
  refine lv_aload_n hx hb d_MD_cut_19 rfl (lv_at hl 0 rfl) ?_
  refine lv_iload_n hx hb d_MD_cut_20 rfl (lv_at hl 1 rfl) ?_
  refine va_put (D := D) (ci := 2) (v := .int (nI j)) (ty := .int) (C := R_MD) (T := F_MD) (N := 12) hx hb hg i_MD t_MD t_MD_ok n_MD hown hE.1 hP hD hS 0 rfl rfl 4 (by decide) (hg _ zw_492) (fun _ h9 => h9) rfl (by decide +kernel) rfl rfl (Nat.le_of_ble_eq_true rfl) d_MD_cut_21 (fun H locs hP hD hS => ?_)
  have hP : va_P D zcl [((gg 0), .inr (2, [.int (nI 0), .int (nI n0), .ref (gg 1), .int (nI n2), .int (nI j), .int (nI rt), .ref (gg 2), .ref (gg 3), .ref (gg 4), .int (nI rd), .int (nI n4), .ref (gg 5)])), ((gg 1), .inl (cI, 4, .inl e0)), ((gg 2), .inl (cI, 40, .inl e2)), ((gg 3), .inl (cI, 120, .inl e3)), ((gg 4), .inl (cI, 40, .inl e5)), ((gg 5), .inl (cC, 160, .inl e4))] H := hP
  have hD : va_D (zAM gg) [((gg 0), .inr (2, [.int (nI 0), .int (nI n0), .ref (gg 1), .int (nI n2), .int (nI j), .int (nI rt), .ref (gg 2), .ref (gg 3), .ref (gg 4), .int (nI rd), .int (nI n4), .ref (gg 5)])), ((gg 1), .inl (cI, 4, .inl e0)), ((gg 2), .inl (cI, 40, .inl e2)), ((gg 3), .inl (cI, 120, .inl e3)), ((gg 4), .inl (cI, 40, .inl e5)), ((gg 5), .inl (cC, 160, .inl e4))] := hD
  have hB := zs_hold_cut hB (Nat.le_of_lt hj)
  refine lv_iconst (v := (nI 1)) hx hb d_MD_cut_24 (by decide) ?_
  exact W.zret (v := (nI 1)) hx hb hr (rfl) (fun t ht _ => ⟨rfl, by rw [ht]; exact ⟨rd, e0, e2, e3, e5, e4, hS0, hM, hB, hE9, hP⟩, hS.F ht⟩) hS.2.2 d_MD_cut_25

set_option maxHeartbeats 4000000 in
set_option maxRecDepth 100000 in
theorem c_MD_cut_no (l : Launch) (D : va_G) (cI cC cJ : ClassId) (gg : Nat → Nat) (ft : Int32) (n0 : Nat) (S : Nat → Nat) (n2 : Nat) (M : Nat → Nat) (n3 : Nat) (B : Nat → Nat) (n4 : Nat) (E : Nat → Nat) (rt : Nat) (hh : zm_inj gg) (hn0 : n0 ≤ 4) (hn2 : n2 ≤ 40) (hn3 : n3 ≤ 120) (hn4 : n4 ≤ 160) (x : Int32) (hx9 : x < 0 ∨ nI n3 ≤ x) : Met l y_MD_cut (zw k_MD_cut) ({ frames := 0, cells := 0, slots := 0, locals := 0 }) (zPc [.ref (gg 0), .int x] (fun H => zMo D cI cC gg ft n0 S n2 M n3 B n4 E rt H) D cI cC cJ) (zQm (some (.int (nI 0))) (fun H => zMo D cI cC gg (nI 0) n0 S n2 M n3 B n4 E rt H) (zAM gg)) 0 0 (zAM gg) := by
  refine zMet (by decide) (Nat.le_of_ble_eq_true rfl) ?_
  intro p e s m below meth c hx hb hr hg hown hlk hml hB0 hE ls hl
  have hl : lv_has ls 2 [(0, .ref (gg 0)), (1, .int x)] := hl
  have hS9 : CallFix p m c b_MD_cut 2 s [.ref (gg 0), .int x].toArray zg "SealedFilesModel" := ⟨hx, hb, hml, hown, hg⟩
  obtain ⟨rd, e0, e2, e3, e5, e4, hS0, hM, hB, hE9, hP⟩ := hB0
  have hP : va_P D zcl [((gg 0), .inr (2, [.int ft, .int (nI n0), .ref (gg 1), .int (nI n2), .int (nI n3), .int (nI rt), .ref (gg 2), .ref (gg 3), .ref (gg 4), .int (nI rd), .int (nI n4), .ref (gg 5)])), ((gg 1), .inl (cI, 4, .inl e0)), ((gg 2), .inl (cI, 40, .inl e2)), ((gg 3), .inl (cI, 120, .inl e3)), ((gg 4), .inl (cI, 40, .inl e5)), ((gg 5), .inl (cC, 160, .inl e4))] s.heap := hP
  have hD : va_D (zAM gg) [((gg 0), .inr (2, [.int ft, .int (nI n0), .ref (gg 1), .int (nI n2), .int (nI n3), .int (nI rt), .ref (gg 2), .ref (gg 3), .ref (gg 4), .int (nI rd), .int (nI n4), .ref (gg 5)])), ((gg 1), .inl (cI, 4, .inl e0)), ((gg 2), .inl (cI, 40, .inl e2)), ((gg 3), .inl (cI, 120, .inl e3)), ((gg 4), .inl (cI, 40, .inl e5)), ((gg 5), .inl (cC, 160, .inl e4))] := zMd_D hh
  have hS : va_S (zAM gg) s.heap s.heap [] := va_S.rf
  refine lv_aload_n hx hb d_MD_cut_0 rfl (lv_at hl 0 rfl) ?_
  refine lv_iconst (v := (nI 0)) hx hb d_MD_cut_1 (by decide) ?_
  refine va_put (D := D) (ci := 2) (v := .int (nI 0)) (ty := .int) (C := R_MD) (T := F_MD) (N := 12) hx hb hg i_MD t_MD t_MD_ok n_MD hown hE.1 hP hD hS 0 rfl rfl 0 (by decide) (hg _ zw_488) (fun _ h9 => h9) rfl (by decide +kernel) rfl rfl (Nat.le_of_ble_eq_true rfl) d_MD_cut_2 (fun H locs hP hD hS => ?_)
  have hP : va_P D zcl [((gg 0), .inr (2, [.int (nI 0), .int (nI n0), .ref (gg 1), .int (nI n2), .int (nI n3), .int (nI rt), .ref (gg 2), .ref (gg 3), .ref (gg 4), .int (nI rd), .int (nI n4), .ref (gg 5)])), ((gg 1), .inl (cI, 4, .inl e0)), ((gg 2), .inl (cI, 40, .inl e2)), ((gg 3), .inl (cI, 120, .inl e3)), ((gg 4), .inl (cI, 40, .inl e5)), ((gg 5), .inl (cC, 160, .inl e4))] H := hP
  have hD : va_D (zAM gg) [((gg 0), .inr (2, [.int (nI 0), .int (nI n0), .ref (gg 1), .int (nI n2), .int (nI n3), .int (nI rt), .ref (gg 2), .ref (gg 3), .ref (gg 4), .int (nI rd), .int (nI n4), .ref (gg 5)])), ((gg 1), .inl (cI, 4, .inl e0)), ((gg 2), .inl (cI, 40, .inl e2)), ((gg 3), .inl (cI, 120, .inl e3)), ((gg 4), .inl (cI, 40, .inl e5)), ((gg 5), .inl (cC, 160, .inl e4))] := hD
  refine lv_iload_n hx hb d_MD_cut_5 rfl (lv_at hl 1 rfl) ?_
  have rest : ∀ ls : Array Slot, lv_has ls 2 [(0, .ref (gg 0)), (1, .int x)] → W p l e ({ frames := 0, cells := 0, slots := 0, locals := 0 }) s m [.ref (gg 0), .int x].toArray below meth c H locs 0 0 (MQ below (zQm (some (.int (nI 0))) (fun H => zMo D cI cC gg (nI 0) n0 S n2 M n3 B n4 E rt H) (zAM gg)) [.ref (gg 0), .int x].toArray s 0 0 (zAM gg)) (F0 m 17 ls []) := by
    intro ls hl
    refine lv_iconst (v := (nI 0)) hx hb d_MD_cut_17 (by decide) ?_
    exact W.zret (v := (nI 0)) hx hb hr (rfl) (fun t ht _ => ⟨rfl, by rw [ht]; exact ⟨rd, e0, e2, e3, e5, e4, hS0, hM, hB, hE9, hP⟩, hS.F ht⟩) hS.2.2 d_MD_cut_18
  refine lv_if_lt hx hb d_MD_cut_6 (tgt := 17) (by decide) (fun g => ?_) (fun g => ?_)
  · exact rest ls hl
  · refine lv_iload_n hx hb d_MD_cut_9 rfl (lv_at hl 1 rfl) ?_
    refine lv_aload_n hx hb d_MD_cut_10 rfl (lv_at hl 0 rfl) ?_
    refine va_get (D := D) (ci := 2) (v := .int (nI n3)) (C := R_MD) (T := F_MD) (N := 12) hx hb hg i_MD hown hE.1 hP 0 rfl rfl 4 (by decide) (hg _ zw_492) (fun _ h9 => h9) rfl d_MD_cut_11 ?_
    refine lv_icmp_lt hx hb d_MD_cut_14 (tgt := 19) (by decide) (fun z9 => absurd z9 (Int32.not_lt.mpr (hx9.resolve_left g))) (fun _ => ?_)
    exact rest ls hl

