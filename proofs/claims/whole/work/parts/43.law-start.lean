section ZSp
variable {s : State} {cI cC cJ : ClassId} {h gg : Nat → Nat} {o : Nat} {n0 n1 n2 n3 n4 m0 m2 m3 rt rd m4 : Nat} {f0 f1 f2 f3 f4 e0 e2 e3 e5 e4 : Nat → Int32} {rp ft : Int32} {fo : Nat → Int64}
theorem zSep_of (hD : va_D (zA0 s) (zSf cI h n0 n1 n2 n3 n4 f0 f1 f2 f3 f4 rp ++ zMd cI cC gg ft m0 m2 m3 rt rd m4 e0 e2 e3 e5 e4 ++ zLo cJ o fo)) : zSep s h gg o := by
  obtain ⟨d1, d2⟩ := hD
  have a : ∀ i, i < 11 → ∃ e, (zSf cI h n0 n1 n2 n3 n4 f0 f1 f2 f3 f4 rp ++ zMd cI cC gg ft m0 m2 m3 rt rd m4 e0 e2 e3 e5 e4 ++ zLo cJ o fo)[i]? = some (h i, e) := by
    intro i hi
    rcases (show i = 0 ∨ i = 1 ∨ i = 2 ∨ i = 3 ∨ i = 4 ∨ i = 5 ∨ i = 6 ∨ i = 7 ∨ i = 8 ∨ i = 9 ∨ i = 10 by omega) with rfl | rfl | rfl | rfl | rfl | rfl | rfl | rfl | rfl | rfl | rfl <;> exact ⟨_, rfl⟩
  have b : ∀ i, i < 6 → ∃ e, (zSf cI h n0 n1 n2 n3 n4 f0 f1 f2 f3 f4 rp ++ zMd cI cC gg ft m0 m2 m3 rt rd m4 e0 e2 e3 e5 e4 ++ zLo cJ o fo)[11 + i]? = some (gg i, e) := by
    intro i hi
    rcases (show i = 0 ∨ i = 1 ∨ i = 2 ∨ i = 3 ∨ i = 4 ∨ i = 5 by omega) with rfl | rfl | rfl | rfl | rfl | rfl <;> exact ⟨_, rfl⟩
  have d : ∃ e, (zSf cI h n0 n1 n2 n3 n4 f0 f1 f2 f3 f4 rp ++ zMd cI cC gg ft m0 m2 m3 rt rd m4 e0 e2 e3 e5 e4 ++ zLo cJ o fo)[17]? = some (o, e) := ⟨_, rfl⟩
  obtain ⟨eo, ho⟩ := d
  refine ⟨fun i j hi hj z => ?_, fun i j hi hj z => ?_, ?_, ?_, d2 _ _ ho, ?_, ?_, ?_⟩
  · obtain ⟨x, hx⟩ := a i hi; obtain ⟨y, hy⟩ := a j hj
    exact d1 i j _ _ hx hy z
  · obtain ⟨x, hx⟩ := b i hi; obtain ⟨y, hy⟩ := b j hj
    have := d1 _ _ _ _ hx hy z
    omega
  · rintro q ⟨i, hi, rfl⟩
    obtain ⟨x, hx⟩ := a i hi
    exact d2 _ _ hx
  · rintro q ⟨i, hi, rfl⟩
    obtain ⟨x, hx⟩ := b i hi
    exact d2 _ _ hx
  · rintro q ⟨i, hi, rfl⟩ ⟨j, hj, z⟩
    obtain ⟨x, hx⟩ := a i hi; obtain ⟨y, hy⟩ := b j hj
    have := d1 _ _ _ _ hx hy z
    omega
  · rintro ⟨i, hi, z⟩
    obtain ⟨x, hx⟩ := a i hi
    have := d1 _ _ _ _ ho hx z
    omega
  · rintro ⟨i, hi, z⟩
    obtain ⟨x, hx⟩ := b i hi
    have := d1 _ _ _ _ ho hx z
    omega
end ZSp
set_option maxHeartbeats 4000000 in
set_option maxRecDepth 100000 in
theorem zst_go {p : Program} {l : Launch} {e : Env} {s : State} {m : MethodId} {below : List Frame} {meth : Method} {c : Code} {b L : Nat} {xs : Nat → Int32} {D : va_G} {cI cC cJ : ClassId} {ka va : Nat}
    (Cl : zLaw p l s m c b L xs D cI cC cJ ka va) (hr : meth.sig.returnType = ret) (hlk : meth.locks = false) (ls : Array Slot) (hl : lv_has ls 7 (lv_args 0 [Value.ref b])) :
    W p l e room_1 s m #[Value.ref b] below meth c s.heap [] 0 0 (lw_Z below #[Value.ref b] s) (F0 m 0 ls []) := by
  have C9 := Cl
  obtain ⟨hS9, hL, hXs, hbl, hE, hX1, hX3, hl9⟩ := C9
  have hS8 := hS9
  obtain ⟨hx, hb, hml, hown, hg⟩ := hS8
  have hl : lv_has ls 7 [(0, .ref b)] := hl
  have hA : ∀ q, s.heap.size ≤ q → zA0 s q := fun q h => h
  have hP : va_P D zcl [] s.heap := fun k q h => by cases h
  have hD : va_D (zA0 s) [] := ⟨fun i j p9 q9 h9 => (by cases h9), fun k9 q9 h9 => (by cases h9)⟩
  have hS : va_S (zA0 s) s.heap s.heap [] := va_S.rf
  refine va_new (ci := 1) (fs := [.null, .null, .null, .null, .null, .int 0]) (C := R_SF) (T := F_SF) (N := 6) hx hb hg i_SF t_SF t_SF_ok hown (hg _ zw_18) (hg _ zw_19) (hg _ zw_1) hE.1 hP hD hS hA rfl (fun j hj => by rcases (show j = 0 ∨ j = 1 ∨ j = 2 ∨ j = 3 ∨ j = 4 ∨ j = 5 by omega) with rfl | rfl | rfl | rfl | rfl | rfl <;> rfl) (Nat.le_of_ble_eq_true rfl) (Nat.le_of_ble_eq_true rfl) d_LW_law_0 (fun x H hP hD hS => ?_)
  have hP : va_P D zcl [(x, .inr (1, [.null, .null, .null, .null, .null, .int 0]))] H := hP
  have hD : va_D (zA0 s) [(x, .inr (1, [.null, .null, .null, .null, .null, .int 0]))] := hD
  refine lv_dup hx hb d_LW_law_3 rfl ?_
  have hPc := hP.sub (ws' := [(x, .inr (1, [.null, .null, .null, .null, .null, .int 0]))]) [0] rfl
  have hFc := va_free (wc := [(x, .inr (1, [.null, .null, .null, .null, .null, .int 0]))]) hD hS hA [0] rfl
  refine zWr (rest := [.ref x]) (zrI hS9 (c_SF_init l D cI cC cJ x H.size) zc_SF_init rfl zw_20 zw_21 ⟨rfl, rfl, by decide, by decide, Nat.le_of_ble_eq_true rfl, Nat.le_of_ble_eq_true rfl⟩ ⟨rfl, hPc⟩ hE rfl hl.1 rfl (Nat.le_of_ble_eq_true rfl) d_LW_law_4) hS (fun q _ h => hFc q h) hFc (fun H locs hB1 hz hk9 hS => ?_)
  obtain ⟨h, z0, hP1, hD1⟩ := hB1
  subst z0
  have hP := hP1
  have hD := hD1.weaken (B := zA0 s) (fun _ q _ hq => hFc q.1 hq)
  have hP : va_P D zcl [((h 0), .inr (1, [.ref (h 1), .ref (h 3), .ref (h 5), .ref (h 7), .ref (h 9), .int (nI 0)])), ((h 1), .inr (0, [.ref (h 2), .int (nI 0)])), ((h 2), .inl (cI, 4, .inl (fun _ => 0))), ((h 3), .inr (0, [.ref (h 4), .int (nI 0)])), ((h 4), .inl (cI, 4, .inl (fun _ => 0))), ((h 5), .inr (0, [.ref (h 6), .int (nI 0)])), ((h 6), .inl (cI, 40, .inl (fun _ => 0))), ((h 7), .inr (0, [.ref (h 8), .int (nI 0)])), ((h 8), .inl (cI, 120, .inl (fun _ => 0))), ((h 9), .inr (0, [.ref (h 10), .int (nI 0)])), ((h 10), .inl (cI, 160, .inl (fun _ => 0)))] H := hP
  have hD : va_D (zA0 s) [((h 0), .inr (1, [.ref (h 1), .ref (h 3), .ref (h 5), .ref (h 7), .ref (h 9), .int (nI 0)])), ((h 1), .inr (0, [.ref (h 2), .int (nI 0)])), ((h 2), .inl (cI, 4, .inl (fun _ => 0))), ((h 3), .inr (0, [.ref (h 4), .int (nI 0)])), ((h 4), .inl (cI, 4, .inl (fun _ => 0))), ((h 5), .inr (0, [.ref (h 6), .int (nI 0)])), ((h 6), .inl (cI, 40, .inl (fun _ => 0))), ((h 7), .inr (0, [.ref (h 8), .int (nI 0)])), ((h 8), .inl (cI, 120, .inl (fun _ => 0))), ((h 9), .inr (0, [.ref (h 10), .int (nI 0)])), ((h 10), .inl (cI, 160, .inl (fun _ => 0)))] := hD
  refine lv_astore_n hx hb d_LW_law_7 rfl hl (by decide) (lv' := [(1, .ref (h 0)), (0, .ref b)]) rfl (fun ls hl => ?_)
  refine va_new (ci := 2) (fs := [.int 0, .int 0, .null, .int 0, .int 0, .int 0, .null, .null, .null, .int 0, .int 0, .null]) (C := R_MD) (T := F_MD) (N := 12) hx hb hg i_MD t_MD t_MD_ok hown (hg _ zw_482) (hg _ zw_483) (hg _ zw_3) hE.1 hP hD hS hA rfl (fun j hj => by rcases (show j = 0 ∨ j = 1 ∨ j = 2 ∨ j = 3 ∨ j = 4 ∨ j = 5 ∨ j = 6 ∨ j = 7 ∨ j = 8 ∨ j = 9 ∨ j = 10 ∨ j = 11 by omega) with rfl | rfl | rfl | rfl | rfl | rfl | rfl | rfl | rfl | rfl | rfl | rfl <;> rfl) (Nat.le_of_ble_eq_true rfl) (Nat.le_of_ble_eq_true rfl) d_LW_law_8 (fun y H hP hD hS => ?_)
  have hP : va_P D zcl [((h 0), .inr (1, [.ref (h 1), .ref (h 3), .ref (h 5), .ref (h 7), .ref (h 9), .int (nI 0)])), ((h 1), .inr (0, [.ref (h 2), .int (nI 0)])), ((h 2), .inl (cI, 4, .inl (fun _ => 0))), ((h 3), .inr (0, [.ref (h 4), .int (nI 0)])), ((h 4), .inl (cI, 4, .inl (fun _ => 0))), ((h 5), .inr (0, [.ref (h 6), .int (nI 0)])), ((h 6), .inl (cI, 40, .inl (fun _ => 0))), ((h 7), .inr (0, [.ref (h 8), .int (nI 0)])), ((h 8), .inl (cI, 120, .inl (fun _ => 0))), ((h 9), .inr (0, [.ref (h 10), .int (nI 0)])), ((h 10), .inl (cI, 160, .inl (fun _ => 0))), (y, .inr (2, [.int 0, .int 0, .null, .int 0, .int 0, .int 0, .null, .null, .null, .int 0, .int 0, .null]))] H := hP
  have hD : va_D (zA0 s) [((h 0), .inr (1, [.ref (h 1), .ref (h 3), .ref (h 5), .ref (h 7), .ref (h 9), .int (nI 0)])), ((h 1), .inr (0, [.ref (h 2), .int (nI 0)])), ((h 2), .inl (cI, 4, .inl (fun _ => 0))), ((h 3), .inr (0, [.ref (h 4), .int (nI 0)])), ((h 4), .inl (cI, 4, .inl (fun _ => 0))), ((h 5), .inr (0, [.ref (h 6), .int (nI 0)])), ((h 6), .inl (cI, 40, .inl (fun _ => 0))), ((h 7), .inr (0, [.ref (h 8), .int (nI 0)])), ((h 8), .inl (cI, 120, .inl (fun _ => 0))), ((h 9), .inr (0, [.ref (h 10), .int (nI 0)])), ((h 10), .inl (cI, 160, .inl (fun _ => 0))), (y, .inr (2, [.int 0, .int 0, .null, .int 0, .int 0, .int 0, .null, .null, .null, .int 0, .int 0, .null]))] := hD
  refine lv_dup hx hb d_LW_law_11 rfl ?_
  have hPc := hP.sub (ws' := [(y, .inr (2, [.int 0, .int 0, .null, .int 0, .int 0, .int 0, .null, .null, .null, .int 0, .int 0, .null]))]) [11] rfl
  have hFc := va_free (wc := [(y, .inr (2, [.int 0, .int 0, .null, .int 0, .int 0, .int 0, .null, .null, .null, .int 0, .int 0, .null]))]) hD hS hA [11] rfl
  refine zWr (rest := [.ref y]) (zrI hS9 (c_MD_init l D cI cC cJ y H.size) zc_MD_init rfl zw_484 zw_485 ⟨rfl, rfl, by decide, by decide, Nat.le_of_ble_eq_true rfl, Nat.le_of_ble_eq_true rfl⟩ ⟨rfl, hPc⟩ hE rfl hl.1 rfl (Nat.le_of_ble_eq_true rfl) d_LW_law_12) hS (fun q _ h => hFc q h) hFc (fun H locs hB1 hz hk9 hS => ?_)
  obtain ⟨gg, z0, hP1, hD1⟩ := hB1
  subst z0
  obtain ⟨hP, hD⟩ := va_join (wr := [((h 0), .inr (1, [.ref (h 1), .ref (h 3), .ref (h 5), .ref (h 7), .ref (h 9), .int (nI 0)])), ((h 1), .inr (0, [.ref (h 2), .int (nI 0)])), ((h 2), .inl (cI, 4, .inl (fun _ => 0))), ((h 3), .inr (0, [.ref (h 4), .int (nI 0)])), ((h 4), .inl (cI, 4, .inl (fun _ => 0))), ((h 5), .inr (0, [.ref (h 6), .int (nI 0)])), ((h 6), .inl (cI, 40, .inl (fun _ => 0))), ((h 7), .inr (0, [.ref (h 8), .int (nI 0)])), ((h 8), .inl (cI, 120, .inl (fun _ => 0))), ((h 9), .inr (0, [.ref (h 10), .int (nI 0)])), ((h 10), .inl (cI, 160, .inl (fun _ => 0)))]) (w1 := zMd cI cC gg 0 0 0 0 0 0 0 (fun _ => 0) (fun _ => 0) (fun _ => 0) (fun _ => 0) (fun _ => 0)) hP hD [11] [0, 1, 2, 3, 4, 5, 6, 7, 8, 9, 10] rfl rfl (by decide) (by decide) hk9 hFc hP1 hD1
  have hP : va_P D zcl [((h 0), .inr (1, [.ref (h 1), .ref (h 3), .ref (h 5), .ref (h 7), .ref (h 9), .int (nI 0)])), ((h 1), .inr (0, [.ref (h 2), .int (nI 0)])), ((h 2), .inl (cI, 4, .inl (fun _ => 0))), ((h 3), .inr (0, [.ref (h 4), .int (nI 0)])), ((h 4), .inl (cI, 4, .inl (fun _ => 0))), ((h 5), .inr (0, [.ref (h 6), .int (nI 0)])), ((h 6), .inl (cI, 40, .inl (fun _ => 0))), ((h 7), .inr (0, [.ref (h 8), .int (nI 0)])), ((h 8), .inl (cI, 120, .inl (fun _ => 0))), ((h 9), .inr (0, [.ref (h 10), .int (nI 0)])), ((h 10), .inl (cI, 160, .inl (fun _ => 0))), ((gg 0), .inr (2, [.int 0, .int (nI 0), .ref (gg 1), .int (nI 0), .int (nI 0), .int (nI 0), .ref (gg 2), .ref (gg 3), .ref (gg 4), .int (nI 0), .int (nI 0), .ref (gg 5)])), ((gg 1), .inl (cI, 4, .inl (fun _ => 0))), ((gg 2), .inl (cI, 40, .inl (fun _ => 0))), ((gg 3), .inl (cI, 120, .inl (fun _ => 0))), ((gg 4), .inl (cI, 40, .inl (fun _ => 0))), ((gg 5), .inl (cC, 160, .inl (fun _ => 0)))] H := hP
  have hD : va_D (zA0 s) [((h 0), .inr (1, [.ref (h 1), .ref (h 3), .ref (h 5), .ref (h 7), .ref (h 9), .int (nI 0)])), ((h 1), .inr (0, [.ref (h 2), .int (nI 0)])), ((h 2), .inl (cI, 4, .inl (fun _ => 0))), ((h 3), .inr (0, [.ref (h 4), .int (nI 0)])), ((h 4), .inl (cI, 4, .inl (fun _ => 0))), ((h 5), .inr (0, [.ref (h 6), .int (nI 0)])), ((h 6), .inl (cI, 40, .inl (fun _ => 0))), ((h 7), .inr (0, [.ref (h 8), .int (nI 0)])), ((h 8), .inl (cI, 120, .inl (fun _ => 0))), ((h 9), .inr (0, [.ref (h 10), .int (nI 0)])), ((h 10), .inl (cI, 160, .inl (fun _ => 0))), ((gg 0), .inr (2, [.int 0, .int (nI 0), .ref (gg 1), .int (nI 0), .int (nI 0), .int (nI 0), .ref (gg 2), .ref (gg 3), .ref (gg 4), .int (nI 0), .int (nI 0), .ref (gg 5)])), ((gg 1), .inl (cI, 4, .inl (fun _ => 0))), ((gg 2), .inl (cI, 40, .inl (fun _ => 0))), ((gg 3), .inl (cI, 120, .inl (fun _ => 0))), ((gg 4), .inl (cI, 40, .inl (fun _ => 0))), ((gg 5), .inl (cC, 160, .inl (fun _ => 0)))] := hD
  refine lv_astore_n hx hb d_LW_law_15 rfl hl (by decide) (lv' := [(2, .ref (gg 0)), (1, .ref (h 0)), (0, .ref b)]) rfl (fun ls hl => ?_)
  refine lv_iconst (v := (nI 1)) hx hb d_LW_law_16 (by decide) ?_
  refine va_newa (atype := .long) (ty := .long) (N' := 1) (a0 := (1, .inr (.inl (fun _ => 0)))) hx hb (hg _ zw_650) rfl hE.1 hP hD hS hA (fun _ => rfl) (nI_pos (by omega)) (nI_clamp (by omega)) (by decide) (Nat.le_of_ble_eq_true rfl) (Nat.le_of_ble_eq_true rfl) d_LW_law_17 (fun o cA9 H hK9 hP hD hS => ?_)
  obtain rfl : cJ = cA9 := zcls 2 3 hK9 rfl rfl (fun _ h => by cases h)
  have hP : va_P D zcl [((h 0), .inr (1, [.ref (h 1), .ref (h 3), .ref (h 5), .ref (h 7), .ref (h 9), .int (nI 0)])), ((h 1), .inr (0, [.ref (h 2), .int (nI 0)])), ((h 2), .inl (cI, 4, .inl (fun _ => 0))), ((h 3), .inr (0, [.ref (h 4), .int (nI 0)])), ((h 4), .inl (cI, 4, .inl (fun _ => 0))), ((h 5), .inr (0, [.ref (h 6), .int (nI 0)])), ((h 6), .inl (cI, 40, .inl (fun _ => 0))), ((h 7), .inr (0, [.ref (h 8), .int (nI 0)])), ((h 8), .inl (cI, 120, .inl (fun _ => 0))), ((h 9), .inr (0, [.ref (h 10), .int (nI 0)])), ((h 10), .inl (cI, 160, .inl (fun _ => 0))), ((gg 0), .inr (2, [.int 0, .int (nI 0), .ref (gg 1), .int (nI 0), .int (nI 0), .int (nI 0), .ref (gg 2), .ref (gg 3), .ref (gg 4), .int (nI 0), .int (nI 0), .ref (gg 5)])), ((gg 1), .inl (cI, 4, .inl (fun _ => 0))), ((gg 2), .inl (cI, 40, .inl (fun _ => 0))), ((gg 3), .inl (cI, 120, .inl (fun _ => 0))), ((gg 4), .inl (cI, 40, .inl (fun _ => 0))), ((gg 5), .inl (cC, 160, .inl (fun _ => 0))), (o, .inl (cJ, 1, .inr (.inl (fun _ => 0))))] H := hP
  have hD : va_D (zA0 s) [((h 0), .inr (1, [.ref (h 1), .ref (h 3), .ref (h 5), .ref (h 7), .ref (h 9), .int (nI 0)])), ((h 1), .inr (0, [.ref (h 2), .int (nI 0)])), ((h 2), .inl (cI, 4, .inl (fun _ => 0))), ((h 3), .inr (0, [.ref (h 4), .int (nI 0)])), ((h 4), .inl (cI, 4, .inl (fun _ => 0))), ((h 5), .inr (0, [.ref (h 6), .int (nI 0)])), ((h 6), .inl (cI, 40, .inl (fun _ => 0))), ((h 7), .inr (0, [.ref (h 8), .int (nI 0)])), ((h 8), .inl (cI, 120, .inl (fun _ => 0))), ((h 9), .inr (0, [.ref (h 10), .int (nI 0)])), ((h 10), .inl (cI, 160, .inl (fun _ => 0))), ((gg 0), .inr (2, [.int 0, .int (nI 0), .ref (gg 1), .int (nI 0), .int (nI 0), .int (nI 0), .ref (gg 2), .ref (gg 3), .ref (gg 4), .int (nI 0), .int (nI 0), .ref (gg 5)])), ((gg 1), .inl (cI, 4, .inl (fun _ => 0))), ((gg 2), .inl (cI, 40, .inl (fun _ => 0))), ((gg 3), .inl (cI, 120, .inl (fun _ => 0))), ((gg 4), .inl (cI, 40, .inl (fun _ => 0))), ((gg 5), .inl (cC, 160, .inl (fun _ => 0))), (o, .inl (cJ, 1, .inr (.inl (fun _ => 0))))] := hD
  refine lv_astore_n hx hb d_LW_law_19 rfl hl (by decide) (lv' := [(3, .ref o), (2, .ref (gg 0)), (1, .ref (h 0)), (0, .ref b)]) rfl (fun ls hl => ?_)
  refine lv_iconst (v := (nI 0)) hx hb d_LW_law_20 (by decide) ?_
  refine lv_istore hx hb d_LW_law_21 hl (by decide) (lv' := [(4, .int (nI 0)), (3, .ref o), (2, .ref (gg 0)), (1, .ref (h 0)), (0, .ref b)]) rfl (fun ls hl => ?_)
  have hD : va_D (zA0 s) (zSf cI h 0 0 0 0 0 (fun _ => 0) (fun _ => 0) (fun _ => 0) (fun _ => 0) (fun _ => 0) (nI 0) ++ zMd cI cC gg 0 0 0 0 0 0 0 (fun _ => 0) (fun _ => 0) (fun _ => 0) (fun _ => 0) (fun _ => 0) ++ zLo cJ o (fun _ => 0)) := hD
  have Sp := zSep_of hD
  have hC : zCl D cI h 0 (fun _ => 0) 0 (fun _ => 0) 0 (fun _ => 0) 0 (fun _ => 0) 0 H := ⟨_, _, _, _, _, zs_hold_0, fun j hj => absurd hj (Nat.not_lt_zero _), zs_hold_0, zs_hold_0, zs_hold_0, hP.sub (ws' := zSf cI h 0 0 0 0 0 (fun _ => 0) (fun _ => 0) (fun _ => 0) (fun _ => 0) (fun _ => 0) (nI 0)) [0, 1, 2, 3, 4, 5, 6, 7, 8, 9, 10] rfl⟩
  have hM : zMo D cI cC gg 0 0 (fun _ => 0) 0 (fun _ => 0) 0 (fun _ => 0) 0 (fun _ => 0) 0 H := ⟨0, _, _, _, _, _, zs_hold_0, zs_hold_0, zs_hold_0, zd_hold_0, hP.sub (ws' := zMd cI cC gg 0 0 0 0 0 0 0 (fun _ => 0) (fun _ => 0) (fun _ => 0) (fun _ => 0) (fun _ => 0)) [11, 12, 13, 14, 15, 16] rfl⟩
  have hO : zOu D cJ o 0 H := ⟨fun _ => 0, rfl, hP.sub [17] rfl⟩
  refine W.widen (k := 18) (n := 721) (Nat.le_of_ble_eq_true rfl) (Nat.le_of_ble_eq_true rfl) ?_
  have hl : lv_has ls 7 [(0, .ref b), (1, .ref (h 0)), (2, .ref (gg 0)), (3, .ref o), (4, .int (nI 0))] := lv_sub hl [4, 3, 2, 1, 0] rfl
  exact zlp Cl hr hlk Sp 513 0 18 721 H _ (by omega) (by omega) (by omega) (by omega) ⟨_, _, _, _, _, _, _, _, _, _, _, ⟨by decide, by decide, by decide, by decide⟩, hC, hM, hO, hS⟩ ls hl

