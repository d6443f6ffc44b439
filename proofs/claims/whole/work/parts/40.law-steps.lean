set_option maxHeartbeats 4000000 in
set_option maxRecDepth 100000 in
theorem zst_address {p : Program} {l : Launch} {e : Env} {s : State} {m : MethodId} {below : List Frame} {meth : Method} {c : Code} {H : Heap} {locs : List Loc} {cells slots : Nat} {Q : State → Prop} {b L : Nat} {xs : Nat → Int32} {D : va_G} {cI cC cJ : ClassId} {ka va : Nat} {h gg : Nat → Nat} {o i : Nat}
    (C : zLaw p l s m c b L xs D cI cC cJ ka va) (Sp : zSep s h gg o) (hi : i + 4 ≤ L) (hc : cells + 1 ≤ 601024) (hs : slots + 6 ≤ 7293034) (hI : zIv D cI cC cJ h gg o s H locs)
    (kk : ∀ (H1 : Heap) (locs1 : List Loc) (ls : Array Slot), zIv D cI cC cJ h gg o s H1 locs1 → lv_has ls 7 (zLs b o i h gg) → W p l e room_1 s m #[Value.ref b] below meth c H1 locs1 (cells + 1) (slots + 6) Q (F0 m 675 ls []))
    (ls : Array Slot) (hl : lv_has ls 7 (zLs b o i h gg)) : W p l e room_1 s m #[Value.ref b] below meth c H locs cells slots Q (F0 m 168 ls []) := by
  obtain ⟨hS9, hL, hXs, hbl, hE, hX1, hX3, hl9⟩ := C
  have hS8 := hS9
  obtain ⟨hx, hb, hml, hown, hg⟩ := hS8
  obtain ⟨hhs, hhm, hsA, hmA, hoA, hdis, hoS, hoM⟩ := Sp
  obtain ⟨ft, n0, S, n2, M, n3, B, n4, E, rt, v, ⟨hn0, hn2, hn3, hn4⟩, hC, hM, hO, hS⟩ := hI
  have hAO : ∀ q, zAO h o q → zA0 s q := fun q hq => hq.elim (hsA q) (fun z => z ▸ hoA)
  have hl : lv_has ls 7 [(0, .ref b), (1, .ref (h 0)), (2, .ref (gg 0)), (3, .ref o), (4, .int (nI i))] := hl
  refine lv_aload_n hx hb d_LW_law_168 rfl (lv_at hl 1 rfl) ?_
  refine lv_aload_n hx hb d_LW_law_169 rfl (lv_at hl 0 rfl) ?_
  refine lv_iload hx hb d_LW_law_170 (lv_at hl 4 rfl) ?_
  refine lv_iconst (v := (nI 1)) hx hb d_LW_law_172 (by decide) ?_
  refine lv_iadd hx hb d_LW_law_173 ?_
  refine ztop (y := nI (i + 1)) (nI_add _ _) ?_
  refine zsld hx hb hXs hbl hS (by omega) hL d_LW_law_174 (x := xs (i + 1)) (rfl) ?_
  refine zRd (rest := []) (zrV hS9 (c_SF_address l D cI cC cJ h n0 S n2 M n3 B n4 E rt hhs hn0 hn2 hn3 hn4 (xs (i + 1))) zc_SF_address zw_59 zw_60 zw_61 ⟨rfl, rfl, by decide, by decide, Nat.le_of_succ_le hc, Nat.le_trans (Nat.le_add_right _ 6) hs⟩ (zCl.recv hE hC) hC hE rfl hl.1 rfl (Nat.le_of_ble_eq_true rfl) d_LW_law_175) ?_
  refine lv_aload_n hx hb d_LW_law_178 rfl (lv_at hl 2 rfl) ?_
  refine lv_aload_n hx hb d_LW_law_179 rfl (lv_at hl 0 rfl) ?_
  refine lv_iload hx hb d_LW_law_180 (lv_at hl 4 rfl) ?_
  refine lv_iconst (v := (nI 1)) hx hb d_LW_law_182 (by decide) ?_
  refine lv_iadd hx hb d_LW_law_183 ?_
  refine ztop (y := nI (i + 1)) (nI_add _ _) ?_
  refine zsld hx hb hXs hbl hS (by omega) hL d_LW_law_184 (x := xs (i + 1)) (rfl) ?_
  refine zWr (rest := [.int (zo_at n0 (fun j => zs_pw 2 (S j)) (xs (i + 1)))]) (zrV hS9 (c_MD_address l D cI cC cJ gg ft n0 S n2 M n3 B n4 E rt hhm hn0 hn2 hn3 hn4 (xs (i + 1))) zc_MD_address zw_538 zw_539 zw_540 ⟨rfl, rfl, by decide, by decide, Nat.le_of_succ_le hc, Nat.le_trans (Nat.le_add_right _ 6) hs⟩ (zMo.recv hE hM) hM hE rfl hl.1 rfl (Nat.le_of_ble_eq_true rfl) d_LW_law_185) hS (fun q _ h => hmA q h) hmA (fun H locs hM hz hk hS => ?_)
  have hC := hC.kept hhs (fun q h1 h2 => hk q h1 (fun z => hdis q h2 z))
  have hO := hO.kept (fun q h1 h2 => hk q h1 (fun z => hoM (h2 ▸ z)))
  refine lv_icmp_eq hx hb d_LW_law_188 (tgt := 675) (by decide) (fun _ => ?_) (fun z9 => absurd (rfl) z9)
  refine W.widen (k := cells + 1) (n := slots + 6) (by omega) (by omega) ?_
  have hl : lv_has ls 7 [(0, .ref b), (1, .ref (h 0)), (2, .ref (gg 0)), (3, .ref o), (4, .int (nI i))] := lv_sub hl [0, 1, 2, 3, 4] rfl
  exact kk _ _ ls ⟨_, _, _, _, _, _, _, _, _, _, _, ⟨hn0, hn2, hn3, hn4⟩, hC, hM, hO, hS⟩ hl

set_option maxHeartbeats 4000000 in
set_option maxRecDepth 100000 in
theorem zst_pieces {p : Program} {l : Launch} {e : Env} {s : State} {m : MethodId} {below : List Frame} {meth : Method} {c : Code} {H : Heap} {locs : List Loc} {cells slots : Nat} {Q : State → Prop} {b L : Nat} {xs : Nat → Int32} {D : va_G} {cI cC cJ : ClassId} {ka va : Nat} {h gg : Nat → Nat} {o i : Nat}
    (C : zLaw p l s m c b L xs D cI cC cJ ka va) (Sp : zSep s h gg o) (hi : i + 4 ≤ L) (hc : cells + 1 ≤ 601024) (hs : slots + 6 ≤ 7293034) (hI : zIv D cI cC cJ h gg o s H locs)
    (kk : ∀ (H1 : Heap) (locs1 : List Loc) (ls : Array Slot), zIv D cI cC cJ h gg o s H1 locs1 → lv_has ls 7 (zLs b o i h gg) → W p l e room_1 s m #[Value.ref b] below meth c H1 locs1 (cells + 1) (slots + 6) Q (F0 m 675 ls []))
    (ls : Array Slot) (hl : lv_has ls 7 (zLs b o i h gg)) : W p l e room_1 s m #[Value.ref b] below meth c H locs cells slots Q (F0 m 367 ls []) := by
  obtain ⟨hS9, hL, hXs, hbl, hE, hX1, hX3, hl9⟩ := C
  have hS8 := hS9
  obtain ⟨hx, hb, hml, hown, hg⟩ := hS8
  obtain ⟨hhs, hhm, hsA, hmA, hoA, hdis, hoS, hoM⟩ := Sp
  obtain ⟨ft, n0, S, n2, M, n3, B, n4, E, rt, v, ⟨hn0, hn2, hn3, hn4⟩, hC, hM, hO, hS⟩ := hI
  have hAO : ∀ q, zAO h o q → zA0 s q := fun q hq => hq.elim (hsA q) (fun z => z ▸ hoA)
  have hl : lv_has ls 7 [(0, .ref b), (1, .ref (h 0)), (2, .ref (gg 0)), (3, .ref o), (4, .int (nI i))] := hl
  refine lv_aload_n hx hb d_LW_law_367 rfl (lv_at hl 1 rfl) ?_
  refine zRd (rest := []) (zrV hS9 (c_SF_pieces l D cI cC cJ h n0 S n2 M n3 B n4 E rt hhs hn0 hn2 hn3 hn4) zc_SF_pieces zw_91 zw_92 zw_93 ⟨rfl, rfl, by decide, by decide, Nat.le_of_succ_le hc, Nat.le_trans (Nat.le_add_right _ 6) hs⟩ (zCl.recv hE hC) hC hE rfl hl.1 rfl (Nat.le_of_ble_eq_true rfl) d_LW_law_368) ?_
  refine lv_aload_n hx hb d_LW_law_371 rfl (lv_at hl 2 rfl) ?_
  refine zWr (rest := [.int (nI rt)]) (zrV hS9 (c_MD_pieces l D cI cC cJ gg ft n0 S n2 M n3 B n4 E rt hhm hn0 hn2 hn3 hn4) zc_MD_pieces zw_611 zw_612 zw_613 ⟨rfl, rfl, by decide, by decide, Nat.le_of_succ_le hc, Nat.le_trans (Nat.le_add_right _ 6) hs⟩ (zMo.recv hE hM) hM hE rfl hl.1 rfl (Nat.le_of_ble_eq_true rfl) d_LW_law_372) hS (fun q _ h => hmA q h) hmA (fun H locs hM hz hk hS => ?_)
  have hC := hC.kept hhs (fun q h1 h2 => hk q h1 (fun z => hdis q h2 z))
  have hO := hO.kept (fun q h1 h2 => hk q h1 (fun z => hoM (h2 ▸ z)))
  refine lv_icmp_eq hx hb d_LW_law_375 (tgt := 675) (by decide) (fun _ => ?_) (fun z9 => absurd (rfl) z9)
  refine W.widen (k := cells + 1) (n := slots + 6) (by omega) (by omega) ?_
  have hl : lv_has ls 7 [(0, .ref b), (1, .ref (h 0)), (2, .ref (gg 0)), (3, .ref o), (4, .int (nI i))] := lv_sub hl [0, 1, 2, 3, 4] rfl
  exact kk _ _ ls ⟨_, _, _, _, _, _, _, _, _, _, _, ⟨hn0, hn2, hn3, hn4⟩, hC, hM, hO, hS⟩ hl

set_option maxHeartbeats 4000000 in
set_option maxRecDepth 100000 in
theorem zst_count {p : Program} {l : Launch} {e : Env} {s : State} {m : MethodId} {below : List Frame} {meth : Method} {c : Code} {H : Heap} {locs : List Loc} {cells slots : Nat} {Q : State → Prop} {b L : Nat} {xs : Nat → Int32} {D : va_G} {cI cC cJ : ClassId} {ka va : Nat} {h gg : Nat → Nat} {o i : Nat}
    (C : zLaw p l s m c b L xs D cI cC cJ ka va) (Sp : zSep s h gg o) (hi : i + 4 ≤ L) (hc : cells + 1 ≤ 601024) (hs : slots + 6 ≤ 7293034) (hI : zIv D cI cC cJ h gg o s H locs)
    (kk : ∀ (H1 : Heap) (locs1 : List Loc) (ls : Array Slot), zIv D cI cC cJ h gg o s H1 locs1 → lv_has ls 7 (zLs b o i h gg) → W p l e room_1 s m #[Value.ref b] below meth c H1 locs1 (cells + 1) (slots + 6) Q (F0 m 675 ls []))
    (ls : Array Slot) (hl : lv_has ls 7 (zLs b o i h gg)) : W p l e room_1 s m #[Value.ref b] below meth c H locs cells slots Q (F0 m 436 ls []) := by
  obtain ⟨hS9, hL, hXs, hbl, hE, hX1, hX3, hl9⟩ := C
  have hS8 := hS9
  obtain ⟨hx, hb, hml, hown, hg⟩ := hS8
  obtain ⟨hhs, hhm, hsA, hmA, hoA, hdis, hoS, hoM⟩ := Sp
  obtain ⟨ft, n0, S, n2, M, n3, B, n4, E, rt, v, ⟨hn0, hn2, hn3, hn4⟩, hC, hM, hO, hS⟩ := hI
  have hAO : ∀ q, zAO h o q → zA0 s q := fun q hq => hq.elim (hsA q) (fun z => z ▸ hoA)
  have hl : lv_has ls 7 [(0, .ref b), (1, .ref (h 0)), (2, .ref (gg 0)), (3, .ref o), (4, .int (nI i))] := hl
  refine lv_aload_n hx hb d_LW_law_436 rfl (lv_at hl 1 rfl) ?_
  refine lv_aload_n hx hb d_LW_law_437 rfl (lv_at hl 0 rfl) ?_
  refine lv_iload hx hb d_LW_law_438 (lv_at hl 4 rfl) ?_
  refine lv_iconst (v := (nI 1)) hx hb d_LW_law_440 (by decide) ?_
  refine lv_iadd hx hb d_LW_law_441 ?_
  refine ztop (y := nI (i + 1)) (nI_add _ _) ?_
  refine zsld hx hb hXs hbl hS (by omega) hL d_LW_law_442 (x := xs (i + 1)) (rfl) ?_
  refine zRd (rest := []) (zrV hS9 (c_SF_count l D cI cC cJ h n0 S n2 M n3 B n4 E rt hhs hn0 hn2 hn3 hn4 (xs (i + 1))) zc_SF_count zw_95 zw_96 zw_97 ⟨rfl, rfl, by decide, by decide, Nat.le_of_succ_le hc, Nat.le_trans (Nat.le_add_right _ 6) hs⟩ (zCl.recv hE hC) hC hE rfl hl.1 rfl (Nat.le_of_ble_eq_true rfl) d_LW_law_443) ?_
  refine lv_aload_n hx hb d_LW_law_446 rfl (lv_at hl 2 rfl) ?_
  refine lv_aload_n hx hb d_LW_law_447 rfl (lv_at hl 0 rfl) ?_
  refine lv_iload hx hb d_LW_law_448 (lv_at hl 4 rfl) ?_
  refine lv_iconst (v := (nI 1)) hx hb d_LW_law_450 (by decide) ?_
  refine lv_iadd hx hb d_LW_law_451 ?_
  refine ztop (y := nI (i + 1)) (nI_add _ _) ?_
  refine zsld hx hb hXs hbl hS (by omega) hL d_LW_law_452 (x := xs (i + 1)) (rfl) ?_
  refine zWr (rest := [.int (zo_count n2 n3 n0 (xs (i + 1)))]) (zrV hS9 (c_MD_count l D cI cC cJ gg ft n0 S n2 M n3 B n4 E rt hhm hn0 hn2 hn3 hn4 (xs (i + 1))) zc_MD_count zw_615 zw_616 zw_617 ⟨rfl, rfl, by decide, by decide, Nat.le_of_succ_le hc, Nat.le_trans (Nat.le_add_right _ 6) hs⟩ (zMo.recv hE hM) hM hE rfl hl.1 rfl (Nat.le_of_ble_eq_true rfl) d_LW_law_453) hS (fun q _ h => hmA q h) hmA (fun H locs hM hz hk hS => ?_)
  have hC := hC.kept hhs (fun q h1 h2 => hk q h1 (fun z => hdis q h2 z))
  have hO := hO.kept (fun q h1 h2 => hk q h1 (fun z => hoM (h2 ▸ z)))
  refine lv_icmp_eq hx hb d_LW_law_456 (tgt := 675) (by decide) (fun _ => ?_) (fun z9 => absurd (rfl) z9)
  refine W.widen (k := cells + 1) (n := slots + 6) (by omega) (by omega) ?_
  have hl : lv_has ls 7 [(0, .ref b), (1, .ref (h 0)), (2, .ref (gg 0)), (3, .ref o), (4, .int (nI i))] := lv_sub hl [0, 1, 2, 3, 4] rfl
  exact kk _ _ ls ⟨_, _, _, _, _, _, _, _, _, _, _, ⟨hn0, hn2, hn3, hn4⟩, hC, hM, hO, hS⟩ hl

set_option maxHeartbeats 4000000 in
set_option maxRecDepth 100000 in
theorem zst_at {p : Program} {l : Launch} {e : Env} {s : State} {m : MethodId} {below : List Frame} {meth : Method} {c : Code} {H : Heap} {locs : List Loc} {cells slots : Nat} {Q : State → Prop} {b L : Nat} {xs : Nat → Int32} {D : va_G} {cI cC cJ : ClassId} {ka va : Nat} {h gg : Nat → Nat} {o i : Nat}
    (C : zLaw p l s m c b L xs D cI cC cJ ka va) (Sp : zSep s h gg o) (hi : i + 4 ≤ L) (hc : cells + 1 ≤ 601024) (hs : slots + 6 ≤ 7293034) (hI : zIv D cI cC cJ h gg o s H locs)
    (kk : ∀ (H1 : Heap) (locs1 : List Loc) (ls : Array Slot), zIv D cI cC cJ h gg o s H1 locs1 → lv_has ls 7 (zLs b o i h gg) → W p l e room_1 s m #[Value.ref b] below meth c H1 locs1 (cells + 1) (slots + 6) Q (F0 m 675 ls []))
    (ls : Array Slot) (hl : lv_has ls 7 (zLs b o i h gg)) : W p l e room_1 s m #[Value.ref b] below meth c H locs cells slots Q (F0 m 461 ls []) := by
  obtain ⟨hS9, hL, hXs, hbl, hE, hX1, hX3, hl9⟩ := C
  have hS8 := hS9
  obtain ⟨hx, hb, hml, hown, hg⟩ := hS8
  obtain ⟨hhs, hhm, hsA, hmA, hoA, hdis, hoS, hoM⟩ := Sp
  obtain ⟨ft, n0, S, n2, M, n3, B, n4, E, rt, v, ⟨hn0, hn2, hn3, hn4⟩, hC, hM, hO, hS⟩ := hI
  have hAO : ∀ q, zAO h o q → zA0 s q := fun q hq => hq.elim (hsA q) (fun z => z ▸ hoA)
  have hl : lv_has ls 7 [(0, .ref b), (1, .ref (h 0)), (2, .ref (gg 0)), (3, .ref o), (4, .int (nI i))] := hl
  refine lv_aload_n hx hb d_LW_law_461 rfl (lv_at hl 1 rfl) ?_
  refine lv_aload_n hx hb d_LW_law_462 rfl (lv_at hl 0 rfl) ?_
  refine lv_iload hx hb d_LW_law_463 (lv_at hl 4 rfl) ?_
  refine lv_iconst (v := (nI 1)) hx hb d_LW_law_465 (by decide) ?_
  refine lv_iadd hx hb d_LW_law_466 ?_
  refine ztop (y := nI (i + 1)) (nI_add _ _) ?_
  refine zsld hx hb hXs hbl hS (by omega) hL d_LW_law_467 (x := xs (i + 1)) (rfl) ?_
  refine zRd (rest := []) (zrV hS9 (c_SF_at l D cI cC cJ h n0 S n2 M n3 B n4 E rt hhs hn0 hn2 hn3 hn4 (xs (i + 1))) zc_SF_at zw_99 zw_100 zw_101 ⟨rfl, rfl, by decide, by decide, Nat.le_of_succ_le hc, Nat.le_trans (Nat.le_add_right _ 6) hs⟩ (zCl.recv hE hC) hC hE rfl hl.1 rfl (Nat.le_of_ble_eq_true rfl) d_LW_law_468) ?_
  refine lv_aload_n hx hb d_LW_law_471 rfl (lv_at hl 2 rfl) ?_
  refine lv_aload_n hx hb d_LW_law_472 rfl (lv_at hl 0 rfl) ?_
  refine lv_iload hx hb d_LW_law_473 (lv_at hl 4 rfl) ?_
  refine lv_iconst (v := (nI 1)) hx hb d_LW_law_475 (by decide) ?_
  refine lv_iadd hx hb d_LW_law_476 ?_
  refine ztop (y := nI (i + 1)) (nI_add _ _) ?_
  refine zsld hx hb hXs hbl hS (by omega) hL d_LW_law_477 (x := xs (i + 1)) (rfl) ?_
  refine zWr (rest := [.int (zo_at n3 B (xs (i + 1)))]) (zrV hS9 (c_MD_at l D cI cC cJ gg ft n0 S n2 M n3 B n4 E rt hhm hn0 hn2 hn3 hn4 (xs (i + 1))) zc_MD_at zw_619 zw_620 zw_621 ⟨rfl, rfl, by decide, by decide, Nat.le_of_succ_le hc, Nat.le_trans (Nat.le_add_right _ 6) hs⟩ (zMo.recv hE hM) hM hE rfl hl.1 rfl (Nat.le_of_ble_eq_true rfl) d_LW_law_478) hS (fun q _ h => hmA q h) hmA (fun H locs hM hz hk hS => ?_)
  have hC := hC.kept hhs (fun q h1 h2 => hk q h1 (fun z => hdis q h2 z))
  have hO := hO.kept (fun q h1 h2 => hk q h1 (fun z => hoM (h2 ▸ z)))
  refine lv_icmp_eq hx hb d_LW_law_481 (tgt := 675) (by decide) (fun _ => ?_) (fun z9 => absurd (rfl) z9)
  refine W.widen (k := cells + 1) (n := slots + 6) (by omega) (by omega) ?_
  have hl : lv_has ls 7 [(0, .ref b), (1, .ref (h 0)), (2, .ref (gg 0)), (3, .ref o), (4, .int (nI i))] := lv_sub hl [0, 1, 2, 3, 4] rfl
  exact kk _ _ ls ⟨_, _, _, _, _, _, _, _, _, _, _, ⟨hn0, hn2, hn3, hn4⟩, hC, hM, hO, hS⟩ hl

set_option maxHeartbeats 4000000 in
set_option maxRecDepth 100000 in
theorem zst_put {p : Program} {l : Launch} {e : Env} {s : State} {m : MethodId} {below : List Frame} {meth : Method} {c : Code} {H : Heap} {locs : List Loc} {cells slots : Nat} {Q : State → Prop} {b L : Nat} {xs : Nat → Int32} {D : va_G} {cI cC cJ : ClassId} {ka va : Nat} {h gg : Nat → Nat} {o i : Nat}
    (C : zLaw p l s m c b L xs D cI cC cJ ka va) (Sp : zSep s h gg o) (hi : i + 4 ≤ L) (hc : cells + 1 ≤ 601024) (hs : slots + 6 ≤ 7293034) (hI : zIv D cI cC cJ h gg o s H locs)
    (kk : ∀ (H1 : Heap) (locs1 : List Loc) (ls : Array Slot), zIv D cI cC cJ h gg o s H1 locs1 → lv_has ls 7 (zLs b o i h gg) → W p l e room_1 s m #[Value.ref b] below meth c H1 locs1 (cells + 1) (slots + 6) Q (F0 m 675 ls []))
    (ls : Array Slot) (hl : lv_has ls 7 (zLs b o i h gg)) : W p l e room_1 s m #[Value.ref b] below meth c H locs cells slots Q (F0 m 193 ls []) := by
  obtain ⟨hS9, hL, hXs, hbl, hE, hX1, hX3, hl9⟩ := C
  have hS8 := hS9
  obtain ⟨hx, hb, hml, hown, hg⟩ := hS8
  obtain ⟨hhs, hhm, hsA, hmA, hoA, hdis, hoS, hoM⟩ := Sp
  obtain ⟨ft, n0, S, n2, M, n3, B, n4, E, rt, v, ⟨hn0, hn2, hn3, hn4⟩, hC, hM, hO, hS⟩ := hI
  have hAO : ∀ q, zAO h o q → zA0 s q := fun q hq => hq.elim (hsA q) (fun z => z ▸ hoA)
  have hl : lv_has ls 7 [(0, .ref b), (1, .ref (h 0)), (2, .ref (gg 0)), (3, .ref o), (4, .int (nI i))] := hl
  rcases zb_put (xs (i + 1)) with g | ⟨x, hx2, g⟩
  · refine lv_aload_n hx hb d_LW_law_193 rfl (lv_at hl 1 rfl) ?_
    refine lv_aload_n hx hb d_LW_law_194 rfl (lv_at hl 0 rfl) ?_
    refine lv_iload hx hb d_LW_law_195 (lv_at hl 4 rfl) ?_
    refine lv_iconst (v := (nI 1)) hx hb d_LW_law_197 (by decide) ?_
    refine lv_iadd hx hb d_LW_law_198 ?_
    refine ztop (y := nI (i + 1)) (nI_add _ _) ?_
    refine zsld hx hb hXs hbl hS (by omega) hL d_LW_law_199 (x := xs (i + 1)) (rfl) ?_
    refine zWr (rest := []) (zrV hS9 (c_SF_put_no l D cI cC cJ h n0 S n2 M n3 B n4 E rt hhs hn0 hn2 hn3 hn4 (xs (i + 1)) (g.imp id Or.inl)) zc_SF_put zw_71 zw_72 zw_73 ⟨rfl, rfl, by decide, by decide, Nat.le_of_succ_le hc, Nat.le_trans (Nat.le_add_right _ 6) hs⟩ (zCl.recv hE hC) hC hE rfl hl.1 rfl (Nat.le_of_ble_eq_true rfl) d_LW_law_200) hS (fun q _ h => hsA q h) hsA (fun H locs hC hz hk hS => ?_)
    have hM := hM.kept hhm (fun q h1 h2 => hk q h1 (fun z => hdis q z h2))
    have hO := hO.kept (fun q h1 h2 => hk q h1 (fun z => hoS (h2 ▸ z)))
    refine lv_aload_n hx hb d_LW_law_203 rfl (lv_at hl 2 rfl) ?_
    refine lv_aload_n hx hb d_LW_law_204 rfl (lv_at hl 0 rfl) ?_
    refine lv_iload hx hb d_LW_law_205 (lv_at hl 4 rfl) ?_
    refine lv_iconst (v := (nI 1)) hx hb d_LW_law_207 (by decide) ?_
    refine lv_iadd hx hb d_LW_law_208 ?_
    refine ztop (y := nI (i + 1)) (nI_add _ _) ?_
    refine zsld hx hb hXs hbl hS (by omega) hL d_LW_law_209 (x := xs (i + 1)) (rfl) ?_
    refine zWr (rest := [.int (nI 0)]) (zrV hS9 (c_MD_put_no l D cI cC cJ gg ft n0 S n2 M n3 B n4 E rt hhm hn0 hn2 hn3 hn4 (xs (i + 1)) (g.imp id Or.inl)) zc_MD_put zw_549 zw_550 zw_551 ⟨rfl, rfl, by decide, by decide, Nat.le_of_succ_le hc, Nat.le_trans (Nat.le_add_right _ 6) hs⟩ (zMo.recv hE hM) hM hE rfl hl.1 rfl (Nat.le_of_ble_eq_true rfl) d_LW_law_210) hS (fun q _ h => hmA q h) hmA (fun H locs hM hz hk hS => ?_)
    have hC := hC.kept hhs (fun q h1 h2 => hk q h1 (fun z => hdis q h2 z))
    have hO := hO.kept (fun q h1 h2 => hk q h1 (fun z => hoM (h2 ▸ z)))
    refine lv_icmp_eq hx hb d_LW_law_213 (tgt := 675) (by decide) (fun _ => ?_) (fun z9 => absurd (rfl) z9)
    refine W.widen (k := cells + 1) (n := slots + 6) (by omega) (by omega) ?_
    have hl : lv_has ls 7 [(0, .ref b), (1, .ref (h 0)), (2, .ref (gg 0)), (3, .ref o), (4, .int (nI i))] := lv_sub hl [0, 1, 2, 3, 4] rfl
    exact kk _ _ ls ⟨_, _, _, _, _, _, _, _, _, _, _, ⟨hn0, hn2, hn3, hn4⟩, hC, hM, hO, hS⟩ hl
  · by_cases g4 : n2 = 40
    · refine lv_aload_n hx hb d_LW_law_193 rfl (lv_at hl 1 rfl) ?_
      refine lv_aload_n hx hb d_LW_law_194 rfl (lv_at hl 0 rfl) ?_
      refine lv_iload hx hb d_LW_law_195 (lv_at hl 4 rfl) ?_
      refine lv_iconst (v := (nI 1)) hx hb d_LW_law_197 (by decide) ?_
      refine lv_iadd hx hb d_LW_law_198 ?_
      refine ztop (y := nI (i + 1)) (nI_add _ _) ?_
      refine zsld hx hb hXs hbl hS (by omega) hL d_LW_law_199 (x := xs (i + 1)) (rfl) ?_
      refine zWr (rest := []) (zrV hS9 (c_SF_put_no l D cI cC cJ h n0 S n2 M n3 B n4 E rt hhs hn0 hn2 hn3 hn4 (xs (i + 1)) (Or.inr (Or.inr g4))) zc_SF_put zw_71 zw_72 zw_73 ⟨rfl, rfl, by decide, by decide, Nat.le_of_succ_le hc, Nat.le_trans (Nat.le_add_right _ 6) hs⟩ (zCl.recv hE hC) hC hE rfl hl.1 rfl (Nat.le_of_ble_eq_true rfl) d_LW_law_200) hS (fun q _ h => hsA q h) hsA (fun H locs hC hz hk hS => ?_)
      have hM := hM.kept hhm (fun q h1 h2 => hk q h1 (fun z => hdis q z h2))
      have hO := hO.kept (fun q h1 h2 => hk q h1 (fun z => hoS (h2 ▸ z)))
      refine lv_aload_n hx hb d_LW_law_203 rfl (lv_at hl 2 rfl) ?_
      refine lv_aload_n hx hb d_LW_law_204 rfl (lv_at hl 0 rfl) ?_
      refine lv_iload hx hb d_LW_law_205 (lv_at hl 4 rfl) ?_
      refine lv_iconst (v := (nI 1)) hx hb d_LW_law_207 (by decide) ?_
      refine lv_iadd hx hb d_LW_law_208 ?_
      refine ztop (y := nI (i + 1)) (nI_add _ _) ?_
      refine zsld hx hb hXs hbl hS (by omega) hL d_LW_law_209 (x := xs (i + 1)) (rfl) ?_
      refine zWr (rest := [.int (nI 0)]) (zrV hS9 (c_MD_put_no l D cI cC cJ gg ft n0 S n2 M n3 B n4 E rt hhm hn0 hn2 hn3 hn4 (xs (i + 1)) (Or.inr (Or.inr g4))) zc_MD_put zw_549 zw_550 zw_551 ⟨rfl, rfl, by decide, by decide, Nat.le_of_succ_le hc, Nat.le_trans (Nat.le_add_right _ 6) hs⟩ (zMo.recv hE hM) hM hE rfl hl.1 rfl (Nat.le_of_ble_eq_true rfl) d_LW_law_210) hS (fun q _ h => hmA q h) hmA (fun H locs hM hz hk hS => ?_)
      have hC := hC.kept hhs (fun q h1 h2 => hk q h1 (fun z => hdis q h2 z))
      have hO := hO.kept (fun q h1 h2 => hk q h1 (fun z => hoM (h2 ▸ z)))
      refine lv_icmp_eq hx hb d_LW_law_213 (tgt := 675) (by decide) (fun _ => ?_) (fun z9 => absurd (rfl) z9)
      refine W.widen (k := cells + 1) (n := slots + 6) (by omega) (by omega) ?_
      have hl : lv_has ls 7 [(0, .ref b), (1, .ref (h 0)), (2, .ref (gg 0)), (3, .ref o), (4, .int (nI i))] := lv_sub hl [0, 1, 2, 3, 4] rfl
      exact kk _ _ ls ⟨_, _, _, _, _, _, _, _, _, _, _, ⟨hn0, hn2, hn3, hn4⟩, hC, hM, hO, hS⟩ hl
    · refine lv_aload_n hx hb d_LW_law_193 rfl (lv_at hl 1 rfl) ?_
      refine lv_aload_n hx hb d_LW_law_194 rfl (lv_at hl 0 rfl) ?_
      refine lv_iload hx hb d_LW_law_195 (lv_at hl 4 rfl) ?_
      refine lv_iconst (v := (nI 1)) hx hb d_LW_law_197 (by decide) ?_
      refine lv_iadd hx hb d_LW_law_198 ?_
      refine ztop (y := nI (i + 1)) (nI_add _ _) ?_
      refine zsld hx hb hXs hbl hS (by omega) hL d_LW_law_199 (x := nI x) (g) ?_
      refine zWr (rest := []) (zrV hS9 (c_SF_put_ok l D cI cC cJ h n0 S n2 M n3 B n4 E rt hhs hn0 hn2 hn3 hn4 x hx2 (by omega)) zc_SF_put zw_71 zw_72 zw_73 ⟨rfl, rfl, by decide, by decide, Nat.le_of_succ_le hc, Nat.le_trans (Nat.le_add_right _ 6) hs⟩ (zCl.recv hE hC) hC hE rfl hl.1 rfl (Nat.le_of_ble_eq_true rfl) d_LW_law_200) hS (fun q _ h => hsA q h) hsA (fun H locs hC hz hk hS => ?_)
      have hM := hM.kept hhm (fun q h1 h2 => hk q h1 (fun z => hdis q z h2))
      have hO := hO.kept (fun q h1 h2 => hk q h1 (fun z => hoS (h2 ▸ z)))
      refine lv_aload_n hx hb d_LW_law_203 rfl (lv_at hl 2 rfl) ?_
      refine lv_aload_n hx hb d_LW_law_204 rfl (lv_at hl 0 rfl) ?_
      refine lv_iload hx hb d_LW_law_205 (lv_at hl 4 rfl) ?_
      refine lv_iconst (v := (nI 1)) hx hb d_LW_law_207 (by decide) ?_
      refine lv_iadd hx hb d_LW_law_208 ?_
      refine ztop (y := nI (i + 1)) (nI_add _ _) ?_
      refine zsld hx hb hXs hbl hS (by omega) hL d_LW_law_209 (x := nI x) (g) ?_
      refine zWr (rest := [.int (nI 1)]) (zrV hS9 (c_MD_put_ok l D cI cC cJ gg ft n0 S n2 M n3 B n4 E rt hhm hn0 hn2 hn3 hn4 x hx2 (by omega)) zc_MD_put zw_549 zw_550 zw_551 ⟨rfl, rfl, by decide, by decide, Nat.le_of_succ_le hc, Nat.le_trans (Nat.le_add_right _ 6) hs⟩ (zMo.recv hE hM) hM hE rfl hl.1 rfl (Nat.le_of_ble_eq_true rfl) d_LW_law_210) hS (fun q _ h => hmA q h) hmA (fun H locs hM hz hk hS => ?_)
      have hC := hC.kept hhs (fun q h1 h2 => hk q h1 (fun z => hdis q h2 z))
      have hO := hO.kept (fun q h1 h2 => hk q h1 (fun z => hoM (h2 ▸ z)))
      refine lv_icmp_eq hx hb d_LW_law_213 (tgt := 675) (by decide) (fun _ => ?_) (fun z9 => absurd (rfl) z9)
      refine W.widen (k := cells + 1) (n := slots + 6) (by omega) (by omega) ?_
      have hl : lv_has ls 7 [(0, .ref b), (1, .ref (h 0)), (2, .ref (gg 0)), (3, .ref o), (4, .int (nI i))] := lv_sub hl [0, 1, 2, 3, 4] rfl
      exact kk _ _ ls ⟨_, _, _, _, _, _, _, _, _, _, _, ⟨hn0, by omega, hn3, hn4⟩, hC, hM, hO, hS⟩ hl

set_option maxHeartbeats 4000000 in
set_option maxRecDepth 100000 in
theorem zst_clear {p : Program} {l : Launch} {e : Env} {s : State} {m : MethodId} {below : List Frame} {meth : Method} {c : Code} {H : Heap} {locs : List Loc} {cells slots : Nat} {Q : State → Prop} {b L : Nat} {xs : Nat → Int32} {D : va_G} {cI cC cJ : ClassId} {ka va : Nat} {h gg : Nat → Nat} {o i : Nat}
    (C : zLaw p l s m c b L xs D cI cC cJ ka va) (Sp : zSep s h gg o) (hi : i + 4 ≤ L) (hc : cells + 1 ≤ 601024) (hs : slots + 6 ≤ 7293034) (hI : zIv D cI cC cJ h gg o s H locs)
    (kk : ∀ (H1 : Heap) (locs1 : List Loc) (ls : Array Slot), zIv D cI cC cJ h gg o s H1 locs1 → lv_has ls 7 (zLs b o i h gg) → W p l e room_1 s m #[Value.ref b] below meth c H1 locs1 (cells + 1) (slots + 6) Q (F0 m 675 ls []))
    (ls : Array Slot) (hl : lv_has ls 7 (zLs b o i h gg)) : W p l e room_1 s m #[Value.ref b] below meth c H locs cells slots Q (F0 m 218 ls []) := by
  obtain ⟨hS9, hL, hXs, hbl, hE, hX1, hX3, hl9⟩ := C
  have hS8 := hS9
  obtain ⟨hx, hb, hml, hown, hg⟩ := hS8
  obtain ⟨hhs, hhm, hsA, hmA, hoA, hdis, hoS, hoM⟩ := Sp
  obtain ⟨ft, n0, S, n2, M, n3, B, n4, E, rt, v, ⟨hn0, hn2, hn3, hn4⟩, hC, hM, hO, hS⟩ := hI
  have hAO : ∀ q, zAO h o q → zA0 s q := fun q hq => hq.elim (hsA q) (fun z => z ▸ hoA)
  have hl : lv_has ls 7 [(0, .ref b), (1, .ref (h 0)), (2, .ref (gg 0)), (3, .ref o), (4, .int (nI i))] := hl
  refine lv_aload_n hx hb d_LW_law_218 rfl (lv_at hl 1 rfl) ?_
  refine zWr (rest := []) (zrV hS9 (c_SF_clear l D cI cC cJ h n0 S n2 M n3 B n4 E rt hhs hn0 hn2 hn3 hn4) zc_SF_clear zw_79 zw_80 zw_81 ⟨rfl, rfl, by decide, by decide, Nat.le_of_succ_le hc, Nat.le_trans (Nat.le_add_right _ 6) hs⟩ (zCl.recv hE hC) hC hE rfl hl.1 rfl (Nat.le_of_ble_eq_true rfl) d_LW_law_219) hS (fun q _ h => hsA q h) hsA (fun H locs hC hz hk hS => ?_)
  have hM := hM.kept hhm (fun q h1 h2 => hk q h1 (fun z => hdis q z h2))
  have hO := hO.kept (fun q h1 h2 => hk q h1 (fun z => hoS (h2 ▸ z)))
  refine lv_aload_n hx hb d_LW_law_222 rfl (lv_at hl 2 rfl) ?_
  refine zWr (rest := [.int (nI n2)]) (zrV hS9 (c_MD_clear l D cI cC cJ gg ft n0 S n2 M n3 B n4 E rt hhm hn0 hn2 hn3 hn4) zc_MD_clear zw_553 zw_554 zw_555 ⟨rfl, rfl, by decide, by decide, Nat.le_of_succ_le hc, Nat.le_trans (Nat.le_add_right _ 6) hs⟩ (zMo.recv hE hM) hM hE rfl hl.1 rfl (Nat.le_of_ble_eq_true rfl) d_LW_law_223) hS (fun q _ h => hmA q h) hmA (fun H locs hM hz hk hS => ?_)
  have hC := hC.kept hhs (fun q h1 h2 => hk q h1 (fun z => hdis q h2 z))
  have hO := hO.kept (fun q h1 h2 => hk q h1 (fun z => hoM (h2 ▸ z)))
  refine lv_icmp_eq hx hb d_LW_law_226 (tgt := 675) (by decide) (fun _ => ?_) (fun z9 => absurd (rfl) z9)
  refine W.widen (k := cells + 1) (n := slots + 6) (by omega) (by omega) ?_
  have hl : lv_has ls 7 [(0, .ref b), (1, .ref (h 0)), (2, .ref (gg 0)), (3, .ref o), (4, .int (nI i))] := lv_sub hl [0, 1, 2, 3, 4] rfl
  exact kk _ _ ls ⟨_, _, _, _, _, _, _, _, _, _, _, ⟨hn0, by omega, hn3, hn4⟩, hC, hM, hO, hS⟩ hl

set_option maxHeartbeats 4000000 in
set_option maxRecDepth 100000 in
theorem zst_cut {p : Program} {l : Launch} {e : Env} {s : State} {m : MethodId} {below : List Frame} {meth : Method} {c : Code} {H : Heap} {locs : List Loc} {cells slots : Nat} {Q : State → Prop} {b L : Nat} {xs : Nat → Int32} {D : va_G} {cI cC cJ : ClassId} {ka va : Nat} {h gg : Nat → Nat} {o i : Nat}
    (C : zLaw p l s m c b L xs D cI cC cJ ka va) (Sp : zSep s h gg o) (hi : i + 4 ≤ L) (hc : cells + 1 ≤ 601024) (hs : slots + 6 ≤ 7293034) (hI : zIv D cI cC cJ h gg o s H locs)
    (kk : ∀ (H1 : Heap) (locs1 : List Loc) (ls : Array Slot), zIv D cI cC cJ h gg o s H1 locs1 → lv_has ls 7 (zLs b o i h gg) → W p l e room_1 s m #[Value.ref b] below meth c H1 locs1 (cells + 1) (slots + 6) Q (F0 m 675 ls []))
    (ls : Array Slot) (hl : lv_has ls 7 (zLs b o i h gg)) : W p l e room_1 s m #[Value.ref b] below meth c H locs cells slots Q (F0 m 554 ls []) := by
  obtain ⟨hS9, hL, hXs, hbl, hE, hX1, hX3, hl9⟩ := C
  have hS8 := hS9
  obtain ⟨hx, hb, hml, hown, hg⟩ := hS8
  obtain ⟨hhs, hhm, hsA, hmA, hoA, hdis, hoS, hoM⟩ := Sp
  obtain ⟨ft, n0, S, n2, M, n3, B, n4, E, rt, v, ⟨hn0, hn2, hn3, hn4⟩, hC, hM, hO, hS⟩ := hI
  have hAO : ∀ q, zAO h o q → zA0 s q := fun q hq => hq.elim (hsA q) (fun z => z ▸ hoA)
  have hl : lv_has ls 7 [(0, .ref b), (1, .ref (h 0)), (2, .ref (gg 0)), (3, .ref o), (4, .int (nI i))] := hl
  rcases zb_ix n3 (xs (i + 1)) (by omega) with g | ⟨j, hj, g⟩
  · refine lv_aload_n hx hb d_LW_law_554 rfl (lv_at hl 1 rfl) ?_
    refine lv_aload_n hx hb d_LW_law_555 rfl (lv_at hl 0 rfl) ?_
    refine lv_iload hx hb d_LW_law_556 (lv_at hl 4 rfl) ?_
    refine lv_iconst (v := (nI 1)) hx hb d_LW_law_558 (by decide) ?_
    refine lv_iadd hx hb d_LW_law_559 ?_
    refine ztop (y := nI (i + 1)) (nI_add _ _) ?_
    refine zsld hx hb hXs hbl hS (by omega) hL d_LW_law_560 (x := xs (i + 1)) (rfl) ?_
    refine zWr (rest := []) (zrV hS9 (c_SF_cut_no l D cI cC cJ h n0 S n2 M n3 B n4 E rt hhs hn0 hn2 hn3 hn4 (xs (i + 1)) (g)) zc_SF_cut zw_103 zw_104 zw_105 ⟨rfl, rfl, by decide, by decide, Nat.le_of_succ_le hc, Nat.le_trans (Nat.le_add_right _ 6) hs⟩ (zCl.recv hE hC) hC hE rfl hl.1 rfl (Nat.le_of_ble_eq_true rfl) d_LW_law_561) hS (fun q _ h => hsA q h) hsA (fun H locs hC hz hk hS => ?_)
    have hM := hM.kept hhm (fun q h1 h2 => hk q h1 (fun z => hdis q z h2))
    have hO := hO.kept (fun q h1 h2 => hk q h1 (fun z => hoS (h2 ▸ z)))
    refine lv_aload_n hx hb d_LW_law_564 rfl (lv_at hl 2 rfl) ?_
    refine lv_aload_n hx hb d_LW_law_565 rfl (lv_at hl 0 rfl) ?_
    refine lv_iload hx hb d_LW_law_566 (lv_at hl 4 rfl) ?_
    refine lv_iconst (v := (nI 1)) hx hb d_LW_law_568 (by decide) ?_
    refine lv_iadd hx hb d_LW_law_569 ?_
    refine ztop (y := nI (i + 1)) (nI_add _ _) ?_
    refine zsld hx hb hXs hbl hS (by omega) hL d_LW_law_570 (x := xs (i + 1)) (rfl) ?_
    refine zWr (rest := [.int (nI 0)]) (zrV hS9 (c_MD_cut_no l D cI cC cJ gg ft n0 S n2 M n3 B n4 E rt hhm hn0 hn2 hn3 hn4 (xs (i + 1)) (g)) zc_MD_cut zw_627 zw_628 zw_629 ⟨rfl, rfl, by decide, by decide, Nat.le_of_succ_le hc, Nat.le_trans (Nat.le_add_right _ 6) hs⟩ (zMo.recv hE hM) hM hE rfl hl.1 rfl (Nat.le_of_ble_eq_true rfl) d_LW_law_571) hS (fun q _ h => hmA q h) hmA (fun H locs hM hz hk hS => ?_)
    have hC := hC.kept hhs (fun q h1 h2 => hk q h1 (fun z => hdis q h2 z))
    have hO := hO.kept (fun q h1 h2 => hk q h1 (fun z => hoM (h2 ▸ z)))
    refine lv_icmp_eq hx hb d_LW_law_574 (tgt := 675) (by decide) (fun _ => ?_) (fun z9 => absurd (rfl) z9)
    refine W.widen (k := cells + 1) (n := slots + 6) (by omega) (by omega) ?_
    have hl : lv_has ls 7 [(0, .ref b), (1, .ref (h 0)), (2, .ref (gg 0)), (3, .ref o), (4, .int (nI i))] := lv_sub hl [0, 1, 2, 3, 4] rfl
    exact kk _ _ ls ⟨_, _, _, _, _, _, _, _, _, _, _, ⟨hn0, hn2, hn3, hn4⟩, hC, hM, hO, hS⟩ hl
  · refine lv_aload_n hx hb d_LW_law_554 rfl (lv_at hl 1 rfl) ?_
    refine lv_aload_n hx hb d_LW_law_555 rfl (lv_at hl 0 rfl) ?_
    refine lv_iload hx hb d_LW_law_556 (lv_at hl 4 rfl) ?_
    refine lv_iconst (v := (nI 1)) hx hb d_LW_law_558 (by decide) ?_
    refine lv_iadd hx hb d_LW_law_559 ?_
    refine ztop (y := nI (i + 1)) (nI_add _ _) ?_
    refine zsld hx hb hXs hbl hS (by omega) hL d_LW_law_560 (x := nI j) (g) ?_
    refine zWr (rest := []) (zrV hS9 (c_SF_cut_ok l D cI cC cJ h n0 S n2 M n3 B n4 E rt hhs hn0 hn2 hn3 hn4 j hj) zc_SF_cut zw_103 zw_104 zw_105 ⟨rfl, rfl, by decide, by decide, Nat.le_of_succ_le hc, Nat.le_trans (Nat.le_add_right _ 6) hs⟩ (zCl.recv hE hC) hC hE rfl hl.1 rfl (Nat.le_of_ble_eq_true rfl) d_LW_law_561) hS (fun q _ h => hsA q h) hsA (fun H locs hC hz hk hS => ?_)
    have hM := hM.kept hhm (fun q h1 h2 => hk q h1 (fun z => hdis q z h2))
    have hO := hO.kept (fun q h1 h2 => hk q h1 (fun z => hoS (h2 ▸ z)))
    refine lv_aload_n hx hb d_LW_law_564 rfl (lv_at hl 2 rfl) ?_
    refine lv_aload_n hx hb d_LW_law_565 rfl (lv_at hl 0 rfl) ?_
    refine lv_iload hx hb d_LW_law_566 (lv_at hl 4 rfl) ?_
    refine lv_iconst (v := (nI 1)) hx hb d_LW_law_568 (by decide) ?_
    refine lv_iadd hx hb d_LW_law_569 ?_
    refine ztop (y := nI (i + 1)) (nI_add _ _) ?_
    refine zsld hx hb hXs hbl hS (by omega) hL d_LW_law_570 (x := nI j) (g) ?_
    refine zWr (rest := [.int (nI 1)]) (zrV hS9 (c_MD_cut_ok l D cI cC cJ gg ft n0 S n2 M n3 B n4 E rt hhm hn0 hn2 hn3 hn4 j hj) zc_MD_cut zw_627 zw_628 zw_629 ⟨rfl, rfl, by decide, by decide, Nat.le_of_succ_le hc, Nat.le_trans (Nat.le_add_right _ 6) hs⟩ (zMo.recv hE hM) hM hE rfl hl.1 rfl (Nat.le_of_ble_eq_true rfl) d_LW_law_571) hS (fun q _ h => hmA q h) hmA (fun H locs hM hz hk hS => ?_)
    have hC := hC.kept hhs (fun q h1 h2 => hk q h1 (fun z => hdis q h2 z))
    have hO := hO.kept (fun q h1 h2 => hk q h1 (fun z => hoM (h2 ▸ z)))
    refine lv_icmp_eq hx hb d_LW_law_574 (tgt := 675) (by decide) (fun _ => ?_) (fun z9 => absurd (rfl) z9)
    refine W.widen (k := cells + 1) (n := slots + 6) (by omega) (by omega) ?_
    have hl : lv_has ls 7 [(0, .ref b), (1, .ref (h 0)), (2, .ref (gg 0)), (3, .ref o), (4, .int (nI i))] := lv_sub hl [0, 1, 2, 3, 4] rfl
    exact kk _ _ ls ⟨_, _, _, _, _, _, _, _, _, _, _, ⟨hn0, hn2, by omega, hn4⟩, hC, hM, hO, hS⟩ hl

set_option maxHeartbeats 4000000 in
set_option maxRecDepth 100000 in
theorem zst_print {p : Program} {l : Launch} {e : Env} {s : State} {m : MethodId} {below : List Frame} {meth : Method} {c : Code} {H : Heap} {locs : List Loc} {cells slots : Nat} {Q : State → Prop} {b L : Nat} {xs : Nat → Int32} {D : va_G} {cI cC cJ : ClassId} {ka va : Nat} {h gg : Nat → Nat} {o i : Nat}
    (C : zLaw p l s m c b L xs D cI cC cJ ka va) (Sp : zSep s h gg o) (hi : i + 4 ≤ L) (hc : cells + 1 ≤ 601024) (hs : slots + 6 ≤ 7293034) (hI : zIv D cI cC cJ h gg o s H locs)
    (kk : ∀ (H1 : Heap) (locs1 : List Loc) (ls : Array Slot), zIv D cI cC cJ h gg o s H1 locs1 → lv_has ls 7 (zLs b o i h gg) → W p l e room_1 s m #[Value.ref b] below meth c H1 locs1 (cells + 1) (slots + 6) Q (F0 m 675 ls []))
    (ls : Array Slot) (hl : lv_has ls 7 (zLs b o i h gg)) : W p l e room_1 s m #[Value.ref b] below meth c H locs cells slots Q (F0 m 579 ls []) := by
  obtain ⟨hS9, hL, hXs, hbl, hE, hX1, hX3, hl9⟩ := C
  have hS8 := hS9
  obtain ⟨hx, hb, hml, hown, hg⟩ := hS8
  obtain ⟨hhs, hhm, hsA, hmA, hoA, hdis, hoS, hoM⟩ := Sp
  obtain ⟨ft, n0, S, n2, M, n3, B, n4, E, rt, v, ⟨hn0, hn2, hn3, hn4⟩, hC, hM, hO, hS⟩ := hI
  have hAO : ∀ q, zAO h o q → zA0 s q := fun q hq => hq.elim (hsA q) (fun z => z ▸ hoA)
  have hl : lv_has ls 7 [(0, .ref b), (1, .ref (h 0)), (2, .ref (gg 0)), (3, .ref o), (4, .int (nI i))] := hl
  rcases zb_ix ((n3 * 8 + 5) / 6) (xs (i + 1)) (by omega) with g | ⟨j, hj, g⟩
  · refine lv_aload_n hx hb d_LW_law_579 rfl (lv_at hl 1 rfl) ?_
    refine lv_aload_n hx hb d_LW_law_580 rfl (lv_at hl 0 rfl) ?_
    refine lv_iload hx hb d_LW_law_581 (lv_at hl 4 rfl) ?_
    refine lv_iconst (v := (nI 1)) hx hb d_LW_law_583 (by decide) ?_
    refine lv_iadd hx hb d_LW_law_584 ?_
    refine ztop (y := nI (i + 1)) (nI_add _ _) ?_
    refine zsld hx hb hXs hbl hS (by omega) hL d_LW_law_585 (x := xs (i + 1)) (rfl) ?_
    refine zRd (rest := []) (zrVY hS9 (c_SF_print_no l D cI cC cJ h n0 S n2 M n3 B n4 E rt hhs hn0 hn2 hn3 hn4 ka va (xs (i + 1)) g) zc_SF_print zw_107 zw_108 zw_109 ⟨rfl, rfl, by decide, by decide, Nat.le_of_succ_le hc, Nat.le_trans (Nat.le_add_right _ 6) hs⟩ (zCl.recv hE hC) hC hE zX1.bl (fun U hU hW => hX1.use hS hU hW hsA) rfl hl.1 rfl (Nat.le_of_ble_eq_true rfl) d_LW_law_586) ?_
    refine lv_aload_n hx hb d_LW_law_589 rfl (lv_at hl 2 rfl) ?_
    refine lv_aload_n hx hb d_LW_law_590 rfl (lv_at hl 0 rfl) ?_
    refine lv_iload hx hb d_LW_law_591 (lv_at hl 4 rfl) ?_
    refine lv_iconst (v := (nI 1)) hx hb d_LW_law_593 (by decide) ?_
    refine lv_iadd hx hb d_LW_law_594 ?_
    refine ztop (y := nI (i + 1)) (nI_add _ _) ?_
    refine zsld hx hb hXs hbl hS (by omega) hL d_LW_law_595 (x := xs (i + 1)) (rfl) ?_
    refine zWr (rest := [.int (-1)]) (zrV hS9 (c_MD_print_no l D cI cC cJ gg ft n0 S n2 M n3 B n4 E rt hhm hn0 hn2 hn3 hn4 (xs (i + 1)) g) zc_MD_print zw_631 zw_632 zw_633 ⟨rfl, rfl, by decide, by decide, Nat.le_of_succ_le hc, Nat.le_trans (Nat.le_add_right _ 6) hs⟩ (zMo.recv hE hM) hM hE rfl hl.1 rfl (Nat.le_of_ble_eq_true rfl) d_LW_law_596) hS (fun q _ h => hmA q h) hmA (fun H locs hM hz hk hS => ?_)
    have hC := hC.kept hhs (fun q h1 h2 => hk q h1 (fun z => hdis q h2 z))
    have hO := hO.kept (fun q h1 h2 => hk q h1 (fun z => hoM (h2 ▸ z)))
    refine lv_icmp_eq hx hb d_LW_law_599 (tgt := 675) (by decide) (fun _ => ?_) (fun z9 => absurd (rfl) z9)
    refine W.widen (k := cells + 1) (n := slots + 6) (by omega) (by omega) ?_
    have hl : lv_has ls 7 [(0, .ref b), (1, .ref (h 0)), (2, .ref (gg 0)), (3, .ref o), (4, .int (nI i))] := lv_sub hl [0, 1, 2, 3, 4] rfl
    exact kk _ _ ls ⟨_, _, _, _, _, _, _, _, _, _, _, ⟨hn0, hn2, hn3, hn4⟩, hC, hM, hO, hS⟩ hl
  · refine lv_aload_n hx hb d_LW_law_579 rfl (lv_at hl 1 rfl) ?_
    refine lv_aload_n hx hb d_LW_law_580 rfl (lv_at hl 0 rfl) ?_
    refine lv_iload hx hb d_LW_law_581 (lv_at hl 4 rfl) ?_
    refine lv_iconst (v := (nI 1)) hx hb d_LW_law_583 (by decide) ?_
    refine lv_iadd hx hb d_LW_law_584 ?_
    refine ztop (y := nI (i + 1)) (nI_add _ _) ?_
    refine zsld hx hb hXs hbl hS (by omega) hL d_LW_law_585 (x := nI j) (g) ?_
    refine zRd (rest := []) (zrVY hS9 (c_SF_print_ok l D cI cC cJ h n0 S n2 M n3 B n4 E rt hhs hn0 hn2 hn3 hn4 ka va j (by omega)) zc_SF_print zw_107 zw_108 zw_109 ⟨rfl, rfl, by decide, by decide, Nat.le_of_succ_le hc, Nat.le_trans (Nat.le_add_right _ 6) hs⟩ (zCl.recv hE hC) hC hE zX1.bl (fun U hU hW => hX1.use hS hU hW hsA) rfl hl.1 rfl (Nat.le_of_ble_eq_true rfl) d_LW_law_586) ?_
    refine lv_aload_n hx hb d_LW_law_589 rfl (lv_at hl 2 rfl) ?_
    refine lv_aload_n hx hb d_LW_law_590 rfl (lv_at hl 0 rfl) ?_
    refine lv_iload hx hb d_LW_law_591 (lv_at hl 4 rfl) ?_
    refine lv_iconst (v := (nI 1)) hx hb d_LW_law_593 (by decide) ?_
    refine lv_iadd hx hb d_LW_law_594 ?_
    refine ztop (y := nI (i + 1)) (nI_add _ _) ?_
    refine zsld hx hb hXs hbl hS (by omega) hL d_LW_law_595 (x := nI j) (g) ?_
    refine zWr (rest := [.int (nI (zs_chr (zs_p6 n3 B j)))]) (zrV hS9 (c_MD_print_ok l D cI cC cJ gg ft n0 S n2 M n3 B n4 E rt hhm hn0 hn2 hn3 hn4 j (by omega)) zc_MD_print zw_631 zw_632 zw_633 ⟨rfl, rfl, by decide, by decide, Nat.le_of_succ_le hc, Nat.le_trans (Nat.le_add_right _ 6) hs⟩ (zMo.recv hE hM) hM hE rfl hl.1 rfl (Nat.le_of_ble_eq_true rfl) d_LW_law_596) hS (fun q _ h => hmA q h) hmA (fun H locs hM hz hk hS => ?_)
    have hC := hC.kept hhs (fun q h1 h2 => hk q h1 (fun z => hdis q h2 z))
    have hO := hO.kept (fun q h1 h2 => hk q h1 (fun z => hoM (h2 ▸ z)))
    refine lv_icmp_eq hx hb d_LW_law_599 (tgt := 675) (by decide) (fun _ => ?_) (fun z9 => absurd (rfl) z9)
    refine W.widen (k := cells + 1) (n := slots + 6) (by omega) (by omega) ?_
    have hl : lv_has ls 7 [(0, .ref b), (1, .ref (h 0)), (2, .ref (gg 0)), (3, .ref o), (4, .int (nI i))] := lv_sub hl [0, 1, 2, 3, 4] rfl
    exact kk _ _ ls ⟨_, _, _, _, _, _, _, _, _, _, _, ⟨hn0, hn2, hn3, hn4⟩, hC, hM, hO, hS⟩ hl

set_option maxHeartbeats 4000000 in
set_option maxRecDepth 100000 in
theorem zst_write {p : Program} {l : Launch} {e : Env} {s : State} {m : MethodId} {below : List Frame} {meth : Method} {c : Code} {H : Heap} {locs : List Loc} {cells slots : Nat} {Q : State → Prop} {b L : Nat} {xs : Nat → Int32} {D : va_G} {cI cC cJ : ClassId} {ka va : Nat} {h gg : Nat → Nat} {o i : Nat}
    (C : zLaw p l s m c b L xs D cI cC cJ ka va) (Sp : zSep s h gg o) (hi : i + 4 ≤ L) (hc : cells + 1 ≤ 601024) (hs : slots + 6 ≤ 7293034) (hI : zIv D cI cC cJ h gg o s H locs)
    (kk : ∀ (H1 : Heap) (locs1 : List Loc) (ls : Array Slot), zIv D cI cC cJ h gg o s H1 locs1 → lv_has ls 7 (zLs b o i h gg) → W p l e room_1 s m #[Value.ref b] below meth c H1 locs1 (cells + 1) (slots + 6) Q (F0 m 675 ls []))
    (ls : Array Slot) (hl : lv_has ls 7 (zLs b o i h gg)) : W p l e room_1 s m #[Value.ref b] below meth c H locs cells slots Q (F0 m 604 ls []) := by
  obtain ⟨hS9, hL, hXs, hbl, hE, hX1, hX3, hl9⟩ := C
  have hS8 := hS9
  obtain ⟨hx, hb, hml, hown, hg⟩ := hS8
  obtain ⟨hhs, hhm, hsA, hmA, hoA, hdis, hoS, hoM⟩ := Sp
  obtain ⟨ft, n0, S, n2, M, n3, B, n4, E, rt, v, ⟨hn0, hn2, hn3, hn4⟩, hC, hM, hO, hS⟩ := hI
  have hAO : ∀ q, zAO h o q → zA0 s q := fun q hq => hq.elim (hsA q) (fun z => z ▸ hoA)
  have hl : lv_has ls 7 [(0, .ref b), (1, .ref (h 0)), (2, .ref (gg 0)), (3, .ref o), (4, .int (nI i))] := hl
  obtain ⟨c9, hc9, hce⟩ : ∃ c9, c9 < 65536 ∧ ((xs (i + 1)).toUInt32 % 65536).toInt32 = nI c9 := ⟨_, Nat.mod_lt _ (by decide), pk_char _⟩
  rcases zs_six_is c9 with g | ⟨y9, hy, g⟩
  · refine lv_aload_n hx hb d_LW_law_604 rfl (lv_at hl 1 rfl) ?_
    refine lv_aload_n hx hb d_LW_law_605 rfl (lv_at hl 0 rfl) ?_
    refine lv_iload hx hb d_LW_law_606 (lv_at hl 4 rfl) ?_
    refine lv_iconst (v := (nI 1)) hx hb d_LW_law_608 (by decide) ?_
    refine lv_iadd hx hb d_LW_law_609 ?_
    refine ztop (y := nI (i + 1)) (nI_add _ _) ?_
    refine zsld hx hb hXs hbl hS (by omega) hL d_LW_law_610 (x := xs (i + 1)) (rfl) ?_
    refine lv_i2c hx hb d_LW_law_611 hce ?_
    refine zWr (rest := []) (zrVY hS9 (c_SF_write_no l D cI cC cJ h n0 S n2 M n3 B n4 E rt hhs hn0 hn2 hn3 hn4 ka va c9 hc9 (Or.inr g)) zc_SF_write zw_154 zw_155 zw_156 ⟨rfl, rfl, by decide, by decide, Nat.le_of_succ_le hc, Nat.le_trans (Nat.le_add_right _ 6) hs⟩ (zCl.recv hE hC) hC hE zX1.bl (fun U hU hW => hX1.use hS hU hW hsA) rfl hl.1 rfl (Nat.le_of_ble_eq_true rfl) d_LW_law_612) hS (fun q _ h => hsA q h) hsA (fun H locs hC hz hk hS => ?_)
    have hM := hM.kept hhm (fun q h1 h2 => hk q h1 (fun z => hdis q z h2))
    have hO := hO.kept (fun q h1 h2 => hk q h1 (fun z => hoS (h2 ▸ z)))
    refine lv_aload_n hx hb d_LW_law_615 rfl (lv_at hl 2 rfl) ?_
    refine lv_aload_n hx hb d_LW_law_616 rfl (lv_at hl 0 rfl) ?_
    refine lv_iload hx hb d_LW_law_617 (lv_at hl 4 rfl) ?_
    refine lv_iconst (v := (nI 1)) hx hb d_LW_law_619 (by decide) ?_
    refine lv_iadd hx hb d_LW_law_620 ?_
    refine ztop (y := nI (i + 1)) (nI_add _ _) ?_
    refine zsld hx hb hXs hbl hS (by omega) hL d_LW_law_621 (x := xs (i + 1)) (rfl) ?_
    refine lv_i2c hx hb d_LW_law_622 hce ?_
    refine zWr (rest := [.int (nI 0)]) (zrV hS9 (c_MD_write_no l D cI cC cJ gg ft n0 S n2 M n3 B n4 E rt hhm hn0 hn2 hn3 hn4 c9 hc9 (Or.inr g)) zc_MD_write zw_639 zw_640 zw_641 ⟨rfl, rfl, by decide, by decide, Nat.le_of_succ_le hc, Nat.le_trans (Nat.le_add_right _ 6) hs⟩ (zMo.recv hE hM) hM hE rfl hl.1 rfl (Nat.le_of_ble_eq_true rfl) d_LW_law_623) hS (fun q _ h => hmA q h) hmA (fun H locs hM hz hk hS => ?_)
    have hC := hC.kept hhs (fun q h1 h2 => hk q h1 (fun z => hdis q h2 z))
    have hO := hO.kept (fun q h1 h2 => hk q h1 (fun z => hoM (h2 ▸ z)))
    refine lv_icmp_eq hx hb d_LW_law_626 (tgt := 675) (by decide) (fun _ => ?_) (fun z9 => absurd (rfl) z9)
    refine W.widen (k := cells + 1) (n := slots + 6) (by omega) (by omega) ?_
    have hl : lv_has ls 7 [(0, .ref b), (1, .ref (h 0)), (2, .ref (gg 0)), (3, .ref o), (4, .int (nI i))] := lv_sub hl [0, 1, 2, 3, 4] rfl
    exact kk _ _ ls ⟨_, _, _, _, _, _, _, _, _, _, _, ⟨hn0, hn2, hn3, hn4⟩, hC, hM, hO, hS⟩ hl
  · by_cases g4 : n4 = 160
    · refine lv_aload_n hx hb d_LW_law_604 rfl (lv_at hl 1 rfl) ?_
      refine lv_aload_n hx hb d_LW_law_605 rfl (lv_at hl 0 rfl) ?_
      refine lv_iload hx hb d_LW_law_606 (lv_at hl 4 rfl) ?_
      refine lv_iconst (v := (nI 1)) hx hb d_LW_law_608 (by decide) ?_
      refine lv_iadd hx hb d_LW_law_609 ?_
      refine ztop (y := nI (i + 1)) (nI_add _ _) ?_
      refine zsld hx hb hXs hbl hS (by omega) hL d_LW_law_610 (x := xs (i + 1)) (rfl) ?_
      refine lv_i2c hx hb d_LW_law_611 hce ?_
      refine zWr (rest := []) (zrVY hS9 (c_SF_write_no l D cI cC cJ h n0 S n2 M n3 B n4 E rt hhs hn0 hn2 hn3 hn4 ka va c9 hc9 (Or.inl g4)) zc_SF_write zw_154 zw_155 zw_156 ⟨rfl, rfl, by decide, by decide, Nat.le_of_succ_le hc, Nat.le_trans (Nat.le_add_right _ 6) hs⟩ (zCl.recv hE hC) hC hE zX1.bl (fun U hU hW => hX1.use hS hU hW hsA) rfl hl.1 rfl (Nat.le_of_ble_eq_true rfl) d_LW_law_612) hS (fun q _ h => hsA q h) hsA (fun H locs hC hz hk hS => ?_)
      have hM := hM.kept hhm (fun q h1 h2 => hk q h1 (fun z => hdis q z h2))
      have hO := hO.kept (fun q h1 h2 => hk q h1 (fun z => hoS (h2 ▸ z)))
      refine lv_aload_n hx hb d_LW_law_615 rfl (lv_at hl 2 rfl) ?_
      refine lv_aload_n hx hb d_LW_law_616 rfl (lv_at hl 0 rfl) ?_
      refine lv_iload hx hb d_LW_law_617 (lv_at hl 4 rfl) ?_
      refine lv_iconst (v := (nI 1)) hx hb d_LW_law_619 (by decide) ?_
      refine lv_iadd hx hb d_LW_law_620 ?_
      refine ztop (y := nI (i + 1)) (nI_add _ _) ?_
      refine zsld hx hb hXs hbl hS (by omega) hL d_LW_law_621 (x := xs (i + 1)) (rfl) ?_
      refine lv_i2c hx hb d_LW_law_622 hce ?_
      refine zWr (rest := [.int (nI 0)]) (zrV hS9 (c_MD_write_no l D cI cC cJ gg ft n0 S n2 M n3 B n4 E rt hhm hn0 hn2 hn3 hn4 c9 hc9 (Or.inl g4)) zc_MD_write zw_639 zw_640 zw_641 ⟨rfl, rfl, by decide, by decide, Nat.le_of_succ_le hc, Nat.le_trans (Nat.le_add_right _ 6) hs⟩ (zMo.recv hE hM) hM hE rfl hl.1 rfl (Nat.le_of_ble_eq_true rfl) d_LW_law_623) hS (fun q _ h => hmA q h) hmA (fun H locs hM hz hk hS => ?_)
      have hC := hC.kept hhs (fun q h1 h2 => hk q h1 (fun z => hdis q h2 z))
      have hO := hO.kept (fun q h1 h2 => hk q h1 (fun z => hoM (h2 ▸ z)))
      refine lv_icmp_eq hx hb d_LW_law_626 (tgt := 675) (by decide) (fun _ => ?_) (fun z9 => absurd (rfl) z9)
      refine W.widen (k := cells + 1) (n := slots + 6) (by omega) (by omega) ?_
      have hl : lv_has ls 7 [(0, .ref b), (1, .ref (h 0)), (2, .ref (gg 0)), (3, .ref o), (4, .int (nI i))] := lv_sub hl [0, 1, 2, 3, 4] rfl
      exact kk _ _ ls ⟨_, _, _, _, _, _, _, _, _, _, _, ⟨hn0, hn2, hn3, hn4⟩, hC, hM, hO, hS⟩ hl
    · refine lv_aload_n hx hb d_LW_law_604 rfl (lv_at hl 1 rfl) ?_
      refine lv_aload_n hx hb d_LW_law_605 rfl (lv_at hl 0 rfl) ?_
      refine lv_iload hx hb d_LW_law_606 (lv_at hl 4 rfl) ?_
      refine lv_iconst (v := (nI 1)) hx hb d_LW_law_608 (by decide) ?_
      refine lv_iadd hx hb d_LW_law_609 ?_
      refine ztop (y := nI (i + 1)) (nI_add _ _) ?_
      refine zsld hx hb hXs hbl hS (by omega) hL d_LW_law_610 (x := xs (i + 1)) (rfl) ?_
      refine lv_i2c hx hb d_LW_law_611 hce ?_
      refine zWr (rest := []) (zrVY hS9 (c_SF_write_ok l D cI cC cJ h n0 S n2 M n3 B n4 E rt hhs hn0 hn2 hn3 hn4 ka va c9 y9 hc9 g hy (by omega)) zc_SF_write zw_154 zw_155 zw_156 ⟨rfl, rfl, by decide, by decide, Nat.le_of_succ_le hc, Nat.le_trans (Nat.le_add_right _ 6) hs⟩ (zCl.recv hE hC) hC hE zX1.bl (fun U hU hW => hX1.use hS hU hW hsA) rfl hl.1 rfl (Nat.le_of_ble_eq_true rfl) d_LW_law_612) hS (fun q _ h => hsA q h) hsA (fun H locs hC hz hk hS => ?_)
      have hM := hM.kept hhm (fun q h1 h2 => hk q h1 (fun z => hdis q z h2))
      have hO := hO.kept (fun q h1 h2 => hk q h1 (fun z => hoS (h2 ▸ z)))
      refine lv_aload_n hx hb d_LW_law_615 rfl (lv_at hl 2 rfl) ?_
      refine lv_aload_n hx hb d_LW_law_616 rfl (lv_at hl 0 rfl) ?_
      refine lv_iload hx hb d_LW_law_617 (lv_at hl 4 rfl) ?_
      refine lv_iconst (v := (nI 1)) hx hb d_LW_law_619 (by decide) ?_
      refine lv_iadd hx hb d_LW_law_620 ?_
      refine ztop (y := nI (i + 1)) (nI_add _ _) ?_
      refine zsld hx hb hXs hbl hS (by omega) hL d_LW_law_621 (x := xs (i + 1)) (rfl) ?_
      refine lv_i2c hx hb d_LW_law_622 hce ?_
      refine zWr (rest := [.int (nI 1)]) (zrV hS9 (c_MD_write_ok l D cI cC cJ gg ft n0 S n2 M n3 B n4 E rt hhm hn0 hn2 hn3 hn4 c9 y9 hc9 g hy (by omega)) zc_MD_write zw_639 zw_640 zw_641 ⟨rfl, rfl, by decide, by decide, Nat.le_of_succ_le hc, Nat.le_trans (Nat.le_add_right _ 6) hs⟩ (zMo.recv hE hM) hM hE rfl hl.1 rfl (Nat.le_of_ble_eq_true rfl) d_LW_law_623) hS (fun q _ h => hmA q h) hmA (fun H locs hM hz hk hS => ?_)
      have hC := hC.kept hhs (fun q h1 h2 => hk q h1 (fun z => hdis q h2 z))
      have hO := hO.kept (fun q h1 h2 => hk q h1 (fun z => hoM (h2 ▸ z)))
      refine lv_icmp_eq hx hb d_LW_law_626 (tgt := 675) (by decide) (fun _ => ?_) (fun z9 => absurd (rfl) z9)
      refine W.widen (k := cells + 1) (n := slots + 6) (by omega) (by omega) ?_
      have hl : lv_has ls 7 [(0, .ref b), (1, .ref (h 0)), (2, .ref (gg 0)), (3, .ref o), (4, .int (nI i))] := lv_sub hl [0, 1, 2, 3, 4] rfl
      exact kk _ _ ls ⟨_, _, _, _, _, _, _, _, _, _, _, ⟨hn0, hn2, hn3, by omega⟩, hC, hM, hO, hS⟩ hl

set_option maxHeartbeats 4000000 in
set_option maxRecDepth 100000 in
theorem zst_key {p : Program} {l : Launch} {e : Env} {s : State} {m : MethodId} {below : List Frame} {meth : Method} {c : Code} {H : Heap} {locs : List Loc} {cells slots : Nat} {Q : State → Prop} {b L : Nat} {xs : Nat → Int32} {D : va_G} {cI cC cJ : ClassId} {ka va : Nat} {h gg : Nat → Nat} {o i : Nat}
    (C : zLaw p l s m c b L xs D cI cC cJ ka va) (Sp : zSep s h gg o) (hi : i + 4 ≤ L) (hc : cells + 1 ≤ 601024) (hs : slots + 6 ≤ 7293034) (hI : zIv D cI cC cJ h gg o s H locs)
    (kk : ∀ (H1 : Heap) (locs1 : List Loc) (ls : Array Slot), zIv D cI cC cJ h gg o s H1 locs1 → lv_has ls 7 (zLs b o i h gg) → W p l e room_1 s m #[Value.ref b] below meth c H1 locs1 (cells + 1) (slots + 6) Q (F0 m 675 ls []))
    (ls : Array Slot) (hl : lv_has ls 7 (zLs b o i h gg)) : W p l e room_1 s m #[Value.ref b] below meth c H locs cells slots Q (F0 m 112 ls []) := by
  obtain ⟨hS9, hL, hXs, hbl, hE, hX1, hX3, hl9⟩ := C
  have hS8 := hS9
  obtain ⟨hx, hb, hml, hown, hg⟩ := hS8
  obtain ⟨hhs, hhm, hsA, hmA, hoA, hdis, hoS, hoM⟩ := Sp
  obtain ⟨ft, n0, S, n2, M, n3, B, n4, E, rt, v, ⟨hn0, hn2, hn3, hn4⟩, hC, hM, hO, hS⟩ := hI
  have hAO : ∀ q, zAO h o q → zA0 s q := fun q hq => hq.elim (hsA q) (fun z => z ▸ hoA)
  have hl : lv_has ls 7 [(0, .ref b), (1, .ref (h 0)), (2, .ref (gg 0)), (3, .ref o), (4, .int (nI i))] := hl
  rcases zb_key (xs (i + 1)) with g | ⟨x, hx1, hx2, g⟩
  · refine lv_aload_n hx hb d_LW_law_112 rfl (lv_at hl 1 rfl) ?_
    refine lv_aload_n hx hb d_LW_law_113 rfl (lv_at hl 0 rfl) ?_
    refine lv_iload hx hb d_LW_law_114 (lv_at hl 4 rfl) ?_
    refine lv_iconst (v := (nI 1)) hx hb d_LW_law_116 (by decide) ?_
    refine lv_iadd hx hb d_LW_law_117 ?_
    refine ztop (y := nI (i + 1)) (nI_add _ _) ?_
    refine zsld hx hb hXs hbl hS (by omega) hL d_LW_law_118 (x := xs (i + 1)) (rfl) ?_
    refine lv_aload_n hx hb d_LW_law_119 rfl (lv_at hl 3 rfl) ?_
    refine zWr (rest := []) (zrSW (n := 3) hS9 (c_LW_key_e1 l hl9 D cI cC cJ h n0 S n2 M n3 B n4 E rt hhs hn0 hn2 hn3 hn4 o v hoS (xs (i + 1)) g) zk_LW_key zw_0 ⟨by decide, by decide, by decide +kernel⟩ zw_224 zw_225 ⟨rfl, rfl, by decide, by decide, hc, hs⟩ ⟨hC, hO⟩ hE zX3.bl (fun U hU hW => hX3.use hS hU hW hAO) rfl hl.1 rfl (Nat.le_of_ble_eq_true rfl) d_LW_law_120) hS (fun q _ h => hAO q h) hAO (fun H locs hB1 hz hk hS => ?_)
    obtain ⟨hC, hO⟩ := hB1
    have hM := hM.kept hhm (fun q h1 h2 => hk q h1 (fun z => z.elim (fun z => hdis q z h2) (fun z => hoM (z ▸ h2))))
    refine lv_istore hx hb d_LW_law_123 hl (by decide) (lv' := [(5, .int (nI 1)), (0, .ref b), (1, .ref (h 0)), (2, .ref (gg 0)), (3, .ref o), (4, .int (nI i))]) rfl (fun ls hl => ?_)
    refine lv_aload_n hx hb d_LW_law_125 rfl (lv_at hl 3 rfl) ?_
    refine lv_aload_n hx hb d_LW_law_126 rfl (lv_at hl 1 rfl) ?_
    refine lv_iload hx hb d_LW_law_127 (lv_at hl 5 rfl) ?_
    refine lv_iconst (v := (nI 1)) hx hb d_LW_law_129 (by decide) ?_
    refine lv_iadd hx hb d_LW_law_130 ?_
    refine ztop (y := nI (i + 1)) (nI_add _ _) ?_
    refine zsld hx hb hXs hbl hS (by omega) hL d_LW_law_131 (x := xs (i + 1)) (rfl) ?_
    refine zWr (rest := []) (zrV hS9 (c_MD_key_e1 l D cI cC cJ gg ft n0 S n2 M n3 B n4 E rt hhm hn0 hn2 hn3 hn4 (xs (i + 1)) g) zc_MD_key zw_530 zw_531 zw_532 ⟨rfl, rfl, by decide, by decide, hc, hs⟩ (zMo.recv hE hM) hM hE rfl hl.1 rfl (Nat.le_of_ble_eq_true rfl) d_LW_law_132) hS (fun q _ h => hmA q h) hmA (fun H locs hM hz hk hS => ?_)
    have hC := hC.kept hhs (fun q h1 h2 => hk q h1 (fun z => hdis q h2 z))
    have hO := hO.kept (fun q h1 h2 => hk q h1 (fun z => hoM (h2 ▸ z)))
    refine lv_istore hx hb d_LW_law_135 hl (by decide) (lv' := [(6, .int (nI 0)), (5, .int (nI 1)), (0, .ref b), (1, .ref (h 0)), (2, .ref (gg 0)), (3, .ref o), (4, .int (nI i))]) rfl (fun ls hl => ?_)
    refine lv_aload_n hx hb d_LW_law_137 rfl (lv_at hl 4 rfl) ?_
    refine zRd (rest := []) (zrV hS9 (c_MD_thrown l D cI cC cJ gg (nI 1) n0 S n2 M n3 B n4 E rt hhm (hn0) (hn2) (hn3) (hn4)) zc_MD_thrown zw_526 zw_527 zw_528 ⟨rfl, rfl, by decide, by decide, hc, hs⟩ (zMo.recv hE hM) hM hE rfl hl.1 rfl (Nat.le_of_ble_eq_true rfl) d_LW_law_138) ?_
    refine lv_iload hx hb d_LW_law_141 (lv_at hl 1 rfl) ?_
    refine lv_icmp_eq hx hb d_LW_law_143 (tgt := 148) (by decide) (fun _ => ?_) (fun z9 => absurd (rfl) z9)
    refine lv_iload hx hb d_LW_law_148 (lv_at hl 1 rfl) ?_
    refine lv_if_ne hx hb d_LW_law_150 (tgt := 165) (by decide) (fun _ => ?_) (fun z9 => absurd z9 (by decide))
    refine lv_goto hx hb d_LW_law_165 (tgt := 675) (by decide) ?_
    refine W.widen (k := cells + 1) (n := slots + 6) (by omega) (by omega) ?_
    have hl : lv_has ls 7 [(0, .ref b), (1, .ref (h 0)), (2, .ref (gg 0)), (3, .ref o), (4, .int (nI i))] := lv_sub hl [2, 3, 4, 5, 6] rfl
    exact kk _ _ ls ⟨_, _, _, _, _, _, _, _, _, _, _, ⟨hn0, hn2, hn3, hn4⟩, hC, hM, hO, hS⟩ hl
  · by_cases g4 : n0 = 4
    · refine lv_aload_n hx hb d_LW_law_112 rfl (lv_at hl 1 rfl) ?_
      refine lv_aload_n hx hb d_LW_law_113 rfl (lv_at hl 0 rfl) ?_
      refine lv_iload hx hb d_LW_law_114 (lv_at hl 4 rfl) ?_
      refine lv_iconst (v := (nI 1)) hx hb d_LW_law_116 (by decide) ?_
      refine lv_iadd hx hb d_LW_law_117 ?_
      refine ztop (y := nI (i + 1)) (nI_add _ _) ?_
      refine zsld hx hb hXs hbl hS (by omega) hL d_LW_law_118 (x := nI x) (g) ?_
      refine lv_aload_n hx hb d_LW_law_119 rfl (lv_at hl 3 rfl) ?_
      refine zWr (rest := []) (zrSW (n := 3) hS9 (c_LW_key_e2 l hl9 D cI cC cJ h n0 S n2 M n3 B n4 E rt hhs hn0 hn2 hn3 hn4 o v hoS x hx1 hx2 g4) zk_LW_key zw_0 ⟨by decide, by decide, by decide +kernel⟩ zw_224 zw_225 ⟨rfl, rfl, by decide, by decide, hc, hs⟩ ⟨hC, hO⟩ hE zX3.bl (fun U hU hW => hX3.use hS hU hW hAO) rfl hl.1 rfl (Nat.le_of_ble_eq_true rfl) d_LW_law_120) hS (fun q _ h => hAO q h) hAO (fun H locs hB1 hz hk hS => ?_)
      obtain ⟨hC, hO⟩ := hB1
      have hM := hM.kept hhm (fun q h1 h2 => hk q h1 (fun z => z.elim (fun z => hdis q z h2) (fun z => hoM (z ▸ h2))))
      refine lv_istore hx hb d_LW_law_123 hl (by decide) (lv' := [(5, .int (nI 2)), (0, .ref b), (1, .ref (h 0)), (2, .ref (gg 0)), (3, .ref o), (4, .int (nI i))]) rfl (fun ls hl => ?_)
      refine lv_aload_n hx hb d_LW_law_125 rfl (lv_at hl 3 rfl) ?_
      refine lv_aload_n hx hb d_LW_law_126 rfl (lv_at hl 1 rfl) ?_
      refine lv_iload hx hb d_LW_law_127 (lv_at hl 5 rfl) ?_
      refine lv_iconst (v := (nI 1)) hx hb d_LW_law_129 (by decide) ?_
      refine lv_iadd hx hb d_LW_law_130 ?_
      refine ztop (y := nI (i + 1)) (nI_add _ _) ?_
      refine zsld hx hb hXs hbl hS (by omega) hL d_LW_law_131 (x := nI x) (g) ?_
      refine zWr (rest := []) (zrV hS9 (c_MD_key_e2 l D cI cC cJ gg ft n0 S n2 M n3 B n4 E rt hhm hn0 hn2 hn3 hn4 x hx1 hx2 g4) zc_MD_key zw_530 zw_531 zw_532 ⟨rfl, rfl, by decide, by decide, hc, hs⟩ (zMo.recv hE hM) hM hE rfl hl.1 rfl (Nat.le_of_ble_eq_true rfl) d_LW_law_132) hS (fun q _ h => hmA q h) hmA (fun H locs hM hz hk hS => ?_)
      have hC := hC.kept hhs (fun q h1 h2 => hk q h1 (fun z => hdis q h2 z))
      have hO := hO.kept (fun q h1 h2 => hk q h1 (fun z => hoM (h2 ▸ z)))
      refine lv_istore hx hb d_LW_law_135 hl (by decide) (lv' := [(6, .int (nI 0)), (5, .int (nI 2)), (0, .ref b), (1, .ref (h 0)), (2, .ref (gg 0)), (3, .ref o), (4, .int (nI i))]) rfl (fun ls hl => ?_)
      refine lv_aload_n hx hb d_LW_law_137 rfl (lv_at hl 4 rfl) ?_
      refine zRd (rest := []) (zrV hS9 (c_MD_thrown l D cI cC cJ gg (nI 2) n0 S n2 M n3 B n4 E rt hhm (hn0) (hn2) (hn3) (hn4)) zc_MD_thrown zw_526 zw_527 zw_528 ⟨rfl, rfl, by decide, by decide, hc, hs⟩ (zMo.recv hE hM) hM hE rfl hl.1 rfl (Nat.le_of_ble_eq_true rfl) d_LW_law_138) ?_
      refine lv_iload hx hb d_LW_law_141 (lv_at hl 1 rfl) ?_
      refine lv_icmp_eq hx hb d_LW_law_143 (tgt := 148) (by decide) (fun _ => ?_) (fun z9 => absurd (rfl) z9)
      refine lv_iload hx hb d_LW_law_148 (lv_at hl 1 rfl) ?_
      refine lv_if_ne hx hb d_LW_law_150 (tgt := 165) (by decide) (fun _ => ?_) (fun z9 => absurd z9 (by decide))
      refine lv_goto hx hb d_LW_law_165 (tgt := 675) (by decide) ?_
      refine W.widen (k := cells + 1) (n := slots + 6) (by omega) (by omega) ?_
      have hl : lv_has ls 7 [(0, .ref b), (1, .ref (h 0)), (2, .ref (gg 0)), (3, .ref o), (4, .int (nI i))] := lv_sub hl [2, 3, 4, 5, 6] rfl
      exact kk _ _ ls ⟨_, _, _, _, _, _, _, _, _, _, _, ⟨hn0, hn2, hn3, hn4⟩, hC, hM, hO, hS⟩ hl
    · refine lv_aload_n hx hb d_LW_law_112 rfl (lv_at hl 1 rfl) ?_
      refine lv_aload_n hx hb d_LW_law_113 rfl (lv_at hl 0 rfl) ?_
      refine lv_iload hx hb d_LW_law_114 (lv_at hl 4 rfl) ?_
      refine lv_iconst (v := (nI 1)) hx hb d_LW_law_116 (by decide) ?_
      refine lv_iadd hx hb d_LW_law_117 ?_
      refine ztop (y := nI (i + 1)) (nI_add _ _) ?_
      refine zsld hx hb hXs hbl hS (by omega) hL d_LW_law_118 (x := nI x) (g) ?_
      refine lv_aload_n hx hb d_LW_law_119 rfl (lv_at hl 3 rfl) ?_
      refine zWr (rest := []) (zrSW (n := 3) hS9 (c_LW_key_ok l D cI cC cJ h n0 S n2 M n3 B n4 E rt hhs hn0 hn2 hn3 hn4 o v hoS x hx1 hx2 (by omega)) zk_LW_key zw_0 ⟨by decide, by decide, by decide +kernel⟩ zw_224 zw_225 ⟨rfl, rfl, by decide, by decide, Nat.le_of_succ_le hc, Nat.le_trans (Nat.le_add_right _ 6) hs⟩ ⟨hC, hO⟩ hE zX3.bl (fun U hU hW => hX3.use hS hU hW hAO) rfl hl.1 rfl (Nat.le_of_ble_eq_true rfl) d_LW_law_120) hS (fun q _ h => hAO q h) hAO (fun H locs hB1 hz hk hS => ?_)
      obtain ⟨hC, hO⟩ := hB1
      have hM := hM.kept hhm (fun q h1 h2 => hk q h1 (fun z => z.elim (fun z => hdis q z h2) (fun z => hoM (z ▸ h2))))
      refine lv_istore hx hb d_LW_law_123 hl (by decide) (lv' := [(5, .int (nI 0)), (0, .ref b), (1, .ref (h 0)), (2, .ref (gg 0)), (3, .ref o), (4, .int (nI i))]) rfl (fun ls hl => ?_)
      refine lv_aload_n hx hb d_LW_law_125 rfl (lv_at hl 3 rfl) ?_
      refine lv_aload_n hx hb d_LW_law_126 rfl (lv_at hl 1 rfl) ?_
      refine lv_iload hx hb d_LW_law_127 (lv_at hl 5 rfl) ?_
      refine lv_iconst (v := (nI 1)) hx hb d_LW_law_129 (by decide) ?_
      refine lv_iadd hx hb d_LW_law_130 ?_
      refine ztop (y := nI (i + 1)) (nI_add _ _) ?_
      refine zsld hx hb hXs hbl hS (by omega) hL d_LW_law_131 (x := nI x) (g) ?_
      refine zWr (rest := []) (zrV hS9 (c_MD_key_ok l D cI cC cJ gg ft n0 S n2 M n3 B n4 E rt hhm hn0 hn2 hn3 hn4 x hx1 hx2 (by omega)) zc_MD_key zw_530 zw_531 zw_532 ⟨rfl, rfl, by decide, by decide, Nat.le_of_succ_le hc, Nat.le_trans (Nat.le_add_right _ 6) hs⟩ (zMo.recv hE hM) hM hE rfl hl.1 rfl (Nat.le_of_ble_eq_true rfl) d_LW_law_132) hS (fun q _ h => hmA q h) hmA (fun H locs hM hz hk hS => ?_)
      have hC := hC.kept hhs (fun q h1 h2 => hk q h1 (fun z => hdis q h2 z))
      have hO := hO.kept (fun q h1 h2 => hk q h1 (fun z => hoM (h2 ▸ z)))
      refine lv_istore hx hb d_LW_law_135 hl (by decide) (lv' := [(6, .int (nI n0)), (5, .int (nI 0)), (0, .ref b), (1, .ref (h 0)), (2, .ref (gg 0)), (3, .ref o), (4, .int (nI i))]) rfl (fun ls hl => ?_)
      refine lv_aload_n hx hb d_LW_law_137 rfl (lv_at hl 4 rfl) ?_
      refine zRd (rest := []) (zrV hS9 (c_MD_thrown l D cI cC cJ gg (nI 0) (n0 + 1) ((zs_push (n0, S) x).2) n2 M n3 B n4 E rt hhm (by omega) (hn2) (hn3) (hn4)) zc_MD_thrown zw_526 zw_527 zw_528 ⟨rfl, rfl, by decide, by decide, Nat.le_of_succ_le hc, Nat.le_trans (Nat.le_add_right _ 6) hs⟩ (zMo.recv hE hM) hM hE rfl hl.1 rfl (Nat.le_of_ble_eq_true rfl) d_LW_law_138) ?_
      refine lv_iload hx hb d_LW_law_141 (lv_at hl 1 rfl) ?_
      refine lv_icmp_eq hx hb d_LW_law_143 (tgt := 148) (by decide) (fun _ => ?_) (fun z9 => absurd (rfl) z9)
      refine lv_iload hx hb d_LW_law_148 (lv_at hl 1 rfl) ?_
      refine lv_if_ne hx hb d_LW_law_150 (tgt := 165) (by decide) (fun z9 => absurd (by decide) z9) (fun _ => ?_)
      refine lv_aload_n hx hb d_LW_law_153 rfl (lv_at hl 5 rfl) ?_
      refine lv_iconst (v := (nI 0)) hx hb d_LW_law_154 (by decide) ?_
      refine zlald hx hb hE hO d_LW_law_155 ?_
      refine lv_iload hx hb d_LW_law_156 (lv_at hl 0 rfl) ?_
      refine lv_i2l hx hb d_LW_law_158 rfl ?_
      refine W.lcmp hx hb d_LW_law_159 ?_
      refine lv_if_eq hx hb d_LW_law_160 (tgt := 165) (by decide) (fun _ => ?_) (fun z9 => absurd (zb_cmp _) z9)
      refine lv_goto hx hb d_LW_law_165 (tgt := 675) (by decide) ?_
      refine W.widen (k := cells + 1) (n := slots + 6) (by omega) (by omega) ?_
      have hl : lv_has ls 7 [(0, .ref b), (1, .ref (h 0)), (2, .ref (gg 0)), (3, .ref o), (4, .int (nI i))] := lv_sub hl [2, 3, 4, 5, 6] rfl
      exact kk _ _ ls ⟨_, _, _, _, _, _, _, _, _, _, _, ⟨by omega, hn2, hn3, hn4⟩, hC, hM, hO, hS⟩ hl

set_option maxHeartbeats 4000000 in
set_option maxRecDepth 100000 in
theorem zst_seal {p : Program} {l : Launch} {e : Env} {s : State} {m : MethodId} {below : List Frame} {meth : Method} {c : Code} {H : Heap} {locs : List Loc} {cells slots : Nat} {Q : State → Prop} {b L : Nat} {xs : Nat → Int32} {D : va_G} {cI cC cJ : ClassId} {ka va : Nat} {h gg : Nat → Nat} {o i : Nat}
    (C : zLaw p l s m c b L xs D cI cC cJ ka va) (Sp : zSep s h gg o) (hi : i + 4 ≤ L) (hc : cells + 1 ≤ 601024) (hs : slots + 6 ≤ 7293034) (hI : zIv D cI cC cJ h gg o s H locs)
    (kk : ∀ (H1 : Heap) (locs1 : List Loc) (ls : Array Slot), zIv D cI cC cJ h gg o s H1 locs1 → lv_has ls 7 (zLs b o i h gg) → W p l e room_1 s m #[Value.ref b] below meth c H1 locs1 (cells + 1) (slots + 6) Q (F0 m 675 ls []))
    (ls : Array Slot) (hl : lv_has ls 7 (zLs b o i h gg)) : W p l e room_1 s m #[Value.ref b] below meth c H locs cells slots Q (F0 m 231 ls []) := by
  obtain ⟨hS9, hL, hXs, hbl, hE, hX1, hX3, hl9⟩ := C
  have hS8 := hS9
  obtain ⟨hx, hb, hml, hown, hg⟩ := hS8
  obtain ⟨hhs, hhm, hsA, hmA, hoA, hdis, hoS, hoM⟩ := Sp
  obtain ⟨ft, n0, S, n2, M, n3, B, n4, E, rt, v, ⟨hn0, hn2, hn3, hn4⟩, hC, hM, hO, hS⟩ := hI
  have hAO : ∀ q, zAO h o q → zA0 s q := fun q hq => hq.elim (hsA q) (fun z => z ▸ hoA)
  have hl : lv_has ls 7 [(0, .ref b), (1, .ref (h 0)), (2, .ref (gg 0)), (3, .ref o), (4, .int (nI i))] := hl
  rcases zb_rc n0 (zs_un (xs (i + 1))) with g | g
  · refine lv_aload_n hx hb d_LW_law_231 rfl (lv_at hl 1 rfl) ?_
    refine lv_aload_n hx hb d_LW_law_232 rfl (lv_at hl 0 rfl) ?_
    refine lv_iload hx hb d_LW_law_233 (lv_at hl 4 rfl) ?_
    refine lv_iconst (v := (nI 1)) hx hb d_LW_law_235 (by decide) ?_
    refine lv_iadd hx hb d_LW_law_236 ?_
    refine ztop (y := nI (i + 1)) (nI_add _ _) ?_
    refine zsld hx hb hXs hbl hS (by omega) hL d_LW_law_237 (x := xs (i + 1)) (rfl) ?_
    refine lv_aload_n hx hb d_LW_law_238 rfl (lv_at hl 0 rfl) ?_
    refine lv_iload hx hb d_LW_law_239 (lv_at hl 4 rfl) ?_
    refine lv_iconst (v := (nI 2)) hx hb d_LW_law_241 (by decide) ?_
    refine lv_iadd hx hb d_LW_law_242 ?_
    refine ztop (y := nI (i + 2)) (nI_add _ _) ?_
    refine zsld hx hb hXs hbl hS (by omega) hL d_LW_law_243 (x := xs (i + 2)) (rfl) ?_
    refine lv_aload_n hx hb d_LW_law_244 rfl (lv_at hl 0 rfl) ?_
    refine lv_iload hx hb d_LW_law_245 (lv_at hl 4 rfl) ?_
    refine lv_iconst (v := (nI 3)) hx hb d_LW_law_247 (by decide) ?_
    refine lv_iadd hx hb d_LW_law_248 ?_
    refine ztop (y := nI (i + 3)) (nI_add _ _) ?_
    refine zsld hx hb hXs hbl hS (by omega) hL d_LW_law_249 (x := xs (i + 3)) (rfl) ?_
    refine lv_aload_n hx hb d_LW_law_250 rfl (lv_at hl 3 rfl) ?_
    refine zWr (rest := []) (zrSW (n := 5) hS9 (c_LW_seal_e l hl9 D cI cC cJ h n0 S n2 M n3 B n4 E rt hhs hn0 hn2 hn3 hn4 o v hoS (xs (i + 1)) (xs (i + 2)) (xs (i + 3)) g) zk_LW_seal zw_0 ⟨by decide, by decide, by decide +kernel⟩ zw_319 zw_320 ⟨rfl, rfl, by decide, by decide, hc, hs⟩ ⟨hC, hO⟩ hE zX3.bl (fun U hU hW => hX3.use hS hU hW hAO) rfl hl.1 rfl (Nat.le_of_ble_eq_true rfl) d_LW_law_251) hS (fun q _ h => hAO q h) hAO (fun H locs hB1 hz hk hS => ?_)
    obtain ⟨hC, hO⟩ := hB1
    have hM := hM.kept hhm (fun q h1 h2 => hk q h1 (fun z => z.elim (fun z => hdis q z h2) (fun z => hoM (z ▸ h2))))
    refine lv_istore hx hb d_LW_law_254 hl (by decide) (lv' := [(5, .int (nI 1)), (0, .ref b), (1, .ref (h 0)), (2, .ref (gg 0)), (3, .ref o), (4, .int (nI i))]) rfl (fun ls hl => ?_)
    refine lv_aload_n hx hb d_LW_law_256 rfl (lv_at hl 3 rfl) ?_
    refine lv_aload_n hx hb d_LW_law_257 rfl (lv_at hl 1 rfl) ?_
    refine lv_iload hx hb d_LW_law_258 (lv_at hl 5 rfl) ?_
    refine lv_iconst (v := (nI 1)) hx hb d_LW_law_260 (by decide) ?_
    refine lv_iadd hx hb d_LW_law_261 ?_
    refine ztop (y := nI (i + 1)) (nI_add _ _) ?_
    refine zsld hx hb hXs hbl hS (by omega) hL d_LW_law_262 (x := xs (i + 1)) (rfl) ?_
    refine lv_aload_n hx hb d_LW_law_263 rfl (lv_at hl 1 rfl) ?_
    refine lv_iload hx hb d_LW_law_264 (lv_at hl 5 rfl) ?_
    refine lv_iconst (v := (nI 2)) hx hb d_LW_law_266 (by decide) ?_
    refine lv_iadd hx hb d_LW_law_267 ?_
    refine ztop (y := nI (i + 2)) (nI_add _ _) ?_
    refine zsld hx hb hXs hbl hS (by omega) hL d_LW_law_268 (x := xs (i + 2)) (rfl) ?_
    refine lv_aload_n hx hb d_LW_law_269 rfl (lv_at hl 1 rfl) ?_
    refine lv_iload hx hb d_LW_law_270 (lv_at hl 5 rfl) ?_
    refine lv_iconst (v := (nI 3)) hx hb d_LW_law_272 (by decide) ?_
    refine lv_iadd hx hb d_LW_law_273 ?_
    refine ztop (y := nI (i + 3)) (nI_add _ _) ?_
    refine zsld hx hb hXs hbl hS (by omega) hL d_LW_law_274 (x := xs (i + 3)) (rfl) ?_
    refine zWr (rest := []) (zrV hS9 (c_MD_seal_e l D cI cC cJ gg ft n0 S n2 M n3 B n4 E rt hhm hn0 hn2 hn3 hn4 (xs (i + 1)) (xs (i + 2)) (xs (i + 3)) g) zc_MD_seal zw_561 zw_562 zw_563 ⟨rfl, rfl, by decide, by decide, hc, hs⟩ (zMo.recv hE hM) hM hE rfl hl.1 rfl (Nat.le_of_ble_eq_true rfl) d_LW_law_275) hS (fun q _ h => hmA q h) hmA (fun H locs hM hz hk hS => ?_)
    have hC := hC.kept hhs (fun q h1 h2 => hk q h1 (fun z => hdis q h2 z))
    have hO := hO.kept (fun q h1 h2 => hk q h1 (fun z => hoM (h2 ▸ z)))
    refine lv_istore hx hb d_LW_law_278 hl (by decide) (lv' := [(6, .int (nI 0)), (5, .int (nI 1)), (0, .ref b), (1, .ref (h 0)), (2, .ref (gg 0)), (3, .ref o), (4, .int (nI i))]) rfl (fun ls hl => ?_)
    refine lv_aload_n hx hb d_LW_law_280 rfl (lv_at hl 4 rfl) ?_
    refine zRd (rest := []) (zrV hS9 (c_MD_thrown l D cI cC cJ gg (nI 1) n0 S n2 M n3 B n4 E rt hhm (hn0) (hn2) (hn3) (hn4)) zc_MD_thrown zw_526 zw_527 zw_528 ⟨rfl, rfl, by decide, by decide, hc, hs⟩ (zMo.recv hE hM) hM hE rfl hl.1 rfl (Nat.le_of_ble_eq_true rfl) d_LW_law_281) ?_
    refine lv_iload hx hb d_LW_law_284 (lv_at hl 1 rfl) ?_
    refine lv_icmp_eq hx hb d_LW_law_286 (tgt := 291) (by decide) (fun _ => ?_) (fun z9 => absurd (rfl) z9)
    refine lv_iload hx hb d_LW_law_291 (lv_at hl 1 rfl) ?_
    refine lv_if_ne hx hb d_LW_law_293 (tgt := 308) (by decide) (fun _ => ?_) (fun z9 => absurd z9 (by decide))
    refine lv_goto hx hb d_LW_law_308 (tgt := 675) (by decide) ?_
    refine W.widen (k := cells + 1) (n := slots + 6) (by omega) (by omega) ?_
    have hl : lv_has ls 7 [(0, .ref b), (1, .ref (h 0)), (2, .ref (gg 0)), (3, .ref o), (4, .int (nI i))] := lv_sub hl [2, 3, 4, 5, 6] rfl
    exact kk _ _ ls ⟨_, _, _, _, _, _, _, _, _, _, _, ⟨hn0, hn2, hn3, hn4⟩, hC, hM, hO, hS⟩ hl
  · refine lv_aload_n hx hb d_LW_law_231 rfl (lv_at hl 1 rfl) ?_
    refine lv_aload_n hx hb d_LW_law_232 rfl (lv_at hl 0 rfl) ?_
    refine lv_iload hx hb d_LW_law_233 (lv_at hl 4 rfl) ?_
    refine lv_iconst (v := (nI 1)) hx hb d_LW_law_235 (by decide) ?_
    refine lv_iadd hx hb d_LW_law_236 ?_
    refine ztop (y := nI (i + 1)) (nI_add _ _) ?_
    refine zsld hx hb hXs hbl hS (by omega) hL d_LW_law_237 (x := xs (i + 1)) (rfl) ?_
    refine lv_aload_n hx hb d_LW_law_238 rfl (lv_at hl 0 rfl) ?_
    refine lv_iload hx hb d_LW_law_239 (lv_at hl 4 rfl) ?_
    refine lv_iconst (v := (nI 2)) hx hb d_LW_law_241 (by decide) ?_
    refine lv_iadd hx hb d_LW_law_242 ?_
    refine ztop (y := nI (i + 2)) (nI_add _ _) ?_
    refine zsld hx hb hXs hbl hS (by omega) hL d_LW_law_243 (x := xs (i + 2)) (rfl) ?_
    refine lv_aload_n hx hb d_LW_law_244 rfl (lv_at hl 0 rfl) ?_
    refine lv_iload hx hb d_LW_law_245 (lv_at hl 4 rfl) ?_
    refine lv_iconst (v := (nI 3)) hx hb d_LW_law_247 (by decide) ?_
    refine lv_iadd hx hb d_LW_law_248 ?_
    refine ztop (y := nI (i + 3)) (nI_add _ _) ?_
    refine zsld hx hb hXs hbl hS (by omega) hL d_LW_law_249 (x := xs (i + 3)) (rfl) ?_
    refine lv_aload_n hx hb d_LW_law_250 rfl (lv_at hl 3 rfl) ?_
    refine zWr (rest := []) (zrSW (n := 5) hS9 (c_LW_seal_ok l D cI cC cJ h n0 S n2 M n3 B n4 E rt hhs hn0 hn2 hn3 hn4 o v hoS (xs (i + 1)) (xs (i + 2)) (xs (i + 3)) g) zk_LW_seal zw_0 ⟨by decide, by decide, by decide +kernel⟩ zw_319 zw_320 ⟨rfl, rfl, by decide, by decide, Nat.le_of_succ_le hc, Nat.le_trans (Nat.le_add_right _ 6) hs⟩ ⟨hC, hO⟩ hE zX3.bl (fun U hU hW => hX3.use hS hU hW hAO) rfl hl.1 rfl (Nat.le_of_ble_eq_true rfl) d_LW_law_251) hS (fun q _ h => hAO q h) hAO (fun H locs hB1 hz hk hS => ?_)
    obtain ⟨hC, hO⟩ := hB1
    have hM := hM.kept hhm (fun q h1 h2 => hk q h1 (fun z => z.elim (fun z => hdis q z h2) (fun z => hoM (z ▸ h2))))
    refine lv_istore hx hb d_LW_law_254 hl (by decide) (lv' := [(5, .int (nI 0)), (0, .ref b), (1, .ref (h 0)), (2, .ref (gg 0)), (3, .ref o), (4, .int (nI i))]) rfl (fun ls hl => ?_)
    refine lv_aload_n hx hb d_LW_law_256 rfl (lv_at hl 3 rfl) ?_
    refine lv_aload_n hx hb d_LW_law_257 rfl (lv_at hl 1 rfl) ?_
    refine lv_iload hx hb d_LW_law_258 (lv_at hl 5 rfl) ?_
    refine lv_iconst (v := (nI 1)) hx hb d_LW_law_260 (by decide) ?_
    refine lv_iadd hx hb d_LW_law_261 ?_
    refine ztop (y := nI (i + 1)) (nI_add _ _) ?_
    refine zsld hx hb hXs hbl hS (by omega) hL d_LW_law_262 (x := xs (i + 1)) (rfl) ?_
    refine lv_aload_n hx hb d_LW_law_263 rfl (lv_at hl 1 rfl) ?_
    refine lv_iload hx hb d_LW_law_264 (lv_at hl 5 rfl) ?_
    refine lv_iconst (v := (nI 2)) hx hb d_LW_law_266 (by decide) ?_
    refine lv_iadd hx hb d_LW_law_267 ?_
    refine ztop (y := nI (i + 2)) (nI_add _ _) ?_
    refine zsld hx hb hXs hbl hS (by omega) hL d_LW_law_268 (x := xs (i + 2)) (rfl) ?_
    refine lv_aload_n hx hb d_LW_law_269 rfl (lv_at hl 1 rfl) ?_
    refine lv_iload hx hb d_LW_law_270 (lv_at hl 5 rfl) ?_
    refine lv_iconst (v := (nI 3)) hx hb d_LW_law_272 (by decide) ?_
    refine lv_iadd hx hb d_LW_law_273 ?_
    refine ztop (y := nI (i + 3)) (nI_add _ _) ?_
    refine zsld hx hb hXs hbl hS (by omega) hL d_LW_law_274 (x := xs (i + 3)) (rfl) ?_
    refine zWr (rest := []) (zrV hS9 (c_MD_seal_ok l D cI cC cJ gg ft n0 S n2 M n3 B n4 E rt hhm hn0 hn2 hn3 hn4 (xs (i + 1)) (xs (i + 2)) (xs (i + 3)) g) zc_MD_seal zw_561 zw_562 zw_563 ⟨rfl, rfl, by decide, by decide, Nat.le_of_succ_le hc, Nat.le_trans (Nat.le_add_right _ 6) hs⟩ (zMo.recv hE hM) hM hE rfl hl.1 rfl (Nat.le_of_ble_eq_true rfl) d_LW_law_275) hS (fun q _ h => hmA q h) hmA (fun H locs hM hz hk hS => ?_)
    have hC := hC.kept hhs (fun q h1 h2 => hk q h1 (fun z => hdis q h2 z))
    have hO := hO.kept (fun q h1 h2 => hk q h1 (fun z => hoM (h2 ▸ z)))
    refine lv_istore hx hb d_LW_law_278 hl (by decide) (lv' := [(6, .int (nI (zs_seal S n0 n2 M (xs (i + 1)) (xs (i + 2)) (xs (i + 3))).1)), (5, .int (nI 0)), (0, .ref b), (1, .ref (h 0)), (2, .ref (gg 0)), (3, .ref o), (4, .int (nI i))]) rfl (fun ls hl => ?_)
    refine lv_aload_n hx hb d_LW_law_280 rfl (lv_at hl 4 rfl) ?_
    refine zRd (rest := []) (zrV hS9 (c_MD_thrown l D cI cC cJ gg (nI 0) n0 S n2 M ((zs_seal S n0 n2 M (xs (i + 1)) (xs (i + 2)) (xs (i + 3))).1) ((zs_seal S n0 n2 M (xs (i + 1)) (xs (i + 2)) (xs (i + 3))).2) n4 E rt hhm (hn0) (hn2) (zb_seal hn0 hn2) (hn4)) zc_MD_thrown zw_526 zw_527 zw_528 ⟨rfl, rfl, by decide, by decide, Nat.le_of_succ_le hc, Nat.le_trans (Nat.le_add_right _ 6) hs⟩ (zMo.recv hE hM) hM hE rfl hl.1 rfl (Nat.le_of_ble_eq_true rfl) d_LW_law_281) ?_
    refine lv_iload hx hb d_LW_law_284 (lv_at hl 1 rfl) ?_
    refine lv_icmp_eq hx hb d_LW_law_286 (tgt := 291) (by decide) (fun _ => ?_) (fun z9 => absurd (rfl) z9)
    refine lv_iload hx hb d_LW_law_291 (lv_at hl 1 rfl) ?_
    refine lv_if_ne hx hb d_LW_law_293 (tgt := 308) (by decide) (fun z9 => absurd (by decide) z9) (fun _ => ?_)
    refine lv_aload_n hx hb d_LW_law_296 rfl (lv_at hl 5 rfl) ?_
    refine lv_iconst (v := (nI 0)) hx hb d_LW_law_297 (by decide) ?_
    refine zlald hx hb hE hO d_LW_law_298 ?_
    refine lv_iload hx hb d_LW_law_299 (lv_at hl 0 rfl) ?_
    refine lv_i2l hx hb d_LW_law_301 rfl ?_
    refine W.lcmp hx hb d_LW_law_302 ?_
    refine lv_if_eq hx hb d_LW_law_303 (tgt := 308) (by decide) (fun _ => ?_) (fun z9 => absurd (zb_cmp _) z9)
    refine lv_goto hx hb d_LW_law_308 (tgt := 675) (by decide) ?_
    refine W.widen (k := cells + 1) (n := slots + 6) (by omega) (by omega) ?_
    have hl : lv_has ls 7 [(0, .ref b), (1, .ref (h 0)), (2, .ref (gg 0)), (3, .ref o), (4, .int (nI i))] := lv_sub hl [2, 3, 4, 5, 6] rfl
    exact kk _ _ ls ⟨_, _, _, _, _, _, _, _, _, _, _, ⟨hn0, hn2, zb_seal hn0 hn2, hn4⟩, hC, hM, hO, hS⟩ hl

set_option maxHeartbeats 4000000 in
set_option maxRecDepth 100000 in
theorem zst_open {p : Program} {l : Launch} {e : Env} {s : State} {m : MethodId} {below : List Frame} {meth : Method} {c : Code} {H : Heap} {locs : List Loc} {cells slots : Nat} {Q : State → Prop} {b L : Nat} {xs : Nat → Int32} {D : va_G} {cI cC cJ : ClassId} {ka va : Nat} {h gg : Nat → Nat} {o i : Nat}
    (C : zLaw p l s m c b L xs D cI cC cJ ka va) (Sp : zSep s h gg o) (hi : i + 4 ≤ L) (hc : cells + 1 ≤ 601024) (hs : slots + 6 ≤ 7293034) (hI : zIv D cI cC cJ h gg o s H locs)
    (kk : ∀ (H1 : Heap) (locs1 : List Loc) (ls : Array Slot), zIv D cI cC cJ h gg o s H1 locs1 → lv_has ls 7 (zLs b o i h gg) → W p l e room_1 s m #[Value.ref b] below meth c H1 locs1 (cells + 1) (slots + 6) Q (F0 m 675 ls []))
    (ls : Array Slot) (hl : lv_has ls 7 (zLs b o i h gg)) : W p l e room_1 s m #[Value.ref b] below meth c H locs cells slots Q (F0 m 311 ls []) := by
  obtain ⟨hS9, hL, hXs, hbl, hE, hX1, hX3, hl9⟩ := C
  have hS8 := hS9
  obtain ⟨hx, hb, hml, hown, hg⟩ := hS8
  obtain ⟨hhs, hhm, hsA, hmA, hoA, hdis, hoS, hoM⟩ := Sp
  obtain ⟨ft, n0, S, n2, M, n3, B, n4, E, rt, v, ⟨hn0, hn2, hn3, hn4⟩, hC, hM, hO, hS⟩ := hI
  have hAO : ∀ q, zAO h o q → zA0 s q := fun q hq => hq.elim (hsA q) (fun z => z ▸ hoA)
  have hl : lv_has ls 7 [(0, .ref b), (1, .ref (h 0)), (2, .ref (gg 0)), (3, .ref o), (4, .int (nI i))] := hl
  rcases zb_ix n0 (xs (i + 1)) (by omega) with g | ⟨k, hk9, g⟩
  · refine lv_aload_n hx hb d_LW_law_311 rfl (lv_at hl 1 rfl) ?_
    refine lv_aload_n hx hb d_LW_law_312 rfl (lv_at hl 0 rfl) ?_
    refine lv_iload hx hb d_LW_law_313 (lv_at hl 4 rfl) ?_
    refine lv_iconst (v := (nI 1)) hx hb d_LW_law_315 (by decide) ?_
    refine lv_iadd hx hb d_LW_law_316 ?_
    refine ztop (y := nI (i + 1)) (nI_add _ _) ?_
    refine zsld hx hb hXs hbl hS (by omega) hL d_LW_law_317 (x := xs (i + 1)) (rfl) ?_
    refine lv_aload_n hx hb d_LW_law_318 rfl (lv_at hl 3 rfl) ?_
    refine zWr (rest := []) (zrSW (n := 3) hS9 (c_LW_open_e l hl9 D cI cC cJ h n0 S n2 M n3 B n4 E rt hhs hn0 hn2 hn3 hn4 o v hoS (xs (i + 1)) (zb_no g)) zk_LW_open zw_0 ⟨by decide, by decide, by decide +kernel⟩ zw_386 zw_387 ⟨rfl, rfl, by decide, by decide, hc, hs⟩ ⟨hC, hO⟩ hE zX3.bl (fun U hU hW => hX3.use hS hU hW hAO) rfl hl.1 rfl (Nat.le_of_ble_eq_true rfl) d_LW_law_319) hS (fun q _ h => hAO q h) hAO (fun H locs hB1 hz hk hS => ?_)
    obtain ⟨hC, hO⟩ := hB1
    have hM := hM.kept hhm (fun q h1 h2 => hk q h1 (fun z => z.elim (fun z => hdis q z h2) (fun z => hoM (z ▸ h2))))
    refine lv_istore hx hb d_LW_law_322 hl (by decide) (lv' := [(5, .int (nI 1)), (0, .ref b), (1, .ref (h 0)), (2, .ref (gg 0)), (3, .ref o), (4, .int (nI i))]) rfl (fun ls hl => ?_)
    refine lv_aload_n hx hb d_LW_law_324 rfl (lv_at hl 3 rfl) ?_
    refine lv_aload_n hx hb d_LW_law_325 rfl (lv_at hl 1 rfl) ?_
    refine lv_iload hx hb d_LW_law_326 (lv_at hl 5 rfl) ?_
    refine lv_iconst (v := (nI 1)) hx hb d_LW_law_328 (by decide) ?_
    refine lv_iadd hx hb d_LW_law_329 ?_
    refine ztop (y := nI (i + 1)) (nI_add _ _) ?_
    refine zsld hx hb hXs hbl hS (by omega) hL d_LW_law_330 (x := xs (i + 1)) (rfl) ?_
    refine zWr (rest := []) (zrV hS9 (c_MD_open_e l D cI cC cJ gg ft n0 S n2 M n3 B n4 E rt hhm hn0 hn2 hn3 hn4 (xs (i + 1)) (zb_no g)) zc_MD_open zw_591 zw_592 zw_593 ⟨rfl, rfl, by decide, by decide, hc, hs⟩ (zMo.recv hE hM) hM hE rfl hl.1 rfl (Nat.le_of_ble_eq_true rfl) d_LW_law_331) hS (fun q _ h => hmA q h) hmA (fun H locs hM hz hk hS => ?_)
    have hC := hC.kept hhs (fun q h1 h2 => hk q h1 (fun z => hdis q h2 z))
    have hO := hO.kept (fun q h1 h2 => hk q h1 (fun z => hoM (h2 ▸ z)))
    refine lv_istore hx hb d_LW_law_334 hl (by decide) (lv' := [(6, .int (nI 0)), (5, .int (nI 1)), (0, .ref b), (1, .ref (h 0)), (2, .ref (gg 0)), (3, .ref o), (4, .int (nI i))]) rfl (fun ls hl => ?_)
    refine lv_aload_n hx hb d_LW_law_336 rfl (lv_at hl 4 rfl) ?_
    refine zRd (rest := []) (zrV hS9 (c_MD_thrown l D cI cC cJ gg (nI 1) n0 S n2 M n3 B n4 E rt hhm (hn0) (hn2) (hn3) (hn4)) zc_MD_thrown zw_526 zw_527 zw_528 ⟨rfl, rfl, by decide, by decide, hc, hs⟩ (zMo.recv hE hM) hM hE rfl hl.1 rfl (Nat.le_of_ble_eq_true rfl) d_LW_law_337) ?_
    refine lv_iload hx hb d_LW_law_340 (lv_at hl 1 rfl) ?_
    refine lv_icmp_eq hx hb d_LW_law_342 (tgt := 347) (by decide) (fun _ => ?_) (fun z9 => absurd (rfl) z9)
    refine lv_iload hx hb d_LW_law_347 (lv_at hl 1 rfl) ?_
    refine lv_if_ne hx hb d_LW_law_349 (tgt := 364) (by decide) (fun _ => ?_) (fun z9 => absurd z9 (by decide))
    refine lv_goto hx hb d_LW_law_364 (tgt := 675) (by decide) ?_
    refine W.widen (k := cells + 1) (n := slots + 6) (by omega) (by omega) ?_
    have hl : lv_has ls 7 [(0, .ref b), (1, .ref (h 0)), (2, .ref (gg 0)), (3, .ref o), (4, .int (nI i))] := lv_sub hl [2, 3, 4, 5, 6] rfl
    exact kk _ _ ls ⟨_, _, _, _, _, _, _, _, _, _, _, ⟨hn0, hn2, hn3, hn4⟩, hC, hM, hO, hS⟩ hl
  · obtain ⟨R9, hRe⟩ : ∃ R9, zs_open n3 B (S k) (zs_pw 2 (S k)) (n2, M) = R9 := ⟨_, rfl⟩
    have hR9 : R9.2.2.1 ≤ 40 := hRe ▸ zb_open hn2
    refine lv_aload_n hx hb d_LW_law_311 rfl (lv_at hl 1 rfl) ?_
    refine lv_aload_n hx hb d_LW_law_312 rfl (lv_at hl 0 rfl) ?_
    refine lv_iload hx hb d_LW_law_313 (lv_at hl 4 rfl) ?_
    refine lv_iconst (v := (nI 1)) hx hb d_LW_law_315 (by decide) ?_
    refine lv_iadd hx hb d_LW_law_316 ?_
    refine ztop (y := nI (i + 1)) (nI_add _ _) ?_
    refine zsld hx hb hXs hbl hS (by omega) hL d_LW_law_317 (x := nI k) (g) ?_
    refine lv_aload_n hx hb d_LW_law_318 rfl (lv_at hl 3 rfl) ?_
    refine zWr (rest := []) (zrSW (n := 3) hS9 (c_LW_open_ok l D cI cC cJ h n0 S n2 M n3 B n4 E rt hhs hn0 hn2 hn3 hn4 o v hoS k hk9 R9 hRe) zk_LW_open zw_0 ⟨by decide, by decide, by decide +kernel⟩ zw_386 zw_387 ⟨rfl, rfl, by decide, by decide, Nat.le_of_succ_le hc, Nat.le_trans (Nat.le_add_right _ 6) hs⟩ ⟨hC, hO⟩ hE zX3.bl (fun U hU hW => hX3.use hS hU hW hAO) rfl hl.1 rfl (Nat.le_of_ble_eq_true rfl) d_LW_law_319) hS (fun q _ h => hAO q h) hAO (fun H locs hB1 hz hk hS => ?_)
    obtain ⟨hC, hO⟩ := hB1
    have hM := hM.kept hhm (fun q h1 h2 => hk q h1 (fun z => z.elim (fun z => hdis q z h2) (fun z => hoM (z ▸ h2))))
    refine lv_istore hx hb d_LW_law_322 hl (by decide) (lv' := [(5, .int (nI 0)), (0, .ref b), (1, .ref (h 0)), (2, .ref (gg 0)), (3, .ref o), (4, .int (nI i))]) rfl (fun ls hl => ?_)
    refine lv_aload_n hx hb d_LW_law_324 rfl (lv_at hl 3 rfl) ?_
    refine lv_aload_n hx hb d_LW_law_325 rfl (lv_at hl 1 rfl) ?_
    refine lv_iload hx hb d_LW_law_326 (lv_at hl 5 rfl) ?_
    refine lv_iconst (v := (nI 1)) hx hb d_LW_law_328 (by decide) ?_
    refine lv_iadd hx hb d_LW_law_329 ?_
    refine ztop (y := nI (i + 1)) (nI_add _ _) ?_
    refine zsld hx hb hXs hbl hS (by omega) hL d_LW_law_330 (x := nI k) (g) ?_
    refine zWr (rest := []) (zrV hS9 (c_MD_open_ok l D cI cC cJ gg ft n0 S n2 M n3 B n4 E rt hhm hn0 hn2 hn3 hn4 k hk9 R9 hRe) zc_MD_open zw_591 zw_592 zw_593 ⟨rfl, rfl, by decide, by decide, Nat.le_of_succ_le hc, Nat.le_trans (Nat.le_add_right _ 6) hs⟩ (zMo.recv hE hM) hM hE rfl hl.1 rfl (Nat.le_of_ble_eq_true rfl) d_LW_law_331) hS (fun q _ h => hmA q h) hmA (fun H locs hM hz hk hS => ?_)
    have hC := hC.kept hhs (fun q h1 h2 => hk q h1 (fun z => hdis q h2 z))
    have hO := hO.kept (fun q h1 h2 => hk q h1 (fun z => hoM (h2 ▸ z)))
    refine lv_istore hx hb d_LW_law_334 hl (by decide) (lv' := [(6, .int R9.1), (5, .int (nI 0)), (0, .ref b), (1, .ref (h 0)), (2, .ref (gg 0)), (3, .ref o), (4, .int (nI i))]) rfl (fun ls hl => ?_)
    refine lv_aload_n hx hb d_LW_law_336 rfl (lv_at hl 4 rfl) ?_
    refine zRd (rest := []) (zrV hS9 (c_MD_thrown l D cI cC cJ gg (nI 0) n0 S R9.2.2.1 R9.2.2.2 n3 B n4 E R9.2.1 hhm (hn0) (hR9) (hn3) (hn4)) zc_MD_thrown zw_526 zw_527 zw_528 ⟨rfl, rfl, by decide, by decide, Nat.le_of_succ_le hc, Nat.le_trans (Nat.le_add_right _ 6) hs⟩ (zMo.recv hE hM) hM hE rfl hl.1 rfl (Nat.le_of_ble_eq_true rfl) d_LW_law_337) ?_
    refine lv_iload hx hb d_LW_law_340 (lv_at hl 1 rfl) ?_
    refine lv_icmp_eq hx hb d_LW_law_342 (tgt := 347) (by decide) (fun _ => ?_) (fun z9 => absurd (rfl) z9)
    refine lv_iload hx hb d_LW_law_347 (lv_at hl 1 rfl) ?_
    refine lv_if_ne hx hb d_LW_law_349 (tgt := 364) (by decide) (fun z9 => absurd (by decide) z9) (fun _ => ?_)
    refine lv_aload_n hx hb d_LW_law_352 rfl (lv_at hl 5 rfl) ?_
    refine lv_iconst (v := (nI 0)) hx hb d_LW_law_353 (by decide) ?_
    refine zlald hx hb hE hO d_LW_law_354 ?_
    refine lv_iload hx hb d_LW_law_355 (lv_at hl 0 rfl) ?_
    refine lv_i2l hx hb d_LW_law_357 rfl ?_
    refine W.lcmp hx hb d_LW_law_358 ?_
    refine lv_if_eq hx hb d_LW_law_359 (tgt := 364) (by decide) (fun _ => ?_) (fun z9 => absurd (zb_cmp _) z9)
    refine lv_goto hx hb d_LW_law_364 (tgt := 675) (by decide) ?_
    refine W.widen (k := cells + 1) (n := slots + 6) (by omega) (by omega) ?_
    have hl : lv_has ls 7 [(0, .ref b), (1, .ref (h 0)), (2, .ref (gg 0)), (3, .ref o), (4, .int (nI i))] := lv_sub hl [2, 3, 4, 5, 6] rfl
    exact kk _ _ ls ⟨_, _, _, _, _, _, _, _, _, _, _, ⟨hn0, hR9, hn3, hn4⟩, hC, hM, hO, hS⟩ hl

set_option maxHeartbeats 4000000 in
set_option maxRecDepth 100000 in
theorem zst_read {p : Program} {l : Launch} {e : Env} {s : State} {m : MethodId} {below : List Frame} {meth : Method} {c : Code} {H : Heap} {locs : List Loc} {cells slots : Nat} {Q : State → Prop} {b L : Nat} {xs : Nat → Int32} {D : va_G} {cI cC cJ : ClassId} {ka va : Nat} {h gg : Nat → Nat} {o i : Nat}
    (C : zLaw p l s m c b L xs D cI cC cJ ka va) (Sp : zSep s h gg o) (hi : i + 4 ≤ L) (hc : cells + 1 ≤ 601024) (hs : slots + 6 ≤ 7293034) (hI : zIv D cI cC cJ h gg o s H locs)
    (kk : ∀ (H1 : Heap) (locs1 : List Loc) (ls : Array Slot), zIv D cI cC cJ h gg o s H1 locs1 → lv_has ls 7 (zLs b o i h gg) → W p l e room_1 s m #[Value.ref b] below meth c H1 locs1 (cells + 1) (slots + 6) Q (F0 m 675 ls []))
    (ls : Array Slot) (hl : lv_has ls 7 (zLs b o i h gg)) : W p l e room_1 s m #[Value.ref b] below meth c H locs cells slots Q (F0 m 380 ls []) := by
  obtain ⟨hS9, hL, hXs, hbl, hE, hX1, hX3, hl9⟩ := C
  have hS8 := hS9
  obtain ⟨hx, hb, hml, hown, hg⟩ := hS8
  obtain ⟨hhs, hhm, hsA, hmA, hoA, hdis, hoS, hoM⟩ := Sp
  obtain ⟨ft, n0, S, n2, M, n3, B, n4, E, rt, v, ⟨hn0, hn2, hn3, hn4⟩, hC, hM, hO, hS⟩ := hI
  have hAO : ∀ q, zAO h o q → zA0 s q := fun q hq => hq.elim (hsA q) (fun z => z ▸ hoA)
  have hl : lv_has ls 7 [(0, .ref b), (1, .ref (h 0)), (2, .ref (gg 0)), (3, .ref o), (4, .int (nI i))] := hl
  rcases zb_ix n2 (xs (i + 1)) (by omega) with g | ⟨j, hj, g⟩
  · refine lv_aload_n hx hb d_LW_law_380 rfl (lv_at hl 1 rfl) ?_
    refine lv_aload_n hx hb d_LW_law_381 rfl (lv_at hl 0 rfl) ?_
    refine lv_iload hx hb d_LW_law_382 (lv_at hl 4 rfl) ?_
    refine lv_iconst (v := (nI 1)) hx hb d_LW_law_384 (by decide) ?_
    refine lv_iadd hx hb d_LW_law_385 ?_
    refine ztop (y := nI (i + 1)) (nI_add _ _) ?_
    refine zsld hx hb hXs hbl hS (by omega) hL d_LW_law_386 (x := xs (i + 1)) (rfl) ?_
    refine lv_aload_n hx hb d_LW_law_387 rfl (lv_at hl 3 rfl) ?_
    refine zWr (rest := []) (zrSW (n := 3) hS9 (c_LW_read_e l hl9 D cI cC cJ h n0 S n2 M n3 B n4 E rt hhs hn0 hn2 hn3 hn4 o v hoS (xs (i + 1)) (zb_no g)) zk_LW_read zw_0 ⟨by decide, by decide, by decide +kernel⟩ zw_426 zw_427 ⟨rfl, rfl, by decide, by decide, hc, hs⟩ ⟨hC, hO⟩ hE zX3.bl (fun U hU hW => hX3.use hS hU hW hAO) rfl hl.1 rfl (Nat.le_of_ble_eq_true rfl) d_LW_law_388) hS (fun q _ h => hAO q h) hAO (fun H locs hB1 hz hk hS => ?_)
    obtain ⟨hC, hO⟩ := hB1
    have hM := hM.kept hhm (fun q h1 h2 => hk q h1 (fun z => z.elim (fun z => hdis q z h2) (fun z => hoM (z ▸ h2))))
    refine lv_istore hx hb d_LW_law_391 hl (by decide) (lv' := [(5, .int (nI 1)), (0, .ref b), (1, .ref (h 0)), (2, .ref (gg 0)), (3, .ref o), (4, .int (nI i))]) rfl (fun ls hl => ?_)
    refine lv_aload_n hx hb d_LW_law_393 rfl (lv_at hl 3 rfl) ?_
    refine lv_aload_n hx hb d_LW_law_394 rfl (lv_at hl 1 rfl) ?_
    refine lv_iload hx hb d_LW_law_395 (lv_at hl 5 rfl) ?_
    refine lv_iconst (v := (nI 1)) hx hb d_LW_law_397 (by decide) ?_
    refine lv_iadd hx hb d_LW_law_398 ?_
    refine ztop (y := nI (i + 1)) (nI_add _ _) ?_
    refine zsld hx hb hXs hbl hS (by omega) hL d_LW_law_399 (x := xs (i + 1)) (rfl) ?_
    refine zWr (rest := []) (zrV hS9 (c_MD_read_e l D cI cC cJ gg ft n0 S n2 M n3 B n4 E rt hhm hn0 hn2 hn3 hn4 (xs (i + 1)) g) zc_MD_read zw_557 zw_558 zw_559 ⟨rfl, rfl, by decide, by decide, hc, hs⟩ (zMo.recv hE hM) hM hE rfl hl.1 rfl (Nat.le_of_ble_eq_true rfl) d_LW_law_400) hS (fun q _ h => hmA q h) hmA (fun H locs hM hz hk hS => ?_)
    have hC := hC.kept hhs (fun q h1 h2 => hk q h1 (fun z => hdis q h2 z))
    have hO := hO.kept (fun q h1 h2 => hk q h1 (fun z => hoM (h2 ▸ z)))
    refine lv_istore hx hb d_LW_law_403 hl (by decide) (lv' := [(6, .int (nI 0)), (5, .int (nI 1)), (0, .ref b), (1, .ref (h 0)), (2, .ref (gg 0)), (3, .ref o), (4, .int (nI i))]) rfl (fun ls hl => ?_)
    refine lv_aload_n hx hb d_LW_law_405 rfl (lv_at hl 4 rfl) ?_
    refine zRd (rest := []) (zrV hS9 (c_MD_thrown l D cI cC cJ gg (nI 1) n0 S n2 M n3 B n4 E rt hhm (hn0) (hn2) (hn3) (hn4)) zc_MD_thrown zw_526 zw_527 zw_528 ⟨rfl, rfl, by decide, by decide, hc, hs⟩ (zMo.recv hE hM) hM hE rfl hl.1 rfl (Nat.le_of_ble_eq_true rfl) d_LW_law_406) ?_
    refine lv_iload hx hb d_LW_law_409 (lv_at hl 1 rfl) ?_
    refine lv_icmp_eq hx hb d_LW_law_411 (tgt := 416) (by decide) (fun _ => ?_) (fun z9 => absurd (rfl) z9)
    refine lv_iload hx hb d_LW_law_416 (lv_at hl 1 rfl) ?_
    refine lv_if_ne hx hb d_LW_law_418 (tgt := 433) (by decide) (fun _ => ?_) (fun z9 => absurd z9 (by decide))
    refine lv_goto hx hb d_LW_law_433 (tgt := 675) (by decide) ?_
    refine W.widen (k := cells + 1) (n := slots + 6) (by omega) (by omega) ?_
    have hl : lv_has ls 7 [(0, .ref b), (1, .ref (h 0)), (2, .ref (gg 0)), (3, .ref o), (4, .int (nI i))] := lv_sub hl [2, 3, 4, 5, 6] rfl
    exact kk _ _ ls ⟨_, _, _, _, _, _, _, _, _, _, _, ⟨hn0, hn2, hn3, hn4⟩, hC, hM, hO, hS⟩ hl
  · refine lv_aload_n hx hb d_LW_law_380 rfl (lv_at hl 1 rfl) ?_
    refine lv_aload_n hx hb d_LW_law_381 rfl (lv_at hl 0 rfl) ?_
    refine lv_iload hx hb d_LW_law_382 (lv_at hl 4 rfl) ?_
    refine lv_iconst (v := (nI 1)) hx hb d_LW_law_384 (by decide) ?_
    refine lv_iadd hx hb d_LW_law_385 ?_
    refine ztop (y := nI (i + 1)) (nI_add _ _) ?_
    refine zsld hx hb hXs hbl hS (by omega) hL d_LW_law_386 (x := nI j) (g) ?_
    refine lv_aload_n hx hb d_LW_law_387 rfl (lv_at hl 3 rfl) ?_
    refine zWr (rest := []) (zrSW (n := 3) hS9 (c_LW_read_ok l D cI cC cJ h n0 S n2 M n3 B n4 E rt hhs hn0 hn2 hn3 hn4 o v hoS j hj) zk_LW_read zw_0 ⟨by decide, by decide, by decide +kernel⟩ zw_426 zw_427 ⟨rfl, rfl, by decide, by decide, Nat.le_of_succ_le hc, Nat.le_trans (Nat.le_add_right _ 6) hs⟩ ⟨hC, hO⟩ hE zX3.bl (fun U hU hW => hX3.use hS hU hW hAO) rfl hl.1 rfl (Nat.le_of_ble_eq_true rfl) d_LW_law_388) hS (fun q _ h => hAO q h) hAO (fun H locs hB1 hz hk hS => ?_)
    obtain ⟨hC, hO⟩ := hB1
    have hM := hM.kept hhm (fun q h1 h2 => hk q h1 (fun z => z.elim (fun z => hdis q z h2) (fun z => hoM (z ▸ h2))))
    refine lv_istore hx hb d_LW_law_391 hl (by decide) (lv' := [(5, .int (nI 0)), (0, .ref b), (1, .ref (h 0)), (2, .ref (gg 0)), (3, .ref o), (4, .int (nI i))]) rfl (fun ls hl => ?_)
    refine lv_aload_n hx hb d_LW_law_393 rfl (lv_at hl 3 rfl) ?_
    refine lv_aload_n hx hb d_LW_law_394 rfl (lv_at hl 1 rfl) ?_
    refine lv_iload hx hb d_LW_law_395 (lv_at hl 5 rfl) ?_
    refine lv_iconst (v := (nI 1)) hx hb d_LW_law_397 (by decide) ?_
    refine lv_iadd hx hb d_LW_law_398 ?_
    refine ztop (y := nI (i + 1)) (nI_add _ _) ?_
    refine zsld hx hb hXs hbl hS (by omega) hL d_LW_law_399 (x := nI j) (g) ?_
    refine zWr (rest := []) (zrV hS9 (c_MD_read_ok l D cI cC cJ gg ft n0 S n2 M n3 B n4 E rt hhm hn0 hn2 hn3 hn4 j hj) zc_MD_read zw_557 zw_558 zw_559 ⟨rfl, rfl, by decide, by decide, Nat.le_of_succ_le hc, Nat.le_trans (Nat.le_add_right _ 6) hs⟩ (zMo.recv hE hM) hM hE rfl hl.1 rfl (Nat.le_of_ble_eq_true rfl) d_LW_law_400) hS (fun q _ h => hmA q h) hmA (fun H locs hM hz hk hS => ?_)
    have hC := hC.kept hhs (fun q h1 h2 => hk q h1 (fun z => hdis q h2 z))
    have hO := hO.kept (fun q h1 h2 => hk q h1 (fun z => hoM (h2 ▸ z)))
    refine lv_istore hx hb d_LW_law_403 hl (by decide) (lv' := [(6, .int (nI (M j))), (5, .int (nI 0)), (0, .ref b), (1, .ref (h 0)), (2, .ref (gg 0)), (3, .ref o), (4, .int (nI i))]) rfl (fun ls hl => ?_)
    refine lv_aload_n hx hb d_LW_law_405 rfl (lv_at hl 4 rfl) ?_
    refine zRd (rest := []) (zrV hS9 (c_MD_thrown l D cI cC cJ gg (nI 0) n0 S n2 M n3 B n4 E rt hhm (hn0) (hn2) (hn3) (hn4)) zc_MD_thrown zw_526 zw_527 zw_528 ⟨rfl, rfl, by decide, by decide, Nat.le_of_succ_le hc, Nat.le_trans (Nat.le_add_right _ 6) hs⟩ (zMo.recv hE hM) hM hE rfl hl.1 rfl (Nat.le_of_ble_eq_true rfl) d_LW_law_406) ?_
    refine lv_iload hx hb d_LW_law_409 (lv_at hl 1 rfl) ?_
    refine lv_icmp_eq hx hb d_LW_law_411 (tgt := 416) (by decide) (fun _ => ?_) (fun z9 => absurd (rfl) z9)
    refine lv_iload hx hb d_LW_law_416 (lv_at hl 1 rfl) ?_
    refine lv_if_ne hx hb d_LW_law_418 (tgt := 433) (by decide) (fun z9 => absurd (by decide) z9) (fun _ => ?_)
    refine lv_aload_n hx hb d_LW_law_421 rfl (lv_at hl 5 rfl) ?_
    refine lv_iconst (v := (nI 0)) hx hb d_LW_law_422 (by decide) ?_
    refine zlald hx hb hE hO d_LW_law_423 ?_
    refine lv_iload hx hb d_LW_law_424 (lv_at hl 0 rfl) ?_
    refine lv_i2l hx hb d_LW_law_426 rfl ?_
    refine W.lcmp hx hb d_LW_law_427 ?_
    refine lv_if_eq hx hb d_LW_law_428 (tgt := 433) (by decide) (fun _ => ?_) (fun z9 => absurd (zb_cmp _) z9)
    refine lv_goto hx hb d_LW_law_433 (tgt := 675) (by decide) ?_
    refine W.widen (k := cells + 1) (n := slots + 6) (by omega) (by omega) ?_
    have hl : lv_has ls 7 [(0, .ref b), (1, .ref (h 0)), (2, .ref (gg 0)), (3, .ref o), (4, .int (nI i))] := lv_sub hl [2, 3, 4, 5, 6] rfl
    exact kk _ _ ls ⟨_, _, _, _, _, _, _, _, _, _, _, ⟨hn0, hn2, hn3, hn4⟩, hC, hM, hO, hS⟩ hl

set_option maxHeartbeats 4000000 in
set_option maxRecDepth 100000 in
theorem zst_alter {p : Program} {l : Launch} {e : Env} {s : State} {m : MethodId} {below : List Frame} {meth : Method} {c : Code} {H : Heap} {locs : List Loc} {cells slots : Nat} {Q : State → Prop} {b L : Nat} {xs : Nat → Int32} {D : va_G} {cI cC cJ : ClassId} {ka va : Nat} {h gg : Nat → Nat} {o i : Nat}
    (C : zLaw p l s m c b L xs D cI cC cJ ka va) (Sp : zSep s h gg o) (hi : i + 4 ≤ L) (hc : cells + 1 ≤ 601024) (hs : slots + 6 ≤ 7293034) (hI : zIv D cI cC cJ h gg o s H locs)
    (kk : ∀ (H1 : Heap) (locs1 : List Loc) (ls : Array Slot), zIv D cI cC cJ h gg o s H1 locs1 → lv_has ls 7 (zLs b o i h gg) → W p l e room_1 s m #[Value.ref b] below meth c H1 locs1 (cells + 1) (slots + 6) Q (F0 m 675 ls []))
    (ls : Array Slot) (hl : lv_has ls 7 (zLs b o i h gg)) : W p l e room_1 s m #[Value.ref b] below meth c H locs cells slots Q (F0 m 486 ls []) := by
  obtain ⟨hS9, hL, hXs, hbl, hE, hX1, hX3, hl9⟩ := C
  have hS8 := hS9
  obtain ⟨hx, hb, hml, hown, hg⟩ := hS8
  obtain ⟨hhs, hhm, hsA, hmA, hoA, hdis, hoS, hoM⟩ := Sp
  obtain ⟨ft, n0, S, n2, M, n3, B, n4, E, rt, v, ⟨hn0, hn2, hn3, hn4⟩, hC, hM, hO, hS⟩ := hI
  have hAO : ∀ q, zAO h o q → zA0 s q := fun q hq => hq.elim (hsA q) (fun z => z ▸ hoA)
  have hl : lv_has ls 7 [(0, .ref b), (1, .ref (h 0)), (2, .ref (gg 0)), (3, .ref o), (4, .int (nI i))] := hl
  rcases zb_ix n3 (xs (i + 1)) (by omega) with g | ⟨j, hj, g⟩
  · refine lv_aload_n hx hb d_LW_law_486 rfl (lv_at hl 1 rfl) ?_
    refine lv_aload_n hx hb d_LW_law_487 rfl (lv_at hl 0 rfl) ?_
    refine lv_iload hx hb d_LW_law_488 (lv_at hl 4 rfl) ?_
    refine lv_iconst (v := (nI 1)) hx hb d_LW_law_490 (by decide) ?_
    refine lv_iadd hx hb d_LW_law_491 ?_
    refine ztop (y := nI (i + 1)) (nI_add _ _) ?_
    refine zsld hx hb hXs hbl hS (by omega) hL d_LW_law_492 (x := xs (i + 1)) (rfl) ?_
    refine lv_aload_n hx hb d_LW_law_493 rfl (lv_at hl 0 rfl) ?_
    refine lv_iload hx hb d_LW_law_494 (lv_at hl 4 rfl) ?_
    refine lv_iconst (v := (nI 2)) hx hb d_LW_law_496 (by decide) ?_
    refine lv_iadd hx hb d_LW_law_497 ?_
    refine ztop (y := nI (i + 2)) (nI_add _ _) ?_
    refine zsld hx hb hXs hbl hS (by omega) hL d_LW_law_498 (x := xs (i + 2)) (rfl) ?_
    refine lv_aload_n hx hb d_LW_law_499 rfl (lv_at hl 3 rfl) ?_
    refine zWr (rest := []) (zrSW (n := 4) hS9 (c_LW_alter_e l hl9 D cI cC cJ h n0 S n2 M n3 B n4 E rt hhs hn0 hn2 hn3 hn4 o v hoS (xs (i + 1)) (xs (i + 2)) (zb_no g)) zk_LW_alter zw_0 ⟨by decide, by decide, by decide +kernel⟩ zw_450 zw_451 ⟨rfl, rfl, by decide, by decide, hc, hs⟩ ⟨hC, hO⟩ hE zX3.bl (fun U hU hW => hX3.use hS hU hW hAO) rfl hl.1 rfl (Nat.le_of_ble_eq_true rfl) d_LW_law_500) hS (fun q _ h => hAO q h) hAO (fun H locs hB1 hz hk hS => ?_)
    obtain ⟨hC, hO⟩ := hB1
    have hM := hM.kept hhm (fun q h1 h2 => hk q h1 (fun z => z.elim (fun z => hdis q z h2) (fun z => hoM (z ▸ h2))))
    refine lv_istore hx hb d_LW_law_503 hl (by decide) (lv' := [(5, .int (nI 1)), (0, .ref b), (1, .ref (h 0)), (2, .ref (gg 0)), (3, .ref o), (4, .int (nI i))]) rfl (fun ls hl => ?_)
    refine lv_aload_n hx hb d_LW_law_505 rfl (lv_at hl 3 rfl) ?_
    refine lv_aload_n hx hb d_LW_law_506 rfl (lv_at hl 1 rfl) ?_
    refine lv_iload hx hb d_LW_law_507 (lv_at hl 5 rfl) ?_
    refine lv_iconst (v := (nI 1)) hx hb d_LW_law_509 (by decide) ?_
    refine lv_iadd hx hb d_LW_law_510 ?_
    refine ztop (y := nI (i + 1)) (nI_add _ _) ?_
    refine zsld hx hb hXs hbl hS (by omega) hL d_LW_law_511 (x := xs (i + 1)) (rfl) ?_
    refine lv_aload_n hx hb d_LW_law_512 rfl (lv_at hl 1 rfl) ?_
    refine lv_iload hx hb d_LW_law_513 (lv_at hl 5 rfl) ?_
    refine lv_iconst (v := (nI 2)) hx hb d_LW_law_515 (by decide) ?_
    refine lv_iadd hx hb d_LW_law_516 ?_
    refine ztop (y := nI (i + 2)) (nI_add _ _) ?_
    refine zsld hx hb hXs hbl hS (by omega) hL d_LW_law_517 (x := xs (i + 2)) (rfl) ?_
    refine zWr (rest := []) (zrV hS9 (c_MD_alter_e l D cI cC cJ gg ft n0 S n2 M n3 B n4 E rt hhm hn0 hn2 hn3 hn4 (xs (i + 1)) (xs (i + 2)) g) zc_MD_alter zw_623 zw_624 zw_625 ⟨rfl, rfl, by decide, by decide, hc, hs⟩ (zMo.recv hE hM) hM hE rfl hl.1 rfl (Nat.le_of_ble_eq_true rfl) d_LW_law_518) hS (fun q _ h => hmA q h) hmA (fun H locs hM hz hk hS => ?_)
    have hC := hC.kept hhs (fun q h1 h2 => hk q h1 (fun z => hdis q h2 z))
    have hO := hO.kept (fun q h1 h2 => hk q h1 (fun z => hoM (h2 ▸ z)))
    refine lv_istore hx hb d_LW_law_521 hl (by decide) (lv' := [(6, .int (nI 0)), (5, .int (nI 1)), (0, .ref b), (1, .ref (h 0)), (2, .ref (gg 0)), (3, .ref o), (4, .int (nI i))]) rfl (fun ls hl => ?_)
    refine lv_aload_n hx hb d_LW_law_523 rfl (lv_at hl 4 rfl) ?_
    refine zRd (rest := []) (zrV hS9 (c_MD_thrown l D cI cC cJ gg (nI 1) n0 S n2 M n3 B n4 E rt hhm (hn0) (hn2) (hn3) (hn4)) zc_MD_thrown zw_526 zw_527 zw_528 ⟨rfl, rfl, by decide, by decide, hc, hs⟩ (zMo.recv hE hM) hM hE rfl hl.1 rfl (Nat.le_of_ble_eq_true rfl) d_LW_law_524) ?_
    refine lv_iload hx hb d_LW_law_527 (lv_at hl 1 rfl) ?_
    refine lv_icmp_eq hx hb d_LW_law_529 (tgt := 534) (by decide) (fun _ => ?_) (fun z9 => absurd (rfl) z9)
    refine lv_iload hx hb d_LW_law_534 (lv_at hl 1 rfl) ?_
    refine lv_if_ne hx hb d_LW_law_536 (tgt := 551) (by decide) (fun _ => ?_) (fun z9 => absurd z9 (by decide))
    refine lv_goto hx hb d_LW_law_551 (tgt := 675) (by decide) ?_
    refine W.widen (k := cells + 1) (n := slots + 6) (by omega) (by omega) ?_
    have hl : lv_has ls 7 [(0, .ref b), (1, .ref (h 0)), (2, .ref (gg 0)), (3, .ref o), (4, .int (nI i))] := lv_sub hl [2, 3, 4, 5, 6] rfl
    exact kk _ _ ls ⟨_, _, _, _, _, _, _, _, _, _, _, ⟨hn0, hn2, hn3, hn4⟩, hC, hM, hO, hS⟩ hl
  · refine lv_aload_n hx hb d_LW_law_486 rfl (lv_at hl 1 rfl) ?_
    refine lv_aload_n hx hb d_LW_law_487 rfl (lv_at hl 0 rfl) ?_
    refine lv_iload hx hb d_LW_law_488 (lv_at hl 4 rfl) ?_
    refine lv_iconst (v := (nI 1)) hx hb d_LW_law_490 (by decide) ?_
    refine lv_iadd hx hb d_LW_law_491 ?_
    refine ztop (y := nI (i + 1)) (nI_add _ _) ?_
    refine zsld hx hb hXs hbl hS (by omega) hL d_LW_law_492 (x := nI j) (g) ?_
    refine lv_aload_n hx hb d_LW_law_493 rfl (lv_at hl 0 rfl) ?_
    refine lv_iload hx hb d_LW_law_494 (lv_at hl 4 rfl) ?_
    refine lv_iconst (v := (nI 2)) hx hb d_LW_law_496 (by decide) ?_
    refine lv_iadd hx hb d_LW_law_497 ?_
    refine ztop (y := nI (i + 2)) (nI_add _ _) ?_
    refine zsld hx hb hXs hbl hS (by omega) hL d_LW_law_498 (x := xs (i + 2)) (rfl) ?_
    refine lv_aload_n hx hb d_LW_law_499 rfl (lv_at hl 3 rfl) ?_
    refine zWr (rest := []) (zrSW (n := 4) hS9 (c_LW_alter_ok l D cI cC cJ h n0 S n2 M n3 B n4 E rt hhs hn0 hn2 hn3 hn4 o v hoS j (xs (i + 2)) hj) zk_LW_alter zw_0 ⟨by decide, by decide, by decide +kernel⟩ zw_450 zw_451 ⟨rfl, rfl, by decide, by decide, Nat.le_of_succ_le hc, Nat.le_trans (Nat.le_add_right _ 6) hs⟩ ⟨hC, hO⟩ hE zX3.bl (fun U hU hW => hX3.use hS hU hW hAO) rfl hl.1 rfl (Nat.le_of_ble_eq_true rfl) d_LW_law_500) hS (fun q _ h => hAO q h) hAO (fun H locs hB1 hz hk hS => ?_)
    obtain ⟨hC, hO⟩ := hB1
    have hM := hM.kept hhm (fun q h1 h2 => hk q h1 (fun z => z.elim (fun z => hdis q z h2) (fun z => hoM (z ▸ h2))))
    refine lv_istore hx hb d_LW_law_503 hl (by decide) (lv' := [(5, .int (nI 0)), (0, .ref b), (1, .ref (h 0)), (2, .ref (gg 0)), (3, .ref o), (4, .int (nI i))]) rfl (fun ls hl => ?_)
    refine lv_aload_n hx hb d_LW_law_505 rfl (lv_at hl 3 rfl) ?_
    refine lv_aload_n hx hb d_LW_law_506 rfl (lv_at hl 1 rfl) ?_
    refine lv_iload hx hb d_LW_law_507 (lv_at hl 5 rfl) ?_
    refine lv_iconst (v := (nI 1)) hx hb d_LW_law_509 (by decide) ?_
    refine lv_iadd hx hb d_LW_law_510 ?_
    refine ztop (y := nI (i + 1)) (nI_add _ _) ?_
    refine zsld hx hb hXs hbl hS (by omega) hL d_LW_law_511 (x := nI j) (g) ?_
    refine lv_aload_n hx hb d_LW_law_512 rfl (lv_at hl 1 rfl) ?_
    refine lv_iload hx hb d_LW_law_513 (lv_at hl 5 rfl) ?_
    refine lv_iconst (v := (nI 2)) hx hb d_LW_law_515 (by decide) ?_
    refine lv_iadd hx hb d_LW_law_516 ?_
    refine ztop (y := nI (i + 2)) (nI_add _ _) ?_
    refine zsld hx hb hXs hbl hS (by omega) hL d_LW_law_517 (x := xs (i + 2)) (rfl) ?_
    refine zWr (rest := []) (zrV hS9 (c_MD_alter_ok l D cI cC cJ gg ft n0 S n2 M n3 B n4 E rt hhm hn0 hn2 hn3 hn4 j (xs (i + 2)) hj) zc_MD_alter zw_623 zw_624 zw_625 ⟨rfl, rfl, by decide, by decide, Nat.le_of_succ_le hc, Nat.le_trans (Nat.le_add_right _ 6) hs⟩ (zMo.recv hE hM) hM hE rfl hl.1 rfl (Nat.le_of_ble_eq_true rfl) d_LW_law_518) hS (fun q _ h => hmA q h) hmA (fun H locs hM hz hk hS => ?_)
    have hC := hC.kept hhs (fun q h1 h2 => hk q h1 (fun z => hdis q h2 z))
    have hO := hO.kept (fun q h1 h2 => hk q h1 (fun z => hoM (h2 ▸ z)))
    refine lv_istore hx hb d_LW_law_521 hl (by decide) (lv' := [(6, .int (nI (zo_al (B j) (xs (i + 2))))), (5, .int (nI 0)), (0, .ref b), (1, .ref (h 0)), (2, .ref (gg 0)), (3, .ref o), (4, .int (nI i))]) rfl (fun ls hl => ?_)
    refine lv_aload_n hx hb d_LW_law_523 rfl (lv_at hl 4 rfl) ?_
    refine zRd (rest := []) (zrV hS9 (c_MD_thrown l D cI cC cJ gg (nI 0) n0 S n2 M n3 ((zs_set (n3, B) j (zo_al (B j) (xs (i + 2)))).2) n4 E rt hhm (hn0) (hn2) (hn3) (hn4)) zc_MD_thrown zw_526 zw_527 zw_528 ⟨rfl, rfl, by decide, by decide, Nat.le_of_succ_le hc, Nat.le_trans (Nat.le_add_right _ 6) hs⟩ (zMo.recv hE hM) hM hE rfl hl.1 rfl (Nat.le_of_ble_eq_true rfl) d_LW_law_524) ?_
    refine lv_iload hx hb d_LW_law_527 (lv_at hl 1 rfl) ?_
    refine lv_icmp_eq hx hb d_LW_law_529 (tgt := 534) (by decide) (fun _ => ?_) (fun z9 => absurd (rfl) z9)
    refine lv_iload hx hb d_LW_law_534 (lv_at hl 1 rfl) ?_
    refine lv_if_ne hx hb d_LW_law_536 (tgt := 551) (by decide) (fun z9 => absurd (by decide) z9) (fun _ => ?_)
    refine lv_aload_n hx hb d_LW_law_539 rfl (lv_at hl 5 rfl) ?_
    refine lv_iconst (v := (nI 0)) hx hb d_LW_law_540 (by decide) ?_
    refine zlald hx hb hE hO d_LW_law_541 ?_
    refine lv_iload hx hb d_LW_law_542 (lv_at hl 0 rfl) ?_
    refine lv_i2l hx hb d_LW_law_544 rfl ?_
    refine W.lcmp hx hb d_LW_law_545 ?_
    refine lv_if_eq hx hb d_LW_law_546 (tgt := 551) (by decide) (fun _ => ?_) (fun z9 => absurd (zb_cmp _) z9)
    refine lv_goto hx hb d_LW_law_551 (tgt := 675) (by decide) ?_
    refine W.widen (k := cells + 1) (n := slots + 6) (by omega) (by omega) ?_
    have hl : lv_has ls 7 [(0, .ref b), (1, .ref (h 0)), (2, .ref (gg 0)), (3, .ref o), (4, .int (nI i))] := lv_sub hl [2, 3, 4, 5, 6] rfl
    exact kk _ _ ls ⟨_, _, _, _, _, _, _, _, _, _, _, ⟨hn0, hn2, hn3, hn4⟩, hC, hM, hO, hS⟩ hl

set_option maxHeartbeats 4000000 in
set_option maxRecDepth 100000 in
theorem zst_load {p : Program} {l : Launch} {e : Env} {s : State} {m : MethodId} {below : List Frame} {meth : Method} {c : Code} {H : Heap} {locs : List Loc} {cells slots : Nat} {Q : State → Prop} {b L : Nat} {xs : Nat → Int32} {D : va_G} {cI cC cJ : ClassId} {ka va : Nat} {h gg : Nat → Nat} {o i : Nat}
    (C : zLaw p l s m c b L xs D cI cC cJ ka va) (Sp : zSep s h gg o) (hi : i + 4 ≤ L) (hc : cells + 1 ≤ 601024) (hs : slots + 6 ≤ 7293034) (hI : zIv D cI cC cJ h gg o s H locs)
    (kk : ∀ (H1 : Heap) (locs1 : List Loc) (ls : Array Slot), zIv D cI cC cJ h gg o s H1 locs1 → lv_has ls 7 (zLs b o i h gg) → W p l e room_1 s m #[Value.ref b] below meth c H1 locs1 (cells + 1) (slots + 6) Q (F0 m 675 ls []))
    (ls : Array Slot) (hl : lv_has ls 7 (zLs b o i h gg)) : W p l e room_1 s m #[Value.ref b] below meth c H locs cells slots Q (F0 m 631 ls []) := by
  obtain ⟨hS9, hL, hXs, hbl, hE, hX1, hX3, hl9⟩ := C
  have hS8 := hS9
  obtain ⟨hx, hb, hml, hown, hg⟩ := hS8
  obtain ⟨hhs, hhm, hsA, hmA, hoA, hdis, hoS, hoM⟩ := Sp
  obtain ⟨ft, n0, S, n2, M, n3, B, n4, E, rt, v, ⟨hn0, hn2, hn3, hn4⟩, hC, hM, hO, hS⟩ := hI
  have hAO : ∀ q, zAO h o q → zA0 s q := fun q hq => hq.elim (hsA q) (fun z => z ▸ hoA)
  have hl : lv_has ls 7 [(0, .ref b), (1, .ref (h 0)), (2, .ref (gg 0)), (3, .ref o), (4, .int (nI i))] := hl
  rcases zb_pf n4 E with g | g
  · refine lv_aload_n hx hb d_LW_law_631 rfl (lv_at hl 1 rfl) ?_
    refine lv_aload_n hx hb d_LW_law_632 rfl (lv_at hl 3 rfl) ?_
    refine zWr (rest := []) (zrSW (n := 2) hS9 (c_LW_load_e l hl9 D cI cC cJ h n0 S n2 M n3 B n4 E rt hhs hn0 hn2 hn3 hn4 o v hoS g) zk_LW_load zw_0 ⟨by decide, by decide, by decide +kernel⟩ zw_462 zw_463 ⟨rfl, rfl, by decide, by decide, hc, hs⟩ ⟨hC, hO⟩ hE zX3.bl (fun U hU hW => hX3.use hS hU hW hAO) rfl hl.1 rfl (Nat.le_of_ble_eq_true rfl) d_LW_law_633) hS (fun q _ h => hAO q h) hAO (fun H locs hB1 hz hk hS => ?_)
    obtain ⟨hC, hO⟩ := hB1
    have hM := hM.kept hhm (fun q h1 h2 => hk q h1 (fun z => z.elim (fun z => hdis q z h2) (fun z => hoM (z ▸ h2))))
    refine lv_istore hx hb d_LW_law_636 hl (by decide) (lv' := [(5, .int (nI 1)), (0, .ref b), (1, .ref (h 0)), (2, .ref (gg 0)), (3, .ref o), (4, .int (nI i))]) rfl (fun ls hl => ?_)
    refine lv_aload_n hx hb d_LW_law_638 rfl (lv_at hl 3 rfl) ?_
    refine zWr (rest := []) (zrV hS9 (c_MD_load_e l D cI cC cJ gg ft n0 S n2 M n3 B n4 E rt hhm hn0 hn2 hn3 hn4 g) zc_MD_load zw_646 zw_647 zw_648 ⟨rfl, rfl, by decide, by decide, hc, hs⟩ (zMo.recv hE hM) hM hE rfl hl.1 rfl (Nat.le_of_ble_eq_true rfl) d_LW_law_639) hS (fun q _ h => hmA q h) hmA (fun H locs hM hz hk hS => ?_)
    have hC := hC.kept hhs (fun q h1 h2 => hk q h1 (fun z => hdis q h2 z))
    have hO := hO.kept (fun q h1 h2 => hk q h1 (fun z => hoM (h2 ▸ z)))
    refine lv_istore hx hb d_LW_law_642 hl (by decide) (lv' := [(6, .int (nI 0)), (5, .int (nI 1)), (0, .ref b), (1, .ref (h 0)), (2, .ref (gg 0)), (3, .ref o), (4, .int (nI i))]) rfl (fun ls hl => ?_)
    refine lv_aload_n hx hb d_LW_law_644 rfl (lv_at hl 4 rfl) ?_
    refine zRd (rest := []) (zrV hS9 (c_MD_thrown l D cI cC cJ gg (nI 1) n0 S n2 M n3 B 0 E rt hhm (hn0) (hn2) (hn3) (Nat.zero_le _)) zc_MD_thrown zw_526 zw_527 zw_528 ⟨rfl, rfl, by decide, by decide, hc, hs⟩ (zMo.recv hE hM) hM hE rfl hl.1 rfl (Nat.le_of_ble_eq_true rfl) d_LW_law_645) ?_
    refine lv_iload hx hb d_LW_law_648 (lv_at hl 1 rfl) ?_
    refine lv_icmp_eq hx hb d_LW_law_650 (tgt := 655) (by decide) (fun _ => ?_) (fun z9 => absurd (rfl) z9)
    refine lv_iload hx hb d_LW_law_655 (lv_at hl 1 rfl) ?_
    refine lv_if_ne hx hb d_LW_law_657 (tgt := 672) (by decide) (fun _ => ?_) (fun z9 => absurd z9 (by decide))
    refine lv_goto hx hb d_LW_law_672 (tgt := 675) (by decide) ?_
    refine W.widen (k := cells + 1) (n := slots + 6) (by omega) (by omega) ?_
    have hl : lv_has ls 7 [(0, .ref b), (1, .ref (h 0)), (2, .ref (gg 0)), (3, .ref o), (4, .int (nI i))] := lv_sub hl [2, 3, 4, 5, 6] rfl
    exact kk _ _ ls ⟨_, _, _, _, _, _, _, _, _, _, _, ⟨hn0, hn2, hn3, Nat.zero_le _⟩, hC, hM, hO, hS⟩ hl
  · refine lv_aload_n hx hb d_LW_law_631 rfl (lv_at hl 1 rfl) ?_
    refine lv_aload_n hx hb d_LW_law_632 rfl (lv_at hl 3 rfl) ?_
    refine zWr (rest := []) (zrSW (n := 2) hS9 (c_LW_load_ok l D cI cC cJ h n0 S n2 M n3 B n4 E rt hhs hn0 hn2 hn3 hn4 o v hoS g) zk_LW_load zw_0 ⟨by decide, by decide, by decide +kernel⟩ zw_462 zw_463 ⟨rfl, rfl, by decide, by decide, Nat.le_of_succ_le hc, Nat.le_trans (Nat.le_add_right _ 6) hs⟩ ⟨hC, hO⟩ hE zX3.bl (fun U hU hW => hX3.use hS hU hW hAO) rfl hl.1 rfl (Nat.le_of_ble_eq_true rfl) d_LW_law_633) hS (fun q _ h => hAO q h) hAO (fun H locs hB1 hz hk hS => ?_)
    obtain ⟨hC, hO⟩ := hB1
    have hM := hM.kept hhm (fun q h1 h2 => hk q h1 (fun z => z.elim (fun z => hdis q z h2) (fun z => hoM (z ▸ h2))))
    refine lv_istore hx hb d_LW_law_636 hl (by decide) (lv' := [(5, .int (nI 0)), (0, .ref b), (1, .ref (h 0)), (2, .ref (gg 0)), (3, .ref o), (4, .int (nI i))]) rfl (fun ls hl => ?_)
    refine lv_aload_n hx hb d_LW_law_638 rfl (lv_at hl 3 rfl) ?_
    refine zWr (rest := []) (zrV hS9 (c_MD_load_ok l D cI cC cJ gg ft n0 S n2 M n3 B n4 E rt hhm hn0 hn2 hn3 hn4 g) zc_MD_load zw_646 zw_647 zw_648 ⟨rfl, rfl, by decide, by decide, Nat.le_of_succ_le hc, Nat.le_trans (Nat.le_add_right _ 6) hs⟩ (zMo.recv hE hM) hM hE rfl hl.1 rfl (Nat.le_of_ble_eq_true rfl) d_LW_law_639) hS (fun q _ h => hmA q h) hmA (fun H locs hM hz hk hS => ?_)
    have hC := hC.kept hhs (fun q h1 h2 => hk q h1 (fun z => hdis q h2 z))
    have hO := hO.kept (fun q h1 h2 => hk q h1 (fun z => hoM (h2 ▸ z)))
    refine lv_istore hx hb d_LW_law_642 hl (by decide) (lv' := [(6, .int (nI (n4 * 6 / 8))), (5, .int (nI 0)), (0, .ref b), (1, .ref (h 0)), (2, .ref (gg 0)), (3, .ref o), (4, .int (nI i))]) rfl (fun ls hl => ?_)
    refine lv_aload_n hx hb d_LW_law_644 rfl (lv_at hl 4 rfl) ?_
    refine zRd (rest := []) (zrV hS9 (c_MD_thrown l D cI cC cJ gg (nI 0) n0 S n2 M (n4 * 6 / 8) ((zs_lds E (n4 * 6 / 8)).2) 0 E rt hhm (hn0) (hn2) (by omega) (Nat.zero_le _)) zc_MD_thrown zw_526 zw_527 zw_528 ⟨rfl, rfl, by decide, by decide, Nat.le_of_succ_le hc, Nat.le_trans (Nat.le_add_right _ 6) hs⟩ (zMo.recv hE hM) hM hE rfl hl.1 rfl (Nat.le_of_ble_eq_true rfl) d_LW_law_645) ?_
    refine lv_iload hx hb d_LW_law_648 (lv_at hl 1 rfl) ?_
    refine lv_icmp_eq hx hb d_LW_law_650 (tgt := 655) (by decide) (fun _ => ?_) (fun z9 => absurd (rfl) z9)
    refine lv_iload hx hb d_LW_law_655 (lv_at hl 1 rfl) ?_
    refine lv_if_ne hx hb d_LW_law_657 (tgt := 672) (by decide) (fun z9 => absurd (by decide) z9) (fun _ => ?_)
    refine lv_aload_n hx hb d_LW_law_660 rfl (lv_at hl 5 rfl) ?_
    refine lv_iconst (v := (nI 0)) hx hb d_LW_law_661 (by decide) ?_
    refine zlald hx hb hE hO d_LW_law_662 ?_
    refine lv_iload hx hb d_LW_law_663 (lv_at hl 0 rfl) ?_
    refine lv_i2l hx hb d_LW_law_665 rfl ?_
    refine W.lcmp hx hb d_LW_law_666 ?_
    refine lv_if_eq hx hb d_LW_law_667 (tgt := 672) (by decide) (fun _ => ?_) (fun z9 => absurd (zb_cmp _) z9)
    refine lv_goto hx hb d_LW_law_672 (tgt := 675) (by decide) ?_
    refine W.widen (k := cells + 1) (n := slots + 6) (by omega) (by omega) ?_
    have hl : lv_has ls 7 [(0, .ref b), (1, .ref (h 0)), (2, .ref (gg 0)), (3, .ref o), (4, .int (nI i))] := lv_sub hl [2, 3, 4, 5, 6] rfl
    exact kk _ _ ls ⟨_, _, _, _, _, _, _, _, _, _, _, ⟨hn0, hn2, by omega, Nat.zero_le _⟩, hC, hM, hO, hS⟩ hl

