set_option maxHeartbeats 4000000 in
set_option maxRecDepth 100000 in
theorem c_LW_key_ok (l : Launch) (D : va_G) (cI cC cJ : ClassId) (h : Nat → Nat) (n0 : Nat) (S : Nat → Nat) (n2 : Nat) (M : Nat → Nat) (n3 : Nat) (B : Nat → Nat) (n4 : Nat) (E : Nat → Nat) (rt : Nat) (hh : zs_inj h) (hn0 : n0 ≤ 4) (hn2 : n2 ≤ 40) (hn3 : n3 ≤ 120) (hn4 : n4 ≤ 160) (o : Nat) (v : Int64) (ho : ¬ zAS h o) (x : Nat) (hx1 : 2 ≤ x) (hx2 : x ≤ 32747) (hr9 : n0 < 4) : Met l y_LW_key (zw k_LW_key) ({ frames := 7, cells := 0, slots := 0, locals := 111 }) (zPcY [.ref (h 0), .int (nI x), .ref o] (fun H => zCl D cI h n0 S n2 M n3 B n4 E rt H ∧ zOu D cJ o v H) D cI cC cJ (zX3 (zAO h o))) (zQm (some (.int (nI 0))) (fun H => zCl D cI h (n0 + 1) (zs_push (n0, S) x).2 n2 M n3 B n4 E rt H ∧ zOu D cJ o ((nI n0).toInt64) H) (zAO h o)) 0 0 (zAO h o) := by
  refine zMetW (by decide) (Nat.le_of_ble_eq_true rfl) ?_
  intro p e s m below meth c hx hb hr hg hown hlk hml htb hB0 hE hX ls hl
  have hl : lv_has ls 4 [(0, .ref (h 0)), (1, .int (nI x)), (2, .ref o)] := hl
  have hS9 : CallFix p m c b_LW_key 4 s [.ref (h 0), .int (nI x), .ref o].toArray zg "SealedFilesLaw" := ⟨hx, hb, hml, hown, hg⟩
  obtain ⟨hC, hO⟩ := hB0
  have hS : va_S (zAO h o) s.heap s.heap [] := va_S.rf
  refine lv_aload_n hx hb d_LW_key_0 rfl (lv_at hl 2 rfl) ?_
  refine lv_iconst (v := (nI 0)) hx hb d_LW_key_1 (by decide) ?_
  refine lv_aload_n hx hb d_LW_key_2 rfl (lv_at hl 0 rfl) ?_
  refine lv_iload_n hx hb d_LW_key_3 rfl (lv_at hl 1 rfl) ?_
  refine zWr (rest := [.int (nI 0), .ref o]) (zrV hS9 (c_SF_key_ok l D cI cC cJ h n0 S n2 M n3 B n4 E rt hh hn0 hn2 hn3 hn4 x hx1 hx2 hr9) zc_SF_key zw_229 zw_230 zw_231 (by decide) (zCl.recv hE hC) hC hE rfl hl.1 rfl (Nat.le_of_ble_eq_true rfl) d_LW_key_4) hS (fun _ _ h => Or.inl h) (fun _ h => Or.inl h) (fun H locs hC hz hk hS => ?_)
  have hO := hO.kept (fun q h1 h2 => hk q h1 (fun z => ho (h2 ▸ z)))
  refine lv_i2l hx hb d_LW_key_7 rfl ?_
  refine zlast hx hb hE hh ho hC hO hS d_LW_key_8 (fun H locs hC hO hS => ?_)
  refine lv_goto hx hb d_LW_key_9 (tgt := 18) (by decide) ?_
  refine lv_iconst (v := (nI 0)) hx hb d_LW_key_18 (by decide) ?_
  exact W.iret (v := (nI 0)) hx hb hr (fun t ht _ => ⟨rfl, by rw [ht]; exact ⟨hC, hO⟩, hS.F ht⟩) hS.2.2 d_LW_key_19

set_option maxHeartbeats 4000000 in
set_option maxRecDepth 100000 in
theorem c_LW_key_e1 (l : Launch) (hl9 : l.stackTraces = false) (D : va_G) (cI cC cJ : ClassId) (h : Nat → Nat) (n0 : Nat) (S : Nat → Nat) (n2 : Nat) (M : Nat → Nat) (n3 : Nat) (B : Nat → Nat) (n4 : Nat) (E : Nat → Nat) (rt : Nat) (hh : zs_inj h) (hn0 : n0 ≤ 4) (hn2 : n2 ≤ 40) (hn3 : n3 ≤ 120) (hn4 : n4 ≤ 160) (o : Nat) (v : Int64) (ho : ¬ zAS h o) (x : Int32) (hx9 : x < nI 2 ∨ ¬ x ≤ nI 32747) : Met l y_LW_key (zw k_LW_key) ({ frames := 7, cells := 1, slots := 6, locals := 111 }) (zPcY [.ref (h 0), .int x, .ref o] (fun H => zCl D cI h n0 S n2 M n3 B n4 E rt H ∧ zOu D cJ o v H) D cI cC cJ (zX3 (zAO h o))) (zQm (some (.int (nI 1))) (fun H => zCl D cI h n0 S n2 M n3 B n4 E rt H ∧ zOu D cJ o v H) (zAO h o)) 1 6 (zAO h o) := by
  refine zMetW (by decide) (Nat.le_of_ble_eq_true rfl) ?_
  intro p e s m below meth c hx hb hr hg hown hlk hml htb hB0 hE hX ls hl
  have hl : lv_has ls 4 [(0, .ref (h 0)), (1, .int x), (2, .ref o)] := hl
  have hS9 : CallFix p m c b_LW_key 4 s [.ref (h 0), .int x, .ref o].toArray zg "SealedFilesLaw" := ⟨hx, hb, hml, hown, hg⟩
  obtain ⟨hC, hO⟩ := hB0
  have hS : va_S (zAO h o) s.heap s.heap [] := va_S.rf
  refine lv_aload_n hx hb d_LW_key_0 rfl (lv_at hl 2 rfl) ?_
  refine lv_iconst (v := (nI 0)) hx hb d_LW_key_1 (by decide) ?_
  refine lv_aload_n hx hb d_LW_key_2 rfl (lv_at hl 0 rfl) ?_
  refine lv_iload_n hx hb d_LW_key_3 rfl (lv_at hl 1 rfl) ?_
  refine vx_calli (rest := [.int (nI 0), .ref o]) (zrVT hS9 (c_SF_key_e1 l hl9 D cI cC cJ h n0 S n2 M n3 B n4 E rt hh hn0 hn2 hn3 hn4 x hx9) zc_SF_key zw_229 zw_230 zw_231 (by decide) (zCl.recv hE hC) hC hE zX2.bl (fun U hU hW => hX.1.use va_S.rf hU hW (fun _ h => Or.inl h)) rfl hl.1 rfl (Nat.le_of_ble_eq_true rfl) d_LW_key_4) hS (fun _ _ h => Or.inl h) (fun _ h => Or.inl h) (fun _ _ h => Or.inl h) (fun E ce q9 u t H locs ht _ _ hB9 hz hk hS hcell hv hcl => ?_) (fun r u t H1 locs1 _ _ h9 => h9.elim)
  obtain ⟨rfl, hC⟩ := hB9
  rw [ht] at hC
  have hO := hO.kept (fun q h1 h2 => hk q h1 (fun z => ho (h2 ▸ z)))
  refine vx_catch (own := "SealedFilesLaw") (name := "java/lang/IllegalArgumentException") hown [] ⟨0, 9, 12, 13⟩ [⟨0, 9, 15, 15⟩] htb (fun z hz => nomatch hz) (by decide) (by decide) (hg _ zw_227) (va_Nw.use rfl (hX.1.1 _ (by decide))) hcell hv hcl ?_
  refine W.eq (g2 := F0 m 12 ls [.ref q9]) rfl ?_
  refine lv_astore_n hx hb d_LW_key_12 rfl hl (by decide) (lv' := [(3, .ref q9), (0, .ref (h 0)), (1, .int x), (2, .ref o)]) rfl (fun ls hl => ?_)
  refine lv_iconst (v := (nI 1)) hx hb d_LW_key_13 (by decide) ?_
  exact W.iret (v := (nI 1)) hx hb hr (fun t ht _ => ⟨rfl, by rw [ht]; exact ⟨hC, hO⟩, hS.F ht⟩) hS.2.2 d_LW_key_14

set_option maxHeartbeats 4000000 in
set_option maxRecDepth 100000 in
theorem c_LW_key_e2 (l : Launch) (hl9 : l.stackTraces = false) (D : va_G) (cI cC cJ : ClassId) (h : Nat → Nat) (n0 : Nat) (S : Nat → Nat) (n2 : Nat) (M : Nat → Nat) (n3 : Nat) (B : Nat → Nat) (n4 : Nat) (E : Nat → Nat) (rt : Nat) (hh : zs_inj h) (hn0 : n0 ≤ 4) (hn2 : n2 ≤ 40) (hn3 : n3 ≤ 120) (hn4 : n4 ≤ 160) (o : Nat) (v : Int64) (ho : ¬ zAS h o) (x : Nat) (hx1 : 2 ≤ x) (hx2 : x ≤ 32747) (hr9 : n0 = 4) : Met l y_LW_key (zw k_LW_key) ({ frames := 7, cells := 1, slots := 6, locals := 111 }) (zPcY [.ref (h 0), .int (nI x), .ref o] (fun H => zCl D cI h n0 S n2 M n3 B n4 E rt H ∧ zOu D cJ o v H) D cI cC cJ (zX3 (zAO h o))) (zQm (some (.int (nI 2))) (fun H => zCl D cI h n0 S n2 M n3 B n4 E rt H ∧ zOu D cJ o v H) (zAO h o)) 1 6 (zAO h o) := by
  refine zMetW (by decide) (Nat.le_of_ble_eq_true rfl) ?_
  intro p e s m below meth c hx hb hr hg hown hlk hml htb hB0 hE hX ls hl
  have hl : lv_has ls 4 [(0, .ref (h 0)), (1, .int (nI x)), (2, .ref o)] := hl
  have hS9 : CallFix p m c b_LW_key 4 s [.ref (h 0), .int (nI x), .ref o].toArray zg "SealedFilesLaw" := ⟨hx, hb, hml, hown, hg⟩
  obtain ⟨hC, hO⟩ := hB0
  have hS : va_S (zAO h o) s.heap s.heap [] := va_S.rf
  refine lv_aload_n hx hb d_LW_key_0 rfl (lv_at hl 2 rfl) ?_
  refine lv_iconst (v := (nI 0)) hx hb d_LW_key_1 (by decide) ?_
  refine lv_aload_n hx hb d_LW_key_2 rfl (lv_at hl 0 rfl) ?_
  refine lv_iload_n hx hb d_LW_key_3 rfl (lv_at hl 1 rfl) ?_
  refine vx_calli (rest := [.int (nI 0), .ref o]) (zrVT hS9 (c_SF_key_e2 l hl9 D cI cC cJ h n0 S n2 M n3 B n4 E rt hh hn0 hn2 hn3 hn4 x hx1 hx2 hr9) zc_SF_key zw_229 zw_230 zw_231 (by decide) (zCl.recv hE hC) hC hE zX2.bl (fun U hU hW => hX.1.use va_S.rf hU hW (fun _ h => Or.inl h)) rfl hl.1 rfl (Nat.le_of_ble_eq_true rfl) d_LW_key_4) hS (fun _ _ h => Or.inl h) (fun _ h => Or.inl h) (fun _ _ h => Or.inl h) (fun E ce q9 u t H locs ht _ _ hB9 hz hk hS hcell hv hcl => ?_) (fun r u t H1 locs1 _ _ h9 => h9.elim)
  obtain ⟨rfl, hC⟩ := hB9
  rw [ht] at hC
  have hO := hO.kept (fun q h1 h2 => hk q h1 (fun z => ho (h2 ▸ z)))
  refine vx_catch (own := "SealedFilesLaw") (name := "java/lang/IllegalStateException") hown [⟨0, 9, 12, 13⟩] ⟨0, 9, 15, 15⟩ [] htb (fun z hz => by cases List.mem_singleton.mp hz; exact Or.inr ⟨by decide, zIA, hg _ zw_227, hX.2⟩) (by decide) (by decide) (hg _ zw_228) (va_Nw.use rfl (hX.1.1 _ (by decide))) hcell hv hcl ?_
  refine W.eq (g2 := F0 m 15 ls [.ref q9]) rfl ?_
  refine lv_astore_n hx hb d_LW_key_15 rfl hl (by decide) (lv' := [(3, .ref q9), (0, .ref (h 0)), (1, .int (nI x)), (2, .ref o)]) rfl (fun ls hl => ?_)
  refine lv_iconst (v := (nI 2)) hx hb d_LW_key_16 (by decide) ?_
  exact W.iret (v := (nI 2)) hx hb hr (fun t ht _ => ⟨rfl, by rw [ht]; exact ⟨hC, hO⟩, hS.F ht⟩) hS.2.2 d_LW_key_17

set_option maxHeartbeats 4000000 in
set_option maxRecDepth 100000 in
theorem c_LW_seal_ok (l : Launch) (D : va_G) (cI cC cJ : ClassId) (h : Nat → Nat) (n0 : Nat) (S : Nat → Nat) (n2 : Nat) (M : Nat → Nat) (n3 : Nat) (B : Nat → Nat) (n4 : Nat) (E : Nat → Nat) (rt : Nat) (hh : zs_inj h) (hn0 : n0 ≤ 4) (hn2 : n2 ≤ 40) (hn3 : n3 ≤ 120) (hn4 : n4 ≤ 160) (o : Nat) (v : Int64) (ho : ¬ zAS h o) (x f g : Int32) (hrc : zs_rc n0 (zs_un x) = 1) : Met l y_LW_seal (zw k_LW_seal) ({ frames := 7, cells := 0, slots := 0, locals := 147 }) (zPcY [.ref (h 0), .int x, .int f, .int g, .ref o] (fun H => zCl D cI h n0 S n2 M n3 B n4 E rt H ∧ zOu D cJ o v H) D cI cC cJ (zX3 (zAO h o))) (zQm (some (.int (nI 0))) (fun H => zCl D cI h n0 S n2 M (zs_seal S n0 n2 M x f g).1 (zs_seal S n0 n2 M x f g).2 n4 E rt H ∧ zOu D cJ o ((nI (zs_seal S n0 n2 M x f g).1).toInt64) H) (zAO h o)) 0 0 (zAO h o) := by
  refine zMetW (by decide) (Nat.le_of_ble_eq_true rfl) ?_
  intro p e s m below meth c hx hb hr hg hown hlk hml htb hB0 hE hX ls hl
  have hl : lv_has ls 6 [(0, .ref (h 0)), (1, .int x), (2, .int f), (3, .int g), (4, .ref o)] := hl
  have hS9 : CallFix p m c b_LW_seal 6 s [.ref (h 0), .int x, .int f, .int g, .ref o].toArray zg "SealedFilesLaw" := ⟨hx, hb, hml, hown, hg⟩
  obtain ⟨hC, hO⟩ := hB0
  have hS : va_S (zAO h o) s.heap s.heap [] := va_S.rf
  refine lv_aload hx hb d_LW_seal_0 (lv_at hl 4 rfl) ?_
  refine lv_iconst (v := (nI 0)) hx hb d_LW_seal_2 (by decide) ?_
  refine lv_aload_n hx hb d_LW_seal_3 rfl (lv_at hl 0 rfl) ?_
  refine lv_iload_n hx hb d_LW_seal_4 rfl (lv_at hl 1 rfl) ?_
  refine lv_iload_n hx hb d_LW_seal_5 rfl (lv_at hl 2 rfl) ?_
  refine lv_iload_n hx hb d_LW_seal_6 rfl (lv_at hl 3 rfl) ?_
  refine zWr (rest := [.int (nI 0), .ref o]) (zrV hS9 (c_SF_seal_ok l D cI cC cJ h n0 S n2 M n3 B n4 E rt hh hn0 hn2 hn3 hn4 x f g hrc) zc_SF_seal zw_322 zw_323 zw_324 (by decide) (zCl.recv hE hC) hC hE rfl hl.1 rfl (Nat.le_of_ble_eq_true rfl) d_LW_seal_7) hS (fun _ _ h => Or.inl h) (fun _ h => Or.inl h) (fun H locs hC hz hk hS => ?_)
  have hO := hO.kept (fun q h1 h2 => hk q h1 (fun z => ho (h2 ▸ z)))
  refine lv_i2l hx hb d_LW_seal_10 rfl ?_
  refine zlast hx hb hE hh ho hC hO hS d_LW_seal_11 (fun H locs hC hO hS => ?_)
  refine lv_goto hx hb d_LW_seal_12 (tgt := 19) (by decide) ?_
  refine lv_iconst (v := (nI 0)) hx hb d_LW_seal_19 (by decide) ?_
  exact W.iret (v := (nI 0)) hx hb hr (fun t ht _ => ⟨rfl, by rw [ht]; exact ⟨hC, hO⟩, hS.F ht⟩) hS.2.2 d_LW_seal_20

set_option maxHeartbeats 4000000 in
set_option maxRecDepth 100000 in
theorem c_LW_seal_e (l : Launch) (hl9 : l.stackTraces = false) (D : va_G) (cI cC cJ : ClassId) (h : Nat → Nat) (n0 : Nat) (S : Nat → Nat) (n2 : Nat) (M : Nat → Nat) (n3 : Nat) (B : Nat → Nat) (n4 : Nat) (E : Nat → Nat) (rt : Nat) (hh : zs_inj h) (hn0 : n0 ≤ 4) (hn2 : n2 ≤ 40) (hn3 : n3 ≤ 120) (hn4 : n4 ≤ 160) (o : Nat) (v : Int64) (ho : ¬ zAS h o) (x f g : Int32) (hrc : zs_rc n0 (zs_un x) = 0) : Met l y_LW_seal (zw k_LW_seal) ({ frames := 7, cells := 1, slots := 6, locals := 147 }) (zPcY [.ref (h 0), .int x, .int f, .int g, .ref o] (fun H => zCl D cI h n0 S n2 M n3 B n4 E rt H ∧ zOu D cJ o v H) D cI cC cJ (zX3 (zAO h o))) (zQm (some (.int (nI 1))) (fun H => zCl D cI h n0 S n2 M n3 B n4 E rt H ∧ zOu D cJ o v H) (zAO h o)) 1 6 (zAO h o) := by
  refine zMetW (by decide) (Nat.le_of_ble_eq_true rfl) ?_
  intro p e s m below meth c hx hb hr hg hown hlk hml htb hB0 hE hX ls hl
  have hl : lv_has ls 6 [(0, .ref (h 0)), (1, .int x), (2, .int f), (3, .int g), (4, .ref o)] := hl
  have hS9 : CallFix p m c b_LW_seal 6 s [.ref (h 0), .int x, .int f, .int g, .ref o].toArray zg "SealedFilesLaw" := ⟨hx, hb, hml, hown, hg⟩
  obtain ⟨hC, hO⟩ := hB0
  have hS : va_S (zAO h o) s.heap s.heap [] := va_S.rf
  refine lv_aload hx hb d_LW_seal_0 (lv_at hl 4 rfl) ?_
  refine lv_iconst (v := (nI 0)) hx hb d_LW_seal_2 (by decide) ?_
  refine lv_aload_n hx hb d_LW_seal_3 rfl (lv_at hl 0 rfl) ?_
  refine lv_iload_n hx hb d_LW_seal_4 rfl (lv_at hl 1 rfl) ?_
  refine lv_iload_n hx hb d_LW_seal_5 rfl (lv_at hl 2 rfl) ?_
  refine lv_iload_n hx hb d_LW_seal_6 rfl (lv_at hl 3 rfl) ?_
  refine vx_calli (rest := [.int (nI 0), .ref o]) (zrVT hS9 (c_SF_seal_e l hl9 D cI cC cJ h n0 S n2 M n3 B n4 E rt hh hn0 hn2 hn3 hn4 x f g hrc) zc_SF_seal zw_322 zw_323 zw_324 (by decide) (zCl.recv hE hC) hC hE zX2.bl (fun U hU hW => hX.1.use va_S.rf hU hW (fun _ h => Or.inl h)) rfl hl.1 rfl (Nat.le_of_ble_eq_true rfl) d_LW_seal_7) hS (fun _ _ h => Or.inl h) (fun _ h => Or.inl h) (fun _ _ h => Or.inl h) (fun E ce q9 u t H locs ht _ _ hB9 hz hk hS hcell hv hcl => ?_) (fun r u t H1 locs1 _ _ h9 => h9.elim)
  obtain ⟨rfl, hC⟩ := hB9
  rw [ht] at hC
  have hO := hO.kept (fun q h1 h2 => hk q h1 (fun z => ho (h2 ▸ z)))
  refine vx_catch (own := "SealedFilesLaw") (name := "java/lang/IllegalArgumentException") hown [] ⟨0, 12, 15, 13⟩ [] htb (fun z hz => nomatch hz) (by decide) (by decide) (hg _ zw_227) (va_Nw.use rfl (hX.1.1 _ (by decide))) hcell hv hcl ?_
  refine W.eq (g2 := F0 m 15 ls [.ref q9]) rfl ?_
  refine lv_astore hx hb d_LW_seal_15 hl (by decide) (lv' := [(5, .ref q9), (0, .ref (h 0)), (1, .int x), (2, .int f), (3, .int g), (4, .ref o)]) rfl (fun ls hl => ?_)
  refine lv_iconst (v := (nI 1)) hx hb d_LW_seal_17 (by decide) ?_
  exact W.iret (v := (nI 1)) hx hb hr (fun t ht _ => ⟨rfl, by rw [ht]; exact ⟨hC, hO⟩, hS.F ht⟩) hS.2.2 d_LW_seal_18

set_option maxHeartbeats 4000000 in
set_option maxRecDepth 100000 in
theorem c_LW_open_ok (l : Launch) (D : va_G) (cI cC cJ : ClassId) (h : Nat → Nat) (n0 : Nat) (S : Nat → Nat) (n2 : Nat) (M : Nat → Nat) (n3 : Nat) (B : Nat → Nat) (n4 : Nat) (E : Nat → Nat) (rt : Nat) (hh : zs_inj h) (hn0 : n0 ≤ 4) (hn2 : n2 ≤ 40) (hn3 : n3 ≤ 120) (hn4 : n4 ≤ 160) (o : Nat) (v : Int64) (ho : ¬ zAS h o) (k : Nat) (hk : k < n0) (R9 : Int32 × Nat × zs_F) (hRe : (zs_open n3 B (S k) (zs_pw 2 (S k)) (n2, M)) = R9) : Met l y_LW_open (zw k_LW_open) ({ frames := 7, cells := 0, slots := 0, locals := 149 }) (zPcY [.ref (h 0), .int (nI k), .ref o] (fun H => zCl D cI h n0 S n2 M n3 B n4 E rt H ∧ zOu D cJ o v H) D cI cC cJ (zX3 (zAO h o))) (zQm (some (.int (nI 0))) (fun H => zCl D cI h n0 S R9.2.2.1 R9.2.2.2 n3 B n4 E R9.2.1 H ∧ zOu D cJ o ((R9.1).toInt64) H) (zAO h o)) 0 0 (zAO h o) := by
  refine zMetW (by decide) (Nat.le_of_ble_eq_true rfl) ?_
  intro p e s m below meth c hx hb hr hg hown hlk hml htb hB0 hE hX ls hl
  have hl : lv_has ls 4 [(0, .ref (h 0)), (1, .int (nI k)), (2, .ref o)] := hl
  have hS9 : CallFix p m c b_LW_open 4 s [.ref (h 0), .int (nI k), .ref o].toArray zg "SealedFilesLaw" := ⟨hx, hb, hml, hown, hg⟩
  obtain ⟨hC, hO⟩ := hB0
  have hS : va_S (zAO h o) s.heap s.heap [] := va_S.rf
  refine lv_aload_n hx hb d_LW_open_0 rfl (lv_at hl 2 rfl) ?_
  refine lv_iconst (v := (nI 0)) hx hb d_LW_open_1 (by decide) ?_
  refine lv_aload_n hx hb d_LW_open_2 rfl (lv_at hl 0 rfl) ?_
  refine lv_iload_n hx hb d_LW_open_3 rfl (lv_at hl 1 rfl) ?_
  refine zWr (rest := [.int (nI 0), .ref o]) (zrV hS9 (c_SF_open_ok l D cI cC cJ h n0 S n2 M n3 B n4 E rt hh hn0 hn2 hn3 hn4 k hk R9 hRe) zc_SF_open zw_389 zw_390 zw_391 (by decide) (zCl.recv hE hC) hC hE rfl hl.1 rfl (Nat.le_of_ble_eq_true rfl) d_LW_open_4) hS (fun _ _ h => Or.inl h) (fun _ h => Or.inl h) (fun H locs hC hz hk hS => ?_)
  have hO := hO.kept (fun q h1 h2 => hk q h1 (fun z => ho (h2 ▸ z)))
  refine lv_i2l hx hb d_LW_open_7 rfl ?_
  refine zlast hx hb hE hh ho hC hO hS d_LW_open_8 (fun H locs hC hO hS => ?_)
  refine lv_goto hx hb d_LW_open_9 (tgt := 15) (by decide) ?_
  refine lv_iconst (v := (nI 0)) hx hb d_LW_open_15 (by decide) ?_
  exact W.iret (v := (nI 0)) hx hb hr (fun t ht _ => ⟨rfl, by rw [ht]; exact ⟨hC, hO⟩, hS.F ht⟩) hS.2.2 d_LW_open_16

set_option maxHeartbeats 4000000 in
set_option maxRecDepth 100000 in
theorem c_LW_open_e (l : Launch) (hl9 : l.stackTraces = false) (D : va_G) (cI cC cJ : ClassId) (h : Nat → Nat) (n0 : Nat) (S : Nat → Nat) (n2 : Nat) (M : Nat → Nat) (n3 : Nat) (B : Nat → Nat) (n4 : Nat) (E : Nat → Nat) (rt : Nat) (hh : zs_inj h) (hn0 : n0 ≤ 4) (hn2 : n2 ≤ 40) (hn3 : n3 ≤ 120) (hn4 : n4 ≤ 160) (o : Nat) (v : Int64) (ho : ¬ zAS h o) (x : Int32) (hx9 : zs_has n0 x = 0) : Met l y_LW_open (zw k_LW_open) ({ frames := 7, cells := 1, slots := 6, locals := 149 }) (zPcY [.ref (h 0), .int x, .ref o] (fun H => zCl D cI h n0 S n2 M n3 B n4 E rt H ∧ zOu D cJ o v H) D cI cC cJ (zX3 (zAO h o))) (zQm (some (.int (nI 1))) (fun H => zCl D cI h n0 S n2 M n3 B n4 E rt H ∧ zOu D cJ o v H) (zAO h o)) 1 6 (zAO h o) := by
  refine zMetW (by decide) (Nat.le_of_ble_eq_true rfl) ?_
  intro p e s m below meth c hx hb hr hg hown hlk hml htb hB0 hE hX ls hl
  have hl : lv_has ls 4 [(0, .ref (h 0)), (1, .int x), (2, .ref o)] := hl
  have hS9 : CallFix p m c b_LW_open 4 s [.ref (h 0), .int x, .ref o].toArray zg "SealedFilesLaw" := ⟨hx, hb, hml, hown, hg⟩
  obtain ⟨hC, hO⟩ := hB0
  have hS : va_S (zAO h o) s.heap s.heap [] := va_S.rf
  refine lv_aload_n hx hb d_LW_open_0 rfl (lv_at hl 2 rfl) ?_
  refine lv_iconst (v := (nI 0)) hx hb d_LW_open_1 (by decide) ?_
  refine lv_aload_n hx hb d_LW_open_2 rfl (lv_at hl 0 rfl) ?_
  refine lv_iload_n hx hb d_LW_open_3 rfl (lv_at hl 1 rfl) ?_
  refine vx_calli (rest := [.int (nI 0), .ref o]) (zrVT hS9 (c_SF_open_e l hl9 D cI cC cJ h n0 S n2 M n3 B n4 E rt hh hn0 hn2 hn3 hn4 x hx9) zc_SF_open zw_389 zw_390 zw_391 (by decide) (zCl.recv hE hC) hC hE zX2.bl (fun U hU hW => hX.1.use va_S.rf hU hW (fun _ h => Or.inl h)) rfl hl.1 rfl (Nat.le_of_ble_eq_true rfl) d_LW_open_4) hS (fun _ _ h => Or.inl h) (fun _ h => Or.inl h) (fun _ _ h => Or.inl h) (fun E ce q9 u t H locs ht _ _ hB9 hz hk hS hcell hv hcl => ?_) (fun r u t H1 locs1 _ _ h9 => h9.elim)
  obtain ⟨rfl, hC⟩ := hB9
  rw [ht] at hC
  have hO := hO.kept (fun q h1 h2 => hk q h1 (fun z => ho (h2 ▸ z)))
  refine vx_catch (own := "SealedFilesLaw") (name := "java/lang/IllegalArgumentException") hown [] ⟨0, 9, 12, 13⟩ [] htb (fun z hz => nomatch hz) (by decide) (by decide) (hg _ zw_227) (va_Nw.use rfl (hX.1.1 _ (by decide))) hcell hv hcl ?_
  refine W.eq (g2 := F0 m 12 ls [.ref q9]) rfl ?_
  refine lv_astore_n hx hb d_LW_open_12 rfl hl (by decide) (lv' := [(3, .ref q9), (0, .ref (h 0)), (1, .int x), (2, .ref o)]) rfl (fun ls hl => ?_)
  refine lv_iconst (v := (nI 1)) hx hb d_LW_open_13 (by decide) ?_
  exact W.iret (v := (nI 1)) hx hb hr (fun t ht _ => ⟨rfl, by rw [ht]; exact ⟨hC, hO⟩, hS.F ht⟩) hS.2.2 d_LW_open_14

set_option maxHeartbeats 4000000 in
set_option maxRecDepth 100000 in
theorem c_LW_read_ok (l : Launch) (D : va_G) (cI cC cJ : ClassId) (h : Nat → Nat) (n0 : Nat) (S : Nat → Nat) (n2 : Nat) (M : Nat → Nat) (n3 : Nat) (B : Nat → Nat) (n4 : Nat) (E : Nat → Nat) (rt : Nat) (hh : zs_inj h) (hn0 : n0 ≤ 4) (hn2 : n2 ≤ 40) (hn3 : n3 ≤ 120) (hn4 : n4 ≤ 160) (o : Nat) (v : Int64) (ho : ¬ zAS h o) (j : Nat) (hj : j < n2) : Met l y_LW_read (zw k_LW_read) ({ frames := 7, cells := 0, slots := 0, locals := 111 }) (zPcY [.ref (h 0), .int (nI j), .ref o] (fun H => zCl D cI h n0 S n2 M n3 B n4 E rt H ∧ zOu D cJ o v H) D cI cC cJ (zX3 (zAO h o))) (zQm (some (.int (nI 0))) (fun H => zCl D cI h n0 S n2 M n3 B n4 E rt H ∧ zOu D cJ o ((nI (M j)).toInt64) H) (zAO h o)) 0 0 (zAO h o) := by
  refine zMetW (by decide) (Nat.le_of_ble_eq_true rfl) ?_
  intro p e s m below meth c hx hb hr hg hown hlk hml htb hB0 hE hX ls hl
  have hl : lv_has ls 4 [(0, .ref (h 0)), (1, .int (nI j)), (2, .ref o)] := hl
  have hS9 : CallFix p m c b_LW_read 4 s [.ref (h 0), .int (nI j), .ref o].toArray zg "SealedFilesLaw" := ⟨hx, hb, hml, hown, hg⟩
  obtain ⟨hC, hO⟩ := hB0
  have hS : va_S (zAO h o) s.heap s.heap [] := va_S.rf
  refine lv_aload_n hx hb d_LW_read_0 rfl (lv_at hl 2 rfl) ?_
  refine lv_iconst (v := (nI 0)) hx hb d_LW_read_1 (by decide) ?_
  refine lv_aload_n hx hb d_LW_read_2 rfl (lv_at hl 0 rfl) ?_
  refine lv_iload_n hx hb d_LW_read_3 rfl (lv_at hl 1 rfl) ?_
  refine zRd (rest := [.int (nI 0), .ref o]) (zrV hS9 (c_SF_read_ok l D cI cC cJ h n0 S n2 M n3 B n4 E rt hh hn0 hn2 hn3 hn4 j hj) zc_SF_read zw_430 zw_431 zw_432 (by decide) (zCl.recv hE hC) hC hE rfl hl.1 rfl (Nat.le_of_ble_eq_true rfl) d_LW_read_4) ?_
  refine lv_i2l hx hb d_LW_read_7 rfl ?_
  refine zlast hx hb hE hh ho hC hO hS d_LW_read_8 (fun H locs hC hO hS => ?_)
  refine lv_goto hx hb d_LW_read_9 (tgt := 15) (by decide) ?_
  refine lv_iconst (v := (nI 0)) hx hb d_LW_read_15 (by decide) ?_
  exact W.iret (v := (nI 0)) hx hb hr (fun t ht _ => ⟨rfl, by rw [ht]; exact ⟨hC, hO⟩, hS.F ht⟩) hS.2.2 d_LW_read_16

set_option maxHeartbeats 4000000 in
set_option maxRecDepth 100000 in
theorem c_LW_read_e (l : Launch) (hl9 : l.stackTraces = false) (D : va_G) (cI cC cJ : ClassId) (h : Nat → Nat) (n0 : Nat) (S : Nat → Nat) (n2 : Nat) (M : Nat → Nat) (n3 : Nat) (B : Nat → Nat) (n4 : Nat) (E : Nat → Nat) (rt : Nat) (hh : zs_inj h) (hn0 : n0 ≤ 4) (hn2 : n2 ≤ 40) (hn3 : n3 ≤ 120) (hn4 : n4 ≤ 160) (o : Nat) (v : Int64) (ho : ¬ zAS h o) (x : Int32) (hx9 : zs_has n2 x = 0) : Met l y_LW_read (zw k_LW_read) ({ frames := 7, cells := 1, slots := 6, locals := 111 }) (zPcY [.ref (h 0), .int x, .ref o] (fun H => zCl D cI h n0 S n2 M n3 B n4 E rt H ∧ zOu D cJ o v H) D cI cC cJ (zX3 (zAO h o))) (zQm (some (.int (nI 1))) (fun H => zCl D cI h n0 S n2 M n3 B n4 E rt H ∧ zOu D cJ o v H) (zAO h o)) 1 6 (zAO h o) := by
  refine zMetW (by decide) (Nat.le_of_ble_eq_true rfl) ?_
  intro p e s m below meth c hx hb hr hg hown hlk hml htb hB0 hE hX ls hl
  have hl : lv_has ls 4 [(0, .ref (h 0)), (1, .int x), (2, .ref o)] := hl
  have hS9 : CallFix p m c b_LW_read 4 s [.ref (h 0), .int x, .ref o].toArray zg "SealedFilesLaw" := ⟨hx, hb, hml, hown, hg⟩
  obtain ⟨hC, hO⟩ := hB0
  have hS : va_S (zAO h o) s.heap s.heap [] := va_S.rf
  refine lv_aload_n hx hb d_LW_read_0 rfl (lv_at hl 2 rfl) ?_
  refine lv_iconst (v := (nI 0)) hx hb d_LW_read_1 (by decide) ?_
  refine lv_aload_n hx hb d_LW_read_2 rfl (lv_at hl 0 rfl) ?_
  refine lv_iload_n hx hb d_LW_read_3 rfl (lv_at hl 1 rfl) ?_
  refine vx_calli (rest := [.int (nI 0), .ref o]) (zrVT hS9 (c_SF_read_e l hl9 D cI cC cJ h n0 S n2 M n3 B n4 E rt hh hn0 hn2 hn3 hn4 x hx9) zc_SF_read zw_430 zw_431 zw_432 (by decide) (zCl.recv hE hC) hC hE zX2.bl (fun U hU hW => hX.1.use va_S.rf hU hW (fun _ h => Or.inl h)) rfl hl.1 rfl (Nat.le_of_ble_eq_true rfl) d_LW_read_4) hS (fun _ _ h => Or.inl h) (fun _ h => Or.inl h) (fun _ _ h => Or.inl h) (fun E ce q9 u t H locs ht _ _ hB9 hz hk hS hcell hv hcl => ?_) (fun r u t H1 locs1 _ _ h9 => h9.elim)
  obtain ⟨rfl, hC⟩ := hB9
  rw [ht] at hC
  have hO := hO.kept (fun q h1 h2 => hk q h1 (fun z => ho (h2 ▸ z)))
  refine vx_catch (own := "SealedFilesLaw") (name := "java/util/NoSuchElementException") hown [] ⟨0, 9, 12, 27⟩ [] htb (fun z hz => nomatch hz) (by decide) (by decide) (hg _ zw_429) (va_Nw.use rfl (hX.1.1 _ (by decide))) hcell hv hcl ?_
  refine W.eq (g2 := F0 m 12 ls [.ref q9]) rfl ?_
  refine lv_astore_n hx hb d_LW_read_12 rfl hl (by decide) (lv' := [(3, .ref q9), (0, .ref (h 0)), (1, .int x), (2, .ref o)]) rfl (fun ls hl => ?_)
  refine lv_iconst (v := (nI 1)) hx hb d_LW_read_13 (by decide) ?_
  exact W.iret (v := (nI 1)) hx hb hr (fun t ht _ => ⟨rfl, by rw [ht]; exact ⟨hC, hO⟩, hS.F ht⟩) hS.2.2 d_LW_read_14

set_option maxHeartbeats 4000000 in
set_option maxRecDepth 100000 in
theorem c_LW_alter_ok (l : Launch) (D : va_G) (cI cC cJ : ClassId) (h : Nat → Nat) (n0 : Nat) (S : Nat → Nat) (n2 : Nat) (M : Nat → Nat) (n3 : Nat) (B : Nat → Nat) (n4 : Nat) (E : Nat → Nat) (rt : Nat) (hh : zs_inj h) (hn0 : n0 ≤ 4) (hn2 : n2 ≤ 40) (hn3 : n3 ≤ 120) (hn4 : n4 ≤ 160) (o : Nat) (v : Int64) (ho : ¬ zAS h o) (j : Nat) (x : Int32) (hj : j < n3) : Met l y_LW_alter (zw k_LW_alter) ({ frames := 7, cells := 0, slots := 0, locals := 112 }) (zPcY [.ref (h 0), .int (nI j), .int x, .ref o] (fun H => zCl D cI h n0 S n2 M n3 B n4 E rt H ∧ zOu D cJ o v H) D cI cC cJ (zX3 (zAO h o))) (zQm (some (.int (nI 0))) (fun H => zCl D cI h n0 S n2 M n3 (zs_set (n3, B) j (zo_al (B j) x)).2 n4 E rt H ∧ zOu D cJ o ((nI (zo_al (B j) x)).toInt64) H) (zAO h o)) 0 0 (zAO h o) := by
  refine zMetW (by decide) (Nat.le_of_ble_eq_true rfl) ?_
  intro p e s m below meth c hx hb hr hg hown hlk hml htb hB0 hE hX ls hl
  have hl : lv_has ls 5 [(0, .ref (h 0)), (1, .int (nI j)), (2, .int x), (3, .ref o)] := hl
  have hS9 : CallFix p m c b_LW_alter 5 s [.ref (h 0), .int (nI j), .int x, .ref o].toArray zg "SealedFilesLaw" := ⟨hx, hb, hml, hown, hg⟩
  obtain ⟨hC, hO⟩ := hB0
  have hS : va_S (zAO h o) s.heap s.heap [] := va_S.rf
  refine lv_aload_n hx hb d_LW_alter_0 rfl (lv_at hl 3 rfl) ?_
  refine lv_iconst (v := (nI 0)) hx hb d_LW_alter_1 (by decide) ?_
  refine lv_aload_n hx hb d_LW_alter_2 rfl (lv_at hl 0 rfl) ?_
  refine lv_iload_n hx hb d_LW_alter_3 rfl (lv_at hl 1 rfl) ?_
  refine lv_iload_n hx hb d_LW_alter_4 rfl (lv_at hl 2 rfl) ?_
  refine zWr (rest := [.int (nI 0), .ref o]) (zrV hS9 (c_SF_alter_ok l D cI cC cJ h n0 S n2 M n3 B n4 E rt hh hn0 hn2 hn3 hn4 j x hj) zc_SF_alter zw_453 zw_454 zw_455 (by decide) (zCl.recv hE hC) hC hE rfl hl.1 rfl (Nat.le_of_ble_eq_true rfl) d_LW_alter_5) hS (fun _ _ h => Or.inl h) (fun _ h => Or.inl h) (fun H locs hC hz hk hS => ?_)
  have hO := hO.kept (fun q h1 h2 => hk q h1 (fun z => ho (h2 ▸ z)))
  refine lv_i2l hx hb d_LW_alter_8 rfl ?_
  refine zlast hx hb hE hh ho hC hO hS d_LW_alter_9 (fun H locs hC hO hS => ?_)
  refine lv_goto hx hb d_LW_alter_10 (tgt := 17) (by decide) ?_
  refine lv_iconst (v := (nI 0)) hx hb d_LW_alter_17 (by decide) ?_
  exact W.iret (v := (nI 0)) hx hb hr (fun t ht _ => ⟨rfl, by rw [ht]; exact ⟨hC, hO⟩, hS.F ht⟩) hS.2.2 d_LW_alter_18

set_option maxHeartbeats 4000000 in
set_option maxRecDepth 100000 in
theorem c_LW_alter_e (l : Launch) (hl9 : l.stackTraces = false) (D : va_G) (cI cC cJ : ClassId) (h : Nat → Nat) (n0 : Nat) (S : Nat → Nat) (n2 : Nat) (M : Nat → Nat) (n3 : Nat) (B : Nat → Nat) (n4 : Nat) (E : Nat → Nat) (rt : Nat) (hh : zs_inj h) (hn0 : n0 ≤ 4) (hn2 : n2 ≤ 40) (hn3 : n3 ≤ 120) (hn4 : n4 ≤ 160) (o : Nat) (v : Int64) (ho : ¬ zAS h o) (x y : Int32) (hx9 : zs_has n3 x = 0) : Met l y_LW_alter (zw k_LW_alter) ({ frames := 7, cells := 1, slots := 6, locals := 112 }) (zPcY [.ref (h 0), .int x, .int y, .ref o] (fun H => zCl D cI h n0 S n2 M n3 B n4 E rt H ∧ zOu D cJ o v H) D cI cC cJ (zX3 (zAO h o))) (zQm (some (.int (nI 1))) (fun H => zCl D cI h n0 S n2 M n3 B n4 E rt H ∧ zOu D cJ o v H) (zAO h o)) 1 6 (zAO h o) := by
  refine zMetW (by decide) (Nat.le_of_ble_eq_true rfl) ?_
  intro p e s m below meth c hx hb hr hg hown hlk hml htb hB0 hE hX ls hl
  have hl : lv_has ls 5 [(0, .ref (h 0)), (1, .int x), (2, .int y), (3, .ref o)] := hl
  have hS9 : CallFix p m c b_LW_alter 5 s [.ref (h 0), .int x, .int y, .ref o].toArray zg "SealedFilesLaw" := ⟨hx, hb, hml, hown, hg⟩
  obtain ⟨hC, hO⟩ := hB0
  have hS : va_S (zAO h o) s.heap s.heap [] := va_S.rf
  refine lv_aload_n hx hb d_LW_alter_0 rfl (lv_at hl 3 rfl) ?_
  refine lv_iconst (v := (nI 0)) hx hb d_LW_alter_1 (by decide) ?_
  refine lv_aload_n hx hb d_LW_alter_2 rfl (lv_at hl 0 rfl) ?_
  refine lv_iload_n hx hb d_LW_alter_3 rfl (lv_at hl 1 rfl) ?_
  refine lv_iload_n hx hb d_LW_alter_4 rfl (lv_at hl 2 rfl) ?_
  refine vx_calli (rest := [.int (nI 0), .ref o]) (zrVT hS9 (c_SF_alter_e l hl9 D cI cC cJ h n0 S n2 M n3 B n4 E rt hh hn0 hn2 hn3 hn4 x y hx9) zc_SF_alter zw_453 zw_454 zw_455 (by decide) (zCl.recv hE hC) hC hE zX2.bl (fun U hU hW => hX.1.use va_S.rf hU hW (fun _ h => Or.inl h)) rfl hl.1 rfl (Nat.le_of_ble_eq_true rfl) d_LW_alter_5) hS (fun _ _ h => Or.inl h) (fun _ h => Or.inl h) (fun _ _ h => Or.inl h) (fun E ce q9 u t H locs ht _ _ hB9 hz hk hS hcell hv hcl => ?_) (fun r u t H1 locs1 _ _ h9 => h9.elim)
  obtain ⟨rfl, hC⟩ := hB9
  rw [ht] at hC
  have hO := hO.kept (fun q h1 h2 => hk q h1 (fun z => ho (h2 ▸ z)))
  refine vx_catch (own := "SealedFilesLaw") (name := "java/util/NoSuchElementException") hown [] ⟨0, 10, 13, 27⟩ [] htb (fun z hz => nomatch hz) (by decide) (by decide) (hg _ zw_429) (va_Nw.use rfl (hX.1.1 _ (by decide))) hcell hv hcl ?_
  refine W.eq (g2 := F0 m 13 ls [.ref q9]) rfl ?_
  refine lv_astore hx hb d_LW_alter_13 hl (by decide) (lv' := [(4, .ref q9), (0, .ref (h 0)), (1, .int x), (2, .int y), (3, .ref o)]) rfl (fun ls hl => ?_)
  refine lv_iconst (v := (nI 1)) hx hb d_LW_alter_15 (by decide) ?_
  exact W.iret (v := (nI 1)) hx hb hr (fun t ht _ => ⟨rfl, by rw [ht]; exact ⟨hC, hO⟩, hS.F ht⟩) hS.2.2 d_LW_alter_16

set_option maxHeartbeats 4000000 in
set_option maxRecDepth 100000 in
theorem c_LW_load_ok (l : Launch) (D : va_G) (cI cC cJ : ClassId) (h : Nat → Nat) (n0 : Nat) (S : Nat → Nat) (n2 : Nat) (M : Nat → Nat) (n3 : Nat) (B : Nat → Nat) (n4 : Nat) (E : Nat → Nat) (rt : Nat) (hh : zs_inj h) (hn0 : n0 ≤ 4) (hn2 : n2 ≤ 40) (hn3 : n3 ≤ 120) (hn4 : n4 ≤ 160) (o : Nat) (v : Int64) (ho : ¬ zAS h o) (hpf : zs_pf n4 E = 1) : Met l y_LW_load (zw k_LW_load) ({ frames := 7, cells := 0, slots := 0, locals := 111 }) (zPcY [.ref (h 0), .ref o] (fun H => zCl D cI h n0 S n2 M n3 B n4 E rt H ∧ zOu D cJ o v H) D cI cC cJ (zX3 (zAO h o))) (zQm (some (.int (nI 0))) (fun H => zCl D cI h n0 S n2 M (n4 * 6 / 8) (zs_lds E (n4 * 6 / 8)).2 0 E rt H ∧ zOu D cJ o ((nI (n4 * 6 / 8)).toInt64) H) (zAO h o)) 0 0 (zAO h o) := by
  refine zMetW (by decide) (Nat.le_of_ble_eq_true rfl) ?_
  intro p e s m below meth c hx hb hr hg hown hlk hml htb hB0 hE hX ls hl
  have hl : lv_has ls 3 [(0, .ref (h 0)), (1, .ref o)] := hl
  have hS9 : CallFix p m c b_LW_load 3 s [.ref (h 0), .ref o].toArray zg "SealedFilesLaw" := ⟨hx, hb, hml, hown, hg⟩
  obtain ⟨hC, hO⟩ := hB0
  have hS : va_S (zAO h o) s.heap s.heap [] := va_S.rf
  refine lv_aload_n hx hb d_LW_load_0 rfl (lv_at hl 1 rfl) ?_
  refine lv_iconst (v := (nI 0)) hx hb d_LW_load_1 (by decide) ?_
  refine lv_aload_n hx hb d_LW_load_2 rfl (lv_at hl 0 rfl) ?_
  refine zWr (rest := [.int (nI 0), .ref o]) (zrV hS9 (c_SF_load_ok l D cI cC cJ h n0 S n2 M n3 B n4 E rt hh hn0 hn2 hn3 hn4 hpf) zc_SF_load zw_465 zw_466 zw_467 (by decide) (zCl.recv hE hC) hC hE rfl hl.1 rfl (Nat.le_of_ble_eq_true rfl) d_LW_load_3) hS (fun _ _ h => Or.inl h) (fun _ h => Or.inl h) (fun H locs hC hz hk hS => ?_)
  have hO := hO.kept (fun q h1 h2 => hk q h1 (fun z => ho (h2 ▸ z)))
  refine lv_i2l hx hb d_LW_load_6 rfl ?_
  refine zlast hx hb hE hh ho hC hO hS d_LW_load_7 (fun H locs hC hO hS => ?_)
  refine lv_goto hx hb d_LW_load_8 (tgt := 14) (by decide) ?_
  refine lv_iconst (v := (nI 0)) hx hb d_LW_load_14 (by decide) ?_
  exact W.iret (v := (nI 0)) hx hb hr (fun t ht _ => ⟨rfl, by rw [ht]; exact ⟨hC, hO⟩, hS.F ht⟩) hS.2.2 d_LW_load_15

set_option maxHeartbeats 4000000 in
set_option maxRecDepth 100000 in
theorem c_LW_load_e (l : Launch) (hl9 : l.stackTraces = false) (D : va_G) (cI cC cJ : ClassId) (h : Nat → Nat) (n0 : Nat) (S : Nat → Nat) (n2 : Nat) (M : Nat → Nat) (n3 : Nat) (B : Nat → Nat) (n4 : Nat) (E : Nat → Nat) (rt : Nat) (hh : zs_inj h) (hn0 : n0 ≤ 4) (hn2 : n2 ≤ 40) (hn3 : n3 ≤ 120) (hn4 : n4 ≤ 160) (o : Nat) (v : Int64) (ho : ¬ zAS h o) (hpf : zs_pf n4 E = 0) : Met l y_LW_load (zw k_LW_load) ({ frames := 7, cells := 1, slots := 6, locals := 111 }) (zPcY [.ref (h 0), .ref o] (fun H => zCl D cI h n0 S n2 M n3 B n4 E rt H ∧ zOu D cJ o v H) D cI cC cJ (zX3 (zAO h o))) (zQm (some (.int (nI 1))) (fun H => zCl D cI h n0 S n2 M n3 B 0 E rt H ∧ zOu D cJ o v H) (zAO h o)) 1 6 (zAO h o) := by
  refine zMetW (by decide) (Nat.le_of_ble_eq_true rfl) ?_
  intro p e s m below meth c hx hb hr hg hown hlk hml htb hB0 hE hX ls hl
  have hl : lv_has ls 3 [(0, .ref (h 0)), (1, .ref o)] := hl
  have hS9 : CallFix p m c b_LW_load 3 s [.ref (h 0), .ref o].toArray zg "SealedFilesLaw" := ⟨hx, hb, hml, hown, hg⟩
  obtain ⟨hC, hO⟩ := hB0
  have hS : va_S (zAO h o) s.heap s.heap [] := va_S.rf
  refine lv_aload_n hx hb d_LW_load_0 rfl (lv_at hl 1 rfl) ?_
  refine lv_iconst (v := (nI 0)) hx hb d_LW_load_1 (by decide) ?_
  refine lv_aload_n hx hb d_LW_load_2 rfl (lv_at hl 0 rfl) ?_
  refine vx_calli (rest := [.int (nI 0), .ref o]) (zrVT hS9 (c_SF_load_e l hl9 D cI cC cJ h n0 S n2 M n3 B n4 E rt hh hn0 hn2 hn3 hn4 hpf) zc_SF_load zw_465 zw_466 zw_467 (by decide) (zCl.recv hE hC) hC hE zX2.bl (fun U hU hW => hX.1.use va_S.rf hU hW (fun _ h => Or.inl h)) rfl hl.1 rfl (Nat.le_of_ble_eq_true rfl) d_LW_load_3) hS (fun _ _ h => Or.inl h) (fun _ h => Or.inl h) (fun _ _ h => Or.inl h) (fun E ce q9 u t H locs ht _ _ hB9 hz hk hS hcell hv hcl => ?_) (fun r u t H1 locs1 _ _ h9 => h9.elim)
  obtain ⟨rfl, hC⟩ := hB9
  rw [ht] at hC
  have hO := hO.kept (fun q h1 h2 => hk q h1 (fun z => ho (h2 ▸ z)))
  refine vx_catch (own := "SealedFilesLaw") (name := "java/lang/IllegalArgumentException") hown [] ⟨0, 8, 11, 13⟩ [] htb (fun z hz => nomatch hz) (by decide) (by decide) (hg _ zw_227) (va_Nw.use rfl (hX.1.1 _ (by decide))) hcell hv hcl ?_
  refine W.eq (g2 := F0 m 11 ls [.ref q9]) rfl ?_
  refine lv_astore_n hx hb d_LW_load_11 rfl hl (by decide) (lv' := [(2, .ref q9), (0, .ref (h 0)), (1, .ref o)]) rfl (fun ls hl => ?_)
  refine lv_iconst (v := (nI 1)) hx hb d_LW_load_12 (by decide) ?_
  exact W.iret (v := (nI 1)) hx hb hr (fun t ht _ => ⟨rfl, by rw [ht]; exact ⟨hC, hO⟩, hS.F ht⟩) hS.2.2 d_LW_load_13

