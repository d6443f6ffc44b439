theorem zc_RW_append : zCal y_RW_append b_RW_append 2 (some .boolean) 1 := ⟨zk_RW_append, zw_2, by decide, by decide, by decide +kernel⟩
theorem zc_RW_appendPair : zCal y_RW_appendPair b_RW_appendPair 2 none 1 := ⟨zk_RW_appendPair, zw_2, by decide, by decide, by decide +kernel⟩
theorem zc_RW_has : zCal y_RW_has b_RW_has 2 (some .boolean) 1 := ⟨zk_RW_has, zw_2, by decide, by decide, by decide +kernel⟩
theorem zc_RW_init : zCal y_RW_init b_RW_init 2 none 1 := ⟨zk_RW_init, zw_2, by decide, by decide, by decide +kernel⟩
theorem zc_RW_item : zCal y_RW_item b_RW_item 2 (some .int) 1 := ⟨zk_RW_item, zw_2, by decide, by decide, by decide +kernel⟩
theorem zc_RW_pair : zCal y_RW_pair b_RW_pair 2 (some .int) 1 := ⟨zk_RW_pair, zw_2, by decide, by decide, by decide +kernel⟩
theorem zc_RW_replace : zCal y_RW_replace b_RW_replace 3 none 2 := ⟨zk_RW_replace, zw_2, by decide, by decide, by decide +kernel⟩
theorem zc_RW_shorten : zCal y_RW_shorten b_RW_shorten 2 (some .boolean) 1 := ⟨zk_RW_shorten, zw_2, by decide, by decide, by decide +kernel⟩
theorem zc_RW_sign : zCal y_RW_sign b_RW_sign 9 (some .int) 3 := ⟨zk_RW_sign, zw_2, by decide, by decide, by decide +kernel⟩
theorem zc_RW_size : zCal y_RW_size b_RW_size 1 (some .int) 0 := ⟨zk_RW_size, zw_2, by decide, by decide, by decide +kernel⟩
/-- a Row: its object and its items -/
abbrev zRw (cI : ClassId) (r it cap n : Nat) (f : Nat → Int32) : va_W := [(r, .inr (0, [.ref it, .int (nI n)])), (it, .inl (cI, cap, .inl f))]
def zA2 (r it : Nat) : Nat → Prop := fun q => q = r ∨ q = it
theorem zRw_D {cI : ClassId} {r it cap n : Nat} {f : Nat → Int32} (h : r ≠ it) : va_D (zA2 r it) (zRw cI r it cap n f) := by
  refine ⟨fun i j p q hi hj e => ?_, fun k q hk => ?_⟩
  · match i, j with
    | 0, 0 => rfl
    | 0, 1 => cases hi; cases hj; exact absurd e h
    | 1, 0 => cases hi; cases hj; exact absurd e.symm h
    | 1, 1 => rfl
    | i + 2, _ => cases hi
    | 0, j + 2 => cases hj
    | 1, j + 2 => cases hj
  · match k with
    | 0 => cases hk; exact Or.inl rfl
    | 1 => cases hk; exact Or.inr rfl
    | k + 2 => cases hk
def zs_has (n : Nat) (i : Int32) : Int32 := if i < 0 then nI 0 else if nI n ≤ i then nI 0 else nI 1
theorem zs_has_in {n j : Nat} (hj : j < n) (hn : n < 2 ^ 31) : zs_has n (nI j) = nI 1 := by
  rw [zs_has, if_neg (nI_pos (by omega)), if_neg (nI_ge hj hn)]
theorem zs_has_of {n : Nat} {i : Int32} (hn : n < 2 ^ 31) (h : ¬ zs_has n i = 0) : ∃ j, j < n ∧ i = nI j := by
  rcases pk_ix i hn with h1 | h1 | h1
  · exact absurd (by rw [zs_has, if_pos h1]; rfl) h
  · exact absurd (by rw [zs_has]; split <;> first | rfl | (rw [if_pos h1]; rfl)) h
  · exact h1
theorem zs_has_bit (n : Nat) (i : Int32) : zs_has n i = nI 0 ∨ zs_has n i = nI 1 := by
  unfold zs_has; split
  · exact Or.inl rfl
  · split
    · exact Or.inl rfl
    · exact Or.inr rfl
def zs_item (n : Nat) (f : Nat → Int32) (i : Int32) : Int32 := if zs_has n i = 0 then -1 else f i.toNatClampNeg
theorem zs_item_in {n j : Nat} {f : Nat → Int32} (hj : j < n) (hn : n < 2 ^ 31) : zs_item n f (nI j) = f j := by
  rw [zs_item, zs_has_in hj hn, if_neg (by decide), nI_clamp (by omega)]
set_option maxHeartbeats 4000000 in
set_option maxRecDepth 100000 in
theorem c_RW_size (l : Launch) (D : va_G) (cI cC cJ : ClassId) (r it cap n : Nat) (f : Nat → Int32) (hn : n ≤ cap) (hcap : cap < 2 ^ 31) : Met l y_RW_size (zw k_RW_size) ({ frames := 0, cells := 0, slots := 0, locals := 0 }) (zPc [.ref r] (fun H => va_P D zcl (zRw cI r it cap n f) H) D cI cC cJ) (QcRead (nI n)) 0 0 (fun _ => False) := by
  refine zMet (by decide) (Nat.le_of_ble_eq_true rfl) ?_
  intro p e s m below meth c hx hb hr hg hown hlk hml hP hE ls hl
  have hl : lv_has ls 1 [(0, .ref r)] := hl
  have hS9 : CallFix p m c b_RW_size 1 s [.ref r].toArray zg "SealedFiles$Row" := ⟨hx, hb, hml, hown, hg⟩
  have hP : va_P D zcl [(r, .inr (0, [.ref it, .int (nI n)])), (it, .inl (cI, cap, .inl f))] s.heap := hP
  refine lv_aload_n hx hb d_RW_size_0 rfl (lv_at hl 0 rfl) ?_
  refine va_get (D := D) (ci := 0) (v := .int (nI n)) (C := R_RW) (T := F_RW) (N := 2) hx hb hg i_RW hown hE.1 hP 0 rfl rfl 1 (by decide) (hg _ zw_33) (fun _ h9 => h9) rfl d_RW_size_1 ?_
  exact W.iret (v := (nI n)) hx hb hr (fun t ht _ => ⟨congrArg (fun z => Outcome.returned (some (Value.int z))) (rfl), ht⟩) t_nil d_RW_size_4

set_option maxHeartbeats 4000000 in
set_option maxRecDepth 100000 in
theorem c_RW_has (l : Launch) (D : va_G) (cI cC cJ : ClassId) (r it cap n : Nat) (f : Nat → Int32) (hn : n ≤ cap) (hcap : cap < 2 ^ 31) (i : Int32) : Met l y_RW_has (zw k_RW_has) ({ frames := 0, cells := 0, slots := 0, locals := 0 }) (zPc [.ref r, .int i] (fun H => va_P D zcl (zRw cI r it cap n f) H) D cI cC cJ) (QcRead (zs_has n i)) 0 0 (fun _ => False) := by
  refine zMet (by decide) (Nat.le_of_ble_eq_true rfl) ?_
  intro p e s m below meth c hx hb hr hg hown hlk hml hP hE ls hl
  have hl : lv_has ls 2 [(0, .ref r), (1, .int i)] := hl
  have hS9 : CallFix p m c b_RW_has 2 s [.ref r, .int i].toArray zg "SealedFiles$Row" := ⟨hx, hb, hml, hown, hg⟩
  have hP : va_P D zcl [(r, .inr (0, [.ref it, .int (nI n)])), (it, .inl (cI, cap, .inl f))] s.heap := hP
  refine lv_iload_n hx hb d_RW_has_0 rfl (lv_at hl 1 rfl) ?_
  refine lv_if_lt hx hb d_RW_has_1 (tgt := 16) (by decide) (fun h => ?_) (fun h => ?_)
  · refine lv_iconst (v := (nI 0)) hx hb d_RW_has_16 (by decide) ?_
    exact W.zret (v := (nI 0)) hx hb hr (rfl) (fun t ht _ => ⟨congrArg (fun z => Outcome.returned (some (Value.int z))) (by rw [zs_has, if_pos h]), ht⟩) t_nil d_RW_has_17
  · refine lv_iload_n hx hb d_RW_has_4 rfl (lv_at hl 1 rfl) ?_
    refine lv_aload_n hx hb d_RW_has_5 rfl (lv_at hl 0 rfl) ?_
    refine va_get (D := D) (ci := 0) (v := .int (nI n)) (C := R_RW) (T := F_RW) (N := 2) hx hb hg i_RW hown hE.1 hP 0 rfl rfl 1 (by decide) (hg _ zw_33) (fun _ h9 => h9) rfl d_RW_has_6 ?_
    refine lv_icmp_ge hx hb d_RW_has_9 (tgt := 16) (by decide) (fun h2 => ?_) (fun h2 => ?_)
    · refine lv_iconst (v := (nI 0)) hx hb d_RW_has_16 (by decide) ?_
      exact W.zret (v := (nI 0)) hx hb hr (rfl) (fun t ht _ => ⟨congrArg (fun z => Outcome.returned (some (Value.int z))) (by rw [zs_has, if_neg h, if_pos h2]), ht⟩) t_nil d_RW_has_17
    · refine lv_iconst (v := (nI 1)) hx hb d_RW_has_12 (by decide) ?_
      refine lv_goto hx hb d_RW_has_13 (tgt := 17) (by decide) ?_
      exact W.zret (v := (nI 1)) hx hb hr (rfl) (fun t ht _ => ⟨congrArg (fun z => Outcome.returned (some (Value.int z))) (by rw [zs_has, if_neg h, if_neg h2]), ht⟩) t_nil d_RW_has_17

set_option maxHeartbeats 4000000 in
set_option maxRecDepth 100000 in
theorem c_RW_item (l : Launch) (D : va_G) (cI cC cJ : ClassId) (r it cap n : Nat) (f : Nat → Int32) (hn : n ≤ cap) (hcap : cap < 2 ^ 31) (i : Int32) : Met l y_RW_item (zw k_RW_item) ({ frames := 1, cells := 0, slots := 0, locals := 21 }) (zPc [.ref r, .int i] (fun H => va_P D zcl (zRw cI r it cap n f) H) D cI cC cJ) (QcRead (zs_item n f i)) 0 0 (fun _ => False) := by
  refine zMet (by decide) (Nat.le_of_ble_eq_true rfl) ?_
  intro p e s m below meth c hx hb hr hg hown hlk hml hP hE ls hl
  have hl : lv_has ls 2 [(0, .ref r), (1, .int i)] := hl
  have hS9 : CallFix p m c b_RW_item 2 s [.ref r, .int i].toArray zg "SealedFiles$Row" := ⟨hx, hb, hml, hown, hg⟩
  have hP : va_P D zcl [(r, .inr (0, [.ref it, .int (nI n)])), (it, .inl (cI, cap, .inl f))] s.heap := hP
  refine lv_aload_n hx hb d_RW_item_0 rfl (lv_at hl 0 rfl) ?_
  refine lv_iload_n hx hb d_RW_item_1 rfl (lv_at hl 1 rfl) ?_
  refine zRd (rest := []) (zrV hS9 (c_RW_has l D cI cC cJ r it cap n f hn hcap i) zc_RW_has zw_67 zw_69 zp_1 (by decide) (va_recv hE.1 hP (ci := 0) (q := (R_RW, F_RW, 2)) rfl (q0 := 0) rfl) (hP) hE rfl hl.1 rfl (Nat.le_of_ble_eq_true rfl) d_RW_item_2) ?_
  refine lv_if_eq hx hb d_RW_item_5 (tgt := 17) (by decide) (fun h => ?_) (fun h => ?_)
  · refine lv_iconst (v := (-1)) hx hb d_RW_item_17 (by decide) ?_
    exact W.iret (v := (-1)) hx hb hr (fun t ht _ => ⟨congrArg (fun z => Outcome.returned (some (Value.int z))) (by rw [zs_item, if_pos h]), ht⟩) t_nil d_RW_item_18
  · obtain ⟨j, hj, rfl⟩ := zs_has_of (by omega) h
    refine lv_aload_n hx hb d_RW_item_8 rfl (lv_at hl 0 rfl) ?_
    refine va_get (D := D) (ci := 0) (v := .ref it) (C := R_RW) (T := F_RW) (N := 2) hx hb hg i_RW hown hE.1 hP 0 rfl rfl 0 (by decide) (hg _ zw_32) (fun _ h9 => h9) rfl d_RW_item_9 ?_
    refine lv_iload_n hx hb d_RW_item_12 rfl (lv_at hl 1 rfl) ?_
    refine zald hx hb hE.1 hP 1 0 rfl rfl (by omega) (hcap) d_RW_item_13 ?_
    refine lv_goto hx hb d_RW_item_14 (tgt := 18) (by decide) ?_
    exact W.iret (v := (f j)) hx hb hr (fun t ht _ => ⟨congrArg (fun z => Outcome.returned (some (Value.int z))) ((zs_item_in hj (by omega)).symm), ht⟩) t_nil d_RW_item_18

set_option maxHeartbeats 4000000 in
set_option maxRecDepth 100000 in
theorem c_RW_pair (l : Launch) (D : va_G) (cI cC cJ : ClassId) (r it cap n : Nat) (f : Nat → Int32) (hn : n ≤ cap) (hcap : cap < 2 ^ 31) (i : Int32) : Met l y_RW_pair (zw k_RW_pair) ({ frames := 2, cells := 0, slots := 0, locals := 42 }) (zPc [.ref r, .int i] (fun H => va_P D zcl (zRw cI r it cap n f) H) D cI cC cJ) (QcRead ((zs_item n f i <<< (nI 8 &&& 31)) ||| zs_item n f (i + nI 1))) 0 0 (fun _ => False) := by
  refine zMet (by decide) (Nat.le_of_ble_eq_true rfl) ?_
  intro p e s m below meth c hx hb hr hg hown hlk hml hP hE ls hl
  have hl : lv_has ls 2 [(0, .ref r), (1, .int i)] := hl
  have hS9 : CallFix p m c b_RW_pair 2 s [.ref r, .int i].toArray zg "SealedFiles$Row" := ⟨hx, hb, hml, hown, hg⟩
  have hP : va_P D zcl [(r, .inr (0, [.ref it, .int (nI n)])), (it, .inl (cI, cap, .inl f))] s.heap := hP
  refine lv_aload_n hx hb d_RW_pair_0 rfl (lv_at hl 0 rfl) ?_
  refine lv_iload_n hx hb d_RW_pair_1 rfl (lv_at hl 1 rfl) ?_
  refine zRd (rest := []) (zrV hS9 (c_RW_item l D cI cC cJ r it cap n f hn hcap i) zc_RW_item zw_367 zw_65 zp_0 (by decide) (va_recv hE.1 hP (ci := 0) (q := (R_RW, F_RW, 2)) rfl (q0 := 0) rfl) (hP) hE rfl hl.1 rfl (Nat.le_of_ble_eq_true rfl) d_RW_pair_2) ?_
  refine lv_bipush (v := (nI 8)) hx hb d_RW_pair_5 (by decide) ?_
  refine lv_ishl hx hb d_RW_pair_7 ?_
  refine lv_aload_n hx hb d_RW_pair_8 rfl (lv_at hl 0 rfl) ?_
  refine lv_iload_n hx hb d_RW_pair_9 rfl (lv_at hl 1 rfl) ?_
  refine lv_iconst (v := (nI 1)) hx hb d_RW_pair_10 (by decide) ?_
  refine lv_iadd hx hb d_RW_pair_11 ?_
  refine zRd (rest := [.int ((zs_item n f i) <<< ((nI 8) &&& 31))]) (zrV hS9 (c_RW_item l D cI cC cJ r it cap n f hn hcap (i + nI 1)) zc_RW_item zw_367 zw_65 zp_0 (by decide) (va_recv hE.1 hP (ci := 0) (q := (R_RW, F_RW, 2)) rfl (q0 := 0) rfl) (hP) hE rfl hl.1 rfl (Nat.le_of_ble_eq_true rfl) d_RW_pair_12) ?_
  refine lv_ior hx hb d_RW_pair_15 ?_
  exact W.iret (v := (((zs_item n f i) <<< ((nI 8) &&& 31)) ||| (zs_item n f (i + nI 1)))) hx hb hr (fun t ht _ => ⟨congrArg (fun z => Outcome.returned (some (Value.int z))) (rfl), ht⟩) t_nil d_RW_pair_16

set_option maxHeartbeats 4000000 in
set_option maxRecDepth 100000 in
theorem c_RW_append (l : Launch) (D : va_G) (cI cC cJ : ClassId) (r it cap n : Nat) (f : Nat → Int32) (hn : n ≤ cap) (hcap : cap < 2 ^ 31) (hne : r ≠ it) (x : Int32) (h : n < cap) : Met l y_RW_append (zw k_RW_append) ({ frames := 0, cells := 0, slots := 0, locals := 0 }) (zPc [.ref r, .int x] (fun H => va_P D zcl (zRw cI r it cap n f) H) D cI cC cJ) (zQm (some (.int (nI 1))) (fun H => va_P D zcl (zRw cI r it cap (n + 1) (upd f n x)) H) (zA2 r it)) 0 0 (zA2 r it) := by
  refine zMet (by decide) (Nat.le_of_ble_eq_true rfl) ?_
  intro p e s m below meth c hx hb hr hg hown hlk hml hP hE ls hl
  have hl : lv_has ls 2 [(0, .ref r), (1, .int x)] := hl
  have hS9 : CallFix p m c b_RW_append 2 s [.ref r, .int x].toArray zg "SealedFiles$Row" := ⟨hx, hb, hml, hown, hg⟩
  have hP : va_P D zcl [(r, .inr (0, [.ref it, .int (nI n)])), (it, .inl (cI, cap, .inl f))] s.heap := hP
  have hD : va_D (zA2 r it) [(r, .inr (0, [.ref it, .int (nI n)])), (it, .inl (cI, cap, .inl f))] := zRw_D hne
  have hS : va_S (zA2 r it) s.heap s.heap [] := va_S.rf
  refine lv_aload_n hx hb d_RW_append_0 rfl (lv_at hl 0 rfl) ?_
  refine va_get (D := D) (ci := 0) (v := .int (nI n)) (C := R_RW) (T := F_RW) (N := 2) hx hb hg i_RW hown hE.1 hP 0 rfl rfl 1 (by decide) (hg _ zw_33) (fun _ h9 => h9) rfl d_RW_append_1 ?_
  refine lv_aload_n hx hb d_RW_append_4 rfl (lv_at hl 0 rfl) ?_
  refine va_get (D := D) (ci := 0) (v := .ref it) (C := R_RW) (T := F_RW) (N := 2) hx hb hg i_RW hown hE.1 hP 0 rfl rfl 0 (by decide) (hg _ zw_32) (fun _ h9 => h9) rfl d_RW_append_5 ?_
  refine va_alen (v := nI cap) hx hb hE.1 hP 1 0 rfl rfl rfl d_RW_append_8 ?_
  refine lv_icmp_lt hx hb d_RW_append_9 (tgt := 14) (by decide) (fun _ => ?_) (fun z9 => absurd (nI_lt h hcap) z9)
  refine lv_aload_n hx hb d_RW_append_14 rfl (lv_at hl 0 rfl) ?_
  refine va_get (D := D) (ci := 0) (v := .ref it) (C := R_RW) (T := F_RW) (N := 2) hx hb hg i_RW hown hE.1 hP 0 rfl rfl 0 (by decide) (hg _ zw_32) (fun _ h9 => h9) rfl d_RW_append_15 ?_
  refine lv_aload_n hx hb d_RW_append_18 rfl (lv_at hl 0 rfl) ?_
  refine va_get (D := D) (ci := 0) (v := .int (nI n)) (C := R_RW) (T := F_RW) (N := 2) hx hb hg i_RW hown hE.1 hP 0 rfl rfl 1 (by decide) (hg _ zw_33) (fun _ h9 => h9) rfl d_RW_append_19 ?_
  refine lv_iload_n hx hb d_RW_append_22 rfl (lv_at hl 1 rfl) ?_
  refine zast hx hb hE.1 hP hD hS 1 0 rfl rfl (h) (hcap) d_RW_append_23 (fun H locs hP hD hS => ?_)
  have hP : va_P D zcl [(r, .inr (0, [.ref it, .int (nI n)])), (it, .inl (cI, cap, .inl (upd f n x)))] H := hP
  have hD : va_D (zA2 r it) [(r, .inr (0, [.ref it, .int (nI n)])), (it, .inl (cI, cap, .inl (upd f n x)))] := hD
  refine lv_aload_n hx hb d_RW_append_24 rfl (lv_at hl 0 rfl) ?_
  refine lv_dup hx hb d_RW_append_25 rfl ?_
  refine va_get (D := D) (ci := 0) (v := .int (nI n)) (C := R_RW) (T := F_RW) (N := 2) hx hb hg i_RW hown hE.1 hP 0 rfl rfl 1 (by decide) (hg _ zw_33) (fun _ h9 => h9) rfl d_RW_append_26 ?_
  refine lv_iconst (v := (nI 1)) hx hb d_RW_append_29 (by decide) ?_
  refine lv_iadd hx hb d_RW_append_30 ?_
  refine ztop (y := nI (n + 1)) (nI_1 n) ?_
  refine va_put (D := D) (ci := 0) (v := .int (nI (n + 1))) (ty := .int) (C := R_RW) (T := F_RW) (N := 2) hx hb hg i_RW t_RW t_RW_ok n_RW hown hE.1 hP hD hS 0 rfl rfl 1 (by decide) (hg _ zw_33) (fun _ h9 => h9) rfl (by decide +kernel) rfl rfl (Nat.le_of_ble_eq_true rfl) d_RW_append_31 (fun H locs hP hD hS => ?_)
  have hP : va_P D zcl [(r, .inr (0, [.ref it, .int (nI (n + 1))])), (it, .inl (cI, cap, .inl (upd f n x)))] H := hP
  have hD : va_D (zA2 r it) [(r, .inr (0, [.ref it, .int (nI (n + 1))])), (it, .inl (cI, cap, .inl (upd f n x)))] := hD
  refine lv_iconst (v := (nI 1)) hx hb d_RW_append_34 (by decide) ?_
  exact W.zret (v := (nI 1)) hx hb hr (rfl) (fun t ht _ => ⟨rfl, by rw [ht]; exact hP, hS.F ht⟩) hS.2.2 d_RW_append_35

set_option maxHeartbeats 4000000 in
set_option maxRecDepth 100000 in
theorem c_RW_append_full (l : Launch) (D : va_G) (cI cC cJ : ClassId) (r it cap n : Nat) (f : Nat → Int32) (hn : n ≤ cap) (hcap : cap < 2 ^ 31) (hne : r ≠ it) (x : Int32) (h : n = cap) : Met l y_RW_append (zw k_RW_append) ({ frames := 0, cells := 0, slots := 0, locals := 0 }) (zPc [.ref r, .int x] (fun H => va_P D zcl (zRw cI r it cap n f) H) D cI cC cJ) (zQm (some (.int (nI 0))) (fun H => va_P D zcl (zRw cI r it cap n f) H) (zA2 r it)) 0 0 (zA2 r it) := by
  refine zMet (by decide) (Nat.le_of_ble_eq_true rfl) ?_
  intro p e s m below meth c hx hb hr hg hown hlk hml hP hE ls hl
  have hl : lv_has ls 2 [(0, .ref r), (1, .int x)] := hl
  have hS9 : CallFix p m c b_RW_append 2 s [.ref r, .int x].toArray zg "SealedFiles$Row" := ⟨hx, hb, hml, hown, hg⟩
  have hP : va_P D zcl [(r, .inr (0, [.ref it, .int (nI n)])), (it, .inl (cI, cap, .inl f))] s.heap := hP
  have hD : va_D (zA2 r it) [(r, .inr (0, [.ref it, .int (nI n)])), (it, .inl (cI, cap, .inl f))] := zRw_D hne
  have hS : va_S (zA2 r it) s.heap s.heap [] := va_S.rf
  refine lv_aload_n hx hb d_RW_append_0 rfl (lv_at hl 0 rfl) ?_
  refine va_get (D := D) (ci := 0) (v := .int (nI n)) (C := R_RW) (T := F_RW) (N := 2) hx hb hg i_RW hown hE.1 hP 0 rfl rfl 1 (by decide) (hg _ zw_33) (fun _ h9 => h9) rfl d_RW_append_1 ?_
  refine lv_aload_n hx hb d_RW_append_4 rfl (lv_at hl 0 rfl) ?_
  refine va_get (D := D) (ci := 0) (v := .ref it) (C := R_RW) (T := F_RW) (N := 2) hx hb hg i_RW hown hE.1 hP 0 rfl rfl 0 (by decide) (hg _ zw_32) (fun _ h9 => h9) rfl d_RW_append_5 ?_
  refine va_alen (v := nI cap) hx hb hE.1 hP 1 0 rfl rfl rfl d_RW_append_8 ?_
  refine lv_icmp_lt hx hb d_RW_append_9 (tgt := 14) (by decide) (fun z9 => absurd z9 (nI_nlt (by omega) (by omega))) (fun _ => ?_)
  refine lv_iconst (v := (nI 0)) hx hb d_RW_append_12 (by decide) ?_
  exact W.zret (v := (nI 0)) hx hb hr (rfl) (fun t ht _ => ⟨rfl, by rw [ht]; exact hP, hS.F ht⟩) hS.2.2 d_RW_append_13

set_option maxHeartbeats 4000000 in
set_option maxRecDepth 100000 in
theorem c_RW_replace (l : Launch) (D : va_G) (cI cC cJ : ClassId) (r it cap n : Nat) (f : Nat → Int32) (hn : n ≤ cap) (hcap : cap < 2 ^ 31) (hne : r ≠ it) (j : Nat) (x : Int32) (hj : j < n) : Met l y_RW_replace (zw k_RW_replace) ({ frames := 1, cells := 0, slots := 0, locals := 21 }) (zPc [.ref r, .int (nI j), .int x] (fun H => va_P D zcl (zRw cI r it cap n f) H) D cI cC cJ) (zQm none (fun H => va_P D zcl (zRw cI r it cap n (upd f j x)) H) (zA2 r it)) 0 0 (zA2 r it) := by
  refine zMet (by decide) (Nat.le_of_ble_eq_true rfl) ?_
  intro p e s m below meth c hx hb hr hg hown hlk hml hP hE ls hl
  have hl : lv_has ls 3 [(0, .ref r), (1, .int (nI j)), (2, .int x)] := hl
  have hS9 : CallFix p m c b_RW_replace 3 s [.ref r, .int (nI j), .int x].toArray zg "SealedFiles$Row" := ⟨hx, hb, hml, hown, hg⟩
  have hP : va_P D zcl [(r, .inr (0, [.ref it, .int (nI n)])), (it, .inl (cI, cap, .inl f))] s.heap := hP
  have hD : va_D (zA2 r it) [(r, .inr (0, [.ref it, .int (nI n)])), (it, .inl (cI, cap, .inl f))] := zRw_D hne
  have hS : va_S (zA2 r it) s.heap s.heap [] := va_S.rf
  refine lv_aload_n hx hb d_RW_replace_0 rfl (lv_at hl 0 rfl) ?_
  refine lv_iload_n hx hb d_RW_replace_1 rfl (lv_at hl 1 rfl) ?_
  refine zRd (rest := []) (zrV hS9 (c_RW_has l D cI cC cJ r it cap n f hn hcap (nI j)) zc_RW_has zw_67 zw_69 zp_1 (by decide) (va_recv hE.1 hP (ci := 0) (q := (R_RW, F_RW, 2)) rfl (q0 := 0) rfl) (hP) hE rfl hl.1 rfl (Nat.le_of_ble_eq_true rfl) d_RW_replace_2) ?_
  refine lv_if_eq hx hb d_RW_replace_5 (tgt := 15) (by decide) (fun z9 => absurd z9 (by rw [zs_has_in hj (by omega)]; decide)) (fun _ => ?_)
  refine lv_aload_n hx hb d_RW_replace_8 rfl (lv_at hl 0 rfl) ?_
  refine va_get (D := D) (ci := 0) (v := .ref it) (C := R_RW) (T := F_RW) (N := 2) hx hb hg i_RW hown hE.1 hP 0 rfl rfl 0 (by decide) (hg _ zw_32) (fun _ h9 => h9) rfl d_RW_replace_9 ?_
  refine lv_iload_n hx hb d_RW_replace_12 rfl (lv_at hl 1 rfl) ?_
  refine lv_iload_n hx hb d_RW_replace_13 rfl (lv_at hl 2 rfl) ?_
  refine zast hx hb hE.1 hP hD hS 1 0 rfl rfl (by omega) (hcap) d_RW_replace_14 (fun H locs hP hD hS => ?_)
  have hP : va_P D zcl [(r, .inr (0, [.ref it, .int (nI n)])), (it, .inl (cI, cap, .inl (upd f j x)))] H := hP
  have hD : va_D (zA2 r it) [(r, .inr (0, [.ref it, .int (nI n)])), (it, .inl (cI, cap, .inl (upd f j x)))] := hD
  exact W.vret hx hb hr (fun t ht _ => ⟨rfl, by rw [ht]; exact hP, hS.F ht⟩) hS.2.2 d_RW_replace_15

set_option maxHeartbeats 4000000 in
set_option maxRecDepth 100000 in
theorem c_RW_shorten (l : Launch) (D : va_G) (cI cC cJ : ClassId) (r it cap n : Nat) (f : Nat → Int32) (hn : n ≤ cap) (hcap : cap < 2 ^ 31) (hne : r ≠ it) (j : Nat) (hj : j < n) : Met l y_RW_shorten (zw k_RW_shorten) ({ frames := 0, cells := 0, slots := 0, locals := 0 }) (zPc [.ref r, .int (nI j)] (fun H => va_P D zcl (zRw cI r it cap n f) H) D cI cC cJ) (zQm (some (.int (nI 1))) (fun H => va_P D zcl (zRw cI r it cap j f) H) (zA2 r it)) 0 0 (zA2 r it) := by
  refine zMet (by decide) (Nat.le_of_ble_eq_true rfl) ?_
  intro p e s m below meth c hx hb hr hg hown hlk hml hP hE ls hl
  have hl : lv_has ls 2 [(0, .ref r), (1, .int (nI j))] := hl
  have hS9 : CallFix p m c b_RW_shorten 2 s [.ref r, .int (nI j)].toArray zg "SealedFiles$Row" := ⟨hx, hb, hml, hown, hg⟩
  have hP : va_P D zcl [(r, .inr (0, [.ref it, .int (nI n)])), (it, .inl (cI, cap, .inl f))] s.heap := hP
  have hD : va_D (zA2 r it) [(r, .inr (0, [.ref it, .int (nI n)])), (it, .inl (cI, cap, .inl f))] := zRw_D hne
  have hS : va_S (zA2 r it) s.heap s.heap [] := va_S.rf
  refine lv_iload_n hx hb d_RW_shorten_0 rfl (lv_at hl 1 rfl) ?_
  refine lv_if_lt hx hb d_RW_shorten_1 (tgt := 12) (by decide) (fun z9 => absurd z9 (nI_pos (by omega))) (fun _ => ?_)
  refine lv_iload_n hx hb d_RW_shorten_4 rfl (lv_at hl 1 rfl) ?_
  refine lv_aload_n hx hb d_RW_shorten_5 rfl (lv_at hl 0 rfl) ?_
  refine va_get (D := D) (ci := 0) (v := .int (nI n)) (C := R_RW) (T := F_RW) (N := 2) hx hb hg i_RW hown hE.1 hP 0 rfl rfl 1 (by decide) (hg _ zw_33) (fun _ h9 => h9) rfl d_RW_shorten_6 ?_
  refine lv_icmp_lt hx hb d_RW_shorten_9 (tgt := 14) (by decide) (fun _ => ?_) (fun z9 => absurd (nI_lt hj (by omega)) z9)
  refine lv_aload_n hx hb d_RW_shorten_14 rfl (lv_at hl 0 rfl) ?_
  refine lv_iload_n hx hb d_RW_shorten_15 rfl (lv_at hl 1 rfl) ?_
  refine va_put (D := D) (ci := 0) (v := .int (nI j)) (ty := .int) (C := R_RW) (T := F_RW) (N := 2) hx hb hg i_RW t_RW t_RW_ok n_RW hown hE.1 hP hD hS 0 rfl rfl 1 (by decide) (hg _ zw_33) (fun _ h9 => h9) rfl (by decide +kernel) rfl rfl (Nat.le_of_ble_eq_true rfl) d_RW_shorten_16 (fun H locs hP hD hS => ?_)
  have hP : va_P D zcl [(r, .inr (0, [.ref it, .int (nI j)])), (it, .inl (cI, cap, .inl f))] H := hP
  have hD : va_D (zA2 r it) [(r, .inr (0, [.ref it, .int (nI j)])), (it, .inl (cI, cap, .inl f))] := hD
  refine lv_iconst (v := (nI 1)) hx hb d_RW_shorten_19 (by decide) ?_
  exact W.zret (v := (nI 1)) hx hb hr (rfl) (fun t ht _ => ⟨rfl, by rw [ht]; exact hP, hS.F ht⟩) hS.2.2 d_RW_shorten_20

set_option maxHeartbeats 4000000 in
set_option maxRecDepth 100000 in
theorem c_RW_shorten_no (l : Launch) (D : va_G) (cI cC cJ : ClassId) (r it cap n : Nat) (f : Nat → Int32) (hn : n ≤ cap) (hcap : cap < 2 ^ 31) (hne : r ≠ it) (i : Int32) (h : i < 0 ∨ nI n ≤ i) : Met l y_RW_shorten (zw k_RW_shorten) ({ frames := 0, cells := 0, slots := 0, locals := 0 }) (zPc [.ref r, .int i] (fun H => va_P D zcl (zRw cI r it cap n f) H) D cI cC cJ) (zQm (some (.int (nI 0))) (fun H => va_P D zcl (zRw cI r it cap n f) H) (zA2 r it)) 0 0 (zA2 r it) := by
  refine zMet (by decide) (Nat.le_of_ble_eq_true rfl) ?_
  intro p e s m below meth c hx hb hr hg hown hlk hml hP hE ls hl
  have hl : lv_has ls 2 [(0, .ref r), (1, .int i)] := hl
  have hS9 : CallFix p m c b_RW_shorten 2 s [.ref r, .int i].toArray zg "SealedFiles$Row" := ⟨hx, hb, hml, hown, hg⟩
  have hP : va_P D zcl [(r, .inr (0, [.ref it, .int (nI n)])), (it, .inl (cI, cap, .inl f))] s.heap := hP
  have hD : va_D (zA2 r it) [(r, .inr (0, [.ref it, .int (nI n)])), (it, .inl (cI, cap, .inl f))] := zRw_D hne
  have hS : va_S (zA2 r it) s.heap s.heap [] := va_S.rf
  refine lv_iload_n hx hb d_RW_shorten_0 rfl (lv_at hl 1 rfl) ?_
  refine lv_if_lt hx hb d_RW_shorten_1 (tgt := 12) (by decide) (fun h1 => ?_) (fun h1 => ?_)
  · refine lv_iconst (v := (nI 0)) hx hb d_RW_shorten_12 (by decide) ?_
    exact W.zret (v := (nI 0)) hx hb hr (rfl) (fun t ht _ => ⟨rfl, by rw [ht]; exact hP, hS.F ht⟩) hS.2.2 d_RW_shorten_13
  · refine lv_iload_n hx hb d_RW_shorten_4 rfl (lv_at hl 1 rfl) ?_
    refine lv_aload_n hx hb d_RW_shorten_5 rfl (lv_at hl 0 rfl) ?_
    refine va_get (D := D) (ci := 0) (v := .int (nI n)) (C := R_RW) (T := F_RW) (N := 2) hx hb hg i_RW hown hE.1 hP 0 rfl rfl 1 (by decide) (hg _ zw_33) (fun _ h9 => h9) rfl d_RW_shorten_6 ?_
    refine lv_icmp_lt hx hb d_RW_shorten_9 (tgt := 14) (by decide) (fun z9 => absurd z9 (fun h2 => h.elim h1 (fun h3 => Int32.not_lt.mpr h3 h2))) (fun _ => ?_)
    refine lv_iconst (v := (nI 0)) hx hb d_RW_shorten_12 (by decide) ?_
    exact W.zret (v := (nI 0)) hx hb hr (rfl) (fun t ht _ => ⟨rfl, by rw [ht]; exact hP, hS.F ht⟩) hS.2.2 d_RW_shorten_13

set_option maxHeartbeats 4000000 in
set_option maxRecDepth 100000 in
theorem c_RW_appendPair (l : Launch) (D : va_G) (cI cC cJ : ClassId) (r it cap n : Nat) (f : Nat → Int32) (hn : n ≤ cap) (hcap : cap < 2 ^ 31) (hne : r ≠ it) (x : Int32) (h : n + 2 ≤ cap) : Met l y_RW_appendPair (zw k_RW_appendPair) ({ frames := 1, cells := 0, slots := 0, locals := 21 }) (zPc [.ref r, .int x] (fun H => va_P D zcl (zRw cI r it cap n f) H) D cI cC cJ) (zQm none (fun H => va_P D zcl (zRw cI r it cap (n + 2) (upd (upd f n (zs_u x (nI 8))) (n + 1) (x &&& nI 255))) H) (zA2 r it)) 0 0 (zA2 r it) := by
  refine zMet (by decide) (Nat.le_of_ble_eq_true rfl) ?_
  intro p e s m below meth c hx hb hr hg hown hlk hml hP hE ls hl
  have hl : lv_has ls 2 [(0, .ref r), (1, .int x)] := hl
  have hS9 : CallFix p m c b_RW_appendPair 2 s [.ref r, .int x].toArray zg "SealedFiles$Row" := ⟨hx, hb, hml, hown, hg⟩
  have hP : va_P D zcl [(r, .inr (0, [.ref it, .int (nI n)])), (it, .inl (cI, cap, .inl f))] s.heap := hP
  have hD : va_D (zA2 r it) [(r, .inr (0, [.ref it, .int (nI n)])), (it, .inl (cI, cap, .inl f))] := zRw_D hne
  have hS : va_S (zA2 r it) s.heap s.heap [] := va_S.rf
  refine lv_aload_n hx hb d_RW_appendPair_0 rfl (lv_at hl 0 rfl) ?_
  refine lv_iload_n hx hb d_RW_appendPair_1 rfl (lv_at hl 1 rfl) ?_
  refine lv_bipush (v := (nI 8)) hx hb d_RW_appendPair_2 (by decide) ?_
  refine lv_iushr (v := zs_u x (nI 8)) hx hb d_RW_appendPair_4 rfl ?_
  refine zWr (rest := []) (zrV hS9 (c_RW_append l D cI cC cJ r it cap n f hn hcap hne (zs_u x (nI 8)) (by omega)) zc_RW_append zw_356 zw_77 zp_2 (by decide) (va_recv hE.1 hP (ci := 0) (q := (R_RW, F_RW, 2)) rfl (q0 := 0) rfl) (hP) hE rfl hl.1 rfl (Nat.le_of_ble_eq_true rfl) d_RW_appendPair_5) hS (fun _ _ h => h) (fun _ h => h) (fun H locs hP hz hk hS => ?_)
  have hD : va_D (zA2 r it) [(r, .inr (0, [.ref it, .int (nI (n + 1))])), (it, .inl (cI, cap, .inl (upd f n (zs_u x (nI 8)))))] := zRw_D hne
  have hP : va_P D zcl [(r, .inr (0, [.ref it, .int (nI (n + 1))])), (it, .inl (cI, cap, .inl (upd f n (zs_u x (nI 8)))))] H := hP
  have hD : va_D (zA2 r it) [(r, .inr (0, [.ref it, .int (nI (n + 1))])), (it, .inl (cI, cap, .inl (upd f n (zs_u x (nI 8)))))] := hD
  refine lv_pop hx hb d_RW_appendPair_8 rfl ?_
  refine lv_aload_n hx hb d_RW_appendPair_9 rfl (lv_at hl 0 rfl) ?_
  refine lv_iload_n hx hb d_RW_appendPair_10 rfl (lv_at hl 1 rfl) ?_
  refine lv_sipush (v := (nI 255)) hx hb d_RW_appendPair_11 (by decide) ?_
  refine lv_iand hx hb d_RW_appendPair_14 ?_
  refine zWr (rest := []) (zrV hS9 (c_RW_append l D cI cC cJ r it cap (n + 1) (upd f n (zs_u x (nI 8))) (by omega) hcap hne (x &&& nI 255) (by omega)) zc_RW_append zw_356 zw_77 zp_2 (by decide) (va_recv hE.1 hP (ci := 0) (q := (R_RW, F_RW, 2)) rfl (q0 := 0) rfl) (hP) hE rfl hl.1 rfl (Nat.le_of_ble_eq_true rfl) d_RW_appendPair_15) hS (fun _ _ h => h) (fun _ h => h) (fun H locs hP hz hk hS => ?_)
  have hD : va_D (zA2 r it) [(r, .inr (0, [.ref it, .int (nI (n + 2))])), (it, .inl (cI, cap, .inl (upd (upd f n (zs_u x (nI 8))) (n + 1) (x &&& nI 255))))] := zRw_D hne
  have hP : va_P D zcl [(r, .inr (0, [.ref it, .int (nI (n + 2))])), (it, .inl (cI, cap, .inl (upd (upd f n (zs_u x (nI 8))) (n + 1) (x &&& nI 255))))] H := hP
  have hD : va_D (zA2 r it) [(r, .inr (0, [.ref it, .int (nI (n + 2))])), (it, .inl (cI, cap, .inl (upd (upd f n (zs_u x (nI 8))) (n + 1) (x &&& nI 255))))] := hD
  refine lv_pop hx hb d_RW_appendPair_18 rfl ?_
  exact W.vret hx hb hr (fun t ht _ => ⟨rfl, by rw [ht]; exact hP, hS.F ht⟩) hS.2.2 d_RW_appendPair_19

theorem zs_fac_i (g : Int32) : nI 1 + (zs_u g (nI 8) - zs_u g (nI 8) / nI 65520 * nI 65520) = nI (zs_fac g) := by
  have h := zs_un_lt g
  rw [zs_u_un g (by decide), pk_rem (by omega) (by decide) (by decide), nI_add]
  rfl
theorem zs_fac_r (g : Int32) : zs_u g (nI 8) - zs_u g (nI 8) / nI 65520 * nI 65520 = nI (zs_un g / 2 ^ 8 % 65520) := by
  have h := zs_un_lt g
  rw [zs_u_un g (by decide), pk_rem (by omega) (by decide) (by decide)]
set_option maxHeartbeats 4000000 in
set_option maxRecDepth 100000 in
theorem c_RW_sign (l : Launch) (D : va_G) (cI cC cJ : ClassId) (r it cap n : Nat) (f : Nat → Int32) (hn : n ≤ cap) (hcap : cap < 2 ^ 31) (B : Nat → Nat) (hB9 : zs_hold 256 f (n, B)) (a b : Nat) (hab : a ≤ b) (hbn : b ≤ n) (g : Int32) : Met l y_RW_sign (zw k_RW_sign) ({ frames := 2, cells := 0, slots := 0, locals := 42 }) (zPc [.ref r, .int (nI a), .int (nI b), .int g] (fun H => va_P D zcl (zRw cI r it cap n f) H) D cI cC cJ) (QcRead (nI (zs_sg B a b g))) 0 0 (fun _ => False) := by
  refine zMet (by decide) (Nat.le_of_ble_eq_true rfl) ?_
  intro p e s m below meth c hx hb hr hg hown hlk hml hP hE ls hl
  have hl : lv_has ls 9 [(0, .ref r), (1, .int (nI a)), (2, .int (nI b)), (3, .int g)] := hl
  have hS9 : CallFix p m c b_RW_sign 9 s [.ref r, .int (nI a), .int (nI b), .int g].toArray zg "SealedFiles$Row" := ⟨hx, hb, hml, hown, hg⟩
  have hP : va_P D zcl [(r, .inr (0, [.ref it, .int (nI n)])), (it, .inl (cI, cap, .inl f))] s.heap := hP
  refine lv_iconst (v := (nI 1)) hx hb d_RW_sign_0 (by decide) ?_
  refine lv_iload_n hx hb d_RW_sign_1 rfl (lv_at hl 3 rfl) ?_
  refine lv_bipush (v := (nI 8)) hx hb d_RW_sign_2 (by decide) ?_
  refine lv_iushr (v := zs_u g (nI 8)) hx hb d_RW_sign_4 rfl ?_
  refine lv_ldc (v := (nI 65520)) hx hb hown (hg _ zw_366) d_RW_sign_5 ?_
  refine lv_irem hx hb d_RW_sign_7 (by decide) ?_
  refine lv_iadd hx hb d_RW_sign_8 ?_
  refine ztop (y := nI (zs_fac g)) (zs_fac_i g) ?_
  refine lv_i2l hx hb d_RW_sign_9 rfl ?_
  refine ztopl (y := lN (zs_fac g)) (nI_l (by have := zs_fac_le g; omega)) ?_
  refine lv_lstore hx hb d_RW_sign_10 hl (by decide) (lv' := [(4, .long (lN (zs_fac g))), (0, .ref r), (1, .int (nI a)), (2, .int (nI b)), (3, .int g)]) rfl (fun ls hl => ?_)
  refine lv_lconst (v := lN 0) hx hb d_RW_sign_12 (by decide) ?_
  refine ztopl (y := lN (zs_sgt B (zs_fac g) a 0)) (rfl) ?_
  refine lv_lstore hx hb d_RW_sign_13 hl (by decide) (lv' := [(6, .long (lN (zs_sgt B (zs_fac g) a 0))), (4, .long (lN (zs_fac g))), (0, .ref r), (1, .int (nI a)), (2, .int (nI b)), (3, .int g)]) rfl (fun ls hl => ?_)
  refine lv_iload_n hx hb d_RW_sign_15 rfl (lv_at hl 3 rfl) ?_
  refine lv_istore hx hb d_RW_sign_16 hl (by decide) (lv' := [(8, .int (nI a)), (6, .long (lN (zs_sgt B (zs_fac g) a 0))), (4, .long (lN (zs_fac g))), (0, .ref r), (1, .int (nI a)), (2, .int (nI b)), (3, .int g)]) rfl (fun ls hl => ?_)
  have hl : lv_has ls 9 [(8, .int (nI a)), (6, .long (lN (zs_sgt B (zs_fac g) a 0))), (4, .long (lN (zs_fac g))), (0, .ref r), (1, .int (nI a)), (2, .int (nI b)), (3, .int g)] := lv_sub hl [0, 1, 2, 3, 4, 5, 6] rfl
  have loop : ∀ (k : Nat) (i : Nat), i + k = b - a → ∀ ls : Array Slot, lv_has ls 9 [(8, .int (nI (a + i))), (6, .long (lN (zs_sgt B (zs_fac g) a i))), (4, .long (lN (zs_fac g))), (0, .ref r), (1, .int (nI a)), (2, .int (nI b)), (3, .int g)] → W p l e ({ frames := 2, cells := 0, slots := 0, locals := 42 }) s m [.ref r, .int (nI a), .int (nI b), .int g].toArray below meth c s.heap [] 0 0 (MQ below (QcRead (nI (zs_sg B a b g))) [.ref r, .int (nI a), .int (nI b), .int g].toArray s 0 0 (fun _ => False)) (F0 m 18 ls []) := by
    intro k
    induction k with
    | zero =>
      intro i hi ls hl
      refine lv_iload hx hb d_RW_sign_18 (lv_at hl 0 rfl) ?_
      refine lv_iload_n hx hb d_RW_sign_20 rfl (lv_at hl 5 rfl) ?_
      refine lv_icmp_ge hx hb d_RW_sign_21 (tgt := 51) (by decide) (fun _ => ?_) (fun z9 => absurd (show nI b ≤ nI (a + i) from by rw [show a + i = b by omega]; exact Int32.le_refl _) z9)
      refine lv_lload hx hb d_RW_sign_51 (lv_at hl 1 rfl) ?_
      refine lv_iload_n hx hb d_RW_sign_53 rfl (lv_at hl 6 rfl) ?_
      refine lv_sipush (v := (nI 255)) hx hb d_RW_sign_54 (by decide) ?_
      refine lv_iand hx hb d_RW_sign_57 ?_
      refine ztop (y := nI (zs_un g % 2 ^ 8)) (zs_and g 8 (by decide)) ?_
      refine lv_i2l hx hb d_RW_sign_58 rfl ?_
      refine ztopl (y := lN (zs_un g % 2 ^ 8)) (nI_l (by omega)) ?_
      refine lv_ladd hx hb d_RW_sign_59 ?_
      refine lv_ldc2 (v := lN 65521) hx hb hown (hg _ zw_368) d_RW_sign_60 ?_
      refine lv_lrem hx hb d_RW_sign_63 (by decide) ?_
      refine ztopl (y := lN ((zs_sgt B (zs_fac g) a i + zs_un g % 2 ^ 8) % 65521)) (zs_sgt_fin B (zs_fac g) a i (by omega)) ?_
      refine lv_l2i hx hb d_RW_sign_64 rfl ?_
      refine ztop (y := nI ((zs_sgt B (zs_fac g) a i + zs_un g % 2 ^ 8) % 65521)) (lN_i _) ?_
      exact W.iret (v := (nI ((zs_sgt B (zs_fac g) a i + zs_un g % 2 ^ 8) % 65521))) hx hb hr (fun t ht _ => ⟨congrArg (fun z => Outcome.returned (some (Value.int z))) (by rw [zs_sg, show b - a = i by omega]), ht⟩) t_nil d_RW_sign_65
    | succ k ih =>
      intro i hi ls hl
      refine lv_iload hx hb d_RW_sign_18 (lv_at hl 0 rfl) ?_
      refine lv_iload_n hx hb d_RW_sign_20 rfl (lv_at hl 5 rfl) ?_
      refine lv_icmp_ge hx hb d_RW_sign_21 (tgt := 51) (by decide) (fun z9 => absurd z9 (nI_ge (show a + i < b by omega) (by omega))) (fun _ => ?_)
      refine lv_lload hx hb d_RW_sign_24 (lv_at hl 1 rfl) ?_
      refine lv_aload_n hx hb d_RW_sign_26 rfl (lv_at hl 3 rfl) ?_
      refine lv_iload hx hb d_RW_sign_27 (lv_at hl 0 rfl) ?_
      refine zRd (rest := [.long (lN (zs_sgt B (zs_fac g) a i))]) (zrV hS9 (c_RW_item l D cI cC cJ r it cap n f hn hcap (nI (a + i))) zc_RW_item zw_367 zw_65 zp_0 (by decide) (va_recv hE.1 hP (ci := 0) (q := (R_RW, F_RW, 2)) rfl (q0 := 0) rfl) (hP) hE rfl hl.1 rfl (Nat.le_of_ble_eq_true rfl) d_RW_sign_29) ?_
      refine ztop (y := nI (B (a + i))) ((zs_item_in (by omega) (by omega)).trans (hB9 (a + i) (show a + i < n by omega)).1) ?_
      refine lv_i2l hx hb d_RW_sign_32 rfl ?_
      refine ztopl (y := lN (B (a + i))) (nI_l (by have h8 : B (a + i) < 256 := (hB9 (a + i) (show a + i < n by omega)).2; omega)) ?_
      refine lv_ladd hx hb d_RW_sign_33 ?_
      refine lv_lconst (v := lN 1) hx hb d_RW_sign_34 (by decide) ?_
      refine lv_ladd hx hb d_RW_sign_35 ?_
      refine lv_lload hx hb d_RW_sign_36 (lv_at hl 2 rfl) ?_
      refine lv_lmul hx hb d_RW_sign_38 ?_
      refine lv_ldc2 (v := lN 65521) hx hb hown (hg _ zw_368) d_RW_sign_39 ?_
      refine lv_lrem hx hb d_RW_sign_42 (by decide) ?_
      refine ztopl (y := lN (zs_sgt B (zs_fac g) a (i + 1))) (zs_sgt_step (zs_fac_le g) (hB9 (a + i) (show a + i < n by omega)).2 rfl) ?_
      refine lv_lstore hx hb d_RW_sign_43 hl (by decide) (lv' := [(6, .long (lN (zs_sgt B (zs_fac g) a (i + 1)))), (8, .int (nI (a + i))), (4, .long (lN (zs_fac g))), (0, .ref r), (1, .int (nI a)), (2, .int (nI b)), (3, .int g)]) rfl (fun ls hl => ?_)
      refine lv_iinc (k := 1) (v := nI (a + (i + 1))) hx hb d_RW_sign_45 hl rfl (nI_1 (a + i)) (by decide) (lv' := [(8, .int (nI (a + (i + 1)))), (6, .long (lN (zs_sgt B (zs_fac g) a (i + 1)))), (4, .long (lN (zs_fac g))), (0, .ref r), (1, .int (nI a)), (2, .int (nI b)), (3, .int g)]) rfl (fun ls hl => ?_)
      refine lv_goto hx hb d_RW_sign_48 (tgt := 18) (by decide) ?_
      have hl : lv_has ls 9 [(8, .int (nI (a + (i + 1)))), (6, .long (lN (zs_sgt B (zs_fac g) a (i + 1)))), (4, .long (lN (zs_fac g))), (0, .ref r), (1, .int (nI a)), (2, .int (nI b)), (3, .int g)] := lv_sub hl [0, 1, 2, 3, 4, 5, 6] rfl
      exact ih (i + 1) (by omega) ls hl
  exact loop (b - a) 0 (by omega) ls hl

/-- a row inside a larger world: the two cells of a row have changed, the rest is as it was -/
theorem zA2_in {A : Nat → Prop} {ws : va_W} (hD : va_D A ws) (q1 q2 : Nat) {a1 a2 : Nat} {e1 e2 : va_E} (h1 : ws[q1]? = some (a1, e1)) (h2 : ws[q2]? = some (a2, e2)) (q : Nat) (h : zA2 a1 a2 q) : A q := by
  rcases h with rfl | rfl
  · exact hD.2 q1 _ h1
  · exact hD.2 q2 _ h2
theorem zrow {D : va_G} {cl : List vw_C} {A : Nat → Prop} {ws : va_W} {H H1 : Heap} (hP : va_P D cl ws H) (hD : va_D A ws) (q1 q2 : Nat) {a1 a2 : Nat} {e1 e2 e1' e2' : va_E} (h1 : ws[q1]? = some (a1, e1)) (h2 : ws[q2]? = some (a2, e2)) (hne : q1 ≠ q2)
    (hk : ∀ q : Nat, q < H.size → ¬ zA2 a1 a2 q → H1[q]? = H[q]?) (hP1 : va_P D cl [(a1, e1'), (a2, e2')] H1) :
    va_P D cl ((ws.set q1 (a1, e1')).set q2 (a2, e2')) H1 ∧ va_D A ((ws.set q1 (a1, e1')).set q2 (a2, e2')) := by
  have l1 : q1 < ws.length := (List.getElem?_eq_some_iff.mp h1).1
  have l2 : q2 < ws.length := (List.getElem?_eq_some_iff.mp h2).1
  have key : ∀ (k : Nat) (q : Nat × va_E), ((ws.set q1 (a1, e1')).set q2 (a2, e2'))[k]? = some q → (k = q2 ∧ q = (a2, e2')) ∨ (k = q1 ∧ q = (a1, e1')) ∨ (k ≠ q1 ∧ k ≠ q2 ∧ ws[k]? = some q) := by
    intro k q hk
    by_cases e2 : q2 = k
    · subst e2
      rw [List.getElem?_set_self (by rw [List.length_set]; exact l2)] at hk
      exact Or.inl ⟨rfl, (Option.some.inj hk).symm⟩
    · rw [List.getElem?_set_ne e2] at hk
      by_cases e1 : q1 = k
      · subst e1
        rw [List.getElem?_set_self l1] at hk
        exact Or.inr (Or.inl ⟨rfl, (Option.some.inj hk).symm⟩)
      · rw [List.getElem?_set_ne e1] at hk
        exact Or.inr (Or.inr ⟨fun z => e1 z.symm, fun z => e2 z.symm, hk⟩)
  have old : ∀ (k : Nat) (q : Nat × va_E), ((ws.set q1 (a1, e1')).set q2 (a2, e2'))[k]? = some q → ∃ q' : Nat × va_E, ws[k]? = some q' ∧ q'.1 = q.1 := by
    intro k q hk
    rcases key k q hk with ⟨rfl, rfl⟩ | ⟨rfl, rfl⟩ | ⟨-, -, h⟩
    · exact ⟨_, h2, rfl⟩
    · exact ⟨_, h1, rfl⟩
    · exact ⟨q, h, rfl⟩
  refine ⟨fun k q hq => ?_, fun i j x y hi hj e => ?_, fun k q hq => ?_⟩
  · rcases key k q hq with ⟨rfl, rfl⟩ | ⟨rfl, rfl⟩ | ⟨n1, n2, h⟩
    · exact hP1 1 _ rfl
    · exact hP1 0 _ rfl
    · refine (hP k q h).kept (hk q.1 (hP k q h).lt ?_)
      rintro (z | z)
      · exact n1 (hD.1 k q1 q _ h h1 z)
      · exact n2 (hD.1 k q2 q _ h h2 z)
  · obtain ⟨x', hx', ex⟩ := old i x hi
    obtain ⟨y', hy', ey⟩ := old j y hj
    exact hD.1 i j x' y' hx' hy' (ex.trans (e.trans ey.symm))
  · obtain ⟨q', hq', eq⟩ := old k q hq
    rw [← eq]
    exact hD.2 k q' hq' 
