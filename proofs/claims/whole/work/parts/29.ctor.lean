set_option maxRecDepth 20000 in
theorem zk_OB : (Cond.code objectInit ⟨#[0xb1]⟩ 1 none) ∈ zg := zg_in 62 rfl rfl
section ZInit
variable {l : Launch} {D : va_G} {cI cC cJ : ClassId}
/-- a method's body, with its name -/
theorem zMetI {y : MethodName} {cc : ByteArray} {maxL : Nat} {ret : Option FieldType} {rm : Room} {av : List Value} {B : Heap → Prop} {Qc : Array Value → State → Outcome → State → Prop} {mc ms : Nat} {free : Addr → Prop}
    (hy : plainName y.cls = true) (ha : (lg_sl av).length ≤ maxL)
    (body : ∀ (p : Program) (e : Env) (s : State) (m : MethodId) (below : List Frame) (meth : Method) (c : Code), p.tables.exec = Jvm.exec → c.code = cc → meth.sig.returnType = ret → (∀ w ∈ zg, w.before av.toArray s = true) → s.vm.findClass y.cls = some m.cls →
      meth.locks = false → c.maxLocals = maxL → meth.name = y.name → B s.heap → zE D cI cC cJ s → ∀ ls : Array Slot, lv_has ls maxL (lv_args 0 av) →
      W p l e rm s m av.toArray below meth c s.heap [] 0 0 (MQ below Qc av.toArray s mc ms free) (F0 m 0 ls [])) :
    Met l y (zw (.code y cc maxL ret)) rm (zPc av B D cI cC cJ) Qc mc ms free := by
  refine Met.ofW (cc := cc) (maxL := maxL) (ret := ret) hy rfl ?_
  intro p e s m args below meth c s₁ B9 hml hv
  obtain ⟨rfl, hB, hE⟩ := hv
  have hts := atoms_spec (ws := zw (.code y cc maxL ret)) B9.pre
  have hl := lv_entry av (n := maxL) ha
  rw [lg_entry_eq]
  exact body p e s m below meth c B9.exec B9.bytes B9.returns (fun w h => hts w (List.mem_cons_of_mem _ h)) (findClass_of_methodNamed B9.named) B9.notSynchronized hml (name_of_methodNamed B9.named B9.method).1 hB hE _ hl
/-- the array class that newarray finds is the one of the tables -/
theorem zcls {ty : FieldType} {tys : List (ClassId × FieldType)} {s : State} {cA cB : ClassId} (i j : Nat) (hK : va_K D zcl tys s) (h1 : tys[i]? = some (cA, ty)) (h2 : tys[j]? = some (cB, ty)) (ht : ∀ C, ty ≠ .object C) : cA = cB := by
  have a := (hK.2 i _ h1).2
  have b := (hK.2 j _ h2).2
  unfold va_RA at a b
  cases ty with
  | object C => exact absurd rfl (ht C)
  | _ => exact Option.some.inj (a.symm.trans b)
theorem zD1 {A : Nat → Prop} {r : Nat} {e : va_E} (h : A r) : va_D A [(r, e)] := by
  refine ⟨fun i j p q hi hj _ => ?_, fun k q hk => ?_⟩
  · match i, j with
    | 0, 0 => rfl
    | i + 1, _ => cases hi
    | 0, j + 1 => cases hj
  · match k with
    | 0 => cases hk; exact h
    | k + 1 => cases hk
variable {p : Program} {e : Env} {R : Room} {s : State} {m : MethodId} {args : Array Value} {below : List Frame} {meth : Method} {c : Code} {H : Heap} {locs : List Loc} {cells slots : Nat} {Q : State → Prop}
variable {y : MethodName} {cc bytes : ByteArray} {maxL nL mc ms n idx pc : Nat} {rm : Room} {B : Heap → Prop} {Qc : Array Value → State → Outcome → State → Prop} {free : Addr → Prop} {own : String} {b : Nat} {As rest st : List Value} {ls : Array Slot}
/-- a constructor's call -/
theorem zrI (S : CallFix p m c cc nL s args zg own) (hM : Met l y (zw (.code y bytes maxL none)) rm (zPc (.ref b :: As) B D cI cC cJ) Qc mc ms free) (hc : zCal y bytes maxL none n) (hnm : y.name = "<init>")
    (hl : Cond.methodLink own idx y ∈ zg) (hi : Cond.instanceMethod y ∈ zg) (hr : zRoom R rm maxL mc ms cells slots)
    (hB : B H) (hE : zE D cI cC cJ s) (hn : As.length = n) (hsz : ls.size = nL) (hst : st = As.reverse ++ .ref b :: rest)
    (hw : (rest.map fun v => v.category).sum ≤ 8) (hdg : decode cc pc = .ok (.invokespecial idx, 3)) :
    va_Run p l e R s m args below meth c H locs cells slots mc ms (F0 m pc ls st) rest (Qc (Value.ref b :: As).toArray) free := by
  obtain ⟨h1, h2, h3, h4, h5⟩ := hc
  obtain ⟨r1, r2, r3, r4, r5, r6⟩ := hr
  have hg := S.2.2.2.2
  exact va_runI S hM ⟨callB_of n hg (zg_sub h1) rfl r1 r2 (hg _ h2) (hg _ hl) ⟨h3, h4, h5⟩ ⟨r3, r4⟩, hnm, hg _ hi⟩
    ⟨zPc.blind, fun U hU hW => ⟨rfl, by rw [hU]; exact hB, hE.warm hW⟩⟩ rfl hn hsz hst (lv_room hw) hdg ⟨r5, r6⟩
theorem zrIN (S : CallFix p m c cc nL s args zg "SealedFiles") (hM : Met l y (zw (.code y bytes maxL none)) rm (zPc (.ref b :: As) B D cI cC cJ) Qc mc ms free) (hc : zCal y bytes maxL none n) (hnm : y.name = "<init>")
    (hl : (idx, y) ∈ zNl) (hi : Cond.instanceMethod y ∈ zg) (hr : zRoom R rm maxL mc ms cells slots)
    (hB : B H) (hE : zE D cI cC cJ s) (hn : As.length = n) (hsz : ls.size = nL) (hst : st = As.reverse ++ .ref b :: rest)
    (hw : (rest.map fun v => v.category).sum ≤ 8) (hdg : decode cc pc = .ok (.invokespecial idx, 3)) :
    va_Run p l e R s m args below meth c H locs cells slots mc ms (F0 m pc ls st) rest (Qc (Value.ref b :: As).toArray) free := by
  obtain ⟨h1, h2, h3, h4, h5⟩ := hc
  obtain ⟨r1, r2, r3, r4, r5, r6⟩ := hr
  have hg := S.2.2.2.2
  exact va_runIN (host := "SealedFiles") S hM ⟨va_cnB n hg (zg_sub h1) rfl r1 r2 (hE.2 _ (List.mem_map.mpr ⟨_, hl, rfl⟩)) (hg _ h2) ⟨h3, h4, h5⟩ ⟨r3, r4⟩, hnm, hg _ hi⟩
    ⟨zPc.blind, fun U hU hW => ⟨rfl, by rw [hU]; exact hB, hE.warm hW⟩⟩ rfl hn hsz hst (lv_room hw) hdg ⟨r5, r6⟩
end ZInit
set_option maxHeartbeats 4000000 in
set_option maxRecDepth 100000 in
theorem c_RW_init (l : Launch) (D : va_G) (cI cC cJ : ClassId) (r sz cap : Nat) (hcap : cap ≤ 65536) : Met l y_RW_init (zw k_RW_init) ({ frames := 1, cells := 1, slots := cap, locals := 12 }) (zPc [.ref r, .int (nI cap)] (fun H => H.size = sz ∧ va_P D zcl [(r, .inr (0, [.null, .int 0]))] H) D cI cC cJ) (zQm none (fun H => ∃ it, va_P D zcl (zRw cI r it cap 0 (fun _ => 0)) H ∧ va_D (va_A [(r, .inr (0, [.null, .int 0]))] sz) (zRw cI r it cap 0 (fun _ => 0))) (va_A [(r, .inr (0, [.null, .int 0]))] sz)) 1 cap (va_A [(r, .inr (0, [.null, .int 0]))] sz) := by
  refine zMetI (by decide) (Nat.le_of_ble_eq_true rfl) ?_
  intro p e s m below meth c hx hb hr hg hown hlk hml hin hB0 hE ls hl
  have hl : lv_has ls 2 [(0, .ref r), (1, .int (nI cap))] := hl
  have hS9 : CallFix p m c b_RW_init 2 s [.ref r, .int (nI cap)].toArray zg "SealedFiles$Row" := ⟨hx, hb, hml, hown, hg⟩
  obtain ⟨hsz, hP⟩ := hB0
  have hA : ∀ q : Nat, s.heap.size ≤ q → (va_A [(r, .inr (0, [.null, .int 0]))] sz) q := fun q h => Or.inr (by omega)
  have hD : va_D (va_A [(r, .inr (0, [.null, .int 0]))] sz) [(r, .inr (0, [.null, .int 0]))] := zD1 (Or.inl ⟨0, _, rfl⟩)
  have hS : va_S (va_A [(r, .inr (0, [.null, .int 0]))] sz) s.heap s.heap [] := va_S.rf
  have hP : va_P D zcl [(r, .inr (0, [.null, .int 0]))] s.heap := hP
  refine lv_aload_n hx hb d_RW_init_0 rfl (lv_at hl 0 rfl) ?_
  refine W.objInit hx hb hown (hg _ zw_31) (hg _ zw_24) (hg _ zk_OB) rfl (by rw [hml]; exact hl.1) rfl d_RW_init_1 (Nat.le_of_ble_eq_true rfl) (Nat.le_of_ble_eq_true rfl) ?_
  refine W.eq (g2 := F0 m 4 ls []) rfl ?_
  refine lv_aload_n hx hb d_RW_init_4 rfl (lv_at hl 0 rfl) ?_
  refine lv_iload_n hx hb d_RW_init_5 rfl (lv_at hl 1 rfl) ?_
  refine va_newa (atype := .int) (ty := .int) (N' := cap) (a0 := (cap, .inl (fun _ => 0))) hx hb (hg _ zw_39) rfl hE.1 hP hD hS hA (fun _ => rfl) (nI_pos (by omega)) (nI_clamp (by omega)) (show cap * 4 ≤ 536870912 from by omega) (Nat.le_of_ble_eq_true rfl) (show 0 + cap ≤ cap from by omega) d_RW_init_6 (fun it cA9 H hK9 hP hD hS => ?_)
  obtain rfl : cI = cA9 := zcls 0 3 hK9 rfl rfl (fun _ h => by cases h)
  have hP : va_P D zcl [(r, .inr (0, [.null, .int 0])), (it, .inl (cI, cap, .inl (fun _ => 0)))] H := hP
  have hD : va_D (va_A [(r, .inr (0, [.null, .int 0]))] sz) [(r, .inr (0, [.null, .int 0])), (it, .inl (cI, cap, .inl (fun _ => 0)))] := hD
  refine va_putF (D := D) (ci := 0) (v := .ref it) (ty := .array .int) (C := R_RW) (T := F_RW) (N := 2) hx hb hg i_RW t_RW t_RW_ok n_RW hown hE.1 hP hD hS 0 rfl rfl 0 (by decide) (hg _ zw_32) (fun _ h9 => h9) rfl hin rfl (by decide +kernel) rfl rfl (Nat.le_of_ble_eq_true rfl) d_RW_init_8 (fun H locs hP hD hS => ?_)
  have hP : va_P D zcl [(r, .inr (0, [.ref it, .int 0])), (it, .inl (cI, cap, .inl (fun _ => 0)))] H := hP
  have hD : va_D (va_A [(r, .inr (0, [.null, .int 0]))] sz) [(r, .inr (0, [.ref it, .int 0])), (it, .inl (cI, cap, .inl (fun _ => 0)))] := hD
  refine lv_aload_n hx hb d_RW_init_11 rfl (lv_at hl 0 rfl) ?_
  refine lv_iconst (v := (nI 0)) hx hb d_RW_init_12 (by decide) ?_
  refine va_put (D := D) (ci := 0) (v := .int (nI 0)) (ty := .int) (C := R_RW) (T := F_RW) (N := 2) hx hb hg i_RW t_RW t_RW_ok n_RW hown hE.1 hP hD hS 0 rfl rfl 1 (by decide) (hg _ zw_33) (fun _ h9 => h9) rfl (by decide +kernel) rfl rfl (Nat.le_of_ble_eq_true rfl) d_RW_init_13 (fun H locs hP hD hS => ?_)
  have hP : va_P D zcl [(r, .inr (0, [.ref it, .int (nI 0)])), (it, .inl (cI, cap, .inl (fun _ => 0)))] H := hP
  have hD : va_D (va_A [(r, .inr (0, [.null, .int 0]))] sz) [(r, .inr (0, [.ref it, .int (nI 0)])), (it, .inl (cI, cap, .inl (fun _ => 0)))] := hD
  refine W.widen (k := 1) (n := cap) (by omega) (by omega) ?_
  exact W.vret hx hb hr (fun t ht _ => ⟨rfl, by rw [ht]; exact ⟨it, hP, hD⟩, hS.F ht⟩) hS.2.2 d_RW_init_16

set_option maxHeartbeats 4000000 in
set_option maxRecDepth 100000 in
theorem c_SF_init (l : Launch) (D : va_G) (cI cC cJ : ClassId) (x sz : Nat) : Met l y_SF_init (zw k_SF_init) ({ frames := 2, cells := 10, slots := 338, locals := 33 }) (zPc [.ref x] (fun H => H.size = sz ∧ va_P D zcl [(x, .inr (1, [.null, .null, .null, .null, .null, .int 0]))] H) D cI cC cJ) (zQm none (fun H => ∃ h : Nat → Nat, h 0 = x ∧ va_P D zcl (zSf cI h 0 0 0 0 0 (fun _ => 0) (fun _ => 0) (fun _ => 0) (fun _ => 0) (fun _ => 0) (nI 0)) H ∧ va_D (va_A [(x, .inr (1, [.null, .null, .null, .null, .null, .int 0]))] sz) (zSf cI h 0 0 0 0 0 (fun _ => 0) (fun _ => 0) (fun _ => 0) (fun _ => 0) (fun _ => 0) (nI 0))) (va_A [(x, .inr (1, [.null, .null, .null, .null, .null, .int 0]))] sz)) 10 338 (va_A [(x, .inr (1, [.null, .null, .null, .null, .null, .int 0]))] sz) := by
  refine zMetI (by decide) (Nat.le_of_ble_eq_true rfl) ?_
  intro p e s m below meth c hx hb hr hg hown hlk hml hin hB0 hE ls hl
  have hl : lv_has ls 1 [(0, .ref x)] := hl
  have hS9 : CallFix p m c b_SF_init 1 s [.ref x].toArray zg "SealedFiles" := ⟨hx, hb, hml, hown, hg⟩
  obtain ⟨hsz, hP⟩ := hB0
  have hA : ∀ q : Nat, s.heap.size ≤ q → (va_A [(x, .inr (1, [.null, .null, .null, .null, .null, .int 0]))] sz) q := fun q h => Or.inr (by omega)
  have hD : va_D (va_A [(x, .inr (1, [.null, .null, .null, .null, .null, .int 0]))] sz) [(x, .inr (1, [.null, .null, .null, .null, .null, .int 0]))] := zD1 (Or.inl ⟨0, _, rfl⟩)
  have hS : va_S (va_A [(x, .inr (1, [.null, .null, .null, .null, .null, .int 0]))] sz) s.heap s.heap [] := va_S.rf
  have hP : va_P D zcl [(x, .inr (1, [.null, .null, .null, .null, .null, .int 0]))] s.heap := hP
  refine lv_aload_n hx hb d_SF_init_0 rfl (lv_at hl 0 rfl) ?_
  refine W.objInit hx hb hown (hg _ zw_23) (hg _ zw_24) (hg _ zk_OB) rfl (by rw [hml]; exact hl.1) rfl d_SF_init_1 (Nat.le_of_ble_eq_true rfl) (Nat.le_of_ble_eq_true rfl) ?_
  refine W.eq (g2 := F0 m 4 ls []) rfl ?_
  refine lv_aload_n hx hb d_SF_init_4 rfl (lv_at hl 0 rfl) ?_
  refine va_new (ci := 0) (fs := [.null, .int 0]) (C := R_RW) (T := F_RW) (N := 2) hx hb hg i_RW t_RW t_RW_ok hown (hg _ zw_26) (hg _ zw_27) (hg _ zw_2) hE.1 hP hD hS hA rfl (fun j hj => by rcases (show j = 0 ∨ j = 1 by omega) with rfl | rfl <;> rfl) (Nat.le_of_ble_eq_true rfl) (Nat.le_of_ble_eq_true rfl) d_SF_init_5 (fun r0 H hP hD hS => ?_)
  have hP : va_P D zcl [(x, .inr (1, [.null, .null, .null, .null, .null, .int 0])), (r0, .inr (0, [.null, .int 0]))] H := hP
  have hD : va_D (va_A [(x, .inr (1, [.null, .null, .null, .null, .null, .int 0]))] sz) [(x, .inr (1, [.null, .null, .null, .null, .null, .int 0])), (r0, .inr (0, [.null, .int 0]))] := hD
  refine lv_dup hx hb d_SF_init_8 rfl ?_
  refine lv_iconst (v := (nI 4)) hx hb d_SF_init_9 (by decide) ?_
  have hPc := hP.sub (ws' := [(r0, .inr (0, [.null, .int 0]))]) [1] rfl
  have hFc := va_free (wc := [(r0, .inr (0, [.null, .int 0]))]) hD hS hA [1] rfl
  refine zWr (rest := [.ref r0, .ref x]) (zrIN hS9 (c_RW_init l D cI cC cJ r0 H.size 4 (by decide)) zc_RW_init rfl (by decide) zw_29 (by decide) ⟨rfl, hPc⟩ hE rfl hl.1 rfl (Nat.le_of_ble_eq_true rfl) d_SF_init_10) hS (fun q _ h => hFc q h) hFc (fun H locs hB1 hz hk9 hS => ?_)
  obtain ⟨t0, hP1, hD1⟩ := hB1
  obtain ⟨hP, hD⟩ := va_join (wr := [(x, .inr (1, [.null, .null, .null, .null, .null, .int 0]))]) (w1 := zRw cI r0 t0 4 0 (fun _ => 0)) hP hD [1] [0] rfl rfl (by decide) (by decide) hk9 hFc hP1 hD1
  have hP : va_P D zcl [(x, .inr (1, [.null, .null, .null, .null, .null, .int 0])), (r0, .inr (0, [.ref t0, .int (nI 0)])), (t0, .inl (cI, 4, .inl (fun _ => 0)))] H := hP
  have hD : va_D (va_A [(x, .inr (1, [.null, .null, .null, .null, .null, .int 0]))] sz) [(x, .inr (1, [.null, .null, .null, .null, .null, .int 0])), (r0, .inr (0, [.ref t0, .int (nI 0)])), (t0, .inl (cI, 4, .inl (fun _ => 0)))] := hD
  refine va_putF (D := D) (ci := 1) (v := .ref r0) (ty := .object "SealedFiles$Row") (C := R_SF) (T := F_SF) (N := 6) hx hb hg i_SF t_SF t_SF_ok n_SF hown hE.1 hP hD hS 0 rfl rfl 0 (by decide) (hg _ zw_40) (fun _ h9 => h9) rfl hin rfl (by decide +kernel) rfl rfl (Nat.le_of_ble_eq_true rfl) d_SF_init_13 (fun H locs hP hD hS => ?_)
  have hP : va_P D zcl [(x, .inr (1, [.ref r0, .null, .null, .null, .null, .int 0])), (r0, .inr (0, [.ref t0, .int (nI 0)])), (t0, .inl (cI, 4, .inl (fun _ => 0)))] H := hP
  have hD : va_D (va_A [(x, .inr (1, [.null, .null, .null, .null, .null, .int 0]))] sz) [(x, .inr (1, [.ref r0, .null, .null, .null, .null, .int 0])), (r0, .inr (0, [.ref t0, .int (nI 0)])), (t0, .inl (cI, 4, .inl (fun _ => 0)))] := hD
  refine lv_aload_n hx hb d_SF_init_16 rfl (lv_at hl 0 rfl) ?_
  refine va_new (ci := 0) (fs := [.null, .int 0]) (C := R_RW) (T := F_RW) (N := 2) hx hb hg i_RW t_RW t_RW_ok hown (hg _ zw_26) (hg _ zw_27) (hg _ zw_2) hE.1 hP hD hS hA rfl (fun j hj => by rcases (show j = 0 ∨ j = 1 by omega) with rfl | rfl <;> rfl) (Nat.le_of_ble_eq_true rfl) (Nat.le_of_ble_eq_true rfl) d_SF_init_17 (fun r1 H hP hD hS => ?_)
  have hP : va_P D zcl [(x, .inr (1, [.ref r0, .null, .null, .null, .null, .int 0])), (r0, .inr (0, [.ref t0, .int (nI 0)])), (t0, .inl (cI, 4, .inl (fun _ => 0))), (r1, .inr (0, [.null, .int 0]))] H := hP
  have hD : va_D (va_A [(x, .inr (1, [.null, .null, .null, .null, .null, .int 0]))] sz) [(x, .inr (1, [.ref r0, .null, .null, .null, .null, .int 0])), (r0, .inr (0, [.ref t0, .int (nI 0)])), (t0, .inl (cI, 4, .inl (fun _ => 0))), (r1, .inr (0, [.null, .int 0]))] := hD
  refine lv_dup hx hb d_SF_init_20 rfl ?_
  refine lv_iconst (v := (nI 4)) hx hb d_SF_init_21 (by decide) ?_
  have hPc := hP.sub (ws' := [(r1, .inr (0, [.null, .int 0]))]) [3] rfl
  have hFc := va_free (wc := [(r1, .inr (0, [.null, .int 0]))]) hD hS hA [3] rfl
  refine zWr (rest := [.ref r1, .ref x]) (zrIN hS9 (c_RW_init l D cI cC cJ r1 H.size 4 (by decide)) zc_RW_init rfl (by decide) zw_29 (by decide) ⟨rfl, hPc⟩ hE rfl hl.1 rfl (Nat.le_of_ble_eq_true rfl) d_SF_init_22) hS (fun q _ h => hFc q h) hFc (fun H locs hB1 hz hk9 hS => ?_)
  obtain ⟨t1, hP1, hD1⟩ := hB1
  obtain ⟨hP, hD⟩ := va_join (wr := [(x, .inr (1, [.ref r0, .null, .null, .null, .null, .int 0])), (r0, .inr (0, [.ref t0, .int (nI 0)])), (t0, .inl (cI, 4, .inl (fun _ => 0)))]) (w1 := zRw cI r1 t1 4 0 (fun _ => 0)) hP hD [3] [0, 1, 2] rfl rfl (by decide) (by decide) hk9 hFc hP1 hD1
  have hP : va_P D zcl [(x, .inr (1, [.ref r0, .null, .null, .null, .null, .int 0])), (r0, .inr (0, [.ref t0, .int (nI 0)])), (t0, .inl (cI, 4, .inl (fun _ => 0))), (r1, .inr (0, [.ref t1, .int (nI 0)])), (t1, .inl (cI, 4, .inl (fun _ => 0)))] H := hP
  have hD : va_D (va_A [(x, .inr (1, [.null, .null, .null, .null, .null, .int 0]))] sz) [(x, .inr (1, [.ref r0, .null, .null, .null, .null, .int 0])), (r0, .inr (0, [.ref t0, .int (nI 0)])), (t0, .inl (cI, 4, .inl (fun _ => 0))), (r1, .inr (0, [.ref t1, .int (nI 0)])), (t1, .inl (cI, 4, .inl (fun _ => 0)))] := hD
  refine va_putF (D := D) (ci := 1) (v := .ref r1) (ty := .object "SealedFiles$Row") (C := R_SF) (T := F_SF) (N := 6) hx hb hg i_SF t_SF t_SF_ok n_SF hown hE.1 hP hD hS 0 rfl rfl 1 (by decide) (hg _ zw_41) (fun _ h9 => h9) rfl hin rfl (by decide +kernel) rfl rfl (Nat.le_of_ble_eq_true rfl) d_SF_init_25 (fun H locs hP hD hS => ?_)
  have hP : va_P D zcl [(x, .inr (1, [.ref r0, .ref r1, .null, .null, .null, .int 0])), (r0, .inr (0, [.ref t0, .int (nI 0)])), (t0, .inl (cI, 4, .inl (fun _ => 0))), (r1, .inr (0, [.ref t1, .int (nI 0)])), (t1, .inl (cI, 4, .inl (fun _ => 0)))] H := hP
  have hD : va_D (va_A [(x, .inr (1, [.null, .null, .null, .null, .null, .int 0]))] sz) [(x, .inr (1, [.ref r0, .ref r1, .null, .null, .null, .int 0])), (r0, .inr (0, [.ref t0, .int (nI 0)])), (t0, .inl (cI, 4, .inl (fun _ => 0))), (r1, .inr (0, [.ref t1, .int (nI 0)])), (t1, .inl (cI, 4, .inl (fun _ => 0)))] := hD
  refine lv_aload_n hx hb d_SF_init_28 rfl (lv_at hl 0 rfl) ?_
  refine va_new (ci := 0) (fs := [.null, .int 0]) (C := R_RW) (T := F_RW) (N := 2) hx hb hg i_RW t_RW t_RW_ok hown (hg _ zw_26) (hg _ zw_27) (hg _ zw_2) hE.1 hP hD hS hA rfl (fun j hj => by rcases (show j = 0 ∨ j = 1 by omega) with rfl | rfl <;> rfl) (Nat.le_of_ble_eq_true rfl) (Nat.le_of_ble_eq_true rfl) d_SF_init_29 (fun r2 H hP hD hS => ?_)
  have hP : va_P D zcl [(x, .inr (1, [.ref r0, .ref r1, .null, .null, .null, .int 0])), (r0, .inr (0, [.ref t0, .int (nI 0)])), (t0, .inl (cI, 4, .inl (fun _ => 0))), (r1, .inr (0, [.ref t1, .int (nI 0)])), (t1, .inl (cI, 4, .inl (fun _ => 0))), (r2, .inr (0, [.null, .int 0]))] H := hP
  have hD : va_D (va_A [(x, .inr (1, [.null, .null, .null, .null, .null, .int 0]))] sz) [(x, .inr (1, [.ref r0, .ref r1, .null, .null, .null, .int 0])), (r0, .inr (0, [.ref t0, .int (nI 0)])), (t0, .inl (cI, 4, .inl (fun _ => 0))), (r1, .inr (0, [.ref t1, .int (nI 0)])), (t1, .inl (cI, 4, .inl (fun _ => 0))), (r2, .inr (0, [.null, .int 0]))] := hD
  refine lv_dup hx hb d_SF_init_32 rfl ?_
  refine lv_bipush (v := (nI 40)) hx hb d_SF_init_33 (by decide) ?_
  have hPc := hP.sub (ws' := [(r2, .inr (0, [.null, .int 0]))]) [5] rfl
  have hFc := va_free (wc := [(r2, .inr (0, [.null, .int 0]))]) hD hS hA [5] rfl
  refine zWr (rest := [.ref r2, .ref x]) (zrIN hS9 (c_RW_init l D cI cC cJ r2 H.size 40 (by decide)) zc_RW_init rfl (by decide) zw_29 (by decide) ⟨rfl, hPc⟩ hE rfl hl.1 rfl (Nat.le_of_ble_eq_true rfl) d_SF_init_35) hS (fun q _ h => hFc q h) hFc (fun H locs hB1 hz hk9 hS => ?_)
  obtain ⟨t2, hP1, hD1⟩ := hB1
  obtain ⟨hP, hD⟩ := va_join (wr := [(x, .inr (1, [.ref r0, .ref r1, .null, .null, .null, .int 0])), (r0, .inr (0, [.ref t0, .int (nI 0)])), (t0, .inl (cI, 4, .inl (fun _ => 0))), (r1, .inr (0, [.ref t1, .int (nI 0)])), (t1, .inl (cI, 4, .inl (fun _ => 0)))]) (w1 := zRw cI r2 t2 40 0 (fun _ => 0)) hP hD [5] [0, 1, 2, 3, 4] rfl rfl (by decide) (by decide) hk9 hFc hP1 hD1
  have hP : va_P D zcl [(x, .inr (1, [.ref r0, .ref r1, .null, .null, .null, .int 0])), (r0, .inr (0, [.ref t0, .int (nI 0)])), (t0, .inl (cI, 4, .inl (fun _ => 0))), (r1, .inr (0, [.ref t1, .int (nI 0)])), (t1, .inl (cI, 4, .inl (fun _ => 0))), (r2, .inr (0, [.ref t2, .int (nI 0)])), (t2, .inl (cI, 40, .inl (fun _ => 0)))] H := hP
  have hD : va_D (va_A [(x, .inr (1, [.null, .null, .null, .null, .null, .int 0]))] sz) [(x, .inr (1, [.ref r0, .ref r1, .null, .null, .null, .int 0])), (r0, .inr (0, [.ref t0, .int (nI 0)])), (t0, .inl (cI, 4, .inl (fun _ => 0))), (r1, .inr (0, [.ref t1, .int (nI 0)])), (t1, .inl (cI, 4, .inl (fun _ => 0))), (r2, .inr (0, [.ref t2, .int (nI 0)])), (t2, .inl (cI, 40, .inl (fun _ => 0)))] := hD
  refine va_putF (D := D) (ci := 1) (v := .ref r2) (ty := .object "SealedFiles$Row") (C := R_SF) (T := F_SF) (N := 6) hx hb hg i_SF t_SF t_SF_ok n_SF hown hE.1 hP hD hS 0 rfl rfl 2 (by decide) (hg _ zw_42) (fun _ h9 => h9) rfl hin rfl (by decide +kernel) rfl rfl (Nat.le_of_ble_eq_true rfl) d_SF_init_38 (fun H locs hP hD hS => ?_)
  have hP : va_P D zcl [(x, .inr (1, [.ref r0, .ref r1, .ref r2, .null, .null, .int 0])), (r0, .inr (0, [.ref t0, .int (nI 0)])), (t0, .inl (cI, 4, .inl (fun _ => 0))), (r1, .inr (0, [.ref t1, .int (nI 0)])), (t1, .inl (cI, 4, .inl (fun _ => 0))), (r2, .inr (0, [.ref t2, .int (nI 0)])), (t2, .inl (cI, 40, .inl (fun _ => 0)))] H := hP
  have hD : va_D (va_A [(x, .inr (1, [.null, .null, .null, .null, .null, .int 0]))] sz) [(x, .inr (1, [.ref r0, .ref r1, .ref r2, .null, .null, .int 0])), (r0, .inr (0, [.ref t0, .int (nI 0)])), (t0, .inl (cI, 4, .inl (fun _ => 0))), (r1, .inr (0, [.ref t1, .int (nI 0)])), (t1, .inl (cI, 4, .inl (fun _ => 0))), (r2, .inr (0, [.ref t2, .int (nI 0)])), (t2, .inl (cI, 40, .inl (fun _ => 0)))] := hD
  refine lv_aload_n hx hb d_SF_init_41 rfl (lv_at hl 0 rfl) ?_
  refine va_new (ci := 0) (fs := [.null, .int 0]) (C := R_RW) (T := F_RW) (N := 2) hx hb hg i_RW t_RW t_RW_ok hown (hg _ zw_26) (hg _ zw_27) (hg _ zw_2) hE.1 hP hD hS hA rfl (fun j hj => by rcases (show j = 0 ∨ j = 1 by omega) with rfl | rfl <;> rfl) (Nat.le_of_ble_eq_true rfl) (Nat.le_of_ble_eq_true rfl) d_SF_init_42 (fun r3 H hP hD hS => ?_)
  have hP : va_P D zcl [(x, .inr (1, [.ref r0, .ref r1, .ref r2, .null, .null, .int 0])), (r0, .inr (0, [.ref t0, .int (nI 0)])), (t0, .inl (cI, 4, .inl (fun _ => 0))), (r1, .inr (0, [.ref t1, .int (nI 0)])), (t1, .inl (cI, 4, .inl (fun _ => 0))), (r2, .inr (0, [.ref t2, .int (nI 0)])), (t2, .inl (cI, 40, .inl (fun _ => 0))), (r3, .inr (0, [.null, .int 0]))] H := hP
  have hD : va_D (va_A [(x, .inr (1, [.null, .null, .null, .null, .null, .int 0]))] sz) [(x, .inr (1, [.ref r0, .ref r1, .ref r2, .null, .null, .int 0])), (r0, .inr (0, [.ref t0, .int (nI 0)])), (t0, .inl (cI, 4, .inl (fun _ => 0))), (r1, .inr (0, [.ref t1, .int (nI 0)])), (t1, .inl (cI, 4, .inl (fun _ => 0))), (r2, .inr (0, [.ref t2, .int (nI 0)])), (t2, .inl (cI, 40, .inl (fun _ => 0))), (r3, .inr (0, [.null, .int 0]))] := hD
  refine lv_dup hx hb d_SF_init_45 rfl ?_
  refine lv_bipush (v := (nI 120)) hx hb d_SF_init_46 (by decide) ?_
  have hPc := hP.sub (ws' := [(r3, .inr (0, [.null, .int 0]))]) [7] rfl
  have hFc := va_free (wc := [(r3, .inr (0, [.null, .int 0]))]) hD hS hA [7] rfl
  refine zWr (rest := [.ref r3, .ref x]) (zrIN hS9 (c_RW_init l D cI cC cJ r3 H.size 120 (by decide)) zc_RW_init rfl (by decide) zw_29 (by decide) ⟨rfl, hPc⟩ hE rfl hl.1 rfl (Nat.le_of_ble_eq_true rfl) d_SF_init_48) hS (fun q _ h => hFc q h) hFc (fun H locs hB1 hz hk9 hS => ?_)
  obtain ⟨t3, hP1, hD1⟩ := hB1
  obtain ⟨hP, hD⟩ := va_join (wr := [(x, .inr (1, [.ref r0, .ref r1, .ref r2, .null, .null, .int 0])), (r0, .inr (0, [.ref t0, .int (nI 0)])), (t0, .inl (cI, 4, .inl (fun _ => 0))), (r1, .inr (0, [.ref t1, .int (nI 0)])), (t1, .inl (cI, 4, .inl (fun _ => 0))), (r2, .inr (0, [.ref t2, .int (nI 0)])), (t2, .inl (cI, 40, .inl (fun _ => 0)))]) (w1 := zRw cI r3 t3 120 0 (fun _ => 0)) hP hD [7] [0, 1, 2, 3, 4, 5, 6] rfl rfl (by decide) (by decide) hk9 hFc hP1 hD1
  have hP : va_P D zcl [(x, .inr (1, [.ref r0, .ref r1, .ref r2, .null, .null, .int 0])), (r0, .inr (0, [.ref t0, .int (nI 0)])), (t0, .inl (cI, 4, .inl (fun _ => 0))), (r1, .inr (0, [.ref t1, .int (nI 0)])), (t1, .inl (cI, 4, .inl (fun _ => 0))), (r2, .inr (0, [.ref t2, .int (nI 0)])), (t2, .inl (cI, 40, .inl (fun _ => 0))), (r3, .inr (0, [.ref t3, .int (nI 0)])), (t3, .inl (cI, 120, .inl (fun _ => 0)))] H := hP
  have hD : va_D (va_A [(x, .inr (1, [.null, .null, .null, .null, .null, .int 0]))] sz) [(x, .inr (1, [.ref r0, .ref r1, .ref r2, .null, .null, .int 0])), (r0, .inr (0, [.ref t0, .int (nI 0)])), (t0, .inl (cI, 4, .inl (fun _ => 0))), (r1, .inr (0, [.ref t1, .int (nI 0)])), (t1, .inl (cI, 4, .inl (fun _ => 0))), (r2, .inr (0, [.ref t2, .int (nI 0)])), (t2, .inl (cI, 40, .inl (fun _ => 0))), (r3, .inr (0, [.ref t3, .int (nI 0)])), (t3, .inl (cI, 120, .inl (fun _ => 0)))] := hD
  refine va_putF (D := D) (ci := 1) (v := .ref r3) (ty := .object "SealedFiles$Row") (C := R_SF) (T := F_SF) (N := 6) hx hb hg i_SF t_SF t_SF_ok n_SF hown hE.1 hP hD hS 0 rfl rfl 3 (by decide) (hg _ zw_43) (fun _ h9 => h9) rfl hin rfl (by decide +kernel) rfl rfl (Nat.le_of_ble_eq_true rfl) d_SF_init_51 (fun H locs hP hD hS => ?_)
  have hP : va_P D zcl [(x, .inr (1, [.ref r0, .ref r1, .ref r2, .ref r3, .null, .int 0])), (r0, .inr (0, [.ref t0, .int (nI 0)])), (t0, .inl (cI, 4, .inl (fun _ => 0))), (r1, .inr (0, [.ref t1, .int (nI 0)])), (t1, .inl (cI, 4, .inl (fun _ => 0))), (r2, .inr (0, [.ref t2, .int (nI 0)])), (t2, .inl (cI, 40, .inl (fun _ => 0))), (r3, .inr (0, [.ref t3, .int (nI 0)])), (t3, .inl (cI, 120, .inl (fun _ => 0)))] H := hP
  have hD : va_D (va_A [(x, .inr (1, [.null, .null, .null, .null, .null, .int 0]))] sz) [(x, .inr (1, [.ref r0, .ref r1, .ref r2, .ref r3, .null, .int 0])), (r0, .inr (0, [.ref t0, .int (nI 0)])), (t0, .inl (cI, 4, .inl (fun _ => 0))), (r1, .inr (0, [.ref t1, .int (nI 0)])), (t1, .inl (cI, 4, .inl (fun _ => 0))), (r2, .inr (0, [.ref t2, .int (nI 0)])), (t2, .inl (cI, 40, .inl (fun _ => 0))), (r3, .inr (0, [.ref t3, .int (nI 0)])), (t3, .inl (cI, 120, .inl (fun _ => 0)))] := hD
  refine lv_aload_n hx hb d_SF_init_54 rfl (lv_at hl 0 rfl) ?_
  refine va_new (ci := 0) (fs := [.null, .int 0]) (C := R_RW) (T := F_RW) (N := 2) hx hb hg i_RW t_RW t_RW_ok hown (hg _ zw_26) (hg _ zw_27) (hg _ zw_2) hE.1 hP hD hS hA rfl (fun j hj => by rcases (show j = 0 ∨ j = 1 by omega) with rfl | rfl <;> rfl) (Nat.le_of_ble_eq_true rfl) (Nat.le_of_ble_eq_true rfl) d_SF_init_55 (fun r4 H hP hD hS => ?_)
  have hP : va_P D zcl [(x, .inr (1, [.ref r0, .ref r1, .ref r2, .ref r3, .null, .int 0])), (r0, .inr (0, [.ref t0, .int (nI 0)])), (t0, .inl (cI, 4, .inl (fun _ => 0))), (r1, .inr (0, [.ref t1, .int (nI 0)])), (t1, .inl (cI, 4, .inl (fun _ => 0))), (r2, .inr (0, [.ref t2, .int (nI 0)])), (t2, .inl (cI, 40, .inl (fun _ => 0))), (r3, .inr (0, [.ref t3, .int (nI 0)])), (t3, .inl (cI, 120, .inl (fun _ => 0))), (r4, .inr (0, [.null, .int 0]))] H := hP
  have hD : va_D (va_A [(x, .inr (1, [.null, .null, .null, .null, .null, .int 0]))] sz) [(x, .inr (1, [.ref r0, .ref r1, .ref r2, .ref r3, .null, .int 0])), (r0, .inr (0, [.ref t0, .int (nI 0)])), (t0, .inl (cI, 4, .inl (fun _ => 0))), (r1, .inr (0, [.ref t1, .int (nI 0)])), (t1, .inl (cI, 4, .inl (fun _ => 0))), (r2, .inr (0, [.ref t2, .int (nI 0)])), (t2, .inl (cI, 40, .inl (fun _ => 0))), (r3, .inr (0, [.ref t3, .int (nI 0)])), (t3, .inl (cI, 120, .inl (fun _ => 0))), (r4, .inr (0, [.null, .int 0]))] := hD
  refine lv_dup hx hb d_SF_init_58 rfl ?_
  refine lv_sipush (v := (nI 160)) hx hb d_SF_init_59 (by decide) ?_
  have hPc := hP.sub (ws' := [(r4, .inr (0, [.null, .int 0]))]) [9] rfl
  have hFc := va_free (wc := [(r4, .inr (0, [.null, .int 0]))]) hD hS hA [9] rfl
  refine zWr (rest := [.ref r4, .ref x]) (zrIN hS9 (c_RW_init l D cI cC cJ r4 H.size 160 (by decide)) zc_RW_init rfl (by decide) zw_29 (by decide) ⟨rfl, hPc⟩ hE rfl hl.1 rfl (Nat.le_of_ble_eq_true rfl) d_SF_init_62) hS (fun q _ h => hFc q h) hFc (fun H locs hB1 hz hk9 hS => ?_)
  obtain ⟨t4, hP1, hD1⟩ := hB1
  obtain ⟨hP, hD⟩ := va_join (wr := [(x, .inr (1, [.ref r0, .ref r1, .ref r2, .ref r3, .null, .int 0])), (r0, .inr (0, [.ref t0, .int (nI 0)])), (t0, .inl (cI, 4, .inl (fun _ => 0))), (r1, .inr (0, [.ref t1, .int (nI 0)])), (t1, .inl (cI, 4, .inl (fun _ => 0))), (r2, .inr (0, [.ref t2, .int (nI 0)])), (t2, .inl (cI, 40, .inl (fun _ => 0))), (r3, .inr (0, [.ref t3, .int (nI 0)])), (t3, .inl (cI, 120, .inl (fun _ => 0)))]) (w1 := zRw cI r4 t4 160 0 (fun _ => 0)) hP hD [9] [0, 1, 2, 3, 4, 5, 6, 7, 8] rfl rfl (by decide) (by decide) hk9 hFc hP1 hD1
  have hP : va_P D zcl [(x, .inr (1, [.ref r0, .ref r1, .ref r2, .ref r3, .null, .int 0])), (r0, .inr (0, [.ref t0, .int (nI 0)])), (t0, .inl (cI, 4, .inl (fun _ => 0))), (r1, .inr (0, [.ref t1, .int (nI 0)])), (t1, .inl (cI, 4, .inl (fun _ => 0))), (r2, .inr (0, [.ref t2, .int (nI 0)])), (t2, .inl (cI, 40, .inl (fun _ => 0))), (r3, .inr (0, [.ref t3, .int (nI 0)])), (t3, .inl (cI, 120, .inl (fun _ => 0))), (r4, .inr (0, [.ref t4, .int (nI 0)])), (t4, .inl (cI, 160, .inl (fun _ => 0)))] H := hP
  have hD : va_D (va_A [(x, .inr (1, [.null, .null, .null, .null, .null, .int 0]))] sz) [(x, .inr (1, [.ref r0, .ref r1, .ref r2, .ref r3, .null, .int 0])), (r0, .inr (0, [.ref t0, .int (nI 0)])), (t0, .inl (cI, 4, .inl (fun _ => 0))), (r1, .inr (0, [.ref t1, .int (nI 0)])), (t1, .inl (cI, 4, .inl (fun _ => 0))), (r2, .inr (0, [.ref t2, .int (nI 0)])), (t2, .inl (cI, 40, .inl (fun _ => 0))), (r3, .inr (0, [.ref t3, .int (nI 0)])), (t3, .inl (cI, 120, .inl (fun _ => 0))), (r4, .inr (0, [.ref t4, .int (nI 0)])), (t4, .inl (cI, 160, .inl (fun _ => 0)))] := hD
  refine va_putF (D := D) (ci := 1) (v := .ref r4) (ty := .object "SealedFiles$Row") (C := R_SF) (T := F_SF) (N := 6) hx hb hg i_SF t_SF t_SF_ok n_SF hown hE.1 hP hD hS 0 rfl rfl 4 (by decide) (hg _ zw_44) (fun _ h9 => h9) rfl hin rfl (by decide +kernel) rfl rfl (Nat.le_of_ble_eq_true rfl) d_SF_init_65 (fun H locs hP hD hS => ?_)
  have hP : va_P D zcl [(x, .inr (1, [.ref r0, .ref r1, .ref r2, .ref r3, .ref r4, .int 0])), (r0, .inr (0, [.ref t0, .int (nI 0)])), (t0, .inl (cI, 4, .inl (fun _ => 0))), (r1, .inr (0, [.ref t1, .int (nI 0)])), (t1, .inl (cI, 4, .inl (fun _ => 0))), (r2, .inr (0, [.ref t2, .int (nI 0)])), (t2, .inl (cI, 40, .inl (fun _ => 0))), (r3, .inr (0, [.ref t3, .int (nI 0)])), (t3, .inl (cI, 120, .inl (fun _ => 0))), (r4, .inr (0, [.ref t4, .int (nI 0)])), (t4, .inl (cI, 160, .inl (fun _ => 0)))] H := hP
  have hD : va_D (va_A [(x, .inr (1, [.null, .null, .null, .null, .null, .int 0]))] sz) [(x, .inr (1, [.ref r0, .ref r1, .ref r2, .ref r3, .ref r4, .int 0])), (r0, .inr (0, [.ref t0, .int (nI 0)])), (t0, .inl (cI, 4, .inl (fun _ => 0))), (r1, .inr (0, [.ref t1, .int (nI 0)])), (t1, .inl (cI, 4, .inl (fun _ => 0))), (r2, .inr (0, [.ref t2, .int (nI 0)])), (t2, .inl (cI, 40, .inl (fun _ => 0))), (r3, .inr (0, [.ref t3, .int (nI 0)])), (t3, .inl (cI, 120, .inl (fun _ => 0))), (r4, .inr (0, [.ref t4, .int (nI 0)])), (t4, .inl (cI, 160, .inl (fun _ => 0)))] := hD
  refine lv_aload_n hx hb d_SF_init_68 rfl (lv_at hl 0 rfl) ?_
  refine lv_iconst (v := (nI 0)) hx hb d_SF_init_69 (by decide) ?_
  refine va_put (D := D) (ci := 1) (v := .int (nI 0)) (ty := .int) (C := R_SF) (T := F_SF) (N := 6) hx hb hg i_SF t_SF t_SF_ok n_SF hown hE.1 hP hD hS 0 rfl rfl 5 (by decide) (hg _ zw_45) (fun _ h9 => h9) rfl (by decide +kernel) rfl rfl (Nat.le_of_ble_eq_true rfl) d_SF_init_70 (fun H locs hP hD hS => ?_)
  have hP : va_P D zcl [(x, .inr (1, [.ref r0, .ref r1, .ref r2, .ref r3, .ref r4, .int (nI 0)])), (r0, .inr (0, [.ref t0, .int (nI 0)])), (t0, .inl (cI, 4, .inl (fun _ => 0))), (r1, .inr (0, [.ref t1, .int (nI 0)])), (t1, .inl (cI, 4, .inl (fun _ => 0))), (r2, .inr (0, [.ref t2, .int (nI 0)])), (t2, .inl (cI, 40, .inl (fun _ => 0))), (r3, .inr (0, [.ref t3, .int (nI 0)])), (t3, .inl (cI, 120, .inl (fun _ => 0))), (r4, .inr (0, [.ref t4, .int (nI 0)])), (t4, .inl (cI, 160, .inl (fun _ => 0)))] H := hP
  have hD : va_D (va_A [(x, .inr (1, [.null, .null, .null, .null, .null, .int 0]))] sz) [(x, .inr (1, [.ref r0, .ref r1, .ref r2, .ref r3, .ref r4, .int (nI 0)])), (r0, .inr (0, [.ref t0, .int (nI 0)])), (t0, .inl (cI, 4, .inl (fun _ => 0))), (r1, .inr (0, [.ref t1, .int (nI 0)])), (t1, .inl (cI, 4, .inl (fun _ => 0))), (r2, .inr (0, [.ref t2, .int (nI 0)])), (t2, .inl (cI, 40, .inl (fun _ => 0))), (r3, .inr (0, [.ref t3, .int (nI 0)])), (t3, .inl (cI, 120, .inl (fun _ => 0))), (r4, .inr (0, [.ref t4, .int (nI 0)])), (t4, .inl (cI, 160, .inl (fun _ => 0)))] := hD
  refine W.widen (k := 10) (n := 338) (Nat.le_of_ble_eq_true rfl) (Nat.le_of_ble_eq_true rfl) ?_
  exact W.vret hx hb hr (fun t ht _ => ⟨rfl, by rw [ht]; exact ⟨fun i => match i with | 0 => x | 1 => r0 | 2 => t0 | 3 => r1 | 4 => t1 | 5 => r2 | 6 => t2 | 7 => r3 | 8 => t3 | 9 => r4 | _ => t4, rfl, hP, hD⟩, hS.F ht⟩) hS.2.2 d_SF_init_73

set_option maxHeartbeats 4000000 in
set_option maxRecDepth 100000 in
theorem c_MD_init (l : Launch) (D : va_G) (cI cC cJ : ClassId) (x sz : Nat) : Met l y_MD_init (zw k_MD_init) ({ frames := 1, cells := 5, slots := 364, locals := 12 }) (zPc [.ref x] (fun H => H.size = sz ∧ va_P D zcl [(x, .inr (2, [.int 0, .int 0, .null, .int 0, .int 0, .int 0, .null, .null, .null, .int 0, .int 0, .null]))] H) D cI cC cJ) (zQm none (fun H => ∃ gg : Nat → Nat, gg 0 = x ∧ va_P D zcl (zMd cI cC gg 0 0 0 0 0 0 0 (fun _ => 0) (fun _ => 0) (fun _ => 0) (fun _ => 0) (fun _ => 0)) H ∧ va_D (va_A [(x, .inr (2, [.int 0, .int 0, .null, .int 0, .int 0, .int 0, .null, .null, .null, .int 0, .int 0, .null]))] sz) (zMd cI cC gg 0 0 0 0 0 0 0 (fun _ => 0) (fun _ => 0) (fun _ => 0) (fun _ => 0) (fun _ => 0))) (va_A [(x, .inr (2, [.int 0, .int 0, .null, .int 0, .int 0, .int 0, .null, .null, .null, .int 0, .int 0, .null]))] sz)) 5 364 (va_A [(x, .inr (2, [.int 0, .int 0, .null, .int 0, .int 0, .int 0, .null, .null, .null, .int 0, .int 0, .null]))] sz) := by
  refine zMetI (by decide) (Nat.le_of_ble_eq_true rfl) ?_
  intro p e s m below meth c hx hb hr hg hown hlk hml hin hB0 hE ls hl
  have hl : lv_has ls 1 [(0, .ref x)] := hl
  have hS9 : CallFix p m c b_MD_init 1 s [.ref x].toArray zg "SealedFilesModel" := ⟨hx, hb, hml, hown, hg⟩
  obtain ⟨hsz, hP⟩ := hB0
  have hA : ∀ q : Nat, s.heap.size ≤ q → (va_A [(x, .inr (2, [.int 0, .int 0, .null, .int 0, .int 0, .int 0, .null, .null, .null, .int 0, .int 0, .null]))] sz) q := fun q h => Or.inr (by omega)
  have hD : va_D (va_A [(x, .inr (2, [.int 0, .int 0, .null, .int 0, .int 0, .int 0, .null, .null, .null, .int 0, .int 0, .null]))] sz) [(x, .inr (2, [.int 0, .int 0, .null, .int 0, .int 0, .int 0, .null, .null, .null, .int 0, .int 0, .null]))] := zD1 (Or.inl ⟨0, _, rfl⟩)
  have hS : va_S (va_A [(x, .inr (2, [.int 0, .int 0, .null, .int 0, .int 0, .int 0, .null, .null, .null, .int 0, .int 0, .null]))] sz) s.heap s.heap [] := va_S.rf
  have hP : va_P D zcl [(x, .inr (2, [.int 0, .int 0, .null, .int 0, .int 0, .int 0, .null, .null, .null, .int 0, .int 0, .null]))] s.heap := hP
  refine lv_aload_n hx hb d_MD_init_0 rfl (lv_at hl 0 rfl) ?_
  refine W.objInit hx hb hown (hg _ zw_487) (hg _ zw_24) (hg _ zk_OB) rfl (by rw [hml]; exact hl.1) rfl d_MD_init_1 (Nat.le_of_ble_eq_true rfl) (Nat.le_of_ble_eq_true rfl) ?_
  refine W.eq (g2 := F0 m 4 ls []) rfl ?_
  refine lv_aload_n hx hb d_MD_init_4 rfl (lv_at hl 0 rfl) ?_
  refine lv_iconst (v := (nI 4)) hx hb d_MD_init_5 (by decide) ?_
  refine va_newa (atype := .int) (ty := .int) (N' := 4) (a0 := (4, .inl (fun _ => 0))) hx hb (hg _ zw_39) rfl hE.1 hP hD hS hA (fun _ => rfl) (nI_pos (by omega)) (nI_clamp (by omega)) (by decide) (Nat.le_of_ble_eq_true rfl) (Nat.le_of_ble_eq_true rfl) d_MD_init_6 (fun a1 cA9 H hK9 hP hD hS => ?_)
  obtain rfl : cI = cA9 := zcls 0 3 hK9 rfl rfl (fun _ h => by cases h)
  have hP : va_P D zcl [(x, .inr (2, [.int 0, .int 0, .null, .int 0, .int 0, .int 0, .null, .null, .null, .int 0, .int 0, .null])), (a1, .inl (cI, 4, .inl (fun _ => 0)))] H := hP
  have hD : va_D (va_A [(x, .inr (2, [.int 0, .int 0, .null, .int 0, .int 0, .int 0, .null, .null, .null, .int 0, .int 0, .null]))] sz) [(x, .inr (2, [.int 0, .int 0, .null, .int 0, .int 0, .int 0, .null, .null, .null, .int 0, .int 0, .null])), (a1, .inl (cI, 4, .inl (fun _ => 0)))] := hD
  refine va_putF (D := D) (ci := 2) (v := .ref a1) (ty := .array .int) (C := R_MD) (T := F_MD) (N := 12) hx hb hg i_MD t_MD t_MD_ok n_MD hown hE.1 hP hD hS 0 rfl rfl 2 (by decide) (hg _ zw_490) (fun _ h9 => h9) rfl hin rfl (by decide +kernel) rfl rfl (Nat.le_of_ble_eq_true rfl) d_MD_init_8 (fun H locs hP hD hS => ?_)
  have hP : va_P D zcl [(x, .inr (2, [.int 0, .int 0, .ref a1, .int 0, .int 0, .int 0, .null, .null, .null, .int 0, .int 0, .null])), (a1, .inl (cI, 4, .inl (fun _ => 0)))] H := hP
  have hD : va_D (va_A [(x, .inr (2, [.int 0, .int 0, .null, .int 0, .int 0, .int 0, .null, .null, .null, .int 0, .int 0, .null]))] sz) [(x, .inr (2, [.int 0, .int 0, .ref a1, .int 0, .int 0, .int 0, .null, .null, .null, .int 0, .int 0, .null])), (a1, .inl (cI, 4, .inl (fun _ => 0)))] := hD
  refine lv_aload_n hx hb d_MD_init_11 rfl (lv_at hl 0 rfl) ?_
  refine lv_bipush (v := (nI 40)) hx hb d_MD_init_12 (by decide) ?_
  refine va_newa (atype := .int) (ty := .int) (N' := 40) (a0 := (40, .inl (fun _ => 0))) hx hb (hg _ zw_39) rfl hE.1 hP hD hS hA (fun _ => rfl) (nI_pos (by omega)) (nI_clamp (by omega)) (by decide) (Nat.le_of_ble_eq_true rfl) (Nat.le_of_ble_eq_true rfl) d_MD_init_14 (fun a2 cA9 H hK9 hP hD hS => ?_)
  obtain rfl : cI = cA9 := zcls 0 3 hK9 rfl rfl (fun _ h => by cases h)
  have hP : va_P D zcl [(x, .inr (2, [.int 0, .int 0, .ref a1, .int 0, .int 0, .int 0, .null, .null, .null, .int 0, .int 0, .null])), (a1, .inl (cI, 4, .inl (fun _ => 0))), (a2, .inl (cI, 40, .inl (fun _ => 0)))] H := hP
  have hD : va_D (va_A [(x, .inr (2, [.int 0, .int 0, .null, .int 0, .int 0, .int 0, .null, .null, .null, .int 0, .int 0, .null]))] sz) [(x, .inr (2, [.int 0, .int 0, .ref a1, .int 0, .int 0, .int 0, .null, .null, .null, .int 0, .int 0, .null])), (a1, .inl (cI, 4, .inl (fun _ => 0))), (a2, .inl (cI, 40, .inl (fun _ => 0)))] := hD
  refine va_putF (D := D) (ci := 2) (v := .ref a2) (ty := .array .int) (C := R_MD) (T := F_MD) (N := 12) hx hb hg i_MD t_MD t_MD_ok n_MD hown hE.1 hP hD hS 0 rfl rfl 6 (by decide) (hg _ zw_494) (fun _ h9 => h9) rfl hin rfl (by decide +kernel) rfl rfl (Nat.le_of_ble_eq_true rfl) d_MD_init_16 (fun H locs hP hD hS => ?_)
  have hP : va_P D zcl [(x, .inr (2, [.int 0, .int 0, .ref a1, .int 0, .int 0, .int 0, .ref a2, .null, .null, .int 0, .int 0, .null])), (a1, .inl (cI, 4, .inl (fun _ => 0))), (a2, .inl (cI, 40, .inl (fun _ => 0)))] H := hP
  have hD : va_D (va_A [(x, .inr (2, [.int 0, .int 0, .null, .int 0, .int 0, .int 0, .null, .null, .null, .int 0, .int 0, .null]))] sz) [(x, .inr (2, [.int 0, .int 0, .ref a1, .int 0, .int 0, .int 0, .ref a2, .null, .null, .int 0, .int 0, .null])), (a1, .inl (cI, 4, .inl (fun _ => 0))), (a2, .inl (cI, 40, .inl (fun _ => 0)))] := hD
  refine lv_aload_n hx hb d_MD_init_19 rfl (lv_at hl 0 rfl) ?_
  refine lv_bipush (v := (nI 120)) hx hb d_MD_init_20 (by decide) ?_
  refine va_newa (atype := .int) (ty := .int) (N' := 120) (a0 := (120, .inl (fun _ => 0))) hx hb (hg _ zw_39) rfl hE.1 hP hD hS hA (fun _ => rfl) (nI_pos (by omega)) (nI_clamp (by omega)) (by decide) (Nat.le_of_ble_eq_true rfl) (Nat.le_of_ble_eq_true rfl) d_MD_init_22 (fun a3 cA9 H hK9 hP hD hS => ?_)
  obtain rfl : cI = cA9 := zcls 0 3 hK9 rfl rfl (fun _ h => by cases h)
  have hP : va_P D zcl [(x, .inr (2, [.int 0, .int 0, .ref a1, .int 0, .int 0, .int 0, .ref a2, .null, .null, .int 0, .int 0, .null])), (a1, .inl (cI, 4, .inl (fun _ => 0))), (a2, .inl (cI, 40, .inl (fun _ => 0))), (a3, .inl (cI, 120, .inl (fun _ => 0)))] H := hP
  have hD : va_D (va_A [(x, .inr (2, [.int 0, .int 0, .null, .int 0, .int 0, .int 0, .null, .null, .null, .int 0, .int 0, .null]))] sz) [(x, .inr (2, [.int 0, .int 0, .ref a1, .int 0, .int 0, .int 0, .ref a2, .null, .null, .int 0, .int 0, .null])), (a1, .inl (cI, 4, .inl (fun _ => 0))), (a2, .inl (cI, 40, .inl (fun _ => 0))), (a3, .inl (cI, 120, .inl (fun _ => 0)))] := hD
  refine va_putF (D := D) (ci := 2) (v := .ref a3) (ty := .array .int) (C := R_MD) (T := F_MD) (N := 12) hx hb hg i_MD t_MD t_MD_ok n_MD hown hE.1 hP hD hS 0 rfl rfl 7 (by decide) (hg _ zw_495) (fun _ h9 => h9) rfl hin rfl (by decide +kernel) rfl rfl (Nat.le_of_ble_eq_true rfl) d_MD_init_24 (fun H locs hP hD hS => ?_)
  have hP : va_P D zcl [(x, .inr (2, [.int 0, .int 0, .ref a1, .int 0, .int 0, .int 0, .ref a2, .ref a3, .null, .int 0, .int 0, .null])), (a1, .inl (cI, 4, .inl (fun _ => 0))), (a2, .inl (cI, 40, .inl (fun _ => 0))), (a3, .inl (cI, 120, .inl (fun _ => 0)))] H := hP
  have hD : va_D (va_A [(x, .inr (2, [.int 0, .int 0, .null, .int 0, .int 0, .int 0, .null, .null, .null, .int 0, .int 0, .null]))] sz) [(x, .inr (2, [.int 0, .int 0, .ref a1, .int 0, .int 0, .int 0, .ref a2, .ref a3, .null, .int 0, .int 0, .null])), (a1, .inl (cI, 4, .inl (fun _ => 0))), (a2, .inl (cI, 40, .inl (fun _ => 0))), (a3, .inl (cI, 120, .inl (fun _ => 0)))] := hD
  refine lv_aload_n hx hb d_MD_init_27 rfl (lv_at hl 0 rfl) ?_
  refine lv_bipush (v := (nI 40)) hx hb d_MD_init_28 (by decide) ?_
  refine va_newa (atype := .int) (ty := .int) (N' := 40) (a0 := (40, .inl (fun _ => 0))) hx hb (hg _ zw_39) rfl hE.1 hP hD hS hA (fun _ => rfl) (nI_pos (by omega)) (nI_clamp (by omega)) (by decide) (Nat.le_of_ble_eq_true rfl) (Nat.le_of_ble_eq_true rfl) d_MD_init_30 (fun a4 cA9 H hK9 hP hD hS => ?_)
  obtain rfl : cI = cA9 := zcls 0 3 hK9 rfl rfl (fun _ h => by cases h)
  have hP : va_P D zcl [(x, .inr (2, [.int 0, .int 0, .ref a1, .int 0, .int 0, .int 0, .ref a2, .ref a3, .null, .int 0, .int 0, .null])), (a1, .inl (cI, 4, .inl (fun _ => 0))), (a2, .inl (cI, 40, .inl (fun _ => 0))), (a3, .inl (cI, 120, .inl (fun _ => 0))), (a4, .inl (cI, 40, .inl (fun _ => 0)))] H := hP
  have hD : va_D (va_A [(x, .inr (2, [.int 0, .int 0, .null, .int 0, .int 0, .int 0, .null, .null, .null, .int 0, .int 0, .null]))] sz) [(x, .inr (2, [.int 0, .int 0, .ref a1, .int 0, .int 0, .int 0, .ref a2, .ref a3, .null, .int 0, .int 0, .null])), (a1, .inl (cI, 4, .inl (fun _ => 0))), (a2, .inl (cI, 40, .inl (fun _ => 0))), (a3, .inl (cI, 120, .inl (fun _ => 0))), (a4, .inl (cI, 40, .inl (fun _ => 0)))] := hD
  refine va_putF (D := D) (ci := 2) (v := .ref a4) (ty := .array .int) (C := R_MD) (T := F_MD) (N := 12) hx hb hg i_MD t_MD t_MD_ok n_MD hown hE.1 hP hD hS 0 rfl rfl 8 (by decide) (hg _ zw_496) (fun _ h9 => h9) rfl hin rfl (by decide +kernel) rfl rfl (Nat.le_of_ble_eq_true rfl) d_MD_init_32 (fun H locs hP hD hS => ?_)
  have hP : va_P D zcl [(x, .inr (2, [.int 0, .int 0, .ref a1, .int 0, .int 0, .int 0, .ref a2, .ref a3, .ref a4, .int 0, .int 0, .null])), (a1, .inl (cI, 4, .inl (fun _ => 0))), (a2, .inl (cI, 40, .inl (fun _ => 0))), (a3, .inl (cI, 120, .inl (fun _ => 0))), (a4, .inl (cI, 40, .inl (fun _ => 0)))] H := hP
  have hD : va_D (va_A [(x, .inr (2, [.int 0, .int 0, .null, .int 0, .int 0, .int 0, .null, .null, .null, .int 0, .int 0, .null]))] sz) [(x, .inr (2, [.int 0, .int 0, .ref a1, .int 0, .int 0, .int 0, .ref a2, .ref a3, .ref a4, .int 0, .int 0, .null])), (a1, .inl (cI, 4, .inl (fun _ => 0))), (a2, .inl (cI, 40, .inl (fun _ => 0))), (a3, .inl (cI, 120, .inl (fun _ => 0))), (a4, .inl (cI, 40, .inl (fun _ => 0)))] := hD
  refine lv_aload_n hx hb d_MD_init_35 rfl (lv_at hl 0 rfl) ?_
  refine lv_sipush (v := (nI 160)) hx hb d_MD_init_36 (by decide) ?_
  refine va_newa (atype := .char) (ty := .char) (N' := 160) (a0 := (160, .inl (fun _ => 0))) hx hb (hg _ zw_525) rfl hE.1 hP hD hS hA (fun _ => rfl) (nI_pos (by omega)) (nI_clamp (by omega)) (by decide) (Nat.le_of_ble_eq_true rfl) (Nat.le_of_ble_eq_true rfl) d_MD_init_39 (fun a5 cA9 H hK9 hP hD hS => ?_)
  obtain rfl : cC = cA9 := zcls 1 3 hK9 rfl rfl (fun _ h => by cases h)
  have hP : va_P D zcl [(x, .inr (2, [.int 0, .int 0, .ref a1, .int 0, .int 0, .int 0, .ref a2, .ref a3, .ref a4, .int 0, .int 0, .null])), (a1, .inl (cI, 4, .inl (fun _ => 0))), (a2, .inl (cI, 40, .inl (fun _ => 0))), (a3, .inl (cI, 120, .inl (fun _ => 0))), (a4, .inl (cI, 40, .inl (fun _ => 0))), (a5, .inl (cC, 160, .inl (fun _ => 0)))] H := hP
  have hD : va_D (va_A [(x, .inr (2, [.int 0, .int 0, .null, .int 0, .int 0, .int 0, .null, .null, .null, .int 0, .int 0, .null]))] sz) [(x, .inr (2, [.int 0, .int 0, .ref a1, .int 0, .int 0, .int 0, .ref a2, .ref a3, .ref a4, .int 0, .int 0, .null])), (a1, .inl (cI, 4, .inl (fun _ => 0))), (a2, .inl (cI, 40, .inl (fun _ => 0))), (a3, .inl (cI, 120, .inl (fun _ => 0))), (a4, .inl (cI, 40, .inl (fun _ => 0))), (a5, .inl (cC, 160, .inl (fun _ => 0)))] := hD
  refine va_putF (D := D) (ci := 2) (v := .ref a5) (ty := .array .char) (C := R_MD) (T := F_MD) (N := 12) hx hb hg i_MD t_MD t_MD_ok n_MD hown hE.1 hP hD hS 0 rfl rfl 11 (by decide) (hg _ zw_499) (fun _ h9 => h9) rfl hin rfl (by decide +kernel) rfl rfl (Nat.le_of_ble_eq_true rfl) d_MD_init_41 (fun H locs hP hD hS => ?_)
  have hP : va_P D zcl [(x, .inr (2, [.int 0, .int 0, .ref a1, .int 0, .int 0, .int 0, .ref a2, .ref a3, .ref a4, .int 0, .int 0, .ref a5])), (a1, .inl (cI, 4, .inl (fun _ => 0))), (a2, .inl (cI, 40, .inl (fun _ => 0))), (a3, .inl (cI, 120, .inl (fun _ => 0))), (a4, .inl (cI, 40, .inl (fun _ => 0))), (a5, .inl (cC, 160, .inl (fun _ => 0)))] H := hP
  have hD : va_D (va_A [(x, .inr (2, [.int 0, .int 0, .null, .int 0, .int 0, .int 0, .null, .null, .null, .int 0, .int 0, .null]))] sz) [(x, .inr (2, [.int 0, .int 0, .ref a1, .int 0, .int 0, .int 0, .ref a2, .ref a3, .ref a4, .int 0, .int 0, .ref a5])), (a1, .inl (cI, 4, .inl (fun _ => 0))), (a2, .inl (cI, 40, .inl (fun _ => 0))), (a3, .inl (cI, 120, .inl (fun _ => 0))), (a4, .inl (cI, 40, .inl (fun _ => 0))), (a5, .inl (cC, 160, .inl (fun _ => 0)))] := hD
  refine W.widen (k := 5) (n := 364) (Nat.le_of_ble_eq_true rfl) (Nat.le_of_ble_eq_true rfl) ?_
  exact W.vret hx hb hr (fun t ht _ => ⟨rfl, by rw [ht]; exact ⟨fun i => match i with | 0 => x | 1 => a1 | 2 => a2 | 3 => a3 | 4 => a4 | _ => a5, rfl, hP, hD⟩, hS.F ht⟩) hS.2.2 d_MD_init_44

