/-! The law's own kit: the class beside the law's long[1]; methods with handlers. -/
def zAO (h : Nat → Nat) (o : Nat) : Nat → Prop := fun q => zAS h q ∨ q = o
abbrev zLo (cJ : ClassId) (o : Nat) (f : Nat → Int64) : va_W := [(o, .inl (cJ, 1, .inr (.inl f)))]
/-- the law's long[1] holds v -/
def zOu (D : va_G) (cJ : ClassId) (o : Nat) (v : Int64) (H : Heap) : Prop := ∃ f : Nat → Int64, f 0 = v ∧ va_P D zcl (zLo cJ o f) H
abbrev zIA : String := "java/lang/IllegalArgumentException"
abbrev zIS : String := "java/lang/IllegalStateException"
/-- what a wrapper takes of the start -/
def zX3 (A : Nat → Prop) (U : State) : Prop := zX2 A U ∧ va_Nc zIS zIA U
theorem zX3.use {A B : Nat → Prop} {s U : State} {H : Heap} {locs : List Loc} (h : zX3 A s) (hS : va_S A s.heap H locs) (hU : U.heap = H) (hW : s.WarmedH U.vm) (hAB : ∀ q, B q → A q) : zX3 B U := ⟨h.1.use hS hU hW hAB, h.2.moved hW.alike⟩
theorem zX3.bl {A : Nat → Prop} : zBl (zX3 A) := fun U g mk a h => ⟨zX2.bl U g mk a h.1, va_Nc.moved (u := U) (U := U.calling g mk a) (Vm.Alike.refl U.vm) h.2⟩
section ZL1
variable {D : va_G} {cI cC cJ : ClassId} {h gg : Nat → Nat} {ft : Int32} {n0 n2 n3 n4 rt o : Nat} {S M B E : Nat → Nat} {H H1 : Heap} {s : State} {v : Int64}
theorem zCl.recv (hE : zE D cI cC cJ s) (h9 : zCl D cI h n0 S n2 M n3 B n4 E rt H) : ∃ cell : Cell, H[h 0]? = some cell ∧ cell.vm.isStatics = false ∧ s.vm.findClass "SealedFiles" = some cell.cls := by
  obtain ⟨f0, f1, f2, f3, f4, -, -, -, -, -, hP⟩ := h9
  exact va_recv hE.1 hP (ci := 1) (q := (R_SF, F_SF, 6)) rfl (q0 := 0) rfl
theorem zMo.recv (hE : zE D cI cC cJ s) (h9 : zMo D cI cC gg ft n0 S n2 M n3 B n4 E rt H) : ∃ cell : Cell, H[gg 0]? = some cell ∧ cell.vm.isStatics = false ∧ s.vm.findClass "SealedFilesModel" = some cell.cls := by
  obtain ⟨rd, e0, e2, e3, e5, e4, -, -, -, -, hP⟩ := h9
  exact va_recv hE.1 hP (ci := 2) (q := (R_MD, F_MD, 12)) rfl (q0 := 0) rfl
theorem zCl.kept (hh : zs_inj h) (h9 : zCl D cI h n0 S n2 M n3 B n4 E rt H) (hk : ∀ q : Nat, q < H.size → zAS h q → H1[q]? = H[q]?) : zCl D cI h n0 S n2 M n3 B n4 E rt H1 := by
  obtain ⟨f0, f1, f2, f3, f4, a0, a1, a2, a3, a4, hP⟩ := h9
  exact ⟨f0, f1, f2, f3, f4, a0, a1, a2, a3, a4, hP.kept fun k q hq => hk q.1 (hP k q hq).lt ((zSf_D hh).2 k q hq)⟩
theorem zMo.kept (hh : zm_inj gg) (h9 : zMo D cI cC gg ft n0 S n2 M n3 B n4 E rt H) (hk : ∀ q : Nat, q < H.size → zAM gg q → H1[q]? = H[q]?) : zMo D cI cC gg ft n0 S n2 M n3 B n4 E rt H1 := by
  obtain ⟨rd, e0, e2, e3, e5, e4, a0, a1, a2, a3, hP⟩ := h9
  exact ⟨rd, e0, e2, e3, e5, e4, a0, a1, a2, a3, hP.kept fun k q hq => hk q.1 (hP k q hq).lt ((zMd_D hh).2 k q hq)⟩
theorem zOu.kept (h9 : zOu D cJ o v H) (hk : ∀ q : Nat, q < H.size → q = o → H1[q]? = H[q]?) : zOu D cJ o v H1 := by
  obtain ⟨f, hf, hP⟩ := h9
  refine ⟨f, hf, hP.kept fun k q hq => hk q.1 (hP k q hq).lt ?_⟩
  match k with
  | 0 => cases hq; rfl
  | k + 1 => cases hq
end ZL1
section ZL2
variable {l : Launch} {D : va_G} {cI cC cJ : ClassId} {X : State → Prop}
theorem zMetW {y : MethodName} {cc : ByteArray} {maxL : Nat} {ret : Option FieldType} {tb : List (Nat × Nat × Nat × Nat)} {rm : Room} {av : List Value} {B : Heap → Prop} {Qc : Array Value → State → Outcome → State → Prop} {mc ms : Nat} {free : Addr → Prop}
    (hy : plainName y.cls = true) (ha : (lg_sl av).length ≤ maxL)
    (body : ∀ (p : Program) (e : Env) (s : State) (m : MethodId) (below : List Frame) (meth : Method) (c : Code), p.tables.exec = Jvm.exec → c.code = cc → meth.sig.returnType = ret → (∀ w ∈ zg, w.before av.toArray s = true) → s.vm.findClass y.cls = some m.cls →
      meth.locks = false → c.maxLocals = maxL → c.exceptionTable.toList = tableOf tb → B s.heap → zE D cI cC cJ s → X s → ∀ ls : Array Slot, lv_has ls maxL (lv_args 0 av) →
      W p l e rm s m av.toArray below meth c s.heap [] 0 0 (MQ below Qc av.toArray s mc ms free) (F0 m 0 ls [])) :
    Met l y (zw (.codeWith y cc maxL ret tb)) rm (zPcY av B D cI cC cJ X) Qc mc ms free := by
  refine va_MetW (cc := cc) (maxL := maxL) (ret := ret) (hh := tb) hy rfl ?_
  intro p e s m args below meth c s₁ B9 hml hv
  obtain ⟨rfl, hB, hE, hX⟩ := hv
  have hts := atoms_spec (ws := zw (.codeWith y cc maxL ret tb)) B9.pre
  have ht := vx_table (x := y) B9 (hts _ List.mem_cons_self)
  have hl := lv_entry av (n := maxL) ha
  rw [lg_entry_eq]
  exact body p e s m below meth c B9.exec B9.bytes B9.returns (fun w h => hts w (List.mem_cons_of_mem _ h)) (findClass_of_methodNamed B9.named) B9.notSynchronized hml ht hB hE hX _ hl
variable {p : Program} {e : Env} {R : Room} {s : State} {m : MethodId} {args : Array Value} {below : List Frame} {meth : Method} {c : Code} {H : Heap} {locs : List Loc} {cells slots : Nat} {Q : State → Prop}
variable {y : MethodName} {cc bytes : ByteArray} {maxL nL mc ms n idx pc : Nat} {ret : Option FieldType} {rm : Room} {B : Heap → Prop} {Qc : Array Value → State → Outcome → State → Prop} {XC : String → State → State → Prop} {free : Addr → Prop} {own : String} {b : Nat} {As rest st : List Value} {ls : Array Slot}
/-- a call of a method that throws -/
theorem zrVT (S : CallFix p m c cc nL s args zg own) (hM : vx_Met l y (zw (.code y bytes maxL ret)) rm (zPcY (.ref b :: As) B D cI cC cJ X) Qc XC mc ms free) (hc : zCal y bytes maxL ret n)
    (hl : Cond.methodLink own idx y ∈ zg) (hi : Cond.instanceMethod y ∈ zg) (hsl : Cond.selects y.cls y y ∈ zg) (hr : zRoom R rm maxL mc ms cells slots)
    (hrc : ∃ cell : Cell, H[b]? = some cell ∧ cell.vm.isStatics = false ∧ s.vm.findClass y.cls = some cell.cls) (hB : B H) (hE : zE D cI cC cJ s) (hbl : zBl X) (hX : ∀ U : State, U.heap = H → s.WarmedH U.vm → X U) (hn : As.length = n) (hsz : ls.size = nL) (hst : st = As.reverse ++ .ref b :: rest)
    (hw : (rest.map fun v => v.category).sum ≤ 8) (hdg : decode cc pc = .ok (.invokevirtual idx, 3)) :
    vx_Run p l e R s m args below meth c H locs cells slots mc ms (F0 m pc ls st) rest (Qc (Value.ref b :: As).toArray) XC free := by
  obtain ⟨h1, h2, h3, h4, h5⟩ := hc
  obtain ⟨r1, r2, r3, r4, r5, r6⟩ := hr
  have hg := S.2.2.2.2
  exact vx_runV (C := y.cls) S hM ⟨callB_of n hg (zg_sub h1) rfl r1 r2 (hg _ h2) (hg _ hl) ⟨h3, h4, h5⟩ ⟨r3, r4⟩, hg _ hi, hg _ hsl⟩
    ⟨zPcY.blind hbl, hrc, fun U hU hW => ⟨rfl, by rw [hU]; exact hB, hE.warm hW, hX U hU hW⟩⟩ rfl hn hsz hst (lv_room hw) hdg ⟨r5, r6⟩
/-- a static call of a method with handlers -/
theorem zrSW {tb : List (Nat × Nat × Nat × Nat)} (S : CallFix p m c cc nL s args zg own) (hM : Met l y (zw (.codeWith y bytes maxL ret tb)) rm (zPcY As B D cI cC cJ X) Qc mc ms free)
    (hc : Cond.codeWith y bytes maxL ret tb ∈ zg) (hini : Cond.initialized y.cls ∈ zg) (hd : y.cls ≠ "java/lang/invoke/MethodHandle" ∧ y.cls ≠ "java/lang/invoke/VarHandle" ∧ (parseMethodDescriptor y.desc).map (fun d => d.parameters.length) = some n)
    (hl : Cond.methodLink own idx y ∈ zg) (hi : Cond.static y ∈ zg) (hr : zRoom R rm maxL mc ms cells slots)
    (hB : B H) (hE : zE D cI cC cJ s) (hbl : zBl X) (hX : ∀ U : State, U.heap = H → s.WarmedH U.vm → X U) (hn : As.length = n) (hsz : ls.size = nL) (hst : st = As.reverse ++ rest)
    (hw : (rest.map fun v => v.category).sum ≤ 8) (hdg : decode cc pc = .ok (.invokestatic idx, 3)) :
    va_Run p l e R s m args below meth c H locs cells slots mc ms (F0 m pc ls st) rest (Qc As.toArray) free := by
  obtain ⟨r1, r2, r3, r4, r5, r6⟩ := hr
  have hg := S.2.2.2.2
  refine vx_runSW (hh := tb) S hM ⟨⟨r1, r2, r3, r4, pay_in hg (zg_sub hc), List.mem_cons_self⟩, hg _ hc, hg _ hini, ⟨hd.1, hd.2.1⟩, fun sig h => ?_, hg _ hl, hg _ hi⟩
    ⟨zPcY.blind hbl, fun U hU hW => ⟨rfl, by rw [hU]; exact hB, hE.warm hW, hX U hU hW⟩⟩ rfl hn hsz hst (lv_room hw) hdg ⟨r5, r6⟩
  have h2 := hd.2.2
  rw [h] at h2
  exact (Option.some.inj h2).symm
/-- 'out[0] = x', the class beside it -/
theorem zlast {h : Nat → Nat} {n0 n2 n3 n4 rt o : Nat} {S M B E : Nat → Nat} {v x : Int64} {H0 : Heap} (hexec : p.tables.exec = Jvm.exec) (hb : c.code = cc) (hE : zE D cI cC cJ s) (hh : zs_inj h) (ho : ¬ zAS h o) (hC : zCl D cI h n0 S n2 M n3 B n4 E rt H) (hO : zOu D cJ o v H) (hS : va_S (zAO h o) H0 H locs) (hdg : decode cc pc = .ok (.lastore, 1))
    (kk : ∀ (H1 : Heap) (locs1 : List Loc), zCl D cI h n0 S n2 M n3 B n4 E rt H1 → zOu D cJ o x H1 → va_S (zAO h o) H0 H1 locs1 → W p l e R s m args below meth c H1 locs1 cells slots Q (F0 m (pc + 1) ls rest)) : W p l e R s m args below meth c H locs cells slots Q (F0 m pc ls (.long x :: .int (nI 0) :: .ref o :: rest)) := by
  obtain ⟨f0, f1, f2, f3, f4, a0, a1, a2, a3, a4, hP⟩ := hC
  obtain ⟨f, hf, hQ⟩ := hO
  have hD : va_D (zAO h o) (zSf cI h n0 n0 n2 n3 n4 f0 f1 f2 f3 f4 (nI rt) ++ zLo cJ o f) := by
    refine va_D.app ((zSf_D hh).weaken fun k q _ hq => Or.inl hq) (zD1 (Or.inr rfl)) fun i j p9 q9 hi hj => ?_
    match j with
    | 0 => cases hj; exact fun (z : p9.1 = o) => ho (z ▸ (zSf_D hh).2 i p9 hi)
    | j + 1 => cases hj
  refine va_last hexec hb hE.1 (hP.app hQ) hD hS 11 2 rfl rfl (i := nI 0) (vp_in_nI (by decide) (by decide)) hdg (fun H1 locs1 h1 h2 h3 => ?_)
  exact kk H1 locs1 ⟨f0, f1, f2, f3, f4, a0, a1, a2, a3, a4, h1.sub [0, 1, 2, 3, 4, 5, 6, 7, 8, 9, 10] rfl⟩ ⟨_, by rw [nI_clamp (by decide)]; rfl, h1.sub [11] rfl⟩ h3
end ZL2
