/-! Rows of this claim's own: one form of contract, one form of call. -/
/-- what a method takes of the tables beside its words: class numbers, array classes, the links inside the nest -/
def zE (D : va_G) (cI cC cJ : ClassId) (U : State) : Prop := va_K D zcl [(cI, .int), (cC, .char), (cJ, .long)] U ∧ ∀ w ∈ zN, va_Nw w U
theorem zE.same {D : va_G} {cI cC cJ : ClassId} {u U : State} (hv : u.vm = U.vm) (h : zE D cI cC cJ u) : zE D cI cC cJ U := by
  refine ⟨va_K.moved (by rw [hv]; exact Vm.Alike.refl _) h.1, fun w hw => ?_⟩
  have h1 := h.2 w hw
  obtain ⟨q, -, rfl⟩ := List.mem_map.mp hw
  exact va_Nw.same rfl hv h1
theorem zE.warm {D : va_G} {cI cC cJ : ClassId} {s U : State} (hW : s.WarmedH U.vm) (h : zE D cI cC cJ s) : zE D cI cC cJ U := by
  refine ⟨va_K.moved hW.alike h.1, fun w hw => ?_⟩
  have h1 := h.2 w hw
  obtain ⟨q, -, rfl⟩ := List.mem_map.mp hw
  exact va_Nw.warmM hW h1
/-- a method's start: its arguments, a picture of the heap, the tables -/
def zPc (av : List Value) (B : Heap → Prop) (D : va_G) (cI cC cJ : ClassId) : Array Value → State → Prop := fun v U => v = av.toArray ∧ B U.heap ∧ zE D cI cC cJ U
theorem zPc.blind {av : List Value} {B : Heap → Prop} {D : va_G} {cI cC cJ : ClassId} : FrameBlind (zPc av B D cI cC cJ) := fun a U g mk h => ⟨h.1, h.2.1, zE.same (u := U) (U := U.calling g mk a) rfl h.2.2⟩
/-- a method's end: what it answers, a picture of the heap, what isn't its own stays -/
def zQm (rv : Option Value) (B : Heap → Prop) (A : Nat → Prop) : Array Value → State → Outcome → State → Prop := fun _ st o t => o = .returned rv ∧ B t.heap ∧ va_F A st t
section ZKit
variable {p : Program} {l : Launch} {e : Env} {R : Room} {s : State} {m : MethodId} {args : Array Value} {below : List Frame} {meth : Method} {c : Code} {H : Heap} {locs : List Loc} {cells slots : Nat} {Q : State → Prop}
variable {D : va_G} {cI cC cJ : ClassId}
theorem zMet {y : MethodName} {cc : ByteArray} {maxL : Nat} {ret : Option FieldType} {rm : Room} {av : List Value} {B : Heap → Prop} {Qc : Array Value → State → Outcome → State → Prop} {mc ms : Nat} {free : Addr → Prop}
    (hy : plainName y.cls = true) (ha : (lg_sl av).length ≤ maxL)
    (body : ∀ (p : Program) (e : Env) (s : State) (m : MethodId) (below : List Frame) (meth : Method) (c : Code), p.tables.exec = Jvm.exec → c.code = cc → meth.sig.returnType = ret → (∀ w ∈ zg, w.before av.toArray s = true) → s.vm.findClass y.cls = some m.cls →
      meth.locks = false → c.maxLocals = maxL → B s.heap → zE D cI cC cJ s → ∀ ls : Array Slot, lv_has ls maxL (lv_args 0 av) →
      W p l e rm s m av.toArray below meth c s.heap [] 0 0 (MQ below Qc av.toArray s mc ms free) (F0 m 0 ls [])) :
    Met l y (zw (.code y cc maxL ret)) rm (zPc av B D cI cC cJ) Qc mc ms free := by
  refine Met.ofW (cc := cc) (maxL := maxL) (ret := ret) hy rfl ?_
  intro p e s m args below meth c s₁ B9 hml hv
  obtain ⟨rfl, hB, hE⟩ := hv
  have hts := atoms_spec (ws := zw (.code y cc maxL ret)) B9.pre
  have hl := lv_entry av (n := maxL) ha
  rw [lg_entry_eq]
  exact body p e s m below meth c B9.exec B9.bytes B9.returns (fun w h => hts w (List.mem_cons_of_mem _ h)) (findClass_of_methodNamed B9.named) B9.notSynchronized hml hB hE _ hl
/-- what a call needs to know of its callee -/
def zCal (y : MethodName) (bytes : ByteArray) (maxL : Nat) (ret : Option FieldType) (n : Nat) : Prop :=
  Cond.code y bytes maxL ret ∈ zg ∧ Cond.initialized y.cls ∈ zg ∧ y.cls ≠ "java/lang/invoke/MethodHandle" ∧ y.cls ≠ "java/lang/invoke/VarHandle" ∧ (parseMethodDescriptor y.desc).map (fun d => d.parameters.length) = some n
/-- .. and of its room -/
abbrev zRoom (R rm : Room) (maxL mc ms cells slots : Nat) : Prop := rm.cells = mc ∧ rm.slots = ms ∧ rm.frames + 1 ≤ R.frames ∧ 8 + (maxL + 11) + rm.locals ≤ R.locals ∧ cells + mc ≤ R.cells ∧ slots + ms ≤ R.slots
variable {y : MethodName} {cc bytes : ByteArray} {maxL nL mc ms n idx pc : Nat} {ret : Option FieldType} {rm : Room} {B : Heap → Prop} {Qc : Array Value → State → Outcome → State → Prop} {free : Addr → Prop} {own : String} {b : Nat} {As rest st : List Value} {ls : Array Slot}
/-- a call of a virtual method of the class itself, or of one that may be seen from here -/
theorem zrV (S : CallFix p m c cc nL s args zg own) (hM : Met l y (zw (.code y bytes maxL ret)) rm (zPc (.ref b :: As) B D cI cC cJ) Qc mc ms free) (hc : zCal y bytes maxL ret n)
    (hl : Cond.methodLink own idx y ∈ zg) (hi : Cond.instanceMethod y ∈ zg) (hsl : Cond.selects y.cls y y ∈ zg) (hr : zRoom R rm maxL mc ms cells slots)
    (hrc : ∃ cell : Cell, H[b]? = some cell ∧ cell.vm.isStatics = false ∧ s.vm.findClass y.cls = some cell.cls) (hB : B H) (hE : zE D cI cC cJ s) (hn : As.length = n) (hsz : ls.size = nL) (hst : st = As.reverse ++ .ref b :: rest)
    (hw : (rest.map fun v => v.category).sum ≤ 8) (hdg : decode cc pc = .ok (.invokevirtual idx, 3)) :
    va_Run p l e R s m args below meth c H locs cells slots mc ms (F0 m pc ls st) rest (Qc (Value.ref b :: As).toArray) free := by
  obtain ⟨h1, h2, h3, h4, h5⟩ := hc
  obtain ⟨r1, r2, r3, r4, r5, r6⟩ := hr
  have hg := S.2.2.2.2
  exact va_runV (C := y.cls) S hM ⟨callB_of n hg (zg_sub h1) rfl r1 r2 (hg _ h2) (hg _ hl) ⟨h3, h4, h5⟩ ⟨r3, r4⟩, hg _ hi, hg _ hsl⟩
    ⟨zPc.blind, hrc, fun U hU hW => ⟨rfl, by rw [hU]; exact hB, hE.warm hW⟩⟩ rfl hn hsz hst (lv_room hw) hdg ⟨r5, r6⟩
/-- .. of a method of a nest mate -/
theorem zrVN (S : CallFix p m c cc nL s args zg "SealedFiles") (hM : Met l y (zw (.code y bytes maxL ret)) rm (zPc (.ref b :: As) B D cI cC cJ) Qc mc ms free) (hc : zCal y bytes maxL ret n)
    (hl : (idx, y) ∈ zNl) (hi : Cond.instanceMethod y ∈ zg) (hsl : Cond.selects y.cls y y ∈ zg) (hr : zRoom R rm maxL mc ms cells slots)
    (hrc : ∃ cell : Cell, H[b]? = some cell ∧ cell.vm.isStatics = false ∧ s.vm.findClass y.cls = some cell.cls) (hB : B H) (hE : zE D cI cC cJ s) (hn : As.length = n) (hsz : ls.size = nL) (hst : st = As.reverse ++ .ref b :: rest)
    (hw : (rest.map fun v => v.category).sum ≤ 8) (hdg : decode cc pc = .ok (.invokevirtual idx, 3)) :
    va_Run p l e R s m args below meth c H locs cells slots mc ms (F0 m pc ls st) rest (Qc (Value.ref b :: As).toArray) free := by
  obtain ⟨h1, h2, h3, h4, h5⟩ := hc
  obtain ⟨r1, r2, r3, r4, r5, r6⟩ := hr
  have hg := S.2.2.2.2
  exact va_runVN (C := y.cls) (host := "SealedFiles") S hM ⟨va_cnB n hg (zg_sub h1) rfl r1 r2 (hE.2 _ (List.mem_map.mpr ⟨_, hl, rfl⟩)) (hg _ h2) ⟨h3, h4, h5⟩ ⟨r3, r4⟩, hg _ hi, hg _ hsl⟩
    ⟨zPc.blind, hrc, fun U hU hW => ⟨rfl, by rw [hU]; exact hB, hE.warm hW⟩⟩ rfl hn hsz hst (lv_room hw) hdg ⟨r5, r6⟩
/-- a static call within the class -/
theorem zrS (S : CallFix p m c cc nL s args zg own) (hM : Met l y (zw (.code y bytes maxL ret)) rm (zPc As B D cI cC cJ) Qc mc ms free) (hc : zCal y bytes maxL ret n)
    (hl : Cond.methodLink own idx y ∈ zg) (hi : Cond.static y ∈ zg) (hr : zRoom R rm maxL mc ms cells slots)
    (hB : B H) (hE : zE D cI cC cJ s) (hn : As.length = n) (hsz : ls.size = nL) (hst : st = As.reverse ++ rest)
    (hw : (rest.map fun v => v.category).sum ≤ 8) (hdg : decode cc pc = .ok (.invokestatic idx, 3)) :
    va_Run p l e R s m args below meth c H locs cells slots mc ms (F0 m pc ls st) rest (Qc As.toArray) free := by
  obtain ⟨h1, h2, h3, h4, h5⟩ := hc
  obtain ⟨r1, r2, r3, r4, r5, r6⟩ := hr
  have hg := S.2.2.2.2
  exact va_runS S hM ⟨callB_of n hg (zg_sub h1) rfl r1 r2 (hg _ h2) (hg _ hl) ⟨h3, h4, h5⟩ ⟨r3, r4⟩, hg _ hi⟩
    ⟨zPc.blind, fun U hU hW => ⟨rfl, by rw [hU]; exact hB, hE.warm hW⟩⟩ rfl hn hsz hst (lv_room hw) hdg ⟨r5, r6⟩
/-- .. of a nest mate's -/
theorem zrSN (S : CallFix p m c cc nL s args zg "SealedFiles") (hM : Met l y (zw (.code y bytes maxL ret)) rm (zPc As B D cI cC cJ) Qc mc ms free) (hc : zCal y bytes maxL ret n)
    (hl : (idx, y) ∈ zNl) (hi : Cond.static y ∈ zg) (hr : zRoom R rm maxL mc ms cells slots)
    (hB : B H) (hE : zE D cI cC cJ s) (hn : As.length = n) (hsz : ls.size = nL) (hst : st = As.reverse ++ rest)
    (hw : (rest.map fun v => v.category).sum ≤ 8) (hdg : decode cc pc = .ok (.invokestatic idx, 3)) :
    va_Run p l e R s m args below meth c H locs cells slots mc ms (F0 m pc ls st) rest (Qc As.toArray) free := by
  obtain ⟨h1, h2, h3, h4, h5⟩ := hc
  obtain ⟨r1, r2, r3, r4, r5, r6⟩ := hr
  have hg := S.2.2.2.2
  exact va_runSN (host := "SealedFiles") S hM ⟨va_cnB n hg (zg_sub h1) rfl r1 r2 (hE.2 _ (List.mem_map.mpr ⟨_, hl, rfl⟩)) (hg _ h2) ⟨h3, h4, h5⟩ ⟨r3, r4⟩, hg _ hi, trivial⟩
    ⟨zPc.blind, fun U hU hW => ⟨rfl, by rw [hU]; exact hB, hE.warm hW⟩⟩ rfl hn hsz hst (lv_room hw) hdg ⟨r5, r6⟩
/-- a callee that reads: its answer stands on the stack, the heap is as it was -/
theorem zRd {r : Int32} {a : Array Value} (hr : va_Run p l e R s m args below meth c H locs cells slots 0 0 (F0 m pc ls st) rest (QcRead r a) (fun _ => False))
    (kk : W p l e R s m args below meth c H locs cells slots Q (F0 m (pc + 3) ls (.int r :: rest))) : W p l e R s m args below meth c H locs cells slots Q (F0 m pc ls st) := W.callR hr.run kk
/-- a callee that writes -/
theorem zWr {rv : Option Value} {B1 : Heap → Prop} {A0 A1 : Nat → Prop} {H0 : Heap} {a : Array Value} (hr : va_Run p l e R s m args below meth c H locs cells slots mc ms (F0 m pc ls st) rest (zQm rv B1 A1 a) free)
    (hS : va_S A0 H0 H locs) (hA : ∀ q, q < H.size → A1 q → A0 q) (hf : ∀ q, free q → A0 q)
    (kk : ∀ (H1 : Heap) (locs1 : List Loc), B1 H1 → H.size ≤ H1.size → (∀ q : Nat, q < H.size → ¬ A1 q → H1[q]? = H[q]?) → va_S A0 H0 H1 locs1 → W p l e R s m args below meth c H1 locs1 (cells + mc) (slots + ms) Q (F0 m (pc + 3) ls (rv.toList ++ rest))) :
    W p l e R s m args below meth c H locs cells slots Q (F0 m pc ls st) := by
  intro T hT X
  obtain ⟨v, st₀, t, T', L, h0, X', hL, e1, e2, ⟨hv, hp, hz, hk⟩, st9⟩ := hr T hT X
  cases hv
  rw [h0] at hz hk
  obtain ⟨t2, a1, b1⟩ := kk T'.heap (locs ++ L) (by rw [e1]; exact hp) (by rw [e1]; exact hz) (fun q h1 h2 => by rw [e1]; exact hk q h1 h2)
    ⟨Nat.le_trans hS.1 (by rw [e1]; exact hz), fun q h1 h2 => by rw [e1, hk q (Nat.lt_of_lt_of_le h1 hS.1) (fun z => h2 (hA q (Nat.lt_of_lt_of_le h1 hS.1) z))]; exact hS.2.1 q h1 h2, fun q hq => by
      rcases List.mem_append.mp hq with h | h
      · exact hS.2.2 q h
      · exact hf _ (hL q h)⟩ T' rfl X'
  exact ⟨t2, st9 t2 a1, b1⟩
/-- an int array read and written at a place that is a number -/
theorem zald {ws : va_W} {tys : List (ClassId × FieldType)} {a : Nat} (hexec : p.tables.exec = Jvm.exec) (hb : c.code = cc) (hK : va_K D zcl tys s) (hP : va_P D zcl ws H) (q0 t0 : Nat) {cA : ClassId} {n j : Nat} {f : Nat → Int32} (ha : ws[q0]? = some (a, .inl (cA, n, .inl f))) (ht : tys[t0]? = some (cA, .int)) (hj : j < n) (hn : n < 2 ^ 31) (hdg : decode cc pc = .ok (.iaload, 1))
    (kk : W p l e R s m args below meth c H locs cells slots Q (F0 m (pc + 1) ls (.int (f j) :: rest))) : W p l e R s m args below meth c H locs cells slots Q (F0 m pc ls (.int (nI j) :: .ref a :: rest)) := by
  refine va_iald hexec hb hK hP q0 t0 ha ht (vp_in_nI hj hn) hdg ?_
  rw [nI_clamp (Nat.lt_trans hj hn)]
  exact kk
theorem zast {ws : va_W} {tys : List (ClassId × FieldType)} {a : Nat} {A : Nat → Prop} {H0 : Heap} (hexec : p.tables.exec = Jvm.exec) (hb : c.code = cc) (hK : va_K D zcl tys s) (hP : va_P D zcl ws H) (hD : va_D A ws) (hS : va_S A H0 H locs) (q0 t0 : Nat) {cA : ClassId} {n j : Nat} {f : Nat → Int32} (ha : ws[q0]? = some (a, .inl (cA, n, .inl f))) (ht : tys[t0]? = some (cA, .int)) {x : Int32} (hj : j < n) (hn : n < 2 ^ 31) (hdg : decode cc pc = .ok (.iastore, 1))
    (kk : ∀ (H1 : Heap) (locs1 : List Loc), va_P D zcl (ws.set q0 (a, .inl (cA, n, .inl (upd f j x)))) H1 → va_D A (ws.set q0 (a, .inl (cA, n, .inl (upd f j x)))) → va_S A H0 H1 locs1 → W p l e R s m args below meth c H1 locs1 cells slots Q (F0 m (pc + 1) ls rest)) : W p l e R s m args below meth c H locs cells slots Q (F0 m pc ls (.int x :: .int (nI j) :: .ref a :: rest)) := by
  refine va_iast hexec hb hK hP hD hS q0 t0 ha ht (vp_in_nI hj hn) hdg (fun H1 locs1 h1 h2 h3 => ?_)
  rw [nI_clamp (Nat.lt_trans hj hn)] at h1 h2
  exact kk H1 locs1 h1 h2 h3
/-- the number on the stack under another name -/
theorem ztop {x y : Int32} (h : x = y) (kk : W p l e R s m args below meth c H locs cells slots Q (F0 m pc ls (.int y :: rest))) : W p l e R s m args below meth c H locs cells slots Q (F0 m pc ls (.int x :: rest)) := h ▸ kk
theorem ztopl {x y : Int64} (h : x = y) (kk : W p l e R s m args below meth c H locs cells slots Q (F0 m pc ls (.long y :: rest))) : W p l e R s m args below meth c H locs cells slots Q (F0 m pc ls (.long x :: rest)) := h ▸ kk
end ZKit
