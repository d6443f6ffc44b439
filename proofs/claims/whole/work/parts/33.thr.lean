/-! Methods of the class that throw: one form of contract. -/
abbrev zNm : List String := ["java/lang/RuntimeException", "java/lang/Exception"]
/-- the words of a throw that a warmer machine keeps by a law of their own -/
abbrev zBad (cls : String) : List Cond := [Cond.castable cls cls, Cond.declares ⟨"java/lang/RuntimeException", "<init>", "(Ljava/lang/String;)V"⟩, Cond.declares ⟨"java/lang/Exception", "<init>", "(Ljava/lang/String;)V"⟩, Cond.declares ⟨"java/lang/Throwable", "<init>", "(Ljava/lang/String;)V"⟩]
/-- nothing is returned -/
abbrev zQn (A : Nat → Prop) : Array Value → State → Outcome → State → Prop := va_Qi (S := Unit) (fun _ _ => False) (fun _ _ => True) A
/-- E0 is thrown, the heap is as B says -/
abbrev zXC (E0 : String) (B : Heap → Prop) (A : Nat → Prop) : String → State → State → Prop := vx_X (S := Unit) (fun _ => True) (fun E _ t => E = E0 ∧ B t.heap) A
set_option maxRecDepth 20000 in
theorem zt_38 : ∀ w ∈ (vx_atS "SealedFiles" 38 "java/lang/IllegalArgumentException" zNm).filter goodWord, w ∈ zg := by decide +kernel
set_option maxRecDepth 20000 in
theorem zt_49 : ∀ w ∈ (vx_atS "SealedFiles" 49 "java/lang/IllegalStateException" zNm).filter goodWord, w ∈ zg := by decide +kernel
set_option maxRecDepth 20000 in
theorem zu_38 : ∀ w ∈ (vx_atS "SealedFiles" 38 "java/lang/IllegalArgumentException" zNm).filter (fun w => !goodWord w), w ∈ zBad "java/lang/IllegalArgumentException" := by decide +kernel
set_option maxRecDepth 20000 in
theorem zu_49 : ∀ w ∈ (vx_atS "SealedFiles" 49 "java/lang/IllegalStateException" zNm).filter (fun w => !goodWord w), w ∈ zBad "java/lang/IllegalStateException" := by decide +kernel
section ZT
variable {l : Launch} {D : va_G} {cI cC cJ : ClassId} {X : State → Prop}
theorem zMetT {y : MethodName} {cc : ByteArray} {maxL : Nat} {ret : Option FieldType} {rm : Room} {av : List Value} {B : Heap → Prop} {Qc : Array Value → State → Outcome → State → Prop} {XC : String → State → State → Prop} {mc ms : Nat} {free : Addr → Prop}
    (hy : plainName y.cls = true) (ha : (lg_sl av).length ≤ maxL)
    (body : ∀ (p : Program) (e : Env) (s : State) (m : MethodId) (below : List Frame) (meth : Method) (c : Code), p.tables.exec = Jvm.exec → c.code = cc → meth.sig.returnType = ret → (∀ w ∈ zg, w.before av.toArray s = true) → s.vm.findClass y.cls = some m.cls →
      meth.locks = false → c.maxLocals = maxL → (∀ x ∈ c.exceptionTable.toList, False) → B s.heap → zE D cI cC cJ s → X s → ∀ ls : Array Slot, lv_has ls maxL (lv_args 0 av) →
      W p l e rm s m av.toArray below meth c s.heap [] 0 0 (vx_MQ below Qc XC av.toArray s mc ms free) (F0 m 0 ls [])) :
    vx_Met l y (zw (.code y cc maxL ret)) rm (zPcY av B D cI cC cJ X) Qc XC mc ms free := by
  refine vx_ofW (cc := cc) (maxL := maxL) (ret := ret) hy rfl ?_
  intro p e s m args below meth c s₁ B9 hml hex hv
  obtain ⟨rfl, hB, hE, hX⟩ := hv
  have hts := atoms_spec (ws := zw (.code y cc maxL ret)) B9.pre
  have hl := lv_entry av (n := maxL) ha
  rw [lg_entry_eq]
  exact body p e s m below meth c B9.exec B9.bytes B9.returns (fun w h => hts w (List.mem_cons_of_mem _ h)) (findClass_of_methodNamed B9.named) B9.notSynchronized hml hex hB hE hX _ hl
end ZT
section ZU
variable {p : Program} {l : Launch} {e : Env} {R : Room} {s : State} {m : MethodId} {args : Array Value} {below : List Frame} {meth : Method} {c : Code} {H : Heap} {locs : List Loc} {cells slots : Nat}
/-- 'throw new E0("text")', the world as it is -/
theorem zThrow {cc : ByteArray} {pc ik is ic : Nat} {ls : Array Slot} {rest : List Value} {cls text : String} {A : Nat → Prop} {B1 : Heap → Prop} (hx : p.tables.exec = Jvm.exec) (hb : c.code = cc) (hl9 : l.stackTraces = false) (hown : s.vm.findClass "SealedFiles" = some m.cls) (hg : ∀ w ∈ zg, w.before args s = true)
    (hcls : Bundle.fit cls = true) (hk : Cond.classLink "SealedFiles" ik cls ∈ zg) (hini : Cond.initialized cls ∈ zg) (hX : zX2 A s) (hstr : (is, text) ∈ zStr) (hcast : Cond.castable cls cls ∈ zXw)
    (hat : ∀ w ∈ (vx_atS "SealedFiles" ic cls zNm).filter goodWord, w ∈ zg) (hbad : ∀ w ∈ (vx_atS "SealedFiles" ic cls zNm).filter (fun w => !goodWord w), w ∈ zBad cls)
    (hgood : ∀ w ∈ Cond.classLink "SealedFiles" ik cls :: Cond.initialized cls :: vx_atS "SealedFiles" ic cls zNm, vx_ot w = true)
    (hS : va_S A s.heap H locs) (hsize : ls.size = c.maxLocals)
    (d0 : decode cc pc = .ok (.new ik, 3)) (d3 : decode cc (pc + 3) = .ok (.dup, 1)) (d4 : decode cc (pc + 4) = .ok (.ldc is, 2)) (d6 : decode cc (pc + 6) = .ok (.invokespecial ic, 3)) (d9 : decode cc (pc + 9) = .ok (.athrow, 1))
    (hex : ∀ x ∈ c.exceptionTable.toList, False) (hRf : 5 < R.frames) (hRl : (rest.map fun v => v.category).sum + 82 ≤ R.locals) (hRc : cells + 1 ≤ R.cells) (hRs : slots + 6 ≤ R.slots) (hlocks : meth.locks = false)
    (hB : ∀ t : Heap, H.size ≤ t.size → (∀ q : Nat, q < H.size → t[q]? = H[q]?) → B1 t) (hc : cells + 1 ≤ 1) (hs : slots + 6 ≤ 6) {Qc : Array Value → State → Outcome → State → Prop} :
    W p l e R s m args below meth c H locs cells slots (vx_MQ below Qc (zXC cls B1 A) args s 1 6 A) (F0 m pc ls rest) := by
  obtain ⟨sa, hsa⟩ := hX.2.1 _ hstr
  refine vx_throwS (A := A) (names := zNm) hx hb hl9 hown hcls (by decide) (hg _ hk) (hg _ hini) hsa ?_ hgood hX.2.2.1 hX.2.2.2 hS hsize d0 d3 d4 d6 d9 (fun x h => (hex x h).elim) hRf hRl hRc hRs hlocks ?_ hS.2.2 hc hs
  · exact vx_hat (L := vx_atS "SealedFiles" ic cls zNm) (B := zBad cls) (fun w hw => hg w (hat w hw)) hbad (vx_c (va_Nw.use rfl (hX.1 _ hcast)) (vx_c (va_Nw.use rfl (hX.1 _ (by decide))) (vx_c (va_Nw.use rfl (hX.1 _ (by decide))) (vx_c (va_Nw.use rfl (hX.1 _ (by decide))) vx_n))))
  · intro t _ hz ht
    exact ⟨(), trivial, ⟨rfl, hB t.heap hz ht⟩, Nat.le_trans hS.1 hz, fun q h1 h2 => (ht q (Nat.lt_of_lt_of_le h1 hS.1)).trans (hS.2.1 q h1 h2)⟩
theorem zkept {D : va_G} {cl : List vw_C} {ws : va_W} {t : Heap} (hP : va_P D cl ws H) (ht : ∀ q : Nat, q < H.size → t[q]? = H[q]?) : va_P D cl ws t := hP.kept (fun k q hk => ht q.1 (hP k q hk).lt)
end ZU
