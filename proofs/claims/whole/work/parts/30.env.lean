/-! What stands outside the worlds: a text constant, statics; contracts that take it. -/
abbrev zs_pr : String := "ABCDEFGHIJKLMNOPQRSTUVWXYZabcdefghijklmnopqrstuvwxyz0123456789+-"
/-- the text of the printed form: its object ka, its bytes va, outside A -/
def zX1 (A : Nat → Prop) (ka va : Nat) (U : State) : Prop :=
  vk_R "SealedFiles" 129 zs_pr ka U ∧ va_Z "java/lang/String" "COMPACT_STRINGS" "Z" (.int 1) A U U.heap ∧ va_Zq "jdk/internal/util/Preconditions" "SIOOBE_FORMATTER" "Ljava/util/function/BiFunction;" A U U.heap ∧
  va_O "java/lang/String" ka A U U.heap ∧ va_OF "java/lang/String" "coder" "B" (.int 0) ka A U U.heap ∧ va_OF "java/lang/String" "value" "[B" (.ref va) ka A U U.heap ∧ va_T .byte va 64 (fun j => .int (nI (zs_chr j))) A U U.heap
theorem zX1.use {A B : Nat → Prop} {ka va : Nat} {s U : State} {H : Heap} {locs : List Loc} (h : zX1 A ka va s) (hS : va_S A s.heap H locs) (hU : U.heap = H) (hW : s.WarmedH U.vm) (hAB : ∀ q, B q → A q) : zX1 B ka va U := by
  subst hU
  obtain ⟨h1, h2, h3, h4, h5, h6, h7⟩ := h
  exact ⟨vk_R.warm hW h1, (va_Z.moved hW.alike (h2.kept hS.2.1)).narrow hAB, (va_Zq.moved hW.alike (h3.kept hS.2.1)).narrow hAB, (va_O.moved hW.alike (h4.kept hS.2.1)).narrow hAB, (va_OF.moved hW.alike (h5.kept hS.2.1)).narrow hAB, (va_OF.moved hW.alike (h6.kept hS.2.1)).narrow hAB, (va_T.moved hW.alike (h7.kept hS.2.1)).narrow hAB⟩
def zBl (X : State → Prop) : Prop := ∀ (U : State) (g : JFrame) (mk : MethodId) (a : Array Value), X U → X (U.calling g mk a)
theorem zX1.bl {A : Nat → Prop} {ka va : Nat} : zBl (zX1 A ka va) := fun U g mk a h => by
  obtain ⟨h1, h2, h3, h4, h5, h6, h7⟩ := h
  have r := Vm.Alike.refl U.vm
  exact ⟨vk_R.same rfl h1, va_Z.moved (U := U.calling g mk a) r h2, va_Zq.moved (U := U.calling g mk a) r h3, va_O.moved (U := U.calling g mk a) r h4, va_OF.moved (U := U.calling g mk a) r h5, va_OF.moved (U := U.calling g mk a) r h6, va_T.moved (U := U.calling g mk a) r h7⟩
def zXw : List Cond := [.castable "java/lang/IllegalArgumentException" "java/lang/IllegalArgumentException", .castable "java/lang/IllegalStateException" "java/lang/IllegalStateException", .castable "java/util/NoSuchElementException" "java/util/NoSuchElementException", .declares ⟨"java/lang/RuntimeException", "<init>", "(Ljava/lang/String;)V"⟩, .declares ⟨"java/lang/Exception", "<init>", "(Ljava/lang/String;)V"⟩, .declares ⟨"java/lang/Throwable", "<init>", "(Ljava/lang/String;)V"⟩]
def zStr : List (Nat × String) := [(36, "the secret is not 2 .. 32747"), (47, "there are four keys"), (70, "not one to three keys that there are"), (97, "there is no such key"), (120, "the message has no such byte"), (123, "the file has no such byte"), (146, "the draft is no printed form")]
/-- what a throw takes of the start -/
def zX2 (A : Nat → Prop) (U : State) : Prop := (∀ w ∈ zXw, va_Nw w U) ∧ (∀ q ∈ zStr, ∃ a, vk_R "SealedFiles" q.1 q.2 a U) ∧ vx_Zq Bundle.tN "UNASSIGNED_STACK" Bundle.steD A U U.heap ∧ vx_Zq Bundle.tN "SUPPRESSED_SENTINEL" Bundle.listD A U U.heap
theorem zXw_kind {w : Cond} (h : w ∈ zXw) : (∃ C T, w = .castable C T) ∨ ∃ x, w = .declares x := by
  simp only [zXw, List.mem_cons, List.not_mem_nil, or_false] at h
  rcases h with h | h | h | h | h | h
  · exact Or.inl ⟨_, _, h⟩
  · exact Or.inl ⟨_, _, h⟩
  · exact Or.inl ⟨_, _, h⟩
  · exact Or.inr ⟨_, h⟩
  · exact Or.inr ⟨_, h⟩
  · exact Or.inr ⟨_, h⟩
theorem zX2.use {A B : Nat → Prop} {s U : State} {H : Heap} {locs : List Loc} (h : zX2 A s) (hS : va_S A s.heap H locs) (hU : U.heap = H) (hW : s.WarmedH U.vm) (hAB : ∀ q, B q → A q) : zX2 B U := by
  subst hU
  obtain ⟨h1, h2, h3, h4⟩ := h
  refine ⟨fun w hw => ?_, fun q hq => ?_, (vx_Zq.moved hW.alike (h3.kept hS.2.1)).narrow hAB, (vx_Zq.moved hW.alike (h4.kept hS.2.1)).narrow hAB⟩
  · have h5 := h1 w hw
    rcases zXw_kind hw with ⟨C, T, rfl⟩ | ⟨x, rfl⟩
    · exact va_Nw.warmC hW h5
    · exact va_Nw.warmD hW h5
  · obtain ⟨a, ha⟩ := h2 q hq
    exact ⟨a, ha.warm hW⟩
theorem zX2.bl {A : Nat → Prop} : zBl (zX2 A) := fun U g mk a h => by
  obtain ⟨h1, h2, h3, h4⟩ := h
  have r := Vm.Alike.refl U.vm
  refine ⟨fun w hw => ?_, fun q hq => ?_, vx_Zq.moved (U := U.calling g mk a) r h3, vx_Zq.moved (U := U.calling g mk a) r h4⟩
  · have h5 := h1 w hw
    rcases zXw_kind hw with ⟨C, T, rfl⟩ | ⟨x, rfl⟩ <;> exact va_Nw.same (u := U) (U := U.calling g mk a) rfl rfl h5
  · obtain ⟨b, hb⟩ := h2 q hq
    exact ⟨b, vk_R.same (u := U) (U := U.calling g mk a) rfl hb⟩
def zPcY (av : List Value) (B : Heap → Prop) (D : va_G) (cI cC cJ : ClassId) (X : State → Prop) : Array Value → State → Prop := fun v U => v = av.toArray ∧ B U.heap ∧ zE D cI cC cJ U ∧ X U
theorem zPcY.blind {av : List Value} {B : Heap → Prop} {D : va_G} {cI cC cJ : ClassId} {X : State → Prop} (hX : zBl X) : FrameBlind (zPcY av B D cI cC cJ X) := fun a U g mk h => ⟨h.1, h.2.1, zE.same (u := U) (U := U.calling g mk a) rfl h.2.2.1, hX U g mk a h.2.2.2⟩
section ZY
variable {p : Program} {l : Launch} {e : Env} {R : Room} {s : State} {m : MethodId} {args : Array Value} {below : List Frame} {meth : Method} {c : Code} {H : Heap} {locs : List Loc} {cells slots : Nat} {Q : State → Prop}
variable {D : va_G} {cI cC cJ : ClassId} {X : State → Prop}
theorem zMetY {y : MethodName} {cc : ByteArray} {maxL : Nat} {ret : Option FieldType} {rm : Room} {av : List Value} {B : Heap → Prop} {Qc : Array Value → State → Outcome → State → Prop} {mc ms : Nat} {free : Addr → Prop}
    (hy : plainName y.cls = true) (ha : (lg_sl av).length ≤ maxL)
    (body : ∀ (p : Program) (e : Env) (s : State) (m : MethodId) (below : List Frame) (meth : Method) (c : Code), p.tables.exec = Jvm.exec → c.code = cc → meth.sig.returnType = ret → (∀ w ∈ zg, w.before av.toArray s = true) → s.vm.findClass y.cls = some m.cls →
      meth.locks = false → c.maxLocals = maxL → B s.heap → zE D cI cC cJ s → X s → ∀ ls : Array Slot, lv_has ls maxL (lv_args 0 av) →
      W p l e rm s m av.toArray below meth c s.heap [] 0 0 (MQ below Qc av.toArray s mc ms free) (F0 m 0 ls [])) :
    Met l y (zw (.code y cc maxL ret)) rm (zPcY av B D cI cC cJ X) Qc mc ms free := by
  refine Met.ofW (cc := cc) (maxL := maxL) (ret := ret) hy rfl ?_
  intro p e s m args below meth c s₁ B9 hml hv
  obtain ⟨rfl, hB, hE, hX⟩ := hv
  have hts := atoms_spec (ws := zw (.code y cc maxL ret)) B9.pre
  have hl := lv_entry av (n := maxL) ha
  rw [lg_entry_eq]
  exact body p e s m below meth c B9.exec B9.bytes B9.returns (fun w h => hts w (List.mem_cons_of_mem _ h)) (findClass_of_methodNamed B9.named) B9.notSynchronized hml hB hE hX _ hl
variable {y : MethodName} {cc bytes : ByteArray} {maxL nL mc ms n idx pc : Nat} {ret : Option FieldType} {rm : Room} {B : Heap → Prop} {Qc : Array Value → State → Outcome → State → Prop} {free : Addr → Prop} {own : String} {b : Nat} {As rest st : List Value} {ls : Array Slot}
theorem zrVY (S : CallFix p m c cc nL s args zg own) (hM : Met l y (zw (.code y bytes maxL ret)) rm (zPcY (.ref b :: As) B D cI cC cJ X) Qc mc ms free) (hc : zCal y bytes maxL ret n)
    (hl : Cond.methodLink own idx y ∈ zg) (hi : Cond.instanceMethod y ∈ zg) (hsl : Cond.selects y.cls y y ∈ zg) (hr : zRoom R rm maxL mc ms cells slots)
    (hrc : ∃ cell : Cell, H[b]? = some cell ∧ cell.vm.isStatics = false ∧ s.vm.findClass y.cls = some cell.cls) (hB : B H) (hE : zE D cI cC cJ s) (hbl : zBl X) (hX : ∀ U : State, U.heap = H → s.WarmedH U.vm → X U) (hn : As.length = n) (hsz : ls.size = nL) (hst : st = As.reverse ++ .ref b :: rest)
    (hw : (rest.map fun v => v.category).sum ≤ 8) (hdg : decode cc pc = .ok (.invokevirtual idx, 3)) :
    va_Run p l e R s m args below meth c H locs cells slots mc ms (F0 m pc ls st) rest (Qc (Value.ref b :: As).toArray) free := by
  obtain ⟨h1, h2, h3, h4, h5⟩ := hc
  obtain ⟨r1, r2, r3, r4, r5, r6⟩ := hr
  have hg := S.2.2.2.2
  exact va_runV (C := y.cls) S hM ⟨callB_of n hg (zg_sub h1) rfl r1 r2 (hg _ h2) (hg _ hl) ⟨h3, h4, h5⟩ ⟨r3, r4⟩, hg _ hi, hg _ hsl⟩
    ⟨zPcY.blind hbl, hrc, fun U hU hW => ⟨rfl, by rw [hU]; exact hB, hE.warm hW, hX U hU hW⟩⟩ rfl hn hsz hst (lv_room hw) hdg ⟨r5, r6⟩
theorem va_cwSo {own : String} {index maxL mc ms : Nat} {y : MethodName} {bytes : ByteArray} {ret : Option FieldType} {ws ws' : List Cond} {rm : Room} (n : Nat) (ht : ∀ w ∈ zg, w.before args s = true) (hG : GoodIn zg ws) (hw : ws = Cond.code y bytes maxL ret :: ws') (hrc : rm.cells = mc) (hrs : rm.slots = ms) (hini : (Cond.initialized y.cls).before args s = true) (hl : (Cond.methodLink own index y).before args s = true) (hst : (Cond.static y).before args s = true)
    (hd : y.cls ≠ "java/lang/invoke/MethodHandle" ∧ y.cls ≠ "java/lang/invoke/VarHandle" ∧ (parseMethodDescriptor y.desc).map (fun d => d.parameters.length) = some n) (hR : rm.frames + 1 ≤ R.frames ∧ 8 + (maxL + 11) + rm.locals ≤ R.locals) :
    CallB R s args own index y bytes maxL ret ws rm mc ms n ∧ (Cond.static y).before args s = true := ⟨callB_of n ht hG hw hrc hrs hini hl hd hR, hst⟩
theorem zrSY (S : CallFix p m c cc nL s args zg own) (hM : Met l y (zw (.code y bytes maxL ret)) rm (zPcY As B D cI cC cJ X) Qc mc ms free) (hc : zCal y bytes maxL ret n)
    (hl : Cond.methodLink own idx y ∈ zg) (hi : Cond.static y ∈ zg) (hr : zRoom R rm maxL mc ms cells slots)
    (hB : B H) (hE : zE D cI cC cJ s) (hbl : zBl X) (hX : ∀ U : State, U.heap = H → s.WarmedH U.vm → X U) (hn : As.length = n) (hsz : ls.size = nL) (hst : st = As.reverse ++ rest)
    (hw : (rest.map fun v => v.category).sum ≤ 8) (hdg : decode cc pc = .ok (.invokestatic idx, 3)) :
    va_Run p l e R s m args below meth c H locs cells slots mc ms (F0 m pc ls st) rest (Qc As.toArray) free := by
  obtain ⟨h1, h2, h3, h4, h5⟩ := hc
  obtain ⟨r1, r2, r3, r4, r5, r6⟩ := hr
  have hg := S.2.2.2.2
  exact va_runS S hM (va_cwSo n hg (zg_sub h1) rfl r1 r2 (hg _ h2) (hg _ hl) (hg _ hi) ⟨h3, h4, h5⟩ ⟨r3, r4⟩)
    ⟨zPcY.blind hbl, fun U hU hW => ⟨rfl, by rw [hU]; exact hB, hE.warm hW, hX U hU hW⟩⟩ rfl hn hsz hst (lv_room hw) hdg ⟨r5, r6⟩
end ZY
/-! the text, read -/
theorem zs_chr_lt : ∀ j, j < 64 → zs_chr j < 128 := by decide +kernel
theorem zs_six_chr : ∀ j, j < 64 → zs_six (zs_chr j) = nI j := by decide +kernel
theorem zs_chr_inj {i j : Nat} (hi : i < 64) (hj : j < 64) (h : zs_chr i = zs_chr j) : i = j := by
  have a := zs_six_chr i hi
  rw [h, zs_six_chr j hj] at a
  exact ((nI_eq (by omega) (by omega)).mp a).symm
theorem zs_six_in {c : Nat} : (∃ e, e < 64 ∧ zs_six c = nI e ∧ zs_chr e = c) ∨ (zs_six c = -1 ∧ ∀ j, j < 64 → zs_chr j ≠ c) := by
  by_cases h : ∃ j, j < 64 ∧ zs_chr j = c
  · obtain ⟨j, hj, rfl⟩ := h
    exact Or.inl ⟨j, hj, zs_six_chr j hj, rfl⟩
  · refine Or.inr ⟨?_, fun j hj z => h ⟨j, hj, z⟩⟩
    have g : ∀ v, v < 64 → ¬ zs_chr v = c := fun v hv z => h ⟨v, hv, z⟩
    unfold zs_six
    split
    · exact absurd (show zs_chr (c - 65) = c by unfold zs_chr; rw [if_pos (by omega)]; omega) (g _ (by omega))
    · split
      · exact absurd (show zs_chr (c - 97 + 26) = c by unfold zs_chr; rw [if_neg (by omega), if_pos (by omega)]; omega) (g _ (by omega))
      · split
        · exact absurd (show zs_chr (c - 48 + 52) = c by unfold zs_chr; rw [if_neg (by omega), if_neg (by omega), if_pos (by omega)]; omega) (g _ (by omega))
        · split
          · rename_i z; exact absurd (show zs_chr 62 = c by rw [z]; decide) (g _ (by decide))
          · split
            · rename_i z; exact absurd (show zs_chr 63 = c by rw [z]; decide) (g _ (by decide))
            · rfl
theorem zs_b8 : ∀ c, c < 256 → ∀ j, j < 64 → ((nI c).toInt8.toInt32 = nI (zs_chr j) ↔ c = zs_chr j) := by decide +kernel
theorem zs_c16 {c : Nat} (h : c < 65536) : ((nI c).toUInt32 % 65536).toInt32 = nI c := by
  rw [pk_char, show (nI c).toBitVec.toNat = c from pk_tn (by omega), Nat.mod_eq_of_lt h]
