set_option maxRecDepth 20000 in
theorem zt_N : ∀ w ∈ ((zNat "SealedFiles" 122).filter vx_no).filter goodWord, w ∈ zg := by decide +kernel
set_option maxRecDepth 20000 in
theorem zu_N : ∀ w ∈ ((zNat "SealedFiles" 122).filter vx_no).filter (fun w => !goodWord w), w ∈ zBad zNS := by decide +kernel
set_option maxRecDepth 20000 in
theorem zv_N : ∀ w ∈ Cond.classLink "SealedFiles" 118 zNS :: Cond.initialized zNS :: (zNat "SealedFiles" 122).filter vx_no, vx_ot w = true := by decide +kernel
section ZO
variable {p : Program} {l : Launch} {e : Env} {R : Room} {s : State} {m : MethodId} {args : Array Value} {below : List Frame} {meth : Method} {c : Code} {H : Heap} {locs : List Loc} {cells slots : Nat}
set_option maxHeartbeats 4000000 in
/-- 'throw new NoSuchElementException("text")' -/
theorem zThrowN {cc : ByteArray} {pc is : Nat} {ls : Array Slot} {rest : List Value} {text : String} {A : Nat → Prop} {B1 : Heap → Prop} (hexec : p.tables.exec = Jvm.exec) (hb : c.code = cc) (hl9 : l.stackTraces = false) (hown : s.vm.findClass "SealedFiles" = some m.cls) (hg : ∀ w ∈ zg, w.before args s = true)
    (hk0 : Cond.classLink "SealedFiles" 118 zNS ∈ zg) (hini0 : Cond.initialized zNS ∈ zg) (hX : zX2 A s) (hstr0 : (is, text) ∈ zStr)
    (hS : va_S A s.heap H locs) (hsize : ls.size = c.maxLocals)
    (d0 : decode cc pc = .ok (.new 118, 3)) (d3 : decode cc (pc + 3) = .ok (.dup, 1)) (d4 : decode cc (pc + 4) = .ok (.ldc is, 2)) (d6 : decode cc (pc + 6) = .ok (.invokespecial 122, 3)) (d9 : decode cc (pc + 9) = .ok (.athrow, 1))
    (hex : ∀ x ∈ c.exceptionTable.toList, False) (hRf : 5 < R.frames) (hRl : (rest.map fun v => v.category).sum + 82 ≤ R.locals) (hRc : cells + 1 ≤ R.cells) (hRs : slots + 6 ≤ R.slots) (hlocks : meth.locks = false)
    (hB : ∀ t : Heap, H.size ≤ t.size → (∀ q : Nat, q < H.size → t[q]? = H[q]?) → B1 t) (hc : cells + 1 ≤ 1) (hs : slots + 6 ≤ 6) {Qc : Array Value → State → Outcome → State → Prop} :
    W p l e R s m args below meth c H locs cells slots (vx_MQ below Qc (zXC zNS B1 A) args s 1 6 A) (F0 m pc ls rest) := by
  obtain ⟨sa, hstr⟩ := hX.2.1 _ hstr0
  have hat : ∀ w ∈ (zNat "SealedFiles" 122).filter vx_no, w.before args s = true :=
    vx_hat (L := (zNat "SealedFiles" 122).filter vx_no) (B := zBad zNS) (fun w hw => hg w (zt_N w hw)) zu_N (vx_c (va_Nw.use rfl (hX.1 _ (by decide))) (vx_c (va_Nw.use rfl (hX.1 _ (by decide))) (vx_c (va_Nw.use rfl (hX.1 _ (by decide))) (vx_c (va_Nw.use rfl (hX.1 _ (by decide))) vx_n))))
  intro T hT X
  have htr : e.platform.stackTraces = false := (show e.platform.stackTraces = l.stackTraces by rw [X.admits.platform]).trans hl9
  have Y := vx_rebase X (R' := { frames := R.frames, locals := R.locals, cells := 1, slots := 6 }) (Nat.le_refl _) (Nat.le_refl _) hRc hRs
  obtain ⟨s', hA⟩ : ∃ z, z = (T.setVm s.vm).setFrames (.invoking m args :: below) := ⟨_, rfl⟩
  rw [← hA] at Y
  have hvm : s'.vm = s.vm := by rw [hA]; rfl
  have hhp : s'.heap = H := by rw [hA]; exact hT
  have hW0 : s.WarmedH s'.vm := by rw [hvm]; exact State.WarmedH.refl s
  have hat' : ∀ w ∈ (zNat "SealedFiles" 122).filter vx_no, w.before args s' = true := fun w hw => vx_ot_at hW0 hvm.symm (zv_N w (List.mem_cons_of_mem _ (List.mem_cons_of_mem _ hw))) (hat w hw)
  have hk' : (Cond.classLink "SealedFiles" 118 zNS).before args s' = true := vx_ot_at hW0 hvm.symm (zv_N _ List.mem_cons_self) (hg _ hk0)
  have hini' : (Cond.initialized zNS).before args s' = true := vx_ot_at hW0 hvm.symm (zv_N _ (List.mem_cons_of_mem _ List.mem_cons_self)) (hg _ hini0)
  have hU' : vx_Zq Bundle.tN "UNASSIGNED_STACK" Bundle.steD A s' s'.heap := by rw [hhp]; exact vx_Zq.moved hW0.alike (hX.2.2.1.kept hS.2.1)
  have hN' : vx_Zq Bundle.tN "SUPPRESSED_SENTINEL" Bundle.listD A s' s'.heap := by rw [hhp]; exact vx_Zq.moved hW0.alike (hX.2.2.2.kept hS.2.1)
  have h : ∀ w ∈ zNat "SealedFiles" 122, w.before args s' = true := vx_own hat' (vx_isRefq hU'.1) (vx_isRefq hN'.1) hU'.2.word hN'.2.word
  have hown' : s'.vm.findClass "SealedFiles" = some m.cls := by rw [hvm]; exact hown
  have hins : (Cond.instantiable zNS 6).before args s' = true := h _ (by simp [zNat])
  obtain ⟨vm₁, cX, kX, hfX, hkX, -, -, X₁, st1⟩ := Y.newCold hexec (own := "SealedFiles") (C := zNS) (index := 118) (n := 6) hown' hk' hins hini'
    (g := F0 m pc ls rest) rfl (by rw [hb]; exact d0) (Nat.le_refl _) (Nat.le_refl _)
  generalize hT1 : (T.setVm vm₁).pushCell { cls := cX, slots := kX.instanceTypes.map defaultValue, vm := .none } = T1 at X₁ st1
  have hcat : (Value.ref T.heap.size).category = 1 := rfl
  have hcellA : T1.heap[T.heap.size]? = some (freshCell cX kX) := by rw [← hT1]; exact State.heap_pushCell_size _ _
  have d3' : decode c.code (pc + 3) = .ok (.dup, 1) := by rw [hb]; exact d3
  have d4' : decode c.code (pc + 4) = .ok (.ldc is, 2) := by rw [hb]; exact d4
  have hstr' : vk_R "SealedFiles" is text sa s' := vk_R.warm hW0 hstr
  obtain ⟨U, hsteps, hrun, hend, hW, hsame, ce, hce, hcl0, hcv⟩ := zctorN X₁ hexec htr (own := "SealedFiles") (ic := 122) hown' h (fun x hx => nomatch hx) hfX hkX hcellA (by rw [hhp, hT]; exact Nat.le_refl _) (msg := .ref sa) rfl
    (g := { method := m, pc := pc + 6, locals := ls, stack := .ref sa :: .ref T.heap.size :: .ref T.heap.size :: rest, locked := none }) rfl hsize rfl rfl (rest := rest) rfl
    (by rw [hb]; exact d6) (by rw [hb]; exact d9) (fun x h => (hex x h).elim) hRf (by simp only [List.map_cons, List.sum_cons, hcat]; show 2 * 0 + (1 + _) + 81 ≤ _; omega) hlocks
  obtain ⟨f1, f2⟩ := vx_frame hsame
  rw [hhp] at f1 f2
  have hWs : s.WarmedH U.vm := State.WarmedH.trans hW0 hW
  have hcl : s.vm.findClass zNS = some ce.cls := by rw [← hvm]; exact hcl0
  have hall : s.sameButNew ({ U with vm := s.vm } : State) locs 1 6 := by
    subst hA
    obtain ⟨e1, e2⟩ := hsame
    rw [State.setFrames_setFrames] at e1
    have h2 : (T.setVm s.vm).sameButNew ({ U with vm := s.vm } : State) [] (0 + 1) (0 + 6) := ⟨e1, e2⟩
    have h3 := X.same.trans h2
    rw [List.append_nil] at h3
    exact h3.mono hc hs
  have ht9 : ∀ q : Nat, q < H.size → U.heap[q]? = H[q]? := fun q hq => f2 q hq (fun z hz => nomatch hz)
  refine ⟨U, ?_, .threw T.heap.size, hrun, hend, Or.inr ⟨T.heap.size, rfl, zNS, ce, locs, ⟨(), trivial, ⟨rfl, hB U.heap f1 ht9⟩, Nat.le_trans hS.1 f1, fun q h1 h2 => (ht9 q (Nat.lt_of_lt_of_le h1 hS.1)).trans (hS.2.1 q h1 h2)⟩, hce, hcv, hcl, hWs, hall, hS.2.2⟩⟩
  refine st1 _ ?_
  show Steps p.tables e below (T1.setTop { method := m, pc := pc + 3, locals := ls, stack := .ref T.heap.size :: rest, locked := none }) _
  jvm_step X₁.here [X₁.here.top, hexec, d3', Value.category]
  exact X₁.ldcString hexec (own := "SealedFiles") (text := text) (index := is) (a := sa) hown' hstr'.1 hstr'.2
    (g := { method := m, pc := pc + 4, locals := ls, stack := .ref T.heap.size :: .ref T.heap.size :: rest, locked := none }) rfl d4' _ hsteps
end ZO
set_option maxHeartbeats 4000000 in
set_option maxRecDepth 100000 in
theorem c_SF_key_e1 (l : Launch) (hl9 : l.stackTraces = false) (D : va_G) (cI cC cJ : ClassId) (h : Nat → Nat) (n0 : Nat) (S : Nat → Nat) (n2 : Nat) (M : Nat → Nat) (n3 : Nat) (B : Nat → Nat) (n4 : Nat) (E : Nat → Nat) (rt : Nat) (hh : zs_inj h) (hn0 : n0 ≤ 4) (hn2 : n2 ≤ 40) (hn3 : n3 ≤ 120) (hn4 : n4 ≤ 160) (x : Int32) (hx9 : x < nI 2 ∨ ¬ x ≤ nI 32747) : vx_Met l y_SF_key (zw k_SF_key) ({ frames := 6, cells := 1, slots := 6, locals := 82 }) (zPcY [.ref (h 0), .int x] (fun H => zCl D cI h n0 S n2 M n3 B n4 E rt H) D cI cC cJ (zX2 (zAS h))) (zQn (zAS h)) (zXC "java/lang/IllegalArgumentException" (fun H => zCl D cI h n0 S n2 M n3 B n4 E rt H) (zAS h)) 1 6 (zAS h) := by
  refine zMetT (by decide) (Nat.le_of_ble_eq_true rfl) ?_
  intro p e s m below meth c hx hb hr hg hown hlk hml hex hB0 hE hX ls hl
  have hl : lv_has ls 2 [(0, .ref (h 0)), (1, .int x)] := hl
  have hS9 : CallFix p m c b_SF_key 2 s [.ref (h 0), .int x].toArray zg "SealedFiles" := ⟨hx, hb, hml, hown, hg⟩
  obtain ⟨f0, f1, f2, f3, f4, hS0, hA0, hM, hB, hE9, hP⟩ := hB0
  have hP : va_P D zcl [((h 0), .inr (1, [.ref (h 1), .ref (h 3), .ref (h 5), .ref (h 7), .ref (h 9), .int (nI rt)])), ((h 1), .inr (0, [.ref (h 2), .int (nI n0)])), ((h 2), .inl (cI, 4, .inl f0)), ((h 3), .inr (0, [.ref (h 4), .int (nI n0)])), ((h 4), .inl (cI, 4, .inl f1)), ((h 5), .inr (0, [.ref (h 6), .int (nI n2)])), ((h 6), .inl (cI, 40, .inl f2)), ((h 7), .inr (0, [.ref (h 8), .int (nI n3)])), ((h 8), .inl (cI, 120, .inl f3)), ((h 9), .inr (0, [.ref (h 10), .int (nI n4)])), ((h 10), .inl (cI, 160, .inl f4))] s.heap := hP
  have hn1 : n0 ≤ 4 := hn0
  have hD : va_D (zAS h) [((h 0), .inr (1, [.ref (h 1), .ref (h 3), .ref (h 5), .ref (h 7), .ref (h 9), .int (nI rt)])), ((h 1), .inr (0, [.ref (h 2), .int (nI n0)])), ((h 2), .inl (cI, 4, .inl f0)), ((h 3), .inr (0, [.ref (h 4), .int (nI n0)])), ((h 4), .inl (cI, 4, .inl f1)), ((h 5), .inr (0, [.ref (h 6), .int (nI n2)])), ((h 6), .inl (cI, 40, .inl f2)), ((h 7), .inr (0, [.ref (h 8), .int (nI n3)])), ((h 8), .inl (cI, 120, .inl f3)), ((h 9), .inr (0, [.ref (h 10), .int (nI n4)])), ((h 10), .inl (cI, 160, .inl f4))] := zSf_D hh
  have hS : va_S (zAS h) s.heap s.heap [] := va_S.rf
  refine lv_iload_n hx hb d_SF_key_0 rfl (lv_at hl 1 rfl) ?_
  refine lv_iconst (v := (nI 2)) hx hb d_SF_key_1 (by decide) ?_
  have rest : ∀ ls : Array Slot, lv_has ls 2 [(0, .ref (h 0)), (1, .int x)] → W p l e ({ frames := 6, cells := 1, slots := 6, locals := 82 }) s m [.ref (h 0), .int x].toArray below meth c s.heap [] 0 0 (vx_MQ below (zQn (zAS h)) (zXC "java/lang/IllegalArgumentException" (fun H => zCl D cI h n0 S n2 M n3 B n4 E rt H) (zAS h)) [.ref (h 0), .int x].toArray s 1 6 (zAS h)) (F0 m 12 ls []) := by
    intro ls hl
    exact zThrow hx hb hl9 hown hg (by decide) zw_233 zw_7 hX (text := "the secret is not 2 .. 32747") (by decide) (by decide) zt_38 zu_38 (by decide +kernel) hS (hl.1.trans hml.symm) d_SF_key_12 d_SF_key_15 d_SF_key_16 d_SF_key_18 d_SF_key_21 hex (by decide) (Nat.le_of_ble_eq_true rfl) (by decide) (by decide) hlk (fun t9 _ ht9 => ⟨f0, f1, f2, f3, f4, hS0, hA0, hM, hB, hE9, zkept hP ht9⟩) (by decide) (by decide)
  refine lv_icmp_lt hx hb d_SF_key_2 (tgt := 12) (by decide) (fun g => ?_) (fun g => ?_)
  · exact rest ls hl
  · refine lv_iload_n hx hb d_SF_key_5 rfl (lv_at hl 1 rfl) ?_
    refine lv_sipush (v := (nI 32747)) hx hb d_SF_key_6 (by decide) ?_
    refine lv_icmp_le hx hb d_SF_key_9 (tgt := 22) (by decide) (fun z9 => absurd z9 (hx9.resolve_left g)) (fun _ => ?_)
    exact rest ls hl

set_option maxHeartbeats 4000000 in
set_option maxRecDepth 100000 in
theorem c_SF_key_e2 (l : Launch) (hl9 : l.stackTraces = false) (D : va_G) (cI cC cJ : ClassId) (h : Nat → Nat) (n0 : Nat) (S : Nat → Nat) (n2 : Nat) (M : Nat → Nat) (n3 : Nat) (B : Nat → Nat) (n4 : Nat) (E : Nat → Nat) (rt : Nat) (hh : zs_inj h) (hn0 : n0 ≤ 4) (hn2 : n2 ≤ 40) (hn3 : n3 ≤ 120) (hn4 : n4 ≤ 160) (x : Nat) (hx1 : 2 ≤ x) (hx2 : x ≤ 32747) (hr9 : n0 = 4) : vx_Met l y_SF_key (zw k_SF_key) ({ frames := 6, cells := 1, slots := 6, locals := 82 }) (zPcY [.ref (h 0), .int (nI x)] (fun H => zCl D cI h n0 S n2 M n3 B n4 E rt H) D cI cC cJ (zX2 (zAS h))) (zQn (zAS h)) (zXC "java/lang/IllegalStateException" (fun H => zCl D cI h n0 S n2 M n3 B n4 E rt H) (zAS h)) 1 6 (zAS h) := by
  refine zMetT (by decide) (Nat.le_of_ble_eq_true rfl) ?_
  intro p e s m below meth c hx hb hr hg hown hlk hml hex hB0 hE hX ls hl
  have hl : lv_has ls 2 [(0, .ref (h 0)), (1, .int (nI x))] := hl
  have hS9 : CallFix p m c b_SF_key 2 s [.ref (h 0), .int (nI x)].toArray zg "SealedFiles" := ⟨hx, hb, hml, hown, hg⟩
  obtain ⟨f0, f1, f2, f3, f4, hS0, hA0, hM, hB, hE9, hP⟩ := hB0
  have hP : va_P D zcl [((h 0), .inr (1, [.ref (h 1), .ref (h 3), .ref (h 5), .ref (h 7), .ref (h 9), .int (nI rt)])), ((h 1), .inr (0, [.ref (h 2), .int (nI n0)])), ((h 2), .inl (cI, 4, .inl f0)), ((h 3), .inr (0, [.ref (h 4), .int (nI n0)])), ((h 4), .inl (cI, 4, .inl f1)), ((h 5), .inr (0, [.ref (h 6), .int (nI n2)])), ((h 6), .inl (cI, 40, .inl f2)), ((h 7), .inr (0, [.ref (h 8), .int (nI n3)])), ((h 8), .inl (cI, 120, .inl f3)), ((h 9), .inr (0, [.ref (h 10), .int (nI n4)])), ((h 10), .inl (cI, 160, .inl f4))] s.heap := hP
  have hn1 : n0 ≤ 4 := hn0
  have hD : va_D (zAS h) [((h 0), .inr (1, [.ref (h 1), .ref (h 3), .ref (h 5), .ref (h 7), .ref (h 9), .int (nI rt)])), ((h 1), .inr (0, [.ref (h 2), .int (nI n0)])), ((h 2), .inl (cI, 4, .inl f0)), ((h 3), .inr (0, [.ref (h 4), .int (nI n0)])), ((h 4), .inl (cI, 4, .inl f1)), ((h 5), .inr (0, [.ref (h 6), .int (nI n2)])), ((h 6), .inl (cI, 40, .inl f2)), ((h 7), .inr (0, [.ref (h 8), .int (nI n3)])), ((h 8), .inl (cI, 120, .inl f3)), ((h 9), .inr (0, [.ref (h 10), .int (nI n4)])), ((h 10), .inl (cI, 160, .inl f4))] := zSf_D hh
  have hS : va_S (zAS h) s.heap s.heap [] := va_S.rf
  refine lv_iload_n hx hb d_SF_key_0 rfl (lv_at hl 1 rfl) ?_
  refine lv_iconst (v := (nI 2)) hx hb d_SF_key_1 (by decide) ?_
  refine lv_icmp_lt hx hb d_SF_key_2 (tgt := 12) (by decide) (fun z9 => absurd z9 (nI_nlt (by omega) (by omega))) (fun _ => ?_)
  refine lv_iload_n hx hb d_SF_key_5 rfl (lv_at hl 1 rfl) ?_
  refine lv_sipush (v := (nI 32747)) hx hb d_SF_key_6 (by decide) ?_
  refine lv_icmp_le hx hb d_SF_key_9 (tgt := 22) (by decide) (fun _ => ?_) (fun z9 => absurd (nI_le (by omega) (by omega)) z9)
  refine lv_aload_n hx hb d_SF_key_22 rfl (lv_at hl 0 rfl) ?_
  refine va_get (D := D) (ci := 1) (v := .ref (h 1)) (C := R_SF) (T := F_SF) (N := 6) hx hb hg i_SF hown hE.1 hP 0 rfl rfl 0 (by decide) (hg _ zw_40) (fun _ h9 => h9) rfl d_SF_key_23 ?_
  refine lv_iload_n hx hb d_SF_key_26 rfl (lv_at hl 1 rfl) ?_
  refine zWr (rest := []) (zrVN hS9 (c_RW_append_full l D cI cC cJ (h 1) (h 2) 4 n0 f0 (by omega) (by decide) (fun z => absurd (hh 1 2 (by decide) (by decide) z) (by decide)) (nI x) hr9) zc_RW_append (by decide) zw_77 zp_2 (by decide) (va_recv hE.1 hP (ci := 0) (q := (R_RW, F_RW, 2)) rfl (q0 := 1) rfl) (hP.sub [1, 2] rfl) hE rfl hl.1 rfl (Nat.le_of_ble_eq_true rfl) d_SF_key_27) hS (fun q _ h => zA2_in hD 1 2 rfl rfl q h) (fun q h => zA2_in hD 1 2 rfl rfl q h) (fun H locs hB1 hz hk hS => ?_)
  obtain ⟨hP, hD⟩ := zrow hP hD 1 2 rfl rfl (by decide) hk hB1
  have hP : va_P D zcl [((h 0), .inr (1, [.ref (h 1), .ref (h 3), .ref (h 5), .ref (h 7), .ref (h 9), .int (nI rt)])), ((h 1), .inr (0, [.ref (h 2), .int (nI n0)])), ((h 2), .inl (cI, 4, .inl f0)), ((h 3), .inr (0, [.ref (h 4), .int (nI n0)])), ((h 4), .inl (cI, 4, .inl f1)), ((h 5), .inr (0, [.ref (h 6), .int (nI n2)])), ((h 6), .inl (cI, 40, .inl f2)), ((h 7), .inr (0, [.ref (h 8), .int (nI n3)])), ((h 8), .inl (cI, 120, .inl f3)), ((h 9), .inr (0, [.ref (h 10), .int (nI n4)])), ((h 10), .inl (cI, 160, .inl f4))] H := hP
  have hD : va_D (zAS h) [((h 0), .inr (1, [.ref (h 1), .ref (h 3), .ref (h 5), .ref (h 7), .ref (h 9), .int (nI rt)])), ((h 1), .inr (0, [.ref (h 2), .int (nI n0)])), ((h 2), .inl (cI, 4, .inl f0)), ((h 3), .inr (0, [.ref (h 4), .int (nI n0)])), ((h 4), .inl (cI, 4, .inl f1)), ((h 5), .inr (0, [.ref (h 6), .int (nI n2)])), ((h 6), .inl (cI, 40, .inl f2)), ((h 7), .inr (0, [.ref (h 8), .int (nI n3)])), ((h 8), .inl (cI, 120, .inl f3)), ((h 9), .inr (0, [.ref (h 10), .int (nI n4)])), ((h 10), .inl (cI, 160, .inl f4))] := hD
  refine lv_if_ne hx hb d_SF_key_30 (tgt := 43) (by decide) (fun z9 => absurd (by decide) z9) (fun _ => ?_)
  exact zThrow hx hb hl9 hown hg (by decide) zw_300 zw_8 hX (text := "there are four keys") (by decide) (by decide) zt_49 zu_49 (by decide +kernel) hS (hl.1.trans hml.symm) d_SF_key_33 d_SF_key_36 d_SF_key_37 d_SF_key_39 d_SF_key_42 hex (by decide) (Nat.le_of_ble_eq_true rfl) (by decide) (by decide) hlk (fun t9 _ ht9 => ⟨f0, f1, f2, f3, f4, hS0, hA0, hM, hB, hE9, zkept hP ht9⟩) (by decide) (by decide)

set_option maxHeartbeats 4000000 in
set_option maxRecDepth 100000 in
theorem c_SF_seal_e (l : Launch) (hl9 : l.stackTraces = false) (D : va_G) (cI cC cJ : ClassId) (h : Nat → Nat) (n0 : Nat) (S : Nat → Nat) (n2 : Nat) (M : Nat → Nat) (n3 : Nat) (B : Nat → Nat) (n4 : Nat) (E : Nat → Nat) (rt : Nat) (hh : zs_inj h) (hn0 : n0 ≤ 4) (hn2 : n2 ≤ 40) (hn3 : n3 ≤ 120) (hn4 : n4 ≤ 160) (x f g : Int32) (hrc : zs_rc n0 (zs_un x) = 0) : vx_Met l y_SF_seal (zw k_SF_seal) ({ frames := 6, cells := 1, slots := 6, locals := 82 }) (zPcY [.ref (h 0), .int x, .int f, .int g] (fun H => zCl D cI h n0 S n2 M n3 B n4 E rt H) D cI cC cJ (zX2 (zAS h))) (zQn (zAS h)) (zXC "java/lang/IllegalArgumentException" (fun H => zCl D cI h n0 S n2 M n3 B n4 E rt H) (zAS h)) 1 6 (zAS h) := by
  refine zMetT (by decide) (Nat.le_of_ble_eq_true rfl) ?_
  intro p e s m below meth c hx hb hr hg hown hlk hml hex hB0 hE hX ls hl
  have hl : lv_has ls 5 [(0, .ref (h 0)), (1, .int x), (2, .int f), (3, .int g)] := hl
  have hS9 : CallFix p m c b_SF_seal 5 s [.ref (h 0), .int x, .int f, .int g].toArray zg "SealedFiles" := ⟨hx, hb, hml, hown, hg⟩
  obtain ⟨f0, f1, f2, f3, f4, hS0, hA0, hM, hB, hE9, hP⟩ := hB0
  have hP : va_P D zcl [((h 0), .inr (1, [.ref (h 1), .ref (h 3), .ref (h 5), .ref (h 7), .ref (h 9), .int (nI rt)])), ((h 1), .inr (0, [.ref (h 2), .int (nI n0)])), ((h 2), .inl (cI, 4, .inl f0)), ((h 3), .inr (0, [.ref (h 4), .int (nI n0)])), ((h 4), .inl (cI, 4, .inl f1)), ((h 5), .inr (0, [.ref (h 6), .int (nI n2)])), ((h 6), .inl (cI, 40, .inl f2)), ((h 7), .inr (0, [.ref (h 8), .int (nI n3)])), ((h 8), .inl (cI, 120, .inl f3)), ((h 9), .inr (0, [.ref (h 10), .int (nI n4)])), ((h 10), .inl (cI, 160, .inl f4))] s.heap := hP
  have hn1 : n0 ≤ 4 := hn0
  have hD : va_D (zAS h) [((h 0), .inr (1, [.ref (h 1), .ref (h 3), .ref (h 5), .ref (h 7), .ref (h 9), .int (nI rt)])), ((h 1), .inr (0, [.ref (h 2), .int (nI n0)])), ((h 2), .inl (cI, 4, .inl f0)), ((h 3), .inr (0, [.ref (h 4), .int (nI n0)])), ((h 4), .inl (cI, 4, .inl f1)), ((h 5), .inr (0, [.ref (h 6), .int (nI n2)])), ((h 6), .inl (cI, 40, .inl f2)), ((h 7), .inr (0, [.ref (h 8), .int (nI n3)])), ((h 8), .inl (cI, 120, .inl f3)), ((h 9), .inr (0, [.ref (h 10), .int (nI n4)])), ((h 10), .inl (cI, 160, .inl f4))] := zSf_D hh
  have hS : va_S (zAS h) s.heap s.heap [] := va_S.rf
  refine lv_aload_n hx hb d_SF_seal_0 rfl (lv_at hl 0 rfl) ?_
  refine lv_iload_n hx hb d_SF_seal_1 rfl (lv_at hl 1 rfl) ?_
  refine zRd (rest := []) (zrV hS9 (c_SF_areReceivers l D cI cC cJ h n0 n0 n2 n3 n4 f0 f1 f2 f3 f4 (nI rt) (by omega) (by omega) (by omega) (by omega) (by omega) x) zc_SF_areReceivers zw_326 zw_328 zp_6 (by decide) (va_recv hE.1 hP (ci := 1) (q := (R_SF, F_SF, 6)) rfl (q0 := 0) rfl) (hP) hE rfl hl.1 rfl (Nat.le_of_ble_eq_true rfl) d_SF_seal_2) ?_
  refine lv_if_ne hx hb d_SF_seal_5 (tgt := 18) (by decide) (fun z9 => absurd (by rw [hrc]; rfl) z9) (fun _ => ?_)
  exact zThrow hx hb hl9 hown hg (by decide) zw_233 zw_7 hX (text := "not one to three keys that there are") (by decide) (by decide) zt_38 zu_38 (by decide +kernel) hS (hl.1.trans hml.symm) d_SF_seal_8 d_SF_seal_11 d_SF_seal_12 d_SF_seal_14 d_SF_seal_17 hex (by decide) (Nat.le_of_ble_eq_true rfl) (by decide) (by decide) hlk (fun t9 _ ht9 => ⟨f0, f1, f2, f3, f4, hS0, hA0, hM, hB, hE9, zkept hP ht9⟩) (by decide) (by decide)

set_option maxHeartbeats 4000000 in
set_option maxRecDepth 100000 in
theorem c_SF_open_e (l : Launch) (hl9 : l.stackTraces = false) (D : va_G) (cI cC cJ : ClassId) (h : Nat → Nat) (n0 : Nat) (S : Nat → Nat) (n2 : Nat) (M : Nat → Nat) (n3 : Nat) (B : Nat → Nat) (n4 : Nat) (E : Nat → Nat) (rt : Nat) (hh : zs_inj h) (hn0 : n0 ≤ 4) (hn2 : n2 ≤ 40) (hn3 : n3 ≤ 120) (hn4 : n4 ≤ 160) (x : Int32) (hx9 : zs_has n0 x = 0) : vx_Met l y_SF_open (zw k_SF_open) ({ frames := 6, cells := 1, slots := 6, locals := 82 }) (zPcY [.ref (h 0), .int x] (fun H => zCl D cI h n0 S n2 M n3 B n4 E rt H) D cI cC cJ (zX2 (zAS h))) (zQn (zAS h)) (zXC "java/lang/IllegalArgumentException" (fun H => zCl D cI h n0 S n2 M n3 B n4 E rt H) (zAS h)) 1 6 (zAS h) := by
  refine zMetT (by decide) (Nat.le_of_ble_eq_true rfl) ?_
  intro p e s m below meth c hx hb hr hg hown hlk hml hex hB0 hE hX ls hl
  have hl : lv_has ls 5 [(0, .ref (h 0)), (1, .int x)] := hl
  have hS9 : CallFix p m c b_SF_open 5 s [.ref (h 0), .int x].toArray zg "SealedFiles" := ⟨hx, hb, hml, hown, hg⟩
  obtain ⟨f0, f1, f2, f3, f4, hS0, hA0, hM, hB, hE9, hP⟩ := hB0
  have hP : va_P D zcl [((h 0), .inr (1, [.ref (h 1), .ref (h 3), .ref (h 5), .ref (h 7), .ref (h 9), .int (nI rt)])), ((h 1), .inr (0, [.ref (h 2), .int (nI n0)])), ((h 2), .inl (cI, 4, .inl f0)), ((h 3), .inr (0, [.ref (h 4), .int (nI n0)])), ((h 4), .inl (cI, 4, .inl f1)), ((h 5), .inr (0, [.ref (h 6), .int (nI n2)])), ((h 6), .inl (cI, 40, .inl f2)), ((h 7), .inr (0, [.ref (h 8), .int (nI n3)])), ((h 8), .inl (cI, 120, .inl f3)), ((h 9), .inr (0, [.ref (h 10), .int (nI n4)])), ((h 10), .inl (cI, 160, .inl f4))] s.heap := hP
  have hn1 : n0 ≤ 4 := hn0
  have hD : va_D (zAS h) [((h 0), .inr (1, [.ref (h 1), .ref (h 3), .ref (h 5), .ref (h 7), .ref (h 9), .int (nI rt)])), ((h 1), .inr (0, [.ref (h 2), .int (nI n0)])), ((h 2), .inl (cI, 4, .inl f0)), ((h 3), .inr (0, [.ref (h 4), .int (nI n0)])), ((h 4), .inl (cI, 4, .inl f1)), ((h 5), .inr (0, [.ref (h 6), .int (nI n2)])), ((h 6), .inl (cI, 40, .inl f2)), ((h 7), .inr (0, [.ref (h 8), .int (nI n3)])), ((h 8), .inl (cI, 120, .inl f3)), ((h 9), .inr (0, [.ref (h 10), .int (nI n4)])), ((h 10), .inl (cI, 160, .inl f4))] := zSf_D hh
  have hS : va_S (zAS h) s.heap s.heap [] := va_S.rf
  refine lv_aload_n hx hb d_SF_open_0 rfl (lv_at hl 0 rfl) ?_
  refine va_get (D := D) (ci := 1) (v := .ref (h 1)) (C := R_SF) (T := F_SF) (N := 6) hx hb hg i_SF hown hE.1 hP 0 rfl rfl 0 (by decide) (hg _ zw_40) (fun _ h9 => h9) rfl d_SF_open_1 ?_
  refine lv_iload_n hx hb d_SF_open_4 rfl (lv_at hl 1 rfl) ?_
  refine zRd (rest := []) (zrVN hS9 (c_RW_has l D cI cC cJ (h 1) (h 2) 4 n0 f0 (by omega) (by decide) x) zc_RW_has (by decide) zw_69 zp_1 (by decide) (va_recv hE.1 hP (ci := 0) (q := (R_RW, F_RW, 2)) rfl (q0 := 1) rfl) (hP.sub [1, 2] rfl) hE rfl hl.1 rfl (Nat.le_of_ble_eq_true rfl) d_SF_open_5) ?_
  refine lv_if_ne hx hb d_SF_open_8 (tgt := 21) (by decide) (fun z9 => absurd (hx9) z9) (fun _ => ?_)
  exact zThrow hx hb hl9 hown hg (by decide) zw_233 zw_7 hX (text := "there is no such key") (by decide) (by decide) zt_38 zu_38 (by decide +kernel) hS (hl.1.trans hml.symm) d_SF_open_11 d_SF_open_14 d_SF_open_15 d_SF_open_17 d_SF_open_20 hex (by decide) (Nat.le_of_ble_eq_true rfl) (by decide) (by decide) hlk (fun t9 _ ht9 => ⟨f0, f1, f2, f3, f4, hS0, hA0, hM, hB, hE9, zkept hP ht9⟩) (by decide) (by decide)

set_option maxHeartbeats 4000000 in
set_option maxRecDepth 100000 in
theorem c_SF_read_e (l : Launch) (hl9 : l.stackTraces = false) (D : va_G) (cI cC cJ : ClassId) (h : Nat → Nat) (n0 : Nat) (S : Nat → Nat) (n2 : Nat) (M : Nat → Nat) (n3 : Nat) (B : Nat → Nat) (n4 : Nat) (E : Nat → Nat) (rt : Nat) (hh : zs_inj h) (hn0 : n0 ≤ 4) (hn2 : n2 ≤ 40) (hn3 : n3 ≤ 120) (hn4 : n4 ≤ 160) (x : Int32) (hx9 : zs_has n2 x = 0) : vx_Met l y_SF_read (zw k_SF_read) ({ frames := 6, cells := 1, slots := 6, locals := 82 }) (zPcY [.ref (h 0), .int x] (fun H => zCl D cI h n0 S n2 M n3 B n4 E rt H) D cI cC cJ (zX2 (zAS h))) (zQn (zAS h)) (zXC "java/util/NoSuchElementException" (fun H => zCl D cI h n0 S n2 M n3 B n4 E rt H) (zAS h)) 1 6 (zAS h) := by
  refine zMetT (by decide) (Nat.le_of_ble_eq_true rfl) ?_
  intro p e s m below meth c hx hb hr hg hown hlk hml hex hB0 hE hX ls hl
  have hl : lv_has ls 2 [(0, .ref (h 0)), (1, .int x)] := hl
  have hS9 : CallFix p m c b_SF_read 2 s [.ref (h 0), .int x].toArray zg "SealedFiles" := ⟨hx, hb, hml, hown, hg⟩
  obtain ⟨f0, f1, f2, f3, f4, hS0, hA0, hM, hB, hE9, hP⟩ := hB0
  have hP : va_P D zcl [((h 0), .inr (1, [.ref (h 1), .ref (h 3), .ref (h 5), .ref (h 7), .ref (h 9), .int (nI rt)])), ((h 1), .inr (0, [.ref (h 2), .int (nI n0)])), ((h 2), .inl (cI, 4, .inl f0)), ((h 3), .inr (0, [.ref (h 4), .int (nI n0)])), ((h 4), .inl (cI, 4, .inl f1)), ((h 5), .inr (0, [.ref (h 6), .int (nI n2)])), ((h 6), .inl (cI, 40, .inl f2)), ((h 7), .inr (0, [.ref (h 8), .int (nI n3)])), ((h 8), .inl (cI, 120, .inl f3)), ((h 9), .inr (0, [.ref (h 10), .int (nI n4)])), ((h 10), .inl (cI, 160, .inl f4))] s.heap := hP
  have hn1 : n0 ≤ 4 := hn0
  have hD : va_D (zAS h) [((h 0), .inr (1, [.ref (h 1), .ref (h 3), .ref (h 5), .ref (h 7), .ref (h 9), .int (nI rt)])), ((h 1), .inr (0, [.ref (h 2), .int (nI n0)])), ((h 2), .inl (cI, 4, .inl f0)), ((h 3), .inr (0, [.ref (h 4), .int (nI n0)])), ((h 4), .inl (cI, 4, .inl f1)), ((h 5), .inr (0, [.ref (h 6), .int (nI n2)])), ((h 6), .inl (cI, 40, .inl f2)), ((h 7), .inr (0, [.ref (h 8), .int (nI n3)])), ((h 8), .inl (cI, 120, .inl f3)), ((h 9), .inr (0, [.ref (h 10), .int (nI n4)])), ((h 10), .inl (cI, 160, .inl f4))] := zSf_D hh
  have hS : va_S (zAS h) s.heap s.heap [] := va_S.rf
  refine lv_aload_n hx hb d_SF_read_0 rfl (lv_at hl 0 rfl) ?_
  refine va_get (D := D) (ci := 1) (v := .ref (h 5)) (C := R_SF) (T := F_SF) (N := 6) hx hb hg i_SF hown hE.1 hP 0 rfl rfl 2 (by decide) (hg _ zw_42) (fun _ h9 => h9) rfl d_SF_read_1 ?_
  refine lv_iload_n hx hb d_SF_read_4 rfl (lv_at hl 1 rfl) ?_
  refine zRd (rest := []) (zrVN hS9 (c_RW_has l D cI cC cJ (h 5) (h 6) 40 n2 f2 (by omega) (by decide) x) zc_RW_has (by decide) zw_69 zp_1 (by decide) (va_recv hE.1 hP (ci := 0) (q := (R_RW, F_RW, 2)) rfl (q0 := 5) rfl) (hP.sub [5, 6] rfl) hE rfl hl.1 rfl (Nat.le_of_ble_eq_true rfl) d_SF_read_5) ?_
  refine lv_if_ne hx hb d_SF_read_8 (tgt := 21) (by decide) (fun z9 => absurd (hx9) z9) (fun _ => ?_)
  exact zThrowN hx hb hl9 hown hg zw_434 zw_12 hX (text := "the message has no such byte") (by decide) hS (hl.1.trans hml.symm) d_SF_read_11 d_SF_read_14 d_SF_read_15 d_SF_read_17 d_SF_read_20 hex (by decide) (Nat.le_of_ble_eq_true rfl) (by decide) (by decide) hlk (fun t9 _ ht9 => ⟨f0, f1, f2, f3, f4, hS0, hA0, hM, hB, hE9, zkept hP ht9⟩) (by decide) (by decide)

set_option maxHeartbeats 4000000 in
set_option maxRecDepth 100000 in
theorem c_SF_alter_e (l : Launch) (hl9 : l.stackTraces = false) (D : va_G) (cI cC cJ : ClassId) (h : Nat → Nat) (n0 : Nat) (S : Nat → Nat) (n2 : Nat) (M : Nat → Nat) (n3 : Nat) (B : Nat → Nat) (n4 : Nat) (E : Nat → Nat) (rt : Nat) (hh : zs_inj h) (hn0 : n0 ≤ 4) (hn2 : n2 ≤ 40) (hn3 : n3 ≤ 120) (hn4 : n4 ≤ 160) (x y : Int32) (hx9 : zs_has n3 x = 0) : vx_Met l y_SF_alter (zw k_SF_alter) ({ frames := 6, cells := 1, slots := 6, locals := 82 }) (zPcY [.ref (h 0), .int x, .int y] (fun H => zCl D cI h n0 S n2 M n3 B n4 E rt H) D cI cC cJ (zX2 (zAS h))) (zQn (zAS h)) (zXC "java/util/NoSuchElementException" (fun H => zCl D cI h n0 S n2 M n3 B n4 E rt H) (zAS h)) 1 6 (zAS h) := by
  refine zMetT (by decide) (Nat.le_of_ble_eq_true rfl) ?_
  intro p e s m below meth c hx hb hr hg hown hlk hml hex hB0 hE hX ls hl
  have hl : lv_has ls 3 [(0, .ref (h 0)), (1, .int x), (2, .int y)] := hl
  have hS9 : CallFix p m c b_SF_alter 3 s [.ref (h 0), .int x, .int y].toArray zg "SealedFiles" := ⟨hx, hb, hml, hown, hg⟩
  obtain ⟨f0, f1, f2, f3, f4, hS0, hA0, hM, hB, hE9, hP⟩ := hB0
  have hP : va_P D zcl [((h 0), .inr (1, [.ref (h 1), .ref (h 3), .ref (h 5), .ref (h 7), .ref (h 9), .int (nI rt)])), ((h 1), .inr (0, [.ref (h 2), .int (nI n0)])), ((h 2), .inl (cI, 4, .inl f0)), ((h 3), .inr (0, [.ref (h 4), .int (nI n0)])), ((h 4), .inl (cI, 4, .inl f1)), ((h 5), .inr (0, [.ref (h 6), .int (nI n2)])), ((h 6), .inl (cI, 40, .inl f2)), ((h 7), .inr (0, [.ref (h 8), .int (nI n3)])), ((h 8), .inl (cI, 120, .inl f3)), ((h 9), .inr (0, [.ref (h 10), .int (nI n4)])), ((h 10), .inl (cI, 160, .inl f4))] s.heap := hP
  have hn1 : n0 ≤ 4 := hn0
  have hD : va_D (zAS h) [((h 0), .inr (1, [.ref (h 1), .ref (h 3), .ref (h 5), .ref (h 7), .ref (h 9), .int (nI rt)])), ((h 1), .inr (0, [.ref (h 2), .int (nI n0)])), ((h 2), .inl (cI, 4, .inl f0)), ((h 3), .inr (0, [.ref (h 4), .int (nI n0)])), ((h 4), .inl (cI, 4, .inl f1)), ((h 5), .inr (0, [.ref (h 6), .int (nI n2)])), ((h 6), .inl (cI, 40, .inl f2)), ((h 7), .inr (0, [.ref (h 8), .int (nI n3)])), ((h 8), .inl (cI, 120, .inl f3)), ((h 9), .inr (0, [.ref (h 10), .int (nI n4)])), ((h 10), .inl (cI, 160, .inl f4))] := zSf_D hh
  have hS : va_S (zAS h) s.heap s.heap [] := va_S.rf
  refine lv_aload_n hx hb d_SF_alter_0 rfl (lv_at hl 0 rfl) ?_
  refine va_get (D := D) (ci := 1) (v := .ref (h 7)) (C := R_SF) (T := F_SF) (N := 6) hx hb hg i_SF hown hE.1 hP 0 rfl rfl 3 (by decide) (hg _ zw_43) (fun _ h9 => h9) rfl d_SF_alter_1 ?_
  refine lv_iload_n hx hb d_SF_alter_4 rfl (lv_at hl 1 rfl) ?_
  refine zRd (rest := []) (zrVN hS9 (c_RW_has l D cI cC cJ (h 7) (h 8) 120 n3 f3 (by omega) (by decide) x) zc_RW_has (by decide) zw_69 zp_1 (by decide) (va_recv hE.1 hP (ci := 0) (q := (R_RW, F_RW, 2)) rfl (q0 := 7) rfl) (hP.sub [7, 8] rfl) hE rfl hl.1 rfl (Nat.le_of_ble_eq_true rfl) d_SF_alter_5) ?_
  refine lv_if_ne hx hb d_SF_alter_8 (tgt := 21) (by decide) (fun z9 => absurd (hx9) z9) (fun _ => ?_)
  exact zThrowN hx hb hl9 hown hg zw_434 zw_12 hX (text := "the file has no such byte") (by decide) hS (hl.1.trans hml.symm) d_SF_alter_11 d_SF_alter_14 d_SF_alter_15 d_SF_alter_17 d_SF_alter_20 hex (by decide) (Nat.le_of_ble_eq_true rfl) (by decide) (by decide) hlk (fun t9 _ ht9 => ⟨f0, f1, f2, f3, f4, hS0, hA0, hM, hB, hE9, zkept hP ht9⟩) (by decide) (by decide)

set_option maxHeartbeats 4000000 in
set_option maxRecDepth 100000 in
theorem c_SF_load_e (l : Launch) (hl9 : l.stackTraces = false) (D : va_G) (cI cC cJ : ClassId) (h : Nat → Nat) (n0 : Nat) (S : Nat → Nat) (n2 : Nat) (M : Nat → Nat) (n3 : Nat) (B : Nat → Nat) (n4 : Nat) (E : Nat → Nat) (rt : Nat) (hh : zs_inj h) (hn0 : n0 ≤ 4) (hn2 : n2 ≤ 40) (hn3 : n3 ≤ 120) (hn4 : n4 ≤ 160) (hpf : zs_pf n4 E = 0) : vx_Met l y_SF_load (zw k_SF_load) ({ frames := 6, cells := 1, slots := 6, locals := 82 }) (zPcY [.ref (h 0)] (fun H => zCl D cI h n0 S n2 M n3 B n4 E rt H) D cI cC cJ (zX2 (zAS h))) (zQn (zAS h)) (zXC "java/lang/IllegalArgumentException" (fun H => zCl D cI h n0 S n2 M n3 B 0 E rt H) (zAS h)) 1 6 (zAS h) := by
  refine zMetT (by decide) (Nat.le_of_ble_eq_true rfl) ?_
  intro p e s m below meth c hx hb hr hg hown hlk hml hex hB0 hE hX ls hl
  have hl : lv_has ls 2 [(0, .ref (h 0))] := hl
  have hS9 : CallFix p m c b_SF_load 2 s [.ref (h 0)].toArray zg "SealedFiles" := ⟨hx, hb, hml, hown, hg⟩
  obtain ⟨f0, f1, f2, f3, f4, hS0, hA0, hM, hB, hE9, hP⟩ := hB0
  have hP : va_P D zcl [((h 0), .inr (1, [.ref (h 1), .ref (h 3), .ref (h 5), .ref (h 7), .ref (h 9), .int (nI rt)])), ((h 1), .inr (0, [.ref (h 2), .int (nI n0)])), ((h 2), .inl (cI, 4, .inl f0)), ((h 3), .inr (0, [.ref (h 4), .int (nI n0)])), ((h 4), .inl (cI, 4, .inl f1)), ((h 5), .inr (0, [.ref (h 6), .int (nI n2)])), ((h 6), .inl (cI, 40, .inl f2)), ((h 7), .inr (0, [.ref (h 8), .int (nI n3)])), ((h 8), .inl (cI, 120, .inl f3)), ((h 9), .inr (0, [.ref (h 10), .int (nI n4)])), ((h 10), .inl (cI, 160, .inl f4))] s.heap := hP
  have hn1 : n0 ≤ 4 := hn0
  have hD : va_D (zAS h) [((h 0), .inr (1, [.ref (h 1), .ref (h 3), .ref (h 5), .ref (h 7), .ref (h 9), .int (nI rt)])), ((h 1), .inr (0, [.ref (h 2), .int (nI n0)])), ((h 2), .inl (cI, 4, .inl f0)), ((h 3), .inr (0, [.ref (h 4), .int (nI n0)])), ((h 4), .inl (cI, 4, .inl f1)), ((h 5), .inr (0, [.ref (h 6), .int (nI n2)])), ((h 6), .inl (cI, 40, .inl f2)), ((h 7), .inr (0, [.ref (h 8), .int (nI n3)])), ((h 8), .inl (cI, 120, .inl f3)), ((h 9), .inr (0, [.ref (h 10), .int (nI n4)])), ((h 10), .inl (cI, 160, .inl f4))] := zSf_D hh
  have hS : va_S (zAS h) s.heap s.heap [] := va_S.rf
  refine lv_aload_n hx hb d_SF_load_0 rfl (lv_at hl 0 rfl) ?_
  refine zRd (rest := []) (zrV hS9 (c_SF_draftIsPrintedForm l D cI cC cJ h n0 n0 n2 n3 n4 f0 f1 f2 f3 f4 (nI rt) (by omega) (by omega) (by omega) (by omega) (by omega) E hE9) zc_SF_draftIsPrintedForm zw_469 zw_471 zp_23 (by decide) (va_recv hE.1 hP (ci := 1) (q := (R_SF, F_SF, 6)) rfl (q0 := 0) rfl) (hP) hE rfl hl.1 rfl (Nat.le_of_ble_eq_true rfl) d_SF_load_1) ?_
  refine lv_istore_n hx hb d_SF_load_4 rfl hl (by decide) (lv' := [(1, .int (nI (zs_pf n4 E))), (0, .ref (h 0))]) rfl (fun ls hl => ?_)
  refine lv_iload_n hx hb d_SF_load_5 rfl (lv_at hl 0 rfl) ?_
  refine lv_if_eq hx hb d_SF_load_6 (tgt := 13) (by decide) (fun _ => ?_) (fun z9 => absurd (by rw [hpf]; rfl) z9)
  refine lv_aload_n hx hb d_SF_load_13 rfl (lv_at hl 1 rfl) ?_
  refine va_get (D := D) (ci := 1) (v := .ref (h 9)) (C := R_SF) (T := F_SF) (N := 6) hx hb hg i_SF hown hE.1 hP 0 rfl rfl 4 (by decide) (hg _ zw_44) (fun _ h9 => h9) rfl d_SF_load_14 ?_
  refine lv_iconst (v := (nI 0)) hx hb d_SF_load_17 (by decide) ?_
  refine zWr (rest := []) (zrVN hS9 (c_RW_clear l D cI cC cJ (h 9) (h 10) 160 n4 f4 (by omega) (by decide) (fun z => absurd (hh 9 10 (by decide) (by decide) z) (by decide))) zc_RW_shorten (by decide) zw_89 zp_4 (by decide) (va_recv hE.1 hP (ci := 0) (q := (R_RW, F_RW, 2)) rfl (q0 := 9) rfl) (hP.sub [9, 10] rfl) hE rfl hl.1 rfl (Nat.le_of_ble_eq_true rfl) d_SF_load_18) hS (fun q _ h => zA2_in hD 9 10 rfl rfl q h) (fun q h => zA2_in hD 9 10 rfl rfl q h) (fun H locs hB1 hz hk hS => ?_)
  obtain ⟨hP, hD⟩ := zrow hP hD 9 10 rfl rfl (by decide) hk hB1
  have hP : va_P D zcl [((h 0), .inr (1, [.ref (h 1), .ref (h 3), .ref (h 5), .ref (h 7), .ref (h 9), .int (nI rt)])), ((h 1), .inr (0, [.ref (h 2), .int (nI n0)])), ((h 2), .inl (cI, 4, .inl f0)), ((h 3), .inr (0, [.ref (h 4), .int (nI n0)])), ((h 4), .inl (cI, 4, .inl f1)), ((h 5), .inr (0, [.ref (h 6), .int (nI n2)])), ((h 6), .inl (cI, 40, .inl f2)), ((h 7), .inr (0, [.ref (h 8), .int (nI n3)])), ((h 8), .inl (cI, 120, .inl f3)), ((h 9), .inr (0, [.ref (h 10), .int (nI 0)])), ((h 10), .inl (cI, 160, .inl f4))] H := hP
  have hD : va_D (zAS h) [((h 0), .inr (1, [.ref (h 1), .ref (h 3), .ref (h 5), .ref (h 7), .ref (h 9), .int (nI rt)])), ((h 1), .inr (0, [.ref (h 2), .int (nI n0)])), ((h 2), .inl (cI, 4, .inl f0)), ((h 3), .inr (0, [.ref (h 4), .int (nI n0)])), ((h 4), .inl (cI, 4, .inl f1)), ((h 5), .inr (0, [.ref (h 6), .int (nI n2)])), ((h 6), .inl (cI, 40, .inl f2)), ((h 7), .inr (0, [.ref (h 8), .int (nI n3)])), ((h 8), .inl (cI, 120, .inl f3)), ((h 9), .inr (0, [.ref (h 10), .int (nI 0)])), ((h 10), .inl (cI, 160, .inl f4))] := hD
  refine lv_pop hx hb d_SF_load_21 rfl ?_
  refine lv_iload_n hx hb d_SF_load_22 rfl (lv_at hl 0 rfl) ?_
  refine lv_if_ne hx hb d_SF_load_23 (tgt := 36) (by decide) (fun z9 => absurd (by rw [hpf]; rfl) z9) (fun _ => ?_)
  exact zThrow hx hb hl9 hown hg (by decide) zw_233 zw_7 hX (text := "the draft is no printed form") (by decide) (by decide) zt_38 zu_38 (by decide +kernel) hS (hl.1.trans hml.symm) d_SF_load_26 d_SF_load_29 d_SF_load_30 d_SF_load_32 d_SF_load_35 hex (by decide) (Nat.le_of_ble_eq_true rfl) (by decide) (by decide) hlk (fun t9 _ ht9 => ⟨f0, f1, f2, f3, f4, hS0, hA0, hM, hB, zs_hold_0, zkept hP ht9⟩) (by decide) (by decide)

