/-! THE CLAIM OUT OF ONE WALK OF THE LAW'S BODY. Your part is whole_start (and what it stands on); all else here is the same for every law, but numbers. -/
def R_law : String := "SealedFilesLaw"
def lw_P (b : Addr) (xs : List Int32) (args : Array Value) (s : State) : Prop := args = #[.ref b] ∧ s.IntsAt b xs ∧ xs.length ≤ 2048 ∧ (Jvm.Cond.and given_1 narrow_1).before args s = true
def lw_Q (_ : Array Value) (s : State) (o : Outcome) (t : State) : Prop := o = .returned (some (.int 1)) ∧ Framed s o t [] 601024 7293034
def lw_Z (below : List Frame) (a : Array Value) (s : State) : State → Prop := fun t => ∃ o, t.status = .running ∧ Ended t below o ∧ lw_Q a s o t
/-- the law's own end, with 1 on the stack, nothing written that was there before, its room as the claim has it -/
theorem lw_ret {p : Program} {l : Launch} {e : Env} {s : State} {m : MethodId} {below : List Frame} {meth : Method} {c : Code} {b : Nat} (hx : p.tables.exec = Jvm.exec) (hb : c.code = code) (hr : meth.sig.returnType = ret) (hlocks : meth.locks = false) {pc : Nat} {H : Heap} {ls : Array Slot} (hdg : decode code pc = .ok (.ireturn, 1)) : W p l e room_1 s m #[Value.ref b] below meth c H [] 601024 7293034 (lw_Z below #[Value.ref b] s) (F0 m pc ls [.int 1]) := by
  intro T hT X
  obtain ⟨fs, hret, hrun, hended, hW, hframe⟩ := X.leave (v := some (.int 1)) (hlocks := hlocks) (fun h => by rw [hr] at h; cases h)
  have hmeth' : T.vm.method? m = some meth := X.method'
  refine ⟨T.setFrames fs, ?_, .returned (some (.int 1)), hrun, hended, rfl, ⟨_, rfl⟩, hW, hframe⟩
  jvm_step X.here [X.here.top, hx, hb, hdg, hmeth', hr, ret, narrow_b1]
  (try refine ⟨rfl, ?_⟩); (try refine ⟨rfl, ?_⟩)
  first | (intro acts; rw [hret _ acts rfl rfl rfl]) | rw [hret _ _ rfl rfl rfl]
  exact Steps.refl _
/-- what holds at the law's entry: the machine, the code, the tables' words (any of lw_tbl by 'hts w (by decide +kernel)'), the script of L ints xs at the cell b, what the Statement gives of the start (any of its parts by flat_of_before) -/
def lw_At (p : Program) (s : State) (m : MethodId) (meth : Method) (c : Code) (b L : Nat) (xs : Nat → Int32) : Prop :=
  p.tables.exec = Jvm.exec ∧ c.code = code ∧ meth.sig.returnType = ret ∧ c.maxLocals = 7 ∧ s.vm.findClass R_law = some m.cls ∧ (∀ w ∈ lw_tbl, w.before #[Value.ref b] s = true) ∧ va_X b L xs s s.heap ∧ b < s.heap.size ∧ meth.locks = false ∧ (Jvm.Cond.and given_1 narrow_1).before #[Value.ref b] s = true
theorem zIv.S {D : va_G} {cI cC cJ : ClassId} {h gg : Nat → Nat} {o : Nat} {s : State} {H : Heap} {locs : List Loc} (hI : zIv D cI cC cJ h gg o s H locs) : va_S (zA0 s) s.heap H locs := by
  obtain ⟨_, _, _, _, _, _, _, _, _, _, _, _, _, _, _, hS⟩ := hI
  exact hS
theorem zb_more {i L : Nat} (hi : i ≤ 2048) (hL : L ≤ 2048) (h : ¬ nI L - nI 4 < nI i) : i + 4 ≤ L := by
  have a := pk_sub_toInt (a := L) (b := 4) (by omega) (by decide)
  have b := nI_toInt (n := i) (by omega)
  have d := Int32.not_lt.mp h
  rw [Int32.le_iff_toInt_le, a, b] at d
  omega
theorem zb_L (L : Nat) : Int32.ofNat L = nI L := rfl
set_option maxHeartbeats 4000000 in
set_option maxRecDepth 100000 in
theorem zlp {p : Program} {l : Launch} {e : Env} {s : State} {m : MethodId} {below : List Frame} {meth : Method} {c : Code} {b L : Nat} {xs : Nat → Int32} {D : va_G} {cI cC cJ : ClassId} {ka va : Nat} {h gg : Nat → Nat} {o : Nat}
    (C : zLaw p l s m c b L xs D cI cC cJ ka va) (hr : meth.sig.returnType = ret) (hlk : meth.locks = false) (Sp : zSep s h gg o) :
    ∀ (k i cells slots : Nat) (H : Heap) (locs : List Loc), L + 4 ≤ i + 4 * k → i ≤ 2048 → cells + k ≤ 601024 → slots + 6 * k ≤ 7293034 → zIv D cI cC cJ h gg o s H locs → ∀ ls : Array Slot, lv_has ls 7 (zLs b o i h gg) →
      W p l e room_1 s m #[Value.ref b] below meth c H locs cells slots (lw_Z below #[Value.ref b] s) (F0 m 23 ls []) := by
  have C9 := C
  obtain ⟨hS9, hL, hXs, hbl, hE, hX1, hX3, hl9⟩ := C9
  obtain ⟨hx, hb, hml, hown, hg⟩ := hS9
  intro k
  induction k with
  | zero =>
    intro i cells slots H locs hk hi hc hs hI ls hl
    have hS := hI.S
    have hl : lv_has ls 7 [(0, .ref b), (1, .ref (h 0)), (2, .ref (gg 0)), (3, .ref o), (4, .int (nI i))] := hl
    refine lv_iload hx hb d_LW_law_23 (lv_at hl 4 rfl) ?_
    refine lv_aload_n hx hb d_LW_law_25 rfl (lv_at hl 0 rfl) ?_
    refine va_slen hx hb hXs hbl (Nat.not_le.mpr hbl) hS d_LW_law_26 ?_
    refine ztop (y := nI L) (rfl) ?_
    refine lv_iconst (v := (nI 4)) hx hb d_LW_law_27 (by decide) ?_
    refine lv_isub hx hb d_LW_law_28 ?_
    refine lv_icmp_gt hx hb d_LW_law_29 (tgt := 681) (by decide) (fun g => ?_) (fun g => ?_)
    · refine lv_iconst (v := 1) hx hb d_LW_law_681 (by decide) ?_
      refine va_forget (fun q hq => hS.2.2 q hq) ?_
      refine W.widen (k := 601024) (n := 7293034) (by omega) (by omega) ?_
      exact lw_ret hx hb hr hlk d_LW_law_682
    · have := zb_more hi hL g
      omega
  | succ k ih =>
    intro i cells slots H locs hk hi hc hs hI ls hl
    have hS := hI.S
    have hl : lv_has ls 7 [(0, .ref b), (1, .ref (h 0)), (2, .ref (gg 0)), (3, .ref o), (4, .int (nI i))] := hl
    refine lv_iload hx hb d_LW_law_23 (lv_at hl 4 rfl) ?_
    refine lv_aload_n hx hb d_LW_law_25 rfl (lv_at hl 0 rfl) ?_
    refine va_slen hx hb hXs hbl (Nat.not_le.mpr hbl) hS d_LW_law_26 ?_
    refine ztop (y := nI L) (rfl) ?_
    refine lv_iconst (v := (nI 4)) hx hb d_LW_law_27 (by decide) ?_
    refine lv_isub hx hb d_LW_law_28 ?_
    refine lv_icmp_gt hx hb d_LW_law_29 (tgt := 681) (by decide) (fun g => ?_) (fun g => ?_)
    · refine lv_iconst (v := 1) hx hb d_LW_law_681 (by decide) ?_
      refine va_forget (fun q hq => hS.2.2 q hq) ?_
      refine W.widen (k := 601024) (n := 7293034) (by omega) (by omega) ?_
      exact lw_ret hx hb hr hlk d_LW_law_682
    · have hm := zb_more hi hL g
      refine lv_aload_n hx hb d_LW_law_32 rfl (lv_at hl 0 rfl) ?_
      refine lv_iload hx hb d_LW_law_33 (lv_at hl 4 rfl) ?_
      refine zsld hx hb hXs hbl hS (by omega) hL d_LW_law_35 (x := xs i) rfl ?_
      refine lv_bipush (v := (nI 15)) hx hb d_LW_law_36 (by decide) ?_
      refine lv_iand hx hb d_LW_law_38 ?_
      obtain ⟨j, hj, he⟩ := pk_andE (xs i) (m := nI 15) 4 (by decide)
      refine ztop (y := nI j) (he) ?_
      have kk : ∀ (H1 : Heap) (locs1 : List Loc) (ls : Array Slot), zIv D cI cC cJ h gg o s H1 locs1 → lv_has ls 7 (zLs b o i h gg) → W p l e room_1 s m #[Value.ref b] below meth c H1 locs1 (cells + 1) (slots + 6) (lw_Z below #[Value.ref b] s) (F0 m 675 ls []) := by
        intro H locs ls hI hl
        have hl : lv_has ls 7 [(0, .ref b), (1, .ref (h 0)), (2, .ref (gg 0)), (3, .ref o), (4, .int (nI i))] := hl
        refine lv_iinc (k := 4) (v := nI (i + 4)) hx hb d_LW_law_675 hl rfl (nI_add i 4) (by decide) (lv' := [(4, .int (nI (i + 4))), (0, .ref b), (1, .ref (h 0)), (2, .ref (gg 0)), (3, .ref o)]) rfl (fun ls hl => ?_)
        refine lv_goto hx hb d_LW_law_678 (tgt := 23) (by decide) ?_
        have hl : lv_has ls 7 [(0, .ref b), (1, .ref (h 0)), (2, .ref (gg 0)), (3, .ref o), (4, .int (nI (i + 4)))] := lv_sub hl [1, 2, 3, 4, 0] rfl
        exact ih (i + 4) (cells + 1) (slots + 6) H locs (by omega) (by omega) (by omega) (by omega) hI ls hl
      rcases (show j = 0 ∨ j = 1 ∨ j = 2 ∨ j = 3 ∨ j = 4 ∨ j = 5 ∨ j = 6 ∨ j = 7 ∨ j = 8 ∨ j = 9 ∨ j = 10 ∨ j = 11 ∨ j = 12 ∨ j = 13 ∨ j = 14 ∨ j = 15 by omega) with rfl | rfl | rfl | rfl | rfl | rfl | rfl | rfl | rfl | rfl | rfl | rfl | rfl | rfl | rfl | rfl
      · refine lv_tableIn (off := 73) (tgt := 112) hx hb d_LW_law_39 (by decide) (by decide) (by decide) (by decide) ?_
        exact zst_key C Sp hm (by omega) (by omega) hI kk ls hl
      · refine lv_tableIn (off := 129) (tgt := 168) hx hb d_LW_law_39 (by decide) (by decide) (by decide) (by decide) ?_
        exact zst_address C Sp hm (by omega) (by omega) hI kk ls hl
      · refine lv_tableIn (off := 154) (tgt := 193) hx hb d_LW_law_39 (by decide) (by decide) (by decide) (by decide) ?_
        exact zst_put C Sp hm (by omega) (by omega) hI kk ls hl
      · refine lv_tableIn (off := 179) (tgt := 218) hx hb d_LW_law_39 (by decide) (by decide) (by decide) (by decide) ?_
        exact zst_clear C Sp hm (by omega) (by omega) hI kk ls hl
      · refine lv_tableIn (off := 192) (tgt := 231) hx hb d_LW_law_39 (by decide) (by decide) (by decide) (by decide) ?_
        exact zst_seal C Sp hm (by omega) (by omega) hI kk ls hl
      · refine lv_tableIn (off := 272) (tgt := 311) hx hb d_LW_law_39 (by decide) (by decide) (by decide) (by decide) ?_
        exact zst_open C Sp hm (by omega) (by omega) hI kk ls hl
      · refine lv_tableIn (off := 328) (tgt := 367) hx hb d_LW_law_39 (by decide) (by decide) (by decide) (by decide) ?_
        exact zst_pieces C Sp hm (by omega) (by omega) hI kk ls hl
      · refine lv_tableIn (off := 341) (tgt := 380) hx hb d_LW_law_39 (by decide) (by decide) (by decide) (by decide) ?_
        exact zst_read C Sp hm (by omega) (by omega) hI kk ls hl
      · refine lv_tableIn (off := 397) (tgt := 436) hx hb d_LW_law_39 (by decide) (by decide) (by decide) (by decide) ?_
        exact zst_count C Sp hm (by omega) (by omega) hI kk ls hl
      · refine lv_tableIn (off := 422) (tgt := 461) hx hb d_LW_law_39 (by decide) (by decide) (by decide) (by decide) ?_
        exact zst_at C Sp hm (by omega) (by omega) hI kk ls hl
      · refine lv_tableIn (off := 447) (tgt := 486) hx hb d_LW_law_39 (by decide) (by decide) (by decide) (by decide) ?_
        exact zst_alter C Sp hm (by omega) (by omega) hI kk ls hl
      · refine lv_tableIn (off := 515) (tgt := 554) hx hb d_LW_law_39 (by decide) (by decide) (by decide) (by decide) ?_
        exact zst_cut C Sp hm (by omega) (by omega) hI kk ls hl
      · refine lv_tableIn (off := 540) (tgt := 579) hx hb d_LW_law_39 (by decide) (by decide) (by decide) (by decide) ?_
        exact zst_print C Sp hm (by omega) (by omega) hI kk ls hl
      · refine lv_tableIn (off := 565) (tgt := 604) hx hb d_LW_law_39 (by decide) (by decide) (by decide) (by decide) ?_
        exact zst_write C Sp hm (by omega) (by omega) hI kk ls hl
      · refine lv_tableIn (off := 592) (tgt := 631) hx hb d_LW_law_39 (by decide) (by decide) (by decide) (by decide) ?_
        exact zst_load C Sp hm (by omega) (by omega) hI kk ls hl
      · refine lv_tableOut (tgt := 675) hx hb d_LW_law_39 (Or.inr (by decide)) (by decide) ?_
        exact W.widen (k := cells + 1) (n := slots + 6) (by omega) (by omega) (kk H locs ls hI hl)

