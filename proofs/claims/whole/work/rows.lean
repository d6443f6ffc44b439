section
-- ===== PART A: goes FIRST, ahead of the names: the tables' words, and 'selects' of the private methods out of them =====
/-- a private method of a class that the tables say can be made, by its rows of tables_1 -/
def lw_okq (q : MethodName × Nat) : Prop := (q.1.cls ≠ "java/lang/invoke/MethodHandle" ∧ q.1.cls ≠ "java/lang/invoke/VarHandle") ∧ Cond.instantiable q.1.cls q.2 ∈ tables_1 ∧ Cond.privateMethod q.1 ∈ tables_1 ∧ Cond.instanceMethod q.1 ∈ tables_1
theorem lw_p0 : lw_okq (⟨"SealedFiles$Row", "item", "(I)I"⟩, 2) := ⟨⟨by decide +kernel, by decide +kernel⟩, List.mem_of_getElem? (i := 27) (by decide +kernel), List.mem_of_getElem? (i := 64) (by decide +kernel), List.mem_of_getElem? (i := 65) (by decide +kernel)⟩
theorem lw_p1 : lw_okq (⟨"SealedFiles$Row", "has", "(I)Z"⟩, 2) := ⟨⟨by decide +kernel, by decide +kernel⟩, List.mem_of_getElem? (i := 27) (by decide +kernel), List.mem_of_getElem? (i := 68) (by decide +kernel), List.mem_of_getElem? (i := 69) (by decide +kernel)⟩
theorem lw_p2 : lw_okq (⟨"SealedFiles$Row", "append", "(I)Z"⟩, 2) := ⟨⟨by decide +kernel, by decide +kernel⟩, List.mem_of_getElem? (i := 27) (by decide +kernel), List.mem_of_getElem? (i := 76) (by decide +kernel), List.mem_of_getElem? (i := 77) (by decide +kernel)⟩
theorem lw_p3 : lw_okq (⟨"SealedFiles$Row", "size", "()I"⟩, 2) := ⟨⟨by decide +kernel, by decide +kernel⟩, List.mem_of_getElem? (i := 27) (by decide +kernel), List.mem_of_getElem? (i := 84) (by decide +kernel), List.mem_of_getElem? (i := 85) (by decide +kernel)⟩
theorem lw_p4 : lw_okq (⟨"SealedFiles$Row", "shorten", "(I)Z"⟩, 2) := ⟨⟨by decide +kernel, by decide +kernel⟩, List.mem_of_getElem? (i := 27) (by decide +kernel), List.mem_of_getElem? (i := 88) (by decide +kernel), List.mem_of_getElem? (i := 89) (by decide +kernel)⟩
theorem lw_p5 : lw_okq (⟨"java/lang/Throwable", "fillInStackTrace", "(I)Ljava/lang/Throwable;"⟩, 6) := ⟨⟨by decide +kernel, by decide +kernel⟩, List.mem_of_getElem? (i := 272) (by decide +kernel), List.mem_of_getElem? (i := 270) (by decide +kernel), List.mem_of_getElem? (i := 271) (by decide +kernel)⟩
theorem lw_p6 : lw_okq (⟨"SealedFiles", "areReceivers", "(I)Z"⟩, 6) := ⟨⟨by decide +kernel, by decide +kernel⟩, List.mem_of_getElem? (i := 19) (by decide +kernel), List.mem_of_getElem? (i := 327) (by decide +kernel), List.mem_of_getElem? (i := 328) (by decide +kernel)⟩
theorem lw_p7 : lw_okq (⟨"SealedFiles", "appendEntry", "(III)V"⟩, 6) := ⟨⟨by decide +kernel, by decide +kernel⟩, List.mem_of_getElem? (i := 19) (by decide +kernel), List.mem_of_getElem? (i := 349) (by decide +kernel), List.mem_of_getElem? (i := 350) (by decide +kernel)⟩
theorem lw_p8 : lw_okq (⟨"SealedFiles$Row", "appendPair", "(I)V"⟩, 2) := ⟨⟨by decide +kernel, by decide +kernel⟩, List.mem_of_getElem? (i := 27) (by decide +kernel), List.mem_of_getElem? (i := 353) (by decide +kernel), List.mem_of_getElem? (i := 354) (by decide +kernel)⟩
theorem lw_p9 : lw_okq (⟨"SealedFiles", "entrySign", "(III)I"⟩, 6) := ⟨⟨by decide +kernel, by decide +kernel⟩, List.mem_of_getElem? (i := 19) (by decide +kernel), List.mem_of_getElem? (i := 359) (by decide +kernel), List.mem_of_getElem? (i := 360) (by decide +kernel)⟩
theorem lw_p10 : lw_okq (⟨"SealedFiles$Row", "sign", "(III)I"⟩, 2) := ⟨⟨by decide +kernel, by decide +kernel⟩, List.mem_of_getElem? (i := 27) (by decide +kernel), List.mem_of_getElem? (i := 363) (by decide +kernel), List.mem_of_getElem? (i := 364) (by decide +kernel)⟩
theorem lw_p11 : lw_okq (⟨"SealedFiles", "headSign", "(II)I"⟩, 6) := ⟨⟨by decide +kernel, by decide +kernel⟩, List.mem_of_getElem? (i := 19) (by decide +kernel), List.mem_of_getElem? (i := 370) (by decide +kernel), List.mem_of_getElem? (i := 371) (by decide +kernel)⟩
theorem lw_p12 : lw_okq (⟨"SealedFiles", "appendPieces", "(I)V"⟩, 6) := ⟨⟨by decide +kernel, by decide +kernel⟩, List.mem_of_getElem? (i := 19) (by decide +kernel), List.mem_of_getElem? (i := 374) (by decide +kernel), List.mem_of_getElem? (i := 375) (by decide +kernel)⟩
theorem lw_p13 : lw_okq (⟨"SealedFiles", "pieceSign", "(IIIIZ)I"⟩, 6) := ⟨⟨by decide +kernel, by decide +kernel⟩, List.mem_of_getElem? (i := 19) (by decide +kernel), List.mem_of_getElem? (i := 383) (by decide +kernel), List.mem_of_getElem? (i := 384) (by decide +kernel)⟩
theorem lw_p14 : lw_okq (⟨"SealedFiles", "hasShape", "()Z"⟩, 6) := ⟨⟨by decide +kernel, by decide +kernel⟩, List.mem_of_getElem? (i := 19) (by decide +kernel), List.mem_of_getElem? (i := 395) (by decide +kernel), List.mem_of_getElem? (i := 396) (by decide +kernel)⟩
theorem lw_p15 : lw_okq (⟨"SealedFiles", "entriesEnd", "()I"⟩, 6) := ⟨⟨by decide +kernel, by decide +kernel⟩, List.mem_of_getElem? (i := 19) (by decide +kernel), List.mem_of_getElem? (i := 399) (by decide +kernel), List.mem_of_getElem? (i := 400) (by decide +kernel)⟩
def lw_privs_1 : List (MethodName × Nat) := [(⟨"SealedFiles$Row", "item", "(I)I"⟩, 2), (⟨"SealedFiles$Row", "has", "(I)Z"⟩, 2), (⟨"SealedFiles$Row", "append", "(I)Z"⟩, 2), (⟨"SealedFiles$Row", "size", "()I"⟩, 2), (⟨"SealedFiles$Row", "shorten", "(I)Z"⟩, 2), (⟨"java/lang/Throwable", "fillInStackTrace", "(I)Ljava/lang/Throwable;"⟩, 6), (⟨"SealedFiles", "areReceivers", "(I)Z"⟩, 6), (⟨"SealedFiles", "appendEntry", "(III)V"⟩, 6), (⟨"SealedFiles$Row", "appendPair", "(I)V"⟩, 2), (⟨"SealedFiles", "entrySign", "(III)I"⟩, 6), (⟨"SealedFiles$Row", "sign", "(III)I"⟩, 2), (⟨"SealedFiles", "headSign", "(II)I"⟩, 6), (⟨"SealedFiles", "appendPieces", "(I)V"⟩, 6), (⟨"SealedFiles", "pieceSign", "(IIIIZ)I"⟩, 6), (⟨"SealedFiles", "hasShape", "()Z"⟩, 6), (⟨"SealedFiles", "entriesEnd", "()I"⟩, 6)]
theorem lw_r1 : ∀ q ∈ lw_privs_1, lw_okq q := List.forall_mem_cons.mpr ⟨lw_p0, List.forall_mem_cons.mpr ⟨lw_p1, List.forall_mem_cons.mpr ⟨lw_p2, List.forall_mem_cons.mpr ⟨lw_p3, List.forall_mem_cons.mpr ⟨lw_p4, List.forall_mem_cons.mpr ⟨lw_p5, List.forall_mem_cons.mpr ⟨lw_p6, List.forall_mem_cons.mpr ⟨lw_p7, List.forall_mem_cons.mpr ⟨lw_p8, List.forall_mem_cons.mpr ⟨lw_p9, List.forall_mem_cons.mpr ⟨lw_p10, List.forall_mem_cons.mpr ⟨lw_p11, List.forall_mem_cons.mpr ⟨lw_p12, List.forall_mem_cons.mpr ⟨lw_p13, List.forall_mem_cons.mpr ⟨lw_p14, List.forall_mem_cons.mpr ⟨lw_p15, fun _ h => absurd h List.not_mem_nil⟩⟩⟩⟩⟩⟩⟩⟩⟩⟩⟩⟩⟩⟩⟩⟩
theorem lw_p16 : lw_okq (⟨"SealedFiles", "entryFor", "(I)I"⟩, 6) := ⟨⟨by decide +kernel, by decide +kernel⟩, List.mem_of_getElem? (i := 19) (by decide +kernel), List.mem_of_getElem? (i := 403) (by decide +kernel), List.mem_of_getElem? (i := 404) (by decide +kernel)⟩
theorem lw_p17 : lw_okq (⟨"SealedFiles", "agreed", "(II)I"⟩, 6) := ⟨⟨by decide +kernel, by decide +kernel⟩, List.mem_of_getElem? (i := 19) (by decide +kernel), List.mem_of_getElem? (i := 407) (by decide +kernel), List.mem_of_getElem? (i := 408) (by decide +kernel)⟩
theorem lw_p18 : lw_okq (⟨"SealedFiles$Row", "pair", "(I)I"⟩, 2) := ⟨⟨by decide +kernel, by decide +kernel⟩, List.mem_of_getElem? (i := 27) (by decide +kernel), List.mem_of_getElem? (i := 411) (by decide +kernel), List.mem_of_getElem? (i := 412) (by decide +kernel)⟩
theorem lw_p19 : lw_okq (⟨"SealedFiles", "unwrapped", "(II)I"⟩, 6) := ⟨⟨by decide +kernel, by decide +kernel⟩, List.mem_of_getElem? (i := 19) (by decide +kernel), List.mem_of_getElem? (i := 415) (by decide +kernel), List.mem_of_getElem? (i := 416) (by decide +kernel)⟩
theorem lw_p20 : lw_okq (⟨"SealedFiles", "takePieces", "(II)I"⟩, 6) := ⟨⟨by decide +kernel, by decide +kernel⟩, List.mem_of_getElem? (i := 19) (by decide +kernel), List.mem_of_getElem? (i := 419) (by decide +kernel), List.mem_of_getElem? (i := 420) (by decide +kernel)⟩
theorem lw_p21 : lw_okq (⟨"SealedFiles", "uncover", "(IIII)V"⟩, 6) := ⟨⟨by decide +kernel, by decide +kernel⟩, List.mem_of_getElem? (i := 19) (by decide +kernel), List.mem_of_getElem? (i := 423) (by decide +kernel), List.mem_of_getElem? (i := 424) (by decide +kernel)⟩
theorem lw_p22 : lw_okq (⟨"SealedFiles$Row", "replace", "(II)V"⟩, 2) := ⟨⟨by decide +kernel, by decide +kernel⟩, List.mem_of_getElem? (i := 27) (by decide +kernel), List.mem_of_getElem? (i := 459) (by decide +kernel), List.mem_of_getElem? (i := 460) (by decide +kernel)⟩
theorem lw_p23 : lw_okq (⟨"SealedFiles", "draftIsPrintedForm", "()Z"⟩, 6) := ⟨⟨by decide +kernel, by decide +kernel⟩, List.mem_of_getElem? (i := 19) (by decide +kernel), List.mem_of_getElem? (i := 470) (by decide +kernel), List.mem_of_getElem? (i := 471) (by decide +kernel)⟩
theorem lw_p24 : lw_okq (⟨"SealedFiles", "draftBytes", "()I"⟩, 6) := ⟨⟨by decide +kernel, by decide +kernel⟩, List.mem_of_getElem? (i := 19) (by decide +kernel), List.mem_of_getElem? (i := 474) (by decide +kernel), List.mem_of_getElem? (i := 475) (by decide +kernel)⟩
theorem lw_p25 : lw_okq (⟨"SealedFiles", "takeDraft", "()V"⟩, 6) := ⟨⟨by decide +kernel, by decide +kernel⟩, List.mem_of_getElem? (i := 19) (by decide +kernel), List.mem_of_getElem? (i := 478) (by decide +kernel), List.mem_of_getElem? (i := 479) (by decide +kernel)⟩
theorem lw_p26 : lw_okq (⟨"SealedFilesModel", "fails", "(I)I"⟩, 12) := ⟨⟨by decide +kernel, by decide +kernel⟩, List.mem_of_getElem? (i := 483) (by decide +kernel), List.mem_of_getElem? (i := 535) (by decide +kernel), List.mem_of_getElem? (i := 536) (by decide +kernel)⟩
theorem lw_p27 : lw_okq (⟨"SealedFilesModel", "isKey", "(I)Z"⟩, 12) := ⟨⟨by decide +kernel, by decide +kernel⟩, List.mem_of_getElem? (i := 483) (by decide +kernel), List.mem_of_getElem? (i := 543) (by decide +kernel), List.mem_of_getElem? (i := 544) (by decide +kernel)⟩
theorem lw_p28 : lw_okq (⟨"SealedFilesModel", "add", "(I)V"⟩, 12) := ⟨⟨by decide +kernel, by decide +kernel⟩, List.mem_of_getElem? (i := 483) (by decide +kernel), List.mem_of_getElem? (i := 566) (by decide +kernel), List.mem_of_getElem? (i := 567) (by decide +kernel)⟩
theorem lw_p29 : lw_okq (⟨"SealedFilesModel", "entry", "(III)V"⟩, 12) := ⟨⟨by decide +kernel, by decide +kernel⟩, List.mem_of_getElem? (i := 483) (by decide +kernel), List.mem_of_getElem? (i := 570) (by decide +kernel), List.mem_of_getElem? (i := 571) (by decide +kernel)⟩
theorem lw_p30 : lw_okq (⟨"SealedFilesModel", "addTwo", "(I)V"⟩, 12) := ⟨⟨by decide +kernel, by decide +kernel⟩, List.mem_of_getElem? (i := 483) (by decide +kernel), List.mem_of_getElem? (i := 582) (by decide +kernel), List.mem_of_getElem? (i := 583) (by decide +kernel)⟩
theorem lw_p31 : lw_okq (⟨"SealedFilesModel", "sign", "(III)I"⟩, 12) := ⟨⟨by decide +kernel, by decide +kernel⟩, List.mem_of_getElem? (i := 483) (by decide +kernel), List.mem_of_getElem? (i := 586) (by decide +kernel), List.mem_of_getElem? (i := 587) (by decide +kernel)⟩
def lw_privs_2 : List (MethodName × Nat) := [(⟨"SealedFiles", "entryFor", "(I)I"⟩, 6), (⟨"SealedFiles", "agreed", "(II)I"⟩, 6), (⟨"SealedFiles$Row", "pair", "(I)I"⟩, 2), (⟨"SealedFiles", "unwrapped", "(II)I"⟩, 6), (⟨"SealedFiles", "takePieces", "(II)I"⟩, 6), (⟨"SealedFiles", "uncover", "(IIII)V"⟩, 6), (⟨"SealedFiles$Row", "replace", "(II)V"⟩, 2), (⟨"SealedFiles", "draftIsPrintedForm", "()Z"⟩, 6), (⟨"SealedFiles", "draftBytes", "()I"⟩, 6), (⟨"SealedFiles", "takeDraft", "()V"⟩, 6), (⟨"SealedFilesModel", "fails", "(I)I"⟩, 12), (⟨"SealedFilesModel", "isKey", "(I)Z"⟩, 12), (⟨"SealedFilesModel", "add", "(I)V"⟩, 12), (⟨"SealedFilesModel", "entry", "(III)V"⟩, 12), (⟨"SealedFilesModel", "addTwo", "(I)V"⟩, 12), (⟨"SealedFilesModel", "sign", "(III)I"⟩, 12)]
theorem lw_r2 : ∀ q ∈ lw_privs_2, lw_okq q := List.forall_mem_cons.mpr ⟨lw_p16, List.forall_mem_cons.mpr ⟨lw_p17, List.forall_mem_cons.mpr ⟨lw_p18, List.forall_mem_cons.mpr ⟨lw_p19, List.forall_mem_cons.mpr ⟨lw_p20, List.forall_mem_cons.mpr ⟨lw_p21, List.forall_mem_cons.mpr ⟨lw_p22, List.forall_mem_cons.mpr ⟨lw_p23, List.forall_mem_cons.mpr ⟨lw_p24, List.forall_mem_cons.mpr ⟨lw_p25, List.forall_mem_cons.mpr ⟨lw_p26, List.forall_mem_cons.mpr ⟨lw_p27, List.forall_mem_cons.mpr ⟨lw_p28, List.forall_mem_cons.mpr ⟨lw_p29, List.forall_mem_cons.mpr ⟨lw_p30, List.forall_mem_cons.mpr ⟨lw_p31, fun _ h => absurd h List.not_mem_nil⟩⟩⟩⟩⟩⟩⟩⟩⟩⟩⟩⟩⟩⟩⟩⟩
theorem lw_p32 : lw_okq (⟨"SealedFilesModel", "entryOf", "(I)I"⟩, 12) := ⟨⟨by decide +kernel, by decide +kernel⟩, List.mem_of_getElem? (i := 483) (by decide +kernel), List.mem_of_getElem? (i := 596) (by decide +kernel), List.mem_of_getElem? (i := 597) (by decide +kernel)⟩
theorem lw_p33 : lw_okq (⟨"SealedFilesModel", "two", "(I)I"⟩, 12) := ⟨⟨by decide +kernel, by decide +kernel⟩, List.mem_of_getElem? (i := 483) (by decide +kernel), List.mem_of_getElem? (i := 600) (by decide +kernel), List.mem_of_getElem? (i := 601) (by decide +kernel)⟩
theorem lw_p34 : lw_okq (⟨"SealedFilesModel", "piece", "(IIIIZ)I"⟩, 12) := ⟨⟨by decide +kernel, by decide +kernel⟩, List.mem_of_getElem? (i := 483) (by decide +kernel), List.mem_of_getElem? (i := 604) (by decide +kernel), List.mem_of_getElem? (i := 605) (by decide +kernel)⟩
theorem lw_p35 : lw_okq (⟨"SealedFilesModel", "uncover", "(IIII)V"⟩, 12) := ⟨⟨by decide +kernel, by decide +kernel⟩, List.mem_of_getElem? (i := 483) (by decide +kernel), List.mem_of_getElem? (i := 608) (by decide +kernel), List.mem_of_getElem? (i := 609) (by decide +kernel)⟩
theorem lw_p36 : lw_okq (⟨"SealedFilesModel", "bit", "(I)I"⟩, 12) := ⟨⟨by decide +kernel, by decide +kernel⟩, List.mem_of_getElem? (i := 483) (by decide +kernel), List.mem_of_getElem? (i := 636) (by decide +kernel), List.mem_of_getElem? (i := 637) (by decide +kernel)⟩
def lw_privs_3 : List (MethodName × Nat) := [(⟨"SealedFilesModel", "entryOf", "(I)I"⟩, 12), (⟨"SealedFilesModel", "two", "(I)I"⟩, 12), (⟨"SealedFilesModel", "piece", "(IIIIZ)I"⟩, 12), (⟨"SealedFilesModel", "uncover", "(IIII)V"⟩, 12), (⟨"SealedFilesModel", "bit", "(I)I"⟩, 12)]
theorem lw_r3 : ∀ q ∈ lw_privs_3, lw_okq q := List.forall_mem_cons.mpr ⟨lw_p32, List.forall_mem_cons.mpr ⟨lw_p33, List.forall_mem_cons.mpr ⟨lw_p34, List.forall_mem_cons.mpr ⟨lw_p35, List.forall_mem_cons.mpr ⟨lw_p36, fun _ h => absurd h List.not_mem_nil⟩⟩⟩⟩⟩
def lw_privs : List (MethodName × Nat) := lw_privs_1 ++ (lw_privs_2 ++ (lw_privs_3))
def lw_tbl : List Cond := k2_sels lw_privs ++ tables_1
theorem lw_privs_ok : ∀ q ∈ lw_privs, lw_okq q := by
  show ∀ q ∈ lw_privs_1 ++ (lw_privs_2 ++ (lw_privs_3)), lw_okq q
  exact List.forall_mem_append.mpr ⟨lw_r1, List.forall_mem_append.mpr ⟨lw_r2, lw_r3⟩⟩
/-- the words that every contract takes: the tables' good words, one list for all -/
def zg : List Cond := lw_tbl.filter goodWord
theorem zg_in {w : Cond} (i : Nat) (h : lw_tbl[i]? = some w) (hg : goodWord w = true) : w ∈ zg := List.mem_filter.mpr ⟨List.mem_of_getElem? h, hg⟩
theorem zg_tbl {w : Cond} (h : w ∈ zg) : w ∈ lw_tbl := (List.mem_filter.mp h).1
theorem zg_good {w : Cond} (h : w ∈ zg) : (w.onTables && w.keeps) = true ∨ ∃ ty, w = .arrayClass ty := good_of_word (List.mem_filter.mp h).2
/-- a method's words: its own code first, then the one list -/
abbrev zw (c : Cond) : List Cond := c :: zg
/-- a callee's words are among a caller's -/
theorem zg_sub {c d : Cond} (h : d ∈ zg) : GoodIn (zw c) (zw d) := fun w hw => by
  rcases List.mem_cons.mp hw with e | e
  · subst e; exact ⟨List.mem_cons_of_mem _ h, zg_good h⟩
  · exact ⟨List.mem_cons_of_mem _ e, zg_good e⟩
theorem zg_subT {d : Cond} (h : d ∈ zg) : GoodIn lw_tbl (zw d) := fun w hw => by
  rcases List.mem_cons.mp hw with e | e
  · subst e; exact ⟨zg_tbl h, zg_good h⟩
  · exact ⟨zg_tbl e, zg_good e⟩
end
section
def R_SF : String := "SealedFiles"
def R_RW : String := "SealedFiles$Row"
def R_NU : String := "SealedFiles$Numbers"
def R_MD : String := "SealedFilesModel"
def R_LW : String := "SealedFilesLaw"
def F_RW : u_T := fun k => match k with
  | 0 => ("SealedFiles$Row", "items", "[I", true)
  | _ => ("SealedFiles$Row", "size", "I", false)
def t_RW : Nat → FieldType := fun k => match k with
  | 0 => .array .int
  | _ => .int
theorem n_RW : ∀ a, a < 2 → ∀ b, b < 2 → a ≠ b → (F_RW a).2.1 ≠ (F_RW b).2.1 := by decide +kernel
theorem t_RW_ok : ∀ k, k < 2 → parseFieldDescriptor (F_RW k).2.2.1 = some (t_RW k) := by decide +kernel
theorem i_RW {c : Cond} : ∀ w ∈ u_ws R_RW F_RW 2, w ∈ zw c := fun w hw => List.mem_cons_of_mem _ ((show ∀ w ∈ u_ws R_RW F_RW 2, w ∈ zg by decide +kernel) w hw)
def F_SF : u_T := fun k => match k with
  | 0 => ("SealedFiles", "secrets", "LSealedFiles$Row;", true)
  | 1 => ("SealedFiles", "addresses", "LSealedFiles$Row;", true)
  | 2 => ("SealedFiles", "message", "LSealedFiles$Row;", true)
  | 3 => ("SealedFiles", "file", "LSealedFiles$Row;", true)
  | 4 => ("SealedFiles", "draft", "LSealedFiles$Row;", true)
  | _ => ("SealedFiles", "rightPieces", "I", false)
def t_SF : Nat → FieldType := fun k => match k with
  | 0 => .object "SealedFiles$Row"
  | 1 => .object "SealedFiles$Row"
  | 2 => .object "SealedFiles$Row"
  | 3 => .object "SealedFiles$Row"
  | 4 => .object "SealedFiles$Row"
  | _ => .int
theorem n_SF : ∀ a, a < 6 → ∀ b, b < 6 → a ≠ b → (F_SF a).2.1 ≠ (F_SF b).2.1 := by decide +kernel
theorem t_SF_ok : ∀ k, k < 6 → parseFieldDescriptor (F_SF k).2.2.1 = some (t_SF k) := by decide +kernel
theorem i_SF {c : Cond} : ∀ w ∈ u_ws R_SF F_SF 6, w ∈ zw c := fun w hw => List.mem_cons_of_mem _ ((show ∀ w ∈ u_ws R_SF F_SF 6, w ∈ zg by decide +kernel) w hw)
def F_MD : u_T := fun k => match k with
  | 0 => ("SealedFilesModel", "fault", "I", false)
  | 1 => ("SealedFilesModel", "keys", "I", false)
  | 2 => ("SealedFilesModel", "secret", "[I", true)
  | 3 => ("SealedFilesModel", "length", "I", false)
  | 4 => ("SealedFilesModel", "size", "I", false)
  | 5 => ("SealedFilesModel", "right", "I", false)
  | 6 => ("SealedFilesModel", "message", "[I", true)
  | 7 => ("SealedFilesModel", "file", "[I", true)
  | 8 => ("SealedFilesModel", "plain", "[I", true)
  | 9 => ("SealedFilesModel", "read", "I", false)
  | 10 => ("SealedFilesModel", "drafted", "I", false)
  | _ => ("SealedFilesModel", "draft", "[C", true)
def t_MD : Nat → FieldType := fun k => match k with
  | 0 => .int
  | 1 => .int
  | 2 => .array .int
  | 3 => .int
  | 4 => .int
  | 5 => .int
  | 6 => .array .int
  | 7 => .array .int
  | 8 => .array .int
  | 9 => .int
  | 10 => .int
  | _ => .array .char
theorem n_MD : ∀ a, a < 12 → ∀ b, b < 12 → a ≠ b → (F_MD a).2.1 ≠ (F_MD b).2.1 := by decide +kernel
theorem t_MD_ok : ∀ k, k < 12 → parseFieldDescriptor (F_MD k).2.2.1 = some (t_MD k) := by decide +kernel
theorem i_MD {c : Cond} : ∀ w ∈ u_ws R_MD F_MD 12, w ∈ zw c := fun w hw => List.mem_cons_of_mem _ ((show ∀ w ∈ u_ws R_MD F_MD 12, w ∈ zg by decide +kernel) w hw)
/-- the classes whose objects the worlds hold -/
abbrev zcl : List vw_C := [(R_RW, F_RW, 2), (R_SF, F_SF, 6), (R_MD, F_MD, 12)]
abbrev b_MD_add : ByteArray := prog_5_method_15_code
def y_MD_add : MethodName := ⟨"SealedFilesModel", "add", "(I)V"⟩
abbrev k_MD_add : Cond := .code y_MD_add b_MD_add 2 none
set_option maxRecDepth 20000 in
theorem zk_MD_add : k_MD_add ∈ zg := zg_in 605 rfl rfl
abbrev b_MD_addTwo : ByteArray := prog_5_method_16_code
def y_MD_addTwo : MethodName := ⟨"SealedFilesModel", "addTwo", "(I)V"⟩
abbrev k_MD_addTwo : Cond := .code y_MD_addTwo b_MD_addTwo 2 none
set_option maxRecDepth 20000 in
theorem zk_MD_addTwo : k_MD_addTwo ∈ zg := zg_in 621 rfl rfl
abbrev b_MD_address : ByteArray := prog_5_method_11_code
def y_MD_address : MethodName := ⟨"SealedFilesModel", "address", "(I)I"⟩
abbrev k_MD_address : Cond := .code y_MD_address b_MD_address 2 (some .int)
set_option maxRecDepth 20000 in
theorem zk_MD_address : k_MD_address ∈ zg := zg_in 578 rfl rfl
abbrev b_MD_alter : ByteArray := prog_5_method_26_code
def y_MD_alter : MethodName := ⟨"SealedFilesModel", "alter", "(II)I"⟩
abbrev k_MD_alter : Cond := .code y_MD_alter b_MD_alter 3 (some .int)
set_option maxRecDepth 20000 in
theorem zk_MD_alter : k_MD_alter ∈ zg := zg_in 663 rfl rfl
abbrev b_MD_at : ByteArray := prog_5_method_25_code
def y_MD_at : MethodName := ⟨"SealedFilesModel", "at", "(I)I"⟩
abbrev k_MD_at : Cond := .code y_MD_at b_MD_at 2 (some .int)
set_option maxRecDepth 20000 in
theorem zk_MD_at : k_MD_at ∈ zg := zg_in 659 rfl rfl
abbrev b_MD_bit : ByteArray := prog_5_method_28_code
def y_MD_bit : MethodName := ⟨"SealedFilesModel", "bit", "(I)I"⟩
abbrev k_MD_bit : Cond := .code y_MD_bit b_MD_bit 2 (some .int)
set_option maxRecDepth 20000 in
theorem zk_MD_bit : k_MD_bit ∈ zg := zg_in 675 rfl rfl
abbrev b_MD_clear : ByteArray := prog_5_method_13_code
def y_MD_clear : MethodName := ⟨"SealedFilesModel", "clear", "()I"⟩
abbrev k_MD_clear : Cond := .code y_MD_clear b_MD_clear 2 (some .int)
set_option maxRecDepth 20000 in
theorem zk_MD_clear : k_MD_clear ∈ zg := zg_in 593 rfl rfl
abbrev b_MD_count : ByteArray := prog_5_method_24_code
def y_MD_count : MethodName := ⟨"SealedFilesModel", "count", "(I)I"⟩
abbrev k_MD_count : Cond := .code y_MD_count b_MD_count 2 (some .int)
set_option maxRecDepth 20000 in
theorem zk_MD_count : k_MD_count ∈ zg := zg_in 655 rfl rfl
abbrev b_MD_cut : ByteArray := prog_5_method_27_code
def y_MD_cut : MethodName := ⟨"SealedFilesModel", "cut", "(I)Z"⟩
abbrev k_MD_cut : Cond := .code y_MD_cut b_MD_cut 2 (some .boolean)
set_option maxRecDepth 20000 in
theorem zk_MD_cut : k_MD_cut ∈ zg := zg_in 667 rfl rfl
abbrev b_MD_entry : ByteArray := prog_5_method_17_code
def y_MD_entry : MethodName := ⟨"SealedFilesModel", "entry", "(III)V"⟩
abbrev k_MD_entry : Cond := .code y_MD_entry b_MD_entry 11 none
set_option maxRecDepth 20000 in
theorem zk_MD_entry : k_MD_entry ∈ zg := zg_in 609 rfl rfl
abbrev b_MD_entryOf : ByteArray := prog_5_method_19_code
def y_MD_entryOf : MethodName := ⟨"SealedFilesModel", "entryOf", "(I)I"⟩
abbrev k_MD_entryOf : Cond := .code y_MD_entryOf b_MD_entryOf 6 (some .int)
set_option maxRecDepth 20000 in
theorem zk_MD_entryOf : k_MD_entryOf ∈ zg := zg_in 635 rfl rfl
abbrev b_MD_fails : ByteArray := prog_5_method_3_code
def y_MD_fails : MethodName := ⟨"SealedFilesModel", "fails", "(I)I"⟩
abbrev k_MD_fails : Cond := .code y_MD_fails b_MD_fails 2 (some .int)
set_option maxRecDepth 20000 in
theorem zk_MD_fails : k_MD_fails ∈ zg := zg_in 574 rfl rfl
abbrev b_MD_init : ByteArray := prog_5_method_1_code
def y_MD_init : MethodName := ⟨"SealedFilesModel", "<init>", "()V"⟩
abbrev k_MD_init : Cond := .code y_MD_init b_MD_init 1 none
set_option maxRecDepth 20000 in
theorem zk_MD_init : k_MD_init ∈ zg := zg_in 523 rfl rfl
abbrev b_MD_isKey : ByteArray := prog_5_method_10_code
def y_MD_isKey : MethodName := ⟨"SealedFilesModel", "isKey", "(I)Z"⟩
abbrev k_MD_isKey : Cond := .code y_MD_isKey b_MD_isKey 2 (some .boolean)
set_option maxRecDepth 20000 in
theorem zk_MD_isKey : k_MD_isKey ∈ zg := zg_in 582 rfl rfl
abbrev b_MD_key : ByteArray := prog_5_method_9_code
def y_MD_key : MethodName := ⟨"SealedFilesModel", "key", "(I)I"⟩
abbrev k_MD_key : Cond := .code y_MD_key b_MD_key 2 (some .int)
set_option maxRecDepth 20000 in
theorem zk_MD_key : k_MD_key ∈ zg := zg_in 570 rfl rfl
abbrev b_MD_load : ByteArray := prog_5_method_32_code
def y_MD_load : MethodName := ⟨"SealedFilesModel", "load", "()I"⟩
abbrev k_MD_load : Cond := .code y_MD_load b_MD_load 8 (some .int)
set_option maxRecDepth 20000 in
theorem zk_MD_load : k_MD_load ∈ zg := zg_in 686 rfl rfl
abbrev b_MD_mix : ByteArray := prog_5_method_5_code
def y_MD_mix : MethodName := ⟨"SealedFilesModel", "mix", "(I)I"⟩
abbrev k_MD_mix : Cond := .code y_MD_mix b_MD_mix 2 (some .int)
set_option maxRecDepth 20000 in
theorem zk_MD_mix : k_MD_mix ∈ zg := zg_in 615 rfl rfl
abbrev b_MD_open : ByteArray := prog_5_method_22_code
def y_MD_open : MethodName := ⟨"SealedFilesModel", "open", "(I)I"⟩
abbrev k_MD_open : Cond := .code y_MD_open b_MD_open 10 (some .int)
set_option maxRecDepth 20000 in
theorem zk_MD_open : k_MD_open ∈ zg := zg_in 631 rfl rfl
abbrev b_MD_piece : ByteArray := prog_5_method_20_code
def y_MD_piece : MethodName := ⟨"SealedFilesModel", "piece", "(IIIIZ)I"⟩
abbrev k_MD_piece : Cond := .code y_MD_piece b_MD_piece 7 (some .int)
set_option maxRecDepth 20000 in
theorem zk_MD_piece : k_MD_piece ∈ zg := zg_in 643 rfl rfl
abbrev b_MD_pieces : ByteArray := prog_5_method_23_code
def y_MD_pieces : MethodName := ⟨"SealedFilesModel", "pieces", "()I"⟩
abbrev k_MD_pieces : Cond := .code y_MD_pieces b_MD_pieces 1 (some .int)
set_option maxRecDepth 20000 in
theorem zk_MD_pieces : k_MD_pieces ∈ zg := zg_in 651 rfl rfl
abbrev b_MD_power : ByteArray := prog_5_method_4_code
def y_MD_power : MethodName := ⟨"SealedFilesModel", "power", "(II)I"⟩
abbrev k_MD_power : Cond := .code y_MD_power b_MD_power 5 (some .int)
set_option maxRecDepth 20000 in
theorem zk_MD_power : k_MD_power ∈ zg := zg_in 585 rfl rfl
abbrev b_MD_print : ByteArray := prog_5_method_30_code
def y_MD_print : MethodName := ⟨"SealedFilesModel", "print", "(I)I"⟩
abbrev k_MD_print : Cond := .code y_MD_print b_MD_print 4 (some .int)
set_option maxRecDepth 20000 in
theorem zk_MD_print : k_MD_print ∈ zg := zg_in 671 rfl rfl
abbrev b_MD_put : ByteArray := prog_5_method_12_code
def y_MD_put : MethodName := ⟨"SealedFilesModel", "put", "(I)Z"⟩
abbrev k_MD_put : Cond := .code y_MD_put b_MD_put 2 (some .boolean)
set_option maxRecDepth 20000 in
theorem zk_MD_put : k_MD_put ∈ zg := zg_in 589 rfl rfl
abbrev b_MD_read : ByteArray := prog_5_method_14_code
def y_MD_read : MethodName := ⟨"SealedFilesModel", "read", "(I)I"⟩
abbrev k_MD_read : Cond := .code y_MD_read b_MD_read 2 (some .int)
set_option maxRecDepth 20000 in
theorem zk_MD_read : k_MD_read ∈ zg := zg_in 597 rfl rfl
abbrev b_MD_seal : ByteArray := prog_5_method_18_code
def y_MD_seal : MethodName := ⟨"SealedFilesModel", "seal", "(III)I"⟩
abbrev k_MD_seal : Cond := .code y_MD_seal b_MD_seal 10 (some .int)
set_option maxRecDepth 20000 in
theorem zk_MD_seal : k_MD_seal ∈ zg := zg_in 601 rfl rfl
abbrev b_MD_sign : ByteArray := prog_5_method_7_code
def y_MD_sign : MethodName := ⟨"SealedFilesModel", "sign", "(III)I"⟩
abbrev k_MD_sign : Cond := .code y_MD_sign b_MD_sign 9 (some .int)
set_option maxRecDepth 20000 in
theorem zk_MD_sign : k_MD_sign ∈ zg := zg_in 625 rfl rfl
abbrev b_MD_sixOf : ByteArray := prog_5_method_29_code
def y_MD_sixOf : MethodName := ⟨"SealedFilesModel", "sixOf", "(C)I"⟩
abbrev k_MD_sixOf : Cond := .code y_MD_sixOf b_MD_sixOf 1 (some .int)
set_option maxRecDepth 20000 in
theorem zk_MD_sixOf : k_MD_sixOf ∈ zg := zg_in 682 rfl rfl
abbrev b_MD_thrown : ByteArray := prog_5_method_2_code
def y_MD_thrown : MethodName := ⟨"SealedFilesModel", "thrown", "()I"⟩
abbrev k_MD_thrown : Cond := .code y_MD_thrown b_MD_thrown 1 (some .int)
set_option maxRecDepth 20000 in
theorem zk_MD_thrown : k_MD_thrown ∈ zg := zg_in 566 rfl rfl
abbrev b_MD_two : ByteArray := prog_5_method_8_code
def y_MD_two : MethodName := ⟨"SealedFilesModel", "two", "(I)I"⟩
abbrev k_MD_two : Cond := .code y_MD_two b_MD_two 2 (some .int)
set_option maxRecDepth 20000 in
theorem zk_MD_two : k_MD_two ∈ zg := zg_in 639 rfl rfl
abbrev b_MD_uncover : ByteArray := prog_5_method_21_code
def y_MD_uncover : MethodName := ⟨"SealedFilesModel", "uncover", "(IIII)V"⟩
abbrev k_MD_uncover : Cond := .code y_MD_uncover b_MD_uncover 6 none
set_option maxRecDepth 20000 in
theorem zk_MD_uncover : k_MD_uncover ∈ zg := zg_in 647 rfl rfl
abbrev b_MD_word : ByteArray := prog_5_method_6_code
def y_MD_word : MethodName := ⟨"SealedFilesModel", "word", "(III)I"⟩
abbrev k_MD_word : Cond := .code y_MD_word b_MD_word 4 (some .int)
set_option maxRecDepth 20000 in
theorem zk_MD_word : k_MD_word ∈ zg := zg_in 612 rfl rfl
abbrev b_MD_write : ByteArray := prog_5_method_31_code
def y_MD_write : MethodName := ⟨"SealedFilesModel", "write", "(C)Z"⟩
abbrev k_MD_write : Cond := .code y_MD_write b_MD_write 2 (some .boolean)
set_option maxRecDepth 20000 in
theorem zk_MD_write : k_MD_write ∈ zg := zg_in 679 rfl rfl
abbrev b_NU_mix : ByteArray := prog_2_method_3_code
def y_NU_mix : MethodName := ⟨"SealedFiles$Numbers", "mix", "(I)I"⟩
abbrev k_NU_mix : Cond := .code y_NU_mix b_NU_mix 3 (some .int)
set_option maxRecDepth 20000 in
theorem zk_NU_mix : k_NU_mix ∈ zg := zg_in 382 rfl rfl
abbrev b_NU_power : ByteArray := prog_2_method_2_code
def y_NU_power : MethodName := ⟨"SealedFiles$Numbers", "power", "(II)I"⟩
abbrev k_NU_power : Cond := .code y_NU_power b_NU_power 5 (some .int)
set_option maxRecDepth 20000 in
theorem zk_NU_power : k_NU_power ∈ zg := zg_in 355 rfl rfl
abbrev b_NU_word : ByteArray := prog_2_method_4_code
def y_NU_word : MethodName := ⟨"SealedFiles$Numbers", "word", "(III)I"⟩
abbrev k_NU_word : Cond := .code y_NU_word b_NU_word 3 (some .int)
set_option maxRecDepth 20000 in
theorem zk_NU_word : k_NU_word ∈ zg := zg_in 379 rfl rfl
abbrev b_RW_append : ByteArray := prog_3_method_5_code
def y_RW_append : MethodName := ⟨"SealedFiles$Row", "append", "(I)Z"⟩
abbrev k_RW_append : Cond := .code y_RW_append b_RW_append 2 (some .boolean)
set_option maxRecDepth 20000 in
theorem zk_RW_append : k_RW_append ∈ zg := zg_in 115 rfl rfl
abbrev b_RW_appendPair : ByteArray := prog_3_method_8_code
def y_RW_appendPair : MethodName := ⟨"SealedFiles$Row", "appendPair", "(I)V"⟩
abbrev k_RW_appendPair : Cond := .code y_RW_appendPair b_RW_appendPair 2 none
set_option maxRecDepth 20000 in
theorem zk_RW_appendPair : k_RW_appendPair ∈ zg := zg_in 392 rfl rfl
abbrev b_RW_has : ByteArray := prog_3_method_3_code
def y_RW_has : MethodName := ⟨"SealedFiles$Row", "has", "(I)Z"⟩
abbrev k_RW_has : Cond := .code y_RW_has b_RW_has 2 (some .boolean)
set_option maxRecDepth 20000 in
theorem zk_RW_has : k_RW_has ∈ zg := zg_in 107 rfl rfl
abbrev b_RW_init : ByteArray := prog_3_method_1_code
def y_RW_init : MethodName := ⟨"SealedFiles$Row", "<init>", "(I)V"⟩
abbrev k_RW_init : Cond := .code y_RW_init b_RW_init 2 none
set_option maxRecDepth 20000 in
theorem zk_RW_init : k_RW_init ∈ zg := zg_in 67 rfl rfl
abbrev b_RW_item : ByteArray := prog_3_method_4_code
def y_RW_item : MethodName := ⟨"SealedFiles$Row", "item", "(I)I"⟩
abbrev k_RW_item : Cond := .code y_RW_item b_RW_item 2 (some .int)
set_option maxRecDepth 20000 in
theorem zk_RW_item : k_RW_item ∈ zg := zg_in 103 rfl rfl
abbrev b_RW_pair : ByteArray := prog_3_method_9_code
def y_RW_pair : MethodName := ⟨"SealedFiles$Row", "pair", "(I)I"⟩
abbrev k_RW_pair : Cond := .code y_RW_pair b_RW_pair 2 (some .int)
set_option maxRecDepth 20000 in
theorem zk_RW_pair : k_RW_pair ∈ zg := zg_in 450 rfl rfl
abbrev b_RW_replace : ByteArray := prog_3_method_6_code
def y_RW_replace : MethodName := ⟨"SealedFiles$Row", "replace", "(II)V"⟩
abbrev k_RW_replace : Cond := .code y_RW_replace b_RW_replace 3 none
set_option maxRecDepth 20000 in
theorem zk_RW_replace : k_RW_replace ∈ zg := zg_in 498 rfl rfl
abbrev b_RW_shorten : ByteArray := prog_3_method_7_code
def y_RW_shorten : MethodName := ⟨"SealedFiles$Row", "shorten", "(I)Z"⟩
abbrev k_RW_shorten : Cond := .code y_RW_shorten b_RW_shorten 2 (some .boolean)
set_option maxRecDepth 20000 in
theorem zk_RW_shorten : k_RW_shorten ∈ zg := zg_in 127 rfl rfl
abbrev b_RW_sign : ByteArray := prog_3_method_10_code
def y_RW_sign : MethodName := ⟨"SealedFiles$Row", "sign", "(III)I"⟩
abbrev k_RW_sign : Cond := .code y_RW_sign b_RW_sign 9 (some .int)
set_option maxRecDepth 20000 in
theorem zk_RW_sign : k_RW_sign ∈ zg := zg_in 402 rfl rfl
abbrev b_RW_size : ByteArray := prog_3_method_2_code
def y_RW_size : MethodName := ⟨"SealedFiles$Row", "size", "()I"⟩
abbrev k_RW_size : Cond := .code y_RW_size b_RW_size 1 (some .int)
set_option maxRecDepth 20000 in
theorem zk_RW_size : k_RW_size ∈ zg := zg_in 123 rfl rfl
abbrev b_SF_address : ByteArray := prog_1_method_3_code
def y_SF_address : MethodName := ⟨"SealedFiles", "address", "(I)I"⟩
abbrev k_SF_address : Cond := .code y_SF_address b_SF_address 2 (some .int)
set_option maxRecDepth 20000 in
theorem zk_SF_address : k_SF_address ∈ zg := zg_in 99 rfl rfl
abbrev b_SF_agreed : ByteArray := prog_1_method_28_code
def y_SF_agreed : MethodName := ⟨"SealedFiles", "agreed", "(II)I"⟩
abbrev k_SF_agreed : Cond := .code y_SF_agreed b_SF_agreed 3 (some .int)
set_option maxRecDepth 20000 in
theorem zk_SF_agreed : k_SF_agreed ∈ zg := zg_in 446 rfl rfl
abbrev b_SF_alter : ByteArray := prog_1_method_12_code
def y_SF_alter : MethodName := ⟨"SealedFiles", "alter", "(II)I"⟩
abbrev k_SF_alter : Cond := .code y_SF_alter b_SF_alter 3 (some .int)
set_option maxRecDepth 20000 in
theorem zk_SF_alter : k_SF_alter ∈ zg := zg_in 493 rfl rfl
abbrev b_SF_appendEntry : ByteArray := prog_1_method_19_code
def y_SF_appendEntry : MethodName := ⟨"SealedFiles", "appendEntry", "(III)V"⟩
abbrev k_SF_appendEntry : Cond := .code y_SF_appendEntry b_SF_appendEntry 7 none
set_option maxRecDepth 20000 in
theorem zk_SF_appendEntry : k_SF_appendEntry ∈ zg := zg_in 388 rfl rfl
abbrev b_SF_appendPieces : ByteArray := prog_1_method_24_code
def y_SF_appendPieces : MethodName := ⟨"SealedFiles", "appendPieces", "(I)V"⟩
abbrev k_SF_appendPieces : Cond := .code y_SF_appendPieces b_SF_appendPieces 8 none
set_option maxRecDepth 20000 in
theorem zk_SF_appendPieces : k_SF_appendPieces ∈ zg := zg_in 413 rfl rfl
abbrev b_SF_areReceivers : ByteArray := prog_1_method_17_code
def y_SF_areReceivers : MethodName := ⟨"SealedFiles", "areReceivers", "(I)Z"⟩
abbrev k_SF_areReceivers : Cond := .code y_SF_areReceivers b_SF_areReceivers 3 (some .boolean)
set_option maxRecDepth 20000 in
theorem zk_SF_areReceivers : k_SF_areReceivers ∈ zg := zg_in 366 rfl rfl
abbrev b_SF_at : ByteArray := prog_1_method_11_code
def y_SF_at : MethodName := ⟨"SealedFiles", "at", "(I)I"⟩
abbrev k_SF_at : Cond := .code y_SF_at b_SF_at 2 (some .int)
set_option maxRecDepth 20000 in
theorem zk_SF_at : k_SF_at ∈ zg := zg_in 139 rfl rfl
abbrev b_SF_clear : ByteArray := prog_1_method_5_code
def y_SF_clear : MethodName := ⟨"SealedFiles", "clear", "()I"⟩
abbrev k_SF_clear : Cond := .code y_SF_clear b_SF_clear 2 (some .int)
set_option maxRecDepth 20000 in
theorem zk_SF_clear : k_SF_clear ∈ zg := zg_in 119 rfl rfl
abbrev b_SF_count : ByteArray := prog_1_method_10_code
def y_SF_count : MethodName := ⟨"SealedFiles", "count", "(I)I"⟩
abbrev k_SF_count : Cond := .code y_SF_count b_SF_count 2 (some .int)
set_option maxRecDepth 20000 in
theorem zk_SF_count : k_SF_count ∈ zg := zg_in 135 rfl rfl
abbrev b_SF_covered : ByteArray := prog_1_method_23_code
def y_SF_covered : MethodName := ⟨"SealedFiles", "covered", "(IIII)I"⟩
abbrev k_SF_covered : Cond := .code y_SF_covered b_SF_covered 4 (some .int)
set_option maxRecDepth 20000 in
theorem zk_SF_covered : k_SF_covered ∈ zg := zg_in 418 rfl rfl
abbrev b_SF_cut : ByteArray := prog_1_method_13_code
def y_SF_cut : MethodName := ⟨"SealedFiles", "cut", "(I)Z"⟩
abbrev k_SF_cut : Cond := .code y_SF_cut b_SF_cut 2 (some .boolean)
set_option maxRecDepth 20000 in
theorem zk_SF_cut : k_SF_cut ∈ zg := zg_in 143 rfl rfl
abbrev b_SF_draftBytes : ByteArray := prog_1_method_32_code
def y_SF_draftBytes : MethodName := ⟨"SealedFiles", "draftBytes", "()I"⟩
abbrev k_SF_draftBytes : Cond := .code y_SF_draftBytes b_SF_draftBytes 1 (some .int)
set_option maxRecDepth 20000 in
theorem zk_SF_draftBytes : k_SF_draftBytes ∈ zg := zg_in 513 rfl rfl
abbrev b_SF_draftIsPrintedForm : ByteArray := prog_1_method_33_code
def y_SF_draftIsPrintedForm : MethodName := ⟨"SealedFiles", "draftIsPrintedForm", "()Z"⟩
abbrev k_SF_draftIsPrintedForm : Cond := .code y_SF_draftIsPrintedForm b_SF_draftIsPrintedForm 3 (some .boolean)
set_option maxRecDepth 20000 in
theorem zk_SF_draftIsPrintedForm : k_SF_draftIsPrintedForm ∈ zg := zg_in 509 rfl rfl
abbrev b_SF_entriesEnd : ByteArray := prog_1_method_25_code
def y_SF_entriesEnd : MethodName := ⟨"SealedFiles", "entriesEnd", "()I"⟩
abbrev k_SF_entriesEnd : Cond := .code y_SF_entriesEnd b_SF_entriesEnd 1 (some .int)
set_option maxRecDepth 20000 in
theorem zk_SF_entriesEnd : k_SF_entriesEnd ∈ zg := zg_in 438 rfl rfl
abbrev b_SF_entryFor : ByteArray := prog_1_method_27_code
def y_SF_entryFor : MethodName := ⟨"SealedFiles", "entryFor", "(I)I"⟩
abbrev k_SF_entryFor : Cond := .code y_SF_entryFor b_SF_entryFor 6 (some .int)
set_option maxRecDepth 20000 in
theorem zk_SF_entryFor : k_SF_entryFor ∈ zg := zg_in 442 rfl rfl
abbrev b_SF_entrySign : ByteArray := prog_1_method_20_code
def y_SF_entrySign : MethodName := ⟨"SealedFiles", "entrySign", "(III)I"⟩
abbrev k_SF_entrySign : Cond := .code y_SF_entrySign b_SF_entrySign 4 (some .int)
set_option maxRecDepth 20000 in
theorem zk_SF_entrySign : k_SF_entrySign ∈ zg := zg_in 398 rfl rfl
abbrev b_SF_exponent : ByteArray := prog_1_method_18_code
def y_SF_exponent : MethodName := ⟨"SealedFiles", "exponent", "(III)I"⟩
abbrev k_SF_exponent : Cond := .code y_SF_exponent b_SF_exponent 3 (some .int)
set_option maxRecDepth 20000 in
theorem zk_SF_exponent : k_SF_exponent ∈ zg := zg_in 376 rfl rfl
abbrev b_SF_hasShape : ByteArray := prog_1_method_26_code
def y_SF_hasShape : MethodName := ⟨"SealedFiles", "hasShape", "()Z"⟩
abbrev k_SF_hasShape : Cond := .code y_SF_hasShape b_SF_hasShape 1 (some .boolean)
set_option maxRecDepth 20000 in
theorem zk_SF_hasShape : k_SF_hasShape ∈ zg := zg_in 434 rfl rfl
abbrev b_SF_headSign : ByteArray := prog_1_method_21_code
def y_SF_headSign : MethodName := ⟨"SealedFiles", "headSign", "(II)I"⟩
abbrev k_SF_headSign : Cond := .code y_SF_headSign b_SF_headSign 3 (some .int)
set_option maxRecDepth 20000 in
theorem zk_SF_headSign : k_SF_headSign ∈ zg := zg_in 409 rfl rfl
abbrev b_SF_init : ByteArray := prog_1_method_1_code
def y_SF_init : MethodName := ⟨"SealedFiles", "<init>", "()V"⟩
abbrev k_SF_init : Cond := .code y_SF_init b_SF_init 1 none
set_option maxRecDepth 20000 in
theorem zk_SF_init : k_SF_init ∈ zg := zg_in 59 rfl rfl
abbrev b_SF_key : ByteArray := prog_1_method_2_code
def y_SF_key : MethodName := ⟨"SealedFiles", "key", "(I)I"⟩
abbrev k_SF_key : Cond := .code y_SF_key b_SF_key 2 (some .int)
set_option maxRecDepth 20000 in
theorem zk_SF_key : k_SF_key ∈ zg := zg_in 269 rfl rfl
abbrev b_SF_load : ByteArray := prog_1_method_16_code
def y_SF_load : MethodName := ⟨"SealedFiles", "load", "()I"⟩
abbrev k_SF_load : Cond := .code y_SF_load b_SF_load 2 (some .int)
set_option maxRecDepth 20000 in
theorem zk_SF_load : k_SF_load ∈ zg := zg_in 505 rfl rfl
abbrev b_SF_open : ByteArray := prog_1_method_7_code
def y_SF_open : MethodName := ⟨"SealedFiles", "open", "(I)I"⟩
abbrev k_SF_open : Cond := .code y_SF_open b_SF_open 5 (some .int)
set_option maxRecDepth 20000 in
theorem zk_SF_open : k_SF_open ∈ zg := zg_in 429 rfl rfl
abbrev b_SF_pieceSign : ByteArray := prog_1_method_22_code
def y_SF_pieceSign : MethodName := ⟨"SealedFiles", "pieceSign", "(IIIIZ)I"⟩
abbrev k_SF_pieceSign : Cond := .code y_SF_pieceSign b_SF_pieceSign 7 (some .int)
set_option maxRecDepth 20000 in
theorem zk_SF_pieceSign : k_SF_pieceSign ∈ zg := zg_in 422 rfl rfl
abbrev b_SF_pieces : ByteArray := prog_1_method_8_code
def y_SF_pieces : MethodName := ⟨"SealedFiles", "pieces", "()I"⟩
abbrev k_SF_pieces : Cond := .code y_SF_pieces b_SF_pieces 1 (some .int)
set_option maxRecDepth 20000 in
theorem zk_SF_pieces : k_SF_pieces ∈ zg := zg_in 131 rfl rfl
abbrev b_SF_print : ByteArray := prog_1_method_14_code
def y_SF_print : MethodName := ⟨"SealedFiles", "print", "(I)I"⟩
abbrev k_SF_print : Cond := .code y_SF_print b_SF_print 7 (some .int)
set_option maxRecDepth 20000 in
theorem zk_SF_print : k_SF_print ∈ zg := zg_in 147 rfl rfl
abbrev b_SF_put : ByteArray := prog_1_method_4_code
def y_SF_put : MethodName := ⟨"SealedFiles", "put", "(I)Z"⟩
abbrev k_SF_put : Cond := .code y_SF_put b_SF_put 2 (some .boolean)
set_option maxRecDepth 20000 in
theorem zk_SF_put : k_SF_put ∈ zg := zg_in 111 rfl rfl
abbrev b_SF_read : ByteArray := prog_1_method_9_code
def y_SF_read : MethodName := ⟨"SealedFiles", "read", "(I)I"⟩
abbrev k_SF_read : Cond := .code y_SF_read b_SF_read 2 (some .int)
set_option maxRecDepth 20000 in
theorem zk_SF_read : k_SF_read ∈ zg := zg_in 470 rfl rfl
abbrev b_SF_seal : ByteArray := prog_1_method_6_code
def y_SF_seal : MethodName := ⟨"SealedFiles", "seal", "(III)I"⟩
abbrev k_SF_seal : Cond := .code y_SF_seal b_SF_seal 5 (some .int)
set_option maxRecDepth 20000 in
theorem zk_SF_seal : k_SF_seal ∈ zg := zg_in 362 rfl rfl
abbrev b_SF_takeDraft : ByteArray := prog_1_method_34_code
def y_SF_takeDraft : MethodName := ⟨"SealedFiles", "takeDraft", "()V"⟩
abbrev k_SF_takeDraft : Cond := .code y_SF_takeDraft b_SF_takeDraft 6 none
set_option maxRecDepth 20000 in
theorem zk_SF_takeDraft : k_SF_takeDraft ∈ zg := zg_in 517 rfl rfl
abbrev b_SF_takePieces : ByteArray := prog_1_method_30_code
def y_SF_takePieces : MethodName := ⟨"SealedFiles", "takePieces", "(II)I"⟩
abbrev k_SF_takePieces : Cond := .code y_SF_takePieces b_SF_takePieces 10 (some .int)
set_option maxRecDepth 20000 in
theorem zk_SF_takePieces : k_SF_takePieces ∈ zg := zg_in 458 rfl rfl
abbrev b_SF_uncover : ByteArray := prog_1_method_31_code
def y_SF_uncover : MethodName := ⟨"SealedFiles", "uncover", "(IIII)V"⟩
abbrev k_SF_uncover : Cond := .code y_SF_uncover b_SF_uncover 6 none
set_option maxRecDepth 20000 in
theorem zk_SF_uncover : k_SF_uncover ∈ zg := zg_in 462 rfl rfl
abbrev b_SF_unwrapped : ByteArray := prog_1_method_29_code
def y_SF_unwrapped : MethodName := ⟨"SealedFiles", "unwrapped", "(II)I"⟩
abbrev k_SF_unwrapped : Cond := .code y_SF_unwrapped b_SF_unwrapped 4 (some .int)
set_option maxRecDepth 20000 in
theorem zk_SF_unwrapped : k_SF_unwrapped ∈ zg := zg_in 454 rfl rfl
abbrev b_SF_write : ByteArray := prog_1_method_15_code
def y_SF_write : MethodName := ⟨"SealedFiles", "write", "(C)Z"⟩
abbrev k_SF_write : Cond := .code y_SF_write b_SF_write 3 (some .boolean)
set_option maxRecDepth 20000 in
theorem zk_SF_write : k_SF_write ∈ zg := zg_in 194 rfl rfl
end
section
theorem d_NU_mix_0 : decode b_NU_mix 0 = .ok (.iload_n 0, 1) := by decide +kernel
theorem d_NU_mix_1 : decode b_NU_mix 1 = .ok (.iload_n 0, 1) := by decide +kernel
theorem d_NU_mix_2 : decode b_NU_mix 2 = .ok (.bipush 16, 2) := by decide +kernel
theorem d_NU_mix_4 : decode b_NU_mix 4 = .ok (.iushr, 1) := by decide +kernel
theorem d_NU_mix_5 : decode b_NU_mix 5 = .ok (.ixor, 1) := by decide +kernel
theorem d_NU_mix_6 : decode b_NU_mix 6 = .ok (.ldc 9, 2) := by decide +kernel
theorem d_NU_mix_8 : decode b_NU_mix 8 = .ok (.imul, 1) := by decide +kernel
theorem d_NU_mix_9 : decode b_NU_mix 9 = .ok (.istore_n 1, 1) := by decide +kernel
theorem d_NU_mix_10 : decode b_NU_mix 10 = .ok (.iload_n 1, 1) := by decide +kernel
theorem d_NU_mix_11 : decode b_NU_mix 11 = .ok (.iload_n 1, 1) := by decide +kernel
theorem d_NU_mix_12 : decode b_NU_mix 12 = .ok (.bipush 15, 2) := by decide +kernel
theorem d_NU_mix_14 : decode b_NU_mix 14 = .ok (.iushr, 1) := by decide +kernel
theorem d_NU_mix_15 : decode b_NU_mix 15 = .ok (.ixor, 1) := by decide +kernel
theorem d_NU_mix_16 : decode b_NU_mix 16 = .ok (.ldc 10, 2) := by decide +kernel
theorem d_NU_mix_18 : decode b_NU_mix 18 = .ok (.imul, 1) := by decide +kernel
theorem d_NU_mix_19 : decode b_NU_mix 19 = .ok (.istore_n 2, 1) := by decide +kernel
theorem d_NU_mix_20 : decode b_NU_mix 20 = .ok (.iload_n 2, 1) := by decide +kernel
theorem d_NU_mix_21 : decode b_NU_mix 21 = .ok (.iload_n 2, 1) := by decide +kernel
theorem d_NU_mix_22 : decode b_NU_mix 22 = .ok (.bipush 16, 2) := by decide +kernel
theorem d_NU_mix_24 : decode b_NU_mix 24 = .ok (.iushr, 1) := by decide +kernel
theorem d_NU_mix_25 : decode b_NU_mix 25 = .ok (.ixor, 1) := by decide +kernel
theorem d_NU_mix_26 : decode b_NU_mix 26 = .ok (.ireturn, 1) := by decide +kernel
theorem d_NU_power_0 : decode b_NU_power 0 = .ok (.iload_n 0, 1) := by decide +kernel
theorem d_NU_power_1 : decode b_NU_power 1 = .ok (.sipush 32749, 3) := by decide +kernel
theorem d_NU_power_4 : decode b_NU_power 4 = .ok (.irem, 1) := by decide +kernel
theorem d_NU_power_5 : decode b_NU_power 5 = .ok (.istore_n 2, 1) := by decide +kernel
theorem d_NU_power_6 : decode b_NU_power 6 = .ok (.iconst 1, 1) := by decide +kernel
theorem d_NU_power_7 : decode b_NU_power 7 = .ok (.istore_n 3, 1) := by decide +kernel
theorem d_NU_power_8 : decode b_NU_power 8 = .ok (.iconst 0, 1) := by decide +kernel
theorem d_NU_power_9 : decode b_NU_power 9 = .ok (.istore 4, 2) := by decide +kernel
theorem d_NU_power_11 : decode b_NU_power 11 = .ok (.iload 4, 2) := by decide +kernel
theorem d_NU_power_13 : decode b_NU_power 13 = .ok (.bipush 15, 2) := by decide +kernel
theorem d_NU_power_15 : decode b_NU_power 15 = .ok (.if_icmp .ge 35, 3) := by decide +kernel
theorem d_NU_power_18 : decode b_NU_power 18 = .ok (.iload_n 1, 1) := by decide +kernel
theorem d_NU_power_19 : decode b_NU_power 19 = .ok (.iload 4, 2) := by decide +kernel
theorem d_NU_power_21 : decode b_NU_power 21 = .ok (.iushr, 1) := by decide +kernel
theorem d_NU_power_22 : decode b_NU_power 22 = .ok (.iconst 1, 1) := by decide +kernel
theorem d_NU_power_23 : decode b_NU_power 23 = .ok (.iand, 1) := by decide +kernel
theorem d_NU_power_24 : decode b_NU_power 24 = .ok (.iconst 1, 1) := by decide +kernel
theorem d_NU_power_25 : decode b_NU_power 25 = .ok (.if_icmp .ne 11, 3) := by decide +kernel
theorem d_NU_power_28 : decode b_NU_power 28 = .ok (.iload_n 3, 1) := by decide +kernel
theorem d_NU_power_29 : decode b_NU_power 29 = .ok (.iload_n 2, 1) := by decide +kernel
theorem d_NU_power_30 : decode b_NU_power 30 = .ok (.imul, 1) := by decide +kernel
theorem d_NU_power_31 : decode b_NU_power 31 = .ok (.sipush 32749, 3) := by decide +kernel
theorem d_NU_power_34 : decode b_NU_power 34 = .ok (.irem, 1) := by decide +kernel
theorem d_NU_power_35 : decode b_NU_power 35 = .ok (.istore_n 3, 1) := by decide +kernel
theorem d_NU_power_36 : decode b_NU_power 36 = .ok (.iload_n 2, 1) := by decide +kernel
theorem d_NU_power_37 : decode b_NU_power 37 = .ok (.iload_n 2, 1) := by decide +kernel
theorem d_NU_power_38 : decode b_NU_power 38 = .ok (.imul, 1) := by decide +kernel
theorem d_NU_power_39 : decode b_NU_power 39 = .ok (.sipush 32749, 3) := by decide +kernel
theorem d_NU_power_42 : decode b_NU_power 42 = .ok (.irem, 1) := by decide +kernel
theorem d_NU_power_43 : decode b_NU_power 43 = .ok (.istore_n 2, 1) := by decide +kernel
theorem d_NU_power_44 : decode b_NU_power 44 = .ok (.iinc 4 1, 3) := by decide +kernel
theorem d_NU_power_47 : decode b_NU_power 47 = .ok (.goto (-36), 3) := by decide +kernel
theorem d_NU_power_50 : decode b_NU_power 50 = .ok (.iload_n 3, 1) := by decide +kernel
theorem d_NU_power_51 : decode b_NU_power 51 = .ok (.ireturn, 1) := by decide +kernel
theorem d_NU_word_0 : decode b_NU_word 0 = .ok (.iload_n 0, 1) := by decide +kernel
theorem d_NU_word_1 : decode b_NU_word 1 = .ok (.invokestatic 11, 3) := by decide +kernel
theorem d_NU_word_4 : decode b_NU_word 4 = .ok (.iload_n 1, 1) := by decide +kernel
theorem d_NU_word_5 : decode b_NU_word 5 = .ok (.iadd, 1) := by decide +kernel
theorem d_NU_word_6 : decode b_NU_word 6 = .ok (.invokestatic 11, 3) := by decide +kernel
theorem d_NU_word_9 : decode b_NU_word 9 = .ok (.iload_n 2, 1) := by decide +kernel
theorem d_NU_word_10 : decode b_NU_word 10 = .ok (.iadd, 1) := by decide +kernel
theorem d_NU_word_11 : decode b_NU_word 11 = .ok (.invokestatic 11, 3) := by decide +kernel
theorem d_NU_word_14 : decode b_NU_word 14 = .ok (.ireturn, 1) := by decide +kernel
theorem d_RW_append_0 : decode b_RW_append 0 = .ok (.aload_n 0, 1) := by decide +kernel
theorem d_RW_append_1 : decode b_RW_append 1 = .ok (.getfield 13, 3) := by decide +kernel
theorem d_RW_append_4 : decode b_RW_append 4 = .ok (.aload_n 0, 1) := by decide +kernel
theorem d_RW_append_5 : decode b_RW_append 5 = .ok (.getfield 7, 3) := by decide +kernel
theorem d_RW_append_8 : decode b_RW_append 8 = .ok (.arraylength, 1) := by decide +kernel
theorem d_RW_append_9 : decode b_RW_append 9 = .ok (.if_icmp .lt 5, 3) := by decide +kernel
theorem d_RW_append_12 : decode b_RW_append 12 = .ok (.iconst 0, 1) := by decide +kernel
theorem d_RW_append_13 : decode b_RW_append 13 = .ok (.ireturn, 1) := by decide +kernel
theorem d_RW_append_14 : decode b_RW_append 14 = .ok (.aload_n 0, 1) := by decide +kernel
theorem d_RW_append_15 : decode b_RW_append 15 = .ok (.getfield 7, 3) := by decide +kernel
theorem d_RW_append_18 : decode b_RW_append 18 = .ok (.aload_n 0, 1) := by decide +kernel
theorem d_RW_append_19 : decode b_RW_append 19 = .ok (.getfield 13, 3) := by decide +kernel
theorem d_RW_append_22 : decode b_RW_append 22 = .ok (.iload_n 1, 1) := by decide +kernel
theorem d_RW_append_23 : decode b_RW_append 23 = .ok (.iastore, 1) := by decide +kernel
theorem d_RW_append_24 : decode b_RW_append 24 = .ok (.aload_n 0, 1) := by decide +kernel
theorem d_RW_append_25 : decode b_RW_append 25 = .ok (.dup, 1) := by decide +kernel
theorem d_RW_append_26 : decode b_RW_append 26 = .ok (.getfield 13, 3) := by decide +kernel
theorem d_RW_append_29 : decode b_RW_append 29 = .ok (.iconst 1, 1) := by decide +kernel
theorem d_RW_append_30 : decode b_RW_append 30 = .ok (.iadd, 1) := by decide +kernel
theorem d_RW_append_31 : decode b_RW_append 31 = .ok (.putfield 13, 3) := by decide +kernel
theorem d_RW_append_34 : decode b_RW_append 34 = .ok (.iconst 1, 1) := by decide +kernel
theorem d_RW_append_35 : decode b_RW_append 35 = .ok (.ireturn, 1) := by decide +kernel
theorem d_RW_appendPair_0 : decode b_RW_appendPair 0 = .ok (.aload_n 0, 1) := by decide +kernel
theorem d_RW_appendPair_1 : decode b_RW_appendPair 1 = .ok (.iload_n 1, 1) := by decide +kernel
theorem d_RW_appendPair_2 : decode b_RW_appendPair 2 = .ok (.bipush 8, 2) := by decide +kernel
theorem d_RW_appendPair_4 : decode b_RW_appendPair 4 = .ok (.iushr, 1) := by decide +kernel
theorem d_RW_appendPair_5 : decode b_RW_appendPair 5 = .ok (.invokevirtual 21, 3) := by decide +kernel
theorem d_RW_appendPair_8 : decode b_RW_appendPair 8 = .ok (.pop, 1) := by decide +kernel
theorem d_RW_appendPair_9 : decode b_RW_appendPair 9 = .ok (.aload_n 0, 1) := by decide +kernel
theorem d_RW_appendPair_10 : decode b_RW_appendPair 10 = .ok (.iload_n 1, 1) := by decide +kernel
theorem d_RW_appendPair_11 : decode b_RW_appendPair 11 = .ok (.sipush 255, 3) := by decide +kernel
theorem d_RW_appendPair_14 : decode b_RW_appendPair 14 = .ok (.iand, 1) := by decide +kernel
theorem d_RW_appendPair_15 : decode b_RW_appendPair 15 = .ok (.invokevirtual 21, 3) := by decide +kernel
theorem d_RW_appendPair_18 : decode b_RW_appendPair 18 = .ok (.pop, 1) := by decide +kernel
theorem d_RW_appendPair_19 : decode b_RW_appendPair 19 = .ok (.return_, 1) := by decide +kernel
theorem d_RW_has_0 : decode b_RW_has 0 = .ok (.iload_n 1, 1) := by decide +kernel
theorem d_RW_has_1 : decode b_RW_has 1 = .ok (.ifCond .lt 15, 3) := by decide +kernel
theorem d_RW_has_4 : decode b_RW_has 4 = .ok (.iload_n 1, 1) := by decide +kernel
theorem d_RW_has_5 : decode b_RW_has 5 = .ok (.aload_n 0, 1) := by decide +kernel
theorem d_RW_has_6 : decode b_RW_has 6 = .ok (.getfield 13, 3) := by decide +kernel
theorem d_RW_has_9 : decode b_RW_has 9 = .ok (.if_icmp .ge 7, 3) := by decide +kernel
theorem d_RW_has_12 : decode b_RW_has 12 = .ok (.iconst 1, 1) := by decide +kernel
theorem d_RW_has_13 : decode b_RW_has 13 = .ok (.goto 4, 3) := by decide +kernel
theorem d_RW_has_16 : decode b_RW_has 16 = .ok (.iconst 0, 1) := by decide +kernel
theorem d_RW_has_17 : decode b_RW_has 17 = .ok (.ireturn, 1) := by decide +kernel
theorem d_RW_init_0 : decode b_RW_init 0 = .ok (.aload_n 0, 1) := by decide +kernel
theorem d_RW_init_1 : decode b_RW_init 1 = .ok (.invokespecial 1, 3) := by decide +kernel
theorem d_RW_init_4 : decode b_RW_init 4 = .ok (.aload_n 0, 1) := by decide +kernel
theorem d_RW_init_5 : decode b_RW_init 5 = .ok (.iload_n 1, 1) := by decide +kernel
theorem d_RW_init_6 : decode b_RW_init 6 = .ok (.newarray .int, 2) := by decide +kernel
theorem d_RW_init_8 : decode b_RW_init 8 = .ok (.putfield 7, 3) := by decide +kernel
theorem d_RW_init_11 : decode b_RW_init 11 = .ok (.aload_n 0, 1) := by decide +kernel
theorem d_RW_init_12 : decode b_RW_init 12 = .ok (.iconst 0, 1) := by decide +kernel
theorem d_RW_init_13 : decode b_RW_init 13 = .ok (.putfield 13, 3) := by decide +kernel
theorem d_RW_init_16 : decode b_RW_init 16 = .ok (.return_, 1) := by decide +kernel
theorem d_RW_item_0 : decode b_RW_item 0 = .ok (.aload_n 0, 1) := by decide +kernel
theorem d_RW_item_1 : decode b_RW_item 1 = .ok (.iload_n 1, 1) := by decide +kernel
theorem d_RW_item_2 : decode b_RW_item 2 = .ok (.invokevirtual 17, 3) := by decide +kernel
theorem d_RW_item_5 : decode b_RW_item 5 = .ok (.ifCond .eq 12, 3) := by decide +kernel
theorem d_RW_item_8 : decode b_RW_item 8 = .ok (.aload_n 0, 1) := by decide +kernel
theorem d_RW_item_9 : decode b_RW_item 9 = .ok (.getfield 7, 3) := by decide +kernel
theorem d_RW_item_12 : decode b_RW_item 12 = .ok (.iload_n 1, 1) := by decide +kernel
theorem d_RW_item_13 : decode b_RW_item 13 = .ok (.iaload, 1) := by decide +kernel
theorem d_RW_item_14 : decode b_RW_item 14 = .ok (.goto 4, 3) := by decide +kernel
theorem d_RW_item_17 : decode b_RW_item 17 = .ok (.iconst (-1), 1) := by decide +kernel
theorem d_RW_item_18 : decode b_RW_item 18 = .ok (.ireturn, 1) := by decide +kernel
theorem d_RW_pair_0 : decode b_RW_pair 0 = .ok (.aload_n 0, 1) := by decide +kernel
theorem d_RW_pair_1 : decode b_RW_pair 1 = .ok (.iload_n 1, 1) := by decide +kernel
theorem d_RW_pair_2 : decode b_RW_pair 2 = .ok (.invokevirtual 24, 3) := by decide +kernel
theorem d_RW_pair_5 : decode b_RW_pair 5 = .ok (.bipush 8, 2) := by decide +kernel
theorem d_RW_pair_7 : decode b_RW_pair 7 = .ok (.ishl, 1) := by decide +kernel
theorem d_RW_pair_8 : decode b_RW_pair 8 = .ok (.aload_n 0, 1) := by decide +kernel
theorem d_RW_pair_9 : decode b_RW_pair 9 = .ok (.iload_n 1, 1) := by decide +kernel
theorem d_RW_pair_10 : decode b_RW_pair 10 = .ok (.iconst 1, 1) := by decide +kernel
theorem d_RW_pair_11 : decode b_RW_pair 11 = .ok (.iadd, 1) := by decide +kernel
theorem d_RW_pair_12 : decode b_RW_pair 12 = .ok (.invokevirtual 24, 3) := by decide +kernel
theorem d_RW_pair_15 : decode b_RW_pair 15 = .ok (.ior, 1) := by decide +kernel
theorem d_RW_pair_16 : decode b_RW_pair 16 = .ok (.ireturn, 1) := by decide +kernel
theorem d_RW_replace_0 : decode b_RW_replace 0 = .ok (.aload_n 0, 1) := by decide +kernel
theorem d_RW_replace_1 : decode b_RW_replace 1 = .ok (.iload_n 1, 1) := by decide +kernel
theorem d_RW_replace_2 : decode b_RW_replace 2 = .ok (.invokevirtual 17, 3) := by decide +kernel
theorem d_RW_replace_5 : decode b_RW_replace 5 = .ok (.ifCond .eq 10, 3) := by decide +kernel
theorem d_RW_replace_8 : decode b_RW_replace 8 = .ok (.aload_n 0, 1) := by decide +kernel
theorem d_RW_replace_9 : decode b_RW_replace 9 = .ok (.getfield 7, 3) := by decide +kernel
theorem d_RW_replace_12 : decode b_RW_replace 12 = .ok (.iload_n 1, 1) := by decide +kernel
theorem d_RW_replace_13 : decode b_RW_replace 13 = .ok (.iload_n 2, 1) := by decide +kernel
theorem d_RW_replace_14 : decode b_RW_replace 14 = .ok (.iastore, 1) := by decide +kernel
theorem d_RW_replace_15 : decode b_RW_replace 15 = .ok (.return_, 1) := by decide +kernel
theorem d_RW_shorten_0 : decode b_RW_shorten 0 = .ok (.iload_n 1, 1) := by decide +kernel
theorem d_RW_shorten_1 : decode b_RW_shorten 1 = .ok (.ifCond .lt 11, 3) := by decide +kernel
theorem d_RW_shorten_4 : decode b_RW_shorten 4 = .ok (.iload_n 1, 1) := by decide +kernel
theorem d_RW_shorten_5 : decode b_RW_shorten 5 = .ok (.aload_n 0, 1) := by decide +kernel
theorem d_RW_shorten_6 : decode b_RW_shorten 6 = .ok (.getfield 13, 3) := by decide +kernel
theorem d_RW_shorten_9 : decode b_RW_shorten 9 = .ok (.if_icmp .lt 5, 3) := by decide +kernel
theorem d_RW_shorten_12 : decode b_RW_shorten 12 = .ok (.iconst 0, 1) := by decide +kernel
theorem d_RW_shorten_13 : decode b_RW_shorten 13 = .ok (.ireturn, 1) := by decide +kernel
theorem d_RW_shorten_14 : decode b_RW_shorten 14 = .ok (.aload_n 0, 1) := by decide +kernel
theorem d_RW_shorten_15 : decode b_RW_shorten 15 = .ok (.iload_n 1, 1) := by decide +kernel
theorem d_RW_shorten_16 : decode b_RW_shorten 16 = .ok (.putfield 13, 3) := by decide +kernel
theorem d_RW_shorten_19 : decode b_RW_shorten 19 = .ok (.iconst 1, 1) := by decide +kernel
theorem d_RW_shorten_20 : decode b_RW_shorten 20 = .ok (.ireturn, 1) := by decide +kernel
theorem d_RW_sign_0 : decode b_RW_sign 0 = .ok (.iconst 1, 1) := by decide +kernel
theorem d_RW_sign_1 : decode b_RW_sign 1 = .ok (.iload_n 3, 1) := by decide +kernel
theorem d_RW_sign_2 : decode b_RW_sign 2 = .ok (.bipush 8, 2) := by decide +kernel
theorem d_RW_sign_4 : decode b_RW_sign 4 = .ok (.iushr, 1) := by decide +kernel
theorem d_RW_sign_5 : decode b_RW_sign 5 = .ok (.ldc 28, 2) := by decide +kernel
theorem d_RW_sign_7 : decode b_RW_sign 7 = .ok (.irem, 1) := by decide +kernel
theorem d_RW_sign_8 : decode b_RW_sign 8 = .ok (.iadd, 1) := by decide +kernel
theorem d_RW_sign_9 : decode b_RW_sign 9 = .ok (.i2l, 1) := by decide +kernel
theorem d_RW_sign_10 : decode b_RW_sign 10 = .ok (.lstore 4, 2) := by decide +kernel
theorem d_RW_sign_12 : decode b_RW_sign 12 = .ok (.lconst 0, 1) := by decide +kernel
theorem d_RW_sign_13 : decode b_RW_sign 13 = .ok (.lstore 6, 2) := by decide +kernel
theorem d_RW_sign_15 : decode b_RW_sign 15 = .ok (.iload_n 1, 1) := by decide +kernel
theorem d_RW_sign_16 : decode b_RW_sign 16 = .ok (.istore 8, 2) := by decide +kernel
theorem d_RW_sign_18 : decode b_RW_sign 18 = .ok (.iload 8, 2) := by decide +kernel
theorem d_RW_sign_20 : decode b_RW_sign 20 = .ok (.iload_n 2, 1) := by decide +kernel
theorem d_RW_sign_21 : decode b_RW_sign 21 = .ok (.if_icmp .ge 30, 3) := by decide +kernel
theorem d_RW_sign_24 : decode b_RW_sign 24 = .ok (.lload 6, 2) := by decide +kernel
theorem d_RW_sign_26 : decode b_RW_sign 26 = .ok (.aload_n 0, 1) := by decide +kernel
theorem d_RW_sign_27 : decode b_RW_sign 27 = .ok (.iload 8, 2) := by decide +kernel
theorem d_RW_sign_29 : decode b_RW_sign 29 = .ok (.invokevirtual 24, 3) := by decide +kernel
theorem d_RW_sign_32 : decode b_RW_sign 32 = .ok (.i2l, 1) := by decide +kernel
theorem d_RW_sign_33 : decode b_RW_sign 33 = .ok (.ladd, 1) := by decide +kernel
theorem d_RW_sign_34 : decode b_RW_sign 34 = .ok (.lconst 1, 1) := by decide +kernel
theorem d_RW_sign_35 : decode b_RW_sign 35 = .ok (.ladd, 1) := by decide +kernel
theorem d_RW_sign_36 : decode b_RW_sign 36 = .ok (.lload 4, 2) := by decide +kernel
theorem d_RW_sign_38 : decode b_RW_sign 38 = .ok (.lmul, 1) := by decide +kernel
theorem d_RW_sign_39 : decode b_RW_sign 39 = .ok (.ldc2_w 29, 3) := by decide +kernel
theorem d_RW_sign_42 : decode b_RW_sign 42 = .ok (.lrem, 1) := by decide +kernel
theorem d_RW_sign_43 : decode b_RW_sign 43 = .ok (.lstore 6, 2) := by decide +kernel
theorem d_RW_sign_45 : decode b_RW_sign 45 = .ok (.iinc 8 1, 3) := by decide +kernel
theorem d_RW_sign_48 : decode b_RW_sign 48 = .ok (.goto (-30), 3) := by decide +kernel
theorem d_RW_sign_51 : decode b_RW_sign 51 = .ok (.lload 6, 2) := by decide +kernel
theorem d_RW_sign_53 : decode b_RW_sign 53 = .ok (.iload_n 3, 1) := by decide +kernel
theorem d_RW_sign_54 : decode b_RW_sign 54 = .ok (.sipush 255, 3) := by decide +kernel
theorem d_RW_sign_57 : decode b_RW_sign 57 = .ok (.iand, 1) := by decide +kernel
theorem d_RW_sign_58 : decode b_RW_sign 58 = .ok (.i2l, 1) := by decide +kernel
theorem d_RW_sign_59 : decode b_RW_sign 59 = .ok (.ladd, 1) := by decide +kernel
theorem d_RW_sign_60 : decode b_RW_sign 60 = .ok (.ldc2_w 29, 3) := by decide +kernel
theorem d_RW_sign_63 : decode b_RW_sign 63 = .ok (.lrem, 1) := by decide +kernel
theorem d_RW_sign_64 : decode b_RW_sign 64 = .ok (.l2i, 1) := by decide +kernel
theorem d_RW_sign_65 : decode b_RW_sign 65 = .ok (.ireturn, 1) := by decide +kernel
theorem d_RW_size_0 : decode b_RW_size 0 = .ok (.aload_n 0, 1) := by decide +kernel
theorem d_RW_size_1 : decode b_RW_size 1 = .ok (.getfield 13, 3) := by decide +kernel
theorem d_RW_size_4 : decode b_RW_size 4 = .ok (.ireturn, 1) := by decide +kernel
end
section
theorem d_SF_address_0 : decode b_SF_address 0 = .ok (.aload_n 0, 1) := by decide +kernel
theorem d_SF_address_1 : decode b_SF_address 1 = .ok (.getfield 18, 3) := by decide +kernel
theorem d_SF_address_4 : decode b_SF_address 4 = .ok (.iload_n 1, 1) := by decide +kernel
theorem d_SF_address_5 : decode b_SF_address 5 = .ok (.invokevirtual 60, 3) := by decide +kernel
theorem d_SF_address_8 : decode b_SF_address 8 = .ok (.ireturn, 1) := by decide +kernel
theorem d_SF_agreed_0 : decode b_SF_agreed 0 = .ok (.aload_n 0, 1) := by decide +kernel
theorem d_SF_agreed_1 : decode b_SF_agreed 1 = .ok (.getfield 24, 3) := by decide +kernel
theorem d_SF_agreed_4 : decode b_SF_agreed 4 = .ok (.iload_n 1, 1) := by decide +kernel
theorem d_SF_agreed_5 : decode b_SF_agreed 5 = .ok (.invokevirtual 112, 3) := by decide +kernel
theorem d_SF_agreed_8 : decode b_SF_agreed 8 = .ok (.aload_n 0, 1) := by decide +kernel
theorem d_SF_agreed_9 : decode b_SF_agreed 9 = .ok (.getfield 14, 3) := by decide +kernel
theorem d_SF_agreed_12 : decode b_SF_agreed 12 = .ok (.iload_n 2, 1) := by decide +kernel
theorem d_SF_agreed_13 : decode b_SF_agreed 13 = .ok (.invokevirtual 60, 3) := by decide +kernel
theorem d_SF_agreed_16 : decode b_SF_agreed 16 = .ok (.invokestatic 50, 3) := by decide +kernel
theorem d_SF_agreed_19 : decode b_SF_agreed 19 = .ok (.ireturn, 1) := by decide +kernel
theorem d_SF_alter_0 : decode b_SF_alter 0 = .ok (.aload_n 0, 1) := by decide +kernel
theorem d_SF_alter_1 : decode b_SF_alter 1 = .ok (.getfield 24, 3) := by decide +kernel
theorem d_SF_alter_4 : decode b_SF_alter 4 = .ok (.iload_n 1, 1) := by decide +kernel
theorem d_SF_alter_5 : decode b_SF_alter 5 = .ok (.invokevirtual 94, 3) := by decide +kernel
theorem d_SF_alter_8 : decode b_SF_alter 8 = .ok (.ifCond .ne 13, 3) := by decide +kernel
theorem d_SF_alter_11 : decode b_SF_alter 11 = .ok (.new 118, 3) := by decide +kernel
theorem d_SF_alter_14 : decode b_SF_alter 14 = .ok (.dup, 1) := by decide +kernel
theorem d_SF_alter_15 : decode b_SF_alter 15 = .ok (.ldc 123, 2) := by decide +kernel
theorem d_SF_alter_17 : decode b_SF_alter 17 = .ok (.invokespecial 122, 3) := by decide +kernel
theorem d_SF_alter_20 : decode b_SF_alter 20 = .ok (.athrow, 1) := by decide +kernel
theorem d_SF_alter_21 : decode b_SF_alter 21 = .ok (.aload_n 0, 1) := by decide +kernel
theorem d_SF_alter_22 : decode b_SF_alter 22 = .ok (.getfield 24, 3) := by decide +kernel
theorem d_SF_alter_25 : decode b_SF_alter 25 = .ok (.iload_n 1, 1) := by decide +kernel
theorem d_SF_alter_26 : decode b_SF_alter 26 = .ok (.aload_n 0, 1) := by decide +kernel
theorem d_SF_alter_27 : decode b_SF_alter 27 = .ok (.getfield 24, 3) := by decide +kernel
theorem d_SF_alter_30 : decode b_SF_alter 30 = .ok (.iload_n 1, 1) := by decide +kernel
theorem d_SF_alter_31 : decode b_SF_alter 31 = .ok (.invokevirtual 60, 3) := by decide +kernel
theorem d_SF_alter_34 : decode b_SF_alter 34 = .ok (.iload_n 2, 1) := by decide +kernel
theorem d_SF_alter_35 : decode b_SF_alter 35 = .ok (.sipush 255, 3) := by decide +kernel
theorem d_SF_alter_38 : decode b_SF_alter 38 = .ok (.iand, 1) := by decide +kernel
theorem d_SF_alter_39 : decode b_SF_alter 39 = .ok (.ixor, 1) := by decide +kernel
theorem d_SF_alter_40 : decode b_SF_alter 40 = .ok (.invokevirtual 125, 3) := by decide +kernel
theorem d_SF_alter_43 : decode b_SF_alter 43 = .ok (.aload_n 0, 1) := by decide +kernel
theorem d_SF_alter_44 : decode b_SF_alter 44 = .ok (.getfield 24, 3) := by decide +kernel
theorem d_SF_alter_47 : decode b_SF_alter 47 = .ok (.iload_n 1, 1) := by decide +kernel
theorem d_SF_alter_48 : decode b_SF_alter 48 = .ok (.invokevirtual 60, 3) := by decide +kernel
theorem d_SF_alter_51 : decode b_SF_alter 51 = .ok (.ireturn, 1) := by decide +kernel
theorem d_SF_appendEntry_0 : decode b_SF_appendEntry 0 = .ok (.aload_n 0, 1) := by decide +kernel
theorem d_SF_appendEntry_1 : decode b_SF_appendEntry 1 = .ok (.getfield 24, 3) := by decide +kernel
theorem d_SF_appendEntry_4 : decode b_SF_appendEntry 4 = .ok (.invokevirtual 56, 3) := by decide +kernel
theorem d_SF_appendEntry_7 : decode b_SF_appendEntry 7 = .ok (.istore 4, 2) := by decide +kernel
theorem d_SF_appendEntry_9 : decode b_SF_appendEntry 9 = .ok (.iload_n 1, 1) := by decide +kernel
theorem d_SF_appendEntry_10 : decode b_SF_appendEntry 10 = .ok (.iload_n 3, 1) := by decide +kernel
theorem d_SF_appendEntry_11 : decode b_SF_appendEntry 11 = .ok (.invokestatic 50, 3) := by decide +kernel
theorem d_SF_appendEntry_14 : decode b_SF_appendEntry 14 = .ok (.istore 5, 2) := by decide +kernel
theorem d_SF_appendEntry_16 : decode b_SF_appendEntry 16 = .ok (.iload_n 2, 1) := by decide +kernel
theorem d_SF_appendEntry_17 : decode b_SF_appendEntry 17 = .ok (.iload 5, 2) := by decide +kernel
theorem d_SF_appendEntry_19 : decode b_SF_appendEntry 19 = .ok (.iload_n 1, 1) := by decide +kernel
theorem d_SF_appendEntry_20 : decode b_SF_appendEntry 20 = .ok (.iconst 1, 1) := by decide +kernel
theorem d_SF_appendEntry_21 : decode b_SF_appendEntry 21 = .ok (.invokestatic 148, 3) := by decide +kernel
theorem d_SF_appendEntry_24 : decode b_SF_appendEntry 24 = .ok (.ixor, 1) := by decide +kernel
theorem d_SF_appendEntry_25 : decode b_SF_appendEntry 25 = .ok (.istore 6, 2) := by decide +kernel
theorem d_SF_appendEntry_27 : decode b_SF_appendEntry 27 = .ok (.aload_n 0, 1) := by decide +kernel
theorem d_SF_appendEntry_28 : decode b_SF_appendEntry 28 = .ok (.getfield 24, 3) := by decide +kernel
theorem d_SF_appendEntry_31 : decode b_SF_appendEntry 31 = .ok (.iconst 2, 1) := by decide +kernel
theorem d_SF_appendEntry_32 : decode b_SF_appendEntry 32 = .ok (.iload_n 3, 1) := by decide +kernel
theorem d_SF_appendEntry_33 : decode b_SF_appendEntry 33 = .ok (.invokestatic 50, 3) := by decide +kernel
theorem d_SF_appendEntry_36 : decode b_SF_appendEntry 36 = .ok (.invokevirtual 88, 3) := by decide +kernel
theorem d_SF_appendEntry_39 : decode b_SF_appendEntry 39 = .ok (.aload_n 0, 1) := by decide +kernel
theorem d_SF_appendEntry_40 : decode b_SF_appendEntry 40 = .ok (.getfield 24, 3) := by decide +kernel
theorem d_SF_appendEntry_43 : decode b_SF_appendEntry 43 = .ok (.iload 6, 2) := by decide +kernel
theorem d_SF_appendEntry_45 : decode b_SF_appendEntry 45 = .ok (.bipush 16, 2) := by decide +kernel
theorem d_SF_appendEntry_47 : decode b_SF_appendEntry 47 = .ok (.iushr, 1) := by decide +kernel
theorem d_SF_appendEntry_48 : decode b_SF_appendEntry 48 = .ok (.invokevirtual 88, 3) := by decide +kernel
theorem d_SF_appendEntry_51 : decode b_SF_appendEntry 51 = .ok (.aload_n 0, 1) := by decide +kernel
theorem d_SF_appendEntry_52 : decode b_SF_appendEntry 52 = .ok (.getfield 24, 3) := by decide +kernel
theorem d_SF_appendEntry_55 : decode b_SF_appendEntry 55 = .ok (.iload 6, 2) := by decide +kernel
theorem d_SF_appendEntry_57 : decode b_SF_appendEntry 57 = .ok (.ldc 151, 2) := by decide +kernel
theorem d_SF_appendEntry_59 : decode b_SF_appendEntry 59 = .ok (.iand, 1) := by decide +kernel
theorem d_SF_appendEntry_60 : decode b_SF_appendEntry 60 = .ok (.invokevirtual 88, 3) := by decide +kernel
theorem d_SF_appendEntry_63 : decode b_SF_appendEntry 63 = .ok (.aload_n 0, 1) := by decide +kernel
theorem d_SF_appendEntry_64 : decode b_SF_appendEntry 64 = .ok (.getfield 24, 3) := by decide +kernel
theorem d_SF_appendEntry_67 : decode b_SF_appendEntry 67 = .ok (.aload_n 0, 1) := by decide +kernel
theorem d_SF_appendEntry_68 : decode b_SF_appendEntry 68 = .ok (.iload 4, 2) := by decide +kernel
theorem d_SF_appendEntry_70 : decode b_SF_appendEntry 70 = .ok (.iload 5, 2) := by decide +kernel
theorem d_SF_appendEntry_72 : decode b_SF_appendEntry 72 = .ok (.iload_n 1, 1) := by decide +kernel
theorem d_SF_appendEntry_73 : decode b_SF_appendEntry 73 = .ok (.invokevirtual 152, 3) := by decide +kernel
theorem d_SF_appendEntry_76 : decode b_SF_appendEntry 76 = .ok (.invokevirtual 88, 3) := by decide +kernel
theorem d_SF_appendEntry_79 : decode b_SF_appendEntry 79 = .ok (.return_, 1) := by decide +kernel
theorem d_SF_appendPieces_0 : decode b_SF_appendPieces 0 = .ok (.aload_n 0, 1) := by decide +kernel
theorem d_SF_appendPieces_1 : decode b_SF_appendPieces 1 = .ok (.getfield 21, 3) := by decide +kernel
theorem d_SF_appendPieces_4 : decode b_SF_appendPieces 4 = .ok (.invokevirtual 56, 3) := by decide +kernel
theorem d_SF_appendPieces_7 : decode b_SF_appendPieces 7 = .ok (.iconst 1, 1) := by decide +kernel
theorem d_SF_appendPieces_8 : decode b_SF_appendPieces 8 = .ok (.isub, 1) := by decide +kernel
theorem d_SF_appendPieces_9 : decode b_SF_appendPieces 9 = .ok (.iconst 0, 1) := by decide +kernel
theorem d_SF_appendPieces_10 : decode b_SF_appendPieces 10 = .ok (.invokestatic 158, 3) := by decide +kernel
theorem d_SF_appendPieces_13 : decode b_SF_appendPieces 13 = .ok (.bipush 8, 2) := by decide +kernel
theorem d_SF_appendPieces_15 : decode b_SF_appendPieces 15 = .ok (.idiv, 1) := by decide +kernel
theorem d_SF_appendPieces_16 : decode b_SF_appendPieces 16 = .ok (.istore_n 2, 1) := by decide +kernel
theorem d_SF_appendPieces_17 : decode b_SF_appendPieces 17 = .ok (.iconst 0, 1) := by decide +kernel
theorem d_SF_appendPieces_18 : decode b_SF_appendPieces 18 = .ok (.istore_n 3, 1) := by decide +kernel
theorem d_SF_appendPieces_19 : decode b_SF_appendPieces 19 = .ok (.iload_n 3, 1) := by decide +kernel
theorem d_SF_appendPieces_20 : decode b_SF_appendPieces 20 = .ok (.iload_n 2, 1) := by decide +kernel
theorem d_SF_appendPieces_21 : decode b_SF_appendPieces 21 = .ok (.if_icmp .gt 116, 3) := by decide +kernel
theorem d_SF_appendPieces_24 : decode b_SF_appendPieces 24 = .ok (.iload_n 3, 1) := by decide +kernel
theorem d_SF_appendPieces_25 : decode b_SF_appendPieces 25 = .ok (.bipush 8, 2) := by decide +kernel
theorem d_SF_appendPieces_27 : decode b_SF_appendPieces 27 = .ok (.imul, 1) := by decide +kernel
theorem d_SF_appendPieces_28 : decode b_SF_appendPieces 28 = .ok (.istore 4, 2) := by decide +kernel
theorem d_SF_appendPieces_30 : decode b_SF_appendPieces 30 = .ok (.aload_n 0, 1) := by decide +kernel
theorem d_SF_appendPieces_31 : decode b_SF_appendPieces 31 = .ok (.getfield 21, 3) := by decide +kernel
theorem d_SF_appendPieces_34 : decode b_SF_appendPieces 34 = .ok (.invokevirtual 56, 3) := by decide +kernel
theorem d_SF_appendPieces_37 : decode b_SF_appendPieces 37 = .ok (.iload 4, 2) := by decide +kernel
theorem d_SF_appendPieces_39 : decode b_SF_appendPieces 39 = .ok (.isub, 1) := by decide +kernel
theorem d_SF_appendPieces_40 : decode b_SF_appendPieces 40 = .ok (.bipush 8, 2) := by decide +kernel
theorem d_SF_appendPieces_42 : decode b_SF_appendPieces 42 = .ok (.invokestatic 163, 3) := by decide +kernel
theorem d_SF_appendPieces_45 : decode b_SF_appendPieces 45 = .ok (.istore 5, 2) := by decide +kernel
theorem d_SF_appendPieces_47 : decode b_SF_appendPieces 47 = .ok (.aload_n 0, 1) := by decide +kernel
theorem d_SF_appendPieces_48 : decode b_SF_appendPieces 48 = .ok (.getfield 24, 3) := by decide +kernel
theorem d_SF_appendPieces_51 : decode b_SF_appendPieces 51 = .ok (.invokevirtual 56, 3) := by decide +kernel
theorem d_SF_appendPieces_54 : decode b_SF_appendPieces 54 = .ok (.istore 6, 2) := by decide +kernel
theorem d_SF_appendPieces_56 : decode b_SF_appendPieces 56 = .ok (.iconst 0, 1) := by decide +kernel
theorem d_SF_appendPieces_57 : decode b_SF_appendPieces 57 = .ok (.istore 7, 2) := by decide +kernel
theorem d_SF_appendPieces_59 : decode b_SF_appendPieces 59 = .ok (.iload 7, 2) := by decide +kernel
theorem d_SF_appendPieces_61 : decode b_SF_appendPieces 61 = .ok (.iload 5, 2) := by decide +kernel
theorem d_SF_appendPieces_63 : decode b_SF_appendPieces 63 = .ok (.if_icmp .ge 36, 3) := by decide +kernel
theorem d_SF_appendPieces_66 : decode b_SF_appendPieces 66 = .ok (.aload_n 0, 1) := by decide +kernel
theorem d_SF_appendPieces_67 : decode b_SF_appendPieces 67 = .ok (.getfield 24, 3) := by decide +kernel
theorem d_SF_appendPieces_70 : decode b_SF_appendPieces 70 = .ok (.aload_n 0, 1) := by decide +kernel
theorem d_SF_appendPieces_71 : decode b_SF_appendPieces 71 = .ok (.getfield 21, 3) := by decide +kernel
theorem d_SF_appendPieces_74 : decode b_SF_appendPieces 74 = .ok (.iload 4, 2) := by decide +kernel
theorem d_SF_appendPieces_76 : decode b_SF_appendPieces 76 = .ok (.iload 7, 2) := by decide +kernel
theorem d_SF_appendPieces_78 : decode b_SF_appendPieces 78 = .ok (.iadd, 1) := by decide +kernel
theorem d_SF_appendPieces_79 : decode b_SF_appendPieces 79 = .ok (.invokevirtual 60, 3) := by decide +kernel
theorem d_SF_appendPieces_82 : decode b_SF_appendPieces 82 = .ok (.iload_n 1, 1) := by decide +kernel
theorem d_SF_appendPieces_83 : decode b_SF_appendPieces 83 = .ok (.iload_n 3, 1) := by decide +kernel
theorem d_SF_appendPieces_84 : decode b_SF_appendPieces 84 = .ok (.iload 7, 2) := by decide +kernel
theorem d_SF_appendPieces_86 : decode b_SF_appendPieces 86 = .ok (.invokestatic 166, 3) := by decide +kernel
theorem d_SF_appendPieces_89 : decode b_SF_appendPieces 89 = .ok (.invokevirtual 41, 3) := by decide +kernel
theorem d_SF_appendPieces_92 : decode b_SF_appendPieces 92 = .ok (.pop, 1) := by decide +kernel
theorem d_SF_appendPieces_93 : decode b_SF_appendPieces 93 = .ok (.iinc 7 1, 3) := by decide +kernel
theorem d_SF_appendPieces_96 : decode b_SF_appendPieces 96 = .ok (.goto (-37), 3) := by decide +kernel
theorem d_SF_appendPieces_99 : decode b_SF_appendPieces 99 = .ok (.aload_n 0, 1) := by decide +kernel
theorem d_SF_appendPieces_100 : decode b_SF_appendPieces 100 = .ok (.getfield 24, 3) := by decide +kernel
theorem d_SF_appendPieces_103 : decode b_SF_appendPieces 103 = .ok (.aload_n 0, 1) := by decide +kernel
theorem d_SF_appendPieces_104 : decode b_SF_appendPieces 104 = .ok (.iload_n 1, 1) := by decide +kernel
theorem d_SF_appendPieces_105 : decode b_SF_appendPieces 105 = .ok (.iload_n 3, 1) := by decide +kernel
theorem d_SF_appendPieces_106 : decode b_SF_appendPieces 106 = .ok (.iload 6, 2) := by decide +kernel
theorem d_SF_appendPieces_108 : decode b_SF_appendPieces 108 = .ok (.aload_n 0, 1) := by decide +kernel
theorem d_SF_appendPieces_109 : decode b_SF_appendPieces 109 = .ok (.getfield 24, 3) := by decide +kernel
theorem d_SF_appendPieces_112 : decode b_SF_appendPieces 112 = .ok (.invokevirtual 56, 3) := by decide +kernel
theorem d_SF_appendPieces_115 : decode b_SF_appendPieces 115 = .ok (.iload_n 3, 1) := by decide +kernel
theorem d_SF_appendPieces_116 : decode b_SF_appendPieces 116 = .ok (.iload_n 2, 1) := by decide +kernel
theorem d_SF_appendPieces_117 : decode b_SF_appendPieces 117 = .ok (.if_icmp .ne 7, 3) := by decide +kernel
theorem d_SF_appendPieces_120 : decode b_SF_appendPieces 120 = .ok (.iconst 1, 1) := by decide +kernel
theorem d_SF_appendPieces_121 : decode b_SF_appendPieces 121 = .ok (.goto 4, 3) := by decide +kernel
theorem d_SF_appendPieces_124 : decode b_SF_appendPieces 124 = .ok (.iconst 0, 1) := by decide +kernel
theorem d_SF_appendPieces_125 : decode b_SF_appendPieces 125 = .ok (.invokevirtual 170, 3) := by decide +kernel
theorem d_SF_appendPieces_128 : decode b_SF_appendPieces 128 = .ok (.invokevirtual 88, 3) := by decide +kernel
theorem d_SF_appendPieces_131 : decode b_SF_appendPieces 131 = .ok (.iinc 3 1, 3) := by decide +kernel
theorem d_SF_appendPieces_134 : decode b_SF_appendPieces 134 = .ok (.goto (-115), 3) := by decide +kernel
theorem d_SF_appendPieces_137 : decode b_SF_appendPieces 137 = .ok (.return_, 1) := by decide +kernel
theorem d_SF_areReceivers_0 : decode b_SF_areReceivers 0 = .ok (.iload_n 1, 1) := by decide +kernel
theorem d_SF_areReceivers_1 : decode b_SF_areReceivers 1 = .ok (.invokestatic 72, 3) := by decide +kernel
theorem d_SF_areReceivers_4 : decode b_SF_areReceivers 4 = .ok (.istore_n 2, 1) := by decide +kernel
theorem d_SF_areReceivers_5 : decode b_SF_areReceivers 5 = .ok (.iload_n 2, 1) := by decide +kernel
theorem d_SF_areReceivers_6 : decode b_SF_areReceivers 6 = .ok (.iconst 1, 1) := by decide +kernel
theorem d_SF_areReceivers_7 : decode b_SF_areReceivers 7 = .ok (.if_icmp .lt 24, 3) := by decide +kernel
theorem d_SF_areReceivers_10 : decode b_SF_areReceivers 10 = .ok (.iload_n 2, 1) := by decide +kernel
theorem d_SF_areReceivers_11 : decode b_SF_areReceivers 11 = .ok (.iconst 3, 1) := by decide +kernel
theorem d_SF_areReceivers_12 : decode b_SF_areReceivers 12 = .ok (.if_icmp .gt 19, 3) := by decide +kernel
theorem d_SF_areReceivers_15 : decode b_SF_areReceivers 15 = .ok (.iload_n 1, 1) := by decide +kernel
theorem d_SF_areReceivers_16 : decode b_SF_areReceivers 16 = .ok (.aload_n 0, 1) := by decide +kernel
theorem d_SF_areReceivers_17 : decode b_SF_areReceivers 17 = .ok (.getfield 14, 3) := by decide +kernel
theorem d_SF_areReceivers_20 : decode b_SF_areReceivers 20 = .ok (.invokevirtual 56, 3) := by decide +kernel
theorem d_SF_areReceivers_23 : decode b_SF_areReceivers 23 = .ok (.iushr, 1) := by decide +kernel
theorem d_SF_areReceivers_24 : decode b_SF_areReceivers 24 = .ok (.ifCond .ne 7, 3) := by decide +kernel
theorem d_SF_areReceivers_27 : decode b_SF_areReceivers 27 = .ok (.iconst 1, 1) := by decide +kernel
theorem d_SF_areReceivers_28 : decode b_SF_areReceivers 28 = .ok (.goto 4, 3) := by decide +kernel
theorem d_SF_areReceivers_31 : decode b_SF_areReceivers 31 = .ok (.iconst 0, 1) := by decide +kernel
theorem d_SF_areReceivers_32 : decode b_SF_areReceivers 32 = .ok (.ireturn, 1) := by decide +kernel
theorem d_SF_at_0 : decode b_SF_at 0 = .ok (.aload_n 0, 1) := by decide +kernel
theorem d_SF_at_1 : decode b_SF_at 1 = .ok (.getfield 24, 3) := by decide +kernel
theorem d_SF_at_4 : decode b_SF_at 4 = .ok (.iload_n 1, 1) := by decide +kernel
theorem d_SF_at_5 : decode b_SF_at 5 = .ok (.invokevirtual 60, 3) := by decide +kernel
theorem d_SF_at_8 : decode b_SF_at 8 = .ok (.ireturn, 1) := by decide +kernel
theorem d_SF_clear_0 : decode b_SF_clear 0 = .ok (.aload_n 0, 1) := by decide +kernel
theorem d_SF_clear_1 : decode b_SF_clear 1 = .ok (.getfield 21, 3) := by decide +kernel
theorem d_SF_clear_4 : decode b_SF_clear 4 = .ok (.invokevirtual 56, 3) := by decide +kernel
theorem d_SF_clear_7 : decode b_SF_clear 7 = .ok (.istore_n 1, 1) := by decide +kernel
theorem d_SF_clear_8 : decode b_SF_clear 8 = .ok (.aload_n 0, 1) := by decide +kernel
theorem d_SF_clear_9 : decode b_SF_clear 9 = .ok (.getfield 21, 3) := by decide +kernel
theorem d_SF_clear_12 : decode b_SF_clear 12 = .ok (.iconst 0, 1) := by decide +kernel
theorem d_SF_clear_13 : decode b_SF_clear 13 = .ok (.invokevirtual 64, 3) := by decide +kernel
theorem d_SF_clear_16 : decode b_SF_clear 16 = .ok (.pop, 1) := by decide +kernel
theorem d_SF_clear_17 : decode b_SF_clear 17 = .ok (.iload_n 1, 1) := by decide +kernel
theorem d_SF_clear_18 : decode b_SF_clear 18 = .ok (.ireturn, 1) := by decide +kernel
theorem d_SF_count_0 : decode b_SF_count 0 = .ok (.iload_n 1, 1) := by decide +kernel
theorem d_SF_count_1 : decode b_SF_count 1 = .ok (.tableswitch 51 0 2 #[27, 35, 43], 27) := by decide +kernel
theorem d_SF_count_28 : decode b_SF_count 28 = .ok (.aload_n 0, 1) := by decide +kernel
theorem d_SF_count_29 : decode b_SF_count 29 = .ok (.getfield 21, 3) := by decide +kernel
theorem d_SF_count_32 : decode b_SF_count 32 = .ok (.invokevirtual 56, 3) := by decide +kernel
theorem d_SF_count_35 : decode b_SF_count 35 = .ok (.ireturn, 1) := by decide +kernel
theorem d_SF_count_36 : decode b_SF_count 36 = .ok (.aload_n 0, 1) := by decide +kernel
theorem d_SF_count_37 : decode b_SF_count 37 = .ok (.getfield 24, 3) := by decide +kernel
theorem d_SF_count_40 : decode b_SF_count 40 = .ok (.invokevirtual 56, 3) := by decide +kernel
theorem d_SF_count_43 : decode b_SF_count 43 = .ok (.ireturn, 1) := by decide +kernel
theorem d_SF_count_44 : decode b_SF_count 44 = .ok (.aload_n 0, 1) := by decide +kernel
theorem d_SF_count_45 : decode b_SF_count 45 = .ok (.getfield 14, 3) := by decide +kernel
theorem d_SF_count_48 : decode b_SF_count 48 = .ok (.invokevirtual 56, 3) := by decide +kernel
theorem d_SF_count_51 : decode b_SF_count 51 = .ok (.ireturn, 1) := by decide +kernel
theorem d_SF_count_52 : decode b_SF_count 52 = .ok (.iconst (-1), 1) := by decide +kernel
theorem d_SF_count_53 : decode b_SF_count 53 = .ok (.ireturn, 1) := by decide +kernel
theorem d_SF_covered_0 : decode b_SF_covered 0 = .ok (.iload_n 0, 1) := by decide +kernel
theorem d_SF_covered_1 : decode b_SF_covered 1 = .ok (.iload_n 1, 1) := by decide +kernel
theorem d_SF_covered_2 : decode b_SF_covered 2 = .ok (.bipush 16, 2) := by decide +kernel
theorem d_SF_covered_4 : decode b_SF_covered 4 = .ok (.iload_n 2, 1) := by decide +kernel
theorem d_SF_covered_5 : decode b_SF_covered 5 = .ok (.imul, 1) := by decide +kernel
theorem d_SF_covered_6 : decode b_SF_covered 6 = .ok (.iload_n 3, 1) := by decide +kernel
theorem d_SF_covered_7 : decode b_SF_covered 7 = .ok (.iadd, 1) := by decide +kernel
theorem d_SF_covered_8 : decode b_SF_covered 8 = .ok (.iconst 4, 1) := by decide +kernel
theorem d_SF_covered_9 : decode b_SF_covered 9 = .ok (.invokestatic 148, 3) := by decide +kernel
theorem d_SF_covered_12 : decode b_SF_covered 12 = .ok (.sipush 255, 3) := by decide +kernel
theorem d_SF_covered_15 : decode b_SF_covered 15 = .ok (.iand, 1) := by decide +kernel
theorem d_SF_covered_16 : decode b_SF_covered 16 = .ok (.ixor, 1) := by decide +kernel
theorem d_SF_covered_17 : decode b_SF_covered 17 = .ok (.ireturn, 1) := by decide +kernel
theorem d_SF_cut_0 : decode b_SF_cut 0 = .ok (.aload_n 0, 1) := by decide +kernel
theorem d_SF_cut_1 : decode b_SF_cut 1 = .ok (.getfield 24, 3) := by decide +kernel
theorem d_SF_cut_4 : decode b_SF_cut 4 = .ok (.iload_n 1, 1) := by decide +kernel
theorem d_SF_cut_5 : decode b_SF_cut 5 = .ok (.invokevirtual 64, 3) := by decide +kernel
theorem d_SF_cut_8 : decode b_SF_cut 8 = .ok (.ireturn, 1) := by decide +kernel
theorem d_SF_draftBytes_0 : decode b_SF_draftBytes 0 = .ok (.aload_n 0, 1) := by decide +kernel
theorem d_SF_draftBytes_1 : decode b_SF_draftBytes 1 = .ok (.getfield 27, 3) := by decide +kernel
theorem d_SF_draftBytes_4 : decode b_SF_draftBytes 4 = .ok (.invokevirtual 56, 3) := by decide +kernel
theorem d_SF_draftBytes_7 : decode b_SF_draftBytes 7 = .ok (.bipush 6, 2) := by decide +kernel
theorem d_SF_draftBytes_9 : decode b_SF_draftBytes 9 = .ok (.imul, 1) := by decide +kernel
theorem d_SF_draftBytes_10 : decode b_SF_draftBytes 10 = .ok (.bipush 8, 2) := by decide +kernel
theorem d_SF_draftBytes_12 : decode b_SF_draftBytes 12 = .ok (.idiv, 1) := by decide +kernel
theorem d_SF_draftBytes_13 : decode b_SF_draftBytes 13 = .ok (.ireturn, 1) := by decide +kernel
theorem d_SF_draftIsPrintedForm_0 : decode b_SF_draftIsPrintedForm 0 = .ok (.aload_n 0, 1) := by decide +kernel
theorem d_SF_draftIsPrintedForm_1 : decode b_SF_draftIsPrintedForm 1 = .ok (.getfield 27, 3) := by decide +kernel
theorem d_SF_draftIsPrintedForm_4 : decode b_SF_draftIsPrintedForm 4 = .ok (.invokevirtual 56, 3) := by decide +kernel
theorem d_SF_draftIsPrintedForm_7 : decode b_SF_draftIsPrintedForm 7 = .ok (.bipush 6, 2) := by decide +kernel
theorem d_SF_draftIsPrintedForm_9 : decode b_SF_draftIsPrintedForm 9 = .ok (.imul, 1) := by decide +kernel
theorem d_SF_draftIsPrintedForm_10 : decode b_SF_draftIsPrintedForm 10 = .ok (.aload_n 0, 1) := by decide +kernel
theorem d_SF_draftIsPrintedForm_11 : decode b_SF_draftIsPrintedForm 11 = .ok (.invokevirtual 181, 3) := by decide +kernel
theorem d_SF_draftIsPrintedForm_14 : decode b_SF_draftIsPrintedForm 14 = .ok (.bipush 8, 2) := by decide +kernel
theorem d_SF_draftIsPrintedForm_16 : decode b_SF_draftIsPrintedForm 16 = .ok (.imul, 1) := by decide +kernel
theorem d_SF_draftIsPrintedForm_17 : decode b_SF_draftIsPrintedForm 17 = .ok (.isub, 1) := by decide +kernel
theorem d_SF_draftIsPrintedForm_18 : decode b_SF_draftIsPrintedForm 18 = .ok (.istore_n 1, 1) := by decide +kernel
theorem d_SF_draftIsPrintedForm_19 : decode b_SF_draftIsPrintedForm 19 = .ok (.iload_n 1, 1) := by decide +kernel
theorem d_SF_draftIsPrintedForm_20 : decode b_SF_draftIsPrintedForm 20 = .ok (.ifCond .ne 5, 3) := by decide +kernel
theorem d_SF_draftIsPrintedForm_23 : decode b_SF_draftIsPrintedForm 23 = .ok (.iconst 1, 1) := by decide +kernel
theorem d_SF_draftIsPrintedForm_24 : decode b_SF_draftIsPrintedForm 24 = .ok (.ireturn, 1) := by decide +kernel
theorem d_SF_draftIsPrintedForm_25 : decode b_SF_draftIsPrintedForm 25 = .ok (.iconst 1, 1) := by decide +kernel
theorem d_SF_draftIsPrintedForm_26 : decode b_SF_draftIsPrintedForm 26 = .ok (.iload_n 1, 1) := by decide +kernel
theorem d_SF_draftIsPrintedForm_27 : decode b_SF_draftIsPrintedForm 27 = .ok (.ishl, 1) := by decide +kernel
theorem d_SF_draftIsPrintedForm_28 : decode b_SF_draftIsPrintedForm 28 = .ok (.iconst 1, 1) := by decide +kernel
theorem d_SF_draftIsPrintedForm_29 : decode b_SF_draftIsPrintedForm 29 = .ok (.isub, 1) := by decide +kernel
theorem d_SF_draftIsPrintedForm_30 : decode b_SF_draftIsPrintedForm 30 = .ok (.istore_n 2, 1) := by decide +kernel
theorem d_SF_draftIsPrintedForm_31 : decode b_SF_draftIsPrintedForm 31 = .ok (.iload_n 1, 1) := by decide +kernel
theorem d_SF_draftIsPrintedForm_32 : decode b_SF_draftIsPrintedForm 32 = .ok (.bipush 6, 2) := by decide +kernel
theorem d_SF_draftIsPrintedForm_34 : decode b_SF_draftIsPrintedForm 34 = .ok (.if_icmp .ge 28, 3) := by decide +kernel
theorem d_SF_draftIsPrintedForm_37 : decode b_SF_draftIsPrintedForm 37 = .ok (.aload_n 0, 1) := by decide +kernel
theorem d_SF_draftIsPrintedForm_38 : decode b_SF_draftIsPrintedForm 38 = .ok (.getfield 27, 3) := by decide +kernel
theorem d_SF_draftIsPrintedForm_41 : decode b_SF_draftIsPrintedForm 41 = .ok (.aload_n 0, 1) := by decide +kernel
theorem d_SF_draftIsPrintedForm_42 : decode b_SF_draftIsPrintedForm 42 = .ok (.getfield 27, 3) := by decide +kernel
theorem d_SF_draftIsPrintedForm_45 : decode b_SF_draftIsPrintedForm 45 = .ok (.invokevirtual 56, 3) := by decide +kernel
theorem d_SF_draftIsPrintedForm_48 : decode b_SF_draftIsPrintedForm 48 = .ok (.iconst 1, 1) := by decide +kernel
theorem d_SF_draftIsPrintedForm_49 : decode b_SF_draftIsPrintedForm 49 = .ok (.isub, 1) := by decide +kernel
theorem d_SF_draftIsPrintedForm_50 : decode b_SF_draftIsPrintedForm 50 = .ok (.invokevirtual 60, 3) := by decide +kernel
theorem d_SF_draftIsPrintedForm_53 : decode b_SF_draftIsPrintedForm 53 = .ok (.iload_n 2, 1) := by decide +kernel
theorem d_SF_draftIsPrintedForm_54 : decode b_SF_draftIsPrintedForm 54 = .ok (.iand, 1) := by decide +kernel
theorem d_SF_draftIsPrintedForm_55 : decode b_SF_draftIsPrintedForm 55 = .ok (.ifCond .ne 7, 3) := by decide +kernel
theorem d_SF_draftIsPrintedForm_58 : decode b_SF_draftIsPrintedForm 58 = .ok (.iconst 1, 1) := by decide +kernel
theorem d_SF_draftIsPrintedForm_59 : decode b_SF_draftIsPrintedForm 59 = .ok (.goto 4, 3) := by decide +kernel
theorem d_SF_draftIsPrintedForm_62 : decode b_SF_draftIsPrintedForm 62 = .ok (.iconst 0, 1) := by decide +kernel
theorem d_SF_draftIsPrintedForm_63 : decode b_SF_draftIsPrintedForm 63 = .ok (.ireturn, 1) := by decide +kernel
theorem d_SF_entriesEnd_0 : decode b_SF_entriesEnd 0 = .ok (.iconst 2, 1) := by decide +kernel
theorem d_SF_entriesEnd_1 : decode b_SF_entriesEnd 1 = .ok (.aload_n 0, 1) := by decide +kernel
theorem d_SF_entriesEnd_2 : decode b_SF_entriesEnd 2 = .ok (.getfield 24, 3) := by decide +kernel
theorem d_SF_entriesEnd_5 : decode b_SF_entriesEnd 5 = .ok (.iconst 1, 1) := by decide +kernel
theorem d_SF_entriesEnd_6 : decode b_SF_entriesEnd 6 = .ok (.invokevirtual 60, 3) := by decide +kernel
theorem d_SF_entriesEnd_9 : decode b_SF_entriesEnd 9 = .ok (.bipush 8, 2) := by decide +kernel
theorem d_SF_entriesEnd_11 : decode b_SF_entriesEnd 11 = .ok (.imul, 1) := by decide +kernel
theorem d_SF_entriesEnd_12 : decode b_SF_entriesEnd 12 = .ok (.iadd, 1) := by decide +kernel
theorem d_SF_entriesEnd_13 : decode b_SF_entriesEnd 13 = .ok (.ireturn, 1) := by decide +kernel
theorem d_SF_entryFor_0 : decode b_SF_entryFor 0 = .ok (.aload_n 0, 1) := by decide +kernel
theorem d_SF_entryFor_1 : decode b_SF_entryFor 1 = .ok (.getfield 24, 3) := by decide +kernel
theorem d_SF_entryFor_4 : decode b_SF_entryFor 4 = .ok (.iconst 1, 1) := by decide +kernel
theorem d_SF_entryFor_5 : decode b_SF_entryFor 5 = .ok (.invokevirtual 60, 3) := by decide +kernel
theorem d_SF_entryFor_8 : decode b_SF_entryFor 8 = .ok (.istore_n 2, 1) := by decide +kernel
theorem d_SF_entryFor_9 : decode b_SF_entryFor 9 = .ok (.iconst 0, 1) := by decide +kernel
theorem d_SF_entryFor_10 : decode b_SF_entryFor 10 = .ok (.istore_n 3, 1) := by decide +kernel
theorem d_SF_entryFor_11 : decode b_SF_entryFor 11 = .ok (.iload_n 3, 1) := by decide +kernel
theorem d_SF_entryFor_12 : decode b_SF_entryFor 12 = .ok (.iload_n 2, 1) := by decide +kernel
theorem d_SF_entryFor_13 : decode b_SF_entryFor 13 = .ok (.if_icmp .ge 60, 3) := by decide +kernel
theorem d_SF_entryFor_16 : decode b_SF_entryFor 16 = .ok (.iconst 2, 1) := by decide +kernel
theorem d_SF_entryFor_17 : decode b_SF_entryFor 17 = .ok (.iload_n 3, 1) := by decide +kernel
theorem d_SF_entryFor_18 : decode b_SF_entryFor 18 = .ok (.bipush 8, 2) := by decide +kernel
theorem d_SF_entryFor_20 : decode b_SF_entryFor 20 = .ok (.imul, 1) := by decide +kernel
theorem d_SF_entryFor_21 : decode b_SF_entryFor 21 = .ok (.iadd, 1) := by decide +kernel
theorem d_SF_entryFor_22 : decode b_SF_entryFor 22 = .ok (.istore 4, 2) := by decide +kernel
theorem d_SF_entryFor_24 : decode b_SF_entryFor 24 = .ok (.aload_n 0, 1) := by decide +kernel
theorem d_SF_entryFor_25 : decode b_SF_entryFor 25 = .ok (.iload 4, 2) := by decide +kernel
theorem d_SF_entryFor_27 : decode b_SF_entryFor 27 = .ok (.aload_n 0, 1) := by decide +kernel
theorem d_SF_entryFor_28 : decode b_SF_entryFor 28 = .ok (.iload 4, 2) := by decide +kernel
theorem d_SF_entryFor_30 : decode b_SF_entryFor 30 = .ok (.iload_n 1, 1) := by decide +kernel
theorem d_SF_entryFor_31 : decode b_SF_entryFor 31 = .ok (.invokevirtual 174, 3) := by decide +kernel
theorem d_SF_entryFor_34 : decode b_SF_entryFor 34 = .ok (.aload_n 0, 1) := by decide +kernel
theorem d_SF_entryFor_35 : decode b_SF_entryFor 35 = .ok (.getfield 18, 3) := by decide +kernel
theorem d_SF_entryFor_38 : decode b_SF_entryFor 38 = .ok (.iload_n 1, 1) := by decide +kernel
theorem d_SF_entryFor_39 : decode b_SF_entryFor 39 = .ok (.invokevirtual 60, 3) := by decide +kernel
theorem d_SF_entryFor_42 : decode b_SF_entryFor 42 = .ok (.invokevirtual 152, 3) := by decide +kernel
theorem d_SF_entryFor_45 : decode b_SF_entryFor 45 = .ok (.istore 5, 2) := by decide +kernel
theorem d_SF_entryFor_47 : decode b_SF_entryFor 47 = .ok (.aload_n 0, 1) := by decide +kernel
theorem d_SF_entryFor_48 : decode b_SF_entryFor 48 = .ok (.getfield 24, 3) := by decide +kernel
theorem d_SF_entryFor_51 : decode b_SF_entryFor 51 = .ok (.iload 4, 2) := by decide +kernel
theorem d_SF_entryFor_53 : decode b_SF_entryFor 53 = .ok (.bipush 6, 2) := by decide +kernel
theorem d_SF_entryFor_55 : decode b_SF_entryFor 55 = .ok (.iadd, 1) := by decide +kernel
theorem d_SF_entryFor_56 : decode b_SF_entryFor 56 = .ok (.invokevirtual 112, 3) := by decide +kernel
theorem d_SF_entryFor_59 : decode b_SF_entryFor 59 = .ok (.iload 5, 2) := by decide +kernel
theorem d_SF_entryFor_61 : decode b_SF_entryFor 61 = .ok (.if_icmp .ne 6, 3) := by decide +kernel
theorem d_SF_entryFor_64 : decode b_SF_entryFor 64 = .ok (.iload 4, 2) := by decide +kernel
theorem d_SF_entryFor_66 : decode b_SF_entryFor 66 = .ok (.ireturn, 1) := by decide +kernel
theorem d_SF_entryFor_67 : decode b_SF_entryFor 67 = .ok (.iinc 3 1, 3) := by decide +kernel
theorem d_SF_entryFor_70 : decode b_SF_entryFor 70 = .ok (.goto (-59), 3) := by decide +kernel
theorem d_SF_entryFor_73 : decode b_SF_entryFor 73 = .ok (.iconst (-1), 1) := by decide +kernel
theorem d_SF_entryFor_74 : decode b_SF_entryFor 74 = .ok (.ireturn, 1) := by decide +kernel
theorem d_SF_entrySign_0 : decode b_SF_entrySign 0 = .ok (.aload_n 0, 1) := by decide +kernel
theorem d_SF_entrySign_1 : decode b_SF_entrySign 1 = .ok (.getfield 24, 3) := by decide +kernel
theorem d_SF_entrySign_4 : decode b_SF_entrySign 4 = .ok (.iload_n 1, 1) := by decide +kernel
theorem d_SF_entrySign_5 : decode b_SF_entrySign 5 = .ok (.iload_n 1, 1) := by decide +kernel
theorem d_SF_entrySign_6 : decode b_SF_entrySign 6 = .ok (.bipush 6, 2) := by decide +kernel
theorem d_SF_entrySign_8 : decode b_SF_entrySign 8 = .ok (.iadd, 1) := by decide +kernel
theorem d_SF_entrySign_9 : decode b_SF_entrySign 9 = .ok (.iload_n 2, 1) := by decide +kernel
theorem d_SF_entrySign_10 : decode b_SF_entrySign 10 = .ok (.iload_n 3, 1) := by decide +kernel
theorem d_SF_entrySign_11 : decode b_SF_entrySign 11 = .ok (.iconst 2, 1) := by decide +kernel
theorem d_SF_entrySign_12 : decode b_SF_entrySign 12 = .ok (.invokestatic 148, 3) := by decide +kernel
theorem d_SF_entrySign_15 : decode b_SF_entrySign 15 = .ok (.invokevirtual 155, 3) := by decide +kernel
theorem d_SF_entrySign_18 : decode b_SF_entrySign 18 = .ok (.ireturn, 1) := by decide +kernel
theorem d_SF_exponent_0 : decode b_SF_exponent 0 = .ok (.iconst 2, 1) := by decide +kernel
theorem d_SF_exponent_1 : decode b_SF_exponent 1 = .ok (.iload_n 0, 1) := by decide +kernel
theorem d_SF_exponent_2 : decode b_SF_exponent 2 = .ok (.iload_n 1, 1) := by decide +kernel
theorem d_SF_exponent_3 : decode b_SF_exponent 3 = .ok (.iload_n 2, 1) := by decide +kernel
theorem d_SF_exponent_4 : decode b_SF_exponent 4 = .ok (.invokestatic 148, 3) := by decide +kernel
theorem d_SF_exponent_7 : decode b_SF_exponent 7 = .ok (.iconst 1, 1) := by decide +kernel
theorem d_SF_exponent_8 : decode b_SF_exponent 8 = .ok (.iushr, 1) := by decide +kernel
theorem d_SF_exponent_9 : decode b_SF_exponent 9 = .ok (.sipush 32746, 3) := by decide +kernel
theorem d_SF_exponent_12 : decode b_SF_exponent 12 = .ok (.irem, 1) := by decide +kernel
theorem d_SF_exponent_13 : decode b_SF_exponent 13 = .ok (.iadd, 1) := by decide +kernel
theorem d_SF_exponent_14 : decode b_SF_exponent 14 = .ok (.ireturn, 1) := by decide +kernel
end
section
theorem d_SF_hasShape_0 : decode b_SF_hasShape 0 = .ok (.aload_n 0, 1) := by decide +kernel
theorem d_SF_hasShape_1 : decode b_SF_hasShape 1 = .ok (.getfield 24, 3) := by decide +kernel
theorem d_SF_hasShape_4 : decode b_SF_hasShape 4 = .ok (.iconst 0, 1) := by decide +kernel
theorem d_SF_hasShape_5 : decode b_SF_hasShape 5 = .ok (.invokevirtual 60, 3) := by decide +kernel
theorem d_SF_hasShape_8 : decode b_SF_hasShape 8 = .ok (.bipush 83, 2) := by decide +kernel
theorem d_SF_hasShape_10 : decode b_SF_hasShape 10 = .ok (.if_icmp .ne 47, 3) := by decide +kernel
theorem d_SF_hasShape_13 : decode b_SF_hasShape 13 = .ok (.aload_n 0, 1) := by decide +kernel
theorem d_SF_hasShape_14 : decode b_SF_hasShape 14 = .ok (.getfield 24, 3) := by decide +kernel
theorem d_SF_hasShape_17 : decode b_SF_hasShape 17 = .ok (.iconst 1, 1) := by decide +kernel
theorem d_SF_hasShape_18 : decode b_SF_hasShape 18 = .ok (.invokevirtual 60, 3) := by decide +kernel
theorem d_SF_hasShape_21 : decode b_SF_hasShape 21 = .ok (.iconst 1, 1) := by decide +kernel
theorem d_SF_hasShape_22 : decode b_SF_hasShape 22 = .ok (.if_icmp .lt 35, 3) := by decide +kernel
theorem d_SF_hasShape_25 : decode b_SF_hasShape 25 = .ok (.aload_n 0, 1) := by decide +kernel
theorem d_SF_hasShape_26 : decode b_SF_hasShape 26 = .ok (.getfield 24, 3) := by decide +kernel
theorem d_SF_hasShape_29 : decode b_SF_hasShape 29 = .ok (.iconst 1, 1) := by decide +kernel
theorem d_SF_hasShape_30 : decode b_SF_hasShape 30 = .ok (.invokevirtual 60, 3) := by decide +kernel
theorem d_SF_hasShape_33 : decode b_SF_hasShape 33 = .ok (.iconst 3, 1) := by decide +kernel
theorem d_SF_hasShape_34 : decode b_SF_hasShape 34 = .ok (.if_icmp .gt 23, 3) := by decide +kernel
theorem d_SF_hasShape_37 : decode b_SF_hasShape 37 = .ok (.aload_n 0, 1) := by decide +kernel
theorem d_SF_hasShape_38 : decode b_SF_hasShape 38 = .ok (.getfield 24, 3) := by decide +kernel
theorem d_SF_hasShape_41 : decode b_SF_hasShape 41 = .ok (.invokevirtual 56, 3) := by decide +kernel
theorem d_SF_hasShape_44 : decode b_SF_hasShape 44 = .ok (.aload_n 0, 1) := by decide +kernel
theorem d_SF_hasShape_45 : decode b_SF_hasShape 45 = .ok (.invokevirtual 109, 3) := by decide +kernel
theorem d_SF_hasShape_48 : decode b_SF_hasShape 48 = .ok (.iconst 4, 1) := by decide +kernel
theorem d_SF_hasShape_49 : decode b_SF_hasShape 49 = .ok (.iadd, 1) := by decide +kernel
theorem d_SF_hasShape_50 : decode b_SF_hasShape 50 = .ok (.if_icmp .lt 7, 3) := by decide +kernel
theorem d_SF_hasShape_53 : decode b_SF_hasShape 53 = .ok (.iconst 1, 1) := by decide +kernel
theorem d_SF_hasShape_54 : decode b_SF_hasShape 54 = .ok (.goto 4, 3) := by decide +kernel
theorem d_SF_hasShape_57 : decode b_SF_hasShape 57 = .ok (.iconst 0, 1) := by decide +kernel
theorem d_SF_hasShape_58 : decode b_SF_hasShape 58 = .ok (.ireturn, 1) := by decide +kernel
theorem d_SF_headSign_0 : decode b_SF_headSign 0 = .ok (.aload_n 0, 1) := by decide +kernel
theorem d_SF_headSign_1 : decode b_SF_headSign 1 = .ok (.getfield 24, 3) := by decide +kernel
theorem d_SF_headSign_4 : decode b_SF_headSign 4 = .ok (.iconst 0, 1) := by decide +kernel
theorem d_SF_headSign_5 : decode b_SF_headSign 5 = .ok (.iload_n 2, 1) := by decide +kernel
theorem d_SF_headSign_6 : decode b_SF_headSign 6 = .ok (.iload_n 1, 1) := by decide +kernel
theorem d_SF_headSign_7 : decode b_SF_headSign 7 = .ok (.iconst 0, 1) := by decide +kernel
theorem d_SF_headSign_8 : decode b_SF_headSign 8 = .ok (.iconst 3, 1) := by decide +kernel
theorem d_SF_headSign_9 : decode b_SF_headSign 9 = .ok (.invokestatic 148, 3) := by decide +kernel
theorem d_SF_headSign_12 : decode b_SF_headSign 12 = .ok (.invokevirtual 155, 3) := by decide +kernel
theorem d_SF_headSign_15 : decode b_SF_headSign 15 = .ok (.ireturn, 1) := by decide +kernel
theorem d_SF_init_0 : decode b_SF_init 0 = .ok (.aload_n 0, 1) := by decide +kernel
theorem d_SF_init_1 : decode b_SF_init 1 = .ok (.invokespecial 1, 3) := by decide +kernel
theorem d_SF_init_4 : decode b_SF_init 4 = .ok (.aload_n 0, 1) := by decide +kernel
theorem d_SF_init_5 : decode b_SF_init 5 = .ok (.new 7, 3) := by decide +kernel
theorem d_SF_init_8 : decode b_SF_init 8 = .ok (.dup, 1) := by decide +kernel
theorem d_SF_init_9 : decode b_SF_init 9 = .ok (.iconst 4, 1) := by decide +kernel
theorem d_SF_init_10 : decode b_SF_init 10 = .ok (.invokespecial 11, 3) := by decide +kernel
theorem d_SF_init_13 : decode b_SF_init 13 = .ok (.putfield 14, 3) := by decide +kernel
theorem d_SF_init_16 : decode b_SF_init 16 = .ok (.aload_n 0, 1) := by decide +kernel
theorem d_SF_init_17 : decode b_SF_init 17 = .ok (.new 7, 3) := by decide +kernel
theorem d_SF_init_20 : decode b_SF_init 20 = .ok (.dup, 1) := by decide +kernel
theorem d_SF_init_21 : decode b_SF_init 21 = .ok (.iconst 4, 1) := by decide +kernel
theorem d_SF_init_22 : decode b_SF_init 22 = .ok (.invokespecial 11, 3) := by decide +kernel
theorem d_SF_init_25 : decode b_SF_init 25 = .ok (.putfield 18, 3) := by decide +kernel
theorem d_SF_init_28 : decode b_SF_init 28 = .ok (.aload_n 0, 1) := by decide +kernel
theorem d_SF_init_29 : decode b_SF_init 29 = .ok (.new 7, 3) := by decide +kernel
theorem d_SF_init_32 : decode b_SF_init 32 = .ok (.dup, 1) := by decide +kernel
theorem d_SF_init_33 : decode b_SF_init 33 = .ok (.bipush 40, 2) := by decide +kernel
theorem d_SF_init_35 : decode b_SF_init 35 = .ok (.invokespecial 11, 3) := by decide +kernel
theorem d_SF_init_38 : decode b_SF_init 38 = .ok (.putfield 21, 3) := by decide +kernel
theorem d_SF_init_41 : decode b_SF_init 41 = .ok (.aload_n 0, 1) := by decide +kernel
theorem d_SF_init_42 : decode b_SF_init 42 = .ok (.new 7, 3) := by decide +kernel
theorem d_SF_init_45 : decode b_SF_init 45 = .ok (.dup, 1) := by decide +kernel
theorem d_SF_init_46 : decode b_SF_init 46 = .ok (.bipush 120, 2) := by decide +kernel
theorem d_SF_init_48 : decode b_SF_init 48 = .ok (.invokespecial 11, 3) := by decide +kernel
theorem d_SF_init_51 : decode b_SF_init 51 = .ok (.putfield 24, 3) := by decide +kernel
theorem d_SF_init_54 : decode b_SF_init 54 = .ok (.aload_n 0, 1) := by decide +kernel
theorem d_SF_init_55 : decode b_SF_init 55 = .ok (.new 7, 3) := by decide +kernel
theorem d_SF_init_58 : decode b_SF_init 58 = .ok (.dup, 1) := by decide +kernel
theorem d_SF_init_59 : decode b_SF_init 59 = .ok (.sipush 160, 3) := by decide +kernel
theorem d_SF_init_62 : decode b_SF_init 62 = .ok (.invokespecial 11, 3) := by decide +kernel
theorem d_SF_init_65 : decode b_SF_init 65 = .ok (.putfield 27, 3) := by decide +kernel
theorem d_SF_init_68 : decode b_SF_init 68 = .ok (.aload_n 0, 1) := by decide +kernel
theorem d_SF_init_69 : decode b_SF_init 69 = .ok (.iconst 0, 1) := by decide +kernel
theorem d_SF_init_70 : decode b_SF_init 70 = .ok (.putfield 30, 3) := by decide +kernel
theorem d_SF_init_73 : decode b_SF_init 73 = .ok (.return_, 1) := by decide +kernel
theorem d_SF_key_0 : decode b_SF_key 0 = .ok (.iload_n 1, 1) := by decide +kernel
theorem d_SF_key_1 : decode b_SF_key 1 = .ok (.iconst 2, 1) := by decide +kernel
theorem d_SF_key_2 : decode b_SF_key 2 = .ok (.if_icmp .lt 10, 3) := by decide +kernel
theorem d_SF_key_5 : decode b_SF_key 5 = .ok (.iload_n 1, 1) := by decide +kernel
theorem d_SF_key_6 : decode b_SF_key 6 = .ok (.sipush 32747, 3) := by decide +kernel
theorem d_SF_key_9 : decode b_SF_key 9 = .ok (.if_icmp .le 13, 3) := by decide +kernel
theorem d_SF_key_12 : decode b_SF_key 12 = .ok (.new 34, 3) := by decide +kernel
theorem d_SF_key_15 : decode b_SF_key 15 = .ok (.dup, 1) := by decide +kernel
theorem d_SF_key_16 : decode b_SF_key 16 = .ok (.ldc 36, 2) := by decide +kernel
theorem d_SF_key_18 : decode b_SF_key 18 = .ok (.invokespecial 38, 3) := by decide +kernel
theorem d_SF_key_21 : decode b_SF_key 21 = .ok (.athrow, 1) := by decide +kernel
theorem d_SF_key_22 : decode b_SF_key 22 = .ok (.aload_n 0, 1) := by decide +kernel
theorem d_SF_key_23 : decode b_SF_key 23 = .ok (.getfield 14, 3) := by decide +kernel
theorem d_SF_key_26 : decode b_SF_key 26 = .ok (.iload_n 1, 1) := by decide +kernel
theorem d_SF_key_27 : decode b_SF_key 27 = .ok (.invokevirtual 41, 3) := by decide +kernel
theorem d_SF_key_30 : decode b_SF_key 30 = .ok (.ifCond .ne 13, 3) := by decide +kernel
theorem d_SF_key_33 : decode b_SF_key 33 = .ok (.new 45, 3) := by decide +kernel
theorem d_SF_key_36 : decode b_SF_key 36 = .ok (.dup, 1) := by decide +kernel
theorem d_SF_key_37 : decode b_SF_key 37 = .ok (.ldc 47, 2) := by decide +kernel
theorem d_SF_key_39 : decode b_SF_key 39 = .ok (.invokespecial 49, 3) := by decide +kernel
theorem d_SF_key_42 : decode b_SF_key 42 = .ok (.athrow, 1) := by decide +kernel
theorem d_SF_key_43 : decode b_SF_key 43 = .ok (.aload_n 0, 1) := by decide +kernel
theorem d_SF_key_44 : decode b_SF_key 44 = .ok (.getfield 18, 3) := by decide +kernel
theorem d_SF_key_47 : decode b_SF_key 47 = .ok (.iconst 2, 1) := by decide +kernel
theorem d_SF_key_48 : decode b_SF_key 48 = .ok (.iload_n 1, 1) := by decide +kernel
theorem d_SF_key_49 : decode b_SF_key 49 = .ok (.invokestatic 50, 3) := by decide +kernel
theorem d_SF_key_52 : decode b_SF_key 52 = .ok (.invokevirtual 41, 3) := by decide +kernel
theorem d_SF_key_55 : decode b_SF_key 55 = .ok (.pop, 1) := by decide +kernel
theorem d_SF_key_56 : decode b_SF_key 56 = .ok (.aload_n 0, 1) := by decide +kernel
theorem d_SF_key_57 : decode b_SF_key 57 = .ok (.getfield 14, 3) := by decide +kernel
theorem d_SF_key_60 : decode b_SF_key 60 = .ok (.invokevirtual 56, 3) := by decide +kernel
theorem d_SF_key_63 : decode b_SF_key 63 = .ok (.iconst 1, 1) := by decide +kernel
theorem d_SF_key_64 : decode b_SF_key 64 = .ok (.isub, 1) := by decide +kernel
theorem d_SF_key_65 : decode b_SF_key 65 = .ok (.ireturn, 1) := by decide +kernel
theorem d_SF_load_0 : decode b_SF_load 0 = .ok (.aload_n 0, 1) := by decide +kernel
theorem d_SF_load_1 : decode b_SF_load 1 = .ok (.invokevirtual 140, 3) := by decide +kernel
theorem d_SF_load_4 : decode b_SF_load 4 = .ok (.istore_n 1, 1) := by decide +kernel
theorem d_SF_load_5 : decode b_SF_load 5 = .ok (.iload_n 1, 1) := by decide +kernel
theorem d_SF_load_6 : decode b_SF_load 6 = .ok (.ifCond .eq 7, 3) := by decide +kernel
theorem d_SF_load_9 : decode b_SF_load 9 = .ok (.aload_n 0, 1) := by decide +kernel
theorem d_SF_load_10 : decode b_SF_load 10 = .ok (.invokevirtual 143, 3) := by decide +kernel
theorem d_SF_load_13 : decode b_SF_load 13 = .ok (.aload_n 0, 1) := by decide +kernel
theorem d_SF_load_14 : decode b_SF_load 14 = .ok (.getfield 27, 3) := by decide +kernel
theorem d_SF_load_17 : decode b_SF_load 17 = .ok (.iconst 0, 1) := by decide +kernel
theorem d_SF_load_18 : decode b_SF_load 18 = .ok (.invokevirtual 64, 3) := by decide +kernel
theorem d_SF_load_21 : decode b_SF_load 21 = .ok (.pop, 1) := by decide +kernel
theorem d_SF_load_22 : decode b_SF_load 22 = .ok (.iload_n 1, 1) := by decide +kernel
theorem d_SF_load_23 : decode b_SF_load 23 = .ok (.ifCond .ne 13, 3) := by decide +kernel
theorem d_SF_load_26 : decode b_SF_load 26 = .ok (.new 34, 3) := by decide +kernel
theorem d_SF_load_29 : decode b_SF_load 29 = .ok (.dup, 1) := by decide +kernel
theorem d_SF_load_30 : decode b_SF_load 30 = .ok (.ldc 146, 2) := by decide +kernel
theorem d_SF_load_32 : decode b_SF_load 32 = .ok (.invokespecial 38, 3) := by decide +kernel
theorem d_SF_load_35 : decode b_SF_load 35 = .ok (.athrow, 1) := by decide +kernel
theorem d_SF_load_36 : decode b_SF_load 36 = .ok (.aload_n 0, 1) := by decide +kernel
theorem d_SF_load_37 : decode b_SF_load 37 = .ok (.getfield 24, 3) := by decide +kernel
theorem d_SF_load_40 : decode b_SF_load 40 = .ok (.invokevirtual 56, 3) := by decide +kernel
theorem d_SF_load_43 : decode b_SF_load 43 = .ok (.ireturn, 1) := by decide +kernel
theorem d_SF_open_0 : decode b_SF_open 0 = .ok (.aload_n 0, 1) := by decide +kernel
theorem d_SF_open_1 : decode b_SF_open 1 = .ok (.getfield 14, 3) := by decide +kernel
theorem d_SF_open_4 : decode b_SF_open 4 = .ok (.iload_n 1, 1) := by decide +kernel
theorem d_SF_open_5 : decode b_SF_open 5 = .ok (.invokevirtual 94, 3) := by decide +kernel
theorem d_SF_open_8 : decode b_SF_open 8 = .ok (.ifCond .ne 13, 3) := by decide +kernel
theorem d_SF_open_11 : decode b_SF_open 11 = .ok (.new 34, 3) := by decide +kernel
theorem d_SF_open_14 : decode b_SF_open 14 = .ok (.dup, 1) := by decide +kernel
theorem d_SF_open_15 : decode b_SF_open 15 = .ok (.ldc 97, 2) := by decide +kernel
theorem d_SF_open_17 : decode b_SF_open 17 = .ok (.invokespecial 38, 3) := by decide +kernel
theorem d_SF_open_20 : decode b_SF_open 20 = .ok (.athrow, 1) := by decide +kernel
theorem d_SF_open_21 : decode b_SF_open 21 = .ok (.aload_n 0, 1) := by decide +kernel
theorem d_SF_open_22 : decode b_SF_open 22 = .ok (.iconst 0, 1) := by decide +kernel
theorem d_SF_open_23 : decode b_SF_open 23 = .ok (.putfield 30, 3) := by decide +kernel
theorem d_SF_open_26 : decode b_SF_open 26 = .ok (.aload_n 0, 1) := by decide +kernel
theorem d_SF_open_27 : decode b_SF_open 27 = .ok (.invokevirtual 99, 3) := by decide +kernel
theorem d_SF_open_30 : decode b_SF_open 30 = .ok (.ifCond .ne 5, 3) := by decide +kernel
theorem d_SF_open_33 : decode b_SF_open 33 = .ok (.iconst (-1), 1) := by decide +kernel
theorem d_SF_open_34 : decode b_SF_open 34 = .ok (.ireturn, 1) := by decide +kernel
theorem d_SF_open_35 : decode b_SF_open 35 = .ok (.aload_n 0, 1) := by decide +kernel
theorem d_SF_open_36 : decode b_SF_open 36 = .ok (.iload_n 1, 1) := by decide +kernel
theorem d_SF_open_37 : decode b_SF_open 37 = .ok (.invokevirtual 103, 3) := by decide +kernel
theorem d_SF_open_40 : decode b_SF_open 40 = .ok (.istore_n 2, 1) := by decide +kernel
theorem d_SF_open_41 : decode b_SF_open 41 = .ok (.iload_n 2, 1) := by decide +kernel
theorem d_SF_open_42 : decode b_SF_open 42 = .ok (.ifCond .ge 6, 3) := by decide +kernel
theorem d_SF_open_45 : decode b_SF_open 45 = .ok (.bipush (-2), 2) := by decide +kernel
theorem d_SF_open_47 : decode b_SF_open 47 = .ok (.ireturn, 1) := by decide +kernel
theorem d_SF_open_48 : decode b_SF_open 48 = .ok (.aload_n 0, 1) := by decide +kernel
theorem d_SF_open_49 : decode b_SF_open 49 = .ok (.iload_n 2, 1) := by decide +kernel
theorem d_SF_open_50 : decode b_SF_open 50 = .ok (.iload_n 1, 1) := by decide +kernel
theorem d_SF_open_51 : decode b_SF_open 51 = .ok (.invokevirtual 106, 3) := by decide +kernel
theorem d_SF_open_54 : decode b_SF_open 54 = .ok (.istore_n 3, 1) := by decide +kernel
theorem d_SF_open_55 : decode b_SF_open 55 = .ok (.aload_n 0, 1) := by decide +kernel
theorem d_SF_open_56 : decode b_SF_open 56 = .ok (.invokevirtual 109, 3) := by decide +kernel
theorem d_SF_open_59 : decode b_SF_open 59 = .ok (.istore 4, 2) := by decide +kernel
theorem d_SF_open_61 : decode b_SF_open 61 = .ok (.aload_n 0, 1) := by decide +kernel
theorem d_SF_open_62 : decode b_SF_open 62 = .ok (.getfield 24, 3) := by decide +kernel
theorem d_SF_open_65 : decode b_SF_open 65 = .ok (.iload 4, 2) := by decide +kernel
theorem d_SF_open_67 : decode b_SF_open 67 = .ok (.invokevirtual 112, 3) := by decide +kernel
theorem d_SF_open_70 : decode b_SF_open 70 = .ok (.aload_n 0, 1) := by decide +kernel
theorem d_SF_open_71 : decode b_SF_open 71 = .ok (.iload_n 3, 1) := by decide +kernel
theorem d_SF_open_72 : decode b_SF_open 72 = .ok (.iload 4, 2) := by decide +kernel
theorem d_SF_open_74 : decode b_SF_open 74 = .ok (.invokevirtual 85, 3) := by decide +kernel
theorem d_SF_open_77 : decode b_SF_open 77 = .ok (.if_icmp .eq 6, 3) := by decide +kernel
theorem d_SF_open_80 : decode b_SF_open 80 = .ok (.bipush (-3), 2) := by decide +kernel
theorem d_SF_open_82 : decode b_SF_open 82 = .ok (.ireturn, 1) := by decide +kernel
theorem d_SF_open_83 : decode b_SF_open 83 = .ok (.aload_n 0, 1) := by decide +kernel
theorem d_SF_open_84 : decode b_SF_open 84 = .ok (.iload_n 3, 1) := by decide +kernel
theorem d_SF_open_85 : decode b_SF_open 85 = .ok (.iload 4, 2) := by decide +kernel
theorem d_SF_open_87 : decode b_SF_open 87 = .ok (.iconst 2, 1) := by decide +kernel
theorem d_SF_open_88 : decode b_SF_open 88 = .ok (.iadd, 1) := by decide +kernel
theorem d_SF_open_89 : decode b_SF_open 89 = .ok (.invokevirtual 115, 3) := by decide +kernel
theorem d_SF_open_92 : decode b_SF_open 92 = .ok (.ireturn, 1) := by decide +kernel
theorem d_SF_pieceSign_0 : decode b_SF_pieceSign 0 = .ok (.iload 5, 2) := by decide +kernel
theorem d_SF_pieceSign_2 : decode b_SF_pieceSign 2 = .ok (.ifCond .eq 8, 3) := by decide +kernel
theorem d_SF_pieceSign_5 : decode b_SF_pieceSign 5 = .ok (.bipush 6, 2) := by decide +kernel
theorem d_SF_pieceSign_7 : decode b_SF_pieceSign 7 = .ok (.goto 4, 3) := by decide +kernel
theorem d_SF_pieceSign_10 : decode b_SF_pieceSign 10 = .ok (.iconst 5, 1) := by decide +kernel
theorem d_SF_pieceSign_11 : decode b_SF_pieceSign 11 = .ok (.istore 6, 2) := by decide +kernel
theorem d_SF_pieceSign_13 : decode b_SF_pieceSign 13 = .ok (.aload_n 0, 1) := by decide +kernel
theorem d_SF_pieceSign_14 : decode b_SF_pieceSign 14 = .ok (.getfield 24, 3) := by decide +kernel
theorem d_SF_pieceSign_17 : decode b_SF_pieceSign 17 = .ok (.iload_n 3, 1) := by decide +kernel
theorem d_SF_pieceSign_18 : decode b_SF_pieceSign 18 = .ok (.iload 4, 2) := by decide +kernel
theorem d_SF_pieceSign_20 : decode b_SF_pieceSign 20 = .ok (.iload_n 1, 1) := by decide +kernel
theorem d_SF_pieceSign_21 : decode b_SF_pieceSign 21 = .ok (.iload_n 2, 1) := by decide +kernel
theorem d_SF_pieceSign_22 : decode b_SF_pieceSign 22 = .ok (.iload 6, 2) := by decide +kernel
theorem d_SF_pieceSign_24 : decode b_SF_pieceSign 24 = .ok (.invokestatic 148, 3) := by decide +kernel
theorem d_SF_pieceSign_27 : decode b_SF_pieceSign 27 = .ok (.invokevirtual 155, 3) := by decide +kernel
theorem d_SF_pieceSign_30 : decode b_SF_pieceSign 30 = .ok (.ireturn, 1) := by decide +kernel
theorem d_SF_pieces_0 : decode b_SF_pieces 0 = .ok (.aload_n 0, 1) := by decide +kernel
theorem d_SF_pieces_1 : decode b_SF_pieces 1 = .ok (.getfield 30, 3) := by decide +kernel
theorem d_SF_pieces_4 : decode b_SF_pieces 4 = .ok (.ireturn, 1) := by decide +kernel
theorem d_SF_print_0 : decode b_SF_print 0 = .ok (.aload_n 0, 1) := by decide +kernel
theorem d_SF_print_1 : decode b_SF_print 1 = .ok (.getfield 24, 3) := by decide +kernel
theorem d_SF_print_4 : decode b_SF_print 4 = .ok (.invokevirtual 56, 3) := by decide +kernel
theorem d_SF_print_7 : decode b_SF_print 7 = .ok (.bipush 8, 2) := by decide +kernel
theorem d_SF_print_9 : decode b_SF_print 9 = .ok (.imul, 1) := by decide +kernel
theorem d_SF_print_10 : decode b_SF_print 10 = .ok (.iconst 5, 1) := by decide +kernel
theorem d_SF_print_11 : decode b_SF_print 11 = .ok (.iadd, 1) := by decide +kernel
theorem d_SF_print_12 : decode b_SF_print 12 = .ok (.bipush 6, 2) := by decide +kernel
theorem d_SF_print_14 : decode b_SF_print 14 = .ok (.idiv, 1) := by decide +kernel
theorem d_SF_print_15 : decode b_SF_print 15 = .ok (.istore_n 2, 1) := by decide +kernel
theorem d_SF_print_16 : decode b_SF_print 16 = .ok (.iload_n 1, 1) := by decide +kernel
theorem d_SF_print_17 : decode b_SF_print 17 = .ok (.ifCond .lt 8, 3) := by decide +kernel
theorem d_SF_print_20 : decode b_SF_print 20 = .ok (.iload_n 1, 1) := by decide +kernel
theorem d_SF_print_21 : decode b_SF_print 21 = .ok (.iload_n 2, 1) := by decide +kernel
theorem d_SF_print_22 : decode b_SF_print 22 = .ok (.if_icmp .lt 5, 3) := by decide +kernel
theorem d_SF_print_25 : decode b_SF_print 25 = .ok (.iconst (-1), 1) := by decide +kernel
theorem d_SF_print_26 : decode b_SF_print 26 = .ok (.ireturn, 1) := by decide +kernel
theorem d_SF_print_27 : decode b_SF_print 27 = .ok (.iload_n 1, 1) := by decide +kernel
theorem d_SF_print_28 : decode b_SF_print 28 = .ok (.bipush 6, 2) := by decide +kernel
theorem d_SF_print_30 : decode b_SF_print 30 = .ok (.imul, 1) := by decide +kernel
theorem d_SF_print_31 : decode b_SF_print 31 = .ok (.bipush 8, 2) := by decide +kernel
theorem d_SF_print_33 : decode b_SF_print 33 = .ok (.idiv, 1) := by decide +kernel
theorem d_SF_print_34 : decode b_SF_print 34 = .ok (.istore_n 3, 1) := by decide +kernel
theorem d_SF_print_35 : decode b_SF_print 35 = .ok (.iload_n 1, 1) := by decide +kernel
theorem d_SF_print_36 : decode b_SF_print 36 = .ok (.bipush 6, 2) := by decide +kernel
theorem d_SF_print_38 : decode b_SF_print 38 = .ok (.imul, 1) := by decide +kernel
theorem d_SF_print_39 : decode b_SF_print 39 = .ok (.bipush 8, 2) := by decide +kernel
theorem d_SF_print_41 : decode b_SF_print 41 = .ok (.irem, 1) := by decide +kernel
theorem d_SF_print_42 : decode b_SF_print 42 = .ok (.istore 4, 2) := by decide +kernel
theorem d_SF_print_44 : decode b_SF_print 44 = .ok (.aload_n 0, 1) := by decide +kernel
theorem d_SF_print_45 : decode b_SF_print 45 = .ok (.getfield 24, 3) := by decide +kernel
theorem d_SF_print_48 : decode b_SF_print 48 = .ok (.iload_n 3, 1) := by decide +kernel
theorem d_SF_print_49 : decode b_SF_print 49 = .ok (.iconst 1, 1) := by decide +kernel
theorem d_SF_print_50 : decode b_SF_print 50 = .ok (.iadd, 1) := by decide +kernel
theorem d_SF_print_51 : decode b_SF_print 51 = .ok (.invokevirtual 94, 3) := by decide +kernel
theorem d_SF_print_54 : decode b_SF_print 54 = .ok (.ifCond .eq 16, 3) := by decide +kernel
theorem d_SF_print_57 : decode b_SF_print 57 = .ok (.aload_n 0, 1) := by decide +kernel
theorem d_SF_print_58 : decode b_SF_print 58 = .ok (.getfield 24, 3) := by decide +kernel
theorem d_SF_print_61 : decode b_SF_print 61 = .ok (.iload_n 3, 1) := by decide +kernel
theorem d_SF_print_62 : decode b_SF_print 62 = .ok (.iconst 1, 1) := by decide +kernel
theorem d_SF_print_63 : decode b_SF_print 63 = .ok (.iadd, 1) := by decide +kernel
theorem d_SF_print_64 : decode b_SF_print 64 = .ok (.invokevirtual 60, 3) := by decide +kernel
theorem d_SF_print_67 : decode b_SF_print 67 = .ok (.goto 4, 3) := by decide +kernel
theorem d_SF_print_70 : decode b_SF_print 70 = .ok (.iconst 0, 1) := by decide +kernel
theorem d_SF_print_71 : decode b_SF_print 71 = .ok (.istore 5, 2) := by decide +kernel
theorem d_SF_print_73 : decode b_SF_print 73 = .ok (.aload_n 0, 1) := by decide +kernel
theorem d_SF_print_74 : decode b_SF_print 74 = .ok (.getfield 24, 3) := by decide +kernel
theorem d_SF_print_77 : decode b_SF_print 77 = .ok (.iload_n 3, 1) := by decide +kernel
theorem d_SF_print_78 : decode b_SF_print 78 = .ok (.invokevirtual 60, 3) := by decide +kernel
theorem d_SF_print_81 : decode b_SF_print 81 = .ok (.bipush 8, 2) := by decide +kernel
theorem d_SF_print_83 : decode b_SF_print 83 = .ok (.ishl, 1) := by decide +kernel
theorem d_SF_print_84 : decode b_SF_print 84 = .ok (.iload 5, 2) := by decide +kernel
theorem d_SF_print_86 : decode b_SF_print 86 = .ok (.ior, 1) := by decide +kernel
theorem d_SF_print_87 : decode b_SF_print 87 = .ok (.istore 6, 2) := by decide +kernel
theorem d_SF_print_89 : decode b_SF_print 89 = .ok (.ldc 129, 2) := by decide +kernel
theorem d_SF_print_91 : decode b_SF_print 91 = .ok (.iload 6, 2) := by decide +kernel
theorem d_SF_print_93 : decode b_SF_print 93 = .ok (.bipush 10, 2) := by decide +kernel
theorem d_SF_print_95 : decode b_SF_print 95 = .ok (.iload 4, 2) := by decide +kernel
theorem d_SF_print_97 : decode b_SF_print 97 = .ok (.isub, 1) := by decide +kernel
theorem d_SF_print_98 : decode b_SF_print 98 = .ok (.iushr, 1) := by decide +kernel
theorem d_SF_print_99 : decode b_SF_print 99 = .ok (.bipush 63, 2) := by decide +kernel
theorem d_SF_print_101 : decode b_SF_print 101 = .ok (.iand, 1) := by decide +kernel
theorem d_SF_print_102 : decode b_SF_print 102 = .ok (.invokevirtual 131, 3) := by decide +kernel
theorem d_SF_print_105 : decode b_SF_print 105 = .ok (.ireturn, 1) := by decide +kernel
theorem d_SF_put_0 : decode b_SF_put 0 = .ok (.iload_n 1, 1) := by decide +kernel
theorem d_SF_put_1 : decode b_SF_put 1 = .ok (.ifCond .lt 25, 3) := by decide +kernel
theorem d_SF_put_4 : decode b_SF_put 4 = .ok (.iload_n 1, 1) := by decide +kernel
theorem d_SF_put_5 : decode b_SF_put 5 = .ok (.sipush 255, 3) := by decide +kernel
theorem d_SF_put_8 : decode b_SF_put 8 = .ok (.if_icmp .gt 18, 3) := by decide +kernel
theorem d_SF_put_11 : decode b_SF_put 11 = .ok (.aload_n 0, 1) := by decide +kernel
theorem d_SF_put_12 : decode b_SF_put 12 = .ok (.getfield 21, 3) := by decide +kernel
theorem d_SF_put_15 : decode b_SF_put 15 = .ok (.iload_n 1, 1) := by decide +kernel
theorem d_SF_put_16 : decode b_SF_put 16 = .ok (.invokevirtual 41, 3) := by decide +kernel
theorem d_SF_put_19 : decode b_SF_put 19 = .ok (.ifCond .eq 7, 3) := by decide +kernel
theorem d_SF_put_22 : decode b_SF_put 22 = .ok (.iconst 1, 1) := by decide +kernel
theorem d_SF_put_23 : decode b_SF_put 23 = .ok (.goto 4, 3) := by decide +kernel
theorem d_SF_put_26 : decode b_SF_put 26 = .ok (.iconst 0, 1) := by decide +kernel
theorem d_SF_put_27 : decode b_SF_put 27 = .ok (.ireturn, 1) := by decide +kernel
theorem d_SF_read_0 : decode b_SF_read 0 = .ok (.aload_n 0, 1) := by decide +kernel
theorem d_SF_read_1 : decode b_SF_read 1 = .ok (.getfield 21, 3) := by decide +kernel
theorem d_SF_read_4 : decode b_SF_read 4 = .ok (.iload_n 1, 1) := by decide +kernel
theorem d_SF_read_5 : decode b_SF_read 5 = .ok (.invokevirtual 94, 3) := by decide +kernel
theorem d_SF_read_8 : decode b_SF_read 8 = .ok (.ifCond .ne 13, 3) := by decide +kernel
theorem d_SF_read_11 : decode b_SF_read 11 = .ok (.new 118, 3) := by decide +kernel
theorem d_SF_read_14 : decode b_SF_read 14 = .ok (.dup, 1) := by decide +kernel
theorem d_SF_read_15 : decode b_SF_read 15 = .ok (.ldc 120, 2) := by decide +kernel
theorem d_SF_read_17 : decode b_SF_read 17 = .ok (.invokespecial 122, 3) := by decide +kernel
theorem d_SF_read_20 : decode b_SF_read 20 = .ok (.athrow, 1) := by decide +kernel
theorem d_SF_read_21 : decode b_SF_read 21 = .ok (.aload_n 0, 1) := by decide +kernel
theorem d_SF_read_22 : decode b_SF_read 22 = .ok (.getfield 21, 3) := by decide +kernel
theorem d_SF_read_25 : decode b_SF_read 25 = .ok (.iload_n 1, 1) := by decide +kernel
theorem d_SF_read_26 : decode b_SF_read 26 = .ok (.invokevirtual 60, 3) := by decide +kernel
theorem d_SF_read_29 : decode b_SF_read 29 = .ok (.ireturn, 1) := by decide +kernel
theorem d_SF_seal_0 : decode b_SF_seal 0 = .ok (.aload_n 0, 1) := by decide +kernel
theorem d_SF_seal_1 : decode b_SF_seal 1 = .ok (.iload_n 1, 1) := by decide +kernel
theorem d_SF_seal_2 : decode b_SF_seal 2 = .ok (.invokevirtual 67, 3) := by decide +kernel
theorem d_SF_seal_5 : decode b_SF_seal 5 = .ok (.ifCond .ne 13, 3) := by decide +kernel
theorem d_SF_seal_8 : decode b_SF_seal 8 = .ok (.new 34, 3) := by decide +kernel
theorem d_SF_seal_11 : decode b_SF_seal 11 = .ok (.dup, 1) := by decide +kernel
theorem d_SF_seal_12 : decode b_SF_seal 12 = .ok (.ldc 70, 2) := by decide +kernel
theorem d_SF_seal_14 : decode b_SF_seal 14 = .ok (.invokespecial 38, 3) := by decide +kernel
theorem d_SF_seal_17 : decode b_SF_seal 17 = .ok (.athrow, 1) := by decide +kernel
theorem d_SF_seal_18 : decode b_SF_seal 18 = .ok (.aload_n 0, 1) := by decide +kernel
theorem d_SF_seal_19 : decode b_SF_seal 19 = .ok (.getfield 24, 3) := by decide +kernel
theorem d_SF_seal_22 : decode b_SF_seal 22 = .ok (.iconst 0, 1) := by decide +kernel
theorem d_SF_seal_23 : decode b_SF_seal 23 = .ok (.invokevirtual 64, 3) := by decide +kernel
theorem d_SF_seal_26 : decode b_SF_seal 26 = .ok (.pop, 1) := by decide +kernel
theorem d_SF_seal_27 : decode b_SF_seal 27 = .ok (.aload_n 0, 1) := by decide +kernel
theorem d_SF_seal_28 : decode b_SF_seal 28 = .ok (.getfield 24, 3) := by decide +kernel
theorem d_SF_seal_31 : decode b_SF_seal 31 = .ok (.bipush 83, 2) := by decide +kernel
theorem d_SF_seal_33 : decode b_SF_seal 33 = .ok (.invokevirtual 41, 3) := by decide +kernel
theorem d_SF_seal_36 : decode b_SF_seal 36 = .ok (.pop, 1) := by decide +kernel
theorem d_SF_seal_37 : decode b_SF_seal 37 = .ok (.aload_n 0, 1) := by decide +kernel
theorem d_SF_seal_38 : decode b_SF_seal 38 = .ok (.getfield 24, 3) := by decide +kernel
theorem d_SF_seal_41 : decode b_SF_seal 41 = .ok (.iload_n 1, 1) := by decide +kernel
theorem d_SF_seal_42 : decode b_SF_seal 42 = .ok (.invokestatic 72, 3) := by decide +kernel
theorem d_SF_seal_45 : decode b_SF_seal 45 = .ok (.invokevirtual 41, 3) := by decide +kernel
theorem d_SF_seal_48 : decode b_SF_seal 48 = .ok (.pop, 1) := by decide +kernel
theorem d_SF_seal_49 : decode b_SF_seal 49 = .ok (.iconst 0, 1) := by decide +kernel
theorem d_SF_seal_50 : decode b_SF_seal 50 = .ok (.istore 4, 2) := by decide +kernel
theorem d_SF_seal_52 : decode b_SF_seal 52 = .ok (.iload 4, 2) := by decide +kernel
theorem d_SF_seal_54 : decode b_SF_seal 54 = .ok (.aload_n 0, 1) := by decide +kernel
theorem d_SF_seal_55 : decode b_SF_seal 55 = .ok (.getfield 14, 3) := by decide +kernel
theorem d_SF_seal_58 : decode b_SF_seal 58 = .ok (.invokevirtual 56, 3) := by decide +kernel
theorem d_SF_seal_61 : decode b_SF_seal 61 = .ok (.if_icmp .ge 40, 3) := by decide +kernel
theorem d_SF_seal_64 : decode b_SF_seal 64 = .ok (.iload_n 1, 1) := by decide +kernel
theorem d_SF_seal_65 : decode b_SF_seal 65 = .ok (.iload 4, 2) := by decide +kernel
theorem d_SF_seal_67 : decode b_SF_seal 67 = .ok (.iushr, 1) := by decide +kernel
theorem d_SF_seal_68 : decode b_SF_seal 68 = .ok (.iconst 1, 1) := by decide +kernel
theorem d_SF_seal_69 : decode b_SF_seal 69 = .ok (.iand, 1) := by decide +kernel
theorem d_SF_seal_70 : decode b_SF_seal 70 = .ok (.iconst 1, 1) := by decide +kernel
theorem d_SF_seal_71 : decode b_SF_seal 71 = .ok (.if_icmp .ne 24, 3) := by decide +kernel
theorem d_SF_seal_74 : decode b_SF_seal 74 = .ok (.aload_n 0, 1) := by decide +kernel
theorem d_SF_seal_75 : decode b_SF_seal 75 = .ok (.aload_n 0, 1) := by decide +kernel
theorem d_SF_seal_76 : decode b_SF_seal 76 = .ok (.getfield 18, 3) := by decide +kernel
theorem d_SF_seal_79 : decode b_SF_seal 79 = .ok (.iload 4, 2) := by decide +kernel
theorem d_SF_seal_81 : decode b_SF_seal 81 = .ok (.invokevirtual 60, 3) := by decide +kernel
theorem d_SF_seal_84 : decode b_SF_seal 84 = .ok (.iload_n 2, 1) := by decide +kernel
theorem d_SF_seal_85 : decode b_SF_seal 85 = .ok (.iload_n 2, 1) := by decide +kernel
theorem d_SF_seal_86 : decode b_SF_seal 86 = .ok (.iload_n 3, 1) := by decide +kernel
theorem d_SF_seal_87 : decode b_SF_seal 87 = .ok (.iload 4, 2) := by decide +kernel
theorem d_SF_seal_89 : decode b_SF_seal 89 = .ok (.invokestatic 77, 3) := by decide +kernel
theorem d_SF_seal_92 : decode b_SF_seal 92 = .ok (.invokevirtual 81, 3) := by decide +kernel
theorem d_SF_seal_95 : decode b_SF_seal 95 = .ok (.iinc 4 1, 3) := by decide +kernel
theorem d_SF_seal_98 : decode b_SF_seal 98 = .ok (.goto (-46), 3) := by decide +kernel
theorem d_SF_seal_101 : decode b_SF_seal 101 = .ok (.aload_n 0, 1) := by decide +kernel
theorem d_SF_seal_102 : decode b_SF_seal 102 = .ok (.getfield 24, 3) := by decide +kernel
theorem d_SF_seal_105 : decode b_SF_seal 105 = .ok (.aload_n 0, 1) := by decide +kernel
theorem d_SF_seal_106 : decode b_SF_seal 106 = .ok (.iload_n 2, 1) := by decide +kernel
theorem d_SF_seal_107 : decode b_SF_seal 107 = .ok (.aload_n 0, 1) := by decide +kernel
theorem d_SF_seal_108 : decode b_SF_seal 108 = .ok (.getfield 24, 3) := by decide +kernel
theorem d_SF_seal_111 : decode b_SF_seal 111 = .ok (.invokevirtual 56, 3) := by decide +kernel
theorem d_SF_seal_114 : decode b_SF_seal 114 = .ok (.invokevirtual 85, 3) := by decide +kernel
theorem d_SF_seal_117 : decode b_SF_seal 117 = .ok (.invokevirtual 88, 3) := by decide +kernel
theorem d_SF_seal_120 : decode b_SF_seal 120 = .ok (.aload_n 0, 1) := by decide +kernel
theorem d_SF_seal_121 : decode b_SF_seal 121 = .ok (.iload_n 2, 1) := by decide +kernel
theorem d_SF_seal_122 : decode b_SF_seal 122 = .ok (.invokevirtual 91, 3) := by decide +kernel
theorem d_SF_seal_125 : decode b_SF_seal 125 = .ok (.aload_n 0, 1) := by decide +kernel
theorem d_SF_seal_126 : decode b_SF_seal 126 = .ok (.getfield 24, 3) := by decide +kernel
theorem d_SF_seal_129 : decode b_SF_seal 129 = .ok (.invokevirtual 56, 3) := by decide +kernel
theorem d_SF_seal_132 : decode b_SF_seal 132 = .ok (.ireturn, 1) := by decide +kernel
theorem d_SF_takeDraft_0 : decode b_SF_takeDraft 0 = .ok (.aload_n 0, 1) := by decide +kernel
theorem d_SF_takeDraft_1 : decode b_SF_takeDraft 1 = .ok (.getfield 24, 3) := by decide +kernel
theorem d_SF_takeDraft_4 : decode b_SF_takeDraft 4 = .ok (.iconst 0, 1) := by decide +kernel
theorem d_SF_takeDraft_5 : decode b_SF_takeDraft 5 = .ok (.invokevirtual 64, 3) := by decide +kernel
theorem d_SF_takeDraft_8 : decode b_SF_takeDraft 8 = .ok (.pop, 1) := by decide +kernel
theorem d_SF_takeDraft_9 : decode b_SF_takeDraft 9 = .ok (.aload_n 0, 1) := by decide +kernel
theorem d_SF_takeDraft_10 : decode b_SF_takeDraft 10 = .ok (.invokevirtual 181, 3) := by decide +kernel
theorem d_SF_takeDraft_13 : decode b_SF_takeDraft 13 = .ok (.istore_n 1, 1) := by decide +kernel
theorem d_SF_takeDraft_14 : decode b_SF_takeDraft 14 = .ok (.iconst 0, 1) := by decide +kernel
theorem d_SF_takeDraft_15 : decode b_SF_takeDraft 15 = .ok (.istore_n 2, 1) := by decide +kernel
theorem d_SF_takeDraft_16 : decode b_SF_takeDraft 16 = .ok (.iload_n 2, 1) := by decide +kernel
theorem d_SF_takeDraft_17 : decode b_SF_takeDraft 17 = .ok (.iload_n 1, 1) := by decide +kernel
theorem d_SF_takeDraft_18 : decode b_SF_takeDraft 18 = .ok (.if_icmp .ge 69, 3) := by decide +kernel
theorem d_SF_takeDraft_21 : decode b_SF_takeDraft 21 = .ok (.iload_n 2, 1) := by decide +kernel
theorem d_SF_takeDraft_22 : decode b_SF_takeDraft 22 = .ok (.bipush 8, 2) := by decide +kernel
theorem d_SF_takeDraft_24 : decode b_SF_takeDraft 24 = .ok (.imul, 1) := by decide +kernel
theorem d_SF_takeDraft_25 : decode b_SF_takeDraft 25 = .ok (.bipush 6, 2) := by decide +kernel
theorem d_SF_takeDraft_27 : decode b_SF_takeDraft 27 = .ok (.idiv, 1) := by decide +kernel
theorem d_SF_takeDraft_28 : decode b_SF_takeDraft 28 = .ok (.istore_n 3, 1) := by decide +kernel
theorem d_SF_takeDraft_29 : decode b_SF_takeDraft 29 = .ok (.iload_n 2, 1) := by decide +kernel
theorem d_SF_takeDraft_30 : decode b_SF_takeDraft 30 = .ok (.bipush 8, 2) := by decide +kernel
theorem d_SF_takeDraft_32 : decode b_SF_takeDraft 32 = .ok (.imul, 1) := by decide +kernel
theorem d_SF_takeDraft_33 : decode b_SF_takeDraft 33 = .ok (.bipush 6, 2) := by decide +kernel
theorem d_SF_takeDraft_35 : decode b_SF_takeDraft 35 = .ok (.irem, 1) := by decide +kernel
theorem d_SF_takeDraft_36 : decode b_SF_takeDraft 36 = .ok (.istore 4, 2) := by decide +kernel
theorem d_SF_takeDraft_38 : decode b_SF_takeDraft 38 = .ok (.aload_n 0, 1) := by decide +kernel
theorem d_SF_takeDraft_39 : decode b_SF_takeDraft 39 = .ok (.getfield 27, 3) := by decide +kernel
theorem d_SF_takeDraft_42 : decode b_SF_takeDraft 42 = .ok (.iload_n 3, 1) := by decide +kernel
theorem d_SF_takeDraft_43 : decode b_SF_takeDraft 43 = .ok (.invokevirtual 60, 3) := by decide +kernel
theorem d_SF_takeDraft_46 : decode b_SF_takeDraft 46 = .ok (.bipush 6, 2) := by decide +kernel
theorem d_SF_takeDraft_48 : decode b_SF_takeDraft 48 = .ok (.ishl, 1) := by decide +kernel
theorem d_SF_takeDraft_49 : decode b_SF_takeDraft 49 = .ok (.aload_n 0, 1) := by decide +kernel
theorem d_SF_takeDraft_50 : decode b_SF_takeDraft 50 = .ok (.getfield 27, 3) := by decide +kernel
theorem d_SF_takeDraft_53 : decode b_SF_takeDraft 53 = .ok (.iload_n 3, 1) := by decide +kernel
theorem d_SF_takeDraft_54 : decode b_SF_takeDraft 54 = .ok (.iconst 1, 1) := by decide +kernel
theorem d_SF_takeDraft_55 : decode b_SF_takeDraft 55 = .ok (.iadd, 1) := by decide +kernel
theorem d_SF_takeDraft_56 : decode b_SF_takeDraft 56 = .ok (.invokevirtual 60, 3) := by decide +kernel
theorem d_SF_takeDraft_59 : decode b_SF_takeDraft 59 = .ok (.ior, 1) := by decide +kernel
theorem d_SF_takeDraft_60 : decode b_SF_takeDraft 60 = .ok (.istore 5, 2) := by decide +kernel
theorem d_SF_takeDraft_62 : decode b_SF_takeDraft 62 = .ok (.aload_n 0, 1) := by decide +kernel
theorem d_SF_takeDraft_63 : decode b_SF_takeDraft 63 = .ok (.getfield 24, 3) := by decide +kernel
theorem d_SF_takeDraft_66 : decode b_SF_takeDraft 66 = .ok (.iload 5, 2) := by decide +kernel
theorem d_SF_takeDraft_68 : decode b_SF_takeDraft 68 = .ok (.iconst 4, 1) := by decide +kernel
theorem d_SF_takeDraft_69 : decode b_SF_takeDraft 69 = .ok (.iload 4, 2) := by decide +kernel
theorem d_SF_takeDraft_71 : decode b_SF_takeDraft 71 = .ok (.isub, 1) := by decide +kernel
theorem d_SF_takeDraft_72 : decode b_SF_takeDraft 72 = .ok (.iushr, 1) := by decide +kernel
theorem d_SF_takeDraft_73 : decode b_SF_takeDraft 73 = .ok (.sipush 255, 3) := by decide +kernel
theorem d_SF_takeDraft_76 : decode b_SF_takeDraft 76 = .ok (.iand, 1) := by decide +kernel
theorem d_SF_takeDraft_77 : decode b_SF_takeDraft 77 = .ok (.invokevirtual 41, 3) := by decide +kernel
theorem d_SF_takeDraft_80 : decode b_SF_takeDraft 80 = .ok (.pop, 1) := by decide +kernel
theorem d_SF_takeDraft_81 : decode b_SF_takeDraft 81 = .ok (.iinc 2 1, 3) := by decide +kernel
theorem d_SF_takeDraft_84 : decode b_SF_takeDraft 84 = .ok (.goto (-68), 3) := by decide +kernel
theorem d_SF_takeDraft_87 : decode b_SF_takeDraft 87 = .ok (.return_, 1) := by decide +kernel
theorem d_SF_takePieces_0 : decode b_SF_takePieces 0 = .ok (.aload_n 0, 1) := by decide +kernel
theorem d_SF_takePieces_1 : decode b_SF_takePieces 1 = .ok (.getfield 21, 3) := by decide +kernel
theorem d_SF_takePieces_4 : decode b_SF_takePieces 4 = .ok (.iconst 0, 1) := by decide +kernel
theorem d_SF_takePieces_5 : decode b_SF_takePieces 5 = .ok (.invokevirtual 64, 3) := by decide +kernel
theorem d_SF_takePieces_8 : decode b_SF_takePieces 8 = .ok (.pop, 1) := by decide +kernel
theorem d_SF_takePieces_9 : decode b_SF_takePieces 9 = .ok (.bipush 10, 2) := by decide +kernel
theorem d_SF_takePieces_11 : decode b_SF_takePieces 11 = .ok (.istore_n 3, 1) := by decide +kernel
theorem d_SF_takePieces_12 : decode b_SF_takePieces 12 = .ok (.aload_n 0, 1) := by decide +kernel
theorem d_SF_takePieces_13 : decode b_SF_takePieces 13 = .ok (.getfield 24, 3) := by decide +kernel
theorem d_SF_takePieces_16 : decode b_SF_takePieces 16 = .ok (.invokevirtual 56, 3) := by decide +kernel
theorem d_SF_takePieces_19 : decode b_SF_takePieces 19 = .ok (.iload_n 2, 1) := by decide +kernel
theorem d_SF_takePieces_20 : decode b_SF_takePieces 20 = .ok (.isub, 1) := by decide +kernel
theorem d_SF_takePieces_21 : decode b_SF_takePieces 21 = .ok (.iconst 1, 1) := by decide +kernel
theorem d_SF_takePieces_22 : decode b_SF_takePieces 22 = .ok (.isub, 1) := by decide +kernel
theorem d_SF_takePieces_23 : decode b_SF_takePieces 23 = .ok (.iload_n 3, 1) := by decide +kernel
theorem d_SF_takePieces_24 : decode b_SF_takePieces 24 = .ok (.idiv, 1) := by decide +kernel
theorem d_SF_takePieces_25 : decode b_SF_takePieces 25 = .ok (.istore 4, 2) := by decide +kernel
theorem d_SF_takePieces_27 : decode b_SF_takePieces 27 = .ok (.iconst 0, 1) := by decide +kernel
theorem d_SF_takePieces_28 : decode b_SF_takePieces 28 = .ok (.istore 5, 2) := by decide +kernel
theorem d_SF_takePieces_30 : decode b_SF_takePieces 30 = .ok (.iload 5, 2) := by decide +kernel
theorem d_SF_takePieces_32 : decode b_SF_takePieces 32 = .ok (.iload 4, 2) := by decide +kernel
theorem d_SF_takePieces_34 : decode b_SF_takePieces 34 = .ok (.if_icmp .gt 149, 3) := by decide +kernel
theorem d_SF_takePieces_37 : decode b_SF_takePieces 37 = .ok (.iload 5, 2) := by decide +kernel
theorem d_SF_takePieces_39 : decode b_SF_takePieces 39 = .ok (.iload 4, 2) := by decide +kernel
theorem d_SF_takePieces_41 : decode b_SF_takePieces 41 = .ok (.if_icmp .ne 7, 3) := by decide +kernel
theorem d_SF_takePieces_44 : decode b_SF_takePieces 44 = .ok (.iconst 1, 1) := by decide +kernel
theorem d_SF_takePieces_45 : decode b_SF_takePieces 45 = .ok (.goto 4, 3) := by decide +kernel
theorem d_SF_takePieces_48 : decode b_SF_takePieces 48 = .ok (.iconst 0, 1) := by decide +kernel
theorem d_SF_takePieces_49 : decode b_SF_takePieces 49 = .ok (.istore 6, 2) := by decide +kernel
theorem d_SF_takePieces_51 : decode b_SF_takePieces 51 = .ok (.iload_n 2, 1) := by decide +kernel
theorem d_SF_takePieces_52 : decode b_SF_takePieces 52 = .ok (.iload 5, 2) := by decide +kernel
theorem d_SF_takePieces_54 : decode b_SF_takePieces 54 = .ok (.iload_n 3, 1) := by decide +kernel
theorem d_SF_takePieces_55 : decode b_SF_takePieces 55 = .ok (.imul, 1) := by decide +kernel
theorem d_SF_takePieces_56 : decode b_SF_takePieces 56 = .ok (.iadd, 1) := by decide +kernel
theorem d_SF_takePieces_57 : decode b_SF_takePieces 57 = .ok (.istore 7, 2) := by decide +kernel
theorem d_SF_takePieces_59 : decode b_SF_takePieces 59 = .ok (.iload 6, 2) := by decide +kernel
theorem d_SF_takePieces_61 : decode b_SF_takePieces 61 = .ok (.ifCond .eq 15, 3) := by decide +kernel
theorem d_SF_takePieces_64 : decode b_SF_takePieces 64 = .ok (.aload_n 0, 1) := by decide +kernel
theorem d_SF_takePieces_65 : decode b_SF_takePieces 65 = .ok (.getfield 24, 3) := by decide +kernel
theorem d_SF_takePieces_68 : decode b_SF_takePieces 68 = .ok (.invokevirtual 56, 3) := by decide +kernel
theorem d_SF_takePieces_71 : decode b_SF_takePieces 71 = .ok (.iconst 2, 1) := by decide +kernel
theorem d_SF_takePieces_72 : decode b_SF_takePieces 72 = .ok (.isub, 1) := by decide +kernel
theorem d_SF_takePieces_73 : decode b_SF_takePieces 73 = .ok (.goto 8, 3) := by decide +kernel
theorem d_SF_takePieces_76 : decode b_SF_takePieces 76 = .ok (.iload 7, 2) := by decide +kernel
theorem d_SF_takePieces_78 : decode b_SF_takePieces 78 = .ok (.bipush 8, 2) := by decide +kernel
theorem d_SF_takePieces_80 : decode b_SF_takePieces 80 = .ok (.iadd, 1) := by decide +kernel
theorem d_SF_takePieces_81 : decode b_SF_takePieces 81 = .ok (.istore 8, 2) := by decide +kernel
theorem d_SF_takePieces_83 : decode b_SF_takePieces 83 = .ok (.iload 8, 2) := by decide +kernel
theorem d_SF_takePieces_85 : decode b_SF_takePieces 85 = .ok (.iload 7, 2) := by decide +kernel
theorem d_SF_takePieces_87 : decode b_SF_takePieces 87 = .ok (.if_icmp .ge 6, 3) := by decide +kernel
theorem d_SF_takePieces_90 : decode b_SF_takePieces 90 = .ok (.bipush (-4), 2) := by decide +kernel
theorem d_SF_takePieces_92 : decode b_SF_takePieces 92 = .ok (.ireturn, 1) := by decide +kernel
theorem d_SF_takePieces_93 : decode b_SF_takePieces 93 = .ok (.aload_n 0, 1) := by decide +kernel
theorem d_SF_takePieces_94 : decode b_SF_takePieces 94 = .ok (.getfield 24, 3) := by decide +kernel
theorem d_SF_takePieces_97 : decode b_SF_takePieces 97 = .ok (.iload 8, 2) := by decide +kernel
theorem d_SF_takePieces_99 : decode b_SF_takePieces 99 = .ok (.invokevirtual 112, 3) := by decide +kernel
theorem d_SF_takePieces_102 : decode b_SF_takePieces 102 = .ok (.istore 9, 2) := by decide +kernel
theorem d_SF_takePieces_104 : decode b_SF_takePieces 104 = .ok (.iload 9, 2) := by decide +kernel
theorem d_SF_takePieces_106 : decode b_SF_takePieces 106 = .ok (.aload_n 0, 1) := by decide +kernel
theorem d_SF_takePieces_107 : decode b_SF_takePieces 107 = .ok (.iload_n 1, 1) := by decide +kernel
theorem d_SF_takePieces_108 : decode b_SF_takePieces 108 = .ok (.iload 5, 2) := by decide +kernel
theorem d_SF_takePieces_110 : decode b_SF_takePieces 110 = .ok (.iload 7, 2) := by decide +kernel
theorem d_SF_takePieces_112 : decode b_SF_takePieces 112 = .ok (.iload 8, 2) := by decide +kernel
theorem d_SF_takePieces_114 : decode b_SF_takePieces 114 = .ok (.iload 6, 2) := by decide +kernel
theorem d_SF_takePieces_116 : decode b_SF_takePieces 116 = .ok (.invokevirtual 170, 3) := by decide +kernel
theorem d_SF_takePieces_119 : decode b_SF_takePieces 119 = .ok (.if_icmp .eq 37, 3) := by decide +kernel
theorem d_SF_takePieces_122 : decode b_SF_takePieces 122 = .ok (.iload 9, 2) := by decide +kernel
theorem d_SF_takePieces_124 : decode b_SF_takePieces 124 = .ok (.aload_n 0, 1) := by decide +kernel
theorem d_SF_takePieces_125 : decode b_SF_takePieces 125 = .ok (.iload_n 1, 1) := by decide +kernel
theorem d_SF_takePieces_126 : decode b_SF_takePieces 126 = .ok (.iload 5, 2) := by decide +kernel
theorem d_SF_takePieces_128 : decode b_SF_takePieces 128 = .ok (.iload 7, 2) := by decide +kernel
theorem d_SF_takePieces_130 : decode b_SF_takePieces 130 = .ok (.iload 8, 2) := by decide +kernel
theorem d_SF_takePieces_132 : decode b_SF_takePieces 132 = .ok (.iload 6, 2) := by decide +kernel
theorem d_SF_takePieces_134 : decode b_SF_takePieces 134 = .ok (.ifCond .ne 7, 3) := by decide +kernel
theorem d_SF_takePieces_137 : decode b_SF_takePieces 137 = .ok (.iconst 1, 1) := by decide +kernel
theorem d_SF_takePieces_138 : decode b_SF_takePieces 138 = .ok (.goto 4, 3) := by decide +kernel
theorem d_SF_takePieces_141 : decode b_SF_takePieces 141 = .ok (.iconst 0, 1) := by decide +kernel
theorem d_SF_takePieces_142 : decode b_SF_takePieces 142 = .ok (.invokevirtual 170, 3) := by decide +kernel
theorem d_SF_takePieces_145 : decode b_SF_takePieces 145 = .ok (.if_icmp .ne 8, 3) := by decide +kernel
theorem d_SF_takePieces_148 : decode b_SF_takePieces 148 = .ok (.bipush (-5), 2) := by decide +kernel
theorem d_SF_takePieces_150 : decode b_SF_takePieces 150 = .ok (.goto 5, 3) := by decide +kernel
theorem d_SF_takePieces_153 : decode b_SF_takePieces 153 = .ok (.bipush (-4), 2) := by decide +kernel
theorem d_SF_takePieces_155 : decode b_SF_takePieces 155 = .ok (.ireturn, 1) := by decide +kernel
theorem d_SF_takePieces_156 : decode b_SF_takePieces 156 = .ok (.aload_n 0, 1) := by decide +kernel
theorem d_SF_takePieces_157 : decode b_SF_takePieces 157 = .ok (.iload_n 1, 1) := by decide +kernel
theorem d_SF_takePieces_158 : decode b_SF_takePieces 158 = .ok (.iload 5, 2) := by decide +kernel
theorem d_SF_takePieces_160 : decode b_SF_takePieces 160 = .ok (.iload 7, 2) := by decide +kernel
theorem d_SF_takePieces_162 : decode b_SF_takePieces 162 = .ok (.iload 8, 2) := by decide +kernel
theorem d_SF_takePieces_164 : decode b_SF_takePieces 164 = .ok (.invokevirtual 177, 3) := by decide +kernel
theorem d_SF_takePieces_167 : decode b_SF_takePieces 167 = .ok (.aload_n 0, 1) := by decide +kernel
theorem d_SF_takePieces_168 : decode b_SF_takePieces 168 = .ok (.dup, 1) := by decide +kernel
theorem d_SF_takePieces_169 : decode b_SF_takePieces 169 = .ok (.getfield 30, 3) := by decide +kernel
theorem d_SF_takePieces_172 : decode b_SF_takePieces 172 = .ok (.iconst 1, 1) := by decide +kernel
theorem d_SF_takePieces_173 : decode b_SF_takePieces 173 = .ok (.iadd, 1) := by decide +kernel
theorem d_SF_takePieces_174 : decode b_SF_takePieces 174 = .ok (.putfield 30, 3) := by decide +kernel
theorem d_SF_takePieces_177 : decode b_SF_takePieces 177 = .ok (.iinc 5 1, 3) := by decide +kernel
theorem d_SF_takePieces_180 : decode b_SF_takePieces 180 = .ok (.goto (-150), 3) := by decide +kernel
theorem d_SF_takePieces_183 : decode b_SF_takePieces 183 = .ok (.aload_n 0, 1) := by decide +kernel
theorem d_SF_takePieces_184 : decode b_SF_takePieces 184 = .ok (.getfield 21, 3) := by decide +kernel
theorem d_SF_takePieces_187 : decode b_SF_takePieces 187 = .ok (.invokevirtual 56, 3) := by decide +kernel
theorem d_SF_takePieces_190 : decode b_SF_takePieces 190 = .ok (.ireturn, 1) := by decide +kernel
theorem d_SF_uncover_0 : decode b_SF_uncover 0 = .ok (.iload_n 3, 1) := by decide +kernel
theorem d_SF_uncover_1 : decode b_SF_uncover 1 = .ok (.istore 5, 2) := by decide +kernel
theorem d_SF_uncover_3 : decode b_SF_uncover 3 = .ok (.iload 5, 2) := by decide +kernel
theorem d_SF_uncover_5 : decode b_SF_uncover 5 = .ok (.iload 4, 2) := by decide +kernel
theorem d_SF_uncover_7 : decode b_SF_uncover 7 = .ok (.if_icmp .ge 35, 3) := by decide +kernel
theorem d_SF_uncover_10 : decode b_SF_uncover 10 = .ok (.aload_n 0, 1) := by decide +kernel
theorem d_SF_uncover_11 : decode b_SF_uncover 11 = .ok (.getfield 21, 3) := by decide +kernel
theorem d_SF_uncover_14 : decode b_SF_uncover 14 = .ok (.aload_n 0, 1) := by decide +kernel
theorem d_SF_uncover_15 : decode b_SF_uncover 15 = .ok (.getfield 24, 3) := by decide +kernel
theorem d_SF_uncover_18 : decode b_SF_uncover 18 = .ok (.iload 5, 2) := by decide +kernel
theorem d_SF_uncover_20 : decode b_SF_uncover 20 = .ok (.invokevirtual 60, 3) := by decide +kernel
theorem d_SF_uncover_23 : decode b_SF_uncover 23 = .ok (.iload_n 1, 1) := by decide +kernel
theorem d_SF_uncover_24 : decode b_SF_uncover 24 = .ok (.iload_n 2, 1) := by decide +kernel
theorem d_SF_uncover_25 : decode b_SF_uncover 25 = .ok (.iload 5, 2) := by decide +kernel
theorem d_SF_uncover_27 : decode b_SF_uncover 27 = .ok (.iload_n 3, 1) := by decide +kernel
theorem d_SF_uncover_28 : decode b_SF_uncover 28 = .ok (.isub, 1) := by decide +kernel
theorem d_SF_uncover_29 : decode b_SF_uncover 29 = .ok (.invokestatic 166, 3) := by decide +kernel
theorem d_SF_uncover_32 : decode b_SF_uncover 32 = .ok (.invokevirtual 41, 3) := by decide +kernel
theorem d_SF_uncover_35 : decode b_SF_uncover 35 = .ok (.pop, 1) := by decide +kernel
theorem d_SF_uncover_36 : decode b_SF_uncover 36 = .ok (.iinc 5 1, 3) := by decide +kernel
theorem d_SF_uncover_39 : decode b_SF_uncover 39 = .ok (.goto (-36), 3) := by decide +kernel
theorem d_SF_uncover_42 : decode b_SF_uncover 42 = .ok (.return_, 1) := by decide +kernel
theorem d_SF_unwrapped_0 : decode b_SF_unwrapped 0 = .ok (.aload_n 0, 1) := by decide +kernel
theorem d_SF_unwrapped_1 : decode b_SF_unwrapped 1 = .ok (.getfield 24, 3) := by decide +kernel
theorem d_SF_unwrapped_4 : decode b_SF_unwrapped 4 = .ok (.iload_n 1, 1) := by decide +kernel
theorem d_SF_unwrapped_5 : decode b_SF_unwrapped 5 = .ok (.iconst 2, 1) := by decide +kernel
theorem d_SF_unwrapped_6 : decode b_SF_unwrapped 6 = .ok (.iadd, 1) := by decide +kernel
theorem d_SF_unwrapped_7 : decode b_SF_unwrapped 7 = .ok (.invokevirtual 112, 3) := by decide +kernel
theorem d_SF_unwrapped_10 : decode b_SF_unwrapped 10 = .ok (.bipush 16, 2) := by decide +kernel
theorem d_SF_unwrapped_12 : decode b_SF_unwrapped 12 = .ok (.ishl, 1) := by decide +kernel
theorem d_SF_unwrapped_13 : decode b_SF_unwrapped 13 = .ok (.aload_n 0, 1) := by decide +kernel
theorem d_SF_unwrapped_14 : decode b_SF_unwrapped 14 = .ok (.getfield 24, 3) := by decide +kernel
theorem d_SF_unwrapped_17 : decode b_SF_unwrapped 17 = .ok (.iload_n 1, 1) := by decide +kernel
theorem d_SF_unwrapped_18 : decode b_SF_unwrapped 18 = .ok (.iconst 4, 1) := by decide +kernel
theorem d_SF_unwrapped_19 : decode b_SF_unwrapped 19 = .ok (.iadd, 1) := by decide +kernel
theorem d_SF_unwrapped_20 : decode b_SF_unwrapped 20 = .ok (.invokevirtual 112, 3) := by decide +kernel
theorem d_SF_unwrapped_23 : decode b_SF_unwrapped 23 = .ok (.ior, 1) := by decide +kernel
theorem d_SF_unwrapped_24 : decode b_SF_unwrapped 24 = .ok (.istore_n 3, 1) := by decide +kernel
theorem d_SF_unwrapped_25 : decode b_SF_unwrapped 25 = .ok (.iload_n 3, 1) := by decide +kernel
theorem d_SF_unwrapped_26 : decode b_SF_unwrapped 26 = .ok (.aload_n 0, 1) := by decide +kernel
theorem d_SF_unwrapped_27 : decode b_SF_unwrapped 27 = .ok (.iload_n 1, 1) := by decide +kernel
theorem d_SF_unwrapped_28 : decode b_SF_unwrapped 28 = .ok (.iload_n 2, 1) := by decide +kernel
theorem d_SF_unwrapped_29 : decode b_SF_unwrapped 29 = .ok (.invokevirtual 174, 3) := by decide +kernel
theorem d_SF_unwrapped_32 : decode b_SF_unwrapped 32 = .ok (.aload_n 0, 1) := by decide +kernel
theorem d_SF_unwrapped_33 : decode b_SF_unwrapped 33 = .ok (.getfield 18, 3) := by decide +kernel
theorem d_SF_unwrapped_36 : decode b_SF_unwrapped 36 = .ok (.iload_n 2, 1) := by decide +kernel
theorem d_SF_unwrapped_37 : decode b_SF_unwrapped 37 = .ok (.invokevirtual 60, 3) := by decide +kernel
theorem d_SF_unwrapped_40 : decode b_SF_unwrapped 40 = .ok (.iconst 1, 1) := by decide +kernel
theorem d_SF_unwrapped_41 : decode b_SF_unwrapped 41 = .ok (.invokestatic 148, 3) := by decide +kernel
theorem d_SF_unwrapped_44 : decode b_SF_unwrapped 44 = .ok (.ixor, 1) := by decide +kernel
theorem d_SF_unwrapped_45 : decode b_SF_unwrapped 45 = .ok (.ireturn, 1) := by decide +kernel
theorem d_SF_write_0 : decode b_SF_write 0 = .ok (.ldc 129, 2) := by decide +kernel
theorem d_SF_write_2 : decode b_SF_write 2 = .ok (.iload_n 1, 1) := by decide +kernel
theorem d_SF_write_3 : decode b_SF_write 3 = .ok (.invokevirtual 137, 3) := by decide +kernel
theorem d_SF_write_6 : decode b_SF_write 6 = .ok (.istore_n 2, 1) := by decide +kernel
theorem d_SF_write_7 : decode b_SF_write 7 = .ok (.iload_n 2, 1) := by decide +kernel
theorem d_SF_write_8 : decode b_SF_write 8 = .ok (.ifCond .lt 18, 3) := by decide +kernel
theorem d_SF_write_11 : decode b_SF_write 11 = .ok (.aload_n 0, 1) := by decide +kernel
theorem d_SF_write_12 : decode b_SF_write 12 = .ok (.getfield 27, 3) := by decide +kernel
theorem d_SF_write_15 : decode b_SF_write 15 = .ok (.iload_n 2, 1) := by decide +kernel
theorem d_SF_write_16 : decode b_SF_write 16 = .ok (.invokevirtual 41, 3) := by decide +kernel
theorem d_SF_write_19 : decode b_SF_write 19 = .ok (.ifCond .eq 7, 3) := by decide +kernel
theorem d_SF_write_22 : decode b_SF_write 22 = .ok (.iconst 1, 1) := by decide +kernel
theorem d_SF_write_23 : decode b_SF_write 23 = .ok (.goto 4, 3) := by decide +kernel
theorem d_SF_write_26 : decode b_SF_write 26 = .ok (.iconst 0, 1) := by decide +kernel
theorem d_SF_write_27 : decode b_SF_write 27 = .ok (.ireturn, 1) := by decide +kernel
end
section
theorem d_MD_add_0 : decode b_MD_add 0 = .ok (.aload_n 0, 1) := by decide +kernel
theorem d_MD_add_1 : decode b_MD_add 1 = .ok (.getfield 16, 3) := by decide +kernel
theorem d_MD_add_4 : decode b_MD_add 4 = .ok (.aload_n 0, 1) := by decide +kernel
theorem d_MD_add_5 : decode b_MD_add 5 = .ok (.getfield 56, 3) := by decide +kernel
theorem d_MD_add_8 : decode b_MD_add 8 = .ok (.iload_n 1, 1) := by decide +kernel
theorem d_MD_add_9 : decode b_MD_add 9 = .ok (.sipush 255, 3) := by decide +kernel
theorem d_MD_add_12 : decode b_MD_add 12 = .ok (.iand, 1) := by decide +kernel
theorem d_MD_add_13 : decode b_MD_add 13 = .ok (.iastore, 1) := by decide +kernel
theorem d_MD_add_14 : decode b_MD_add 14 = .ok (.aload_n 0, 1) := by decide +kernel
theorem d_MD_add_15 : decode b_MD_add 15 = .ok (.dup, 1) := by decide +kernel
theorem d_MD_add_16 : decode b_MD_add 16 = .ok (.getfield 56, 3) := by decide +kernel
theorem d_MD_add_19 : decode b_MD_add 19 = .ok (.iconst 1, 1) := by decide +kernel
theorem d_MD_add_20 : decode b_MD_add 20 = .ok (.iadd, 1) := by decide +kernel
theorem d_MD_add_21 : decode b_MD_add 21 = .ok (.putfield 56, 3) := by decide +kernel
theorem d_MD_add_24 : decode b_MD_add 24 = .ok (.return_, 1) := by decide +kernel
theorem d_MD_addTwo_0 : decode b_MD_addTwo 0 = .ok (.aload_n 0, 1) := by decide +kernel
theorem d_MD_addTwo_1 : decode b_MD_addTwo 1 = .ok (.iload_n 1, 1) := by decide +kernel
theorem d_MD_addTwo_2 : decode b_MD_addTwo 2 = .ok (.bipush 8, 2) := by decide +kernel
theorem d_MD_addTwo_4 : decode b_MD_addTwo 4 = .ok (.ishr, 1) := by decide +kernel
theorem d_MD_addTwo_5 : decode b_MD_addTwo 5 = .ok (.invokevirtual 59, 3) := by decide +kernel
theorem d_MD_addTwo_8 : decode b_MD_addTwo 8 = .ok (.aload_n 0, 1) := by decide +kernel
theorem d_MD_addTwo_9 : decode b_MD_addTwo 9 = .ok (.iload_n 1, 1) := by decide +kernel
theorem d_MD_addTwo_10 : decode b_MD_addTwo 10 = .ok (.invokevirtual 59, 3) := by decide +kernel
theorem d_MD_addTwo_13 : decode b_MD_addTwo 13 = .ok (.return_, 1) := by decide +kernel
theorem d_MD_address_0 : decode b_MD_address 0 = .ok (.aload_n 0, 1) := by decide +kernel
theorem d_MD_address_1 : decode b_MD_address 1 = .ok (.iconst 0, 1) := by decide +kernel
theorem d_MD_address_2 : decode b_MD_address 2 = .ok (.putfield 26, 3) := by decide +kernel
theorem d_MD_address_5 : decode b_MD_address 5 = .ok (.aload_n 0, 1) := by decide +kernel
theorem d_MD_address_6 : decode b_MD_address 6 = .ok (.iload_n 1, 1) := by decide +kernel
theorem d_MD_address_7 : decode b_MD_address 7 = .ok (.invokevirtual 45, 3) := by decide +kernel
theorem d_MD_address_10 : decode b_MD_address 10 = .ok (.ifCond .eq 16, 3) := by decide +kernel
theorem d_MD_address_13 : decode b_MD_address 13 = .ok (.iconst 2, 1) := by decide +kernel
theorem d_MD_address_14 : decode b_MD_address 14 = .ok (.aload_n 0, 1) := by decide +kernel
theorem d_MD_address_15 : decode b_MD_address 15 = .ok (.getfield 7, 3) := by decide +kernel
theorem d_MD_address_18 : decode b_MD_address 18 = .ok (.iload_n 1, 1) := by decide +kernel
theorem d_MD_address_19 : decode b_MD_address 19 = .ok (.iaload, 1) := by decide +kernel
theorem d_MD_address_20 : decode b_MD_address 20 = .ok (.invokestatic 49, 3) := by decide +kernel
theorem d_MD_address_23 : decode b_MD_address 23 = .ok (.goto 4, 3) := by decide +kernel
theorem d_MD_address_26 : decode b_MD_address 26 = .ok (.iconst (-1), 1) := by decide +kernel
theorem d_MD_address_27 : decode b_MD_address 27 = .ok (.ireturn, 1) := by decide +kernel
theorem d_MD_alter_0 : decode b_MD_alter 0 = .ok (.aload_n 0, 1) := by decide +kernel
theorem d_MD_alter_1 : decode b_MD_alter 1 = .ok (.iconst 0, 1) := by decide +kernel
theorem d_MD_alter_2 : decode b_MD_alter 2 = .ok (.putfield 26, 3) := by decide +kernel
theorem d_MD_alter_5 : decode b_MD_alter 5 = .ok (.iload_n 1, 1) := by decide +kernel
theorem d_MD_alter_6 : decode b_MD_alter 6 = .ok (.ifCond .lt 11, 3) := by decide +kernel
theorem d_MD_alter_9 : decode b_MD_alter 9 = .ok (.iload_n 1, 1) := by decide +kernel
theorem d_MD_alter_10 : decode b_MD_alter 10 = .ok (.aload_n 0, 1) := by decide +kernel
theorem d_MD_alter_11 : decode b_MD_alter 11 = .ok (.getfield 56, 3) := by decide +kernel
theorem d_MD_alter_14 : decode b_MD_alter 14 = .ok (.if_icmp .lt 9, 3) := by decide +kernel
theorem d_MD_alter_17 : decode b_MD_alter 17 = .ok (.aload_n 0, 1) := by decide +kernel
theorem d_MD_alter_18 : decode b_MD_alter 18 = .ok (.iconst 1, 1) := by decide +kernel
theorem d_MD_alter_19 : decode b_MD_alter 19 = .ok (.invokevirtual 39, 3) := by decide +kernel
theorem d_MD_alter_22 : decode b_MD_alter 22 = .ok (.ireturn, 1) := by decide +kernel
theorem d_MD_alter_23 : decode b_MD_alter 23 = .ok (.aload_n 0, 1) := by decide +kernel
theorem d_MD_alter_24 : decode b_MD_alter 24 = .ok (.getfield 16, 3) := by decide +kernel
theorem d_MD_alter_27 : decode b_MD_alter 27 = .ok (.iload_n 1, 1) := by decide +kernel
theorem d_MD_alter_28 : decode b_MD_alter 28 = .ok (.aload_n 0, 1) := by decide +kernel
theorem d_MD_alter_29 : decode b_MD_alter 29 = .ok (.getfield 16, 3) := by decide +kernel
theorem d_MD_alter_32 : decode b_MD_alter 32 = .ok (.iload_n 1, 1) := by decide +kernel
theorem d_MD_alter_33 : decode b_MD_alter 33 = .ok (.iaload, 1) := by decide +kernel
theorem d_MD_alter_34 : decode b_MD_alter 34 = .ok (.iload_n 2, 1) := by decide +kernel
theorem d_MD_alter_35 : decode b_MD_alter 35 = .ok (.sipush 255, 3) := by decide +kernel
theorem d_MD_alter_38 : decode b_MD_alter 38 = .ok (.iand, 1) := by decide +kernel
theorem d_MD_alter_39 : decode b_MD_alter 39 = .ok (.ixor, 1) := by decide +kernel
theorem d_MD_alter_40 : decode b_MD_alter 40 = .ok (.iastore, 1) := by decide +kernel
theorem d_MD_alter_41 : decode b_MD_alter 41 = .ok (.aload_n 0, 1) := by decide +kernel
theorem d_MD_alter_42 : decode b_MD_alter 42 = .ok (.getfield 16, 3) := by decide +kernel
theorem d_MD_alter_45 : decode b_MD_alter 45 = .ok (.iload_n 1, 1) := by decide +kernel
theorem d_MD_alter_46 : decode b_MD_alter 46 = .ok (.iaload, 1) := by decide +kernel
theorem d_MD_alter_47 : decode b_MD_alter 47 = .ok (.ireturn, 1) := by decide +kernel
theorem d_MD_at_0 : decode b_MD_at 0 = .ok (.aload_n 0, 1) := by decide +kernel
theorem d_MD_at_1 : decode b_MD_at 1 = .ok (.iconst 0, 1) := by decide +kernel
theorem d_MD_at_2 : decode b_MD_at 2 = .ok (.putfield 26, 3) := by decide +kernel
theorem d_MD_at_5 : decode b_MD_at 5 = .ok (.iload_n 1, 1) := by decide +kernel
theorem d_MD_at_6 : decode b_MD_at 6 = .ok (.ifCond .lt 20, 3) := by decide +kernel
theorem d_MD_at_9 : decode b_MD_at 9 = .ok (.iload_n 1, 1) := by decide +kernel
theorem d_MD_at_10 : decode b_MD_at 10 = .ok (.aload_n 0, 1) := by decide +kernel
theorem d_MD_at_11 : decode b_MD_at 11 = .ok (.getfield 56, 3) := by decide +kernel
theorem d_MD_at_14 : decode b_MD_at 14 = .ok (.if_icmp .ge 12, 3) := by decide +kernel
theorem d_MD_at_17 : decode b_MD_at 17 = .ok (.aload_n 0, 1) := by decide +kernel
theorem d_MD_at_18 : decode b_MD_at 18 = .ok (.getfield 16, 3) := by decide +kernel
theorem d_MD_at_21 : decode b_MD_at 21 = .ok (.iload_n 1, 1) := by decide +kernel
theorem d_MD_at_22 : decode b_MD_at 22 = .ok (.iaload, 1) := by decide +kernel
theorem d_MD_at_23 : decode b_MD_at 23 = .ok (.goto 4, 3) := by decide +kernel
theorem d_MD_at_26 : decode b_MD_at 26 = .ok (.iconst (-1), 1) := by decide +kernel
theorem d_MD_at_27 : decode b_MD_at 27 = .ok (.ireturn, 1) := by decide +kernel
theorem d_MD_bit_0 : decode b_MD_bit 0 = .ok (.iload_n 1, 1) := by decide +kernel
theorem d_MD_bit_1 : decode b_MD_bit 1 = .ok (.bipush 8, 2) := by decide +kernel
theorem d_MD_bit_3 : decode b_MD_bit 3 = .ok (.aload_n 0, 1) := by decide +kernel
theorem d_MD_bit_4 : decode b_MD_bit 4 = .ok (.getfield 56, 3) := by decide +kernel
theorem d_MD_bit_7 : decode b_MD_bit 7 = .ok (.imul, 1) := by decide +kernel
theorem d_MD_bit_8 : decode b_MD_bit 8 = .ok (.if_icmp .ge 25, 3) := by decide +kernel
theorem d_MD_bit_11 : decode b_MD_bit 11 = .ok (.aload_n 0, 1) := by decide +kernel
theorem d_MD_bit_12 : decode b_MD_bit 12 = .ok (.getfield 16, 3) := by decide +kernel
theorem d_MD_bit_15 : decode b_MD_bit 15 = .ok (.iload_n 1, 1) := by decide +kernel
theorem d_MD_bit_16 : decode b_MD_bit 16 = .ok (.bipush 8, 2) := by decide +kernel
theorem d_MD_bit_18 : decode b_MD_bit 18 = .ok (.idiv, 1) := by decide +kernel
theorem d_MD_bit_19 : decode b_MD_bit 19 = .ok (.iaload, 1) := by decide +kernel
theorem d_MD_bit_20 : decode b_MD_bit 20 = .ok (.bipush 7, 2) := by decide +kernel
theorem d_MD_bit_22 : decode b_MD_bit 22 = .ok (.iload_n 1, 1) := by decide +kernel
theorem d_MD_bit_23 : decode b_MD_bit 23 = .ok (.bipush 8, 2) := by decide +kernel
theorem d_MD_bit_25 : decode b_MD_bit 25 = .ok (.irem, 1) := by decide +kernel
theorem d_MD_bit_26 : decode b_MD_bit 26 = .ok (.isub, 1) := by decide +kernel
theorem d_MD_bit_27 : decode b_MD_bit 27 = .ok (.ishr, 1) := by decide +kernel
theorem d_MD_bit_28 : decode b_MD_bit 28 = .ok (.iconst 1, 1) := by decide +kernel
theorem d_MD_bit_29 : decode b_MD_bit 29 = .ok (.iand, 1) := by decide +kernel
theorem d_MD_bit_30 : decode b_MD_bit 30 = .ok (.goto 4, 3) := by decide +kernel
theorem d_MD_bit_33 : decode b_MD_bit 33 = .ok (.iconst 0, 1) := by decide +kernel
theorem d_MD_bit_34 : decode b_MD_bit 34 = .ok (.ireturn, 1) := by decide +kernel
theorem d_MD_clear_0 : decode b_MD_clear 0 = .ok (.aload_n 0, 1) := by decide +kernel
theorem d_MD_clear_1 : decode b_MD_clear 1 = .ok (.iconst 0, 1) := by decide +kernel
theorem d_MD_clear_2 : decode b_MD_clear 2 = .ok (.putfield 26, 3) := by decide +kernel
theorem d_MD_clear_5 : decode b_MD_clear 5 = .ok (.aload_n 0, 1) := by decide +kernel
theorem d_MD_clear_6 : decode b_MD_clear 6 = .ok (.getfield 53, 3) := by decide +kernel
theorem d_MD_clear_9 : decode b_MD_clear 9 = .ok (.istore_n 1, 1) := by decide +kernel
theorem d_MD_clear_10 : decode b_MD_clear 10 = .ok (.aload_n 0, 1) := by decide +kernel
theorem d_MD_clear_11 : decode b_MD_clear 11 = .ok (.iconst 0, 1) := by decide +kernel
theorem d_MD_clear_12 : decode b_MD_clear 12 = .ok (.putfield 53, 3) := by decide +kernel
theorem d_MD_clear_15 : decode b_MD_clear 15 = .ok (.iload_n 1, 1) := by decide +kernel
theorem d_MD_clear_16 : decode b_MD_clear 16 = .ok (.ireturn, 1) := by decide +kernel
theorem d_MD_count_0 : decode b_MD_count 0 = .ok (.aload_n 0, 1) := by decide +kernel
theorem d_MD_count_1 : decode b_MD_count 1 = .ok (.iconst 0, 1) := by decide +kernel
theorem d_MD_count_2 : decode b_MD_count 2 = .ok (.putfield 26, 3) := by decide +kernel
theorem d_MD_count_5 : decode b_MD_count 5 = .ok (.iload_n 1, 1) := by decide +kernel
theorem d_MD_count_6 : decode b_MD_count 6 = .ok (.ifCond .ne 10, 3) := by decide +kernel
theorem d_MD_count_9 : decode b_MD_count 9 = .ok (.aload_n 0, 1) := by decide +kernel
theorem d_MD_count_10 : decode b_MD_count 10 = .ok (.getfield 53, 3) := by decide +kernel
theorem d_MD_count_13 : decode b_MD_count 13 = .ok (.goto 28, 3) := by decide +kernel
theorem d_MD_count_16 : decode b_MD_count 16 = .ok (.iload_n 1, 1) := by decide +kernel
theorem d_MD_count_17 : decode b_MD_count 17 = .ok (.iconst 1, 1) := by decide +kernel
theorem d_MD_count_18 : decode b_MD_count 18 = .ok (.if_icmp .ne 10, 3) := by decide +kernel
theorem d_MD_count_21 : decode b_MD_count 21 = .ok (.aload_n 0, 1) := by decide +kernel
theorem d_MD_count_22 : decode b_MD_count 22 = .ok (.getfield 56, 3) := by decide +kernel
theorem d_MD_count_25 : decode b_MD_count 25 = .ok (.goto 16, 3) := by decide +kernel
theorem d_MD_count_28 : decode b_MD_count 28 = .ok (.iload_n 1, 1) := by decide +kernel
theorem d_MD_count_29 : decode b_MD_count 29 = .ok (.iconst 2, 1) := by decide +kernel
theorem d_MD_count_30 : decode b_MD_count 30 = .ok (.if_icmp .ne 10, 3) := by decide +kernel
theorem d_MD_count_33 : decode b_MD_count 33 = .ok (.aload_n 0, 1) := by decide +kernel
theorem d_MD_count_34 : decode b_MD_count 34 = .ok (.getfield 42, 3) := by decide +kernel
theorem d_MD_count_37 : decode b_MD_count 37 = .ok (.goto 4, 3) := by decide +kernel
theorem d_MD_count_40 : decode b_MD_count 40 = .ok (.iconst (-1), 1) := by decide +kernel
theorem d_MD_count_41 : decode b_MD_count 41 = .ok (.ireturn, 1) := by decide +kernel
theorem d_MD_cut_0 : decode b_MD_cut 0 = .ok (.aload_n 0, 1) := by decide +kernel
theorem d_MD_cut_1 : decode b_MD_cut 1 = .ok (.iconst 0, 1) := by decide +kernel
theorem d_MD_cut_2 : decode b_MD_cut 2 = .ok (.putfield 26, 3) := by decide +kernel
theorem d_MD_cut_5 : decode b_MD_cut 5 = .ok (.iload_n 1, 1) := by decide +kernel
theorem d_MD_cut_6 : decode b_MD_cut 6 = .ok (.ifCond .lt 11, 3) := by decide +kernel
theorem d_MD_cut_9 : decode b_MD_cut 9 = .ok (.iload_n 1, 1) := by decide +kernel
theorem d_MD_cut_10 : decode b_MD_cut 10 = .ok (.aload_n 0, 1) := by decide +kernel
theorem d_MD_cut_11 : decode b_MD_cut 11 = .ok (.getfield 56, 3) := by decide +kernel
theorem d_MD_cut_14 : decode b_MD_cut 14 = .ok (.if_icmp .lt 5, 3) := by decide +kernel
theorem d_MD_cut_17 : decode b_MD_cut 17 = .ok (.iconst 0, 1) := by decide +kernel
theorem d_MD_cut_18 : decode b_MD_cut 18 = .ok (.ireturn, 1) := by decide +kernel
theorem d_MD_cut_19 : decode b_MD_cut 19 = .ok (.aload_n 0, 1) := by decide +kernel
theorem d_MD_cut_20 : decode b_MD_cut 20 = .ok (.iload_n 1, 1) := by decide +kernel
theorem d_MD_cut_21 : decode b_MD_cut 21 = .ok (.putfield 56, 3) := by decide +kernel
theorem d_MD_cut_24 : decode b_MD_cut 24 = .ok (.iconst 1, 1) := by decide +kernel
theorem d_MD_cut_25 : decode b_MD_cut 25 = .ok (.ireturn, 1) := by decide +kernel
theorem d_MD_entry_0 : decode b_MD_entry 0 = .ok (.iload_n 2, 1) := by decide +kernel
theorem d_MD_entry_1 : decode b_MD_entry 1 = .ok (.iload_n 3, 1) := by decide +kernel
theorem d_MD_entry_2 : decode b_MD_entry 2 = .ok (.iload_n 1, 1) := by decide +kernel
theorem d_MD_entry_3 : decode b_MD_entry 3 = .ok (.invokestatic 63, 3) := by decide +kernel
theorem d_MD_entry_6 : decode b_MD_entry 6 = .ok (.istore 4, 2) := by decide +kernel
theorem d_MD_entry_8 : decode b_MD_entry 8 = .ok (.iconst 2, 1) := by decide +kernel
theorem d_MD_entry_9 : decode b_MD_entry 9 = .ok (.iload 4, 2) := by decide +kernel
theorem d_MD_entry_11 : decode b_MD_entry 11 = .ok (.iconst 1, 1) := by decide +kernel
theorem d_MD_entry_12 : decode b_MD_entry 12 = .ok (.iushr, 1) := by decide +kernel
theorem d_MD_entry_13 : decode b_MD_entry 13 = .ok (.sipush 32746, 3) := by decide +kernel
theorem d_MD_entry_16 : decode b_MD_entry 16 = .ok (.irem, 1) := by decide +kernel
theorem d_MD_entry_17 : decode b_MD_entry 17 = .ok (.iadd, 1) := by decide +kernel
theorem d_MD_entry_18 : decode b_MD_entry 18 = .ok (.istore 4, 2) := by decide +kernel
theorem d_MD_entry_20 : decode b_MD_entry 20 = .ok (.iconst 2, 1) := by decide +kernel
theorem d_MD_entry_21 : decode b_MD_entry 21 = .ok (.aload_n 0, 1) := by decide +kernel
theorem d_MD_entry_22 : decode b_MD_entry 22 = .ok (.getfield 7, 3) := by decide +kernel
theorem d_MD_entry_25 : decode b_MD_entry 25 = .ok (.iload_n 1, 1) := by decide +kernel
theorem d_MD_entry_26 : decode b_MD_entry 26 = .ok (.iaload, 1) := by decide +kernel
theorem d_MD_entry_27 : decode b_MD_entry 27 = .ok (.invokestatic 49, 3) := by decide +kernel
theorem d_MD_entry_30 : decode b_MD_entry 30 = .ok (.istore 5, 2) := by decide +kernel
theorem d_MD_entry_32 : decode b_MD_entry 32 = .ok (.iload 5, 2) := by decide +kernel
theorem d_MD_entry_34 : decode b_MD_entry 34 = .ok (.iload 4, 2) := by decide +kernel
theorem d_MD_entry_36 : decode b_MD_entry 36 = .ok (.invokestatic 49, 3) := by decide +kernel
theorem d_MD_entry_39 : decode b_MD_entry 39 = .ok (.istore 6, 2) := by decide +kernel
theorem d_MD_entry_41 : decode b_MD_entry 41 = .ok (.aload_n 0, 1) := by decide +kernel
theorem d_MD_entry_42 : decode b_MD_entry 42 = .ok (.getfield 56, 3) := by decide +kernel
theorem d_MD_entry_45 : decode b_MD_entry 45 = .ok (.istore 7, 2) := by decide +kernel
theorem d_MD_entry_47 : decode b_MD_entry 47 = .ok (.iload_n 2, 1) := by decide +kernel
theorem d_MD_entry_48 : decode b_MD_entry 48 = .ok (.iload 6, 2) := by decide +kernel
theorem d_MD_entry_50 : decode b_MD_entry 50 = .ok (.iload 5, 2) := by decide +kernel
theorem d_MD_entry_52 : decode b_MD_entry 52 = .ok (.iconst 1, 1) := by decide +kernel
theorem d_MD_entry_53 : decode b_MD_entry 53 = .ok (.invokestatic 63, 3) := by decide +kernel
theorem d_MD_entry_56 : decode b_MD_entry 56 = .ok (.ixor, 1) := by decide +kernel
theorem d_MD_entry_57 : decode b_MD_entry 57 = .ok (.istore 8, 2) := by decide +kernel
theorem d_MD_entry_59 : decode b_MD_entry 59 = .ok (.iconst 2, 1) := by decide +kernel
theorem d_MD_entry_60 : decode b_MD_entry 60 = .ok (.iload 4, 2) := by decide +kernel
theorem d_MD_entry_62 : decode b_MD_entry 62 = .ok (.invokestatic 49, 3) := by decide +kernel
theorem d_MD_entry_65 : decode b_MD_entry 65 = .ok (.istore 9, 2) := by decide +kernel
theorem d_MD_entry_67 : decode b_MD_entry 67 = .ok (.aload_n 0, 1) := by decide +kernel
theorem d_MD_entry_68 : decode b_MD_entry 68 = .ok (.iload 9, 2) := by decide +kernel
theorem d_MD_entry_70 : decode b_MD_entry 70 = .ok (.invokevirtual 67, 3) := by decide +kernel
theorem d_MD_entry_73 : decode b_MD_entry 73 = .ok (.aload_n 0, 1) := by decide +kernel
theorem d_MD_entry_74 : decode b_MD_entry 74 = .ok (.iload 8, 2) := by decide +kernel
theorem d_MD_entry_76 : decode b_MD_entry 76 = .ok (.bipush 16, 2) := by decide +kernel
theorem d_MD_entry_78 : decode b_MD_entry 78 = .ok (.iushr, 1) := by decide +kernel
theorem d_MD_entry_79 : decode b_MD_entry 79 = .ok (.invokevirtual 67, 3) := by decide +kernel
theorem d_MD_entry_82 : decode b_MD_entry 82 = .ok (.aload_n 0, 1) := by decide +kernel
theorem d_MD_entry_83 : decode b_MD_entry 83 = .ok (.iload 8, 2) := by decide +kernel
theorem d_MD_entry_85 : decode b_MD_entry 85 = .ok (.invokevirtual 67, 3) := by decide +kernel
theorem d_MD_entry_88 : decode b_MD_entry 88 = .ok (.aload_n 0, 1) := by decide +kernel
theorem d_MD_entry_89 : decode b_MD_entry 89 = .ok (.iload 7, 2) := by decide +kernel
theorem d_MD_entry_91 : decode b_MD_entry 91 = .ok (.aload_n 0, 1) := by decide +kernel
theorem d_MD_entry_92 : decode b_MD_entry 92 = .ok (.getfield 56, 3) := by decide +kernel
theorem d_MD_entry_95 : decode b_MD_entry 95 = .ok (.iload 6, 2) := by decide +kernel
theorem d_MD_entry_97 : decode b_MD_entry 97 = .ok (.iload 5, 2) := by decide +kernel
theorem d_MD_entry_99 : decode b_MD_entry 99 = .ok (.iconst 2, 1) := by decide +kernel
theorem d_MD_entry_100 : decode b_MD_entry 100 = .ok (.invokestatic 63, 3) := by decide +kernel
theorem d_MD_entry_103 : decode b_MD_entry 103 = .ok (.invokevirtual 70, 3) := by decide +kernel
theorem d_MD_entry_106 : decode b_MD_entry 106 = .ok (.istore 10, 2) := by decide +kernel
theorem d_MD_entry_108 : decode b_MD_entry 108 = .ok (.aload_n 0, 1) := by decide +kernel
theorem d_MD_entry_109 : decode b_MD_entry 109 = .ok (.iload 10, 2) := by decide +kernel
theorem d_MD_entry_111 : decode b_MD_entry 111 = .ok (.invokevirtual 67, 3) := by decide +kernel
theorem d_MD_entry_114 : decode b_MD_entry 114 = .ok (.return_, 1) := by decide +kernel
theorem d_MD_entryOf_0 : decode b_MD_entryOf 0 = .ok (.iconst 2, 1) := by decide +kernel
theorem d_MD_entryOf_1 : decode b_MD_entryOf 1 = .ok (.aload_n 0, 1) := by decide +kernel
theorem d_MD_entryOf_2 : decode b_MD_entryOf 2 = .ok (.getfield 7, 3) := by decide +kernel
theorem d_MD_entryOf_5 : decode b_MD_entryOf 5 = .ok (.iload_n 1, 1) := by decide +kernel
theorem d_MD_entryOf_6 : decode b_MD_entryOf 6 = .ok (.iaload, 1) := by decide +kernel
theorem d_MD_entryOf_7 : decode b_MD_entryOf 7 = .ok (.invokestatic 49, 3) := by decide +kernel
theorem d_MD_entryOf_10 : decode b_MD_entryOf 10 = .ok (.istore_n 2, 1) := by decide +kernel
theorem d_MD_entryOf_11 : decode b_MD_entryOf 11 = .ok (.iconst 0, 1) := by decide +kernel
theorem d_MD_entryOf_12 : decode b_MD_entryOf 12 = .ok (.istore_n 3, 1) := by decide +kernel
theorem d_MD_entryOf_13 : decode b_MD_entryOf 13 = .ok (.iload_n 3, 1) := by decide +kernel
theorem d_MD_entryOf_14 : decode b_MD_entryOf 14 = .ok (.aload_n 0, 1) := by decide +kernel
theorem d_MD_entryOf_15 : decode b_MD_entryOf 15 = .ok (.getfield 16, 3) := by decide +kernel
theorem d_MD_entryOf_18 : decode b_MD_entryOf 18 = .ok (.iconst 1, 1) := by decide +kernel
theorem d_MD_entryOf_19 : decode b_MD_entryOf 19 = .ok (.iaload, 1) := by decide +kernel
theorem d_MD_entryOf_20 : decode b_MD_entryOf 20 = .ok (.if_icmp .ge 67, 3) := by decide +kernel
theorem d_MD_entryOf_23 : decode b_MD_entryOf 23 = .ok (.iconst 2, 1) := by decide +kernel
theorem d_MD_entryOf_24 : decode b_MD_entryOf 24 = .ok (.bipush 8, 2) := by decide +kernel
theorem d_MD_entryOf_26 : decode b_MD_entryOf 26 = .ok (.iload_n 3, 1) := by decide +kernel
theorem d_MD_entryOf_27 : decode b_MD_entryOf 27 = .ok (.imul, 1) := by decide +kernel
theorem d_MD_entryOf_28 : decode b_MD_entryOf 28 = .ok (.iadd, 1) := by decide +kernel
theorem d_MD_entryOf_29 : decode b_MD_entryOf 29 = .ok (.istore 4, 2) := by decide +kernel
theorem d_MD_entryOf_31 : decode b_MD_entryOf 31 = .ok (.aload_n 0, 1) := by decide +kernel
theorem d_MD_entryOf_32 : decode b_MD_entryOf 32 = .ok (.iload 4, 2) := by decide +kernel
theorem d_MD_entryOf_34 : decode b_MD_entryOf 34 = .ok (.invokevirtual 77, 3) := by decide +kernel
theorem d_MD_entryOf_37 : decode b_MD_entryOf 37 = .ok (.aload_n 0, 1) := by decide +kernel
theorem d_MD_entryOf_38 : decode b_MD_entryOf 38 = .ok (.getfield 7, 3) := by decide +kernel
theorem d_MD_entryOf_41 : decode b_MD_entryOf 41 = .ok (.iload_n 1, 1) := by decide +kernel
theorem d_MD_entryOf_42 : decode b_MD_entryOf 42 = .ok (.iaload, 1) := by decide +kernel
theorem d_MD_entryOf_43 : decode b_MD_entryOf 43 = .ok (.invokestatic 49, 3) := by decide +kernel
theorem d_MD_entryOf_46 : decode b_MD_entryOf 46 = .ok (.istore 5, 2) := by decide +kernel
theorem d_MD_entryOf_48 : decode b_MD_entryOf 48 = .ok (.aload_n 0, 1) := by decide +kernel
theorem d_MD_entryOf_49 : decode b_MD_entryOf 49 = .ok (.iload 4, 2) := by decide +kernel
theorem d_MD_entryOf_51 : decode b_MD_entryOf 51 = .ok (.bipush 6, 2) := by decide +kernel
theorem d_MD_entryOf_53 : decode b_MD_entryOf 53 = .ok (.iadd, 1) := by decide +kernel
theorem d_MD_entryOf_54 : decode b_MD_entryOf 54 = .ok (.invokevirtual 77, 3) := by decide +kernel
theorem d_MD_entryOf_57 : decode b_MD_entryOf 57 = .ok (.aload_n 0, 1) := by decide +kernel
theorem d_MD_entryOf_58 : decode b_MD_entryOf 58 = .ok (.iload 4, 2) := by decide +kernel
theorem d_MD_entryOf_60 : decode b_MD_entryOf 60 = .ok (.iload 4, 2) := by decide +kernel
theorem d_MD_entryOf_62 : decode b_MD_entryOf 62 = .ok (.bipush 6, 2) := by decide +kernel
theorem d_MD_entryOf_64 : decode b_MD_entryOf 64 = .ok (.iadd, 1) := by decide +kernel
theorem d_MD_entryOf_65 : decode b_MD_entryOf 65 = .ok (.iload 5, 2) := by decide +kernel
theorem d_MD_entryOf_67 : decode b_MD_entryOf 67 = .ok (.iload_n 2, 1) := by decide +kernel
theorem d_MD_entryOf_68 : decode b_MD_entryOf 68 = .ok (.iconst 2, 1) := by decide +kernel
theorem d_MD_entryOf_69 : decode b_MD_entryOf 69 = .ok (.invokestatic 63, 3) := by decide +kernel
theorem d_MD_entryOf_72 : decode b_MD_entryOf 72 = .ok (.invokevirtual 70, 3) := by decide +kernel
theorem d_MD_entryOf_75 : decode b_MD_entryOf 75 = .ok (.if_icmp .ne 6, 3) := by decide +kernel
theorem d_MD_entryOf_78 : decode b_MD_entryOf 78 = .ok (.iload 4, 2) := by decide +kernel
theorem d_MD_entryOf_80 : decode b_MD_entryOf 80 = .ok (.ireturn, 1) := by decide +kernel
theorem d_MD_entryOf_81 : decode b_MD_entryOf 81 = .ok (.iinc 3 1, 3) := by decide +kernel
theorem d_MD_entryOf_84 : decode b_MD_entryOf 84 = .ok (.goto (-71), 3) := by decide +kernel
theorem d_MD_entryOf_87 : decode b_MD_entryOf 87 = .ok (.iconst (-1), 1) := by decide +kernel
theorem d_MD_entryOf_88 : decode b_MD_entryOf 88 = .ok (.ireturn, 1) := by decide +kernel
theorem d_MD_fails_0 : decode b_MD_fails 0 = .ok (.aload_n 0, 1) := by decide +kernel
theorem d_MD_fails_1 : decode b_MD_fails 1 = .ok (.iload_n 1, 1) := by decide +kernel
theorem d_MD_fails_2 : decode b_MD_fails 2 = .ok (.putfield 26, 3) := by decide +kernel
theorem d_MD_fails_5 : decode b_MD_fails 5 = .ok (.iconst 0, 1) := by decide +kernel
theorem d_MD_fails_6 : decode b_MD_fails 6 = .ok (.ireturn, 1) := by decide +kernel
theorem d_MD_init_0 : decode b_MD_init 0 = .ok (.aload_n 0, 1) := by decide +kernel
theorem d_MD_init_1 : decode b_MD_init 1 = .ok (.invokespecial 1, 3) := by decide +kernel
theorem d_MD_init_4 : decode b_MD_init 4 = .ok (.aload_n 0, 1) := by decide +kernel
theorem d_MD_init_5 : decode b_MD_init 5 = .ok (.iconst 4, 1) := by decide +kernel
theorem d_MD_init_6 : decode b_MD_init 6 = .ok (.newarray .int, 2) := by decide +kernel
theorem d_MD_init_8 : decode b_MD_init 8 = .ok (.putfield 7, 3) := by decide +kernel
theorem d_MD_init_11 : decode b_MD_init 11 = .ok (.aload_n 0, 1) := by decide +kernel
theorem d_MD_init_12 : decode b_MD_init 12 = .ok (.bipush 40, 2) := by decide +kernel
theorem d_MD_init_14 : decode b_MD_init 14 = .ok (.newarray .int, 2) := by decide +kernel
theorem d_MD_init_16 : decode b_MD_init 16 = .ok (.putfield 13, 3) := by decide +kernel
theorem d_MD_init_19 : decode b_MD_init 19 = .ok (.aload_n 0, 1) := by decide +kernel
theorem d_MD_init_20 : decode b_MD_init 20 = .ok (.bipush 120, 2) := by decide +kernel
theorem d_MD_init_22 : decode b_MD_init 22 = .ok (.newarray .int, 2) := by decide +kernel
theorem d_MD_init_24 : decode b_MD_init 24 = .ok (.putfield 16, 3) := by decide +kernel
theorem d_MD_init_27 : decode b_MD_init 27 = .ok (.aload_n 0, 1) := by decide +kernel
theorem d_MD_init_28 : decode b_MD_init 28 = .ok (.bipush 40, 2) := by decide +kernel
theorem d_MD_init_30 : decode b_MD_init 30 = .ok (.newarray .int, 2) := by decide +kernel
theorem d_MD_init_32 : decode b_MD_init 32 = .ok (.putfield 19, 3) := by decide +kernel
theorem d_MD_init_35 : decode b_MD_init 35 = .ok (.aload_n 0, 1) := by decide +kernel
theorem d_MD_init_36 : decode b_MD_init 36 = .ok (.sipush 160, 3) := by decide +kernel
theorem d_MD_init_39 : decode b_MD_init 39 = .ok (.newarray .char, 2) := by decide +kernel
theorem d_MD_init_41 : decode b_MD_init 41 = .ok (.putfield 22, 3) := by decide +kernel
theorem d_MD_init_44 : decode b_MD_init 44 = .ok (.return_, 1) := by decide +kernel
theorem d_MD_isKey_0 : decode b_MD_isKey 0 = .ok (.iload_n 1, 1) := by decide +kernel
theorem d_MD_isKey_1 : decode b_MD_isKey 1 = .ok (.ifCond .lt 15, 3) := by decide +kernel
theorem d_MD_isKey_4 : decode b_MD_isKey 4 = .ok (.iload_n 1, 1) := by decide +kernel
theorem d_MD_isKey_5 : decode b_MD_isKey 5 = .ok (.aload_n 0, 1) := by decide +kernel
theorem d_MD_isKey_6 : decode b_MD_isKey 6 = .ok (.getfield 42, 3) := by decide +kernel
theorem d_MD_isKey_9 : decode b_MD_isKey 9 = .ok (.if_icmp .ge 7, 3) := by decide +kernel
theorem d_MD_isKey_12 : decode b_MD_isKey 12 = .ok (.iconst 1, 1) := by decide +kernel
theorem d_MD_isKey_13 : decode b_MD_isKey 13 = .ok (.goto 4, 3) := by decide +kernel
theorem d_MD_isKey_16 : decode b_MD_isKey 16 = .ok (.iconst 0, 1) := by decide +kernel
theorem d_MD_isKey_17 : decode b_MD_isKey 17 = .ok (.ireturn, 1) := by decide +kernel
theorem d_MD_key_0 : decode b_MD_key 0 = .ok (.aload_n 0, 1) := by decide +kernel
theorem d_MD_key_1 : decode b_MD_key 1 = .ok (.iconst 0, 1) := by decide +kernel
theorem d_MD_key_2 : decode b_MD_key 2 = .ok (.putfield 26, 3) := by decide +kernel
theorem d_MD_key_5 : decode b_MD_key 5 = .ok (.iload_n 1, 1) := by decide +kernel
theorem d_MD_key_6 : decode b_MD_key 6 = .ok (.iconst 2, 1) := by decide +kernel
theorem d_MD_key_7 : decode b_MD_key 7 = .ok (.if_icmp .lt 10, 3) := by decide +kernel
theorem d_MD_key_10 : decode b_MD_key 10 = .ok (.iload_n 1, 1) := by decide +kernel
theorem d_MD_key_11 : decode b_MD_key 11 = .ok (.sipush 32747, 3) := by decide +kernel
theorem d_MD_key_14 : decode b_MD_key 14 = .ok (.if_icmp .le 9, 3) := by decide +kernel
theorem d_MD_key_17 : decode b_MD_key 17 = .ok (.aload_n 0, 1) := by decide +kernel
theorem d_MD_key_18 : decode b_MD_key 18 = .ok (.iconst 1, 1) := by decide +kernel
theorem d_MD_key_19 : decode b_MD_key 19 = .ok (.invokevirtual 39, 3) := by decide +kernel
theorem d_MD_key_22 : decode b_MD_key 22 = .ok (.ireturn, 1) := by decide +kernel
theorem d_MD_key_23 : decode b_MD_key 23 = .ok (.aload_n 0, 1) := by decide +kernel
theorem d_MD_key_24 : decode b_MD_key 24 = .ok (.getfield 42, 3) := by decide +kernel
theorem d_MD_key_27 : decode b_MD_key 27 = .ok (.iconst 4, 1) := by decide +kernel
theorem d_MD_key_28 : decode b_MD_key 28 = .ok (.if_icmp .ne 9, 3) := by decide +kernel
theorem d_MD_key_31 : decode b_MD_key 31 = .ok (.aload_n 0, 1) := by decide +kernel
theorem d_MD_key_32 : decode b_MD_key 32 = .ok (.iconst 2, 1) := by decide +kernel
theorem d_MD_key_33 : decode b_MD_key 33 = .ok (.invokevirtual 39, 3) := by decide +kernel
theorem d_MD_key_36 : decode b_MD_key 36 = .ok (.ireturn, 1) := by decide +kernel
theorem d_MD_key_37 : decode b_MD_key 37 = .ok (.aload_n 0, 1) := by decide +kernel
theorem d_MD_key_38 : decode b_MD_key 38 = .ok (.getfield 7, 3) := by decide +kernel
theorem d_MD_key_41 : decode b_MD_key 41 = .ok (.aload_n 0, 1) := by decide +kernel
theorem d_MD_key_42 : decode b_MD_key 42 = .ok (.getfield 42, 3) := by decide +kernel
theorem d_MD_key_45 : decode b_MD_key 45 = .ok (.iload_n 1, 1) := by decide +kernel
theorem d_MD_key_46 : decode b_MD_key 46 = .ok (.iastore, 1) := by decide +kernel
theorem d_MD_key_47 : decode b_MD_key 47 = .ok (.aload_n 0, 1) := by decide +kernel
theorem d_MD_key_48 : decode b_MD_key 48 = .ok (.dup, 1) := by decide +kernel
theorem d_MD_key_49 : decode b_MD_key 49 = .ok (.getfield 42, 3) := by decide +kernel
theorem d_MD_key_52 : decode b_MD_key 52 = .ok (.iconst 1, 1) := by decide +kernel
theorem d_MD_key_53 : decode b_MD_key 53 = .ok (.iadd, 1) := by decide +kernel
theorem d_MD_key_54 : decode b_MD_key 54 = .ok (.putfield 42, 3) := by decide +kernel
theorem d_MD_key_57 : decode b_MD_key 57 = .ok (.aload_n 0, 1) := by decide +kernel
theorem d_MD_key_58 : decode b_MD_key 58 = .ok (.getfield 42, 3) := by decide +kernel
theorem d_MD_key_61 : decode b_MD_key 61 = .ok (.iconst 1, 1) := by decide +kernel
theorem d_MD_key_62 : decode b_MD_key 62 = .ok (.isub, 1) := by decide +kernel
theorem d_MD_key_63 : decode b_MD_key 63 = .ok (.ireturn, 1) := by decide +kernel
theorem d_MD_load_0 : decode b_MD_load 0 = .ok (.aload_n 0, 1) := by decide +kernel
theorem d_MD_load_1 : decode b_MD_load 1 = .ok (.iconst 0, 1) := by decide +kernel
theorem d_MD_load_2 : decode b_MD_load 2 = .ok (.putfield 26, 3) := by decide +kernel
theorem d_MD_load_5 : decode b_MD_load 5 = .ok (.aload_n 0, 1) := by decide +kernel
theorem d_MD_load_6 : decode b_MD_load 6 = .ok (.getfield 100, 3) := by decide +kernel
theorem d_MD_load_9 : decode b_MD_load 9 = .ok (.istore_n 1, 1) := by decide +kernel
theorem d_MD_load_10 : decode b_MD_load 10 = .ok (.aload_n 0, 1) := by decide +kernel
theorem d_MD_load_11 : decode b_MD_load 11 = .ok (.iconst 0, 1) := by decide +kernel
theorem d_MD_load_12 : decode b_MD_load 12 = .ok (.putfield 100, 3) := by decide +kernel
theorem d_MD_load_15 : decode b_MD_load 15 = .ok (.bipush 6, 2) := by decide +kernel
theorem d_MD_load_17 : decode b_MD_load 17 = .ok (.iload_n 1, 1) := by decide +kernel
theorem d_MD_load_18 : decode b_MD_load 18 = .ok (.imul, 1) := by decide +kernel
theorem d_MD_load_19 : decode b_MD_load 19 = .ok (.bipush 8, 2) := by decide +kernel
theorem d_MD_load_21 : decode b_MD_load 21 = .ok (.idiv, 1) := by decide +kernel
theorem d_MD_load_22 : decode b_MD_load 22 = .ok (.istore_n 2, 1) := by decide +kernel
theorem d_MD_load_23 : decode b_MD_load 23 = .ok (.bipush 6, 2) := by decide +kernel
theorem d_MD_load_25 : decode b_MD_load 25 = .ok (.iload_n 1, 1) := by decide +kernel
theorem d_MD_load_26 : decode b_MD_load 26 = .ok (.imul, 1) := by decide +kernel
theorem d_MD_load_27 : decode b_MD_load 27 = .ok (.bipush 8, 2) := by decide +kernel
theorem d_MD_load_29 : decode b_MD_load 29 = .ok (.iload_n 2, 1) := by decide +kernel
theorem d_MD_load_30 : decode b_MD_load 30 = .ok (.imul, 1) := by decide +kernel
theorem d_MD_load_31 : decode b_MD_load 31 = .ok (.isub, 1) := by decide +kernel
theorem d_MD_load_32 : decode b_MD_load 32 = .ok (.istore_n 3, 1) := by decide +kernel
theorem d_MD_load_33 : decode b_MD_load 33 = .ok (.iload_n 3, 1) := by decide +kernel
theorem d_MD_load_34 : decode b_MD_load 34 = .ok (.bipush 6, 2) := by decide +kernel
theorem d_MD_load_36 : decode b_MD_load 36 = .ok (.if_icmp .ge 7, 3) := by decide +kernel
theorem d_MD_load_39 : decode b_MD_load 39 = .ok (.iconst 1, 1) := by decide +kernel
theorem d_MD_load_40 : decode b_MD_load 40 = .ok (.goto 4, 3) := by decide +kernel
theorem d_MD_load_43 : decode b_MD_load 43 = .ok (.iconst 0, 1) := by decide +kernel
theorem d_MD_load_44 : decode b_MD_load 44 = .ok (.istore 4, 2) := by decide +kernel
theorem d_MD_load_46 : decode b_MD_load 46 = .ok (.iload_n 1, 1) := by decide +kernel
theorem d_MD_load_47 : decode b_MD_load 47 = .ok (.ifCond .le 35, 3) := by decide +kernel
theorem d_MD_load_50 : decode b_MD_load 50 = .ok (.iload 4, 2) := by decide +kernel
theorem d_MD_load_52 : decode b_MD_load 52 = .ok (.ifCond .eq 30, 3) := by decide +kernel
theorem d_MD_load_55 : decode b_MD_load 55 = .ok (.aload_n 0, 1) := by decide +kernel
theorem d_MD_load_56 : decode b_MD_load 56 = .ok (.getfield 22, 3) := by decide +kernel
theorem d_MD_load_59 : decode b_MD_load 59 = .ok (.iload_n 1, 1) := by decide +kernel
theorem d_MD_load_60 : decode b_MD_load 60 = .ok (.iconst 1, 1) := by decide +kernel
theorem d_MD_load_61 : decode b_MD_load 61 = .ok (.isub, 1) := by decide +kernel
theorem d_MD_load_62 : decode b_MD_load 62 = .ok (.caload, 1) := by decide +kernel
theorem d_MD_load_63 : decode b_MD_load 63 = .ok (.invokestatic 103, 3) := by decide +kernel
theorem d_MD_load_66 : decode b_MD_load 66 = .ok (.iconst 1, 1) := by decide +kernel
theorem d_MD_load_67 : decode b_MD_load 67 = .ok (.iload_n 3, 1) := by decide +kernel
theorem d_MD_load_68 : decode b_MD_load 68 = .ok (.ishl, 1) := by decide +kernel
theorem d_MD_load_69 : decode b_MD_load 69 = .ok (.iconst 1, 1) := by decide +kernel
theorem d_MD_load_70 : decode b_MD_load 70 = .ok (.isub, 1) := by decide +kernel
theorem d_MD_load_71 : decode b_MD_load 71 = .ok (.iand, 1) := by decide +kernel
theorem d_MD_load_72 : decode b_MD_load 72 = .ok (.ifCond .ne 7, 3) := by decide +kernel
theorem d_MD_load_75 : decode b_MD_load 75 = .ok (.iconst 1, 1) := by decide +kernel
theorem d_MD_load_76 : decode b_MD_load 76 = .ok (.goto 4, 3) := by decide +kernel
theorem d_MD_load_79 : decode b_MD_load 79 = .ok (.iconst 0, 1) := by decide +kernel
theorem d_MD_load_80 : decode b_MD_load 80 = .ok (.istore 4, 2) := by decide +kernel
theorem d_MD_load_82 : decode b_MD_load 82 = .ok (.iload 4, 2) := by decide +kernel
theorem d_MD_load_84 : decode b_MD_load 84 = .ok (.ifCond .ne 9, 3) := by decide +kernel
theorem d_MD_load_87 : decode b_MD_load 87 = .ok (.aload_n 0, 1) := by decide +kernel
theorem d_MD_load_88 : decode b_MD_load 88 = .ok (.iconst 1, 1) := by decide +kernel
theorem d_MD_load_89 : decode b_MD_load 89 = .ok (.invokevirtual 39, 3) := by decide +kernel
theorem d_MD_load_92 : decode b_MD_load 92 = .ok (.ireturn, 1) := by decide +kernel
theorem d_MD_load_93 : decode b_MD_load 93 = .ok (.iconst 0, 1) := by decide +kernel
theorem d_MD_load_94 : decode b_MD_load 94 = .ok (.istore 5, 2) := by decide +kernel
theorem d_MD_load_96 : decode b_MD_load 96 = .ok (.iload 5, 2) := by decide +kernel
theorem d_MD_load_98 : decode b_MD_load 98 = .ok (.iload_n 2, 1) := by decide +kernel
theorem d_MD_load_99 : decode b_MD_load 99 = .ok (.if_icmp .ge 77, 3) := by decide +kernel
theorem d_MD_load_102 : decode b_MD_load 102 = .ok (.iconst 0, 1) := by decide +kernel
theorem d_MD_load_103 : decode b_MD_load 103 = .ok (.istore 6, 2) := by decide +kernel
theorem d_MD_load_105 : decode b_MD_load 105 = .ok (.bipush 8, 2) := by decide +kernel
theorem d_MD_load_107 : decode b_MD_load 107 = .ok (.iload 5, 2) := by decide +kernel
theorem d_MD_load_109 : decode b_MD_load 109 = .ok (.imul, 1) := by decide +kernel
theorem d_MD_load_110 : decode b_MD_load 110 = .ok (.istore 7, 2) := by decide +kernel
theorem d_MD_load_112 : decode b_MD_load 112 = .ok (.iload 7, 2) := by decide +kernel
theorem d_MD_load_114 : decode b_MD_load 114 = .ok (.bipush 8, 2) := by decide +kernel
theorem d_MD_load_116 : decode b_MD_load 116 = .ok (.iload 5, 2) := by decide +kernel
theorem d_MD_load_118 : decode b_MD_load 118 = .ok (.imul, 1) := by decide +kernel
theorem d_MD_load_119 : decode b_MD_load 119 = .ok (.bipush 8, 2) := by decide +kernel
theorem d_MD_load_121 : decode b_MD_load 121 = .ok (.iadd, 1) := by decide +kernel
theorem d_MD_load_122 : decode b_MD_load 122 = .ok (.if_icmp .ge 39, 3) := by decide +kernel
theorem d_MD_load_125 : decode b_MD_load 125 = .ok (.iconst 2, 1) := by decide +kernel
theorem d_MD_load_126 : decode b_MD_load 126 = .ok (.iload 6, 2) := by decide +kernel
theorem d_MD_load_128 : decode b_MD_load 128 = .ok (.imul, 1) := by decide +kernel
theorem d_MD_load_129 : decode b_MD_load 129 = .ok (.aload_n 0, 1) := by decide +kernel
theorem d_MD_load_130 : decode b_MD_load 130 = .ok (.getfield 22, 3) := by decide +kernel
theorem d_MD_load_133 : decode b_MD_load 133 = .ok (.iload 7, 2) := by decide +kernel
theorem d_MD_load_135 : decode b_MD_load 135 = .ok (.bipush 6, 2) := by decide +kernel
theorem d_MD_load_137 : decode b_MD_load 137 = .ok (.idiv, 1) := by decide +kernel
theorem d_MD_load_138 : decode b_MD_load 138 = .ok (.caload, 1) := by decide +kernel
theorem d_MD_load_139 : decode b_MD_load 139 = .ok (.invokestatic 103, 3) := by decide +kernel
theorem d_MD_load_142 : decode b_MD_load 142 = .ok (.iconst 5, 1) := by decide +kernel
theorem d_MD_load_143 : decode b_MD_load 143 = .ok (.iload 7, 2) := by decide +kernel
theorem d_MD_load_145 : decode b_MD_load 145 = .ok (.bipush 6, 2) := by decide +kernel
theorem d_MD_load_147 : decode b_MD_load 147 = .ok (.irem, 1) := by decide +kernel
theorem d_MD_load_148 : decode b_MD_load 148 = .ok (.isub, 1) := by decide +kernel
theorem d_MD_load_149 : decode b_MD_load 149 = .ok (.ishr, 1) := by decide +kernel
theorem d_MD_load_150 : decode b_MD_load 150 = .ok (.iconst 1, 1) := by decide +kernel
theorem d_MD_load_151 : decode b_MD_load 151 = .ok (.iand, 1) := by decide +kernel
theorem d_MD_load_152 : decode b_MD_load 152 = .ok (.iadd, 1) := by decide +kernel
theorem d_MD_load_153 : decode b_MD_load 153 = .ok (.istore 6, 2) := by decide +kernel
theorem d_MD_load_155 : decode b_MD_load 155 = .ok (.iinc 7 1, 3) := by decide +kernel
theorem d_MD_load_158 : decode b_MD_load 158 = .ok (.goto (-46), 3) := by decide +kernel
theorem d_MD_load_161 : decode b_MD_load 161 = .ok (.aload_n 0, 1) := by decide +kernel
theorem d_MD_load_162 : decode b_MD_load 162 = .ok (.getfield 16, 3) := by decide +kernel
theorem d_MD_load_165 : decode b_MD_load 165 = .ok (.iload 5, 2) := by decide +kernel
theorem d_MD_load_167 : decode b_MD_load 167 = .ok (.iload 6, 2) := by decide +kernel
theorem d_MD_load_169 : decode b_MD_load 169 = .ok (.iastore, 1) := by decide +kernel
theorem d_MD_load_170 : decode b_MD_load 170 = .ok (.iinc 5 1, 3) := by decide +kernel
theorem d_MD_load_173 : decode b_MD_load 173 = .ok (.goto (-77), 3) := by decide +kernel
theorem d_MD_load_176 : decode b_MD_load 176 = .ok (.aload_n 0, 1) := by decide +kernel
theorem d_MD_load_177 : decode b_MD_load 177 = .ok (.iload_n 2, 1) := by decide +kernel
theorem d_MD_load_178 : decode b_MD_load 178 = .ok (.putfield 56, 3) := by decide +kernel
theorem d_MD_load_181 : decode b_MD_load 181 = .ok (.aload_n 0, 1) := by decide +kernel
theorem d_MD_load_182 : decode b_MD_load 182 = .ok (.getfield 56, 3) := by decide +kernel
theorem d_MD_load_185 : decode b_MD_load 185 = .ok (.ireturn, 1) := by decide +kernel
theorem d_MD_mix_0 : decode b_MD_mix 0 = .ok (.iload_n 0, 1) := by decide +kernel
theorem d_MD_mix_1 : decode b_MD_mix 1 = .ok (.iload_n 0, 1) := by decide +kernel
theorem d_MD_mix_2 : decode b_MD_mix 2 = .ok (.bipush 16, 2) := by decide +kernel
theorem d_MD_mix_4 : decode b_MD_mix 4 = .ok (.iushr, 1) := by decide +kernel
theorem d_MD_mix_5 : decode b_MD_mix 5 = .ok (.ixor, 1) := by decide +kernel
theorem d_MD_mix_6 : decode b_MD_mix 6 = .ok (.ldc 30, 2) := by decide +kernel
theorem d_MD_mix_8 : decode b_MD_mix 8 = .ok (.imul, 1) := by decide +kernel
theorem d_MD_mix_9 : decode b_MD_mix 9 = .ok (.istore_n 1, 1) := by decide +kernel
theorem d_MD_mix_10 : decode b_MD_mix 10 = .ok (.iload_n 1, 1) := by decide +kernel
theorem d_MD_mix_11 : decode b_MD_mix 11 = .ok (.iload_n 1, 1) := by decide +kernel
theorem d_MD_mix_12 : decode b_MD_mix 12 = .ok (.bipush 15, 2) := by decide +kernel
theorem d_MD_mix_14 : decode b_MD_mix 14 = .ok (.iushr, 1) := by decide +kernel
theorem d_MD_mix_15 : decode b_MD_mix 15 = .ok (.ixor, 1) := by decide +kernel
theorem d_MD_mix_16 : decode b_MD_mix 16 = .ok (.ldc 31, 2) := by decide +kernel
theorem d_MD_mix_18 : decode b_MD_mix 18 = .ok (.imul, 1) := by decide +kernel
theorem d_MD_mix_19 : decode b_MD_mix 19 = .ok (.istore_n 1, 1) := by decide +kernel
theorem d_MD_mix_20 : decode b_MD_mix 20 = .ok (.iload_n 1, 1) := by decide +kernel
theorem d_MD_mix_21 : decode b_MD_mix 21 = .ok (.iload_n 1, 1) := by decide +kernel
theorem d_MD_mix_22 : decode b_MD_mix 22 = .ok (.bipush 16, 2) := by decide +kernel
theorem d_MD_mix_24 : decode b_MD_mix 24 = .ok (.iushr, 1) := by decide +kernel
theorem d_MD_mix_25 : decode b_MD_mix 25 = .ok (.ixor, 1) := by decide +kernel
theorem d_MD_mix_26 : decode b_MD_mix 26 = .ok (.ireturn, 1) := by decide +kernel
end
section
theorem d_MD_open_0 : decode b_MD_open 0 = .ok (.aload_n 0, 1) := by decide +kernel
theorem d_MD_open_1 : decode b_MD_open 1 = .ok (.iconst 0, 1) := by decide +kernel
theorem d_MD_open_2 : decode b_MD_open 2 = .ok (.putfield 26, 3) := by decide +kernel
theorem d_MD_open_5 : decode b_MD_open 5 = .ok (.aload_n 0, 1) := by decide +kernel
theorem d_MD_open_6 : decode b_MD_open 6 = .ok (.iload_n 1, 1) := by decide +kernel
theorem d_MD_open_7 : decode b_MD_open 7 = .ok (.invokevirtual 45, 3) := by decide +kernel
theorem d_MD_open_10 : decode b_MD_open 10 = .ok (.ifCond .ne 9, 3) := by decide +kernel
theorem d_MD_open_13 : decode b_MD_open 13 = .ok (.aload_n 0, 1) := by decide +kernel
theorem d_MD_open_14 : decode b_MD_open 14 = .ok (.iconst 1, 1) := by decide +kernel
theorem d_MD_open_15 : decode b_MD_open 15 = .ok (.invokevirtual 39, 3) := by decide +kernel
theorem d_MD_open_18 : decode b_MD_open 18 = .ok (.ireturn, 1) := by decide +kernel
theorem d_MD_open_19 : decode b_MD_open 19 = .ok (.aload_n 0, 1) := by decide +kernel
theorem d_MD_open_20 : decode b_MD_open 20 = .ok (.iconst 0, 1) := by decide +kernel
theorem d_MD_open_21 : decode b_MD_open 21 = .ok (.putfield 83, 3) := by decide +kernel
theorem d_MD_open_24 : decode b_MD_open 24 = .ok (.aload_n 0, 1) := by decide +kernel
theorem d_MD_open_25 : decode b_MD_open 25 = .ok (.getfield 56, 3) := by decide +kernel
theorem d_MD_open_28 : decode b_MD_open 28 = .ok (.iconst 2, 1) := by decide +kernel
theorem d_MD_open_29 : decode b_MD_open 29 = .ok (.if_icmp .lt 53, 3) := by decide +kernel
theorem d_MD_open_32 : decode b_MD_open 32 = .ok (.aload_n 0, 1) := by decide +kernel
theorem d_MD_open_33 : decode b_MD_open 33 = .ok (.getfield 16, 3) := by decide +kernel
theorem d_MD_open_36 : decode b_MD_open 36 = .ok (.iconst 0, 1) := by decide +kernel
theorem d_MD_open_37 : decode b_MD_open 37 = .ok (.iaload, 1) := by decide +kernel
theorem d_MD_open_38 : decode b_MD_open 38 = .ok (.bipush 83, 2) := by decide +kernel
theorem d_MD_open_40 : decode b_MD_open 40 = .ok (.if_icmp .ne 42, 3) := by decide +kernel
theorem d_MD_open_43 : decode b_MD_open 43 = .ok (.aload_n 0, 1) := by decide +kernel
theorem d_MD_open_44 : decode b_MD_open 44 = .ok (.getfield 16, 3) := by decide +kernel
theorem d_MD_open_47 : decode b_MD_open 47 = .ok (.iconst 1, 1) := by decide +kernel
theorem d_MD_open_48 : decode b_MD_open 48 = .ok (.iaload, 1) := by decide +kernel
theorem d_MD_open_49 : decode b_MD_open 49 = .ok (.iconst 1, 1) := by decide +kernel
theorem d_MD_open_50 : decode b_MD_open 50 = .ok (.if_icmp .lt 32, 3) := by decide +kernel
theorem d_MD_open_53 : decode b_MD_open 53 = .ok (.aload_n 0, 1) := by decide +kernel
theorem d_MD_open_54 : decode b_MD_open 54 = .ok (.getfield 16, 3) := by decide +kernel
theorem d_MD_open_57 : decode b_MD_open 57 = .ok (.iconst 1, 1) := by decide +kernel
theorem d_MD_open_58 : decode b_MD_open 58 = .ok (.iaload, 1) := by decide +kernel
theorem d_MD_open_59 : decode b_MD_open 59 = .ok (.iconst 3, 1) := by decide +kernel
theorem d_MD_open_60 : decode b_MD_open 60 = .ok (.if_icmp .gt 22, 3) := by decide +kernel
theorem d_MD_open_63 : decode b_MD_open 63 = .ok (.aload_n 0, 1) := by decide +kernel
theorem d_MD_open_64 : decode b_MD_open 64 = .ok (.getfield 56, 3) := by decide +kernel
theorem d_MD_open_67 : decode b_MD_open 67 = .ok (.bipush 6, 2) := by decide +kernel
theorem d_MD_open_69 : decode b_MD_open 69 = .ok (.bipush 8, 2) := by decide +kernel
theorem d_MD_open_71 : decode b_MD_open 71 = .ok (.aload_n 0, 1) := by decide +kernel
theorem d_MD_open_72 : decode b_MD_open 72 = .ok (.getfield 16, 3) := by decide +kernel
theorem d_MD_open_75 : decode b_MD_open 75 = .ok (.iconst 1, 1) := by decide +kernel
theorem d_MD_open_76 : decode b_MD_open 76 = .ok (.iaload, 1) := by decide +kernel
theorem d_MD_open_77 : decode b_MD_open 77 = .ok (.imul, 1) := by decide +kernel
theorem d_MD_open_78 : decode b_MD_open 78 = .ok (.iadd, 1) := by decide +kernel
theorem d_MD_open_79 : decode b_MD_open 79 = .ok (.if_icmp .ge 5, 3) := by decide +kernel
theorem d_MD_open_82 : decode b_MD_open 82 = .ok (.iconst (-1), 1) := by decide +kernel
theorem d_MD_open_83 : decode b_MD_open 83 = .ok (.ireturn, 1) := by decide +kernel
theorem d_MD_open_84 : decode b_MD_open 84 = .ok (.aload_n 0, 1) := by decide +kernel
theorem d_MD_open_85 : decode b_MD_open 85 = .ok (.iload_n 1, 1) := by decide +kernel
theorem d_MD_open_86 : decode b_MD_open 86 = .ok (.invokevirtual 86, 3) := by decide +kernel
theorem d_MD_open_89 : decode b_MD_open 89 = .ok (.istore_n 2, 1) := by decide +kernel
theorem d_MD_open_90 : decode b_MD_open 90 = .ok (.iload_n 2, 1) := by decide +kernel
theorem d_MD_open_91 : decode b_MD_open 91 = .ok (.ifCond .ge 6, 3) := by decide +kernel
theorem d_MD_open_94 : decode b_MD_open 94 = .ok (.bipush (-2), 2) := by decide +kernel
theorem d_MD_open_96 : decode b_MD_open 96 = .ok (.ireturn, 1) := by decide +kernel
theorem d_MD_open_97 : decode b_MD_open 97 = .ok (.iconst 2, 1) := by decide +kernel
theorem d_MD_open_98 : decode b_MD_open 98 = .ok (.aload_n 0, 1) := by decide +kernel
theorem d_MD_open_99 : decode b_MD_open 99 = .ok (.getfield 7, 3) := by decide +kernel
theorem d_MD_open_102 : decode b_MD_open 102 = .ok (.iload_n 1, 1) := by decide +kernel
theorem d_MD_open_103 : decode b_MD_open 103 = .ok (.iaload, 1) := by decide +kernel
theorem d_MD_open_104 : decode b_MD_open 104 = .ok (.invokestatic 49, 3) := by decide +kernel
theorem d_MD_open_107 : decode b_MD_open 107 = .ok (.istore_n 3, 1) := by decide +kernel
theorem d_MD_open_108 : decode b_MD_open 108 = .ok (.aload_n 0, 1) := by decide +kernel
theorem d_MD_open_109 : decode b_MD_open 109 = .ok (.iload_n 2, 1) := by decide +kernel
theorem d_MD_open_110 : decode b_MD_open 110 = .ok (.invokevirtual 77, 3) := by decide +kernel
theorem d_MD_open_113 : decode b_MD_open 113 = .ok (.aload_n 0, 1) := by decide +kernel
theorem d_MD_open_114 : decode b_MD_open 114 = .ok (.getfield 7, 3) := by decide +kernel
theorem d_MD_open_117 : decode b_MD_open 117 = .ok (.iload_n 1, 1) := by decide +kernel
theorem d_MD_open_118 : decode b_MD_open 118 = .ok (.iaload, 1) := by decide +kernel
theorem d_MD_open_119 : decode b_MD_open 119 = .ok (.invokestatic 49, 3) := by decide +kernel
theorem d_MD_open_122 : decode b_MD_open 122 = .ok (.istore 4, 2) := by decide +kernel
theorem d_MD_open_124 : decode b_MD_open 124 = .ok (.aload_n 0, 1) := by decide +kernel
theorem d_MD_open_125 : decode b_MD_open 125 = .ok (.iload_n 2, 1) := by decide +kernel
theorem d_MD_open_126 : decode b_MD_open 126 = .ok (.iconst 2, 1) := by decide +kernel
theorem d_MD_open_127 : decode b_MD_open 127 = .ok (.iadd, 1) := by decide +kernel
theorem d_MD_open_128 : decode b_MD_open 128 = .ok (.invokevirtual 77, 3) := by decide +kernel
theorem d_MD_open_131 : decode b_MD_open 131 = .ok (.bipush 16, 2) := by decide +kernel
theorem d_MD_open_133 : decode b_MD_open 133 = .ok (.ishl, 1) := by decide +kernel
theorem d_MD_open_134 : decode b_MD_open 134 = .ok (.aload_n 0, 1) := by decide +kernel
theorem d_MD_open_135 : decode b_MD_open 135 = .ok (.iload_n 2, 1) := by decide +kernel
theorem d_MD_open_136 : decode b_MD_open 136 = .ok (.iconst 4, 1) := by decide +kernel
theorem d_MD_open_137 : decode b_MD_open 137 = .ok (.iadd, 1) := by decide +kernel
theorem d_MD_open_138 : decode b_MD_open 138 = .ok (.invokevirtual 77, 3) := by decide +kernel
theorem d_MD_open_141 : decode b_MD_open 141 = .ok (.ior, 1) := by decide +kernel
theorem d_MD_open_142 : decode b_MD_open 142 = .ok (.iload 4, 2) := by decide +kernel
theorem d_MD_open_144 : decode b_MD_open 144 = .ok (.iload_n 3, 1) := by decide +kernel
theorem d_MD_open_145 : decode b_MD_open 145 = .ok (.iconst 1, 1) := by decide +kernel
theorem d_MD_open_146 : decode b_MD_open 146 = .ok (.invokestatic 63, 3) := by decide +kernel
theorem d_MD_open_149 : decode b_MD_open 149 = .ok (.ixor, 1) := by decide +kernel
theorem d_MD_open_150 : decode b_MD_open 150 = .ok (.istore 5, 2) := by decide +kernel
theorem d_MD_open_152 : decode b_MD_open 152 = .ok (.iconst 2, 1) := by decide +kernel
theorem d_MD_open_153 : decode b_MD_open 153 = .ok (.bipush 8, 2) := by decide +kernel
theorem d_MD_open_155 : decode b_MD_open 155 = .ok (.aload_n 0, 1) := by decide +kernel
theorem d_MD_open_156 : decode b_MD_open 156 = .ok (.getfield 16, 3) := by decide +kernel
theorem d_MD_open_159 : decode b_MD_open 159 = .ok (.iconst 1, 1) := by decide +kernel
theorem d_MD_open_160 : decode b_MD_open 160 = .ok (.iaload, 1) := by decide +kernel
theorem d_MD_open_161 : decode b_MD_open 161 = .ok (.imul, 1) := by decide +kernel
theorem d_MD_open_162 : decode b_MD_open 162 = .ok (.iadd, 1) := by decide +kernel
theorem d_MD_open_163 : decode b_MD_open 163 = .ok (.istore 6, 2) := by decide +kernel
theorem d_MD_open_165 : decode b_MD_open 165 = .ok (.aload_n 0, 1) := by decide +kernel
theorem d_MD_open_166 : decode b_MD_open 166 = .ok (.iload 6, 2) := by decide +kernel
theorem d_MD_open_168 : decode b_MD_open 168 = .ok (.invokevirtual 77, 3) := by decide +kernel
theorem d_MD_open_171 : decode b_MD_open 171 = .ok (.aload_n 0, 1) := by decide +kernel
theorem d_MD_open_172 : decode b_MD_open 172 = .ok (.iconst 0, 1) := by decide +kernel
theorem d_MD_open_173 : decode b_MD_open 173 = .ok (.iload 6, 2) := by decide +kernel
theorem d_MD_open_175 : decode b_MD_open 175 = .ok (.iload 5, 2) := by decide +kernel
theorem d_MD_open_177 : decode b_MD_open 177 = .ok (.iconst 0, 1) := by decide +kernel
theorem d_MD_open_178 : decode b_MD_open 178 = .ok (.iconst 3, 1) := by decide +kernel
theorem d_MD_open_179 : decode b_MD_open 179 = .ok (.invokestatic 63, 3) := by decide +kernel
theorem d_MD_open_182 : decode b_MD_open 182 = .ok (.invokevirtual 70, 3) := by decide +kernel
theorem d_MD_open_185 : decode b_MD_open 185 = .ok (.if_icmp .eq 6, 3) := by decide +kernel
theorem d_MD_open_188 : decode b_MD_open 188 = .ok (.bipush (-3), 2) := by decide +kernel
theorem d_MD_open_190 : decode b_MD_open 190 = .ok (.ireturn, 1) := by decide +kernel
theorem d_MD_open_191 : decode b_MD_open 191 = .ok (.iload 6, 2) := by decide +kernel
theorem d_MD_open_193 : decode b_MD_open 193 = .ok (.iconst 2, 1) := by decide +kernel
theorem d_MD_open_194 : decode b_MD_open 194 = .ok (.iadd, 1) := by decide +kernel
theorem d_MD_open_195 : decode b_MD_open 195 = .ok (.istore 6, 2) := by decide +kernel
theorem d_MD_open_197 : decode b_MD_open 197 = .ok (.aload_n 0, 1) := by decide +kernel
theorem d_MD_open_198 : decode b_MD_open 198 = .ok (.iconst 0, 1) := by decide +kernel
theorem d_MD_open_199 : decode b_MD_open 199 = .ok (.putfield 80, 3) := by decide +kernel
theorem d_MD_open_202 : decode b_MD_open 202 = .ok (.iconst 0, 1) := by decide +kernel
theorem d_MD_open_203 : decode b_MD_open 203 = .ok (.istore 7, 2) := by decide +kernel
theorem d_MD_open_205 : decode b_MD_open 205 = .ok (.iload 6, 2) := by decide +kernel
theorem d_MD_open_207 : decode b_MD_open 207 = .ok (.aload_n 0, 1) := by decide +kernel
theorem d_MD_open_208 : decode b_MD_open 208 = .ok (.getfield 56, 3) := by decide +kernel
theorem d_MD_open_211 : decode b_MD_open 211 = .ok (.if_icmp .ge 115, 3) := by decide +kernel
theorem d_MD_open_214 : decode b_MD_open 214 = .ok (.iload 7, 2) := by decide +kernel
theorem d_MD_open_216 : decode b_MD_open 216 = .ok (.ifCond .ne 110, 3) := by decide +kernel
theorem d_MD_open_219 : decode b_MD_open 219 = .ok (.aload_n 0, 1) := by decide +kernel
theorem d_MD_open_220 : decode b_MD_open 220 = .ok (.getfield 56, 3) := by decide +kernel
theorem d_MD_open_223 : decode b_MD_open 223 = .ok (.iload 6, 2) := by decide +kernel
theorem d_MD_open_225 : decode b_MD_open 225 = .ok (.isub, 1) := by decide +kernel
theorem d_MD_open_226 : decode b_MD_open 226 = .ok (.istore 8, 2) := by decide +kernel
theorem d_MD_open_228 : decode b_MD_open 228 = .ok (.iload 8, 2) := by decide +kernel
theorem d_MD_open_230 : decode b_MD_open 230 = .ok (.bipush 10, 2) := by decide +kernel
theorem d_MD_open_232 : decode b_MD_open 232 = .ok (.if_icmp .le 8, 3) := by decide +kernel
theorem d_MD_open_235 : decode b_MD_open 235 = .ok (.bipush 8, 2) := by decide +kernel
theorem d_MD_open_237 : decode b_MD_open 237 = .ok (.goto 7, 3) := by decide +kernel
theorem d_MD_open_240 : decode b_MD_open 240 = .ok (.iload 8, 2) := by decide +kernel
theorem d_MD_open_242 : decode b_MD_open 242 = .ok (.iconst 2, 1) := by decide +kernel
theorem d_MD_open_243 : decode b_MD_open 243 = .ok (.isub, 1) := by decide +kernel
theorem d_MD_open_244 : decode b_MD_open 244 = .ok (.istore 9, 2) := by decide +kernel
theorem d_MD_open_246 : decode b_MD_open 246 = .ok (.iload 8, 2) := by decide +kernel
theorem d_MD_open_248 : decode b_MD_open 248 = .ok (.iconst 1, 1) := by decide +kernel
theorem d_MD_open_249 : decode b_MD_open 249 = .ok (.if_icmp .ne 8, 3) := by decide +kernel
theorem d_MD_open_252 : decode b_MD_open 252 = .ok (.bipush (-4), 2) := by decide +kernel
theorem d_MD_open_254 : decode b_MD_open 254 = .ok (.goto 29, 3) := by decide +kernel
theorem d_MD_open_257 : decode b_MD_open 257 = .ok (.aload_n 0, 1) := by decide +kernel
theorem d_MD_open_258 : decode b_MD_open 258 = .ok (.iload 6, 2) := by decide +kernel
theorem d_MD_open_260 : decode b_MD_open 260 = .ok (.iload 9, 2) := by decide +kernel
theorem d_MD_open_262 : decode b_MD_open 262 = .ok (.aload_n 0, 1) := by decide +kernel
theorem d_MD_open_263 : decode b_MD_open 263 = .ok (.getfield 83, 3) := by decide +kernel
theorem d_MD_open_266 : decode b_MD_open 266 = .ok (.iload 5, 2) := by decide +kernel
theorem d_MD_open_268 : decode b_MD_open 268 = .ok (.iload 8, 2) := by decide +kernel
theorem d_MD_open_270 : decode b_MD_open 270 = .ok (.bipush 10, 2) := by decide +kernel
theorem d_MD_open_272 : decode b_MD_open 272 = .ok (.if_icmp .gt 7, 3) := by decide +kernel
theorem d_MD_open_275 : decode b_MD_open 275 = .ok (.iconst 1, 1) := by decide +kernel
theorem d_MD_open_276 : decode b_MD_open 276 = .ok (.goto 4, 3) := by decide +kernel
theorem d_MD_open_279 : decode b_MD_open 279 = .ok (.iconst 0, 1) := by decide +kernel
theorem d_MD_open_280 : decode b_MD_open 280 = .ok (.invokevirtual 89, 3) := by decide +kernel
theorem d_MD_open_283 : decode b_MD_open 283 = .ok (.istore 7, 2) := by decide +kernel
theorem d_MD_open_285 : decode b_MD_open 285 = .ok (.iload 7, 2) := by decide +kernel
theorem d_MD_open_287 : decode b_MD_open 287 = .ok (.ifCond .ne 36, 3) := by decide +kernel
theorem d_MD_open_290 : decode b_MD_open 290 = .ok (.aload_n 0, 1) := by decide +kernel
theorem d_MD_open_291 : decode b_MD_open 291 = .ok (.iload 6, 2) := by decide +kernel
theorem d_MD_open_293 : decode b_MD_open 293 = .ok (.iload 9, 2) := by decide +kernel
theorem d_MD_open_295 : decode b_MD_open 295 = .ok (.aload_n 0, 1) := by decide +kernel
theorem d_MD_open_296 : decode b_MD_open 296 = .ok (.getfield 83, 3) := by decide +kernel
theorem d_MD_open_299 : decode b_MD_open 299 = .ok (.iload 5, 2) := by decide +kernel
theorem d_MD_open_301 : decode b_MD_open 301 = .ok (.invokevirtual 93, 3) := by decide +kernel
theorem d_MD_open_304 : decode b_MD_open 304 = .ok (.aload_n 0, 1) := by decide +kernel
theorem d_MD_open_305 : decode b_MD_open 305 = .ok (.dup, 1) := by decide +kernel
theorem d_MD_open_306 : decode b_MD_open 306 = .ok (.getfield 83, 3) := by decide +kernel
theorem d_MD_open_309 : decode b_MD_open 309 = .ok (.iconst 1, 1) := by decide +kernel
theorem d_MD_open_310 : decode b_MD_open 310 = .ok (.iadd, 1) := by decide +kernel
theorem d_MD_open_311 : decode b_MD_open 311 = .ok (.putfield 83, 3) := by decide +kernel
theorem d_MD_open_314 : decode b_MD_open 314 = .ok (.iload 6, 2) := by decide +kernel
theorem d_MD_open_316 : decode b_MD_open 316 = .ok (.iload 9, 2) := by decide +kernel
theorem d_MD_open_318 : decode b_MD_open 318 = .ok (.iadd, 1) := by decide +kernel
theorem d_MD_open_319 : decode b_MD_open 319 = .ok (.iconst 2, 1) := by decide +kernel
theorem d_MD_open_320 : decode b_MD_open 320 = .ok (.iadd, 1) := by decide +kernel
theorem d_MD_open_321 : decode b_MD_open 321 = .ok (.istore 6, 2) := by decide +kernel
theorem d_MD_open_323 : decode b_MD_open 323 = .ok (.goto (-118), 3) := by decide +kernel
theorem d_MD_open_326 : decode b_MD_open 326 = .ok (.aload_n 0, 1) := by decide +kernel
theorem d_MD_open_327 : decode b_MD_open 327 = .ok (.aload_n 0, 1) := by decide +kernel
theorem d_MD_open_328 : decode b_MD_open 328 = .ok (.getfield 80, 3) := by decide +kernel
theorem d_MD_open_331 : decode b_MD_open 331 = .ok (.putfield 53, 3) := by decide +kernel
theorem d_MD_open_334 : decode b_MD_open 334 = .ok (.iconst 0, 1) := by decide +kernel
theorem d_MD_open_335 : decode b_MD_open 335 = .ok (.istore 8, 2) := by decide +kernel
theorem d_MD_open_337 : decode b_MD_open 337 = .ok (.iload 8, 2) := by decide +kernel
theorem d_MD_open_339 : decode b_MD_open 339 = .ok (.aload_n 0, 1) := by decide +kernel
theorem d_MD_open_340 : decode b_MD_open 340 = .ok (.getfield 80, 3) := by decide +kernel
theorem d_MD_open_343 : decode b_MD_open 343 = .ok (.if_icmp .ge 23, 3) := by decide +kernel
theorem d_MD_open_346 : decode b_MD_open 346 = .ok (.aload_n 0, 1) := by decide +kernel
theorem d_MD_open_347 : decode b_MD_open 347 = .ok (.getfield 13, 3) := by decide +kernel
theorem d_MD_open_350 : decode b_MD_open 350 = .ok (.iload 8, 2) := by decide +kernel
theorem d_MD_open_352 : decode b_MD_open 352 = .ok (.aload_n 0, 1) := by decide +kernel
theorem d_MD_open_353 : decode b_MD_open 353 = .ok (.getfield 19, 3) := by decide +kernel
theorem d_MD_open_356 : decode b_MD_open 356 = .ok (.iload 8, 2) := by decide +kernel
theorem d_MD_open_358 : decode b_MD_open 358 = .ok (.iaload, 1) := by decide +kernel
theorem d_MD_open_359 : decode b_MD_open 359 = .ok (.iastore, 1) := by decide +kernel
theorem d_MD_open_360 : decode b_MD_open 360 = .ok (.iinc 8 1, 3) := by decide +kernel
theorem d_MD_open_363 : decode b_MD_open 363 = .ok (.goto (-26), 3) := by decide +kernel
theorem d_MD_open_366 : decode b_MD_open 366 = .ok (.iload 7, 2) := by decide +kernel
theorem d_MD_open_368 : decode b_MD_open 368 = .ok (.ifCond .ge 8, 3) := by decide +kernel
theorem d_MD_open_371 : decode b_MD_open 371 = .ok (.iload 7, 2) := by decide +kernel
theorem d_MD_open_373 : decode b_MD_open 373 = .ok (.goto 7, 3) := by decide +kernel
theorem d_MD_open_376 : decode b_MD_open 376 = .ok (.aload_n 0, 1) := by decide +kernel
theorem d_MD_open_377 : decode b_MD_open 377 = .ok (.getfield 53, 3) := by decide +kernel
theorem d_MD_open_380 : decode b_MD_open 380 = .ok (.ireturn, 1) := by decide +kernel
theorem d_MD_piece_0 : decode b_MD_piece 0 = .ok (.aload_n 0, 1) := by decide +kernel
theorem d_MD_piece_1 : decode b_MD_piece 1 = .ok (.iload_n 1, 1) := by decide +kernel
theorem d_MD_piece_2 : decode b_MD_piece 2 = .ok (.iload_n 2, 1) := by decide +kernel
theorem d_MD_piece_3 : decode b_MD_piece 3 = .ok (.iadd, 1) := by decide +kernel
theorem d_MD_piece_4 : decode b_MD_piece 4 = .ok (.invokevirtual 77, 3) := by decide +kernel
theorem d_MD_piece_7 : decode b_MD_piece 7 = .ok (.istore 6, 2) := by decide +kernel
theorem d_MD_piece_9 : decode b_MD_piece 9 = .ok (.iload 6, 2) := by decide +kernel
theorem d_MD_piece_11 : decode b_MD_piece 11 = .ok (.aload_n 0, 1) := by decide +kernel
theorem d_MD_piece_12 : decode b_MD_piece 12 = .ok (.iload_n 1, 1) := by decide +kernel
theorem d_MD_piece_13 : decode b_MD_piece 13 = .ok (.iload_n 1, 1) := by decide +kernel
theorem d_MD_piece_14 : decode b_MD_piece 14 = .ok (.iload_n 2, 1) := by decide +kernel
theorem d_MD_piece_15 : decode b_MD_piece 15 = .ok (.iadd, 1) := by decide +kernel
theorem d_MD_piece_16 : decode b_MD_piece 16 = .ok (.iload 4, 2) := by decide +kernel
theorem d_MD_piece_18 : decode b_MD_piece 18 = .ok (.iload_n 3, 1) := by decide +kernel
theorem d_MD_piece_19 : decode b_MD_piece 19 = .ok (.iload 5, 2) := by decide +kernel
theorem d_MD_piece_21 : decode b_MD_piece 21 = .ok (.ifCond .eq 8, 3) := by decide +kernel
theorem d_MD_piece_24 : decode b_MD_piece 24 = .ok (.bipush 6, 2) := by decide +kernel
theorem d_MD_piece_26 : decode b_MD_piece 26 = .ok (.goto 4, 3) := by decide +kernel
theorem d_MD_piece_29 : decode b_MD_piece 29 = .ok (.iconst 5, 1) := by decide +kernel
theorem d_MD_piece_30 : decode b_MD_piece 30 = .ok (.invokestatic 63, 3) := by decide +kernel
theorem d_MD_piece_33 : decode b_MD_piece 33 = .ok (.invokevirtual 70, 3) := by decide +kernel
theorem d_MD_piece_36 : decode b_MD_piece 36 = .ok (.if_icmp .ne 5, 3) := by decide +kernel
theorem d_MD_piece_39 : decode b_MD_piece 39 = .ok (.iconst 0, 1) := by decide +kernel
theorem d_MD_piece_40 : decode b_MD_piece 40 = .ok (.ireturn, 1) := by decide +kernel
theorem d_MD_piece_41 : decode b_MD_piece 41 = .ok (.iload 6, 2) := by decide +kernel
theorem d_MD_piece_43 : decode b_MD_piece 43 = .ok (.aload_n 0, 1) := by decide +kernel
theorem d_MD_piece_44 : decode b_MD_piece 44 = .ok (.iload_n 1, 1) := by decide +kernel
theorem d_MD_piece_45 : decode b_MD_piece 45 = .ok (.iload_n 1, 1) := by decide +kernel
theorem d_MD_piece_46 : decode b_MD_piece 46 = .ok (.iload_n 2, 1) := by decide +kernel
theorem d_MD_piece_47 : decode b_MD_piece 47 = .ok (.iadd, 1) := by decide +kernel
theorem d_MD_piece_48 : decode b_MD_piece 48 = .ok (.iload 4, 2) := by decide +kernel
theorem d_MD_piece_50 : decode b_MD_piece 50 = .ok (.iload_n 3, 1) := by decide +kernel
theorem d_MD_piece_51 : decode b_MD_piece 51 = .ok (.iload 5, 2) := by decide +kernel
theorem d_MD_piece_53 : decode b_MD_piece 53 = .ok (.ifCond .eq 7, 3) := by decide +kernel
theorem d_MD_piece_56 : decode b_MD_piece 56 = .ok (.iconst 5, 1) := by decide +kernel
theorem d_MD_piece_57 : decode b_MD_piece 57 = .ok (.goto 5, 3) := by decide +kernel
theorem d_MD_piece_60 : decode b_MD_piece 60 = .ok (.bipush 6, 2) := by decide +kernel
theorem d_MD_piece_62 : decode b_MD_piece 62 = .ok (.invokestatic 63, 3) := by decide +kernel
theorem d_MD_piece_65 : decode b_MD_piece 65 = .ok (.invokevirtual 70, 3) := by decide +kernel
theorem d_MD_piece_68 : decode b_MD_piece 68 = .ok (.if_icmp .ne 8, 3) := by decide +kernel
theorem d_MD_piece_71 : decode b_MD_piece 71 = .ok (.bipush (-5), 2) := by decide +kernel
theorem d_MD_piece_73 : decode b_MD_piece 73 = .ok (.goto 5, 3) := by decide +kernel
theorem d_MD_piece_76 : decode b_MD_piece 76 = .ok (.bipush (-4), 2) := by decide +kernel
theorem d_MD_piece_78 : decode b_MD_piece 78 = .ok (.ireturn, 1) := by decide +kernel
theorem d_MD_pieces_0 : decode b_MD_pieces 0 = .ok (.aload_n 0, 1) := by decide +kernel
theorem d_MD_pieces_1 : decode b_MD_pieces 1 = .ok (.iconst 0, 1) := by decide +kernel
theorem d_MD_pieces_2 : decode b_MD_pieces 2 = .ok (.putfield 26, 3) := by decide +kernel
theorem d_MD_pieces_5 : decode b_MD_pieces 5 = .ok (.aload_n 0, 1) := by decide +kernel
theorem d_MD_pieces_6 : decode b_MD_pieces 6 = .ok (.getfield 83, 3) := by decide +kernel
theorem d_MD_pieces_9 : decode b_MD_pieces 9 = .ok (.ireturn, 1) := by decide +kernel
theorem d_MD_power_0 : decode b_MD_power 0 = .ok (.iconst 1, 1) := by decide +kernel
theorem d_MD_power_1 : decode b_MD_power 1 = .ok (.istore_n 2, 1) := by decide +kernel
theorem d_MD_power_2 : decode b_MD_power 2 = .ok (.iload_n 0, 1) := by decide +kernel
theorem d_MD_power_3 : decode b_MD_power 3 = .ok (.sipush 32749, 3) := by decide +kernel
theorem d_MD_power_6 : decode b_MD_power 6 = .ok (.irem, 1) := by decide +kernel
theorem d_MD_power_7 : decode b_MD_power 7 = .ok (.istore_n 3, 1) := by decide +kernel
theorem d_MD_power_8 : decode b_MD_power 8 = .ok (.iconst 0, 1) := by decide +kernel
theorem d_MD_power_9 : decode b_MD_power 9 = .ok (.istore 4, 2) := by decide +kernel
theorem d_MD_power_11 : decode b_MD_power 11 = .ok (.iload 4, 2) := by decide +kernel
theorem d_MD_power_13 : decode b_MD_power 13 = .ok (.bipush 16, 2) := by decide +kernel
theorem d_MD_power_15 : decode b_MD_power 15 = .ok (.if_icmp .ge 39, 3) := by decide +kernel
theorem d_MD_power_18 : decode b_MD_power 18 = .ok (.iload_n 1, 1) := by decide +kernel
theorem d_MD_power_19 : decode b_MD_power 19 = .ok (.iload 4, 2) := by decide +kernel
theorem d_MD_power_21 : decode b_MD_power 21 = .ok (.ishr, 1) := by decide +kernel
theorem d_MD_power_22 : decode b_MD_power 22 = .ok (.iconst 1, 1) := by decide +kernel
theorem d_MD_power_23 : decode b_MD_power 23 = .ok (.iand, 1) := by decide +kernel
theorem d_MD_power_24 : decode b_MD_power 24 = .ok (.iconst 1, 1) := by decide +kernel
theorem d_MD_power_25 : decode b_MD_power 25 = .ok (.if_icmp .ne 13, 3) := by decide +kernel
theorem d_MD_power_28 : decode b_MD_power 28 = .ok (.iload_n 2, 1) := by decide +kernel
theorem d_MD_power_29 : decode b_MD_power 29 = .ok (.iload_n 3, 1) := by decide +kernel
theorem d_MD_power_30 : decode b_MD_power 30 = .ok (.imul, 1) := by decide +kernel
theorem d_MD_power_31 : decode b_MD_power 31 = .ok (.sipush 32749, 3) := by decide +kernel
theorem d_MD_power_34 : decode b_MD_power 34 = .ok (.irem, 1) := by decide +kernel
theorem d_MD_power_35 : decode b_MD_power 35 = .ok (.goto 4, 3) := by decide +kernel
theorem d_MD_power_38 : decode b_MD_power 38 = .ok (.iload_n 2, 1) := by decide +kernel
theorem d_MD_power_39 : decode b_MD_power 39 = .ok (.istore_n 2, 1) := by decide +kernel
theorem d_MD_power_40 : decode b_MD_power 40 = .ok (.iload_n 3, 1) := by decide +kernel
theorem d_MD_power_41 : decode b_MD_power 41 = .ok (.iload_n 3, 1) := by decide +kernel
theorem d_MD_power_42 : decode b_MD_power 42 = .ok (.imul, 1) := by decide +kernel
theorem d_MD_power_43 : decode b_MD_power 43 = .ok (.sipush 32749, 3) := by decide +kernel
theorem d_MD_power_46 : decode b_MD_power 46 = .ok (.irem, 1) := by decide +kernel
theorem d_MD_power_47 : decode b_MD_power 47 = .ok (.istore_n 3, 1) := by decide +kernel
theorem d_MD_power_48 : decode b_MD_power 48 = .ok (.iinc 4 1, 3) := by decide +kernel
theorem d_MD_power_51 : decode b_MD_power 51 = .ok (.goto (-40), 3) := by decide +kernel
theorem d_MD_power_54 : decode b_MD_power 54 = .ok (.iload_n 2, 1) := by decide +kernel
theorem d_MD_power_55 : decode b_MD_power 55 = .ok (.ireturn, 1) := by decide +kernel
theorem d_MD_print_0 : decode b_MD_print 0 = .ok (.aload_n 0, 1) := by decide +kernel
theorem d_MD_print_1 : decode b_MD_print 1 = .ok (.iconst 0, 1) := by decide +kernel
theorem d_MD_print_2 : decode b_MD_print 2 = .ok (.putfield 26, 3) := by decide +kernel
theorem d_MD_print_5 : decode b_MD_print 5 = .ok (.iload_n 1, 1) := by decide +kernel
theorem d_MD_print_6 : decode b_MD_print 6 = .ok (.ifCond .lt 24, 3) := by decide +kernel
theorem d_MD_print_9 : decode b_MD_print 9 = .ok (.iload_n 1, 1) := by decide +kernel
theorem d_MD_print_10 : decode b_MD_print 10 = .ok (.sipush 160, 3) := by decide +kernel
theorem d_MD_print_13 : decode b_MD_print 13 = .ok (.if_icmp .ge 17, 3) := by decide +kernel
theorem d_MD_print_16 : decode b_MD_print 16 = .ok (.bipush 6, 2) := by decide +kernel
theorem d_MD_print_18 : decode b_MD_print 18 = .ok (.iload_n 1, 1) := by decide +kernel
theorem d_MD_print_19 : decode b_MD_print 19 = .ok (.imul, 1) := by decide +kernel
theorem d_MD_print_20 : decode b_MD_print 20 = .ok (.bipush 8, 2) := by decide +kernel
theorem d_MD_print_22 : decode b_MD_print 22 = .ok (.aload_n 0, 1) := by decide +kernel
theorem d_MD_print_23 : decode b_MD_print 23 = .ok (.getfield 56, 3) := by decide +kernel
theorem d_MD_print_26 : decode b_MD_print 26 = .ok (.imul, 1) := by decide +kernel
theorem d_MD_print_27 : decode b_MD_print 27 = .ok (.if_icmp .lt 5, 3) := by decide +kernel
theorem d_MD_print_30 : decode b_MD_print 30 = .ok (.iconst (-1), 1) := by decide +kernel
theorem d_MD_print_31 : decode b_MD_print 31 = .ok (.ireturn, 1) := by decide +kernel
theorem d_MD_print_32 : decode b_MD_print 32 = .ok (.iconst 0, 1) := by decide +kernel
theorem d_MD_print_33 : decode b_MD_print 33 = .ok (.istore_n 2, 1) := by decide +kernel
theorem d_MD_print_34 : decode b_MD_print 34 = .ok (.iconst 0, 1) := by decide +kernel
theorem d_MD_print_35 : decode b_MD_print 35 = .ok (.istore_n 3, 1) := by decide +kernel
theorem d_MD_print_36 : decode b_MD_print 36 = .ok (.iload_n 3, 1) := by decide +kernel
theorem d_MD_print_37 : decode b_MD_print 37 = .ok (.bipush 6, 2) := by decide +kernel
theorem d_MD_print_39 : decode b_MD_print 39 = .ok (.if_icmp .ge 24, 3) := by decide +kernel
theorem d_MD_print_42 : decode b_MD_print 42 = .ok (.iconst 2, 1) := by decide +kernel
theorem d_MD_print_43 : decode b_MD_print 43 = .ok (.iload_n 2, 1) := by decide +kernel
theorem d_MD_print_44 : decode b_MD_print 44 = .ok (.imul, 1) := by decide +kernel
theorem d_MD_print_45 : decode b_MD_print 45 = .ok (.aload_n 0, 1) := by decide +kernel
theorem d_MD_print_46 : decode b_MD_print 46 = .ok (.bipush 6, 2) := by decide +kernel
theorem d_MD_print_48 : decode b_MD_print 48 = .ok (.iload_n 1, 1) := by decide +kernel
theorem d_MD_print_49 : decode b_MD_print 49 = .ok (.imul, 1) := by decide +kernel
theorem d_MD_print_50 : decode b_MD_print 50 = .ok (.iload_n 3, 1) := by decide +kernel
theorem d_MD_print_51 : decode b_MD_print 51 = .ok (.iadd, 1) := by decide +kernel
theorem d_MD_print_52 : decode b_MD_print 52 = .ok (.invokevirtual 97, 3) := by decide +kernel
theorem d_MD_print_55 : decode b_MD_print 55 = .ok (.iadd, 1) := by decide +kernel
theorem d_MD_print_56 : decode b_MD_print 56 = .ok (.istore_n 2, 1) := by decide +kernel
theorem d_MD_print_57 : decode b_MD_print 57 = .ok (.iinc 3 1, 3) := by decide +kernel
theorem d_MD_print_60 : decode b_MD_print 60 = .ok (.goto (-24), 3) := by decide +kernel
theorem d_MD_print_63 : decode b_MD_print 63 = .ok (.iload_n 2, 1) := by decide +kernel
theorem d_MD_print_64 : decode b_MD_print 64 = .ok (.bipush 26, 2) := by decide +kernel
theorem d_MD_print_66 : decode b_MD_print 66 = .ok (.if_icmp .ge 10, 3) := by decide +kernel
theorem d_MD_print_69 : decode b_MD_print 69 = .ok (.bipush 65, 2) := by decide +kernel
theorem d_MD_print_71 : decode b_MD_print 71 = .ok (.iload_n 2, 1) := by decide +kernel
theorem d_MD_print_72 : decode b_MD_print 72 = .ok (.iadd, 1) := by decide +kernel
theorem d_MD_print_73 : decode b_MD_print 73 = .ok (.goto 48, 3) := by decide +kernel
theorem d_MD_print_76 : decode b_MD_print 76 = .ok (.iload_n 2, 1) := by decide +kernel
theorem d_MD_print_77 : decode b_MD_print 77 = .ok (.bipush 52, 2) := by decide +kernel
theorem d_MD_print_79 : decode b_MD_print 79 = .ok (.if_icmp .ge 13, 3) := by decide +kernel
theorem d_MD_print_82 : decode b_MD_print 82 = .ok (.bipush 97, 2) := by decide +kernel
theorem d_MD_print_84 : decode b_MD_print 84 = .ok (.iload_n 2, 1) := by decide +kernel
theorem d_MD_print_85 : decode b_MD_print 85 = .ok (.iadd, 1) := by decide +kernel
theorem d_MD_print_86 : decode b_MD_print 86 = .ok (.bipush 26, 2) := by decide +kernel
theorem d_MD_print_88 : decode b_MD_print 88 = .ok (.isub, 1) := by decide +kernel
theorem d_MD_print_89 : decode b_MD_print 89 = .ok (.goto 32, 3) := by decide +kernel
theorem d_MD_print_92 : decode b_MD_print 92 = .ok (.iload_n 2, 1) := by decide +kernel
theorem d_MD_print_93 : decode b_MD_print 93 = .ok (.bipush 62, 2) := by decide +kernel
theorem d_MD_print_95 : decode b_MD_print 95 = .ok (.if_icmp .ge 13, 3) := by decide +kernel
theorem d_MD_print_98 : decode b_MD_print 98 = .ok (.bipush 48, 2) := by decide +kernel
theorem d_MD_print_100 : decode b_MD_print 100 = .ok (.iload_n 2, 1) := by decide +kernel
theorem d_MD_print_101 : decode b_MD_print 101 = .ok (.iadd, 1) := by decide +kernel
theorem d_MD_print_102 : decode b_MD_print 102 = .ok (.bipush 52, 2) := by decide +kernel
theorem d_MD_print_104 : decode b_MD_print 104 = .ok (.isub, 1) := by decide +kernel
theorem d_MD_print_105 : decode b_MD_print 105 = .ok (.goto 16, 3) := by decide +kernel
theorem d_MD_print_108 : decode b_MD_print 108 = .ok (.iload_n 2, 1) := by decide +kernel
theorem d_MD_print_109 : decode b_MD_print 109 = .ok (.bipush 62, 2) := by decide +kernel
theorem d_MD_print_111 : decode b_MD_print 111 = .ok (.if_icmp .ne 8, 3) := by decide +kernel
theorem d_MD_print_114 : decode b_MD_print 114 = .ok (.bipush 43, 2) := by decide +kernel
theorem d_MD_print_116 : decode b_MD_print 116 = .ok (.goto 5, 3) := by decide +kernel
theorem d_MD_print_119 : decode b_MD_print 119 = .ok (.bipush 45, 2) := by decide +kernel
theorem d_MD_print_121 : decode b_MD_print 121 = .ok (.ireturn, 1) := by decide +kernel
theorem d_MD_put_0 : decode b_MD_put 0 = .ok (.aload_n 0, 1) := by decide +kernel
theorem d_MD_put_1 : decode b_MD_put 1 = .ok (.iconst 0, 1) := by decide +kernel
theorem d_MD_put_2 : decode b_MD_put 2 = .ok (.putfield 26, 3) := by decide +kernel
theorem d_MD_put_5 : decode b_MD_put 5 = .ok (.aload_n 0, 1) := by decide +kernel
theorem d_MD_put_6 : decode b_MD_put 6 = .ok (.getfield 53, 3) := by decide +kernel
theorem d_MD_put_9 : decode b_MD_put 9 = .ok (.bipush 40, 2) := by decide +kernel
theorem d_MD_put_11 : decode b_MD_put 11 = .ok (.if_icmp .eq 14, 3) := by decide +kernel
theorem d_MD_put_14 : decode b_MD_put 14 = .ok (.iload_n 1, 1) := by decide +kernel
theorem d_MD_put_15 : decode b_MD_put 15 = .ok (.ifCond .lt 10, 3) := by decide +kernel
theorem d_MD_put_18 : decode b_MD_put 18 = .ok (.iload_n 1, 1) := by decide +kernel
theorem d_MD_put_19 : decode b_MD_put 19 = .ok (.sipush 255, 3) := by decide +kernel
theorem d_MD_put_22 : decode b_MD_put 22 = .ok (.if_icmp .le 5, 3) := by decide +kernel
theorem d_MD_put_25 : decode b_MD_put 25 = .ok (.iconst 0, 1) := by decide +kernel
theorem d_MD_put_26 : decode b_MD_put 26 = .ok (.ireturn, 1) := by decide +kernel
theorem d_MD_put_27 : decode b_MD_put 27 = .ok (.aload_n 0, 1) := by decide +kernel
theorem d_MD_put_28 : decode b_MD_put 28 = .ok (.getfield 13, 3) := by decide +kernel
theorem d_MD_put_31 : decode b_MD_put 31 = .ok (.aload_n 0, 1) := by decide +kernel
theorem d_MD_put_32 : decode b_MD_put 32 = .ok (.getfield 53, 3) := by decide +kernel
theorem d_MD_put_35 : decode b_MD_put 35 = .ok (.iload_n 1, 1) := by decide +kernel
theorem d_MD_put_36 : decode b_MD_put 36 = .ok (.iastore, 1) := by decide +kernel
theorem d_MD_put_37 : decode b_MD_put 37 = .ok (.aload_n 0, 1) := by decide +kernel
theorem d_MD_put_38 : decode b_MD_put 38 = .ok (.dup, 1) := by decide +kernel
theorem d_MD_put_39 : decode b_MD_put 39 = .ok (.getfield 53, 3) := by decide +kernel
theorem d_MD_put_42 : decode b_MD_put 42 = .ok (.iconst 1, 1) := by decide +kernel
theorem d_MD_put_43 : decode b_MD_put 43 = .ok (.iadd, 1) := by decide +kernel
theorem d_MD_put_44 : decode b_MD_put 44 = .ok (.putfield 53, 3) := by decide +kernel
theorem d_MD_put_47 : decode b_MD_put 47 = .ok (.iconst 1, 1) := by decide +kernel
theorem d_MD_put_48 : decode b_MD_put 48 = .ok (.ireturn, 1) := by decide +kernel
theorem d_MD_read_0 : decode b_MD_read 0 = .ok (.aload_n 0, 1) := by decide +kernel
theorem d_MD_read_1 : decode b_MD_read 1 = .ok (.iconst 0, 1) := by decide +kernel
theorem d_MD_read_2 : decode b_MD_read 2 = .ok (.putfield 26, 3) := by decide +kernel
theorem d_MD_read_5 : decode b_MD_read 5 = .ok (.iload_n 1, 1) := by decide +kernel
theorem d_MD_read_6 : decode b_MD_read 6 = .ok (.ifCond .lt 20, 3) := by decide +kernel
theorem d_MD_read_9 : decode b_MD_read 9 = .ok (.iload_n 1, 1) := by decide +kernel
theorem d_MD_read_10 : decode b_MD_read 10 = .ok (.aload_n 0, 1) := by decide +kernel
theorem d_MD_read_11 : decode b_MD_read 11 = .ok (.getfield 53, 3) := by decide +kernel
theorem d_MD_read_14 : decode b_MD_read 14 = .ok (.if_icmp .ge 12, 3) := by decide +kernel
theorem d_MD_read_17 : decode b_MD_read 17 = .ok (.aload_n 0, 1) := by decide +kernel
theorem d_MD_read_18 : decode b_MD_read 18 = .ok (.getfield 13, 3) := by decide +kernel
theorem d_MD_read_21 : decode b_MD_read 21 = .ok (.iload_n 1, 1) := by decide +kernel
theorem d_MD_read_22 : decode b_MD_read 22 = .ok (.iaload, 1) := by decide +kernel
theorem d_MD_read_23 : decode b_MD_read 23 = .ok (.goto 8, 3) := by decide +kernel
theorem d_MD_read_26 : decode b_MD_read 26 = .ok (.aload_n 0, 1) := by decide +kernel
theorem d_MD_read_27 : decode b_MD_read 27 = .ok (.iconst 1, 1) := by decide +kernel
theorem d_MD_read_28 : decode b_MD_read 28 = .ok (.invokevirtual 39, 3) := by decide +kernel
theorem d_MD_read_31 : decode b_MD_read 31 = .ok (.ireturn, 1) := by decide +kernel
theorem d_MD_seal_0 : decode b_MD_seal 0 = .ok (.aload_n 0, 1) := by decide +kernel
theorem d_MD_seal_1 : decode b_MD_seal 1 = .ok (.iconst 0, 1) := by decide +kernel
theorem d_MD_seal_2 : decode b_MD_seal 2 = .ok (.putfield 26, 3) := by decide +kernel
theorem d_MD_seal_5 : decode b_MD_seal 5 = .ok (.iconst 0, 1) := by decide +kernel
theorem d_MD_seal_6 : decode b_MD_seal 6 = .ok (.istore 4, 2) := by decide +kernel
theorem d_MD_seal_8 : decode b_MD_seal 8 = .ok (.iconst 0, 1) := by decide +kernel
theorem d_MD_seal_9 : decode b_MD_seal 9 = .ok (.istore 5, 2) := by decide +kernel
theorem d_MD_seal_11 : decode b_MD_seal 11 = .ok (.iload 5, 2) := by decide +kernel
theorem d_MD_seal_13 : decode b_MD_seal 13 = .ok (.bipush 32, 2) := by decide +kernel
theorem d_MD_seal_15 : decode b_MD_seal 15 = .ok (.if_icmp .ge 43, 3) := by decide +kernel
theorem d_MD_seal_18 : decode b_MD_seal 18 = .ok (.iload_n 1, 1) := by decide +kernel
theorem d_MD_seal_19 : decode b_MD_seal 19 = .ok (.iload 5, 2) := by decide +kernel
theorem d_MD_seal_21 : decode b_MD_seal 21 = .ok (.ishr, 1) := by decide +kernel
theorem d_MD_seal_22 : decode b_MD_seal 22 = .ok (.iconst 1, 1) := by decide +kernel
theorem d_MD_seal_23 : decode b_MD_seal 23 = .ok (.iand, 1) := by decide +kernel
theorem d_MD_seal_24 : decode b_MD_seal 24 = .ok (.ifCond .ne 8, 3) := by decide +kernel
theorem d_MD_seal_27 : decode b_MD_seal 27 = .ok (.iload 4, 2) := by decide +kernel
theorem d_MD_seal_29 : decode b_MD_seal 29 = .ok (.goto 21, 3) := by decide +kernel
theorem d_MD_seal_32 : decode b_MD_seal 32 = .ok (.iload 5, 2) := by decide +kernel
theorem d_MD_seal_34 : decode b_MD_seal 34 = .ok (.aload_n 0, 1) := by decide +kernel
theorem d_MD_seal_35 : decode b_MD_seal 35 = .ok (.getfield 42, 3) := by decide +kernel
theorem d_MD_seal_38 : decode b_MD_seal 38 = .ok (.if_icmp .ge 10, 3) := by decide +kernel
theorem d_MD_seal_41 : decode b_MD_seal 41 = .ok (.iload 4, 2) := by decide +kernel
theorem d_MD_seal_43 : decode b_MD_seal 43 = .ok (.iconst 1, 1) := by decide +kernel
theorem d_MD_seal_44 : decode b_MD_seal 44 = .ok (.iadd, 1) := by decide +kernel
theorem d_MD_seal_45 : decode b_MD_seal 45 = .ok (.goto 5, 3) := by decide +kernel
theorem d_MD_seal_48 : decode b_MD_seal 48 = .ok (.bipush 100, 2) := by decide +kernel
theorem d_MD_seal_50 : decode b_MD_seal 50 = .ok (.istore 4, 2) := by decide +kernel
theorem d_MD_seal_52 : decode b_MD_seal 52 = .ok (.iinc 5 1, 3) := by decide +kernel
theorem d_MD_seal_55 : decode b_MD_seal 55 = .ok (.goto (-44), 3) := by decide +kernel
theorem d_MD_seal_58 : decode b_MD_seal 58 = .ok (.iload 4, 2) := by decide +kernel
theorem d_MD_seal_60 : decode b_MD_seal 60 = .ok (.iconst 1, 1) := by decide +kernel
theorem d_MD_seal_61 : decode b_MD_seal 61 = .ok (.if_icmp .lt 9, 3) := by decide +kernel
theorem d_MD_seal_64 : decode b_MD_seal 64 = .ok (.iload 4, 2) := by decide +kernel
theorem d_MD_seal_66 : decode b_MD_seal 66 = .ok (.iconst 3, 1) := by decide +kernel
theorem d_MD_seal_67 : decode b_MD_seal 67 = .ok (.if_icmp .le 9, 3) := by decide +kernel
theorem d_MD_seal_70 : decode b_MD_seal 70 = .ok (.aload_n 0, 1) := by decide +kernel
theorem d_MD_seal_71 : decode b_MD_seal 71 = .ok (.iconst 1, 1) := by decide +kernel
theorem d_MD_seal_72 : decode b_MD_seal 72 = .ok (.invokevirtual 39, 3) := by decide +kernel
theorem d_MD_seal_75 : decode b_MD_seal 75 = .ok (.ireturn, 1) := by decide +kernel
theorem d_MD_seal_76 : decode b_MD_seal 76 = .ok (.aload_n 0, 1) := by decide +kernel
theorem d_MD_seal_77 : decode b_MD_seal 77 = .ok (.iconst 0, 1) := by decide +kernel
theorem d_MD_seal_78 : decode b_MD_seal 78 = .ok (.putfield 56, 3) := by decide +kernel
theorem d_MD_seal_81 : decode b_MD_seal 81 = .ok (.aload_n 0, 1) := by decide +kernel
theorem d_MD_seal_82 : decode b_MD_seal 82 = .ok (.bipush 83, 2) := by decide +kernel
theorem d_MD_seal_84 : decode b_MD_seal 84 = .ok (.invokevirtual 59, 3) := by decide +kernel
theorem d_MD_seal_87 : decode b_MD_seal 87 = .ok (.aload_n 0, 1) := by decide +kernel
theorem d_MD_seal_88 : decode b_MD_seal 88 = .ok (.iload 4, 2) := by decide +kernel
theorem d_MD_seal_90 : decode b_MD_seal 90 = .ok (.invokevirtual 59, 3) := by decide +kernel
theorem d_MD_seal_93 : decode b_MD_seal 93 = .ok (.iconst 0, 1) := by decide +kernel
theorem d_MD_seal_94 : decode b_MD_seal 94 = .ok (.istore 5, 2) := by decide +kernel
theorem d_MD_seal_96 : decode b_MD_seal 96 = .ok (.iload 5, 2) := by decide +kernel
theorem d_MD_seal_98 : decode b_MD_seal 98 = .ok (.aload_n 0, 1) := by decide +kernel
theorem d_MD_seal_99 : decode b_MD_seal 99 = .ok (.getfield 42, 3) := by decide +kernel
theorem d_MD_seal_102 : decode b_MD_seal 102 = .ok (.if_icmp .ge 27, 3) := by decide +kernel
theorem d_MD_seal_105 : decode b_MD_seal 105 = .ok (.iload_n 1, 1) := by decide +kernel
theorem d_MD_seal_106 : decode b_MD_seal 106 = .ok (.iload 5, 2) := by decide +kernel
theorem d_MD_seal_108 : decode b_MD_seal 108 = .ok (.ishr, 1) := by decide +kernel
theorem d_MD_seal_109 : decode b_MD_seal 109 = .ok (.iconst 1, 1) := by decide +kernel
theorem d_MD_seal_110 : decode b_MD_seal 110 = .ok (.iand, 1) := by decide +kernel
theorem d_MD_seal_111 : decode b_MD_seal 111 = .ok (.iconst 1, 1) := by decide +kernel
theorem d_MD_seal_112 : decode b_MD_seal 112 = .ok (.if_icmp .ne 11, 3) := by decide +kernel
theorem d_MD_seal_115 : decode b_MD_seal 115 = .ok (.aload_n 0, 1) := by decide +kernel
theorem d_MD_seal_116 : decode b_MD_seal 116 = .ok (.iload 5, 2) := by decide +kernel
theorem d_MD_seal_118 : decode b_MD_seal 118 = .ok (.iload_n 2, 1) := by decide +kernel
theorem d_MD_seal_119 : decode b_MD_seal 119 = .ok (.iload_n 3, 1) := by decide +kernel
theorem d_MD_seal_120 : decode b_MD_seal 120 = .ok (.invokevirtual 73, 3) := by decide +kernel
theorem d_MD_seal_123 : decode b_MD_seal 123 = .ok (.iinc 5 1, 3) := by decide +kernel
theorem d_MD_seal_126 : decode b_MD_seal 126 = .ok (.goto (-30), 3) := by decide +kernel
theorem d_MD_seal_129 : decode b_MD_seal 129 = .ok (.aload_n 0, 1) := by decide +kernel
theorem d_MD_seal_130 : decode b_MD_seal 130 = .ok (.iconst 0, 1) := by decide +kernel
theorem d_MD_seal_131 : decode b_MD_seal 131 = .ok (.aload_n 0, 1) := by decide +kernel
theorem d_MD_seal_132 : decode b_MD_seal 132 = .ok (.getfield 56, 3) := by decide +kernel
theorem d_MD_seal_135 : decode b_MD_seal 135 = .ok (.iload_n 2, 1) := by decide +kernel
theorem d_MD_seal_136 : decode b_MD_seal 136 = .ok (.iconst 0, 1) := by decide +kernel
theorem d_MD_seal_137 : decode b_MD_seal 137 = .ok (.iconst 3, 1) := by decide +kernel
theorem d_MD_seal_138 : decode b_MD_seal 138 = .ok (.invokestatic 63, 3) := by decide +kernel
theorem d_MD_seal_141 : decode b_MD_seal 141 = .ok (.invokevirtual 70, 3) := by decide +kernel
theorem d_MD_seal_144 : decode b_MD_seal 144 = .ok (.istore 5, 2) := by decide +kernel
theorem d_MD_seal_146 : decode b_MD_seal 146 = .ok (.aload_n 0, 1) := by decide +kernel
theorem d_MD_seal_147 : decode b_MD_seal 147 = .ok (.iload 5, 2) := by decide +kernel
theorem d_MD_seal_149 : decode b_MD_seal 149 = .ok (.invokevirtual 67, 3) := by decide +kernel
theorem d_MD_seal_152 : decode b_MD_seal 152 = .ok (.aload_n 0, 1) := by decide +kernel
theorem d_MD_seal_153 : decode b_MD_seal 153 = .ok (.getfield 53, 3) := by decide +kernel
theorem d_MD_seal_156 : decode b_MD_seal 156 = .ok (.ifCond .ne 7, 3) := by decide +kernel
theorem d_MD_seal_159 : decode b_MD_seal 159 = .ok (.iconst 1, 1) := by decide +kernel
theorem d_MD_seal_160 : decode b_MD_seal 160 = .ok (.goto 13, 3) := by decide +kernel
theorem d_MD_seal_163 : decode b_MD_seal 163 = .ok (.aload_n 0, 1) := by decide +kernel
theorem d_MD_seal_164 : decode b_MD_seal 164 = .ok (.getfield 53, 3) := by decide +kernel
theorem d_MD_seal_167 : decode b_MD_seal 167 = .ok (.bipush 7, 2) := by decide +kernel
theorem d_MD_seal_169 : decode b_MD_seal 169 = .ok (.iadd, 1) := by decide +kernel
theorem d_MD_seal_170 : decode b_MD_seal 170 = .ok (.bipush 8, 2) := by decide +kernel
theorem d_MD_seal_172 : decode b_MD_seal 172 = .ok (.idiv, 1) := by decide +kernel
theorem d_MD_seal_173 : decode b_MD_seal 173 = .ok (.istore 6, 2) := by decide +kernel
theorem d_MD_seal_175 : decode b_MD_seal 175 = .ok (.iconst 0, 1) := by decide +kernel
theorem d_MD_seal_176 : decode b_MD_seal 176 = .ok (.istore 7, 2) := by decide +kernel
theorem d_MD_seal_178 : decode b_MD_seal 178 = .ok (.iload 7, 2) := by decide +kernel
theorem d_MD_seal_180 : decode b_MD_seal 180 = .ok (.iload 6, 2) := by decide +kernel
theorem d_MD_seal_182 : decode b_MD_seal 182 = .ok (.if_icmp .ge 120, 3) := by decide +kernel
theorem d_MD_seal_185 : decode b_MD_seal 185 = .ok (.aload_n 0, 1) := by decide +kernel
theorem d_MD_seal_186 : decode b_MD_seal 186 = .ok (.getfield 56, 3) := by decide +kernel
theorem d_MD_seal_189 : decode b_MD_seal 189 = .ok (.istore 8, 2) := by decide +kernel
theorem d_MD_seal_191 : decode b_MD_seal 191 = .ok (.bipush 8, 2) := by decide +kernel
theorem d_MD_seal_193 : decode b_MD_seal 193 = .ok (.iload 7, 2) := by decide +kernel
theorem d_MD_seal_195 : decode b_MD_seal 195 = .ok (.imul, 1) := by decide +kernel
theorem d_MD_seal_196 : decode b_MD_seal 196 = .ok (.istore 9, 2) := by decide +kernel
theorem d_MD_seal_198 : decode b_MD_seal 198 = .ok (.iload 9, 2) := by decide +kernel
theorem d_MD_seal_200 : decode b_MD_seal 200 = .ok (.aload_n 0, 1) := by decide +kernel
theorem d_MD_seal_201 : decode b_MD_seal 201 = .ok (.getfield 53, 3) := by decide +kernel
theorem d_MD_seal_204 : decode b_MD_seal 204 = .ok (.if_icmp .ge 53, 3) := by decide +kernel
theorem d_MD_seal_207 : decode b_MD_seal 207 = .ok (.iload 9, 2) := by decide +kernel
theorem d_MD_seal_209 : decode b_MD_seal 209 = .ok (.bipush 8, 2) := by decide +kernel
theorem d_MD_seal_211 : decode b_MD_seal 211 = .ok (.iload 7, 2) := by decide +kernel
theorem d_MD_seal_213 : decode b_MD_seal 213 = .ok (.imul, 1) := by decide +kernel
theorem d_MD_seal_214 : decode b_MD_seal 214 = .ok (.bipush 8, 2) := by decide +kernel
theorem d_MD_seal_216 : decode b_MD_seal 216 = .ok (.iadd, 1) := by decide +kernel
theorem d_MD_seal_217 : decode b_MD_seal 217 = .ok (.if_icmp .ge 40, 3) := by decide +kernel
theorem d_MD_seal_220 : decode b_MD_seal 220 = .ok (.aload_n 0, 1) := by decide +kernel
theorem d_MD_seal_221 : decode b_MD_seal 221 = .ok (.aload_n 0, 1) := by decide +kernel
theorem d_MD_seal_222 : decode b_MD_seal 222 = .ok (.getfield 13, 3) := by decide +kernel
theorem d_MD_seal_225 : decode b_MD_seal 225 = .ok (.iload 9, 2) := by decide +kernel
theorem d_MD_seal_227 : decode b_MD_seal 227 = .ok (.iaload, 1) := by decide +kernel
theorem d_MD_seal_228 : decode b_MD_seal 228 = .ok (.iload_n 2, 1) := by decide +kernel
theorem d_MD_seal_229 : decode b_MD_seal 229 = .ok (.bipush 16, 2) := by decide +kernel
theorem d_MD_seal_231 : decode b_MD_seal 231 = .ok (.iload 7, 2) := by decide +kernel
theorem d_MD_seal_233 : decode b_MD_seal 233 = .ok (.imul, 1) := by decide +kernel
theorem d_MD_seal_234 : decode b_MD_seal 234 = .ok (.iload 9, 2) := by decide +kernel
theorem d_MD_seal_236 : decode b_MD_seal 236 = .ok (.iadd, 1) := by decide +kernel
theorem d_MD_seal_237 : decode b_MD_seal 237 = .ok (.bipush 8, 2) := by decide +kernel
theorem d_MD_seal_239 : decode b_MD_seal 239 = .ok (.iload 7, 2) := by decide +kernel
theorem d_MD_seal_241 : decode b_MD_seal 241 = .ok (.imul, 1) := by decide +kernel
theorem d_MD_seal_242 : decode b_MD_seal 242 = .ok (.isub, 1) := by decide +kernel
theorem d_MD_seal_243 : decode b_MD_seal 243 = .ok (.iconst 4, 1) := by decide +kernel
theorem d_MD_seal_244 : decode b_MD_seal 244 = .ok (.invokestatic 63, 3) := by decide +kernel
theorem d_MD_seal_247 : decode b_MD_seal 247 = .ok (.ixor, 1) := by decide +kernel
theorem d_MD_seal_248 : decode b_MD_seal 248 = .ok (.invokevirtual 59, 3) := by decide +kernel
theorem d_MD_seal_251 : decode b_MD_seal 251 = .ok (.iinc 9 1, 3) := by decide +kernel
theorem d_MD_seal_254 : decode b_MD_seal 254 = .ok (.goto (-56), 3) := by decide +kernel
theorem d_MD_seal_257 : decode b_MD_seal 257 = .ok (.aload_n 0, 1) := by decide +kernel
theorem d_MD_seal_258 : decode b_MD_seal 258 = .ok (.iload 8, 2) := by decide +kernel
theorem d_MD_seal_260 : decode b_MD_seal 260 = .ok (.aload_n 0, 1) := by decide +kernel
theorem d_MD_seal_261 : decode b_MD_seal 261 = .ok (.getfield 56, 3) := by decide +kernel
theorem d_MD_seal_264 : decode b_MD_seal 264 = .ok (.iload_n 2, 1) := by decide +kernel
theorem d_MD_seal_265 : decode b_MD_seal 265 = .ok (.iload 7, 2) := by decide +kernel
theorem d_MD_seal_267 : decode b_MD_seal 267 = .ok (.iload 7, 2) := by decide +kernel
theorem d_MD_seal_269 : decode b_MD_seal 269 = .ok (.iload 6, 2) := by decide +kernel
theorem d_MD_seal_271 : decode b_MD_seal 271 = .ok (.iconst 1, 1) := by decide +kernel
theorem d_MD_seal_272 : decode b_MD_seal 272 = .ok (.isub, 1) := by decide +kernel
theorem d_MD_seal_273 : decode b_MD_seal 273 = .ok (.if_icmp .ne 8, 3) := by decide +kernel
theorem d_MD_seal_276 : decode b_MD_seal 276 = .ok (.bipush 6, 2) := by decide +kernel
theorem d_MD_seal_278 : decode b_MD_seal 278 = .ok (.goto 4, 3) := by decide +kernel
theorem d_MD_seal_281 : decode b_MD_seal 281 = .ok (.iconst 5, 1) := by decide +kernel
theorem d_MD_seal_282 : decode b_MD_seal 282 = .ok (.invokestatic 63, 3) := by decide +kernel
theorem d_MD_seal_285 : decode b_MD_seal 285 = .ok (.invokevirtual 70, 3) := by decide +kernel
theorem d_MD_seal_288 : decode b_MD_seal 288 = .ok (.istore 9, 2) := by decide +kernel
theorem d_MD_seal_290 : decode b_MD_seal 290 = .ok (.aload_n 0, 1) := by decide +kernel
theorem d_MD_seal_291 : decode b_MD_seal 291 = .ok (.iload 9, 2) := by decide +kernel
theorem d_MD_seal_293 : decode b_MD_seal 293 = .ok (.invokevirtual 67, 3) := by decide +kernel
theorem d_MD_seal_296 : decode b_MD_seal 296 = .ok (.iinc 7 1, 3) := by decide +kernel
theorem d_MD_seal_299 : decode b_MD_seal 299 = .ok (.goto (-121), 3) := by decide +kernel
theorem d_MD_seal_302 : decode b_MD_seal 302 = .ok (.aload_n 0, 1) := by decide +kernel
theorem d_MD_seal_303 : decode b_MD_seal 303 = .ok (.getfield 56, 3) := by decide +kernel
theorem d_MD_seal_306 : decode b_MD_seal 306 = .ok (.ireturn, 1) := by decide +kernel
theorem d_MD_sign_0 : decode b_MD_sign 0 = .ok (.lconst 1, 1) := by decide +kernel
theorem d_MD_sign_1 : decode b_MD_sign 1 = .ok (.iload_n 3, 1) := by decide +kernel
theorem d_MD_sign_2 : decode b_MD_sign 2 = .ok (.bipush 8, 2) := by decide +kernel
theorem d_MD_sign_4 : decode b_MD_sign 4 = .ok (.iushr, 1) := by decide +kernel
theorem d_MD_sign_5 : decode b_MD_sign 5 = .ok (.ldc 36, 2) := by decide +kernel
theorem d_MD_sign_7 : decode b_MD_sign 7 = .ok (.irem, 1) := by decide +kernel
theorem d_MD_sign_8 : decode b_MD_sign 8 = .ok (.i2l, 1) := by decide +kernel
theorem d_MD_sign_9 : decode b_MD_sign 9 = .ok (.ladd, 1) := by decide +kernel
theorem d_MD_sign_10 : decode b_MD_sign 10 = .ok (.lstore 4, 2) := by decide +kernel
theorem d_MD_sign_12 : decode b_MD_sign 12 = .ok (.lconst 0, 1) := by decide +kernel
theorem d_MD_sign_13 : decode b_MD_sign 13 = .ok (.lstore 6, 2) := by decide +kernel
theorem d_MD_sign_15 : decode b_MD_sign 15 = .ok (.iload_n 1, 1) := by decide +kernel
theorem d_MD_sign_16 : decode b_MD_sign 16 = .ok (.istore 8, 2) := by decide +kernel
theorem d_MD_sign_18 : decode b_MD_sign 18 = .ok (.iload 8, 2) := by decide +kernel
theorem d_MD_sign_20 : decode b_MD_sign 20 = .ok (.iload_n 2, 1) := by decide +kernel
theorem d_MD_sign_21 : decode b_MD_sign 21 = .ok (.if_icmp .ge 31, 3) := by decide +kernel
theorem d_MD_sign_24 : decode b_MD_sign 24 = .ok (.lload 6, 2) := by decide +kernel
theorem d_MD_sign_26 : decode b_MD_sign 26 = .ok (.aload_n 0, 1) := by decide +kernel
theorem d_MD_sign_27 : decode b_MD_sign 27 = .ok (.getfield 16, 3) := by decide +kernel
theorem d_MD_sign_30 : decode b_MD_sign 30 = .ok (.iload 8, 2) := by decide +kernel
theorem d_MD_sign_32 : decode b_MD_sign 32 = .ok (.iaload, 1) := by decide +kernel
theorem d_MD_sign_33 : decode b_MD_sign 33 = .ok (.i2l, 1) := by decide +kernel
theorem d_MD_sign_34 : decode b_MD_sign 34 = .ok (.ladd, 1) := by decide +kernel
theorem d_MD_sign_35 : decode b_MD_sign 35 = .ok (.lconst 1, 1) := by decide +kernel
theorem d_MD_sign_36 : decode b_MD_sign 36 = .ok (.ladd, 1) := by decide +kernel
theorem d_MD_sign_37 : decode b_MD_sign 37 = .ok (.lload 4, 2) := by decide +kernel
theorem d_MD_sign_39 : decode b_MD_sign 39 = .ok (.lmul, 1) := by decide +kernel
theorem d_MD_sign_40 : decode b_MD_sign 40 = .ok (.ldc2_w 37, 3) := by decide +kernel
theorem d_MD_sign_43 : decode b_MD_sign 43 = .ok (.lrem, 1) := by decide +kernel
theorem d_MD_sign_44 : decode b_MD_sign 44 = .ok (.lstore 6, 2) := by decide +kernel
theorem d_MD_sign_46 : decode b_MD_sign 46 = .ok (.iinc 8 1, 3) := by decide +kernel
theorem d_MD_sign_49 : decode b_MD_sign 49 = .ok (.goto (-31), 3) := by decide +kernel
theorem d_MD_sign_52 : decode b_MD_sign 52 = .ok (.lload 6, 2) := by decide +kernel
theorem d_MD_sign_54 : decode b_MD_sign 54 = .ok (.iload_n 3, 1) := by decide +kernel
theorem d_MD_sign_55 : decode b_MD_sign 55 = .ok (.sipush 255, 3) := by decide +kernel
theorem d_MD_sign_58 : decode b_MD_sign 58 = .ok (.iand, 1) := by decide +kernel
theorem d_MD_sign_59 : decode b_MD_sign 59 = .ok (.i2l, 1) := by decide +kernel
theorem d_MD_sign_60 : decode b_MD_sign 60 = .ok (.ladd, 1) := by decide +kernel
theorem d_MD_sign_61 : decode b_MD_sign 61 = .ok (.ldc2_w 37, 3) := by decide +kernel
theorem d_MD_sign_64 : decode b_MD_sign 64 = .ok (.lrem, 1) := by decide +kernel
theorem d_MD_sign_65 : decode b_MD_sign 65 = .ok (.l2i, 1) := by decide +kernel
theorem d_MD_sign_66 : decode b_MD_sign 66 = .ok (.ireturn, 1) := by decide +kernel
theorem d_MD_sixOf_0 : decode b_MD_sixOf 0 = .ok (.iload_n 0, 1) := by decide +kernel
theorem d_MD_sixOf_1 : decode b_MD_sixOf 1 = .ok (.bipush 65, 2) := by decide +kernel
theorem d_MD_sixOf_3 : decode b_MD_sixOf 3 = .ok (.if_icmp .lt 14, 3) := by decide +kernel
theorem d_MD_sixOf_6 : decode b_MD_sixOf 6 = .ok (.iload_n 0, 1) := by decide +kernel
theorem d_MD_sixOf_7 : decode b_MD_sixOf 7 = .ok (.bipush 90, 2) := by decide +kernel
theorem d_MD_sixOf_9 : decode b_MD_sixOf 9 = .ok (.if_icmp .gt 8, 3) := by decide +kernel
theorem d_MD_sixOf_12 : decode b_MD_sixOf 12 = .ok (.iload_n 0, 1) := by decide +kernel
theorem d_MD_sixOf_13 : decode b_MD_sixOf 13 = .ok (.bipush 65, 2) := by decide +kernel
theorem d_MD_sixOf_15 : decode b_MD_sixOf 15 = .ok (.isub, 1) := by decide +kernel
theorem d_MD_sixOf_16 : decode b_MD_sixOf 16 = .ok (.ireturn, 1) := by decide +kernel
theorem d_MD_sixOf_17 : decode b_MD_sixOf 17 = .ok (.iload_n 0, 1) := by decide +kernel
theorem d_MD_sixOf_18 : decode b_MD_sixOf 18 = .ok (.bipush 97, 2) := by decide +kernel
theorem d_MD_sixOf_20 : decode b_MD_sixOf 20 = .ok (.if_icmp .lt 17, 3) := by decide +kernel
theorem d_MD_sixOf_23 : decode b_MD_sixOf 23 = .ok (.iload_n 0, 1) := by decide +kernel
theorem d_MD_sixOf_24 : decode b_MD_sixOf 24 = .ok (.bipush 122, 2) := by decide +kernel
theorem d_MD_sixOf_26 : decode b_MD_sixOf 26 = .ok (.if_icmp .gt 11, 3) := by decide +kernel
theorem d_MD_sixOf_29 : decode b_MD_sixOf 29 = .ok (.bipush 26, 2) := by decide +kernel
theorem d_MD_sixOf_31 : decode b_MD_sixOf 31 = .ok (.iload_n 0, 1) := by decide +kernel
theorem d_MD_sixOf_32 : decode b_MD_sixOf 32 = .ok (.iadd, 1) := by decide +kernel
theorem d_MD_sixOf_33 : decode b_MD_sixOf 33 = .ok (.bipush 97, 2) := by decide +kernel
theorem d_MD_sixOf_35 : decode b_MD_sixOf 35 = .ok (.isub, 1) := by decide +kernel
theorem d_MD_sixOf_36 : decode b_MD_sixOf 36 = .ok (.ireturn, 1) := by decide +kernel
theorem d_MD_sixOf_37 : decode b_MD_sixOf 37 = .ok (.iload_n 0, 1) := by decide +kernel
theorem d_MD_sixOf_38 : decode b_MD_sixOf 38 = .ok (.bipush 48, 2) := by decide +kernel
theorem d_MD_sixOf_40 : decode b_MD_sixOf 40 = .ok (.if_icmp .lt 17, 3) := by decide +kernel
theorem d_MD_sixOf_43 : decode b_MD_sixOf 43 = .ok (.iload_n 0, 1) := by decide +kernel
theorem d_MD_sixOf_44 : decode b_MD_sixOf 44 = .ok (.bipush 57, 2) := by decide +kernel
theorem d_MD_sixOf_46 : decode b_MD_sixOf 46 = .ok (.if_icmp .gt 11, 3) := by decide +kernel
theorem d_MD_sixOf_49 : decode b_MD_sixOf 49 = .ok (.bipush 52, 2) := by decide +kernel
theorem d_MD_sixOf_51 : decode b_MD_sixOf 51 = .ok (.iload_n 0, 1) := by decide +kernel
theorem d_MD_sixOf_52 : decode b_MD_sixOf 52 = .ok (.iadd, 1) := by decide +kernel
theorem d_MD_sixOf_53 : decode b_MD_sixOf 53 = .ok (.bipush 48, 2) := by decide +kernel
theorem d_MD_sixOf_55 : decode b_MD_sixOf 55 = .ok (.isub, 1) := by decide +kernel
theorem d_MD_sixOf_56 : decode b_MD_sixOf 56 = .ok (.ireturn, 1) := by decide +kernel
theorem d_MD_sixOf_57 : decode b_MD_sixOf 57 = .ok (.iload_n 0, 1) := by decide +kernel
theorem d_MD_sixOf_58 : decode b_MD_sixOf 58 = .ok (.bipush 43, 2) := by decide +kernel
theorem d_MD_sixOf_60 : decode b_MD_sixOf 60 = .ok (.if_icmp .ne 8, 3) := by decide +kernel
theorem d_MD_sixOf_63 : decode b_MD_sixOf 63 = .ok (.bipush 62, 2) := by decide +kernel
theorem d_MD_sixOf_65 : decode b_MD_sixOf 65 = .ok (.goto 15, 3) := by decide +kernel
theorem d_MD_sixOf_68 : decode b_MD_sixOf 68 = .ok (.iload_n 0, 1) := by decide +kernel
theorem d_MD_sixOf_69 : decode b_MD_sixOf 69 = .ok (.bipush 45, 2) := by decide +kernel
theorem d_MD_sixOf_71 : decode b_MD_sixOf 71 = .ok (.if_icmp .ne 8, 3) := by decide +kernel
theorem d_MD_sixOf_74 : decode b_MD_sixOf 74 = .ok (.bipush 63, 2) := by decide +kernel
theorem d_MD_sixOf_76 : decode b_MD_sixOf 76 = .ok (.goto 4, 3) := by decide +kernel
theorem d_MD_sixOf_79 : decode b_MD_sixOf 79 = .ok (.iconst (-1), 1) := by decide +kernel
theorem d_MD_sixOf_80 : decode b_MD_sixOf 80 = .ok (.ireturn, 1) := by decide +kernel
theorem d_MD_thrown_0 : decode b_MD_thrown 0 = .ok (.aload_n 0, 1) := by decide +kernel
theorem d_MD_thrown_1 : decode b_MD_thrown 1 = .ok (.getfield 26, 3) := by decide +kernel
theorem d_MD_thrown_4 : decode b_MD_thrown 4 = .ok (.ireturn, 1) := by decide +kernel
theorem d_MD_two_0 : decode b_MD_two 0 = .ok (.aload_n 0, 1) := by decide +kernel
theorem d_MD_two_1 : decode b_MD_two 1 = .ok (.getfield 16, 3) := by decide +kernel
theorem d_MD_two_4 : decode b_MD_two 4 = .ok (.iload_n 1, 1) := by decide +kernel
theorem d_MD_two_5 : decode b_MD_two 5 = .ok (.iaload, 1) := by decide +kernel
theorem d_MD_two_6 : decode b_MD_two 6 = .ok (.sipush 256, 3) := by decide +kernel
theorem d_MD_two_9 : decode b_MD_two 9 = .ok (.imul, 1) := by decide +kernel
theorem d_MD_two_10 : decode b_MD_two 10 = .ok (.aload_n 0, 1) := by decide +kernel
theorem d_MD_two_11 : decode b_MD_two 11 = .ok (.getfield 16, 3) := by decide +kernel
theorem d_MD_two_14 : decode b_MD_two 14 = .ok (.iload_n 1, 1) := by decide +kernel
theorem d_MD_two_15 : decode b_MD_two 15 = .ok (.iconst 1, 1) := by decide +kernel
theorem d_MD_two_16 : decode b_MD_two 16 = .ok (.iadd, 1) := by decide +kernel
theorem d_MD_two_17 : decode b_MD_two 17 = .ok (.iaload, 1) := by decide +kernel
theorem d_MD_two_18 : decode b_MD_two 18 = .ok (.iadd, 1) := by decide +kernel
theorem d_MD_two_19 : decode b_MD_two 19 = .ok (.ireturn, 1) := by decide +kernel
theorem d_MD_uncover_0 : decode b_MD_uncover 0 = .ok (.iconst 0, 1) := by decide +kernel
theorem d_MD_uncover_1 : decode b_MD_uncover 1 = .ok (.istore 5, 2) := by decide +kernel
theorem d_MD_uncover_3 : decode b_MD_uncover 3 = .ok (.iload 5, 2) := by decide +kernel
theorem d_MD_uncover_5 : decode b_MD_uncover 5 = .ok (.iload_n 2, 1) := by decide +kernel
theorem d_MD_uncover_6 : decode b_MD_uncover 6 = .ok (.if_icmp .ge 64, 3) := by decide +kernel
theorem d_MD_uncover_9 : decode b_MD_uncover 9 = .ok (.aload_n 0, 1) := by decide +kernel
theorem d_MD_uncover_10 : decode b_MD_uncover 10 = .ok (.getfield 80, 3) := by decide +kernel
theorem d_MD_uncover_13 : decode b_MD_uncover 13 = .ok (.bipush 40, 2) := by decide +kernel
theorem d_MD_uncover_15 : decode b_MD_uncover 15 = .ok (.if_icmp .ge 49, 3) := by decide +kernel
theorem d_MD_uncover_18 : decode b_MD_uncover 18 = .ok (.aload_n 0, 1) := by decide +kernel
theorem d_MD_uncover_19 : decode b_MD_uncover 19 = .ok (.getfield 19, 3) := by decide +kernel
theorem d_MD_uncover_22 : decode b_MD_uncover 22 = .ok (.aload_n 0, 1) := by decide +kernel
theorem d_MD_uncover_23 : decode b_MD_uncover 23 = .ok (.getfield 80, 3) := by decide +kernel
theorem d_MD_uncover_26 : decode b_MD_uncover 26 = .ok (.aload_n 0, 1) := by decide +kernel
theorem d_MD_uncover_27 : decode b_MD_uncover 27 = .ok (.getfield 16, 3) := by decide +kernel
theorem d_MD_uncover_30 : decode b_MD_uncover 30 = .ok (.iload_n 1, 1) := by decide +kernel
theorem d_MD_uncover_31 : decode b_MD_uncover 31 = .ok (.iload 5, 2) := by decide +kernel
theorem d_MD_uncover_33 : decode b_MD_uncover 33 = .ok (.iadd, 1) := by decide +kernel
theorem d_MD_uncover_34 : decode b_MD_uncover 34 = .ok (.iaload, 1) := by decide +kernel
theorem d_MD_uncover_35 : decode b_MD_uncover 35 = .ok (.iload 4, 2) := by decide +kernel
theorem d_MD_uncover_37 : decode b_MD_uncover 37 = .ok (.bipush 16, 2) := by decide +kernel
theorem d_MD_uncover_39 : decode b_MD_uncover 39 = .ok (.iload_n 3, 1) := by decide +kernel
theorem d_MD_uncover_40 : decode b_MD_uncover 40 = .ok (.imul, 1) := by decide +kernel
theorem d_MD_uncover_41 : decode b_MD_uncover 41 = .ok (.iload 5, 2) := by decide +kernel
theorem d_MD_uncover_43 : decode b_MD_uncover 43 = .ok (.iadd, 1) := by decide +kernel
theorem d_MD_uncover_44 : decode b_MD_uncover 44 = .ok (.iconst 4, 1) := by decide +kernel
theorem d_MD_uncover_45 : decode b_MD_uncover 45 = .ok (.invokestatic 63, 3) := by decide +kernel
theorem d_MD_uncover_48 : decode b_MD_uncover 48 = .ok (.sipush 255, 3) := by decide +kernel
theorem d_MD_uncover_51 : decode b_MD_uncover 51 = .ok (.iand, 1) := by decide +kernel
theorem d_MD_uncover_52 : decode b_MD_uncover 52 = .ok (.ixor, 1) := by decide +kernel
theorem d_MD_uncover_53 : decode b_MD_uncover 53 = .ok (.iastore, 1) := by decide +kernel
theorem d_MD_uncover_54 : decode b_MD_uncover 54 = .ok (.aload_n 0, 1) := by decide +kernel
theorem d_MD_uncover_55 : decode b_MD_uncover 55 = .ok (.dup, 1) := by decide +kernel
theorem d_MD_uncover_56 : decode b_MD_uncover 56 = .ok (.getfield 80, 3) := by decide +kernel
theorem d_MD_uncover_59 : decode b_MD_uncover 59 = .ok (.iconst 1, 1) := by decide +kernel
theorem d_MD_uncover_60 : decode b_MD_uncover 60 = .ok (.iadd, 1) := by decide +kernel
theorem d_MD_uncover_61 : decode b_MD_uncover 61 = .ok (.putfield 80, 3) := by decide +kernel
theorem d_MD_uncover_64 : decode b_MD_uncover 64 = .ok (.iinc 5 1, 3) := by decide +kernel
theorem d_MD_uncover_67 : decode b_MD_uncover 67 = .ok (.goto (-64), 3) := by decide +kernel
theorem d_MD_uncover_70 : decode b_MD_uncover 70 = .ok (.return_, 1) := by decide +kernel
theorem d_MD_word_0 : decode b_MD_word 0 = .ok (.iload_n 0, 1) := by decide +kernel
theorem d_MD_word_1 : decode b_MD_word 1 = .ok (.invokestatic 32, 3) := by decide +kernel
theorem d_MD_word_4 : decode b_MD_word 4 = .ok (.istore_n 3, 1) := by decide +kernel
theorem d_MD_word_5 : decode b_MD_word 5 = .ok (.iload_n 3, 1) := by decide +kernel
theorem d_MD_word_6 : decode b_MD_word 6 = .ok (.iload_n 1, 1) := by decide +kernel
theorem d_MD_word_7 : decode b_MD_word 7 = .ok (.iadd, 1) := by decide +kernel
theorem d_MD_word_8 : decode b_MD_word 8 = .ok (.invokestatic 32, 3) := by decide +kernel
theorem d_MD_word_11 : decode b_MD_word 11 = .ok (.istore_n 3, 1) := by decide +kernel
theorem d_MD_word_12 : decode b_MD_word 12 = .ok (.iload_n 3, 1) := by decide +kernel
theorem d_MD_word_13 : decode b_MD_word 13 = .ok (.iload_n 2, 1) := by decide +kernel
theorem d_MD_word_14 : decode b_MD_word 14 = .ok (.iadd, 1) := by decide +kernel
theorem d_MD_word_15 : decode b_MD_word 15 = .ok (.invokestatic 32, 3) := by decide +kernel
theorem d_MD_word_18 : decode b_MD_word 18 = .ok (.ireturn, 1) := by decide +kernel
theorem d_MD_write_0 : decode b_MD_write 0 = .ok (.aload_n 0, 1) := by decide +kernel
theorem d_MD_write_1 : decode b_MD_write 1 = .ok (.iconst 0, 1) := by decide +kernel
theorem d_MD_write_2 : decode b_MD_write 2 = .ok (.putfield 26, 3) := by decide +kernel
theorem d_MD_write_5 : decode b_MD_write 5 = .ok (.aload_n 0, 1) := by decide +kernel
theorem d_MD_write_6 : decode b_MD_write 6 = .ok (.getfield 100, 3) := by decide +kernel
theorem d_MD_write_9 : decode b_MD_write 9 = .ok (.sipush 160, 3) := by decide +kernel
theorem d_MD_write_12 : decode b_MD_write 12 = .ok (.if_icmp .eq 10, 3) := by decide +kernel
theorem d_MD_write_15 : decode b_MD_write 15 = .ok (.iload_n 1, 1) := by decide +kernel
theorem d_MD_write_16 : decode b_MD_write 16 = .ok (.invokestatic 103, 3) := by decide +kernel
theorem d_MD_write_19 : decode b_MD_write 19 = .ok (.ifCond .ge 5, 3) := by decide +kernel
theorem d_MD_write_22 : decode b_MD_write 22 = .ok (.iconst 0, 1) := by decide +kernel
theorem d_MD_write_23 : decode b_MD_write 23 = .ok (.ireturn, 1) := by decide +kernel
theorem d_MD_write_24 : decode b_MD_write 24 = .ok (.aload_n 0, 1) := by decide +kernel
theorem d_MD_write_25 : decode b_MD_write 25 = .ok (.getfield 22, 3) := by decide +kernel
theorem d_MD_write_28 : decode b_MD_write 28 = .ok (.aload_n 0, 1) := by decide +kernel
theorem d_MD_write_29 : decode b_MD_write 29 = .ok (.getfield 100, 3) := by decide +kernel
theorem d_MD_write_32 : decode b_MD_write 32 = .ok (.iload_n 1, 1) := by decide +kernel
theorem d_MD_write_33 : decode b_MD_write 33 = .ok (.castore, 1) := by decide +kernel
theorem d_MD_write_34 : decode b_MD_write 34 = .ok (.aload_n 0, 1) := by decide +kernel
theorem d_MD_write_35 : decode b_MD_write 35 = .ok (.dup, 1) := by decide +kernel
theorem d_MD_write_36 : decode b_MD_write 36 = .ok (.getfield 100, 3) := by decide +kernel
theorem d_MD_write_39 : decode b_MD_write 39 = .ok (.iconst 1, 1) := by decide +kernel
theorem d_MD_write_40 : decode b_MD_write 40 = .ok (.iadd, 1) := by decide +kernel
theorem d_MD_write_41 : decode b_MD_write 41 = .ok (.putfield 100, 3) := by decide +kernel
theorem d_MD_write_44 : decode b_MD_write 44 = .ok (.iconst 1, 1) := by decide +kernel
theorem d_MD_write_45 : decode b_MD_write 45 = .ok (.ireturn, 1) := by decide +kernel
end
