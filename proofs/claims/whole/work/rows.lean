section
def lw_okq (q : MethodName × Nat) : Prop := (q.1.cls ≠ "java/lang/invoke/MethodHandle" ∧ q.1.cls ≠ "java/lang/invoke/VarHandle") ∧ Cond.instantiable q.1.cls q.2 ∈ tables_1 ∧ Cond.privateMethod q.1 ∈ tables_1 ∧ Cond.instanceMethod q.1 ∈ tables_1
theorem lw_p0 : lw_okq (⟨"SealedFiles$Row", "item", "(I)I"⟩, 2) := ⟨⟨by decide +kernel, by decide +kernel⟩, List.mem_of_getElem? (i := 27) (by decide +kernel), List.mem_of_getElem? (i := 64) (by decide +kernel), List.mem_of_getElem? (i := 65) (by decide +kernel)⟩
theorem lw_p1 : lw_okq (⟨"SealedFiles$Row", "has", "(I)Z"⟩, 2) := ⟨⟨by decide +kernel, by decide +kernel⟩, List.mem_of_getElem? (i := 27) (by decide +kernel), List.mem_of_getElem? (i := 68) (by decide +kernel), List.mem_of_getElem? (i := 69) (by decide +kernel)⟩
theorem lw_p2 : lw_okq (⟨"SealedFiles$Row", "append", "(I)Z"⟩, 2) := ⟨⟨by decide +kernel, by decide +kernel⟩, List.mem_of_getElem? (i := 27) (by decide +kernel), List.mem_of_getElem? (i := 76) (by decide +kernel), List.mem_of_getElem? (i := 77) (by decide +kernel)⟩
theorem lw_p3 : lw_okq (⟨"SealedFiles$Row", "size", "()I"⟩, 2) := ⟨⟨by decide +kernel, by decide +kernel⟩, List.mem_of_getElem? (i := 27) (by decide +kernel), List.mem_of_getElem? (i := 84) (by decide +kernel), List.mem_of_getElem? (i := 85) (by decide +kernel)⟩
theorem lw_p4 : lw_okq (⟨"SealedFiles$Row", "shorten", "(I)Z"⟩, 2) := ⟨⟨by decide +kernel, by decide +kernel⟩, List.mem_of_getElem? (i := 27) (by decide +kernel), List.mem_of_getElem? (i := 88) (by decide +kernel), List.mem_of_getElem? (i := 89) (by decide +kernel)⟩
theorem lw_p5 : lw_okq (⟨"java/lang/Throwable", "fillInStackTrace", "(I)Ljava/lang/Throwable;"⟩, 6) := ⟨⟨by decide +kernel, by decide +kernel⟩, List.mem_of_getElem? (i := 272) (by decide +kernel), List.mem_of_getElem? (i := 270) (by decide +kernel), List.mem_of_getElem? (i := 271) (by decide +kernel)⟩
theorem lw_p6 : lw_okq (⟨"SealedFiles", "areReceivers", "(I)Z"⟩, 6) := ⟨⟨by decide +kernel, by decide +kernel⟩, List.mem_of_getElem? (i := 19) (by decide +kernel), List.mem_of_getElem? (i := 327) (by decide +kernel), List.mem_of_getElem? (i := 328) (by decide +kernel)⟩
theorem lw_p7 : lw_okq (⟨"SealedFiles", "appendEntry", "(III)V"⟩, 6) := ⟨⟨by decide +kernel, by decide +kernel⟩, List.mem_of_getElem? (i := 19) (by decide +kernel), List.mem_of_getElem? (i := 349) (by decide +kernel), List.mem_of_getElem? (i := 350) (by decide +kernel)⟩
theorem lw_p8 : lw_okq (⟨"SealedFiles$Row", "appendPair", "(I)V"⟩, 2) := ⟨⟨by decide +kernel, by decide +kernel⟩, List.mem_of_getElem? (i := 27) (by decide +kernel), List.mem_of_getElem? (i := 353) (by decide +kernel), List.mem_of_getElem? (i := 354) (by decide +kernel)⟩
theorem lw_p9 : lw_okq (⟨"SealedFiles", "entrySign", "(III)I"⟩, 6) := ⟨⟨by decide +kernel, by decide +kernel⟩, List.mem_of_getElem? (i := 19) (by decide +kernel), List.mem_of_getElem? (i := 359) (by decide +kernel), List.mem_of_getElem? (i := 360) (by decide +kernel)⟩
theorem lw_p10 : lw_okq (⟨"SealedFiles$Row", "sign", "(III)I"⟩, 2) := ⟨⟨by decide +kernel, by decide +kernel⟩, List.mem_of_getElem? (i := 27) (by decide +kernel), List.mem_of_getElem? (i := 363) (by decide +kernel), List.mem_of_getElem? (i := 364) (by decide +kernel)⟩
theorem lw_p11 : lw_okq (⟨"SealedFiles", "headSign", "(II)I"⟩, 6) := ⟨⟨by decide +kernel, by decide +kernel⟩, List.mem_of_getElem? (i := 19) (by decide +kernel), List.mem_of_getElem? (i := 370) (by decide +kernel), List.mem_of_getElem? (i := 371) (by decide +kernel)⟩
theorem lw_p12 : lw_okq (⟨"SealedFiles", "appendPieces", "(I)V"⟩, 6) := ⟨⟨by decide +kernel, by decide +kernel⟩, List.mem_of_getElem? (i := 19) (by decide +kernel), List.mem_of_getElem? (i := 374) (by decide +kernel), List.mem_of_getElem? (i := 375) (by decide +kernel)⟩
theorem lw_p13 : lw_okq (⟨"SealedFiles", "pieceSign", "(IIIIZ)I"⟩, 6) := ⟨⟨by decide +kernel, by decide +kernel⟩, List.mem_of_getElem? (i := 19) (by decide +kernel), List.mem_of_getElem? (i := 383) (by decide +kernel), List.mem_of_getElem? (i := 384) (by decide +kernel)⟩
theorem lw_p14 : lw_okq (⟨"SealedFiles", "hasShape", "()Z"⟩, 6) := ⟨⟨by decide +kernel, by decide +kernel⟩, List.mem_of_getElem? (i := 19) (by decide +kernel), List.mem_of_getElem? (i := 395) (by decide +kernel), List.mem_of_getElem? (i := 396) (by decide +kernel)⟩
theorem lw_p15 : lw_okq (⟨"SealedFiles", "entriesEnd", "()I"⟩, 6) := ⟨⟨by decide +kernel, by decide +kernel⟩, List.mem_of_getElem? (i := 19) (by decide +kernel), List.mem_of_getElem? (i := 399) (by decide +kernel), List.mem_of_getElem? (i := 400) (by decide +kernel)⟩
def lw_privs_1 : List (MethodName × Nat) := [(⟨"SealedFiles$Row", "item", "(I)I"⟩, 2), (⟨"SealedFiles$Row", "has", "(I)Z"⟩, 2), (⟨"SealedFiles$Row", "append", "(I)Z"⟩, 2), (⟨"SealedFiles$Row", "size", "()I"⟩, 2), (⟨"SealedFiles$Row", "shorten", "(I)Z"⟩, 2), (⟨"java/lang/Throwable", "fillInStackTrace", "(I)Ljava/lang/Throwable;"⟩, 6), (⟨"SealedFiles", "areReceivers", "(I)Z"⟩, 6), (⟨"SealedFiles", "appendEntry", "(III)V"⟩, 6), (⟨"SealedFiles$Row", "appendPair", "(I)V"⟩, 2), (⟨"SealedFiles", "entrySign", "(III)I"⟩, 6), (⟨"SealedFiles$Row", "sign", "(III)I"⟩, 2), (⟨"SealedFiles", "headSign", "(II)I"⟩, 6), (⟨"SealedFiles", "appendPieces", "(I)V"⟩, 6), (⟨"SealedFiles", "pieceSign", "(IIIIZ)I"⟩, 6), (⟨"SealedFiles", "hasShape", "()Z"⟩, 6), (⟨"SealedFiles", "entriesEnd", "()I"⟩, 6)]
theorem lw_r1 : ∀ q ∈ lw_privs_1, lw_okq q := List.forall_mem_cons.mpr ⟨lw_p0, List.forall_mem_cons.mpr ⟨lw_p1, List.forall_mem_cons.mpr ⟨lw_p2, List.forall_mem_cons.mpr ⟨lw_p3, List.forall_mem_cons.mpr ⟨lw_p4, List.forall_mem_cons.mpr ⟨lw_p5, List.forall_mem_cons.mpr ⟨lw_p6, List.forall_mem_cons.mpr ⟨lw_p7, List.forall_mem_cons.mpr ⟨lw_p8, List.forall_mem_cons.mpr ⟨lw_p9, List.forall_mem_cons.mpr ⟨lw_p10, List.forall_mem_cons.mpr ⟨lw_p11, List.forall_mem_cons.mpr ⟨lw_p12, List.forall_mem_cons.mpr ⟨lw_p13, List.forall_mem_cons.mpr ⟨lw_p14, List.forall_mem_cons.mpr ⟨lw_p15, fun _ h => absurd h List.not_mem_nil⟩⟩⟩⟩⟩⟩⟩⟩⟩⟩⟩⟩⟩⟩⟩⟩
theorem lw_p16 : lw_okq (⟨"SealedFiles", "entryFor", "(I)I"⟩, 6) := ⟨⟨by decide +kernel, by decide +kernel⟩, List.mem_of_getElem? (i := 19) (by decide +kernel), List.mem_of_getElem? (i := 403) (by decide +kernel), List.mem_of_getElem? (i := 404) (by decide +kernel)⟩
theorem lw_p17 : lw_okq (⟨"SealedFiles", "agreed", "(II)I"⟩, 6) := ⟨⟨by decide +kernel, by decide +kernel⟩, List.mem_of_getElem? (i := 19) (by decide +kernel), List.mem_of_getElem? (i := 407) (by decide +kernel), List.mem_of_getElem? (i := 408) (by decide +kernel)⟩
theorem lw_p18 : lw_okq (⟨"SealedFiles$Row", "pair", "(I)I"⟩, 2) := ⟨⟨by decide +kernel, by decide +kernel⟩, List.mem_of_getElem? (i := 27) (by decide +kernel), List.mem_of_getElem? (i := 411) (by decide +kernel), List.mem_of_getElem? (i := 412) (by decide +kernel)⟩
theorem lw_p19 : lw_okq (⟨"SealedFiles", "unwrapped", "(II)I"⟩, 6) := ⟨⟨by decide +kernel, by decide +kernel⟩, List.mem_of_getElem? (i := 19) (by decide +kernel), List.mem_of_getElem? (i := 415) (by decide +kernel), List.mem_of_getElem? (i := 416) (by decide +kernel)⟩
theorem lw_p20 : lw_okq (⟨"SealedFiles", "takePieces", "(II)I"⟩, 6) := ⟨⟨by decide +kernel, by decide +kernel⟩, List.mem_of_getElem? (i := 19) (by decide +kernel), List.mem_of_getElem? (i := 419) (by decide +kernel), List.mem_of_getElem? (i := 420) (by decide +kernel)⟩
theorem lw_p21 : lw_okq (⟨"SealedFiles", "uncover", "(IIII)V"⟩, 6) := ⟨⟨by decide +kernel, by decide +kernel⟩, List.mem_of_getElem? (i := 19) (by decide +kernel), List.mem_of_getElem? (i := 423) (by decide +kernel), List.mem_of_getElem? (i := 424) (by decide +kernel)⟩
theorem lw_p22 : lw_okq (⟨"SealedFiles$Row", "replace", "(II)V"⟩, 2) := ⟨⟨by decide +kernel, by decide +kernel⟩, List.mem_of_getElem? (i := 27) (by decide +kernel), List.mem_of_getElem? (i := 459) (by decide +kernel), List.mem_of_getElem? (i := 460) (by decide +kernel)⟩
theorem lw_p23 : lw_okq (⟨"SealedFiles", "draftIsPrintedForm", "()Z"⟩, 6) := ⟨⟨by decide +kernel, by decide +kernel⟩, List.mem_of_getElem? (i := 19) (by decide +kernel), List.mem_of_getElem? (i := 470) (by decide +kernel), List.mem_of_getElem? (i := 471) (by decide +kernel)⟩
theorem lw_p24 : lw_okq (⟨"SealedFiles", "draftBytes", "()I"⟩, 6) := ⟨⟨by decide +kernel, by decide +kernel⟩, List.mem_of_getElem? (i := 19) (by decide +kernel), List.mem_of_getElem? (i := 474) (by decide +kernel), List.mem_of_getElem? (i := 475) (by decide +kernel)⟩
theorem lw_p25 : lw_okq (⟨"SealedFiles", "takeDraft", "()V"⟩, 6) := ⟨⟨by decide +kernel, by decide +kernel⟩, List.mem_of_getElem? (i := 19) (by decide +kernel), List.mem_of_getElem? (i := 478) (by decide +kernel), List.mem_of_getElem? (i := 479) (by decide +kernel)⟩
theorem lw_p26 : lw_okq (⟨"SealedFilesModel", "fails", "(I)I"⟩, 12) := ⟨⟨by decide +kernel, by decide +kernel⟩, List.mem_of_getElem? (i := 483) (by decide +kernel), List.mem_of_getElem? (i := 535) (by decide +kernel), List.mem_of_getElem? (i := 536) (by decide +kernel)⟩
theorem lw_p27 : lw_okq (⟨"SealedFilesModel", "isKey", "(I)Z"⟩, 12) := ⟨⟨by decide +kernel, by decide +kernel⟩, List.mem_of_getElem? (i := 483) (by decide +kernel), List.mem_of_getElem? (i := 543) (by decide +kernel), List.mem_of_getElem? (i := 544) (by decide +kernel)⟩
theorem lw_p28 : lw_okq (⟨"SealedFilesModel", "add", "(I)V"⟩, 12) := ⟨⟨by decide +kernel, by decide +kernel⟩, List.mem_of_getElem? (i := 483) (by decide +kernel), List.mem_of_getElem? (i := 566) (by decide +kernel), List.mem_of_getElem? (i := 567) (by decide +kernel)⟩
theorem lw_p29 : lw_okq (⟨"SealedFilesModel", "entry", "(III)V"⟩, 12) := ⟨⟨by decide +kernel, by decide +kernel⟩, List.mem_of_getElem? (i := 483) (by decide +kernel), List.mem_of_getElem? (i := 570) (by decide +kernel), List.mem_of_getElem? (i := 571) (by decide +kernel)⟩
theorem lw_p30 : lw_okq (⟨"SealedFilesModel", "addTwo", "(I)V"⟩, 12) := ⟨⟨by decide +kernel, by decide +kernel⟩, List.mem_of_getElem? (i := 483) (by decide +kernel), List.mem_of_getElem? (i := 582) (by decide +kernel), List.mem_of_getElem? (i := 583) (by decide +kernel)⟩
theorem lw_p31 : lw_okq (⟨"SealedFilesModel", "sign", "(III)I"⟩, 12) := ⟨⟨by decide +kernel, by decide +kernel⟩, List.mem_of_getElem? (i := 483) (by decide +kernel), List.mem_of_getElem? (i := 586) (by decide +kernel), List.mem_of_getElem? (i := 587) (by decide +kernel)⟩
def lw_privs_2 : List (MethodName × Nat) := [(⟨"SealedFiles", "entryFor", "(I)I"⟩, 6), (⟨"SealedFiles", "agreed", "(II)I"⟩, 6), (⟨"SealedFiles$Row", "pair", "(I)I"⟩, 2), (⟨"SealedFiles", "unwrapped", "(II)I"⟩, 6), (⟨"SealedFiles", "takePieces", "(II)I"⟩, 6), (⟨"SealedFiles", "uncover", "(IIII)V"⟩, 6), (⟨"SealedFiles$Row", "replace", "(II)V"⟩, 2), (⟨"SealedFiles", "draftIsPrintedForm", "()Z"⟩, 6), (⟨"SealedFiles", "draftBytes", "()I"⟩, 6), (⟨"SealedFiles", "takeDraft", "()V"⟩, 6), (⟨"SealedFilesModel", "fails", "(I)I"⟩, 12), (⟨"SealedFilesModel", "isKey", "(I)Z"⟩, 12), (⟨"SealedFilesModel", "add", "(I)V"⟩, 12), (⟨"SealedFilesModel", "entry", "(III)V"⟩, 12), (⟨"SealedFilesModel", "addTwo", "(I)V"⟩, 12), (⟨"SealedFilesModel", "sign", "(III)I"⟩, 12)]
theorem lw_r2 : ∀ q ∈ lw_privs_2, lw_okq q := List.forall_mem_cons.mpr ⟨lw_p16, List.forall_mem_cons.mpr ⟨lw_p17, List.forall_mem_cons.mpr ⟨lw_p18, List.forall_mem_cons.mpr ⟨lw_p19, List.forall_mem_cons.mpr ⟨lw_p20, List.forall_mem_cons.mpr ⟨lw_p21, List.forall_mem_cons.mpr ⟨lw_p22, List.forall_mem_cons.mpr ⟨lw_p23, List.forall_mem_cons.mpr ⟨lw_p24, List.forall_mem_cons.mpr ⟨lw_p25, List.forall_mem_cons.mpr ⟨lw_p26, List.forall_mem_cons.mpr ⟨lw_p27, List.forall_mem_cons.mpr ⟨lw_p28, List.forall_mem_cons.mpr ⟨lw_p29, List.forall_mem_cons.mpr ⟨lw_p30, List.forall_mem_cons.mpr ⟨lw_p31, fun _ h => absurd h List.not_mem_nil⟩⟩⟩⟩⟩⟩⟩⟩⟩⟩⟩⟩⟩⟩⟩⟩
theorem lw_p32 : lw_okq (⟨"SealedFilesModel", "entryOf", "(I)I"⟩, 12) := ⟨⟨by decide +kernel, by decide +kernel⟩, List.mem_of_getElem? (i := 483) (by decide +kernel), List.mem_of_getElem? (i := 596) (by decide +kernel), List.mem_of_getElem? (i := 597) (by decide +kernel)⟩
theorem lw_p33 : lw_okq (⟨"SealedFilesModel", "two", "(I)I"⟩, 12) := ⟨⟨by decide +kernel, by decide +kernel⟩, List.mem_of_getElem? (i := 483) (by decide +kernel), List.mem_of_getElem? (i := 600) (by decide +kernel), List.mem_of_getElem? (i := 601) (by decide +kernel)⟩
theorem lw_p34 : lw_okq (⟨"SealedFilesModel", "piece", "(IIIIZ)I"⟩, 12) := ⟨⟨by decide +kernel, by decide +kernel⟩, List.mem_of_getElem? (i := 483) (by decide +kernel), List.mem_of_getElem? (i := 604) (by decide +kernel), List.mem_of_getElem? (i := 605) (by decide +kernel)⟩
theorem lw_p35 : lw_okq (⟨"SealedFilesModel", "uncover", "(IIII)V"⟩, 12) := ⟨⟨by decide +kernel, by decide +kernel⟩, List.mem_of_getElem? (i := 483) (by decide +kernel), List.mem_of_getElem? (i := 608) (by decide +kernel), List.mem_of_getElem? (i := 609) (by decide +kernel)⟩
theorem lw_p36 : lw_okq (⟨"SealedFilesModel", "bit", "(I)I"⟩, 12) := ⟨⟨by decide +kernel, by decide +kernel⟩, List.mem_of_getElem? (i := 483) (by decide +kernel), List.mem_of_getElem? (i := 636) (by decide +kernel), List.mem_of_getElem? (i := 637) (by decide +kernel)⟩
def lw_privs_3 : List (MethodName × Nat) := [(⟨"SealedFilesModel", "entryOf", "(I)I"⟩, 12), (⟨"SealedFilesModel", "two", "(I)I"⟩, 12), (⟨"SealedFilesModel", "piece", "(IIIIZ)I"⟩, 12), (⟨"SealedFilesModel", "uncover", "(IIII)V"⟩, 12), (⟨"SealedFilesModel", "bit", "(I)I"⟩, 12)]
theorem lw_r3 : ∀ q ∈ lw_privs_3, lw_okq q := List.forall_mem_cons.mpr ⟨lw_p32, List.forall_mem_cons.mpr ⟨lw_p33, List.forall_mem_cons.mpr ⟨lw_p34, List.forall_mem_cons.mpr ⟨lw_p35, List.forall_mem_cons.mpr ⟨lw_p36, fun _ h => absurd h List.not_mem_nil⟩⟩⟩⟩⟩
def lw_privs : List (MethodName × Nat) := lw_privs_1 ++ (lw_privs_2 ++ (lw_privs_3))
def lw_tbl : List Cond := k2_sels lw_privs ++ tables_1
theorem lw_privs_ok : ∀ q ∈ lw_privs, lw_okq q := by
  show ∀ q ∈ lw_privs_1 ++ (lw_privs_2 ++ (lw_privs_3)), lw_okq q
  exact List.forall_mem_append.mpr ⟨lw_r1, List.forall_mem_append.mpr ⟨lw_r2, lw_r3⟩⟩
/-- the words that every contract takes: the tables' good words, one list for all -/
def zg : List Cond := lw_tbl.filter goodWord
theorem zg_in {w : Cond} (i : Nat) (h : lw_tbl[i]? = some w) (hg : goodWord w = true) : w ∈ zg := List.mem_filter.mpr ⟨List.mem_of_getElem? h, hg⟩
theorem zg_tbl {w : Cond} (h : w ∈ zg) : w ∈ lw_tbl := (List.mem_filter.mp h).1
theorem zg_good {w : Cond} (h : w ∈ zg) : (w.onTables && w.keeps) = true ∨ ∃ ty, w = .arrayClass ty := good_of_word (List.mem_filter.mp h).2
/-- a method's words: its own code first, then the one list -/
abbrev zw (c : Cond) : List Cond := c :: zg
/-- a callee's words are among a caller's -/
theorem zg_sub {d : Cond} (h : d ∈ zg) : GoodIn zg (zw d) := fun w hw => by
  rcases List.mem_cons.mp hw with e | e
  · subst e; exact ⟨h, zg_good h⟩
  · exact ⟨e, zg_good e⟩
end
section
def R_SF : String := "SealedFiles"
def R_RW : String := "SealedFiles$Row"
def R_NU : String := "SealedFiles$Numbers"
def R_MD : String := "SealedFilesModel"
def R_LW : String := "SealedFilesLaw"
def F_RW : u_T := fun k => match k with
  | 0 => ("SealedFiles$Row", "items", "[I", true)
  | _ => ("SealedFiles$Row", "size", "I", false)
def t_RW : Nat → FieldType := fun k => match k with
  | 0 => .array .int
  | _ => .int
theorem n_RW : ∀ a, a < 2 → ∀ b, b < 2 → a ≠ b → (F_RW a).2.1 ≠ (F_RW b).2.1 := by decide +kernel
theorem t_RW_ok : ∀ k, k < 2 → parseFieldDescriptor (F_RW k).2.2.1 = some (t_RW k) := by decide +kernel
theorem i_RW  : ∀ w ∈ u_ws R_RW F_RW 2, w ∈ zg := by decide +kernel
def F_SF : u_T := fun k => match k with
  | 0 => ("SealedFiles", "secrets", "LSealedFiles$Row;", true)
  | 1 => ("SealedFiles", "addresses", "LSealedFiles$Row;", true)
  | 2 => ("SealedFiles", "message", "LSealedFiles$Row;", true)
  | 3 => ("SealedFiles", "file", "LSealedFiles$Row;", true)
  | 4 => ("SealedFiles", "draft", "LSealedFiles$Row;", true)
  | _ => ("SealedFiles", "rightPieces", "I", false)
def t_SF : Nat → FieldType := fun k => match k with
  | 0 => .object "SealedFiles$Row"
  | 1 => .object "SealedFiles$Row"
  | 2 => .object "SealedFiles$Row"
  | 3 => .object "SealedFiles$Row"
  | 4 => .object "SealedFiles$Row"
  | _ => .int
theorem n_SF : ∀ a, a < 6 → ∀ b, b < 6 → a ≠ b → (F_SF a).2.1 ≠ (F_SF b).2.1 := by decide +kernel
theorem t_SF_ok : ∀ k, k < 6 → parseFieldDescriptor (F_SF k).2.2.1 = some (t_SF k) := by decide +kernel
theorem i_SF  : ∀ w ∈ u_ws R_SF F_SF 6, w ∈ zg := by decide +kernel
def F_MD : u_T := fun k => match k with
  | 0 => ("SealedFilesModel", "fault", "I", false)
  | 1 => ("SealedFilesModel", "keys", "I", false)
  | 2 => ("SealedFilesModel", "secret", "[I", true)
  | 3 => ("SealedFilesModel", "length", "I", false)
  | 4 => ("SealedFilesModel", "size", "I", false)
  | 5 => ("SealedFilesModel", "right", "I", false)
  | 6 => ("SealedFilesModel", "message", "[I", true)
  | 7 => ("SealedFilesModel", "file", "[I", true)
  | 8 => ("SealedFilesModel", "plain", "[I", true)
  | 9 => ("SealedFilesModel", "read", "I", false)
  | 10 => ("SealedFilesModel", "drafted", "I", false)
  | _ => ("SealedFilesModel", "draft", "[C", true)
def t_MD : Nat → FieldType := fun k => match k with
  | 0 => .int
  | 1 => .int
  | 2 => .array .int
  | 3 => .int
  | 4 => .int
  | 5 => .int
  | 6 => .array .int
  | 7 => .array .int
  | 8 => .array .int
  | 9 => .int
  | 10 => .int
  | _ => .array .char
theorem n_MD : ∀ a, a < 12 → ∀ b, b < 12 → a ≠ b → (F_MD a).2.1 ≠ (F_MD b).2.1 := by decide +kernel
theorem t_MD_ok : ∀ k, k < 12 → parseFieldDescriptor (F_MD k).2.2.1 = some (t_MD k) := by decide +kernel
theorem i_MD  : ∀ w ∈ u_ws R_MD F_MD 12, w ∈ zg := by decide +kernel
/-- the classes whose objects the worlds hold -/
abbrev zcl : List vw_C := [(R_RW, F_RW, 2), (R_SF, F_SF, 6), (R_MD, F_MD, 12)]
abbrev b_MD_add : ByteArray := prog_5_method_15_code
def y_MD_add : MethodName := ⟨"SealedFilesModel", "add", "(I)V"⟩
abbrev k_MD_add : Cond := .code y_MD_add b_MD_add 2 none
set_option maxRecDepth 20000 in
theorem zk_MD_add : k_MD_add ∈ zg := zg_in 605 rfl rfl
abbrev b_MD_addTwo : ByteArray := prog_5_method_16_code
def y_MD_addTwo : MethodName := ⟨"SealedFilesModel", "addTwo", "(I)V"⟩
abbrev k_MD_addTwo : Cond := .code y_MD_addTwo b_MD_addTwo 2 none
set_option maxRecDepth 20000 in
theorem zk_MD_addTwo : k_MD_addTwo ∈ zg := zg_in 621 rfl rfl
abbrev b_MD_address : ByteArray := prog_5_method_11_code
def y_MD_address : MethodName := ⟨"SealedFilesModel", "address", "(I)I"⟩
abbrev k_MD_address : Cond := .code y_MD_address b_MD_address 2 (some .int)
set_option maxRecDepth 20000 in
theorem zk_MD_address : k_MD_address ∈ zg := zg_in 578 rfl rfl
abbrev b_MD_alter : ByteArray := prog_5_method_26_code
def y_MD_alter : MethodName := ⟨"SealedFilesModel", "alter", "(II)I"⟩
abbrev k_MD_alter : Cond := .code y_MD_alter b_MD_alter 3 (some .int)
set_option maxRecDepth 20000 in
theorem zk_MD_alter : k_MD_alter ∈ zg := zg_in 663 rfl rfl
abbrev b_MD_at : ByteArray := prog_5_method_25_code
def y_MD_at : MethodName := ⟨"SealedFilesModel", "at", "(I)I"⟩
abbrev k_MD_at : Cond := .code y_MD_at b_MD_at 2 (some .int)
set_option maxRecDepth 20000 in
theorem zk_MD_at : k_MD_at ∈ zg := zg_in 659 rfl rfl
abbrev b_MD_bit : ByteArray := prog_5_method_28_code
def y_MD_bit : MethodName := ⟨"SealedFilesModel", "bit", "(I)I"⟩
abbrev k_MD_bit : Cond := .code y_MD_bit b_MD_bit 2 (some .int)
set_option maxRecDepth 20000 in
theorem zk_MD_bit : k_MD_bit ∈ zg := zg_in 675 rfl rfl
abbrev b_MD_clear : ByteArray := prog_5_method_13_code
def y_MD_clear : MethodName := ⟨"SealedFilesModel", "clear", "()I"⟩
abbrev k_MD_clear : Cond := .code y_MD_clear b_MD_clear 2 (some .int)
set_option maxRecDepth 20000 in
theorem zk_MD_clear : k_MD_clear ∈ zg := zg_in 593 rfl rfl
abbrev b_MD_count : ByteArray := prog_5_method_24_code
def y_MD_count : MethodName := ⟨"SealedFilesModel", "count", "(I)I"⟩
abbrev k_MD_count : Cond := .code y_MD_count b_MD_count 2 (some .int)
set_option maxRecDepth 20000 in
theorem zk_MD_count : k_MD_count ∈ zg := zg_in 655 rfl rfl
abbrev b_MD_cut : ByteArray := prog_5_method_27_code
def y_MD_cut : MethodName := ⟨"SealedFilesModel", "cut", "(I)Z"⟩
abbrev k_MD_cut : Cond := .code y_MD_cut b_MD_cut 2 (some .boolean)
set_option maxRecDepth 20000 in
theorem zk_MD_cut : k_MD_cut ∈ zg := zg_in 667 rfl rfl
abbrev b_MD_entry : ByteArray := prog_5_method_17_code
def y_MD_entry : MethodName := ⟨"SealedFilesModel", "entry", "(III)V"⟩
abbrev k_MD_entry : Cond := .code y_MD_entry b_MD_entry 11 none
set_option maxRecDepth 20000 in
theorem zk_MD_entry : k_MD_entry ∈ zg := zg_in 609 rfl rfl
abbrev b_MD_entryOf : ByteArray := prog_5_method_19_code
def y_MD_entryOf : MethodName := ⟨"SealedFilesModel", "entryOf", "(I)I"⟩
abbrev k_MD_entryOf : Cond := .code y_MD_entryOf b_MD_entryOf 6 (some .int)
set_option maxRecDepth 20000 in
theorem zk_MD_entryOf : k_MD_entryOf ∈ zg := zg_in 635 rfl rfl
abbrev b_MD_fails : ByteArray := prog_5_method_3_code
def y_MD_fails : MethodName := ⟨"SealedFilesModel", "fails", "(I)I"⟩
abbrev k_MD_fails : Cond := .code y_MD_fails b_MD_fails 2 (some .int)
set_option maxRecDepth 20000 in
theorem zk_MD_fails : k_MD_fails ∈ zg := zg_in 574 rfl rfl
abbrev b_MD_init : ByteArray := prog_5_method_1_code
def y_MD_init : MethodName := ⟨"SealedFilesModel", "<init>", "()V"⟩
abbrev k_MD_init : Cond := .code y_MD_init b_MD_init 1 none
set_option maxRecDepth 20000 in
theorem zk_MD_init : k_MD_init ∈ zg := zg_in 523 rfl rfl
abbrev b_MD_isKey : ByteArray := prog_5_method_10_code
def y_MD_isKey : MethodName := ⟨"SealedFilesModel", "isKey", "(I)Z"⟩
abbrev k_MD_isKey : Cond := .code y_MD_isKey b_MD_isKey 2 (some .boolean)
set_option maxRecDepth 20000 in
theorem zk_MD_isKey : k_MD_isKey ∈ zg := zg_in 582 rfl rfl
abbrev b_MD_key : ByteArray := prog_5_method_9_code
def y_MD_key : MethodName := ⟨"SealedFilesModel", "key", "(I)I"⟩
abbrev k_MD_key : Cond := .code y_MD_key b_MD_key 2 (some .int)
set_option maxRecDepth 20000 in
theorem zk_MD_key : k_MD_key ∈ zg := zg_in 570 rfl rfl
abbrev b_MD_load : ByteArray := prog_5_method_32_code
def y_MD_load : MethodName := ⟨"SealedFilesModel", "load", "()I"⟩
abbrev k_MD_load : Cond := .code y_MD_load b_MD_load 8 (some .int)
set_option maxRecDepth 20000 in
theorem zk_MD_load : k_MD_load ∈ zg := zg_in 686 rfl rfl
abbrev b_MD_mix : ByteArray := prog_5_method_5_code
def y_MD_mix : MethodName := ⟨"SealedFilesModel", "mix", "(I)I"⟩
abbrev k_MD_mix : Cond := .code y_MD_mix b_MD_mix 2 (some .int)
set_option maxRecDepth 20000 in
theorem zk_MD_mix : k_MD_mix ∈ zg := zg_in 615 rfl rfl
abbrev b_MD_open : ByteArray := prog_5_method_22_code
def y_MD_open : MethodName := ⟨"SealedFilesModel", "open", "(I)I"⟩
abbrev k_MD_open : Cond := .code y_MD_open b_MD_open 10 (some .int)
set_option maxRecDepth 20000 in
theorem zk_MD_open : k_MD_open ∈ zg := zg_in 631 rfl rfl
abbrev b_MD_piece : ByteArray := prog_5_method_20_code
def y_MD_piece : MethodName := ⟨"SealedFilesModel", "piece", "(IIIIZ)I"⟩
abbrev k_MD_piece : Cond := .code y_MD_piece b_MD_piece 7 (some .int)
set_option maxRecDepth 20000 in
theorem zk_MD_piece : k_MD_piece ∈ zg := zg_in 643 rfl rfl
abbrev b_MD_pieces : ByteArray := prog_5_method_23_code
def y_MD_pieces : MethodName := ⟨"SealedFilesModel", "pieces", "()I"⟩
abbrev k_MD_pieces : Cond := .code y_MD_pieces b_MD_pieces 1 (some .int)
set_option maxRecDepth 20000 in
theorem zk_MD_pieces : k_MD_pieces ∈ zg := zg_in 651 rfl rfl
abbrev b_MD_power : ByteArray := prog_5_method_4_code
def y_MD_power : MethodName := ⟨"SealedFilesModel", "power", "(II)I"⟩
abbrev k_MD_power : Cond := .code y_MD_power b_MD_power 5 (some .int)
set_option maxRecDepth 20000 in
theorem zk_MD_power : k_MD_power ∈ zg := zg_in 585 rfl rfl
abbrev b_MD_print : ByteArray := prog_5_method_30_code
def y_MD_print : MethodName := ⟨"SealedFilesModel", "print", "(I)I"⟩
abbrev k_MD_print : Cond := .code y_MD_print b_MD_print 4 (some .int)
set_option maxRecDepth 20000 in
theorem zk_MD_print : k_MD_print ∈ zg := zg_in 671 rfl rfl
abbrev b_MD_put : ByteArray := prog_5_method_12_code
def y_MD_put : MethodName := ⟨"SealedFilesModel", "put", "(I)Z"⟩
abbrev k_MD_put : Cond := .code y_MD_put b_MD_put 2 (some .boolean)
set_option maxRecDepth 20000 in
theorem zk_MD_put : k_MD_put ∈ zg := zg_in 589 rfl rfl
abbrev b_MD_read : ByteArray := prog_5_method_14_code
def y_MD_read : MethodName := ⟨"SealedFilesModel", "read", "(I)I"⟩
abbrev k_MD_read : Cond := .code y_MD_read b_MD_read 2 (some .int)
set_option maxRecDepth 20000 in
theorem zk_MD_read : k_MD_read ∈ zg := zg_in 597 rfl rfl
abbrev b_MD_seal : ByteArray := prog_5_method_18_code
def y_MD_seal : MethodName := ⟨"SealedFilesModel", "seal", "(III)I"⟩
abbrev k_MD_seal : Cond := .code y_MD_seal b_MD_seal 10 (some .int)
set_option maxRecDepth 20000 in
theorem zk_MD_seal : k_MD_seal ∈ zg := zg_in 601 rfl rfl
abbrev b_MD_sign : ByteArray := prog_5_method_7_code
def y_MD_sign : MethodName := ⟨"SealedFilesModel", "sign", "(III)I"⟩
abbrev k_MD_sign : Cond := .code y_MD_sign b_MD_sign 9 (some .int)
set_option maxRecDepth 20000 in
theorem zk_MD_sign : k_MD_sign ∈ zg := zg_in 625 rfl rfl
abbrev b_MD_sixOf : ByteArray := prog_5_method_29_code
def y_MD_sixOf : MethodName := ⟨"SealedFilesModel", "sixOf", "(C)I"⟩
abbrev k_MD_sixOf : Cond := .code y_MD_sixOf b_MD_sixOf 1 (some .int)
set_option maxRecDepth 20000 in
theorem zk_MD_sixOf : k_MD_sixOf ∈ zg := zg_in 682 rfl rfl
abbrev b_MD_thrown : ByteArray := prog_5_method_2_code
def y_MD_thrown : MethodName := ⟨"SealedFilesModel", "thrown", "()I"⟩
abbrev k_MD_thrown : Cond := .code y_MD_thrown b_MD_thrown 1 (some .int)
set_option maxRecDepth 20000 in
theorem zk_MD_thrown : k_MD_thrown ∈ zg := zg_in 566 rfl rfl
abbrev b_MD_two : ByteArray := prog_5_method_8_code
def y_MD_two : MethodName := ⟨"SealedFilesModel", "two", "(I)I"⟩
abbrev k_MD_two : Cond := .code y_MD_two b_MD_two 2 (some .int)
set_option maxRecDepth 20000 in
theorem zk_MD_two : k_MD_two ∈ zg := zg_in 639 rfl rfl
abbrev b_MD_uncover : ByteArray := prog_5_method_21_code
def y_MD_uncover : MethodName := ⟨"SealedFilesModel", "uncover", "(IIII)V"⟩
abbrev k_MD_uncover : Cond := .code y_MD_uncover b_MD_uncover 6 none
set_option maxRecDepth 20000 in
theorem zk_MD_uncover : k_MD_uncover ∈ zg := zg_in 647 rfl rfl
abbrev b_MD_word : ByteArray := prog_5_method_6_code
def y_MD_word : MethodName := ⟨"SealedFilesModel", "word", "(III)I"⟩
abbrev k_MD_word : Cond := .code y_MD_word b_MD_word 4 (some .int)
set_option maxRecDepth 20000 in
theorem zk_MD_word : k_MD_word ∈ zg := zg_in 612 rfl rfl
abbrev b_MD_write : ByteArray := prog_5_method_31_code
def y_MD_write : MethodName := ⟨"SealedFilesModel", "write", "(C)Z"⟩
abbrev k_MD_write : Cond := .code y_MD_write b_MD_write 2 (some .boolean)
set_option maxRecDepth 20000 in
theorem zk_MD_write : k_MD_write ∈ zg := zg_in 679 rfl rfl
abbrev b_NU_mix : ByteArray := prog_2_method_3_code
def y_NU_mix : MethodName := ⟨"SealedFiles$Numbers", "mix", "(I)I"⟩
abbrev k_NU_mix : Cond := .code y_NU_mix b_NU_mix 3 (some .int)
set_option maxRecDepth 20000 in
theorem zk_NU_mix : k_NU_mix ∈ zg := zg_in 382 rfl rfl
abbrev b_NU_power : ByteArray := prog_2_method_2_code
def y_NU_power : MethodName := ⟨"SealedFiles$Numbers", "power", "(II)I"⟩
abbrev k_NU_power : Cond := .code y_NU_power b_NU_power 5 (some .int)
set_option maxRecDepth 20000 in
theorem zk_NU_power : k_NU_power ∈ zg := zg_in 355 rfl rfl
abbrev b_NU_word : ByteArray := prog_2_method_4_code
def y_NU_word : MethodName := ⟨"SealedFiles$Numbers", "word", "(III)I"⟩
abbrev k_NU_word : Cond := .code y_NU_word b_NU_word 3 (some .int)
set_option maxRecDepth 20000 in
theorem zk_NU_word : k_NU_word ∈ zg := zg_in 379 rfl rfl
abbrev b_RW_append : ByteArray := prog_3_method_5_code
def y_RW_append : MethodName := ⟨"SealedFiles$Row", "append", "(I)Z"⟩
abbrev k_RW_append : Cond := .code y_RW_append b_RW_append 2 (some .boolean)
set_option maxRecDepth 20000 in
theorem zk_RW_append : k_RW_append ∈ zg := zg_in 115 rfl rfl
abbrev b_RW_appendPair : ByteArray := prog_3_method_8_code
def y_RW_appendPair : MethodName := ⟨"SealedFiles$Row", "appendPair", "(I)V"⟩
abbrev k_RW_appendPair : Cond := .code y_RW_appendPair b_RW_appendPair 2 none
set_option maxRecDepth 20000 in
theorem zk_RW_appendPair : k_RW_appendPair ∈ zg := zg_in 392 rfl rfl
abbrev b_RW_has : ByteArray := prog_3_method_3_code
def y_RW_has : MethodName := ⟨"SealedFiles$Row", "has", "(I)Z"⟩
abbrev k_RW_has : Cond := .code y_RW_has b_RW_has 2 (some .boolean)
set_option maxRecDepth 20000 in
theorem zk_RW_has : k_RW_has ∈ zg := zg_in 107 rfl rfl
abbrev b_RW_init : ByteArray := prog_3_method_1_code
def y_RW_init : MethodName := ⟨"SealedFiles$Row", "<init>", "(I)V"⟩
abbrev k_RW_init : Cond := .code y_RW_init b_RW_init 2 none
set_option maxRecDepth 20000 in
theorem zk_RW_init : k_RW_init ∈ zg := zg_in 67 rfl rfl
abbrev b_RW_item : ByteArray := prog_3_method_4_code
def y_RW_item : MethodName := ⟨"SealedFiles$Row", "item", "(I)I"⟩
abbrev k_RW_item : Cond := .code y_RW_item b_RW_item 2 (some .int)
set_option maxRecDepth 20000 in
theorem zk_RW_item : k_RW_item ∈ zg := zg_in 103 rfl rfl
abbrev b_RW_pair : ByteArray := prog_3_method_9_code
def y_RW_pair : MethodName := ⟨"SealedFiles$Row", "pair", "(I)I"⟩
abbrev k_RW_pair : Cond := .code y_RW_pair b_RW_pair 2 (some .int)
set_option maxRecDepth 20000 in
theorem zk_RW_pair : k_RW_pair ∈ zg := zg_in 450 rfl rfl
abbrev b_RW_replace : ByteArray := prog_3_method_6_code
def y_RW_replace : MethodName := ⟨"SealedFiles$Row", "replace", "(II)V"⟩
abbrev k_RW_replace : Cond := .code y_RW_replace b_RW_replace 3 none
set_option maxRecDepth 20000 in
theorem zk_RW_replace : k_RW_replace ∈ zg := zg_in 498 rfl rfl
abbrev b_RW_shorten : ByteArray := prog_3_method_7_code
def y_RW_shorten : MethodName := ⟨"SealedFiles$Row", "shorten", "(I)Z"⟩
abbrev k_RW_shorten : Cond := .code y_RW_shorten b_RW_shorten 2 (some .boolean)
set_option maxRecDepth 20000 in
theorem zk_RW_shorten : k_RW_shorten ∈ zg := zg_in 127 rfl rfl
abbrev b_RW_sign : ByteArray := prog_3_method_10_code
def y_RW_sign : MethodName := ⟨"SealedFiles$Row", "sign", "(III)I"⟩
abbrev k_RW_sign : Cond := .code y_RW_sign b_RW_sign 9 (some .int)
set_option maxRecDepth 20000 in
theorem zk_RW_sign : k_RW_sign ∈ zg := zg_in 402 rfl rfl
abbrev b_RW_size : ByteArray := prog_3_method_2_code
def y_RW_size : MethodName := ⟨"SealedFiles$Row", "size", "()I"⟩
abbrev k_RW_size : Cond := .code y_RW_size b_RW_size 1 (some .int)
set_option maxRecDepth 20000 in
theorem zk_RW_size : k_RW_size ∈ zg := zg_in 123 rfl rfl
abbrev b_SF_address : ByteArray := prog_1_method_3_code
def y_SF_address : MethodName := ⟨"SealedFiles", "address", "(I)I"⟩
abbrev k_SF_address : Cond := .code y_SF_address b_SF_address 2 (some .int)
set_option maxRecDepth 20000 in
theorem zk_SF_address : k_SF_address ∈ zg := zg_in 99 rfl rfl
abbrev b_SF_agreed : ByteArray := prog_1_method_28_code
def y_SF_agreed : MethodName := ⟨"SealedFiles", "agreed", "(II)I"⟩
abbrev k_SF_agreed : Cond := .code y_SF_agreed b_SF_agreed 3 (some .int)
set_option maxRecDepth 20000 in
theorem zk_SF_agreed : k_SF_agreed ∈ zg := zg_in 446 rfl rfl
abbrev b_SF_alter : ByteArray := prog_1_method_12_code
def y_SF_alter : MethodName := ⟨"SealedFiles", "alter", "(II)I"⟩
abbrev k_SF_alter : Cond := .code y_SF_alter b_SF_alter 3 (some .int)
set_option maxRecDepth 20000 in
theorem zk_SF_alter : k_SF_alter ∈ zg := zg_in 493 rfl rfl
abbrev b_SF_appendEntry : ByteArray := prog_1_method_19_code
def y_SF_appendEntry : MethodName := ⟨"SealedFiles", "appendEntry", "(III)V"⟩
abbrev k_SF_appendEntry : Cond := .code y_SF_appendEntry b_SF_appendEntry 7 none
set_option maxRecDepth 20000 in
theorem zk_SF_appendEntry : k_SF_appendEntry ∈ zg := zg_in 388 rfl rfl
abbrev b_SF_appendPieces : ByteArray := prog_1_method_24_code
def y_SF_appendPieces : MethodName := ⟨"SealedFiles", "appendPieces", "(I)V"⟩
abbrev k_SF_appendPieces : Cond := .code y_SF_appendPieces b_SF_appendPieces 8 none
set_option maxRecDepth 20000 in
theorem zk_SF_appendPieces : k_SF_appendPieces ∈ zg := zg_in 413 rfl rfl
abbrev b_SF_areReceivers : ByteArray := prog_1_method_17_code
def y_SF_areReceivers : MethodName := ⟨"SealedFiles", "areReceivers", "(I)Z"⟩
abbrev k_SF_areReceivers : Cond := .code y_SF_areReceivers b_SF_areReceivers 3 (some .boolean)
set_option maxRecDepth 20000 in
theorem zk_SF_areReceivers : k_SF_areReceivers ∈ zg := zg_in 366 rfl rfl
abbrev b_SF_at : ByteArray := prog_1_method_11_code
def y_SF_at : MethodName := ⟨"SealedFiles", "at", "(I)I"⟩
abbrev k_SF_at : Cond := .code y_SF_at b_SF_at 2 (some .int)
set_option maxRecDepth 20000 in
theorem zk_SF_at : k_SF_at ∈ zg := zg_in 139 rfl rfl
abbrev b_SF_clear : ByteArray := prog_1_method_5_code
def y_SF_clear : MethodName := ⟨"SealedFiles", "clear", "()I"⟩
abbrev k_SF_clear : Cond := .code y_SF_clear b_SF_clear 2 (some .int)
set_option maxRecDepth 20000 in
theorem zk_SF_clear : k_SF_clear ∈ zg := zg_in 119 rfl rfl
abbrev b_SF_count : ByteArray := prog_1_method_10_code
def y_SF_count : MethodName := ⟨"SealedFiles", "count", "(I)I"⟩
abbrev k_SF_count : Cond := .code y_SF_count b_SF_count 2 (some .int)
set_option maxRecDepth 20000 in
theorem zk_SF_count : k_SF_count ∈ zg := zg_in 135 rfl rfl
abbrev b_SF_covered : ByteArray := prog_1_method_23_code
def y_SF_covered : MethodName := ⟨"SealedFiles", "covered", "(IIII)I"⟩
abbrev k_SF_covered : Cond := .code y_SF_covered b_SF_covered 4 (some .int)
set_option maxRecDepth 20000 in
theorem zk_SF_covered : k_SF_covered ∈ zg := zg_in 418 rfl rfl
abbrev b_SF_cut : ByteArray := prog_1_method_13_code
def y_SF_cut : MethodName := ⟨"SealedFiles", "cut", "(I)Z"⟩
abbrev k_SF_cut : Cond := .code y_SF_cut b_SF_cut 2 (some .boolean)
set_option maxRecDepth 20000 in
theorem zk_SF_cut : k_SF_cut ∈ zg := zg_in 143 rfl rfl
abbrev b_SF_draftBytes : ByteArray := prog_1_method_32_code
def y_SF_draftBytes : MethodName := ⟨"SealedFiles", "draftBytes", "()I"⟩
abbrev k_SF_draftBytes : Cond := .code y_SF_draftBytes b_SF_draftBytes 1 (some .int)
set_option maxRecDepth 20000 in
theorem zk_SF_draftBytes : k_SF_draftBytes ∈ zg := zg_in 513 rfl rfl
abbrev b_SF_draftIsPrintedForm : ByteArray := prog_1_method_33_code
def y_SF_draftIsPrintedForm : MethodName := ⟨"SealedFiles", "draftIsPrintedForm", "()Z"⟩
abbrev k_SF_draftIsPrintedForm : Cond := .code y_SF_draftIsPrintedForm b_SF_draftIsPrintedForm 3 (some .boolean)
set_option maxRecDepth 20000 in
theorem zk_SF_draftIsPrintedForm : k_SF_draftIsPrintedForm ∈ zg := zg_in 509 rfl rfl
abbrev b_SF_entriesEnd : ByteArray := prog_1_method_25_code
def y_SF_entriesEnd : MethodName := ⟨"SealedFiles", "entriesEnd", "()I"⟩
abbrev k_SF_entriesEnd : Cond := .code y_SF_entriesEnd b_SF_entriesEnd 1 (some .int)
set_option maxRecDepth 20000 in
theorem zk_SF_entriesEnd : k_SF_entriesEnd ∈ zg := zg_in 438 rfl rfl
abbrev b_SF_entryFor : ByteArray := prog_1_method_27_code
def y_SF_entryFor : MethodName := ⟨"SealedFiles", "entryFor", "(I)I"⟩
abbrev k_SF_entryFor : Cond := .code y_SF_entryFor b_SF_entryFor 6 (some .int)
set_option maxRecDepth 20000 in
theorem zk_SF_entryFor : k_SF_entryFor ∈ zg := zg_in 442 rfl rfl
abbrev b_SF_entrySign : ByteArray := prog_1_method_20_code
def y_SF_entrySign : MethodName := ⟨"SealedFiles", "entrySign", "(III)I"⟩
abbrev k_SF_entrySign : Cond := .code y_SF_entrySign b_SF_entrySign 4 (some .int)
set_option maxRecDepth 20000 in
theorem zk_SF_entrySign : k_SF_entrySign ∈ zg := zg_in 398 rfl rfl
abbrev b_SF_exponent : ByteArray := prog_1_method_18_code
def y_SF_exponent : MethodName := ⟨"SealedFiles", "exponent", "(III)I"⟩
abbrev k_SF_exponent : Cond := .code y_SF_exponent b_SF_exponent 3 (some .int)
set_option maxRecDepth 20000 in
theorem zk_SF_exponent : k_SF_exponent ∈ zg := zg_in 376 rfl rfl
abbrev b_SF_hasShape : ByteArray := prog_1_method_26_code
def y_SF_hasShape : MethodName := ⟨"SealedFiles", "hasShape", "()Z"⟩
abbrev k_SF_hasShape : Cond := .code y_SF_hasShape b_SF_hasShape 1 (some .boolean)
set_option maxRecDepth 20000 in
theorem zk_SF_hasShape : k_SF_hasShape ∈ zg := zg_in 434 rfl rfl
abbrev b_SF_headSign : ByteArray := prog_1_method_21_code
def y_SF_headSign : MethodName := ⟨"SealedFiles", "headSign", "(II)I"⟩
abbrev k_SF_headSign : Cond := .code y_SF_headSign b_SF_headSign 3 (some .int)
set_option maxRecDepth 20000 in
theorem zk_SF_headSign : k_SF_headSign ∈ zg := zg_in 409 rfl rfl
abbrev b_SF_init : ByteArray := prog_1_method_1_code
def y_SF_init : MethodName := ⟨"SealedFiles", "<init>", "()V"⟩
abbrev k_SF_init : Cond := .code y_SF_init b_SF_init 1 none
set_option maxRecDepth 20000 in
theorem zk_SF_init : k_SF_init ∈ zg := zg_in 59 rfl rfl
abbrev b_SF_key : ByteArray := prog_1_method_2_code
def y_SF_key : MethodName := ⟨"SealedFiles", "key", "(I)I"⟩
abbrev k_SF_key : Cond := .code y_SF_key b_SF_key 2 (some .int)
set_option maxRecDepth 20000 in
theorem zk_SF_key : k_SF_key ∈ zg := zg_in 269 rfl rfl
abbrev b_SF_load : ByteArray := prog_1_method_16_code
def y_SF_load : MethodName := ⟨"SealedFiles", "load", "()I"⟩
abbrev k_SF_load : Cond := .code y_SF_load b_SF_load 2 (some .int)
set_option maxRecDepth 20000 in
theorem zk_SF_load : k_SF_load ∈ zg := zg_in 505 rfl rfl
abbrev b_SF_open : ByteArray := prog_1_method_7_code
def y_SF_open : MethodName := ⟨"SealedFiles", "open", "(I)I"⟩
abbrev k_SF_open : Cond := .code y_SF_open b_SF_open 5 (some .int)
set_option maxRecDepth 20000 in
theorem zk_SF_open : k_SF_open ∈ zg := zg_in 429 rfl rfl
abbrev b_SF_pieceSign : ByteArray := prog_1_method_22_code
def y_SF_pieceSign : MethodName := ⟨"SealedFiles", "pieceSign", "(IIIIZ)I"⟩
abbrev k_SF_pieceSign : Cond := .code y_SF_pieceSign b_SF_pieceSign 7 (some .int)
set_option maxRecDepth 20000 in
theorem zk_SF_pieceSign : k_SF_pieceSign ∈ zg := zg_in 422 rfl rfl
abbrev b_SF_pieces : ByteArray := prog_1_method_8_code
def y_SF_pieces : MethodName := ⟨"SealedFiles", "pieces", "()I"⟩
abbrev k_SF_pieces : Cond := .code y_SF_pieces b_SF_pieces 1 (some .int)
set_option maxRecDepth 20000 in
theorem zk_SF_pieces : k_SF_pieces ∈ zg := zg_in 131 rfl rfl
abbrev b_SF_print : ByteArray := prog_1_method_14_code
def y_SF_print : MethodName := ⟨"SealedFiles", "print", "(I)I"⟩
abbrev k_SF_print : Cond := .code y_SF_print b_SF_print 7 (some .int)
set_option maxRecDepth 20000 in
theorem zk_SF_print : k_SF_print ∈ zg := zg_in 147 rfl rfl
abbrev b_SF_put : ByteArray := prog_1_method_4_code
def y_SF_put : MethodName := ⟨"SealedFiles", "put", "(I)Z"⟩
abbrev k_SF_put : Cond := .code y_SF_put b_SF_put 2 (some .boolean)
set_option maxRecDepth 20000 in
theorem zk_SF_put : k_SF_put ∈ zg := zg_in 111 rfl rfl
abbrev b_SF_read : ByteArray := prog_1_method_9_code
def y_SF_read : MethodName := ⟨"SealedFiles", "read", "(I)I"⟩
abbrev k_SF_read : Cond := .code y_SF_read b_SF_read 2 (some .int)
set_option maxRecDepth 20000 in
theorem zk_SF_read : k_SF_read ∈ zg := zg_in 470 rfl rfl
abbrev b_SF_seal : ByteArray := prog_1_method_6_code
def y_SF_seal : MethodName := ⟨"SealedFiles", "seal", "(III)I"⟩
abbrev k_SF_seal : Cond := .code y_SF_seal b_SF_seal 5 (some .int)
set_option maxRecDepth 20000 in
theorem zk_SF_seal : k_SF_seal ∈ zg := zg_in 362 rfl rfl
abbrev b_SF_takeDraft : ByteArray := prog_1_method_34_code
def y_SF_takeDraft : MethodName := ⟨"SealedFiles", "takeDraft", "()V"⟩
abbrev k_SF_takeDraft : Cond := .code y_SF_takeDraft b_SF_takeDraft 6 none
set_option maxRecDepth 20000 in
theorem zk_SF_takeDraft : k_SF_takeDraft ∈ zg := zg_in 517 rfl rfl
abbrev b_SF_takePieces : ByteArray := prog_1_method_30_code
def y_SF_takePieces : MethodName := ⟨"SealedFiles", "takePieces", "(II)I"⟩
abbrev k_SF_takePieces : Cond := .code y_SF_takePieces b_SF_takePieces 10 (some .int)
set_option maxRecDepth 20000 in
theorem zk_SF_takePieces : k_SF_takePieces ∈ zg := zg_in 458 rfl rfl
abbrev b_SF_uncover : ByteArray := prog_1_method_31_code
def y_SF_uncover : MethodName := ⟨"SealedFiles", "uncover", "(IIII)V"⟩
abbrev k_SF_uncover : Cond := .code y_SF_uncover b_SF_uncover 6 none
set_option maxRecDepth 20000 in
theorem zk_SF_uncover : k_SF_uncover ∈ zg := zg_in 462 rfl rfl
abbrev b_SF_unwrapped : ByteArray := prog_1_method_29_code
def y_SF_unwrapped : MethodName := ⟨"SealedFiles", "unwrapped", "(II)I"⟩
abbrev k_SF_unwrapped : Cond := .code y_SF_unwrapped b_SF_unwrapped 4 (some .int)
set_option maxRecDepth 20000 in
theorem zk_SF_unwrapped : k_SF_unwrapped ∈ zg := zg_in 454 rfl rfl
abbrev b_SF_write : ByteArray := prog_1_method_15_code
def y_SF_write : MethodName := ⟨"SealedFiles", "write", "(C)Z"⟩
abbrev k_SF_write : Cond := .code y_SF_write b_SF_write 3 (some .boolean)
set_option maxRecDepth 20000 in
theorem zk_SF_write : k_SF_write ∈ zg := zg_in 194 rfl rfl
set_option maxRecDepth 20000 in
theorem zw_0 : (Cond.initialized "SealedFilesLaw") ∈ zg := zg_in 37 rfl rfl
set_option maxRecDepth 20000 in
theorem zw_1 : (Cond.initialized "SealedFiles") ∈ zg := zg_in 38 rfl rfl
set_option maxRecDepth 20000 in
theorem zw_2 : (Cond.initialized "SealedFiles$Row") ∈ zg := zg_in 39 rfl rfl
set_option maxRecDepth 20000 in
theorem zw_3 : (Cond.initialized "SealedFilesModel") ∈ zg := zg_in 40 rfl rfl
set_option maxRecDepth 20000 in
theorem zw_4 : (Cond.initialized "java/lang/Throwable") ∈ zg := zg_in 41 rfl rfl
set_option maxRecDepth 20000 in
theorem zw_5 : (Cond.initialized "java/lang/Exception") ∈ zg := zg_in 42 rfl rfl
set_option maxRecDepth 20000 in
theorem zw_6 : (Cond.initialized "java/lang/RuntimeException") ∈ zg := zg_in 43 rfl rfl
set_option maxRecDepth 20000 in
theorem zw_7 : (Cond.initialized "java/lang/IllegalArgumentException") ∈ zg := zg_in 44 rfl rfl
set_option maxRecDepth 20000 in
theorem zw_8 : (Cond.initialized "java/lang/IllegalStateException") ∈ zg := zg_in 45 rfl rfl
set_option maxRecDepth 20000 in
theorem zw_9 : (Cond.initialized "SealedFiles$Numbers") ∈ zg := zg_in 46 rfl rfl
set_option maxRecDepth 20000 in
theorem zw_10 : (Cond.initialized "java/lang/Integer") ∈ zg := zg_in 47 rfl rfl
set_option maxRecDepth 20000 in
theorem zw_11 : (Cond.initialized "java/lang/Math") ∈ zg := zg_in 48 rfl rfl
set_option maxRecDepth 20000 in
theorem zw_12 : (Cond.initialized "java/util/NoSuchElementException") ∈ zg := zg_in 49 rfl rfl
set_option maxRecDepth 20000 in
theorem zw_13 : (Cond.initialized "java/lang/String") ∈ zg := zg_in 50 rfl rfl
set_option maxRecDepth 20000 in
theorem zw_14 : (Cond.initialized "java/lang/StringLatin1") ∈ zg := zg_in 51 rfl rfl
set_option maxRecDepth 20000 in
theorem zw_15 : (Cond.initialized "jdk/internal/util/Preconditions") ∈ zg := zg_in 52 rfl rfl
set_option maxRecDepth 20000 in
theorem zw_16 : (Cond.initialized "java/lang/StringUTF16") ∈ zg := zg_in 53 rfl rfl
set_option maxRecDepth 20000 in
theorem zw_17 : (Cond.initialized "java/lang/Character") ∈ zg := zg_in 54 rfl rfl
set_option maxRecDepth 20000 in
theorem zw_18 : (Cond.classLink "SealedFilesLaw" 8 "SealedFiles") ∈ zg := zg_in 55 rfl rfl
set_option maxRecDepth 20000 in
theorem zw_19 : (Cond.instantiable "SealedFiles" 6) ∈ zg := zg_in 56 rfl rfl
set_option maxRecDepth 20000 in
theorem zw_20 : (Cond.methodLink "SealedFilesLaw" 37 ⟨"SealedFiles", "<init>", "()V"⟩) ∈ zg := zg_in 57 rfl rfl
set_option maxRecDepth 20000 in
theorem zw_21 : (Cond.instanceMethod ⟨"SealedFiles", "<init>", "()V"⟩) ∈ zg := zg_in 58 rfl rfl
set_option maxRecDepth 20000 in
theorem zw_23 : (Cond.methodLink "SealedFiles" 1 ⟨"java/lang/Object", "<init>", "()V"⟩) ∈ zg := zg_in 60 rfl rfl
set_option maxRecDepth 20000 in
theorem zw_24 : (Cond.instanceMethod ⟨"java/lang/Object", "<init>", "()V"⟩) ∈ zg := zg_in 61 rfl rfl
set_option maxRecDepth 20000 in
theorem zw_26 : (Cond.classLink "SealedFiles" 7 "SealedFiles$Row") ∈ zg := zg_in 63 rfl rfl
set_option maxRecDepth 20000 in
theorem zw_27 : (Cond.instantiable "SealedFiles$Row" 2) ∈ zg := zg_in 64 rfl rfl
set_option maxRecDepth 20000 in
theorem zw_29 : (Cond.instanceMethod ⟨"SealedFiles$Row", "<init>", "(I)V"⟩) ∈ zg := zg_in 66 rfl rfl
set_option maxRecDepth 20000 in
theorem zw_31 : (Cond.methodLink "SealedFiles$Row" 1 ⟨"java/lang/Object", "<init>", "()V"⟩) ∈ zg := zg_in 68 rfl rfl
set_option maxRecDepth 20000 in
theorem zw_32 : (Cond.fieldLink "SealedFiles$Row" 7 "SealedFiles$Row" "items" "[I") ∈ zg := zg_in 69 rfl rfl
set_option maxRecDepth 20000 in
theorem zw_33 : (Cond.fieldLink "SealedFiles$Row" 13 "SealedFiles$Row" "size" "I") ∈ zg := zg_in 70 rfl rfl
set_option maxRecDepth 20000 in
theorem zw_38 : (Cond.superclass "SealedFiles$Row" "java/lang/Object") ∈ zg := zg_in 75 rfl rfl
set_option maxRecDepth 20000 in
theorem zw_39 : (Cond.arrayClass .int) ∈ zg := zg_in 76 rfl rfl
set_option maxRecDepth 20000 in
theorem zw_40 : (Cond.fieldLink "SealedFiles" 14 "SealedFiles" "secrets" "LSealedFiles$Row;") ∈ zg := zg_in 77 rfl rfl
set_option maxRecDepth 20000 in
theorem zw_41 : (Cond.fieldLink "SealedFiles" 18 "SealedFiles" "addresses" "LSealedFiles$Row;") ∈ zg := zg_in 78 rfl rfl
set_option maxRecDepth 20000 in
theorem zw_42 : (Cond.fieldLink "SealedFiles" 21 "SealedFiles" "message" "LSealedFiles$Row;") ∈ zg := zg_in 79 rfl rfl
set_option maxRecDepth 20000 in
theorem zw_43 : (Cond.fieldLink "SealedFiles" 24 "SealedFiles" "file" "LSealedFiles$Row;") ∈ zg := zg_in 80 rfl rfl
set_option maxRecDepth 20000 in
theorem zw_44 : (Cond.fieldLink "SealedFiles" 27 "SealedFiles" "draft" "LSealedFiles$Row;") ∈ zg := zg_in 81 rfl rfl
set_option maxRecDepth 20000 in
theorem zw_45 : (Cond.fieldLink "SealedFiles" 30 "SealedFiles" "rightPieces" "I") ∈ zg := zg_in 82 rfl rfl
set_option maxRecDepth 20000 in
theorem zw_58 : (Cond.superclass "SealedFiles" "java/lang/Object") ∈ zg := zg_in 95 rfl rfl
set_option maxRecDepth 20000 in
theorem zw_59 : (Cond.methodLink "SealedFilesLaw" 50 ⟨"SealedFiles", "address", "(I)I"⟩) ∈ zg := zg_in 96 rfl rfl
set_option maxRecDepth 20000 in
theorem zw_60 : (Cond.instanceMethod ⟨"SealedFiles", "address", "(I)I"⟩) ∈ zg := zg_in 97 rfl rfl
set_option maxRecDepth 20000 in
theorem zw_61 : (Cond.selects "SealedFiles" ⟨"SealedFiles", "address", "(I)I"⟩ ⟨"SealedFiles", "address", "(I)I"⟩) ∈ zg := zg_in 98 rfl rfl
set_option maxRecDepth 20000 in
theorem zw_65 : (Cond.instanceMethod ⟨"SealedFiles$Row", "item", "(I)I"⟩) ∈ zg := zg_in 102 rfl rfl
set_option maxRecDepth 20000 in
theorem zw_67 : (Cond.methodLink "SealedFiles$Row" 17 ⟨"SealedFiles$Row", "has", "(I)Z"⟩) ∈ zg := zg_in 104 rfl rfl
set_option maxRecDepth 20000 in
theorem zw_69 : (Cond.instanceMethod ⟨"SealedFiles$Row", "has", "(I)Z"⟩) ∈ zg := zg_in 106 rfl rfl
set_option maxRecDepth 20000 in
theorem zw_71 : (Cond.methodLink "SealedFilesLaw" 54 ⟨"SealedFiles", "put", "(I)Z"⟩) ∈ zg := zg_in 108 rfl rfl
set_option maxRecDepth 20000 in
theorem zw_72 : (Cond.instanceMethod ⟨"SealedFiles", "put", "(I)Z"⟩) ∈ zg := zg_in 109 rfl rfl
set_option maxRecDepth 20000 in
theorem zw_73 : (Cond.selects "SealedFiles" ⟨"SealedFiles", "put", "(I)Z"⟩ ⟨"SealedFiles", "put", "(I)Z"⟩) ∈ zg := zg_in 110 rfl rfl
set_option maxRecDepth 20000 in
theorem zw_77 : (Cond.instanceMethod ⟨"SealedFiles$Row", "append", "(I)Z"⟩) ∈ zg := zg_in 114 rfl rfl
set_option maxRecDepth 20000 in
theorem zw_79 : (Cond.methodLink "SealedFilesLaw" 59 ⟨"SealedFiles", "clear", "()I"⟩) ∈ zg := zg_in 116 rfl rfl
set_option maxRecDepth 20000 in
theorem zw_80 : (Cond.instanceMethod ⟨"SealedFiles", "clear", "()I"⟩) ∈ zg := zg_in 117 rfl rfl
set_option maxRecDepth 20000 in
theorem zw_81 : (Cond.selects "SealedFiles" ⟨"SealedFiles", "clear", "()I"⟩ ⟨"SealedFiles", "clear", "()I"⟩) ∈ zg := zg_in 118 rfl rfl
set_option maxRecDepth 20000 in
theorem zw_85 : (Cond.instanceMethod ⟨"SealedFiles$Row", "size", "()I"⟩) ∈ zg := zg_in 122 rfl rfl
set_option maxRecDepth 20000 in
theorem zw_89 : (Cond.instanceMethod ⟨"SealedFiles$Row", "shorten", "(I)Z"⟩) ∈ zg := zg_in 126 rfl rfl
set_option maxRecDepth 20000 in
theorem zw_91 : (Cond.methodLink "SealedFilesLaw" 70 ⟨"SealedFiles", "pieces", "()I"⟩) ∈ zg := zg_in 128 rfl rfl
set_option maxRecDepth 20000 in
theorem zw_92 : (Cond.instanceMethod ⟨"SealedFiles", "pieces", "()I"⟩) ∈ zg := zg_in 129 rfl rfl
set_option maxRecDepth 20000 in
theorem zw_93 : (Cond.selects "SealedFiles" ⟨"SealedFiles", "pieces", "()I"⟩ ⟨"SealedFiles", "pieces", "()I"⟩) ∈ zg := zg_in 130 rfl rfl
set_option maxRecDepth 20000 in
theorem zw_95 : (Cond.methodLink "SealedFilesLaw" 77 ⟨"SealedFiles", "count", "(I)I"⟩) ∈ zg := zg_in 132 rfl rfl
set_option maxRecDepth 20000 in
theorem zw_96 : (Cond.instanceMethod ⟨"SealedFiles", "count", "(I)I"⟩) ∈ zg := zg_in 133 rfl rfl
set_option maxRecDepth 20000 in
theorem zw_97 : (Cond.selects "SealedFiles" ⟨"SealedFiles", "count", "(I)I"⟩ ⟨"SealedFiles", "count", "(I)I"⟩) ∈ zg := zg_in 134 rfl rfl
set_option maxRecDepth 20000 in
theorem zw_99 : (Cond.methodLink "SealedFilesLaw" 81 ⟨"SealedFiles", "at", "(I)I"⟩) ∈ zg := zg_in 136 rfl rfl
set_option maxRecDepth 20000 in
theorem zw_100 : (Cond.instanceMethod ⟨"SealedFiles", "at", "(I)I"⟩) ∈ zg := zg_in 137 rfl rfl
set_option maxRecDepth 20000 in
theorem zw_101 : (Cond.selects "SealedFiles" ⟨"SealedFiles", "at", "(I)I"⟩ ⟨"SealedFiles", "at", "(I)I"⟩) ∈ zg := zg_in 138 rfl rfl
set_option maxRecDepth 20000 in
theorem zw_103 : (Cond.methodLink "SealedFilesLaw" 89 ⟨"SealedFiles", "cut", "(I)Z"⟩) ∈ zg := zg_in 140 rfl rfl
set_option maxRecDepth 20000 in
theorem zw_104 : (Cond.instanceMethod ⟨"SealedFiles", "cut", "(I)Z"⟩) ∈ zg := zg_in 141 rfl rfl
set_option maxRecDepth 20000 in
theorem zw_105 : (Cond.selects "SealedFiles" ⟨"SealedFiles", "cut", "(I)Z"⟩ ⟨"SealedFiles", "cut", "(I)Z"⟩) ∈ zg := zg_in 142 rfl rfl
set_option maxRecDepth 20000 in
theorem zw_107 : (Cond.methodLink "SealedFilesLaw" 93 ⟨"SealedFiles", "print", "(I)I"⟩) ∈ zg := zg_in 144 rfl rfl
set_option maxRecDepth 20000 in
theorem zw_108 : (Cond.instanceMethod ⟨"SealedFiles", "print", "(I)I"⟩) ∈ zg := zg_in 145 rfl rfl
set_option maxRecDepth 20000 in
theorem zw_109 : (Cond.selects "SealedFiles" ⟨"SealedFiles", "print", "(I)I"⟩ ⟨"SealedFiles", "print", "(I)I"⟩) ∈ zg := zg_in 146 rfl rfl
set_option maxRecDepth 20000 in
theorem zw_113 : (Cond.methodLink "SealedFiles" 131 ⟨"java/lang/String", "charAt", "(I)C"⟩) ∈ zg := zg_in 150 rfl rfl
set_option maxRecDepth 20000 in
theorem zw_114 : (Cond.instanceMethod ⟨"java/lang/String", "charAt", "(I)C"⟩) ∈ zg := zg_in 151 rfl rfl
set_option maxRecDepth 20000 in
theorem zw_115 : (Cond.selects "java/lang/String" ⟨"java/lang/String", "charAt", "(I)C"⟩ ⟨"java/lang/String", "charAt", "(I)C"⟩) ∈ zg := zg_in 152 rfl rfl
set_option maxRecDepth 20000 in
theorem zw_117 : (Cond.methodLink "java/lang/String" 492 ⟨"java/lang/String", "isLatin1", "()Z"⟩) ∈ zg := zg_in 154 rfl rfl
set_option maxRecDepth 20000 in
theorem zw_118 : (Cond.instanceMethod ⟨"java/lang/String", "isLatin1", "()Z"⟩) ∈ zg := zg_in 155 rfl rfl
set_option maxRecDepth 20000 in
theorem zw_119 : (Cond.selects "java/lang/String" ⟨"java/lang/String", "isLatin1", "()Z"⟩ ⟨"java/lang/String", "isLatin1", "()Z"⟩) ∈ zg := zg_in 156 rfl rfl
set_option maxRecDepth 20000 in
theorem zw_121 : (Cond.fieldLink "java/lang/String" 38 "java/lang/String" "COMPACT_STRINGS" "Z") ∈ zg := zg_in 158 rfl rfl
set_option maxRecDepth 20000 in
theorem zw_123 : (Cond.methodLink "java/lang/String" 495 ⟨"java/lang/StringLatin1", "charAt", "([BI)C"⟩) ∈ zg := zg_in 160 rfl rfl
set_option maxRecDepth 20000 in
theorem zw_124 : (Cond.static ⟨"java/lang/StringLatin1", "charAt", "([BI)C"⟩) ∈ zg := zg_in 161 rfl rfl
set_option maxRecDepth 20000 in
theorem zw_126 : (Cond.methodLink "java/lang/StringLatin1" 9 ⟨"java/lang/String", "checkIndex", "(II)V"⟩) ∈ zg := zg_in 163 rfl rfl
set_option maxRecDepth 20000 in
theorem zw_127 : (Cond.static ⟨"java/lang/String", "checkIndex", "(II)V"⟩) ∈ zg := zg_in 164 rfl rfl
set_option maxRecDepth 20000 in
theorem zw_129 : (Cond.fieldLink "java/lang/String" 1053 "jdk/internal/util/Preconditions" "SIOOBE_FORMATTER" "Ljava/util/function/BiFunction;") ∈ zg := zg_in 166 rfl rfl
set_option maxRecDepth 20000 in
theorem zw_131 : (Cond.methodLink "java/lang/String" 1059 ⟨"jdk/internal/util/Preconditions", "checkIndex", "(IILjava/util/function/BiFunction;)I"⟩) ∈ zg := zg_in 168 rfl rfl
set_option maxRecDepth 20000 in
theorem zw_132 : (Cond.static ⟨"jdk/internal/util/Preconditions", "checkIndex", "(IILjava/util/function/BiFunction;)I"⟩) ∈ zg := zg_in 169 rfl rfl
set_option maxRecDepth 20000 in
theorem zw_134 : (Cond.methodLink "java/lang/String" 498 ⟨"java/lang/StringUTF16", "charAt", "([BI)C"⟩) ∈ zg := zg_in 171 rfl rfl
set_option maxRecDepth 20000 in
theorem zw_135 : (Cond.static ⟨"java/lang/StringUTF16", "charAt", "([BI)C"⟩) ∈ zg := zg_in 172 rfl rfl
set_option maxRecDepth 20000 in
theorem zw_137 : (Cond.methodLink "java/lang/StringUTF16" 67 ⟨"java/lang/StringUTF16", "checkIndex", "(I[B)V"⟩) ∈ zg := zg_in 174 rfl rfl
set_option maxRecDepth 20000 in
theorem zw_138 : (Cond.static ⟨"java/lang/StringUTF16", "checkIndex", "(I[B)V"⟩) ∈ zg := zg_in 175 rfl rfl
set_option maxRecDepth 20000 in
theorem zw_140 : (Cond.methodLink "java/lang/StringUTF16" 48 ⟨"java/lang/StringUTF16", "length", "([B)I"⟩) ∈ zg := zg_in 177 rfl rfl
set_option maxRecDepth 20000 in
theorem zw_141 : (Cond.static ⟨"java/lang/StringUTF16", "length", "([B)I"⟩) ∈ zg := zg_in 178 rfl rfl
set_option maxRecDepth 20000 in
theorem zw_143 : (Cond.methodLink "java/lang/StringUTF16" 414 ⟨"java/lang/String", "checkIndex", "(II)V"⟩) ∈ zg := zg_in 180 rfl rfl
set_option maxRecDepth 20000 in
theorem zw_144 : (Cond.methodLink "java/lang/StringUTF16" 71 ⟨"java/lang/StringUTF16", "getChar", "([BI)C"⟩) ∈ zg := zg_in 181 rfl rfl
set_option maxRecDepth 20000 in
theorem zw_145 : (Cond.static ⟨"java/lang/StringUTF16", "getChar", "([BI)C"⟩) ∈ zg := zg_in 182 rfl rfl
set_option maxRecDepth 20000 in
theorem zw_147 : (Cond.fieldLink "java/lang/StringUTF16" 44 "java/lang/StringUTF16" "$assertionsDisabled" "Z") ∈ zg := zg_in 184 rfl rfl
set_option maxRecDepth 20000 in
theorem zw_149 : (Cond.fieldLink "java/lang/StringUTF16" 59 "java/lang/StringUTF16" "HI_BYTE_SHIFT" "I") ∈ zg := zg_in 186 rfl rfl
set_option maxRecDepth 20000 in
theorem zw_151 : (Cond.fieldLink "java/lang/StringUTF16" 63 "java/lang/StringUTF16" "LO_BYTE_SHIFT" "I") ∈ zg := zg_in 188 rfl rfl
set_option maxRecDepth 20000 in
theorem zw_153 : (Cond.arrayClass .byte) ∈ zg := zg_in 190 rfl rfl
set_option maxRecDepth 20000 in
theorem zw_154 : (Cond.methodLink "SealedFilesLaw" 97 ⟨"SealedFiles", "write", "(C)Z"⟩) ∈ zg := zg_in 191 rfl rfl
set_option maxRecDepth 20000 in
theorem zw_155 : (Cond.instanceMethod ⟨"SealedFiles", "write", "(C)Z"⟩) ∈ zg := zg_in 192 rfl rfl
set_option maxRecDepth 20000 in
theorem zw_156 : (Cond.selects "SealedFiles" ⟨"SealedFiles", "write", "(C)Z"⟩ ⟨"SealedFiles", "write", "(C)Z"⟩) ∈ zg := zg_in 193 rfl rfl
set_option maxRecDepth 20000 in
theorem zw_158 : (Cond.methodLink "SealedFiles" 137 ⟨"java/lang/String", "indexOf", "(I)I"⟩) ∈ zg := zg_in 195 rfl rfl
set_option maxRecDepth 20000 in
theorem zw_159 : (Cond.instanceMethod ⟨"java/lang/String", "indexOf", "(I)I"⟩) ∈ zg := zg_in 196 rfl rfl
set_option maxRecDepth 20000 in
theorem zw_160 : (Cond.selects "java/lang/String" ⟨"java/lang/String", "indexOf", "(I)I"⟩ ⟨"java/lang/String", "indexOf", "(I)I"⟩) ∈ zg := zg_in 197 rfl rfl
set_option maxRecDepth 20000 in
theorem zw_162 : (Cond.methodLink "java/lang/String" 633 ⟨"java/lang/String", "indexOf", "(II)I"⟩) ∈ zg := zg_in 199 rfl rfl
set_option maxRecDepth 20000 in
theorem zw_163 : (Cond.instanceMethod ⟨"java/lang/String", "indexOf", "(II)I"⟩) ∈ zg := zg_in 200 rfl rfl
set_option maxRecDepth 20000 in
theorem zw_164 : (Cond.selects "java/lang/String" ⟨"java/lang/String", "indexOf", "(II)I"⟩ ⟨"java/lang/String", "indexOf", "(II)I"⟩) ∈ zg := zg_in 201 rfl rfl
set_option maxRecDepth 20000 in
theorem zw_166 : (Cond.methodLink "java/lang/String" 505 ⟨"java/lang/String", "length", "()I"⟩) ∈ zg := zg_in 203 rfl rfl
set_option maxRecDepth 20000 in
theorem zw_167 : (Cond.instanceMethod ⟨"java/lang/String", "length", "()I"⟩) ∈ zg := zg_in 204 rfl rfl
set_option maxRecDepth 20000 in
theorem zw_168 : (Cond.selects "java/lang/String" ⟨"java/lang/String", "length", "()I"⟩ ⟨"java/lang/String", "length", "()I"⟩) ∈ zg := zg_in 205 rfl rfl
set_option maxRecDepth 20000 in
theorem zw_170 : (Cond.methodLink "java/lang/String" 335 ⟨"java/lang/String", "coder", "()B"⟩) ∈ zg := zg_in 207 rfl rfl
set_option maxRecDepth 20000 in
theorem zw_171 : (Cond.instanceMethod ⟨"java/lang/String", "coder", "()B"⟩) ∈ zg := zg_in 208 rfl rfl
set_option maxRecDepth 20000 in
theorem zw_172 : (Cond.selects "java/lang/String" ⟨"java/lang/String", "coder", "()B"⟩ ⟨"java/lang/String", "coder", "()B"⟩) ∈ zg := zg_in 209 rfl rfl
set_option maxRecDepth 20000 in
theorem zw_174 : (Cond.methodLink "java/lang/String" 637 ⟨"java/lang/StringLatin1", "indexOf", "([BIII)I"⟩) ∈ zg := zg_in 211 rfl rfl
set_option maxRecDepth 20000 in
theorem zw_175 : (Cond.static ⟨"java/lang/StringLatin1", "indexOf", "([BIII)I"⟩) ∈ zg := zg_in 212 rfl rfl
set_option maxRecDepth 20000 in
theorem zw_177 : (Cond.methodLink "java/lang/StringLatin1" 88 ⟨"java/lang/StringLatin1", "canEncode", "(I)Z"⟩) ∈ zg := zg_in 214 rfl rfl
set_option maxRecDepth 20000 in
theorem zw_178 : (Cond.static ⟨"java/lang/StringLatin1", "canEncode", "(I)Z"⟩) ∈ zg := zg_in 215 rfl rfl
set_option maxRecDepth 20000 in
theorem zw_180 : (Cond.methodLink "java/lang/StringLatin1" 92 ⟨"java/lang/Math", "max", "(II)I"⟩) ∈ zg := zg_in 217 rfl rfl
set_option maxRecDepth 20000 in
theorem zw_181 : (Cond.static ⟨"java/lang/Math", "max", "(II)I"⟩) ∈ zg := zg_in 218 rfl rfl
set_option maxRecDepth 20000 in
theorem zw_183 : (Cond.methodLink "java/lang/StringLatin1" 38 ⟨"java/lang/Math", "min", "(II)I"⟩) ∈ zg := zg_in 220 rfl rfl
set_option maxRecDepth 20000 in
theorem zw_184 : (Cond.static ⟨"java/lang/Math", "min", "(II)I"⟩) ∈ zg := zg_in 221 rfl rfl
set_option maxRecDepth 20000 in
theorem zw_186 : (Cond.methodLink "java/lang/StringLatin1" 95 ⟨"java/lang/StringLatin1", "indexOfChar", "([BIII)I"⟩) ∈ zg := zg_in 223 rfl rfl
set_option maxRecDepth 20000 in
theorem zw_187 : (Cond.static ⟨"java/lang/StringLatin1", "indexOfChar", "([BIII)I"⟩) ∈ zg := zg_in 224 rfl rfl
set_option maxRecDepth 20000 in
theorem zw_189 : (Cond.methodLink "java/lang/String" 640 ⟨"java/lang/StringUTF16", "indexOf", "([BIII)I"⟩) ∈ zg := zg_in 226 rfl rfl
set_option maxRecDepth 20000 in
theorem zw_190 : (Cond.static ⟨"java/lang/StringUTF16", "indexOf", "([BIII)I"⟩) ∈ zg := zg_in 227 rfl rfl
set_option maxRecDepth 20000 in
theorem zw_192 : (Cond.methodLink "java/lang/StringUTF16" 224 ⟨"java/lang/Math", "max", "(II)I"⟩) ∈ zg := zg_in 229 rfl rfl
set_option maxRecDepth 20000 in
theorem zw_193 : (Cond.methodLink "java/lang/StringUTF16" 183 ⟨"java/lang/Math", "min", "(II)I"⟩) ∈ zg := zg_in 230 rfl rfl
set_option maxRecDepth 20000 in
theorem zw_194 : (Cond.constant "java/lang/StringUTF16" 227 65536) ∈ zg := zg_in 231 rfl rfl
set_option maxRecDepth 20000 in
theorem zw_195 : (Cond.methodLink "java/lang/StringUTF16" 228 ⟨"java/lang/StringUTF16", "indexOfChar", "([BIII)I"⟩) ∈ zg := zg_in 232 rfl rfl
set_option maxRecDepth 20000 in
theorem zw_196 : (Cond.static ⟨"java/lang/StringUTF16", "indexOfChar", "([BIII)I"⟩) ∈ zg := zg_in 233 rfl rfl
set_option maxRecDepth 20000 in
theorem zw_198 : (Cond.methodLink "java/lang/StringUTF16" 96 ⟨"java/lang/StringUTF16", "checkBoundsBeginEnd", "(II[B)V"⟩) ∈ zg := zg_in 235 rfl rfl
set_option maxRecDepth 20000 in
theorem zw_199 : (Cond.static ⟨"java/lang/StringUTF16", "checkBoundsBeginEnd", "(II[B)V"⟩) ∈ zg := zg_in 236 rfl rfl
set_option maxRecDepth 20000 in
theorem zw_201 : (Cond.methodLink "java/lang/StringUTF16" 241 ⟨"java/lang/String", "checkBoundsBeginEnd", "(III)V"⟩) ∈ zg := zg_in 238 rfl rfl
set_option maxRecDepth 20000 in
theorem zw_202 : (Cond.static ⟨"java/lang/String", "checkBoundsBeginEnd", "(III)V"⟩) ∈ zg := zg_in 239 rfl rfl
set_option maxRecDepth 20000 in
theorem zw_204 : (Cond.methodLink "java/lang/String" 1062 ⟨"jdk/internal/util/Preconditions", "checkFromToIndex", "(IIILjava/util/function/BiFunction;)I"⟩) ∈ zg := zg_in 241 rfl rfl
set_option maxRecDepth 20000 in
theorem zw_205 : (Cond.static ⟨"jdk/internal/util/Preconditions", "checkFromToIndex", "(IIILjava/util/function/BiFunction;)I"⟩) ∈ zg := zg_in 242 rfl rfl
set_option maxRecDepth 20000 in
theorem zw_207 : (Cond.methodLink "java/lang/StringUTF16" 244 ⟨"java/lang/StringUTF16", "indexOfCharUnsafe", "([BIII)I"⟩) ∈ zg := zg_in 244 rfl rfl
set_option maxRecDepth 20000 in
theorem zw_208 : (Cond.static ⟨"java/lang/StringUTF16", "indexOfCharUnsafe", "([BIII)I"⟩) ∈ zg := zg_in 245 rfl rfl
set_option maxRecDepth 20000 in
theorem zw_210 : (Cond.methodLink "java/lang/StringUTF16" 232 ⟨"java/lang/StringUTF16", "indexOfSupplementary", "([BIII)I"⟩) ∈ zg := zg_in 247 rfl rfl
set_option maxRecDepth 20000 in
theorem zw_211 : (Cond.static ⟨"java/lang/StringUTF16", "indexOfSupplementary", "([BIII)I"⟩) ∈ zg := zg_in 248 rfl rfl
set_option maxRecDepth 20000 in
theorem zw_213 : (Cond.methodLink "java/lang/StringUTF16" 164 ⟨"java/lang/Character", "isValidCodePoint", "(I)Z"⟩) ∈ zg := zg_in 250 rfl rfl
set_option maxRecDepth 20000 in
theorem zw_214 : (Cond.static ⟨"java/lang/Character", "isValidCodePoint", "(I)Z"⟩) ∈ zg := zg_in 251 rfl rfl
set_option maxRecDepth 20000 in
theorem zw_216 : (Cond.methodLink "java/lang/StringUTF16" 157 ⟨"java/lang/Character", "highSurrogate", "(I)C"⟩) ∈ zg := zg_in 253 rfl rfl
set_option maxRecDepth 20000 in
theorem zw_217 : (Cond.static ⟨"java/lang/Character", "highSurrogate", "(I)C"⟩) ∈ zg := zg_in 254 rfl rfl
set_option maxRecDepth 20000 in
theorem zw_219 : (Cond.constant "java/lang/Character" 110 55232) ∈ zg := zg_in 256 rfl rfl
set_option maxRecDepth 20000 in
theorem zw_220 : (Cond.methodLink "java/lang/StringUTF16" 161 ⟨"java/lang/Character", "lowSurrogate", "(I)C"⟩) ∈ zg := zg_in 257 rfl rfl
set_option maxRecDepth 20000 in
theorem zw_221 : (Cond.static ⟨"java/lang/Character", "lowSurrogate", "(I)C"⟩) ∈ zg := zg_in 258 rfl rfl
set_option maxRecDepth 20000 in
theorem zw_223 : (Cond.constant "java/lang/Character" 76 56320) ∈ zg := zg_in 260 rfl rfl
set_option maxRecDepth 20000 in
theorem zw_224 : (Cond.methodLink "SealedFilesLaw" 41 ⟨"SealedFilesLaw", "key", "(LSealedFiles;I[J)I"⟩) ∈ zg := zg_in 261 rfl rfl
set_option maxRecDepth 20000 in
theorem zw_225 : (Cond.static ⟨"SealedFilesLaw", "key", "(LSealedFiles;I[J)I"⟩) ∈ zg := zg_in 262 rfl rfl
set_option maxRecDepth 20000 in
theorem zw_227 : (Cond.classLink "SealedFilesLaw" 13 "java/lang/IllegalArgumentException") ∈ zg := zg_in 264 rfl rfl
set_option maxRecDepth 20000 in
theorem zw_228 : (Cond.classLink "SealedFilesLaw" 15 "java/lang/IllegalStateException") ∈ zg := zg_in 265 rfl rfl
set_option maxRecDepth 20000 in
theorem zw_229 : (Cond.methodLink "SealedFilesLaw" 7 ⟨"SealedFiles", "key", "(I)I"⟩) ∈ zg := zg_in 266 rfl rfl
set_option maxRecDepth 20000 in
theorem zw_230 : (Cond.instanceMethod ⟨"SealedFiles", "key", "(I)I"⟩) ∈ zg := zg_in 267 rfl rfl
set_option maxRecDepth 20000 in
theorem zw_231 : (Cond.selects "SealedFiles" ⟨"SealedFiles", "key", "(I)I"⟩ ⟨"SealedFiles", "key", "(I)I"⟩) ∈ zg := zg_in 268 rfl rfl
set_option maxRecDepth 20000 in
theorem zw_233 : (Cond.classLink "SealedFiles" 34 "java/lang/IllegalArgumentException") ∈ zg := zg_in 270 rfl rfl
set_option maxRecDepth 20000 in
theorem zw_234 : (Cond.instantiable "java/lang/IllegalArgumentException" 6) ∈ zg := zg_in 271 rfl rfl
set_option maxRecDepth 20000 in
theorem zw_242 : (Cond.selects "java/lang/IllegalArgumentException" ⟨"java/lang/Throwable", "fillInStackTrace", "(I)Ljava/lang/Throwable;"⟩ ⟨"java/lang/Throwable", "fillInStackTrace", "(I)Ljava/lang/Throwable;"⟩) ∈ zg := zg_in 279 rfl rfl
set_option maxRecDepth 20000 in
theorem zw_243 : (Cond.selects "java/lang/IllegalArgumentException" ⟨"java/lang/Throwable", "fillInStackTrace", "()Ljava/lang/Throwable;"⟩ ⟨"java/lang/Throwable", "fillInStackTrace", "()Ljava/lang/Throwable;"⟩) ∈ zg := zg_in 280 rfl rfl
set_option maxRecDepth 20000 in
theorem zw_254 : (Cond.fieldLink "java/lang/Throwable" 198 "java/lang/Throwable" "backtrace" "Ljava/lang/Object;") ∈ zg := zg_in 291 rfl rfl
set_option maxRecDepth 20000 in
theorem zw_255 : (Cond.superclass "java/lang/Throwable" "java/lang/Object") ∈ zg := zg_in 292 rfl rfl
set_option maxRecDepth 20000 in
theorem zw_256 : (Cond.instanceMethod ⟨"java/lang/Throwable", "<init>", "()V"⟩) ∈ zg := zg_in 293 rfl rfl
set_option maxRecDepth 20000 in
theorem zw_258 : (Cond.methodLink "java/lang/Throwable" 1 ⟨"java/lang/Object", "<init>", "()V"⟩) ∈ zg := zg_in 295 rfl rfl
set_option maxRecDepth 20000 in
theorem zw_259 : (Cond.fieldLink "java/lang/Throwable" 13 "java/lang/Throwable" "UNASSIGNED_STACK" "[Ljava/lang/StackTraceElement;") ∈ zg := zg_in 296 rfl rfl
set_option maxRecDepth 20000 in
theorem zw_261 : (Cond.fieldLink "java/lang/Throwable" 20 "java/lang/Throwable" "SUPPRESSED_SENTINEL" "Ljava/util/List;") ∈ zg := zg_in 298 rfl rfl
set_option maxRecDepth 20000 in
theorem zw_263 : (Cond.methodLink "java/lang/Throwable" 27 ⟨"java/lang/Throwable", "fillInStackTrace", "()Ljava/lang/Throwable;"⟩) ∈ zg := zg_in 300 rfl rfl
set_option maxRecDepth 20000 in
theorem zw_264 : (Cond.instanceMethod ⟨"java/lang/Throwable", "fillInStackTrace", "()Ljava/lang/Throwable;"⟩) ∈ zg := zg_in 301 rfl rfl
set_option maxRecDepth 20000 in
theorem zw_266 : (Cond.selects "java/lang/IllegalStateException" ⟨"java/lang/Throwable", "fillInStackTrace", "()Ljava/lang/Throwable;"⟩ ⟨"java/lang/Throwable", "fillInStackTrace", "()Ljava/lang/Throwable;"⟩) ∈ zg := zg_in 303 rfl rfl
set_option maxRecDepth 20000 in
theorem zw_267 : (Cond.selects "java/util/NoSuchElementException" ⟨"java/lang/Throwable", "fillInStackTrace", "()Ljava/lang/Throwable;"⟩ ⟨"java/lang/Throwable", "fillInStackTrace", "()Ljava/lang/Throwable;"⟩) ∈ zg := zg_in 304 rfl rfl
set_option maxRecDepth 20000 in
theorem zw_269 : (Cond.methodLink "java/lang/Throwable" 202 ⟨"java/lang/Throwable", "fillInStackTrace", "(I)Ljava/lang/Throwable;"⟩) ∈ zg := zg_in 306 rfl rfl
set_option maxRecDepth 20000 in
theorem zw_271 : (Cond.instanceMethod ⟨"java/lang/Throwable", "fillInStackTrace", "(I)Ljava/lang/Throwable;"⟩) ∈ zg := zg_in 308 rfl rfl
set_option maxRecDepth 20000 in
theorem zw_272 : (Cond.instantiable "java/lang/Throwable" 6) ∈ zg := zg_in 309 rfl rfl
set_option maxRecDepth 20000 in
theorem zw_275 : (Cond.methodLink "SealedFiles" 38 ⟨"java/lang/IllegalArgumentException", "<init>", "(Ljava/lang/String;)V"⟩) ∈ zg := zg_in 312 rfl rfl
set_option maxRecDepth 20000 in
theorem zw_276 : (Cond.instanceMethod ⟨"java/lang/IllegalArgumentException", "<init>", "(Ljava/lang/String;)V"⟩) ∈ zg := zg_in 313 rfl rfl
set_option maxRecDepth 20000 in
theorem zw_278 : (Cond.methodLink "java/lang/IllegalArgumentException" 7 ⟨"java/lang/RuntimeException", "<init>", "(Ljava/lang/String;)V"⟩) ∈ zg := zg_in 315 rfl rfl
set_option maxRecDepth 20000 in
theorem zw_279 : (Cond.instanceMethod ⟨"java/lang/RuntimeException", "<init>", "(Ljava/lang/String;)V"⟩) ∈ zg := zg_in 316 rfl rfl
set_option maxRecDepth 20000 in
theorem zw_281 : (Cond.methodLink "java/lang/RuntimeException" 7 ⟨"java/lang/Exception", "<init>", "(Ljava/lang/String;)V"⟩) ∈ zg := zg_in 318 rfl rfl
set_option maxRecDepth 20000 in
theorem zw_282 : (Cond.instanceMethod ⟨"java/lang/Exception", "<init>", "(Ljava/lang/String;)V"⟩) ∈ zg := zg_in 319 rfl rfl
set_option maxRecDepth 20000 in
theorem zw_284 : (Cond.methodLink "java/lang/Exception" 7 ⟨"java/lang/Throwable", "<init>", "(Ljava/lang/String;)V"⟩) ∈ zg := zg_in 321 rfl rfl
set_option maxRecDepth 20000 in
theorem zw_285 : (Cond.instanceMethod ⟨"java/lang/Throwable", "<init>", "(Ljava/lang/String;)V"⟩) ∈ zg := zg_in 322 rfl rfl
set_option maxRecDepth 20000 in
theorem zw_287 : (Cond.fieldLink "java/lang/Throwable" 198 "java/lang/Throwable" "backtrace" "Ljava/lang/Object;") ∈ zg := zg_in 324 rfl rfl
set_option maxRecDepth 20000 in
theorem zw_288 : (Cond.fieldLink "java/lang/Throwable" 31 "java/lang/Throwable" "detailMessage" "Ljava/lang/String;") ∈ zg := zg_in 325 rfl rfl
set_option maxRecDepth 20000 in
theorem zw_289 : (Cond.fieldLink "java/lang/Throwable" 7 "java/lang/Throwable" "cause" "Ljava/lang/Throwable;") ∈ zg := zg_in 326 rfl rfl
set_option maxRecDepth 20000 in
theorem zw_290 : (Cond.fieldLink "java/lang/Throwable" 17 "java/lang/Throwable" "stackTrace" "[Ljava/lang/StackTraceElement;") ∈ zg := zg_in 327 rfl rfl
set_option maxRecDepth 20000 in
theorem zw_291 : (Cond.fieldLink "java/lang/Throwable" 24 "java/lang/Throwable" "suppressedExceptions" "Ljava/util/List;") ∈ zg := zg_in 328 rfl rfl
set_option maxRecDepth 20000 in
theorem zw_299 : (Cond.superclass "java/lang/IllegalArgumentException" "java/lang/RuntimeException") ∈ zg := zg_in 336 rfl rfl
set_option maxRecDepth 20000 in
theorem zw_300 : (Cond.classLink "SealedFiles" 45 "java/lang/IllegalStateException") ∈ zg := zg_in 337 rfl rfl
set_option maxRecDepth 20000 in
theorem zw_301 : (Cond.instantiable "java/lang/IllegalStateException" 6) ∈ zg := zg_in 338 rfl rfl
set_option maxRecDepth 20000 in
theorem zw_303 : (Cond.selects "java/lang/IllegalStateException" ⟨"java/lang/Throwable", "fillInStackTrace", "(I)Ljava/lang/Throwable;"⟩ ⟨"java/lang/Throwable", "fillInStackTrace", "(I)Ljava/lang/Throwable;"⟩) ∈ zg := zg_in 340 rfl rfl
set_option maxRecDepth 20000 in
theorem zw_310 : (Cond.methodLink "SealedFiles" 49 ⟨"java/lang/IllegalStateException", "<init>", "(Ljava/lang/String;)V"⟩) ∈ zg := zg_in 347 rfl rfl
set_option maxRecDepth 20000 in
theorem zw_311 : (Cond.instanceMethod ⟨"java/lang/IllegalStateException", "<init>", "(Ljava/lang/String;)V"⟩) ∈ zg := zg_in 348 rfl rfl
set_option maxRecDepth 20000 in
theorem zw_313 : (Cond.methodLink "java/lang/IllegalStateException" 7 ⟨"java/lang/RuntimeException", "<init>", "(Ljava/lang/String;)V"⟩) ∈ zg := zg_in 350 rfl rfl
set_option maxRecDepth 20000 in
theorem zw_315 : (Cond.superclass "java/lang/IllegalStateException" "java/lang/RuntimeException") ∈ zg := zg_in 352 rfl rfl
set_option maxRecDepth 20000 in
theorem zw_317 : (Cond.static ⟨"SealedFiles$Numbers", "power", "(II)I"⟩) ∈ zg := zg_in 354 rfl rfl
set_option maxRecDepth 20000 in
theorem zw_319 : (Cond.methodLink "SealedFilesLaw" 63 ⟨"SealedFilesLaw", "seal", "(LSealedFiles;III[J)I"⟩) ∈ zg := zg_in 356 rfl rfl
set_option maxRecDepth 20000 in
theorem zw_320 : (Cond.static ⟨"SealedFilesLaw", "seal", "(LSealedFiles;III[J)I"⟩) ∈ zg := zg_in 357 rfl rfl
set_option maxRecDepth 20000 in
theorem zw_322 : (Cond.methodLink "SealedFilesLaw" 17 ⟨"SealedFiles", "seal", "(III)I"⟩) ∈ zg := zg_in 359 rfl rfl
set_option maxRecDepth 20000 in
theorem zw_323 : (Cond.instanceMethod ⟨"SealedFiles", "seal", "(III)I"⟩) ∈ zg := zg_in 360 rfl rfl
set_option maxRecDepth 20000 in
theorem zw_324 : (Cond.selects "SealedFiles" ⟨"SealedFiles", "seal", "(III)I"⟩ ⟨"SealedFiles", "seal", "(III)I"⟩) ∈ zg := zg_in 361 rfl rfl
set_option maxRecDepth 20000 in
theorem zw_326 : (Cond.methodLink "SealedFiles" 67 ⟨"SealedFiles", "areReceivers", "(I)Z"⟩) ∈ zg := zg_in 363 rfl rfl
set_option maxRecDepth 20000 in
theorem zw_328 : (Cond.instanceMethod ⟨"SealedFiles", "areReceivers", "(I)Z"⟩) ∈ zg := zg_in 365 rfl rfl
set_option maxRecDepth 20000 in
theorem zw_330 : (Cond.methodLink "SealedFiles" 72 ⟨"java/lang/Integer", "bitCount", "(I)I"⟩) ∈ zg := zg_in 367 rfl rfl
set_option maxRecDepth 20000 in
theorem zw_331 : (Cond.static ⟨"java/lang/Integer", "bitCount", "(I)I"⟩) ∈ zg := zg_in 368 rfl rfl
set_option maxRecDepth 20000 in
theorem zw_333 : (Cond.constant "java/lang/Integer" 265 1431655765) ∈ zg := zg_in 370 rfl rfl
set_option maxRecDepth 20000 in
theorem zw_334 : (Cond.constant "java/lang/Integer" 266 858993459) ∈ zg := zg_in 371 rfl rfl
set_option maxRecDepth 20000 in
theorem zw_335 : (Cond.constant "java/lang/Integer" 267 252645135) ∈ zg := zg_in 372 rfl rfl
set_option maxRecDepth 20000 in
theorem zw_337 : (Cond.methodLink "SealedFiles" 77 ⟨"SealedFiles", "exponent", "(III)I"⟩) ∈ zg := zg_in 374 rfl rfl
set_option maxRecDepth 20000 in
theorem zw_338 : (Cond.static ⟨"SealedFiles", "exponent", "(III)I"⟩) ∈ zg := zg_in 375 rfl rfl
set_option maxRecDepth 20000 in
theorem zw_341 : (Cond.static ⟨"SealedFiles$Numbers", "word", "(III)I"⟩) ∈ zg := zg_in 378 rfl rfl
set_option maxRecDepth 20000 in
theorem zw_343 : (Cond.methodLink "SealedFiles$Numbers" 11 ⟨"SealedFiles$Numbers", "mix", "(I)I"⟩) ∈ zg := zg_in 380 rfl rfl
set_option maxRecDepth 20000 in
theorem zw_344 : (Cond.static ⟨"SealedFiles$Numbers", "mix", "(I)I"⟩) ∈ zg := zg_in 381 rfl rfl
set_option maxRecDepth 20000 in
theorem zw_346 : (Cond.constant "SealedFiles$Numbers" 9 2146121005) ∈ zg := zg_in 383 rfl rfl
set_option maxRecDepth 20000 in
theorem zw_347 : (Cond.constant "SealedFiles$Numbers" 10 2073254073) ∈ zg := zg_in 384 rfl rfl
set_option maxRecDepth 20000 in
theorem zw_348 : (Cond.methodLink "SealedFiles" 81 ⟨"SealedFiles", "appendEntry", "(III)V"⟩) ∈ zg := zg_in 385 rfl rfl
set_option maxRecDepth 20000 in
theorem zw_350 : (Cond.instanceMethod ⟨"SealedFiles", "appendEntry", "(III)V"⟩) ∈ zg := zg_in 387 rfl rfl
set_option maxRecDepth 20000 in
theorem zw_354 : (Cond.instanceMethod ⟨"SealedFiles$Row", "appendPair", "(I)V"⟩) ∈ zg := zg_in 391 rfl rfl
set_option maxRecDepth 20000 in
theorem zw_356 : (Cond.methodLink "SealedFiles$Row" 21 ⟨"SealedFiles$Row", "append", "(I)Z"⟩) ∈ zg := zg_in 393 rfl rfl
set_option maxRecDepth 20000 in
theorem zw_357 : (Cond.constant "SealedFiles" 151 65535) ∈ zg := zg_in 394 rfl rfl
set_option maxRecDepth 20000 in
theorem zw_358 : (Cond.methodLink "SealedFiles" 152 ⟨"SealedFiles", "entrySign", "(III)I"⟩) ∈ zg := zg_in 395 rfl rfl
set_option maxRecDepth 20000 in
theorem zw_360 : (Cond.instanceMethod ⟨"SealedFiles", "entrySign", "(III)I"⟩) ∈ zg := zg_in 397 rfl rfl
set_option maxRecDepth 20000 in
theorem zw_364 : (Cond.instanceMethod ⟨"SealedFiles$Row", "sign", "(III)I"⟩) ∈ zg := zg_in 401 rfl rfl
set_option maxRecDepth 20000 in
theorem zw_366 : (Cond.constant "SealedFiles$Row" 28 65520) ∈ zg := zg_in 403 rfl rfl
set_option maxRecDepth 20000 in
theorem zw_367 : (Cond.methodLink "SealedFiles$Row" 24 ⟨"SealedFiles$Row", "item", "(I)I"⟩) ∈ zg := zg_in 404 rfl rfl
set_option maxRecDepth 20000 in
theorem zw_368 : (Cond.constantLong "SealedFiles$Row" 29 65521) ∈ zg := zg_in 405 rfl rfl
set_option maxRecDepth 20000 in
theorem zw_369 : (Cond.methodLink "SealedFiles" 85 ⟨"SealedFiles", "headSign", "(II)I"⟩) ∈ zg := zg_in 406 rfl rfl
set_option maxRecDepth 20000 in
theorem zw_371 : (Cond.instanceMethod ⟨"SealedFiles", "headSign", "(II)I"⟩) ∈ zg := zg_in 408 rfl rfl
set_option maxRecDepth 20000 in
theorem zw_373 : (Cond.methodLink "SealedFiles" 91 ⟨"SealedFiles", "appendPieces", "(I)V"⟩) ∈ zg := zg_in 410 rfl rfl
set_option maxRecDepth 20000 in
theorem zw_375 : (Cond.instanceMethod ⟨"SealedFiles", "appendPieces", "(I)V"⟩) ∈ zg := zg_in 412 rfl rfl
set_option maxRecDepth 20000 in
theorem zw_377 : (Cond.methodLink "SealedFiles" 158 ⟨"java/lang/Math", "max", "(II)I"⟩) ∈ zg := zg_in 414 rfl rfl
set_option maxRecDepth 20000 in
theorem zw_378 : (Cond.methodLink "SealedFiles" 163 ⟨"java/lang/Math", "min", "(II)I"⟩) ∈ zg := zg_in 415 rfl rfl
set_option maxRecDepth 20000 in
theorem zw_379 : (Cond.methodLink "SealedFiles" 166 ⟨"SealedFiles", "covered", "(IIII)I"⟩) ∈ zg := zg_in 416 rfl rfl
set_option maxRecDepth 20000 in
theorem zw_380 : (Cond.static ⟨"SealedFiles", "covered", "(IIII)I"⟩) ∈ zg := zg_in 417 rfl rfl
set_option maxRecDepth 20000 in
theorem zw_382 : (Cond.methodLink "SealedFiles" 170 ⟨"SealedFiles", "pieceSign", "(IIIIZ)I"⟩) ∈ zg := zg_in 419 rfl rfl
set_option maxRecDepth 20000 in
theorem zw_384 : (Cond.instanceMethod ⟨"SealedFiles", "pieceSign", "(IIIIZ)I"⟩) ∈ zg := zg_in 421 rfl rfl
set_option maxRecDepth 20000 in
theorem zw_386 : (Cond.methodLink "SealedFilesLaw" 67 ⟨"SealedFilesLaw", "open", "(LSealedFiles;I[J)I"⟩) ∈ zg := zg_in 423 rfl rfl
set_option maxRecDepth 20000 in
theorem zw_387 : (Cond.static ⟨"SealedFilesLaw", "open", "(LSealedFiles;I[J)I"⟩) ∈ zg := zg_in 424 rfl rfl
set_option maxRecDepth 20000 in
theorem zw_389 : (Cond.methodLink "SealedFilesLaw" 21 ⟨"SealedFiles", "open", "(I)I"⟩) ∈ zg := zg_in 426 rfl rfl
set_option maxRecDepth 20000 in
theorem zw_390 : (Cond.instanceMethod ⟨"SealedFiles", "open", "(I)I"⟩) ∈ zg := zg_in 427 rfl rfl
set_option maxRecDepth 20000 in
theorem zw_391 : (Cond.selects "SealedFiles" ⟨"SealedFiles", "open", "(I)I"⟩ ⟨"SealedFiles", "open", "(I)I"⟩) ∈ zg := zg_in 428 rfl rfl
set_option maxRecDepth 20000 in
theorem zw_394 : (Cond.methodLink "SealedFiles" 99 ⟨"SealedFiles", "hasShape", "()Z"⟩) ∈ zg := zg_in 431 rfl rfl
set_option maxRecDepth 20000 in
theorem zw_396 : (Cond.instanceMethod ⟨"SealedFiles", "hasShape", "()Z"⟩) ∈ zg := zg_in 433 rfl rfl
set_option maxRecDepth 20000 in
theorem zw_398 : (Cond.methodLink "SealedFiles" 109 ⟨"SealedFiles", "entriesEnd", "()I"⟩) ∈ zg := zg_in 435 rfl rfl
set_option maxRecDepth 20000 in
theorem zw_400 : (Cond.instanceMethod ⟨"SealedFiles", "entriesEnd", "()I"⟩) ∈ zg := zg_in 437 rfl rfl
set_option maxRecDepth 20000 in
theorem zw_402 : (Cond.methodLink "SealedFiles" 103 ⟨"SealedFiles", "entryFor", "(I)I"⟩) ∈ zg := zg_in 439 rfl rfl
set_option maxRecDepth 20000 in
theorem zw_404 : (Cond.instanceMethod ⟨"SealedFiles", "entryFor", "(I)I"⟩) ∈ zg := zg_in 441 rfl rfl
set_option maxRecDepth 20000 in
theorem zw_406 : (Cond.methodLink "SealedFiles" 174 ⟨"SealedFiles", "agreed", "(II)I"⟩) ∈ zg := zg_in 443 rfl rfl
set_option maxRecDepth 20000 in
theorem zw_408 : (Cond.instanceMethod ⟨"SealedFiles", "agreed", "(II)I"⟩) ∈ zg := zg_in 445 rfl rfl
set_option maxRecDepth 20000 in
theorem zw_412 : (Cond.instanceMethod ⟨"SealedFiles$Row", "pair", "(I)I"⟩) ∈ zg := zg_in 449 rfl rfl
set_option maxRecDepth 20000 in
theorem zw_414 : (Cond.methodLink "SealedFiles" 106 ⟨"SealedFiles", "unwrapped", "(II)I"⟩) ∈ zg := zg_in 451 rfl rfl
set_option maxRecDepth 20000 in
theorem zw_416 : (Cond.instanceMethod ⟨"SealedFiles", "unwrapped", "(II)I"⟩) ∈ zg := zg_in 453 rfl rfl
set_option maxRecDepth 20000 in
theorem zw_418 : (Cond.methodLink "SealedFiles" 115 ⟨"SealedFiles", "takePieces", "(II)I"⟩) ∈ zg := zg_in 455 rfl rfl
set_option maxRecDepth 20000 in
theorem zw_420 : (Cond.instanceMethod ⟨"SealedFiles", "takePieces", "(II)I"⟩) ∈ zg := zg_in 457 rfl rfl
set_option maxRecDepth 20000 in
theorem zw_422 : (Cond.methodLink "SealedFiles" 177 ⟨"SealedFiles", "uncover", "(IIII)V"⟩) ∈ zg := zg_in 459 rfl rfl
set_option maxRecDepth 20000 in
theorem zw_424 : (Cond.instanceMethod ⟨"SealedFiles", "uncover", "(IIII)V"⟩) ∈ zg := zg_in 461 rfl rfl
set_option maxRecDepth 20000 in
theorem zw_426 : (Cond.methodLink "SealedFilesLaw" 74 ⟨"SealedFilesLaw", "read", "(LSealedFiles;I[J)I"⟩) ∈ zg := zg_in 463 rfl rfl
set_option maxRecDepth 20000 in
theorem zw_427 : (Cond.static ⟨"SealedFilesLaw", "read", "(LSealedFiles;I[J)I"⟩) ∈ zg := zg_in 464 rfl rfl
set_option maxRecDepth 20000 in
theorem zw_429 : (Cond.classLink "SealedFilesLaw" 27 "java/util/NoSuchElementException") ∈ zg := zg_in 466 rfl rfl
set_option maxRecDepth 20000 in
theorem zw_430 : (Cond.methodLink "SealedFilesLaw" 24 ⟨"SealedFiles", "read", "(I)I"⟩) ∈ zg := zg_in 467 rfl rfl
set_option maxRecDepth 20000 in
theorem zw_431 : (Cond.instanceMethod ⟨"SealedFiles", "read", "(I)I"⟩) ∈ zg := zg_in 468 rfl rfl
set_option maxRecDepth 20000 in
theorem zw_432 : (Cond.selects "SealedFiles" ⟨"SealedFiles", "read", "(I)I"⟩ ⟨"SealedFiles", "read", "(I)I"⟩) ∈ zg := zg_in 469 rfl rfl
set_option maxRecDepth 20000 in
theorem zw_434 : (Cond.classLink "SealedFiles" 118 "java/util/NoSuchElementException") ∈ zg := zg_in 471 rfl rfl
set_option maxRecDepth 20000 in
theorem zw_435 : (Cond.instantiable "java/util/NoSuchElementException" 6) ∈ zg := zg_in 472 rfl rfl
set_option maxRecDepth 20000 in
theorem zw_437 : (Cond.selects "java/util/NoSuchElementException" ⟨"java/lang/Throwable", "fillInStackTrace", "(I)Ljava/lang/Throwable;"⟩ ⟨"java/lang/Throwable", "fillInStackTrace", "(I)Ljava/lang/Throwable;"⟩) ∈ zg := zg_in 474 rfl rfl
set_option maxRecDepth 20000 in
theorem zw_444 : (Cond.methodLink "SealedFiles" 122 ⟨"java/util/NoSuchElementException", "<init>", "(Ljava/lang/String;)V"⟩) ∈ zg := zg_in 481 rfl rfl
set_option maxRecDepth 20000 in
theorem zw_445 : (Cond.instanceMethod ⟨"java/util/NoSuchElementException", "<init>", "(Ljava/lang/String;)V"⟩) ∈ zg := zg_in 482 rfl rfl
set_option maxRecDepth 20000 in
theorem zw_447 : (Cond.methodLink "java/util/NoSuchElementException" 13 ⟨"java/lang/RuntimeException", "<init>", "(Ljava/lang/String;)V"⟩) ∈ zg := zg_in 484 rfl rfl
set_option maxRecDepth 20000 in
theorem zw_449 : (Cond.superclass "java/util/NoSuchElementException" "java/lang/RuntimeException") ∈ zg := zg_in 486 rfl rfl
set_option maxRecDepth 20000 in
theorem zw_450 : (Cond.methodLink "SealedFilesLaw" 85 ⟨"SealedFilesLaw", "alter", "(LSealedFiles;II[J)I"⟩) ∈ zg := zg_in 487 rfl rfl
set_option maxRecDepth 20000 in
theorem zw_451 : (Cond.static ⟨"SealedFilesLaw", "alter", "(LSealedFiles;II[J)I"⟩) ∈ zg := zg_in 488 rfl rfl
set_option maxRecDepth 20000 in
theorem zw_453 : (Cond.methodLink "SealedFilesLaw" 29 ⟨"SealedFiles", "alter", "(II)I"⟩) ∈ zg := zg_in 490 rfl rfl
set_option maxRecDepth 20000 in
theorem zw_454 : (Cond.instanceMethod ⟨"SealedFiles", "alter", "(II)I"⟩) ∈ zg := zg_in 491 rfl rfl
set_option maxRecDepth 20000 in
theorem zw_455 : (Cond.selects "SealedFiles" ⟨"SealedFiles", "alter", "(II)I"⟩ ⟨"SealedFiles", "alter", "(II)I"⟩) ∈ zg := zg_in 492 rfl rfl
set_option maxRecDepth 20000 in
theorem zw_460 : (Cond.instanceMethod ⟨"SealedFiles$Row", "replace", "(II)V"⟩) ∈ zg := zg_in 497 rfl rfl
set_option maxRecDepth 20000 in
theorem zw_462 : (Cond.methodLink "SealedFilesLaw" 102 ⟨"SealedFilesLaw", "load", "(LSealedFiles;[J)I"⟩) ∈ zg := zg_in 499 rfl rfl
set_option maxRecDepth 20000 in
theorem zw_463 : (Cond.static ⟨"SealedFilesLaw", "load", "(LSealedFiles;[J)I"⟩) ∈ zg := zg_in 500 rfl rfl
set_option maxRecDepth 20000 in
theorem zw_465 : (Cond.methodLink "SealedFilesLaw" 33 ⟨"SealedFiles", "load", "()I"⟩) ∈ zg := zg_in 502 rfl rfl
set_option maxRecDepth 20000 in
theorem zw_466 : (Cond.instanceMethod ⟨"SealedFiles", "load", "()I"⟩) ∈ zg := zg_in 503 rfl rfl
set_option maxRecDepth 20000 in
theorem zw_467 : (Cond.selects "SealedFiles" ⟨"SealedFiles", "load", "()I"⟩ ⟨"SealedFiles", "load", "()I"⟩) ∈ zg := zg_in 504 rfl rfl
set_option maxRecDepth 20000 in
theorem zw_469 : (Cond.methodLink "SealedFiles" 140 ⟨"SealedFiles", "draftIsPrintedForm", "()Z"⟩) ∈ zg := zg_in 506 rfl rfl
set_option maxRecDepth 20000 in
theorem zw_471 : (Cond.instanceMethod ⟨"SealedFiles", "draftIsPrintedForm", "()Z"⟩) ∈ zg := zg_in 508 rfl rfl
set_option maxRecDepth 20000 in
theorem zw_473 : (Cond.methodLink "SealedFiles" 181 ⟨"SealedFiles", "draftBytes", "()I"⟩) ∈ zg := zg_in 510 rfl rfl
set_option maxRecDepth 20000 in
theorem zw_475 : (Cond.instanceMethod ⟨"SealedFiles", "draftBytes", "()I"⟩) ∈ zg := zg_in 512 rfl rfl
set_option maxRecDepth 20000 in
theorem zw_477 : (Cond.methodLink "SealedFiles" 143 ⟨"SealedFiles", "takeDraft", "()V"⟩) ∈ zg := zg_in 514 rfl rfl
set_option maxRecDepth 20000 in
theorem zw_479 : (Cond.instanceMethod ⟨"SealedFiles", "takeDraft", "()V"⟩) ∈ zg := zg_in 516 rfl rfl
set_option maxRecDepth 20000 in
theorem zw_482 : (Cond.classLink "SealedFilesLaw" 38 "SealedFilesModel") ∈ zg := zg_in 519 rfl rfl
set_option maxRecDepth 20000 in
theorem zw_483 : (Cond.instantiable "SealedFilesModel" 12) ∈ zg := zg_in 520 rfl rfl
set_option maxRecDepth 20000 in
theorem zw_484 : (Cond.methodLink "SealedFilesLaw" 40 ⟨"SealedFilesModel", "<init>", "()V"⟩) ∈ zg := zg_in 521 rfl rfl
set_option maxRecDepth 20000 in
theorem zw_485 : (Cond.instanceMethod ⟨"SealedFilesModel", "<init>", "()V"⟩) ∈ zg := zg_in 522 rfl rfl
set_option maxRecDepth 20000 in
theorem zw_487 : (Cond.methodLink "SealedFilesModel" 1 ⟨"java/lang/Object", "<init>", "()V"⟩) ∈ zg := zg_in 524 rfl rfl
set_option maxRecDepth 20000 in
theorem zw_488 : (Cond.fieldLink "SealedFilesModel" 26 "SealedFilesModel" "fault" "I") ∈ zg := zg_in 525 rfl rfl
set_option maxRecDepth 20000 in
theorem zw_489 : (Cond.fieldLink "SealedFilesModel" 42 "SealedFilesModel" "keys" "I") ∈ zg := zg_in 526 rfl rfl
set_option maxRecDepth 20000 in
theorem zw_490 : (Cond.fieldLink "SealedFilesModel" 7 "SealedFilesModel" "secret" "[I") ∈ zg := zg_in 527 rfl rfl
set_option maxRecDepth 20000 in
theorem zw_491 : (Cond.fieldLink "SealedFilesModel" 53 "SealedFilesModel" "length" "I") ∈ zg := zg_in 528 rfl rfl
set_option maxRecDepth 20000 in
theorem zw_492 : (Cond.fieldLink "SealedFilesModel" 56 "SealedFilesModel" "size" "I") ∈ zg := zg_in 529 rfl rfl
set_option maxRecDepth 20000 in
theorem zw_493 : (Cond.fieldLink "SealedFilesModel" 83 "SealedFilesModel" "right" "I") ∈ zg := zg_in 530 rfl rfl
set_option maxRecDepth 20000 in
theorem zw_494 : (Cond.fieldLink "SealedFilesModel" 13 "SealedFilesModel" "message" "[I") ∈ zg := zg_in 531 rfl rfl
set_option maxRecDepth 20000 in
theorem zw_495 : (Cond.fieldLink "SealedFilesModel" 16 "SealedFilesModel" "file" "[I") ∈ zg := zg_in 532 rfl rfl
set_option maxRecDepth 20000 in
theorem zw_496 : (Cond.fieldLink "SealedFilesModel" 19 "SealedFilesModel" "plain" "[I") ∈ zg := zg_in 533 rfl rfl
set_option maxRecDepth 20000 in
theorem zw_497 : (Cond.fieldLink "SealedFilesModel" 80 "SealedFilesModel" "read" "I") ∈ zg := zg_in 534 rfl rfl
set_option maxRecDepth 20000 in
theorem zw_498 : (Cond.fieldLink "SealedFilesModel" 100 "SealedFilesModel" "drafted" "I") ∈ zg := zg_in 535 rfl rfl
set_option maxRecDepth 20000 in
theorem zw_499 : (Cond.fieldLink "SealedFilesModel" 22 "SealedFilesModel" "draft" "[C") ∈ zg := zg_in 536 rfl rfl
set_option maxRecDepth 20000 in
theorem zw_524 : (Cond.superclass "SealedFilesModel" "java/lang/Object") ∈ zg := zg_in 561 rfl rfl
set_option maxRecDepth 20000 in
theorem zw_525 : (Cond.arrayClass .char) ∈ zg := zg_in 562 rfl rfl
set_option maxRecDepth 20000 in
theorem zw_526 : (Cond.methodLink "SealedFilesLaw" 47 ⟨"SealedFilesModel", "thrown", "()I"⟩) ∈ zg := zg_in 563 rfl rfl
set_option maxRecDepth 20000 in
theorem zw_527 : (Cond.instanceMethod ⟨"SealedFilesModel", "thrown", "()I"⟩) ∈ zg := zg_in 564 rfl rfl
set_option maxRecDepth 20000 in
theorem zw_528 : (Cond.selects "SealedFilesModel" ⟨"SealedFilesModel", "thrown", "()I"⟩ ⟨"SealedFilesModel", "thrown", "()I"⟩) ∈ zg := zg_in 565 rfl rfl
set_option maxRecDepth 20000 in
theorem zw_530 : (Cond.methodLink "SealedFilesLaw" 46 ⟨"SealedFilesModel", "key", "(I)I"⟩) ∈ zg := zg_in 567 rfl rfl
set_option maxRecDepth 20000 in
theorem zw_531 : (Cond.instanceMethod ⟨"SealedFilesModel", "key", "(I)I"⟩) ∈ zg := zg_in 568 rfl rfl
set_option maxRecDepth 20000 in
theorem zw_532 : (Cond.selects "SealedFilesModel" ⟨"SealedFilesModel", "key", "(I)I"⟩ ⟨"SealedFilesModel", "key", "(I)I"⟩) ∈ zg := zg_in 569 rfl rfl
set_option maxRecDepth 20000 in
theorem zw_534 : (Cond.methodLink "SealedFilesModel" 39 ⟨"SealedFilesModel", "fails", "(I)I"⟩) ∈ zg := zg_in 571 rfl rfl
set_option maxRecDepth 20000 in
theorem zw_536 : (Cond.instanceMethod ⟨"SealedFilesModel", "fails", "(I)I"⟩) ∈ zg := zg_in 573 rfl rfl
set_option maxRecDepth 20000 in
theorem zw_538 : (Cond.methodLink "SealedFilesLaw" 53 ⟨"SealedFilesModel", "address", "(I)I"⟩) ∈ zg := zg_in 575 rfl rfl
set_option maxRecDepth 20000 in
theorem zw_539 : (Cond.instanceMethod ⟨"SealedFilesModel", "address", "(I)I"⟩) ∈ zg := zg_in 576 rfl rfl
set_option maxRecDepth 20000 in
theorem zw_540 : (Cond.selects "SealedFilesModel" ⟨"SealedFilesModel", "address", "(I)I"⟩ ⟨"SealedFilesModel", "address", "(I)I"⟩) ∈ zg := zg_in 577 rfl rfl
set_option maxRecDepth 20000 in
theorem zw_542 : (Cond.methodLink "SealedFilesModel" 45 ⟨"SealedFilesModel", "isKey", "(I)Z"⟩) ∈ zg := zg_in 579 rfl rfl
set_option maxRecDepth 20000 in
theorem zw_544 : (Cond.instanceMethod ⟨"SealedFilesModel", "isKey", "(I)Z"⟩) ∈ zg := zg_in 581 rfl rfl
set_option maxRecDepth 20000 in
theorem zw_546 : (Cond.methodLink "SealedFilesModel" 49 ⟨"SealedFilesModel", "power", "(II)I"⟩) ∈ zg := zg_in 583 rfl rfl
set_option maxRecDepth 20000 in
theorem zw_547 : (Cond.static ⟨"SealedFilesModel", "power", "(II)I"⟩) ∈ zg := zg_in 584 rfl rfl
set_option maxRecDepth 20000 in
theorem zw_549 : (Cond.methodLink "SealedFilesLaw" 58 ⟨"SealedFilesModel", "put", "(I)Z"⟩) ∈ zg := zg_in 586 rfl rfl
set_option maxRecDepth 20000 in
theorem zw_550 : (Cond.instanceMethod ⟨"SealedFilesModel", "put", "(I)Z"⟩) ∈ zg := zg_in 587 rfl rfl
set_option maxRecDepth 20000 in
theorem zw_551 : (Cond.selects "SealedFilesModel" ⟨"SealedFilesModel", "put", "(I)Z"⟩ ⟨"SealedFilesModel", "put", "(I)Z"⟩) ∈ zg := zg_in 588 rfl rfl
set_option maxRecDepth 20000 in
theorem zw_553 : (Cond.methodLink "SealedFilesLaw" 62 ⟨"SealedFilesModel", "clear", "()I"⟩) ∈ zg := zg_in 590 rfl rfl
set_option maxRecDepth 20000 in
theorem zw_554 : (Cond.instanceMethod ⟨"SealedFilesModel", "clear", "()I"⟩) ∈ zg := zg_in 591 rfl rfl
set_option maxRecDepth 20000 in
theorem zw_555 : (Cond.selects "SealedFilesModel" ⟨"SealedFilesModel", "clear", "()I"⟩ ⟨"SealedFilesModel", "clear", "()I"⟩) ∈ zg := zg_in 592 rfl rfl
set_option maxRecDepth 20000 in
theorem zw_557 : (Cond.methodLink "SealedFilesLaw" 76 ⟨"SealedFilesModel", "read", "(I)I"⟩) ∈ zg := zg_in 594 rfl rfl
set_option maxRecDepth 20000 in
theorem zw_558 : (Cond.instanceMethod ⟨"SealedFilesModel", "read", "(I)I"⟩) ∈ zg := zg_in 595 rfl rfl
set_option maxRecDepth 20000 in
theorem zw_559 : (Cond.selects "SealedFilesModel" ⟨"SealedFilesModel", "read", "(I)I"⟩ ⟨"SealedFilesModel", "read", "(I)I"⟩) ∈ zg := zg_in 596 rfl rfl
set_option maxRecDepth 20000 in
theorem zw_561 : (Cond.methodLink "SealedFilesLaw" 66 ⟨"SealedFilesModel", "seal", "(III)I"⟩) ∈ zg := zg_in 598 rfl rfl
set_option maxRecDepth 20000 in
theorem zw_562 : (Cond.instanceMethod ⟨"SealedFilesModel", "seal", "(III)I"⟩) ∈ zg := zg_in 599 rfl rfl
set_option maxRecDepth 20000 in
theorem zw_563 : (Cond.selects "SealedFilesModel" ⟨"SealedFilesModel", "seal", "(III)I"⟩ ⟨"SealedFilesModel", "seal", "(III)I"⟩) ∈ zg := zg_in 600 rfl rfl
set_option maxRecDepth 20000 in
theorem zw_565 : (Cond.methodLink "SealedFilesModel" 59 ⟨"SealedFilesModel", "add", "(I)V"⟩) ∈ zg := zg_in 602 rfl rfl
set_option maxRecDepth 20000 in
theorem zw_567 : (Cond.instanceMethod ⟨"SealedFilesModel", "add", "(I)V"⟩) ∈ zg := zg_in 604 rfl rfl
set_option maxRecDepth 20000 in
theorem zw_569 : (Cond.methodLink "SealedFilesModel" 73 ⟨"SealedFilesModel", "entry", "(III)V"⟩) ∈ zg := zg_in 606 rfl rfl
set_option maxRecDepth 20000 in
theorem zw_571 : (Cond.instanceMethod ⟨"SealedFilesModel", "entry", "(III)V"⟩) ∈ zg := zg_in 608 rfl rfl
set_option maxRecDepth 20000 in
theorem zw_573 : (Cond.methodLink "SealedFilesModel" 63 ⟨"SealedFilesModel", "word", "(III)I"⟩) ∈ zg := zg_in 610 rfl rfl
set_option maxRecDepth 20000 in
theorem zw_574 : (Cond.static ⟨"SealedFilesModel", "word", "(III)I"⟩) ∈ zg := zg_in 611 rfl rfl
set_option maxRecDepth 20000 in
theorem zw_576 : (Cond.methodLink "SealedFilesModel" 32 ⟨"SealedFilesModel", "mix", "(I)I"⟩) ∈ zg := zg_in 613 rfl rfl
set_option maxRecDepth 20000 in
theorem zw_577 : (Cond.static ⟨"SealedFilesModel", "mix", "(I)I"⟩) ∈ zg := zg_in 614 rfl rfl
set_option maxRecDepth 20000 in
theorem zw_579 : (Cond.constant "SealedFilesModel" 30 2146121005) ∈ zg := zg_in 616 rfl rfl
set_option maxRecDepth 20000 in
theorem zw_580 : (Cond.constant "SealedFilesModel" 31 2073254073) ∈ zg := zg_in 617 rfl rfl
set_option maxRecDepth 20000 in
theorem zw_581 : (Cond.methodLink "SealedFilesModel" 67 ⟨"SealedFilesModel", "addTwo", "(I)V"⟩) ∈ zg := zg_in 618 rfl rfl
set_option maxRecDepth 20000 in
theorem zw_583 : (Cond.instanceMethod ⟨"SealedFilesModel", "addTwo", "(I)V"⟩) ∈ zg := zg_in 620 rfl rfl
set_option maxRecDepth 20000 in
theorem zw_585 : (Cond.methodLink "SealedFilesModel" 70 ⟨"SealedFilesModel", "sign", "(III)I"⟩) ∈ zg := zg_in 622 rfl rfl
set_option maxRecDepth 20000 in
theorem zw_587 : (Cond.instanceMethod ⟨"SealedFilesModel", "sign", "(III)I"⟩) ∈ zg := zg_in 624 rfl rfl
set_option maxRecDepth 20000 in
theorem zw_589 : (Cond.constant "SealedFilesModel" 36 65520) ∈ zg := zg_in 626 rfl rfl
set_option maxRecDepth 20000 in
theorem zw_590 : (Cond.constantLong "SealedFilesModel" 37 65521) ∈ zg := zg_in 627 rfl rfl
set_option maxRecDepth 20000 in
theorem zw_591 : (Cond.methodLink "SealedFilesLaw" 69 ⟨"SealedFilesModel", "open", "(I)I"⟩) ∈ zg := zg_in 628 rfl rfl
set_option maxRecDepth 20000 in
theorem zw_592 : (Cond.instanceMethod ⟨"SealedFilesModel", "open", "(I)I"⟩) ∈ zg := zg_in 629 rfl rfl
set_option maxRecDepth 20000 in
theorem zw_593 : (Cond.selects "SealedFilesModel" ⟨"SealedFilesModel", "open", "(I)I"⟩ ⟨"SealedFilesModel", "open", "(I)I"⟩) ∈ zg := zg_in 630 rfl rfl
set_option maxRecDepth 20000 in
theorem zw_595 : (Cond.methodLink "SealedFilesModel" 86 ⟨"SealedFilesModel", "entryOf", "(I)I"⟩) ∈ zg := zg_in 632 rfl rfl
set_option maxRecDepth 20000 in
theorem zw_597 : (Cond.instanceMethod ⟨"SealedFilesModel", "entryOf", "(I)I"⟩) ∈ zg := zg_in 634 rfl rfl
set_option maxRecDepth 20000 in
theorem zw_599 : (Cond.methodLink "SealedFilesModel" 77 ⟨"SealedFilesModel", "two", "(I)I"⟩) ∈ zg := zg_in 636 rfl rfl
set_option maxRecDepth 20000 in
theorem zw_601 : (Cond.instanceMethod ⟨"SealedFilesModel", "two", "(I)I"⟩) ∈ zg := zg_in 638 rfl rfl
set_option maxRecDepth 20000 in
theorem zw_603 : (Cond.methodLink "SealedFilesModel" 89 ⟨"SealedFilesModel", "piece", "(IIIIZ)I"⟩) ∈ zg := zg_in 640 rfl rfl
set_option maxRecDepth 20000 in
theorem zw_605 : (Cond.instanceMethod ⟨"SealedFilesModel", "piece", "(IIIIZ)I"⟩) ∈ zg := zg_in 642 rfl rfl
set_option maxRecDepth 20000 in
theorem zw_607 : (Cond.methodLink "SealedFilesModel" 93 ⟨"SealedFilesModel", "uncover", "(IIII)V"⟩) ∈ zg := zg_in 644 rfl rfl
set_option maxRecDepth 20000 in
theorem zw_609 : (Cond.instanceMethod ⟨"SealedFilesModel", "uncover", "(IIII)V"⟩) ∈ zg := zg_in 646 rfl rfl
set_option maxRecDepth 20000 in
theorem zw_611 : (Cond.methodLink "SealedFilesLaw" 73 ⟨"SealedFilesModel", "pieces", "()I"⟩) ∈ zg := zg_in 648 rfl rfl
set_option maxRecDepth 20000 in
theorem zw_612 : (Cond.instanceMethod ⟨"SealedFilesModel", "pieces", "()I"⟩) ∈ zg := zg_in 649 rfl rfl
set_option maxRecDepth 20000 in
theorem zw_613 : (Cond.selects "SealedFilesModel" ⟨"SealedFilesModel", "pieces", "()I"⟩ ⟨"SealedFilesModel", "pieces", "()I"⟩) ∈ zg := zg_in 650 rfl rfl
set_option maxRecDepth 20000 in
theorem zw_615 : (Cond.methodLink "SealedFilesLaw" 80 ⟨"SealedFilesModel", "count", "(I)I"⟩) ∈ zg := zg_in 652 rfl rfl
set_option maxRecDepth 20000 in
theorem zw_616 : (Cond.instanceMethod ⟨"SealedFilesModel", "count", "(I)I"⟩) ∈ zg := zg_in 653 rfl rfl
set_option maxRecDepth 20000 in
theorem zw_617 : (Cond.selects "SealedFilesModel" ⟨"SealedFilesModel", "count", "(I)I"⟩ ⟨"SealedFilesModel", "count", "(I)I"⟩) ∈ zg := zg_in 654 rfl rfl
set_option maxRecDepth 20000 in
theorem zw_619 : (Cond.methodLink "SealedFilesLaw" 84 ⟨"SealedFilesModel", "at", "(I)I"⟩) ∈ zg := zg_in 656 rfl rfl
set_option maxRecDepth 20000 in
theorem zw_620 : (Cond.instanceMethod ⟨"SealedFilesModel", "at", "(I)I"⟩) ∈ zg := zg_in 657 rfl rfl
set_option maxRecDepth 20000 in
theorem zw_621 : (Cond.selects "SealedFilesModel" ⟨"SealedFilesModel", "at", "(I)I"⟩ ⟨"SealedFilesModel", "at", "(I)I"⟩) ∈ zg := zg_in 658 rfl rfl
set_option maxRecDepth 20000 in
theorem zw_623 : (Cond.methodLink "SealedFilesLaw" 88 ⟨"SealedFilesModel", "alter", "(II)I"⟩) ∈ zg := zg_in 660 rfl rfl
set_option maxRecDepth 20000 in
theorem zw_624 : (Cond.instanceMethod ⟨"SealedFilesModel", "alter", "(II)I"⟩) ∈ zg := zg_in 661 rfl rfl
set_option maxRecDepth 20000 in
theorem zw_625 : (Cond.selects "SealedFilesModel" ⟨"SealedFilesModel", "alter", "(II)I"⟩ ⟨"SealedFilesModel", "alter", "(II)I"⟩) ∈ zg := zg_in 662 rfl rfl
set_option maxRecDepth 20000 in
theorem zw_627 : (Cond.methodLink "SealedFilesLaw" 92 ⟨"SealedFilesModel", "cut", "(I)Z"⟩) ∈ zg := zg_in 664 rfl rfl
set_option maxRecDepth 20000 in
theorem zw_628 : (Cond.instanceMethod ⟨"SealedFilesModel", "cut", "(I)Z"⟩) ∈ zg := zg_in 665 rfl rfl
set_option maxRecDepth 20000 in
theorem zw_629 : (Cond.selects "SealedFilesModel" ⟨"SealedFilesModel", "cut", "(I)Z"⟩ ⟨"SealedFilesModel", "cut", "(I)Z"⟩) ∈ zg := zg_in 666 rfl rfl
set_option maxRecDepth 20000 in
theorem zw_631 : (Cond.methodLink "SealedFilesLaw" 96 ⟨"SealedFilesModel", "print", "(I)I"⟩) ∈ zg := zg_in 668 rfl rfl
set_option maxRecDepth 20000 in
theorem zw_632 : (Cond.instanceMethod ⟨"SealedFilesModel", "print", "(I)I"⟩) ∈ zg := zg_in 669 rfl rfl
set_option maxRecDepth 20000 in
theorem zw_633 : (Cond.selects "SealedFilesModel" ⟨"SealedFilesModel", "print", "(I)I"⟩ ⟨"SealedFilesModel", "print", "(I)I"⟩) ∈ zg := zg_in 670 rfl rfl
set_option maxRecDepth 20000 in
theorem zw_635 : (Cond.methodLink "SealedFilesModel" 97 ⟨"SealedFilesModel", "bit", "(I)I"⟩) ∈ zg := zg_in 672 rfl rfl
set_option maxRecDepth 20000 in
theorem zw_637 : (Cond.instanceMethod ⟨"SealedFilesModel", "bit", "(I)I"⟩) ∈ zg := zg_in 674 rfl rfl
set_option maxRecDepth 20000 in
theorem zw_639 : (Cond.methodLink "SealedFilesLaw" 101 ⟨"SealedFilesModel", "write", "(C)Z"⟩) ∈ zg := zg_in 676 rfl rfl
set_option maxRecDepth 20000 in
theorem zw_640 : (Cond.instanceMethod ⟨"SealedFilesModel", "write", "(C)Z"⟩) ∈ zg := zg_in 677 rfl rfl
set_option maxRecDepth 20000 in
theorem zw_641 : (Cond.selects "SealedFilesModel" ⟨"SealedFilesModel", "write", "(C)Z"⟩ ⟨"SealedFilesModel", "write", "(C)Z"⟩) ∈ zg := zg_in 678 rfl rfl
set_option maxRecDepth 20000 in
theorem zw_643 : (Cond.methodLink "SealedFilesModel" 103 ⟨"SealedFilesModel", "sixOf", "(C)I"⟩) ∈ zg := zg_in 680 rfl rfl
set_option maxRecDepth 20000 in
theorem zw_644 : (Cond.static ⟨"SealedFilesModel", "sixOf", "(C)I"⟩) ∈ zg := zg_in 681 rfl rfl
set_option maxRecDepth 20000 in
theorem zw_646 : (Cond.methodLink "SealedFilesLaw" 105 ⟨"SealedFilesModel", "load", "()I"⟩) ∈ zg := zg_in 683 rfl rfl
set_option maxRecDepth 20000 in
theorem zw_647 : (Cond.instanceMethod ⟨"SealedFilesModel", "load", "()I"⟩) ∈ zg := zg_in 684 rfl rfl
set_option maxRecDepth 20000 in
theorem zw_648 : (Cond.selects "SealedFilesModel" ⟨"SealedFilesModel", "load", "()I"⟩ ⟨"SealedFilesModel", "load", "()I"⟩) ∈ zg := zg_in 685 rfl rfl
set_option maxRecDepth 20000 in
theorem zw_650 : (Cond.arrayClass .long) ∈ zg := zg_in 687 rfl rfl
set_option maxRecDepth 20000 in
theorem zw_652 : (Cond.fieldLink "java/lang/String" 15 "java/lang/String" "coder" "B") ∈ zg := zg_in 689 rfl rfl
set_option maxRecDepth 20000 in
theorem zw_653 : (Cond.fieldLink "java/lang/String" 9 "java/lang/String" "value" "[B") ∈ zg := zg_in 690 rfl rfl
theorem zp_0 : (Cond.selects "SealedFiles$Row" ⟨"SealedFiles$Row", "item", "(I)I"⟩ ⟨"SealedFiles$Row", "item", "(I)I"⟩) ∈ zg := zg_in 0 rfl rfl
theorem zp_1 : (Cond.selects "SealedFiles$Row" ⟨"SealedFiles$Row", "has", "(I)Z"⟩ ⟨"SealedFiles$Row", "has", "(I)Z"⟩) ∈ zg := zg_in 1 rfl rfl
theorem zp_2 : (Cond.selects "SealedFiles$Row" ⟨"SealedFiles$Row", "append", "(I)Z"⟩ ⟨"SealedFiles$Row", "append", "(I)Z"⟩) ∈ zg := zg_in 2 rfl rfl
theorem zp_3 : (Cond.selects "SealedFiles$Row" ⟨"SealedFiles$Row", "size", "()I"⟩ ⟨"SealedFiles$Row", "size", "()I"⟩) ∈ zg := zg_in 3 rfl rfl
theorem zp_4 : (Cond.selects "SealedFiles$Row" ⟨"SealedFiles$Row", "shorten", "(I)Z"⟩ ⟨"SealedFiles$Row", "shorten", "(I)Z"⟩) ∈ zg := zg_in 4 rfl rfl
theorem zp_5 : (Cond.selects "java/lang/Throwable" ⟨"java/lang/Throwable", "fillInStackTrace", "(I)Ljava/lang/Throwable;"⟩ ⟨"java/lang/Throwable", "fillInStackTrace", "(I)Ljava/lang/Throwable;"⟩) ∈ zg := zg_in 5 rfl rfl
theorem zp_6 : (Cond.selects "SealedFiles" ⟨"SealedFiles", "areReceivers", "(I)Z"⟩ ⟨"SealedFiles", "areReceivers", "(I)Z"⟩) ∈ zg := zg_in 6 rfl rfl
theorem zp_7 : (Cond.selects "SealedFiles" ⟨"SealedFiles", "appendEntry", "(III)V"⟩ ⟨"SealedFiles", "appendEntry", "(III)V"⟩) ∈ zg := zg_in 7 rfl rfl
theorem zp_8 : (Cond.selects "SealedFiles$Row" ⟨"SealedFiles$Row", "appendPair", "(I)V"⟩ ⟨"SealedFiles$Row", "appendPair", "(I)V"⟩) ∈ zg := zg_in 8 rfl rfl
theorem zp_9 : (Cond.selects "SealedFiles" ⟨"SealedFiles", "entrySign", "(III)I"⟩ ⟨"SealedFiles", "entrySign", "(III)I"⟩) ∈ zg := zg_in 9 rfl rfl
theorem zp_10 : (Cond.selects "SealedFiles$Row" ⟨"SealedFiles$Row", "sign", "(III)I"⟩ ⟨"SealedFiles$Row", "sign", "(III)I"⟩) ∈ zg := zg_in 10 rfl rfl
theorem zp_11 : (Cond.selects "SealedFiles" ⟨"SealedFiles", "headSign", "(II)I"⟩ ⟨"SealedFiles", "headSign", "(II)I"⟩) ∈ zg := zg_in 11 rfl rfl
theorem zp_12 : (Cond.selects "SealedFiles" ⟨"SealedFiles", "appendPieces", "(I)V"⟩ ⟨"SealedFiles", "appendPieces", "(I)V"⟩) ∈ zg := zg_in 12 rfl rfl
theorem zp_13 : (Cond.selects "SealedFiles" ⟨"SealedFiles", "pieceSign", "(IIIIZ)I"⟩ ⟨"SealedFiles", "pieceSign", "(IIIIZ)I"⟩) ∈ zg := zg_in 13 rfl rfl
theorem zp_14 : (Cond.selects "SealedFiles" ⟨"SealedFiles", "hasShape", "()Z"⟩ ⟨"SealedFiles", "hasShape", "()Z"⟩) ∈ zg := zg_in 14 rfl rfl
theorem zp_15 : (Cond.selects "SealedFiles" ⟨"SealedFiles", "entriesEnd", "()I"⟩ ⟨"SealedFiles", "entriesEnd", "()I"⟩) ∈ zg := zg_in 15 rfl rfl
theorem zp_16 : (Cond.selects "SealedFiles" ⟨"SealedFiles", "entryFor", "(I)I"⟩ ⟨"SealedFiles", "entryFor", "(I)I"⟩) ∈ zg := zg_in 16 rfl rfl
theorem zp_17 : (Cond.selects "SealedFiles" ⟨"SealedFiles", "agreed", "(II)I"⟩ ⟨"SealedFiles", "agreed", "(II)I"⟩) ∈ zg := zg_in 17 rfl rfl
theorem zp_18 : (Cond.selects "SealedFiles$Row" ⟨"SealedFiles$Row", "pair", "(I)I"⟩ ⟨"SealedFiles$Row", "pair", "(I)I"⟩) ∈ zg := zg_in 18 rfl rfl
theorem zp_19 : (Cond.selects "SealedFiles" ⟨"SealedFiles", "unwrapped", "(II)I"⟩ ⟨"SealedFiles", "unwrapped", "(II)I"⟩) ∈ zg := zg_in 19 rfl rfl
theorem zp_20 : (Cond.selects "SealedFiles" ⟨"SealedFiles", "takePieces", "(II)I"⟩ ⟨"SealedFiles", "takePieces", "(II)I"⟩) ∈ zg := zg_in 20 rfl rfl
theorem zp_21 : (Cond.selects "SealedFiles" ⟨"SealedFiles", "uncover", "(IIII)V"⟩ ⟨"SealedFiles", "uncover", "(IIII)V"⟩) ∈ zg := zg_in 21 rfl rfl
theorem zp_22 : (Cond.selects "SealedFiles$Row" ⟨"SealedFiles$Row", "replace", "(II)V"⟩ ⟨"SealedFiles$Row", "replace", "(II)V"⟩) ∈ zg := zg_in 22 rfl rfl
theorem zp_23 : (Cond.selects "SealedFiles" ⟨"SealedFiles", "draftIsPrintedForm", "()Z"⟩ ⟨"SealedFiles", "draftIsPrintedForm", "()Z"⟩) ∈ zg := zg_in 23 rfl rfl
theorem zp_24 : (Cond.selects "SealedFiles" ⟨"SealedFiles", "draftBytes", "()I"⟩ ⟨"SealedFiles", "draftBytes", "()I"⟩) ∈ zg := zg_in 24 rfl rfl
theorem zp_25 : (Cond.selects "SealedFiles" ⟨"SealedFiles", "takeDraft", "()V"⟩ ⟨"SealedFiles", "takeDraft", "()V"⟩) ∈ zg := zg_in 25 rfl rfl
theorem zp_26 : (Cond.selects "SealedFilesModel" ⟨"SealedFilesModel", "fails", "(I)I"⟩ ⟨"SealedFilesModel", "fails", "(I)I"⟩) ∈ zg := zg_in 26 rfl rfl
theorem zp_27 : (Cond.selects "SealedFilesModel" ⟨"SealedFilesModel", "isKey", "(I)Z"⟩ ⟨"SealedFilesModel", "isKey", "(I)Z"⟩) ∈ zg := zg_in 27 rfl rfl
theorem zp_28 : (Cond.selects "SealedFilesModel" ⟨"SealedFilesModel", "add", "(I)V"⟩ ⟨"SealedFilesModel", "add", "(I)V"⟩) ∈ zg := zg_in 28 rfl rfl
theorem zp_29 : (Cond.selects "SealedFilesModel" ⟨"SealedFilesModel", "entry", "(III)V"⟩ ⟨"SealedFilesModel", "entry", "(III)V"⟩) ∈ zg := zg_in 29 rfl rfl
theorem zp_30 : (Cond.selects "SealedFilesModel" ⟨"SealedFilesModel", "addTwo", "(I)V"⟩ ⟨"SealedFilesModel", "addTwo", "(I)V"⟩) ∈ zg := zg_in 30 rfl rfl
theorem zp_31 : (Cond.selects "SealedFilesModel" ⟨"SealedFilesModel", "sign", "(III)I"⟩ ⟨"SealedFilesModel", "sign", "(III)I"⟩) ∈ zg := zg_in 31 rfl rfl
theorem zp_32 : (Cond.selects "SealedFilesModel" ⟨"SealedFilesModel", "entryOf", "(I)I"⟩ ⟨"SealedFilesModel", "entryOf", "(I)I"⟩) ∈ zg := zg_in 32 rfl rfl
theorem zp_33 : (Cond.selects "SealedFilesModel" ⟨"SealedFilesModel", "two", "(I)I"⟩ ⟨"SealedFilesModel", "two", "(I)I"⟩) ∈ zg := zg_in 33 rfl rfl
theorem zp_34 : (Cond.selects "SealedFilesModel" ⟨"SealedFilesModel", "piece", "(IIIIZ)I"⟩ ⟨"SealedFilesModel", "piece", "(IIIIZ)I"⟩) ∈ zg := zg_in 34 rfl rfl
theorem zp_35 : (Cond.selects "SealedFilesModel" ⟨"SealedFilesModel", "uncover", "(IIII)V"⟩ ⟨"SealedFilesModel", "uncover", "(IIII)V"⟩) ∈ zg := zg_in 35 rfl rfl
theorem zp_36 : (Cond.selects "SealedFilesModel" ⟨"SealedFilesModel", "bit", "(I)I"⟩ ⟨"SealedFilesModel", "bit", "(I)I"⟩) ∈ zg := zg_in 36 rfl rfl
/-- the links inside the nest -/
def zNl : List (Nat × MethodName) := [(11, ⟨"SealedFiles$Row", "<init>", "(I)V"⟩), (60, ⟨"SealedFiles$Row", "item", "(I)I"⟩), (41, ⟨"SealedFiles$Row", "append", "(I)Z"⟩), (56, ⟨"SealedFiles$Row", "size", "()I"⟩), (64, ⟨"SealedFiles$Row", "shorten", "(I)Z"⟩), (94, ⟨"SealedFiles$Row", "has", "(I)Z"⟩), (50, ⟨"SealedFiles$Numbers", "power", "(II)I"⟩), (148, ⟨"SealedFiles$Numbers", "word", "(III)I"⟩), (88, ⟨"SealedFiles$Row", "appendPair", "(I)V"⟩), (155, ⟨"SealedFiles$Row", "sign", "(III)I"⟩), (112, ⟨"SealedFiles$Row", "pair", "(I)I"⟩), (125, ⟨"SealedFiles$Row", "replace", "(II)V"⟩)]
def zN : List Cond := zNl.map fun q => .methodLinkNest "SealedFiles" q.1 q.2 "SealedFiles"
end
section
theorem d_NU_mix_0 : decode b_NU_mix 0 = .ok (.iload_n 0, 1) := by decide +kernel
theorem d_NU_mix_1 : decode b_NU_mix 1 = .ok (.iload_n 0, 1) := by decide +kernel
theorem d_NU_mix_2 : decode b_NU_mix 2 = .ok (.bipush 16, 2) := by decide +kernel
theorem d_NU_mix_4 : decode b_NU_mix 4 = .ok (.iushr, 1) := by decide +kernel
theorem d_NU_mix_5 : decode b_NU_mix 5 = .ok (.ixor, 1) := by decide +kernel
theorem d_NU_mix_6 : decode b_NU_mix 6 = .ok (.ldc 9, 2) := by decide +kernel
theorem d_NU_mix_8 : decode b_NU_mix 8 = .ok (.imul, 1) := by decide +kernel
theorem d_NU_mix_9 : decode b_NU_mix 9 = .ok (.istore_n 1, 1) := by decide +kernel
theorem d_NU_mix_10 : decode b_NU_mix 10 = .ok (.iload_n 1, 1) := by decide +kernel
theorem d_NU_mix_11 : decode b_NU_mix 11 = .ok (.iload_n 1, 1) := by decide +kernel
theorem d_NU_mix_12 : decode b_NU_mix 12 = .ok (.bipush 15, 2) := by decide +kernel
theorem d_NU_mix_14 : decode b_NU_mix 14 = .ok (.iushr, 1) := by decide +kernel
theorem d_NU_mix_15 : decode b_NU_mix 15 = .ok (.ixor, 1) := by decide +kernel
theorem d_NU_mix_16 : decode b_NU_mix 16 = .ok (.ldc 10, 2) := by decide +kernel
theorem d_NU_mix_18 : decode b_NU_mix 18 = .ok (.imul, 1) := by decide +kernel
theorem d_NU_mix_19 : decode b_NU_mix 19 = .ok (.istore_n 2, 1) := by decide +kernel
theorem d_NU_mix_20 : decode b_NU_mix 20 = .ok (.iload_n 2, 1) := by decide +kernel
theorem d_NU_mix_21 : decode b_NU_mix 21 = .ok (.iload_n 2, 1) := by decide +kernel
theorem d_NU_mix_22 : decode b_NU_mix 22 = .ok (.bipush 16, 2) := by decide +kernel
theorem d_NU_mix_24 : decode b_NU_mix 24 = .ok (.iushr, 1) := by decide +kernel
theorem d_NU_mix_25 : decode b_NU_mix 25 = .ok (.ixor, 1) := by decide +kernel
theorem d_NU_mix_26 : decode b_NU_mix 26 = .ok (.ireturn, 1) := by decide +kernel
theorem d_NU_power_0 : decode b_NU_power 0 = .ok (.iload_n 0, 1) := by decide +kernel
theorem d_NU_power_1 : decode b_NU_power 1 = .ok (.sipush 32749, 3) := by decide +kernel
theorem d_NU_power_4 : decode b_NU_power 4 = .ok (.irem, 1) := by decide +kernel
theorem d_NU_power_5 : decode b_NU_power 5 = .ok (.istore_n 2, 1) := by decide +kernel
theorem d_NU_power_6 : decode b_NU_power 6 = .ok (.iconst 1, 1) := by decide +kernel
theorem d_NU_power_7 : decode b_NU_power 7 = .ok (.istore_n 3, 1) := by decide +kernel
theorem d_NU_power_8 : decode b_NU_power 8 = .ok (.iconst 0, 1) := by decide +kernel
theorem d_NU_power_9 : decode b_NU_power 9 = .ok (.istore 4, 2) := by decide +kernel
theorem d_NU_power_11 : decode b_NU_power 11 = .ok (.iload 4, 2) := by decide +kernel
theorem d_NU_power_13 : decode b_NU_power 13 = .ok (.bipush 15, 2) := by decide +kernel
theorem d_NU_power_15 : decode b_NU_power 15 = .ok (.if_icmp .ge 35, 3) := by decide +kernel
theorem d_NU_power_18 : decode b_NU_power 18 = .ok (.iload_n 1, 1) := by decide +kernel
theorem d_NU_power_19 : decode b_NU_power 19 = .ok (.iload 4, 2) := by decide +kernel
theorem d_NU_power_21 : decode b_NU_power 21 = .ok (.iushr, 1) := by decide +kernel
theorem d_NU_power_22 : decode b_NU_power 22 = .ok (.iconst 1, 1) := by decide +kernel
theorem d_NU_power_23 : decode b_NU_power 23 = .ok (.iand, 1) := by decide +kernel
theorem d_NU_power_24 : decode b_NU_power 24 = .ok (.iconst 1, 1) := by decide +kernel
theorem d_NU_power_25 : decode b_NU_power 25 = .ok (.if_icmp .ne 11, 3) := by decide +kernel
theorem d_NU_power_28 : decode b_NU_power 28 = .ok (.iload_n 3, 1) := by decide +kernel
theorem d_NU_power_29 : decode b_NU_power 29 = .ok (.iload_n 2, 1) := by decide +kernel
theorem d_NU_power_30 : decode b_NU_power 30 = .ok (.imul, 1) := by decide +kernel
theorem d_NU_power_31 : decode b_NU_power 31 = .ok (.sipush 32749, 3) := by decide +kernel
theorem d_NU_power_34 : decode b_NU_power 34 = .ok (.irem, 1) := by decide +kernel
theorem d_NU_power_35 : decode b_NU_power 35 = .ok (.istore_n 3, 1) := by decide +kernel
theorem d_NU_power_36 : decode b_NU_power 36 = .ok (.iload_n 2, 1) := by decide +kernel
theorem d_NU_power_37 : decode b_NU_power 37 = .ok (.iload_n 2, 1) := by decide +kernel
theorem d_NU_power_38 : decode b_NU_power 38 = .ok (.imul, 1) := by decide +kernel
theorem d_NU_power_39 : decode b_NU_power 39 = .ok (.sipush 32749, 3) := by decide +kernel
theorem d_NU_power_42 : decode b_NU_power 42 = .ok (.irem, 1) := by decide +kernel
theorem d_NU_power_43 : decode b_NU_power 43 = .ok (.istore_n 2, 1) := by decide +kernel
theorem d_NU_power_44 : decode b_NU_power 44 = .ok (.iinc 4 1, 3) := by decide +kernel
theorem d_NU_power_47 : decode b_NU_power 47 = .ok (.goto (-36), 3) := by decide +kernel
theorem d_NU_power_50 : decode b_NU_power 50 = .ok (.iload_n 3, 1) := by decide +kernel
theorem d_NU_power_51 : decode b_NU_power 51 = .ok (.ireturn, 1) := by decide +kernel
theorem d_NU_word_0 : decode b_NU_word 0 = .ok (.iload_n 0, 1) := by decide +kernel
theorem d_NU_word_1 : decode b_NU_word 1 = .ok (.invokestatic 11, 3) := by decide +kernel
theorem d_NU_word_4 : decode b_NU_word 4 = .ok (.iload_n 1, 1) := by decide +kernel
theorem d_NU_word_5 : decode b_NU_word 5 = .ok (.iadd, 1) := by decide +kernel
theorem d_NU_word_6 : decode b_NU_word 6 = .ok (.invokestatic 11, 3) := by decide +kernel
theorem d_NU_word_9 : decode b_NU_word 9 = .ok (.iload_n 2, 1) := by decide +kernel
theorem d_NU_word_10 : decode b_NU_word 10 = .ok (.iadd, 1) := by decide +kernel
theorem d_NU_word_11 : decode b_NU_word 11 = .ok (.invokestatic 11, 3) := by decide +kernel
theorem d_NU_word_14 : decode b_NU_word 14 = .ok (.ireturn, 1) := by decide +kernel
theorem d_RW_append_0 : decode b_RW_append 0 = .ok (.aload_n 0, 1) := by decide +kernel
theorem d_RW_append_1 : decode b_RW_append 1 = .ok (.getfield 13, 3) := by decide +kernel
theorem d_RW_append_4 : decode b_RW_append 4 = .ok (.aload_n 0, 1) := by decide +kernel
theorem d_RW_append_5 : decode b_RW_append 5 = .ok (.getfield 7, 3) := by decide +kernel
theorem d_RW_append_8 : decode b_RW_append 8 = .ok (.arraylength, 1) := by decide +kernel
theorem d_RW_append_9 : decode b_RW_append 9 = .ok (.if_icmp .lt 5, 3) := by decide +kernel
theorem d_RW_append_12 : decode b_RW_append 12 = .ok (.iconst 0, 1) := by decide +kernel
theorem d_RW_append_13 : decode b_RW_append 13 = .ok (.ireturn, 1) := by decide +kernel
theorem d_RW_append_14 : decode b_RW_append 14 = .ok (.aload_n 0, 1) := by decide +kernel
theorem d_RW_append_15 : decode b_RW_append 15 = .ok (.getfield 7, 3) := by decide +kernel
theorem d_RW_append_18 : decode b_RW_append 18 = .ok (.aload_n 0, 1) := by decide +kernel
theorem d_RW_append_19 : decode b_RW_append 19 = .ok (.getfield 13, 3) := by decide +kernel
theorem d_RW_append_22 : decode b_RW_append 22 = .ok (.iload_n 1, 1) := by decide +kernel
theorem d_RW_append_23 : decode b_RW_append 23 = .ok (.iastore, 1) := by decide +kernel
theorem d_RW_append_24 : decode b_RW_append 24 = .ok (.aload_n 0, 1) := by decide +kernel
theorem d_RW_append_25 : decode b_RW_append 25 = .ok (.dup, 1) := by decide +kernel
theorem d_RW_append_26 : decode b_RW_append 26 = .ok (.getfield 13, 3) := by decide +kernel
theorem d_RW_append_29 : decode b_RW_append 29 = .ok (.iconst 1, 1) := by decide +kernel
theorem d_RW_append_30 : decode b_RW_append 30 = .ok (.iadd, 1) := by decide +kernel
theorem d_RW_append_31 : decode b_RW_append 31 = .ok (.putfield 13, 3) := by decide +kernel
theorem d_RW_append_34 : decode b_RW_append 34 = .ok (.iconst 1, 1) := by decide +kernel
theorem d_RW_append_35 : decode b_RW_append 35 = .ok (.ireturn, 1) := by decide +kernel
theorem d_RW_appendPair_0 : decode b_RW_appendPair 0 = .ok (.aload_n 0, 1) := by decide +kernel
theorem d_RW_appendPair_1 : decode b_RW_appendPair 1 = .ok (.iload_n 1, 1) := by decide +kernel
theorem d_RW_appendPair_2 : decode b_RW_appendPair 2 = .ok (.bipush 8, 2) := by decide +kernel
theorem d_RW_appendPair_4 : decode b_RW_appendPair 4 = .ok (.iushr, 1) := by decide +kernel
theorem d_RW_appendPair_5 : decode b_RW_appendPair 5 = .ok (.invokevirtual 21, 3) := by decide +kernel
theorem d_RW_appendPair_8 : decode b_RW_appendPair 8 = .ok (.pop, 1) := by decide +kernel
theorem d_RW_appendPair_9 : decode b_RW_appendPair 9 = .ok (.aload_n 0, 1) := by decide +kernel
theorem d_RW_appendPair_10 : decode b_RW_appendPair 10 = .ok (.iload_n 1, 1) := by decide +kernel
theorem d_RW_appendPair_11 : decode b_RW_appendPair 11 = .ok (.sipush 255, 3) := by decide +kernel
theorem d_RW_appendPair_14 : decode b_RW_appendPair 14 = .ok (.iand, 1) := by decide +kernel
theorem d_RW_appendPair_15 : decode b_RW_appendPair 15 = .ok (.invokevirtual 21, 3) := by decide +kernel
theorem d_RW_appendPair_18 : decode b_RW_appendPair 18 = .ok (.pop, 1) := by decide +kernel
theorem d_RW_appendPair_19 : decode b_RW_appendPair 19 = .ok (.return_, 1) := by decide +kernel
theorem d_RW_has_0 : decode b_RW_has 0 = .ok (.iload_n 1, 1) := by decide +kernel
theorem d_RW_has_1 : decode b_RW_has 1 = .ok (.ifCond .lt 15, 3) := by decide +kernel
theorem d_RW_has_4 : decode b_RW_has 4 = .ok (.iload_n 1, 1) := by decide +kernel
theorem d_RW_has_5 : decode b_RW_has 5 = .ok (.aload_n 0, 1) := by decide +kernel
theorem d_RW_has_6 : decode b_RW_has 6 = .ok (.getfield 13, 3) := by decide +kernel
theorem d_RW_has_9 : decode b_RW_has 9 = .ok (.if_icmp .ge 7, 3) := by decide +kernel
theorem d_RW_has_12 : decode b_RW_has 12 = .ok (.iconst 1, 1) := by decide +kernel
theorem d_RW_has_13 : decode b_RW_has 13 = .ok (.goto 4, 3) := by decide +kernel
theorem d_RW_has_16 : decode b_RW_has 16 = .ok (.iconst 0, 1) := by decide +kernel
theorem d_RW_has_17 : decode b_RW_has 17 = .ok (.ireturn, 1) := by decide +kernel
theorem d_RW_init_0 : decode b_RW_init 0 = .ok (.aload_n 0, 1) := by decide +kernel
theorem d_RW_init_1 : decode b_RW_init 1 = .ok (.invokespecial 1, 3) := by decide +kernel
theorem d_RW_init_4 : decode b_RW_init 4 = .ok (.aload_n 0, 1) := by decide +kernel
theorem d_RW_init_5 : decode b_RW_init 5 = .ok (.iload_n 1, 1) := by decide +kernel
theorem d_RW_init_6 : decode b_RW_init 6 = .ok (.newarray .int, 2) := by decide +kernel
theorem d_RW_init_8 : decode b_RW_init 8 = .ok (.putfield 7, 3) := by decide +kernel
theorem d_RW_init_11 : decode b_RW_init 11 = .ok (.aload_n 0, 1) := by decide +kernel
theorem d_RW_init_12 : decode b_RW_init 12 = .ok (.iconst 0, 1) := by decide +kernel
theorem d_RW_init_13 : decode b_RW_init 13 = .ok (.putfield 13, 3) := by decide +kernel
theorem d_RW_init_16 : decode b_RW_init 16 = .ok (.return_, 1) := by decide +kernel
theorem d_RW_item_0 : decode b_RW_item 0 = .ok (.aload_n 0, 1) := by decide +kernel
theorem d_RW_item_1 : decode b_RW_item 1 = .ok (.iload_n 1, 1) := by decide +kernel
theorem d_RW_item_2 : decode b_RW_item 2 = .ok (.invokevirtual 17, 3) := by decide +kernel
theorem d_RW_item_5 : decode b_RW_item 5 = .ok (.ifCond .eq 12, 3) := by decide +kernel
theorem d_RW_item_8 : decode b_RW_item 8 = .ok (.aload_n 0, 1) := by decide +kernel
theorem d_RW_item_9 : decode b_RW_item 9 = .ok (.getfield 7, 3) := by decide +kernel
theorem d_RW_item_12 : decode b_RW_item 12 = .ok (.iload_n 1, 1) := by decide +kernel
theorem d_RW_item_13 : decode b_RW_item 13 = .ok (.iaload, 1) := by decide +kernel
theorem d_RW_item_14 : decode b_RW_item 14 = .ok (.goto 4, 3) := by decide +kernel
theorem d_RW_item_17 : decode b_RW_item 17 = .ok (.iconst (-1), 1) := by decide +kernel
theorem d_RW_item_18 : decode b_RW_item 18 = .ok (.ireturn, 1) := by decide +kernel
theorem d_RW_pair_0 : decode b_RW_pair 0 = .ok (.aload_n 0, 1) := by decide +kernel
theorem d_RW_pair_1 : decode b_RW_pair 1 = .ok (.iload_n 1, 1) := by decide +kernel
theorem d_RW_pair_2 : decode b_RW_pair 2 = .ok (.invokevirtual 24, 3) := by decide +kernel
theorem d_RW_pair_5 : decode b_RW_pair 5 = .ok (.bipush 8, 2) := by decide +kernel
theorem d_RW_pair_7 : decode b_RW_pair 7 = .ok (.ishl, 1) := by decide +kernel
theorem d_RW_pair_8 : decode b_RW_pair 8 = .ok (.aload_n 0, 1) := by decide +kernel
theorem d_RW_pair_9 : decode b_RW_pair 9 = .ok (.iload_n 1, 1) := by decide +kernel
theorem d_RW_pair_10 : decode b_RW_pair 10 = .ok (.iconst 1, 1) := by decide +kernel
theorem d_RW_pair_11 : decode b_RW_pair 11 = .ok (.iadd, 1) := by decide +kernel
theorem d_RW_pair_12 : decode b_RW_pair 12 = .ok (.invokevirtual 24, 3) := by decide +kernel
theorem d_RW_pair_15 : decode b_RW_pair 15 = .ok (.ior, 1) := by decide +kernel
theorem d_RW_pair_16 : decode b_RW_pair 16 = .ok (.ireturn, 1) := by decide +kernel
theorem d_RW_replace_0 : decode b_RW_replace 0 = .ok (.aload_n 0, 1) := by decide +kernel
theorem d_RW_replace_1 : decode b_RW_replace 1 = .ok (.iload_n 1, 1) := by decide +kernel
theorem d_RW_replace_2 : decode b_RW_replace 2 = .ok (.invokevirtual 17, 3) := by decide +kernel
theorem d_RW_replace_5 : decode b_RW_replace 5 = .ok (.ifCond .eq 10, 3) := by decide +kernel
theorem d_RW_replace_8 : decode b_RW_replace 8 = .ok (.aload_n 0, 1) := by decide +kernel
theorem d_RW_replace_9 : decode b_RW_replace 9 = .ok (.getfield 7, 3) := by decide +kernel
theorem d_RW_replace_12 : decode b_RW_replace 12 = .ok (.iload_n 1, 1) := by decide +kernel
theorem d_RW_replace_13 : decode b_RW_replace 13 = .ok (.iload_n 2, 1) := by decide +kernel
theorem d_RW_replace_14 : decode b_RW_replace 14 = .ok (.iastore, 1) := by decide +kernel
theorem d_RW_replace_15 : decode b_RW_replace 15 = .ok (.return_, 1) := by decide +kernel
theorem d_RW_shorten_0 : decode b_RW_shorten 0 = .ok (.iload_n 1, 1) := by decide +kernel
theorem d_RW_shorten_1 : decode b_RW_shorten 1 = .ok (.ifCond .lt 11, 3) := by decide +kernel
theorem d_RW_shorten_4 : decode b_RW_shorten 4 = .ok (.iload_n 1, 1) := by decide +kernel
theorem d_RW_shorten_5 : decode b_RW_shorten 5 = .ok (.aload_n 0, 1) := by decide +kernel
theorem d_RW_shorten_6 : decode b_RW_shorten 6 = .ok (.getfield 13, 3) := by decide +kernel
theorem d_RW_shorten_9 : decode b_RW_shorten 9 = .ok (.if_icmp .lt 5, 3) := by decide +kernel
theorem d_RW_shorten_12 : decode b_RW_shorten 12 = .ok (.iconst 0, 1) := by decide +kernel
theorem d_RW_shorten_13 : decode b_RW_shorten 13 = .ok (.ireturn, 1) := by decide +kernel
theorem d_RW_shorten_14 : decode b_RW_shorten 14 = .ok (.aload_n 0, 1) := by decide +kernel
theorem d_RW_shorten_15 : decode b_RW_shorten 15 = .ok (.iload_n 1, 1) := by decide +kernel
theorem d_RW_shorten_16 : decode b_RW_shorten 16 = .ok (.putfield 13, 3) := by decide +kernel
theorem d_RW_shorten_19 : decode b_RW_shorten 19 = .ok (.iconst 1, 1) := by decide +kernel
theorem d_RW_shorten_20 : decode b_RW_shorten 20 = .ok (.ireturn, 1) := by decide +kernel
theorem d_RW_sign_0 : decode b_RW_sign 0 = .ok (.iconst 1, 1) := by decide +kernel
theorem d_RW_sign_1 : decode b_RW_sign 1 = .ok (.iload_n 3, 1) := by decide +kernel
theorem d_RW_sign_2 : decode b_RW_sign 2 = .ok (.bipush 8, 2) := by decide +kernel
theorem d_RW_sign_4 : decode b_RW_sign 4 = .ok (.iushr, 1) := by decide +kernel
theorem d_RW_sign_5 : decode b_RW_sign 5 = .ok (.ldc 28, 2) := by decide +kernel
theorem d_RW_sign_7 : decode b_RW_sign 7 = .ok (.irem, 1) := by decide +kernel
theorem d_RW_sign_8 : decode b_RW_sign 8 = .ok (.iadd, 1) := by decide +kernel
theorem d_RW_sign_9 : decode b_RW_sign 9 = .ok (.i2l, 1) := by decide +kernel
theorem d_RW_sign_10 : decode b_RW_sign 10 = .ok (.lstore 4, 2) := by decide +kernel
theorem d_RW_sign_12 : decode b_RW_sign 12 = .ok (.lconst 0, 1) := by decide +kernel
theorem d_RW_sign_13 : decode b_RW_sign 13 = .ok (.lstore 6, 2) := by decide +kernel
theorem d_RW_sign_15 : decode b_RW_sign 15 = .ok (.iload_n 1, 1) := by decide +kernel
theorem d_RW_sign_16 : decode b_RW_sign 16 = .ok (.istore 8, 2) := by decide +kernel
theorem d_RW_sign_18 : decode b_RW_sign 18 = .ok (.iload 8, 2) := by decide +kernel
theorem d_RW_sign_20 : decode b_RW_sign 20 = .ok (.iload_n 2, 1) := by decide +kernel
theorem d_RW_sign_21 : decode b_RW_sign 21 = .ok (.if_icmp .ge 30, 3) := by decide +kernel
theorem d_RW_sign_24 : decode b_RW_sign 24 = .ok (.lload 6, 2) := by decide +kernel
theorem d_RW_sign_26 : decode b_RW_sign 26 = .ok (.aload_n 0, 1) := by decide +kernel
theorem d_RW_sign_27 : decode b_RW_sign 27 = .ok (.iload 8, 2) := by decide +kernel
theorem d_RW_sign_29 : decode b_RW_sign 29 = .ok (.invokevirtual 24, 3) := by decide +kernel
theorem d_RW_sign_32 : decode b_RW_sign 32 = .ok (.i2l, 1) := by decide +kernel
theorem d_RW_sign_33 : decode b_RW_sign 33 = .ok (.ladd, 1) := by decide +kernel
theorem d_RW_sign_34 : decode b_RW_sign 34 = .ok (.lconst 1, 1) := by decide +kernel
theorem d_RW_sign_35 : decode b_RW_sign 35 = .ok (.ladd, 1) := by decide +kernel
theorem d_RW_sign_36 : decode b_RW_sign 36 = .ok (.lload 4, 2) := by decide +kernel
theorem d_RW_sign_38 : decode b_RW_sign 38 = .ok (.lmul, 1) := by decide +kernel
theorem d_RW_sign_39 : decode b_RW_sign 39 = .ok (.ldc2_w 29, 3) := by decide +kernel
theorem d_RW_sign_42 : decode b_RW_sign 42 = .ok (.lrem, 1) := by decide +kernel
theorem d_RW_sign_43 : decode b_RW_sign 43 = .ok (.lstore 6, 2) := by decide +kernel
theorem d_RW_sign_45 : decode b_RW_sign 45 = .ok (.iinc 8 1, 3) := by decide +kernel
theorem d_RW_sign_48 : decode b_RW_sign 48 = .ok (.goto (-30), 3) := by decide +kernel
theorem d_RW_sign_51 : decode b_RW_sign 51 = .ok (.lload 6, 2) := by decide +kernel
theorem d_RW_sign_53 : decode b_RW_sign 53 = .ok (.iload_n 3, 1) := by decide +kernel
theorem d_RW_sign_54 : decode b_RW_sign 54 = .ok (.sipush 255, 3) := by decide +kernel
theorem d_RW_sign_57 : decode b_RW_sign 57 = .ok (.iand, 1) := by decide +kernel
theorem d_RW_sign_58 : decode b_RW_sign 58 = .ok (.i2l, 1) := by decide +kernel
theorem d_RW_sign_59 : decode b_RW_sign 59 = .ok (.ladd, 1) := by decide +kernel
theorem d_RW_sign_60 : decode b_RW_sign 60 = .ok (.ldc2_w 29, 3) := by decide +kernel
theorem d_RW_sign_63 : decode b_RW_sign 63 = .ok (.lrem, 1) := by decide +kernel
theorem d_RW_sign_64 : decode b_RW_sign 64 = .ok (.l2i, 1) := by decide +kernel
theorem d_RW_sign_65 : decode b_RW_sign 65 = .ok (.ireturn, 1) := by decide +kernel
theorem d_RW_size_0 : decode b_RW_size 0 = .ok (.aload_n 0, 1) := by decide +kernel
theorem d_RW_size_1 : decode b_RW_size 1 = .ok (.getfield 13, 3) := by decide +kernel
theorem d_RW_size_4 : decode b_RW_size 4 = .ok (.ireturn, 1) := by decide +kernel
end
section
theorem d_SF_address_0 : decode b_SF_address 0 = .ok (.aload_n 0, 1) := by decide +kernel
theorem d_SF_address_1 : decode b_SF_address 1 = .ok (.getfield 18, 3) := by decide +kernel
theorem d_SF_address_4 : decode b_SF_address 4 = .ok (.iload_n 1, 1) := by decide +kernel
theorem d_SF_address_5 : decode b_SF_address 5 = .ok (.invokevirtual 60, 3) := by decide +kernel
theorem d_SF_address_8 : decode b_SF_address 8 = .ok (.ireturn, 1) := by decide +kernel
theorem d_SF_agreed_0 : decode b_SF_agreed 0 = .ok (.aload_n 0, 1) := by decide +kernel
theorem d_SF_agreed_1 : decode b_SF_agreed 1 = .ok (.getfield 24, 3) := by decide +kernel
theorem d_SF_agreed_4 : decode b_SF_agreed 4 = .ok (.iload_n 1, 1) := by decide +kernel
theorem d_SF_agreed_5 : decode b_SF_agreed 5 = .ok (.invokevirtual 112, 3) := by decide +kernel
theorem d_SF_agreed_8 : decode b_SF_agreed 8 = .ok (.aload_n 0, 1) := by decide +kernel
theorem d_SF_agreed_9 : decode b_SF_agreed 9 = .ok (.getfield 14, 3) := by decide +kernel
theorem d_SF_agreed_12 : decode b_SF_agreed 12 = .ok (.iload_n 2, 1) := by decide +kernel
theorem d_SF_agreed_13 : decode b_SF_agreed 13 = .ok (.invokevirtual 60, 3) := by decide +kernel
theorem d_SF_agreed_16 : decode b_SF_agreed 16 = .ok (.invokestatic 50, 3) := by decide +kernel
theorem d_SF_agreed_19 : decode b_SF_agreed 19 = .ok (.ireturn, 1) := by decide +kernel
theorem d_SF_alter_0 : decode b_SF_alter 0 = .ok (.aload_n 0, 1) := by decide +kernel
theorem d_SF_alter_1 : decode b_SF_alter 1 = .ok (.getfield 24, 3) := by decide +kernel
theorem d_SF_alter_4 : decode b_SF_alter 4 = .ok (.iload_n 1, 1) := by decide +kernel
theorem d_SF_alter_5 : decode b_SF_alter 5 = .ok (.invokevirtual 94, 3) := by decide +kernel
theorem d_SF_alter_8 : decode b_SF_alter 8 = .ok (.ifCond .ne 13, 3) := by decide +kernel
theorem d_SF_alter_11 : decode b_SF_alter 11 = .ok (.new 118, 3) := by decide +kernel
theorem d_SF_alter_14 : decode b_SF_alter 14 = .ok (.dup, 1) := by decide +kernel
theorem d_SF_alter_15 : decode b_SF_alter 15 = .ok (.ldc 123, 2) := by decide +kernel
theorem d_SF_alter_17 : decode b_SF_alter 17 = .ok (.invokespecial 122, 3) := by decide +kernel
theorem d_SF_alter_20 : decode b_SF_alter 20 = .ok (.athrow, 1) := by decide +kernel
theorem d_SF_alter_21 : decode b_SF_alter 21 = .ok (.aload_n 0, 1) := by decide +kernel
theorem d_SF_alter_22 : decode b_SF_alter 22 = .ok (.getfield 24, 3) := by decide +kernel
theorem d_SF_alter_25 : decode b_SF_alter 25 = .ok (.iload_n 1, 1) := by decide +kernel
theorem d_SF_alter_26 : decode b_SF_alter 26 = .ok (.aload_n 0, 1) := by decide +kernel
theorem d_SF_alter_27 : decode b_SF_alter 27 = .ok (.getfield 24, 3) := by decide +kernel
theorem d_SF_alter_30 : decode b_SF_alter 30 = .ok (.iload_n 1, 1) := by decide +kernel
theorem d_SF_alter_31 : decode b_SF_alter 31 = .ok (.invokevirtual 60, 3) := by decide +kernel
theorem d_SF_alter_34 : decode b_SF_alter 34 = .ok (.iload_n 2, 1) := by decide +kernel
theorem d_SF_alter_35 : decode b_SF_alter 35 = .ok (.sipush 255, 3) := by decide +kernel
theorem d_SF_alter_38 : decode b_SF_alter 38 = .ok (.iand, 1) := by decide +kernel
theorem d_SF_alter_39 : decode b_SF_alter 39 = .ok (.ixor, 1) := by decide +kernel
theorem d_SF_alter_40 : decode b_SF_alter 40 = .ok (.invokevirtual 125, 3) := by decide +kernel
theorem d_SF_alter_43 : decode b_SF_alter 43 = .ok (.aload_n 0, 1) := by decide +kernel
theorem d_SF_alter_44 : decode b_SF_alter 44 = .ok (.getfield 24, 3) := by decide +kernel
theorem d_SF_alter_47 : decode b_SF_alter 47 = .ok (.iload_n 1, 1) := by decide +kernel
theorem d_SF_alter_48 : decode b_SF_alter 48 = .ok (.invokevirtual 60, 3) := by decide +kernel
theorem d_SF_alter_51 : decode b_SF_alter 51 = .ok (.ireturn, 1) := by decide +kernel
theorem d_SF_appendEntry_0 : decode b_SF_appendEntry 0 = .ok (.aload_n 0, 1) := by decide +kernel
theorem d_SF_appendEntry_1 : decode b_SF_appendEntry 1 = .ok (.getfield 24, 3) := by decide +kernel
theorem d_SF_appendEntry_4 : decode b_SF_appendEntry 4 = .ok (.invokevirtual 56, 3) := by decide +kernel
theorem d_SF_appendEntry_7 : decode b_SF_appendEntry 7 = .ok (.istore 4, 2) := by decide +kernel
theorem d_SF_appendEntry_9 : decode b_SF_appendEntry 9 = .ok (.iload_n 1, 1) := by decide +kernel
theorem d_SF_appendEntry_10 : decode b_SF_appendEntry 10 = .ok (.iload_n 3, 1) := by decide +kernel
theorem d_SF_appendEntry_11 : decode b_SF_appendEntry 11 = .ok (.invokestatic 50, 3) := by decide +kernel
theorem d_SF_appendEntry_14 : decode b_SF_appendEntry 14 = .ok (.istore 5, 2) := by decide +kernel
theorem d_SF_appendEntry_16 : decode b_SF_appendEntry 16 = .ok (.iload_n 2, 1) := by decide +kernel
theorem d_SF_appendEntry_17 : decode b_SF_appendEntry 17 = .ok (.iload 5, 2) := by decide +kernel
theorem d_SF_appendEntry_19 : decode b_SF_appendEntry 19 = .ok (.iload_n 1, 1) := by decide +kernel
theorem d_SF_appendEntry_20 : decode b_SF_appendEntry 20 = .ok (.iconst 1, 1) := by decide +kernel
theorem d_SF_appendEntry_21 : decode b_SF_appendEntry 21 = .ok (.invokestatic 148, 3) := by decide +kernel
theorem d_SF_appendEntry_24 : decode b_SF_appendEntry 24 = .ok (.ixor, 1) := by decide +kernel
theorem d_SF_appendEntry_25 : decode b_SF_appendEntry 25 = .ok (.istore 6, 2) := by decide +kernel
theorem d_SF_appendEntry_27 : decode b_SF_appendEntry 27 = .ok (.aload_n 0, 1) := by decide +kernel
theorem d_SF_appendEntry_28 : decode b_SF_appendEntry 28 = .ok (.getfield 24, 3) := by decide +kernel
theorem d_SF_appendEntry_31 : decode b_SF_appendEntry 31 = .ok (.iconst 2, 1) := by decide +kernel
theorem d_SF_appendEntry_32 : decode b_SF_appendEntry 32 = .ok (.iload_n 3, 1) := by decide +kernel
theorem d_SF_appendEntry_33 : decode b_SF_appendEntry 33 = .ok (.invokestatic 50, 3) := by decide +kernel
theorem d_SF_appendEntry_36 : decode b_SF_appendEntry 36 = .ok (.invokevirtual 88, 3) := by decide +kernel
theorem d_SF_appendEntry_39 : decode b_SF_appendEntry 39 = .ok (.aload_n 0, 1) := by decide +kernel
theorem d_SF_appendEntry_40 : decode b_SF_appendEntry 40 = .ok (.getfield 24, 3) := by decide +kernel
theorem d_SF_appendEntry_43 : decode b_SF_appendEntry 43 = .ok (.iload 6, 2) := by decide +kernel
theorem d_SF_appendEntry_45 : decode b_SF_appendEntry 45 = .ok (.bipush 16, 2) := by decide +kernel
theorem d_SF_appendEntry_47 : decode b_SF_appendEntry 47 = .ok (.iushr, 1) := by decide +kernel
theorem d_SF_appendEntry_48 : decode b_SF_appendEntry 48 = .ok (.invokevirtual 88, 3) := by decide +kernel
theorem d_SF_appendEntry_51 : decode b_SF_appendEntry 51 = .ok (.aload_n 0, 1) := by decide +kernel
theorem d_SF_appendEntry_52 : decode b_SF_appendEntry 52 = .ok (.getfield 24, 3) := by decide +kernel
theorem d_SF_appendEntry_55 : decode b_SF_appendEntry 55 = .ok (.iload 6, 2) := by decide +kernel
theorem d_SF_appendEntry_57 : decode b_SF_appendEntry 57 = .ok (.ldc 151, 2) := by decide +kernel
theorem d_SF_appendEntry_59 : decode b_SF_appendEntry 59 = .ok (.iand, 1) := by decide +kernel
theorem d_SF_appendEntry_60 : decode b_SF_appendEntry 60 = .ok (.invokevirtual 88, 3) := by decide +kernel
theorem d_SF_appendEntry_63 : decode b_SF_appendEntry 63 = .ok (.aload_n 0, 1) := by decide +kernel
theorem d_SF_appendEntry_64 : decode b_SF_appendEntry 64 = .ok (.getfield 24, 3) := by decide +kernel
theorem d_SF_appendEntry_67 : decode b_SF_appendEntry 67 = .ok (.aload_n 0, 1) := by decide +kernel
theorem d_SF_appendEntry_68 : decode b_SF_appendEntry 68 = .ok (.iload 4, 2) := by decide +kernel
theorem d_SF_appendEntry_70 : decode b_SF_appendEntry 70 = .ok (.iload 5, 2) := by decide +kernel
theorem d_SF_appendEntry_72 : decode b_SF_appendEntry 72 = .ok (.iload_n 1, 1) := by decide +kernel
theorem d_SF_appendEntry_73 : decode b_SF_appendEntry 73 = .ok (.invokevirtual 152, 3) := by decide +kernel
theorem d_SF_appendEntry_76 : decode b_SF_appendEntry 76 = .ok (.invokevirtual 88, 3) := by decide +kernel
theorem d_SF_appendEntry_79 : decode b_SF_appendEntry 79 = .ok (.return_, 1) := by decide +kernel
theorem d_SF_appendPieces_0 : decode b_SF_appendPieces 0 = .ok (.aload_n 0, 1) := by decide +kernel
theorem d_SF_appendPieces_1 : decode b_SF_appendPieces 1 = .ok (.getfield 21, 3) := by decide +kernel
theorem d_SF_appendPieces_4 : decode b_SF_appendPieces 4 = .ok (.invokevirtual 56, 3) := by decide +kernel
theorem d_SF_appendPieces_7 : decode b_SF_appendPieces 7 = .ok (.iconst 1, 1) := by decide +kernel
theorem d_SF_appendPieces_8 : decode b_SF_appendPieces 8 = .ok (.isub, 1) := by decide +kernel
theorem d_SF_appendPieces_9 : decode b_SF_appendPieces 9 = .ok (.iconst 0, 1) := by decide +kernel
theorem d_SF_appendPieces_10 : decode b_SF_appendPieces 10 = .ok (.invokestatic 158, 3) := by decide +kernel
theorem d_SF_appendPieces_13 : decode b_SF_appendPieces 13 = .ok (.bipush 8, 2) := by decide +kernel
theorem d_SF_appendPieces_15 : decode b_SF_appendPieces 15 = .ok (.idiv, 1) := by decide +kernel
theorem d_SF_appendPieces_16 : decode b_SF_appendPieces 16 = .ok (.istore_n 2, 1) := by decide +kernel
theorem d_SF_appendPieces_17 : decode b_SF_appendPieces 17 = .ok (.iconst 0, 1) := by decide +kernel
theorem d_SF_appendPieces_18 : decode b_SF_appendPieces 18 = .ok (.istore_n 3, 1) := by decide +kernel
theorem d_SF_appendPieces_19 : decode b_SF_appendPieces 19 = .ok (.iload_n 3, 1) := by decide +kernel
theorem d_SF_appendPieces_20 : decode b_SF_appendPieces 20 = .ok (.iload_n 2, 1) := by decide +kernel
theorem d_SF_appendPieces_21 : decode b_SF_appendPieces 21 = .ok (.if_icmp .gt 116, 3) := by decide +kernel
theorem d_SF_appendPieces_24 : decode b_SF_appendPieces 24 = .ok (.iload_n 3, 1) := by decide +kernel
theorem d_SF_appendPieces_25 : decode b_SF_appendPieces 25 = .ok (.bipush 8, 2) := by decide +kernel
theorem d_SF_appendPieces_27 : decode b_SF_appendPieces 27 = .ok (.imul, 1) := by decide +kernel
theorem d_SF_appendPieces_28 : decode b_SF_appendPieces 28 = .ok (.istore 4, 2) := by decide +kernel
theorem d_SF_appendPieces_30 : decode b_SF_appendPieces 30 = .ok (.aload_n 0, 1) := by decide +kernel
theorem d_SF_appendPieces_31 : decode b_SF_appendPieces 31 = .ok (.getfield 21, 3) := by decide +kernel
theorem d_SF_appendPieces_34 : decode b_SF_appendPieces 34 = .ok (.invokevirtual 56, 3) := by decide +kernel
theorem d_SF_appendPieces_37 : decode b_SF_appendPieces 37 = .ok (.iload 4, 2) := by decide +kernel
theorem d_SF_appendPieces_39 : decode b_SF_appendPieces 39 = .ok (.isub, 1) := by decide +kernel
theorem d_SF_appendPieces_40 : decode b_SF_appendPieces 40 = .ok (.bipush 8, 2) := by decide +kernel
theorem d_SF_appendPieces_42 : decode b_SF_appendPieces 42 = .ok (.invokestatic 163, 3) := by decide +kernel
theorem d_SF_appendPieces_45 : decode b_SF_appendPieces 45 = .ok (.istore 5, 2) := by decide +kernel
theorem d_SF_appendPieces_47 : decode b_SF_appendPieces 47 = .ok (.aload_n 0, 1) := by decide +kernel
theorem d_SF_appendPieces_48 : decode b_SF_appendPieces 48 = .ok (.getfield 24, 3) := by decide +kernel
theorem d_SF_appendPieces_51 : decode b_SF_appendPieces 51 = .ok (.invokevirtual 56, 3) := by decide +kernel
theorem d_SF_appendPieces_54 : decode b_SF_appendPieces 54 = .ok (.istore 6, 2) := by decide +kernel
theorem d_SF_appendPieces_56 : decode b_SF_appendPieces 56 = .ok (.iconst 0, 1) := by decide +kernel
theorem d_SF_appendPieces_57 : decode b_SF_appendPieces 57 = .ok (.istore 7, 2) := by decide +kernel
theorem d_SF_appendPieces_59 : decode b_SF_appendPieces 59 = .ok (.iload 7, 2) := by decide +kernel
theorem d_SF_appendPieces_61 : decode b_SF_appendPieces 61 = .ok (.iload 5, 2) := by decide +kernel
theorem d_SF_appendPieces_63 : decode b_SF_appendPieces 63 = .ok (.if_icmp .ge 36, 3) := by decide +kernel
theorem d_SF_appendPieces_66 : decode b_SF_appendPieces 66 = .ok (.aload_n 0, 1) := by decide +kernel
theorem d_SF_appendPieces_67 : decode b_SF_appendPieces 67 = .ok (.getfield 24, 3) := by decide +kernel
theorem d_SF_appendPieces_70 : decode b_SF_appendPieces 70 = .ok (.aload_n 0, 1) := by decide +kernel
theorem d_SF_appendPieces_71 : decode b_SF_appendPieces 71 = .ok (.getfield 21, 3) := by decide +kernel
theorem d_SF_appendPieces_74 : decode b_SF_appendPieces 74 = .ok (.iload 4, 2) := by decide +kernel
theorem d_SF_appendPieces_76 : decode b_SF_appendPieces 76 = .ok (.iload 7, 2) := by decide +kernel
theorem d_SF_appendPieces_78 : decode b_SF_appendPieces 78 = .ok (.iadd, 1) := by decide +kernel
theorem d_SF_appendPieces_79 : decode b_SF_appendPieces 79 = .ok (.invokevirtual 60, 3) := by decide +kernel
theorem d_SF_appendPieces_82 : decode b_SF_appendPieces 82 = .ok (.iload_n 1, 1) := by decide +kernel
theorem d_SF_appendPieces_83 : decode b_SF_appendPieces 83 = .ok (.iload_n 3, 1) := by decide +kernel
theorem d_SF_appendPieces_84 : decode b_SF_appendPieces 84 = .ok (.iload 7, 2) := by decide +kernel
theorem d_SF_appendPieces_86 : decode b_SF_appendPieces 86 = .ok (.invokestatic 166, 3) := by decide +kernel
theorem d_SF_appendPieces_89 : decode b_SF_appendPieces 89 = .ok (.invokevirtual 41, 3) := by decide +kernel
theorem d_SF_appendPieces_92 : decode b_SF_appendPieces 92 = .ok (.pop, 1) := by decide +kernel
theorem d_SF_appendPieces_93 : decode b_SF_appendPieces 93 = .ok (.iinc 7 1, 3) := by decide +kernel
theorem d_SF_appendPieces_96 : decode b_SF_appendPieces 96 = .ok (.goto (-37), 3) := by decide +kernel
theorem d_SF_appendPieces_99 : decode b_SF_appendPieces 99 = .ok (.aload_n 0, 1) := by decide +kernel
theorem d_SF_appendPieces_100 : decode b_SF_appendPieces 100 = .ok (.getfield 24, 3) := by decide +kernel
theorem d_SF_appendPieces_103 : decode b_SF_appendPieces 103 = .ok (.aload_n 0, 1) := by decide +kernel
theorem d_SF_appendPieces_104 : decode b_SF_appendPieces 104 = .ok (.iload_n 1, 1) := by decide +kernel
theorem d_SF_appendPieces_105 : decode b_SF_appendPieces 105 = .ok (.iload_n 3, 1) := by decide +kernel
theorem d_SF_appendPieces_106 : decode b_SF_appendPieces 106 = .ok (.iload 6, 2) := by decide +kernel
theorem d_SF_appendPieces_108 : decode b_SF_appendPieces 108 = .ok (.aload_n 0, 1) := by decide +kernel
theorem d_SF_appendPieces_109 : decode b_SF_appendPieces 109 = .ok (.getfield 24, 3) := by decide +kernel
theorem d_SF_appendPieces_112 : decode b_SF_appendPieces 112 = .ok (.invokevirtual 56, 3) := by decide +kernel
theorem d_SF_appendPieces_115 : decode b_SF_appendPieces 115 = .ok (.iload_n 3, 1) := by decide +kernel
theorem d_SF_appendPieces_116 : decode b_SF_appendPieces 116 = .ok (.iload_n 2, 1) := by decide +kernel
theorem d_SF_appendPieces_117 : decode b_SF_appendPieces 117 = .ok (.if_icmp .ne 7, 3) := by decide +kernel
theorem d_SF_appendPieces_120 : decode b_SF_appendPieces 120 = .ok (.iconst 1, 1) := by decide +kernel
theorem d_SF_appendPieces_121 : decode b_SF_appendPieces 121 = .ok (.goto 4, 3) := by decide +kernel
theorem d_SF_appendPieces_124 : decode b_SF_appendPieces 124 = .ok (.iconst 0, 1) := by decide +kernel
theorem d_SF_appendPieces_125 : decode b_SF_appendPieces 125 = .ok (.invokevirtual 170, 3) := by decide +kernel
theorem d_SF_appendPieces_128 : decode b_SF_appendPieces 128 = .ok (.invokevirtual 88, 3) := by decide +kernel
theorem d_SF_appendPieces_131 : decode b_SF_appendPieces 131 = .ok (.iinc 3 1, 3) := by decide +kernel
theorem d_SF_appendPieces_134 : decode b_SF_appendPieces 134 = .ok (.goto (-115), 3) := by decide +kernel
theorem d_SF_appendPieces_137 : decode b_SF_appendPieces 137 = .ok (.return_, 1) := by decide +kernel
theorem d_SF_areReceivers_0 : decode b_SF_areReceivers 0 = .ok (.iload_n 1, 1) := by decide +kernel
theorem d_SF_areReceivers_1 : decode b_SF_areReceivers 1 = .ok (.invokestatic 72, 3) := by decide +kernel
theorem d_SF_areReceivers_4 : decode b_SF_areReceivers 4 = .ok (.istore_n 2, 1) := by decide +kernel
theorem d_SF_areReceivers_5 : decode b_SF_areReceivers 5 = .ok (.iload_n 2, 1) := by decide +kernel
theorem d_SF_areReceivers_6 : decode b_SF_areReceivers 6 = .ok (.iconst 1, 1) := by decide +kernel
theorem d_SF_areReceivers_7 : decode b_SF_areReceivers 7 = .ok (.if_icmp .lt 24, 3) := by decide +kernel
theorem d_SF_areReceivers_10 : decode b_SF_areReceivers 10 = .ok (.iload_n 2, 1) := by decide +kernel
theorem d_SF_areReceivers_11 : decode b_SF_areReceivers 11 = .ok (.iconst 3, 1) := by decide +kernel
theorem d_SF_areReceivers_12 : decode b_SF_areReceivers 12 = .ok (.if_icmp .gt 19, 3) := by decide +kernel
theorem d_SF_areReceivers_15 : decode b_SF_areReceivers 15 = .ok (.iload_n 1, 1) := by decide +kernel
theorem d_SF_areReceivers_16 : decode b_SF_areReceivers 16 = .ok (.aload_n 0, 1) := by decide +kernel
theorem d_SF_areReceivers_17 : decode b_SF_areReceivers 17 = .ok (.getfield 14, 3) := by decide +kernel
theorem d_SF_areReceivers_20 : decode b_SF_areReceivers 20 = .ok (.invokevirtual 56, 3) := by decide +kernel
theorem d_SF_areReceivers_23 : decode b_SF_areReceivers 23 = .ok (.iushr, 1) := by decide +kernel
theorem d_SF_areReceivers_24 : decode b_SF_areReceivers 24 = .ok (.ifCond .ne 7, 3) := by decide +kernel
theorem d_SF_areReceivers_27 : decode b_SF_areReceivers 27 = .ok (.iconst 1, 1) := by decide +kernel
theorem d_SF_areReceivers_28 : decode b_SF_areReceivers 28 = .ok (.goto 4, 3) := by decide +kernel
theorem d_SF_areReceivers_31 : decode b_SF_areReceivers 31 = .ok (.iconst 0, 1) := by decide +kernel
theorem d_SF_areReceivers_32 : decode b_SF_areReceivers 32 = .ok (.ireturn, 1) := by decide +kernel
theorem d_SF_at_0 : decode b_SF_at 0 = .ok (.aload_n 0, 1) := by decide +kernel
theorem d_SF_at_1 : decode b_SF_at 1 = .ok (.getfield 24, 3) := by decide +kernel
theorem d_SF_at_4 : decode b_SF_at 4 = .ok (.iload_n 1, 1) := by decide +kernel
theorem d_SF_at_5 : decode b_SF_at 5 = .ok (.invokevirtual 60, 3) := by decide +kernel
theorem d_SF_at_8 : decode b_SF_at 8 = .ok (.ireturn, 1) := by decide +kernel
theorem d_SF_clear_0 : decode b_SF_clear 0 = .ok (.aload_n 0, 1) := by decide +kernel
theorem d_SF_clear_1 : decode b_SF_clear 1 = .ok (.getfield 21, 3) := by decide +kernel
theorem d_SF_clear_4 : decode b_SF_clear 4 = .ok (.invokevirtual 56, 3) := by decide +kernel
theorem d_SF_clear_7 : decode b_SF_clear 7 = .ok (.istore_n 1, 1) := by decide +kernel
theorem d_SF_clear_8 : decode b_SF_clear 8 = .ok (.aload_n 0, 1) := by decide +kernel
theorem d_SF_clear_9 : decode b_SF_clear 9 = .ok (.getfield 21, 3) := by decide +kernel
theorem d_SF_clear_12 : decode b_SF_clear 12 = .ok (.iconst 0, 1) := by decide +kernel
theorem d_SF_clear_13 : decode b_SF_clear 13 = .ok (.invokevirtual 64, 3) := by decide +kernel
theorem d_SF_clear_16 : decode b_SF_clear 16 = .ok (.pop, 1) := by decide +kernel
theorem d_SF_clear_17 : decode b_SF_clear 17 = .ok (.iload_n 1, 1) := by decide +kernel
theorem d_SF_clear_18 : decode b_SF_clear 18 = .ok (.ireturn, 1) := by decide +kernel
theorem d_SF_count_0 : decode b_SF_count 0 = .ok (.iload_n 1, 1) := by decide +kernel
theorem d_SF_count_1 : decode b_SF_count 1 = .ok (.tableswitch 51 0 2 #[27, 35, 43], 27) := by decide +kernel
theorem d_SF_count_28 : decode b_SF_count 28 = .ok (.aload_n 0, 1) := by decide +kernel
theorem d_SF_count_29 : decode b_SF_count 29 = .ok (.getfield 21, 3) := by decide +kernel
theorem d_SF_count_32 : decode b_SF_count 32 = .ok (.invokevirtual 56, 3) := by decide +kernel
theorem d_SF_count_35 : decode b_SF_count 35 = .ok (.ireturn, 1) := by decide +kernel
theorem d_SF_count_36 : decode b_SF_count 36 = .ok (.aload_n 0, 1) := by decide +kernel
theorem d_SF_count_37 : decode b_SF_count 37 = .ok (.getfield 24, 3) := by decide +kernel
theorem d_SF_count_40 : decode b_SF_count 40 = .ok (.invokevirtual 56, 3) := by decide +kernel
theorem d_SF_count_43 : decode b_SF_count 43 = .ok (.ireturn, 1) := by decide +kernel
theorem d_SF_count_44 : decode b_SF_count 44 = .ok (.aload_n 0, 1) := by decide +kernel
theorem d_SF_count_45 : decode b_SF_count 45 = .ok (.getfield 14, 3) := by decide +kernel
theorem d_SF_count_48 : decode b_SF_count 48 = .ok (.invokevirtual 56, 3) := by decide +kernel
theorem d_SF_count_51 : decode b_SF_count 51 = .ok (.ireturn, 1) := by decide +kernel
theorem d_SF_count_52 : decode b_SF_count 52 = .ok (.iconst (-1), 1) := by decide +kernel
theorem d_SF_count_53 : decode b_SF_count 53 = .ok (.ireturn, 1) := by decide +kernel
theorem d_SF_covered_0 : decode b_SF_covered 0 = .ok (.iload_n 0, 1) := by decide +kernel
theorem d_SF_covered_1 : decode b_SF_covered 1 = .ok (.iload_n 1, 1) := by decide +kernel
theorem d_SF_covered_2 : decode b_SF_covered 2 = .ok (.bipush 16, 2) := by decide +kernel
theorem d_SF_covered_4 : decode b_SF_covered 4 = .ok (.iload_n 2, 1) := by decide +kernel
theorem d_SF_covered_5 : decode b_SF_covered 5 = .ok (.imul, 1) := by decide +kernel
theorem d_SF_covered_6 : decode b_SF_covered 6 = .ok (.iload_n 3, 1) := by decide +kernel
theorem d_SF_covered_7 : decode b_SF_covered 7 = .ok (.iadd, 1) := by decide +kernel
theorem d_SF_covered_8 : decode b_SF_covered 8 = .ok (.iconst 4, 1) := by decide +kernel
theorem d_SF_covered_9 : decode b_SF_covered 9 = .ok (.invokestatic 148, 3) := by decide +kernel
theorem d_SF_covered_12 : decode b_SF_covered 12 = .ok (.sipush 255, 3) := by decide +kernel
theorem d_SF_covered_15 : decode b_SF_covered 15 = .ok (.iand, 1) := by decide +kernel
theorem d_SF_covered_16 : decode b_SF_covered 16 = .ok (.ixor, 1) := by decide +kernel
theorem d_SF_covered_17 : decode b_SF_covered 17 = .ok (.ireturn, 1) := by decide +kernel
theorem d_SF_cut_0 : decode b_SF_cut 0 = .ok (.aload_n 0, 1) := by decide +kernel
theorem d_SF_cut_1 : decode b_SF_cut 1 = .ok (.getfield 24, 3) := by decide +kernel
theorem d_SF_cut_4 : decode b_SF_cut 4 = .ok (.iload_n 1, 1) := by decide +kernel
theorem d_SF_cut_5 : decode b_SF_cut 5 = .ok (.invokevirtual 64, 3) := by decide +kernel
theorem d_SF_cut_8 : decode b_SF_cut 8 = .ok (.ireturn, 1) := by decide +kernel
theorem d_SF_draftBytes_0 : decode b_SF_draftBytes 0 = .ok (.aload_n 0, 1) := by decide +kernel
theorem d_SF_draftBytes_1 : decode b_SF_draftBytes 1 = .ok (.getfield 27, 3) := by decide +kernel
theorem d_SF_draftBytes_4 : decode b_SF_draftBytes 4 = .ok (.invokevirtual 56, 3) := by decide +kernel
theorem d_SF_draftBytes_7 : decode b_SF_draftBytes 7 = .ok (.bipush 6, 2) := by decide +kernel
theorem d_SF_draftBytes_9 : decode b_SF_draftBytes 9 = .ok (.imul, 1) := by decide +kernel
theorem d_SF_draftBytes_10 : decode b_SF_draftBytes 10 = .ok (.bipush 8, 2) := by decide +kernel
theorem d_SF_draftBytes_12 : decode b_SF_draftBytes 12 = .ok (.idiv, 1) := by decide +kernel
theorem d_SF_draftBytes_13 : decode b_SF_draftBytes 13 = .ok (.ireturn, 1) := by decide +kernel
theorem d_SF_draftIsPrintedForm_0 : decode b_SF_draftIsPrintedForm 0 = .ok (.aload_n 0, 1) := by decide +kernel
theorem d_SF_draftIsPrintedForm_1 : decode b_SF_draftIsPrintedForm 1 = .ok (.getfield 27, 3) := by decide +kernel
theorem d_SF_draftIsPrintedForm_4 : decode b_SF_draftIsPrintedForm 4 = .ok (.invokevirtual 56, 3) := by decide +kernel
theorem d_SF_draftIsPrintedForm_7 : decode b_SF_draftIsPrintedForm 7 = .ok (.bipush 6, 2) := by decide +kernel
theorem d_SF_draftIsPrintedForm_9 : decode b_SF_draftIsPrintedForm 9 = .ok (.imul, 1) := by decide +kernel
theorem d_SF_draftIsPrintedForm_10 : decode b_SF_draftIsPrintedForm 10 = .ok (.aload_n 0, 1) := by decide +kernel
theorem d_SF_draftIsPrintedForm_11 : decode b_SF_draftIsPrintedForm 11 = .ok (.invokevirtual 181, 3) := by decide +kernel
theorem d_SF_draftIsPrintedForm_14 : decode b_SF_draftIsPrintedForm 14 = .ok (.bipush 8, 2) := by decide +kernel
theorem d_SF_draftIsPrintedForm_16 : decode b_SF_draftIsPrintedForm 16 = .ok (.imul, 1) := by decide +kernel
theorem d_SF_draftIsPrintedForm_17 : decode b_SF_draftIsPrintedForm 17 = .ok (.isub, 1) := by decide +kernel
theorem d_SF_draftIsPrintedForm_18 : decode b_SF_draftIsPrintedForm 18 = .ok (.istore_n 1, 1) := by decide +kernel
theorem d_SF_draftIsPrintedForm_19 : decode b_SF_draftIsPrintedForm 19 = .ok (.iload_n 1, 1) := by decide +kernel
theorem d_SF_draftIsPrintedForm_20 : decode b_SF_draftIsPrintedForm 20 = .ok (.ifCond .ne 5, 3) := by decide +kernel
theorem d_SF_draftIsPrintedForm_23 : decode b_SF_draftIsPrintedForm 23 = .ok (.iconst 1, 1) := by decide +kernel
theorem d_SF_draftIsPrintedForm_24 : decode b_SF_draftIsPrintedForm 24 = .ok (.ireturn, 1) := by decide +kernel
theorem d_SF_draftIsPrintedForm_25 : decode b_SF_draftIsPrintedForm 25 = .ok (.iconst 1, 1) := by decide +kernel
theorem d_SF_draftIsPrintedForm_26 : decode b_SF_draftIsPrintedForm 26 = .ok (.iload_n 1, 1) := by decide +kernel
theorem d_SF_draftIsPrintedForm_27 : decode b_SF_draftIsPrintedForm 27 = .ok (.ishl, 1) := by decide +kernel
theorem d_SF_draftIsPrintedForm_28 : decode b_SF_draftIsPrintedForm 28 = .ok (.iconst 1, 1) := by decide +kernel
theorem d_SF_draftIsPrintedForm_29 : decode b_SF_draftIsPrintedForm 29 = .ok (.isub, 1) := by decide +kernel
theorem d_SF_draftIsPrintedForm_30 : decode b_SF_draftIsPrintedForm 30 = .ok (.istore_n 2, 1) := by decide +kernel
theorem d_SF_draftIsPrintedForm_31 : decode b_SF_draftIsPrintedForm 31 = .ok (.iload_n 1, 1) := by decide +kernel
theorem d_SF_draftIsPrintedForm_32 : decode b_SF_draftIsPrintedForm 32 = .ok (.bipush 6, 2) := by decide +kernel
theorem d_SF_draftIsPrintedForm_34 : decode b_SF_draftIsPrintedForm 34 = .ok (.if_icmp .ge 28, 3) := by decide +kernel
theorem d_SF_draftIsPrintedForm_37 : decode b_SF_draftIsPrintedForm 37 = .ok (.aload_n 0, 1) := by decide +kernel
theorem d_SF_draftIsPrintedForm_38 : decode b_SF_draftIsPrintedForm 38 = .ok (.getfield 27, 3) := by decide +kernel
theorem d_SF_draftIsPrintedForm_41 : decode b_SF_draftIsPrintedForm 41 = .ok (.aload_n 0, 1) := by decide +kernel
theorem d_SF_draftIsPrintedForm_42 : decode b_SF_draftIsPrintedForm 42 = .ok (.getfield 27, 3) := by decide +kernel
theorem d_SF_draftIsPrintedForm_45 : decode b_SF_draftIsPrintedForm 45 = .ok (.invokevirtual 56, 3) := by decide +kernel
theorem d_SF_draftIsPrintedForm_48 : decode b_SF_draftIsPrintedForm 48 = .ok (.iconst 1, 1) := by decide +kernel
theorem d_SF_draftIsPrintedForm_49 : decode b_SF_draftIsPrintedForm 49 = .ok (.isub, 1) := by decide +kernel
theorem d_SF_draftIsPrintedForm_50 : decode b_SF_draftIsPrintedForm 50 = .ok (.invokevirtual 60, 3) := by decide +kernel
theorem d_SF_draftIsPrintedForm_53 : decode b_SF_draftIsPrintedForm 53 = .ok (.iload_n 2, 1) := by decide +kernel
theorem d_SF_draftIsPrintedForm_54 : decode b_SF_draftIsPrintedForm 54 = .ok (.iand, 1) := by decide +kernel
theorem d_SF_draftIsPrintedForm_55 : decode b_SF_draftIsPrintedForm 55 = .ok (.ifCond .ne 7, 3) := by decide +kernel
theorem d_SF_draftIsPrintedForm_58 : decode b_SF_draftIsPrintedForm 58 = .ok (.iconst 1, 1) := by decide +kernel
theorem d_SF_draftIsPrintedForm_59 : decode b_SF_draftIsPrintedForm 59 = .ok (.goto 4, 3) := by decide +kernel
theorem d_SF_draftIsPrintedForm_62 : decode b_SF_draftIsPrintedForm 62 = .ok (.iconst 0, 1) := by decide +kernel
theorem d_SF_draftIsPrintedForm_63 : decode b_SF_draftIsPrintedForm 63 = .ok (.ireturn, 1) := by decide +kernel
theorem d_SF_entriesEnd_0 : decode b_SF_entriesEnd 0 = .ok (.iconst 2, 1) := by decide +kernel
theorem d_SF_entriesEnd_1 : decode b_SF_entriesEnd 1 = .ok (.aload_n 0, 1) := by decide +kernel
theorem d_SF_entriesEnd_2 : decode b_SF_entriesEnd 2 = .ok (.getfield 24, 3) := by decide +kernel
theorem d_SF_entriesEnd_5 : decode b_SF_entriesEnd 5 = .ok (.iconst 1, 1) := by decide +kernel
theorem d_SF_entriesEnd_6 : decode b_SF_entriesEnd 6 = .ok (.invokevirtual 60, 3) := by decide +kernel
theorem d_SF_entriesEnd_9 : decode b_SF_entriesEnd 9 = .ok (.bipush 8, 2) := by decide +kernel
theorem d_SF_entriesEnd_11 : decode b_SF_entriesEnd 11 = .ok (.imul, 1) := by decide +kernel
theorem d_SF_entriesEnd_12 : decode b_SF_entriesEnd 12 = .ok (.iadd, 1) := by decide +kernel
theorem d_SF_entriesEnd_13 : decode b_SF_entriesEnd 13 = .ok (.ireturn, 1) := by decide +kernel
theorem d_SF_entryFor_0 : decode b_SF_entryFor 0 = .ok (.aload_n 0, 1) := by decide +kernel
theorem d_SF_entryFor_1 : decode b_SF_entryFor 1 = .ok (.getfield 24, 3) := by decide +kernel
theorem d_SF_entryFor_4 : decode b_SF_entryFor 4 = .ok (.iconst 1, 1) := by decide +kernel
theorem d_SF_entryFor_5 : decode b_SF_entryFor 5 = .ok (.invokevirtual 60, 3) := by decide +kernel
theorem d_SF_entryFor_8 : decode b_SF_entryFor 8 = .ok (.istore_n 2, 1) := by decide +kernel
theorem d_SF_entryFor_9 : decode b_SF_entryFor 9 = .ok (.iconst 0, 1) := by decide +kernel
theorem d_SF_entryFor_10 : decode b_SF_entryFor 10 = .ok (.istore_n 3, 1) := by decide +kernel
theorem d_SF_entryFor_11 : decode b_SF_entryFor 11 = .ok (.iload_n 3, 1) := by decide +kernel
theorem d_SF_entryFor_12 : decode b_SF_entryFor 12 = .ok (.iload_n 2, 1) := by decide +kernel
theorem d_SF_entryFor_13 : decode b_SF_entryFor 13 = .ok (.if_icmp .ge 60, 3) := by decide +kernel
theorem d_SF_entryFor_16 : decode b_SF_entryFor 16 = .ok (.iconst 2, 1) := by decide +kernel
theorem d_SF_entryFor_17 : decode b_SF_entryFor 17 = .ok (.iload_n 3, 1) := by decide +kernel
theorem d_SF_entryFor_18 : decode b_SF_entryFor 18 = .ok (.bipush 8, 2) := by decide +kernel
theorem d_SF_entryFor_20 : decode b_SF_entryFor 20 = .ok (.imul, 1) := by decide +kernel
theorem d_SF_entryFor_21 : decode b_SF_entryFor 21 = .ok (.iadd, 1) := by decide +kernel
theorem d_SF_entryFor_22 : decode b_SF_entryFor 22 = .ok (.istore 4, 2) := by decide +kernel
theorem d_SF_entryFor_24 : decode b_SF_entryFor 24 = .ok (.aload_n 0, 1) := by decide +kernel
theorem d_SF_entryFor_25 : decode b_SF_entryFor 25 = .ok (.iload 4, 2) := by decide +kernel
theorem d_SF_entryFor_27 : decode b_SF_entryFor 27 = .ok (.aload_n 0, 1) := by decide +kernel
theorem d_SF_entryFor_28 : decode b_SF_entryFor 28 = .ok (.iload 4, 2) := by decide +kernel
theorem d_SF_entryFor_30 : decode b_SF_entryFor 30 = .ok (.iload_n 1, 1) := by decide +kernel
theorem d_SF_entryFor_31 : decode b_SF_entryFor 31 = .ok (.invokevirtual 174, 3) := by decide +kernel
theorem d_SF_entryFor_34 : decode b_SF_entryFor 34 = .ok (.aload_n 0, 1) := by decide +kernel
theorem d_SF_entryFor_35 : decode b_SF_entryFor 35 = .ok (.getfield 18, 3) := by decide +kernel
theorem d_SF_entryFor_38 : decode b_SF_entryFor 38 = .ok (.iload_n 1, 1) := by decide +kernel
theorem d_SF_entryFor_39 : decode b_SF_entryFor 39 = .ok (.invokevirtual 60, 3) := by decide +kernel
theorem d_SF_entryFor_42 : decode b_SF_entryFor 42 = .ok (.invokevirtual 152, 3) := by decide +kernel
theorem d_SF_entryFor_45 : decode b_SF_entryFor 45 = .ok (.istore 5, 2) := by decide +kernel
theorem d_SF_entryFor_47 : decode b_SF_entryFor 47 = .ok (.aload_n 0, 1) := by decide +kernel
theorem d_SF_entryFor_48 : decode b_SF_entryFor 48 = .ok (.getfield 24, 3) := by decide +kernel
theorem d_SF_entryFor_51 : decode b_SF_entryFor 51 = .ok (.iload 4, 2) := by decide +kernel
theorem d_SF_entryFor_53 : decode b_SF_entryFor 53 = .ok (.bipush 6, 2) := by decide +kernel
theorem d_SF_entryFor_55 : decode b_SF_entryFor 55 = .ok (.iadd, 1) := by decide +kernel
theorem d_SF_entryFor_56 : decode b_SF_entryFor 56 = .ok (.invokevirtual 112, 3) := by decide +kernel
theorem d_SF_entryFor_59 : decode b_SF_entryFor 59 = .ok (.iload 5, 2) := by decide +kernel
theorem d_SF_entryFor_61 : decode b_SF_entryFor 61 = .ok (.if_icmp .ne 6, 3) := by decide +kernel
theorem d_SF_entryFor_64 : decode b_SF_entryFor 64 = .ok (.iload 4, 2) := by decide +kernel
theorem d_SF_entryFor_66 : decode b_SF_entryFor 66 = .ok (.ireturn, 1) := by decide +kernel
theorem d_SF_entryFor_67 : decode b_SF_entryFor 67 = .ok (.iinc 3 1, 3) := by decide +kernel
theorem d_SF_entryFor_70 : decode b_SF_entryFor 70 = .ok (.goto (-59), 3) := by decide +kernel
theorem d_SF_entryFor_73 : decode b_SF_entryFor 73 = .ok (.iconst (-1), 1) := by decide +kernel
theorem d_SF_entryFor_74 : decode b_SF_entryFor 74 = .ok (.ireturn, 1) := by decide +kernel
theorem d_SF_entrySign_0 : decode b_SF_entrySign 0 = .ok (.aload_n 0, 1) := by decide +kernel
theorem d_SF_entrySign_1 : decode b_SF_entrySign 1 = .ok (.getfield 24, 3) := by decide +kernel
theorem d_SF_entrySign_4 : decode b_SF_entrySign 4 = .ok (.iload_n 1, 1) := by decide +kernel
theorem d_SF_entrySign_5 : decode b_SF_entrySign 5 = .ok (.iload_n 1, 1) := by decide +kernel
theorem d_SF_entrySign_6 : decode b_SF_entrySign 6 = .ok (.bipush 6, 2) := by decide +kernel
theorem d_SF_entrySign_8 : decode b_SF_entrySign 8 = .ok (.iadd, 1) := by decide +kernel
theorem d_SF_entrySign_9 : decode b_SF_entrySign 9 = .ok (.iload_n 2, 1) := by decide +kernel
theorem d_SF_entrySign_10 : decode b_SF_entrySign 10 = .ok (.iload_n 3, 1) := by decide +kernel
theorem d_SF_entrySign_11 : decode b_SF_entrySign 11 = .ok (.iconst 2, 1) := by decide +kernel
theorem d_SF_entrySign_12 : decode b_SF_entrySign 12 = .ok (.invokestatic 148, 3) := by decide +kernel
theorem d_SF_entrySign_15 : decode b_SF_entrySign 15 = .ok (.invokevirtual 155, 3) := by decide +kernel
theorem d_SF_entrySign_18 : decode b_SF_entrySign 18 = .ok (.ireturn, 1) := by decide +kernel
theorem d_SF_exponent_0 : decode b_SF_exponent 0 = .ok (.iconst 2, 1) := by decide +kernel
theorem d_SF_exponent_1 : decode b_SF_exponent 1 = .ok (.iload_n 0, 1) := by decide +kernel
theorem d_SF_exponent_2 : decode b_SF_exponent 2 = .ok (.iload_n 1, 1) := by decide +kernel
theorem d_SF_exponent_3 : decode b_SF_exponent 3 = .ok (.iload_n 2, 1) := by decide +kernel
theorem d_SF_exponent_4 : decode b_SF_exponent 4 = .ok (.invokestatic 148, 3) := by decide +kernel
theorem d_SF_exponent_7 : decode b_SF_exponent 7 = .ok (.iconst 1, 1) := by decide +kernel
theorem d_SF_exponent_8 : decode b_SF_exponent 8 = .ok (.iushr, 1) := by decide +kernel
theorem d_SF_exponent_9 : decode b_SF_exponent 9 = .ok (.sipush 32746, 3) := by decide +kernel
theorem d_SF_exponent_12 : decode b_SF_exponent 12 = .ok (.irem, 1) := by decide +kernel
theorem d_SF_exponent_13 : decode b_SF_exponent 13 = .ok (.iadd, 1) := by decide +kernel
theorem d_SF_exponent_14 : decode b_SF_exponent 14 = .ok (.ireturn, 1) := by decide +kernel
end
section
theorem d_SF_hasShape_0 : decode b_SF_hasShape 0 = .ok (.aload_n 0, 1) := by decide +kernel
theorem d_SF_hasShape_1 : decode b_SF_hasShape 1 = .ok (.getfield 24, 3) := by decide +kernel
theorem d_SF_hasShape_4 : decode b_SF_hasShape 4 = .ok (.iconst 0, 1) := by decide +kernel
theorem d_SF_hasShape_5 : decode b_SF_hasShape 5 = .ok (.invokevirtual 60, 3) := by decide +kernel
theorem d_SF_hasShape_8 : decode b_SF_hasShape 8 = .ok (.bipush 83, 2) := by decide +kernel
theorem d_SF_hasShape_10 : decode b_SF_hasShape 10 = .ok (.if_icmp .ne 47, 3) := by decide +kernel
theorem d_SF_hasShape_13 : decode b_SF_hasShape 13 = .ok (.aload_n 0, 1) := by decide +kernel
theorem d_SF_hasShape_14 : decode b_SF_hasShape 14 = .ok (.getfield 24, 3) := by decide +kernel
theorem d_SF_hasShape_17 : decode b_SF_hasShape 17 = .ok (.iconst 1, 1) := by decide +kernel
theorem d_SF_hasShape_18 : decode b_SF_hasShape 18 = .ok (.invokevirtual 60, 3) := by decide +kernel
theorem d_SF_hasShape_21 : decode b_SF_hasShape 21 = .ok (.iconst 1, 1) := by decide +kernel
theorem d_SF_hasShape_22 : decode b_SF_hasShape 22 = .ok (.if_icmp .lt 35, 3) := by decide +kernel
theorem d_SF_hasShape_25 : decode b_SF_hasShape 25 = .ok (.aload_n 0, 1) := by decide +kernel
theorem d_SF_hasShape_26 : decode b_SF_hasShape 26 = .ok (.getfield 24, 3) := by decide +kernel
theorem d_SF_hasShape_29 : decode b_SF_hasShape 29 = .ok (.iconst 1, 1) := by decide +kernel
theorem d_SF_hasShape_30 : decode b_SF_hasShape 30 = .ok (.invokevirtual 60, 3) := by decide +kernel
theorem d_SF_hasShape_33 : decode b_SF_hasShape 33 = .ok (.iconst 3, 1) := by decide +kernel
theorem d_SF_hasShape_34 : decode b_SF_hasShape 34 = .ok (.if_icmp .gt 23, 3) := by decide +kernel
theorem d_SF_hasShape_37 : decode b_SF_hasShape 37 = .ok (.aload_n 0, 1) := by decide +kernel
theorem d_SF_hasShape_38 : decode b_SF_hasShape 38 = .ok (.getfield 24, 3) := by decide +kernel
theorem d_SF_hasShape_41 : decode b_SF_hasShape 41 = .ok (.invokevirtual 56, 3) := by decide +kernel
theorem d_SF_hasShape_44 : decode b_SF_hasShape 44 = .ok (.aload_n 0, 1) := by decide +kernel
theorem d_SF_hasShape_45 : decode b_SF_hasShape 45 = .ok (.invokevirtual 109, 3) := by decide +kernel
theorem d_SF_hasShape_48 : decode b_SF_hasShape 48 = .ok (.iconst 4, 1) := by decide +kernel
theorem d_SF_hasShape_49 : decode b_SF_hasShape 49 = .ok (.iadd, 1) := by decide +kernel
theorem d_SF_hasShape_50 : decode b_SF_hasShape 50 = .ok (.if_icmp .lt 7, 3) := by decide +kernel
theorem d_SF_hasShape_53 : decode b_SF_hasShape 53 = .ok (.iconst 1, 1) := by decide +kernel
theorem d_SF_hasShape_54 : decode b_SF_hasShape 54 = .ok (.goto 4, 3) := by decide +kernel
theorem d_SF_hasShape_57 : decode b_SF_hasShape 57 = .ok (.iconst 0, 1) := by decide +kernel
theorem d_SF_hasShape_58 : decode b_SF_hasShape 58 = .ok (.ireturn, 1) := by decide +kernel
theorem d_SF_headSign_0 : decode b_SF_headSign 0 = .ok (.aload_n 0, 1) := by decide +kernel
theorem d_SF_headSign_1 : decode b_SF_headSign 1 = .ok (.getfield 24, 3) := by decide +kernel
theorem d_SF_headSign_4 : decode b_SF_headSign 4 = .ok (.iconst 0, 1) := by decide +kernel
theorem d_SF_headSign_5 : decode b_SF_headSign 5 = .ok (.iload_n 2, 1) := by decide +kernel
theorem d_SF_headSign_6 : decode b_SF_headSign 6 = .ok (.iload_n 1, 1) := by decide +kernel
theorem d_SF_headSign_7 : decode b_SF_headSign 7 = .ok (.iconst 0, 1) := by decide +kernel
theorem d_SF_headSign_8 : decode b_SF_headSign 8 = .ok (.iconst 3, 1) := by decide +kernel
theorem d_SF_headSign_9 : decode b_SF_headSign 9 = .ok (.invokestatic 148, 3) := by decide +kernel
theorem d_SF_headSign_12 : decode b_SF_headSign 12 = .ok (.invokevirtual 155, 3) := by decide +kernel
theorem d_SF_headSign_15 : decode b_SF_headSign 15 = .ok (.ireturn, 1) := by decide +kernel
theorem d_SF_init_0 : decode b_SF_init 0 = .ok (.aload_n 0, 1) := by decide +kernel
theorem d_SF_init_1 : decode b_SF_init 1 = .ok (.invokespecial 1, 3) := by decide +kernel
theorem d_SF_init_4 : decode b_SF_init 4 = .ok (.aload_n 0, 1) := by decide +kernel
theorem d_SF_init_5 : decode b_SF_init 5 = .ok (.new 7, 3) := by decide +kernel
theorem d_SF_init_8 : decode b_SF_init 8 = .ok (.dup, 1) := by decide +kernel
theorem d_SF_init_9 : decode b_SF_init 9 = .ok (.iconst 4, 1) := by decide +kernel
theorem d_SF_init_10 : decode b_SF_init 10 = .ok (.invokespecial 11, 3) := by decide +kernel
theorem d_SF_init_13 : decode b_SF_init 13 = .ok (.putfield 14, 3) := by decide +kernel
theorem d_SF_init_16 : decode b_SF_init 16 = .ok (.aload_n 0, 1) := by decide +kernel
theorem d_SF_init_17 : decode b_SF_init 17 = .ok (.new 7, 3) := by decide +kernel
theorem d_SF_init_20 : decode b_SF_init 20 = .ok (.dup, 1) := by decide +kernel
theorem d_SF_init_21 : decode b_SF_init 21 = .ok (.iconst 4, 1) := by decide +kernel
theorem d_SF_init_22 : decode b_SF_init 22 = .ok (.invokespecial 11, 3) := by decide +kernel
theorem d_SF_init_25 : decode b_SF_init 25 = .ok (.putfield 18, 3) := by decide +kernel
theorem d_SF_init_28 : decode b_SF_init 28 = .ok (.aload_n 0, 1) := by decide +kernel
theorem d_SF_init_29 : decode b_SF_init 29 = .ok (.new 7, 3) := by decide +kernel
theorem d_SF_init_32 : decode b_SF_init 32 = .ok (.dup, 1) := by decide +kernel
theorem d_SF_init_33 : decode b_SF_init 33 = .ok (.bipush 40, 2) := by decide +kernel
theorem d_SF_init_35 : decode b_SF_init 35 = .ok (.invokespecial 11, 3) := by decide +kernel
theorem d_SF_init_38 : decode b_SF_init 38 = .ok (.putfield 21, 3) := by decide +kernel
theorem d_SF_init_41 : decode b_SF_init 41 = .ok (.aload_n 0, 1) := by decide +kernel
theorem d_SF_init_42 : decode b_SF_init 42 = .ok (.new 7, 3) := by decide +kernel
theorem d_SF_init_45 : decode b_SF_init 45 = .ok (.dup, 1) := by decide +kernel
theorem d_SF_init_46 : decode b_SF_init 46 = .ok (.bipush 120, 2) := by decide +kernel
theorem d_SF_init_48 : decode b_SF_init 48 = .ok (.invokespecial 11, 3) := by decide +kernel
theorem d_SF_init_51 : decode b_SF_init 51 = .ok (.putfield 24, 3) := by decide +kernel
theorem d_SF_init_54 : decode b_SF_init 54 = .ok (.aload_n 0, 1) := by decide +kernel
theorem d_SF_init_55 : decode b_SF_init 55 = .ok (.new 7, 3) := by decide +kernel
theorem d_SF_init_58 : decode b_SF_init 58 = .ok (.dup, 1) := by decide +kernel
theorem d_SF_init_59 : decode b_SF_init 59 = .ok (.sipush 160, 3) := by decide +kernel
theorem d_SF_init_62 : decode b_SF_init 62 = .ok (.invokespecial 11, 3) := by decide +kernel
theorem d_SF_init_65 : decode b_SF_init 65 = .ok (.putfield 27, 3) := by decide +kernel
theorem d_SF_init_68 : decode b_SF_init 68 = .ok (.aload_n 0, 1) := by decide +kernel
theorem d_SF_init_69 : decode b_SF_init 69 = .ok (.iconst 0, 1) := by decide +kernel
theorem d_SF_init_70 : decode b_SF_init 70 = .ok (.putfield 30, 3) := by decide +kernel
theorem d_SF_init_73 : decode b_SF_init 73 = .ok (.return_, 1) := by decide +kernel
theorem d_SF_key_0 : decode b_SF_key 0 = .ok (.iload_n 1, 1) := by decide +kernel
theorem d_SF_key_1 : decode b_SF_key 1 = .ok (.iconst 2, 1) := by decide +kernel
theorem d_SF_key_2 : decode b_SF_key 2 = .ok (.if_icmp .lt 10, 3) := by decide +kernel
theorem d_SF_key_5 : decode b_SF_key 5 = .ok (.iload_n 1, 1) := by decide +kernel
theorem d_SF_key_6 : decode b_SF_key 6 = .ok (.sipush 32747, 3) := by decide +kernel
theorem d_SF_key_9 : decode b_SF_key 9 = .ok (.if_icmp .le 13, 3) := by decide +kernel
theorem d_SF_key_12 : decode b_SF_key 12 = .ok (.new 34, 3) := by decide +kernel
theorem d_SF_key_15 : decode b_SF_key 15 = .ok (.dup, 1) := by decide +kernel
theorem d_SF_key_16 : decode b_SF_key 16 = .ok (.ldc 36, 2) := by decide +kernel
theorem d_SF_key_18 : decode b_SF_key 18 = .ok (.invokespecial 38, 3) := by decide +kernel
theorem d_SF_key_21 : decode b_SF_key 21 = .ok (.athrow, 1) := by decide +kernel
theorem d_SF_key_22 : decode b_SF_key 22 = .ok (.aload_n 0, 1) := by decide +kernel
theorem d_SF_key_23 : decode b_SF_key 23 = .ok (.getfield 14, 3) := by decide +kernel
theorem d_SF_key_26 : decode b_SF_key 26 = .ok (.iload_n 1, 1) := by decide +kernel
theorem d_SF_key_27 : decode b_SF_key 27 = .ok (.invokevirtual 41, 3) := by decide +kernel
theorem d_SF_key_30 : decode b_SF_key 30 = .ok (.ifCond .ne 13, 3) := by decide +kernel
theorem d_SF_key_33 : decode b_SF_key 33 = .ok (.new 45, 3) := by decide +kernel
theorem d_SF_key_36 : decode b_SF_key 36 = .ok (.dup, 1) := by decide +kernel
theorem d_SF_key_37 : decode b_SF_key 37 = .ok (.ldc 47, 2) := by decide +kernel
theorem d_SF_key_39 : decode b_SF_key 39 = .ok (.invokespecial 49, 3) := by decide +kernel
theorem d_SF_key_42 : decode b_SF_key 42 = .ok (.athrow, 1) := by decide +kernel
theorem d_SF_key_43 : decode b_SF_key 43 = .ok (.aload_n 0, 1) := by decide +kernel
theorem d_SF_key_44 : decode b_SF_key 44 = .ok (.getfield 18, 3) := by decide +kernel
theorem d_SF_key_47 : decode b_SF_key 47 = .ok (.iconst 2, 1) := by decide +kernel
theorem d_SF_key_48 : decode b_SF_key 48 = .ok (.iload_n 1, 1) := by decide +kernel
theorem d_SF_key_49 : decode b_SF_key 49 = .ok (.invokestatic 50, 3) := by decide +kernel
theorem d_SF_key_52 : decode b_SF_key 52 = .ok (.invokevirtual 41, 3) := by decide +kernel
theorem d_SF_key_55 : decode b_SF_key 55 = .ok (.pop, 1) := by decide +kernel
theorem d_SF_key_56 : decode b_SF_key 56 = .ok (.aload_n 0, 1) := by decide +kernel
theorem d_SF_key_57 : decode b_SF_key 57 = .ok (.getfield 14, 3) := by decide +kernel
theorem d_SF_key_60 : decode b_SF_key 60 = .ok (.invokevirtual 56, 3) := by decide +kernel
theorem d_SF_key_63 : decode b_SF_key 63 = .ok (.iconst 1, 1) := by decide +kernel
theorem d_SF_key_64 : decode b_SF_key 64 = .ok (.isub, 1) := by decide +kernel
theorem d_SF_key_65 : decode b_SF_key 65 = .ok (.ireturn, 1) := by decide +kernel
theorem d_SF_load_0 : decode b_SF_load 0 = .ok (.aload_n 0, 1) := by decide +kernel
theorem d_SF_load_1 : decode b_SF_load 1 = .ok (.invokevirtual 140, 3) := by decide +kernel
theorem d_SF_load_4 : decode b_SF_load 4 = .ok (.istore_n 1, 1) := by decide +kernel
theorem d_SF_load_5 : decode b_SF_load 5 = .ok (.iload_n 1, 1) := by decide +kernel
theorem d_SF_load_6 : decode b_SF_load 6 = .ok (.ifCond .eq 7, 3) := by decide +kernel
theorem d_SF_load_9 : decode b_SF_load 9 = .ok (.aload_n 0, 1) := by decide +kernel
theorem d_SF_load_10 : decode b_SF_load 10 = .ok (.invokevirtual 143, 3) := by decide +kernel
theorem d_SF_load_13 : decode b_SF_load 13 = .ok (.aload_n 0, 1) := by decide +kernel
theorem d_SF_load_14 : decode b_SF_load 14 = .ok (.getfield 27, 3) := by decide +kernel
theorem d_SF_load_17 : decode b_SF_load 17 = .ok (.iconst 0, 1) := by decide +kernel
theorem d_SF_load_18 : decode b_SF_load 18 = .ok (.invokevirtual 64, 3) := by decide +kernel
theorem d_SF_load_21 : decode b_SF_load 21 = .ok (.pop, 1) := by decide +kernel
theorem d_SF_load_22 : decode b_SF_load 22 = .ok (.iload_n 1, 1) := by decide +kernel
theorem d_SF_load_23 : decode b_SF_load 23 = .ok (.ifCond .ne 13, 3) := by decide +kernel
theorem d_SF_load_26 : decode b_SF_load 26 = .ok (.new 34, 3) := by decide +kernel
theorem d_SF_load_29 : decode b_SF_load 29 = .ok (.dup, 1) := by decide +kernel
theorem d_SF_load_30 : decode b_SF_load 30 = .ok (.ldc 146, 2) := by decide +kernel
theorem d_SF_load_32 : decode b_SF_load 32 = .ok (.invokespecial 38, 3) := by decide +kernel
theorem d_SF_load_35 : decode b_SF_load 35 = .ok (.athrow, 1) := by decide +kernel
theorem d_SF_load_36 : decode b_SF_load 36 = .ok (.aload_n 0, 1) := by decide +kernel
theorem d_SF_load_37 : decode b_SF_load 37 = .ok (.getfield 24, 3) := by decide +kernel
theorem d_SF_load_40 : decode b_SF_load 40 = .ok (.invokevirtual 56, 3) := by decide +kernel
theorem d_SF_load_43 : decode b_SF_load 43 = .ok (.ireturn, 1) := by decide +kernel
theorem d_SF_open_0 : decode b_SF_open 0 = .ok (.aload_n 0, 1) := by decide +kernel
theorem d_SF_open_1 : decode b_SF_open 1 = .ok (.getfield 14, 3) := by decide +kernel
theorem d_SF_open_4 : decode b_SF_open 4 = .ok (.iload_n 1, 1) := by decide +kernel
theorem d_SF_open_5 : decode b_SF_open 5 = .ok (.invokevirtual 94, 3) := by decide +kernel
theorem d_SF_open_8 : decode b_SF_open 8 = .ok (.ifCond .ne 13, 3) := by decide +kernel
theorem d_SF_open_11 : decode b_SF_open 11 = .ok (.new 34, 3) := by decide +kernel
theorem d_SF_open_14 : decode b_SF_open 14 = .ok (.dup, 1) := by decide +kernel
theorem d_SF_open_15 : decode b_SF_open 15 = .ok (.ldc 97, 2) := by decide +kernel
theorem d_SF_open_17 : decode b_SF_open 17 = .ok (.invokespecial 38, 3) := by decide +kernel
theorem d_SF_open_20 : decode b_SF_open 20 = .ok (.athrow, 1) := by decide +kernel
theorem d_SF_open_21 : decode b_SF_open 21 = .ok (.aload_n 0, 1) := by decide +kernel
theorem d_SF_open_22 : decode b_SF_open 22 = .ok (.iconst 0, 1) := by decide +kernel
theorem d_SF_open_23 : decode b_SF_open 23 = .ok (.putfield 30, 3) := by decide +kernel
theorem d_SF_open_26 : decode b_SF_open 26 = .ok (.aload_n 0, 1) := by decide +kernel
theorem d_SF_open_27 : decode b_SF_open 27 = .ok (.invokevirtual 99, 3) := by decide +kernel
theorem d_SF_open_30 : decode b_SF_open 30 = .ok (.ifCond .ne 5, 3) := by decide +kernel
theorem d_SF_open_33 : decode b_SF_open 33 = .ok (.iconst (-1), 1) := by decide +kernel
theorem d_SF_open_34 : decode b_SF_open 34 = .ok (.ireturn, 1) := by decide +kernel
theorem d_SF_open_35 : decode b_SF_open 35 = .ok (.aload_n 0, 1) := by decide +kernel
theorem d_SF_open_36 : decode b_SF_open 36 = .ok (.iload_n 1, 1) := by decide +kernel
theorem d_SF_open_37 : decode b_SF_open 37 = .ok (.invokevirtual 103, 3) := by decide +kernel
theorem d_SF_open_40 : decode b_SF_open 40 = .ok (.istore_n 2, 1) := by decide +kernel
theorem d_SF_open_41 : decode b_SF_open 41 = .ok (.iload_n 2, 1) := by decide +kernel
theorem d_SF_open_42 : decode b_SF_open 42 = .ok (.ifCond .ge 6, 3) := by decide +kernel
theorem d_SF_open_45 : decode b_SF_open 45 = .ok (.bipush (-2), 2) := by decide +kernel
theorem d_SF_open_47 : decode b_SF_open 47 = .ok (.ireturn, 1) := by decide +kernel
theorem d_SF_open_48 : decode b_SF_open 48 = .ok (.aload_n 0, 1) := by decide +kernel
theorem d_SF_open_49 : decode b_SF_open 49 = .ok (.iload_n 2, 1) := by decide +kernel
theorem d_SF_open_50 : decode b_SF_open 50 = .ok (.iload_n 1, 1) := by decide +kernel
theorem d_SF_open_51 : decode b_SF_open 51 = .ok (.invokevirtual 106, 3) := by decide +kernel
theorem d_SF_open_54 : decode b_SF_open 54 = .ok (.istore_n 3, 1) := by decide +kernel
theorem d_SF_open_55 : decode b_SF_open 55 = .ok (.aload_n 0, 1) := by decide +kernel
theorem d_SF_open_56 : decode b_SF_open 56 = .ok (.invokevirtual 109, 3) := by decide +kernel
theorem d_SF_open_59 : decode b_SF_open 59 = .ok (.istore 4, 2) := by decide +kernel
theorem d_SF_open_61 : decode b_SF_open 61 = .ok (.aload_n 0, 1) := by decide +kernel
theorem d_SF_open_62 : decode b_SF_open 62 = .ok (.getfield 24, 3) := by decide +kernel
theorem d_SF_open_65 : decode b_SF_open 65 = .ok (.iload 4, 2) := by decide +kernel
theorem d_SF_open_67 : decode b_SF_open 67 = .ok (.invokevirtual 112, 3) := by decide +kernel
theorem d_SF_open_70 : decode b_SF_open 70 = .ok (.aload_n 0, 1) := by decide +kernel
theorem d_SF_open_71 : decode b_SF_open 71 = .ok (.iload_n 3, 1) := by decide +kernel
theorem d_SF_open_72 : decode b_SF_open 72 = .ok (.iload 4, 2) := by decide +kernel
theorem d_SF_open_74 : decode b_SF_open 74 = .ok (.invokevirtual 85, 3) := by decide +kernel
theorem d_SF_open_77 : decode b_SF_open 77 = .ok (.if_icmp .eq 6, 3) := by decide +kernel
theorem d_SF_open_80 : decode b_SF_open 80 = .ok (.bipush (-3), 2) := by decide +kernel
theorem d_SF_open_82 : decode b_SF_open 82 = .ok (.ireturn, 1) := by decide +kernel
theorem d_SF_open_83 : decode b_SF_open 83 = .ok (.aload_n 0, 1) := by decide +kernel
theorem d_SF_open_84 : decode b_SF_open 84 = .ok (.iload_n 3, 1) := by decide +kernel
theorem d_SF_open_85 : decode b_SF_open 85 = .ok (.iload 4, 2) := by decide +kernel
theorem d_SF_open_87 : decode b_SF_open 87 = .ok (.iconst 2, 1) := by decide +kernel
theorem d_SF_open_88 : decode b_SF_open 88 = .ok (.iadd, 1) := by decide +kernel
theorem d_SF_open_89 : decode b_SF_open 89 = .ok (.invokevirtual 115, 3) := by decide +kernel
theorem d_SF_open_92 : decode b_SF_open 92 = .ok (.ireturn, 1) := by decide +kernel
theorem d_SF_pieceSign_0 : decode b_SF_pieceSign 0 = .ok (.iload 5, 2) := by decide +kernel
theorem d_SF_pieceSign_2 : decode b_SF_pieceSign 2 = .ok (.ifCond .eq 8, 3) := by decide +kernel
theorem d_SF_pieceSign_5 : decode b_SF_pieceSign 5 = .ok (.bipush 6, 2) := by decide +kernel
theorem d_SF_pieceSign_7 : decode b_SF_pieceSign 7 = .ok (.goto 4, 3) := by decide +kernel
theorem d_SF_pieceSign_10 : decode b_SF_pieceSign 10 = .ok (.iconst 5, 1) := by decide +kernel
theorem d_SF_pieceSign_11 : decode b_SF_pieceSign 11 = .ok (.istore 6, 2) := by decide +kernel
theorem d_SF_pieceSign_13 : decode b_SF_pieceSign 13 = .ok (.aload_n 0, 1) := by decide +kernel
theorem d_SF_pieceSign_14 : decode b_SF_pieceSign 14 = .ok (.getfield 24, 3) := by decide +kernel
theorem d_SF_pieceSign_17 : decode b_SF_pieceSign 17 = .ok (.iload_n 3, 1) := by decide +kernel
theorem d_SF_pieceSign_18 : decode b_SF_pieceSign 18 = .ok (.iload 4, 2) := by decide +kernel
theorem d_SF_pieceSign_20 : decode b_SF_pieceSign 20 = .ok (.iload_n 1, 1) := by decide +kernel
theorem d_SF_pieceSign_21 : decode b_SF_pieceSign 21 = .ok (.iload_n 2, 1) := by decide +kernel
theorem d_SF_pieceSign_22 : decode b_SF_pieceSign 22 = .ok (.iload 6, 2) := by decide +kernel
theorem d_SF_pieceSign_24 : decode b_SF_pieceSign 24 = .ok (.invokestatic 148, 3) := by decide +kernel
theorem d_SF_pieceSign_27 : decode b_SF_pieceSign 27 = .ok (.invokevirtual 155, 3) := by decide +kernel
theorem d_SF_pieceSign_30 : decode b_SF_pieceSign 30 = .ok (.ireturn, 1) := by decide +kernel
theorem d_SF_pieces_0 : decode b_SF_pieces 0 = .ok (.aload_n 0, 1) := by decide +kernel
theorem d_SF_pieces_1 : decode b_SF_pieces 1 = .ok (.getfield 30, 3) := by decide +kernel
theorem d_SF_pieces_4 : decode b_SF_pieces 4 = .ok (.ireturn, 1) := by decide +kernel
theorem d_SF_print_0 : decode b_SF_print 0 = .ok (.aload_n 0, 1) := by decide +kernel
theorem d_SF_print_1 : decode b_SF_print 1 = .ok (.getfield 24, 3) := by decide +kernel
theorem d_SF_print_4 : decode b_SF_print 4 = .ok (.invokevirtual 56, 3) := by decide +kernel
theorem d_SF_print_7 : decode b_SF_print 7 = .ok (.bipush 8, 2) := by decide +kernel
theorem d_SF_print_9 : decode b_SF_print 9 = .ok (.imul, 1) := by decide +kernel
theorem d_SF_print_10 : decode b_SF_print 10 = .ok (.iconst 5, 1) := by decide +kernel
theorem d_SF_print_11 : decode b_SF_print 11 = .ok (.iadd, 1) := by decide +kernel
theorem d_SF_print_12 : decode b_SF_print 12 = .ok (.bipush 6, 2) := by decide +kernel
theorem d_SF_print_14 : decode b_SF_print 14 = .ok (.idiv, 1) := by decide +kernel
theorem d_SF_print_15 : decode b_SF_print 15 = .ok (.istore_n 2, 1) := by decide +kernel
theorem d_SF_print_16 : decode b_SF_print 16 = .ok (.iload_n 1, 1) := by decide +kernel
theorem d_SF_print_17 : decode b_SF_print 17 = .ok (.ifCond .lt 8, 3) := by decide +kernel
theorem d_SF_print_20 : decode b_SF_print 20 = .ok (.iload_n 1, 1) := by decide +kernel
theorem d_SF_print_21 : decode b_SF_print 21 = .ok (.iload_n 2, 1) := by decide +kernel
theorem d_SF_print_22 : decode b_SF_print 22 = .ok (.if_icmp .lt 5, 3) := by decide +kernel
theorem d_SF_print_25 : decode b_SF_print 25 = .ok (.iconst (-1), 1) := by decide +kernel
theorem d_SF_print_26 : decode b_SF_print 26 = .ok (.ireturn, 1) := by decide +kernel
theorem d_SF_print_27 : decode b_SF_print 27 = .ok (.iload_n 1, 1) := by decide +kernel
theorem d_SF_print_28 : decode b_SF_print 28 = .ok (.bipush 6, 2) := by decide +kernel
theorem d_SF_print_30 : decode b_SF_print 30 = .ok (.imul, 1) := by decide +kernel
theorem d_SF_print_31 : decode b_SF_print 31 = .ok (.bipush 8, 2) := by decide +kernel
theorem d_SF_print_33 : decode b_SF_print 33 = .ok (.idiv, 1) := by decide +kernel
theorem d_SF_print_34 : decode b_SF_print 34 = .ok (.istore_n 3, 1) := by decide +kernel
theorem d_SF_print_35 : decode b_SF_print 35 = .ok (.iload_n 1, 1) := by decide +kernel
theorem d_SF_print_36 : decode b_SF_print 36 = .ok (.bipush 6, 2) := by decide +kernel
theorem d_SF_print_38 : decode b_SF_print 38 = .ok (.imul, 1) := by decide +kernel
theorem d_SF_print_39 : decode b_SF_print 39 = .ok (.bipush 8, 2) := by decide +kernel
theorem d_SF_print_41 : decode b_SF_print 41 = .ok (.irem, 1) := by decide +kernel
theorem d_SF_print_42 : decode b_SF_print 42 = .ok (.istore 4, 2) := by decide +kernel
theorem d_SF_print_44 : decode b_SF_print 44 = .ok (.aload_n 0, 1) := by decide +kernel
theorem d_SF_print_45 : decode b_SF_print 45 = .ok (.getfield 24, 3) := by decide +kernel
theorem d_SF_print_48 : decode b_SF_print 48 = .ok (.iload_n 3, 1) := by decide +kernel
theorem d_SF_print_49 : decode b_SF_print 49 = .ok (.iconst 1, 1) := by decide +kernel
theorem d_SF_print_50 : decode b_SF_print 50 = .ok (.iadd, 1) := by decide +kernel
theorem d_SF_print_51 : decode b_SF_print 51 = .ok (.invokevirtual 94, 3) := by decide +kernel
theorem d_SF_print_54 : decode b_SF_print 54 = .ok (.ifCond .eq 16, 3) := by decide +kernel
theorem d_SF_print_57 : decode b_SF_print 57 = .ok (.aload_n 0, 1) := by decide +kernel
theorem d_SF_print_58 : decode b_SF_print 58 = .ok (.getfield 24, 3) := by decide +kernel
theorem d_SF_print_61 : decode b_SF_print 61 = .ok (.iload_n 3, 1) := by decide +kernel
theorem d_SF_print_62 : decode b_SF_print 62 = .ok (.iconst 1, 1) := by decide +kernel
theorem d_SF_print_63 : decode b_SF_print 63 = .ok (.iadd, 1) := by decide +kernel
theorem d_SF_print_64 : decode b_SF_print 64 = .ok (.invokevirtual 60, 3) := by decide +kernel
theorem d_SF_print_67 : decode b_SF_print 67 = .ok (.goto 4, 3) := by decide +kernel
theorem d_SF_print_70 : decode b_SF_print 70 = .ok (.iconst 0, 1) := by decide +kernel
theorem d_SF_print_71 : decode b_SF_print 71 = .ok (.istore 5, 2) := by decide +kernel
theorem d_SF_print_73 : decode b_SF_print 73 = .ok (.aload_n 0, 1) := by decide +kernel
theorem d_SF_print_74 : decode b_SF_print 74 = .ok (.getfield 24, 3) := by decide +kernel
theorem d_SF_print_77 : decode b_SF_print 77 = .ok (.iload_n 3, 1) := by decide +kernel
theorem d_SF_print_78 : decode b_SF_print 78 = .ok (.invokevirtual 60, 3) := by decide +kernel
theorem d_SF_print_81 : decode b_SF_print 81 = .ok (.bipush 8, 2) := by decide +kernel
theorem d_SF_print_83 : decode b_SF_print 83 = .ok (.ishl, 1) := by decide +kernel
theorem d_SF_print_84 : decode b_SF_print 84 = .ok (.iload 5, 2) := by decide +kernel
theorem d_SF_print_86 : decode b_SF_print 86 = .ok (.ior, 1) := by decide +kernel
theorem d_SF_print_87 : decode b_SF_print 87 = .ok (.istore 6, 2) := by decide +kernel
theorem d_SF_print_89 : decode b_SF_print 89 = .ok (.ldc 129, 2) := by decide +kernel
theorem d_SF_print_91 : decode b_SF_print 91 = .ok (.iload 6, 2) := by decide +kernel
theorem d_SF_print_93 : decode b_SF_print 93 = .ok (.bipush 10, 2) := by decide +kernel
theorem d_SF_print_95 : decode b_SF_print 95 = .ok (.iload 4, 2) := by decide +kernel
theorem d_SF_print_97 : decode b_SF_print 97 = .ok (.isub, 1) := by decide +kernel
theorem d_SF_print_98 : decode b_SF_print 98 = .ok (.iushr, 1) := by decide +kernel
theorem d_SF_print_99 : decode b_SF_print 99 = .ok (.bipush 63, 2) := by decide +kernel
theorem d_SF_print_101 : decode b_SF_print 101 = .ok (.iand, 1) := by decide +kernel
theorem d_SF_print_102 : decode b_SF_print 102 = .ok (.invokevirtual 131, 3) := by decide +kernel
theorem d_SF_print_105 : decode b_SF_print 105 = .ok (.ireturn, 1) := by decide +kernel
theorem d_SF_put_0 : decode b_SF_put 0 = .ok (.iload_n 1, 1) := by decide +kernel
theorem d_SF_put_1 : decode b_SF_put 1 = .ok (.ifCond .lt 25, 3) := by decide +kernel
theorem d_SF_put_4 : decode b_SF_put 4 = .ok (.iload_n 1, 1) := by decide +kernel
theorem d_SF_put_5 : decode b_SF_put 5 = .ok (.sipush 255, 3) := by decide +kernel
theorem d_SF_put_8 : decode b_SF_put 8 = .ok (.if_icmp .gt 18, 3) := by decide +kernel
theorem d_SF_put_11 : decode b_SF_put 11 = .ok (.aload_n 0, 1) := by decide +kernel
theorem d_SF_put_12 : decode b_SF_put 12 = .ok (.getfield 21, 3) := by decide +kernel
theorem d_SF_put_15 : decode b_SF_put 15 = .ok (.iload_n 1, 1) := by decide +kernel
theorem d_SF_put_16 : decode b_SF_put 16 = .ok (.invokevirtual 41, 3) := by decide +kernel
theorem d_SF_put_19 : decode b_SF_put 19 = .ok (.ifCond .eq 7, 3) := by decide +kernel
theorem d_SF_put_22 : decode b_SF_put 22 = .ok (.iconst 1, 1) := by decide +kernel
theorem d_SF_put_23 : decode b_SF_put 23 = .ok (.goto 4, 3) := by decide +kernel
theorem d_SF_put_26 : decode b_SF_put 26 = .ok (.iconst 0, 1) := by decide +kernel
theorem d_SF_put_27 : decode b_SF_put 27 = .ok (.ireturn, 1) := by decide +kernel
theorem d_SF_read_0 : decode b_SF_read 0 = .ok (.aload_n 0, 1) := by decide +kernel
theorem d_SF_read_1 : decode b_SF_read 1 = .ok (.getfield 21, 3) := by decide +kernel
theorem d_SF_read_4 : decode b_SF_read 4 = .ok (.iload_n 1, 1) := by decide +kernel
theorem d_SF_read_5 : decode b_SF_read 5 = .ok (.invokevirtual 94, 3) := by decide +kernel
theorem d_SF_read_8 : decode b_SF_read 8 = .ok (.ifCond .ne 13, 3) := by decide +kernel
theorem d_SF_read_11 : decode b_SF_read 11 = .ok (.new 118, 3) := by decide +kernel
theorem d_SF_read_14 : decode b_SF_read 14 = .ok (.dup, 1) := by decide +kernel
theorem d_SF_read_15 : decode b_SF_read 15 = .ok (.ldc 120, 2) := by decide +kernel
theorem d_SF_read_17 : decode b_SF_read 17 = .ok (.invokespecial 122, 3) := by decide +kernel
theorem d_SF_read_20 : decode b_SF_read 20 = .ok (.athrow, 1) := by decide +kernel
theorem d_SF_read_21 : decode b_SF_read 21 = .ok (.aload_n 0, 1) := by decide +kernel
theorem d_SF_read_22 : decode b_SF_read 22 = .ok (.getfield 21, 3) := by decide +kernel
theorem d_SF_read_25 : decode b_SF_read 25 = .ok (.iload_n 1, 1) := by decide +kernel
theorem d_SF_read_26 : decode b_SF_read 26 = .ok (.invokevirtual 60, 3) := by decide +kernel
theorem d_SF_read_29 : decode b_SF_read 29 = .ok (.ireturn, 1) := by decide +kernel
theorem d_SF_seal_0 : decode b_SF_seal 0 = .ok (.aload_n 0, 1) := by decide +kernel
theorem d_SF_seal_1 : decode b_SF_seal 1 = .ok (.iload_n 1, 1) := by decide +kernel
theorem d_SF_seal_2 : decode b_SF_seal 2 = .ok (.invokevirtual 67, 3) := by decide +kernel
theorem d_SF_seal_5 : decode b_SF_seal 5 = .ok (.ifCond .ne 13, 3) := by decide +kernel
theorem d_SF_seal_8 : decode b_SF_seal 8 = .ok (.new 34, 3) := by decide +kernel
theorem d_SF_seal_11 : decode b_SF_seal 11 = .ok (.dup, 1) := by decide +kernel
theorem d_SF_seal_12 : decode b_SF_seal 12 = .ok (.ldc 70, 2) := by decide +kernel
theorem d_SF_seal_14 : decode b_SF_seal 14 = .ok (.invokespecial 38, 3) := by decide +kernel
theorem d_SF_seal_17 : decode b_SF_seal 17 = .ok (.athrow, 1) := by decide +kernel
theorem d_SF_seal_18 : decode b_SF_seal 18 = .ok (.aload_n 0, 1) := by decide +kernel
theorem d_SF_seal_19 : decode b_SF_seal 19 = .ok (.getfield 24, 3) := by decide +kernel
theorem d_SF_seal_22 : decode b_SF_seal 22 = .ok (.iconst 0, 1) := by decide +kernel
theorem d_SF_seal_23 : decode b_SF_seal 23 = .ok (.invokevirtual 64, 3) := by decide +kernel
theorem d_SF_seal_26 : decode b_SF_seal 26 = .ok (.pop, 1) := by decide +kernel
theorem d_SF_seal_27 : decode b_SF_seal 27 = .ok (.aload_n 0, 1) := by decide +kernel
theorem d_SF_seal_28 : decode b_SF_seal 28 = .ok (.getfield 24, 3) := by decide +kernel
theorem d_SF_seal_31 : decode b_SF_seal 31 = .ok (.bipush 83, 2) := by decide +kernel
theorem d_SF_seal_33 : decode b_SF_seal 33 = .ok (.invokevirtual 41, 3) := by decide +kernel
theorem d_SF_seal_36 : decode b_SF_seal 36 = .ok (.pop, 1) := by decide +kernel
theorem d_SF_seal_37 : decode b_SF_seal 37 = .ok (.aload_n 0, 1) := by decide +kernel
theorem d_SF_seal_38 : decode b_SF_seal 38 = .ok (.getfield 24, 3) := by decide +kernel
theorem d_SF_seal_41 : decode b_SF_seal 41 = .ok (.iload_n 1, 1) := by decide +kernel
theorem d_SF_seal_42 : decode b_SF_seal 42 = .ok (.invokestatic 72, 3) := by decide +kernel
theorem d_SF_seal_45 : decode b_SF_seal 45 = .ok (.invokevirtual 41, 3) := by decide +kernel
theorem d_SF_seal_48 : decode b_SF_seal 48 = .ok (.pop, 1) := by decide +kernel
theorem d_SF_seal_49 : decode b_SF_seal 49 = .ok (.iconst 0, 1) := by decide +kernel
theorem d_SF_seal_50 : decode b_SF_seal 50 = .ok (.istore 4, 2) := by decide +kernel
theorem d_SF_seal_52 : decode b_SF_seal 52 = .ok (.iload 4, 2) := by decide +kernel
theorem d_SF_seal_54 : decode b_SF_seal 54 = .ok (.aload_n 0, 1) := by decide +kernel
theorem d_SF_seal_55 : decode b_SF_seal 55 = .ok (.getfield 14, 3) := by decide +kernel
theorem d_SF_seal_58 : decode b_SF_seal 58 = .ok (.invokevirtual 56, 3) := by decide +kernel
theorem d_SF_seal_61 : decode b_SF_seal 61 = .ok (.if_icmp .ge 40, 3) := by decide +kernel
theorem d_SF_seal_64 : decode b_SF_seal 64 = .ok (.iload_n 1, 1) := by decide +kernel
theorem d_SF_seal_65 : decode b_SF_seal 65 = .ok (.iload 4, 2) := by decide +kernel
theorem d_SF_seal_67 : decode b_SF_seal 67 = .ok (.iushr, 1) := by decide +kernel
theorem d_SF_seal_68 : decode b_SF_seal 68 = .ok (.iconst 1, 1) := by decide +kernel
theorem d_SF_seal_69 : decode b_SF_seal 69 = .ok (.iand, 1) := by decide +kernel
theorem d_SF_seal_70 : decode b_SF_seal 70 = .ok (.iconst 1, 1) := by decide +kernel
theorem d_SF_seal_71 : decode b_SF_seal 71 = .ok (.if_icmp .ne 24, 3) := by decide +kernel
theorem d_SF_seal_74 : decode b_SF_seal 74 = .ok (.aload_n 0, 1) := by decide +kernel
theorem d_SF_seal_75 : decode b_SF_seal 75 = .ok (.aload_n 0, 1) := by decide +kernel
theorem d_SF_seal_76 : decode b_SF_seal 76 = .ok (.getfield 18, 3) := by decide +kernel
theorem d_SF_seal_79 : decode b_SF_seal 79 = .ok (.iload 4, 2) := by decide +kernel
theorem d_SF_seal_81 : decode b_SF_seal 81 = .ok (.invokevirtual 60, 3) := by decide +kernel
theorem d_SF_seal_84 : decode b_SF_seal 84 = .ok (.iload_n 2, 1) := by decide +kernel
theorem d_SF_seal_85 : decode b_SF_seal 85 = .ok (.iload_n 2, 1) := by decide +kernel
theorem d_SF_seal_86 : decode b_SF_seal 86 = .ok (.iload_n 3, 1) := by decide +kernel
theorem d_SF_seal_87 : decode b_SF_seal 87 = .ok (.iload 4, 2) := by decide +kernel
theorem d_SF_seal_89 : decode b_SF_seal 89 = .ok (.invokestatic 77, 3) := by decide +kernel
theorem d_SF_seal_92 : decode b_SF_seal 92 = .ok (.invokevirtual 81, 3) := by decide +kernel
theorem d_SF_seal_95 : decode b_SF_seal 95 = .ok (.iinc 4 1, 3) := by decide +kernel
theorem d_SF_seal_98 : decode b_SF_seal 98 = .ok (.goto (-46), 3) := by decide +kernel
theorem d_SF_seal_101 : decode b_SF_seal 101 = .ok (.aload_n 0, 1) := by decide +kernel
theorem d_SF_seal_102 : decode b_SF_seal 102 = .ok (.getfield 24, 3) := by decide +kernel
theorem d_SF_seal_105 : decode b_SF_seal 105 = .ok (.aload_n 0, 1) := by decide +kernel
theorem d_SF_seal_106 : decode b_SF_seal 106 = .ok (.iload_n 2, 1) := by decide +kernel
theorem d_SF_seal_107 : decode b_SF_seal 107 = .ok (.aload_n 0, 1) := by decide +kernel
theorem d_SF_seal_108 : decode b_SF_seal 108 = .ok (.getfield 24, 3) := by decide +kernel
theorem d_SF_seal_111 : decode b_SF_seal 111 = .ok (.invokevirtual 56, 3) := by decide +kernel
theorem d_SF_seal_114 : decode b_SF_seal 114 = .ok (.invokevirtual 85, 3) := by decide +kernel
theorem d_SF_seal_117 : decode b_SF_seal 117 = .ok (.invokevirtual 88, 3) := by decide +kernel
theorem d_SF_seal_120 : decode b_SF_seal 120 = .ok (.aload_n 0, 1) := by decide +kernel
theorem d_SF_seal_121 : decode b_SF_seal 121 = .ok (.iload_n 2, 1) := by decide +kernel
theorem d_SF_seal_122 : decode b_SF_seal 122 = .ok (.invokevirtual 91, 3) := by decide +kernel
theorem d_SF_seal_125 : decode b_SF_seal 125 = .ok (.aload_n 0, 1) := by decide +kernel
theorem d_SF_seal_126 : decode b_SF_seal 126 = .ok (.getfield 24, 3) := by decide +kernel
theorem d_SF_seal_129 : decode b_SF_seal 129 = .ok (.invokevirtual 56, 3) := by decide +kernel
theorem d_SF_seal_132 : decode b_SF_seal 132 = .ok (.ireturn, 1) := by decide +kernel
theorem d_SF_takeDraft_0 : decode b_SF_takeDraft 0 = .ok (.aload_n 0, 1) := by decide +kernel
theorem d_SF_takeDraft_1 : decode b_SF_takeDraft 1 = .ok (.getfield 24, 3) := by decide +kernel
theorem d_SF_takeDraft_4 : decode b_SF_takeDraft 4 = .ok (.iconst 0, 1) := by decide +kernel
theorem d_SF_takeDraft_5 : decode b_SF_takeDraft 5 = .ok (.invokevirtual 64, 3) := by decide +kernel
theorem d_SF_takeDraft_8 : decode b_SF_takeDraft 8 = .ok (.pop, 1) := by decide +kernel
theorem d_SF_takeDraft_9 : decode b_SF_takeDraft 9 = .ok (.aload_n 0, 1) := by decide +kernel
theorem d_SF_takeDraft_10 : decode b_SF_takeDraft 10 = .ok (.invokevirtual 181, 3) := by decide +kernel
theorem d_SF_takeDraft_13 : decode b_SF_takeDraft 13 = .ok (.istore_n 1, 1) := by decide +kernel
theorem d_SF_takeDraft_14 : decode b_SF_takeDraft 14 = .ok (.iconst 0, 1) := by decide +kernel
theorem d_SF_takeDraft_15 : decode b_SF_takeDraft 15 = .ok (.istore_n 2, 1) := by decide +kernel
theorem d_SF_takeDraft_16 : decode b_SF_takeDraft 16 = .ok (.iload_n 2, 1) := by decide +kernel
theorem d_SF_takeDraft_17 : decode b_SF_takeDraft 17 = .ok (.iload_n 1, 1) := by decide +kernel
theorem d_SF_takeDraft_18 : decode b_SF_takeDraft 18 = .ok (.if_icmp .ge 69, 3) := by decide +kernel
theorem d_SF_takeDraft_21 : decode b_SF_takeDraft 21 = .ok (.iload_n 2, 1) := by decide +kernel
theorem d_SF_takeDraft_22 : decode b_SF_takeDraft 22 = .ok (.bipush 8, 2) := by decide +kernel
theorem d_SF_takeDraft_24 : decode b_SF_takeDraft 24 = .ok (.imul, 1) := by decide +kernel
theorem d_SF_takeDraft_25 : decode b_SF_takeDraft 25 = .ok (.bipush 6, 2) := by decide +kernel
theorem d_SF_takeDraft_27 : decode b_SF_takeDraft 27 = .ok (.idiv, 1) := by decide +kernel
theorem d_SF_takeDraft_28 : decode b_SF_takeDraft 28 = .ok (.istore_n 3, 1) := by decide +kernel
theorem d_SF_takeDraft_29 : decode b_SF_takeDraft 29 = .ok (.iload_n 2, 1) := by decide +kernel
theorem d_SF_takeDraft_30 : decode b_SF_takeDraft 30 = .ok (.bipush 8, 2) := by decide +kernel
theorem d_SF_takeDraft_32 : decode b_SF_takeDraft 32 = .ok (.imul, 1) := by decide +kernel
theorem d_SF_takeDraft_33 : decode b_SF_takeDraft 33 = .ok (.bipush 6, 2) := by decide +kernel
theorem d_SF_takeDraft_35 : decode b_SF_takeDraft 35 = .ok (.irem, 1) := by decide +kernel
theorem d_SF_takeDraft_36 : decode b_SF_takeDraft 36 = .ok (.istore 4, 2) := by decide +kernel
theorem d_SF_takeDraft_38 : decode b_SF_takeDraft 38 = .ok (.aload_n 0, 1) := by decide +kernel
theorem d_SF_takeDraft_39 : decode b_SF_takeDraft 39 = .ok (.getfield 27, 3) := by decide +kernel
theorem d_SF_takeDraft_42 : decode b_SF_takeDraft 42 = .ok (.iload_n 3, 1) := by decide +kernel
theorem d_SF_takeDraft_43 : decode b_SF_takeDraft 43 = .ok (.invokevirtual 60, 3) := by decide +kernel
theorem d_SF_takeDraft_46 : decode b_SF_takeDraft 46 = .ok (.bipush 6, 2) := by decide +kernel
theorem d_SF_takeDraft_48 : decode b_SF_takeDraft 48 = .ok (.ishl, 1) := by decide +kernel
theorem d_SF_takeDraft_49 : decode b_SF_takeDraft 49 = .ok (.aload_n 0, 1) := by decide +kernel
theorem d_SF_takeDraft_50 : decode b_SF_takeDraft 50 = .ok (.getfield 27, 3) := by decide +kernel
theorem d_SF_takeDraft_53 : decode b_SF_takeDraft 53 = .ok (.iload_n 3, 1) := by decide +kernel
theorem d_SF_takeDraft_54 : decode b_SF_takeDraft 54 = .ok (.iconst 1, 1) := by decide +kernel
theorem d_SF_takeDraft_55 : decode b_SF_takeDraft 55 = .ok (.iadd, 1) := by decide +kernel
theorem d_SF_takeDraft_56 : decode b_SF_takeDraft 56 = .ok (.invokevirtual 60, 3) := by decide +kernel
theorem d_SF_takeDraft_59 : decode b_SF_takeDraft 59 = .ok (.ior, 1) := by decide +kernel
theorem d_SF_takeDraft_60 : decode b_SF_takeDraft 60 = .ok (.istore 5, 2) := by decide +kernel
theorem d_SF_takeDraft_62 : decode b_SF_takeDraft 62 = .ok (.aload_n 0, 1) := by decide +kernel
theorem d_SF_takeDraft_63 : decode b_SF_takeDraft 63 = .ok (.getfield 24, 3) := by decide +kernel
theorem d_SF_takeDraft_66 : decode b_SF_takeDraft 66 = .ok (.iload 5, 2) := by decide +kernel
theorem d_SF_takeDraft_68 : decode b_SF_takeDraft 68 = .ok (.iconst 4, 1) := by decide +kernel
theorem d_SF_takeDraft_69 : decode b_SF_takeDraft 69 = .ok (.iload 4, 2) := by decide +kernel
theorem d_SF_takeDraft_71 : decode b_SF_takeDraft 71 = .ok (.isub, 1) := by decide +kernel
theorem d_SF_takeDraft_72 : decode b_SF_takeDraft 72 = .ok (.iushr, 1) := by decide +kernel
theorem d_SF_takeDraft_73 : decode b_SF_takeDraft 73 = .ok (.sipush 255, 3) := by decide +kernel
theorem d_SF_takeDraft_76 : decode b_SF_takeDraft 76 = .ok (.iand, 1) := by decide +kernel
theorem d_SF_takeDraft_77 : decode b_SF_takeDraft 77 = .ok (.invokevirtual 41, 3) := by decide +kernel
theorem d_SF_takeDraft_80 : decode b_SF_takeDraft 80 = .ok (.pop, 1) := by decide +kernel
theorem d_SF_takeDraft_81 : decode b_SF_takeDraft 81 = .ok (.iinc 2 1, 3) := by decide +kernel
theorem d_SF_takeDraft_84 : decode b_SF_takeDraft 84 = .ok (.goto (-68), 3) := by decide +kernel
theorem d_SF_takeDraft_87 : decode b_SF_takeDraft 87 = .ok (.return_, 1) := by decide +kernel
theorem d_SF_takePieces_0 : decode b_SF_takePieces 0 = .ok (.aload_n 0, 1) := by decide +kernel
theorem d_SF_takePieces_1 : decode b_SF_takePieces 1 = .ok (.getfield 21, 3) := by decide +kernel
theorem d_SF_takePieces_4 : decode b_SF_takePieces 4 = .ok (.iconst 0, 1) := by decide +kernel
theorem d_SF_takePieces_5 : decode b_SF_takePieces 5 = .ok (.invokevirtual 64, 3) := by decide +kernel
theorem d_SF_takePieces_8 : decode b_SF_takePieces 8 = .ok (.pop, 1) := by decide +kernel
theorem d_SF_takePieces_9 : decode b_SF_takePieces 9 = .ok (.bipush 10, 2) := by decide +kernel
theorem d_SF_takePieces_11 : decode b_SF_takePieces 11 = .ok (.istore_n 3, 1) := by decide +kernel
theorem d_SF_takePieces_12 : decode b_SF_takePieces 12 = .ok (.aload_n 0, 1) := by decide +kernel
theorem d_SF_takePieces_13 : decode b_SF_takePieces 13 = .ok (.getfield 24, 3) := by decide +kernel
theorem d_SF_takePieces_16 : decode b_SF_takePieces 16 = .ok (.invokevirtual 56, 3) := by decide +kernel
theorem d_SF_takePieces_19 : decode b_SF_takePieces 19 = .ok (.iload_n 2, 1) := by decide +kernel
theorem d_SF_takePieces_20 : decode b_SF_takePieces 20 = .ok (.isub, 1) := by decide +kernel
theorem d_SF_takePieces_21 : decode b_SF_takePieces 21 = .ok (.iconst 1, 1) := by decide +kernel
theorem d_SF_takePieces_22 : decode b_SF_takePieces 22 = .ok (.isub, 1) := by decide +kernel
theorem d_SF_takePieces_23 : decode b_SF_takePieces 23 = .ok (.iload_n 3, 1) := by decide +kernel
theorem d_SF_takePieces_24 : decode b_SF_takePieces 24 = .ok (.idiv, 1) := by decide +kernel
theorem d_SF_takePieces_25 : decode b_SF_takePieces 25 = .ok (.istore 4, 2) := by decide +kernel
theorem d_SF_takePieces_27 : decode b_SF_takePieces 27 = .ok (.iconst 0, 1) := by decide +kernel
theorem d_SF_takePieces_28 : decode b_SF_takePieces 28 = .ok (.istore 5, 2) := by decide +kernel
theorem d_SF_takePieces_30 : decode b_SF_takePieces 30 = .ok (.iload 5, 2) := by decide +kernel
theorem d_SF_takePieces_32 : decode b_SF_takePieces 32 = .ok (.iload 4, 2) := by decide +kernel
theorem d_SF_takePieces_34 : decode b_SF_takePieces 34 = .ok (.if_icmp .gt 149, 3) := by decide +kernel
theorem d_SF_takePieces_37 : decode b_SF_takePieces 37 = .ok (.iload 5, 2) := by decide +kernel
theorem d_SF_takePieces_39 : decode b_SF_takePieces 39 = .ok (.iload 4, 2) := by decide +kernel
theorem d_SF_takePieces_41 : decode b_SF_takePieces 41 = .ok (.if_icmp .ne 7, 3) := by decide +kernel
theorem d_SF_takePieces_44 : decode b_SF_takePieces 44 = .ok (.iconst 1, 1) := by decide +kernel
theorem d_SF_takePieces_45 : decode b_SF_takePieces 45 = .ok (.goto 4, 3) := by decide +kernel
theorem d_SF_takePieces_48 : decode b_SF_takePieces 48 = .ok (.iconst 0, 1) := by decide +kernel
theorem d_SF_takePieces_49 : decode b_SF_takePieces 49 = .ok (.istore 6, 2) := by decide +kernel
theorem d_SF_takePieces_51 : decode b_SF_takePieces 51 = .ok (.iload_n 2, 1) := by decide +kernel
theorem d_SF_takePieces_52 : decode b_SF_takePieces 52 = .ok (.iload 5, 2) := by decide +kernel
theorem d_SF_takePieces_54 : decode b_SF_takePieces 54 = .ok (.iload_n 3, 1) := by decide +kernel
theorem d_SF_takePieces_55 : decode b_SF_takePieces 55 = .ok (.imul, 1) := by decide +kernel
theorem d_SF_takePieces_56 : decode b_SF_takePieces 56 = .ok (.iadd, 1) := by decide +kernel
theorem d_SF_takePieces_57 : decode b_SF_takePieces 57 = .ok (.istore 7, 2) := by decide +kernel
theorem d_SF_takePieces_59 : decode b_SF_takePieces 59 = .ok (.iload 6, 2) := by decide +kernel
theorem d_SF_takePieces_61 : decode b_SF_takePieces 61 = .ok (.ifCond .eq 15, 3) := by decide +kernel
theorem d_SF_takePieces_64 : decode b_SF_takePieces 64 = .ok (.aload_n 0, 1) := by decide +kernel
theorem d_SF_takePieces_65 : decode b_SF_takePieces 65 = .ok (.getfield 24, 3) := by decide +kernel
theorem d_SF_takePieces_68 : decode b_SF_takePieces 68 = .ok (.invokevirtual 56, 3) := by decide +kernel
theorem d_SF_takePieces_71 : decode b_SF_takePieces 71 = .ok (.iconst 2, 1) := by decide +kernel
theorem d_SF_takePieces_72 : decode b_SF_takePieces 72 = .ok (.isub, 1) := by decide +kernel
theorem d_SF_takePieces_73 : decode b_SF_takePieces 73 = .ok (.goto 8, 3) := by decide +kernel
theorem d_SF_takePieces_76 : decode b_SF_takePieces 76 = .ok (.iload 7, 2) := by decide +kernel
theorem d_SF_takePieces_78 : decode b_SF_takePieces 78 = .ok (.bipush 8, 2) := by decide +kernel
theorem d_SF_takePieces_80 : decode b_SF_takePieces 80 = .ok (.iadd, 1) := by decide +kernel
theorem d_SF_takePieces_81 : decode b_SF_takePieces 81 = .ok (.istore 8, 2) := by decide +kernel
theorem d_SF_takePieces_83 : decode b_SF_takePieces 83 = .ok (.iload 8, 2) := by decide +kernel
theorem d_SF_takePieces_85 : decode b_SF_takePieces 85 = .ok (.iload 7, 2) := by decide +kernel
theorem d_SF_takePieces_87 : decode b_SF_takePieces 87 = .ok (.if_icmp .ge 6, 3) := by decide +kernel
theorem d_SF_takePieces_90 : decode b_SF_takePieces 90 = .ok (.bipush (-4), 2) := by decide +kernel
theorem d_SF_takePieces_92 : decode b_SF_takePieces 92 = .ok (.ireturn, 1) := by decide +kernel
theorem d_SF_takePieces_93 : decode b_SF_takePieces 93 = .ok (.aload_n 0, 1) := by decide +kernel
theorem d_SF_takePieces_94 : decode b_SF_takePieces 94 = .ok (.getfield 24, 3) := by decide +kernel
theorem d_SF_takePieces_97 : decode b_SF_takePieces 97 = .ok (.iload 8, 2) := by decide +kernel
theorem d_SF_takePieces_99 : decode b_SF_takePieces 99 = .ok (.invokevirtual 112, 3) := by decide +kernel
theorem d_SF_takePieces_102 : decode b_SF_takePieces 102 = .ok (.istore 9, 2) := by decide +kernel
theorem d_SF_takePieces_104 : decode b_SF_takePieces 104 = .ok (.iload 9, 2) := by decide +kernel
theorem d_SF_takePieces_106 : decode b_SF_takePieces 106 = .ok (.aload_n 0, 1) := by decide +kernel
theorem d_SF_takePieces_107 : decode b_SF_takePieces 107 = .ok (.iload_n 1, 1) := by decide +kernel
theorem d_SF_takePieces_108 : decode b_SF_takePieces 108 = .ok (.iload 5, 2) := by decide +kernel
theorem d_SF_takePieces_110 : decode b_SF_takePieces 110 = .ok (.iload 7, 2) := by decide +kernel
theorem d_SF_takePieces_112 : decode b_SF_takePieces 112 = .ok (.iload 8, 2) := by decide +kernel
theorem d_SF_takePieces_114 : decode b_SF_takePieces 114 = .ok (.iload 6, 2) := by decide +kernel
theorem d_SF_takePieces_116 : decode b_SF_takePieces 116 = .ok (.invokevirtual 170, 3) := by decide +kernel
theorem d_SF_takePieces_119 : decode b_SF_takePieces 119 = .ok (.if_icmp .eq 37, 3) := by decide +kernel
theorem d_SF_takePieces_122 : decode b_SF_takePieces 122 = .ok (.iload 9, 2) := by decide +kernel
theorem d_SF_takePieces_124 : decode b_SF_takePieces 124 = .ok (.aload_n 0, 1) := by decide +kernel
theorem d_SF_takePieces_125 : decode b_SF_takePieces 125 = .ok (.iload_n 1, 1) := by decide +kernel
theorem d_SF_takePieces_126 : decode b_SF_takePieces 126 = .ok (.iload 5, 2) := by decide +kernel
theorem d_SF_takePieces_128 : decode b_SF_takePieces 128 = .ok (.iload 7, 2) := by decide +kernel
theorem d_SF_takePieces_130 : decode b_SF_takePieces 130 = .ok (.iload 8, 2) := by decide +kernel
theorem d_SF_takePieces_132 : decode b_SF_takePieces 132 = .ok (.iload 6, 2) := by decide +kernel
theorem d_SF_takePieces_134 : decode b_SF_takePieces 134 = .ok (.ifCond .ne 7, 3) := by decide +kernel
theorem d_SF_takePieces_137 : decode b_SF_takePieces 137 = .ok (.iconst 1, 1) := by decide +kernel
theorem d_SF_takePieces_138 : decode b_SF_takePieces 138 = .ok (.goto 4, 3) := by decide +kernel
theorem d_SF_takePieces_141 : decode b_SF_takePieces 141 = .ok (.iconst 0, 1) := by decide +kernel
theorem d_SF_takePieces_142 : decode b_SF_takePieces 142 = .ok (.invokevirtual 170, 3) := by decide +kernel
theorem d_SF_takePieces_145 : decode b_SF_takePieces 145 = .ok (.if_icmp .ne 8, 3) := by decide +kernel
theorem d_SF_takePieces_148 : decode b_SF_takePieces 148 = .ok (.bipush (-5), 2) := by decide +kernel
theorem d_SF_takePieces_150 : decode b_SF_takePieces 150 = .ok (.goto 5, 3) := by decide +kernel
theorem d_SF_takePieces_153 : decode b_SF_takePieces 153 = .ok (.bipush (-4), 2) := by decide +kernel
theorem d_SF_takePieces_155 : decode b_SF_takePieces 155 = .ok (.ireturn, 1) := by decide +kernel
theorem d_SF_takePieces_156 : decode b_SF_takePieces 156 = .ok (.aload_n 0, 1) := by decide +kernel
theorem d_SF_takePieces_157 : decode b_SF_takePieces 157 = .ok (.iload_n 1, 1) := by decide +kernel
theorem d_SF_takePieces_158 : decode b_SF_takePieces 158 = .ok (.iload 5, 2) := by decide +kernel
theorem d_SF_takePieces_160 : decode b_SF_takePieces 160 = .ok (.iload 7, 2) := by decide +kernel
theorem d_SF_takePieces_162 : decode b_SF_takePieces 162 = .ok (.iload 8, 2) := by decide +kernel
theorem d_SF_takePieces_164 : decode b_SF_takePieces 164 = .ok (.invokevirtual 177, 3) := by decide +kernel
theorem d_SF_takePieces_167 : decode b_SF_takePieces 167 = .ok (.aload_n 0, 1) := by decide +kernel
theorem d_SF_takePieces_168 : decode b_SF_takePieces 168 = .ok (.dup, 1) := by decide +kernel
theorem d_SF_takePieces_169 : decode b_SF_takePieces 169 = .ok (.getfield 30, 3) := by decide +kernel
theorem d_SF_takePieces_172 : decode b_SF_takePieces 172 = .ok (.iconst 1, 1) := by decide +kernel
theorem d_SF_takePieces_173 : decode b_SF_takePieces 173 = .ok (.iadd, 1) := by decide +kernel
theorem d_SF_takePieces_174 : decode b_SF_takePieces 174 = .ok (.putfield 30, 3) := by decide +kernel
theorem d_SF_takePieces_177 : decode b_SF_takePieces 177 = .ok (.iinc 5 1, 3) := by decide +kernel
theorem d_SF_takePieces_180 : decode b_SF_takePieces 180 = .ok (.goto (-150), 3) := by decide +kernel
theorem d_SF_takePieces_183 : decode b_SF_takePieces 183 = .ok (.aload_n 0, 1) := by decide +kernel
theorem d_SF_takePieces_184 : decode b_SF_takePieces 184 = .ok (.getfield 21, 3) := by decide +kernel
theorem d_SF_takePieces_187 : decode b_SF_takePieces 187 = .ok (.invokevirtual 56, 3) := by decide +kernel
theorem d_SF_takePieces_190 : decode b_SF_takePieces 190 = .ok (.ireturn, 1) := by decide +kernel
theorem d_SF_uncover_0 : decode b_SF_uncover 0 = .ok (.iload_n 3, 1) := by decide +kernel
theorem d_SF_uncover_1 : decode b_SF_uncover 1 = .ok (.istore 5, 2) := by decide +kernel
theorem d_SF_uncover_3 : decode b_SF_uncover 3 = .ok (.iload 5, 2) := by decide +kernel
theorem d_SF_uncover_5 : decode b_SF_uncover 5 = .ok (.iload 4, 2) := by decide +kernel
theorem d_SF_uncover_7 : decode b_SF_uncover 7 = .ok (.if_icmp .ge 35, 3) := by decide +kernel
theorem d_SF_uncover_10 : decode b_SF_uncover 10 = .ok (.aload_n 0, 1) := by decide +kernel
theorem d_SF_uncover_11 : decode b_SF_uncover 11 = .ok (.getfield 21, 3) := by decide +kernel
theorem d_SF_uncover_14 : decode b_SF_uncover 14 = .ok (.aload_n 0, 1) := by decide +kernel
theorem d_SF_uncover_15 : decode b_SF_uncover 15 = .ok (.getfield 24, 3) := by decide +kernel
theorem d_SF_uncover_18 : decode b_SF_uncover 18 = .ok (.iload 5, 2) := by decide +kernel
theorem d_SF_uncover_20 : decode b_SF_uncover 20 = .ok (.invokevirtual 60, 3) := by decide +kernel
theorem d_SF_uncover_23 : decode b_SF_uncover 23 = .ok (.iload_n 1, 1) := by decide +kernel
theorem d_SF_uncover_24 : decode b_SF_uncover 24 = .ok (.iload_n 2, 1) := by decide +kernel
theorem d_SF_uncover_25 : decode b_SF_uncover 25 = .ok (.iload 5, 2) := by decide +kernel
theorem d_SF_uncover_27 : decode b_SF_uncover 27 = .ok (.iload_n 3, 1) := by decide +kernel
theorem d_SF_uncover_28 : decode b_SF_uncover 28 = .ok (.isub, 1) := by decide +kernel
theorem d_SF_uncover_29 : decode b_SF_uncover 29 = .ok (.invokestatic 166, 3) := by decide +kernel
theorem d_SF_uncover_32 : decode b_SF_uncover 32 = .ok (.invokevirtual 41, 3) := by decide +kernel
theorem d_SF_uncover_35 : decode b_SF_uncover 35 = .ok (.pop, 1) := by decide +kernel
theorem d_SF_uncover_36 : decode b_SF_uncover 36 = .ok (.iinc 5 1, 3) := by decide +kernel
theorem d_SF_uncover_39 : decode b_SF_uncover 39 = .ok (.goto (-36), 3) := by decide +kernel
theorem d_SF_uncover_42 : decode b_SF_uncover 42 = .ok (.return_, 1) := by decide +kernel
theorem d_SF_unwrapped_0 : decode b_SF_unwrapped 0 = .ok (.aload_n 0, 1) := by decide +kernel
theorem d_SF_unwrapped_1 : decode b_SF_unwrapped 1 = .ok (.getfield 24, 3) := by decide +kernel
theorem d_SF_unwrapped_4 : decode b_SF_unwrapped 4 = .ok (.iload_n 1, 1) := by decide +kernel
theorem d_SF_unwrapped_5 : decode b_SF_unwrapped 5 = .ok (.iconst 2, 1) := by decide +kernel
theorem d_SF_unwrapped_6 : decode b_SF_unwrapped 6 = .ok (.iadd, 1) := by decide +kernel
theorem d_SF_unwrapped_7 : decode b_SF_unwrapped 7 = .ok (.invokevirtual 112, 3) := by decide +kernel
theorem d_SF_unwrapped_10 : decode b_SF_unwrapped 10 = .ok (.bipush 16, 2) := by decide +kernel
theorem d_SF_unwrapped_12 : decode b_SF_unwrapped 12 = .ok (.ishl, 1) := by decide +kernel
theorem d_SF_unwrapped_13 : decode b_SF_unwrapped 13 = .ok (.aload_n 0, 1) := by decide +kernel
theorem d_SF_unwrapped_14 : decode b_SF_unwrapped 14 = .ok (.getfield 24, 3) := by decide +kernel
theorem d_SF_unwrapped_17 : decode b_SF_unwrapped 17 = .ok (.iload_n 1, 1) := by decide +kernel
theorem d_SF_unwrapped_18 : decode b_SF_unwrapped 18 = .ok (.iconst 4, 1) := by decide +kernel
theorem d_SF_unwrapped_19 : decode b_SF_unwrapped 19 = .ok (.iadd, 1) := by decide +kernel
theorem d_SF_unwrapped_20 : decode b_SF_unwrapped 20 = .ok (.invokevirtual 112, 3) := by decide +kernel
theorem d_SF_unwrapped_23 : decode b_SF_unwrapped 23 = .ok (.ior, 1) := by decide +kernel
theorem d_SF_unwrapped_24 : decode b_SF_unwrapped 24 = .ok (.istore_n 3, 1) := by decide +kernel
theorem d_SF_unwrapped_25 : decode b_SF_unwrapped 25 = .ok (.iload_n 3, 1) := by decide +kernel
theorem d_SF_unwrapped_26 : decode b_SF_unwrapped 26 = .ok (.aload_n 0, 1) := by decide +kernel
theorem d_SF_unwrapped_27 : decode b_SF_unwrapped 27 = .ok (.iload_n 1, 1) := by decide +kernel
theorem d_SF_unwrapped_28 : decode b_SF_unwrapped 28 = .ok (.iload_n 2, 1) := by decide +kernel
theorem d_SF_unwrapped_29 : decode b_SF_unwrapped 29 = .ok (.invokevirtual 174, 3) := by decide +kernel
theorem d_SF_unwrapped_32 : decode b_SF_unwrapped 32 = .ok (.aload_n 0, 1) := by decide +kernel
theorem d_SF_unwrapped_33 : decode b_SF_unwrapped 33 = .ok (.getfield 18, 3) := by decide +kernel
theorem d_SF_unwrapped_36 : decode b_SF_unwrapped 36 = .ok (.iload_n 2, 1) := by decide +kernel
theorem d_SF_unwrapped_37 : decode b_SF_unwrapped 37 = .ok (.invokevirtual 60, 3) := by decide +kernel
theorem d_SF_unwrapped_40 : decode b_SF_unwrapped 40 = .ok (.iconst 1, 1) := by decide +kernel
theorem d_SF_unwrapped_41 : decode b_SF_unwrapped 41 = .ok (.invokestatic 148, 3) := by decide +kernel
theorem d_SF_unwrapped_44 : decode b_SF_unwrapped 44 = .ok (.ixor, 1) := by decide +kernel
theorem d_SF_unwrapped_45 : decode b_SF_unwrapped 45 = .ok (.ireturn, 1) := by decide +kernel
theorem d_SF_write_0 : decode b_SF_write 0 = .ok (.ldc 129, 2) := by decide +kernel
theorem d_SF_write_2 : decode b_SF_write 2 = .ok (.iload_n 1, 1) := by decide +kernel
theorem d_SF_write_3 : decode b_SF_write 3 = .ok (.invokevirtual 137, 3) := by decide +kernel
theorem d_SF_write_6 : decode b_SF_write 6 = .ok (.istore_n 2, 1) := by decide +kernel
theorem d_SF_write_7 : decode b_SF_write 7 = .ok (.iload_n 2, 1) := by decide +kernel
theorem d_SF_write_8 : decode b_SF_write 8 = .ok (.ifCond .lt 18, 3) := by decide +kernel
theorem d_SF_write_11 : decode b_SF_write 11 = .ok (.aload_n 0, 1) := by decide +kernel
theorem d_SF_write_12 : decode b_SF_write 12 = .ok (.getfield 27, 3) := by decide +kernel
theorem d_SF_write_15 : decode b_SF_write 15 = .ok (.iload_n 2, 1) := by decide +kernel
theorem d_SF_write_16 : decode b_SF_write 16 = .ok (.invokevirtual 41, 3) := by decide +kernel
theorem d_SF_write_19 : decode b_SF_write 19 = .ok (.ifCond .eq 7, 3) := by decide +kernel
theorem d_SF_write_22 : decode b_SF_write 22 = .ok (.iconst 1, 1) := by decide +kernel
theorem d_SF_write_23 : decode b_SF_write 23 = .ok (.goto 4, 3) := by decide +kernel
theorem d_SF_write_26 : decode b_SF_write 26 = .ok (.iconst 0, 1) := by decide +kernel
theorem d_SF_write_27 : decode b_SF_write 27 = .ok (.ireturn, 1) := by decide +kernel
end
section
theorem d_MD_add_0 : decode b_MD_add 0 = .ok (.aload_n 0, 1) := by decide +kernel
theorem d_MD_add_1 : decode b_MD_add 1 = .ok (.getfield 16, 3) := by decide +kernel
theorem d_MD_add_4 : decode b_MD_add 4 = .ok (.aload_n 0, 1) := by decide +kernel
theorem d_MD_add_5 : decode b_MD_add 5 = .ok (.getfield 56, 3) := by decide +kernel
theorem d_MD_add_8 : decode b_MD_add 8 = .ok (.iload_n 1, 1) := by decide +kernel
theorem d_MD_add_9 : decode b_MD_add 9 = .ok (.sipush 255, 3) := by decide +kernel
theorem d_MD_add_12 : decode b_MD_add 12 = .ok (.iand, 1) := by decide +kernel
theorem d_MD_add_13 : decode b_MD_add 13 = .ok (.iastore, 1) := by decide +kernel
theorem d_MD_add_14 : decode b_MD_add 14 = .ok (.aload_n 0, 1) := by decide +kernel
theorem d_MD_add_15 : decode b_MD_add 15 = .ok (.dup, 1) := by decide +kernel
theorem d_MD_add_16 : decode b_MD_add 16 = .ok (.getfield 56, 3) := by decide +kernel
theorem d_MD_add_19 : decode b_MD_add 19 = .ok (.iconst 1, 1) := by decide +kernel
theorem d_MD_add_20 : decode b_MD_add 20 = .ok (.iadd, 1) := by decide +kernel
theorem d_MD_add_21 : decode b_MD_add 21 = .ok (.putfield 56, 3) := by decide +kernel
theorem d_MD_add_24 : decode b_MD_add 24 = .ok (.return_, 1) := by decide +kernel
theorem d_MD_addTwo_0 : decode b_MD_addTwo 0 = .ok (.aload_n 0, 1) := by decide +kernel
theorem d_MD_addTwo_1 : decode b_MD_addTwo 1 = .ok (.iload_n 1, 1) := by decide +kernel
theorem d_MD_addTwo_2 : decode b_MD_addTwo 2 = .ok (.bipush 8, 2) := by decide +kernel
theorem d_MD_addTwo_4 : decode b_MD_addTwo 4 = .ok (.ishr, 1) := by decide +kernel
theorem d_MD_addTwo_5 : decode b_MD_addTwo 5 = .ok (.invokevirtual 59, 3) := by decide +kernel
theorem d_MD_addTwo_8 : decode b_MD_addTwo 8 = .ok (.aload_n 0, 1) := by decide +kernel
theorem d_MD_addTwo_9 : decode b_MD_addTwo 9 = .ok (.iload_n 1, 1) := by decide +kernel
theorem d_MD_addTwo_10 : decode b_MD_addTwo 10 = .ok (.invokevirtual 59, 3) := by decide +kernel
theorem d_MD_addTwo_13 : decode b_MD_addTwo 13 = .ok (.return_, 1) := by decide +kernel
theorem d_MD_address_0 : decode b_MD_address 0 = .ok (.aload_n 0, 1) := by decide +kernel
theorem d_MD_address_1 : decode b_MD_address 1 = .ok (.iconst 0, 1) := by decide +kernel
theorem d_MD_address_2 : decode b_MD_address 2 = .ok (.putfield 26, 3) := by decide +kernel
theorem d_MD_address_5 : decode b_MD_address 5 = .ok (.aload_n 0, 1) := by decide +kernel
theorem d_MD_address_6 : decode b_MD_address 6 = .ok (.iload_n 1, 1) := by decide +kernel
theorem d_MD_address_7 : decode b_MD_address 7 = .ok (.invokevirtual 45, 3) := by decide +kernel
theorem d_MD_address_10 : decode b_MD_address 10 = .ok (.ifCond .eq 16, 3) := by decide +kernel
theorem d_MD_address_13 : decode b_MD_address 13 = .ok (.iconst 2, 1) := by decide +kernel
theorem d_MD_address_14 : decode b_MD_address 14 = .ok (.aload_n 0, 1) := by decide +kernel
theorem d_MD_address_15 : decode b_MD_address 15 = .ok (.getfield 7, 3) := by decide +kernel
theorem d_MD_address_18 : decode b_MD_address 18 = .ok (.iload_n 1, 1) := by decide +kernel
theorem d_MD_address_19 : decode b_MD_address 19 = .ok (.iaload, 1) := by decide +kernel
theorem d_MD_address_20 : decode b_MD_address 20 = .ok (.invokestatic 49, 3) := by decide +kernel
theorem d_MD_address_23 : decode b_MD_address 23 = .ok (.goto 4, 3) := by decide +kernel
theorem d_MD_address_26 : decode b_MD_address 26 = .ok (.iconst (-1), 1) := by decide +kernel
theorem d_MD_address_27 : decode b_MD_address 27 = .ok (.ireturn, 1) := by decide +kernel
theorem d_MD_alter_0 : decode b_MD_alter 0 = .ok (.aload_n 0, 1) := by decide +kernel
theorem d_MD_alter_1 : decode b_MD_alter 1 = .ok (.iconst 0, 1) := by decide +kernel
theorem d_MD_alter_2 : decode b_MD_alter 2 = .ok (.putfield 26, 3) := by decide +kernel
theorem d_MD_alter_5 : decode b_MD_alter 5 = .ok (.iload_n 1, 1) := by decide +kernel
theorem d_MD_alter_6 : decode b_MD_alter 6 = .ok (.ifCond .lt 11, 3) := by decide +kernel
theorem d_MD_alter_9 : decode b_MD_alter 9 = .ok (.iload_n 1, 1) := by decide +kernel
theorem d_MD_alter_10 : decode b_MD_alter 10 = .ok (.aload_n 0, 1) := by decide +kernel
theorem d_MD_alter_11 : decode b_MD_alter 11 = .ok (.getfield 56, 3) := by decide +kernel
theorem d_MD_alter_14 : decode b_MD_alter 14 = .ok (.if_icmp .lt 9, 3) := by decide +kernel
theorem d_MD_alter_17 : decode b_MD_alter 17 = .ok (.aload_n 0, 1) := by decide +kernel
theorem d_MD_alter_18 : decode b_MD_alter 18 = .ok (.iconst 1, 1) := by decide +kernel
theorem d_MD_alter_19 : decode b_MD_alter 19 = .ok (.invokevirtual 39, 3) := by decide +kernel
theorem d_MD_alter_22 : decode b_MD_alter 22 = .ok (.ireturn, 1) := by decide +kernel
theorem d_MD_alter_23 : decode b_MD_alter 23 = .ok (.aload_n 0, 1) := by decide +kernel
theorem d_MD_alter_24 : decode b_MD_alter 24 = .ok (.getfield 16, 3) := by decide +kernel
theorem d_MD_alter_27 : decode b_MD_alter 27 = .ok (.iload_n 1, 1) := by decide +kernel
theorem d_MD_alter_28 : decode b_MD_alter 28 = .ok (.aload_n 0, 1) := by decide +kernel
theorem d_MD_alter_29 : decode b_MD_alter 29 = .ok (.getfield 16, 3) := by decide +kernel
theorem d_MD_alter_32 : decode b_MD_alter 32 = .ok (.iload_n 1, 1) := by decide +kernel
theorem d_MD_alter_33 : decode b_MD_alter 33 = .ok (.iaload, 1) := by decide +kernel
theorem d_MD_alter_34 : decode b_MD_alter 34 = .ok (.iload_n 2, 1) := by decide +kernel
theorem d_MD_alter_35 : decode b_MD_alter 35 = .ok (.sipush 255, 3) := by decide +kernel
theorem d_MD_alter_38 : decode b_MD_alter 38 = .ok (.iand, 1) := by decide +kernel
theorem d_MD_alter_39 : decode b_MD_alter 39 = .ok (.ixor, 1) := by decide +kernel
theorem d_MD_alter_40 : decode b_MD_alter 40 = .ok (.iastore, 1) := by decide +kernel
theorem d_MD_alter_41 : decode b_MD_alter 41 = .ok (.aload_n 0, 1) := by decide +kernel
theorem d_MD_alter_42 : decode b_MD_alter 42 = .ok (.getfield 16, 3) := by decide +kernel
theorem d_MD_alter_45 : decode b_MD_alter 45 = .ok (.iload_n 1, 1) := by decide +kernel
theorem d_MD_alter_46 : decode b_MD_alter 46 = .ok (.iaload, 1) := by decide +kernel
theorem d_MD_alter_47 : decode b_MD_alter 47 = .ok (.ireturn, 1) := by decide +kernel
theorem d_MD_at_0 : decode b_MD_at 0 = .ok (.aload_n 0, 1) := by decide +kernel
theorem d_MD_at_1 : decode b_MD_at 1 = .ok (.iconst 0, 1) := by decide +kernel
theorem d_MD_at_2 : decode b_MD_at 2 = .ok (.putfield 26, 3) := by decide +kernel
theorem d_MD_at_5 : decode b_MD_at 5 = .ok (.iload_n 1, 1) := by decide +kernel
theorem d_MD_at_6 : decode b_MD_at 6 = .ok (.ifCond .lt 20, 3) := by decide +kernel
theorem d_MD_at_9 : decode b_MD_at 9 = .ok (.iload_n 1, 1) := by decide +kernel
theorem d_MD_at_10 : decode b_MD_at 10 = .ok (.aload_n 0, 1) := by decide +kernel
theorem d_MD_at_11 : decode b_MD_at 11 = .ok (.getfield 56, 3) := by decide +kernel
theorem d_MD_at_14 : decode b_MD_at 14 = .ok (.if_icmp .ge 12, 3) := by decide +kernel
theorem d_MD_at_17 : decode b_MD_at 17 = .ok (.aload_n 0, 1) := by decide +kernel
theorem d_MD_at_18 : decode b_MD_at 18 = .ok (.getfield 16, 3) := by decide +kernel
theorem d_MD_at_21 : decode b_MD_at 21 = .ok (.iload_n 1, 1) := by decide +kernel
theorem d_MD_at_22 : decode b_MD_at 22 = .ok (.iaload, 1) := by decide +kernel
theorem d_MD_at_23 : decode b_MD_at 23 = .ok (.goto 4, 3) := by decide +kernel
theorem d_MD_at_26 : decode b_MD_at 26 = .ok (.iconst (-1), 1) := by decide +kernel
theorem d_MD_at_27 : decode b_MD_at 27 = .ok (.ireturn, 1) := by decide +kernel
theorem d_MD_bit_0 : decode b_MD_bit 0 = .ok (.iload_n 1, 1) := by decide +kernel
theorem d_MD_bit_1 : decode b_MD_bit 1 = .ok (.bipush 8, 2) := by decide +kernel
theorem d_MD_bit_3 : decode b_MD_bit 3 = .ok (.aload_n 0, 1) := by decide +kernel
theorem d_MD_bit_4 : decode b_MD_bit 4 = .ok (.getfield 56, 3) := by decide +kernel
theorem d_MD_bit_7 : decode b_MD_bit 7 = .ok (.imul, 1) := by decide +kernel
theorem d_MD_bit_8 : decode b_MD_bit 8 = .ok (.if_icmp .ge 25, 3) := by decide +kernel
theorem d_MD_bit_11 : decode b_MD_bit 11 = .ok (.aload_n 0, 1) := by decide +kernel
theorem d_MD_bit_12 : decode b_MD_bit 12 = .ok (.getfield 16, 3) := by decide +kernel
theorem d_MD_bit_15 : decode b_MD_bit 15 = .ok (.iload_n 1, 1) := by decide +kernel
theorem d_MD_bit_16 : decode b_MD_bit 16 = .ok (.bipush 8, 2) := by decide +kernel
theorem d_MD_bit_18 : decode b_MD_bit 18 = .ok (.idiv, 1) := by decide +kernel
theorem d_MD_bit_19 : decode b_MD_bit 19 = .ok (.iaload, 1) := by decide +kernel
theorem d_MD_bit_20 : decode b_MD_bit 20 = .ok (.bipush 7, 2) := by decide +kernel
theorem d_MD_bit_22 : decode b_MD_bit 22 = .ok (.iload_n 1, 1) := by decide +kernel
theorem d_MD_bit_23 : decode b_MD_bit 23 = .ok (.bipush 8, 2) := by decide +kernel
theorem d_MD_bit_25 : decode b_MD_bit 25 = .ok (.irem, 1) := by decide +kernel
theorem d_MD_bit_26 : decode b_MD_bit 26 = .ok (.isub, 1) := by decide +kernel
theorem d_MD_bit_27 : decode b_MD_bit 27 = .ok (.ishr, 1) := by decide +kernel
theorem d_MD_bit_28 : decode b_MD_bit 28 = .ok (.iconst 1, 1) := by decide +kernel
theorem d_MD_bit_29 : decode b_MD_bit 29 = .ok (.iand, 1) := by decide +kernel
theorem d_MD_bit_30 : decode b_MD_bit 30 = .ok (.goto 4, 3) := by decide +kernel
theorem d_MD_bit_33 : decode b_MD_bit 33 = .ok (.iconst 0, 1) := by decide +kernel
theorem d_MD_bit_34 : decode b_MD_bit 34 = .ok (.ireturn, 1) := by decide +kernel
theorem d_MD_clear_0 : decode b_MD_clear 0 = .ok (.aload_n 0, 1) := by decide +kernel
theorem d_MD_clear_1 : decode b_MD_clear 1 = .ok (.iconst 0, 1) := by decide +kernel
theorem d_MD_clear_2 : decode b_MD_clear 2 = .ok (.putfield 26, 3) := by decide +kernel
theorem d_MD_clear_5 : decode b_MD_clear 5 = .ok (.aload_n 0, 1) := by decide +kernel
theorem d_MD_clear_6 : decode b_MD_clear 6 = .ok (.getfield 53, 3) := by decide +kernel
theorem d_MD_clear_9 : decode b_MD_clear 9 = .ok (.istore_n 1, 1) := by decide +kernel
theorem d_MD_clear_10 : decode b_MD_clear 10 = .ok (.aload_n 0, 1) := by decide +kernel
theorem d_MD_clear_11 : decode b_MD_clear 11 = .ok (.iconst 0, 1) := by decide +kernel
theorem d_MD_clear_12 : decode b_MD_clear 12 = .ok (.putfield 53, 3) := by decide +kernel
theorem d_MD_clear_15 : decode b_MD_clear 15 = .ok (.iload_n 1, 1) := by decide +kernel
theorem d_MD_clear_16 : decode b_MD_clear 16 = .ok (.ireturn, 1) := by decide +kernel
theorem d_MD_count_0 : decode b_MD_count 0 = .ok (.aload_n 0, 1) := by decide +kernel
theorem d_MD_count_1 : decode b_MD_count 1 = .ok (.iconst 0, 1) := by decide +kernel
theorem d_MD_count_2 : decode b_MD_count 2 = .ok (.putfield 26, 3) := by decide +kernel
theorem d_MD_count_5 : decode b_MD_count 5 = .ok (.iload_n 1, 1) := by decide +kernel
theorem d_MD_count_6 : decode b_MD_count 6 = .ok (.ifCond .ne 10, 3) := by decide +kernel
theorem d_MD_count_9 : decode b_MD_count 9 = .ok (.aload_n 0, 1) := by decide +kernel
theorem d_MD_count_10 : decode b_MD_count 10 = .ok (.getfield 53, 3) := by decide +kernel
theorem d_MD_count_13 : decode b_MD_count 13 = .ok (.goto 28, 3) := by decide +kernel
theorem d_MD_count_16 : decode b_MD_count 16 = .ok (.iload_n 1, 1) := by decide +kernel
theorem d_MD_count_17 : decode b_MD_count 17 = .ok (.iconst 1, 1) := by decide +kernel
theorem d_MD_count_18 : decode b_MD_count 18 = .ok (.if_icmp .ne 10, 3) := by decide +kernel
theorem d_MD_count_21 : decode b_MD_count 21 = .ok (.aload_n 0, 1) := by decide +kernel
theorem d_MD_count_22 : decode b_MD_count 22 = .ok (.getfield 56, 3) := by decide +kernel
theorem d_MD_count_25 : decode b_MD_count 25 = .ok (.goto 16, 3) := by decide +kernel
theorem d_MD_count_28 : decode b_MD_count 28 = .ok (.iload_n 1, 1) := by decide +kernel
theorem d_MD_count_29 : decode b_MD_count 29 = .ok (.iconst 2, 1) := by decide +kernel
theorem d_MD_count_30 : decode b_MD_count 30 = .ok (.if_icmp .ne 10, 3) := by decide +kernel
theorem d_MD_count_33 : decode b_MD_count 33 = .ok (.aload_n 0, 1) := by decide +kernel
theorem d_MD_count_34 : decode b_MD_count 34 = .ok (.getfield 42, 3) := by decide +kernel
theorem d_MD_count_37 : decode b_MD_count 37 = .ok (.goto 4, 3) := by decide +kernel
theorem d_MD_count_40 : decode b_MD_count 40 = .ok (.iconst (-1), 1) := by decide +kernel
theorem d_MD_count_41 : decode b_MD_count 41 = .ok (.ireturn, 1) := by decide +kernel
theorem d_MD_cut_0 : decode b_MD_cut 0 = .ok (.aload_n 0, 1) := by decide +kernel
theorem d_MD_cut_1 : decode b_MD_cut 1 = .ok (.iconst 0, 1) := by decide +kernel
theorem d_MD_cut_2 : decode b_MD_cut 2 = .ok (.putfield 26, 3) := by decide +kernel
theorem d_MD_cut_5 : decode b_MD_cut 5 = .ok (.iload_n 1, 1) := by decide +kernel
theorem d_MD_cut_6 : decode b_MD_cut 6 = .ok (.ifCond .lt 11, 3) := by decide +kernel
theorem d_MD_cut_9 : decode b_MD_cut 9 = .ok (.iload_n 1, 1) := by decide +kernel
theorem d_MD_cut_10 : decode b_MD_cut 10 = .ok (.aload_n 0, 1) := by decide +kernel
theorem d_MD_cut_11 : decode b_MD_cut 11 = .ok (.getfield 56, 3) := by decide +kernel
theorem d_MD_cut_14 : decode b_MD_cut 14 = .ok (.if_icmp .lt 5, 3) := by decide +kernel
theorem d_MD_cut_17 : decode b_MD_cut 17 = .ok (.iconst 0, 1) := by decide +kernel
theorem d_MD_cut_18 : decode b_MD_cut 18 = .ok (.ireturn, 1) := by decide +kernel
theorem d_MD_cut_19 : decode b_MD_cut 19 = .ok (.aload_n 0, 1) := by decide +kernel
theorem d_MD_cut_20 : decode b_MD_cut 20 = .ok (.iload_n 1, 1) := by decide +kernel
theorem d_MD_cut_21 : decode b_MD_cut 21 = .ok (.putfield 56, 3) := by decide +kernel
theorem d_MD_cut_24 : decode b_MD_cut 24 = .ok (.iconst 1, 1) := by decide +kernel
theorem d_MD_cut_25 : decode b_MD_cut 25 = .ok (.ireturn, 1) := by decide +kernel
theorem d_MD_entry_0 : decode b_MD_entry 0 = .ok (.iload_n 2, 1) := by decide +kernel
theorem d_MD_entry_1 : decode b_MD_entry 1 = .ok (.iload_n 3, 1) := by decide +kernel
theorem d_MD_entry_2 : decode b_MD_entry 2 = .ok (.iload_n 1, 1) := by decide +kernel
theorem d_MD_entry_3 : decode b_MD_entry 3 = .ok (.invokestatic 63, 3) := by decide +kernel
theorem d_MD_entry_6 : decode b_MD_entry 6 = .ok (.istore 4, 2) := by decide +kernel
theorem d_MD_entry_8 : decode b_MD_entry 8 = .ok (.iconst 2, 1) := by decide +kernel
theorem d_MD_entry_9 : decode b_MD_entry 9 = .ok (.iload 4, 2) := by decide +kernel
theorem d_MD_entry_11 : decode b_MD_entry 11 = .ok (.iconst 1, 1) := by decide +kernel
theorem d_MD_entry_12 : decode b_MD_entry 12 = .ok (.iushr, 1) := by decide +kernel
theorem d_MD_entry_13 : decode b_MD_entry 13 = .ok (.sipush 32746, 3) := by decide +kernel
theorem d_MD_entry_16 : decode b_MD_entry 16 = .ok (.irem, 1) := by decide +kernel
theorem d_MD_entry_17 : decode b_MD_entry 17 = .ok (.iadd, 1) := by decide +kernel
theorem d_MD_entry_18 : decode b_MD_entry 18 = .ok (.istore 4, 2) := by decide +kernel
theorem d_MD_entry_20 : decode b_MD_entry 20 = .ok (.iconst 2, 1) := by decide +kernel
theorem d_MD_entry_21 : decode b_MD_entry 21 = .ok (.aload_n 0, 1) := by decide +kernel
theorem d_MD_entry_22 : decode b_MD_entry 22 = .ok (.getfield 7, 3) := by decide +kernel
theorem d_MD_entry_25 : decode b_MD_entry 25 = .ok (.iload_n 1, 1) := by decide +kernel
theorem d_MD_entry_26 : decode b_MD_entry 26 = .ok (.iaload, 1) := by decide +kernel
theorem d_MD_entry_27 : decode b_MD_entry 27 = .ok (.invokestatic 49, 3) := by decide +kernel
theorem d_MD_entry_30 : decode b_MD_entry 30 = .ok (.istore 5, 2) := by decide +kernel
theorem d_MD_entry_32 : decode b_MD_entry 32 = .ok (.iload 5, 2) := by decide +kernel
theorem d_MD_entry_34 : decode b_MD_entry 34 = .ok (.iload 4, 2) := by decide +kernel
theorem d_MD_entry_36 : decode b_MD_entry 36 = .ok (.invokestatic 49, 3) := by decide +kernel
theorem d_MD_entry_39 : decode b_MD_entry 39 = .ok (.istore 6, 2) := by decide +kernel
theorem d_MD_entry_41 : decode b_MD_entry 41 = .ok (.aload_n 0, 1) := by decide +kernel
theorem d_MD_entry_42 : decode b_MD_entry 42 = .ok (.getfield 56, 3) := by decide +kernel
theorem d_MD_entry_45 : decode b_MD_entry 45 = .ok (.istore 7, 2) := by decide +kernel
theorem d_MD_entry_47 : decode b_MD_entry 47 = .ok (.iload_n 2, 1) := by decide +kernel
theorem d_MD_entry_48 : decode b_MD_entry 48 = .ok (.iload 6, 2) := by decide +kernel
theorem d_MD_entry_50 : decode b_MD_entry 50 = .ok (.iload 5, 2) := by decide +kernel
theorem d_MD_entry_52 : decode b_MD_entry 52 = .ok (.iconst 1, 1) := by decide +kernel
theorem d_MD_entry_53 : decode b_MD_entry 53 = .ok (.invokestatic 63, 3) := by decide +kernel
theorem d_MD_entry_56 : decode b_MD_entry 56 = .ok (.ixor, 1) := by decide +kernel
theorem d_MD_entry_57 : decode b_MD_entry 57 = .ok (.istore 8, 2) := by decide +kernel
theorem d_MD_entry_59 : decode b_MD_entry 59 = .ok (.iconst 2, 1) := by decide +kernel
theorem d_MD_entry_60 : decode b_MD_entry 60 = .ok (.iload 4, 2) := by decide +kernel
theorem d_MD_entry_62 : decode b_MD_entry 62 = .ok (.invokestatic 49, 3) := by decide +kernel
theorem d_MD_entry_65 : decode b_MD_entry 65 = .ok (.istore 9, 2) := by decide +kernel
theorem d_MD_entry_67 : decode b_MD_entry 67 = .ok (.aload_n 0, 1) := by decide +kernel
theorem d_MD_entry_68 : decode b_MD_entry 68 = .ok (.iload 9, 2) := by decide +kernel
theorem d_MD_entry_70 : decode b_MD_entry 70 = .ok (.invokevirtual 67, 3) := by decide +kernel
theorem d_MD_entry_73 : decode b_MD_entry 73 = .ok (.aload_n 0, 1) := by decide +kernel
theorem d_MD_entry_74 : decode b_MD_entry 74 = .ok (.iload 8, 2) := by decide +kernel
theorem d_MD_entry_76 : decode b_MD_entry 76 = .ok (.bipush 16, 2) := by decide +kernel
theorem d_MD_entry_78 : decode b_MD_entry 78 = .ok (.iushr, 1) := by decide +kernel
theorem d_MD_entry_79 : decode b_MD_entry 79 = .ok (.invokevirtual 67, 3) := by decide +kernel
theorem d_MD_entry_82 : decode b_MD_entry 82 = .ok (.aload_n 0, 1) := by decide +kernel
theorem d_MD_entry_83 : decode b_MD_entry 83 = .ok (.iload 8, 2) := by decide +kernel
theorem d_MD_entry_85 : decode b_MD_entry 85 = .ok (.invokevirtual 67, 3) := by decide +kernel
theorem d_MD_entry_88 : decode b_MD_entry 88 = .ok (.aload_n 0, 1) := by decide +kernel
theorem d_MD_entry_89 : decode b_MD_entry 89 = .ok (.iload 7, 2) := by decide +kernel
theorem d_MD_entry_91 : decode b_MD_entry 91 = .ok (.aload_n 0, 1) := by decide +kernel
theorem d_MD_entry_92 : decode b_MD_entry 92 = .ok (.getfield 56, 3) := by decide +kernel
theorem d_MD_entry_95 : decode b_MD_entry 95 = .ok (.iload 6, 2) := by decide +kernel
theorem d_MD_entry_97 : decode b_MD_entry 97 = .ok (.iload 5, 2) := by decide +kernel
theorem d_MD_entry_99 : decode b_MD_entry 99 = .ok (.iconst 2, 1) := by decide +kernel
theorem d_MD_entry_100 : decode b_MD_entry 100 = .ok (.invokestatic 63, 3) := by decide +kernel
theorem d_MD_entry_103 : decode b_MD_entry 103 = .ok (.invokevirtual 70, 3) := by decide +kernel
theorem d_MD_entry_106 : decode b_MD_entry 106 = .ok (.istore 10, 2) := by decide +kernel
theorem d_MD_entry_108 : decode b_MD_entry 108 = .ok (.aload_n 0, 1) := by decide +kernel
theorem d_MD_entry_109 : decode b_MD_entry 109 = .ok (.iload 10, 2) := by decide +kernel
theorem d_MD_entry_111 : decode b_MD_entry 111 = .ok (.invokevirtual 67, 3) := by decide +kernel
theorem d_MD_entry_114 : decode b_MD_entry 114 = .ok (.return_, 1) := by decide +kernel
theorem d_MD_entryOf_0 : decode b_MD_entryOf 0 = .ok (.iconst 2, 1) := by decide +kernel
theorem d_MD_entryOf_1 : decode b_MD_entryOf 1 = .ok (.aload_n 0, 1) := by decide +kernel
theorem d_MD_entryOf_2 : decode b_MD_entryOf 2 = .ok (.getfield 7, 3) := by decide +kernel
theorem d_MD_entryOf_5 : decode b_MD_entryOf 5 = .ok (.iload_n 1, 1) := by decide +kernel
theorem d_MD_entryOf_6 : decode b_MD_entryOf 6 = .ok (.iaload, 1) := by decide +kernel
theorem d_MD_entryOf_7 : decode b_MD_entryOf 7 = .ok (.invokestatic 49, 3) := by decide +kernel
theorem d_MD_entryOf_10 : decode b_MD_entryOf 10 = .ok (.istore_n 2, 1) := by decide +kernel
theorem d_MD_entryOf_11 : decode b_MD_entryOf 11 = .ok (.iconst 0, 1) := by decide +kernel
theorem d_MD_entryOf_12 : decode b_MD_entryOf 12 = .ok (.istore_n 3, 1) := by decide +kernel
theorem d_MD_entryOf_13 : decode b_MD_entryOf 13 = .ok (.iload_n 3, 1) := by decide +kernel
theorem d_MD_entryOf_14 : decode b_MD_entryOf 14 = .ok (.aload_n 0, 1) := by decide +kernel
theorem d_MD_entryOf_15 : decode b_MD_entryOf 15 = .ok (.getfield 16, 3) := by decide +kernel
theorem d_MD_entryOf_18 : decode b_MD_entryOf 18 = .ok (.iconst 1, 1) := by decide +kernel
theorem d_MD_entryOf_19 : decode b_MD_entryOf 19 = .ok (.iaload, 1) := by decide +kernel
theorem d_MD_entryOf_20 : decode b_MD_entryOf 20 = .ok (.if_icmp .ge 67, 3) := by decide +kernel
theorem d_MD_entryOf_23 : decode b_MD_entryOf 23 = .ok (.iconst 2, 1) := by decide +kernel
theorem d_MD_entryOf_24 : decode b_MD_entryOf 24 = .ok (.bipush 8, 2) := by decide +kernel
theorem d_MD_entryOf_26 : decode b_MD_entryOf 26 = .ok (.iload_n 3, 1) := by decide +kernel
theorem d_MD_entryOf_27 : decode b_MD_entryOf 27 = .ok (.imul, 1) := by decide +kernel
theorem d_MD_entryOf_28 : decode b_MD_entryOf 28 = .ok (.iadd, 1) := by decide +kernel
theorem d_MD_entryOf_29 : decode b_MD_entryOf 29 = .ok (.istore 4, 2) := by decide +kernel
theorem d_MD_entryOf_31 : decode b_MD_entryOf 31 = .ok (.aload_n 0, 1) := by decide +kernel
theorem d_MD_entryOf_32 : decode b_MD_entryOf 32 = .ok (.iload 4, 2) := by decide +kernel
theorem d_MD_entryOf_34 : decode b_MD_entryOf 34 = .ok (.invokevirtual 77, 3) := by decide +kernel
theorem d_MD_entryOf_37 : decode b_MD_entryOf 37 = .ok (.aload_n 0, 1) := by decide +kernel
theorem d_MD_entryOf_38 : decode b_MD_entryOf 38 = .ok (.getfield 7, 3) := by decide +kernel
theorem d_MD_entryOf_41 : decode b_MD_entryOf 41 = .ok (.iload_n 1, 1) := by decide +kernel
theorem d_MD_entryOf_42 : decode b_MD_entryOf 42 = .ok (.iaload, 1) := by decide +kernel
theorem d_MD_entryOf_43 : decode b_MD_entryOf 43 = .ok (.invokestatic 49, 3) := by decide +kernel
theorem d_MD_entryOf_46 : decode b_MD_entryOf 46 = .ok (.istore 5, 2) := by decide +kernel
theorem d_MD_entryOf_48 : decode b_MD_entryOf 48 = .ok (.aload_n 0, 1) := by decide +kernel
theorem d_MD_entryOf_49 : decode b_MD_entryOf 49 = .ok (.iload 4, 2) := by decide +kernel
theorem d_MD_entryOf_51 : decode b_MD_entryOf 51 = .ok (.bipush 6, 2) := by decide +kernel
theorem d_MD_entryOf_53 : decode b_MD_entryOf 53 = .ok (.iadd, 1) := by decide +kernel
theorem d_MD_entryOf_54 : decode b_MD_entryOf 54 = .ok (.invokevirtual 77, 3) := by decide +kernel
theorem d_MD_entryOf_57 : decode b_MD_entryOf 57 = .ok (.aload_n 0, 1) := by decide +kernel
theorem d_MD_entryOf_58 : decode b_MD_entryOf 58 = .ok (.iload 4, 2) := by decide +kernel
theorem d_MD_entryOf_60 : decode b_MD_entryOf 60 = .ok (.iload 4, 2) := by decide +kernel
theorem d_MD_entryOf_62 : decode b_MD_entryOf 62 = .ok (.bipush 6, 2) := by decide +kernel
theorem d_MD_entryOf_64 : decode b_MD_entryOf 64 = .ok (.iadd, 1) := by decide +kernel
theorem d_MD_entryOf_65 : decode b_MD_entryOf 65 = .ok (.iload 5, 2) := by decide +kernel
theorem d_MD_entryOf_67 : decode b_MD_entryOf 67 = .ok (.iload_n 2, 1) := by decide +kernel
theorem d_MD_entryOf_68 : decode b_MD_entryOf 68 = .ok (.iconst 2, 1) := by decide +kernel
theorem d_MD_entryOf_69 : decode b_MD_entryOf 69 = .ok (.invokestatic 63, 3) := by decide +kernel
theorem d_MD_entryOf_72 : decode b_MD_entryOf 72 = .ok (.invokevirtual 70, 3) := by decide +kernel
theorem d_MD_entryOf_75 : decode b_MD_entryOf 75 = .ok (.if_icmp .ne 6, 3) := by decide +kernel
theorem d_MD_entryOf_78 : decode b_MD_entryOf 78 = .ok (.iload 4, 2) := by decide +kernel
theorem d_MD_entryOf_80 : decode b_MD_entryOf 80 = .ok (.ireturn, 1) := by decide +kernel
theorem d_MD_entryOf_81 : decode b_MD_entryOf 81 = .ok (.iinc 3 1, 3) := by decide +kernel
theorem d_MD_entryOf_84 : decode b_MD_entryOf 84 = .ok (.goto (-71), 3) := by decide +kernel
theorem d_MD_entryOf_87 : decode b_MD_entryOf 87 = .ok (.iconst (-1), 1) := by decide +kernel
theorem d_MD_entryOf_88 : decode b_MD_entryOf 88 = .ok (.ireturn, 1) := by decide +kernel
theorem d_MD_fails_0 : decode b_MD_fails 0 = .ok (.aload_n 0, 1) := by decide +kernel
theorem d_MD_fails_1 : decode b_MD_fails 1 = .ok (.iload_n 1, 1) := by decide +kernel
theorem d_MD_fails_2 : decode b_MD_fails 2 = .ok (.putfield 26, 3) := by decide +kernel
theorem d_MD_fails_5 : decode b_MD_fails 5 = .ok (.iconst 0, 1) := by decide +kernel
theorem d_MD_fails_6 : decode b_MD_fails 6 = .ok (.ireturn, 1) := by decide +kernel
theorem d_MD_init_0 : decode b_MD_init 0 = .ok (.aload_n 0, 1) := by decide +kernel
theorem d_MD_init_1 : decode b_MD_init 1 = .ok (.invokespecial 1, 3) := by decide +kernel
theorem d_MD_init_4 : decode b_MD_init 4 = .ok (.aload_n 0, 1) := by decide +kernel
theorem d_MD_init_5 : decode b_MD_init 5 = .ok (.iconst 4, 1) := by decide +kernel
theorem d_MD_init_6 : decode b_MD_init 6 = .ok (.newarray .int, 2) := by decide +kernel
theorem d_MD_init_8 : decode b_MD_init 8 = .ok (.putfield 7, 3) := by decide +kernel
theorem d_MD_init_11 : decode b_MD_init 11 = .ok (.aload_n 0, 1) := by decide +kernel
theorem d_MD_init_12 : decode b_MD_init 12 = .ok (.bipush 40, 2) := by decide +kernel
theorem d_MD_init_14 : decode b_MD_init 14 = .ok (.newarray .int, 2) := by decide +kernel
theorem d_MD_init_16 : decode b_MD_init 16 = .ok (.putfield 13, 3) := by decide +kernel
theorem d_MD_init_19 : decode b_MD_init 19 = .ok (.aload_n 0, 1) := by decide +kernel
theorem d_MD_init_20 : decode b_MD_init 20 = .ok (.bipush 120, 2) := by decide +kernel
theorem d_MD_init_22 : decode b_MD_init 22 = .ok (.newarray .int, 2) := by decide +kernel
theorem d_MD_init_24 : decode b_MD_init 24 = .ok (.putfield 16, 3) := by decide +kernel
theorem d_MD_init_27 : decode b_MD_init 27 = .ok (.aload_n 0, 1) := by decide +kernel
theorem d_MD_init_28 : decode b_MD_init 28 = .ok (.bipush 40, 2) := by decide +kernel
theorem d_MD_init_30 : decode b_MD_init 30 = .ok (.newarray .int, 2) := by decide +kernel
theorem d_MD_init_32 : decode b_MD_init 32 = .ok (.putfield 19, 3) := by decide +kernel
theorem d_MD_init_35 : decode b_MD_init 35 = .ok (.aload_n 0, 1) := by decide +kernel
theorem d_MD_init_36 : decode b_MD_init 36 = .ok (.sipush 160, 3) := by decide +kernel
theorem d_MD_init_39 : decode b_MD_init 39 = .ok (.newarray .char, 2) := by decide +kernel
theorem d_MD_init_41 : decode b_MD_init 41 = .ok (.putfield 22, 3) := by decide +kernel
theorem d_MD_init_44 : decode b_MD_init 44 = .ok (.return_, 1) := by decide +kernel
theorem d_MD_isKey_0 : decode b_MD_isKey 0 = .ok (.iload_n 1, 1) := by decide +kernel
theorem d_MD_isKey_1 : decode b_MD_isKey 1 = .ok (.ifCond .lt 15, 3) := by decide +kernel
theorem d_MD_isKey_4 : decode b_MD_isKey 4 = .ok (.iload_n 1, 1) := by decide +kernel
theorem d_MD_isKey_5 : decode b_MD_isKey 5 = .ok (.aload_n 0, 1) := by decide +kernel
theorem d_MD_isKey_6 : decode b_MD_isKey 6 = .ok (.getfield 42, 3) := by decide +kernel
theorem d_MD_isKey_9 : decode b_MD_isKey 9 = .ok (.if_icmp .ge 7, 3) := by decide +kernel
theorem d_MD_isKey_12 : decode b_MD_isKey 12 = .ok (.iconst 1, 1) := by decide +kernel
theorem d_MD_isKey_13 : decode b_MD_isKey 13 = .ok (.goto 4, 3) := by decide +kernel
theorem d_MD_isKey_16 : decode b_MD_isKey 16 = .ok (.iconst 0, 1) := by decide +kernel
theorem d_MD_isKey_17 : decode b_MD_isKey 17 = .ok (.ireturn, 1) := by decide +kernel
theorem d_MD_key_0 : decode b_MD_key 0 = .ok (.aload_n 0, 1) := by decide +kernel
theorem d_MD_key_1 : decode b_MD_key 1 = .ok (.iconst 0, 1) := by decide +kernel
theorem d_MD_key_2 : decode b_MD_key 2 = .ok (.putfield 26, 3) := by decide +kernel
theorem d_MD_key_5 : decode b_MD_key 5 = .ok (.iload_n 1, 1) := by decide +kernel
theorem d_MD_key_6 : decode b_MD_key 6 = .ok (.iconst 2, 1) := by decide +kernel
theorem d_MD_key_7 : decode b_MD_key 7 = .ok (.if_icmp .lt 10, 3) := by decide +kernel
theorem d_MD_key_10 : decode b_MD_key 10 = .ok (.iload_n 1, 1) := by decide +kernel
theorem d_MD_key_11 : decode b_MD_key 11 = .ok (.sipush 32747, 3) := by decide +kernel
theorem d_MD_key_14 : decode b_MD_key 14 = .ok (.if_icmp .le 9, 3) := by decide +kernel
theorem d_MD_key_17 : decode b_MD_key 17 = .ok (.aload_n 0, 1) := by decide +kernel
theorem d_MD_key_18 : decode b_MD_key 18 = .ok (.iconst 1, 1) := by decide +kernel
theorem d_MD_key_19 : decode b_MD_key 19 = .ok (.invokevirtual 39, 3) := by decide +kernel
theorem d_MD_key_22 : decode b_MD_key 22 = .ok (.ireturn, 1) := by decide +kernel
theorem d_MD_key_23 : decode b_MD_key 23 = .ok (.aload_n 0, 1) := by decide +kernel
theorem d_MD_key_24 : decode b_MD_key 24 = .ok (.getfield 42, 3) := by decide +kernel
theorem d_MD_key_27 : decode b_MD_key 27 = .ok (.iconst 4, 1) := by decide +kernel
theorem d_MD_key_28 : decode b_MD_key 28 = .ok (.if_icmp .ne 9, 3) := by decide +kernel
theorem d_MD_key_31 : decode b_MD_key 31 = .ok (.aload_n 0, 1) := by decide +kernel
theorem d_MD_key_32 : decode b_MD_key 32 = .ok (.iconst 2, 1) := by decide +kernel
theorem d_MD_key_33 : decode b_MD_key 33 = .ok (.invokevirtual 39, 3) := by decide +kernel
theorem d_MD_key_36 : decode b_MD_key 36 = .ok (.ireturn, 1) := by decide +kernel
theorem d_MD_key_37 : decode b_MD_key 37 = .ok (.aload_n 0, 1) := by decide +kernel
theorem d_MD_key_38 : decode b_MD_key 38 = .ok (.getfield 7, 3) := by decide +kernel
theorem d_MD_key_41 : decode b_MD_key 41 = .ok (.aload_n 0, 1) := by decide +kernel
theorem d_MD_key_42 : decode b_MD_key 42 = .ok (.getfield 42, 3) := by decide +kernel
theorem d_MD_key_45 : decode b_MD_key 45 = .ok (.iload_n 1, 1) := by decide +kernel
theorem d_MD_key_46 : decode b_MD_key 46 = .ok (.iastore, 1) := by decide +kernel
theorem d_MD_key_47 : decode b_MD_key 47 = .ok (.aload_n 0, 1) := by decide +kernel
theorem d_MD_key_48 : decode b_MD_key 48 = .ok (.dup, 1) := by decide +kernel
theorem d_MD_key_49 : decode b_MD_key 49 = .ok (.getfield 42, 3) := by decide +kernel
theorem d_MD_key_52 : decode b_MD_key 52 = .ok (.iconst 1, 1) := by decide +kernel
theorem d_MD_key_53 : decode b_MD_key 53 = .ok (.iadd, 1) := by decide +kernel
theorem d_MD_key_54 : decode b_MD_key 54 = .ok (.putfield 42, 3) := by decide +kernel
theorem d_MD_key_57 : decode b_MD_key 57 = .ok (.aload_n 0, 1) := by decide +kernel
theorem d_MD_key_58 : decode b_MD_key 58 = .ok (.getfield 42, 3) := by decide +kernel
theorem d_MD_key_61 : decode b_MD_key 61 = .ok (.iconst 1, 1) := by decide +kernel
theorem d_MD_key_62 : decode b_MD_key 62 = .ok (.isub, 1) := by decide +kernel
theorem d_MD_key_63 : decode b_MD_key 63 = .ok (.ireturn, 1) := by decide +kernel
theorem d_MD_load_0 : decode b_MD_load 0 = .ok (.aload_n 0, 1) := by decide +kernel
theorem d_MD_load_1 : decode b_MD_load 1 = .ok (.iconst 0, 1) := by decide +kernel
theorem d_MD_load_2 : decode b_MD_load 2 = .ok (.putfield 26, 3) := by decide +kernel
theorem d_MD_load_5 : decode b_MD_load 5 = .ok (.aload_n 0, 1) := by decide +kernel
theorem d_MD_load_6 : decode b_MD_load 6 = .ok (.getfield 100, 3) := by decide +kernel
theorem d_MD_load_9 : decode b_MD_load 9 = .ok (.istore_n 1, 1) := by decide +kernel
theorem d_MD_load_10 : decode b_MD_load 10 = .ok (.aload_n 0, 1) := by decide +kernel
theorem d_MD_load_11 : decode b_MD_load 11 = .ok (.iconst 0, 1) := by decide +kernel
theorem d_MD_load_12 : decode b_MD_load 12 = .ok (.putfield 100, 3) := by decide +kernel
theorem d_MD_load_15 : decode b_MD_load 15 = .ok (.bipush 6, 2) := by decide +kernel
theorem d_MD_load_17 : decode b_MD_load 17 = .ok (.iload_n 1, 1) := by decide +kernel
theorem d_MD_load_18 : decode b_MD_load 18 = .ok (.imul, 1) := by decide +kernel
theorem d_MD_load_19 : decode b_MD_load 19 = .ok (.bipush 8, 2) := by decide +kernel
theorem d_MD_load_21 : decode b_MD_load 21 = .ok (.idiv, 1) := by decide +kernel
theorem d_MD_load_22 : decode b_MD_load 22 = .ok (.istore_n 2, 1) := by decide +kernel
theorem d_MD_load_23 : decode b_MD_load 23 = .ok (.bipush 6, 2) := by decide +kernel
theorem d_MD_load_25 : decode b_MD_load 25 = .ok (.iload_n 1, 1) := by decide +kernel
theorem d_MD_load_26 : decode b_MD_load 26 = .ok (.imul, 1) := by decide +kernel
theorem d_MD_load_27 : decode b_MD_load 27 = .ok (.bipush 8, 2) := by decide +kernel
theorem d_MD_load_29 : decode b_MD_load 29 = .ok (.iload_n 2, 1) := by decide +kernel
theorem d_MD_load_30 : decode b_MD_load 30 = .ok (.imul, 1) := by decide +kernel
theorem d_MD_load_31 : decode b_MD_load 31 = .ok (.isub, 1) := by decide +kernel
theorem d_MD_load_32 : decode b_MD_load 32 = .ok (.istore_n 3, 1) := by decide +kernel
theorem d_MD_load_33 : decode b_MD_load 33 = .ok (.iload_n 3, 1) := by decide +kernel
theorem d_MD_load_34 : decode b_MD_load 34 = .ok (.bipush 6, 2) := by decide +kernel
theorem d_MD_load_36 : decode b_MD_load 36 = .ok (.if_icmp .ge 7, 3) := by decide +kernel
theorem d_MD_load_39 : decode b_MD_load 39 = .ok (.iconst 1, 1) := by decide +kernel
theorem d_MD_load_40 : decode b_MD_load 40 = .ok (.goto 4, 3) := by decide +kernel
theorem d_MD_load_43 : decode b_MD_load 43 = .ok (.iconst 0, 1) := by decide +kernel
theorem d_MD_load_44 : decode b_MD_load 44 = .ok (.istore 4, 2) := by decide +kernel
theorem d_MD_load_46 : decode b_MD_load 46 = .ok (.iload_n 1, 1) := by decide +kernel
theorem d_MD_load_47 : decode b_MD_load 47 = .ok (.ifCond .le 35, 3) := by decide +kernel
theorem d_MD_load_50 : decode b_MD_load 50 = .ok (.iload 4, 2) := by decide +kernel
theorem d_MD_load_52 : decode b_MD_load 52 = .ok (.ifCond .eq 30, 3) := by decide +kernel
theorem d_MD_load_55 : decode b_MD_load 55 = .ok (.aload_n 0, 1) := by decide +kernel
theorem d_MD_load_56 : decode b_MD_load 56 = .ok (.getfield 22, 3) := by decide +kernel
theorem d_MD_load_59 : decode b_MD_load 59 = .ok (.iload_n 1, 1) := by decide +kernel
theorem d_MD_load_60 : decode b_MD_load 60 = .ok (.iconst 1, 1) := by decide +kernel
theorem d_MD_load_61 : decode b_MD_load 61 = .ok (.isub, 1) := by decide +kernel
theorem d_MD_load_62 : decode b_MD_load 62 = .ok (.caload, 1) := by decide +kernel
theorem d_MD_load_63 : decode b_MD_load 63 = .ok (.invokestatic 103, 3) := by decide +kernel
theorem d_MD_load_66 : decode b_MD_load 66 = .ok (.iconst 1, 1) := by decide +kernel
theorem d_MD_load_67 : decode b_MD_load 67 = .ok (.iload_n 3, 1) := by decide +kernel
theorem d_MD_load_68 : decode b_MD_load 68 = .ok (.ishl, 1) := by decide +kernel
theorem d_MD_load_69 : decode b_MD_load 69 = .ok (.iconst 1, 1) := by decide +kernel
theorem d_MD_load_70 : decode b_MD_load 70 = .ok (.isub, 1) := by decide +kernel
theorem d_MD_load_71 : decode b_MD_load 71 = .ok (.iand, 1) := by decide +kernel
theorem d_MD_load_72 : decode b_MD_load 72 = .ok (.ifCond .ne 7, 3) := by decide +kernel
theorem d_MD_load_75 : decode b_MD_load 75 = .ok (.iconst 1, 1) := by decide +kernel
theorem d_MD_load_76 : decode b_MD_load 76 = .ok (.goto 4, 3) := by decide +kernel
theorem d_MD_load_79 : decode b_MD_load 79 = .ok (.iconst 0, 1) := by decide +kernel
theorem d_MD_load_80 : decode b_MD_load 80 = .ok (.istore 4, 2) := by decide +kernel
theorem d_MD_load_82 : decode b_MD_load 82 = .ok (.iload 4, 2) := by decide +kernel
theorem d_MD_load_84 : decode b_MD_load 84 = .ok (.ifCond .ne 9, 3) := by decide +kernel
theorem d_MD_load_87 : decode b_MD_load 87 = .ok (.aload_n 0, 1) := by decide +kernel
theorem d_MD_load_88 : decode b_MD_load 88 = .ok (.iconst 1, 1) := by decide +kernel
theorem d_MD_load_89 : decode b_MD_load 89 = .ok (.invokevirtual 39, 3) := by decide +kernel
theorem d_MD_load_92 : decode b_MD_load 92 = .ok (.ireturn, 1) := by decide +kernel
theorem d_MD_load_93 : decode b_MD_load 93 = .ok (.iconst 0, 1) := by decide +kernel
theorem d_MD_load_94 : decode b_MD_load 94 = .ok (.istore 5, 2) := by decide +kernel
theorem d_MD_load_96 : decode b_MD_load 96 = .ok (.iload 5, 2) := by decide +kernel
theorem d_MD_load_98 : decode b_MD_load 98 = .ok (.iload_n 2, 1) := by decide +kernel
theorem d_MD_load_99 : decode b_MD_load 99 = .ok (.if_icmp .ge 77, 3) := by decide +kernel
theorem d_MD_load_102 : decode b_MD_load 102 = .ok (.iconst 0, 1) := by decide +kernel
theorem d_MD_load_103 : decode b_MD_load 103 = .ok (.istore 6, 2) := by decide +kernel
theorem d_MD_load_105 : decode b_MD_load 105 = .ok (.bipush 8, 2) := by decide +kernel
theorem d_MD_load_107 : decode b_MD_load 107 = .ok (.iload 5, 2) := by decide +kernel
theorem d_MD_load_109 : decode b_MD_load 109 = .ok (.imul, 1) := by decide +kernel
theorem d_MD_load_110 : decode b_MD_load 110 = .ok (.istore 7, 2) := by decide +kernel
theorem d_MD_load_112 : decode b_MD_load 112 = .ok (.iload 7, 2) := by decide +kernel
theorem d_MD_load_114 : decode b_MD_load 114 = .ok (.bipush 8, 2) := by decide +kernel
theorem d_MD_load_116 : decode b_MD_load 116 = .ok (.iload 5, 2) := by decide +kernel
theorem d_MD_load_118 : decode b_MD_load 118 = .ok (.imul, 1) := by decide +kernel
theorem d_MD_load_119 : decode b_MD_load 119 = .ok (.bipush 8, 2) := by decide +kernel
theorem d_MD_load_121 : decode b_MD_load 121 = .ok (.iadd, 1) := by decide +kernel
theorem d_MD_load_122 : decode b_MD_load 122 = .ok (.if_icmp .ge 39, 3) := by decide +kernel
theorem d_MD_load_125 : decode b_MD_load 125 = .ok (.iconst 2, 1) := by decide +kernel
theorem d_MD_load_126 : decode b_MD_load 126 = .ok (.iload 6, 2) := by decide +kernel
theorem d_MD_load_128 : decode b_MD_load 128 = .ok (.imul, 1) := by decide +kernel
theorem d_MD_load_129 : decode b_MD_load 129 = .ok (.aload_n 0, 1) := by decide +kernel
theorem d_MD_load_130 : decode b_MD_load 130 = .ok (.getfield 22, 3) := by decide +kernel
theorem d_MD_load_133 : decode b_MD_load 133 = .ok (.iload 7, 2) := by decide +kernel
theorem d_MD_load_135 : decode b_MD_load 135 = .ok (.bipush 6, 2) := by decide +kernel
theorem d_MD_load_137 : decode b_MD_load 137 = .ok (.idiv, 1) := by decide +kernel
theorem d_MD_load_138 : decode b_MD_load 138 = .ok (.caload, 1) := by decide +kernel
theorem d_MD_load_139 : decode b_MD_load 139 = .ok (.invokestatic 103, 3) := by decide +kernel
theorem d_MD_load_142 : decode b_MD_load 142 = .ok (.iconst 5, 1) := by decide +kernel
theorem d_MD_load_143 : decode b_MD_load 143 = .ok (.iload 7, 2) := by decide +kernel
theorem d_MD_load_145 : decode b_MD_load 145 = .ok (.bipush 6, 2) := by decide +kernel
theorem d_MD_load_147 : decode b_MD_load 147 = .ok (.irem, 1) := by decide +kernel
theorem d_MD_load_148 : decode b_MD_load 148 = .ok (.isub, 1) := by decide +kernel
theorem d_MD_load_149 : decode b_MD_load 149 = .ok (.ishr, 1) := by decide +kernel
theorem d_MD_load_150 : decode b_MD_load 150 = .ok (.iconst 1, 1) := by decide +kernel
theorem d_MD_load_151 : decode b_MD_load 151 = .ok (.iand, 1) := by decide +kernel
theorem d_MD_load_152 : decode b_MD_load 152 = .ok (.iadd, 1) := by decide +kernel
theorem d_MD_load_153 : decode b_MD_load 153 = .ok (.istore 6, 2) := by decide +kernel
theorem d_MD_load_155 : decode b_MD_load 155 = .ok (.iinc 7 1, 3) := by decide +kernel
theorem d_MD_load_158 : decode b_MD_load 158 = .ok (.goto (-46), 3) := by decide +kernel
theorem d_MD_load_161 : decode b_MD_load 161 = .ok (.aload_n 0, 1) := by decide +kernel
theorem d_MD_load_162 : decode b_MD_load 162 = .ok (.getfield 16, 3) := by decide +kernel
theorem d_MD_load_165 : decode b_MD_load 165 = .ok (.iload 5, 2) := by decide +kernel
theorem d_MD_load_167 : decode b_MD_load 167 = .ok (.iload 6, 2) := by decide +kernel
theorem d_MD_load_169 : decode b_MD_load 169 = .ok (.iastore, 1) := by decide +kernel
theorem d_MD_load_170 : decode b_MD_load 170 = .ok (.iinc 5 1, 3) := by decide +kernel
theorem d_MD_load_173 : decode b_MD_load 173 = .ok (.goto (-77), 3) := by decide +kernel
theorem d_MD_load_176 : decode b_MD_load 176 = .ok (.aload_n 0, 1) := by decide +kernel
theorem d_MD_load_177 : decode b_MD_load 177 = .ok (.iload_n 2, 1) := by decide +kernel
theorem d_MD_load_178 : decode b_MD_load 178 = .ok (.putfield 56, 3) := by decide +kernel
theorem d_MD_load_181 : decode b_MD_load 181 = .ok (.aload_n 0, 1) := by decide +kernel
theorem d_MD_load_182 : decode b_MD_load 182 = .ok (.getfield 56, 3) := by decide +kernel
theorem d_MD_load_185 : decode b_MD_load 185 = .ok (.ireturn, 1) := by decide +kernel
theorem d_MD_mix_0 : decode b_MD_mix 0 = .ok (.iload_n 0, 1) := by decide +kernel
theorem d_MD_mix_1 : decode b_MD_mix 1 = .ok (.iload_n 0, 1) := by decide +kernel
theorem d_MD_mix_2 : decode b_MD_mix 2 = .ok (.bipush 16, 2) := by decide +kernel
theorem d_MD_mix_4 : decode b_MD_mix 4 = .ok (.iushr, 1) := by decide +kernel
theorem d_MD_mix_5 : decode b_MD_mix 5 = .ok (.ixor, 1) := by decide +kernel
theorem d_MD_mix_6 : decode b_MD_mix 6 = .ok (.ldc 30, 2) := by decide +kernel
theorem d_MD_mix_8 : decode b_MD_mix 8 = .ok (.imul, 1) := by decide +kernel
theorem d_MD_mix_9 : decode b_MD_mix 9 = .ok (.istore_n 1, 1) := by decide +kernel
theorem d_MD_mix_10 : decode b_MD_mix 10 = .ok (.iload_n 1, 1) := by decide +kernel
theorem d_MD_mix_11 : decode b_MD_mix 11 = .ok (.iload_n 1, 1) := by decide +kernel
theorem d_MD_mix_12 : decode b_MD_mix 12 = .ok (.bipush 15, 2) := by decide +kernel
theorem d_MD_mix_14 : decode b_MD_mix 14 = .ok (.iushr, 1) := by decide +kernel
theorem d_MD_mix_15 : decode b_MD_mix 15 = .ok (.ixor, 1) := by decide +kernel
theorem d_MD_mix_16 : decode b_MD_mix 16 = .ok (.ldc 31, 2) := by decide +kernel
theorem d_MD_mix_18 : decode b_MD_mix 18 = .ok (.imul, 1) := by decide +kernel
theorem d_MD_mix_19 : decode b_MD_mix 19 = .ok (.istore_n 1, 1) := by decide +kernel
theorem d_MD_mix_20 : decode b_MD_mix 20 = .ok (.iload_n 1, 1) := by decide +kernel
theorem d_MD_mix_21 : decode b_MD_mix 21 = .ok (.iload_n 1, 1) := by decide +kernel
theorem d_MD_mix_22 : decode b_MD_mix 22 = .ok (.bipush 16, 2) := by decide +kernel
theorem d_MD_mix_24 : decode b_MD_mix 24 = .ok (.iushr, 1) := by decide +kernel
theorem d_MD_mix_25 : decode b_MD_mix 25 = .ok (.ixor, 1) := by decide +kernel
theorem d_MD_mix_26 : decode b_MD_mix 26 = .ok (.ireturn, 1) := by decide +kernel
end
section
theorem d_MD_open_0 : decode b_MD_open 0 = .ok (.aload_n 0, 1) := by decide +kernel
theorem d_MD_open_1 : decode b_MD_open 1 = .ok (.iconst 0, 1) := by decide +kernel
theorem d_MD_open_2 : decode b_MD_open 2 = .ok (.putfield 26, 3) := by decide +kernel
theorem d_MD_open_5 : decode b_MD_open 5 = .ok (.aload_n 0, 1) := by decide +kernel
theorem d_MD_open_6 : decode b_MD_open 6 = .ok (.iload_n 1, 1) := by decide +kernel
theorem d_MD_open_7 : decode b_MD_open 7 = .ok (.invokevirtual 45, 3) := by decide +kernel
theorem d_MD_open_10 : decode b_MD_open 10 = .ok (.ifCond .ne 9, 3) := by decide +kernel
theorem d_MD_open_13 : decode b_MD_open 13 = .ok (.aload_n 0, 1) := by decide +kernel
theorem d_MD_open_14 : decode b_MD_open 14 = .ok (.iconst 1, 1) := by decide +kernel
theorem d_MD_open_15 : decode b_MD_open 15 = .ok (.invokevirtual 39, 3) := by decide +kernel
theorem d_MD_open_18 : decode b_MD_open 18 = .ok (.ireturn, 1) := by decide +kernel
theorem d_MD_open_19 : decode b_MD_open 19 = .ok (.aload_n 0, 1) := by decide +kernel
theorem d_MD_open_20 : decode b_MD_open 20 = .ok (.iconst 0, 1) := by decide +kernel
theorem d_MD_open_21 : decode b_MD_open 21 = .ok (.putfield 83, 3) := by decide +kernel
theorem d_MD_open_24 : decode b_MD_open 24 = .ok (.aload_n 0, 1) := by decide +kernel
theorem d_MD_open_25 : decode b_MD_open 25 = .ok (.getfield 56, 3) := by decide +kernel
theorem d_MD_open_28 : decode b_MD_open 28 = .ok (.iconst 2, 1) := by decide +kernel
theorem d_MD_open_29 : decode b_MD_open 29 = .ok (.if_icmp .lt 53, 3) := by decide +kernel
theorem d_MD_open_32 : decode b_MD_open 32 = .ok (.aload_n 0, 1) := by decide +kernel
theorem d_MD_open_33 : decode b_MD_open 33 = .ok (.getfield 16, 3) := by decide +kernel
theorem d_MD_open_36 : decode b_MD_open 36 = .ok (.iconst 0, 1) := by decide +kernel
theorem d_MD_open_37 : decode b_MD_open 37 = .ok (.iaload, 1) := by decide +kernel
theorem d_MD_open_38 : decode b_MD_open 38 = .ok (.bipush 83, 2) := by decide +kernel
theorem d_MD_open_40 : decode b_MD_open 40 = .ok (.if_icmp .ne 42, 3) := by decide +kernel
theorem d_MD_open_43 : decode b_MD_open 43 = .ok (.aload_n 0, 1) := by decide +kernel
theorem d_MD_open_44 : decode b_MD_open 44 = .ok (.getfield 16, 3) := by decide +kernel
theorem d_MD_open_47 : decode b_MD_open 47 = .ok (.iconst 1, 1) := by decide +kernel
theorem d_MD_open_48 : decode b_MD_open 48 = .ok (.iaload, 1) := by decide +kernel
theorem d_MD_open_49 : decode b_MD_open 49 = .ok (.iconst 1, 1) := by decide +kernel
theorem d_MD_open_50 : decode b_MD_open 50 = .ok (.if_icmp .lt 32, 3) := by decide +kernel
theorem d_MD_open_53 : decode b_MD_open 53 = .ok (.aload_n 0, 1) := by decide +kernel
theorem d_MD_open_54 : decode b_MD_open 54 = .ok (.getfield 16, 3) := by decide +kernel
theorem d_MD_open_57 : decode b_MD_open 57 = .ok (.iconst 1, 1) := by decide +kernel
theorem d_MD_open_58 : decode b_MD_open 58 = .ok (.iaload, 1) := by decide +kernel
theorem d_MD_open_59 : decode b_MD_open 59 = .ok (.iconst 3, 1) := by decide +kernel
theorem d_MD_open_60 : decode b_MD_open 60 = .ok (.if_icmp .gt 22, 3) := by decide +kernel
theorem d_MD_open_63 : decode b_MD_open 63 = .ok (.aload_n 0, 1) := by decide +kernel
theorem d_MD_open_64 : decode b_MD_open 64 = .ok (.getfield 56, 3) := by decide +kernel
theorem d_MD_open_67 : decode b_MD_open 67 = .ok (.bipush 6, 2) := by decide +kernel
theorem d_MD_open_69 : decode b_MD_open 69 = .ok (.bipush 8, 2) := by decide +kernel
theorem d_MD_open_71 : decode b_MD_open 71 = .ok (.aload_n 0, 1) := by decide +kernel
theorem d_MD_open_72 : decode b_MD_open 72 = .ok (.getfield 16, 3) := by decide +kernel
theorem d_MD_open_75 : decode b_MD_open 75 = .ok (.iconst 1, 1) := by decide +kernel
theorem d_MD_open_76 : decode b_MD_open 76 = .ok (.iaload, 1) := by decide +kernel
theorem d_MD_open_77 : decode b_MD_open 77 = .ok (.imul, 1) := by decide +kernel
theorem d_MD_open_78 : decode b_MD_open 78 = .ok (.iadd, 1) := by decide +kernel
theorem d_MD_open_79 : decode b_MD_open 79 = .ok (.if_icmp .ge 5, 3) := by decide +kernel
theorem d_MD_open_82 : decode b_MD_open 82 = .ok (.iconst (-1), 1) := by decide +kernel
theorem d_MD_open_83 : decode b_MD_open 83 = .ok (.ireturn, 1) := by decide +kernel
theorem d_MD_open_84 : decode b_MD_open 84 = .ok (.aload_n 0, 1) := by decide +kernel
theorem d_MD_open_85 : decode b_MD_open 85 = .ok (.iload_n 1, 1) := by decide +kernel
theorem d_MD_open_86 : decode b_MD_open 86 = .ok (.invokevirtual 86, 3) := by decide +kernel
theorem d_MD_open_89 : decode b_MD_open 89 = .ok (.istore_n 2, 1) := by decide +kernel
theorem d_MD_open_90 : decode b_MD_open 90 = .ok (.iload_n 2, 1) := by decide +kernel
theorem d_MD_open_91 : decode b_MD_open 91 = .ok (.ifCond .ge 6, 3) := by decide +kernel
theorem d_MD_open_94 : decode b_MD_open 94 = .ok (.bipush (-2), 2) := by decide +kernel
theorem d_MD_open_96 : decode b_MD_open 96 = .ok (.ireturn, 1) := by decide +kernel
theorem d_MD_open_97 : decode b_MD_open 97 = .ok (.iconst 2, 1) := by decide +kernel
theorem d_MD_open_98 : decode b_MD_open 98 = .ok (.aload_n 0, 1) := by decide +kernel
theorem d_MD_open_99 : decode b_MD_open 99 = .ok (.getfield 7, 3) := by decide +kernel
theorem d_MD_open_102 : decode b_MD_open 102 = .ok (.iload_n 1, 1) := by decide +kernel
theorem d_MD_open_103 : decode b_MD_open 103 = .ok (.iaload, 1) := by decide +kernel
theorem d_MD_open_104 : decode b_MD_open 104 = .ok (.invokestatic 49, 3) := by decide +kernel
theorem d_MD_open_107 : decode b_MD_open 107 = .ok (.istore_n 3, 1) := by decide +kernel
theorem d_MD_open_108 : decode b_MD_open 108 = .ok (.aload_n 0, 1) := by decide +kernel
theorem d_MD_open_109 : decode b_MD_open 109 = .ok (.iload_n 2, 1) := by decide +kernel
theorem d_MD_open_110 : decode b_MD_open 110 = .ok (.invokevirtual 77, 3) := by decide +kernel
theorem d_MD_open_113 : decode b_MD_open 113 = .ok (.aload_n 0, 1) := by decide +kernel
theorem d_MD_open_114 : decode b_MD_open 114 = .ok (.getfield 7, 3) := by decide +kernel
theorem d_MD_open_117 : decode b_MD_open 117 = .ok (.iload_n 1, 1) := by decide +kernel
theorem d_MD_open_118 : decode b_MD_open 118 = .ok (.iaload, 1) := by decide +kernel
theorem d_MD_open_119 : decode b_MD_open 119 = .ok (.invokestatic 49, 3) := by decide +kernel
theorem d_MD_open_122 : decode b_MD_open 122 = .ok (.istore 4, 2) := by decide +kernel
theorem d_MD_open_124 : decode b_MD_open 124 = .ok (.aload_n 0, 1) := by decide +kernel
theorem d_MD_open_125 : decode b_MD_open 125 = .ok (.iload_n 2, 1) := by decide +kernel
theorem d_MD_open_126 : decode b_MD_open 126 = .ok (.iconst 2, 1) := by decide +kernel
theorem d_MD_open_127 : decode b_MD_open 127 = .ok (.iadd, 1) := by decide +kernel
theorem d_MD_open_128 : decode b_MD_open 128 = .ok (.invokevirtual 77, 3) := by decide +kernel
theorem d_MD_open_131 : decode b_MD_open 131 = .ok (.bipush 16, 2) := by decide +kernel
theorem d_MD_open_133 : decode b_MD_open 133 = .ok (.ishl, 1) := by decide +kernel
theorem d_MD_open_134 : decode b_MD_open 134 = .ok (.aload_n 0, 1) := by decide +kernel
theorem d_MD_open_135 : decode b_MD_open 135 = .ok (.iload_n 2, 1) := by decide +kernel
theorem d_MD_open_136 : decode b_MD_open 136 = .ok (.iconst 4, 1) := by decide +kernel
theorem d_MD_open_137 : decode b_MD_open 137 = .ok (.iadd, 1) := by decide +kernel
theorem d_MD_open_138 : decode b_MD_open 138 = .ok (.invokevirtual 77, 3) := by decide +kernel
theorem d_MD_open_141 : decode b_MD_open 141 = .ok (.ior, 1) := by decide +kernel
theorem d_MD_open_142 : decode b_MD_open 142 = .ok (.iload 4, 2) := by decide +kernel
theorem d_MD_open_144 : decode b_MD_open 144 = .ok (.iload_n 3, 1) := by decide +kernel
theorem d_MD_open_145 : decode b_MD_open 145 = .ok (.iconst 1, 1) := by decide +kernel
theorem d_MD_open_146 : decode b_MD_open 146 = .ok (.invokestatic 63, 3) := by decide +kernel
theorem d_MD_open_149 : decode b_MD_open 149 = .ok (.ixor, 1) := by decide +kernel
theorem d_MD_open_150 : decode b_MD_open 150 = .ok (.istore 5, 2) := by decide +kernel
theorem d_MD_open_152 : decode b_MD_open 152 = .ok (.iconst 2, 1) := by decide +kernel
theorem d_MD_open_153 : decode b_MD_open 153 = .ok (.bipush 8, 2) := by decide +kernel
theorem d_MD_open_155 : decode b_MD_open 155 = .ok (.aload_n 0, 1) := by decide +kernel
theorem d_MD_open_156 : decode b_MD_open 156 = .ok (.getfield 16, 3) := by decide +kernel
theorem d_MD_open_159 : decode b_MD_open 159 = .ok (.iconst 1, 1) := by decide +kernel
theorem d_MD_open_160 : decode b_MD_open 160 = .ok (.iaload, 1) := by decide +kernel
theorem d_MD_open_161 : decode b_MD_open 161 = .ok (.imul, 1) := by decide +kernel
theorem d_MD_open_162 : decode b_MD_open 162 = .ok (.iadd, 1) := by decide +kernel
theorem d_MD_open_163 : decode b_MD_open 163 = .ok (.istore 6, 2) := by decide +kernel
theorem d_MD_open_165 : decode b_MD_open 165 = .ok (.aload_n 0, 1) := by decide +kernel
theorem d_MD_open_166 : decode b_MD_open 166 = .ok (.iload 6, 2) := by decide +kernel
theorem d_MD_open_168 : decode b_MD_open 168 = .ok (.invokevirtual 77, 3) := by decide +kernel
theorem d_MD_open_171 : decode b_MD_open 171 = .ok (.aload_n 0, 1) := by decide +kernel
theorem d_MD_open_172 : decode b_MD_open 172 = .ok (.iconst 0, 1) := by decide +kernel
theorem d_MD_open_173 : decode b_MD_open 173 = .ok (.iload 6, 2) := by decide +kernel
theorem d_MD_open_175 : decode b_MD_open 175 = .ok (.iload 5, 2) := by decide +kernel
theorem d_MD_open_177 : decode b_MD_open 177 = .ok (.iconst 0, 1) := by decide +kernel
theorem d_MD_open_178 : decode b_MD_open 178 = .ok (.iconst 3, 1) := by decide +kernel
theorem d_MD_open_179 : decode b_MD_open 179 = .ok (.invokestatic 63, 3) := by decide +kernel
theorem d_MD_open_182 : decode b_MD_open 182 = .ok (.invokevirtual 70, 3) := by decide +kernel
theorem d_MD_open_185 : decode b_MD_open 185 = .ok (.if_icmp .eq 6, 3) := by decide +kernel
theorem d_MD_open_188 : decode b_MD_open 188 = .ok (.bipush (-3), 2) := by decide +kernel
theorem d_MD_open_190 : decode b_MD_open 190 = .ok (.ireturn, 1) := by decide +kernel
theorem d_MD_open_191 : decode b_MD_open 191 = .ok (.iload 6, 2) := by decide +kernel
theorem d_MD_open_193 : decode b_MD_open 193 = .ok (.iconst 2, 1) := by decide +kernel
theorem d_MD_open_194 : decode b_MD_open 194 = .ok (.iadd, 1) := by decide +kernel
theorem d_MD_open_195 : decode b_MD_open 195 = .ok (.istore 6, 2) := by decide +kernel
theorem d_MD_open_197 : decode b_MD_open 197 = .ok (.aload_n 0, 1) := by decide +kernel
theorem d_MD_open_198 : decode b_MD_open 198 = .ok (.iconst 0, 1) := by decide +kernel
theorem d_MD_open_199 : decode b_MD_open 199 = .ok (.putfield 80, 3) := by decide +kernel
theorem d_MD_open_202 : decode b_MD_open 202 = .ok (.iconst 0, 1) := by decide +kernel
theorem d_MD_open_203 : decode b_MD_open 203 = .ok (.istore 7, 2) := by decide +kernel
theorem d_MD_open_205 : decode b_MD_open 205 = .ok (.iload 6, 2) := by decide +kernel
theorem d_MD_open_207 : decode b_MD_open 207 = .ok (.aload_n 0, 1) := by decide +kernel
theorem d_MD_open_208 : decode b_MD_open 208 = .ok (.getfield 56, 3) := by decide +kernel
theorem d_MD_open_211 : decode b_MD_open 211 = .ok (.if_icmp .ge 115, 3) := by decide +kernel
theorem d_MD_open_214 : decode b_MD_open 214 = .ok (.iload 7, 2) := by decide +kernel
theorem d_MD_open_216 : decode b_MD_open 216 = .ok (.ifCond .ne 110, 3) := by decide +kernel
theorem d_MD_open_219 : decode b_MD_open 219 = .ok (.aload_n 0, 1) := by decide +kernel
theorem d_MD_open_220 : decode b_MD_open 220 = .ok (.getfield 56, 3) := by decide +kernel
theorem d_MD_open_223 : decode b_MD_open 223 = .ok (.iload 6, 2) := by decide +kernel
theorem d_MD_open_225 : decode b_MD_open 225 = .ok (.isub, 1) := by decide +kernel
theorem d_MD_open_226 : decode b_MD_open 226 = .ok (.istore 8, 2) := by decide +kernel
theorem d_MD_open_228 : decode b_MD_open 228 = .ok (.iload 8, 2) := by decide +kernel
theorem d_MD_open_230 : decode b_MD_open 230 = .ok (.bipush 10, 2) := by decide +kernel
theorem d_MD_open_232 : decode b_MD_open 232 = .ok (.if_icmp .le 8, 3) := by decide +kernel
theorem d_MD_open_235 : decode b_MD_open 235 = .ok (.bipush 8, 2) := by decide +kernel
theorem d_MD_open_237 : decode b_MD_open 237 = .ok (.goto 7, 3) := by decide +kernel
theorem d_MD_open_240 : decode b_MD_open 240 = .ok (.iload 8, 2) := by decide +kernel
theorem d_MD_open_242 : decode b_MD_open 242 = .ok (.iconst 2, 1) := by decide +kernel
theorem d_MD_open_243 : decode b_MD_open 243 = .ok (.isub, 1) := by decide +kernel
theorem d_MD_open_244 : decode b_MD_open 244 = .ok (.istore 9, 2) := by decide +kernel
theorem d_MD_open_246 : decode b_MD_open 246 = .ok (.iload 8, 2) := by decide +kernel
theorem d_MD_open_248 : decode b_MD_open 248 = .ok (.iconst 1, 1) := by decide +kernel
theorem d_MD_open_249 : decode b_MD_open 249 = .ok (.if_icmp .ne 8, 3) := by decide +kernel
theorem d_MD_open_252 : decode b_MD_open 252 = .ok (.bipush (-4), 2) := by decide +kernel
theorem d_MD_open_254 : decode b_MD_open 254 = .ok (.goto 29, 3) := by decide +kernel
theorem d_MD_open_257 : decode b_MD_open 257 = .ok (.aload_n 0, 1) := by decide +kernel
theorem d_MD_open_258 : decode b_MD_open 258 = .ok (.iload 6, 2) := by decide +kernel
theorem d_MD_open_260 : decode b_MD_open 260 = .ok (.iload 9, 2) := by decide +kernel
theorem d_MD_open_262 : decode b_MD_open 262 = .ok (.aload_n 0, 1) := by decide +kernel
theorem d_MD_open_263 : decode b_MD_open 263 = .ok (.getfield 83, 3) := by decide +kernel
theorem d_MD_open_266 : decode b_MD_open 266 = .ok (.iload 5, 2) := by decide +kernel
theorem d_MD_open_268 : decode b_MD_open 268 = .ok (.iload 8, 2) := by decide +kernel
theorem d_MD_open_270 : decode b_MD_open 270 = .ok (.bipush 10, 2) := by decide +kernel
theorem d_MD_open_272 : decode b_MD_open 272 = .ok (.if_icmp .gt 7, 3) := by decide +kernel
theorem d_MD_open_275 : decode b_MD_open 275 = .ok (.iconst 1, 1) := by decide +kernel
theorem d_MD_open_276 : decode b_MD_open 276 = .ok (.goto 4, 3) := by decide +kernel
theorem d_MD_open_279 : decode b_MD_open 279 = .ok (.iconst 0, 1) := by decide +kernel
theorem d_MD_open_280 : decode b_MD_open 280 = .ok (.invokevirtual 89, 3) := by decide +kernel
theorem d_MD_open_283 : decode b_MD_open 283 = .ok (.istore 7, 2) := by decide +kernel
theorem d_MD_open_285 : decode b_MD_open 285 = .ok (.iload 7, 2) := by decide +kernel
theorem d_MD_open_287 : decode b_MD_open 287 = .ok (.ifCond .ne 36, 3) := by decide +kernel
theorem d_MD_open_290 : decode b_MD_open 290 = .ok (.aload_n 0, 1) := by decide +kernel
theorem d_MD_open_291 : decode b_MD_open 291 = .ok (.iload 6, 2) := by decide +kernel
theorem d_MD_open_293 : decode b_MD_open 293 = .ok (.iload 9, 2) := by decide +kernel
theorem d_MD_open_295 : decode b_MD_open 295 = .ok (.aload_n 0, 1) := by decide +kernel
theorem d_MD_open_296 : decode b_MD_open 296 = .ok (.getfield 83, 3) := by decide +kernel
theorem d_MD_open_299 : decode b_MD_open 299 = .ok (.iload 5, 2) := by decide +kernel
theorem d_MD_open_301 : decode b_MD_open 301 = .ok (.invokevirtual 93, 3) := by decide +kernel
theorem d_MD_open_304 : decode b_MD_open 304 = .ok (.aload_n 0, 1) := by decide +kernel
theorem d_MD_open_305 : decode b_MD_open 305 = .ok (.dup, 1) := by decide +kernel
theorem d_MD_open_306 : decode b_MD_open 306 = .ok (.getfield 83, 3) := by decide +kernel
theorem d_MD_open_309 : decode b_MD_open 309 = .ok (.iconst 1, 1) := by decide +kernel
theorem d_MD_open_310 : decode b_MD_open 310 = .ok (.iadd, 1) := by decide +kernel
theorem d_MD_open_311 : decode b_MD_open 311 = .ok (.putfield 83, 3) := by decide +kernel
theorem d_MD_open_314 : decode b_MD_open 314 = .ok (.iload 6, 2) := by decide +kernel
theorem d_MD_open_316 : decode b_MD_open 316 = .ok (.iload 9, 2) := by decide +kernel
theorem d_MD_open_318 : decode b_MD_open 318 = .ok (.iadd, 1) := by decide +kernel
theorem d_MD_open_319 : decode b_MD_open 319 = .ok (.iconst 2, 1) := by decide +kernel
theorem d_MD_open_320 : decode b_MD_open 320 = .ok (.iadd, 1) := by decide +kernel
theorem d_MD_open_321 : decode b_MD_open 321 = .ok (.istore 6, 2) := by decide +kernel
theorem d_MD_open_323 : decode b_MD_open 323 = .ok (.goto (-118), 3) := by decide +kernel
theorem d_MD_open_326 : decode b_MD_open 326 = .ok (.aload_n 0, 1) := by decide +kernel
theorem d_MD_open_327 : decode b_MD_open 327 = .ok (.aload_n 0, 1) := by decide +kernel
theorem d_MD_open_328 : decode b_MD_open 328 = .ok (.getfield 80, 3) := by decide +kernel
theorem d_MD_open_331 : decode b_MD_open 331 = .ok (.putfield 53, 3) := by decide +kernel
theorem d_MD_open_334 : decode b_MD_open 334 = .ok (.iconst 0, 1) := by decide +kernel
theorem d_MD_open_335 : decode b_MD_open 335 = .ok (.istore 8, 2) := by decide +kernel
theorem d_MD_open_337 : decode b_MD_open 337 = .ok (.iload 8, 2) := by decide +kernel
theorem d_MD_open_339 : decode b_MD_open 339 = .ok (.aload_n 0, 1) := by decide +kernel
theorem d_MD_open_340 : decode b_MD_open 340 = .ok (.getfield 80, 3) := by decide +kernel
theorem d_MD_open_343 : decode b_MD_open 343 = .ok (.if_icmp .ge 23, 3) := by decide +kernel
theorem d_MD_open_346 : decode b_MD_open 346 = .ok (.aload_n 0, 1) := by decide +kernel
theorem d_MD_open_347 : decode b_MD_open 347 = .ok (.getfield 13, 3) := by decide +kernel
theorem d_MD_open_350 : decode b_MD_open 350 = .ok (.iload 8, 2) := by decide +kernel
theorem d_MD_open_352 : decode b_MD_open 352 = .ok (.aload_n 0, 1) := by decide +kernel
theorem d_MD_open_353 : decode b_MD_open 353 = .ok (.getfield 19, 3) := by decide +kernel
theorem d_MD_open_356 : decode b_MD_open 356 = .ok (.iload 8, 2) := by decide +kernel
theorem d_MD_open_358 : decode b_MD_open 358 = .ok (.iaload, 1) := by decide +kernel
theorem d_MD_open_359 : decode b_MD_open 359 = .ok (.iastore, 1) := by decide +kernel
theorem d_MD_open_360 : decode b_MD_open 360 = .ok (.iinc 8 1, 3) := by decide +kernel
theorem d_MD_open_363 : decode b_MD_open 363 = .ok (.goto (-26), 3) := by decide +kernel
theorem d_MD_open_366 : decode b_MD_open 366 = .ok (.iload 7, 2) := by decide +kernel
theorem d_MD_open_368 : decode b_MD_open 368 = .ok (.ifCond .ge 8, 3) := by decide +kernel
theorem d_MD_open_371 : decode b_MD_open 371 = .ok (.iload 7, 2) := by decide +kernel
theorem d_MD_open_373 : decode b_MD_open 373 = .ok (.goto 7, 3) := by decide +kernel
theorem d_MD_open_376 : decode b_MD_open 376 = .ok (.aload_n 0, 1) := by decide +kernel
theorem d_MD_open_377 : decode b_MD_open 377 = .ok (.getfield 53, 3) := by decide +kernel
theorem d_MD_open_380 : decode b_MD_open 380 = .ok (.ireturn, 1) := by decide +kernel
theorem d_MD_piece_0 : decode b_MD_piece 0 = .ok (.aload_n 0, 1) := by decide +kernel
theorem d_MD_piece_1 : decode b_MD_piece 1 = .ok (.iload_n 1, 1) := by decide +kernel
theorem d_MD_piece_2 : decode b_MD_piece 2 = .ok (.iload_n 2, 1) := by decide +kernel
theorem d_MD_piece_3 : decode b_MD_piece 3 = .ok (.iadd, 1) := by decide +kernel
theorem d_MD_piece_4 : decode b_MD_piece 4 = .ok (.invokevirtual 77, 3) := by decide +kernel
theorem d_MD_piece_7 : decode b_MD_piece 7 = .ok (.istore 6, 2) := by decide +kernel
theorem d_MD_piece_9 : decode b_MD_piece 9 = .ok (.iload 6, 2) := by decide +kernel
theorem d_MD_piece_11 : decode b_MD_piece 11 = .ok (.aload_n 0, 1) := by decide +kernel
theorem d_MD_piece_12 : decode b_MD_piece 12 = .ok (.iload_n 1, 1) := by decide +kernel
theorem d_MD_piece_13 : decode b_MD_piece 13 = .ok (.iload_n 1, 1) := by decide +kernel
theorem d_MD_piece_14 : decode b_MD_piece 14 = .ok (.iload_n 2, 1) := by decide +kernel
theorem d_MD_piece_15 : decode b_MD_piece 15 = .ok (.iadd, 1) := by decide +kernel
theorem d_MD_piece_16 : decode b_MD_piece 16 = .ok (.iload 4, 2) := by decide +kernel
theorem d_MD_piece_18 : decode b_MD_piece 18 = .ok (.iload_n 3, 1) := by decide +kernel
theorem d_MD_piece_19 : decode b_MD_piece 19 = .ok (.iload 5, 2) := by decide +kernel
theorem d_MD_piece_21 : decode b_MD_piece 21 = .ok (.ifCond .eq 8, 3) := by decide +kernel
theorem d_MD_piece_24 : decode b_MD_piece 24 = .ok (.bipush 6, 2) := by decide +kernel
theorem d_MD_piece_26 : decode b_MD_piece 26 = .ok (.goto 4, 3) := by decide +kernel
theorem d_MD_piece_29 : decode b_MD_piece 29 = .ok (.iconst 5, 1) := by decide +kernel
theorem d_MD_piece_30 : decode b_MD_piece 30 = .ok (.invokestatic 63, 3) := by decide +kernel
theorem d_MD_piece_33 : decode b_MD_piece 33 = .ok (.invokevirtual 70, 3) := by decide +kernel
theorem d_MD_piece_36 : decode b_MD_piece 36 = .ok (.if_icmp .ne 5, 3) := by decide +kernel
theorem d_MD_piece_39 : decode b_MD_piece 39 = .ok (.iconst 0, 1) := by decide +kernel
theorem d_MD_piece_40 : decode b_MD_piece 40 = .ok (.ireturn, 1) := by decide +kernel
theorem d_MD_piece_41 : decode b_MD_piece 41 = .ok (.iload 6, 2) := by decide +kernel
theorem d_MD_piece_43 : decode b_MD_piece 43 = .ok (.aload_n 0, 1) := by decide +kernel
theorem d_MD_piece_44 : decode b_MD_piece 44 = .ok (.iload_n 1, 1) := by decide +kernel
theorem d_MD_piece_45 : decode b_MD_piece 45 = .ok (.iload_n 1, 1) := by decide +kernel
theorem d_MD_piece_46 : decode b_MD_piece 46 = .ok (.iload_n 2, 1) := by decide +kernel
theorem d_MD_piece_47 : decode b_MD_piece 47 = .ok (.iadd, 1) := by decide +kernel
theorem d_MD_piece_48 : decode b_MD_piece 48 = .ok (.iload 4, 2) := by decide +kernel
theorem d_MD_piece_50 : decode b_MD_piece 50 = .ok (.iload_n 3, 1) := by decide +kernel
theorem d_MD_piece_51 : decode b_MD_piece 51 = .ok (.iload 5, 2) := by decide +kernel
theorem d_MD_piece_53 : decode b_MD_piece 53 = .ok (.ifCond .eq 7, 3) := by decide +kernel
theorem d_MD_piece_56 : decode b_MD_piece 56 = .ok (.iconst 5, 1) := by decide +kernel
theorem d_MD_piece_57 : decode b_MD_piece 57 = .ok (.goto 5, 3) := by decide +kernel
theorem d_MD_piece_60 : decode b_MD_piece 60 = .ok (.bipush 6, 2) := by decide +kernel
theorem d_MD_piece_62 : decode b_MD_piece 62 = .ok (.invokestatic 63, 3) := by decide +kernel
theorem d_MD_piece_65 : decode b_MD_piece 65 = .ok (.invokevirtual 70, 3) := by decide +kernel
theorem d_MD_piece_68 : decode b_MD_piece 68 = .ok (.if_icmp .ne 8, 3) := by decide +kernel
theorem d_MD_piece_71 : decode b_MD_piece 71 = .ok (.bipush (-5), 2) := by decide +kernel
theorem d_MD_piece_73 : decode b_MD_piece 73 = .ok (.goto 5, 3) := by decide +kernel
theorem d_MD_piece_76 : decode b_MD_piece 76 = .ok (.bipush (-4), 2) := by decide +kernel
theorem d_MD_piece_78 : decode b_MD_piece 78 = .ok (.ireturn, 1) := by decide +kernel
theorem d_MD_pieces_0 : decode b_MD_pieces 0 = .ok (.aload_n 0, 1) := by decide +kernel
theorem d_MD_pieces_1 : decode b_MD_pieces 1 = .ok (.iconst 0, 1) := by decide +kernel
theorem d_MD_pieces_2 : decode b_MD_pieces 2 = .ok (.putfield 26, 3) := by decide +kernel
theorem d_MD_pieces_5 : decode b_MD_pieces 5 = .ok (.aload_n 0, 1) := by decide +kernel
theorem d_MD_pieces_6 : decode b_MD_pieces 6 = .ok (.getfield 83, 3) := by decide +kernel
theorem d_MD_pieces_9 : decode b_MD_pieces 9 = .ok (.ireturn, 1) := by decide +kernel
theorem d_MD_power_0 : decode b_MD_power 0 = .ok (.iconst 1, 1) := by decide +kernel
theorem d_MD_power_1 : decode b_MD_power 1 = .ok (.istore_n 2, 1) := by decide +kernel
theorem d_MD_power_2 : decode b_MD_power 2 = .ok (.iload_n 0, 1) := by decide +kernel
theorem d_MD_power_3 : decode b_MD_power 3 = .ok (.sipush 32749, 3) := by decide +kernel
theorem d_MD_power_6 : decode b_MD_power 6 = .ok (.irem, 1) := by decide +kernel
theorem d_MD_power_7 : decode b_MD_power 7 = .ok (.istore_n 3, 1) := by decide +kernel
theorem d_MD_power_8 : decode b_MD_power 8 = .ok (.iconst 0, 1) := by decide +kernel
theorem d_MD_power_9 : decode b_MD_power 9 = .ok (.istore 4, 2) := by decide +kernel
theorem d_MD_power_11 : decode b_MD_power 11 = .ok (.iload 4, 2) := by decide +kernel
theorem d_MD_power_13 : decode b_MD_power 13 = .ok (.bipush 16, 2) := by decide +kernel
theorem d_MD_power_15 : decode b_MD_power 15 = .ok (.if_icmp .ge 39, 3) := by decide +kernel
theorem d_MD_power_18 : decode b_MD_power 18 = .ok (.iload_n 1, 1) := by decide +kernel
theorem d_MD_power_19 : decode b_MD_power 19 = .ok (.iload 4, 2) := by decide +kernel
theorem d_MD_power_21 : decode b_MD_power 21 = .ok (.ishr, 1) := by decide +kernel
theorem d_MD_power_22 : decode b_MD_power 22 = .ok (.iconst 1, 1) := by decide +kernel
theorem d_MD_power_23 : decode b_MD_power 23 = .ok (.iand, 1) := by decide +kernel
theorem d_MD_power_24 : decode b_MD_power 24 = .ok (.iconst 1, 1) := by decide +kernel
theorem d_MD_power_25 : decode b_MD_power 25 = .ok (.if_icmp .ne 13, 3) := by decide +kernel
theorem d_MD_power_28 : decode b_MD_power 28 = .ok (.iload_n 2, 1) := by decide +kernel
theorem d_MD_power_29 : decode b_MD_power 29 = .ok (.iload_n 3, 1) := by decide +kernel
theorem d_MD_power_30 : decode b_MD_power 30 = .ok (.imul, 1) := by decide +kernel
theorem d_MD_power_31 : decode b_MD_power 31 = .ok (.sipush 32749, 3) := by decide +kernel
theorem d_MD_power_34 : decode b_MD_power 34 = .ok (.irem, 1) := by decide +kernel
theorem d_MD_power_35 : decode b_MD_power 35 = .ok (.goto 4, 3) := by decide +kernel
theorem d_MD_power_38 : decode b_MD_power 38 = .ok (.iload_n 2, 1) := by decide +kernel
theorem d_MD_power_39 : decode b_MD_power 39 = .ok (.istore_n 2, 1) := by decide +kernel
theorem d_MD_power_40 : decode b_MD_power 40 = .ok (.iload_n 3, 1) := by decide +kernel
theorem d_MD_power_41 : decode b_MD_power 41 = .ok (.iload_n 3, 1) := by decide +kernel
theorem d_MD_power_42 : decode b_MD_power 42 = .ok (.imul, 1) := by decide +kernel
theorem d_MD_power_43 : decode b_MD_power 43 = .ok (.sipush 32749, 3) := by decide +kernel
theorem d_MD_power_46 : decode b_MD_power 46 = .ok (.irem, 1) := by decide +kernel
theorem d_MD_power_47 : decode b_MD_power 47 = .ok (.istore_n 3, 1) := by decide +kernel
theorem d_MD_power_48 : decode b_MD_power 48 = .ok (.iinc 4 1, 3) := by decide +kernel
theorem d_MD_power_51 : decode b_MD_power 51 = .ok (.goto (-40), 3) := by decide +kernel
theorem d_MD_power_54 : decode b_MD_power 54 = .ok (.iload_n 2, 1) := by decide +kernel
theorem d_MD_power_55 : decode b_MD_power 55 = .ok (.ireturn, 1) := by decide +kernel
theorem d_MD_print_0 : decode b_MD_print 0 = .ok (.aload_n 0, 1) := by decide +kernel
theorem d_MD_print_1 : decode b_MD_print 1 = .ok (.iconst 0, 1) := by decide +kernel
theorem d_MD_print_2 : decode b_MD_print 2 = .ok (.putfield 26, 3) := by decide +kernel
theorem d_MD_print_5 : decode b_MD_print 5 = .ok (.iload_n 1, 1) := by decide +kernel
theorem d_MD_print_6 : decode b_MD_print 6 = .ok (.ifCond .lt 24, 3) := by decide +kernel
theorem d_MD_print_9 : decode b_MD_print 9 = .ok (.iload_n 1, 1) := by decide +kernel
theorem d_MD_print_10 : decode b_MD_print 10 = .ok (.sipush 160, 3) := by decide +kernel
theorem d_MD_print_13 : decode b_MD_print 13 = .ok (.if_icmp .ge 17, 3) := by decide +kernel
theorem d_MD_print_16 : decode b_MD_print 16 = .ok (.bipush 6, 2) := by decide +kernel
theorem d_MD_print_18 : decode b_MD_print 18 = .ok (.iload_n 1, 1) := by decide +kernel
theorem d_MD_print_19 : decode b_MD_print 19 = .ok (.imul, 1) := by decide +kernel
theorem d_MD_print_20 : decode b_MD_print 20 = .ok (.bipush 8, 2) := by decide +kernel
theorem d_MD_print_22 : decode b_MD_print 22 = .ok (.aload_n 0, 1) := by decide +kernel
theorem d_MD_print_23 : decode b_MD_print 23 = .ok (.getfield 56, 3) := by decide +kernel
theorem d_MD_print_26 : decode b_MD_print 26 = .ok (.imul, 1) := by decide +kernel
theorem d_MD_print_27 : decode b_MD_print 27 = .ok (.if_icmp .lt 5, 3) := by decide +kernel
theorem d_MD_print_30 : decode b_MD_print 30 = .ok (.iconst (-1), 1) := by decide +kernel
theorem d_MD_print_31 : decode b_MD_print 31 = .ok (.ireturn, 1) := by decide +kernel
theorem d_MD_print_32 : decode b_MD_print 32 = .ok (.iconst 0, 1) := by decide +kernel
theorem d_MD_print_33 : decode b_MD_print 33 = .ok (.istore_n 2, 1) := by decide +kernel
theorem d_MD_print_34 : decode b_MD_print 34 = .ok (.iconst 0, 1) := by decide +kernel
theorem d_MD_print_35 : decode b_MD_print 35 = .ok (.istore_n 3, 1) := by decide +kernel
theorem d_MD_print_36 : decode b_MD_print 36 = .ok (.iload_n 3, 1) := by decide +kernel
theorem d_MD_print_37 : decode b_MD_print 37 = .ok (.bipush 6, 2) := by decide +kernel
theorem d_MD_print_39 : decode b_MD_print 39 = .ok (.if_icmp .ge 24, 3) := by decide +kernel
theorem d_MD_print_42 : decode b_MD_print 42 = .ok (.iconst 2, 1) := by decide +kernel
theorem d_MD_print_43 : decode b_MD_print 43 = .ok (.iload_n 2, 1) := by decide +kernel
theorem d_MD_print_44 : decode b_MD_print 44 = .ok (.imul, 1) := by decide +kernel
theorem d_MD_print_45 : decode b_MD_print 45 = .ok (.aload_n 0, 1) := by decide +kernel
theorem d_MD_print_46 : decode b_MD_print 46 = .ok (.bipush 6, 2) := by decide +kernel
theorem d_MD_print_48 : decode b_MD_print 48 = .ok (.iload_n 1, 1) := by decide +kernel
theorem d_MD_print_49 : decode b_MD_print 49 = .ok (.imul, 1) := by decide +kernel
theorem d_MD_print_50 : decode b_MD_print 50 = .ok (.iload_n 3, 1) := by decide +kernel
theorem d_MD_print_51 : decode b_MD_print 51 = .ok (.iadd, 1) := by decide +kernel
theorem d_MD_print_52 : decode b_MD_print 52 = .ok (.invokevirtual 97, 3) := by decide +kernel
theorem d_MD_print_55 : decode b_MD_print 55 = .ok (.iadd, 1) := by decide +kernel
theorem d_MD_print_56 : decode b_MD_print 56 = .ok (.istore_n 2, 1) := by decide +kernel
theorem d_MD_print_57 : decode b_MD_print 57 = .ok (.iinc 3 1, 3) := by decide +kernel
theorem d_MD_print_60 : decode b_MD_print 60 = .ok (.goto (-24), 3) := by decide +kernel
theorem d_MD_print_63 : decode b_MD_print 63 = .ok (.iload_n 2, 1) := by decide +kernel
theorem d_MD_print_64 : decode b_MD_print 64 = .ok (.bipush 26, 2) := by decide +kernel
theorem d_MD_print_66 : decode b_MD_print 66 = .ok (.if_icmp .ge 10, 3) := by decide +kernel
theorem d_MD_print_69 : decode b_MD_print 69 = .ok (.bipush 65, 2) := by decide +kernel
theorem d_MD_print_71 : decode b_MD_print 71 = .ok (.iload_n 2, 1) := by decide +kernel
theorem d_MD_print_72 : decode b_MD_print 72 = .ok (.iadd, 1) := by decide +kernel
theorem d_MD_print_73 : decode b_MD_print 73 = .ok (.goto 48, 3) := by decide +kernel
theorem d_MD_print_76 : decode b_MD_print 76 = .ok (.iload_n 2, 1) := by decide +kernel
theorem d_MD_print_77 : decode b_MD_print 77 = .ok (.bipush 52, 2) := by decide +kernel
theorem d_MD_print_79 : decode b_MD_print 79 = .ok (.if_icmp .ge 13, 3) := by decide +kernel
theorem d_MD_print_82 : decode b_MD_print 82 = .ok (.bipush 97, 2) := by decide +kernel
theorem d_MD_print_84 : decode b_MD_print 84 = .ok (.iload_n 2, 1) := by decide +kernel
theorem d_MD_print_85 : decode b_MD_print 85 = .ok (.iadd, 1) := by decide +kernel
theorem d_MD_print_86 : decode b_MD_print 86 = .ok (.bipush 26, 2) := by decide +kernel
theorem d_MD_print_88 : decode b_MD_print 88 = .ok (.isub, 1) := by decide +kernel
theorem d_MD_print_89 : decode b_MD_print 89 = .ok (.goto 32, 3) := by decide +kernel
theorem d_MD_print_92 : decode b_MD_print 92 = .ok (.iload_n 2, 1) := by decide +kernel
theorem d_MD_print_93 : decode b_MD_print 93 = .ok (.bipush 62, 2) := by decide +kernel
theorem d_MD_print_95 : decode b_MD_print 95 = .ok (.if_icmp .ge 13, 3) := by decide +kernel
theorem d_MD_print_98 : decode b_MD_print 98 = .ok (.bipush 48, 2) := by decide +kernel
theorem d_MD_print_100 : decode b_MD_print 100 = .ok (.iload_n 2, 1) := by decide +kernel
theorem d_MD_print_101 : decode b_MD_print 101 = .ok (.iadd, 1) := by decide +kernel
theorem d_MD_print_102 : decode b_MD_print 102 = .ok (.bipush 52, 2) := by decide +kernel
theorem d_MD_print_104 : decode b_MD_print 104 = .ok (.isub, 1) := by decide +kernel
theorem d_MD_print_105 : decode b_MD_print 105 = .ok (.goto 16, 3) := by decide +kernel
theorem d_MD_print_108 : decode b_MD_print 108 = .ok (.iload_n 2, 1) := by decide +kernel
theorem d_MD_print_109 : decode b_MD_print 109 = .ok (.bipush 62, 2) := by decide +kernel
theorem d_MD_print_111 : decode b_MD_print 111 = .ok (.if_icmp .ne 8, 3) := by decide +kernel
theorem d_MD_print_114 : decode b_MD_print 114 = .ok (.bipush 43, 2) := by decide +kernel
theorem d_MD_print_116 : decode b_MD_print 116 = .ok (.goto 5, 3) := by decide +kernel
theorem d_MD_print_119 : decode b_MD_print 119 = .ok (.bipush 45, 2) := by decide +kernel
theorem d_MD_print_121 : decode b_MD_print 121 = .ok (.ireturn, 1) := by decide +kernel
theorem d_MD_put_0 : decode b_MD_put 0 = .ok (.aload_n 0, 1) := by decide +kernel
theorem d_MD_put_1 : decode b_MD_put 1 = .ok (.iconst 0, 1) := by decide +kernel
theorem d_MD_put_2 : decode b_MD_put 2 = .ok (.putfield 26, 3) := by decide +kernel
theorem d_MD_put_5 : decode b_MD_put 5 = .ok (.aload_n 0, 1) := by decide +kernel
theorem d_MD_put_6 : decode b_MD_put 6 = .ok (.getfield 53, 3) := by decide +kernel
theorem d_MD_put_9 : decode b_MD_put 9 = .ok (.bipush 40, 2) := by decide +kernel
theorem d_MD_put_11 : decode b_MD_put 11 = .ok (.if_icmp .eq 14, 3) := by decide +kernel
theorem d_MD_put_14 : decode b_MD_put 14 = .ok (.iload_n 1, 1) := by decide +kernel
theorem d_MD_put_15 : decode b_MD_put 15 = .ok (.ifCond .lt 10, 3) := by decide +kernel
theorem d_MD_put_18 : decode b_MD_put 18 = .ok (.iload_n 1, 1) := by decide +kernel
theorem d_MD_put_19 : decode b_MD_put 19 = .ok (.sipush 255, 3) := by decide +kernel
theorem d_MD_put_22 : decode b_MD_put 22 = .ok (.if_icmp .le 5, 3) := by decide +kernel
theorem d_MD_put_25 : decode b_MD_put 25 = .ok (.iconst 0, 1) := by decide +kernel
theorem d_MD_put_26 : decode b_MD_put 26 = .ok (.ireturn, 1) := by decide +kernel
theorem d_MD_put_27 : decode b_MD_put 27 = .ok (.aload_n 0, 1) := by decide +kernel
theorem d_MD_put_28 : decode b_MD_put 28 = .ok (.getfield 13, 3) := by decide +kernel
theorem d_MD_put_31 : decode b_MD_put 31 = .ok (.aload_n 0, 1) := by decide +kernel
theorem d_MD_put_32 : decode b_MD_put 32 = .ok (.getfield 53, 3) := by decide +kernel
theorem d_MD_put_35 : decode b_MD_put 35 = .ok (.iload_n 1, 1) := by decide +kernel
theorem d_MD_put_36 : decode b_MD_put 36 = .ok (.iastore, 1) := by decide +kernel
theorem d_MD_put_37 : decode b_MD_put 37 = .ok (.aload_n 0, 1) := by decide +kernel
theorem d_MD_put_38 : decode b_MD_put 38 = .ok (.dup, 1) := by decide +kernel
theorem d_MD_put_39 : decode b_MD_put 39 = .ok (.getfield 53, 3) := by decide +kernel
theorem d_MD_put_42 : decode b_MD_put 42 = .ok (.iconst 1, 1) := by decide +kernel
theorem d_MD_put_43 : decode b_MD_put 43 = .ok (.iadd, 1) := by decide +kernel
theorem d_MD_put_44 : decode b_MD_put 44 = .ok (.putfield 53, 3) := by decide +kernel
theorem d_MD_put_47 : decode b_MD_put 47 = .ok (.iconst 1, 1) := by decide +kernel
theorem d_MD_put_48 : decode b_MD_put 48 = .ok (.ireturn, 1) := by decide +kernel
theorem d_MD_read_0 : decode b_MD_read 0 = .ok (.aload_n 0, 1) := by decide +kernel
theorem d_MD_read_1 : decode b_MD_read 1 = .ok (.iconst 0, 1) := by decide +kernel
theorem d_MD_read_2 : decode b_MD_read 2 = .ok (.putfield 26, 3) := by decide +kernel
theorem d_MD_read_5 : decode b_MD_read 5 = .ok (.iload_n 1, 1) := by decide +kernel
theorem d_MD_read_6 : decode b_MD_read 6 = .ok (.ifCond .lt 20, 3) := by decide +kernel
theorem d_MD_read_9 : decode b_MD_read 9 = .ok (.iload_n 1, 1) := by decide +kernel
theorem d_MD_read_10 : decode b_MD_read 10 = .ok (.aload_n 0, 1) := by decide +kernel
theorem d_MD_read_11 : decode b_MD_read 11 = .ok (.getfield 53, 3) := by decide +kernel
theorem d_MD_read_14 : decode b_MD_read 14 = .ok (.if_icmp .ge 12, 3) := by decide +kernel
theorem d_MD_read_17 : decode b_MD_read 17 = .ok (.aload_n 0, 1) := by decide +kernel
theorem d_MD_read_18 : decode b_MD_read 18 = .ok (.getfield 13, 3) := by decide +kernel
theorem d_MD_read_21 : decode b_MD_read 21 = .ok (.iload_n 1, 1) := by decide +kernel
theorem d_MD_read_22 : decode b_MD_read 22 = .ok (.iaload, 1) := by decide +kernel
theorem d_MD_read_23 : decode b_MD_read 23 = .ok (.goto 8, 3) := by decide +kernel
theorem d_MD_read_26 : decode b_MD_read 26 = .ok (.aload_n 0, 1) := by decide +kernel
theorem d_MD_read_27 : decode b_MD_read 27 = .ok (.iconst 1, 1) := by decide +kernel
theorem d_MD_read_28 : decode b_MD_read 28 = .ok (.invokevirtual 39, 3) := by decide +kernel
theorem d_MD_read_31 : decode b_MD_read 31 = .ok (.ireturn, 1) := by decide +kernel
theorem d_MD_seal_0 : decode b_MD_seal 0 = .ok (.aload_n 0, 1) := by decide +kernel
theorem d_MD_seal_1 : decode b_MD_seal 1 = .ok (.iconst 0, 1) := by decide +kernel
theorem d_MD_seal_2 : decode b_MD_seal 2 = .ok (.putfield 26, 3) := by decide +kernel
theorem d_MD_seal_5 : decode b_MD_seal 5 = .ok (.iconst 0, 1) := by decide +kernel
theorem d_MD_seal_6 : decode b_MD_seal 6 = .ok (.istore 4, 2) := by decide +kernel
theorem d_MD_seal_8 : decode b_MD_seal 8 = .ok (.iconst 0, 1) := by decide +kernel
theorem d_MD_seal_9 : decode b_MD_seal 9 = .ok (.istore 5, 2) := by decide +kernel
theorem d_MD_seal_11 : decode b_MD_seal 11 = .ok (.iload 5, 2) := by decide +kernel
theorem d_MD_seal_13 : decode b_MD_seal 13 = .ok (.bipush 32, 2) := by decide +kernel
theorem d_MD_seal_15 : decode b_MD_seal 15 = .ok (.if_icmp .ge 43, 3) := by decide +kernel
theorem d_MD_seal_18 : decode b_MD_seal 18 = .ok (.iload_n 1, 1) := by decide +kernel
theorem d_MD_seal_19 : decode b_MD_seal 19 = .ok (.iload 5, 2) := by decide +kernel
theorem d_MD_seal_21 : decode b_MD_seal 21 = .ok (.ishr, 1) := by decide +kernel
theorem d_MD_seal_22 : decode b_MD_seal 22 = .ok (.iconst 1, 1) := by decide +kernel
theorem d_MD_seal_23 : decode b_MD_seal 23 = .ok (.iand, 1) := by decide +kernel
theorem d_MD_seal_24 : decode b_MD_seal 24 = .ok (.ifCond .ne 8, 3) := by decide +kernel
theorem d_MD_seal_27 : decode b_MD_seal 27 = .ok (.iload 4, 2) := by decide +kernel
theorem d_MD_seal_29 : decode b_MD_seal 29 = .ok (.goto 21, 3) := by decide +kernel
theorem d_MD_seal_32 : decode b_MD_seal 32 = .ok (.iload 5, 2) := by decide +kernel
theorem d_MD_seal_34 : decode b_MD_seal 34 = .ok (.aload_n 0, 1) := by decide +kernel
theorem d_MD_seal_35 : decode b_MD_seal 35 = .ok (.getfield 42, 3) := by decide +kernel
theorem d_MD_seal_38 : decode b_MD_seal 38 = .ok (.if_icmp .ge 10, 3) := by decide +kernel
theorem d_MD_seal_41 : decode b_MD_seal 41 = .ok (.iload 4, 2) := by decide +kernel
theorem d_MD_seal_43 : decode b_MD_seal 43 = .ok (.iconst 1, 1) := by decide +kernel
theorem d_MD_seal_44 : decode b_MD_seal 44 = .ok (.iadd, 1) := by decide +kernel
theorem d_MD_seal_45 : decode b_MD_seal 45 = .ok (.goto 5, 3) := by decide +kernel
theorem d_MD_seal_48 : decode b_MD_seal 48 = .ok (.bipush 100, 2) := by decide +kernel
theorem d_MD_seal_50 : decode b_MD_seal 50 = .ok (.istore 4, 2) := by decide +kernel
theorem d_MD_seal_52 : decode b_MD_seal 52 = .ok (.iinc 5 1, 3) := by decide +kernel
theorem d_MD_seal_55 : decode b_MD_seal 55 = .ok (.goto (-44), 3) := by decide +kernel
theorem d_MD_seal_58 : decode b_MD_seal 58 = .ok (.iload 4, 2) := by decide +kernel
theorem d_MD_seal_60 : decode b_MD_seal 60 = .ok (.iconst 1, 1) := by decide +kernel
theorem d_MD_seal_61 : decode b_MD_seal 61 = .ok (.if_icmp .lt 9, 3) := by decide +kernel
theorem d_MD_seal_64 : decode b_MD_seal 64 = .ok (.iload 4, 2) := by decide +kernel
theorem d_MD_seal_66 : decode b_MD_seal 66 = .ok (.iconst 3, 1) := by decide +kernel
theorem d_MD_seal_67 : decode b_MD_seal 67 = .ok (.if_icmp .le 9, 3) := by decide +kernel
theorem d_MD_seal_70 : decode b_MD_seal 70 = .ok (.aload_n 0, 1) := by decide +kernel
theorem d_MD_seal_71 : decode b_MD_seal 71 = .ok (.iconst 1, 1) := by decide +kernel
theorem d_MD_seal_72 : decode b_MD_seal 72 = .ok (.invokevirtual 39, 3) := by decide +kernel
theorem d_MD_seal_75 : decode b_MD_seal 75 = .ok (.ireturn, 1) := by decide +kernel
theorem d_MD_seal_76 : decode b_MD_seal 76 = .ok (.aload_n 0, 1) := by decide +kernel
theorem d_MD_seal_77 : decode b_MD_seal 77 = .ok (.iconst 0, 1) := by decide +kernel
theorem d_MD_seal_78 : decode b_MD_seal 78 = .ok (.putfield 56, 3) := by decide +kernel
theorem d_MD_seal_81 : decode b_MD_seal 81 = .ok (.aload_n 0, 1) := by decide +kernel
theorem d_MD_seal_82 : decode b_MD_seal 82 = .ok (.bipush 83, 2) := by decide +kernel
theorem d_MD_seal_84 : decode b_MD_seal 84 = .ok (.invokevirtual 59, 3) := by decide +kernel
theorem d_MD_seal_87 : decode b_MD_seal 87 = .ok (.aload_n 0, 1) := by decide +kernel
theorem d_MD_seal_88 : decode b_MD_seal 88 = .ok (.iload 4, 2) := by decide +kernel
theorem d_MD_seal_90 : decode b_MD_seal 90 = .ok (.invokevirtual 59, 3) := by decide +kernel
theorem d_MD_seal_93 : decode b_MD_seal 93 = .ok (.iconst 0, 1) := by decide +kernel
theorem d_MD_seal_94 : decode b_MD_seal 94 = .ok (.istore 5, 2) := by decide +kernel
theorem d_MD_seal_96 : decode b_MD_seal 96 = .ok (.iload 5, 2) := by decide +kernel
theorem d_MD_seal_98 : decode b_MD_seal 98 = .ok (.aload_n 0, 1) := by decide +kernel
theorem d_MD_seal_99 : decode b_MD_seal 99 = .ok (.getfield 42, 3) := by decide +kernel
theorem d_MD_seal_102 : decode b_MD_seal 102 = .ok (.if_icmp .ge 27, 3) := by decide +kernel
theorem d_MD_seal_105 : decode b_MD_seal 105 = .ok (.iload_n 1, 1) := by decide +kernel
theorem d_MD_seal_106 : decode b_MD_seal 106 = .ok (.iload 5, 2) := by decide +kernel
theorem d_MD_seal_108 : decode b_MD_seal 108 = .ok (.ishr, 1) := by decide +kernel
theorem d_MD_seal_109 : decode b_MD_seal 109 = .ok (.iconst 1, 1) := by decide +kernel
theorem d_MD_seal_110 : decode b_MD_seal 110 = .ok (.iand, 1) := by decide +kernel
theorem d_MD_seal_111 : decode b_MD_seal 111 = .ok (.iconst 1, 1) := by decide +kernel
theorem d_MD_seal_112 : decode b_MD_seal 112 = .ok (.if_icmp .ne 11, 3) := by decide +kernel
theorem d_MD_seal_115 : decode b_MD_seal 115 = .ok (.aload_n 0, 1) := by decide +kernel
theorem d_MD_seal_116 : decode b_MD_seal 116 = .ok (.iload 5, 2) := by decide +kernel
theorem d_MD_seal_118 : decode b_MD_seal 118 = .ok (.iload_n 2, 1) := by decide +kernel
theorem d_MD_seal_119 : decode b_MD_seal 119 = .ok (.iload_n 3, 1) := by decide +kernel
theorem d_MD_seal_120 : decode b_MD_seal 120 = .ok (.invokevirtual 73, 3) := by decide +kernel
theorem d_MD_seal_123 : decode b_MD_seal 123 = .ok (.iinc 5 1, 3) := by decide +kernel
theorem d_MD_seal_126 : decode b_MD_seal 126 = .ok (.goto (-30), 3) := by decide +kernel
theorem d_MD_seal_129 : decode b_MD_seal 129 = .ok (.aload_n 0, 1) := by decide +kernel
theorem d_MD_seal_130 : decode b_MD_seal 130 = .ok (.iconst 0, 1) := by decide +kernel
theorem d_MD_seal_131 : decode b_MD_seal 131 = .ok (.aload_n 0, 1) := by decide +kernel
theorem d_MD_seal_132 : decode b_MD_seal 132 = .ok (.getfield 56, 3) := by decide +kernel
theorem d_MD_seal_135 : decode b_MD_seal 135 = .ok (.iload_n 2, 1) := by decide +kernel
theorem d_MD_seal_136 : decode b_MD_seal 136 = .ok (.iconst 0, 1) := by decide +kernel
theorem d_MD_seal_137 : decode b_MD_seal 137 = .ok (.iconst 3, 1) := by decide +kernel
theorem d_MD_seal_138 : decode b_MD_seal 138 = .ok (.invokestatic 63, 3) := by decide +kernel
theorem d_MD_seal_141 : decode b_MD_seal 141 = .ok (.invokevirtual 70, 3) := by decide +kernel
theorem d_MD_seal_144 : decode b_MD_seal 144 = .ok (.istore 5, 2) := by decide +kernel
theorem d_MD_seal_146 : decode b_MD_seal 146 = .ok (.aload_n 0, 1) := by decide +kernel
theorem d_MD_seal_147 : decode b_MD_seal 147 = .ok (.iload 5, 2) := by decide +kernel
theorem d_MD_seal_149 : decode b_MD_seal 149 = .ok (.invokevirtual 67, 3) := by decide +kernel
theorem d_MD_seal_152 : decode b_MD_seal 152 = .ok (.aload_n 0, 1) := by decide +kernel
theorem d_MD_seal_153 : decode b_MD_seal 153 = .ok (.getfield 53, 3) := by decide +kernel
theorem d_MD_seal_156 : decode b_MD_seal 156 = .ok (.ifCond .ne 7, 3) := by decide +kernel
theorem d_MD_seal_159 : decode b_MD_seal 159 = .ok (.iconst 1, 1) := by decide +kernel
theorem d_MD_seal_160 : decode b_MD_seal 160 = .ok (.goto 13, 3) := by decide +kernel
theorem d_MD_seal_163 : decode b_MD_seal 163 = .ok (.aload_n 0, 1) := by decide +kernel
theorem d_MD_seal_164 : decode b_MD_seal 164 = .ok (.getfield 53, 3) := by decide +kernel
theorem d_MD_seal_167 : decode b_MD_seal 167 = .ok (.bipush 7, 2) := by decide +kernel
theorem d_MD_seal_169 : decode b_MD_seal 169 = .ok (.iadd, 1) := by decide +kernel
theorem d_MD_seal_170 : decode b_MD_seal 170 = .ok (.bipush 8, 2) := by decide +kernel
theorem d_MD_seal_172 : decode b_MD_seal 172 = .ok (.idiv, 1) := by decide +kernel
theorem d_MD_seal_173 : decode b_MD_seal 173 = .ok (.istore 6, 2) := by decide +kernel
theorem d_MD_seal_175 : decode b_MD_seal 175 = .ok (.iconst 0, 1) := by decide +kernel
theorem d_MD_seal_176 : decode b_MD_seal 176 = .ok (.istore 7, 2) := by decide +kernel
theorem d_MD_seal_178 : decode b_MD_seal 178 = .ok (.iload 7, 2) := by decide +kernel
theorem d_MD_seal_180 : decode b_MD_seal 180 = .ok (.iload 6, 2) := by decide +kernel
theorem d_MD_seal_182 : decode b_MD_seal 182 = .ok (.if_icmp .ge 120, 3) := by decide +kernel
theorem d_MD_seal_185 : decode b_MD_seal 185 = .ok (.aload_n 0, 1) := by decide +kernel
theorem d_MD_seal_186 : decode b_MD_seal 186 = .ok (.getfield 56, 3) := by decide +kernel
theorem d_MD_seal_189 : decode b_MD_seal 189 = .ok (.istore 8, 2) := by decide +kernel
theorem d_MD_seal_191 : decode b_MD_seal 191 = .ok (.bipush 8, 2) := by decide +kernel
theorem d_MD_seal_193 : decode b_MD_seal 193 = .ok (.iload 7, 2) := by decide +kernel
theorem d_MD_seal_195 : decode b_MD_seal 195 = .ok (.imul, 1) := by decide +kernel
theorem d_MD_seal_196 : decode b_MD_seal 196 = .ok (.istore 9, 2) := by decide +kernel
theorem d_MD_seal_198 : decode b_MD_seal 198 = .ok (.iload 9, 2) := by decide +kernel
theorem d_MD_seal_200 : decode b_MD_seal 200 = .ok (.aload_n 0, 1) := by decide +kernel
theorem d_MD_seal_201 : decode b_MD_seal 201 = .ok (.getfield 53, 3) := by decide +kernel
theorem d_MD_seal_204 : decode b_MD_seal 204 = .ok (.if_icmp .ge 53, 3) := by decide +kernel
theorem d_MD_seal_207 : decode b_MD_seal 207 = .ok (.iload 9, 2) := by decide +kernel
theorem d_MD_seal_209 : decode b_MD_seal 209 = .ok (.bipush 8, 2) := by decide +kernel
theorem d_MD_seal_211 : decode b_MD_seal 211 = .ok (.iload 7, 2) := by decide +kernel
theorem d_MD_seal_213 : decode b_MD_seal 213 = .ok (.imul, 1) := by decide +kernel
theorem d_MD_seal_214 : decode b_MD_seal 214 = .ok (.bipush 8, 2) := by decide +kernel
theorem d_MD_seal_216 : decode b_MD_seal 216 = .ok (.iadd, 1) := by decide +kernel
theorem d_MD_seal_217 : decode b_MD_seal 217 = .ok (.if_icmp .ge 40, 3) := by decide +kernel
theorem d_MD_seal_220 : decode b_MD_seal 220 = .ok (.aload_n 0, 1) := by decide +kernel
theorem d_MD_seal_221 : decode b_MD_seal 221 = .ok (.aload_n 0, 1) := by decide +kernel
theorem d_MD_seal_222 : decode b_MD_seal 222 = .ok (.getfield 13, 3) := by decide +kernel
theorem d_MD_seal_225 : decode b_MD_seal 225 = .ok (.iload 9, 2) := by decide +kernel
theorem d_MD_seal_227 : decode b_MD_seal 227 = .ok (.iaload, 1) := by decide +kernel
theorem d_MD_seal_228 : decode b_MD_seal 228 = .ok (.iload_n 2, 1) := by decide +kernel
theorem d_MD_seal_229 : decode b_MD_seal 229 = .ok (.bipush 16, 2) := by decide +kernel
theorem d_MD_seal_231 : decode b_MD_seal 231 = .ok (.iload 7, 2) := by decide +kernel
theorem d_MD_seal_233 : decode b_MD_seal 233 = .ok (.imul, 1) := by decide +kernel
theorem d_MD_seal_234 : decode b_MD_seal 234 = .ok (.iload 9, 2) := by decide +kernel
theorem d_MD_seal_236 : decode b_MD_seal 236 = .ok (.iadd, 1) := by decide +kernel
theorem d_MD_seal_237 : decode b_MD_seal 237 = .ok (.bipush 8, 2) := by decide +kernel
theorem d_MD_seal_239 : decode b_MD_seal 239 = .ok (.iload 7, 2) := by decide +kernel
theorem d_MD_seal_241 : decode b_MD_seal 241 = .ok (.imul, 1) := by decide +kernel
theorem d_MD_seal_242 : decode b_MD_seal 242 = .ok (.isub, 1) := by decide +kernel
theorem d_MD_seal_243 : decode b_MD_seal 243 = .ok (.iconst 4, 1) := by decide +kernel
theorem d_MD_seal_244 : decode b_MD_seal 244 = .ok (.invokestatic 63, 3) := by decide +kernel
theorem d_MD_seal_247 : decode b_MD_seal 247 = .ok (.ixor, 1) := by decide +kernel
theorem d_MD_seal_248 : decode b_MD_seal 248 = .ok (.invokevirtual 59, 3) := by decide +kernel
theorem d_MD_seal_251 : decode b_MD_seal 251 = .ok (.iinc 9 1, 3) := by decide +kernel
theorem d_MD_seal_254 : decode b_MD_seal 254 = .ok (.goto (-56), 3) := by decide +kernel
theorem d_MD_seal_257 : decode b_MD_seal 257 = .ok (.aload_n 0, 1) := by decide +kernel
theorem d_MD_seal_258 : decode b_MD_seal 258 = .ok (.iload 8, 2) := by decide +kernel
theorem d_MD_seal_260 : decode b_MD_seal 260 = .ok (.aload_n 0, 1) := by decide +kernel
theorem d_MD_seal_261 : decode b_MD_seal 261 = .ok (.getfield 56, 3) := by decide +kernel
theorem d_MD_seal_264 : decode b_MD_seal 264 = .ok (.iload_n 2, 1) := by decide +kernel
theorem d_MD_seal_265 : decode b_MD_seal 265 = .ok (.iload 7, 2) := by decide +kernel
theorem d_MD_seal_267 : decode b_MD_seal 267 = .ok (.iload 7, 2) := by decide +kernel
theorem d_MD_seal_269 : decode b_MD_seal 269 = .ok (.iload 6, 2) := by decide +kernel
theorem d_MD_seal_271 : decode b_MD_seal 271 = .ok (.iconst 1, 1) := by decide +kernel
theorem d_MD_seal_272 : decode b_MD_seal 272 = .ok (.isub, 1) := by decide +kernel
theorem d_MD_seal_273 : decode b_MD_seal 273 = .ok (.if_icmp .ne 8, 3) := by decide +kernel
theorem d_MD_seal_276 : decode b_MD_seal 276 = .ok (.bipush 6, 2) := by decide +kernel
theorem d_MD_seal_278 : decode b_MD_seal 278 = .ok (.goto 4, 3) := by decide +kernel
theorem d_MD_seal_281 : decode b_MD_seal 281 = .ok (.iconst 5, 1) := by decide +kernel
theorem d_MD_seal_282 : decode b_MD_seal 282 = .ok (.invokestatic 63, 3) := by decide +kernel
theorem d_MD_seal_285 : decode b_MD_seal 285 = .ok (.invokevirtual 70, 3) := by decide +kernel
theorem d_MD_seal_288 : decode b_MD_seal 288 = .ok (.istore 9, 2) := by decide +kernel
theorem d_MD_seal_290 : decode b_MD_seal 290 = .ok (.aload_n 0, 1) := by decide +kernel
theorem d_MD_seal_291 : decode b_MD_seal 291 = .ok (.iload 9, 2) := by decide +kernel
theorem d_MD_seal_293 : decode b_MD_seal 293 = .ok (.invokevirtual 67, 3) := by decide +kernel
theorem d_MD_seal_296 : decode b_MD_seal 296 = .ok (.iinc 7 1, 3) := by decide +kernel
theorem d_MD_seal_299 : decode b_MD_seal 299 = .ok (.goto (-121), 3) := by decide +kernel
theorem d_MD_seal_302 : decode b_MD_seal 302 = .ok (.aload_n 0, 1) := by decide +kernel
theorem d_MD_seal_303 : decode b_MD_seal 303 = .ok (.getfield 56, 3) := by decide +kernel
theorem d_MD_seal_306 : decode b_MD_seal 306 = .ok (.ireturn, 1) := by decide +kernel
theorem d_MD_sign_0 : decode b_MD_sign 0 = .ok (.lconst 1, 1) := by decide +kernel
theorem d_MD_sign_1 : decode b_MD_sign 1 = .ok (.iload_n 3, 1) := by decide +kernel
theorem d_MD_sign_2 : decode b_MD_sign 2 = .ok (.bipush 8, 2) := by decide +kernel
theorem d_MD_sign_4 : decode b_MD_sign 4 = .ok (.iushr, 1) := by decide +kernel
theorem d_MD_sign_5 : decode b_MD_sign 5 = .ok (.ldc 36, 2) := by decide +kernel
theorem d_MD_sign_7 : decode b_MD_sign 7 = .ok (.irem, 1) := by decide +kernel
theorem d_MD_sign_8 : decode b_MD_sign 8 = .ok (.i2l, 1) := by decide +kernel
theorem d_MD_sign_9 : decode b_MD_sign 9 = .ok (.ladd, 1) := by decide +kernel
theorem d_MD_sign_10 : decode b_MD_sign 10 = .ok (.lstore 4, 2) := by decide +kernel
theorem d_MD_sign_12 : decode b_MD_sign 12 = .ok (.lconst 0, 1) := by decide +kernel
theorem d_MD_sign_13 : decode b_MD_sign 13 = .ok (.lstore 6, 2) := by decide +kernel
theorem d_MD_sign_15 : decode b_MD_sign 15 = .ok (.iload_n 1, 1) := by decide +kernel
theorem d_MD_sign_16 : decode b_MD_sign 16 = .ok (.istore 8, 2) := by decide +kernel
theorem d_MD_sign_18 : decode b_MD_sign 18 = .ok (.iload 8, 2) := by decide +kernel
theorem d_MD_sign_20 : decode b_MD_sign 20 = .ok (.iload_n 2, 1) := by decide +kernel
theorem d_MD_sign_21 : decode b_MD_sign 21 = .ok (.if_icmp .ge 31, 3) := by decide +kernel
theorem d_MD_sign_24 : decode b_MD_sign 24 = .ok (.lload 6, 2) := by decide +kernel
theorem d_MD_sign_26 : decode b_MD_sign 26 = .ok (.aload_n 0, 1) := by decide +kernel
theorem d_MD_sign_27 : decode b_MD_sign 27 = .ok (.getfield 16, 3) := by decide +kernel
theorem d_MD_sign_30 : decode b_MD_sign 30 = .ok (.iload 8, 2) := by decide +kernel
theorem d_MD_sign_32 : decode b_MD_sign 32 = .ok (.iaload, 1) := by decide +kernel
theorem d_MD_sign_33 : decode b_MD_sign 33 = .ok (.i2l, 1) := by decide +kernel
theorem d_MD_sign_34 : decode b_MD_sign 34 = .ok (.ladd, 1) := by decide +kernel
theorem d_MD_sign_35 : decode b_MD_sign 35 = .ok (.lconst 1, 1) := by decide +kernel
theorem d_MD_sign_36 : decode b_MD_sign 36 = .ok (.ladd, 1) := by decide +kernel
theorem d_MD_sign_37 : decode b_MD_sign 37 = .ok (.lload 4, 2) := by decide +kernel
theorem d_MD_sign_39 : decode b_MD_sign 39 = .ok (.lmul, 1) := by decide +kernel
theorem d_MD_sign_40 : decode b_MD_sign 40 = .ok (.ldc2_w 37, 3) := by decide +kernel
theorem d_MD_sign_43 : decode b_MD_sign 43 = .ok (.lrem, 1) := by decide +kernel
theorem d_MD_sign_44 : decode b_MD_sign 44 = .ok (.lstore 6, 2) := by decide +kernel
theorem d_MD_sign_46 : decode b_MD_sign 46 = .ok (.iinc 8 1, 3) := by decide +kernel
theorem d_MD_sign_49 : decode b_MD_sign 49 = .ok (.goto (-31), 3) := by decide +kernel
theorem d_MD_sign_52 : decode b_MD_sign 52 = .ok (.lload 6, 2) := by decide +kernel
theorem d_MD_sign_54 : decode b_MD_sign 54 = .ok (.iload_n 3, 1) := by decide +kernel
theorem d_MD_sign_55 : decode b_MD_sign 55 = .ok (.sipush 255, 3) := by decide +kernel
theorem d_MD_sign_58 : decode b_MD_sign 58 = .ok (.iand, 1) := by decide +kernel
theorem d_MD_sign_59 : decode b_MD_sign 59 = .ok (.i2l, 1) := by decide +kernel
theorem d_MD_sign_60 : decode b_MD_sign 60 = .ok (.ladd, 1) := by decide +kernel
theorem d_MD_sign_61 : decode b_MD_sign 61 = .ok (.ldc2_w 37, 3) := by decide +kernel
theorem d_MD_sign_64 : decode b_MD_sign 64 = .ok (.lrem, 1) := by decide +kernel
theorem d_MD_sign_65 : decode b_MD_sign 65 = .ok (.l2i, 1) := by decide +kernel
theorem d_MD_sign_66 : decode b_MD_sign 66 = .ok (.ireturn, 1) := by decide +kernel
theorem d_MD_sixOf_0 : decode b_MD_sixOf 0 = .ok (.iload_n 0, 1) := by decide +kernel
theorem d_MD_sixOf_1 : decode b_MD_sixOf 1 = .ok (.bipush 65, 2) := by decide +kernel
theorem d_MD_sixOf_3 : decode b_MD_sixOf 3 = .ok (.if_icmp .lt 14, 3) := by decide +kernel
theorem d_MD_sixOf_6 : decode b_MD_sixOf 6 = .ok (.iload_n 0, 1) := by decide +kernel
theorem d_MD_sixOf_7 : decode b_MD_sixOf 7 = .ok (.bipush 90, 2) := by decide +kernel
theorem d_MD_sixOf_9 : decode b_MD_sixOf 9 = .ok (.if_icmp .gt 8, 3) := by decide +kernel
theorem d_MD_sixOf_12 : decode b_MD_sixOf 12 = .ok (.iload_n 0, 1) := by decide +kernel
theorem d_MD_sixOf_13 : decode b_MD_sixOf 13 = .ok (.bipush 65, 2) := by decide +kernel
theorem d_MD_sixOf_15 : decode b_MD_sixOf 15 = .ok (.isub, 1) := by decide +kernel
theorem d_MD_sixOf_16 : decode b_MD_sixOf 16 = .ok (.ireturn, 1) := by decide +kernel
theorem d_MD_sixOf_17 : decode b_MD_sixOf 17 = .ok (.iload_n 0, 1) := by decide +kernel
theorem d_MD_sixOf_18 : decode b_MD_sixOf 18 = .ok (.bipush 97, 2) := by decide +kernel
theorem d_MD_sixOf_20 : decode b_MD_sixOf 20 = .ok (.if_icmp .lt 17, 3) := by decide +kernel
theorem d_MD_sixOf_23 : decode b_MD_sixOf 23 = .ok (.iload_n 0, 1) := by decide +kernel
theorem d_MD_sixOf_24 : decode b_MD_sixOf 24 = .ok (.bipush 122, 2) := by decide +kernel
theorem d_MD_sixOf_26 : decode b_MD_sixOf 26 = .ok (.if_icmp .gt 11, 3) := by decide +kernel
theorem d_MD_sixOf_29 : decode b_MD_sixOf 29 = .ok (.bipush 26, 2) := by decide +kernel
theorem d_MD_sixOf_31 : decode b_MD_sixOf 31 = .ok (.iload_n 0, 1) := by decide +kernel
theorem d_MD_sixOf_32 : decode b_MD_sixOf 32 = .ok (.iadd, 1) := by decide +kernel
theorem d_MD_sixOf_33 : decode b_MD_sixOf 33 = .ok (.bipush 97, 2) := by decide +kernel
theorem d_MD_sixOf_35 : decode b_MD_sixOf 35 = .ok (.isub, 1) := by decide +kernel
theorem d_MD_sixOf_36 : decode b_MD_sixOf 36 = .ok (.ireturn, 1) := by decide +kernel
theorem d_MD_sixOf_37 : decode b_MD_sixOf 37 = .ok (.iload_n 0, 1) := by decide +kernel
theorem d_MD_sixOf_38 : decode b_MD_sixOf 38 = .ok (.bipush 48, 2) := by decide +kernel
theorem d_MD_sixOf_40 : decode b_MD_sixOf 40 = .ok (.if_icmp .lt 17, 3) := by decide +kernel
theorem d_MD_sixOf_43 : decode b_MD_sixOf 43 = .ok (.iload_n 0, 1) := by decide +kernel
theorem d_MD_sixOf_44 : decode b_MD_sixOf 44 = .ok (.bipush 57, 2) := by decide +kernel
theorem d_MD_sixOf_46 : decode b_MD_sixOf 46 = .ok (.if_icmp .gt 11, 3) := by decide +kernel
theorem d_MD_sixOf_49 : decode b_MD_sixOf 49 = .ok (.bipush 52, 2) := by decide +kernel
theorem d_MD_sixOf_51 : decode b_MD_sixOf 51 = .ok (.iload_n 0, 1) := by decide +kernel
theorem d_MD_sixOf_52 : decode b_MD_sixOf 52 = .ok (.iadd, 1) := by decide +kernel
theorem d_MD_sixOf_53 : decode b_MD_sixOf 53 = .ok (.bipush 48, 2) := by decide +kernel
theorem d_MD_sixOf_55 : decode b_MD_sixOf 55 = .ok (.isub, 1) := by decide +kernel
theorem d_MD_sixOf_56 : decode b_MD_sixOf 56 = .ok (.ireturn, 1) := by decide +kernel
theorem d_MD_sixOf_57 : decode b_MD_sixOf 57 = .ok (.iload_n 0, 1) := by decide +kernel
theorem d_MD_sixOf_58 : decode b_MD_sixOf 58 = .ok (.bipush 43, 2) := by decide +kernel
theorem d_MD_sixOf_60 : decode b_MD_sixOf 60 = .ok (.if_icmp .ne 8, 3) := by decide +kernel
theorem d_MD_sixOf_63 : decode b_MD_sixOf 63 = .ok (.bipush 62, 2) := by decide +kernel
theorem d_MD_sixOf_65 : decode b_MD_sixOf 65 = .ok (.goto 15, 3) := by decide +kernel
theorem d_MD_sixOf_68 : decode b_MD_sixOf 68 = .ok (.iload_n 0, 1) := by decide +kernel
theorem d_MD_sixOf_69 : decode b_MD_sixOf 69 = .ok (.bipush 45, 2) := by decide +kernel
theorem d_MD_sixOf_71 : decode b_MD_sixOf 71 = .ok (.if_icmp .ne 8, 3) := by decide +kernel
theorem d_MD_sixOf_74 : decode b_MD_sixOf 74 = .ok (.bipush 63, 2) := by decide +kernel
theorem d_MD_sixOf_76 : decode b_MD_sixOf 76 = .ok (.goto 4, 3) := by decide +kernel
theorem d_MD_sixOf_79 : decode b_MD_sixOf 79 = .ok (.iconst (-1), 1) := by decide +kernel
theorem d_MD_sixOf_80 : decode b_MD_sixOf 80 = .ok (.ireturn, 1) := by decide +kernel
theorem d_MD_thrown_0 : decode b_MD_thrown 0 = .ok (.aload_n 0, 1) := by decide +kernel
theorem d_MD_thrown_1 : decode b_MD_thrown 1 = .ok (.getfield 26, 3) := by decide +kernel
theorem d_MD_thrown_4 : decode b_MD_thrown 4 = .ok (.ireturn, 1) := by decide +kernel
theorem d_MD_two_0 : decode b_MD_two 0 = .ok (.aload_n 0, 1) := by decide +kernel
theorem d_MD_two_1 : decode b_MD_two 1 = .ok (.getfield 16, 3) := by decide +kernel
theorem d_MD_two_4 : decode b_MD_two 4 = .ok (.iload_n 1, 1) := by decide +kernel
theorem d_MD_two_5 : decode b_MD_two 5 = .ok (.iaload, 1) := by decide +kernel
theorem d_MD_two_6 : decode b_MD_two 6 = .ok (.sipush 256, 3) := by decide +kernel
theorem d_MD_two_9 : decode b_MD_two 9 = .ok (.imul, 1) := by decide +kernel
theorem d_MD_two_10 : decode b_MD_two 10 = .ok (.aload_n 0, 1) := by decide +kernel
theorem d_MD_two_11 : decode b_MD_two 11 = .ok (.getfield 16, 3) := by decide +kernel
theorem d_MD_two_14 : decode b_MD_two 14 = .ok (.iload_n 1, 1) := by decide +kernel
theorem d_MD_two_15 : decode b_MD_two 15 = .ok (.iconst 1, 1) := by decide +kernel
theorem d_MD_two_16 : decode b_MD_two 16 = .ok (.iadd, 1) := by decide +kernel
theorem d_MD_two_17 : decode b_MD_two 17 = .ok (.iaload, 1) := by decide +kernel
theorem d_MD_two_18 : decode b_MD_two 18 = .ok (.iadd, 1) := by decide +kernel
theorem d_MD_two_19 : decode b_MD_two 19 = .ok (.ireturn, 1) := by decide +kernel
theorem d_MD_uncover_0 : decode b_MD_uncover 0 = .ok (.iconst 0, 1) := by decide +kernel
theorem d_MD_uncover_1 : decode b_MD_uncover 1 = .ok (.istore 5, 2) := by decide +kernel
theorem d_MD_uncover_3 : decode b_MD_uncover 3 = .ok (.iload 5, 2) := by decide +kernel
theorem d_MD_uncover_5 : decode b_MD_uncover 5 = .ok (.iload_n 2, 1) := by decide +kernel
theorem d_MD_uncover_6 : decode b_MD_uncover 6 = .ok (.if_icmp .ge 64, 3) := by decide +kernel
theorem d_MD_uncover_9 : decode b_MD_uncover 9 = .ok (.aload_n 0, 1) := by decide +kernel
theorem d_MD_uncover_10 : decode b_MD_uncover 10 = .ok (.getfield 80, 3) := by decide +kernel
theorem d_MD_uncover_13 : decode b_MD_uncover 13 = .ok (.bipush 40, 2) := by decide +kernel
theorem d_MD_uncover_15 : decode b_MD_uncover 15 = .ok (.if_icmp .ge 49, 3) := by decide +kernel
theorem d_MD_uncover_18 : decode b_MD_uncover 18 = .ok (.aload_n 0, 1) := by decide +kernel
theorem d_MD_uncover_19 : decode b_MD_uncover 19 = .ok (.getfield 19, 3) := by decide +kernel
theorem d_MD_uncover_22 : decode b_MD_uncover 22 = .ok (.aload_n 0, 1) := by decide +kernel
theorem d_MD_uncover_23 : decode b_MD_uncover 23 = .ok (.getfield 80, 3) := by decide +kernel
theorem d_MD_uncover_26 : decode b_MD_uncover 26 = .ok (.aload_n 0, 1) := by decide +kernel
theorem d_MD_uncover_27 : decode b_MD_uncover 27 = .ok (.getfield 16, 3) := by decide +kernel
theorem d_MD_uncover_30 : decode b_MD_uncover 30 = .ok (.iload_n 1, 1) := by decide +kernel
theorem d_MD_uncover_31 : decode b_MD_uncover 31 = .ok (.iload 5, 2) := by decide +kernel
theorem d_MD_uncover_33 : decode b_MD_uncover 33 = .ok (.iadd, 1) := by decide +kernel
theorem d_MD_uncover_34 : decode b_MD_uncover 34 = .ok (.iaload, 1) := by decide +kernel
theorem d_MD_uncover_35 : decode b_MD_uncover 35 = .ok (.iload 4, 2) := by decide +kernel
theorem d_MD_uncover_37 : decode b_MD_uncover 37 = .ok (.bipush 16, 2) := by decide +kernel
theorem d_MD_uncover_39 : decode b_MD_uncover 39 = .ok (.iload_n 3, 1) := by decide +kernel
theorem d_MD_uncover_40 : decode b_MD_uncover 40 = .ok (.imul, 1) := by decide +kernel
theorem d_MD_uncover_41 : decode b_MD_uncover 41 = .ok (.iload 5, 2) := by decide +kernel
theorem d_MD_uncover_43 : decode b_MD_uncover 43 = .ok (.iadd, 1) := by decide +kernel
theorem d_MD_uncover_44 : decode b_MD_uncover 44 = .ok (.iconst 4, 1) := by decide +kernel
theorem d_MD_uncover_45 : decode b_MD_uncover 45 = .ok (.invokestatic 63, 3) := by decide +kernel
theorem d_MD_uncover_48 : decode b_MD_uncover 48 = .ok (.sipush 255, 3) := by decide +kernel
theorem d_MD_uncover_51 : decode b_MD_uncover 51 = .ok (.iand, 1) := by decide +kernel
theorem d_MD_uncover_52 : decode b_MD_uncover 52 = .ok (.ixor, 1) := by decide +kernel
theorem d_MD_uncover_53 : decode b_MD_uncover 53 = .ok (.iastore, 1) := by decide +kernel
theorem d_MD_uncover_54 : decode b_MD_uncover 54 = .ok (.aload_n 0, 1) := by decide +kernel
theorem d_MD_uncover_55 : decode b_MD_uncover 55 = .ok (.dup, 1) := by decide +kernel
theorem d_MD_uncover_56 : decode b_MD_uncover 56 = .ok (.getfield 80, 3) := by decide +kernel
theorem d_MD_uncover_59 : decode b_MD_uncover 59 = .ok (.iconst 1, 1) := by decide +kernel
theorem d_MD_uncover_60 : decode b_MD_uncover 60 = .ok (.iadd, 1) := by decide +kernel
theorem d_MD_uncover_61 : decode b_MD_uncover 61 = .ok (.putfield 80, 3) := by decide +kernel
theorem d_MD_uncover_64 : decode b_MD_uncover 64 = .ok (.iinc 5 1, 3) := by decide +kernel
theorem d_MD_uncover_67 : decode b_MD_uncover 67 = .ok (.goto (-64), 3) := by decide +kernel
theorem d_MD_uncover_70 : decode b_MD_uncover 70 = .ok (.return_, 1) := by decide +kernel
theorem d_MD_word_0 : decode b_MD_word 0 = .ok (.iload_n 0, 1) := by decide +kernel
theorem d_MD_word_1 : decode b_MD_word 1 = .ok (.invokestatic 32, 3) := by decide +kernel
theorem d_MD_word_4 : decode b_MD_word 4 = .ok (.istore_n 3, 1) := by decide +kernel
theorem d_MD_word_5 : decode b_MD_word 5 = .ok (.iload_n 3, 1) := by decide +kernel
theorem d_MD_word_6 : decode b_MD_word 6 = .ok (.iload_n 1, 1) := by decide +kernel
theorem d_MD_word_7 : decode b_MD_word 7 = .ok (.iadd, 1) := by decide +kernel
theorem d_MD_word_8 : decode b_MD_word 8 = .ok (.invokestatic 32, 3) := by decide +kernel
theorem d_MD_word_11 : decode b_MD_word 11 = .ok (.istore_n 3, 1) := by decide +kernel
theorem d_MD_word_12 : decode b_MD_word 12 = .ok (.iload_n 3, 1) := by decide +kernel
theorem d_MD_word_13 : decode b_MD_word 13 = .ok (.iload_n 2, 1) := by decide +kernel
theorem d_MD_word_14 : decode b_MD_word 14 = .ok (.iadd, 1) := by decide +kernel
theorem d_MD_word_15 : decode b_MD_word 15 = .ok (.invokestatic 32, 3) := by decide +kernel
theorem d_MD_word_18 : decode b_MD_word 18 = .ok (.ireturn, 1) := by decide +kernel
theorem d_MD_write_0 : decode b_MD_write 0 = .ok (.aload_n 0, 1) := by decide +kernel
theorem d_MD_write_1 : decode b_MD_write 1 = .ok (.iconst 0, 1) := by decide +kernel
theorem d_MD_write_2 : decode b_MD_write 2 = .ok (.putfield 26, 3) := by decide +kernel
theorem d_MD_write_5 : decode b_MD_write 5 = .ok (.aload_n 0, 1) := by decide +kernel
theorem d_MD_write_6 : decode b_MD_write 6 = .ok (.getfield 100, 3) := by decide +kernel
theorem d_MD_write_9 : decode b_MD_write 9 = .ok (.sipush 160, 3) := by decide +kernel
theorem d_MD_write_12 : decode b_MD_write 12 = .ok (.if_icmp .eq 10, 3) := by decide +kernel
theorem d_MD_write_15 : decode b_MD_write 15 = .ok (.iload_n 1, 1) := by decide +kernel
theorem d_MD_write_16 : decode b_MD_write 16 = .ok (.invokestatic 103, 3) := by decide +kernel
theorem d_MD_write_19 : decode b_MD_write 19 = .ok (.ifCond .ge 5, 3) := by decide +kernel
theorem d_MD_write_22 : decode b_MD_write 22 = .ok (.iconst 0, 1) := by decide +kernel
theorem d_MD_write_23 : decode b_MD_write 23 = .ok (.ireturn, 1) := by decide +kernel
theorem d_MD_write_24 : decode b_MD_write 24 = .ok (.aload_n 0, 1) := by decide +kernel
theorem d_MD_write_25 : decode b_MD_write 25 = .ok (.getfield 22, 3) := by decide +kernel
theorem d_MD_write_28 : decode b_MD_write 28 = .ok (.aload_n 0, 1) := by decide +kernel
theorem d_MD_write_29 : decode b_MD_write 29 = .ok (.getfield 100, 3) := by decide +kernel
theorem d_MD_write_32 : decode b_MD_write 32 = .ok (.iload_n 1, 1) := by decide +kernel
theorem d_MD_write_33 : decode b_MD_write 33 = .ok (.castore, 1) := by decide +kernel
theorem d_MD_write_34 : decode b_MD_write 34 = .ok (.aload_n 0, 1) := by decide +kernel
theorem d_MD_write_35 : decode b_MD_write 35 = .ok (.dup, 1) := by decide +kernel
theorem d_MD_write_36 : decode b_MD_write 36 = .ok (.getfield 100, 3) := by decide +kernel
theorem d_MD_write_39 : decode b_MD_write 39 = .ok (.iconst 1, 1) := by decide +kernel
theorem d_MD_write_40 : decode b_MD_write 40 = .ok (.iadd, 1) := by decide +kernel
theorem d_MD_write_41 : decode b_MD_write 41 = .ok (.putfield 100, 3) := by decide +kernel
theorem d_MD_write_44 : decode b_MD_write 44 = .ok (.iconst 1, 1) := by decide +kernel
theorem d_MD_write_45 : decode b_MD_write 45 = .ok (.ireturn, 1) := by decide +kernel
end
section
/-! Rows of this claim's own: one form of contract, one form of call. -/
/-- what a method takes of the tables beside its words: class numbers, array classes, the links inside the nest -/
def zE (D : va_G) (cI cC cJ : ClassId) (U : State) : Prop := va_K D zcl [(cI, .int), (cC, .char), (cJ, .long)] U ∧ ∀ w ∈ zN, va_Nw w U
theorem zE.same {D : va_G} {cI cC cJ : ClassId} {u U : State} (hv : u.vm = U.vm) (h : zE D cI cC cJ u) : zE D cI cC cJ U := by
  refine ⟨va_K.moved (by rw [hv]; exact Vm.Alike.refl _) h.1, fun w hw => ?_⟩
  have h1 := h.2 w hw
  obtain ⟨q, -, rfl⟩ := List.mem_map.mp hw
  exact va_Nw.same rfl hv h1
theorem zE.warm {D : va_G} {cI cC cJ : ClassId} {s U : State} (hW : s.WarmedH U.vm) (h : zE D cI cC cJ s) : zE D cI cC cJ U := by
  refine ⟨va_K.moved hW.alike h.1, fun w hw => ?_⟩
  have h1 := h.2 w hw
  obtain ⟨q, -, rfl⟩ := List.mem_map.mp hw
  exact va_Nw.warmM hW h1
/-- a method's start: its arguments, a picture of the heap, the tables -/
def zPc (av : List Value) (B : Heap → Prop) (D : va_G) (cI cC cJ : ClassId) : Array Value → State → Prop := fun v U => v = av.toArray ∧ B U.heap ∧ zE D cI cC cJ U
theorem zPc.blind {av : List Value} {B : Heap → Prop} {D : va_G} {cI cC cJ : ClassId} : FrameBlind (zPc av B D cI cC cJ) := fun a U g mk h => ⟨h.1, h.2.1, zE.same (u := U) (U := U.calling g mk a) rfl h.2.2⟩
/-- a method's end: what it answers, a picture of the heap, what isn't its own stays -/
def zQm (rv : Option Value) (B : Heap → Prop) (A : Nat → Prop) : Array Value → State → Outcome → State → Prop := fun _ st o t => o = .returned rv ∧ B t.heap ∧ va_F A st t
section ZKit
variable {p : Program} {l : Launch} {e : Env} {R : Room} {s : State} {m : MethodId} {args : Array Value} {below : List Frame} {meth : Method} {c : Code} {H : Heap} {locs : List Loc} {cells slots : Nat} {Q : State → Prop}
variable {D : va_G} {cI cC cJ : ClassId}
theorem zMet {y : MethodName} {cc : ByteArray} {maxL : Nat} {ret : Option FieldType} {rm : Room} {av : List Value} {B : Heap → Prop} {Qc : Array Value → State → Outcome → State → Prop} {mc ms : Nat} {free : Addr → Prop}
    (hy : plainName y.cls = true) (ha : (lg_sl av).length ≤ maxL)
    (body : ∀ (p : Program) (e : Env) (s : State) (m : MethodId) (below : List Frame) (meth : Method) (c : Code), p.tables.exec = Jvm.exec → c.code = cc → meth.sig.returnType = ret → (∀ w ∈ zg, w.before av.toArray s = true) → s.vm.findClass y.cls = some m.cls →
      meth.locks = false → c.maxLocals = maxL → B s.heap → zE D cI cC cJ s → ∀ ls : Array Slot, lv_has ls maxL (lv_args 0 av) →
      W p l e rm s m av.toArray below meth c s.heap [] 0 0 (MQ below Qc av.toArray s mc ms free) (F0 m 0 ls [])) :
    Met l y (zw (.code y cc maxL ret)) rm (zPc av B D cI cC cJ) Qc mc ms free := by
  refine Met.ofW (cc := cc) (maxL := maxL) (ret := ret) hy rfl ?_
  intro p e s m args below meth c s₁ B9 hml hv
  obtain ⟨rfl, hB, hE⟩ := hv
  have hts := atoms_spec (ws := zw (.code y cc maxL ret)) B9.pre
  have hl := lv_entry av (n := maxL) ha
  rw [lg_entry_eq]
  exact body p e s m below meth c B9.exec B9.bytes B9.returns (fun w h => hts w (List.mem_cons_of_mem _ h)) (findClass_of_methodNamed B9.named) B9.notSynchronized hml hB hE _ hl
/-- what a call needs to know of its callee -/
def zCal (y : MethodName) (bytes : ByteArray) (maxL : Nat) (ret : Option FieldType) (n : Nat) : Prop :=
  Cond.code y bytes maxL ret ∈ zg ∧ Cond.initialized y.cls ∈ zg ∧ y.cls ≠ "java/lang/invoke/MethodHandle" ∧ y.cls ≠ "java/lang/invoke/VarHandle" ∧ (parseMethodDescriptor y.desc).map (fun d => d.parameters.length) = some n
/-- .. and of its room -/
abbrev zRoom (R rm : Room) (maxL mc ms cells slots : Nat) : Prop := rm.cells = mc ∧ rm.slots = ms ∧ rm.frames + 1 ≤ R.frames ∧ 8 + (maxL + 11) + rm.locals ≤ R.locals ∧ cells + mc ≤ R.cells ∧ slots + ms ≤ R.slots
variable {y : MethodName} {cc bytes : ByteArray} {maxL nL mc ms n idx pc : Nat} {ret : Option FieldType} {rm : Room} {B : Heap → Prop} {Qc : Array Value → State → Outcome → State → Prop} {free : Addr → Prop} {own : String} {b : Nat} {As rest st : List Value} {ls : Array Slot}
/-- a call of a virtual method of the class itself, or of one that may be seen from here -/
theorem zrV (S : CallFix p m c cc nL s args zg own) (hM : Met l y (zw (.code y bytes maxL ret)) rm (zPc (.ref b :: As) B D cI cC cJ) Qc mc ms free) (hc : zCal y bytes maxL ret n)
    (hl : Cond.methodLink own idx y ∈ zg) (hi : Cond.instanceMethod y ∈ zg) (hsl : Cond.selects y.cls y y ∈ zg) (hr : zRoom R rm maxL mc ms cells slots)
    (hrc : ∃ cell : Cell, H[b]? = some cell ∧ cell.vm.isStatics = false ∧ s.vm.findClass y.cls = some cell.cls) (hB : B H) (hE : zE D cI cC cJ s) (hn : As.length = n) (hsz : ls.size = nL) (hst : st = As.reverse ++ .ref b :: rest)
    (hw : (rest.map fun v => v.category).sum ≤ 8) (hdg : decode cc pc = .ok (.invokevirtual idx, 3)) :
    va_Run p l e R s m args below meth c H locs cells slots mc ms (F0 m pc ls st) rest (Qc (Value.ref b :: As).toArray) free := by
  obtain ⟨h1, h2, h3, h4, h5⟩ := hc
  obtain ⟨r1, r2, r3, r4, r5, r6⟩ := hr
  have hg := S.2.2.2.2
  exact va_runV (C := y.cls) S hM ⟨callB_of n hg (zg_sub h1) rfl r1 r2 (hg _ h2) (hg _ hl) ⟨h3, h4, h5⟩ ⟨r3, r4⟩, hg _ hi, hg _ hsl⟩
    ⟨zPc.blind, hrc, fun U hU hW => ⟨rfl, by rw [hU]; exact hB, hE.warm hW⟩⟩ rfl hn hsz hst (lv_room hw) hdg ⟨r5, r6⟩
/-- .. of a method of a nest mate -/
theorem zrVN (S : CallFix p m c cc nL s args zg "SealedFiles") (hM : Met l y (zw (.code y bytes maxL ret)) rm (zPc (.ref b :: As) B D cI cC cJ) Qc mc ms free) (hc : zCal y bytes maxL ret n)
    (hl : (idx, y) ∈ zNl) (hi : Cond.instanceMethod y ∈ zg) (hsl : Cond.selects y.cls y y ∈ zg) (hr : zRoom R rm maxL mc ms cells slots)
    (hrc : ∃ cell : Cell, H[b]? = some cell ∧ cell.vm.isStatics = false ∧ s.vm.findClass y.cls = some cell.cls) (hB : B H) (hE : zE D cI cC cJ s) (hn : As.length = n) (hsz : ls.size = nL) (hst : st = As.reverse ++ .ref b :: rest)
    (hw : (rest.map fun v => v.category).sum ≤ 8) (hdg : decode cc pc = .ok (.invokevirtual idx, 3)) :
    va_Run p l e R s m args below meth c H locs cells slots mc ms (F0 m pc ls st) rest (Qc (Value.ref b :: As).toArray) free := by
  obtain ⟨h1, h2, h3, h4, h5⟩ := hc
  obtain ⟨r1, r2, r3, r4, r5, r6⟩ := hr
  have hg := S.2.2.2.2
  exact va_runVN (C := y.cls) (host := "SealedFiles") S hM ⟨va_cnB n hg (zg_sub h1) rfl r1 r2 (hE.2 _ (List.mem_map.mpr ⟨_, hl, rfl⟩)) (hg _ h2) ⟨h3, h4, h5⟩ ⟨r3, r4⟩, hg _ hi, hg _ hsl⟩
    ⟨zPc.blind, hrc, fun U hU hW => ⟨rfl, by rw [hU]; exact hB, hE.warm hW⟩⟩ rfl hn hsz hst (lv_room hw) hdg ⟨r5, r6⟩
/-- a static call within the class -/
theorem zrS (S : CallFix p m c cc nL s args zg own) (hM : Met l y (zw (.code y bytes maxL ret)) rm (zPc As B D cI cC cJ) Qc mc ms free) (hc : zCal y bytes maxL ret n)
    (hl : Cond.methodLink own idx y ∈ zg) (hi : Cond.static y ∈ zg) (hr : zRoom R rm maxL mc ms cells slots)
    (hB : B H) (hE : zE D cI cC cJ s) (hn : As.length = n) (hsz : ls.size = nL) (hst : st = As.reverse ++ rest)
    (hw : (rest.map fun v => v.category).sum ≤ 8) (hdg : decode cc pc = .ok (.invokestatic idx, 3)) :
    va_Run p l e R s m args below meth c H locs cells slots mc ms (F0 m pc ls st) rest (Qc As.toArray) free := by
  obtain ⟨h1, h2, h3, h4, h5⟩ := hc
  obtain ⟨r1, r2, r3, r4, r5, r6⟩ := hr
  have hg := S.2.2.2.2
  exact va_runS S hM ⟨callB_of n hg (zg_sub h1) rfl r1 r2 (hg _ h2) (hg _ hl) ⟨h3, h4, h5⟩ ⟨r3, r4⟩, hg _ hi⟩
    ⟨zPc.blind, fun U hU hW => ⟨rfl, by rw [hU]; exact hB, hE.warm hW⟩⟩ rfl hn hsz hst (lv_room hw) hdg ⟨r5, r6⟩
/-- .. of a nest mate's -/
theorem zrSN (S : CallFix p m c cc nL s args zg "SealedFiles") (hM : Met l y (zw (.code y bytes maxL ret)) rm (zPc As B D cI cC cJ) Qc mc ms free) (hc : zCal y bytes maxL ret n)
    (hl : (idx, y) ∈ zNl) (hi : Cond.static y ∈ zg) (hr : zRoom R rm maxL mc ms cells slots)
    (hB : B H) (hE : zE D cI cC cJ s) (hn : As.length = n) (hsz : ls.size = nL) (hst : st = As.reverse ++ rest)
    (hw : (rest.map fun v => v.category).sum ≤ 8) (hdg : decode cc pc = .ok (.invokestatic idx, 3)) :
    va_Run p l e R s m args below meth c H locs cells slots mc ms (F0 m pc ls st) rest (Qc As.toArray) free := by
  obtain ⟨h1, h2, h3, h4, h5⟩ := hc
  obtain ⟨r1, r2, r3, r4, r5, r6⟩ := hr
  have hg := S.2.2.2.2
  exact va_runSN (host := "SealedFiles") S hM ⟨va_cnB n hg (zg_sub h1) rfl r1 r2 (hE.2 _ (List.mem_map.mpr ⟨_, hl, rfl⟩)) (hg _ h2) ⟨h3, h4, h5⟩ ⟨r3, r4⟩, hg _ hi, trivial⟩
    ⟨zPc.blind, fun U hU hW => ⟨rfl, by rw [hU]; exact hB, hE.warm hW⟩⟩ rfl hn hsz hst (lv_room hw) hdg ⟨r5, r6⟩
/-- a callee that reads: its answer stands on the stack, the heap is as it was -/
theorem zRd {r : Int32} {a : Array Value} (hr : va_Run p l e R s m args below meth c H locs cells slots 0 0 (F0 m pc ls st) rest (QcRead r a) (fun _ => False))
    (kk : W p l e R s m args below meth c H locs cells slots Q (F0 m (pc + 3) ls (.int r :: rest))) : W p l e R s m args below meth c H locs cells slots Q (F0 m pc ls st) := W.callR hr.run kk
/-- a callee that writes -/
theorem zWr {rv : Option Value} {B1 : Heap → Prop} {A0 A1 : Nat → Prop} {H0 : Heap} {a : Array Value} (hr : va_Run p l e R s m args below meth c H locs cells slots mc ms (F0 m pc ls st) rest (zQm rv B1 A1 a) free)
    (hS : va_S A0 H0 H locs) (hA : ∀ q, q < H.size → A1 q → A0 q) (hf : ∀ q, free q → A0 q)
    (kk : ∀ (H1 : Heap) (locs1 : List Loc), B1 H1 → H.size ≤ H1.size → (∀ q : Nat, q < H.size → ¬ A1 q → H1[q]? = H[q]?) → va_S A0 H0 H1 locs1 → W p l e R s m args below meth c H1 locs1 (cells + mc) (slots + ms) Q (F0 m (pc + 3) ls (rv.toList ++ rest))) :
    W p l e R s m args below meth c H locs cells slots Q (F0 m pc ls st) := by
  intro T hT X
  obtain ⟨v, st₀, t, T', L, h0, X', hL, e1, e2, ⟨hv, hp, hz, hk⟩, st9⟩ := hr T hT X
  cases hv
  rw [h0] at hz hk
  obtain ⟨t2, a1, b1⟩ := kk T'.heap (locs ++ L) (by rw [e1]; exact hp) (by rw [e1]; exact hz) (fun q h1 h2 => by rw [e1]; exact hk q h1 h2)
    ⟨Nat.le_trans hS.1 (by rw [e1]; exact hz), fun q h1 h2 => by rw [e1, hk q (Nat.lt_of_lt_of_le h1 hS.1) (fun z => h2 (hA q (Nat.lt_of_lt_of_le h1 hS.1) z))]; exact hS.2.1 q h1 h2, fun q hq => by
      rcases List.mem_append.mp hq with h | h
      · exact hS.2.2 q h
      · exact hf _ (hL q h)⟩ T' rfl X'
  exact ⟨t2, st9 t2 a1, b1⟩
/-- an int array read and written at a place that is a number -/
theorem zald {ws : va_W} {tys : List (ClassId × FieldType)} {a : Nat} (hexec : p.tables.exec = Jvm.exec) (hb : c.code = cc) (hK : va_K D zcl tys s) (hP : va_P D zcl ws H) (q0 t0 : Nat) {cA : ClassId} {n j : Nat} {f : Nat → Int32} (ha : ws[q0]? = some (a, .inl (cA, n, .inl f))) (ht : tys[t0]? = some (cA, .int)) (hj : j < n) (hn : n < 2 ^ 31) (hdg : decode cc pc = .ok (.iaload, 1))
    (kk : W p l e R s m args below meth c H locs cells slots Q (F0 m (pc + 1) ls (.int (f j) :: rest))) : W p l e R s m args below meth c H locs cells slots Q (F0 m pc ls (.int (nI j) :: .ref a :: rest)) := by
  refine va_iald hexec hb hK hP q0 t0 ha ht (vp_in_nI hj hn) hdg ?_
  rw [nI_clamp (Nat.lt_trans hj hn)]
  exact kk
theorem zast {ws : va_W} {tys : List (ClassId × FieldType)} {a : Nat} {A : Nat → Prop} {H0 : Heap} (hexec : p.tables.exec = Jvm.exec) (hb : c.code = cc) (hK : va_K D zcl tys s) (hP : va_P D zcl ws H) (hD : va_D A ws) (hS : va_S A H0 H locs) (q0 t0 : Nat) {cA : ClassId} {n j : Nat} {f : Nat → Int32} (ha : ws[q0]? = some (a, .inl (cA, n, .inl f))) (ht : tys[t0]? = some (cA, .int)) {x : Int32} (hj : j < n) (hn : n < 2 ^ 31) (hdg : decode cc pc = .ok (.iastore, 1))
    (kk : ∀ (H1 : Heap) (locs1 : List Loc), va_P D zcl (ws.set q0 (a, .inl (cA, n, .inl (upd f j x)))) H1 → va_D A (ws.set q0 (a, .inl (cA, n, .inl (upd f j x)))) → va_S A H0 H1 locs1 → W p l e R s m args below meth c H1 locs1 cells slots Q (F0 m (pc + 1) ls rest)) : W p l e R s m args below meth c H locs cells slots Q (F0 m pc ls (.int x :: .int (nI j) :: .ref a :: rest)) := by
  refine va_iast hexec hb hK hP hD hS q0 t0 ha ht (vp_in_nI hj hn) hdg (fun H1 locs1 h1 h2 h3 => ?_)
  rw [nI_clamp (Nat.lt_trans hj hn)] at h1 h2
  exact kk H1 locs1 h1 h2 h3
/-- the number on the stack under another name -/
theorem ztop {x y : Int32} (h : x = y) (kk : W p l e R s m args below meth c H locs cells slots Q (F0 m pc ls (.int y :: rest))) : W p l e R s m args below meth c H locs cells slots Q (F0 m pc ls (.int x :: rest)) := h ▸ kk
theorem ztopl {x y : Int64} (h : x = y) (kk : W p l e R s m args below meth c H locs cells slots Q (F0 m pc ls (.long y :: rest))) : W p l e R s m args below meth c H locs cells slots Q (F0 m pc ls (.long x :: rest)) := h ▸ kk
end ZKit
end
section
/-! The spec in numbers: powers, words, signs, files as (size, bytes). Pure rows. -/
/-- an Int32 read as an unsigned number -/
def zs_un (x : Int32) : Nat := x.toBitVec.toNat
theorem zs_un_lt (x : Int32) : zs_un x < 2 ^ 32 := x.toBitVec.isLt
theorem zs_un_nI {n : Nat} (h : n < 2 ^ 32) : zs_un (nI n) = n := pk_tn h
theorem zs_nI_un (x : Int32) : nI (zs_un x) = x := by
  have h : (nI (zs_un x)).toBitVec.toNat = x.toBitVec.toNat := pk_tn (zs_un_lt x)
  exact Int32.toBitVec_inj.mp (BitVec.eq_of_toNat_eq h)
/-- the unsigned shift as the machine's row writes it -/
def zs_u (x y : Int32) : Int32 := (x.toUInt32 >>> (y.toUInt32 &&& Int32.toUInt32 31)).toInt32
theorem zs_sl : ∀ l, l < 32 → (((nI l).toUInt32 &&& Int32.toUInt32 31).toBitVec % 32).toNat = l := by decide +kernel
theorem zs_sm : ∀ l, l < 32 → ((nI l &&& 31).toBitVec.smod 32).toNat = l := by decide +kernel
theorem zs_u_nI {n k : Nat} (hn : n < 2 ^ 32) (hk : k < 32) : zs_u (nI n) (nI k) = nI (n / 2 ^ k) := pk_ushrN hn (nI k) k (zs_sl k hk)
theorem zs_u_un (x : Int32) {k : Nat} (hk : k < 32) : zs_u x (nI k) = nI (zs_un x / 2 ^ k) := by
  have h := zs_u_nI (zs_un_lt x) hk
  rwa [zs_nI_un] at h
theorem zs_and (x : Int32) (k : Nat) (hk : k < 31) : x &&& nI (2 ^ k - 1) = nI (zs_un x % 2 ^ k) := by
  refine pk_and x k (pk_tn ?_)
  have : 2 ^ k ≤ 2 ^ 31 := Nat.pow_le_pow_right (by omega) (by omega)
  omega
def zs_m1 (x : Int32) : Int32 := (x ^^^ zs_u x (nI 16)) * nI 2146121005
def zs_m2 (x : Int32) : Int32 := (x ^^^ zs_u x (nI 15)) * nI 2073254073
def zs_mix (x : Int32) : Int32 := zs_m2 (zs_m1 x) ^^^ zs_u (zs_m2 (zs_m1 x)) (nI 16)
def zs_word (a b c : Int32) : Int32 := zs_mix (zs_mix (zs_mix a + b) + c)
/-- b to the e modulo the prime -/
def zs_pw (b e : Nat) : Nat := b ^ e % 32749
theorem zs_pw_lt (b e : Nat) : zs_pw b e < 32749 := Nat.mod_lt _ (by decide)
theorem zs_pw_0 (b : Nat) : zs_pw b 0 = 1 := by unfold zs_pw; rw [Nat.pow_zero]
theorem zs_pw_1 (b : Nat) : zs_pw b (2 ^ 0) = b % 32749 := by unfold zs_pw; rw [Nat.pow_zero, Nat.pow_one]
theorem zs_pw_add (b i j : Nat) : zs_pw b (i + j) = zs_pw b i * zs_pw b j % 32749 := by
  unfold zs_pw; rw [Nat.pow_add, Nat.mul_mod]
theorem zs_pw_sq (b k : Nat) : zs_pw b (2 ^ (k + 1)) = zs_pw b (2 ^ k) * zs_pw b (2 ^ k) % 32749 := by
  rw [Nat.pow_succ, Nat.mul_two, zs_pw_add]
theorem zs_pw_on {b e k : Nat} (h : e / 2 ^ k % 2 = 1) : zs_pw b (e % 2 ^ (k + 1)) = zs_pw b (e % 2 ^ k) * zs_pw b (2 ^ k) % 32749 := by
  rw [Nat.mod_pow_succ, h, Nat.mul_one, zs_pw_add]
theorem zs_pw_off {b e k : Nat} (h : ¬ e / 2 ^ k % 2 = 1) : zs_pw b (e % 2 ^ (k + 1)) = zs_pw b (e % 2 ^ k) := by
  have h0 : e / 2 ^ k % 2 = 0 := by omega
  rw [Nat.mod_pow_succ, h0, Nat.mul_zero, Nat.add_zero]
/-- a product of two remainders fits an int -/
theorem zs_pw_mul {a c : Nat} (ha : a < 32749) (hc : c < 32749) : nI a * nI c - nI a * nI c / nI 32749 * nI 32749 = nI (a * c % 32749) := by
  have h : a * c < 2 ^ 31 := Nat.lt_of_lt_of_le (Nat.mul_lt_mul_of_lt_of_le ha (Nat.le_of_lt hc) (by omega)) (by decide)
  rw [pk_mul, pk_rem h (by decide) (by decide)]
/-- one bit of a number below 2^31 -/
theorem zs_bit {n k : Nat} (hn : n < 2 ^ 31) (hk : k < 32) : (zs_u (nI n) (nI k) &&& 1) = nI (n / 2 ^ k % 2) := by
  rw [zs_u_nI (by omega) hk]
  have h : n / 2 ^ k ≤ n := Nat.div_le_self _ _
  exact pk_andN (m := 1) (by omega) 1 (by decide)
theorem zs_sbit {n k : Nat} (hn : n < 2 ^ 31) (hk : k < 32) : (nI n >>> (nI k &&& 31) &&& 1) = nI (n / 2 ^ k % 2) := by
  rw [pk_shrN hn (nI k &&& 31) k (zs_sm k hk)]
  have h : n / 2 ^ k ≤ n := Nat.div_le_self _ _
  exact pk_andN (m := 1) (by omega) 1 (by decide)
/-- a sign's running number over the bytes from a on -/
def zs_sgt (B : Nat → Nat) (m a : Nat) : Nat → Nat
  | 0 => 0
  | k + 1 => (zs_sgt B m a k + B (a + k) + 1) * m % 65521
def zs_fac (r : Int32) : Nat := 1 + zs_un r / 2 ^ 8 % 65520
/-- SIGN of the bytes a .. b-1 under r -/
def zs_sg (B : Nat → Nat) (a b : Nat) (r : Int32) : Nat := (zs_sgt B (zs_fac r) a (b - a) + zs_un r % 2 ^ 8) % 65521
theorem zs_sgt_lt (B : Nat → Nat) (m a k : Nat) : zs_sgt B m a k < 65521 := by
  cases k with
  | zero => exact (by decide : 0 < 65521)
  | succ k => exact Nat.mod_lt _ (by decide)
theorem zs_sg_lt (B : Nat → Nat) (a b : Nat) (r : Int32) : zs_sg B a b r < 65521 := Nat.mod_lt _ (by decide)
theorem zs_fac_le (r : Int32) : zs_fac r ≤ 65520 := by
  unfold zs_fac
  have := Nat.mod_lt (zs_un r / 2 ^ 8) (show 65520 > 0 by decide)
  omega
theorem zs_sgt_step {B : Nat → Nat} {m a k b : Nat} (hm : m ≤ 65520) (hb : b < 256) (hB : B (a + k) = b) :
    (lN (zs_sgt B m a k) + lN b + 1) * lN m - (lN (zs_sgt B m a k) + lN b + 1) * lN m / lN 65521 * lN 65521 = lN (zs_sgt B m a (k + 1)) := by
  have h1 := zs_sgt_lt B m a k
  have h2 : (zs_sgt B m a k + b + 1) * m ≤ 65777 * 65520 := Nat.mul_le_mul (by omega) hm
  rw [lN_add, lN_1, lN_mul, pk_lRem (by omega) (by decide) (by decide), zs_sgt, hB]
theorem zs_sgt_fin (B : Nat → Nat) (m a k : Nat) {x : Nat} (hx : x < 256) : lN (zs_sgt B m a k) + lN x - (lN (zs_sgt B m a k) + lN x) / lN 65521 * lN 65521 = lN ((zs_sgt B m a k + x) % 65521) := by
  have h1 := zs_sgt_lt B m a k
  rw [lN_add, pk_lRem (by omega) (by decide) (by decide)]
/-- bytes in a row: a size and what stands at each place -/
abbrev zs_F : Type := Nat × (Nat → Nat)
def zs_push (F : zs_F) (x : Nat) : zs_F := (F.1 + 1, fun j => if j = F.1 then x else F.2 j)
def zs_set (F : zs_F) (i x : Nat) : zs_F := (F.1, fun j => if j = i then x else F.2 j)
/-- the array's entries below the size, each below b -/
def zs_hold (b : Nat) (f : Nat → Int32) (F : zs_F) : Prop := ∀ j, j < F.1 → f j = nI (F.2 j) ∧ F.2 j < b
theorem zs_hold_0 {b : Nat} {f : Nat → Int32} {B : Nat → Nat} : zs_hold b f (0, B) := fun _ h => absurd h (Nat.not_lt_zero _)
theorem zs_hold_push {b x : Nat} {f : Nat → Int32} {F : zs_F} (h : zs_hold b f F) (hx : x < b) : zs_hold b (upd f F.1 (nI x)) (zs_push F x) := by
  intro j hj
  by_cases e : j = F.1
  · subst e
    refine ⟨?_, ?_⟩
    · rw [pk_us]; simp [zs_push]
    · simpa [zs_push] using hx
  · have hj' : j < F.1 := by
      have : j < F.1 + 1 := hj
      omega
    obtain ⟨h1, h2⟩ := h j hj'
    refine ⟨?_, ?_⟩
    · rw [pk_un e, h1]; simp [zs_push, e]
    · simpa [zs_push, e] using h2
theorem zs_hold_set {b i x : Nat} {f : Nat → Int32} {F : zs_F} (h : zs_hold b f F) (hx : x < b) : zs_hold b (upd f i (nI x)) (zs_set F i x) := by
  intro j hj
  by_cases e : j = i
  · subst e
    refine ⟨?_, ?_⟩
    · rw [pk_us]; simp [zs_set]
    · simpa [zs_set] using hx
  · obtain ⟨h1, h2⟩ := h j hj
    refine ⟨?_, ?_⟩
    · rw [pk_un e, h1]; simp [zs_set, e]
    · simpa [zs_set, e] using h2
theorem zs_hold_cut {b n : Nat} {f : Nat → Int32} {F : zs_F} (h : zs_hold b f F) (hn : n ≤ F.1) : zs_hold b f (n, F.2) := fun j hj => h j (Nat.lt_of_lt_of_le hj hn)
end
section
theorem zc_NU_mix : zCal y_NU_mix b_NU_mix 3 (some .int) 1 := ⟨zk_NU_mix, zw_9, by decide, by decide, by decide +kernel⟩
theorem zc_NU_word : zCal y_NU_word b_NU_word 3 (some .int) 3 := ⟨zk_NU_word, zw_9, by decide, by decide, by decide +kernel⟩
theorem zc_NU_power : zCal y_NU_power b_NU_power 5 (some .int) 2 := ⟨zk_NU_power, zw_9, by decide, by decide, by decide +kernel⟩
theorem zc_MD_mix : zCal y_MD_mix b_MD_mix 2 (some .int) 1 := ⟨zk_MD_mix, zw_3, by decide, by decide, by decide +kernel⟩
theorem zc_MD_word : zCal y_MD_word b_MD_word 4 (some .int) 3 := ⟨zk_MD_word, zw_3, by decide, by decide, by decide +kernel⟩
theorem zc_MD_power : zCal y_MD_power b_MD_power 5 (some .int) 2 := ⟨zk_MD_power, zw_3, by decide, by decide, by decide +kernel⟩
set_option maxHeartbeats 4000000 in
set_option maxRecDepth 100000 in
theorem c_NU_mix (l : Launch) (D : va_G) (cI cC cJ : ClassId) (x : Int32) : Met l y_NU_mix (zw k_NU_mix) ({ frames := 0, cells := 0, slots := 0, locals := 0 }) (zPc [.int x] (fun _ => True) D cI cC cJ) (QcRead (zs_mix x)) 0 0 (fun _ => False) := by
  refine zMet (by decide) (Nat.le_of_ble_eq_true rfl) ?_
  intro p e s m below meth c hx hb hr hg hown hlk hml hB hE ls hl
  have hl : lv_has ls 3 [(0, .int x)] := hl
  have hS9 : CallFix p m c b_NU_mix 3 s [.int x].toArray zg "SealedFiles$Numbers" := ⟨hx, hb, hml, hown, hg⟩
  refine lv_iload_n hx hb d_NU_mix_0 rfl (lv_at hl 0 rfl) ?_
  refine lv_iload_n hx hb d_NU_mix_1 rfl (lv_at hl 0 rfl) ?_
  refine lv_bipush (v := (nI 16)) hx hb d_NU_mix_2 (by decide) ?_
  refine lv_iushr (v := zs_u x (nI 16)) hx hb d_NU_mix_4 rfl ?_
  refine lv_ixor hx hb d_NU_mix_5 ?_
  refine lv_ldc (v := (nI 2146121005)) hx hb hown (hg _ zw_346) d_NU_mix_6 ?_
  refine lv_imul hx hb d_NU_mix_8 ?_
  refine lv_istore_n hx hb d_NU_mix_9 rfl hl (by decide) (lv' := [(1, .int ((x ^^^ (zs_u x (nI 16))) * (nI 2146121005))), (0, .int x)]) rfl (fun ls hl => ?_)
  refine lv_iload_n hx hb d_NU_mix_10 rfl (lv_at hl 0 rfl) ?_
  refine lv_iload_n hx hb d_NU_mix_11 rfl (lv_at hl 0 rfl) ?_
  refine lv_bipush (v := (nI 15)) hx hb d_NU_mix_12 (by decide) ?_
  refine lv_iushr (v := zs_u ((x ^^^ (zs_u x (nI 16))) * (nI 2146121005)) (nI 15)) hx hb d_NU_mix_14 rfl ?_
  refine lv_ixor hx hb d_NU_mix_15 ?_
  refine lv_ldc (v := (nI 2073254073)) hx hb hown (hg _ zw_347) d_NU_mix_16 ?_
  refine lv_imul hx hb d_NU_mix_18 ?_
  refine lv_istore_n hx hb d_NU_mix_19 rfl hl (by decide) (lv' := [(2, .int ((((x ^^^ (zs_u x (nI 16))) * (nI 2146121005)) ^^^ (zs_u ((x ^^^ (zs_u x (nI 16))) * (nI 2146121005)) (nI 15))) * (nI 2073254073))), (1, .int ((x ^^^ (zs_u x (nI 16))) * (nI 2146121005))), (0, .int x)]) rfl (fun ls hl => ?_)
  refine lv_iload_n hx hb d_NU_mix_20 rfl (lv_at hl 0 rfl) ?_
  refine lv_iload_n hx hb d_NU_mix_21 rfl (lv_at hl 0 rfl) ?_
  refine lv_bipush (v := (nI 16)) hx hb d_NU_mix_22 (by decide) ?_
  refine lv_iushr (v := zs_u ((((x ^^^ (zs_u x (nI 16))) * (nI 2146121005)) ^^^ (zs_u ((x ^^^ (zs_u x (nI 16))) * (nI 2146121005)) (nI 15))) * (nI 2073254073)) (nI 16)) hx hb d_NU_mix_24 rfl ?_
  refine lv_ixor hx hb d_NU_mix_25 ?_
  exact W.iret (v := (((((x ^^^ (zs_u x (nI 16))) * (nI 2146121005)) ^^^ (zs_u ((x ^^^ (zs_u x (nI 16))) * (nI 2146121005)) (nI 15))) * (nI 2073254073)) ^^^ (zs_u ((((x ^^^ (zs_u x (nI 16))) * (nI 2146121005)) ^^^ (zs_u ((x ^^^ (zs_u x (nI 16))) * (nI 2146121005)) (nI 15))) * (nI 2073254073)) (nI 16)))) hx hb hr (fun t ht _ => ⟨congrArg (fun z => Outcome.returned (some (Value.int z))) (rfl), ht⟩) t_nil d_NU_mix_26

set_option maxHeartbeats 4000000 in
set_option maxRecDepth 100000 in
theorem c_MD_mix (l : Launch) (D : va_G) (cI cC cJ : ClassId) (x : Int32) : Met l y_MD_mix (zw k_MD_mix) ({ frames := 0, cells := 0, slots := 0, locals := 0 }) (zPc [.int x] (fun _ => True) D cI cC cJ) (QcRead (zs_mix x)) 0 0 (fun _ => False) := by
  refine zMet (by decide) (Nat.le_of_ble_eq_true rfl) ?_
  intro p e s m below meth c hx hb hr hg hown hlk hml hB hE ls hl
  have hl : lv_has ls 2 [(0, .int x)] := hl
  have hS9 : CallFix p m c b_MD_mix 2 s [.int x].toArray zg "SealedFilesModel" := ⟨hx, hb, hml, hown, hg⟩
  refine lv_iload_n hx hb d_MD_mix_0 rfl (lv_at hl 0 rfl) ?_
  refine lv_iload_n hx hb d_MD_mix_1 rfl (lv_at hl 0 rfl) ?_
  refine lv_bipush (v := (nI 16)) hx hb d_MD_mix_2 (by decide) ?_
  refine lv_iushr (v := zs_u x (nI 16)) hx hb d_MD_mix_4 rfl ?_
  refine lv_ixor hx hb d_MD_mix_5 ?_
  refine lv_ldc (v := (nI 2146121005)) hx hb hown (hg _ zw_579) d_MD_mix_6 ?_
  refine lv_imul hx hb d_MD_mix_8 ?_
  refine lv_istore_n hx hb d_MD_mix_9 rfl hl (by decide) (lv' := [(1, .int ((x ^^^ (zs_u x (nI 16))) * (nI 2146121005))), (0, .int x)]) rfl (fun ls hl => ?_)
  refine lv_iload_n hx hb d_MD_mix_10 rfl (lv_at hl 0 rfl) ?_
  refine lv_iload_n hx hb d_MD_mix_11 rfl (lv_at hl 0 rfl) ?_
  refine lv_bipush (v := (nI 15)) hx hb d_MD_mix_12 (by decide) ?_
  refine lv_iushr (v := zs_u ((x ^^^ (zs_u x (nI 16))) * (nI 2146121005)) (nI 15)) hx hb d_MD_mix_14 rfl ?_
  refine lv_ixor hx hb d_MD_mix_15 ?_
  refine lv_ldc (v := (nI 2073254073)) hx hb hown (hg _ zw_580) d_MD_mix_16 ?_
  refine lv_imul hx hb d_MD_mix_18 ?_
  refine lv_istore_n hx hb d_MD_mix_19 rfl hl (by decide) (lv' := [(1, .int ((((x ^^^ (zs_u x (nI 16))) * (nI 2146121005)) ^^^ (zs_u ((x ^^^ (zs_u x (nI 16))) * (nI 2146121005)) (nI 15))) * (nI 2073254073))), (0, .int x)]) rfl (fun ls hl => ?_)
  refine lv_iload_n hx hb d_MD_mix_20 rfl (lv_at hl 0 rfl) ?_
  refine lv_iload_n hx hb d_MD_mix_21 rfl (lv_at hl 0 rfl) ?_
  refine lv_bipush (v := (nI 16)) hx hb d_MD_mix_22 (by decide) ?_
  refine lv_iushr (v := zs_u ((((x ^^^ (zs_u x (nI 16))) * (nI 2146121005)) ^^^ (zs_u ((x ^^^ (zs_u x (nI 16))) * (nI 2146121005)) (nI 15))) * (nI 2073254073)) (nI 16)) hx hb d_MD_mix_24 rfl ?_
  refine lv_ixor hx hb d_MD_mix_25 ?_
  exact W.iret (v := (((((x ^^^ (zs_u x (nI 16))) * (nI 2146121005)) ^^^ (zs_u ((x ^^^ (zs_u x (nI 16))) * (nI 2146121005)) (nI 15))) * (nI 2073254073)) ^^^ (zs_u ((((x ^^^ (zs_u x (nI 16))) * (nI 2146121005)) ^^^ (zs_u ((x ^^^ (zs_u x (nI 16))) * (nI 2146121005)) (nI 15))) * (nI 2073254073)) (nI 16)))) hx hb hr (fun t ht _ => ⟨congrArg (fun z => Outcome.returned (some (Value.int z))) (rfl), ht⟩) t_nil d_MD_mix_26

set_option maxHeartbeats 4000000 in
set_option maxRecDepth 100000 in
theorem c_NU_word (l : Launch) (D : va_G) (cI cC cJ : ClassId) (x y z : Int32) : Met l y_NU_word (zw k_NU_word) ({ frames := 1, cells := 0, slots := 0, locals := 22 }) (zPc [.int x, .int y, .int z] (fun _ => True) D cI cC cJ) (QcRead (zs_word x y z)) 0 0 (fun _ => False) := by
  refine zMet (by decide) (Nat.le_of_ble_eq_true rfl) ?_
  intro p e s m below meth c hx hb hr hg hown hlk hml hB hE ls hl
  have hl : lv_has ls 3 [(0, .int x), (1, .int y), (2, .int z)] := hl
  have hS9 : CallFix p m c b_NU_word 3 s [.int x, .int y, .int z].toArray zg "SealedFiles$Numbers" := ⟨hx, hb, hml, hown, hg⟩
  refine lv_iload_n hx hb d_NU_word_0 rfl (lv_at hl 0 rfl) ?_
  refine zRd (rest := []) (zrS hS9 (c_NU_mix l D cI cC cJ x) zc_NU_mix zw_343 zw_344 (by decide) (trivial) hE rfl hl.1 rfl (Nat.le_of_ble_eq_true rfl) d_NU_word_1) ?_
  refine lv_iload_n hx hb d_NU_word_4 rfl (lv_at hl 1 rfl) ?_
  refine lv_iadd hx hb d_NU_word_5 ?_
  refine zRd (rest := []) (zrS hS9 (c_NU_mix l D cI cC cJ ((zs_mix x) + y)) zc_NU_mix zw_343 zw_344 (by decide) (trivial) hE rfl hl.1 rfl (Nat.le_of_ble_eq_true rfl) d_NU_word_6) ?_
  refine lv_iload_n hx hb d_NU_word_9 rfl (lv_at hl 2 rfl) ?_
  refine lv_iadd hx hb d_NU_word_10 ?_
  refine zRd (rest := []) (zrS hS9 (c_NU_mix l D cI cC cJ ((zs_mix ((zs_mix x) + y)) + z)) zc_NU_mix zw_343 zw_344 (by decide) (trivial) hE rfl hl.1 rfl (Nat.le_of_ble_eq_true rfl) d_NU_word_11) ?_
  exact W.iret (v := (zs_mix ((zs_mix ((zs_mix x) + y)) + z))) hx hb hr (fun t ht _ => ⟨congrArg (fun z => Outcome.returned (some (Value.int z))) (rfl), ht⟩) t_nil d_NU_word_14

set_option maxHeartbeats 4000000 in
set_option maxRecDepth 100000 in
theorem c_MD_word (l : Launch) (D : va_G) (cI cC cJ : ClassId) (x y z : Int32) : Met l y_MD_word (zw k_MD_word) ({ frames := 1, cells := 0, slots := 0, locals := 21 }) (zPc [.int x, .int y, .int z] (fun _ => True) D cI cC cJ) (QcRead (zs_word x y z)) 0 0 (fun _ => False) := by
  refine zMet (by decide) (Nat.le_of_ble_eq_true rfl) ?_
  intro p e s m below meth c hx hb hr hg hown hlk hml hB hE ls hl
  have hl : lv_has ls 4 [(0, .int x), (1, .int y), (2, .int z)] := hl
  have hS9 : CallFix p m c b_MD_word 4 s [.int x, .int y, .int z].toArray zg "SealedFilesModel" := ⟨hx, hb, hml, hown, hg⟩
  refine lv_iload_n hx hb d_MD_word_0 rfl (lv_at hl 0 rfl) ?_
  refine zRd (rest := []) (zrS hS9 (c_MD_mix l D cI cC cJ x) zc_MD_mix zw_576 zw_577 (by decide) (trivial) hE rfl hl.1 rfl (Nat.le_of_ble_eq_true rfl) d_MD_word_1) ?_
  refine lv_istore_n hx hb d_MD_word_4 rfl hl (by decide) (lv' := [(3, .int (zs_mix x)), (0, .int x), (1, .int y), (2, .int z)]) rfl (fun ls hl => ?_)
  refine lv_iload_n hx hb d_MD_word_5 rfl (lv_at hl 0 rfl) ?_
  refine lv_iload_n hx hb d_MD_word_6 rfl (lv_at hl 2 rfl) ?_
  refine lv_iadd hx hb d_MD_word_7 ?_
  refine zRd (rest := []) (zrS hS9 (c_MD_mix l D cI cC cJ ((zs_mix x) + y)) zc_MD_mix zw_576 zw_577 (by decide) (trivial) hE rfl hl.1 rfl (Nat.le_of_ble_eq_true rfl) d_MD_word_8) ?_
  refine lv_istore_n hx hb d_MD_word_11 rfl hl (by decide) (lv' := [(3, .int (zs_mix ((zs_mix x) + y))), (0, .int x), (1, .int y), (2, .int z)]) rfl (fun ls hl => ?_)
  refine lv_iload_n hx hb d_MD_word_12 rfl (lv_at hl 0 rfl) ?_
  refine lv_iload_n hx hb d_MD_word_13 rfl (lv_at hl 3 rfl) ?_
  refine lv_iadd hx hb d_MD_word_14 ?_
  refine zRd (rest := []) (zrS hS9 (c_MD_mix l D cI cC cJ ((zs_mix ((zs_mix x) + y)) + z)) zc_MD_mix zw_576 zw_577 (by decide) (trivial) hE rfl hl.1 rfl (Nat.le_of_ble_eq_true rfl) d_MD_word_15) ?_
  exact W.iret (v := (zs_mix ((zs_mix ((zs_mix x) + y)) + z))) hx hb hr (fun t ht _ => ⟨congrArg (fun z => Outcome.returned (some (Value.int z))) (rfl), ht⟩) t_nil d_MD_word_18

set_option maxHeartbeats 4000000 in
set_option maxRecDepth 100000 in
theorem c_NU_power (l : Launch) (D : va_G) (cI cC cJ : ClassId) (b0 e0 : Nat) (hb0 : b0 < 2 ^ 31) (he0 : e0 < 2 ^ 15) : Met l y_NU_power (zw k_NU_power) ({ frames := 0, cells := 0, slots := 0, locals := 0 }) (zPc [.int (nI b0), .int (nI e0)] (fun _ => True) D cI cC cJ) (QcRead (nI (zs_pw b0 e0))) 0 0 (fun _ => False) := by
  refine zMet (by decide) (Nat.le_of_ble_eq_true rfl) ?_
  intro p e s m below meth c hx hb hr hg hown hlk hml hB hE ls hl
  have hl : lv_has ls 5 [(0, .int (nI b0)), (1, .int (nI e0))] := hl
  have hS9 : CallFix p m c b_NU_power 5 s [.int (nI b0), .int (nI e0)].toArray zg "SealedFiles$Numbers" := ⟨hx, hb, hml, hown, hg⟩
  refine lv_iload_n hx hb d_NU_power_0 rfl (lv_at hl 0 rfl) ?_
  refine lv_sipush (v := (nI 32749)) hx hb d_NU_power_1 (by decide) ?_
  refine lv_irem hx hb d_NU_power_4 (by decide) ?_
  refine ztop (y := nI (zs_pw b0 (2 ^ 0))) (by rw [pk_rem hb0 (by decide) (by decide), zs_pw_1]) ?_
  refine lv_istore_n hx hb d_NU_power_5 rfl hl (by decide) (lv' := [(2, .int (nI (zs_pw b0 (2 ^ 0)))), (0, .int (nI b0)), (1, .int (nI e0))]) rfl (fun ls hl => ?_)
  refine lv_iconst (v := (nI 1)) hx hb d_NU_power_6 (by decide) ?_
  refine ztop (y := nI (zs_pw b0 (e0 % 2 ^ 0))) (by rw [Nat.pow_zero, Nat.mod_one, zs_pw_0]) ?_
  refine lv_istore_n hx hb d_NU_power_7 rfl hl (by decide) (lv' := [(3, .int (nI (zs_pw b0 (e0 % 2 ^ 0)))), (2, .int (nI (zs_pw b0 (2 ^ 0)))), (0, .int (nI b0)), (1, .int (nI e0))]) rfl (fun ls hl => ?_)
  refine lv_iconst (v := (nI 0)) hx hb d_NU_power_8 (by decide) ?_
  refine lv_istore hx hb d_NU_power_9 hl (by decide) (lv' := [(4, .int (nI 0)), (3, .int (nI (zs_pw b0 (e0 % 2 ^ 0)))), (2, .int (nI (zs_pw b0 (2 ^ 0)))), (0, .int (nI b0)), (1, .int (nI e0))]) rfl (fun ls hl => ?_)
  have hl : lv_has ls 5 [(4, .int (nI 0)), (3, .int (nI (zs_pw b0 (e0 % 2 ^ 0)))), (2, .int (nI (zs_pw b0 (2 ^ 0)))), (0, .int (nI b0)), (1, .int (nI e0))] := lv_sub hl [0, 1, 2, 3, 4] rfl
  have loop : ∀ (k : Nat) (i : Nat), i + k = 15 → ∀ ls : Array Slot, lv_has ls 5 [(4, .int (nI i)), (3, .int (nI (zs_pw b0 (e0 % 2 ^ i)))), (2, .int (nI (zs_pw b0 (2 ^ i)))), (0, .int (nI b0)), (1, .int (nI e0))] → W p l e ({ frames := 0, cells := 0, slots := 0, locals := 0 }) s m [.int (nI b0), .int (nI e0)].toArray below meth c s.heap [] 0 0 (MQ below (QcRead (nI (zs_pw b0 e0))) [.int (nI b0), .int (nI e0)].toArray s 0 0 (fun _ => False)) (F0 m 11 ls []) := by
    intro k
    induction k with
    | zero =>
      intro i hi ls hl
      obtain rfl : i = 15 := by omega
      refine lv_iload hx hb d_NU_power_11 (lv_at hl 0 rfl) ?_
      refine lv_bipush (v := (nI 15)) hx hb d_NU_power_13 (by decide) ?_
      refine lv_icmp_ge hx hb d_NU_power_15 (tgt := 50) (by decide) (fun _ => ?_) (fun z9 => absurd (Int32.le_refl _) z9)
      refine lv_iload_n hx hb d_NU_power_50 rfl (lv_at hl 1 rfl) ?_
      exact W.iret (v := (nI (zs_pw b0 (e0 % 2 ^ 15)))) hx hb hr (fun t ht _ => ⟨congrArg (fun z => Outcome.returned (some (Value.int z))) (by rw [Nat.mod_eq_of_lt (show e0 < 2 ^ 15 by omega)]), ht⟩) t_nil d_NU_power_51
    | succ k ih =>
      intro i hi ls hl
      refine lv_iload hx hb d_NU_power_11 (lv_at hl 0 rfl) ?_
      refine lv_bipush (v := (nI 15)) hx hb d_NU_power_13 (by decide) ?_
      refine lv_icmp_ge hx hb d_NU_power_15 (tgt := 50) (by decide) (fun z9 => absurd z9 (nI_ge (by omega) (by omega))) (fun _ => ?_)
      refine lv_iload_n hx hb d_NU_power_18 rfl (lv_at hl 4 rfl) ?_
      refine lv_iload hx hb d_NU_power_19 (lv_at hl 0 rfl) ?_
      refine lv_iushr (v := zs_u (nI e0) (nI i)) hx hb d_NU_power_21 rfl ?_
      refine lv_iconst (v := (nI 1)) hx hb d_NU_power_22 (by decide) ?_
      refine lv_iand hx hb d_NU_power_23 ?_
      refine ztop (y := nI (e0 / 2 ^ i % 2)) (zs_bit (by omega) (by omega)) ?_
      refine lv_iconst (v := (nI 1)) hx hb d_NU_power_24 (by decide) ?_
      by_cases h : e0 / 2 ^ i % 2 = 1
      · refine lv_icmp_ne hx hb d_NU_power_25 (tgt := 36) (by decide) (fun z9 => absurd (by rw [h]) z9) (fun _ => ?_)
        refine lv_iload_n hx hb d_NU_power_28 rfl (lv_at hl 1 rfl) ?_
        refine lv_iload_n hx hb d_NU_power_29 rfl (lv_at hl 2 rfl) ?_
        refine lv_imul hx hb d_NU_power_30 ?_
        refine lv_sipush (v := (nI 32749)) hx hb d_NU_power_31 (by decide) ?_
        refine lv_irem hx hb d_NU_power_34 (by decide) ?_
        refine ztop (y := nI (zs_pw b0 (e0 % 2 ^ (i + 1)))) ((zs_pw_mul (zs_pw_lt _ _) (zs_pw_lt _ _)).trans (by rw [zs_pw_on h])) ?_
        refine lv_istore_n hx hb d_NU_power_35 rfl hl (by decide) (lv' := [(3, .int (nI (zs_pw b0 (e0 % 2 ^ (i + 1))))), (4, .int (nI i)), (2, .int (nI (zs_pw b0 (2 ^ i)))), (0, .int (nI b0)), (1, .int (nI e0))]) rfl (fun ls hl => ?_)
        refine lv_iload_n hx hb d_NU_power_36 rfl (lv_at hl 2 rfl) ?_
        refine lv_iload_n hx hb d_NU_power_37 rfl (lv_at hl 2 rfl) ?_
        refine lv_imul hx hb d_NU_power_38 ?_
        refine lv_sipush (v := (nI 32749)) hx hb d_NU_power_39 (by decide) ?_
        refine lv_irem hx hb d_NU_power_42 (by decide) ?_
        refine ztop (y := nI (zs_pw b0 (2 ^ (i + 1)))) ((zs_pw_mul (zs_pw_lt _ _) (zs_pw_lt _ _)).trans (by rw [zs_pw_sq])) ?_
        refine lv_istore_n hx hb d_NU_power_43 rfl hl (by decide) (lv' := [(2, .int (nI (zs_pw b0 (2 ^ (i + 1))))), (3, .int (nI (zs_pw b0 (e0 % 2 ^ (i + 1))))), (4, .int (nI i)), (0, .int (nI b0)), (1, .int (nI e0))]) rfl (fun ls hl => ?_)
        refine lv_iinc (k := 2) (v := nI (i + 1)) hx hb d_NU_power_44 hl rfl (nI_1 i) (by decide) (lv' := [(4, .int (nI (i + 1))), (2, .int (nI (zs_pw b0 (2 ^ (i + 1))))), (3, .int (nI (zs_pw b0 (e0 % 2 ^ (i + 1))))), (0, .int (nI b0)), (1, .int (nI e0))]) rfl (fun ls hl => ?_)
        refine lv_goto hx hb d_NU_power_47 (tgt := 11) (by decide) ?_
        have hl : lv_has ls 5 [(4, .int (nI (i + 1))), (3, .int (nI (zs_pw b0 (e0 % 2 ^ (i + 1))))), (2, .int (nI (zs_pw b0 (2 ^ (i + 1))))), (0, .int (nI b0)), (1, .int (nI e0))] := lv_sub hl [0, 2, 1, 3, 4] rfl
        exact ih (i + 1) (by omega) ls hl
      · refine lv_icmp_ne hx hb d_NU_power_25 (tgt := 36) (by decide) (fun _ => ?_) (fun z9 => absurd z9 (by rw [show e0 / 2 ^ i % 2 = 0 by omega]; decide))
        have hl : lv_has ls 5 [(4, .int (nI i)), (3, .int (nI (zs_pw b0 (e0 % 2 ^ (i + 1))))), (2, .int (nI (zs_pw b0 (2 ^ i)))), (0, .int (nI b0)), (1, .int (nI e0))] := by rw [zs_pw_off h]; exact hl
        refine lv_iload_n hx hb d_NU_power_36 rfl (lv_at hl 2 rfl) ?_
        refine lv_iload_n hx hb d_NU_power_37 rfl (lv_at hl 2 rfl) ?_
        refine lv_imul hx hb d_NU_power_38 ?_
        refine lv_sipush (v := (nI 32749)) hx hb d_NU_power_39 (by decide) ?_
        refine lv_irem hx hb d_NU_power_42 (by decide) ?_
        refine ztop (y := nI (zs_pw b0 (2 ^ (i + 1)))) ((zs_pw_mul (zs_pw_lt _ _) (zs_pw_lt _ _)).trans (by rw [zs_pw_sq])) ?_
        refine lv_istore_n hx hb d_NU_power_43 rfl hl (by decide) (lv' := [(2, .int (nI (zs_pw b0 (2 ^ (i + 1))))), (4, .int (nI i)), (3, .int (nI (zs_pw b0 (e0 % 2 ^ (i + 1))))), (0, .int (nI b0)), (1, .int (nI e0))]) rfl (fun ls hl => ?_)
        refine lv_iinc (k := 1) (v := nI (i + 1)) hx hb d_NU_power_44 hl rfl (nI_1 i) (by decide) (lv' := [(4, .int (nI (i + 1))), (2, .int (nI (zs_pw b0 (2 ^ (i + 1))))), (3, .int (nI (zs_pw b0 (e0 % 2 ^ (i + 1))))), (0, .int (nI b0)), (1, .int (nI e0))]) rfl (fun ls hl => ?_)
        refine lv_goto hx hb d_NU_power_47 (tgt := 11) (by decide) ?_
        have hl : lv_has ls 5 [(4, .int (nI (i + 1))), (3, .int (nI (zs_pw b0 (e0 % 2 ^ (i + 1))))), (2, .int (nI (zs_pw b0 (2 ^ (i + 1))))), (0, .int (nI b0)), (1, .int (nI e0))] := lv_sub hl [0, 2, 1, 3, 4] rfl
        exact ih (i + 1) (by omega) ls hl
  exact loop 15 0 rfl ls hl

set_option maxHeartbeats 4000000 in
set_option maxRecDepth 100000 in
theorem c_MD_power (l : Launch) (D : va_G) (cI cC cJ : ClassId) (b0 e0 : Nat) (hb0 : b0 < 2 ^ 31) (he0 : e0 < 2 ^ 15) : Met l y_MD_power (zw k_MD_power) ({ frames := 0, cells := 0, slots := 0, locals := 0 }) (zPc [.int (nI b0), .int (nI e0)] (fun _ => True) D cI cC cJ) (QcRead (nI (zs_pw b0 e0))) 0 0 (fun _ => False) := by
  refine zMet (by decide) (Nat.le_of_ble_eq_true rfl) ?_
  intro p e s m below meth c hx hb hr hg hown hlk hml hB hE ls hl
  have hl : lv_has ls 5 [(0, .int (nI b0)), (1, .int (nI e0))] := hl
  have hS9 : CallFix p m c b_MD_power 5 s [.int (nI b0), .int (nI e0)].toArray zg "SealedFilesModel" := ⟨hx, hb, hml, hown, hg⟩
  refine lv_iconst (v := (nI 1)) hx hb d_MD_power_0 (by decide) ?_
  refine ztop (y := nI (zs_pw b0 (e0 % 2 ^ 0))) (by rw [Nat.pow_zero, Nat.mod_one, zs_pw_0]) ?_
  refine lv_istore_n hx hb d_MD_power_1 rfl hl (by decide) (lv' := [(2, .int (nI (zs_pw b0 (e0 % 2 ^ 0)))), (0, .int (nI b0)), (1, .int (nI e0))]) rfl (fun ls hl => ?_)
  refine lv_iload_n hx hb d_MD_power_2 rfl (lv_at hl 1 rfl) ?_
  refine lv_sipush (v := (nI 32749)) hx hb d_MD_power_3 (by decide) ?_
  refine lv_irem hx hb d_MD_power_6 (by decide) ?_
  refine ztop (y := nI (zs_pw b0 (2 ^ 0))) (by rw [pk_rem hb0 (by decide) (by decide), zs_pw_1]) ?_
  refine lv_istore_n hx hb d_MD_power_7 rfl hl (by decide) (lv' := [(3, .int (nI (zs_pw b0 (2 ^ 0)))), (2, .int (nI (zs_pw b0 (e0 % 2 ^ 0)))), (0, .int (nI b0)), (1, .int (nI e0))]) rfl (fun ls hl => ?_)
  refine lv_iconst (v := (nI 0)) hx hb d_MD_power_8 (by decide) ?_
  refine lv_istore hx hb d_MD_power_9 hl (by decide) (lv' := [(4, .int (nI 0)), (3, .int (nI (zs_pw b0 (2 ^ 0)))), (2, .int (nI (zs_pw b0 (e0 % 2 ^ 0)))), (0, .int (nI b0)), (1, .int (nI e0))]) rfl (fun ls hl => ?_)
  have hl : lv_has ls 5 [(4, .int (nI 0)), (2, .int (nI (zs_pw b0 (e0 % 2 ^ 0)))), (3, .int (nI (zs_pw b0 (2 ^ 0)))), (0, .int (nI b0)), (1, .int (nI e0))] := lv_sub hl [0, 2, 1, 3, 4] rfl
  have loop : ∀ (k : Nat) (i : Nat), i + k = 16 → ∀ ls : Array Slot, lv_has ls 5 [(4, .int (nI i)), (2, .int (nI (zs_pw b0 (e0 % 2 ^ i)))), (3, .int (nI (zs_pw b0 (2 ^ i)))), (0, .int (nI b0)), (1, .int (nI e0))] → W p l e ({ frames := 0, cells := 0, slots := 0, locals := 0 }) s m [.int (nI b0), .int (nI e0)].toArray below meth c s.heap [] 0 0 (MQ below (QcRead (nI (zs_pw b0 e0))) [.int (nI b0), .int (nI e0)].toArray s 0 0 (fun _ => False)) (F0 m 11 ls []) := by
    intro k
    induction k with
    | zero =>
      intro i hi ls hl
      obtain rfl : i = 16 := by omega
      refine lv_iload hx hb d_MD_power_11 (lv_at hl 0 rfl) ?_
      refine lv_bipush (v := (nI 16)) hx hb d_MD_power_13 (by decide) ?_
      refine lv_icmp_ge hx hb d_MD_power_15 (tgt := 54) (by decide) (fun _ => ?_) (fun z9 => absurd (Int32.le_refl _) z9)
      refine lv_iload_n hx hb d_MD_power_54 rfl (lv_at hl 1 rfl) ?_
      exact W.iret (v := (nI (zs_pw b0 (e0 % 2 ^ 16)))) hx hb hr (fun t ht _ => ⟨congrArg (fun z => Outcome.returned (some (Value.int z))) (by rw [Nat.mod_eq_of_lt (show e0 < 2 ^ 16 by omega)]), ht⟩) t_nil d_MD_power_55
    | succ k ih =>
      intro i hi ls hl
      refine lv_iload hx hb d_MD_power_11 (lv_at hl 0 rfl) ?_
      refine lv_bipush (v := (nI 16)) hx hb d_MD_power_13 (by decide) ?_
      refine lv_icmp_ge hx hb d_MD_power_15 (tgt := 54) (by decide) (fun z9 => absurd z9 (nI_ge (by omega) (by omega))) (fun _ => ?_)
      refine lv_iload_n hx hb d_MD_power_18 rfl (lv_at hl 4 rfl) ?_
      refine lv_iload hx hb d_MD_power_19 (lv_at hl 0 rfl) ?_
      refine lv_ishr hx hb d_MD_power_21 ?_
      refine lv_iconst (v := (nI 1)) hx hb d_MD_power_22 (by decide) ?_
      refine lv_iand hx hb d_MD_power_23 ?_
      refine ztop (y := nI (e0 / 2 ^ i % 2)) (zs_sbit (by omega) (by omega)) ?_
      refine lv_iconst (v := (nI 1)) hx hb d_MD_power_24 (by decide) ?_
      by_cases h : e0 / 2 ^ i % 2 = 1
      · refine lv_icmp_ne hx hb d_MD_power_25 (tgt := 38) (by decide) (fun z9 => absurd (by rw [h]) z9) (fun _ => ?_)
        refine lv_iload_n hx hb d_MD_power_28 rfl (lv_at hl 1 rfl) ?_
        refine lv_iload_n hx hb d_MD_power_29 rfl (lv_at hl 2 rfl) ?_
        refine lv_imul hx hb d_MD_power_30 ?_
        refine lv_sipush (v := (nI 32749)) hx hb d_MD_power_31 (by decide) ?_
        refine lv_irem hx hb d_MD_power_34 (by decide) ?_
        refine ztop (y := nI (zs_pw b0 (e0 % 2 ^ (i + 1)))) ((zs_pw_mul (zs_pw_lt _ _) (zs_pw_lt _ _)).trans (by rw [zs_pw_on h])) ?_
        refine lv_goto hx hb d_MD_power_35 (tgt := 39) (by decide) ?_
        refine lv_istore_n hx hb d_MD_power_39 rfl hl (by decide) (lv' := [(2, .int (nI (zs_pw b0 (e0 % 2 ^ (i + 1))))), (4, .int (nI i)), (3, .int (nI (zs_pw b0 (2 ^ i)))), (0, .int (nI b0)), (1, .int (nI e0))]) rfl (fun ls hl => ?_)
        refine lv_iload_n hx hb d_MD_power_40 rfl (lv_at hl 2 rfl) ?_
        refine lv_iload_n hx hb d_MD_power_41 rfl (lv_at hl 2 rfl) ?_
        refine lv_imul hx hb d_MD_power_42 ?_
        refine lv_sipush (v := (nI 32749)) hx hb d_MD_power_43 (by decide) ?_
        refine lv_irem hx hb d_MD_power_46 (by decide) ?_
        refine ztop (y := nI (zs_pw b0 (2 ^ (i + 1)))) ((zs_pw_mul (zs_pw_lt _ _) (zs_pw_lt _ _)).trans (by rw [zs_pw_sq])) ?_
        refine lv_istore_n hx hb d_MD_power_47 rfl hl (by decide) (lv' := [(3, .int (nI (zs_pw b0 (2 ^ (i + 1))))), (2, .int (nI (zs_pw b0 (e0 % 2 ^ (i + 1))))), (4, .int (nI i)), (0, .int (nI b0)), (1, .int (nI e0))]) rfl (fun ls hl => ?_)
        refine lv_iinc (k := 2) (v := nI (i + 1)) hx hb d_MD_power_48 hl rfl (nI_1 i) (by decide) (lv' := [(4, .int (nI (i + 1))), (3, .int (nI (zs_pw b0 (2 ^ (i + 1))))), (2, .int (nI (zs_pw b0 (e0 % 2 ^ (i + 1))))), (0, .int (nI b0)), (1, .int (nI e0))]) rfl (fun ls hl => ?_)
        refine lv_goto hx hb d_MD_power_51 (tgt := 11) (by decide) ?_
        have hl : lv_has ls 5 [(4, .int (nI (i + 1))), (2, .int (nI (zs_pw b0 (e0 % 2 ^ (i + 1))))), (3, .int (nI (zs_pw b0 (2 ^ (i + 1))))), (0, .int (nI b0)), (1, .int (nI e0))] := lv_sub hl [0, 2, 1, 3, 4] rfl
        exact ih (i + 1) (by omega) ls hl
      · refine lv_icmp_ne hx hb d_MD_power_25 (tgt := 38) (by decide) (fun _ => ?_) (fun z9 => absurd z9 (by rw [show e0 / 2 ^ i % 2 = 0 by omega]; decide))
        refine lv_iload_n hx hb d_MD_power_38 rfl (lv_at hl 1 rfl) ?_
        refine ztop (y := nI (zs_pw b0 (e0 % 2 ^ (i + 1)))) (by rw [zs_pw_off h]) ?_
        refine lv_istore_n hx hb d_MD_power_39 rfl hl (by decide) (lv' := [(2, .int (nI (zs_pw b0 (e0 % 2 ^ (i + 1))))), (4, .int (nI i)), (3, .int (nI (zs_pw b0 (2 ^ i)))), (0, .int (nI b0)), (1, .int (nI e0))]) rfl (fun ls hl => ?_)
        refine lv_iload_n hx hb d_MD_power_40 rfl (lv_at hl 2 rfl) ?_
        refine lv_iload_n hx hb d_MD_power_41 rfl (lv_at hl 2 rfl) ?_
        refine lv_imul hx hb d_MD_power_42 ?_
        refine lv_sipush (v := (nI 32749)) hx hb d_MD_power_43 (by decide) ?_
        refine lv_irem hx hb d_MD_power_46 (by decide) ?_
        refine ztop (y := nI (zs_pw b0 (2 ^ (i + 1)))) ((zs_pw_mul (zs_pw_lt _ _) (zs_pw_lt _ _)).trans (by rw [zs_pw_sq])) ?_
        refine lv_istore_n hx hb d_MD_power_47 rfl hl (by decide) (lv' := [(3, .int (nI (zs_pw b0 (2 ^ (i + 1))))), (2, .int (nI (zs_pw b0 (e0 % 2 ^ (i + 1))))), (4, .int (nI i)), (0, .int (nI b0)), (1, .int (nI e0))]) rfl (fun ls hl => ?_)
        refine lv_iinc (k := 2) (v := nI (i + 1)) hx hb d_MD_power_48 hl rfl (nI_1 i) (by decide) (lv' := [(4, .int (nI (i + 1))), (3, .int (nI (zs_pw b0 (2 ^ (i + 1))))), (2, .int (nI (zs_pw b0 (e0 % 2 ^ (i + 1))))), (0, .int (nI b0)), (1, .int (nI e0))]) rfl (fun ls hl => ?_)
        refine lv_goto hx hb d_MD_power_51 (tgt := 11) (by decide) ?_
        have hl : lv_has ls 5 [(4, .int (nI (i + 1))), (2, .int (nI (zs_pw b0 (e0 % 2 ^ (i + 1))))), (3, .int (nI (zs_pw b0 (2 ^ (i + 1))))), (0, .int (nI b0)), (1, .int (nI e0))] := lv_sub hl [0, 2, 1, 3, 4] rfl
        exact ih (i + 1) (by omega) ls hl
  exact loop 16 0 rfl ls hl
end
section
theorem zc_RW_append : zCal y_RW_append b_RW_append 2 (some .boolean) 1 := ⟨zk_RW_append, zw_2, by decide, by decide, by decide +kernel⟩
theorem zc_RW_appendPair : zCal y_RW_appendPair b_RW_appendPair 2 none 1 := ⟨zk_RW_appendPair, zw_2, by decide, by decide, by decide +kernel⟩
theorem zc_RW_has : zCal y_RW_has b_RW_has 2 (some .boolean) 1 := ⟨zk_RW_has, zw_2, by decide, by decide, by decide +kernel⟩
theorem zc_RW_init : zCal y_RW_init b_RW_init 2 none 1 := ⟨zk_RW_init, zw_2, by decide, by decide, by decide +kernel⟩
theorem zc_RW_item : zCal y_RW_item b_RW_item 2 (some .int) 1 := ⟨zk_RW_item, zw_2, by decide, by decide, by decide +kernel⟩
theorem zc_RW_pair : zCal y_RW_pair b_RW_pair 2 (some .int) 1 := ⟨zk_RW_pair, zw_2, by decide, by decide, by decide +kernel⟩
theorem zc_RW_replace : zCal y_RW_replace b_RW_replace 3 none 2 := ⟨zk_RW_replace, zw_2, by decide, by decide, by decide +kernel⟩
theorem zc_RW_shorten : zCal y_RW_shorten b_RW_shorten 2 (some .boolean) 1 := ⟨zk_RW_shorten, zw_2, by decide, by decide, by decide +kernel⟩
theorem zc_RW_sign : zCal y_RW_sign b_RW_sign 9 (some .int) 3 := ⟨zk_RW_sign, zw_2, by decide, by decide, by decide +kernel⟩
theorem zc_RW_size : zCal y_RW_size b_RW_size 1 (some .int) 0 := ⟨zk_RW_size, zw_2, by decide, by decide, by decide +kernel⟩
/-- a Row: its object and its items -/
abbrev zRw (cI : ClassId) (r it cap n : Nat) (f : Nat → Int32) : va_W := [(r, .inr (0, [.ref it, .int (nI n)])), (it, .inl (cI, cap, .inl f))]
def zA2 (r it : Nat) : Nat → Prop := fun q => q = r ∨ q = it
theorem zRw_D {cI : ClassId} {r it cap n : Nat} {f : Nat → Int32} (h : r ≠ it) : va_D (zA2 r it) (zRw cI r it cap n f) := by
  refine ⟨fun i j p q hi hj e => ?_, fun k q hk => ?_⟩
  · match i, j with
    | 0, 0 => rfl
    | 0, 1 => cases hi; cases hj; exact absurd e h
    | 1, 0 => cases hi; cases hj; exact absurd e.symm h
    | 1, 1 => rfl
    | i + 2, _ => cases hi
    | 0, j + 2 => cases hj
    | 1, j + 2 => cases hj
  · match k with
    | 0 => cases hk; exact Or.inl rfl
    | 1 => cases hk; exact Or.inr rfl
    | k + 2 => cases hk
def zs_has (n : Nat) (i : Int32) : Int32 := if i < 0 then nI 0 else if nI n ≤ i then nI 0 else nI 1
theorem zs_has_in {n j : Nat} (hj : j < n) (hn : n < 2 ^ 31) : zs_has n (nI j) = nI 1 := by
  rw [zs_has, if_neg (nI_pos (by omega)), if_neg (nI_ge hj hn)]
theorem zs_has_of {n : Nat} {i : Int32} (hn : n < 2 ^ 31) (h : ¬ zs_has n i = 0) : ∃ j, j < n ∧ i = nI j := by
  rcases pk_ix i hn with h1 | h1 | h1
  · exact absurd (by rw [zs_has, if_pos h1]; rfl) h
  · exact absurd (by rw [zs_has]; split <;> first | rfl | (rw [if_pos h1]; rfl)) h
  · exact h1
theorem zs_has_bit (n : Nat) (i : Int32) : zs_has n i = nI 0 ∨ zs_has n i = nI 1 := by
  unfold zs_has; split
  · exact Or.inl rfl
  · split
    · exact Or.inl rfl
    · exact Or.inr rfl
def zs_item (n : Nat) (f : Nat → Int32) (i : Int32) : Int32 := if zs_has n i = 0 then -1 else f i.toNatClampNeg
theorem zs_item_in {n j : Nat} {f : Nat → Int32} (hj : j < n) (hn : n < 2 ^ 31) : zs_item n f (nI j) = f j := by
  rw [zs_item, zs_has_in hj hn, if_neg (by decide), nI_clamp (by omega)]
set_option maxHeartbeats 4000000 in
set_option maxRecDepth 100000 in
theorem c_RW_size (l : Launch) (D : va_G) (cI cC cJ : ClassId) (r it cap n : Nat) (f : Nat → Int32) (hn : n ≤ cap) (hcap : cap < 2 ^ 31) : Met l y_RW_size (zw k_RW_size) ({ frames := 0, cells := 0, slots := 0, locals := 0 }) (zPc [.ref r] (fun H => va_P D zcl (zRw cI r it cap n f) H) D cI cC cJ) (QcRead (nI n)) 0 0 (fun _ => False) := by
  refine zMet (by decide) (Nat.le_of_ble_eq_true rfl) ?_
  intro p e s m below meth c hx hb hr hg hown hlk hml hP hE ls hl
  have hl : lv_has ls 1 [(0, .ref r)] := hl
  have hS9 : CallFix p m c b_RW_size 1 s [.ref r].toArray zg "SealedFiles$Row" := ⟨hx, hb, hml, hown, hg⟩
  have hP : va_P D zcl [(r, .inr (0, [.ref it, .int (nI n)])), (it, .inl (cI, cap, .inl f))] s.heap := hP
  refine lv_aload_n hx hb d_RW_size_0 rfl (lv_at hl 0 rfl) ?_
  refine va_get (D := D) (ci := 0) (v := .int (nI n)) (C := R_RW) (T := F_RW) (N := 2) hx hb hg i_RW hown hE.1 hP 0 rfl rfl 1 (by decide) (hg _ zw_33) (fun _ h9 => h9) rfl d_RW_size_1 ?_
  exact W.iret (v := (nI n)) hx hb hr (fun t ht _ => ⟨congrArg (fun z => Outcome.returned (some (Value.int z))) (rfl), ht⟩) t_nil d_RW_size_4

set_option maxHeartbeats 4000000 in
set_option maxRecDepth 100000 in
theorem c_RW_has (l : Launch) (D : va_G) (cI cC cJ : ClassId) (r it cap n : Nat) (f : Nat → Int32) (hn : n ≤ cap) (hcap : cap < 2 ^ 31) (i : Int32) : Met l y_RW_has (zw k_RW_has) ({ frames := 0, cells := 0, slots := 0, locals := 0 }) (zPc [.ref r, .int i] (fun H => va_P D zcl (zRw cI r it cap n f) H) D cI cC cJ) (QcRead (zs_has n i)) 0 0 (fun _ => False) := by
  refine zMet (by decide) (Nat.le_of_ble_eq_true rfl) ?_
  intro p e s m below meth c hx hb hr hg hown hlk hml hP hE ls hl
  have hl : lv_has ls 2 [(0, .ref r), (1, .int i)] := hl
  have hS9 : CallFix p m c b_RW_has 2 s [.ref r, .int i].toArray zg "SealedFiles$Row" := ⟨hx, hb, hml, hown, hg⟩
  have hP : va_P D zcl [(r, .inr (0, [.ref it, .int (nI n)])), (it, .inl (cI, cap, .inl f))] s.heap := hP
  refine lv_iload_n hx hb d_RW_has_0 rfl (lv_at hl 1 rfl) ?_
  refine lv_if_lt hx hb d_RW_has_1 (tgt := 16) (by decide) (fun h => ?_) (fun h => ?_)
  · refine lv_iconst (v := (nI 0)) hx hb d_RW_has_16 (by decide) ?_
    exact W.zret (v := (nI 0)) hx hb hr (rfl) (fun t ht _ => ⟨congrArg (fun z => Outcome.returned (some (Value.int z))) (by rw [zs_has, if_pos h]), ht⟩) t_nil d_RW_has_17
  · refine lv_iload_n hx hb d_RW_has_4 rfl (lv_at hl 1 rfl) ?_
    refine lv_aload_n hx hb d_RW_has_5 rfl (lv_at hl 0 rfl) ?_
    refine va_get (D := D) (ci := 0) (v := .int (nI n)) (C := R_RW) (T := F_RW) (N := 2) hx hb hg i_RW hown hE.1 hP 0 rfl rfl 1 (by decide) (hg _ zw_33) (fun _ h9 => h9) rfl d_RW_has_6 ?_
    refine lv_icmp_ge hx hb d_RW_has_9 (tgt := 16) (by decide) (fun h2 => ?_) (fun h2 => ?_)
    · refine lv_iconst (v := (nI 0)) hx hb d_RW_has_16 (by decide) ?_
      exact W.zret (v := (nI 0)) hx hb hr (rfl) (fun t ht _ => ⟨congrArg (fun z => Outcome.returned (some (Value.int z))) (by rw [zs_has, if_neg h, if_pos h2]), ht⟩) t_nil d_RW_has_17
    · refine lv_iconst (v := (nI 1)) hx hb d_RW_has_12 (by decide) ?_
      refine lv_goto hx hb d_RW_has_13 (tgt := 17) (by decide) ?_
      exact W.zret (v := (nI 1)) hx hb hr (rfl) (fun t ht _ => ⟨congrArg (fun z => Outcome.returned (some (Value.int z))) (by rw [zs_has, if_neg h, if_neg h2]), ht⟩) t_nil d_RW_has_17

set_option maxHeartbeats 4000000 in
set_option maxRecDepth 100000 in
theorem c_RW_item (l : Launch) (D : va_G) (cI cC cJ : ClassId) (r it cap n : Nat) (f : Nat → Int32) (hn : n ≤ cap) (hcap : cap < 2 ^ 31) (i : Int32) : Met l y_RW_item (zw k_RW_item) ({ frames := 1, cells := 0, slots := 0, locals := 21 }) (zPc [.ref r, .int i] (fun H => va_P D zcl (zRw cI r it cap n f) H) D cI cC cJ) (QcRead (zs_item n f i)) 0 0 (fun _ => False) := by
  refine zMet (by decide) (Nat.le_of_ble_eq_true rfl) ?_
  intro p e s m below meth c hx hb hr hg hown hlk hml hP hE ls hl
  have hl : lv_has ls 2 [(0, .ref r), (1, .int i)] := hl
  have hS9 : CallFix p m c b_RW_item 2 s [.ref r, .int i].toArray zg "SealedFiles$Row" := ⟨hx, hb, hml, hown, hg⟩
  have hP : va_P D zcl [(r, .inr (0, [.ref it, .int (nI n)])), (it, .inl (cI, cap, .inl f))] s.heap := hP
  refine lv_aload_n hx hb d_RW_item_0 rfl (lv_at hl 0 rfl) ?_
  refine lv_iload_n hx hb d_RW_item_1 rfl (lv_at hl 1 rfl) ?_
  refine zRd (rest := []) (zrV hS9 (c_RW_has l D cI cC cJ r it cap n f hn hcap i) zc_RW_has zw_67 zw_69 zp_1 (by decide) (va_recv hE.1 hP (ci := 0) (q := (R_RW, F_RW, 2)) rfl (q0 := 0) rfl) (hP) hE rfl hl.1 rfl (Nat.le_of_ble_eq_true rfl) d_RW_item_2) ?_
  refine lv_if_eq hx hb d_RW_item_5 (tgt := 17) (by decide) (fun h => ?_) (fun h => ?_)
  · refine lv_iconst (v := (-1)) hx hb d_RW_item_17 (by decide) ?_
    exact W.iret (v := (-1)) hx hb hr (fun t ht _ => ⟨congrArg (fun z => Outcome.returned (some (Value.int z))) (by rw [zs_item, if_pos h]), ht⟩) t_nil d_RW_item_18
  · obtain ⟨j, hj, rfl⟩ := zs_has_of (by omega) h
    refine lv_aload_n hx hb d_RW_item_8 rfl (lv_at hl 0 rfl) ?_
    refine va_get (D := D) (ci := 0) (v := .ref it) (C := R_RW) (T := F_RW) (N := 2) hx hb hg i_RW hown hE.1 hP 0 rfl rfl 0 (by decide) (hg _ zw_32) (fun _ h9 => h9) rfl d_RW_item_9 ?_
    refine lv_iload_n hx hb d_RW_item_12 rfl (lv_at hl 1 rfl) ?_
    refine zald hx hb hE.1 hP 1 0 rfl rfl (by omega) (hcap) d_RW_item_13 ?_
    refine lv_goto hx hb d_RW_item_14 (tgt := 18) (by decide) ?_
    exact W.iret (v := (f j)) hx hb hr (fun t ht _ => ⟨congrArg (fun z => Outcome.returned (some (Value.int z))) ((zs_item_in hj (by omega)).symm), ht⟩) t_nil d_RW_item_18

set_option maxHeartbeats 4000000 in
set_option maxRecDepth 100000 in
theorem c_RW_pair (l : Launch) (D : va_G) (cI cC cJ : ClassId) (r it cap n : Nat) (f : Nat → Int32) (hn : n ≤ cap) (hcap : cap < 2 ^ 31) (i : Int32) : Met l y_RW_pair (zw k_RW_pair) ({ frames := 2, cells := 0, slots := 0, locals := 42 }) (zPc [.ref r, .int i] (fun H => va_P D zcl (zRw cI r it cap n f) H) D cI cC cJ) (QcRead ((zs_item n f i <<< (nI 8 &&& 31)) ||| zs_item n f (i + nI 1))) 0 0 (fun _ => False) := by
  refine zMet (by decide) (Nat.le_of_ble_eq_true rfl) ?_
  intro p e s m below meth c hx hb hr hg hown hlk hml hP hE ls hl
  have hl : lv_has ls 2 [(0, .ref r), (1, .int i)] := hl
  have hS9 : CallFix p m c b_RW_pair 2 s [.ref r, .int i].toArray zg "SealedFiles$Row" := ⟨hx, hb, hml, hown, hg⟩
  have hP : va_P D zcl [(r, .inr (0, [.ref it, .int (nI n)])), (it, .inl (cI, cap, .inl f))] s.heap := hP
  refine lv_aload_n hx hb d_RW_pair_0 rfl (lv_at hl 0 rfl) ?_
  refine lv_iload_n hx hb d_RW_pair_1 rfl (lv_at hl 1 rfl) ?_
  refine zRd (rest := []) (zrV hS9 (c_RW_item l D cI cC cJ r it cap n f hn hcap i) zc_RW_item zw_367 zw_65 zp_0 (by decide) (va_recv hE.1 hP (ci := 0) (q := (R_RW, F_RW, 2)) rfl (q0 := 0) rfl) (hP) hE rfl hl.1 rfl (Nat.le_of_ble_eq_true rfl) d_RW_pair_2) ?_
  refine lv_bipush (v := (nI 8)) hx hb d_RW_pair_5 (by decide) ?_
  refine lv_ishl hx hb d_RW_pair_7 ?_
  refine lv_aload_n hx hb d_RW_pair_8 rfl (lv_at hl 0 rfl) ?_
  refine lv_iload_n hx hb d_RW_pair_9 rfl (lv_at hl 1 rfl) ?_
  refine lv_iconst (v := (nI 1)) hx hb d_RW_pair_10 (by decide) ?_
  refine lv_iadd hx hb d_RW_pair_11 ?_
  refine zRd (rest := [.int ((zs_item n f i) <<< ((nI 8) &&& 31))]) (zrV hS9 (c_RW_item l D cI cC cJ r it cap n f hn hcap (i + nI 1)) zc_RW_item zw_367 zw_65 zp_0 (by decide) (va_recv hE.1 hP (ci := 0) (q := (R_RW, F_RW, 2)) rfl (q0 := 0) rfl) (hP) hE rfl hl.1 rfl (Nat.le_of_ble_eq_true rfl) d_RW_pair_12) ?_
  refine lv_ior hx hb d_RW_pair_15 ?_
  exact W.iret (v := (((zs_item n f i) <<< ((nI 8) &&& 31)) ||| (zs_item n f (i + nI 1)))) hx hb hr (fun t ht _ => ⟨congrArg (fun z => Outcome.returned (some (Value.int z))) (rfl), ht⟩) t_nil d_RW_pair_16

set_option maxHeartbeats 4000000 in
set_option maxRecDepth 100000 in
theorem c_RW_append (l : Launch) (D : va_G) (cI cC cJ : ClassId) (r it cap n : Nat) (f : Nat → Int32) (hn : n ≤ cap) (hcap : cap < 2 ^ 31) (hne : r ≠ it) (x : Int32) (h : n < cap) : Met l y_RW_append (zw k_RW_append) ({ frames := 0, cells := 0, slots := 0, locals := 0 }) (zPc [.ref r, .int x] (fun H => va_P D zcl (zRw cI r it cap n f) H) D cI cC cJ) (zQm (some (.int (nI 1))) (fun H => va_P D zcl (zRw cI r it cap (n + 1) (upd f n x)) H) (zA2 r it)) 0 0 (zA2 r it) := by
  refine zMet (by decide) (Nat.le_of_ble_eq_true rfl) ?_
  intro p e s m below meth c hx hb hr hg hown hlk hml hP hE ls hl
  have hl : lv_has ls 2 [(0, .ref r), (1, .int x)] := hl
  have hS9 : CallFix p m c b_RW_append 2 s [.ref r, .int x].toArray zg "SealedFiles$Row" := ⟨hx, hb, hml, hown, hg⟩
  have hP : va_P D zcl [(r, .inr (0, [.ref it, .int (nI n)])), (it, .inl (cI, cap, .inl f))] s.heap := hP
  have hD : va_D (zA2 r it) [(r, .inr (0, [.ref it, .int (nI n)])), (it, .inl (cI, cap, .inl f))] := zRw_D hne
  have hS : va_S (zA2 r it) s.heap s.heap [] := va_S.rf
  refine lv_aload_n hx hb d_RW_append_0 rfl (lv_at hl 0 rfl) ?_
  refine va_get (D := D) (ci := 0) (v := .int (nI n)) (C := R_RW) (T := F_RW) (N := 2) hx hb hg i_RW hown hE.1 hP 0 rfl rfl 1 (by decide) (hg _ zw_33) (fun _ h9 => h9) rfl d_RW_append_1 ?_
  refine lv_aload_n hx hb d_RW_append_4 rfl (lv_at hl 0 rfl) ?_
  refine va_get (D := D) (ci := 0) (v := .ref it) (C := R_RW) (T := F_RW) (N := 2) hx hb hg i_RW hown hE.1 hP 0 rfl rfl 0 (by decide) (hg _ zw_32) (fun _ h9 => h9) rfl d_RW_append_5 ?_
  refine va_alen (v := nI cap) hx hb hE.1 hP 1 0 rfl rfl rfl d_RW_append_8 ?_
  refine lv_icmp_lt hx hb d_RW_append_9 (tgt := 14) (by decide) (fun _ => ?_) (fun z9 => absurd (nI_lt h hcap) z9)
  refine lv_aload_n hx hb d_RW_append_14 rfl (lv_at hl 0 rfl) ?_
  refine va_get (D := D) (ci := 0) (v := .ref it) (C := R_RW) (T := F_RW) (N := 2) hx hb hg i_RW hown hE.1 hP 0 rfl rfl 0 (by decide) (hg _ zw_32) (fun _ h9 => h9) rfl d_RW_append_15 ?_
  refine lv_aload_n hx hb d_RW_append_18 rfl (lv_at hl 0 rfl) ?_
  refine va_get (D := D) (ci := 0) (v := .int (nI n)) (C := R_RW) (T := F_RW) (N := 2) hx hb hg i_RW hown hE.1 hP 0 rfl rfl 1 (by decide) (hg _ zw_33) (fun _ h9 => h9) rfl d_RW_append_19 ?_
  refine lv_iload_n hx hb d_RW_append_22 rfl (lv_at hl 1 rfl) ?_
  refine zast hx hb hE.1 hP hD hS 1 0 rfl rfl (h) (hcap) d_RW_append_23 (fun H locs hP hD hS => ?_)
  have hP : va_P D zcl [(r, .inr (0, [.ref it, .int (nI n)])), (it, .inl (cI, cap, .inl (upd f n x)))] H := hP
  have hD : va_D (zA2 r it) [(r, .inr (0, [.ref it, .int (nI n)])), (it, .inl (cI, cap, .inl (upd f n x)))] := hD
  refine lv_aload_n hx hb d_RW_append_24 rfl (lv_at hl 0 rfl) ?_
  refine lv_dup hx hb d_RW_append_25 rfl ?_
  refine va_get (D := D) (ci := 0) (v := .int (nI n)) (C := R_RW) (T := F_RW) (N := 2) hx hb hg i_RW hown hE.1 hP 0 rfl rfl 1 (by decide) (hg _ zw_33) (fun _ h9 => h9) rfl d_RW_append_26 ?_
  refine lv_iconst (v := (nI 1)) hx hb d_RW_append_29 (by decide) ?_
  refine lv_iadd hx hb d_RW_append_30 ?_
  refine ztop (y := nI (n + 1)) (nI_1 n) ?_
  refine va_put (D := D) (ci := 0) (v := .int (nI (n + 1))) (ty := .int) (C := R_RW) (T := F_RW) (N := 2) hx hb hg i_RW t_RW t_RW_ok n_RW hown hE.1 hP hD hS 0 rfl rfl 1 (by decide) (hg _ zw_33) (fun _ h9 => h9) rfl (by decide +kernel) rfl rfl (Nat.le_of_ble_eq_true rfl) d_RW_append_31 (fun H locs hP hD hS => ?_)
  have hP : va_P D zcl [(r, .inr (0, [.ref it, .int (nI (n + 1))])), (it, .inl (cI, cap, .inl (upd f n x)))] H := hP
  have hD : va_D (zA2 r it) [(r, .inr (0, [.ref it, .int (nI (n + 1))])), (it, .inl (cI, cap, .inl (upd f n x)))] := hD
  refine lv_iconst (v := (nI 1)) hx hb d_RW_append_34 (by decide) ?_
  exact W.zret (v := (nI 1)) hx hb hr (rfl) (fun t ht _ => ⟨rfl, by rw [ht]; exact hP, hS.F ht⟩) hS.2.2 d_RW_append_35

set_option maxHeartbeats 4000000 in
set_option maxRecDepth 100000 in
theorem c_RW_append_full (l : Launch) (D : va_G) (cI cC cJ : ClassId) (r it cap n : Nat) (f : Nat → Int32) (hn : n ≤ cap) (hcap : cap < 2 ^ 31) (hne : r ≠ it) (x : Int32) (h : n = cap) : Met l y_RW_append (zw k_RW_append) ({ frames := 0, cells := 0, slots := 0, locals := 0 }) (zPc [.ref r, .int x] (fun H => va_P D zcl (zRw cI r it cap n f) H) D cI cC cJ) (zQm (some (.int (nI 0))) (fun H => va_P D zcl (zRw cI r it cap n f) H) (zA2 r it)) 0 0 (zA2 r it) := by
  refine zMet (by decide) (Nat.le_of_ble_eq_true rfl) ?_
  intro p e s m below meth c hx hb hr hg hown hlk hml hP hE ls hl
  have hl : lv_has ls 2 [(0, .ref r), (1, .int x)] := hl
  have hS9 : CallFix p m c b_RW_append 2 s [.ref r, .int x].toArray zg "SealedFiles$Row" := ⟨hx, hb, hml, hown, hg⟩
  have hP : va_P D zcl [(r, .inr (0, [.ref it, .int (nI n)])), (it, .inl (cI, cap, .inl f))] s.heap := hP
  have hD : va_D (zA2 r it) [(r, .inr (0, [.ref it, .int (nI n)])), (it, .inl (cI, cap, .inl f))] := zRw_D hne
  have hS : va_S (zA2 r it) s.heap s.heap [] := va_S.rf
  refine lv_aload_n hx hb d_RW_append_0 rfl (lv_at hl 0 rfl) ?_
  refine va_get (D := D) (ci := 0) (v := .int (nI n)) (C := R_RW) (T := F_RW) (N := 2) hx hb hg i_RW hown hE.1 hP 0 rfl rfl 1 (by decide) (hg _ zw_33) (fun _ h9 => h9) rfl d_RW_append_1 ?_
  refine lv_aload_n hx hb d_RW_append_4 rfl (lv_at hl 0 rfl) ?_
  refine va_get (D := D) (ci := 0) (v := .ref it) (C := R_RW) (T := F_RW) (N := 2) hx hb hg i_RW hown hE.1 hP 0 rfl rfl 0 (by decide) (hg _ zw_32) (fun _ h9 => h9) rfl d_RW_append_5 ?_
  refine va_alen (v := nI cap) hx hb hE.1 hP 1 0 rfl rfl rfl d_RW_append_8 ?_
  refine lv_icmp_lt hx hb d_RW_append_9 (tgt := 14) (by decide) (fun z9 => absurd z9 (nI_nlt (by omega) (by omega))) (fun _ => ?_)
  refine lv_iconst (v := (nI 0)) hx hb d_RW_append_12 (by decide) ?_
  exact W.zret (v := (nI 0)) hx hb hr (rfl) (fun t ht _ => ⟨rfl, by rw [ht]; exact hP, hS.F ht⟩) hS.2.2 d_RW_append_13

set_option maxHeartbeats 4000000 in
set_option maxRecDepth 100000 in
theorem c_RW_replace (l : Launch) (D : va_G) (cI cC cJ : ClassId) (r it cap n : Nat) (f : Nat → Int32) (hn : n ≤ cap) (hcap : cap < 2 ^ 31) (hne : r ≠ it) (j : Nat) (x : Int32) (hj : j < n) : Met l y_RW_replace (zw k_RW_replace) ({ frames := 1, cells := 0, slots := 0, locals := 21 }) (zPc [.ref r, .int (nI j), .int x] (fun H => va_P D zcl (zRw cI r it cap n f) H) D cI cC cJ) (zQm none (fun H => va_P D zcl (zRw cI r it cap n (upd f j x)) H) (zA2 r it)) 0 0 (zA2 r it) := by
  refine zMet (by decide) (Nat.le_of_ble_eq_true rfl) ?_
  intro p e s m below meth c hx hb hr hg hown hlk hml hP hE ls hl
  have hl : lv_has ls 3 [(0, .ref r), (1, .int (nI j)), (2, .int x)] := hl
  have hS9 : CallFix p m c b_RW_replace 3 s [.ref r, .int (nI j), .int x].toArray zg "SealedFiles$Row" := ⟨hx, hb, hml, hown, hg⟩
  have hP : va_P D zcl [(r, .inr (0, [.ref it, .int (nI n)])), (it, .inl (cI, cap, .inl f))] s.heap := hP
  have hD : va_D (zA2 r it) [(r, .inr (0, [.ref it, .int (nI n)])), (it, .inl (cI, cap, .inl f))] := zRw_D hne
  have hS : va_S (zA2 r it) s.heap s.heap [] := va_S.rf
  refine lv_aload_n hx hb d_RW_replace_0 rfl (lv_at hl 0 rfl) ?_
  refine lv_iload_n hx hb d_RW_replace_1 rfl (lv_at hl 1 rfl) ?_
  refine zRd (rest := []) (zrV hS9 (c_RW_has l D cI cC cJ r it cap n f hn hcap (nI j)) zc_RW_has zw_67 zw_69 zp_1 (by decide) (va_recv hE.1 hP (ci := 0) (q := (R_RW, F_RW, 2)) rfl (q0 := 0) rfl) (hP) hE rfl hl.1 rfl (Nat.le_of_ble_eq_true rfl) d_RW_replace_2) ?_
  refine lv_if_eq hx hb d_RW_replace_5 (tgt := 15) (by decide) (fun z9 => absurd z9 (by rw [zs_has_in hj (by omega)]; decide)) (fun _ => ?_)
  refine lv_aload_n hx hb d_RW_replace_8 rfl (lv_at hl 0 rfl) ?_
  refine va_get (D := D) (ci := 0) (v := .ref it) (C := R_RW) (T := F_RW) (N := 2) hx hb hg i_RW hown hE.1 hP 0 rfl rfl 0 (by decide) (hg _ zw_32) (fun _ h9 => h9) rfl d_RW_replace_9 ?_
  refine lv_iload_n hx hb d_RW_replace_12 rfl (lv_at hl 1 rfl) ?_
  refine lv_iload_n hx hb d_RW_replace_13 rfl (lv_at hl 2 rfl) ?_
  refine zast hx hb hE.1 hP hD hS 1 0 rfl rfl (by omega) (hcap) d_RW_replace_14 (fun H locs hP hD hS => ?_)
  have hP : va_P D zcl [(r, .inr (0, [.ref it, .int (nI n)])), (it, .inl (cI, cap, .inl (upd f j x)))] H := hP
  have hD : va_D (zA2 r it) [(r, .inr (0, [.ref it, .int (nI n)])), (it, .inl (cI, cap, .inl (upd f j x)))] := hD
  exact W.vret hx hb hr (fun t ht _ => ⟨rfl, by rw [ht]; exact hP, hS.F ht⟩) hS.2.2 d_RW_replace_15

set_option maxHeartbeats 4000000 in
set_option maxRecDepth 100000 in
theorem c_RW_shorten (l : Launch) (D : va_G) (cI cC cJ : ClassId) (r it cap n : Nat) (f : Nat → Int32) (hn : n ≤ cap) (hcap : cap < 2 ^ 31) (hne : r ≠ it) (j : Nat) (hj : j < n) : Met l y_RW_shorten (zw k_RW_shorten) ({ frames := 0, cells := 0, slots := 0, locals := 0 }) (zPc [.ref r, .int (nI j)] (fun H => va_P D zcl (zRw cI r it cap n f) H) D cI cC cJ) (zQm (some (.int (nI 1))) (fun H => va_P D zcl (zRw cI r it cap j f) H) (zA2 r it)) 0 0 (zA2 r it) := by
  refine zMet (by decide) (Nat.le_of_ble_eq_true rfl) ?_
  intro p e s m below meth c hx hb hr hg hown hlk hml hP hE ls hl
  have hl : lv_has ls 2 [(0, .ref r), (1, .int (nI j))] := hl
  have hS9 : CallFix p m c b_RW_shorten 2 s [.ref r, .int (nI j)].toArray zg "SealedFiles$Row" := ⟨hx, hb, hml, hown, hg⟩
  have hP : va_P D zcl [(r, .inr (0, [.ref it, .int (nI n)])), (it, .inl (cI, cap, .inl f))] s.heap := hP
  have hD : va_D (zA2 r it) [(r, .inr (0, [.ref it, .int (nI n)])), (it, .inl (cI, cap, .inl f))] := zRw_D hne
  have hS : va_S (zA2 r it) s.heap s.heap [] := va_S.rf
  refine lv_iload_n hx hb d_RW_shorten_0 rfl (lv_at hl 1 rfl) ?_
  refine lv_if_lt hx hb d_RW_shorten_1 (tgt := 12) (by decide) (fun z9 => absurd z9 (nI_pos (by omega))) (fun _ => ?_)
  refine lv_iload_n hx hb d_RW_shorten_4 rfl (lv_at hl 1 rfl) ?_
  refine lv_aload_n hx hb d_RW_shorten_5 rfl (lv_at hl 0 rfl) ?_
  refine va_get (D := D) (ci := 0) (v := .int (nI n)) (C := R_RW) (T := F_RW) (N := 2) hx hb hg i_RW hown hE.1 hP 0 rfl rfl 1 (by decide) (hg _ zw_33) (fun _ h9 => h9) rfl d_RW_shorten_6 ?_
  refine lv_icmp_lt hx hb d_RW_shorten_9 (tgt := 14) (by decide) (fun _ => ?_) (fun z9 => absurd (nI_lt hj (by omega)) z9)
  refine lv_aload_n hx hb d_RW_shorten_14 rfl (lv_at hl 0 rfl) ?_
  refine lv_iload_n hx hb d_RW_shorten_15 rfl (lv_at hl 1 rfl) ?_
  refine va_put (D := D) (ci := 0) (v := .int (nI j)) (ty := .int) (C := R_RW) (T := F_RW) (N := 2) hx hb hg i_RW t_RW t_RW_ok n_RW hown hE.1 hP hD hS 0 rfl rfl 1 (by decide) (hg _ zw_33) (fun _ h9 => h9) rfl (by decide +kernel) rfl rfl (Nat.le_of_ble_eq_true rfl) d_RW_shorten_16 (fun H locs hP hD hS => ?_)
  have hP : va_P D zcl [(r, .inr (0, [.ref it, .int (nI j)])), (it, .inl (cI, cap, .inl f))] H := hP
  have hD : va_D (zA2 r it) [(r, .inr (0, [.ref it, .int (nI j)])), (it, .inl (cI, cap, .inl f))] := hD
  refine lv_iconst (v := (nI 1)) hx hb d_RW_shorten_19 (by decide) ?_
  exact W.zret (v := (nI 1)) hx hb hr (rfl) (fun t ht _ => ⟨rfl, by rw [ht]; exact hP, hS.F ht⟩) hS.2.2 d_RW_shorten_20

set_option maxHeartbeats 4000000 in
set_option maxRecDepth 100000 in
theorem c_RW_shorten_no (l : Launch) (D : va_G) (cI cC cJ : ClassId) (r it cap n : Nat) (f : Nat → Int32) (hn : n ≤ cap) (hcap : cap < 2 ^ 31) (hne : r ≠ it) (i : Int32) (h : i < 0 ∨ nI n ≤ i) : Met l y_RW_shorten (zw k_RW_shorten) ({ frames := 0, cells := 0, slots := 0, locals := 0 }) (zPc [.ref r, .int i] (fun H => va_P D zcl (zRw cI r it cap n f) H) D cI cC cJ) (zQm (some (.int (nI 0))) (fun H => va_P D zcl (zRw cI r it cap n f) H) (zA2 r it)) 0 0 (zA2 r it) := by
  refine zMet (by decide) (Nat.le_of_ble_eq_true rfl) ?_
  intro p e s m below meth c hx hb hr hg hown hlk hml hP hE ls hl
  have hl : lv_has ls 2 [(0, .ref r), (1, .int i)] := hl
  have hS9 : CallFix p m c b_RW_shorten 2 s [.ref r, .int i].toArray zg "SealedFiles$Row" := ⟨hx, hb, hml, hown, hg⟩
  have hP : va_P D zcl [(r, .inr (0, [.ref it, .int (nI n)])), (it, .inl (cI, cap, .inl f))] s.heap := hP
  have hD : va_D (zA2 r it) [(r, .inr (0, [.ref it, .int (nI n)])), (it, .inl (cI, cap, .inl f))] := zRw_D hne
  have hS : va_S (zA2 r it) s.heap s.heap [] := va_S.rf
  refine lv_iload_n hx hb d_RW_shorten_0 rfl (lv_at hl 1 rfl) ?_
  refine lv_if_lt hx hb d_RW_shorten_1 (tgt := 12) (by decide) (fun h1 => ?_) (fun h1 => ?_)
  · refine lv_iconst (v := (nI 0)) hx hb d_RW_shorten_12 (by decide) ?_
    exact W.zret (v := (nI 0)) hx hb hr (rfl) (fun t ht _ => ⟨rfl, by rw [ht]; exact hP, hS.F ht⟩) hS.2.2 d_RW_shorten_13
  · refine lv_iload_n hx hb d_RW_shorten_4 rfl (lv_at hl 1 rfl) ?_
    refine lv_aload_n hx hb d_RW_shorten_5 rfl (lv_at hl 0 rfl) ?_
    refine va_get (D := D) (ci := 0) (v := .int (nI n)) (C := R_RW) (T := F_RW) (N := 2) hx hb hg i_RW hown hE.1 hP 0 rfl rfl 1 (by decide) (hg _ zw_33) (fun _ h9 => h9) rfl d_RW_shorten_6 ?_
    refine lv_icmp_lt hx hb d_RW_shorten_9 (tgt := 14) (by decide) (fun z9 => absurd z9 (fun h2 => h.elim h1 (fun h3 => Int32.not_lt.mpr h3 h2))) (fun _ => ?_)
    refine lv_iconst (v := (nI 0)) hx hb d_RW_shorten_12 (by decide) ?_
    exact W.zret (v := (nI 0)) hx hb hr (rfl) (fun t ht _ => ⟨rfl, by rw [ht]; exact hP, hS.F ht⟩) hS.2.2 d_RW_shorten_13

set_option maxHeartbeats 4000000 in
set_option maxRecDepth 100000 in
theorem c_RW_appendPair (l : Launch) (D : va_G) (cI cC cJ : ClassId) (r it cap n : Nat) (f : Nat → Int32) (hn : n ≤ cap) (hcap : cap < 2 ^ 31) (hne : r ≠ it) (x : Int32) (h : n + 2 ≤ cap) : Met l y_RW_appendPair (zw k_RW_appendPair) ({ frames := 1, cells := 0, slots := 0, locals := 21 }) (zPc [.ref r, .int x] (fun H => va_P D zcl (zRw cI r it cap n f) H) D cI cC cJ) (zQm none (fun H => va_P D zcl (zRw cI r it cap (n + 2) (upd (upd f n (zs_u x (nI 8))) (n + 1) (x &&& nI 255))) H) (zA2 r it)) 0 0 (zA2 r it) := by
  refine zMet (by decide) (Nat.le_of_ble_eq_true rfl) ?_
  intro p e s m below meth c hx hb hr hg hown hlk hml hP hE ls hl
  have hl : lv_has ls 2 [(0, .ref r), (1, .int x)] := hl
  have hS9 : CallFix p m c b_RW_appendPair 2 s [.ref r, .int x].toArray zg "SealedFiles$Row" := ⟨hx, hb, hml, hown, hg⟩
  have hP : va_P D zcl [(r, .inr (0, [.ref it, .int (nI n)])), (it, .inl (cI, cap, .inl f))] s.heap := hP
  have hD : va_D (zA2 r it) [(r, .inr (0, [.ref it, .int (nI n)])), (it, .inl (cI, cap, .inl f))] := zRw_D hne
  have hS : va_S (zA2 r it) s.heap s.heap [] := va_S.rf
  refine lv_aload_n hx hb d_RW_appendPair_0 rfl (lv_at hl 0 rfl) ?_
  refine lv_iload_n hx hb d_RW_appendPair_1 rfl (lv_at hl 1 rfl) ?_
  refine lv_bipush (v := (nI 8)) hx hb d_RW_appendPair_2 (by decide) ?_
  refine lv_iushr (v := zs_u x (nI 8)) hx hb d_RW_appendPair_4 rfl ?_
  refine zWr (rest := []) (zrV hS9 (c_RW_append l D cI cC cJ r it cap n f hn hcap hne (zs_u x (nI 8)) (by omega)) zc_RW_append zw_356 zw_77 zp_2 (by decide) (va_recv hE.1 hP (ci := 0) (q := (R_RW, F_RW, 2)) rfl (q0 := 0) rfl) (hP) hE rfl hl.1 rfl (Nat.le_of_ble_eq_true rfl) d_RW_appendPair_5) hS (fun _ _ h => h) (fun _ h => h) (fun H locs hP hz hk hS => ?_)
  have hD : va_D (zA2 r it) [(r, .inr (0, [.ref it, .int (nI (n + 1))])), (it, .inl (cI, cap, .inl (upd f n (zs_u x (nI 8)))))] := zRw_D hne
  have hP : va_P D zcl [(r, .inr (0, [.ref it, .int (nI (n + 1))])), (it, .inl (cI, cap, .inl (upd f n (zs_u x (nI 8)))))] H := hP
  have hD : va_D (zA2 r it) [(r, .inr (0, [.ref it, .int (nI (n + 1))])), (it, .inl (cI, cap, .inl (upd f n (zs_u x (nI 8)))))] := hD
  refine lv_pop hx hb d_RW_appendPair_8 rfl ?_
  refine lv_aload_n hx hb d_RW_appendPair_9 rfl (lv_at hl 0 rfl) ?_
  refine lv_iload_n hx hb d_RW_appendPair_10 rfl (lv_at hl 1 rfl) ?_
  refine lv_sipush (v := (nI 255)) hx hb d_RW_appendPair_11 (by decide) ?_
  refine lv_iand hx hb d_RW_appendPair_14 ?_
  refine zWr (rest := []) (zrV hS9 (c_RW_append l D cI cC cJ r it cap (n + 1) (upd f n (zs_u x (nI 8))) (by omega) hcap hne (x &&& nI 255) (by omega)) zc_RW_append zw_356 zw_77 zp_2 (by decide) (va_recv hE.1 hP (ci := 0) (q := (R_RW, F_RW, 2)) rfl (q0 := 0) rfl) (hP) hE rfl hl.1 rfl (Nat.le_of_ble_eq_true rfl) d_RW_appendPair_15) hS (fun _ _ h => h) (fun _ h => h) (fun H locs hP hz hk hS => ?_)
  have hD : va_D (zA2 r it) [(r, .inr (0, [.ref it, .int (nI (n + 2))])), (it, .inl (cI, cap, .inl (upd (upd f n (zs_u x (nI 8))) (n + 1) (x &&& nI 255))))] := zRw_D hne
  have hP : va_P D zcl [(r, .inr (0, [.ref it, .int (nI (n + 2))])), (it, .inl (cI, cap, .inl (upd (upd f n (zs_u x (nI 8))) (n + 1) (x &&& nI 255))))] H := hP
  have hD : va_D (zA2 r it) [(r, .inr (0, [.ref it, .int (nI (n + 2))])), (it, .inl (cI, cap, .inl (upd (upd f n (zs_u x (nI 8))) (n + 1) (x &&& nI 255))))] := hD
  refine lv_pop hx hb d_RW_appendPair_18 rfl ?_
  exact W.vret hx hb hr (fun t ht _ => ⟨rfl, by rw [ht]; exact hP, hS.F ht⟩) hS.2.2 d_RW_appendPair_19

theorem zs_fac_i (g : Int32) : nI 1 + (zs_u g (nI 8) - zs_u g (nI 8) / nI 65520 * nI 65520) = nI (zs_fac g) := by
  have h := zs_un_lt g
  rw [zs_u_un g (by decide), pk_rem (by omega) (by decide) (by decide), nI_add]
  rfl
theorem zs_fac_r (g : Int32) : zs_u g (nI 8) - zs_u g (nI 8) / nI 65520 * nI 65520 = nI (zs_un g / 2 ^ 8 % 65520) := by
  have h := zs_un_lt g
  rw [zs_u_un g (by decide), pk_rem (by omega) (by decide) (by decide)]
set_option maxHeartbeats 4000000 in
set_option maxRecDepth 100000 in
theorem c_RW_sign (l : Launch) (D : va_G) (cI cC cJ : ClassId) (r it cap n : Nat) (f : Nat → Int32) (hn : n ≤ cap) (hcap : cap < 2 ^ 31) (B : Nat → Nat) (hB9 : zs_hold 256 f (n, B)) (a b : Nat) (hab : a ≤ b) (hbn : b ≤ n) (g : Int32) : Met l y_RW_sign (zw k_RW_sign) ({ frames := 2, cells := 0, slots := 0, locals := 42 }) (zPc [.ref r, .int (nI a), .int (nI b), .int g] (fun H => va_P D zcl (zRw cI r it cap n f) H) D cI cC cJ) (QcRead (nI (zs_sg B a b g))) 0 0 (fun _ => False) := by
  refine zMet (by decide) (Nat.le_of_ble_eq_true rfl) ?_
  intro p e s m below meth c hx hb hr hg hown hlk hml hP hE ls hl
  have hl : lv_has ls 9 [(0, .ref r), (1, .int (nI a)), (2, .int (nI b)), (3, .int g)] := hl
  have hS9 : CallFix p m c b_RW_sign 9 s [.ref r, .int (nI a), .int (nI b), .int g].toArray zg "SealedFiles$Row" := ⟨hx, hb, hml, hown, hg⟩
  have hP : va_P D zcl [(r, .inr (0, [.ref it, .int (nI n)])), (it, .inl (cI, cap, .inl f))] s.heap := hP
  refine lv_iconst (v := (nI 1)) hx hb d_RW_sign_0 (by decide) ?_
  refine lv_iload_n hx hb d_RW_sign_1 rfl (lv_at hl 3 rfl) ?_
  refine lv_bipush (v := (nI 8)) hx hb d_RW_sign_2 (by decide) ?_
  refine lv_iushr (v := zs_u g (nI 8)) hx hb d_RW_sign_4 rfl ?_
  refine lv_ldc (v := (nI 65520)) hx hb hown (hg _ zw_366) d_RW_sign_5 ?_
  refine lv_irem hx hb d_RW_sign_7 (by decide) ?_
  refine lv_iadd hx hb d_RW_sign_8 ?_
  refine ztop (y := nI (zs_fac g)) (zs_fac_i g) ?_
  refine lv_i2l hx hb d_RW_sign_9 rfl ?_
  refine ztopl (y := lN (zs_fac g)) (nI_l (by have := zs_fac_le g; omega)) ?_
  refine lv_lstore hx hb d_RW_sign_10 hl (by decide) (lv' := [(4, .long (lN (zs_fac g))), (0, .ref r), (1, .int (nI a)), (2, .int (nI b)), (3, .int g)]) rfl (fun ls hl => ?_)
  refine lv_lconst (v := lN 0) hx hb d_RW_sign_12 (by decide) ?_
  refine ztopl (y := lN (zs_sgt B (zs_fac g) a 0)) (rfl) ?_
  refine lv_lstore hx hb d_RW_sign_13 hl (by decide) (lv' := [(6, .long (lN (zs_sgt B (zs_fac g) a 0))), (4, .long (lN (zs_fac g))), (0, .ref r), (1, .int (nI a)), (2, .int (nI b)), (3, .int g)]) rfl (fun ls hl => ?_)
  refine lv_iload_n hx hb d_RW_sign_15 rfl (lv_at hl 3 rfl) ?_
  refine lv_istore hx hb d_RW_sign_16 hl (by decide) (lv' := [(8, .int (nI a)), (6, .long (lN (zs_sgt B (zs_fac g) a 0))), (4, .long (lN (zs_fac g))), (0, .ref r), (1, .int (nI a)), (2, .int (nI b)), (3, .int g)]) rfl (fun ls hl => ?_)
  have hl : lv_has ls 9 [(8, .int (nI a)), (6, .long (lN (zs_sgt B (zs_fac g) a 0))), (4, .long (lN (zs_fac g))), (0, .ref r), (1, .int (nI a)), (2, .int (nI b)), (3, .int g)] := lv_sub hl [0, 1, 2, 3, 4, 5, 6] rfl
  have loop : ∀ (k : Nat) (i : Nat), i + k = b - a → ∀ ls : Array Slot, lv_has ls 9 [(8, .int (nI (a + i))), (6, .long (lN (zs_sgt B (zs_fac g) a i))), (4, .long (lN (zs_fac g))), (0, .ref r), (1, .int (nI a)), (2, .int (nI b)), (3, .int g)] → W p l e ({ frames := 2, cells := 0, slots := 0, locals := 42 }) s m [.ref r, .int (nI a), .int (nI b), .int g].toArray below meth c s.heap [] 0 0 (MQ below (QcRead (nI (zs_sg B a b g))) [.ref r, .int (nI a), .int (nI b), .int g].toArray s 0 0 (fun _ => False)) (F0 m 18 ls []) := by
    intro k
    induction k with
    | zero =>
      intro i hi ls hl
      refine lv_iload hx hb d_RW_sign_18 (lv_at hl 0 rfl) ?_
      refine lv_iload_n hx hb d_RW_sign_20 rfl (lv_at hl 5 rfl) ?_
      refine lv_icmp_ge hx hb d_RW_sign_21 (tgt := 51) (by decide) (fun _ => ?_) (fun z9 => absurd (show nI b ≤ nI (a + i) from by rw [show a + i = b by omega]; exact Int32.le_refl _) z9)
      refine lv_lload hx hb d_RW_sign_51 (lv_at hl 1 rfl) ?_
      refine lv_iload_n hx hb d_RW_sign_53 rfl (lv_at hl 6 rfl) ?_
      refine lv_sipush (v := (nI 255)) hx hb d_RW_sign_54 (by decide) ?_
      refine lv_iand hx hb d_RW_sign_57 ?_
      refine ztop (y := nI (zs_un g % 2 ^ 8)) (zs_and g 8 (by decide)) ?_
      refine lv_i2l hx hb d_RW_sign_58 rfl ?_
      refine ztopl (y := lN (zs_un g % 2 ^ 8)) (nI_l (by omega)) ?_
      refine lv_ladd hx hb d_RW_sign_59 ?_
      refine lv_ldc2 (v := lN 65521) hx hb hown (hg _ zw_368) d_RW_sign_60 ?_
      refine lv_lrem hx hb d_RW_sign_63 (by decide) ?_
      refine ztopl (y := lN ((zs_sgt B (zs_fac g) a i + zs_un g % 2 ^ 8) % 65521)) (zs_sgt_fin B (zs_fac g) a i (by omega)) ?_
      refine lv_l2i hx hb d_RW_sign_64 rfl ?_
      refine ztop (y := nI ((zs_sgt B (zs_fac g) a i + zs_un g % 2 ^ 8) % 65521)) (lN_i _) ?_
      exact W.iret (v := (nI ((zs_sgt B (zs_fac g) a i + zs_un g % 2 ^ 8) % 65521))) hx hb hr (fun t ht _ => ⟨congrArg (fun z => Outcome.returned (some (Value.int z))) (by rw [zs_sg, show b - a = i by omega]), ht⟩) t_nil d_RW_sign_65
    | succ k ih =>
      intro i hi ls hl
      refine lv_iload hx hb d_RW_sign_18 (lv_at hl 0 rfl) ?_
      refine lv_iload_n hx hb d_RW_sign_20 rfl (lv_at hl 5 rfl) ?_
      refine lv_icmp_ge hx hb d_RW_sign_21 (tgt := 51) (by decide) (fun z9 => absurd z9 (nI_ge (show a + i < b by omega) (by omega))) (fun _ => ?_)
      refine lv_lload hx hb d_RW_sign_24 (lv_at hl 1 rfl) ?_
      refine lv_aload_n hx hb d_RW_sign_26 rfl (lv_at hl 3 rfl) ?_
      refine lv_iload hx hb d_RW_sign_27 (lv_at hl 0 rfl) ?_
      refine zRd (rest := [.long (lN (zs_sgt B (zs_fac g) a i))]) (zrV hS9 (c_RW_item l D cI cC cJ r it cap n f hn hcap (nI (a + i))) zc_RW_item zw_367 zw_65 zp_0 (by decide) (va_recv hE.1 hP (ci := 0) (q := (R_RW, F_RW, 2)) rfl (q0 := 0) rfl) (hP) hE rfl hl.1 rfl (Nat.le_of_ble_eq_true rfl) d_RW_sign_29) ?_
      refine ztop (y := nI (B (a + i))) ((zs_item_in (by omega) (by omega)).trans (hB9 (a + i) (show a + i < n by omega)).1) ?_
      refine lv_i2l hx hb d_RW_sign_32 rfl ?_
      refine ztopl (y := lN (B (a + i))) (nI_l (by have h8 : B (a + i) < 256 := (hB9 (a + i) (show a + i < n by omega)).2; omega)) ?_
      refine lv_ladd hx hb d_RW_sign_33 ?_
      refine lv_lconst (v := lN 1) hx hb d_RW_sign_34 (by decide) ?_
      refine lv_ladd hx hb d_RW_sign_35 ?_
      refine lv_lload hx hb d_RW_sign_36 (lv_at hl 2 rfl) ?_
      refine lv_lmul hx hb d_RW_sign_38 ?_
      refine lv_ldc2 (v := lN 65521) hx hb hown (hg _ zw_368) d_RW_sign_39 ?_
      refine lv_lrem hx hb d_RW_sign_42 (by decide) ?_
      refine ztopl (y := lN (zs_sgt B (zs_fac g) a (i + 1))) (zs_sgt_step (zs_fac_le g) (hB9 (a + i) (show a + i < n by omega)).2 rfl) ?_
      refine lv_lstore hx hb d_RW_sign_43 hl (by decide) (lv' := [(6, .long (lN (zs_sgt B (zs_fac g) a (i + 1)))), (8, .int (nI (a + i))), (4, .long (lN (zs_fac g))), (0, .ref r), (1, .int (nI a)), (2, .int (nI b)), (3, .int g)]) rfl (fun ls hl => ?_)
      refine lv_iinc (k := 1) (v := nI (a + (i + 1))) hx hb d_RW_sign_45 hl rfl (nI_1 (a + i)) (by decide) (lv' := [(8, .int (nI (a + (i + 1)))), (6, .long (lN (zs_sgt B (zs_fac g) a (i + 1)))), (4, .long (lN (zs_fac g))), (0, .ref r), (1, .int (nI a)), (2, .int (nI b)), (3, .int g)]) rfl (fun ls hl => ?_)
      refine lv_goto hx hb d_RW_sign_48 (tgt := 18) (by decide) ?_
      have hl : lv_has ls 9 [(8, .int (nI (a + (i + 1)))), (6, .long (lN (zs_sgt B (zs_fac g) a (i + 1)))), (4, .long (lN (zs_fac g))), (0, .ref r), (1, .int (nI a)), (2, .int (nI b)), (3, .int g)] := lv_sub hl [0, 1, 2, 3, 4, 5, 6] rfl
      exact ih (i + 1) (by omega) ls hl
  exact loop (b - a) 0 (by omega) ls hl

/-- a row inside a larger world: the two cells of a row have changed, the rest is as it was -/
theorem zA2_in {A : Nat → Prop} {ws : va_W} (hD : va_D A ws) (q1 q2 : Nat) {a1 a2 : Nat} {e1 e2 : va_E} (h1 : ws[q1]? = some (a1, e1)) (h2 : ws[q2]? = some (a2, e2)) (q : Nat) (h : zA2 a1 a2 q) : A q := by
  rcases h with rfl | rfl
  · exact hD.2 q1 _ h1
  · exact hD.2 q2 _ h2
theorem zrow {D : va_G} {cl : List vw_C} {A : Nat → Prop} {ws : va_W} {H H1 : Heap} (hP : va_P D cl ws H) (hD : va_D A ws) (q1 q2 : Nat) {a1 a2 : Nat} {e1 e2 e1' e2' : va_E} (h1 : ws[q1]? = some (a1, e1)) (h2 : ws[q2]? = some (a2, e2)) (hne : q1 ≠ q2)
    (hk : ∀ q : Nat, q < H.size → ¬ zA2 a1 a2 q → H1[q]? = H[q]?) (hP1 : va_P D cl [(a1, e1'), (a2, e2')] H1) :
    va_P D cl ((ws.set q1 (a1, e1')).set q2 (a2, e2')) H1 ∧ va_D A ((ws.set q1 (a1, e1')).set q2 (a2, e2')) := by
  have l1 : q1 < ws.length := (List.getElem?_eq_some_iff.mp h1).1
  have l2 : q2 < ws.length := (List.getElem?_eq_some_iff.mp h2).1
  have key : ∀ (k : Nat) (q : Nat × va_E), ((ws.set q1 (a1, e1')).set q2 (a2, e2'))[k]? = some q → (k = q2 ∧ q = (a2, e2')) ∨ (k = q1 ∧ q = (a1, e1')) ∨ (k ≠ q1 ∧ k ≠ q2 ∧ ws[k]? = some q) := by
    intro k q hk
    by_cases e2 : q2 = k
    · subst e2
      rw [List.getElem?_set_self (by rw [List.length_set]; exact l2)] at hk
      exact Or.inl ⟨rfl, (Option.some.inj hk).symm⟩
    · rw [List.getElem?_set_ne e2] at hk
      by_cases e1 : q1 = k
      · subst e1
        rw [List.getElem?_set_self l1] at hk
        exact Or.inr (Or.inl ⟨rfl, (Option.some.inj hk).symm⟩)
      · rw [List.getElem?_set_ne e1] at hk
        exact Or.inr (Or.inr ⟨fun z => e1 z.symm, fun z => e2 z.symm, hk⟩)
  have old : ∀ (k : Nat) (q : Nat × va_E), ((ws.set q1 (a1, e1')).set q2 (a2, e2'))[k]? = some q → ∃ q' : Nat × va_E, ws[k]? = some q' ∧ q'.1 = q.1 := by
    intro k q hk
    rcases key k q hk with ⟨rfl, rfl⟩ | ⟨rfl, rfl⟩ | ⟨-, -, h⟩
    · exact ⟨_, h2, rfl⟩
    · exact ⟨_, h1, rfl⟩
    · exact ⟨q, h, rfl⟩
  refine ⟨fun k q hq => ?_, fun i j x y hi hj e => ?_, fun k q hq => ?_⟩
  · rcases key k q hq with ⟨rfl, rfl⟩ | ⟨rfl, rfl⟩ | ⟨n1, n2, h⟩
    · exact hP1 1 _ rfl
    · exact hP1 0 _ rfl
    · refine (hP k q h).kept (hk q.1 (hP k q h).lt ?_)
      rintro (z | z)
      · exact n1 (hD.1 k q1 q _ h h1 z)
      · exact n2 (hD.1 k q2 q _ h h2 z)
  · obtain ⟨x', hx', ex⟩ := old i x hi
    obtain ⟨y', hy', ey⟩ := old j y hj
    exact hD.1 i j x' y' hx' hy' (ex.trans (e.trans ey.symm))
  · obtain ⟨q', hq', eq⟩ := old k q hq
    rw [← eq]
    exact hD.2 k q' hq' 
end
section
/-! The spec of the files: pure. -/
theorem zs_or (a b : Nat) : nI a ||| nI b = nI (a ||| b) := by
  apply Int32.toBitVec_inj.1
  show BitVec.ofNat 32 a ||| BitVec.ofNat 32 b = BitVec.ofNat 32 (a ||| b)
  exact BitVec.ofNat_or.symm
theorem zs_xor (a b : Nat) : nI a ^^^ nI b = nI (a ^^^ b) := by
  apply Int32.toBitVec_inj.1
  show BitVec.ofNat 32 a ^^^ BitVec.ofNat 32 b = BitVec.ofNat 32 (a ^^^ b)
  exact BitVec.ofNat_xor.symm
theorem zs_cat {a b k : Nat} (hk : k < 32) (hb : b < 2 ^ k) (h : a * 2 ^ k < 2 ^ 32) : (nI a <<< (nI k &&& 31)) ||| nI b = nI (a * 2 ^ k + b) := by
  rw [pk_shlN (nI k &&& 31) k (zs_sm k hk) h, zs_or, Nat.mul_comm, ← Nat.two_pow_add_eq_or_of_lt hb]
theorem zs_has_out {n j : Nat} (hj : n ≤ j) (h : j < 2 ^ 31) : zs_has n (nI j) = nI 0 := by
  rw [zs_has, if_neg (nI_pos h), if_pos (nI_le hj h)]
theorem zs_item_out {n j : Nat} {f : Nat → Int32} (hj : n ≤ j) (h : j < 2 ^ 31) : zs_item n f (nI j) = -1 := by
  rw [zs_item, zs_has_out hj h, if_pos (by decide)]
/-- two bytes as a number -/
def zs_two (B : Nat → Nat) (i : Nat) : Nat := B i * 256 + B (i + 1)
theorem zs_two_lt {B : Nat → Nat} {i : Nat} (h0 : B i < 256) (h1 : B (i + 1) < 256) : zs_two B i < 65536 := by
  unfold zs_two; omega
theorem zs_pair_in {n j : Nat} {f : Nat → Int32} {B : Nat → Nat} (hB : zs_hold 256 f (n, B)) (hj : j + 1 < n) (hn : n < 2 ^ 31) : (zs_item n f (nI j) <<< (nI 8 &&& 31)) ||| zs_item n f (nI j + nI 1) = nI (zs_two B j) := by
  obtain ⟨a1, a2⟩ := hB j (show j < n by omega)
  obtain ⟨b1, b2⟩ := hB (j + 1) (show j + 1 < n by omega)
  dsimp only at a1 a2 b1 b2
  rw [nI_add, zs_item_in (by omega) hn, zs_item_in hj hn, a1, b1]
  exact zs_cat (by decide) (by omega) (by omega)
/-- the exponent of an entry -/
def zs_e (f seed : Int32) (k : Nat) : Nat := 2 + zs_un (zs_word f seed (nI k)) / 2 ^ 1 % 32746
theorem zs_e_lt (f seed : Int32) (k : Nat) : zs_e f seed k < 32748 := by
  unfold zs_e
  have := Nat.mod_lt (zs_un (zs_word f seed (nI k)) / 2 ^ 1) (show 32746 > 0 by decide)
  omega
theorem zs_e_i (w : Int32) : nI 2 + (zs_u w (nI 1) - zs_u w (nI 1) / nI 32746 * nI 32746) = nI (2 + zs_un w / 2 ^ 1 % 32746) := by
  have h := zs_un_lt w
  rw [zs_u_un w (by decide), pk_rem (by omega) (by decide) (by decide), nI_add]
/-- a covered byte -/
def zs_cv (b : Nat) (f : Int32) (k j : Nat) : Nat := b ^^^ (zs_un (zs_word f (nI (16 * k + j)) (nI 4)) % 2 ^ 8)
theorem zs_cv_lt {b : Nat} (h : b < 256) (f : Int32) (k j : Nat) : zs_cv b f k j < 256 := Nat.xor_lt_two_pow (n := 8) h (Nat.mod_lt _ (by decide))
theorem zs_cv_i (b : Nat) (w : Int32) : nI b ^^^ (w &&& nI 255) = nI (b ^^^ (zs_un w % 2 ^ 8)) := by
  rw [show w &&& nI 255 = nI (zs_un w % 2 ^ 8) from zs_and w 8 (by decide), zs_xor]
/-- the third number of a piece's word -/
def zs_use (t : Nat) : Int32 := if t = 0 then nI 5 else nI 6
/-- is it a file -/
def zs_sh (n : Nat) (B : Nat → Nat) : Nat := if 2 ≤ n ∧ B 0 = 83 ∧ 1 ≤ B 1 ∧ B 1 ≤ 3 ∧ 6 + B 1 * 8 ≤ n then 1 else 0
/-- what is wrapped in the entry at a for a key with the secret s and the address ad -/
def zs_z (B : Nat → Nat) (a s : Nat) : Nat := zs_pw (zs_two B a) s
def zs_un_w (B : Nat → Nat) (a s ad : Nat) : Int32 := ((nI (zs_two B (a + 2)) <<< (nI 16 &&& 31)) ||| nI (zs_two B (a + 4))) ^^^ zs_word (nI (zs_z B a s)) (nI ad) (nI 1)
/-- is the entry at a this key's -/
def zs_own (B : Nat → Nat) (a s ad : Nat) : Prop := zs_two B (a + 6) = zs_sg B a (a + 6) (zs_word (nI (zs_z B a s)) (nI ad) (nI 2))
def zs_pair (F : zs_F) (v : Nat) : zs_F := zs_push (zs_push F (v / 256)) (v % 256)
theorem zs_hold_pair {f : Nat → Int32} {F : zs_F} {v : Nat} (h : zs_hold 256 f F) (hv : v < 65536) : zs_hold 256 (upd (upd f F.1 (nI (v / 256))) (F.1 + 1) (nI (v % 256))) (zs_pair F v) := by
  have h1 := zs_hold_push h (show v / 256 < 256 by omega)
  exact zs_hold_push h1 (show v % 256 < 256 by omega)
/-- a row's pair of bytes, the number below 65536 -/
theorem c_RW_pairN (l : Launch) (D : va_G) (cI cC cJ : ClassId) (r it cap n : Nat) (f : Nat → Int32) (hn : n ≤ cap) (hcap : cap < 2 ^ 31) (hne : r ≠ it) (v : Nat) (hv : v < 65536) (h : n + 2 ≤ cap) :
    Met l y_RW_appendPair (zw k_RW_appendPair) ({ frames := 1, cells := 0, slots := 0, locals := 21 }) (zPc [.ref r, .int (nI v)] (fun H => va_P D zcl (zRw cI r it cap n f) H) D cI cC cJ) (zQm none (fun H => va_P D zcl (zRw cI r it cap (n + 2) (upd (upd f n (nI (v / 256))) (n + 1) (nI (v % 256)))) H) (zA2 r it)) 0 0 (zA2 r it) := by
  have h1 := c_RW_appendPair l D cI cC cJ r it cap n f hn hcap hne (nI v) h
  rw [zs_u_nI (by omega) (by decide), show nI v &&& nI 255 = nI (v % 256) from pk_andN (by omega) 8 (by decide)] at h1
  exact h1
/-- an entry for a receiver -/
def zs_wrap (f : Int32) (z ad : Nat) : Int32 := f ^^^ zs_word (nI z) (nI ad) (nI 1)
def zs_ent3 (F : zs_F) (ad : Nat) (f : Int32) (e : Nat) : zs_F := zs_pair (zs_pair (zs_pair F (zs_pw 2 e)) (zs_un (zs_wrap f (zs_pw ad e) ad) / 2 ^ 16)) (zs_un (zs_wrap f (zs_pw ad e) ad) % 2 ^ 16)
def zs_entry (F : zs_F) (ad : Nat) (f : Int32) (e : Nat) : zs_F := zs_pair (zs_ent3 F ad f e) (zs_sg (zs_ent3 F ad f e).2 F.1 (F.1 + 6) (zs_word (nI (zs_pw ad e)) (nI ad) (nI 2)))
/-- a piece: its bytes covered, then its sign -/
def zs_cvs (M : Nat → Nat) (f : Int32) (k : Nat) (F : zs_F) : Nat → zs_F
  | 0 => F
  | j + 1 => zs_push (zs_cvs M f k F j) (zs_cv (M (8 * k + j)) f k j)
theorem zs_cvs_n (M : Nat → Nat) (f : Int32) (k : Nat) (F : zs_F) (j : Nat) : (zs_cvs M f k F j).1 = F.1 + j := by
  induction j with
  | zero => rfl
  | succ j ih => show (zs_cvs M f k F j).1 + 1 = _; rw [ih]; rfl
def zs_piece (M : Nat → Nat) (f : Int32) (k n t : Nat) (F : zs_F) : zs_F := zs_pair (zs_cvs M f k F n) (zs_sg (zs_cvs M f k F n).2 F.1 (F.1 + n) (zs_word f (nI k) (zs_use t)))
theorem zs_piece_n (M : Nat → Nat) (f : Int32) (k n t : Nat) (F : zs_F) : (zs_piece M f k n t F).1 = F.1 + n + 2 := by
  show (zs_cvs M f k F n).1 + 1 + 1 = _; rw [zs_cvs_n]
/-- the pieces of a message of N bytes, k of them done, the last one is L -/
def zs_pcs (N : Nat) (M : Nat → Nat) (f : Int32) (L : Nat) (F : zs_F) : Nat → zs_F
  | 0 => F
  | k + 1 => zs_piece M f k (min (N - 8 * k) 8) (if k = L then 1 else 0) (zs_pcs N M f L F k)
theorem zs_pcs_le (N : Nat) (M : Nat → Nat) (f : Int32) (L : Nat) (F : zs_F) (k : Nat) : (zs_pcs N M f L F k).1 ≤ F.1 + 10 * k := by
  induction k with
  | zero => exact Nat.le_refl _
  | succ k ih =>
    show (zs_piece M f k (min (N - 8 * k) 8) (if k = L then 1 else 0) (zs_pcs N M f L F k)).1 ≤ _
    rw [zs_piece_n]
    have := Nat.min_le_right (N - 8 * k) 8
    omega
end
section
theorem zc_SF_address : zCal y_SF_address b_SF_address 2 (some .int) 1 := ⟨zk_SF_address, zw_1, by decide, by decide, by decide +kernel⟩
theorem zc_SF_agreed : zCal y_SF_agreed b_SF_agreed 3 (some .int) 2 := ⟨zk_SF_agreed, zw_1, by decide, by decide, by decide +kernel⟩
theorem zc_SF_alter : zCal y_SF_alter b_SF_alter 3 (some .int) 2 := ⟨zk_SF_alter, zw_1, by decide, by decide, by decide +kernel⟩
theorem zc_SF_appendEntry : zCal y_SF_appendEntry b_SF_appendEntry 7 none 3 := ⟨zk_SF_appendEntry, zw_1, by decide, by decide, by decide +kernel⟩
theorem zc_SF_appendPieces : zCal y_SF_appendPieces b_SF_appendPieces 8 none 1 := ⟨zk_SF_appendPieces, zw_1, by decide, by decide, by decide +kernel⟩
theorem zc_SF_areReceivers : zCal y_SF_areReceivers b_SF_areReceivers 3 (some .boolean) 1 := ⟨zk_SF_areReceivers, zw_1, by decide, by decide, by decide +kernel⟩
theorem zc_SF_at : zCal y_SF_at b_SF_at 2 (some .int) 1 := ⟨zk_SF_at, zw_1, by decide, by decide, by decide +kernel⟩
theorem zc_SF_clear : zCal y_SF_clear b_SF_clear 2 (some .int) 0 := ⟨zk_SF_clear, zw_1, by decide, by decide, by decide +kernel⟩
theorem zc_SF_count : zCal y_SF_count b_SF_count 2 (some .int) 1 := ⟨zk_SF_count, zw_1, by decide, by decide, by decide +kernel⟩
theorem zc_SF_covered : zCal y_SF_covered b_SF_covered 4 (some .int) 4 := ⟨zk_SF_covered, zw_1, by decide, by decide, by decide +kernel⟩
theorem zc_SF_cut : zCal y_SF_cut b_SF_cut 2 (some .boolean) 1 := ⟨zk_SF_cut, zw_1, by decide, by decide, by decide +kernel⟩
theorem zc_SF_draftBytes : zCal y_SF_draftBytes b_SF_draftBytes 1 (some .int) 0 := ⟨zk_SF_draftBytes, zw_1, by decide, by decide, by decide +kernel⟩
theorem zc_SF_draftIsPrintedForm : zCal y_SF_draftIsPrintedForm b_SF_draftIsPrintedForm 3 (some .boolean) 0 := ⟨zk_SF_draftIsPrintedForm, zw_1, by decide, by decide, by decide +kernel⟩
theorem zc_SF_entriesEnd : zCal y_SF_entriesEnd b_SF_entriesEnd 1 (some .int) 0 := ⟨zk_SF_entriesEnd, zw_1, by decide, by decide, by decide +kernel⟩
theorem zc_SF_entryFor : zCal y_SF_entryFor b_SF_entryFor 6 (some .int) 1 := ⟨zk_SF_entryFor, zw_1, by decide, by decide, by decide +kernel⟩
theorem zc_SF_entrySign : zCal y_SF_entrySign b_SF_entrySign 4 (some .int) 3 := ⟨zk_SF_entrySign, zw_1, by decide, by decide, by decide +kernel⟩
theorem zc_SF_exponent : zCal y_SF_exponent b_SF_exponent 3 (some .int) 3 := ⟨zk_SF_exponent, zw_1, by decide, by decide, by decide +kernel⟩
theorem zc_SF_hasShape : zCal y_SF_hasShape b_SF_hasShape 1 (some .boolean) 0 := ⟨zk_SF_hasShape, zw_1, by decide, by decide, by decide +kernel⟩
theorem zc_SF_headSign : zCal y_SF_headSign b_SF_headSign 3 (some .int) 2 := ⟨zk_SF_headSign, zw_1, by decide, by decide, by decide +kernel⟩
theorem zc_SF_init : zCal y_SF_init b_SF_init 1 none 0 := ⟨zk_SF_init, zw_1, by decide, by decide, by decide +kernel⟩
theorem zc_SF_key : zCal y_SF_key b_SF_key 2 (some .int) 1 := ⟨zk_SF_key, zw_1, by decide, by decide, by decide +kernel⟩
theorem zc_SF_load : zCal y_SF_load b_SF_load 2 (some .int) 0 := ⟨zk_SF_load, zw_1, by decide, by decide, by decide +kernel⟩
theorem zc_SF_open : zCal y_SF_open b_SF_open 5 (some .int) 1 := ⟨zk_SF_open, zw_1, by decide, by decide, by decide +kernel⟩
theorem zc_SF_pieceSign : zCal y_SF_pieceSign b_SF_pieceSign 7 (some .int) 5 := ⟨zk_SF_pieceSign, zw_1, by decide, by decide, by decide +kernel⟩
theorem zc_SF_pieces : zCal y_SF_pieces b_SF_pieces 1 (some .int) 0 := ⟨zk_SF_pieces, zw_1, by decide, by decide, by decide +kernel⟩
theorem zc_SF_print : zCal y_SF_print b_SF_print 7 (some .int) 1 := ⟨zk_SF_print, zw_1, by decide, by decide, by decide +kernel⟩
theorem zc_SF_put : zCal y_SF_put b_SF_put 2 (some .boolean) 1 := ⟨zk_SF_put, zw_1, by decide, by decide, by decide +kernel⟩
theorem zc_SF_read : zCal y_SF_read b_SF_read 2 (some .int) 1 := ⟨zk_SF_read, zw_1, by decide, by decide, by decide +kernel⟩
theorem zc_SF_seal : zCal y_SF_seal b_SF_seal 5 (some .int) 3 := ⟨zk_SF_seal, zw_1, by decide, by decide, by decide +kernel⟩
theorem zc_SF_takeDraft : zCal y_SF_takeDraft b_SF_takeDraft 6 none 0 := ⟨zk_SF_takeDraft, zw_1, by decide, by decide, by decide +kernel⟩
theorem zc_SF_takePieces : zCal y_SF_takePieces b_SF_takePieces 10 (some .int) 2 := ⟨zk_SF_takePieces, zw_1, by decide, by decide, by decide +kernel⟩
theorem zc_SF_uncover : zCal y_SF_uncover b_SF_uncover 6 none 4 := ⟨zk_SF_uncover, zw_1, by decide, by decide, by decide +kernel⟩
theorem zc_SF_unwrapped : zCal y_SF_unwrapped b_SF_unwrapped 4 (some .int) 2 := ⟨zk_SF_unwrapped, zw_1, by decide, by decide, by decide +kernel⟩
theorem zc_SF_write : zCal y_SF_write b_SF_write 3 (some .boolean) 1 := ⟨zk_SF_write, zw_1, by decide, by decide, by decide +kernel⟩
/-- a SealedFiles: its object, and five rows with their items -/
abbrev zSf (cI : ClassId) (h : Nat → Nat) (n0 n1 n2 n3 n4 : Nat) (f0 f1 f2 f3 f4 : Nat → Int32) (rp : Int32) : va_W := [((h 0), .inr (1, [.ref (h 1), .ref (h 3), .ref (h 5), .ref (h 7), .ref (h 9), .int rp])), ((h 1), .inr (0, [.ref (h 2), .int (nI n0)])), ((h 2), .inl (cI, 4, .inl f0)), ((h 3), .inr (0, [.ref (h 4), .int (nI n1)])), ((h 4), .inl (cI, 4, .inl f1)), ((h 5), .inr (0, [.ref (h 6), .int (nI n2)])), ((h 6), .inl (cI, 40, .inl f2)), ((h 7), .inr (0, [.ref (h 8), .int (nI n3)])), ((h 8), .inl (cI, 120, .inl f3)), ((h 9), .inr (0, [.ref (h 10), .int (nI n4)])), ((h 10), .inl (cI, 160, .inl f4))]
set_option maxHeartbeats 4000000 in
set_option maxRecDepth 100000 in
theorem c_SF_exponent (l : Launch) (D : va_G) (cI cC cJ : ClassId) (f g : Int32) (k : Nat) : Met l y_SF_exponent (zw k_SF_exponent) ({ frames := 2, cells := 0, slots := 0, locals := 44 }) (zPc [.int f, .int g, .int (nI k)] (fun _ => True) D cI cC cJ) (QcRead (nI (zs_e f g k))) 0 0 (fun _ => False) := by
  refine zMet (by decide) (Nat.le_of_ble_eq_true rfl) ?_
  intro p e s m below meth c hx hb hr hg hown hlk hml hB hE ls hl
  have hl : lv_has ls 3 [(0, .int f), (1, .int g), (2, .int (nI k))] := hl
  have hS9 : CallFix p m c b_SF_exponent 3 s [.int f, .int g, .int (nI k)].toArray zg "SealedFiles" := ⟨hx, hb, hml, hown, hg⟩
  refine lv_iconst (v := (nI 2)) hx hb d_SF_exponent_0 (by decide) ?_
  refine lv_iload_n hx hb d_SF_exponent_1 rfl (lv_at hl 0 rfl) ?_
  refine lv_iload_n hx hb d_SF_exponent_2 rfl (lv_at hl 1 rfl) ?_
  refine lv_iload_n hx hb d_SF_exponent_3 rfl (lv_at hl 2 rfl) ?_
  refine zRd (rest := [.int (nI 2)]) (zrSN hS9 (c_NU_word l D cI cC cJ f g (nI k)) zc_NU_word (by decide) zw_341 (by decide) (trivial) hE rfl hl.1 rfl (Nat.le_of_ble_eq_true rfl) d_SF_exponent_4) ?_
  refine lv_iconst (v := (nI 1)) hx hb d_SF_exponent_7 (by decide) ?_
  refine lv_iushr (v := zs_u (zs_word f g (nI k)) (nI 1)) hx hb d_SF_exponent_8 rfl ?_
  refine lv_sipush (v := (nI 32746)) hx hb d_SF_exponent_9 (by decide) ?_
  refine lv_irem hx hb d_SF_exponent_12 (by decide) ?_
  refine lv_iadd hx hb d_SF_exponent_13 ?_
  exact W.iret (v := ((nI 2) + ((zs_u (zs_word f g (nI k)) (nI 1)) - (zs_u (zs_word f g (nI k)) (nI 1)) / (nI 32746) * (nI 32746)))) hx hb hr (fun t ht _ => ⟨congrArg (fun z => Outcome.returned (some (Value.int z))) (zs_e_i _), ht⟩) t_nil d_SF_exponent_14

set_option maxHeartbeats 4000000 in
set_option maxRecDepth 100000 in
theorem c_SF_covered (l : Launch) (D : va_G) (cI cC cJ : ClassId) (b : Nat) (f : Int32) (k j : Nat) : Met l y_SF_covered (zw k_SF_covered) ({ frames := 2, cells := 0, slots := 0, locals := 44 }) (zPc [.int (nI b), .int f, .int (nI k), .int (nI j)] (fun _ => True) D cI cC cJ) (QcRead (nI (zs_cv b f k j))) 0 0 (fun _ => False) := by
  refine zMet (by decide) (Nat.le_of_ble_eq_true rfl) ?_
  intro p e s m below meth c hx hb hr hg hown hlk hml hB hE ls hl
  have hl : lv_has ls 4 [(0, .int (nI b)), (1, .int f), (2, .int (nI k)), (3, .int (nI j))] := hl
  have hS9 : CallFix p m c b_SF_covered 4 s [.int (nI b), .int f, .int (nI k), .int (nI j)].toArray zg "SealedFiles" := ⟨hx, hb, hml, hown, hg⟩
  refine lv_iload_n hx hb d_SF_covered_0 rfl (lv_at hl 0 rfl) ?_
  refine lv_iload_n hx hb d_SF_covered_1 rfl (lv_at hl 1 rfl) ?_
  refine lv_bipush (v := (nI 16)) hx hb d_SF_covered_2 (by decide) ?_
  refine lv_iload_n hx hb d_SF_covered_4 rfl (lv_at hl 2 rfl) ?_
  refine lv_imul hx hb d_SF_covered_5 ?_
  refine lv_iload_n hx hb d_SF_covered_6 rfl (lv_at hl 3 rfl) ?_
  refine lv_iadd hx hb d_SF_covered_7 ?_
  refine ztop (y := nI (16 * k + j)) (by rw [pk_mul, nI_add]) ?_
  refine lv_iconst (v := (nI 4)) hx hb d_SF_covered_8 (by decide) ?_
  refine zRd (rest := [.int (nI b)]) (zrSN hS9 (c_NU_word l D cI cC cJ f (nI (16 * k + j)) (nI 4)) zc_NU_word (by decide) zw_341 (by decide) (trivial) hE rfl hl.1 rfl (Nat.le_of_ble_eq_true rfl) d_SF_covered_9) ?_
  refine lv_sipush (v := (nI 255)) hx hb d_SF_covered_12 (by decide) ?_
  refine lv_iand hx hb d_SF_covered_15 ?_
  refine lv_ixor hx hb d_SF_covered_16 ?_
  exact W.iret (v := ((nI b) ^^^ ((zs_word f (nI (16 * k + j)) (nI 4)) &&& (nI 255)))) hx hb hr (fun t ht _ => ⟨congrArg (fun z => Outcome.returned (some (Value.int z))) (zs_cv_i _ _), ht⟩) t_nil d_SF_covered_17

set_option maxHeartbeats 4000000 in
set_option maxRecDepth 100000 in
theorem c_SF_entrySign (l : Launch) (D : va_G) (cI cC cJ : ClassId) (h : Nat → Nat) (n0 n1 n2 n3 n4 : Nat) (f0 f1 f2 f3 f4 : Nat → Int32) (rp : Int32) (hn0 : n0 ≤ 4) (hn1 : n1 ≤ 4) (hn2 : n2 ≤ 40) (hn3 : n3 ≤ 120) (hn4 : n4 ≤ 160) (B : Nat → Nat) (hB : zs_hold 256 f3 (n3, B)) (a : Nat) (z ad : Int32) (ha : a + 6 ≤ n3) : Met l y_SF_entrySign (zw k_SF_entrySign) ({ frames := 3, cells := 0, slots := 0, locals := 70 }) (zPc [.ref (h 0), .int (nI a), .int z, .int ad] (fun H => va_P D zcl (zSf cI h n0 n1 n2 n3 n4 f0 f1 f2 f3 f4 rp) H) D cI cC cJ) (QcRead (nI (zs_sg B a (a + 6) (zs_word z ad (nI 2))))) 0 0 (fun _ => False) := by
  refine zMet (by decide) (Nat.le_of_ble_eq_true rfl) ?_
  intro p e s m below meth c hx hb hr hg hown hlk hml hP hE ls hl
  have hl : lv_has ls 4 [(0, .ref (h 0)), (1, .int (nI a)), (2, .int z), (3, .int ad)] := hl
  have hS9 : CallFix p m c b_SF_entrySign 4 s [.ref (h 0), .int (nI a), .int z, .int ad].toArray zg "SealedFiles" := ⟨hx, hb, hml, hown, hg⟩
  have hP : va_P D zcl [((h 0), .inr (1, [.ref (h 1), .ref (h 3), .ref (h 5), .ref (h 7), .ref (h 9), .int rp])), ((h 1), .inr (0, [.ref (h 2), .int (nI n0)])), ((h 2), .inl (cI, 4, .inl f0)), ((h 3), .inr (0, [.ref (h 4), .int (nI n1)])), ((h 4), .inl (cI, 4, .inl f1)), ((h 5), .inr (0, [.ref (h 6), .int (nI n2)])), ((h 6), .inl (cI, 40, .inl f2)), ((h 7), .inr (0, [.ref (h 8), .int (nI n3)])), ((h 8), .inl (cI, 120, .inl f3)), ((h 9), .inr (0, [.ref (h 10), .int (nI n4)])), ((h 10), .inl (cI, 160, .inl f4))] s.heap := hP
  refine lv_aload_n hx hb d_SF_entrySign_0 rfl (lv_at hl 0 rfl) ?_
  refine va_get (D := D) (ci := 1) (v := .ref (h 7)) (C := R_SF) (T := F_SF) (N := 6) hx hb hg i_SF hown hE.1 hP 0 rfl rfl 3 (by decide) (hg _ zw_43) (fun _ h9 => h9) rfl d_SF_entrySign_1 ?_
  refine lv_iload_n hx hb d_SF_entrySign_4 rfl (lv_at hl 1 rfl) ?_
  refine lv_iload_n hx hb d_SF_entrySign_5 rfl (lv_at hl 1 rfl) ?_
  refine lv_bipush (v := (nI 6)) hx hb d_SF_entrySign_6 (by decide) ?_
  refine lv_iadd hx hb d_SF_entrySign_8 ?_
  refine ztop (y := nI (a + 6)) (nI_add a 6) ?_
  refine lv_iload_n hx hb d_SF_entrySign_9 rfl (lv_at hl 2 rfl) ?_
  refine lv_iload_n hx hb d_SF_entrySign_10 rfl (lv_at hl 3 rfl) ?_
  refine lv_iconst (v := (nI 2)) hx hb d_SF_entrySign_11 (by decide) ?_
  refine zRd (rest := [.int (nI (a + 6)), .int (nI a), .ref (h 7)]) (zrSN hS9 (c_NU_word l D cI cC cJ z ad (nI 2)) zc_NU_word (by decide) zw_341 (by decide) (trivial) hE rfl hl.1 rfl (Nat.le_of_ble_eq_true rfl) d_SF_entrySign_12) ?_
  refine zRd (rest := []) (zrVN hS9 (c_RW_sign l D cI cC cJ (h 7) (h 8) 120 n3 f3 (by omega) (by decide) B hB a (a + 6) (by omega) (ha) (zs_word z ad (nI 2))) zc_RW_sign (by decide) zw_364 zp_10 (by decide) (va_recv hE.1 hP (ci := 0) (q := (R_RW, F_RW, 2)) rfl (q0 := 7) rfl) (hP.sub [7, 8] rfl) hE rfl hl.1 rfl (Nat.le_of_ble_eq_true rfl) d_SF_entrySign_15) ?_
  exact W.iret (v := (nI (zs_sg B a (a + 6) (zs_word z ad (nI 2))))) hx hb hr (fun t ht _ => ⟨congrArg (fun z => Outcome.returned (some (Value.int z))) (rfl), ht⟩) t_nil d_SF_entrySign_18

set_option maxHeartbeats 4000000 in
set_option maxRecDepth 100000 in
theorem c_SF_headSign (l : Launch) (D : va_G) (cI cC cJ : ClassId) (h : Nat → Nat) (n0 n1 n2 n3 n4 : Nat) (f0 f1 f2 f3 f4 : Nat → Int32) (rp : Int32) (hn0 : n0 ≤ 4) (hn1 : n1 ≤ 4) (hn2 : n2 ≤ 40) (hn3 : n3 ≤ 120) (hn4 : n4 ≤ 160) (B : Nat → Nat) (hB : zs_hold 256 f3 (n3, B)) (f : Int32) (b : Nat) (hb9 : b ≤ n3) : Met l y_SF_headSign (zw k_SF_headSign) ({ frames := 3, cells := 0, slots := 0, locals := 70 }) (zPc [.ref (h 0), .int f, .int (nI b)] (fun H => va_P D zcl (zSf cI h n0 n1 n2 n3 n4 f0 f1 f2 f3 f4 rp) H) D cI cC cJ) (QcRead (nI (zs_sg B 0 b (zs_word f (nI 0) (nI 3))))) 0 0 (fun _ => False) := by
  refine zMet (by decide) (Nat.le_of_ble_eq_true rfl) ?_
  intro p e s m below meth c hx hb hr hg hown hlk hml hP hE ls hl
  have hl : lv_has ls 3 [(0, .ref (h 0)), (1, .int f), (2, .int (nI b))] := hl
  have hS9 : CallFix p m c b_SF_headSign 3 s [.ref (h 0), .int f, .int (nI b)].toArray zg "SealedFiles" := ⟨hx, hb, hml, hown, hg⟩
  have hP : va_P D zcl [((h 0), .inr (1, [.ref (h 1), .ref (h 3), .ref (h 5), .ref (h 7), .ref (h 9), .int rp])), ((h 1), .inr (0, [.ref (h 2), .int (nI n0)])), ((h 2), .inl (cI, 4, .inl f0)), ((h 3), .inr (0, [.ref (h 4), .int (nI n1)])), ((h 4), .inl (cI, 4, .inl f1)), ((h 5), .inr (0, [.ref (h 6), .int (nI n2)])), ((h 6), .inl (cI, 40, .inl f2)), ((h 7), .inr (0, [.ref (h 8), .int (nI n3)])), ((h 8), .inl (cI, 120, .inl f3)), ((h 9), .inr (0, [.ref (h 10), .int (nI n4)])), ((h 10), .inl (cI, 160, .inl f4))] s.heap := hP
  refine lv_aload_n hx hb d_SF_headSign_0 rfl (lv_at hl 0 rfl) ?_
  refine va_get (D := D) (ci := 1) (v := .ref (h 7)) (C := R_SF) (T := F_SF) (N := 6) hx hb hg i_SF hown hE.1 hP 0 rfl rfl 3 (by decide) (hg _ zw_43) (fun _ h9 => h9) rfl d_SF_headSign_1 ?_
  refine lv_iconst (v := (nI 0)) hx hb d_SF_headSign_4 (by decide) ?_
  refine lv_iload_n hx hb d_SF_headSign_5 rfl (lv_at hl 2 rfl) ?_
  refine lv_iload_n hx hb d_SF_headSign_6 rfl (lv_at hl 1 rfl) ?_
  refine lv_iconst (v := (nI 0)) hx hb d_SF_headSign_7 (by decide) ?_
  refine lv_iconst (v := (nI 3)) hx hb d_SF_headSign_8 (by decide) ?_
  refine zRd (rest := [.int (nI b), .int (nI 0), .ref (h 7)]) (zrSN hS9 (c_NU_word l D cI cC cJ f (nI 0) (nI 3)) zc_NU_word (by decide) zw_341 (by decide) (trivial) hE rfl hl.1 rfl (Nat.le_of_ble_eq_true rfl) d_SF_headSign_9) ?_
  refine zRd (rest := []) (zrVN hS9 (c_RW_sign l D cI cC cJ (h 7) (h 8) 120 n3 f3 (by omega) (by decide) B hB 0 b (by omega) (hb9) (zs_word f (nI 0) (nI 3))) zc_RW_sign (by decide) zw_364 zp_10 (by decide) (va_recv hE.1 hP (ci := 0) (q := (R_RW, F_RW, 2)) rfl (q0 := 7) rfl) (hP.sub [7, 8] rfl) hE rfl hl.1 rfl (Nat.le_of_ble_eq_true rfl) d_SF_headSign_12) ?_
  exact W.iret (v := (nI (zs_sg B 0 b (zs_word f (nI 0) (nI 3))))) hx hb hr (fun t ht _ => ⟨congrArg (fun z => Outcome.returned (some (Value.int z))) (rfl), ht⟩) t_nil d_SF_headSign_15

set_option maxHeartbeats 4000000 in
set_option maxRecDepth 100000 in
theorem c_SF_pieceSign (l : Launch) (D : va_G) (cI cC cJ : ClassId) (h : Nat → Nat) (n0 n1 n2 n3 n4 : Nat) (f0 f1 f2 f3 f4 : Nat → Int32) (rp : Int32) (hn0 : n0 ≤ 4) (hn1 : n1 ≤ 4) (hn2 : n2 ≤ 40) (hn3 : n3 ≤ 120) (hn4 : n4 ≤ 160) (B : Nat → Nat) (hB : zs_hold 256 f3 (n3, B)) (f : Int32) (k a b t : Nat) (hab : a ≤ b) (hb9 : b ≤ n3) (ht9 : t < 2) : Met l y_SF_pieceSign (zw k_SF_pieceSign) ({ frames := 3, cells := 0, slots := 0, locals := 70 }) (zPc [.ref (h 0), .int f, .int (nI k), .int (nI a), .int (nI b), .int (nI t)] (fun H => va_P D zcl (zSf cI h n0 n1 n2 n3 n4 f0 f1 f2 f3 f4 rp) H) D cI cC cJ) (QcRead (nI (zs_sg B a b (zs_word f (nI k) (zs_use t))))) 0 0 (fun _ => False) := by
  refine zMet (by decide) (Nat.le_of_ble_eq_true rfl) ?_
  intro p e s m below meth c hx hb hr hg hown hlk hml hP hE ls hl
  have hl : lv_has ls 7 [(0, .ref (h 0)), (1, .int f), (2, .int (nI k)), (3, .int (nI a)), (4, .int (nI b)), (5, .int (nI t))] := hl
  have hS9 : CallFix p m c b_SF_pieceSign 7 s [.ref (h 0), .int f, .int (nI k), .int (nI a), .int (nI b), .int (nI t)].toArray zg "SealedFiles" := ⟨hx, hb, hml, hown, hg⟩
  have hP : va_P D zcl [((h 0), .inr (1, [.ref (h 1), .ref (h 3), .ref (h 5), .ref (h 7), .ref (h 9), .int rp])), ((h 1), .inr (0, [.ref (h 2), .int (nI n0)])), ((h 2), .inl (cI, 4, .inl f0)), ((h 3), .inr (0, [.ref (h 4), .int (nI n1)])), ((h 4), .inl (cI, 4, .inl f1)), ((h 5), .inr (0, [.ref (h 6), .int (nI n2)])), ((h 6), .inl (cI, 40, .inl f2)), ((h 7), .inr (0, [.ref (h 8), .int (nI n3)])), ((h 8), .inl (cI, 120, .inl f3)), ((h 9), .inr (0, [.ref (h 10), .int (nI n4)])), ((h 10), .inl (cI, 160, .inl f4))] s.heap := hP
  refine lv_iload hx hb d_SF_pieceSign_0 (lv_at hl 5 rfl) ?_
  by_cases h9 : t = 0
  · refine lv_if_eq hx hb d_SF_pieceSign_2 (tgt := 10) (by decide) (fun _ => ?_) (fun z9 => absurd (by rw [h9]; rfl) z9)
    refine lv_iconst (v := (nI 5)) hx hb d_SF_pieceSign_10 (by decide) ?_
    refine ztop (y := zs_use t) (by rw [zs_use, if_pos h9]) ?_
    refine lv_istore hx hb d_SF_pieceSign_11 hl (by decide) (lv' := [(6, .int (zs_use t)), (0, .ref (h 0)), (1, .int f), (2, .int (nI k)), (3, .int (nI a)), (4, .int (nI b)), (5, .int (nI t))]) rfl (fun ls hl => ?_)
    refine lv_aload_n hx hb d_SF_pieceSign_13 rfl (lv_at hl 1 rfl) ?_
    refine va_get (D := D) (ci := 1) (v := .ref (h 7)) (C := R_SF) (T := F_SF) (N := 6) hx hb hg i_SF hown hE.1 hP 0 rfl rfl 3 (by decide) (hg _ zw_43) (fun _ h9 => h9) rfl d_SF_pieceSign_14 ?_
    refine lv_iload_n hx hb d_SF_pieceSign_17 rfl (lv_at hl 4 rfl) ?_
    refine lv_iload hx hb d_SF_pieceSign_18 (lv_at hl 5 rfl) ?_
    refine lv_iload_n hx hb d_SF_pieceSign_20 rfl (lv_at hl 2 rfl) ?_
    refine lv_iload_n hx hb d_SF_pieceSign_21 rfl (lv_at hl 3 rfl) ?_
    refine lv_iload hx hb d_SF_pieceSign_22 (lv_at hl 0 rfl) ?_
    refine zRd (rest := [.int (nI b), .int (nI a), .ref (h 7)]) (zrSN hS9 (c_NU_word l D cI cC cJ f (nI k) (zs_use t)) zc_NU_word (by decide) zw_341 (by decide) (trivial) hE rfl hl.1 rfl (Nat.le_of_ble_eq_true rfl) d_SF_pieceSign_24) ?_
    refine zRd (rest := []) (zrVN hS9 (c_RW_sign l D cI cC cJ (h 7) (h 8) 120 n3 f3 (by omega) (by decide) B hB a b (hab) (hb9) (zs_word f (nI k) (zs_use t))) zc_RW_sign (by decide) zw_364 zp_10 (by decide) (va_recv hE.1 hP (ci := 0) (q := (R_RW, F_RW, 2)) rfl (q0 := 7) rfl) (hP.sub [7, 8] rfl) hE rfl hl.1 rfl (Nat.le_of_ble_eq_true rfl) d_SF_pieceSign_27) ?_
    exact W.iret (v := (nI (zs_sg B a b (zs_word f (nI k) (zs_use t))))) hx hb hr (fun t ht _ => ⟨congrArg (fun z => Outcome.returned (some (Value.int z))) (rfl), ht⟩) t_nil d_SF_pieceSign_30
  · refine lv_if_eq hx hb d_SF_pieceSign_2 (tgt := 10) (by decide) (fun z9 => absurd z9 (nI_ne0 (by omega) (by omega))) (fun _ => ?_)
    refine lv_bipush (v := (nI 6)) hx hb d_SF_pieceSign_5 (by decide) ?_
    refine lv_goto hx hb d_SF_pieceSign_7 (tgt := 11) (by decide) ?_
    refine ztop (y := zs_use t) (by rw [zs_use, if_neg h9]) ?_
    refine lv_istore hx hb d_SF_pieceSign_11 hl (by decide) (lv' := [(6, .int (zs_use t)), (0, .ref (h 0)), (1, .int f), (2, .int (nI k)), (3, .int (nI a)), (4, .int (nI b)), (5, .int (nI t))]) rfl (fun ls hl => ?_)
    refine lv_aload_n hx hb d_SF_pieceSign_13 rfl (lv_at hl 1 rfl) ?_
    refine va_get (D := D) (ci := 1) (v := .ref (h 7)) (C := R_SF) (T := F_SF) (N := 6) hx hb hg i_SF hown hE.1 hP 0 rfl rfl 3 (by decide) (hg _ zw_43) (fun _ h9 => h9) rfl d_SF_pieceSign_14 ?_
    refine lv_iload_n hx hb d_SF_pieceSign_17 rfl (lv_at hl 4 rfl) ?_
    refine lv_iload hx hb d_SF_pieceSign_18 (lv_at hl 5 rfl) ?_
    refine lv_iload_n hx hb d_SF_pieceSign_20 rfl (lv_at hl 2 rfl) ?_
    refine lv_iload_n hx hb d_SF_pieceSign_21 rfl (lv_at hl 3 rfl) ?_
    refine lv_iload hx hb d_SF_pieceSign_22 (lv_at hl 0 rfl) ?_
    refine zRd (rest := [.int (nI b), .int (nI a), .ref (h 7)]) (zrSN hS9 (c_NU_word l D cI cC cJ f (nI k) (zs_use t)) zc_NU_word (by decide) zw_341 (by decide) (trivial) hE rfl hl.1 rfl (Nat.le_of_ble_eq_true rfl) d_SF_pieceSign_24) ?_
    refine zRd (rest := []) (zrVN hS9 (c_RW_sign l D cI cC cJ (h 7) (h 8) 120 n3 f3 (by omega) (by decide) B hB a b (hab) (hb9) (zs_word f (nI k) (zs_use t))) zc_RW_sign (by decide) zw_364 zp_10 (by decide) (va_recv hE.1 hP (ci := 0) (q := (R_RW, F_RW, 2)) rfl (q0 := 7) rfl) (hP.sub [7, 8] rfl) hE rfl hl.1 rfl (Nat.le_of_ble_eq_true rfl) d_SF_pieceSign_27) ?_
    exact W.iret (v := (nI (zs_sg B a b (zs_word f (nI k) (zs_use t))))) hx hb hr (fun t ht _ => ⟨congrArg (fun z => Outcome.returned (some (Value.int z))) (rfl), ht⟩) t_nil d_SF_pieceSign_30

set_option maxHeartbeats 4000000 in
set_option maxRecDepth 100000 in
theorem c_SF_entriesEnd (l : Launch) (D : va_G) (cI cC cJ : ClassId) (h : Nat → Nat) (n0 n1 n2 n3 n4 : Nat) (f0 f1 f2 f3 f4 : Nat → Int32) (rp : Int32) (hn0 : n0 ≤ 4) (hn1 : n1 ≤ 4) (hn2 : n2 ≤ 40) (hn3 : n3 ≤ 120) (hn4 : n4 ≤ 160) (B : Nat → Nat) (hB : zs_hold 256 f3 (n3, B)) (h2 : 2 ≤ n3) : Met l y_SF_entriesEnd (zw k_SF_entriesEnd) ({ frames := 2, cells := 0, slots := 0, locals := 42 }) (zPc [.ref (h 0)] (fun H => va_P D zcl (zSf cI h n0 n1 n2 n3 n4 f0 f1 f2 f3 f4 rp) H) D cI cC cJ) (QcRead (nI (2 + B 1 * 8))) 0 0 (fun _ => False) := by
  refine zMet (by decide) (Nat.le_of_ble_eq_true rfl) ?_
  intro p e s m below meth c hx hb hr hg hown hlk hml hP hE ls hl
  have hl : lv_has ls 1 [(0, .ref (h 0))] := hl
  have hS9 : CallFix p m c b_SF_entriesEnd 1 s [.ref (h 0)].toArray zg "SealedFiles" := ⟨hx, hb, hml, hown, hg⟩
  have hP : va_P D zcl [((h 0), .inr (1, [.ref (h 1), .ref (h 3), .ref (h 5), .ref (h 7), .ref (h 9), .int rp])), ((h 1), .inr (0, [.ref (h 2), .int (nI n0)])), ((h 2), .inl (cI, 4, .inl f0)), ((h 3), .inr (0, [.ref (h 4), .int (nI n1)])), ((h 4), .inl (cI, 4, .inl f1)), ((h 5), .inr (0, [.ref (h 6), .int (nI n2)])), ((h 6), .inl (cI, 40, .inl f2)), ((h 7), .inr (0, [.ref (h 8), .int (nI n3)])), ((h 8), .inl (cI, 120, .inl f3)), ((h 9), .inr (0, [.ref (h 10), .int (nI n4)])), ((h 10), .inl (cI, 160, .inl f4))] s.heap := hP
  refine lv_iconst (v := (nI 2)) hx hb d_SF_entriesEnd_0 (by decide) ?_
  refine lv_aload_n hx hb d_SF_entriesEnd_1 rfl (lv_at hl 0 rfl) ?_
  refine va_get (D := D) (ci := 1) (v := .ref (h 7)) (C := R_SF) (T := F_SF) (N := 6) hx hb hg i_SF hown hE.1 hP 0 rfl rfl 3 (by decide) (hg _ zw_43) (fun _ h9 => h9) rfl d_SF_entriesEnd_2 ?_
  refine lv_iconst (v := (nI 1)) hx hb d_SF_entriesEnd_5 (by decide) ?_
  refine zRd (rest := [.int (nI 2)]) (zrVN hS9 (c_RW_item l D cI cC cJ (h 7) (h 8) 120 n3 f3 (by omega) (by decide) (nI 1)) zc_RW_item (by decide) zw_65 zp_0 (by decide) (va_recv hE.1 hP (ci := 0) (q := (R_RW, F_RW, 2)) rfl (q0 := 7) rfl) (hP.sub [7, 8] rfl) hE rfl hl.1 rfl (Nat.le_of_ble_eq_true rfl) d_SF_entriesEnd_6) ?_
  refine ztop (y := nI (B 1)) ((zs_item_in (by omega) (by omega)).trans (hB 1 (show 1 < n3 by omega)).1) ?_
  refine lv_bipush (v := (nI 8)) hx hb d_SF_entriesEnd_9 (by decide) ?_
  refine lv_imul hx hb d_SF_entriesEnd_11 ?_
  refine lv_iadd hx hb d_SF_entriesEnd_12 ?_
  exact W.iret (v := ((nI 2) + ((nI (B 1)) * (nI 8)))) hx hb hr (fun t ht _ => ⟨congrArg (fun z => Outcome.returned (some (Value.int z))) (by rw [pk_mul, nI_add]), ht⟩) t_nil d_SF_entriesEnd_13

set_option maxHeartbeats 4000000 in
set_option maxRecDepth 100000 in
theorem c_SF_agreed (l : Launch) (D : va_G) (cI cC cJ : ClassId) (h : Nat → Nat) (n0 n1 n2 n3 n4 : Nat) (f0 f1 f2 f3 f4 : Nat → Int32) (rp : Int32) (hn0 : n0 ≤ 4) (hn1 : n1 ≤ 4) (hn2 : n2 ≤ 40) (hn3 : n3 ≤ 120) (hn4 : n4 ≤ 160) (B : Nat → Nat) (hB : zs_hold 256 f3 (n3, B)) (S : Nat → Nat) (hS0 : zs_hold 32748 f0 (n0, S)) (hA0 : ∀ j, j < n1 → f1 j = nI (zs_pw 2 (S j))) (hn01 : n1 = n0) (a k : Nat) (ha : a + 2 ≤ n3) (hk : k < n0) : Met l y_SF_agreed (zw k_SF_agreed) ({ frames := 3, cells := 0, slots := 0, locals := 63 }) (zPc [.ref (h 0), .int (nI a), .int (nI k)] (fun H => va_P D zcl (zSf cI h n0 n1 n2 n3 n4 f0 f1 f2 f3 f4 rp) H) D cI cC cJ) (QcRead (nI (zs_z B a (S k)))) 0 0 (fun _ => False) := by
  refine zMet (by decide) (Nat.le_of_ble_eq_true rfl) ?_
  intro p e s m below meth c hx hb hr hg hown hlk hml hP hE ls hl
  have hl : lv_has ls 3 [(0, .ref (h 0)), (1, .int (nI a)), (2, .int (nI k))] := hl
  have hS9 : CallFix p m c b_SF_agreed 3 s [.ref (h 0), .int (nI a), .int (nI k)].toArray zg "SealedFiles" := ⟨hx, hb, hml, hown, hg⟩
  have hP : va_P D zcl [((h 0), .inr (1, [.ref (h 1), .ref (h 3), .ref (h 5), .ref (h 7), .ref (h 9), .int rp])), ((h 1), .inr (0, [.ref (h 2), .int (nI n0)])), ((h 2), .inl (cI, 4, .inl f0)), ((h 3), .inr (0, [.ref (h 4), .int (nI n1)])), ((h 4), .inl (cI, 4, .inl f1)), ((h 5), .inr (0, [.ref (h 6), .int (nI n2)])), ((h 6), .inl (cI, 40, .inl f2)), ((h 7), .inr (0, [.ref (h 8), .int (nI n3)])), ((h 8), .inl (cI, 120, .inl f3)), ((h 9), .inr (0, [.ref (h 10), .int (nI n4)])), ((h 10), .inl (cI, 160, .inl f4))] s.heap := hP
  have h8 : S k < 32748 := (hS0 k hk).2
  have h7 : zs_two B a < 65536 := zs_two_lt (hB a (show a < n3 by omega)).2 (hB (a + 1) (show a + 1 < n3 by omega)).2
  refine lv_aload_n hx hb d_SF_agreed_0 rfl (lv_at hl 0 rfl) ?_
  refine va_get (D := D) (ci := 1) (v := .ref (h 7)) (C := R_SF) (T := F_SF) (N := 6) hx hb hg i_SF hown hE.1 hP 0 rfl rfl 3 (by decide) (hg _ zw_43) (fun _ h9 => h9) rfl d_SF_agreed_1 ?_
  refine lv_iload_n hx hb d_SF_agreed_4 rfl (lv_at hl 1 rfl) ?_
  refine zRd (rest := []) (zrVN hS9 (c_RW_pair l D cI cC cJ (h 7) (h 8) 120 n3 f3 (by omega) (by decide) (nI a)) zc_RW_pair (by decide) zw_412 zp_18 (by decide) (va_recv hE.1 hP (ci := 0) (q := (R_RW, F_RW, 2)) rfl (q0 := 7) rfl) (hP.sub [7, 8] rfl) hE rfl hl.1 rfl (Nat.le_of_ble_eq_true rfl) d_SF_agreed_5) ?_
  refine ztop (y := nI (zs_two B a)) (zs_pair_in hB (by omega) (by omega)) ?_
  refine lv_aload_n hx hb d_SF_agreed_8 rfl (lv_at hl 0 rfl) ?_
  refine va_get (D := D) (ci := 1) (v := .ref (h 1)) (C := R_SF) (T := F_SF) (N := 6) hx hb hg i_SF hown hE.1 hP 0 rfl rfl 0 (by decide) (hg _ zw_40) (fun _ h9 => h9) rfl d_SF_agreed_9 ?_
  refine lv_iload_n hx hb d_SF_agreed_12 rfl (lv_at hl 2 rfl) ?_
  refine zRd (rest := [.int (nI (zs_two B a))]) (zrVN hS9 (c_RW_item l D cI cC cJ (h 1) (h 2) 4 n0 f0 (by omega) (by decide) (nI k)) zc_RW_item (by decide) zw_65 zp_0 (by decide) (va_recv hE.1 hP (ci := 0) (q := (R_RW, F_RW, 2)) rfl (q0 := 1) rfl) (hP.sub [1, 2] rfl) hE rfl hl.1 rfl (Nat.le_of_ble_eq_true rfl) d_SF_agreed_13) ?_
  refine ztop (y := nI (S k)) ((zs_item_in hk (by omega)).trans (hS0 k hk).1) ?_
  refine zRd (rest := []) (zrSN hS9 (c_NU_power l D cI cC cJ (zs_two B a) (S k) (by omega) (by omega)) zc_NU_power (by decide) zw_317 (by decide) (trivial) hE rfl hl.1 rfl (Nat.le_of_ble_eq_true rfl) d_SF_agreed_16) ?_
  exact W.iret (v := (nI (zs_pw (zs_two B a) (S k)))) hx hb hr (fun t ht _ => ⟨congrArg (fun z => Outcome.returned (some (Value.int z))) (rfl), ht⟩) t_nil d_SF_agreed_19

set_option maxHeartbeats 4000000 in
set_option maxRecDepth 100000 in
theorem c_SF_unwrapped (l : Launch) (D : va_G) (cI cC cJ : ClassId) (h : Nat → Nat) (n0 n1 n2 n3 n4 : Nat) (f0 f1 f2 f3 f4 : Nat → Int32) (rp : Int32) (hn0 : n0 ≤ 4) (hn1 : n1 ≤ 4) (hn2 : n2 ≤ 40) (hn3 : n3 ≤ 120) (hn4 : n4 ≤ 160) (B : Nat → Nat) (hB : zs_hold 256 f3 (n3, B)) (S : Nat → Nat) (hS0 : zs_hold 32748 f0 (n0, S)) (hA0 : ∀ j, j < n1 → f1 j = nI (zs_pw 2 (S j))) (hn01 : n1 = n0) (a k : Nat) (ha : a + 6 ≤ n3) (hk : k < n0) : Met l y_SF_unwrapped (zw k_SF_unwrapped) ({ frames := 4, cells := 0, slots := 0, locals := 85 }) (zPc [.ref (h 0), .int (nI a), .int (nI k)] (fun H => va_P D zcl (zSf cI h n0 n1 n2 n3 n4 f0 f1 f2 f3 f4 rp) H) D cI cC cJ) (QcRead (zs_un_w B a (S k) (zs_pw 2 (S k)))) 0 0 (fun _ => False) := by
  refine zMet (by decide) (Nat.le_of_ble_eq_true rfl) ?_
  intro p e s m below meth c hx hb hr hg hown hlk hml hP hE ls hl
  have hl : lv_has ls 4 [(0, .ref (h 0)), (1, .int (nI a)), (2, .int (nI k))] := hl
  have hS9 : CallFix p m c b_SF_unwrapped 4 s [.ref (h 0), .int (nI a), .int (nI k)].toArray zg "SealedFiles" := ⟨hx, hb, hml, hown, hg⟩
  have hP : va_P D zcl [((h 0), .inr (1, [.ref (h 1), .ref (h 3), .ref (h 5), .ref (h 7), .ref (h 9), .int rp])), ((h 1), .inr (0, [.ref (h 2), .int (nI n0)])), ((h 2), .inl (cI, 4, .inl f0)), ((h 3), .inr (0, [.ref (h 4), .int (nI n1)])), ((h 4), .inl (cI, 4, .inl f1)), ((h 5), .inr (0, [.ref (h 6), .int (nI n2)])), ((h 6), .inl (cI, 40, .inl f2)), ((h 7), .inr (0, [.ref (h 8), .int (nI n3)])), ((h 8), .inl (cI, 120, .inl f3)), ((h 9), .inr (0, [.ref (h 10), .int (nI n4)])), ((h 10), .inl (cI, 160, .inl f4))] s.heap := hP
  refine lv_aload_n hx hb d_SF_unwrapped_0 rfl (lv_at hl 0 rfl) ?_
  refine va_get (D := D) (ci := 1) (v := .ref (h 7)) (C := R_SF) (T := F_SF) (N := 6) hx hb hg i_SF hown hE.1 hP 0 rfl rfl 3 (by decide) (hg _ zw_43) (fun _ h9 => h9) rfl d_SF_unwrapped_1 ?_
  refine lv_iload_n hx hb d_SF_unwrapped_4 rfl (lv_at hl 1 rfl) ?_
  refine lv_iconst (v := (nI 2)) hx hb d_SF_unwrapped_5 (by decide) ?_
  refine lv_iadd hx hb d_SF_unwrapped_6 ?_
  refine ztop (y := nI (a + 2)) (nI_add a 2) ?_
  refine zRd (rest := []) (zrVN hS9 (c_RW_pair l D cI cC cJ (h 7) (h 8) 120 n3 f3 (by omega) (by decide) (nI (a + 2))) zc_RW_pair (by decide) zw_412 zp_18 (by decide) (va_recv hE.1 hP (ci := 0) (q := (R_RW, F_RW, 2)) rfl (q0 := 7) rfl) (hP.sub [7, 8] rfl) hE rfl hl.1 rfl (Nat.le_of_ble_eq_true rfl) d_SF_unwrapped_7) ?_
  refine ztop (y := nI (zs_two B (a + 2))) (zs_pair_in hB (by omega) (by omega)) ?_
  refine lv_bipush (v := (nI 16)) hx hb d_SF_unwrapped_10 (by decide) ?_
  refine lv_ishl hx hb d_SF_unwrapped_12 ?_
  refine lv_aload_n hx hb d_SF_unwrapped_13 rfl (lv_at hl 0 rfl) ?_
  refine va_get (D := D) (ci := 1) (v := .ref (h 7)) (C := R_SF) (T := F_SF) (N := 6) hx hb hg i_SF hown hE.1 hP 0 rfl rfl 3 (by decide) (hg _ zw_43) (fun _ h9 => h9) rfl d_SF_unwrapped_14 ?_
  refine lv_iload_n hx hb d_SF_unwrapped_17 rfl (lv_at hl 1 rfl) ?_
  refine lv_iconst (v := (nI 4)) hx hb d_SF_unwrapped_18 (by decide) ?_
  refine lv_iadd hx hb d_SF_unwrapped_19 ?_
  refine ztop (y := nI (a + 4)) (nI_add a 4) ?_
  refine zRd (rest := [.int ((nI (zs_two B (a + 2))) <<< ((nI 16) &&& 31))]) (zrVN hS9 (c_RW_pair l D cI cC cJ (h 7) (h 8) 120 n3 f3 (by omega) (by decide) (nI (a + 4))) zc_RW_pair (by decide) zw_412 zp_18 (by decide) (va_recv hE.1 hP (ci := 0) (q := (R_RW, F_RW, 2)) rfl (q0 := 7) rfl) (hP.sub [7, 8] rfl) hE rfl hl.1 rfl (Nat.le_of_ble_eq_true rfl) d_SF_unwrapped_20) ?_
  refine ztop (y := nI (zs_two B (a + 4))) (zs_pair_in hB (by omega) (by omega)) ?_
  refine lv_ior hx hb d_SF_unwrapped_23 ?_
  refine lv_istore_n hx hb d_SF_unwrapped_24 rfl hl (by decide) (lv' := [(3, .int (((nI (zs_two B (a + 2))) <<< ((nI 16) &&& 31)) ||| (nI (zs_two B (a + 4))))), (0, .ref (h 0)), (1, .int (nI a)), (2, .int (nI k))]) rfl (fun ls hl => ?_)
  refine lv_iload_n hx hb d_SF_unwrapped_25 rfl (lv_at hl 0 rfl) ?_
  refine lv_aload_n hx hb d_SF_unwrapped_26 rfl (lv_at hl 1 rfl) ?_
  refine lv_iload_n hx hb d_SF_unwrapped_27 rfl (lv_at hl 2 rfl) ?_
  refine lv_iload_n hx hb d_SF_unwrapped_28 rfl (lv_at hl 3 rfl) ?_
  refine zRd (rest := [.int (((nI (zs_two B (a + 2))) <<< ((nI 16) &&& 31)) ||| (nI (zs_two B (a + 4))))]) (zrV hS9 (c_SF_agreed l D cI cC cJ h n0 n1 n2 n3 n4 f0 f1 f2 f3 f4 rp hn0 hn1 hn2 hn3 hn4 B hB S hS0 hA0 hn01 a k (by omega) hk) zc_SF_agreed zw_406 zw_408 zp_17 (by decide) (va_recv hE.1 hP (ci := 1) (q := (R_SF, F_SF, 6)) rfl (q0 := 0) rfl) (hP) hE rfl hl.1 rfl (Nat.le_of_ble_eq_true rfl) d_SF_unwrapped_29) ?_
  refine lv_aload_n hx hb d_SF_unwrapped_32 rfl (lv_at hl 1 rfl) ?_
  refine va_get (D := D) (ci := 1) (v := .ref (h 3)) (C := R_SF) (T := F_SF) (N := 6) hx hb hg i_SF hown hE.1 hP 0 rfl rfl 1 (by decide) (hg _ zw_41) (fun _ h9 => h9) rfl d_SF_unwrapped_33 ?_
  refine lv_iload_n hx hb d_SF_unwrapped_36 rfl (lv_at hl 3 rfl) ?_
  refine zRd (rest := [.int (nI (zs_z B a (S k))), .int (((nI (zs_two B (a + 2))) <<< ((nI 16) &&& 31)) ||| (nI (zs_two B (a + 4))))]) (zrVN hS9 (c_RW_item l D cI cC cJ (h 3) (h 4) 4 n1 f1 (by omega) (by decide) (nI k)) zc_RW_item (by decide) zw_65 zp_0 (by decide) (va_recv hE.1 hP (ci := 0) (q := (R_RW, F_RW, 2)) rfl (q0 := 3) rfl) (hP.sub [3, 4] rfl) hE rfl hl.1 rfl (Nat.le_of_ble_eq_true rfl) d_SF_unwrapped_37) ?_
  refine ztop (y := nI (zs_pw 2 (S k))) ((zs_item_in (by omega) (by omega)).trans (hA0 k (by omega))) ?_
  refine lv_iconst (v := (nI 1)) hx hb d_SF_unwrapped_40 (by decide) ?_
  refine zRd (rest := [.int (((nI (zs_two B (a + 2))) <<< ((nI 16) &&& 31)) ||| (nI (zs_two B (a + 4))))]) (zrSN hS9 (c_NU_word l D cI cC cJ (nI (zs_z B a (S k))) (nI (zs_pw 2 (S k))) (nI 1)) zc_NU_word (by decide) zw_341 (by decide) (trivial) hE rfl hl.1 rfl (Nat.le_of_ble_eq_true rfl) d_SF_unwrapped_41) ?_
  refine lv_ixor hx hb d_SF_unwrapped_44 ?_
  exact W.iret (v := ((((nI (zs_two B (a + 2))) <<< ((nI 16) &&& 31)) ||| (nI (zs_two B (a + 4)))) ^^^ (zs_word (nI (zs_z B a (S k))) (nI (zs_pw 2 (S k))) (nI 1)))) hx hb hr (fun t ht _ => ⟨congrArg (fun z => Outcome.returned (some (Value.int z))) (rfl), ht⟩) t_nil d_SF_unwrapped_45

set_option maxHeartbeats 4000000 in
set_option maxRecDepth 100000 in
theorem c_SF_hasShape (l : Launch) (D : va_G) (cI cC cJ : ClassId) (h : Nat → Nat) (n0 n1 n2 n3 n4 : Nat) (f0 f1 f2 f3 f4 : Nat → Int32) (rp : Int32) (hn0 : n0 ≤ 4) (hn1 : n1 ≤ 4) (hn2 : n2 ≤ 40) (hn3 : n3 ≤ 120) (hn4 : n4 ≤ 160) (B : Nat → Nat) (hB : zs_hold 256 f3 (n3, B)) : Met l y_SF_hasShape (zw k_SF_hasShape) ({ frames := 3, cells := 0, slots := 0, locals := 62 }) (zPc [.ref (h 0)] (fun H => va_P D zcl (zSf cI h n0 n1 n2 n3 n4 f0 f1 f2 f3 f4 rp) H) D cI cC cJ) (QcRead (nI (zs_sh n3 B))) 0 0 (fun _ => False) := by
  refine zMet (by decide) (Nat.le_of_ble_eq_true rfl) ?_
  intro p e s m below meth c hx hb hr hg hown hlk hml hP hE ls hl
  have hl : lv_has ls 1 [(0, .ref (h 0))] := hl
  have hS9 : CallFix p m c b_SF_hasShape 1 s [.ref (h 0)].toArray zg "SealedFiles" := ⟨hx, hb, hml, hown, hg⟩
  have hP : va_P D zcl [((h 0), .inr (1, [.ref (h 1), .ref (h 3), .ref (h 5), .ref (h 7), .ref (h 9), .int rp])), ((h 1), .inr (0, [.ref (h 2), .int (nI n0)])), ((h 2), .inl (cI, 4, .inl f0)), ((h 3), .inr (0, [.ref (h 4), .int (nI n1)])), ((h 4), .inl (cI, 4, .inl f1)), ((h 5), .inr (0, [.ref (h 6), .int (nI n2)])), ((h 6), .inl (cI, 40, .inl f2)), ((h 7), .inr (0, [.ref (h 8), .int (nI n3)])), ((h 8), .inl (cI, 120, .inl f3)), ((h 9), .inr (0, [.ref (h 10), .int (nI n4)])), ((h 10), .inl (cI, 160, .inl f4))] s.heap := hP
  refine lv_aload_n hx hb d_SF_hasShape_0 rfl (lv_at hl 0 rfl) ?_
  refine va_get (D := D) (ci := 1) (v := .ref (h 7)) (C := R_SF) (T := F_SF) (N := 6) hx hb hg i_SF hown hE.1 hP 0 rfl rfl 3 (by decide) (hg _ zw_43) (fun _ h9 => h9) rfl d_SF_hasShape_1 ?_
  refine lv_iconst (v := (nI 0)) hx hb d_SF_hasShape_4 (by decide) ?_
  refine zRd (rest := []) (zrVN hS9 (c_RW_item l D cI cC cJ (h 7) (h 8) 120 n3 f3 (by omega) (by decide) (nI 0)) zc_RW_item (by decide) zw_65 zp_0 (by decide) (va_recv hE.1 hP (ci := 0) (q := (R_RW, F_RW, 2)) rfl (q0 := 7) rfl) (hP.sub [7, 8] rfl) hE rfl hl.1 rfl (Nat.le_of_ble_eq_true rfl) d_SF_hasShape_5) ?_
  refine lv_bipush (v := (nI 83)) hx hb d_SF_hasShape_8 (by decide) ?_
  by_cases g0 : n3 = 0
  · refine lv_icmp_ne hx hb d_SF_hasShape_10 (tgt := 57) (by decide) (fun _ => ?_) (fun z9 => absurd z9 (by rw [zs_item_out (by omega) (by omega)]; decide))
    refine lv_iconst (v := (nI 0)) hx hb d_SF_hasShape_57 (by decide) ?_
    exact W.zret (v := (nI 0)) hx hb hr (rfl) (fun t ht _ => ⟨congrArg (fun z => Outcome.returned (some (Value.int z))) (by rw [zs_sh, if_neg (by omega)]), ht⟩) t_nil d_SF_hasShape_58
  · have e0 : zs_item n3 f3 (nI 0) = nI (B 0) := (zs_item_in (by omega) (by omega)).trans (hB 0 (show 0 < n3 by omega)).1
    have l0 : B 0 < 256 := (hB 0 (show 0 < n3 by omega)).2
    by_cases g1 : B 0 = 83
    · refine lv_icmp_ne hx hb d_SF_hasShape_10 (tgt := 57) (by decide) (fun z9 => absurd (by rw [e0, g1]) z9) (fun _ => ?_)
      refine lv_aload_n hx hb d_SF_hasShape_13 rfl (lv_at hl 0 rfl) ?_
      refine va_get (D := D) (ci := 1) (v := .ref (h 7)) (C := R_SF) (T := F_SF) (N := 6) hx hb hg i_SF hown hE.1 hP 0 rfl rfl 3 (by decide) (hg _ zw_43) (fun _ h9 => h9) rfl d_SF_hasShape_14 ?_
      refine lv_iconst (v := (nI 1)) hx hb d_SF_hasShape_17 (by decide) ?_
      refine zRd (rest := []) (zrVN hS9 (c_RW_item l D cI cC cJ (h 7) (h 8) 120 n3 f3 (by omega) (by decide) (nI 1)) zc_RW_item (by decide) zw_65 zp_0 (by decide) (va_recv hE.1 hP (ci := 0) (q := (R_RW, F_RW, 2)) rfl (q0 := 7) rfl) (hP.sub [7, 8] rfl) hE rfl hl.1 rfl (Nat.le_of_ble_eq_true rfl) d_SF_hasShape_18) ?_
      refine lv_iconst (v := (nI 1)) hx hb d_SF_hasShape_21 (by decide) ?_
      by_cases g2 : n3 = 1
      · refine lv_icmp_lt hx hb d_SF_hasShape_22 (tgt := 57) (by decide) (fun _ => ?_) (fun z9 => absurd (by rw [zs_item_out (by omega) (by omega)]; decide) z9)
        refine lv_iconst (v := (nI 0)) hx hb d_SF_hasShape_57 (by decide) ?_
        exact W.zret (v := (nI 0)) hx hb hr (rfl) (fun t ht _ => ⟨congrArg (fun z => Outcome.returned (some (Value.int z))) (by rw [zs_sh, if_neg (by omega)]), ht⟩) t_nil d_SF_hasShape_58
      · have e1 : zs_item n3 f3 (nI 1) = nI (B 1) := (zs_item_in (by omega) (by omega)).trans (hB 1 (show 1 < n3 by omega)).1
        have l1 : B 1 < 256 := (hB 1 (show 1 < n3 by omega)).2
        by_cases g3 : 1 ≤ B 1
        · refine lv_icmp_lt hx hb d_SF_hasShape_22 (tgt := 57) (by decide) (fun z9 => absurd z9 (by rw [e1]; exact nI_nlt (by omega) (by omega))) (fun _ => ?_)
          refine lv_aload_n hx hb d_SF_hasShape_25 rfl (lv_at hl 0 rfl) ?_
          refine va_get (D := D) (ci := 1) (v := .ref (h 7)) (C := R_SF) (T := F_SF) (N := 6) hx hb hg i_SF hown hE.1 hP 0 rfl rfl 3 (by decide) (hg _ zw_43) (fun _ h9 => h9) rfl d_SF_hasShape_26 ?_
          refine lv_iconst (v := (nI 1)) hx hb d_SF_hasShape_29 (by decide) ?_
          refine zRd (rest := []) (zrVN hS9 (c_RW_item l D cI cC cJ (h 7) (h 8) 120 n3 f3 (by omega) (by decide) (nI 1)) zc_RW_item (by decide) zw_65 zp_0 (by decide) (va_recv hE.1 hP (ci := 0) (q := (R_RW, F_RW, 2)) rfl (q0 := 7) rfl) (hP.sub [7, 8] rfl) hE rfl hl.1 rfl (Nat.le_of_ble_eq_true rfl) d_SF_hasShape_30) ?_
          refine lv_iconst (v := (nI 3)) hx hb d_SF_hasShape_33 (by decide) ?_
          by_cases g4 : B 1 ≤ 3
          · refine lv_icmp_gt hx hb d_SF_hasShape_34 (tgt := 57) (by decide) (fun z9 => absurd z9 (by rw [e1]; exact nI_nlt (by omega) (by omega))) (fun _ => ?_)
            refine lv_aload_n hx hb d_SF_hasShape_37 rfl (lv_at hl 0 rfl) ?_
            refine va_get (D := D) (ci := 1) (v := .ref (h 7)) (C := R_SF) (T := F_SF) (N := 6) hx hb hg i_SF hown hE.1 hP 0 rfl rfl 3 (by decide) (hg _ zw_43) (fun _ h9 => h9) rfl d_SF_hasShape_38 ?_
            refine zRd (rest := []) (zrVN hS9 (c_RW_size l D cI cC cJ (h 7) (h 8) 120 n3 f3 (by omega) (by decide)) zc_RW_size (by decide) zw_85 zp_3 (by decide) (va_recv hE.1 hP (ci := 0) (q := (R_RW, F_RW, 2)) rfl (q0 := 7) rfl) (hP.sub [7, 8] rfl) hE rfl hl.1 rfl (Nat.le_of_ble_eq_true rfl) d_SF_hasShape_41) ?_
            refine lv_aload_n hx hb d_SF_hasShape_44 rfl (lv_at hl 0 rfl) ?_
            refine zRd (rest := [.int (nI n3)]) (zrV hS9 (c_SF_entriesEnd l D cI cC cJ h n0 n1 n2 n3 n4 f0 f1 f2 f3 f4 rp hn0 hn1 hn2 hn3 hn4 B hB (by omega)) zc_SF_entriesEnd zw_398 zw_400 zp_15 (by decide) (va_recv hE.1 hP (ci := 1) (q := (R_SF, F_SF, 6)) rfl (q0 := 0) rfl) (hP) hE rfl hl.1 rfl (Nat.le_of_ble_eq_true rfl) d_SF_hasShape_45) ?_
            refine lv_iconst (v := (nI 4)) hx hb d_SF_hasShape_48 (by decide) ?_
            refine lv_iadd hx hb d_SF_hasShape_49 ?_
            refine ztop (y := nI (2 + B 1 * 8 + 4)) (nI_add _ _) ?_
            by_cases g5 : 6 + B 1 * 8 ≤ n3
            · refine lv_icmp_lt hx hb d_SF_hasShape_50 (tgt := 57) (by decide) (fun z9 => absurd z9 (nI_nlt (by omega) (by omega))) (fun _ => ?_)
              refine lv_iconst (v := (nI 1)) hx hb d_SF_hasShape_53 (by decide) ?_
              refine lv_goto hx hb d_SF_hasShape_54 (tgt := 58) (by decide) ?_
              exact W.zret (v := (nI 1)) hx hb hr (rfl) (fun t ht _ => ⟨congrArg (fun z => Outcome.returned (some (Value.int z))) (by rw [zs_sh, if_pos (by omega)]), ht⟩) t_nil d_SF_hasShape_58
            · refine lv_icmp_lt hx hb d_SF_hasShape_50 (tgt := 57) (by decide) (fun _ => ?_) (fun z9 => absurd (nI_lt (by omega) (by omega)) z9)
              refine lv_iconst (v := (nI 0)) hx hb d_SF_hasShape_57 (by decide) ?_
              exact W.zret (v := (nI 0)) hx hb hr (rfl) (fun t ht _ => ⟨congrArg (fun z => Outcome.returned (some (Value.int z))) (by rw [zs_sh, if_neg (by omega)]), ht⟩) t_nil d_SF_hasShape_58
          · refine lv_icmp_gt hx hb d_SF_hasShape_34 (tgt := 57) (by decide) (fun _ => ?_) (fun z9 => absurd (by rw [e1]; exact nI_lt (by omega) (by omega)) z9)
            refine lv_iconst (v := (nI 0)) hx hb d_SF_hasShape_57 (by decide) ?_
            exact W.zret (v := (nI 0)) hx hb hr (rfl) (fun t ht _ => ⟨congrArg (fun z => Outcome.returned (some (Value.int z))) (by rw [zs_sh, if_neg (by omega)]), ht⟩) t_nil d_SF_hasShape_58
        · refine lv_icmp_lt hx hb d_SF_hasShape_22 (tgt := 57) (by decide) (fun _ => ?_) (fun z9 => absurd (by rw [e1]; exact nI_lt (by omega) (by omega)) z9)
          refine lv_iconst (v := (nI 0)) hx hb d_SF_hasShape_57 (by decide) ?_
          exact W.zret (v := (nI 0)) hx hb hr (rfl) (fun t ht _ => ⟨congrArg (fun z => Outcome.returned (some (Value.int z))) (by rw [zs_sh, if_neg (by omega)]), ht⟩) t_nil d_SF_hasShape_58
    · refine lv_icmp_ne hx hb d_SF_hasShape_10 (tgt := 57) (by decide) (fun _ => ?_) (fun z9 => absurd z9 (by rw [e0]; exact fun z => g1 ((nI_eq (by omega) (by omega)).mp z)))
      refine lv_iconst (v := (nI 0)) hx hb d_SF_hasShape_57 (by decide) ?_
      exact W.zret (v := (nI 0)) hx hb hr (rfl) (fun t ht _ => ⟨congrArg (fun z => Outcome.returned (some (Value.int z))) (by rw [zs_sh, if_neg (by omega)]), ht⟩) t_nil d_SF_hasShape_58
end
section
def zs_inj (h : Nat → Nat) : Prop := ∀ i j, i < 11 → j < 11 → h i = h j → i = j
def zAS (h : Nat → Nat) : Nat → Prop := fun q => ∃ i, i < 11 ∧ q = h i
theorem zSf_a {cI : ClassId} {h : Nat → Nat} {n0 n1 n2 n3 n4 : Nat} {f0 f1 f2 f3 f4 : Nat → Int32} {rp : Int32} : ∀ (k : Nat) (q : Nat × va_E), (zSf cI h n0 n1 n2 n3 n4 f0 f1 f2 f3 f4 rp)[k]? = some q → k < 11 ∧ q.1 = h k := by
  intro k q hk
  match k with
  | 0 | 1 | 2 | 3 | 4 | 5 | 6 | 7 | 8 | 9 | 10 => cases hk; exact ⟨by decide, rfl⟩
  | k + 11 => cases hk
theorem zSf_D {cI : ClassId} {h : Nat → Nat} {n0 n1 n2 n3 n4 : Nat} {f0 f1 f2 f3 f4 : Nat → Int32} {rp : Int32} (hh : zs_inj h) : va_D (zAS h) (zSf cI h n0 n1 n2 n3 n4 f0 f1 f2 f3 f4 rp) := by
  refine ⟨fun i j p q hi hj e => ?_, fun k q hk => ⟨k, (zSf_a k q hk).1, (zSf_a k q hk).2⟩⟩
  obtain ⟨a1, a2⟩ := zSf_a i p hi
  obtain ⟨b1, b2⟩ := zSf_a j q hj
  exact hh i j a1 b1 (a2.symm.trans (e.trans b2))
set_option maxHeartbeats 4000000 in
set_option maxRecDepth 100000 in
theorem c_SF_appendEntry (l : Launch) (D : va_G) (cI cC cJ : ClassId) (h : Nat → Nat) (n0 n1 n2 n3 n4 : Nat) (f0 f1 f2 f3 f4 : Nat → Int32) (rp : Int32) (hn0 : n0 ≤ 4) (hn1 : n1 ≤ 4) (hn2 : n2 ≤ 40) (hn3 : n3 ≤ 120) (hn4 : n4 ≤ 160) (hh : zs_inj h) (B : Nat → Nat) (hB : zs_hold 256 f3 (n3, B)) (ad e0 : Nat) (f : Int32) (had : ad < 32749) (he0 : e0 < 2 ^ 15) (hr9 : n3 + 8 ≤ 120) : Met l y_SF_appendEntry (zw k_SF_appendEntry) ({ frames := 4, cells := 0, slots := 0, locals := 93 }) (zPc [.ref (h 0), .int (nI ad), .int f, .int (nI e0)] (fun H => va_P D zcl (zSf cI h n0 n1 n2 n3 n4 f0 f1 f2 f3 f4 rp) H) D cI cC cJ) (zQm none (fun H => ∃ f3' : Nat → Int32, zs_hold 256 f3' (zs_entry (n3, B) ad f e0) ∧ va_P D zcl (zSf cI h n0 n1 n2 (n3 + 8) n4 f0 f1 f2 (f3') f4 rp) H) (zAS h)) 0 0 (zAS h) := by
  refine zMet (by decide) (Nat.le_of_ble_eq_true rfl) ?_
  intro p e s m below meth c hx hb hr hg hown hlk hml hP hE ls hl
  have hl : lv_has ls 7 [(0, .ref (h 0)), (1, .int (nI ad)), (2, .int f), (3, .int (nI e0))] := hl
  have hS9 : CallFix p m c b_SF_appendEntry 7 s [.ref (h 0), .int (nI ad), .int f, .int (nI e0)].toArray zg "SealedFiles" := ⟨hx, hb, hml, hown, hg⟩
  have hP : va_P D zcl [((h 0), .inr (1, [.ref (h 1), .ref (h 3), .ref (h 5), .ref (h 7), .ref (h 9), .int rp])), ((h 1), .inr (0, [.ref (h 2), .int (nI n0)])), ((h 2), .inl (cI, 4, .inl f0)), ((h 3), .inr (0, [.ref (h 4), .int (nI n1)])), ((h 4), .inl (cI, 4, .inl f1)), ((h 5), .inr (0, [.ref (h 6), .int (nI n2)])), ((h 6), .inl (cI, 40, .inl f2)), ((h 7), .inr (0, [.ref (h 8), .int (nI n3)])), ((h 8), .inl (cI, 120, .inl f3)), ((h 9), .inr (0, [.ref (h 10), .int (nI n4)])), ((h 10), .inl (cI, 160, .inl f4))] s.heap := hP
  have hD : va_D (zAS h) [((h 0), .inr (1, [.ref (h 1), .ref (h 3), .ref (h 5), .ref (h 7), .ref (h 9), .int rp])), ((h 1), .inr (0, [.ref (h 2), .int (nI n0)])), ((h 2), .inl (cI, 4, .inl f0)), ((h 3), .inr (0, [.ref (h 4), .int (nI n1)])), ((h 4), .inl (cI, 4, .inl f1)), ((h 5), .inr (0, [.ref (h 6), .int (nI n2)])), ((h 6), .inl (cI, 40, .inl f2)), ((h 7), .inr (0, [.ref (h 8), .int (nI n3)])), ((h 8), .inl (cI, 120, .inl f3)), ((h 9), .inr (0, [.ref (h 10), .int (nI n4)])), ((h 10), .inl (cI, 160, .inl f4))] := zSf_D hh
  have hS : va_S (zAS h) s.heap s.heap [] := va_S.rf
  refine lv_aload_n hx hb d_SF_appendEntry_0 rfl (lv_at hl 0 rfl) ?_
  refine va_get (D := D) (ci := 1) (v := .ref (h 7)) (C := R_SF) (T := F_SF) (N := 6) hx hb hg i_SF hown hE.1 hP 0 rfl rfl 3 (by decide) (hg _ zw_43) (fun _ h9 => h9) rfl d_SF_appendEntry_1 ?_
  refine zRd (rest := []) (zrVN hS9 (c_RW_size l D cI cC cJ (h 7) (h 8) 120 n3 f3 (by omega) (by decide)) zc_RW_size (by decide) zw_85 zp_3 (by decide) (va_recv hE.1 hP (ci := 0) (q := (R_RW, F_RW, 2)) rfl (q0 := 7) rfl) (hP.sub [7, 8] rfl) hE rfl hl.1 rfl (Nat.le_of_ble_eq_true rfl) d_SF_appendEntry_4) ?_
  refine lv_istore hx hb d_SF_appendEntry_7 hl (by decide) (lv' := [(4, .int (nI n3)), (0, .ref (h 0)), (1, .int (nI ad)), (2, .int f), (3, .int (nI e0))]) rfl (fun ls hl => ?_)
  refine lv_iload_n hx hb d_SF_appendEntry_9 rfl (lv_at hl 2 rfl) ?_
  refine lv_iload_n hx hb d_SF_appendEntry_10 rfl (lv_at hl 4 rfl) ?_
  refine zRd (rest := []) (zrSN hS9 (c_NU_power l D cI cC cJ ad e0 (by omega) he0) zc_NU_power (by decide) zw_317 (by decide) (trivial) hE rfl hl.1 rfl (Nat.le_of_ble_eq_true rfl) d_SF_appendEntry_11) ?_
  refine lv_istore hx hb d_SF_appendEntry_14 hl (by decide) (lv' := [(5, .int (nI (zs_pw ad e0))), (4, .int (nI n3)), (0, .ref (h 0)), (1, .int (nI ad)), (2, .int f), (3, .int (nI e0))]) rfl (fun ls hl => ?_)
  refine lv_iload_n hx hb d_SF_appendEntry_16 rfl (lv_at hl 4 rfl) ?_
  refine lv_iload hx hb d_SF_appendEntry_17 (lv_at hl 0 rfl) ?_
  refine lv_iload_n hx hb d_SF_appendEntry_19 rfl (lv_at hl 3 rfl) ?_
  refine lv_iconst (v := (nI 1)) hx hb d_SF_appendEntry_20 (by decide) ?_
  refine zRd (rest := [.int f]) (zrSN hS9 (c_NU_word l D cI cC cJ (nI (zs_pw ad e0)) (nI ad) (nI 1)) zc_NU_word (by decide) zw_341 (by decide) (trivial) hE rfl hl.1 rfl (Nat.le_of_ble_eq_true rfl) d_SF_appendEntry_21) ?_
  refine lv_ixor hx hb d_SF_appendEntry_24 ?_
  refine ztop (y := zs_wrap f (zs_pw ad e0) ad) (rfl) ?_
  refine lv_istore hx hb d_SF_appendEntry_25 hl (by decide) (lv' := [(6, .int (zs_wrap f (zs_pw ad e0) ad)), (5, .int (nI (zs_pw ad e0))), (4, .int (nI n3)), (0, .ref (h 0)), (1, .int (nI ad)), (2, .int f), (3, .int (nI e0))]) rfl (fun ls hl => ?_)
  refine lv_aload_n hx hb d_SF_appendEntry_27 rfl (lv_at hl 3 rfl) ?_
  refine va_get (D := D) (ci := 1) (v := .ref (h 7)) (C := R_SF) (T := F_SF) (N := 6) hx hb hg i_SF hown hE.1 hP 0 rfl rfl 3 (by decide) (hg _ zw_43) (fun _ h9 => h9) rfl d_SF_appendEntry_28 ?_
  refine lv_iconst (v := (nI 2)) hx hb d_SF_appendEntry_31 (by decide) ?_
  refine lv_iload_n hx hb d_SF_appendEntry_32 rfl (lv_at hl 6 rfl) ?_
  refine zRd (rest := [.ref (h 7)]) (zrSN hS9 (c_NU_power l D cI cC cJ 2 e0 (by decide) he0) zc_NU_power (by decide) zw_317 (by decide) (trivial) hE rfl hl.1 rfl (Nat.le_of_ble_eq_true rfl) d_SF_appendEntry_33) ?_
  have hB : zs_hold 256 f3 (n3, B) := hB
  have w9 := zs_un_lt (zs_wrap f (zs_pw ad e0) ad)
  refine zWr (rest := []) (zrVN hS9 (c_RW_pairN l D cI cC cJ (h 7) (h 8) 120 n3 f3 (by omega) (by decide) (fun z => absurd (hh 7 8 (by decide) (by decide) z) (by decide)) (zs_pw 2 e0) (by have := zs_pw_lt 2 e0; omega) (by omega)) zc_RW_appendPair (by decide) zw_354 zp_8 (by decide) (va_recv hE.1 hP (ci := 0) (q := (R_RW, F_RW, 2)) rfl (q0 := 7) rfl) (hP.sub [7, 8] rfl) hE rfl hl.1 rfl (Nat.le_of_ble_eq_true rfl) d_SF_appendEntry_36) hS (fun q _ h => zA2_in hD 7 8 rfl rfl q h) (fun q h => zA2_in hD 7 8 rfl rfl q h) (fun H locs hB1 hz hk hS => ?_)
  obtain ⟨hP, hD⟩ := zrow hP hD 7 8 rfl rfl (by decide) hk hB1
  have hP : va_P D zcl [((h 0), .inr (1, [.ref (h 1), .ref (h 3), .ref (h 5), .ref (h 7), .ref (h 9), .int rp])), ((h 1), .inr (0, [.ref (h 2), .int (nI n0)])), ((h 2), .inl (cI, 4, .inl f0)), ((h 3), .inr (0, [.ref (h 4), .int (nI n1)])), ((h 4), .inl (cI, 4, .inl f1)), ((h 5), .inr (0, [.ref (h 6), .int (nI n2)])), ((h 6), .inl (cI, 40, .inl f2)), ((h 7), .inr (0, [.ref (h 8), .int (nI (n3 + 2))])), ((h 8), .inl (cI, 120, .inl (upd (upd f3 n3 (nI ((zs_pw 2 e0) / 256))) (n3 + 1) (nI ((zs_pw 2 e0) % 256))))), ((h 9), .inr (0, [.ref (h 10), .int (nI n4)])), ((h 10), .inl (cI, 160, .inl f4))] H := hP
  have hD : va_D (zAS h) [((h 0), .inr (1, [.ref (h 1), .ref (h 3), .ref (h 5), .ref (h 7), .ref (h 9), .int rp])), ((h 1), .inr (0, [.ref (h 2), .int (nI n0)])), ((h 2), .inl (cI, 4, .inl f0)), ((h 3), .inr (0, [.ref (h 4), .int (nI n1)])), ((h 4), .inl (cI, 4, .inl f1)), ((h 5), .inr (0, [.ref (h 6), .int (nI n2)])), ((h 6), .inl (cI, 40, .inl f2)), ((h 7), .inr (0, [.ref (h 8), .int (nI (n3 + 2))])), ((h 8), .inl (cI, 120, .inl (upd (upd f3 n3 (nI ((zs_pw 2 e0) / 256))) (n3 + 1) (nI ((zs_pw 2 e0) % 256))))), ((h 9), .inr (0, [.ref (h 10), .int (nI n4)])), ((h 10), .inl (cI, 160, .inl f4))] := hD
  have hB := zs_hold_pair (v := zs_pw 2 e0) hB (by have := zs_pw_lt 2 e0; omega)
  have hB : zs_hold 256 (upd (upd f3 n3 (nI ((zs_pw 2 e0) / 256))) (n3 + 1) (nI ((zs_pw 2 e0) % 256))) (zs_pair (n3, B) (zs_pw 2 e0)) := hB
  generalize (upd (upd f3 n3 (nI ((zs_pw 2 e0) / 256))) (n3 + 1) (nI ((zs_pw 2 e0) % 256))) = f31 at hP hD hB
  refine lv_aload_n hx hb d_SF_appendEntry_39 rfl (lv_at hl 3 rfl) ?_
  refine va_get (D := D) (ci := 1) (v := .ref (h 7)) (C := R_SF) (T := F_SF) (N := 6) hx hb hg i_SF hown hE.1 hP 0 rfl rfl 3 (by decide) (hg _ zw_43) (fun _ h9 => h9) rfl d_SF_appendEntry_40 ?_
  refine lv_iload hx hb d_SF_appendEntry_43 (lv_at hl 0 rfl) ?_
  refine lv_bipush (v := (nI 16)) hx hb d_SF_appendEntry_45 (by decide) ?_
  refine lv_iushr (v := zs_u (zs_wrap f (zs_pw ad e0) ad) (nI 16)) hx hb d_SF_appendEntry_47 rfl ?_
  refine ztop (y := nI (zs_un (zs_wrap f (zs_pw ad e0) ad) / 2 ^ 16)) (zs_u_un _ (by decide)) ?_
  refine zWr (rest := []) (zrVN hS9 (c_RW_pairN l D cI cC cJ (h 7) (h 8) 120 (n3 + 2) f31 (by omega) (by decide) (fun z => absurd (hh 7 8 (by decide) (by decide) z) (by decide)) (zs_un (zs_wrap f (zs_pw ad e0) ad) / 2 ^ 16) (by omega) (by omega)) zc_RW_appendPair (by decide) zw_354 zp_8 (by decide) (va_recv hE.1 hP (ci := 0) (q := (R_RW, F_RW, 2)) rfl (q0 := 7) rfl) (hP.sub [7, 8] rfl) hE rfl hl.1 rfl (Nat.le_of_ble_eq_true rfl) d_SF_appendEntry_48) hS (fun q _ h => zA2_in hD 7 8 rfl rfl q h) (fun q h => zA2_in hD 7 8 rfl rfl q h) (fun H locs hB1 hz hk hS => ?_)
  obtain ⟨hP, hD⟩ := zrow hP hD 7 8 rfl rfl (by decide) hk hB1
  have hP : va_P D zcl [((h 0), .inr (1, [.ref (h 1), .ref (h 3), .ref (h 5), .ref (h 7), .ref (h 9), .int rp])), ((h 1), .inr (0, [.ref (h 2), .int (nI n0)])), ((h 2), .inl (cI, 4, .inl f0)), ((h 3), .inr (0, [.ref (h 4), .int (nI n1)])), ((h 4), .inl (cI, 4, .inl f1)), ((h 5), .inr (0, [.ref (h 6), .int (nI n2)])), ((h 6), .inl (cI, 40, .inl f2)), ((h 7), .inr (0, [.ref (h 8), .int (nI (n3 + 4))])), ((h 8), .inl (cI, 120, .inl (upd (upd f31 (n3 + 2) (nI ((zs_un (zs_wrap f (zs_pw ad e0) ad) / 2 ^ 16) / 256))) (n3 + 2 + 1) (nI ((zs_un (zs_wrap f (zs_pw ad e0) ad) / 2 ^ 16) % 256))))), ((h 9), .inr (0, [.ref (h 10), .int (nI n4)])), ((h 10), .inl (cI, 160, .inl f4))] H := hP
  have hD : va_D (zAS h) [((h 0), .inr (1, [.ref (h 1), .ref (h 3), .ref (h 5), .ref (h 7), .ref (h 9), .int rp])), ((h 1), .inr (0, [.ref (h 2), .int (nI n0)])), ((h 2), .inl (cI, 4, .inl f0)), ((h 3), .inr (0, [.ref (h 4), .int (nI n1)])), ((h 4), .inl (cI, 4, .inl f1)), ((h 5), .inr (0, [.ref (h 6), .int (nI n2)])), ((h 6), .inl (cI, 40, .inl f2)), ((h 7), .inr (0, [.ref (h 8), .int (nI (n3 + 4))])), ((h 8), .inl (cI, 120, .inl (upd (upd f31 (n3 + 2) (nI ((zs_un (zs_wrap f (zs_pw ad e0) ad) / 2 ^ 16) / 256))) (n3 + 2 + 1) (nI ((zs_un (zs_wrap f (zs_pw ad e0) ad) / 2 ^ 16) % 256))))), ((h 9), .inr (0, [.ref (h 10), .int (nI n4)])), ((h 10), .inl (cI, 160, .inl f4))] := hD
  have hB := zs_hold_pair (v := zs_un (zs_wrap f (zs_pw ad e0) ad) / 2 ^ 16) hB (by omega)
  have hB : zs_hold 256 (upd (upd f31 (n3 + 2) (nI ((zs_un (zs_wrap f (zs_pw ad e0) ad) / 2 ^ 16) / 256))) (n3 + 2 + 1) (nI ((zs_un (zs_wrap f (zs_pw ad e0) ad) / 2 ^ 16) % 256))) (zs_pair (zs_pair (n3, B) (zs_pw 2 e0)) (zs_un (zs_wrap f (zs_pw ad e0) ad) / 2 ^ 16)) := hB
  generalize (upd (upd f31 (n3 + 2) (nI ((zs_un (zs_wrap f (zs_pw ad e0) ad) / 2 ^ 16) / 256))) (n3 + 2 + 1) (nI ((zs_un (zs_wrap f (zs_pw ad e0) ad) / 2 ^ 16) % 256))) = f32 at hP hD hB
  refine lv_aload_n hx hb d_SF_appendEntry_51 rfl (lv_at hl 3 rfl) ?_
  refine va_get (D := D) (ci := 1) (v := .ref (h 7)) (C := R_SF) (T := F_SF) (N := 6) hx hb hg i_SF hown hE.1 hP 0 rfl rfl 3 (by decide) (hg _ zw_43) (fun _ h9 => h9) rfl d_SF_appendEntry_52 ?_
  refine lv_iload hx hb d_SF_appendEntry_55 (lv_at hl 0 rfl) ?_
  refine lv_ldc (v := (nI 65535)) hx hb hown (hg _ zw_357) d_SF_appendEntry_57 ?_
  refine lv_iand hx hb d_SF_appendEntry_59 ?_
  refine ztop (y := nI (zs_un (zs_wrap f (zs_pw ad e0) ad) % 2 ^ 16)) (zs_and _ 16 (by decide)) ?_
  refine zWr (rest := []) (zrVN hS9 (c_RW_pairN l D cI cC cJ (h 7) (h 8) 120 (n3 + 4) f32 (by omega) (by decide) (fun z => absurd (hh 7 8 (by decide) (by decide) z) (by decide)) (zs_un (zs_wrap f (zs_pw ad e0) ad) % 2 ^ 16) (by omega) (by omega)) zc_RW_appendPair (by decide) zw_354 zp_8 (by decide) (va_recv hE.1 hP (ci := 0) (q := (R_RW, F_RW, 2)) rfl (q0 := 7) rfl) (hP.sub [7, 8] rfl) hE rfl hl.1 rfl (Nat.le_of_ble_eq_true rfl) d_SF_appendEntry_60) hS (fun q _ h => zA2_in hD 7 8 rfl rfl q h) (fun q h => zA2_in hD 7 8 rfl rfl q h) (fun H locs hB1 hz hk hS => ?_)
  obtain ⟨hP, hD⟩ := zrow hP hD 7 8 rfl rfl (by decide) hk hB1
  have hP : va_P D zcl [((h 0), .inr (1, [.ref (h 1), .ref (h 3), .ref (h 5), .ref (h 7), .ref (h 9), .int rp])), ((h 1), .inr (0, [.ref (h 2), .int (nI n0)])), ((h 2), .inl (cI, 4, .inl f0)), ((h 3), .inr (0, [.ref (h 4), .int (nI n1)])), ((h 4), .inl (cI, 4, .inl f1)), ((h 5), .inr (0, [.ref (h 6), .int (nI n2)])), ((h 6), .inl (cI, 40, .inl f2)), ((h 7), .inr (0, [.ref (h 8), .int (nI (n3 + 6))])), ((h 8), .inl (cI, 120, .inl (upd (upd f32 (n3 + 4) (nI ((zs_un (zs_wrap f (zs_pw ad e0) ad) % 2 ^ 16) / 256))) (n3 + 4 + 1) (nI ((zs_un (zs_wrap f (zs_pw ad e0) ad) % 2 ^ 16) % 256))))), ((h 9), .inr (0, [.ref (h 10), .int (nI n4)])), ((h 10), .inl (cI, 160, .inl f4))] H := hP
  have hD : va_D (zAS h) [((h 0), .inr (1, [.ref (h 1), .ref (h 3), .ref (h 5), .ref (h 7), .ref (h 9), .int rp])), ((h 1), .inr (0, [.ref (h 2), .int (nI n0)])), ((h 2), .inl (cI, 4, .inl f0)), ((h 3), .inr (0, [.ref (h 4), .int (nI n1)])), ((h 4), .inl (cI, 4, .inl f1)), ((h 5), .inr (0, [.ref (h 6), .int (nI n2)])), ((h 6), .inl (cI, 40, .inl f2)), ((h 7), .inr (0, [.ref (h 8), .int (nI (n3 + 6))])), ((h 8), .inl (cI, 120, .inl (upd (upd f32 (n3 + 4) (nI ((zs_un (zs_wrap f (zs_pw ad e0) ad) % 2 ^ 16) / 256))) (n3 + 4 + 1) (nI ((zs_un (zs_wrap f (zs_pw ad e0) ad) % 2 ^ 16) % 256))))), ((h 9), .inr (0, [.ref (h 10), .int (nI n4)])), ((h 10), .inl (cI, 160, .inl f4))] := hD
  have hB := zs_hold_pair (v := zs_un (zs_wrap f (zs_pw ad e0) ad) % 2 ^ 16) hB (by omega)
  have hB : zs_hold 256 (upd (upd f32 (n3 + 4) (nI ((zs_un (zs_wrap f (zs_pw ad e0) ad) % 2 ^ 16) / 256))) (n3 + 4 + 1) (nI ((zs_un (zs_wrap f (zs_pw ad e0) ad) % 2 ^ 16) % 256))) (zs_pair (zs_pair (zs_pair (n3, B) (zs_pw 2 e0)) (zs_un (zs_wrap f (zs_pw ad e0) ad) / 2 ^ 16)) (zs_un (zs_wrap f (zs_pw ad e0) ad) % 2 ^ 16)) := hB
  generalize (upd (upd f32 (n3 + 4) (nI ((zs_un (zs_wrap f (zs_pw ad e0) ad) % 2 ^ 16) / 256))) (n3 + 4 + 1) (nI ((zs_un (zs_wrap f (zs_pw ad e0) ad) % 2 ^ 16) % 256))) = f33 at hP hD hB
  have hB : zs_hold 256 f33 (n3 + 6, (zs_ent3 (n3, B) ad f e0).2) := hB
  refine lv_aload_n hx hb d_SF_appendEntry_63 rfl (lv_at hl 3 rfl) ?_
  refine va_get (D := D) (ci := 1) (v := .ref (h 7)) (C := R_SF) (T := F_SF) (N := 6) hx hb hg i_SF hown hE.1 hP 0 rfl rfl 3 (by decide) (hg _ zw_43) (fun _ h9 => h9) rfl d_SF_appendEntry_64 ?_
  refine lv_aload_n hx hb d_SF_appendEntry_67 rfl (lv_at hl 3 rfl) ?_
  refine lv_iload hx hb d_SF_appendEntry_68 (lv_at hl 2 rfl) ?_
  refine lv_iload hx hb d_SF_appendEntry_70 (lv_at hl 1 rfl) ?_
  refine lv_iload_n hx hb d_SF_appendEntry_72 rfl (lv_at hl 4 rfl) ?_
  refine zRd (rest := [.ref (h 7)]) (zrV hS9 (c_SF_entrySign l D cI cC cJ h n0 n1 n2 (n3 + 6) n4 f0 f1 f2 f33 f4 rp (by omega) (by omega) (by omega) (by omega) (by omega) (zs_ent3 (n3, B) ad f e0).2 hB n3 (nI (zs_pw ad e0)) (nI ad) (by omega)) zc_SF_entrySign zw_358 zw_360 zp_9 (by decide) (va_recv hE.1 hP (ci := 1) (q := (R_SF, F_SF, 6)) rfl (q0 := 0) rfl) (hP) hE rfl hl.1 rfl (Nat.le_of_ble_eq_true rfl) d_SF_appendEntry_73) ?_
  refine zWr (rest := []) (zrVN hS9 (c_RW_pairN l D cI cC cJ (h 7) (h 8) 120 (n3 + 6) f33 (by omega) (by decide) (fun z => absurd (hh 7 8 (by decide) (by decide) z) (by decide)) (zs_sg (zs_ent3 (n3, B) ad f e0).2 n3 (n3 + 6) (zs_word (nI (zs_pw ad e0)) (nI ad) (nI 2))) (by have := zs_sg_lt (zs_ent3 (n3, B) ad f e0).2 n3 (n3 + 6) (zs_word (nI (zs_pw ad e0)) (nI ad) (nI 2)); omega) (by omega)) zc_RW_appendPair (by decide) zw_354 zp_8 (by decide) (va_recv hE.1 hP (ci := 0) (q := (R_RW, F_RW, 2)) rfl (q0 := 7) rfl) (hP.sub [7, 8] rfl) hE rfl hl.1 rfl (Nat.le_of_ble_eq_true rfl) d_SF_appendEntry_76) hS (fun q _ h => zA2_in hD 7 8 rfl rfl q h) (fun q h => zA2_in hD 7 8 rfl rfl q h) (fun H locs hB1 hz hk hS => ?_)
  obtain ⟨hP, hD⟩ := zrow hP hD 7 8 rfl rfl (by decide) hk hB1
  have hP : va_P D zcl [((h 0), .inr (1, [.ref (h 1), .ref (h 3), .ref (h 5), .ref (h 7), .ref (h 9), .int rp])), ((h 1), .inr (0, [.ref (h 2), .int (nI n0)])), ((h 2), .inl (cI, 4, .inl f0)), ((h 3), .inr (0, [.ref (h 4), .int (nI n1)])), ((h 4), .inl (cI, 4, .inl f1)), ((h 5), .inr (0, [.ref (h 6), .int (nI n2)])), ((h 6), .inl (cI, 40, .inl f2)), ((h 7), .inr (0, [.ref (h 8), .int (nI (n3 + 8))])), ((h 8), .inl (cI, 120, .inl (upd (upd f33 (n3 + 6) (nI ((zs_sg (zs_ent3 (n3, B) ad f e0).2 n3 (n3 + 6) (zs_word (nI (zs_pw ad e0)) (nI ad) (nI 2))) / 256))) (n3 + 6 + 1) (nI ((zs_sg (zs_ent3 (n3, B) ad f e0).2 n3 (n3 + 6) (zs_word (nI (zs_pw ad e0)) (nI ad) (nI 2))) % 256))))), ((h 9), .inr (0, [.ref (h 10), .int (nI n4)])), ((h 10), .inl (cI, 160, .inl f4))] H := hP
  have hD : va_D (zAS h) [((h 0), .inr (1, [.ref (h 1), .ref (h 3), .ref (h 5), .ref (h 7), .ref (h 9), .int rp])), ((h 1), .inr (0, [.ref (h 2), .int (nI n0)])), ((h 2), .inl (cI, 4, .inl f0)), ((h 3), .inr (0, [.ref (h 4), .int (nI n1)])), ((h 4), .inl (cI, 4, .inl f1)), ((h 5), .inr (0, [.ref (h 6), .int (nI n2)])), ((h 6), .inl (cI, 40, .inl f2)), ((h 7), .inr (0, [.ref (h 8), .int (nI (n3 + 8))])), ((h 8), .inl (cI, 120, .inl (upd (upd f33 (n3 + 6) (nI ((zs_sg (zs_ent3 (n3, B) ad f e0).2 n3 (n3 + 6) (zs_word (nI (zs_pw ad e0)) (nI ad) (nI 2))) / 256))) (n3 + 6 + 1) (nI ((zs_sg (zs_ent3 (n3, B) ad f e0).2 n3 (n3 + 6) (zs_word (nI (zs_pw ad e0)) (nI ad) (nI 2))) % 256))))), ((h 9), .inr (0, [.ref (h 10), .int (nI n4)])), ((h 10), .inl (cI, 160, .inl f4))] := hD
  have hB := zs_hold_pair (v := zs_sg (zs_ent3 (n3, B) ad f e0).2 n3 (n3 + 6) (zs_word (nI (zs_pw ad e0)) (nI ad) (nI 2))) hB (by have := zs_sg_lt (zs_ent3 (n3, B) ad f e0).2 n3 (n3 + 6) (zs_word (nI (zs_pw ad e0)) (nI ad) (nI 2)); omega)
  have hB : zs_hold 256 (upd (upd f33 (n3 + 6) (nI ((zs_sg (zs_ent3 (n3, B) ad f e0).2 n3 (n3 + 6) (zs_word (nI (zs_pw ad e0)) (nI ad) (nI 2))) / 256))) (n3 + 6 + 1) (nI ((zs_sg (zs_ent3 (n3, B) ad f e0).2 n3 (n3 + 6) (zs_word (nI (zs_pw ad e0)) (nI ad) (nI 2))) % 256))) (zs_pair (n3 + 6, (zs_ent3 (n3, B) ad f e0).2) (zs_sg (zs_ent3 (n3, B) ad f e0).2 n3 (n3 + 6) (zs_word (nI (zs_pw ad e0)) (nI ad) (nI 2)))) := hB
  generalize (upd (upd f33 (n3 + 6) (nI ((zs_sg (zs_ent3 (n3, B) ad f e0).2 n3 (n3 + 6) (zs_word (nI (zs_pw ad e0)) (nI ad) (nI 2))) / 256))) (n3 + 6 + 1) (nI ((zs_sg (zs_ent3 (n3, B) ad f e0).2 n3 (n3 + 6) (zs_word (nI (zs_pw ad e0)) (nI ad) (nI 2))) % 256))) = f34 at hP hD hB
  exact W.vret hx hb hr (fun t ht _ => ⟨rfl, by rw [ht]; exact ⟨f34, hB, hP⟩, hS.F ht⟩) hS.2.2 d_SF_appendEntry_79

set_option maxRecDepth 20000 in
theorem zk_MA_max : (Cond.code ⟨"java/lang/Math", "max", "(II)I"⟩ prog_11_method_65_code 2 (some .int)) ∈ zg := zg_in 219 rfl rfl
set_option maxRecDepth 20000 in
theorem zk_MA_min : (Cond.code ⟨"java/lang/Math", "min", "(II)I"⟩ prog_11_method_69_code 2 (some .int)) ∈ zg := zg_in 222 rfl rfl
set_option maxRecDepth 20000 in
theorem zk_IN_bitCount : (Cond.code ⟨"java/lang/Integer", "bitCount", "(I)I"⟩ prog_10_method_49_code 1 (some .int)) ∈ zg := zg_in 369 rfl rfl
theorem zs_max1 {n : Nat} (h : n < 2 ^ 30) : (if nI n - nI 1 < nI 0 then nI 0 else nI n - nI 1) = nI (n - 1) := by
  by_cases e : n = 0
  · subst e; decide
  · rw [pk_sub (by omega), if_neg (nI_nlt (by omega) (by omega))]
theorem zs_min8 {n : Nat} (h : n < 2 ^ 31) : (if nI 8 < nI n then nI 8 else nI n) = nI (min n 8) := by
  by_cases e : 8 < n
  · rw [if_pos (nI_lt e h), Nat.min_eq_right (by omega)]
  · rw [if_neg (nI_nlt (by omega) (by omega)), Nat.min_eq_left (by omega)]
set_option maxHeartbeats 4000000 in
set_option maxRecDepth 100000 in
theorem c_SF_appendPieces (l : Launch) (D : va_G) (cI cC cJ : ClassId) (h : Nat → Nat) (n0 n1 n2 n3 n4 : Nat) (f0 f1 f2 f3 f4 : Nat → Int32) (rp : Int32) (hn0 : n0 ≤ 4) (hn1 : n1 ≤ 4) (hn2 : n2 ≤ 40) (hn3 : n3 ≤ 120) (hn4 : n4 ≤ 160) (hh : zs_inj h) (B : Nat → Nat) (hB : zs_hold 256 f3 (n3, B)) (M : Nat → Nat) (hM : zs_hold 256 f2 (n2, M)) (f : Int32) (hr9 : n3 + 10 * ((n2 - 1) / 8 + 1) ≤ 120) : Met l y_SF_appendPieces (zw k_SF_appendPieces) ({ frames := 4, cells := 0, slots := 0, locals := 96 }) (zPc [.ref (h 0), .int f] (fun H => va_P D zcl (zSf cI h n0 n1 n2 n3 n4 f0 f1 f2 f3 f4 rp) H) D cI cC cJ) (zQm none (fun H => ∃ f3' : Nat → Int32, zs_hold 256 f3' (zs_pcs n2 M f ((n2 - 1) / 8) (n3, B) ((n2 - 1) / 8 + 1)) ∧ va_P D zcl (zSf cI h n0 n1 n2 ((zs_pcs n2 M f ((n2 - 1) / 8) (n3, B) ((n2 - 1) / 8 + 1)).1) n4 f0 f1 f2 (f3') f4 rp) H) (zAS h)) 0 0 (zAS h) := by
  refine zMet (by decide) (Nat.le_of_ble_eq_true rfl) ?_
  intro p e s m below meth c hx hb hr hg hown hlk hml hP hE ls hl
  have hl : lv_has ls 8 [(0, .ref (h 0)), (1, .int f)] := hl
  have hS9 : CallFix p m c b_SF_appendPieces 8 s [.ref (h 0), .int f].toArray zg "SealedFiles" := ⟨hx, hb, hml, hown, hg⟩
  have hP : va_P D zcl [((h 0), .inr (1, [.ref (h 1), .ref (h 3), .ref (h 5), .ref (h 7), .ref (h 9), .int rp])), ((h 1), .inr (0, [.ref (h 2), .int (nI n0)])), ((h 2), .inl (cI, 4, .inl f0)), ((h 3), .inr (0, [.ref (h 4), .int (nI n1)])), ((h 4), .inl (cI, 4, .inl f1)), ((h 5), .inr (0, [.ref (h 6), .int (nI n2)])), ((h 6), .inl (cI, 40, .inl f2)), ((h 7), .inr (0, [.ref (h 8), .int (nI n3)])), ((h 8), .inl (cI, 120, .inl f3)), ((h 9), .inr (0, [.ref (h 10), .int (nI n4)])), ((h 10), .inl (cI, 160, .inl f4))] s.heap := hP
  have hD : va_D (zAS h) [((h 0), .inr (1, [.ref (h 1), .ref (h 3), .ref (h 5), .ref (h 7), .ref (h 9), .int rp])), ((h 1), .inr (0, [.ref (h 2), .int (nI n0)])), ((h 2), .inl (cI, 4, .inl f0)), ((h 3), .inr (0, [.ref (h 4), .int (nI n1)])), ((h 4), .inl (cI, 4, .inl f1)), ((h 5), .inr (0, [.ref (h 6), .int (nI n2)])), ((h 6), .inl (cI, 40, .inl f2)), ((h 7), .inr (0, [.ref (h 8), .int (nI n3)])), ((h 8), .inl (cI, 120, .inl f3)), ((h 9), .inr (0, [.ref (h 10), .int (nI n4)])), ((h 10), .inl (cI, 160, .inl f4))] := zSf_D hh
  have hS : va_S (zAS h) s.heap s.heap [] := va_S.rf
  refine lv_aload_n hx hb d_SF_appendPieces_0 rfl (lv_at hl 0 rfl) ?_
  refine va_get (D := D) (ci := 1) (v := .ref (h 5)) (C := R_SF) (T := F_SF) (N := 6) hx hb hg i_SF hown hE.1 hP 0 rfl rfl 2 (by decide) (hg _ zw_42) (fun _ h9 => h9) rfl d_SF_appendPieces_1 ?_
  refine zRd (rest := []) (zrVN hS9 (c_RW_size l D cI cC cJ (h 5) (h 6) 40 n2 f2 (by omega) (by decide)) zc_RW_size (by decide) zw_85 zp_3 (by decide) (va_recv hE.1 hP (ci := 0) (q := (R_RW, F_RW, 2)) rfl (q0 := 5) rfl) (hP.sub [5, 6] rfl) hE rfl hl.1 rfl (Nat.le_of_ble_eq_true rfl) d_SF_appendPieces_4) ?_
  refine lv_iconst (v := (nI 1)) hx hb d_SF_appendPieces_7 (by decide) ?_
  refine lv_isub hx hb d_SF_appendPieces_8 ?_
  refine lv_iconst (v := (nI 0)) hx hb d_SF_appendPieces_9 (by decide) ?_
  refine va_mmax (rest := []) hx hb (hml.trans hl.1.symm) hown (hg _ zw_377) (hg _ zw_181) (hg _ zw_11) (hg _ zk_MA_max) (by decide) (Nat.le_of_ble_eq_true rfl) (Nat.zero_le _) (Nat.zero_le _) d_SF_appendPieces_10 ?_
  refine ztop (y := nI (n2 - 1)) (zs_max1 (by omega)) ?_
  refine lv_bipush (v := (nI 8)) hx hb d_SF_appendPieces_13 (by decide) ?_
  refine lv_idiv hx hb d_SF_appendPieces_15 (by decide) ?_
  refine ztop (y := nI ((n2 - 1) / 8)) (pk_div (by omega) (by decide) (by decide)) ?_
  refine lv_istore_n hx hb d_SF_appendPieces_16 rfl hl (by decide) (lv' := [(2, .int (nI ((n2 - 1) / 8))), (0, .ref (h 0)), (1, .int f)]) rfl (fun ls hl => ?_)
  refine lv_iconst (v := (nI 0)) hx hb d_SF_appendPieces_17 (by decide) ?_
  refine lv_istore_n hx hb d_SF_appendPieces_18 rfl hl (by decide) (lv' := [(3, .int (nI 0)), (2, .int (nI ((n2 - 1) / 8))), (0, .ref (h 0)), (1, .int f)]) rfl (fun ls hl => ?_)
  have hl : lv_has ls 8 [(3, .int (nI 0)), (2, .int (nI ((n2 - 1) / 8))), (0, .ref (h 0)), (1, .int f)] := lv_sub hl [0, 1, 2, 3] rfl
  have loop : ∀ (k : Nat) (i : Nat) (fx : Nat → Int32) (H : Heap) (locs : List Loc), i + k = (n2 - 1) / 8 + 1 → zs_hold 256 fx (zs_pcs n2 M f ((n2 - 1) / 8) (n3, B) i) → va_P D zcl (zSf cI h n0 n1 n2 ((zs_pcs n2 M f ((n2 - 1) / 8) (n3, B) i).1) n4 f0 f1 f2 fx f4 rp) H → va_S (zAS h) s.heap H locs → ∀ ls : Array Slot, lv_has ls 8 [(3, .int (nI i)), (2, .int (nI ((n2 - 1) / 8))), (0, .ref (h 0)), (1, .int f)] → W p l e ({ frames := 4, cells := 0, slots := 0, locals := 96 }) s m [.ref (h 0), .int f].toArray below meth c H locs 0 0 (MQ below (zQm none (fun H => ∃ f3' : Nat → Int32, zs_hold 256 f3' (zs_pcs n2 M f ((n2 - 1) / 8) (n3, B) ((n2 - 1) / 8 + 1)) ∧ va_P D zcl (zSf cI h n0 n1 n2 ((zs_pcs n2 M f ((n2 - 1) / 8) (n3, B) ((n2 - 1) / 8 + 1)).1) n4 f0 f1 f2 (f3') f4 rp) H) (zAS h)) [.ref (h 0), .int f].toArray s 0 0 (zAS h)) (F0 m 19 ls []) := by
    intro k
    induction k with
    | zero =>
      intro i fx H locs hi hB hP hS ls hl
      have hP : va_P D zcl [((h 0), .inr (1, [.ref (h 1), .ref (h 3), .ref (h 5), .ref (h 7), .ref (h 9), .int rp])), ((h 1), .inr (0, [.ref (h 2), .int (nI n0)])), ((h 2), .inl (cI, 4, .inl f0)), ((h 3), .inr (0, [.ref (h 4), .int (nI n1)])), ((h 4), .inl (cI, 4, .inl f1)), ((h 5), .inr (0, [.ref (h 6), .int (nI n2)])), ((h 6), .inl (cI, 40, .inl f2)), ((h 7), .inr (0, [.ref (h 8), .int (nI ((zs_pcs n2 M f ((n2 - 1) / 8) (n3, B) i).1))])), ((h 8), .inl (cI, 120, .inl fx)), ((h 9), .inr (0, [.ref (h 10), .int (nI n4)])), ((h 10), .inl (cI, 160, .inl f4))] H := hP
      have hD : va_D (zAS h) [((h 0), .inr (1, [.ref (h 1), .ref (h 3), .ref (h 5), .ref (h 7), .ref (h 9), .int rp])), ((h 1), .inr (0, [.ref (h 2), .int (nI n0)])), ((h 2), .inl (cI, 4, .inl f0)), ((h 3), .inr (0, [.ref (h 4), .int (nI n1)])), ((h 4), .inl (cI, 4, .inl f1)), ((h 5), .inr (0, [.ref (h 6), .int (nI n2)])), ((h 6), .inl (cI, 40, .inl f2)), ((h 7), .inr (0, [.ref (h 8), .int (nI ((zs_pcs n2 M f ((n2 - 1) / 8) (n3, B) i).1))])), ((h 8), .inl (cI, 120, .inl fx)), ((h 9), .inr (0, [.ref (h 10), .int (nI n4)])), ((h 10), .inl (cI, 160, .inl f4))] := zSf_D hh
      refine lv_iload_n hx hb d_SF_appendPieces_19 rfl (lv_at hl 0 rfl) ?_
      refine lv_iload_n hx hb d_SF_appendPieces_20 rfl (lv_at hl 1 rfl) ?_
      refine lv_icmp_gt hx hb d_SF_appendPieces_21 (tgt := 137) (by decide) (fun _ => ?_) (fun z9 => absurd (nI_lt (by omega) (by omega)) z9)
      obtain rfl : i = (n2 - 1) / 8 + 1 := by omega
      exact W.vret hx hb hr (fun t ht _ => ⟨rfl, by rw [ht]; exact ⟨fx, hB, hP⟩, hS.F ht⟩) hS.2.2 d_SF_appendPieces_137
    | succ k ih =>
      intro i fx H locs hi hB hP hS ls hl
      have hP : va_P D zcl [((h 0), .inr (1, [.ref (h 1), .ref (h 3), .ref (h 5), .ref (h 7), .ref (h 9), .int rp])), ((h 1), .inr (0, [.ref (h 2), .int (nI n0)])), ((h 2), .inl (cI, 4, .inl f0)), ((h 3), .inr (0, [.ref (h 4), .int (nI n1)])), ((h 4), .inl (cI, 4, .inl f1)), ((h 5), .inr (0, [.ref (h 6), .int (nI n2)])), ((h 6), .inl (cI, 40, .inl f2)), ((h 7), .inr (0, [.ref (h 8), .int (nI ((zs_pcs n2 M f ((n2 - 1) / 8) (n3, B) i).1))])), ((h 8), .inl (cI, 120, .inl fx)), ((h 9), .inr (0, [.ref (h 10), .int (nI n4)])), ((h 10), .inl (cI, 160, .inl f4))] H := hP
      have hD : va_D (zAS h) [((h 0), .inr (1, [.ref (h 1), .ref (h 3), .ref (h 5), .ref (h 7), .ref (h 9), .int rp])), ((h 1), .inr (0, [.ref (h 2), .int (nI n0)])), ((h 2), .inl (cI, 4, .inl f0)), ((h 3), .inr (0, [.ref (h 4), .int (nI n1)])), ((h 4), .inl (cI, 4, .inl f1)), ((h 5), .inr (0, [.ref (h 6), .int (nI n2)])), ((h 6), .inl (cI, 40, .inl f2)), ((h 7), .inr (0, [.ref (h 8), .int (nI ((zs_pcs n2 M f ((n2 - 1) / 8) (n3, B) i).1))])), ((h 8), .inl (cI, 120, .inl fx)), ((h 9), .inr (0, [.ref (h 10), .int (nI n4)])), ((h 10), .inl (cI, 160, .inl f4))] := zSf_D hh
      have hle := zs_pcs_le n2 M f ((n2 - 1) / 8) (n3, B) i
      have hle : (zs_pcs n2 M f ((n2 - 1) / 8) (n3, B) i).1 ≤ n3 + 10 * i := hle
      refine lv_iload_n hx hb d_SF_appendPieces_19 rfl (lv_at hl 0 rfl) ?_
      refine lv_iload_n hx hb d_SF_appendPieces_20 rfl (lv_at hl 1 rfl) ?_
      refine lv_icmp_gt hx hb d_SF_appendPieces_21 (tgt := 137) (by decide) (fun z9 => absurd z9 (nI_nlt (by omega) (by omega))) (fun _ => ?_)
      refine lv_iload_n hx hb d_SF_appendPieces_24 rfl (lv_at hl 0 rfl) ?_
      refine lv_bipush (v := (nI 8)) hx hb d_SF_appendPieces_25 (by decide) ?_
      refine lv_imul hx hb d_SF_appendPieces_27 ?_
      refine ztop (y := nI (8 * i)) (by rw [pk_mul, Nat.mul_comm]) ?_
      refine lv_istore hx hb d_SF_appendPieces_28 hl (by decide) (lv' := [(4, .int (nI (8 * i))), (3, .int (nI i)), (2, .int (nI ((n2 - 1) / 8))), (0, .ref (h 0)), (1, .int f)]) rfl (fun ls hl => ?_)
      refine lv_aload_n hx hb d_SF_appendPieces_30 rfl (lv_at hl 3 rfl) ?_
      refine va_get (D := D) (ci := 1) (v := .ref (h 5)) (C := R_SF) (T := F_SF) (N := 6) hx hb hg i_SF hown hE.1 hP 0 rfl rfl 2 (by decide) (hg _ zw_42) (fun _ h9 => h9) rfl d_SF_appendPieces_31 ?_
      refine zRd (rest := []) (zrVN hS9 (c_RW_size l D cI cC cJ (h 5) (h 6) 40 n2 f2 (by omega) (by decide)) zc_RW_size (by decide) zw_85 zp_3 (by decide) (va_recv hE.1 hP (ci := 0) (q := (R_RW, F_RW, 2)) rfl (q0 := 5) rfl) (hP.sub [5, 6] rfl) hE rfl hl.1 rfl (Nat.le_of_ble_eq_true rfl) d_SF_appendPieces_34) ?_
      refine lv_iload hx hb d_SF_appendPieces_37 (lv_at hl 0 rfl) ?_
      refine lv_isub hx hb d_SF_appendPieces_39 ?_
      refine ztop (y := nI (n2 - 8 * i)) (pk_sub (by omega)) ?_
      refine lv_bipush (v := (nI 8)) hx hb d_SF_appendPieces_40 (by decide) ?_
      refine va_mmin (rest := []) hx hb (hml.trans hl.1.symm) hown (hg _ zw_378) (hg _ zw_184) (hg _ zw_11) (hg _ zk_MA_min) (by decide) (Nat.le_of_ble_eq_true rfl) (Nat.zero_le _) (Nat.zero_le _) d_SF_appendPieces_42 ?_
      refine ztop (y := nI (min (n2 - 8 * i) 8)) (zs_min8 (by omega)) ?_
      refine lv_istore hx hb d_SF_appendPieces_45 hl (by decide) (lv' := [(5, .int (nI (min (n2 - 8 * i) 8))), (4, .int (nI (8 * i))), (3, .int (nI i)), (2, .int (nI ((n2 - 1) / 8))), (0, .ref (h 0)), (1, .int f)]) rfl (fun ls hl => ?_)
      refine lv_aload_n hx hb d_SF_appendPieces_47 rfl (lv_at hl 4 rfl) ?_
      refine va_get (D := D) (ci := 1) (v := .ref (h 7)) (C := R_SF) (T := F_SF) (N := 6) hx hb hg i_SF hown hE.1 hP 0 rfl rfl 3 (by decide) (hg _ zw_43) (fun _ h9 => h9) rfl d_SF_appendPieces_48 ?_
      refine zRd (rest := []) (zrVN hS9 (c_RW_size l D cI cC cJ (h 7) (h 8) 120 ((zs_pcs n2 M f ((n2 - 1) / 8) (n3, B) i).1) fx (by omega) (by decide)) zc_RW_size (by decide) zw_85 zp_3 (by decide) (va_recv hE.1 hP (ci := 0) (q := (R_RW, F_RW, 2)) rfl (q0 := 7) rfl) (hP.sub [7, 8] rfl) hE rfl hl.1 rfl (Nat.le_of_ble_eq_true rfl) d_SF_appendPieces_51) ?_
      refine lv_istore hx hb d_SF_appendPieces_54 hl (by decide) (lv' := [(6, .int (nI (zs_pcs n2 M f ((n2 - 1) / 8) (n3, B) i).1)), (5, .int (nI (min (n2 - 8 * i) 8))), (4, .int (nI (8 * i))), (3, .int (nI i)), (2, .int (nI ((n2 - 1) / 8))), (0, .ref (h 0)), (1, .int f)]) rfl (fun ls hl => ?_)
      refine lv_iconst (v := (nI 0)) hx hb d_SF_appendPieces_56 (by decide) ?_
      refine lv_istore hx hb d_SF_appendPieces_57 hl (by decide) (lv' := [(7, .int (nI 0)), (6, .int (nI (zs_pcs n2 M f ((n2 - 1) / 8) (n3, B) i).1)), (5, .int (nI (min (n2 - 8 * i) 8))), (4, .int (nI (8 * i))), (3, .int (nI i)), (2, .int (nI ((n2 - 1) / 8))), (0, .ref (h 0)), (1, .int f)]) rfl (fun ls hl => ?_)
      have hl : lv_has ls 8 [(7, .int (nI 0)), (6, .int (nI (zs_pcs n2 M f ((n2 - 1) / 8) (n3, B) i).1)), (5, .int (nI (min (n2 - 8 * i) 8))), (4, .int (nI (8 * i))), (3, .int (nI i)), (2, .int (nI ((n2 - 1) / 8))), (0, .ref (h 0)), (1, .int f)] := lv_sub hl [0, 1, 2, 3, 4, 5, 6, 7] rfl
      have hq : min (n2 - 8 * i) 8 ≤ 8 := Nat.min_le_right _ _
      have hq2 : min (n2 - 8 * i) 8 ≤ n2 - 8 * i := Nat.min_le_left _ _
      generalize hqe : min (n2 - 8 * i) 8 = qn at hl hq hq2
      have inner : ∀ (k : Nat) (j : Nat) (fy : Nat → Int32) (H : Heap) (locs : List Loc), j + k = qn → zs_hold 256 fy (zs_cvs M f i (zs_pcs n2 M f ((n2 - 1) / 8) (n3, B) i) j) → va_P D zcl (zSf cI h n0 n1 n2 ((zs_cvs M f i (zs_pcs n2 M f ((n2 - 1) / 8) (n3, B) i) j).1) n4 f0 f1 f2 fy f4 rp) H → va_S (zAS h) s.heap H locs → ∀ ls : Array Slot, lv_has ls 8 [(7, .int (nI j)), (6, .int (nI (zs_pcs n2 M f ((n2 - 1) / 8) (n3, B) i).1)), (5, .int (nI (qn))), (4, .int (nI (8 * i))), (3, .int (nI i)), (2, .int (nI ((n2 - 1) / 8))), (0, .ref (h 0)), (1, .int f)] → W p l e ({ frames := 4, cells := 0, slots := 0, locals := 96 }) s m [.ref (h 0), .int f].toArray below meth c H locs 0 0 (MQ below (zQm none (fun H => ∃ f3' : Nat → Int32, zs_hold 256 f3' (zs_pcs n2 M f ((n2 - 1) / 8) (n3, B) ((n2 - 1) / 8 + 1)) ∧ va_P D zcl (zSf cI h n0 n1 n2 ((zs_pcs n2 M f ((n2 - 1) / 8) (n3, B) ((n2 - 1) / 8 + 1)).1) n4 f0 f1 f2 (f3') f4 rp) H) (zAS h)) [.ref (h 0), .int f].toArray s 0 0 (zAS h)) (F0 m 59 ls []) := by
        intro k
        induction k with
        | zero =>
          intro j fy H locs hj hB hP hS ls hl
          have hP : va_P D zcl [((h 0), .inr (1, [.ref (h 1), .ref (h 3), .ref (h 5), .ref (h 7), .ref (h 9), .int rp])), ((h 1), .inr (0, [.ref (h 2), .int (nI n0)])), ((h 2), .inl (cI, 4, .inl f0)), ((h 3), .inr (0, [.ref (h 4), .int (nI n1)])), ((h 4), .inl (cI, 4, .inl f1)), ((h 5), .inr (0, [.ref (h 6), .int (nI n2)])), ((h 6), .inl (cI, 40, .inl f2)), ((h 7), .inr (0, [.ref (h 8), .int (nI ((zs_cvs M f i (zs_pcs n2 M f ((n2 - 1) / 8) (n3, B) i) j).1))])), ((h 8), .inl (cI, 120, .inl fy)), ((h 9), .inr (0, [.ref (h 10), .int (nI n4)])), ((h 10), .inl (cI, 160, .inl f4))] H := hP
          have hD : va_D (zAS h) [((h 0), .inr (1, [.ref (h 1), .ref (h 3), .ref (h 5), .ref (h 7), .ref (h 9), .int rp])), ((h 1), .inr (0, [.ref (h 2), .int (nI n0)])), ((h 2), .inl (cI, 4, .inl f0)), ((h 3), .inr (0, [.ref (h 4), .int (nI n1)])), ((h 4), .inl (cI, 4, .inl f1)), ((h 5), .inr (0, [.ref (h 6), .int (nI n2)])), ((h 6), .inl (cI, 40, .inl f2)), ((h 7), .inr (0, [.ref (h 8), .int (nI ((zs_cvs M f i (zs_pcs n2 M f ((n2 - 1) / 8) (n3, B) i) j).1))])), ((h 8), .inl (cI, 120, .inl fy)), ((h 9), .inr (0, [.ref (h 10), .int (nI n4)])), ((h 10), .inl (cI, 160, .inl f4))] := zSf_D hh
          refine lv_iload hx hb d_SF_appendPieces_59 (lv_at hl 0 rfl) ?_
          refine lv_iload hx hb d_SF_appendPieces_61 (lv_at hl 2 rfl) ?_
          refine lv_icmp_ge hx hb d_SF_appendPieces_63 (tgt := 99) (by decide) (fun _ => ?_) (fun z9 => absurd (nI_le (by omega) (by omega)) z9)
          obtain rfl : j = qn := by omega
          have hcn := zs_cvs_n M f i (zs_pcs n2 M f ((n2 - 1) / 8) (n3, B) i) j
          refine lv_aload_n hx hb d_SF_appendPieces_99 rfl (lv_at hl 6 rfl) ?_
          refine va_get (D := D) (ci := 1) (v := .ref (h 7)) (C := R_SF) (T := F_SF) (N := 6) hx hb hg i_SF hown hE.1 hP 0 rfl rfl 3 (by decide) (hg _ zw_43) (fun _ h9 => h9) rfl d_SF_appendPieces_100 ?_
          refine lv_aload_n hx hb d_SF_appendPieces_103 rfl (lv_at hl 6 rfl) ?_
          refine lv_iload_n hx hb d_SF_appendPieces_104 rfl (lv_at hl 7 rfl) ?_
          refine lv_iload_n hx hb d_SF_appendPieces_105 rfl (lv_at hl 4 rfl) ?_
          refine lv_iload hx hb d_SF_appendPieces_106 (lv_at hl 1 rfl) ?_
          refine lv_aload_n hx hb d_SF_appendPieces_108 rfl (lv_at hl 6 rfl) ?_
          refine va_get (D := D) (ci := 1) (v := .ref (h 7)) (C := R_SF) (T := F_SF) (N := 6) hx hb hg i_SF hown hE.1 hP 0 rfl rfl 3 (by decide) (hg _ zw_43) (fun _ h9 => h9) rfl d_SF_appendPieces_109 ?_
          refine zRd (rest := [.int (nI (zs_pcs n2 M f ((n2 - 1) / 8) (n3, B) i).1), .int (nI i), .int f, .ref (h 0), .ref (h 7)]) (zrVN hS9 (c_RW_size l D cI cC cJ (h 7) (h 8) 120 ((zs_cvs M f i (zs_pcs n2 M f ((n2 - 1) / 8) (n3, B) i) j).1) fy (by omega) (by decide)) zc_RW_size (by decide) zw_85 zp_3 (by decide) (va_recv hE.1 hP (ci := 0) (q := (R_RW, F_RW, 2)) rfl (q0 := 7) rfl) (hP.sub [7, 8] rfl) hE rfl hl.1 rfl (Nat.le_of_ble_eq_true rfl) d_SF_appendPieces_112) ?_
          refine ztop (y := nI ((zs_pcs n2 M f ((n2 - 1) / 8) (n3, B) i).1 + j)) (by rw [hcn]) ?_
          refine lv_iload_n hx hb d_SF_appendPieces_115 rfl (lv_at hl 4 rfl) ?_
          refine lv_iload_n hx hb d_SF_appendPieces_116 rfl (lv_at hl 5 rfl) ?_
          by_cases g9 : i = ((n2 - 1) / 8)
          · refine lv_icmp_ne hx hb d_SF_appendPieces_117 (tgt := 124) (by decide) (fun z9 => absurd (by rw [g9]) z9) (fun _ => ?_)
            refine lv_iconst (v := (nI 1)) hx hb d_SF_appendPieces_120 (by decide) ?_
            refine lv_goto hx hb d_SF_appendPieces_121 (tgt := 125) (by decide) ?_
            refine ztop (y := nI (if i = ((n2 - 1) / 8) then 1 else 0)) (by rw [if_pos g9]) ?_
            refine zRd (rest := [.ref (h 7)]) (zrV hS9 (c_SF_pieceSign l D cI cC cJ h n0 n1 n2 ((zs_cvs M f i (zs_pcs n2 M f ((n2 - 1) / 8) (n3, B) i) j).1) n4 f0 f1 f2 fy f4 rp (by omega) (by omega) (by omega) (by omega) (by omega) (zs_cvs M f i (zs_pcs n2 M f ((n2 - 1) / 8) (n3, B) i) j).2 hB f i (zs_pcs n2 M f ((n2 - 1) / 8) (n3, B) i).1 ((zs_pcs n2 M f ((n2 - 1) / 8) (n3, B) i).1 + j) (if i = ((n2 - 1) / 8) then 1 else 0) (by omega) (by omega) (by split <;> omega)) zc_SF_pieceSign zw_382 zw_384 zp_13 (by decide) (va_recv hE.1 hP (ci := 1) (q := (R_SF, F_SF, 6)) rfl (q0 := 0) rfl) (hP) hE rfl hl.1 rfl (Nat.le_of_ble_eq_true rfl) d_SF_appendPieces_125) ?_
            refine zWr (rest := []) (zrVN hS9 (c_RW_pairN l D cI cC cJ (h 7) (h 8) 120 ((zs_cvs M f i (zs_pcs n2 M f ((n2 - 1) / 8) (n3, B) i) j).1) fy (by omega) (by decide) (fun z => absurd (hh 7 8 (by decide) (by decide) z) (by decide)) (zs_sg (zs_cvs M f i (zs_pcs n2 M f ((n2 - 1) / 8) (n3, B) i) j).2 (zs_pcs n2 M f ((n2 - 1) / 8) (n3, B) i).1 ((zs_pcs n2 M f ((n2 - 1) / 8) (n3, B) i).1 + j) (zs_word f (nI i) (zs_use (if i = ((n2 - 1) / 8) then 1 else 0)))) (Nat.lt_trans (zs_sg_lt _ _ _ _) (by decide)) (by omega)) zc_RW_appendPair (by decide) zw_354 zp_8 (by decide) (va_recv hE.1 hP (ci := 0) (q := (R_RW, F_RW, 2)) rfl (q0 := 7) rfl) (hP.sub [7, 8] rfl) hE rfl hl.1 rfl (Nat.le_of_ble_eq_true rfl) d_SF_appendPieces_128) hS (fun q _ h => zA2_in hD 7 8 rfl rfl q h) (fun q h => zA2_in hD 7 8 rfl rfl q h) (fun H locs hB1 hz hk hS => ?_)
            obtain ⟨hP, hD⟩ := zrow hP hD 7 8 rfl rfl (by decide) hk hB1
            have hP : va_P D zcl [((h 0), .inr (1, [.ref (h 1), .ref (h 3), .ref (h 5), .ref (h 7), .ref (h 9), .int rp])), ((h 1), .inr (0, [.ref (h 2), .int (nI n0)])), ((h 2), .inl (cI, 4, .inl f0)), ((h 3), .inr (0, [.ref (h 4), .int (nI n1)])), ((h 4), .inl (cI, 4, .inl f1)), ((h 5), .inr (0, [.ref (h 6), .int (nI n2)])), ((h 6), .inl (cI, 40, .inl f2)), ((h 7), .inr (0, [.ref (h 8), .int (nI ((zs_cvs M f i (zs_pcs n2 M f ((n2 - 1) / 8) (n3, B) i) j).1 + 2))])), ((h 8), .inl (cI, 120, .inl (upd (upd fy ((zs_cvs M f i (zs_pcs n2 M f ((n2 - 1) / 8) (n3, B) i) j).1) (nI ((zs_sg (zs_cvs M f i (zs_pcs n2 M f ((n2 - 1) / 8) (n3, B) i) j).2 (zs_pcs n2 M f ((n2 - 1) / 8) (n3, B) i).1 ((zs_pcs n2 M f ((n2 - 1) / 8) (n3, B) i).1 + j) (zs_word f (nI i) (zs_use (if i = ((n2 - 1) / 8) then 1 else 0)))) / 256))) ((zs_cvs M f i (zs_pcs n2 M f ((n2 - 1) / 8) (n3, B) i) j).1 + 1) (nI ((zs_sg (zs_cvs M f i (zs_pcs n2 M f ((n2 - 1) / 8) (n3, B) i) j).2 (zs_pcs n2 M f ((n2 - 1) / 8) (n3, B) i).1 ((zs_pcs n2 M f ((n2 - 1) / 8) (n3, B) i).1 + j) (zs_word f (nI i) (zs_use (if i = ((n2 - 1) / 8) then 1 else 0)))) % 256))))), ((h 9), .inr (0, [.ref (h 10), .int (nI n4)])), ((h 10), .inl (cI, 160, .inl f4))] H := hP
            have hD : va_D (zAS h) [((h 0), .inr (1, [.ref (h 1), .ref (h 3), .ref (h 5), .ref (h 7), .ref (h 9), .int rp])), ((h 1), .inr (0, [.ref (h 2), .int (nI n0)])), ((h 2), .inl (cI, 4, .inl f0)), ((h 3), .inr (0, [.ref (h 4), .int (nI n1)])), ((h 4), .inl (cI, 4, .inl f1)), ((h 5), .inr (0, [.ref (h 6), .int (nI n2)])), ((h 6), .inl (cI, 40, .inl f2)), ((h 7), .inr (0, [.ref (h 8), .int (nI ((zs_cvs M f i (zs_pcs n2 M f ((n2 - 1) / 8) (n3, B) i) j).1 + 2))])), ((h 8), .inl (cI, 120, .inl (upd (upd fy ((zs_cvs M f i (zs_pcs n2 M f ((n2 - 1) / 8) (n3, B) i) j).1) (nI ((zs_sg (zs_cvs M f i (zs_pcs n2 M f ((n2 - 1) / 8) (n3, B) i) j).2 (zs_pcs n2 M f ((n2 - 1) / 8) (n3, B) i).1 ((zs_pcs n2 M f ((n2 - 1) / 8) (n3, B) i).1 + j) (zs_word f (nI i) (zs_use (if i = ((n2 - 1) / 8) then 1 else 0)))) / 256))) ((zs_cvs M f i (zs_pcs n2 M f ((n2 - 1) / 8) (n3, B) i) j).1 + 1) (nI ((zs_sg (zs_cvs M f i (zs_pcs n2 M f ((n2 - 1) / 8) (n3, B) i) j).2 (zs_pcs n2 M f ((n2 - 1) / 8) (n3, B) i).1 ((zs_pcs n2 M f ((n2 - 1) / 8) (n3, B) i).1 + j) (zs_word f (nI i) (zs_use (if i = ((n2 - 1) / 8) then 1 else 0)))) % 256))))), ((h 9), .inr (0, [.ref (h 10), .int (nI n4)])), ((h 10), .inl (cI, 160, .inl f4))] := hD
            have hB := zs_hold_pair (v := zs_sg (zs_cvs M f i (zs_pcs n2 M f ((n2 - 1) / 8) (n3, B) i) j).2 (zs_pcs n2 M f ((n2 - 1) / 8) (n3, B) i).1 ((zs_pcs n2 M f ((n2 - 1) / 8) (n3, B) i).1 + j) (zs_word f (nI i) (zs_use (if i = ((n2 - 1) / 8) then 1 else 0)))) hB (Nat.lt_trans (zs_sg_lt _ _ _ _) (by decide))
            have hB : zs_hold 256 (upd (upd fy ((zs_cvs M f i (zs_pcs n2 M f ((n2 - 1) / 8) (n3, B) i) j).1) (nI ((zs_sg (zs_cvs M f i (zs_pcs n2 M f ((n2 - 1) / 8) (n3, B) i) j).2 (zs_pcs n2 M f ((n2 - 1) / 8) (n3, B) i).1 ((zs_pcs n2 M f ((n2 - 1) / 8) (n3, B) i).1 + j) (zs_word f (nI i) (zs_use (if i = ((n2 - 1) / 8) then 1 else 0)))) / 256))) ((zs_cvs M f i (zs_pcs n2 M f ((n2 - 1) / 8) (n3, B) i) j).1 + 1) (nI ((zs_sg (zs_cvs M f i (zs_pcs n2 M f ((n2 - 1) / 8) (n3, B) i) j).2 (zs_pcs n2 M f ((n2 - 1) / 8) (n3, B) i).1 ((zs_pcs n2 M f ((n2 - 1) / 8) (n3, B) i).1 + j) (zs_word f (nI i) (zs_use (if i = ((n2 - 1) / 8) then 1 else 0)))) % 256))) (zs_pair (zs_cvs M f i (zs_pcs n2 M f ((n2 - 1) / 8) (n3, B) i) j) (zs_sg (zs_cvs M f i (zs_pcs n2 M f ((n2 - 1) / 8) (n3, B) i) j).2 (zs_pcs n2 M f ((n2 - 1) / 8) (n3, B) i).1 ((zs_pcs n2 M f ((n2 - 1) / 8) (n3, B) i).1 + j) (zs_word f (nI i) (zs_use (if i = ((n2 - 1) / 8) then 1 else 0))))) := hB
            generalize (upd (upd fy ((zs_cvs M f i (zs_pcs n2 M f ((n2 - 1) / 8) (n3, B) i) j).1) (nI ((zs_sg (zs_cvs M f i (zs_pcs n2 M f ((n2 - 1) / 8) (n3, B) i) j).2 (zs_pcs n2 M f ((n2 - 1) / 8) (n3, B) i).1 ((zs_pcs n2 M f ((n2 - 1) / 8) (n3, B) i).1 + j) (zs_word f (nI i) (zs_use (if i = ((n2 - 1) / 8) then 1 else 0)))) / 256))) ((zs_cvs M f i (zs_pcs n2 M f ((n2 - 1) / 8) (n3, B) i) j).1 + 1) (nI ((zs_sg (zs_cvs M f i (zs_pcs n2 M f ((n2 - 1) / 8) (n3, B) i) j).2 (zs_pcs n2 M f ((n2 - 1) / 8) (n3, B) i).1 ((zs_pcs n2 M f ((n2 - 1) / 8) (n3, B) i).1 + j) (zs_word f (nI i) (zs_use (if i = ((n2 - 1) / 8) then 1 else 0)))) % 256))) = fz at hP hD hB
            have hB : zs_hold 256 fz (zs_pcs n2 M f ((n2 - 1) / 8) (n3, B) (i + 1)) := by rw [zs_pcs, hqe]; exact hB
            have hP : va_P D zcl (zSf cI h n0 n1 n2 ((zs_pcs n2 M f ((n2 - 1) / 8) (n3, B) (i + 1)).1) n4 f0 f1 f2 fz f4 rp) H := by rw [zs_pcs, hqe]; exact hP
            refine lv_iinc (k := 4) (v := nI (i + 1)) hx hb d_SF_appendPieces_131 hl rfl (nI_1 i) (by decide) (lv' := [(3, .int (nI (i + 1))), (7, .int (nI j)), (6, .int (nI (zs_pcs n2 M f ((n2 - 1) / 8) (n3, B) i).1)), (5, .int (nI (j))), (4, .int (nI (8 * i))), (2, .int (nI ((n2 - 1) / 8))), (0, .ref (h 0)), (1, .int f)]) rfl (fun ls hl => ?_)
            refine lv_goto hx hb d_SF_appendPieces_134 (tgt := 19) (by decide) ?_
            have hl : lv_has ls 8 [(3, .int (nI (i + 1))), (2, .int (nI ((n2 - 1) / 8))), (0, .ref (h 0)), (1, .int f)] := lv_sub hl [0, 5, 6, 7] rfl
            exact ih (i + 1) fz H locs (by omega) hB hP hS ls hl
          · refine lv_icmp_ne hx hb d_SF_appendPieces_117 (tgt := 124) (by decide) (fun _ => ?_) (fun z9 => absurd z9 (fun z => g9 ((nI_eq (by omega) (by omega)).mp z)))
            refine lv_iconst (v := (nI 0)) hx hb d_SF_appendPieces_124 (by decide) ?_
            refine ztop (y := nI (if i = ((n2 - 1) / 8) then 1 else 0)) (by rw [if_neg g9]) ?_
            refine zRd (rest := [.ref (h 7)]) (zrV hS9 (c_SF_pieceSign l D cI cC cJ h n0 n1 n2 ((zs_cvs M f i (zs_pcs n2 M f ((n2 - 1) / 8) (n3, B) i) j).1) n4 f0 f1 f2 fy f4 rp (by omega) (by omega) (by omega) (by omega) (by omega) (zs_cvs M f i (zs_pcs n2 M f ((n2 - 1) / 8) (n3, B) i) j).2 hB f i (zs_pcs n2 M f ((n2 - 1) / 8) (n3, B) i).1 ((zs_pcs n2 M f ((n2 - 1) / 8) (n3, B) i).1 + j) (if i = ((n2 - 1) / 8) then 1 else 0) (by omega) (by omega) (by split <;> omega)) zc_SF_pieceSign zw_382 zw_384 zp_13 (by decide) (va_recv hE.1 hP (ci := 1) (q := (R_SF, F_SF, 6)) rfl (q0 := 0) rfl) (hP) hE rfl hl.1 rfl (Nat.le_of_ble_eq_true rfl) d_SF_appendPieces_125) ?_
            refine zWr (rest := []) (zrVN hS9 (c_RW_pairN l D cI cC cJ (h 7) (h 8) 120 ((zs_cvs M f i (zs_pcs n2 M f ((n2 - 1) / 8) (n3, B) i) j).1) fy (by omega) (by decide) (fun z => absurd (hh 7 8 (by decide) (by decide) z) (by decide)) (zs_sg (zs_cvs M f i (zs_pcs n2 M f ((n2 - 1) / 8) (n3, B) i) j).2 (zs_pcs n2 M f ((n2 - 1) / 8) (n3, B) i).1 ((zs_pcs n2 M f ((n2 - 1) / 8) (n3, B) i).1 + j) (zs_word f (nI i) (zs_use (if i = ((n2 - 1) / 8) then 1 else 0)))) (Nat.lt_trans (zs_sg_lt _ _ _ _) (by decide)) (by omega)) zc_RW_appendPair (by decide) zw_354 zp_8 (by decide) (va_recv hE.1 hP (ci := 0) (q := (R_RW, F_RW, 2)) rfl (q0 := 7) rfl) (hP.sub [7, 8] rfl) hE rfl hl.1 rfl (Nat.le_of_ble_eq_true rfl) d_SF_appendPieces_128) hS (fun q _ h => zA2_in hD 7 8 rfl rfl q h) (fun q h => zA2_in hD 7 8 rfl rfl q h) (fun H locs hB1 hz hk hS => ?_)
            obtain ⟨hP, hD⟩ := zrow hP hD 7 8 rfl rfl (by decide) hk hB1
            have hP : va_P D zcl [((h 0), .inr (1, [.ref (h 1), .ref (h 3), .ref (h 5), .ref (h 7), .ref (h 9), .int rp])), ((h 1), .inr (0, [.ref (h 2), .int (nI n0)])), ((h 2), .inl (cI, 4, .inl f0)), ((h 3), .inr (0, [.ref (h 4), .int (nI n1)])), ((h 4), .inl (cI, 4, .inl f1)), ((h 5), .inr (0, [.ref (h 6), .int (nI n2)])), ((h 6), .inl (cI, 40, .inl f2)), ((h 7), .inr (0, [.ref (h 8), .int (nI ((zs_cvs M f i (zs_pcs n2 M f ((n2 - 1) / 8) (n3, B) i) j).1 + 2))])), ((h 8), .inl (cI, 120, .inl (upd (upd fy ((zs_cvs M f i (zs_pcs n2 M f ((n2 - 1) / 8) (n3, B) i) j).1) (nI ((zs_sg (zs_cvs M f i (zs_pcs n2 M f ((n2 - 1) / 8) (n3, B) i) j).2 (zs_pcs n2 M f ((n2 - 1) / 8) (n3, B) i).1 ((zs_pcs n2 M f ((n2 - 1) / 8) (n3, B) i).1 + j) (zs_word f (nI i) (zs_use (if i = ((n2 - 1) / 8) then 1 else 0)))) / 256))) ((zs_cvs M f i (zs_pcs n2 M f ((n2 - 1) / 8) (n3, B) i) j).1 + 1) (nI ((zs_sg (zs_cvs M f i (zs_pcs n2 M f ((n2 - 1) / 8) (n3, B) i) j).2 (zs_pcs n2 M f ((n2 - 1) / 8) (n3, B) i).1 ((zs_pcs n2 M f ((n2 - 1) / 8) (n3, B) i).1 + j) (zs_word f (nI i) (zs_use (if i = ((n2 - 1) / 8) then 1 else 0)))) % 256))))), ((h 9), .inr (0, [.ref (h 10), .int (nI n4)])), ((h 10), .inl (cI, 160, .inl f4))] H := hP
            have hD : va_D (zAS h) [((h 0), .inr (1, [.ref (h 1), .ref (h 3), .ref (h 5), .ref (h 7), .ref (h 9), .int rp])), ((h 1), .inr (0, [.ref (h 2), .int (nI n0)])), ((h 2), .inl (cI, 4, .inl f0)), ((h 3), .inr (0, [.ref (h 4), .int (nI n1)])), ((h 4), .inl (cI, 4, .inl f1)), ((h 5), .inr (0, [.ref (h 6), .int (nI n2)])), ((h 6), .inl (cI, 40, .inl f2)), ((h 7), .inr (0, [.ref (h 8), .int (nI ((zs_cvs M f i (zs_pcs n2 M f ((n2 - 1) / 8) (n3, B) i) j).1 + 2))])), ((h 8), .inl (cI, 120, .inl (upd (upd fy ((zs_cvs M f i (zs_pcs n2 M f ((n2 - 1) / 8) (n3, B) i) j).1) (nI ((zs_sg (zs_cvs M f i (zs_pcs n2 M f ((n2 - 1) / 8) (n3, B) i) j).2 (zs_pcs n2 M f ((n2 - 1) / 8) (n3, B) i).1 ((zs_pcs n2 M f ((n2 - 1) / 8) (n3, B) i).1 + j) (zs_word f (nI i) (zs_use (if i = ((n2 - 1) / 8) then 1 else 0)))) / 256))) ((zs_cvs M f i (zs_pcs n2 M f ((n2 - 1) / 8) (n3, B) i) j).1 + 1) (nI ((zs_sg (zs_cvs M f i (zs_pcs n2 M f ((n2 - 1) / 8) (n3, B) i) j).2 (zs_pcs n2 M f ((n2 - 1) / 8) (n3, B) i).1 ((zs_pcs n2 M f ((n2 - 1) / 8) (n3, B) i).1 + j) (zs_word f (nI i) (zs_use (if i = ((n2 - 1) / 8) then 1 else 0)))) % 256))))), ((h 9), .inr (0, [.ref (h 10), .int (nI n4)])), ((h 10), .inl (cI, 160, .inl f4))] := hD
            have hB := zs_hold_pair (v := zs_sg (zs_cvs M f i (zs_pcs n2 M f ((n2 - 1) / 8) (n3, B) i) j).2 (zs_pcs n2 M f ((n2 - 1) / 8) (n3, B) i).1 ((zs_pcs n2 M f ((n2 - 1) / 8) (n3, B) i).1 + j) (zs_word f (nI i) (zs_use (if i = ((n2 - 1) / 8) then 1 else 0)))) hB (Nat.lt_trans (zs_sg_lt _ _ _ _) (by decide))
            have hB : zs_hold 256 (upd (upd fy ((zs_cvs M f i (zs_pcs n2 M f ((n2 - 1) / 8) (n3, B) i) j).1) (nI ((zs_sg (zs_cvs M f i (zs_pcs n2 M f ((n2 - 1) / 8) (n3, B) i) j).2 (zs_pcs n2 M f ((n2 - 1) / 8) (n3, B) i).1 ((zs_pcs n2 M f ((n2 - 1) / 8) (n3, B) i).1 + j) (zs_word f (nI i) (zs_use (if i = ((n2 - 1) / 8) then 1 else 0)))) / 256))) ((zs_cvs M f i (zs_pcs n2 M f ((n2 - 1) / 8) (n3, B) i) j).1 + 1) (nI ((zs_sg (zs_cvs M f i (zs_pcs n2 M f ((n2 - 1) / 8) (n3, B) i) j).2 (zs_pcs n2 M f ((n2 - 1) / 8) (n3, B) i).1 ((zs_pcs n2 M f ((n2 - 1) / 8) (n3, B) i).1 + j) (zs_word f (nI i) (zs_use (if i = ((n2 - 1) / 8) then 1 else 0)))) % 256))) (zs_pair (zs_cvs M f i (zs_pcs n2 M f ((n2 - 1) / 8) (n3, B) i) j) (zs_sg (zs_cvs M f i (zs_pcs n2 M f ((n2 - 1) / 8) (n3, B) i) j).2 (zs_pcs n2 M f ((n2 - 1) / 8) (n3, B) i).1 ((zs_pcs n2 M f ((n2 - 1) / 8) (n3, B) i).1 + j) (zs_word f (nI i) (zs_use (if i = ((n2 - 1) / 8) then 1 else 0))))) := hB
            generalize (upd (upd fy ((zs_cvs M f i (zs_pcs n2 M f ((n2 - 1) / 8) (n3, B) i) j).1) (nI ((zs_sg (zs_cvs M f i (zs_pcs n2 M f ((n2 - 1) / 8) (n3, B) i) j).2 (zs_pcs n2 M f ((n2 - 1) / 8) (n3, B) i).1 ((zs_pcs n2 M f ((n2 - 1) / 8) (n3, B) i).1 + j) (zs_word f (nI i) (zs_use (if i = ((n2 - 1) / 8) then 1 else 0)))) / 256))) ((zs_cvs M f i (zs_pcs n2 M f ((n2 - 1) / 8) (n3, B) i) j).1 + 1) (nI ((zs_sg (zs_cvs M f i (zs_pcs n2 M f ((n2 - 1) / 8) (n3, B) i) j).2 (zs_pcs n2 M f ((n2 - 1) / 8) (n3, B) i).1 ((zs_pcs n2 M f ((n2 - 1) / 8) (n3, B) i).1 + j) (zs_word f (nI i) (zs_use (if i = ((n2 - 1) / 8) then 1 else 0)))) % 256))) = fz at hP hD hB
            have hB : zs_hold 256 fz (zs_pcs n2 M f ((n2 - 1) / 8) (n3, B) (i + 1)) := by rw [zs_pcs, hqe]; exact hB
            have hP : va_P D zcl (zSf cI h n0 n1 n2 ((zs_pcs n2 M f ((n2 - 1) / 8) (n3, B) (i + 1)).1) n4 f0 f1 f2 fz f4 rp) H := by rw [zs_pcs, hqe]; exact hP
            refine lv_iinc (k := 4) (v := nI (i + 1)) hx hb d_SF_appendPieces_131 hl rfl (nI_1 i) (by decide) (lv' := [(3, .int (nI (i + 1))), (7, .int (nI j)), (6, .int (nI (zs_pcs n2 M f ((n2 - 1) / 8) (n3, B) i).1)), (5, .int (nI (j))), (4, .int (nI (8 * i))), (2, .int (nI ((n2 - 1) / 8))), (0, .ref (h 0)), (1, .int f)]) rfl (fun ls hl => ?_)
            refine lv_goto hx hb d_SF_appendPieces_134 (tgt := 19) (by decide) ?_
            have hl : lv_has ls 8 [(3, .int (nI (i + 1))), (2, .int (nI ((n2 - 1) / 8))), (0, .ref (h 0)), (1, .int f)] := lv_sub hl [0, 5, 6, 7] rfl
            exact ih (i + 1) fz H locs (by omega) hB hP hS ls hl
        | succ k ih2 =>
          intro j fy H locs hj hB hP hS ls hl
          have hP : va_P D zcl [((h 0), .inr (1, [.ref (h 1), .ref (h 3), .ref (h 5), .ref (h 7), .ref (h 9), .int rp])), ((h 1), .inr (0, [.ref (h 2), .int (nI n0)])), ((h 2), .inl (cI, 4, .inl f0)), ((h 3), .inr (0, [.ref (h 4), .int (nI n1)])), ((h 4), .inl (cI, 4, .inl f1)), ((h 5), .inr (0, [.ref (h 6), .int (nI n2)])), ((h 6), .inl (cI, 40, .inl f2)), ((h 7), .inr (0, [.ref (h 8), .int (nI ((zs_cvs M f i (zs_pcs n2 M f ((n2 - 1) / 8) (n3, B) i) j).1))])), ((h 8), .inl (cI, 120, .inl fy)), ((h 9), .inr (0, [.ref (h 10), .int (nI n4)])), ((h 10), .inl (cI, 160, .inl f4))] H := hP
          have hD : va_D (zAS h) [((h 0), .inr (1, [.ref (h 1), .ref (h 3), .ref (h 5), .ref (h 7), .ref (h 9), .int rp])), ((h 1), .inr (0, [.ref (h 2), .int (nI n0)])), ((h 2), .inl (cI, 4, .inl f0)), ((h 3), .inr (0, [.ref (h 4), .int (nI n1)])), ((h 4), .inl (cI, 4, .inl f1)), ((h 5), .inr (0, [.ref (h 6), .int (nI n2)])), ((h 6), .inl (cI, 40, .inl f2)), ((h 7), .inr (0, [.ref (h 8), .int (nI ((zs_cvs M f i (zs_pcs n2 M f ((n2 - 1) / 8) (n3, B) i) j).1))])), ((h 8), .inl (cI, 120, .inl fy)), ((h 9), .inr (0, [.ref (h 10), .int (nI n4)])), ((h 10), .inl (cI, 160, .inl f4))] := zSf_D hh
          have hcn := zs_cvs_n M f i (zs_pcs n2 M f ((n2 - 1) / 8) (n3, B) i) j
          refine lv_iload hx hb d_SF_appendPieces_59 (lv_at hl 0 rfl) ?_
          refine lv_iload hx hb d_SF_appendPieces_61 (lv_at hl 2 rfl) ?_
          refine lv_icmp_ge hx hb d_SF_appendPieces_63 (tgt := 99) (by decide) (fun z9 => absurd z9 (nI_ge (by omega) (by omega))) (fun _ => ?_)
          refine lv_aload_n hx hb d_SF_appendPieces_66 rfl (lv_at hl 6 rfl) ?_
          refine va_get (D := D) (ci := 1) (v := .ref (h 7)) (C := R_SF) (T := F_SF) (N := 6) hx hb hg i_SF hown hE.1 hP 0 rfl rfl 3 (by decide) (hg _ zw_43) (fun _ h9 => h9) rfl d_SF_appendPieces_67 ?_
          refine lv_aload_n hx hb d_SF_appendPieces_70 rfl (lv_at hl 6 rfl) ?_
          refine va_get (D := D) (ci := 1) (v := .ref (h 5)) (C := R_SF) (T := F_SF) (N := 6) hx hb hg i_SF hown hE.1 hP 0 rfl rfl 2 (by decide) (hg _ zw_42) (fun _ h9 => h9) rfl d_SF_appendPieces_71 ?_
          refine lv_iload hx hb d_SF_appendPieces_74 (lv_at hl 3 rfl) ?_
          refine lv_iload hx hb d_SF_appendPieces_76 (lv_at hl 0 rfl) ?_
          refine lv_iadd hx hb d_SF_appendPieces_78 ?_
          refine ztop (y := nI (8 * i + j)) (nI_add _ _) ?_
          refine zRd (rest := [.ref (h 7)]) (zrVN hS9 (c_RW_item l D cI cC cJ (h 5) (h 6) 40 n2 f2 (by omega) (by decide) (nI (8 * i + j))) zc_RW_item (by decide) zw_65 zp_0 (by decide) (va_recv hE.1 hP (ci := 0) (q := (R_RW, F_RW, 2)) rfl (q0 := 5) rfl) (hP.sub [5, 6] rfl) hE rfl hl.1 rfl (Nat.le_of_ble_eq_true rfl) d_SF_appendPieces_79) ?_
          refine ztop (y := nI (M (8 * i + j))) ((zs_item_in (by omega) (by omega)).trans (hM (8 * i + j) (show 8 * i + j < n2 by omega)).1) ?_
          refine lv_iload_n hx hb d_SF_appendPieces_82 rfl (lv_at hl 7 rfl) ?_
          refine lv_iload_n hx hb d_SF_appendPieces_83 rfl (lv_at hl 4 rfl) ?_
          refine lv_iload hx hb d_SF_appendPieces_84 (lv_at hl 0 rfl) ?_
          have hm8 : M (8 * i + j) < 256 := (hM (8 * i + j) (show 8 * i + j < n2 by omega)).2
          refine zRd (rest := [.ref (h 7)]) (zrS hS9 (c_SF_covered l D cI cC cJ (M (8 * i + j)) f i j) zc_SF_covered zw_379 zw_380 (by decide) (trivial) hE rfl hl.1 rfl (Nat.le_of_ble_eq_true rfl) d_SF_appendPieces_86) ?_
          refine zWr (rest := []) (zrVN hS9 (c_RW_append l D cI cC cJ (h 7) (h 8) 120 ((zs_cvs M f i (zs_pcs n2 M f ((n2 - 1) / 8) (n3, B) i) j).1) fy (by omega) (by decide) (fun z => absurd (hh 7 8 (by decide) (by decide) z) (by decide)) (nI (zs_cv (M (8 * i + j)) f i j)) (by omega)) zc_RW_append (by decide) zw_77 zp_2 (by decide) (va_recv hE.1 hP (ci := 0) (q := (R_RW, F_RW, 2)) rfl (q0 := 7) rfl) (hP.sub [7, 8] rfl) hE rfl hl.1 rfl (Nat.le_of_ble_eq_true rfl) d_SF_appendPieces_89) hS (fun q _ h => zA2_in hD 7 8 rfl rfl q h) (fun q h => zA2_in hD 7 8 rfl rfl q h) (fun H locs hB1 hz hk hS => ?_)
          obtain ⟨hP, hD⟩ := zrow hP hD 7 8 rfl rfl (by decide) hk hB1
          have hP : va_P D zcl [((h 0), .inr (1, [.ref (h 1), .ref (h 3), .ref (h 5), .ref (h 7), .ref (h 9), .int rp])), ((h 1), .inr (0, [.ref (h 2), .int (nI n0)])), ((h 2), .inl (cI, 4, .inl f0)), ((h 3), .inr (0, [.ref (h 4), .int (nI n1)])), ((h 4), .inl (cI, 4, .inl f1)), ((h 5), .inr (0, [.ref (h 6), .int (nI n2)])), ((h 6), .inl (cI, 40, .inl f2)), ((h 7), .inr (0, [.ref (h 8), .int (nI ((zs_cvs M f i (zs_pcs n2 M f ((n2 - 1) / 8) (n3, B) i) j).1 + 1))])), ((h 8), .inl (cI, 120, .inl (upd fy ((zs_cvs M f i (zs_pcs n2 M f ((n2 - 1) / 8) (n3, B) i) j).1) (nI (zs_cv (M (8 * i + j)) f i j))))), ((h 9), .inr (0, [.ref (h 10), .int (nI n4)])), ((h 10), .inl (cI, 160, .inl f4))] H := hP
          have hD : va_D (zAS h) [((h 0), .inr (1, [.ref (h 1), .ref (h 3), .ref (h 5), .ref (h 7), .ref (h 9), .int rp])), ((h 1), .inr (0, [.ref (h 2), .int (nI n0)])), ((h 2), .inl (cI, 4, .inl f0)), ((h 3), .inr (0, [.ref (h 4), .int (nI n1)])), ((h 4), .inl (cI, 4, .inl f1)), ((h 5), .inr (0, [.ref (h 6), .int (nI n2)])), ((h 6), .inl (cI, 40, .inl f2)), ((h 7), .inr (0, [.ref (h 8), .int (nI ((zs_cvs M f i (zs_pcs n2 M f ((n2 - 1) / 8) (n3, B) i) j).1 + 1))])), ((h 8), .inl (cI, 120, .inl (upd fy ((zs_cvs M f i (zs_pcs n2 M f ((n2 - 1) / 8) (n3, B) i) j).1) (nI (zs_cv (M (8 * i + j)) f i j))))), ((h 9), .inr (0, [.ref (h 10), .int (nI n4)])), ((h 10), .inl (cI, 160, .inl f4))] := hD
          have hB : zs_hold 256 (upd fy ((zs_cvs M f i (zs_pcs n2 M f ((n2 - 1) / 8) (n3, B) i) j).1) (nI (zs_cv (M (8 * i + j)) f i j))) (zs_push (zs_cvs M f i (zs_pcs n2 M f ((n2 - 1) / 8) (n3, B) i) j) (zs_cv (M (8 * i + j)) f i j)) := zs_hold_push hB (zs_cv_lt hm8 f i j)
          generalize (upd fy ((zs_cvs M f i (zs_pcs n2 M f ((n2 - 1) / 8) (n3, B) i) j).1) (nI (zs_cv (M (8 * i + j)) f i j))) = fz at hP hD hB
          refine lv_pop hx hb d_SF_appendPieces_92 rfl ?_
          refine lv_iinc (k := 0) (v := nI (j + 1)) hx hb d_SF_appendPieces_93 hl rfl (nI_1 j) (by decide) (lv' := [(7, .int (nI (j + 1))), (6, .int (nI (zs_pcs n2 M f ((n2 - 1) / 8) (n3, B) i).1)), (5, .int (nI (qn))), (4, .int (nI (8 * i))), (3, .int (nI i)), (2, .int (nI ((n2 - 1) / 8))), (0, .ref (h 0)), (1, .int f)]) rfl (fun ls hl => ?_)
          refine lv_goto hx hb d_SF_appendPieces_96 (tgt := 59) (by decide) ?_
          have hl : lv_has ls 8 [(7, .int (nI (j + 1))), (6, .int (nI (zs_pcs n2 M f ((n2 - 1) / 8) (n3, B) i).1)), (5, .int (nI (qn))), (4, .int (nI (8 * i))), (3, .int (nI i)), (2, .int (nI ((n2 - 1) / 8))), (0, .ref (h 0)), (1, .int f)] := lv_sub hl [0, 1, 2, 3, 4, 5, 6, 7] rfl
          exact ih2 (j + 1) fz H locs (by omega) hB hP hS ls hl
      exact inner qn 0 fx H locs (by omega) hB hP hS ls hl
  exact loop ((n2 - 1) / 8 + 1) 0 f3 s.heap [] (by omega) hB hP hS ls hl
end
section
/-! The spec of opening: pure; and a row made empty. -/
theorem c_RW_clear (l : Launch) (D : va_G) (cI cC cJ : ClassId) (r it cap n : Nat) (f : Nat → Int32) (hn : n ≤ cap) (hcap : cap < 2 ^ 31) (hne : r ≠ it) :
    Met l y_RW_shorten (zw k_RW_shorten) ({ frames := 0, cells := 0, slots := 0, locals := 0 }) (zPc [.ref r, .int (nI 0)] (fun H => va_P D zcl (zRw cI r it cap n f) H) D cI cC cJ) (zQm (some (.int (nI (if n = 0 then 0 else 1)))) (fun H => va_P D zcl (zRw cI r it cap 0 f) H) (zA2 r it)) 0 0 (zA2 r it) := by
  by_cases e : n = 0
  · subst e
    exact c_RW_shorten_no l D cI cC cJ r it cap 0 f hn hcap hne (nI 0) (Or.inr (Int32.le_refl _))
  · rw [if_neg e]
    exact c_RW_shorten l D cI cC cJ r it cap n f hn hcap hne 0 (by omega)
/-- the first entry of this key from the i-th on, n of them left -/
def zs_ent (B : Nat → Nat) (s ad : Nat) : Nat → Nat → Int32
  | _, 0 => -1
  | i, n + 1 => if zs_two B (2 + 8 * i + 6) = zs_sg B (2 + 8 * i) (2 + 8 * i + 6) (zs_word (nI (zs_z B (2 + 8 * i) s)) (nI ad) (nI 2)) then nI (2 + 8 * i) else zs_ent B s ad (i + 1) n
/-- bytes uncovered into a message of at most 40 -/
def zs_unc (B : Nat → Nat) (f : Int32) (k a : Nat) (F : zs_F) : Nat → zs_F
  | 0 => F
  | j + 1 => if (zs_unc B f k a F j).1 < 40 then zs_push (zs_unc B f k a F j) (zs_cv (B (a + j)) f k j) else zs_unc B f k a F j
theorem zs_unc_le (B : Nat → Nat) (f : Int32) (k a : Nat) {F : zs_F} (h : F.1 ≤ 40) (j : Nat) : (zs_unc B f k a F j).1 ≤ 40 := by
  induction j with
  | zero => exact h
  | succ j ih =>
    rw [zs_unc]
    split
    · rename_i h1; show (zs_unc B f k a F j).1 + 1 ≤ 40; omega
    · exact ih
/-- the pieces from the k-th on, m of them left: the answer, how many were right, the message -/
def zs_tl (n ps k : Nat) : Nat := if n ≤ ps + 10 * k + 10 then 1 else 0
def zs_te (n ps k : Nat) : Nat := if n ≤ ps + 10 * k + 10 then n - 2 else ps + 10 * k + 8
def zs_take (B : Nat → Nat) (n : Nat) (f : Int32) (ps : Nat) : Nat → Nat → zs_F → Int32 × Nat × zs_F
  | 0, k, F => (nI F.1, k, F)
  | m + 1, k, F =>
    if n < ps + 10 * k + 2 then (-4, k, F)
    else if zs_two B (zs_te n ps k) = zs_sg B (ps + 10 * k) (zs_te n ps k) (zs_word f (nI k) (zs_use (zs_tl n ps k))) then
      zs_take B n f ps m (k + 1) (zs_unc B f k (ps + 10 * k) F (zs_te n ps k - (ps + 10 * k)))
    else (if zs_two B (zs_te n ps k) = zs_sg B (ps + 10 * k) (zs_te n ps k) (zs_word f (nI k) (zs_use (1 - zs_tl n ps k))) then -5 else -4, k, F)
/-- the number of bytes that a draft of n characters makes -/
theorem zs_db {n : Nat} (h : n < 2 ^ 20) : nI n * nI 6 / nI 8 = nI (n * 6 / 8) := by
  rw [pk_mul, pk_div (by omega) (by decide) (by decide)]
end
section
set_option maxHeartbeats 4000000 in
set_option maxRecDepth 100000 in
theorem c_SF_entryFor (l : Launch) (D : va_G) (cI cC cJ : ClassId) (h : Nat → Nat) (n0 n1 n2 n3 n4 : Nat) (f0 f1 f2 f3 f4 : Nat → Int32) (rp : Int32) (hn0 : n0 ≤ 4) (hn1 : n1 ≤ 4) (hn2 : n2 ≤ 40) (hn3 : n3 ≤ 120) (hn4 : n4 ≤ 160) (B : Nat → Nat) (hB : zs_hold 256 f3 (n3, B)) (S : Nat → Nat) (hS0 : zs_hold 32748 f0 (n0, S)) (hA0 : ∀ j, j < n1 → f1 j = nI (zs_pw 2 (S j))) (hn01 : n1 = n0) (k : Nat) (hk : k < n0) (h3 : B 1 ≤ 3) (h6 : 6 + B 1 * 8 ≤ n3) : Met l y_SF_entryFor (zw k_SF_entryFor) ({ frames := 4, cells := 0, slots := 0, locals := 93 }) (zPc [.ref (h 0), .int (nI k)] (fun H => va_P D zcl (zSf cI h n0 n1 n2 n3 n4 f0 f1 f2 f3 f4 rp) H) D cI cC cJ) (QcRead (zs_ent B (S k) (zs_pw 2 (S k)) 0 (B 1))) 0 0 (fun _ => False) := by
  refine zMet (by decide) (Nat.le_of_ble_eq_true rfl) ?_
  intro p e s m below meth c hx hb hr hg hown hlk hml hP hE ls hl
  have hl : lv_has ls 6 [(0, .ref (h 0)), (1, .int (nI k))] := hl
  have hS9 : CallFix p m c b_SF_entryFor 6 s [.ref (h 0), .int (nI k)].toArray zg "SealedFiles" := ⟨hx, hb, hml, hown, hg⟩
  have hP : va_P D zcl [((h 0), .inr (1, [.ref (h 1), .ref (h 3), .ref (h 5), .ref (h 7), .ref (h 9), .int rp])), ((h 1), .inr (0, [.ref (h 2), .int (nI n0)])), ((h 2), .inl (cI, 4, .inl f0)), ((h 3), .inr (0, [.ref (h 4), .int (nI n1)])), ((h 4), .inl (cI, 4, .inl f1)), ((h 5), .inr (0, [.ref (h 6), .int (nI n2)])), ((h 6), .inl (cI, 40, .inl f2)), ((h 7), .inr (0, [.ref (h 8), .int (nI n3)])), ((h 8), .inl (cI, 120, .inl f3)), ((h 9), .inr (0, [.ref (h 10), .int (nI n4)])), ((h 10), .inl (cI, 160, .inl f4))] s.heap := hP
  refine lv_aload_n hx hb d_SF_entryFor_0 rfl (lv_at hl 0 rfl) ?_
  refine va_get (D := D) (ci := 1) (v := .ref (h 7)) (C := R_SF) (T := F_SF) (N := 6) hx hb hg i_SF hown hE.1 hP 0 rfl rfl 3 (by decide) (hg _ zw_43) (fun _ h9 => h9) rfl d_SF_entryFor_1 ?_
  refine lv_iconst (v := (nI 1)) hx hb d_SF_entryFor_4 (by decide) ?_
  refine zRd (rest := []) (zrVN hS9 (c_RW_item l D cI cC cJ (h 7) (h 8) 120 n3 f3 (by omega) (by decide) (nI 1)) zc_RW_item (by decide) zw_65 zp_0 (by decide) (va_recv hE.1 hP (ci := 0) (q := (R_RW, F_RW, 2)) rfl (q0 := 7) rfl) (hP.sub [7, 8] rfl) hE rfl hl.1 rfl (Nat.le_of_ble_eq_true rfl) d_SF_entryFor_5) ?_
  refine ztop (y := nI (B 1)) ((zs_item_in (by omega) (by omega)).trans (hB 1 (show 1 < n3 by omega)).1) ?_
  refine lv_istore_n hx hb d_SF_entryFor_8 rfl hl (by decide) (lv' := [(2, .int (nI (B 1))), (0, .ref (h 0)), (1, .int (nI k))]) rfl (fun ls hl => ?_)
  refine lv_iconst (v := (nI 0)) hx hb d_SF_entryFor_9 (by decide) ?_
  refine lv_istore_n hx hb d_SF_entryFor_10 rfl hl (by decide) (lv' := [(3, .int (nI 0)), (2, .int (nI (B 1))), (0, .ref (h 0)), (1, .int (nI k))]) rfl (fun ls hl => ?_)
  have hl : lv_has ls 6 [(3, .int (nI 0)), (2, .int (nI (B 1))), (0, .ref (h 0)), (1, .int (nI k))] := lv_sub hl [0, 1, 2, 3] rfl
  have loop : ∀ (k_ : Nat) (i : Nat), i + k_ = B 1 → zs_ent B (S k) (zs_pw 2 (S k)) i k_ = zs_ent B (S k) (zs_pw 2 (S k)) 0 (B 1) → ∀ ls : Array Slot, lv_has ls 6 [(3, .int (nI i)), (2, .int (nI (B 1))), (0, .ref (h 0)), (1, .int (nI k))] → W p l e ({ frames := 4, cells := 0, slots := 0, locals := 93 }) s m [.ref (h 0), .int (nI k)].toArray below meth c s.heap [] 0 0 (MQ below (QcRead (zs_ent B (S k) (zs_pw 2 (S k)) 0 (B 1))) [.ref (h 0), .int (nI k)].toArray s 0 0 (fun _ => False)) (F0 m 11 ls []) := by
    intro k_
    induction k_ with
    | zero =>
      intro i hi he ls hl
      refine lv_iload_n hx hb d_SF_entryFor_11 rfl (lv_at hl 0 rfl) ?_
      refine lv_iload_n hx hb d_SF_entryFor_12 rfl (lv_at hl 1 rfl) ?_
      refine lv_icmp_ge hx hb d_SF_entryFor_13 (tgt := 73) (by decide) (fun _ => ?_) (fun z9 => absurd (nI_le (by omega) (by omega)) z9)
      refine lv_iconst (v := (-1)) hx hb d_SF_entryFor_73 (by decide) ?_
      exact W.iret (v := (-1)) hx hb hr (fun t ht _ => ⟨congrArg (fun z => Outcome.returned (some (Value.int z))) (show (-1 : Int32) = _ from he), ht⟩) t_nil d_SF_entryFor_74
    | succ k_ ih =>
      intro i hi he ls hl
      refine lv_iload_n hx hb d_SF_entryFor_11 rfl (lv_at hl 0 rfl) ?_
      refine lv_iload_n hx hb d_SF_entryFor_12 rfl (lv_at hl 1 rfl) ?_
      refine lv_icmp_ge hx hb d_SF_entryFor_13 (tgt := 73) (by decide) (fun z9 => absurd z9 (nI_ge (by omega) (by omega))) (fun _ => ?_)
      refine lv_iconst (v := (nI 2)) hx hb d_SF_entryFor_16 (by decide) ?_
      refine lv_iload_n hx hb d_SF_entryFor_17 rfl (lv_at hl 0 rfl) ?_
      refine lv_bipush (v := (nI 8)) hx hb d_SF_entryFor_18 (by decide) ?_
      refine lv_imul hx hb d_SF_entryFor_20 ?_
      refine lv_iadd hx hb d_SF_entryFor_21 ?_
      refine ztop (y := nI (2 + 8 * i)) (by rw [pk_mul, nI_add, Nat.mul_comm]) ?_
      refine lv_istore hx hb d_SF_entryFor_22 hl (by decide) (lv' := [(4, .int (nI (2 + 8 * i))), (3, .int (nI i)), (2, .int (nI (B 1))), (0, .ref (h 0)), (1, .int (nI k))]) rfl (fun ls hl => ?_)
      refine lv_aload_n hx hb d_SF_entryFor_24 rfl (lv_at hl 3 rfl) ?_
      refine lv_iload hx hb d_SF_entryFor_25 (lv_at hl 0 rfl) ?_
      refine lv_aload_n hx hb d_SF_entryFor_27 rfl (lv_at hl 3 rfl) ?_
      refine lv_iload hx hb d_SF_entryFor_28 (lv_at hl 0 rfl) ?_
      refine lv_iload_n hx hb d_SF_entryFor_30 rfl (lv_at hl 4 rfl) ?_
      refine zRd (rest := [.int (nI (2 + 8 * i)), .ref (h 0)]) (zrV hS9 (c_SF_agreed l D cI cC cJ h n0 n1 n2 n3 n4 f0 f1 f2 f3 f4 rp hn0 hn1 hn2 hn3 hn4 B hB S hS0 hA0 hn01 (2 + 8 * i) k (by omega) hk) zc_SF_agreed zw_406 zw_408 zp_17 (by decide) (va_recv hE.1 hP (ci := 1) (q := (R_SF, F_SF, 6)) rfl (q0 := 0) rfl) (hP) hE rfl hl.1 rfl (Nat.le_of_ble_eq_true rfl) d_SF_entryFor_31) ?_
      refine lv_aload_n hx hb d_SF_entryFor_34 rfl (lv_at hl 3 rfl) ?_
      refine va_get (D := D) (ci := 1) (v := .ref (h 3)) (C := R_SF) (T := F_SF) (N := 6) hx hb hg i_SF hown hE.1 hP 0 rfl rfl 1 (by decide) (hg _ zw_41) (fun _ h9 => h9) rfl d_SF_entryFor_35 ?_
      refine lv_iload_n hx hb d_SF_entryFor_38 rfl (lv_at hl 4 rfl) ?_
      refine zRd (rest := [.int (nI (zs_z B (2 + 8 * i) (S k))), .int (nI (2 + 8 * i)), .ref (h 0)]) (zrVN hS9 (c_RW_item l D cI cC cJ (h 3) (h 4) 4 n1 f1 (by omega) (by decide) (nI k)) zc_RW_item (by decide) zw_65 zp_0 (by decide) (va_recv hE.1 hP (ci := 0) (q := (R_RW, F_RW, 2)) rfl (q0 := 3) rfl) (hP.sub [3, 4] rfl) hE rfl hl.1 rfl (Nat.le_of_ble_eq_true rfl) d_SF_entryFor_39) ?_
      refine ztop (y := nI (zs_pw 2 (S k))) ((zs_item_in (by omega) (by omega)).trans (hA0 k (by omega))) ?_
      refine zRd (rest := []) (zrV hS9 (c_SF_entrySign l D cI cC cJ h n0 n1 n2 n3 n4 f0 f1 f2 f3 f4 rp hn0 hn1 hn2 hn3 hn4 B hB (2 + 8 * i) (nI (zs_z B (2 + 8 * i) (S k))) (nI (zs_pw 2 (S k))) (by omega)) zc_SF_entrySign zw_358 zw_360 zp_9 (by decide) (va_recv hE.1 hP (ci := 1) (q := (R_SF, F_SF, 6)) rfl (q0 := 0) rfl) (hP) hE rfl hl.1 rfl (Nat.le_of_ble_eq_true rfl) d_SF_entryFor_42) ?_
      refine lv_istore hx hb d_SF_entryFor_45 hl (by decide) (lv' := [(5, .int (nI (zs_sg B (2 + 8 * i) (2 + 8 * i + 6) (zs_word (nI (zs_z B (2 + 8 * i) (S k))) (nI (zs_pw 2 (S k))) (nI 2))))), (4, .int (nI (2 + 8 * i))), (3, .int (nI i)), (2, .int (nI (B 1))), (0, .ref (h 0)), (1, .int (nI k))]) rfl (fun ls hl => ?_)
      refine lv_aload_n hx hb d_SF_entryFor_47 rfl (lv_at hl 4 rfl) ?_
      refine va_get (D := D) (ci := 1) (v := .ref (h 7)) (C := R_SF) (T := F_SF) (N := 6) hx hb hg i_SF hown hE.1 hP 0 rfl rfl 3 (by decide) (hg _ zw_43) (fun _ h9 => h9) rfl d_SF_entryFor_48 ?_
      refine lv_iload hx hb d_SF_entryFor_51 (lv_at hl 1 rfl) ?_
      refine lv_bipush (v := (nI 6)) hx hb d_SF_entryFor_53 (by decide) ?_
      refine lv_iadd hx hb d_SF_entryFor_55 ?_
      refine ztop (y := nI (2 + 8 * i + 6)) (nI_add _ _) ?_
      refine zRd (rest := []) (zrVN hS9 (c_RW_pair l D cI cC cJ (h 7) (h 8) 120 n3 f3 (by omega) (by decide) (nI (2 + 8 * i + 6))) zc_RW_pair (by decide) zw_412 zp_18 (by decide) (va_recv hE.1 hP (ci := 0) (q := (R_RW, F_RW, 2)) rfl (q0 := 7) rfl) (hP.sub [7, 8] rfl) hE rfl hl.1 rfl (Nat.le_of_ble_eq_true rfl) d_SF_entryFor_56) ?_
      refine ztop (y := nI (zs_two B (2 + 8 * i + 6))) (zs_pair_in hB (by omega) (by omega)) ?_
      refine lv_iload hx hb d_SF_entryFor_59 (lv_at hl 0 rfl) ?_
      have l2 := zs_sg_lt B (2 + 8 * i) (2 + 8 * i + 6) (zs_word (nI (zs_z B (2 + 8 * i) (S k))) (nI (zs_pw 2 (S k))) (nI 2))
      have l1 : zs_two B (2 + 8 * i + 6) < 65536 := zs_two_lt (hB (2 + 8 * i + 6) (show 2 + 8 * i + 6 < n3 by omega)).2 (hB (2 + 8 * i + 6 + 1) (show 2 + 8 * i + 6 + 1 < n3 by omega)).2
      by_cases g : zs_two B (2 + 8 * i + 6) = zs_sg B (2 + 8 * i) (2 + 8 * i + 6) (zs_word (nI (zs_z B (2 + 8 * i) (S k))) (nI (zs_pw 2 (S k))) (nI 2))
      · refine lv_icmp_ne hx hb d_SF_entryFor_61 (tgt := 67) (by decide) (fun z9 => absurd (by rw [g]) z9) (fun _ => ?_)
        refine lv_iload hx hb d_SF_entryFor_64 (lv_at hl 1 rfl) ?_
        exact W.iret (v := (nI (2 + 8 * i))) hx hb hr (fun t ht _ => ⟨congrArg (fun z => Outcome.returned (some (Value.int z))) (by rw [← he, zs_ent, if_pos g]), ht⟩) t_nil d_SF_entryFor_66
      · refine lv_icmp_ne hx hb d_SF_entryFor_61 (tgt := 67) (by decide) (fun _ => ?_) (fun z9 => absurd z9 (fun z => g ((nI_eq (by omega) (by omega)).mp z)))
        refine lv_iinc (k := 2) (v := nI (i + 1)) hx hb d_SF_entryFor_67 hl rfl (nI_1 i) (by decide) (lv' := [(3, .int (nI (i + 1))), (5, .int (nI (zs_sg B (2 + 8 * i) (2 + 8 * i + 6) (zs_word (nI (zs_z B (2 + 8 * i) (S k))) (nI (zs_pw 2 (S k))) (nI 2))))), (4, .int (nI (2 + 8 * i))), (2, .int (nI (B 1))), (0, .ref (h 0)), (1, .int (nI k))]) rfl (fun ls hl => ?_)
        refine lv_goto hx hb d_SF_entryFor_70 (tgt := 11) (by decide) ?_
        have hl : lv_has ls 6 [(3, .int (nI (i + 1))), (2, .int (nI (B 1))), (0, .ref (h 0)), (1, .int (nI k))] := lv_sub hl [0, 3, 4, 5] rfl
        exact ih (i + 1) (by omega) (by rw [zs_ent, if_neg g] at he; exact he) ls hl
  exact loop (B 1) 0 (by omega) rfl ls hl

set_option maxHeartbeats 4000000 in
set_option maxRecDepth 100000 in
theorem c_SF_uncover (l : Launch) (D : va_G) (cI cC cJ : ClassId) (h : Nat → Nat) (n0 n1 n2 n3 n4 : Nat) (f0 f1 f2 f3 f4 : Nat → Int32) (rp : Int32) (hn0 : n0 ≤ 4) (hn1 : n1 ≤ 4) (hn2 : n2 ≤ 40) (hn3 : n3 ≤ 120) (hn4 : n4 ≤ 160) (hh : zs_inj h) (B : Nat → Nat) (hB : zs_hold 256 f3 (n3, B)) (M : Nat → Nat) (hM : zs_hold 256 f2 (n2, M)) (f : Int32) (k a b : Nat) (hab : a ≤ b) (hb9 : b ≤ n3) : Met l y_SF_uncover (zw k_SF_uncover) ({ frames := 3, cells := 0, slots := 0, locals := 67 }) (zPc [.ref (h 0), .int f, .int (nI k), .int (nI a), .int (nI b)] (fun H => va_P D zcl (zSf cI h n0 n1 n2 n3 n4 f0 f1 f2 f3 f4 rp) H) D cI cC cJ) (zQm none (fun H => ∃ f2' : Nat → Int32, zs_hold 256 f2' (zs_unc B f k a (n2, M) (b - a)) ∧ va_P D zcl (zSf cI h n0 n1 ((zs_unc B f k a (n2, M) (b - a)).1) n3 n4 f0 f1 (f2') f3 f4 rp) H) (zAS h)) 0 0 (zAS h) := by
  refine zMet (by decide) (Nat.le_of_ble_eq_true rfl) ?_
  intro p e s m below meth c hx hb hr hg hown hlk hml hP hE ls hl
  have hl : lv_has ls 6 [(0, .ref (h 0)), (1, .int f), (2, .int (nI k)), (3, .int (nI a)), (4, .int (nI b))] := hl
  have hS9 : CallFix p m c b_SF_uncover 6 s [.ref (h 0), .int f, .int (nI k), .int (nI a), .int (nI b)].toArray zg "SealedFiles" := ⟨hx, hb, hml, hown, hg⟩
  have hP : va_P D zcl [((h 0), .inr (1, [.ref (h 1), .ref (h 3), .ref (h 5), .ref (h 7), .ref (h 9), .int rp])), ((h 1), .inr (0, [.ref (h 2), .int (nI n0)])), ((h 2), .inl (cI, 4, .inl f0)), ((h 3), .inr (0, [.ref (h 4), .int (nI n1)])), ((h 4), .inl (cI, 4, .inl f1)), ((h 5), .inr (0, [.ref (h 6), .int (nI n2)])), ((h 6), .inl (cI, 40, .inl f2)), ((h 7), .inr (0, [.ref (h 8), .int (nI n3)])), ((h 8), .inl (cI, 120, .inl f3)), ((h 9), .inr (0, [.ref (h 10), .int (nI n4)])), ((h 10), .inl (cI, 160, .inl f4))] s.heap := hP
  have hD : va_D (zAS h) [((h 0), .inr (1, [.ref (h 1), .ref (h 3), .ref (h 5), .ref (h 7), .ref (h 9), .int rp])), ((h 1), .inr (0, [.ref (h 2), .int (nI n0)])), ((h 2), .inl (cI, 4, .inl f0)), ((h 3), .inr (0, [.ref (h 4), .int (nI n1)])), ((h 4), .inl (cI, 4, .inl f1)), ((h 5), .inr (0, [.ref (h 6), .int (nI n2)])), ((h 6), .inl (cI, 40, .inl f2)), ((h 7), .inr (0, [.ref (h 8), .int (nI n3)])), ((h 8), .inl (cI, 120, .inl f3)), ((h 9), .inr (0, [.ref (h 10), .int (nI n4)])), ((h 10), .inl (cI, 160, .inl f4))] := zSf_D hh
  have hS : va_S (zAS h) s.heap s.heap [] := va_S.rf
  refine lv_iload_n hx hb d_SF_uncover_0 rfl (lv_at hl 3 rfl) ?_
  refine lv_istore hx hb d_SF_uncover_1 hl (by decide) (lv' := [(5, .int (nI a)), (0, .ref (h 0)), (1, .int f), (2, .int (nI k)), (3, .int (nI a)), (4, .int (nI b))]) rfl (fun ls hl => ?_)
  have hl : lv_has ls 6 [(5, .int (nI a)), (0, .ref (h 0)), (1, .int f), (2, .int (nI k)), (3, .int (nI a)), (4, .int (nI b))] := lv_sub hl [0, 1, 2, 3, 4, 5] rfl
  have loop : ∀ (k_ : Nat) (j : Nat) (fx : Nat → Int32) (H : Heap) (locs : List Loc), j + k_ = b - a → zs_hold 256 fx (zs_unc B f k a (n2, M) j) → va_P D zcl (zSf cI h n0 n1 ((zs_unc B f k a (n2, M) j).1) n3 n4 f0 f1 fx f3 f4 rp) H → va_S (zAS h) s.heap H locs → ∀ ls : Array Slot, lv_has ls 6 [(5, .int (nI (a + j))), (0, .ref (h 0)), (1, .int f), (2, .int (nI k)), (3, .int (nI a)), (4, .int (nI b))] → W p l e ({ frames := 3, cells := 0, slots := 0, locals := 67 }) s m [.ref (h 0), .int f, .int (nI k), .int (nI a), .int (nI b)].toArray below meth c H locs 0 0 (MQ below (zQm none (fun H => ∃ f2' : Nat → Int32, zs_hold 256 f2' (zs_unc B f k a (n2, M) (b - a)) ∧ va_P D zcl (zSf cI h n0 n1 ((zs_unc B f k a (n2, M) (b - a)).1) n3 n4 f0 f1 (f2') f3 f4 rp) H) (zAS h)) [.ref (h 0), .int f, .int (nI k), .int (nI a), .int (nI b)].toArray s 0 0 (zAS h)) (F0 m 3 ls []) := by
    intro k_
    induction k_ with
    | zero =>
      intro j fx H locs hj hM hP hS ls hl
      have hP : va_P D zcl [((h 0), .inr (1, [.ref (h 1), .ref (h 3), .ref (h 5), .ref (h 7), .ref (h 9), .int rp])), ((h 1), .inr (0, [.ref (h 2), .int (nI n0)])), ((h 2), .inl (cI, 4, .inl f0)), ((h 3), .inr (0, [.ref (h 4), .int (nI n1)])), ((h 4), .inl (cI, 4, .inl f1)), ((h 5), .inr (0, [.ref (h 6), .int (nI ((zs_unc B f k a (n2, M) j).1))])), ((h 6), .inl (cI, 40, .inl fx)), ((h 7), .inr (0, [.ref (h 8), .int (nI n3)])), ((h 8), .inl (cI, 120, .inl f3)), ((h 9), .inr (0, [.ref (h 10), .int (nI n4)])), ((h 10), .inl (cI, 160, .inl f4))] H := hP
      have hD : va_D (zAS h) [((h 0), .inr (1, [.ref (h 1), .ref (h 3), .ref (h 5), .ref (h 7), .ref (h 9), .int rp])), ((h 1), .inr (0, [.ref (h 2), .int (nI n0)])), ((h 2), .inl (cI, 4, .inl f0)), ((h 3), .inr (0, [.ref (h 4), .int (nI n1)])), ((h 4), .inl (cI, 4, .inl f1)), ((h 5), .inr (0, [.ref (h 6), .int (nI ((zs_unc B f k a (n2, M) j).1))])), ((h 6), .inl (cI, 40, .inl fx)), ((h 7), .inr (0, [.ref (h 8), .int (nI n3)])), ((h 8), .inl (cI, 120, .inl f3)), ((h 9), .inr (0, [.ref (h 10), .int (nI n4)])), ((h 10), .inl (cI, 160, .inl f4))] := zSf_D hh
      refine lv_iload hx hb d_SF_uncover_3 (lv_at hl 0 rfl) ?_
      refine lv_iload hx hb d_SF_uncover_5 (lv_at hl 5 rfl) ?_
      refine lv_icmp_ge hx hb d_SF_uncover_7 (tgt := 42) (by decide) (fun _ => ?_) (fun z9 => absurd (nI_le (by omega) (by omega)) z9)
      obtain rfl : j = b - a := by omega
      exact W.vret hx hb hr (fun t ht _ => ⟨rfl, by rw [ht]; exact ⟨fx, hM, hP⟩, hS.F ht⟩) hS.2.2 d_SF_uncover_42
    | succ k_ ih =>
      intro j fx H locs hj hM hP hS ls hl
      have hP : va_P D zcl [((h 0), .inr (1, [.ref (h 1), .ref (h 3), .ref (h 5), .ref (h 7), .ref (h 9), .int rp])), ((h 1), .inr (0, [.ref (h 2), .int (nI n0)])), ((h 2), .inl (cI, 4, .inl f0)), ((h 3), .inr (0, [.ref (h 4), .int (nI n1)])), ((h 4), .inl (cI, 4, .inl f1)), ((h 5), .inr (0, [.ref (h 6), .int (nI ((zs_unc B f k a (n2, M) j).1))])), ((h 6), .inl (cI, 40, .inl fx)), ((h 7), .inr (0, [.ref (h 8), .int (nI n3)])), ((h 8), .inl (cI, 120, .inl f3)), ((h 9), .inr (0, [.ref (h 10), .int (nI n4)])), ((h 10), .inl (cI, 160, .inl f4))] H := hP
      have hD : va_D (zAS h) [((h 0), .inr (1, [.ref (h 1), .ref (h 3), .ref (h 5), .ref (h 7), .ref (h 9), .int rp])), ((h 1), .inr (0, [.ref (h 2), .int (nI n0)])), ((h 2), .inl (cI, 4, .inl f0)), ((h 3), .inr (0, [.ref (h 4), .int (nI n1)])), ((h 4), .inl (cI, 4, .inl f1)), ((h 5), .inr (0, [.ref (h 6), .int (nI ((zs_unc B f k a (n2, M) j).1))])), ((h 6), .inl (cI, 40, .inl fx)), ((h 7), .inr (0, [.ref (h 8), .int (nI n3)])), ((h 8), .inl (cI, 120, .inl f3)), ((h 9), .inr (0, [.ref (h 10), .int (nI n4)])), ((h 10), .inl (cI, 160, .inl f4))] := zSf_D hh
      have hle := zs_unc_le B f k a (F := (n2, M)) hn2 j
      refine lv_iload hx hb d_SF_uncover_3 (lv_at hl 0 rfl) ?_
      refine lv_iload hx hb d_SF_uncover_5 (lv_at hl 5 rfl) ?_
      refine lv_icmp_ge hx hb d_SF_uncover_7 (tgt := 42) (by decide) (fun z9 => absurd z9 (nI_ge (by omega) (by omega))) (fun _ => ?_)
      refine lv_aload_n hx hb d_SF_uncover_10 rfl (lv_at hl 1 rfl) ?_
      refine va_get (D := D) (ci := 1) (v := .ref (h 5)) (C := R_SF) (T := F_SF) (N := 6) hx hb hg i_SF hown hE.1 hP 0 rfl rfl 2 (by decide) (hg _ zw_42) (fun _ h9 => h9) rfl d_SF_uncover_11 ?_
      refine lv_aload_n hx hb d_SF_uncover_14 rfl (lv_at hl 1 rfl) ?_
      refine va_get (D := D) (ci := 1) (v := .ref (h 7)) (C := R_SF) (T := F_SF) (N := 6) hx hb hg i_SF hown hE.1 hP 0 rfl rfl 3 (by decide) (hg _ zw_43) (fun _ h9 => h9) rfl d_SF_uncover_15 ?_
      refine lv_iload hx hb d_SF_uncover_18 (lv_at hl 0 rfl) ?_
      refine zRd (rest := [.ref (h 5)]) (zrVN hS9 (c_RW_item l D cI cC cJ (h 7) (h 8) 120 n3 f3 (by omega) (by decide) (nI (a + j))) zc_RW_item (by decide) zw_65 zp_0 (by decide) (va_recv hE.1 hP (ci := 0) (q := (R_RW, F_RW, 2)) rfl (q0 := 7) rfl) (hP.sub [7, 8] rfl) hE rfl hl.1 rfl (Nat.le_of_ble_eq_true rfl) d_SF_uncover_20) ?_
      refine ztop (y := nI (B (a + j))) ((zs_item_in (by omega) (by omega)).trans (hB (a + j) (show a + j < n3 by omega)).1) ?_
      refine lv_iload_n hx hb d_SF_uncover_23 rfl (lv_at hl 2 rfl) ?_
      refine lv_iload_n hx hb d_SF_uncover_24 rfl (lv_at hl 3 rfl) ?_
      refine lv_iload hx hb d_SF_uncover_25 (lv_at hl 0 rfl) ?_
      refine lv_iload_n hx hb d_SF_uncover_27 rfl (lv_at hl 4 rfl) ?_
      refine lv_isub hx hb d_SF_uncover_28 ?_
      refine ztop (y := nI j) (by rw [pk_sub (by omega), Nat.add_sub_cancel_left]) ?_
      have hm8 : B (a + j) < 256 := (hB (a + j) (show a + j < n3 by omega)).2
      refine zRd (rest := [.ref (h 5)]) (zrS hS9 (c_SF_covered l D cI cC cJ (B (a + j)) f k j) zc_SF_covered zw_379 zw_380 (by decide) (trivial) hE rfl hl.1 rfl (Nat.le_of_ble_eq_true rfl) d_SF_uncover_29) ?_
      by_cases g : (zs_unc B f k a (n2, M) j).1 < 40
      · refine zWr (rest := []) (zrVN hS9 (c_RW_append l D cI cC cJ (h 5) (h 6) 40 ((zs_unc B f k a (n2, M) j).1) fx (by omega) (by decide) (fun z => absurd (hh 5 6 (by decide) (by decide) z) (by decide)) (nI (zs_cv (B (a + j)) f k j)) (g)) zc_RW_append (by decide) zw_77 zp_2 (by decide) (va_recv hE.1 hP (ci := 0) (q := (R_RW, F_RW, 2)) rfl (q0 := 5) rfl) (hP.sub [5, 6] rfl) hE rfl hl.1 rfl (Nat.le_of_ble_eq_true rfl) d_SF_uncover_32) hS (fun q _ h => zA2_in hD 5 6 rfl rfl q h) (fun q h => zA2_in hD 5 6 rfl rfl q h) (fun H locs hB1 hz hk hS => ?_)
        obtain ⟨hP, hD⟩ := zrow hP hD 5 6 rfl rfl (by decide) hk hB1
        have hP : va_P D zcl [((h 0), .inr (1, [.ref (h 1), .ref (h 3), .ref (h 5), .ref (h 7), .ref (h 9), .int rp])), ((h 1), .inr (0, [.ref (h 2), .int (nI n0)])), ((h 2), .inl (cI, 4, .inl f0)), ((h 3), .inr (0, [.ref (h 4), .int (nI n1)])), ((h 4), .inl (cI, 4, .inl f1)), ((h 5), .inr (0, [.ref (h 6), .int (nI ((zs_unc B f k a (n2, M) j).1 + 1))])), ((h 6), .inl (cI, 40, .inl (upd fx ((zs_unc B f k a (n2, M) j).1) (nI (zs_cv (B (a + j)) f k j))))), ((h 7), .inr (0, [.ref (h 8), .int (nI n3)])), ((h 8), .inl (cI, 120, .inl f3)), ((h 9), .inr (0, [.ref (h 10), .int (nI n4)])), ((h 10), .inl (cI, 160, .inl f4))] H := hP
        have hD : va_D (zAS h) [((h 0), .inr (1, [.ref (h 1), .ref (h 3), .ref (h 5), .ref (h 7), .ref (h 9), .int rp])), ((h 1), .inr (0, [.ref (h 2), .int (nI n0)])), ((h 2), .inl (cI, 4, .inl f0)), ((h 3), .inr (0, [.ref (h 4), .int (nI n1)])), ((h 4), .inl (cI, 4, .inl f1)), ((h 5), .inr (0, [.ref (h 6), .int (nI ((zs_unc B f k a (n2, M) j).1 + 1))])), ((h 6), .inl (cI, 40, .inl (upd fx ((zs_unc B f k a (n2, M) j).1) (nI (zs_cv (B (a + j)) f k j))))), ((h 7), .inr (0, [.ref (h 8), .int (nI n3)])), ((h 8), .inl (cI, 120, .inl f3)), ((h 9), .inr (0, [.ref (h 10), .int (nI n4)])), ((h 10), .inl (cI, 160, .inl f4))] := hD
        have hM : zs_hold 256 (upd fx ((zs_unc B f k a (n2, M) j).1) (nI (zs_cv (B (a + j)) f k j))) (zs_push (zs_unc B f k a (n2, M) j) (zs_cv (B (a + j)) f k j)) := zs_hold_push hM (zs_cv_lt hm8 f k j)
        generalize (upd fx ((zs_unc B f k a (n2, M) j).1) (nI (zs_cv (B (a + j)) f k j))) = fz at hP hD hM
        have hM : zs_hold 256 fz (zs_unc B f k a (n2, M) (j + 1)) := by rw [zs_unc, if_pos g]; exact hM
        have hP : va_P D zcl (zSf cI h n0 n1 ((zs_unc B f k a (n2, M) (j + 1)).1) n3 n4 f0 f1 fz f3 f4 rp) H := by rw [zs_unc, if_pos g]; exact hP
        refine lv_pop hx hb d_SF_uncover_35 rfl ?_
        refine lv_iinc (k := 0) (v := nI (a + (j + 1))) hx hb d_SF_uncover_36 hl rfl (nI_1 (a + j)) (by decide) (lv' := [(5, .int (nI (a + (j + 1)))), (0, .ref (h 0)), (1, .int f), (2, .int (nI k)), (3, .int (nI a)), (4, .int (nI b))]) rfl (fun ls hl => ?_)
        refine lv_goto hx hb d_SF_uncover_39 (tgt := 3) (by decide) ?_
        have hl : lv_has ls 6 [(5, .int (nI (a + (j + 1)))), (0, .ref (h 0)), (1, .int f), (2, .int (nI k)), (3, .int (nI a)), (4, .int (nI b))] := lv_sub hl [0, 1, 2, 3, 4, 5] rfl
        exact ih (j + 1) fz H locs (by omega) hM hP hS ls hl
      · have g2 : (zs_unc B f k a (n2, M) j).1 = 40 := by omega
        refine zWr (rest := []) (zrVN hS9 (c_RW_append_full l D cI cC cJ (h 5) (h 6) 40 (zs_unc B f k a (n2, M) j).1 fx (by omega) (by decide) (fun z => absurd (hh 5 6 (by decide) (by decide) z) (by decide)) (nI (zs_cv (B (a + j)) f k j)) g2) zc_RW_append (by decide) zw_77 zp_2 (by decide) (va_recv hE.1 hP (ci := 0) (q := (R_RW, F_RW, 2)) rfl (q0 := 5) rfl) (hP.sub [5, 6] rfl) hE rfl hl.1 rfl (Nat.le_of_ble_eq_true rfl) d_SF_uncover_32) hS (fun q _ h => zA2_in hD 5 6 rfl rfl q h) (fun q h => zA2_in hD 5 6 rfl rfl q h) (fun H locs hB1 hz hk hS => ?_)
        obtain ⟨hP, hD⟩ := zrow hP hD 5 6 rfl rfl (by decide) hk hB1
        have hP : va_P D zcl [((h 0), .inr (1, [.ref (h 1), .ref (h 3), .ref (h 5), .ref (h 7), .ref (h 9), .int rp])), ((h 1), .inr (0, [.ref (h 2), .int (nI n0)])), ((h 2), .inl (cI, 4, .inl f0)), ((h 3), .inr (0, [.ref (h 4), .int (nI n1)])), ((h 4), .inl (cI, 4, .inl f1)), ((h 5), .inr (0, [.ref (h 6), .int (nI ((zs_unc B f k a (n2, M) j).1))])), ((h 6), .inl (cI, 40, .inl fx)), ((h 7), .inr (0, [.ref (h 8), .int (nI n3)])), ((h 8), .inl (cI, 120, .inl f3)), ((h 9), .inr (0, [.ref (h 10), .int (nI n4)])), ((h 10), .inl (cI, 160, .inl f4))] H := hP
        have hD : va_D (zAS h) [((h 0), .inr (1, [.ref (h 1), .ref (h 3), .ref (h 5), .ref (h 7), .ref (h 9), .int rp])), ((h 1), .inr (0, [.ref (h 2), .int (nI n0)])), ((h 2), .inl (cI, 4, .inl f0)), ((h 3), .inr (0, [.ref (h 4), .int (nI n1)])), ((h 4), .inl (cI, 4, .inl f1)), ((h 5), .inr (0, [.ref (h 6), .int (nI ((zs_unc B f k a (n2, M) j).1))])), ((h 6), .inl (cI, 40, .inl fx)), ((h 7), .inr (0, [.ref (h 8), .int (nI n3)])), ((h 8), .inl (cI, 120, .inl f3)), ((h 9), .inr (0, [.ref (h 10), .int (nI n4)])), ((h 10), .inl (cI, 160, .inl f4))] := hD
        have hM : zs_hold 256 fx (zs_unc B f k a (n2, M) (j + 1)) := by rw [zs_unc, if_neg g]; exact hM
        have hP : va_P D zcl (zSf cI h n0 n1 ((zs_unc B f k a (n2, M) (j + 1)).1) n3 n4 f0 f1 fx f3 f4 rp) H := by rw [zs_unc, if_neg g]; exact hP
        refine lv_pop hx hb d_SF_uncover_35 rfl ?_
        refine lv_iinc (k := 0) (v := nI (a + (j + 1))) hx hb d_SF_uncover_36 hl rfl (nI_1 (a + j)) (by decide) (lv' := [(5, .int (nI (a + (j + 1)))), (0, .ref (h 0)), (1, .int f), (2, .int (nI k)), (3, .int (nI a)), (4, .int (nI b))]) rfl (fun ls hl => ?_)
        refine lv_goto hx hb d_SF_uncover_39 (tgt := 3) (by decide) ?_
        have hl : lv_has ls 6 [(5, .int (nI (a + (j + 1)))), (0, .ref (h 0)), (1, .int f), (2, .int (nI k)), (3, .int (nI a)), (4, .int (nI b))] := lv_sub hl [0, 1, 2, 3, 4, 5] rfl
        exact ih (j + 1) fx H locs (by omega) hM hP hS ls hl
  exact loop (b - a) 0 f2 s.heap [] (by omega) hM hP hS ls hl

set_option maxHeartbeats 4000000 in
set_option maxRecDepth 100000 in
theorem c_SF_draftBytes (l : Launch) (D : va_G) (cI cC cJ : ClassId) (h : Nat → Nat) (n0 n1 n2 n3 n4 : Nat) (f0 f1 f2 f3 f4 : Nat → Int32) (rp : Int32) (hn0 : n0 ≤ 4) (hn1 : n1 ≤ 4) (hn2 : n2 ≤ 40) (hn3 : n3 ≤ 120) (hn4 : n4 ≤ 160) : Met l y_SF_draftBytes (zw k_SF_draftBytes) ({ frames := 1, cells := 0, slots := 0, locals := 20 }) (zPc [.ref (h 0)] (fun H => va_P D zcl (zSf cI h n0 n1 n2 n3 n4 f0 f1 f2 f3 f4 rp) H) D cI cC cJ) (QcRead (nI (n4 * 6 / 8))) 0 0 (fun _ => False) := by
  refine zMet (by decide) (Nat.le_of_ble_eq_true rfl) ?_
  intro p e s m below meth c hx hb hr hg hown hlk hml hP hE ls hl
  have hl : lv_has ls 1 [(0, .ref (h 0))] := hl
  have hS9 : CallFix p m c b_SF_draftBytes 1 s [.ref (h 0)].toArray zg "SealedFiles" := ⟨hx, hb, hml, hown, hg⟩
  have hP : va_P D zcl [((h 0), .inr (1, [.ref (h 1), .ref (h 3), .ref (h 5), .ref (h 7), .ref (h 9), .int rp])), ((h 1), .inr (0, [.ref (h 2), .int (nI n0)])), ((h 2), .inl (cI, 4, .inl f0)), ((h 3), .inr (0, [.ref (h 4), .int (nI n1)])), ((h 4), .inl (cI, 4, .inl f1)), ((h 5), .inr (0, [.ref (h 6), .int (nI n2)])), ((h 6), .inl (cI, 40, .inl f2)), ((h 7), .inr (0, [.ref (h 8), .int (nI n3)])), ((h 8), .inl (cI, 120, .inl f3)), ((h 9), .inr (0, [.ref (h 10), .int (nI n4)])), ((h 10), .inl (cI, 160, .inl f4))] s.heap := hP
  refine lv_aload_n hx hb d_SF_draftBytes_0 rfl (lv_at hl 0 rfl) ?_
  refine va_get (D := D) (ci := 1) (v := .ref (h 9)) (C := R_SF) (T := F_SF) (N := 6) hx hb hg i_SF hown hE.1 hP 0 rfl rfl 4 (by decide) (hg _ zw_44) (fun _ h9 => h9) rfl d_SF_draftBytes_1 ?_
  refine zRd (rest := []) (zrVN hS9 (c_RW_size l D cI cC cJ (h 9) (h 10) 160 n4 f4 (by omega) (by decide)) zc_RW_size (by decide) zw_85 zp_3 (by decide) (va_recv hE.1 hP (ci := 0) (q := (R_RW, F_RW, 2)) rfl (q0 := 9) rfl) (hP.sub [9, 10] rfl) hE rfl hl.1 rfl (Nat.le_of_ble_eq_true rfl) d_SF_draftBytes_4) ?_
  refine lv_bipush (v := (nI 6)) hx hb d_SF_draftBytes_7 (by decide) ?_
  refine lv_imul hx hb d_SF_draftBytes_9 ?_
  refine lv_bipush (v := (nI 8)) hx hb d_SF_draftBytes_10 (by decide) ?_
  refine lv_idiv hx hb d_SF_draftBytes_12 (by decide) ?_
  exact W.iret (v := (((nI n4) * (nI 6)) / (nI 8))) hx hb hr (fun t ht _ => ⟨congrArg (fun z => Outcome.returned (some (Value.int z))) (zs_db (by omega)), ht⟩) t_nil d_SF_draftBytes_13
end
section
set_option maxHeartbeats 4000000 in
set_option maxRecDepth 100000 in
theorem c_SF_takePieces (l : Launch) (D : va_G) (cI cC cJ : ClassId) (h : Nat → Nat) (n0 n1 n2 n3 n4 : Nat) (f0 f1 f2 f3 f4 : Nat → Int32) (rp : Int32) (hn0 : n0 ≤ 4) (hn1 : n1 ≤ 4) (hn2 : n2 ≤ 40) (hn3 : n3 ≤ 120) (hn4 : n4 ≤ 160) (hh : zs_inj h) (B : Nat → Nat) (hB : zs_hold 256 f3 (n3, B)) (f : Int32) (ps : Nat) (hps : ps + 2 ≤ n3) (hrp : rp = nI 0) : Met l y_SF_takePieces (zw k_SF_takePieces) ({ frames := 4, cells := 0, slots := 0, locals := 96 }) (zPc [.ref (h 0), .int f, .int (nI ps)] (fun H => va_P D zcl (zSf cI h n0 n1 n2 n3 n4 f0 f1 f2 f3 f4 rp) H) D cI cC cJ) (zQm (some (.int (zs_take B n3 f ps ((n3 - ps - 1) / 10 + 1) 0 (0, fun _ => 0)).1)) (fun H => ∃ f2' : Nat → Int32, zs_hold 256 f2' (zs_take B n3 f ps ((n3 - ps - 1) / 10 + 1) 0 (0, fun _ => 0)).2.2 ∧ va_P D zcl (zSf cI h n0 n1 ((zs_take B n3 f ps ((n3 - ps - 1) / 10 + 1) 0 (0, fun _ => 0)).2.2.1) n3 n4 f0 f1 (f2') f3 f4 (nI (zs_take B n3 f ps ((n3 - ps - 1) / 10 + 1) 0 (0, fun _ => 0)).2.1)) H) (zAS h)) 0 0 (zAS h) := by
  refine zMet (by decide) (Nat.le_of_ble_eq_true rfl) ?_
  intro p e s m below meth c hx hb hr hg hown hlk hml hP hE ls hl
  have hl : lv_has ls 10 [(0, .ref (h 0)), (1, .int f), (2, .int (nI ps))] := hl
  have hS9 : CallFix p m c b_SF_takePieces 10 s [.ref (h 0), .int f, .int (nI ps)].toArray zg "SealedFiles" := ⟨hx, hb, hml, hown, hg⟩
  have hP : va_P D zcl [((h 0), .inr (1, [.ref (h 1), .ref (h 3), .ref (h 5), .ref (h 7), .ref (h 9), .int rp])), ((h 1), .inr (0, [.ref (h 2), .int (nI n0)])), ((h 2), .inl (cI, 4, .inl f0)), ((h 3), .inr (0, [.ref (h 4), .int (nI n1)])), ((h 4), .inl (cI, 4, .inl f1)), ((h 5), .inr (0, [.ref (h 6), .int (nI n2)])), ((h 6), .inl (cI, 40, .inl f2)), ((h 7), .inr (0, [.ref (h 8), .int (nI n3)])), ((h 8), .inl (cI, 120, .inl f3)), ((h 9), .inr (0, [.ref (h 10), .int (nI n4)])), ((h 10), .inl (cI, 160, .inl f4))] s.heap := hP
  have hD : va_D (zAS h) [((h 0), .inr (1, [.ref (h 1), .ref (h 3), .ref (h 5), .ref (h 7), .ref (h 9), .int rp])), ((h 1), .inr (0, [.ref (h 2), .int (nI n0)])), ((h 2), .inl (cI, 4, .inl f0)), ((h 3), .inr (0, [.ref (h 4), .int (nI n1)])), ((h 4), .inl (cI, 4, .inl f1)), ((h 5), .inr (0, [.ref (h 6), .int (nI n2)])), ((h 6), .inl (cI, 40, .inl f2)), ((h 7), .inr (0, [.ref (h 8), .int (nI n3)])), ((h 8), .inl (cI, 120, .inl f3)), ((h 9), .inr (0, [.ref (h 10), .int (nI n4)])), ((h 10), .inl (cI, 160, .inl f4))] := zSf_D hh
  have hS : va_S (zAS h) s.heap s.heap [] := va_S.rf
  subst hrp
  refine lv_aload_n hx hb d_SF_takePieces_0 rfl (lv_at hl 0 rfl) ?_
  refine va_get (D := D) (ci := 1) (v := .ref (h 5)) (C := R_SF) (T := F_SF) (N := 6) hx hb hg i_SF hown hE.1 hP 0 rfl rfl 2 (by decide) (hg _ zw_42) (fun _ h9 => h9) rfl d_SF_takePieces_1 ?_
  refine lv_iconst (v := (nI 0)) hx hb d_SF_takePieces_4 (by decide) ?_
  refine zWr (rest := []) (zrVN hS9 (c_RW_clear l D cI cC cJ (h 5) (h 6) 40 n2 f2 (by omega) (by decide) (fun z => absurd (hh 5 6 (by decide) (by decide) z) (by decide))) zc_RW_shorten (by decide) zw_89 zp_4 (by decide) (va_recv hE.1 hP (ci := 0) (q := (R_RW, F_RW, 2)) rfl (q0 := 5) rfl) (hP.sub [5, 6] rfl) hE rfl hl.1 rfl (Nat.le_of_ble_eq_true rfl) d_SF_takePieces_5) hS (fun q _ h => zA2_in hD 5 6 rfl rfl q h) (fun q h => zA2_in hD 5 6 rfl rfl q h) (fun H locs hB1 hz hk hS => ?_)
  obtain ⟨hP, hD⟩ := zrow hP hD 5 6 rfl rfl (by decide) hk hB1
  have hP : va_P D zcl [((h 0), .inr (1, [.ref (h 1), .ref (h 3), .ref (h 5), .ref (h 7), .ref (h 9), .int (nI 0)])), ((h 1), .inr (0, [.ref (h 2), .int (nI n0)])), ((h 2), .inl (cI, 4, .inl f0)), ((h 3), .inr (0, [.ref (h 4), .int (nI n1)])), ((h 4), .inl (cI, 4, .inl f1)), ((h 5), .inr (0, [.ref (h 6), .int (nI 0)])), ((h 6), .inl (cI, 40, .inl f2)), ((h 7), .inr (0, [.ref (h 8), .int (nI n3)])), ((h 8), .inl (cI, 120, .inl f3)), ((h 9), .inr (0, [.ref (h 10), .int (nI n4)])), ((h 10), .inl (cI, 160, .inl f4))] H := hP
  have hD : va_D (zAS h) [((h 0), .inr (1, [.ref (h 1), .ref (h 3), .ref (h 5), .ref (h 7), .ref (h 9), .int (nI 0)])), ((h 1), .inr (0, [.ref (h 2), .int (nI n0)])), ((h 2), .inl (cI, 4, .inl f0)), ((h 3), .inr (0, [.ref (h 4), .int (nI n1)])), ((h 4), .inl (cI, 4, .inl f1)), ((h 5), .inr (0, [.ref (h 6), .int (nI 0)])), ((h 6), .inl (cI, 40, .inl f2)), ((h 7), .inr (0, [.ref (h 8), .int (nI n3)])), ((h 8), .inl (cI, 120, .inl f3)), ((h 9), .inr (0, [.ref (h 10), .int (nI n4)])), ((h 10), .inl (cI, 160, .inl f4))] := hD
  refine lv_pop hx hb d_SF_takePieces_8 rfl ?_
  refine lv_bipush (v := (nI 10)) hx hb d_SF_takePieces_9 (by decide) ?_
  refine lv_istore_n hx hb d_SF_takePieces_11 rfl hl (by decide) (lv' := [(3, .int (nI 10)), (0, .ref (h 0)), (1, .int f), (2, .int (nI ps))]) rfl (fun ls hl => ?_)
  refine lv_aload_n hx hb d_SF_takePieces_12 rfl (lv_at hl 1 rfl) ?_
  refine va_get (D := D) (ci := 1) (v := .ref (h 7)) (C := R_SF) (T := F_SF) (N := 6) hx hb hg i_SF hown hE.1 hP 0 rfl rfl 3 (by decide) (hg _ zw_43) (fun _ h9 => h9) rfl d_SF_takePieces_13 ?_
  refine zRd (rest := []) (zrVN hS9 (c_RW_size l D cI cC cJ (h 7) (h 8) 120 n3 f3 (by omega) (by decide)) zc_RW_size (by decide) zw_85 zp_3 (by decide) (va_recv hE.1 hP (ci := 0) (q := (R_RW, F_RW, 2)) rfl (q0 := 7) rfl) (hP.sub [7, 8] rfl) hE rfl hl.1 rfl (Nat.le_of_ble_eq_true rfl) d_SF_takePieces_16) ?_
  refine lv_iload_n hx hb d_SF_takePieces_19 rfl (lv_at hl 3 rfl) ?_
  refine lv_isub hx hb d_SF_takePieces_20 ?_
  refine ztop (y := nI (n3 - ps)) (pk_sub (by omega)) ?_
  refine lv_iconst (v := (nI 1)) hx hb d_SF_takePieces_21 (by decide) ?_
  refine lv_isub hx hb d_SF_takePieces_22 ?_
  refine ztop (y := nI (n3 - ps - 1)) (pk_sub (by omega)) ?_
  refine lv_iload_n hx hb d_SF_takePieces_23 rfl (lv_at hl 0 rfl) ?_
  refine lv_idiv hx hb d_SF_takePieces_24 (by decide) ?_
  refine ztop (y := nI ((n3 - ps - 1) / 10)) (pk_div (by omega) (by decide) (by decide)) ?_
  refine lv_istore hx hb d_SF_takePieces_25 hl (by decide) (lv' := [(4, .int (nI ((n3 - ps - 1) / 10))), (3, .int (nI 10)), (0, .ref (h 0)), (1, .int f), (2, .int (nI ps))]) rfl (fun ls hl => ?_)
  refine lv_iconst (v := (nI 0)) hx hb d_SF_takePieces_27 (by decide) ?_
  refine lv_istore hx hb d_SF_takePieces_28 hl (by decide) (lv' := [(5, .int (nI 0)), (4, .int (nI ((n3 - ps - 1) / 10))), (3, .int (nI 10)), (0, .ref (h 0)), (1, .int f), (2, .int (nI ps))]) rfl (fun ls hl => ?_)
  have hl : lv_has ls 10 [(5, .int (nI 0)), (4, .int (nI ((n3 - ps - 1) / 10))), (3, .int (nI 10)), (0, .ref (h 0)), (1, .int f), (2, .int (nI ps))] := lv_sub hl [0, 1, 2, 3, 4, 5] rfl
  have loop : ∀ (k : Nat) (i : Nat) (F : zs_F) (fx : Nat → Int32) (H : Heap) (locs : List Loc), i + k = (n3 - ps - 1) / 10 + 1 → F.1 ≤ 40 → zs_take B n3 f ps k i F = (zs_take B n3 f ps ((n3 - ps - 1) / 10 + 1) 0 (0, fun _ => 0)) → zs_hold 256 fx F → va_P D zcl (zSf cI h n0 n1 F.1 n3 n4 f0 f1 fx f3 f4 (nI i)) H → va_S (zAS h) s.heap H locs → ∀ ls : Array Slot, lv_has ls 10 [(5, .int (nI i)), (4, .int (nI ((n3 - ps - 1) / 10))), (3, .int (nI 10)), (0, .ref (h 0)), (1, .int f), (2, .int (nI ps))] → W p l e ({ frames := 4, cells := 0, slots := 0, locals := 96 }) s m [.ref (h 0), .int f, .int (nI ps)].toArray below meth c H locs 0 0 (MQ below (zQm (some (.int (zs_take B n3 f ps ((n3 - ps - 1) / 10 + 1) 0 (0, fun _ => 0)).1)) (fun H => ∃ f2' : Nat → Int32, zs_hold 256 f2' (zs_take B n3 f ps ((n3 - ps - 1) / 10 + 1) 0 (0, fun _ => 0)).2.2 ∧ va_P D zcl (zSf cI h n0 n1 ((zs_take B n3 f ps ((n3 - ps - 1) / 10 + 1) 0 (0, fun _ => 0)).2.2.1) n3 n4 f0 f1 (f2') f3 f4 (nI (zs_take B n3 f ps ((n3 - ps - 1) / 10 + 1) 0 (0, fun _ => 0)).2.1)) H) (zAS h)) [.ref (h 0), .int f, .int (nI ps)].toArray s 0 0 (zAS h)) (F0 m 30 ls []) := by
    intro k
    induction k with
    | zero =>
      intro i F fx H locs hi hF he hM hP hS ls hl
      have hP : va_P D zcl [((h 0), .inr (1, [.ref (h 1), .ref (h 3), .ref (h 5), .ref (h 7), .ref (h 9), .int (nI i)])), ((h 1), .inr (0, [.ref (h 2), .int (nI n0)])), ((h 2), .inl (cI, 4, .inl f0)), ((h 3), .inr (0, [.ref (h 4), .int (nI n1)])), ((h 4), .inl (cI, 4, .inl f1)), ((h 5), .inr (0, [.ref (h 6), .int (nI F.1)])), ((h 6), .inl (cI, 40, .inl fx)), ((h 7), .inr (0, [.ref (h 8), .int (nI n3)])), ((h 8), .inl (cI, 120, .inl f3)), ((h 9), .inr (0, [.ref (h 10), .int (nI n4)])), ((h 10), .inl (cI, 160, .inl f4))] H := hP
      have hD : va_D (zAS h) [((h 0), .inr (1, [.ref (h 1), .ref (h 3), .ref (h 5), .ref (h 7), .ref (h 9), .int (nI i)])), ((h 1), .inr (0, [.ref (h 2), .int (nI n0)])), ((h 2), .inl (cI, 4, .inl f0)), ((h 3), .inr (0, [.ref (h 4), .int (nI n1)])), ((h 4), .inl (cI, 4, .inl f1)), ((h 5), .inr (0, [.ref (h 6), .int (nI F.1)])), ((h 6), .inl (cI, 40, .inl fx)), ((h 7), .inr (0, [.ref (h 8), .int (nI n3)])), ((h 8), .inl (cI, 120, .inl f3)), ((h 9), .inr (0, [.ref (h 10), .int (nI n4)])), ((h 10), .inl (cI, 160, .inl f4))] := zSf_D hh
      refine lv_iload hx hb d_SF_takePieces_30 (lv_at hl 0 rfl) ?_
      refine lv_iload hx hb d_SF_takePieces_32 (lv_at hl 1 rfl) ?_
      refine lv_icmp_gt hx hb d_SF_takePieces_34 (tgt := 183) (by decide) (fun _ => ?_) (fun z9 => absurd (nI_lt (by omega) (by omega)) z9)
      refine lv_aload_n hx hb d_SF_takePieces_183 rfl (lv_at hl 3 rfl) ?_
      refine va_get (D := D) (ci := 1) (v := .ref (h 5)) (C := R_SF) (T := F_SF) (N := 6) hx hb hg i_SF hown hE.1 hP 0 rfl rfl 2 (by decide) (hg _ zw_42) (fun _ h9 => h9) rfl d_SF_takePieces_184 ?_
      refine zRd (rest := []) (zrVN hS9 (c_RW_size l D cI cC cJ (h 5) (h 6) 40 F.1 fx (by omega) (by decide)) zc_RW_size (by decide) zw_85 zp_3 (by decide) (va_recv hE.1 hP (ci := 0) (q := (R_RW, F_RW, 2)) rfl (q0 := 5) rfl) (hP.sub [5, 6] rfl) hE rfl hl.1 rfl (Nat.le_of_ble_eq_true rfl) d_SF_takePieces_187) ?_
      exact W.iret (v := (nI F.1)) hx hb hr (fun t ht _ => ⟨congrArg (fun z => Outcome.returned (some (Value.int z))) (by rw [← he]; rfl), by rw [ht]; rw [← he]; exact ⟨fx, hM, hP⟩, hS.F ht⟩) hS.2.2 d_SF_takePieces_190
    | succ k ih =>
      intro i F fx H locs hi hF he hM hP hS ls hl
      have hP : va_P D zcl [((h 0), .inr (1, [.ref (h 1), .ref (h 3), .ref (h 5), .ref (h 7), .ref (h 9), .int (nI i)])), ((h 1), .inr (0, [.ref (h 2), .int (nI n0)])), ((h 2), .inl (cI, 4, .inl f0)), ((h 3), .inr (0, [.ref (h 4), .int (nI n1)])), ((h 4), .inl (cI, 4, .inl f1)), ((h 5), .inr (0, [.ref (h 6), .int (nI F.1)])), ((h 6), .inl (cI, 40, .inl fx)), ((h 7), .inr (0, [.ref (h 8), .int (nI n3)])), ((h 8), .inl (cI, 120, .inl f3)), ((h 9), .inr (0, [.ref (h 10), .int (nI n4)])), ((h 10), .inl (cI, 160, .inl f4))] H := hP
      have hD : va_D (zAS h) [((h 0), .inr (1, [.ref (h 1), .ref (h 3), .ref (h 5), .ref (h 7), .ref (h 9), .int (nI i)])), ((h 1), .inr (0, [.ref (h 2), .int (nI n0)])), ((h 2), .inl (cI, 4, .inl f0)), ((h 3), .inr (0, [.ref (h 4), .int (nI n1)])), ((h 4), .inl (cI, 4, .inl f1)), ((h 5), .inr (0, [.ref (h 6), .int (nI F.1)])), ((h 6), .inl (cI, 40, .inl fx)), ((h 7), .inr (0, [.ref (h 8), .int (nI n3)])), ((h 8), .inl (cI, 120, .inl f3)), ((h 9), .inr (0, [.ref (h 10), .int (nI n4)])), ((h 10), .inl (cI, 160, .inl f4))] := zSf_D hh
      refine lv_iload hx hb d_SF_takePieces_30 (lv_at hl 0 rfl) ?_
      refine lv_iload hx hb d_SF_takePieces_32 (lv_at hl 1 rfl) ?_
      refine lv_icmp_gt hx hb d_SF_takePieces_34 (tgt := 183) (by decide) (fun z9 => absurd z9 (nI_nlt (by omega) (by omega))) (fun _ => ?_)
      refine lv_iload hx hb d_SF_takePieces_37 (lv_at hl 0 rfl) ?_
      refine lv_iload hx hb d_SF_takePieces_39 (lv_at hl 1 rfl) ?_
      have rest : ∀ ls : Array Slot, lv_has ls 10 [(5, .int (nI i)), (4, .int (nI ((n3 - ps - 1) / 10))), (3, .int (nI 10)), (0, .ref (h 0)), (1, .int f), (2, .int (nI ps))] → W p l e ({ frames := 4, cells := 0, slots := 0, locals := 96 }) s m [.ref (h 0), .int f, .int (nI ps)].toArray below meth c H locs 0 0 (MQ below (zQm (some (.int (zs_take B n3 f ps ((n3 - ps - 1) / 10 + 1) 0 (0, fun _ => 0)).1)) (fun H => ∃ f2' : Nat → Int32, zs_hold 256 f2' (zs_take B n3 f ps ((n3 - ps - 1) / 10 + 1) 0 (0, fun _ => 0)).2.2 ∧ va_P D zcl (zSf cI h n0 n1 ((zs_take B n3 f ps ((n3 - ps - 1) / 10 + 1) 0 (0, fun _ => 0)).2.2.1) n3 n4 f0 f1 (f2') f3 f4 (nI (zs_take B n3 f ps ((n3 - ps - 1) / 10 + 1) 0 (0, fun _ => 0)).2.1)) H) (zAS h)) [.ref (h 0), .int f, .int (nI ps)].toArray s 0 0 (zAS h)) (F0 m 49 ls [.int (nI (zs_tl n3 ps i))]) := by
        intro ls hl
        refine lv_istore hx hb d_SF_takePieces_49 hl (by decide) (lv' := [(6, .int (nI (zs_tl n3 ps i))), (5, .int (nI i)), (4, .int (nI ((n3 - ps - 1) / 10))), (3, .int (nI 10)), (0, .ref (h 0)), (1, .int f), (2, .int (nI ps))]) rfl (fun ls hl => ?_)
        refine lv_iload_n hx hb d_SF_takePieces_51 rfl (lv_at hl 6 rfl) ?_
        refine lv_iload hx hb d_SF_takePieces_52 (lv_at hl 1 rfl) ?_
        refine lv_iload_n hx hb d_SF_takePieces_54 rfl (lv_at hl 3 rfl) ?_
        refine lv_imul hx hb d_SF_takePieces_55 ?_
        refine lv_iadd hx hb d_SF_takePieces_56 ?_
        refine ztop (y := nI (ps + 10 * i)) (by rw [pk_mul, nI_add, Nat.mul_comm]) ?_
        refine lv_istore hx hb d_SF_takePieces_57 hl (by decide) (lv' := [(7, .int (nI (ps + 10 * i))), (6, .int (nI (zs_tl n3 ps i))), (5, .int (nI i)), (4, .int (nI ((n3 - ps - 1) / 10))), (3, .int (nI 10)), (0, .ref (h 0)), (1, .int f), (2, .int (nI ps))]) rfl (fun ls hl => ?_)
        refine lv_iload hx hb d_SF_takePieces_59 (lv_at hl 1 rfl) ?_
        have rest2 : ∀ ls : Array Slot, lv_has ls 10 [(7, .int (nI (ps + 10 * i))), (6, .int (nI (zs_tl n3 ps i))), (5, .int (nI i)), (4, .int (nI ((n3 - ps - 1) / 10))), (3, .int (nI 10)), (0, .ref (h 0)), (1, .int f), (2, .int (nI ps))] → W p l e ({ frames := 4, cells := 0, slots := 0, locals := 96 }) s m [.ref (h 0), .int f, .int (nI ps)].toArray below meth c H locs 0 0 (MQ below (zQm (some (.int (zs_take B n3 f ps ((n3 - ps - 1) / 10 + 1) 0 (0, fun _ => 0)).1)) (fun H => ∃ f2' : Nat → Int32, zs_hold 256 f2' (zs_take B n3 f ps ((n3 - ps - 1) / 10 + 1) 0 (0, fun _ => 0)).2.2 ∧ va_P D zcl (zSf cI h n0 n1 ((zs_take B n3 f ps ((n3 - ps - 1) / 10 + 1) 0 (0, fun _ => 0)).2.2.1) n3 n4 f0 f1 (f2') f3 f4 (nI (zs_take B n3 f ps ((n3 - ps - 1) / 10 + 1) 0 (0, fun _ => 0)).2.1)) H) (zAS h)) [.ref (h 0), .int f, .int (nI ps)].toArray s 0 0 (zAS h)) (F0 m 81 ls [.int (nI (zs_te n3 ps i))]) := by
          intro ls hl
          refine lv_istore hx hb d_SF_takePieces_81 hl (by decide) (lv' := [(8, .int (nI (zs_te n3 ps i))), (7, .int (nI (ps + 10 * i))), (6, .int (nI (zs_tl n3 ps i))), (5, .int (nI i)), (4, .int (nI ((n3 - ps - 1) / 10))), (3, .int (nI 10)), (0, .ref (h 0)), (1, .int f), (2, .int (nI ps))]) rfl (fun ls hl => ?_)
          refine lv_iload hx hb d_SF_takePieces_83 (lv_at hl 0 rfl) ?_
          refine lv_iload hx hb d_SF_takePieces_85 (lv_at hl 1 rfl) ?_
          by_cases g1 : n3 < ps + 10 * i + 2
          · have hte : (zs_te n3 ps i) = n3 - 2 := by rw [zs_te, if_pos (by omega)]
            refine lv_icmp_ge hx hb d_SF_takePieces_87 (tgt := 93) (by decide) (fun z9 => absurd z9 (by rw [hte]; exact nI_ge (by omega) (by omega))) (fun _ => ?_)
            refine lv_bipush (v := (-4)) hx hb d_SF_takePieces_90 (by decide) ?_
            rw [zs_take, if_pos g1] at he
            exact W.iret (v := (-4)) hx hb hr (fun t ht _ => ⟨congrArg (fun z => Outcome.returned (some (Value.int z))) (by rw [← he]), by rw [ht]; rw [← he]; exact ⟨fx, hM, hP⟩, hS.F ht⟩) hS.2.2 d_SF_takePieces_92
          · have hte : ps + 10 * i ≤ (zs_te n3 ps i) ∧ (zs_te n3 ps i) + 2 ≤ n3 := by unfold zs_te; split <;> omega
            have htl : (zs_tl n3 ps i) < 2 := by unfold zs_tl; split <;> decide
            rw [zs_take, if_neg g1] at he
            have l1 : zs_two B (zs_te n3 ps i) < 65536 := zs_two_lt (hB _ (show (zs_te n3 ps i) < n3 by omega)).2 (hB _ (show (zs_te n3 ps i) + 1 < n3 by omega)).2
            refine lv_icmp_ge hx hb d_SF_takePieces_87 (tgt := 93) (by decide) (fun _ => ?_) (fun z9 => absurd (nI_le hte.1 (by omega)) z9)
            refine lv_aload_n hx hb d_SF_takePieces_93 rfl (lv_at hl 6 rfl) ?_
            refine va_get (D := D) (ci := 1) (v := .ref (h 7)) (C := R_SF) (T := F_SF) (N := 6) hx hb hg i_SF hown hE.1 hP 0 rfl rfl 3 (by decide) (hg _ zw_43) (fun _ h9 => h9) rfl d_SF_takePieces_94 ?_
            refine lv_iload hx hb d_SF_takePieces_97 (lv_at hl 0 rfl) ?_
            refine zRd (rest := []) (zrVN hS9 (c_RW_pair l D cI cC cJ (h 7) (h 8) 120 n3 f3 (by omega) (by decide) (nI (zs_te n3 ps i))) zc_RW_pair (by decide) zw_412 zp_18 (by decide) (va_recv hE.1 hP (ci := 0) (q := (R_RW, F_RW, 2)) rfl (q0 := 7) rfl) (hP.sub [7, 8] rfl) hE rfl hl.1 rfl (Nat.le_of_ble_eq_true rfl) d_SF_takePieces_99) ?_
            refine ztop (y := nI (zs_two B (zs_te n3 ps i))) (zs_pair_in hB (by omega) (by omega)) ?_
            refine lv_istore hx hb d_SF_takePieces_102 hl (by decide) (lv' := [(9, .int (nI (zs_two B (zs_te n3 ps i)))), (8, .int (nI (zs_te n3 ps i))), (7, .int (nI (ps + 10 * i))), (6, .int (nI (zs_tl n3 ps i))), (5, .int (nI i)), (4, .int (nI ((n3 - ps - 1) / 10))), (3, .int (nI 10)), (0, .ref (h 0)), (1, .int f), (2, .int (nI ps))]) rfl (fun ls hl => ?_)
            refine lv_iload hx hb d_SF_takePieces_104 (lv_at hl 0 rfl) ?_
            refine lv_aload_n hx hb d_SF_takePieces_106 rfl (lv_at hl 7 rfl) ?_
            refine lv_iload_n hx hb d_SF_takePieces_107 rfl (lv_at hl 8 rfl) ?_
            refine lv_iload hx hb d_SF_takePieces_108 (lv_at hl 4 rfl) ?_
            refine lv_iload hx hb d_SF_takePieces_110 (lv_at hl 2 rfl) ?_
            refine lv_iload hx hb d_SF_takePieces_112 (lv_at hl 1 rfl) ?_
            refine lv_iload hx hb d_SF_takePieces_114 (lv_at hl 3 rfl) ?_
            refine zRd (rest := [.int (nI (zs_two B (zs_te n3 ps i)))]) (zrV hS9 (c_SF_pieceSign l D cI cC cJ h n0 n1 F.1 n3 n4 f0 f1 fx f3 f4 (nI i) (by omega) (by omega) (by omega) (by omega) (by omega) B hB f i (ps + 10 * i) (zs_te n3 ps i) (zs_tl n3 ps i) hte.1 (by omega) (htl)) zc_SF_pieceSign zw_382 zw_384 zp_13 (by decide) (va_recv hE.1 hP (ci := 1) (q := (R_SF, F_SF, 6)) rfl (q0 := 0) rfl) (hP) hE rfl hl.1 rfl (Nat.le_of_ble_eq_true rfl) d_SF_takePieces_116) ?_
            have l2 := zs_sg_lt B (ps + 10 * i) (zs_te n3 ps i) (zs_word f (nI i) (zs_use (zs_tl n3 ps i)))
            by_cases g2 : zs_two B (zs_te n3 ps i) = zs_sg B (ps + 10 * i) (zs_te n3 ps i) (zs_word f (nI i) (zs_use (zs_tl n3 ps i)))
            · rw [if_pos g2] at he
              refine lv_icmp_eq hx hb d_SF_takePieces_119 (tgt := 156) (by decide) (fun _ => ?_) (fun z9 => absurd (by rw [g2]) z9)
              refine lv_aload_n hx hb d_SF_takePieces_156 rfl (lv_at hl 7 rfl) ?_
              refine lv_iload_n hx hb d_SF_takePieces_157 rfl (lv_at hl 8 rfl) ?_
              refine lv_iload hx hb d_SF_takePieces_158 (lv_at hl 4 rfl) ?_
              refine lv_iload hx hb d_SF_takePieces_160 (lv_at hl 2 rfl) ?_
              refine lv_iload hx hb d_SF_takePieces_162 (lv_at hl 1 rfl) ?_
              refine zWr (rest := []) (zrV hS9 (c_SF_uncover l D cI cC cJ h n0 n1 F.1 n3 n4 f0 f1 fx f3 f4 (nI i) (by omega) (by omega) (by omega) (by omega) (by omega) hh B hB F.2 hM f i (ps + 10 * i) (zs_te n3 ps i) hte.1 (by omega)) zc_SF_uncover zw_422 zw_424 zp_21 (by decide) (va_recv hE.1 hP (ci := 1) (q := (R_SF, F_SF, 6)) rfl (q0 := 0) rfl) (hP) hE rfl hl.1 rfl (Nat.le_of_ble_eq_true rfl) d_SF_takePieces_164) hS (fun _ _ h => h) (fun _ h => h) (fun H locs hB1 hz hk hS => ?_)
              obtain ⟨fz, hM, hP⟩ := hB1
              have hP : va_P D zcl [((h 0), .inr (1, [.ref (h 1), .ref (h 3), .ref (h 5), .ref (h 7), .ref (h 9), .int (nI i)])), ((h 1), .inr (0, [.ref (h 2), .int (nI n0)])), ((h 2), .inl (cI, 4, .inl f0)), ((h 3), .inr (0, [.ref (h 4), .int (nI n1)])), ((h 4), .inl (cI, 4, .inl f1)), ((h 5), .inr (0, [.ref (h 6), .int (nI ((zs_unc B f i (ps + 10 * i) F ((zs_te n3 ps i) - (ps + 10 * i))).1))])), ((h 6), .inl (cI, 40, .inl fz)), ((h 7), .inr (0, [.ref (h 8), .int (nI n3)])), ((h 8), .inl (cI, 120, .inl f3)), ((h 9), .inr (0, [.ref (h 10), .int (nI n4)])), ((h 10), .inl (cI, 160, .inl f4))] H := hP
              have hD : va_D (zAS h) [((h 0), .inr (1, [.ref (h 1), .ref (h 3), .ref (h 5), .ref (h 7), .ref (h 9), .int (nI i)])), ((h 1), .inr (0, [.ref (h 2), .int (nI n0)])), ((h 2), .inl (cI, 4, .inl f0)), ((h 3), .inr (0, [.ref (h 4), .int (nI n1)])), ((h 4), .inl (cI, 4, .inl f1)), ((h 5), .inr (0, [.ref (h 6), .int (nI ((zs_unc B f i (ps + 10 * i) F ((zs_te n3 ps i) - (ps + 10 * i))).1))])), ((h 6), .inl (cI, 40, .inl fz)), ((h 7), .inr (0, [.ref (h 8), .int (nI n3)])), ((h 8), .inl (cI, 120, .inl f3)), ((h 9), .inr (0, [.ref (h 10), .int (nI n4)])), ((h 10), .inl (cI, 160, .inl f4))] := zSf_D hh
              have hM : zs_hold 256 fz (zs_unc B f i (ps + 10 * i) F ((zs_te n3 ps i) - (ps + 10 * i))) := hM
              refine lv_aload_n hx hb d_SF_takePieces_167 rfl (lv_at hl 7 rfl) ?_
              refine lv_dup hx hb d_SF_takePieces_168 rfl ?_
              refine va_get (D := D) (ci := 1) (v := .int (nI i)) (C := R_SF) (T := F_SF) (N := 6) hx hb hg i_SF hown hE.1 hP 0 rfl rfl 5 (by decide) (hg _ zw_45) (fun _ h9 => h9) rfl d_SF_takePieces_169 ?_
              refine lv_iconst (v := (nI 1)) hx hb d_SF_takePieces_172 (by decide) ?_
              refine lv_iadd hx hb d_SF_takePieces_173 ?_
              refine ztop (y := nI (i + 1)) (nI_1 i) ?_
              refine va_put (D := D) (ci := 1) (v := .int (nI (i + 1))) (ty := .int) (C := R_SF) (T := F_SF) (N := 6) hx hb hg i_SF t_SF t_SF_ok n_SF hown hE.1 hP hD hS 0 rfl rfl 5 (by decide) (hg _ zw_45) (fun _ h9 => h9) rfl (by decide +kernel) rfl rfl (Nat.le_of_ble_eq_true rfl) d_SF_takePieces_174 (fun H locs hP hD hS => ?_)
              have hP : va_P D zcl [((h 0), .inr (1, [.ref (h 1), .ref (h 3), .ref (h 5), .ref (h 7), .ref (h 9), .int (nI (i + 1))])), ((h 1), .inr (0, [.ref (h 2), .int (nI n0)])), ((h 2), .inl (cI, 4, .inl f0)), ((h 3), .inr (0, [.ref (h 4), .int (nI n1)])), ((h 4), .inl (cI, 4, .inl f1)), ((h 5), .inr (0, [.ref (h 6), .int (nI ((zs_unc B f i (ps + 10 * i) F ((zs_te n3 ps i) - (ps + 10 * i))).1))])), ((h 6), .inl (cI, 40, .inl fz)), ((h 7), .inr (0, [.ref (h 8), .int (nI n3)])), ((h 8), .inl (cI, 120, .inl f3)), ((h 9), .inr (0, [.ref (h 10), .int (nI n4)])), ((h 10), .inl (cI, 160, .inl f4))] H := hP
              have hD : va_D (zAS h) [((h 0), .inr (1, [.ref (h 1), .ref (h 3), .ref (h 5), .ref (h 7), .ref (h 9), .int (nI (i + 1))])), ((h 1), .inr (0, [.ref (h 2), .int (nI n0)])), ((h 2), .inl (cI, 4, .inl f0)), ((h 3), .inr (0, [.ref (h 4), .int (nI n1)])), ((h 4), .inl (cI, 4, .inl f1)), ((h 5), .inr (0, [.ref (h 6), .int (nI ((zs_unc B f i (ps + 10 * i) F ((zs_te n3 ps i) - (ps + 10 * i))).1))])), ((h 6), .inl (cI, 40, .inl fz)), ((h 7), .inr (0, [.ref (h 8), .int (nI n3)])), ((h 8), .inl (cI, 120, .inl f3)), ((h 9), .inr (0, [.ref (h 10), .int (nI n4)])), ((h 10), .inl (cI, 160, .inl f4))] := hD
              refine lv_iinc (k := 4) (v := nI (i + 1)) hx hb d_SF_takePieces_177 hl rfl (nI_1 i) (by decide) (lv' := [(5, .int (nI (i + 1))), (9, .int (nI (zs_two B (zs_te n3 ps i)))), (8, .int (nI (zs_te n3 ps i))), (7, .int (nI (ps + 10 * i))), (6, .int (nI (zs_tl n3 ps i))), (4, .int (nI ((n3 - ps - 1) / 10))), (3, .int (nI 10)), (0, .ref (h 0)), (1, .int f), (2, .int (nI ps))]) rfl (fun ls hl => ?_)
              refine lv_goto hx hb d_SF_takePieces_180 (tgt := 30) (by decide) ?_
              have hl : lv_has ls 10 [(5, .int (nI (i + 1))), (4, .int (nI ((n3 - ps - 1) / 10))), (3, .int (nI 10)), (0, .ref (h 0)), (1, .int f), (2, .int (nI ps))] := lv_sub hl [0, 5, 6, 7, 8, 9] rfl
              exact ih (i + 1) (zs_unc B f i (ps + 10 * i) F ((zs_te n3 ps i) - (ps + 10 * i))) fz H locs (by omega) (zs_unc_le B f i (ps + 10 * i) hF _) he hM hP hS ls hl
            · rw [if_neg g2] at he
              refine lv_icmp_eq hx hb d_SF_takePieces_119 (tgt := 156) (by decide) (fun z9 => absurd z9 (fun z => g2 ((nI_eq (by omega) (by omega)).mp z))) (fun _ => ?_)
              refine lv_iload hx hb d_SF_takePieces_122 (lv_at hl 0 rfl) ?_
              refine lv_aload_n hx hb d_SF_takePieces_124 rfl (lv_at hl 7 rfl) ?_
              refine lv_iload_n hx hb d_SF_takePieces_125 rfl (lv_at hl 8 rfl) ?_
              refine lv_iload hx hb d_SF_takePieces_126 (lv_at hl 4 rfl) ?_
              refine lv_iload hx hb d_SF_takePieces_128 (lv_at hl 2 rfl) ?_
              refine lv_iload hx hb d_SF_takePieces_130 (lv_at hl 1 rfl) ?_
              refine lv_iload hx hb d_SF_takePieces_132 (lv_at hl 3 rfl) ?_
              by_cases g : n3 ≤ ps + 10 * i + 10
              · refine lv_if_ne hx hb d_SF_takePieces_134 (tgt := 141) (by decide) (fun _ => ?_) (fun z9 => absurd z9 (by rw [zs_tl, if_pos g]; decide))
                refine lv_iconst (v := (nI 0)) hx hb d_SF_takePieces_141 (by decide) ?_
                refine ztop (y := nI (1 - (zs_tl n3 ps i))) (by rw [zs_tl, if_pos g]) ?_
                refine zRd (rest := [.int (nI (zs_two B (zs_te n3 ps i)))]) (zrV hS9 (c_SF_pieceSign l D cI cC cJ h n0 n1 F.1 n3 n4 f0 f1 fx f3 f4 (nI i) (by omega) (by omega) (by omega) (by omega) (by omega) B hB f i (ps + 10 * i) (zs_te n3 ps i) (1 - (zs_tl n3 ps i)) hte.1 (by omega) (by omega)) zc_SF_pieceSign zw_382 zw_384 zp_13 (by decide) (va_recv hE.1 hP (ci := 1) (q := (R_SF, F_SF, 6)) rfl (q0 := 0) rfl) (hP) hE rfl hl.1 rfl (Nat.le_of_ble_eq_true rfl) d_SF_takePieces_142) ?_
                have l3 := zs_sg_lt B (ps + 10 * i) (zs_te n3 ps i) (zs_word f (nI i) (zs_use (1 - (zs_tl n3 ps i))))
                by_cases g3 : zs_two B (zs_te n3 ps i) = zs_sg B (ps + 10 * i) (zs_te n3 ps i) (zs_word f (nI i) (zs_use (1 - (zs_tl n3 ps i))))
                · rw [if_pos g3] at he
                  refine lv_icmp_ne hx hb d_SF_takePieces_145 (tgt := 153) (by decide) (fun z9 => absurd (by rw [g3]) z9) (fun _ => ?_)
                  refine lv_bipush (v := (-5)) hx hb d_SF_takePieces_148 (by decide) ?_
                  refine lv_goto hx hb d_SF_takePieces_150 (tgt := 155) (by decide) ?_
                  exact W.iret (v := (-5)) hx hb hr (fun t ht _ => ⟨congrArg (fun z => Outcome.returned (some (Value.int z))) (by rw [← he]), by rw [ht]; rw [← he]; exact ⟨fx, hM, hP⟩, hS.F ht⟩) hS.2.2 d_SF_takePieces_155
                · rw [if_neg g3] at he
                  refine lv_icmp_ne hx hb d_SF_takePieces_145 (tgt := 153) (by decide) (fun _ => ?_) (fun z9 => absurd z9 (fun z => g3 ((nI_eq (by omega) (by omega)).mp z)))
                  refine lv_bipush (v := (-4)) hx hb d_SF_takePieces_153 (by decide) ?_
                  exact W.iret (v := (-4)) hx hb hr (fun t ht _ => ⟨congrArg (fun z => Outcome.returned (some (Value.int z))) (by rw [← he]), by rw [ht]; rw [← he]; exact ⟨fx, hM, hP⟩, hS.F ht⟩) hS.2.2 d_SF_takePieces_155
              · refine lv_if_ne hx hb d_SF_takePieces_134 (tgt := 141) (by decide) (fun z9 => absurd (by rw [zs_tl, if_neg g]; rfl) z9) (fun _ => ?_)
                refine lv_iconst (v := (nI 1)) hx hb d_SF_takePieces_137 (by decide) ?_
                refine lv_goto hx hb d_SF_takePieces_138 (tgt := 142) (by decide) ?_
                refine ztop (y := nI (1 - (zs_tl n3 ps i))) (by rw [zs_tl, if_neg g]) ?_
                refine zRd (rest := [.int (nI (zs_two B (zs_te n3 ps i)))]) (zrV hS9 (c_SF_pieceSign l D cI cC cJ h n0 n1 F.1 n3 n4 f0 f1 fx f3 f4 (nI i) (by omega) (by omega) (by omega) (by omega) (by omega) B hB f i (ps + 10 * i) (zs_te n3 ps i) (1 - (zs_tl n3 ps i)) hte.1 (by omega) (by omega)) zc_SF_pieceSign zw_382 zw_384 zp_13 (by decide) (va_recv hE.1 hP (ci := 1) (q := (R_SF, F_SF, 6)) rfl (q0 := 0) rfl) (hP) hE rfl hl.1 rfl (Nat.le_of_ble_eq_true rfl) d_SF_takePieces_142) ?_
                have l3 := zs_sg_lt B (ps + 10 * i) (zs_te n3 ps i) (zs_word f (nI i) (zs_use (1 - (zs_tl n3 ps i))))
                by_cases g3 : zs_two B (zs_te n3 ps i) = zs_sg B (ps + 10 * i) (zs_te n3 ps i) (zs_word f (nI i) (zs_use (1 - (zs_tl n3 ps i))))
                · rw [if_pos g3] at he
                  refine lv_icmp_ne hx hb d_SF_takePieces_145 (tgt := 153) (by decide) (fun z9 => absurd (by rw [g3]) z9) (fun _ => ?_)
                  refine lv_bipush (v := (-5)) hx hb d_SF_takePieces_148 (by decide) ?_
                  refine lv_goto hx hb d_SF_takePieces_150 (tgt := 155) (by decide) ?_
                  exact W.iret (v := (-5)) hx hb hr (fun t ht _ => ⟨congrArg (fun z => Outcome.returned (some (Value.int z))) (by rw [← he]), by rw [ht]; rw [← he]; exact ⟨fx, hM, hP⟩, hS.F ht⟩) hS.2.2 d_SF_takePieces_155
                · rw [if_neg g3] at he
                  refine lv_icmp_ne hx hb d_SF_takePieces_145 (tgt := 153) (by decide) (fun _ => ?_) (fun z9 => absurd z9 (fun z => g3 ((nI_eq (by omega) (by omega)).mp z)))
                  refine lv_bipush (v := (-4)) hx hb d_SF_takePieces_153 (by decide) ?_
                  exact W.iret (v := (-4)) hx hb hr (fun t ht _ => ⟨congrArg (fun z => Outcome.returned (some (Value.int z))) (by rw [← he]), by rw [ht]; rw [← he]; exact ⟨fx, hM, hP⟩, hS.F ht⟩) hS.2.2 d_SF_takePieces_155
        by_cases g : n3 ≤ ps + 10 * i + 10
        · refine lv_if_eq hx hb d_SF_takePieces_61 (tgt := 76) (by decide) (fun z9 => absurd z9 (by rw [zs_tl, if_pos g]; decide)) (fun _ => ?_)
          refine lv_aload_n hx hb d_SF_takePieces_64 rfl (lv_at hl 5 rfl) ?_
          refine va_get (D := D) (ci := 1) (v := .ref (h 7)) (C := R_SF) (T := F_SF) (N := 6) hx hb hg i_SF hown hE.1 hP 0 rfl rfl 3 (by decide) (hg _ zw_43) (fun _ h9 => h9) rfl d_SF_takePieces_65 ?_
          refine zRd (rest := []) (zrVN hS9 (c_RW_size l D cI cC cJ (h 7) (h 8) 120 n3 f3 (by omega) (by decide)) zc_RW_size (by decide) zw_85 zp_3 (by decide) (va_recv hE.1 hP (ci := 0) (q := (R_RW, F_RW, 2)) rfl (q0 := 7) rfl) (hP.sub [7, 8] rfl) hE rfl hl.1 rfl (Nat.le_of_ble_eq_true rfl) d_SF_takePieces_68) ?_
          refine lv_iconst (v := (nI 2)) hx hb d_SF_takePieces_71 (by decide) ?_
          refine lv_isub hx hb d_SF_takePieces_72 ?_
          refine ztop (y := nI (zs_te n3 ps i)) ((pk_sub (by omega)).trans (by rw [zs_te, if_pos g])) ?_
          refine lv_goto hx hb d_SF_takePieces_73 (tgt := 81) (by decide) ?_
          exact rest2 ls hl
        · refine lv_if_eq hx hb d_SF_takePieces_61 (tgt := 76) (by decide) (fun _ => ?_) (fun z9 => absurd (by rw [zs_tl, if_neg g]; decide) z9)
          refine lv_iload hx hb d_SF_takePieces_76 (lv_at hl 0 rfl) ?_
          refine lv_bipush (v := (nI 8)) hx hb d_SF_takePieces_78 (by decide) ?_
          refine lv_iadd hx hb d_SF_takePieces_80 ?_
          refine ztop (y := nI (zs_te n3 ps i)) (by rw [nI_add, zs_te, if_neg g]) ?_
          exact rest2 ls hl
      by_cases g : i = ((n3 - ps - 1) / 10)
      · refine lv_icmp_ne hx hb d_SF_takePieces_41 (tgt := 48) (by decide) (fun z9 => absurd (by rw [g]) z9) (fun _ => ?_)
        refine lv_iconst (v := (nI 1)) hx hb d_SF_takePieces_44 (by decide) ?_
        refine lv_goto hx hb d_SF_takePieces_45 (tgt := 49) (by decide) ?_
        refine ztop (y := nI (zs_tl n3 ps i)) (by rw [zs_tl, if_pos (by omega)]) ?_
        exact rest ls hl
      · refine lv_icmp_ne hx hb d_SF_takePieces_41 (tgt := 48) (by decide) (fun _ => ?_) (fun z9 => absurd z9 (fun z => g ((nI_eq (by omega) (by omega)).mp z)))
        refine lv_iconst (v := (nI 0)) hx hb d_SF_takePieces_48 (by decide) ?_
        refine ztop (y := nI (zs_tl n3 ps i)) (by rw [zs_tl, if_neg (by omega)]) ?_
        exact rest ls hl
  exact loop ((n3 - ps - 1) / 10 + 1) 0 (0, fun _ => 0) f2 H locs (by omega) (by omega) rfl zs_hold_0 hP hS ls hl
end
section
/-! Receivers, printed forms: pure. -/
def zs_b1 (x : Int32) : Int32 := x - (zs_u x (nI 1) &&& nI 1431655765)
def zs_b2 (x : Int32) : Int32 := (x &&& nI 858993459) + (zs_u x (nI 2) &&& nI 858993459)
def zs_b3 (x : Int32) : Int32 := (x + zs_u x (nI 4)) &&& nI 252645135
def zs_b4 (x : Int32) : Int32 := x + zs_u x (nI 8)
def zs_b5 (x : Int32) : Int32 := x + zs_u x (nI 16)
def zs_bc (x : Int32) : Int32 := zs_b5 (zs_b4 (zs_b3 (zs_b2 (zs_b1 x)))) &&& nI 63
/-- how many of the lowest four bits are set -/
def zs_pc (w : Nat) : Nat := w % 2 + w / 2 % 2 + w / 4 % 2 + w / 8 % 2
theorem zs_bc_4 : ∀ k, k < 16 → zs_bc (nI k) = nI (zs_pc k) := by decide +kernel
theorem zs_pc_le (w : Nat) : zs_pc w ≤ 4 := by unfold zs_pc; omega
/-- one to three keys that there are -/
def zs_rc (n w : Nat) : Nat := if 1 ≤ zs_pc w ∧ zs_pc w ≤ 3 ∧ w < 2 ^ n then 1 else 0
theorem zs_two4 {n : Nat} (h : n ≤ 4) : 2 ^ n ≤ 16 := Nat.le_trans (Nat.pow_le_pow_right (by decide) h) (by decide)
/-- is the draft a printed form -/
def zs_pf (n : Nat) (E : Nat → Nat) : Nat := if n * 6 % 8 = 0 then 1 else if n * 6 % 8 < 6 ∧ E (n - 1) % 2 ^ (n * 6 % 8) = 0 then 1 else 0
/-- the i-th byte of a draft -/
def zs_ld (E : Nat → Nat) (i : Nat) : Nat := (E (i * 8 / 6) * 64 + E (i * 8 / 6 + 1)) / 2 ^ (4 - i * 8 % 6) % 256
def zs_lds (E : Nat → Nat) : Nat → zs_F
  | 0 => (0, fun _ => 0)
  | i + 1 => zs_push (zs_lds E i) (zs_ld E i)
theorem zs_lds_n (E : Nat → Nat) (i : Nat) : (zs_lds E i).1 = i := by
  induction i with
  | zero => rfl
  | succ i ih => show (zs_lds E i).1 + 1 = _; rw [ih]
theorem zs_ld_lt (E : Nat → Nat) (i : Nat) : zs_ld E i < 256 := Nat.mod_lt _ (by decide)
theorem zs_ne0 {n : Nat} (h0 : 0 < n) (h : n < 2 ^ 32) : ¬ nI n = 0 := by
  intro z
  have e1 := zs_un_nI h
  rw [z] at e1
  have e2 : zs_un 0 = 0 := by decide
  omega
end
section
abbrev b_IN_bitCount : ByteArray := prog_10_method_49_code
def y_IN_bitCount : MethodName := ⟨"java/lang/Integer", "bitCount", "(I)I"⟩
abbrev k_IN_bitCount : Cond := .code y_IN_bitCount b_IN_bitCount 1 (some .int)
set_option maxRecDepth 20000 in
theorem zj_IN_bitCount : k_IN_bitCount ∈ zg := zg_in 369 rfl rfl
theorem d_IN_bitCount_0 : decode b_IN_bitCount 0 = .ok (.iload_n 0, 1) := by decide +kernel
theorem d_IN_bitCount_1 : decode b_IN_bitCount 1 = .ok (.iload_n 0, 1) := by decide +kernel
theorem d_IN_bitCount_2 : decode b_IN_bitCount 2 = .ok (.iconst 1, 1) := by decide +kernel
theorem d_IN_bitCount_3 : decode b_IN_bitCount 3 = .ok (.iushr, 1) := by decide +kernel
theorem d_IN_bitCount_4 : decode b_IN_bitCount 4 = .ok (.ldc_w 265, 3) := by decide +kernel
theorem d_IN_bitCount_7 : decode b_IN_bitCount 7 = .ok (.iand, 1) := by decide +kernel
theorem d_IN_bitCount_8 : decode b_IN_bitCount 8 = .ok (.isub, 1) := by decide +kernel
theorem d_IN_bitCount_9 : decode b_IN_bitCount 9 = .ok (.istore_n 0, 1) := by decide +kernel
theorem d_IN_bitCount_10 : decode b_IN_bitCount 10 = .ok (.iload_n 0, 1) := by decide +kernel
theorem d_IN_bitCount_11 : decode b_IN_bitCount 11 = .ok (.ldc_w 266, 3) := by decide +kernel
theorem d_IN_bitCount_14 : decode b_IN_bitCount 14 = .ok (.iand, 1) := by decide +kernel
theorem d_IN_bitCount_15 : decode b_IN_bitCount 15 = .ok (.iload_n 0, 1) := by decide +kernel
theorem d_IN_bitCount_16 : decode b_IN_bitCount 16 = .ok (.iconst 2, 1) := by decide +kernel
theorem d_IN_bitCount_17 : decode b_IN_bitCount 17 = .ok (.iushr, 1) := by decide +kernel
theorem d_IN_bitCount_18 : decode b_IN_bitCount 18 = .ok (.ldc_w 266, 3) := by decide +kernel
theorem d_IN_bitCount_21 : decode b_IN_bitCount 21 = .ok (.iand, 1) := by decide +kernel
theorem d_IN_bitCount_22 : decode b_IN_bitCount 22 = .ok (.iadd, 1) := by decide +kernel
theorem d_IN_bitCount_23 : decode b_IN_bitCount 23 = .ok (.istore_n 0, 1) := by decide +kernel
theorem d_IN_bitCount_24 : decode b_IN_bitCount 24 = .ok (.iload_n 0, 1) := by decide +kernel
theorem d_IN_bitCount_25 : decode b_IN_bitCount 25 = .ok (.iload_n 0, 1) := by decide +kernel
theorem d_IN_bitCount_26 : decode b_IN_bitCount 26 = .ok (.iconst 4, 1) := by decide +kernel
theorem d_IN_bitCount_27 : decode b_IN_bitCount 27 = .ok (.iushr, 1) := by decide +kernel
theorem d_IN_bitCount_28 : decode b_IN_bitCount 28 = .ok (.iadd, 1) := by decide +kernel
theorem d_IN_bitCount_29 : decode b_IN_bitCount 29 = .ok (.ldc_w 267, 3) := by decide +kernel
theorem d_IN_bitCount_32 : decode b_IN_bitCount 32 = .ok (.iand, 1) := by decide +kernel
theorem d_IN_bitCount_33 : decode b_IN_bitCount 33 = .ok (.istore_n 0, 1) := by decide +kernel
theorem d_IN_bitCount_34 : decode b_IN_bitCount 34 = .ok (.iload_n 0, 1) := by decide +kernel
theorem d_IN_bitCount_35 : decode b_IN_bitCount 35 = .ok (.iload_n 0, 1) := by decide +kernel
theorem d_IN_bitCount_36 : decode b_IN_bitCount 36 = .ok (.bipush 8, 2) := by decide +kernel
theorem d_IN_bitCount_38 : decode b_IN_bitCount 38 = .ok (.iushr, 1) := by decide +kernel
theorem d_IN_bitCount_39 : decode b_IN_bitCount 39 = .ok (.iadd, 1) := by decide +kernel
theorem d_IN_bitCount_40 : decode b_IN_bitCount 40 = .ok (.istore_n 0, 1) := by decide +kernel
theorem d_IN_bitCount_41 : decode b_IN_bitCount 41 = .ok (.iload_n 0, 1) := by decide +kernel
theorem d_IN_bitCount_42 : decode b_IN_bitCount 42 = .ok (.iload_n 0, 1) := by decide +kernel
theorem d_IN_bitCount_43 : decode b_IN_bitCount 43 = .ok (.bipush 16, 2) := by decide +kernel
theorem d_IN_bitCount_45 : decode b_IN_bitCount 45 = .ok (.iushr, 1) := by decide +kernel
theorem d_IN_bitCount_46 : decode b_IN_bitCount 46 = .ok (.iadd, 1) := by decide +kernel
theorem d_IN_bitCount_47 : decode b_IN_bitCount 47 = .ok (.istore_n 0, 1) := by decide +kernel
theorem d_IN_bitCount_48 : decode b_IN_bitCount 48 = .ok (.iload_n 0, 1) := by decide +kernel
theorem d_IN_bitCount_49 : decode b_IN_bitCount 49 = .ok (.bipush 63, 2) := by decide +kernel
theorem d_IN_bitCount_51 : decode b_IN_bitCount 51 = .ok (.iand, 1) := by decide +kernel
theorem d_IN_bitCount_52 : decode b_IN_bitCount 52 = .ok (.ireturn, 1) := by decide +kernel
abbrev b_ST_charAt : ByteArray := prog_13_method_56_code
def y_ST_charAt : MethodName := ⟨"java/lang/String", "charAt", "(I)C"⟩
abbrev k_ST_charAt : Cond := .code y_ST_charAt b_ST_charAt 2 (some .char)
set_option maxRecDepth 20000 in
theorem zj_ST_charAt : k_ST_charAt ∈ zg := zg_in 153 rfl rfl
theorem d_ST_charAt_0 : decode b_ST_charAt 0 = .ok (.aload_n 0, 1) := by decide +kernel
theorem d_ST_charAt_1 : decode b_ST_charAt 1 = .ok (.invokevirtual 492, 3) := by decide +kernel
theorem d_ST_charAt_4 : decode b_ST_charAt 4 = .ok (.ifCond .eq 12, 3) := by decide +kernel
theorem d_ST_charAt_7 : decode b_ST_charAt 7 = .ok (.aload_n 0, 1) := by decide +kernel
theorem d_ST_charAt_8 : decode b_ST_charAt 8 = .ok (.getfield 9, 3) := by decide +kernel
theorem d_ST_charAt_11 : decode b_ST_charAt 11 = .ok (.iload_n 1, 1) := by decide +kernel
theorem d_ST_charAt_12 : decode b_ST_charAt 12 = .ok (.invokestatic 495, 3) := by decide +kernel
theorem d_ST_charAt_15 : decode b_ST_charAt 15 = .ok (.ireturn, 1) := by decide +kernel
theorem d_ST_charAt_16 : decode b_ST_charAt 16 = .ok (.aload_n 0, 1) := by decide +kernel
theorem d_ST_charAt_17 : decode b_ST_charAt 17 = .ok (.getfield 9, 3) := by decide +kernel
theorem d_ST_charAt_20 : decode b_ST_charAt 20 = .ok (.iload_n 1, 1) := by decide +kernel
theorem d_ST_charAt_21 : decode b_ST_charAt 21 = .ok (.invokestatic 498, 3) := by decide +kernel
theorem d_ST_charAt_24 : decode b_ST_charAt 24 = .ok (.ireturn, 1) := by decide +kernel
abbrev b_ST_isLatin1 : ByteArray := prog_13_method_154_code
def y_ST_isLatin1 : MethodName := ⟨"java/lang/String", "isLatin1", "()Z"⟩
abbrev k_ST_isLatin1 : Cond := .code y_ST_isLatin1 b_ST_isLatin1 1 (some .boolean)
set_option maxRecDepth 20000 in
theorem zj_ST_isLatin1 : k_ST_isLatin1 ∈ zg := zg_in 157 rfl rfl
theorem d_ST_isLatin1_0 : decode b_ST_isLatin1 0 = .ok (.getstatic 38, 3) := by decide +kernel
theorem d_ST_isLatin1_3 : decode b_ST_isLatin1 3 = .ok (.ifCond .eq 14, 3) := by decide +kernel
theorem d_ST_isLatin1_6 : decode b_ST_isLatin1 6 = .ok (.aload_n 0, 1) := by decide +kernel
theorem d_ST_isLatin1_7 : decode b_ST_isLatin1 7 = .ok (.getfield 15, 3) := by decide +kernel
theorem d_ST_isLatin1_10 : decode b_ST_isLatin1 10 = .ok (.ifCond .ne 7, 3) := by decide +kernel
theorem d_ST_isLatin1_13 : decode b_ST_isLatin1 13 = .ok (.iconst 1, 1) := by decide +kernel
theorem d_ST_isLatin1_14 : decode b_ST_isLatin1 14 = .ok (.goto 4, 3) := by decide +kernel
theorem d_ST_isLatin1_17 : decode b_ST_isLatin1 17 = .ok (.iconst 0, 1) := by decide +kernel
theorem d_ST_isLatin1_18 : decode b_ST_isLatin1 18 = .ok (.ireturn, 1) := by decide +kernel
abbrev b_SL_charAt : ByteArray := prog_14_method_2_code
def y_SL_charAt : MethodName := ⟨"java/lang/StringLatin1", "charAt", "([BI)C"⟩
abbrev k_SL_charAt : Cond := .code y_SL_charAt b_SL_charAt 2 (some .char)
set_option maxRecDepth 20000 in
theorem zj_SL_charAt : k_SL_charAt ∈ zg := zg_in 162 rfl rfl
theorem d_SL_charAt_0 : decode b_SL_charAt 0 = .ok (.iload_n 1, 1) := by decide +kernel
theorem d_SL_charAt_1 : decode b_SL_charAt 1 = .ok (.aload_n 0, 1) := by decide +kernel
theorem d_SL_charAt_2 : decode b_SL_charAt 2 = .ok (.arraylength, 1) := by decide +kernel
theorem d_SL_charAt_3 : decode b_SL_charAt 3 = .ok (.invokestatic 9, 3) := by decide +kernel
theorem d_SL_charAt_6 : decode b_SL_charAt 6 = .ok (.aload_n 0, 1) := by decide +kernel
theorem d_SL_charAt_7 : decode b_SL_charAt 7 = .ok (.iload_n 1, 1) := by decide +kernel
theorem d_SL_charAt_8 : decode b_SL_charAt 8 = .ok (.baload, 1) := by decide +kernel
theorem d_SL_charAt_9 : decode b_SL_charAt 9 = .ok (.sipush 255, 3) := by decide +kernel
theorem d_SL_charAt_12 : decode b_SL_charAt 12 = .ok (.iand, 1) := by decide +kernel
theorem d_SL_charAt_13 : decode b_SL_charAt 13 = .ok (.i2c, 1) := by decide +kernel
theorem d_SL_charAt_14 : decode b_SL_charAt 14 = .ok (.ireturn, 1) := by decide +kernel
abbrev b_ST_checkIndex : ByteArray := prog_13_method_155_code
def y_ST_checkIndex : MethodName := ⟨"java/lang/String", "checkIndex", "(II)V"⟩
abbrev k_ST_checkIndex : Cond := .code y_ST_checkIndex b_ST_checkIndex 2 none
set_option maxRecDepth 20000 in
theorem zj_ST_checkIndex : k_ST_checkIndex ∈ zg := zg_in 165 rfl rfl
theorem d_ST_checkIndex_0 : decode b_ST_checkIndex 0 = .ok (.iload_n 0, 1) := by decide +kernel
theorem d_ST_checkIndex_1 : decode b_ST_checkIndex 1 = .ok (.iload_n 1, 1) := by decide +kernel
theorem d_ST_checkIndex_2 : decode b_ST_checkIndex 2 = .ok (.getstatic 1053, 3) := by decide +kernel
theorem d_ST_checkIndex_5 : decode b_ST_checkIndex 5 = .ok (.invokestatic 1059, 3) := by decide +kernel
theorem d_ST_checkIndex_8 : decode b_ST_checkIndex 8 = .ok (.pop, 1) := by decide +kernel
theorem d_ST_checkIndex_9 : decode b_ST_checkIndex 9 = .ok (.return_, 1) := by decide +kernel
abbrev b_PR_checkIndex : ByteArray := prog_18_method_11_code
def y_PR_checkIndex : MethodName := ⟨"jdk/internal/util/Preconditions", "checkIndex", "(IILjava/util/function/BiFunction;)I"⟩
abbrev k_PR_checkIndex : Cond := .code y_PR_checkIndex b_PR_checkIndex 3 (some .int)
set_option maxRecDepth 20000 in
theorem zj_PR_checkIndex : k_PR_checkIndex ∈ zg := zg_in 170 rfl rfl
theorem d_PR_checkIndex_0 : decode b_PR_checkIndex 0 = .ok (.iload_n 0, 1) := by decide +kernel
theorem d_PR_checkIndex_1 : decode b_PR_checkIndex 1 = .ok (.ifCond .lt 8, 3) := by decide +kernel
theorem d_PR_checkIndex_4 : decode b_PR_checkIndex 4 = .ok (.iload_n 0, 1) := by decide +kernel
theorem d_PR_checkIndex_5 : decode b_PR_checkIndex 5 = .ok (.iload_n 1, 1) := by decide +kernel
theorem d_PR_checkIndex_6 : decode b_PR_checkIndex 6 = .ok (.if_icmp .lt 10, 3) := by decide +kernel
theorem d_PR_checkIndex_9 : decode b_PR_checkIndex 9 = .ok (.aload_n 2, 1) := by decide +kernel
theorem d_PR_checkIndex_10 : decode b_PR_checkIndex 10 = .ok (.iload_n 0, 1) := by decide +kernel
theorem d_PR_checkIndex_11 : decode b_PR_checkIndex 11 = .ok (.iload_n 1, 1) := by decide +kernel
theorem d_PR_checkIndex_12 : decode b_PR_checkIndex 12 = .ok (.invokestatic 95, 3) := by decide +kernel
theorem d_PR_checkIndex_15 : decode b_PR_checkIndex 15 = .ok (.athrow, 1) := by decide +kernel
theorem d_PR_checkIndex_16 : decode b_PR_checkIndex 16 = .ok (.iload_n 0, 1) := by decide +kernel
theorem d_PR_checkIndex_17 : decode b_PR_checkIndex 17 = .ok (.ireturn, 1) := by decide +kernel
abbrev b_ST_indexOf : ByteArray := prog_13_method_79_code
def y_ST_indexOf : MethodName := ⟨"java/lang/String", "indexOf", "(I)I"⟩
abbrev k_ST_indexOf : Cond := .code y_ST_indexOf b_ST_indexOf 2 (some .int)
set_option maxRecDepth 20000 in
theorem zj_ST_indexOf : k_ST_indexOf ∈ zg := zg_in 198 rfl rfl
theorem d_ST_indexOf_0 : decode b_ST_indexOf 0 = .ok (.aload_n 0, 1) := by decide +kernel
theorem d_ST_indexOf_1 : decode b_ST_indexOf 1 = .ok (.iload_n 1, 1) := by decide +kernel
theorem d_ST_indexOf_2 : decode b_ST_indexOf 2 = .ok (.iconst 0, 1) := by decide +kernel
theorem d_ST_indexOf_3 : decode b_ST_indexOf 3 = .ok (.invokevirtual 633, 3) := by decide +kernel
theorem d_ST_indexOf_6 : decode b_ST_indexOf 6 = .ok (.ireturn, 1) := by decide +kernel
abbrev b_ST_indexOf2 : ByteArray := prog_13_method_80_code
def y_ST_indexOf2 : MethodName := ⟨"java/lang/String", "indexOf", "(II)I"⟩
abbrev k_ST_indexOf2 : Cond := .code y_ST_indexOf2 b_ST_indexOf2 3 (some .int)
set_option maxRecDepth 20000 in
theorem zj_ST_indexOf2 : k_ST_indexOf2 ∈ zg := zg_in 202 rfl rfl
theorem d_ST_indexOf2_0 : decode b_ST_indexOf2 0 = .ok (.aload_n 0, 1) := by decide +kernel
theorem d_ST_indexOf2_1 : decode b_ST_indexOf2 1 = .ok (.invokevirtual 492, 3) := by decide +kernel
theorem d_ST_indexOf2_4 : decode b_ST_indexOf2 4 = .ok (.ifCond .eq 19, 3) := by decide +kernel
theorem d_ST_indexOf2_7 : decode b_ST_indexOf2 7 = .ok (.aload_n 0, 1) := by decide +kernel
theorem d_ST_indexOf2_8 : decode b_ST_indexOf2 8 = .ok (.getfield 9, 3) := by decide +kernel
theorem d_ST_indexOf2_11 : decode b_ST_indexOf2 11 = .ok (.iload_n 1, 1) := by decide +kernel
theorem d_ST_indexOf2_12 : decode b_ST_indexOf2 12 = .ok (.iload_n 2, 1) := by decide +kernel
theorem d_ST_indexOf2_13 : decode b_ST_indexOf2 13 = .ok (.aload_n 0, 1) := by decide +kernel
theorem d_ST_indexOf2_14 : decode b_ST_indexOf2 14 = .ok (.invokevirtual 505, 3) := by decide +kernel
theorem d_ST_indexOf2_17 : decode b_ST_indexOf2 17 = .ok (.invokestatic 637, 3) := by decide +kernel
theorem d_ST_indexOf2_20 : decode b_ST_indexOf2 20 = .ok (.goto 16, 3) := by decide +kernel
theorem d_ST_indexOf2_23 : decode b_ST_indexOf2 23 = .ok (.aload_n 0, 1) := by decide +kernel
theorem d_ST_indexOf2_24 : decode b_ST_indexOf2 24 = .ok (.getfield 9, 3) := by decide +kernel
theorem d_ST_indexOf2_27 : decode b_ST_indexOf2 27 = .ok (.iload_n 1, 1) := by decide +kernel
theorem d_ST_indexOf2_28 : decode b_ST_indexOf2 28 = .ok (.iload_n 2, 1) := by decide +kernel
theorem d_ST_indexOf2_29 : decode b_ST_indexOf2 29 = .ok (.aload_n 0, 1) := by decide +kernel
theorem d_ST_indexOf2_30 : decode b_ST_indexOf2 30 = .ok (.invokevirtual 505, 3) := by decide +kernel
theorem d_ST_indexOf2_33 : decode b_ST_indexOf2 33 = .ok (.invokestatic 640, 3) := by decide +kernel
theorem d_ST_indexOf2_36 : decode b_ST_indexOf2 36 = .ok (.ireturn, 1) := by decide +kernel
abbrev b_ST_length : ByteArray := prog_13_method_54_code
def y_ST_length : MethodName := ⟨"java/lang/String", "length", "()I"⟩
abbrev k_ST_length : Cond := .code y_ST_length b_ST_length 1 (some .int)
set_option maxRecDepth 20000 in
theorem zj_ST_length : k_ST_length ∈ zg := zg_in 206 rfl rfl
theorem d_ST_length_0 : decode b_ST_length 0 = .ok (.aload_n 0, 1) := by decide +kernel
theorem d_ST_length_1 : decode b_ST_length 1 = .ok (.getfield 9, 3) := by decide +kernel
theorem d_ST_length_4 : decode b_ST_length 4 = .ok (.arraylength, 1) := by decide +kernel
theorem d_ST_length_5 : decode b_ST_length 5 = .ok (.aload_n 0, 1) := by decide +kernel
theorem d_ST_length_6 : decode b_ST_length 6 = .ok (.invokevirtual 335, 3) := by decide +kernel
theorem d_ST_length_9 : decode b_ST_length 9 = .ok (.ishr, 1) := by decide +kernel
theorem d_ST_length_10 : decode b_ST_length 10 = .ok (.ireturn, 1) := by decide +kernel
abbrev b_ST_coder : ByteArray := prog_13_method_152_code
def y_ST_coder : MethodName := ⟨"java/lang/String", "coder", "()B"⟩
abbrev k_ST_coder : Cond := .code y_ST_coder b_ST_coder 1 (some .byte)
set_option maxRecDepth 20000 in
theorem zj_ST_coder : k_ST_coder ∈ zg := zg_in 210 rfl rfl
theorem d_ST_coder_0 : decode b_ST_coder 0 = .ok (.getstatic 38, 3) := by decide +kernel
theorem d_ST_coder_3 : decode b_ST_coder 3 = .ok (.ifCond .eq 10, 3) := by decide +kernel
theorem d_ST_coder_6 : decode b_ST_coder 6 = .ok (.aload_n 0, 1) := by decide +kernel
theorem d_ST_coder_7 : decode b_ST_coder 7 = .ok (.getfield 15, 3) := by decide +kernel
theorem d_ST_coder_10 : decode b_ST_coder 10 = .ok (.goto 4, 3) := by decide +kernel
theorem d_ST_coder_13 : decode b_ST_coder 13 = .ok (.iconst 1, 1) := by decide +kernel
theorem d_ST_coder_14 : decode b_ST_coder 14 = .ok (.ireturn, 1) := by decide +kernel
abbrev b_SL_indexOf : ByteArray := prog_14_method_22_code
def y_SL_indexOf : MethodName := ⟨"java/lang/StringLatin1", "indexOf", "([BIII)I"⟩
abbrev k_SL_indexOf : Cond := .code y_SL_indexOf b_SL_indexOf 4 (some .int)
set_option maxRecDepth 20000 in
theorem zj_SL_indexOf : k_SL_indexOf ∈ zg := zg_in 213 rfl rfl
theorem d_SL_indexOf_0 : decode b_SL_indexOf 0 = .ok (.iload_n 1, 1) := by decide +kernel
theorem d_SL_indexOf_1 : decode b_SL_indexOf 1 = .ok (.invokestatic 88, 3) := by decide +kernel
theorem d_SL_indexOf_4 : decode b_SL_indexOf 4 = .ok (.ifCond .ne 5, 3) := by decide +kernel
theorem d_SL_indexOf_7 : decode b_SL_indexOf 7 = .ok (.iconst (-1), 1) := by decide +kernel
theorem d_SL_indexOf_8 : decode b_SL_indexOf 8 = .ok (.ireturn, 1) := by decide +kernel
theorem d_SL_indexOf_9 : decode b_SL_indexOf 9 = .ok (.iload_n 2, 1) := by decide +kernel
theorem d_SL_indexOf_10 : decode b_SL_indexOf 10 = .ok (.iconst 0, 1) := by decide +kernel
theorem d_SL_indexOf_11 : decode b_SL_indexOf 11 = .ok (.invokestatic 92, 3) := by decide +kernel
theorem d_SL_indexOf_14 : decode b_SL_indexOf 14 = .ok (.istore_n 2, 1) := by decide +kernel
theorem d_SL_indexOf_15 : decode b_SL_indexOf 15 = .ok (.iload_n 3, 1) := by decide +kernel
theorem d_SL_indexOf_16 : decode b_SL_indexOf 16 = .ok (.aload_n 0, 1) := by decide +kernel
theorem d_SL_indexOf_17 : decode b_SL_indexOf 17 = .ok (.arraylength, 1) := by decide +kernel
theorem d_SL_indexOf_18 : decode b_SL_indexOf 18 = .ok (.invokestatic 38, 3) := by decide +kernel
theorem d_SL_indexOf_21 : decode b_SL_indexOf 21 = .ok (.istore_n 3, 1) := by decide +kernel
theorem d_SL_indexOf_22 : decode b_SL_indexOf 22 = .ok (.iload_n 2, 1) := by decide +kernel
theorem d_SL_indexOf_23 : decode b_SL_indexOf 23 = .ok (.iload_n 3, 1) := by decide +kernel
theorem d_SL_indexOf_24 : decode b_SL_indexOf 24 = .ok (.if_icmp .lt 5, 3) := by decide +kernel
theorem d_SL_indexOf_27 : decode b_SL_indexOf 27 = .ok (.iconst (-1), 1) := by decide +kernel
theorem d_SL_indexOf_28 : decode b_SL_indexOf 28 = .ok (.ireturn, 1) := by decide +kernel
theorem d_SL_indexOf_29 : decode b_SL_indexOf 29 = .ok (.aload_n 0, 1) := by decide +kernel
theorem d_SL_indexOf_30 : decode b_SL_indexOf 30 = .ok (.iload_n 1, 1) := by decide +kernel
theorem d_SL_indexOf_31 : decode b_SL_indexOf 31 = .ok (.iload_n 2, 1) := by decide +kernel
theorem d_SL_indexOf_32 : decode b_SL_indexOf 32 = .ok (.iload_n 3, 1) := by decide +kernel
theorem d_SL_indexOf_33 : decode b_SL_indexOf 33 = .ok (.invokestatic 95, 3) := by decide +kernel
theorem d_SL_indexOf_36 : decode b_SL_indexOf 36 = .ok (.ireturn, 1) := by decide +kernel
abbrev b_SL_canEncode : ByteArray := prog_14_method_4_code
def y_SL_canEncode : MethodName := ⟨"java/lang/StringLatin1", "canEncode", "(I)Z"⟩
abbrev k_SL_canEncode : Cond := .code y_SL_canEncode b_SL_canEncode 1 (some .boolean)
set_option maxRecDepth 20000 in
theorem zj_SL_canEncode : k_SL_canEncode ∈ zg := zg_in 216 rfl rfl
theorem d_SL_canEncode_0 : decode b_SL_canEncode 0 = .ok (.iload_n 0, 1) := by decide +kernel
theorem d_SL_canEncode_1 : decode b_SL_canEncode 1 = .ok (.ifCond .lt 14, 3) := by decide +kernel
theorem d_SL_canEncode_4 : decode b_SL_canEncode 4 = .ok (.iload_n 0, 1) := by decide +kernel
theorem d_SL_canEncode_5 : decode b_SL_canEncode 5 = .ok (.sipush 255, 3) := by decide +kernel
theorem d_SL_canEncode_8 : decode b_SL_canEncode 8 = .ok (.if_icmp .gt 7, 3) := by decide +kernel
theorem d_SL_canEncode_11 : decode b_SL_canEncode 11 = .ok (.iconst 1, 1) := by decide +kernel
theorem d_SL_canEncode_12 : decode b_SL_canEncode 12 = .ok (.goto 4, 3) := by decide +kernel
theorem d_SL_canEncode_15 : decode b_SL_canEncode 15 = .ok (.iconst 0, 1) := by decide +kernel
theorem d_SL_canEncode_16 : decode b_SL_canEncode 16 = .ok (.ireturn, 1) := by decide +kernel
abbrev b_SL_indexOfChar : ByteArray := prog_14_method_23_code
def y_SL_indexOfChar : MethodName := ⟨"java/lang/StringLatin1", "indexOfChar", "([BIII)I"⟩
abbrev k_SL_indexOfChar : Cond := .code y_SL_indexOfChar b_SL_indexOfChar 6 (some .int)
set_option maxRecDepth 20000 in
theorem zj_SL_indexOfChar : k_SL_indexOfChar ∈ zg := zg_in 225 rfl rfl
theorem d_SL_indexOfChar_0 : decode b_SL_indexOfChar 0 = .ok (.iload_n 1, 1) := by decide +kernel
theorem d_SL_indexOfChar_1 : decode b_SL_indexOfChar 1 = .ok (.i2b, 1) := by decide +kernel
theorem d_SL_indexOfChar_2 : decode b_SL_indexOfChar 2 = .ok (.istore 4, 2) := by decide +kernel
theorem d_SL_indexOfChar_4 : decode b_SL_indexOfChar 4 = .ok (.iload_n 2, 1) := by decide +kernel
theorem d_SL_indexOfChar_5 : decode b_SL_indexOfChar 5 = .ok (.istore 5, 2) := by decide +kernel
theorem d_SL_indexOfChar_7 : decode b_SL_indexOfChar 7 = .ok (.iload 5, 2) := by decide +kernel
theorem d_SL_indexOfChar_9 : decode b_SL_indexOfChar 9 = .ok (.iload_n 3, 1) := by decide +kernel
theorem d_SL_indexOfChar_10 : decode b_SL_indexOfChar 10 = .ok (.if_icmp .ge 21, 3) := by decide +kernel
theorem d_SL_indexOfChar_13 : decode b_SL_indexOfChar 13 = .ok (.aload_n 0, 1) := by decide +kernel
theorem d_SL_indexOfChar_14 : decode b_SL_indexOfChar 14 = .ok (.iload 5, 2) := by decide +kernel
theorem d_SL_indexOfChar_16 : decode b_SL_indexOfChar 16 = .ok (.baload, 1) := by decide +kernel
theorem d_SL_indexOfChar_17 : decode b_SL_indexOfChar 17 = .ok (.iload 4, 2) := by decide +kernel
theorem d_SL_indexOfChar_19 : decode b_SL_indexOfChar 19 = .ok (.if_icmp .ne 6, 3) := by decide +kernel
theorem d_SL_indexOfChar_22 : decode b_SL_indexOfChar 22 = .ok (.iload 5, 2) := by decide +kernel
theorem d_SL_indexOfChar_24 : decode b_SL_indexOfChar 24 = .ok (.ireturn, 1) := by decide +kernel
theorem d_SL_indexOfChar_25 : decode b_SL_indexOfChar 25 = .ok (.iinc 5 1, 3) := by decide +kernel
theorem d_SL_indexOfChar_28 : decode b_SL_indexOfChar 28 = .ok (.goto (-21), 3) := by decide +kernel
theorem d_SL_indexOfChar_31 : decode b_SL_indexOfChar 31 = .ok (.iconst (-1), 1) := by decide +kernel
theorem d_SL_indexOfChar_32 : decode b_SL_indexOfChar 32 = .ok (.ireturn, 1) := by decide +kernel
theorem zc_IN_bitCount : zCal y_IN_bitCount b_IN_bitCount 1 (some .int) 1 := ⟨zj_IN_bitCount, zw_10, by decide, by decide, by decide +kernel⟩
theorem zc_ST_charAt : zCal y_ST_charAt b_ST_charAt 2 (some .char) 1 := ⟨zj_ST_charAt, zw_13, by decide, by decide, by decide +kernel⟩
theorem zc_ST_isLatin1 : zCal y_ST_isLatin1 b_ST_isLatin1 1 (some .boolean) 0 := ⟨zj_ST_isLatin1, zw_13, by decide, by decide, by decide +kernel⟩
theorem zc_SL_charAt : zCal y_SL_charAt b_SL_charAt 2 (some .char) 2 := ⟨zj_SL_charAt, zw_14, by decide, by decide, by decide +kernel⟩
theorem zc_ST_checkIndex : zCal y_ST_checkIndex b_ST_checkIndex 2 none 2 := ⟨zj_ST_checkIndex, zw_13, by decide, by decide, by decide +kernel⟩
theorem zc_PR_checkIndex : zCal y_PR_checkIndex b_PR_checkIndex 3 (some .int) 3 := ⟨zj_PR_checkIndex, zw_15, by decide, by decide, by decide +kernel⟩
theorem zc_ST_indexOf : zCal y_ST_indexOf b_ST_indexOf 2 (some .int) 1 := ⟨zj_ST_indexOf, zw_13, by decide, by decide, by decide +kernel⟩
theorem zc_ST_indexOf2 : zCal y_ST_indexOf2 b_ST_indexOf2 3 (some .int) 2 := ⟨zj_ST_indexOf2, zw_13, by decide, by decide, by decide +kernel⟩
theorem zc_ST_length : zCal y_ST_length b_ST_length 1 (some .int) 0 := ⟨zj_ST_length, zw_13, by decide, by decide, by decide +kernel⟩
theorem zc_ST_coder : zCal y_ST_coder b_ST_coder 1 (some .byte) 0 := ⟨zj_ST_coder, zw_13, by decide, by decide, by decide +kernel⟩
theorem zc_SL_indexOf : zCal y_SL_indexOf b_SL_indexOf 4 (some .int) 4 := ⟨zj_SL_indexOf, zw_14, by decide, by decide, by decide +kernel⟩
theorem zc_SL_canEncode : zCal y_SL_canEncode b_SL_canEncode 1 (some .boolean) 1 := ⟨zj_SL_canEncode, zw_14, by decide, by decide, by decide +kernel⟩
theorem zc_SL_indexOfChar : zCal y_SL_indexOfChar b_SL_indexOfChar 6 (some .int) 4 := ⟨zj_SL_indexOfChar, zw_14, by decide, by decide, by decide +kernel⟩
end
section
set_option maxHeartbeats 4000000 in
set_option maxRecDepth 100000 in
theorem c_IN_bitCount (l : Launch) (D : va_G) (cI cC cJ : ClassId) (x : Int32) : Met l y_IN_bitCount (zw k_IN_bitCount) ({ frames := 0, cells := 0, slots := 0, locals := 0 }) (zPc [.int x] (fun _ => True) D cI cC cJ) (QcRead (zs_bc x)) 0 0 (fun _ => False) := by
  refine zMet (by decide) (Nat.le_of_ble_eq_true rfl) ?_
  intro p e s m below meth c hx hb hr hg hown hlk hml hB hE ls hl
  have hl : lv_has ls 1 [(0, .int x)] := hl
  have hS9 : CallFix p m c b_IN_bitCount 1 s [.int x].toArray zg "java/lang/Integer" := ⟨hx, hb, hml, hown, hg⟩
  refine lv_iload_n hx hb d_IN_bitCount_0 rfl (lv_at hl 0 rfl) ?_
  refine lv_iload_n hx hb d_IN_bitCount_1 rfl (lv_at hl 0 rfl) ?_
  refine lv_iconst (v := (nI 1)) hx hb d_IN_bitCount_2 (by decide) ?_
  refine lv_iushr (v := zs_u x (nI 1)) hx hb d_IN_bitCount_3 rfl ?_
  refine lv_ldcw (v := (nI 1431655765)) hx hb hown (hg _ zw_333) d_IN_bitCount_4 ?_
  refine lv_iand hx hb d_IN_bitCount_7 ?_
  refine lv_isub hx hb d_IN_bitCount_8 ?_
  refine ztop (y := zs_b1 x) (rfl) ?_
  refine lv_istore_n hx hb d_IN_bitCount_9 rfl hl (by decide) (lv' := [(0, .int (zs_b1 x))]) rfl (fun ls hl => ?_)
  refine lv_iload_n hx hb d_IN_bitCount_10 rfl (lv_at hl 0 rfl) ?_
  refine lv_ldcw (v := (nI 858993459)) hx hb hown (hg _ zw_334) d_IN_bitCount_11 ?_
  refine lv_iand hx hb d_IN_bitCount_14 ?_
  refine lv_iload_n hx hb d_IN_bitCount_15 rfl (lv_at hl 0 rfl) ?_
  refine lv_iconst (v := (nI 2)) hx hb d_IN_bitCount_16 (by decide) ?_
  refine lv_iushr (v := zs_u (zs_b1 x) (nI 2)) hx hb d_IN_bitCount_17 rfl ?_
  refine lv_ldcw (v := (nI 858993459)) hx hb hown (hg _ zw_334) d_IN_bitCount_18 ?_
  refine lv_iand hx hb d_IN_bitCount_21 ?_
  refine lv_iadd hx hb d_IN_bitCount_22 ?_
  refine ztop (y := zs_b2 (zs_b1 x)) (rfl) ?_
  refine lv_istore_n hx hb d_IN_bitCount_23 rfl hl (by decide) (lv' := [(0, .int (zs_b2 (zs_b1 x)))]) rfl (fun ls hl => ?_)
  refine lv_iload_n hx hb d_IN_bitCount_24 rfl (lv_at hl 0 rfl) ?_
  refine lv_iload_n hx hb d_IN_bitCount_25 rfl (lv_at hl 0 rfl) ?_
  refine lv_iconst (v := (nI 4)) hx hb d_IN_bitCount_26 (by decide) ?_
  refine lv_iushr (v := zs_u (zs_b2 (zs_b1 x)) (nI 4)) hx hb d_IN_bitCount_27 rfl ?_
  refine lv_iadd hx hb d_IN_bitCount_28 ?_
  refine lv_ldcw (v := (nI 252645135)) hx hb hown (hg _ zw_335) d_IN_bitCount_29 ?_
  refine lv_iand hx hb d_IN_bitCount_32 ?_
  refine ztop (y := zs_b3 (zs_b2 (zs_b1 x))) (rfl) ?_
  refine lv_istore_n hx hb d_IN_bitCount_33 rfl hl (by decide) (lv' := [(0, .int (zs_b3 (zs_b2 (zs_b1 x))))]) rfl (fun ls hl => ?_)
  refine lv_iload_n hx hb d_IN_bitCount_34 rfl (lv_at hl 0 rfl) ?_
  refine lv_iload_n hx hb d_IN_bitCount_35 rfl (lv_at hl 0 rfl) ?_
  refine lv_bipush (v := (nI 8)) hx hb d_IN_bitCount_36 (by decide) ?_
  refine lv_iushr (v := zs_u (zs_b3 (zs_b2 (zs_b1 x))) (nI 8)) hx hb d_IN_bitCount_38 rfl ?_
  refine lv_iadd hx hb d_IN_bitCount_39 ?_
  refine ztop (y := zs_b4 (zs_b3 (zs_b2 (zs_b1 x)))) (rfl) ?_
  refine lv_istore_n hx hb d_IN_bitCount_40 rfl hl (by decide) (lv' := [(0, .int (zs_b4 (zs_b3 (zs_b2 (zs_b1 x)))))]) rfl (fun ls hl => ?_)
  refine lv_iload_n hx hb d_IN_bitCount_41 rfl (lv_at hl 0 rfl) ?_
  refine lv_iload_n hx hb d_IN_bitCount_42 rfl (lv_at hl 0 rfl) ?_
  refine lv_bipush (v := (nI 16)) hx hb d_IN_bitCount_43 (by decide) ?_
  refine lv_iushr (v := zs_u (zs_b4 (zs_b3 (zs_b2 (zs_b1 x)))) (nI 16)) hx hb d_IN_bitCount_45 rfl ?_
  refine lv_iadd hx hb d_IN_bitCount_46 ?_
  refine ztop (y := zs_b5 (zs_b4 (zs_b3 (zs_b2 (zs_b1 x))))) (rfl) ?_
  refine lv_istore_n hx hb d_IN_bitCount_47 rfl hl (by decide) (lv' := [(0, .int (zs_b5 (zs_b4 (zs_b3 (zs_b2 (zs_b1 x))))))]) rfl (fun ls hl => ?_)
  refine lv_iload_n hx hb d_IN_bitCount_48 rfl (lv_at hl 0 rfl) ?_
  refine lv_bipush (v := (nI 63)) hx hb d_IN_bitCount_49 (by decide) ?_
  refine lv_iand hx hb d_IN_bitCount_51 ?_
  exact W.iret (v := ((zs_b5 (zs_b4 (zs_b3 (zs_b2 (zs_b1 x))))) &&& (nI 63))) hx hb hr (fun t ht _ => ⟨congrArg (fun z => Outcome.returned (some (Value.int z))) (rfl), ht⟩) t_nil d_IN_bitCount_52

set_option maxHeartbeats 4000000 in
set_option maxRecDepth 100000 in
theorem c_SF_areReceivers (l : Launch) (D : va_G) (cI cC cJ : ClassId) (h : Nat → Nat) (n0 n1 n2 n3 n4 : Nat) (f0 f1 f2 f3 f4 : Nat → Int32) (rp : Int32) (hn0 : n0 ≤ 4) (hn1 : n1 ≤ 4) (hn2 : n2 ≤ 40) (hn3 : n3 ≤ 120) (hn4 : n4 ≤ 160)(x : Int32) : Met l y_SF_areReceivers (zw k_SF_areReceivers) ({ frames := 1, cells := 0, slots := 0, locals := 20 }) (zPc [.ref (h 0), .int x] (fun H => va_P D zcl (zSf cI h n0 n1 n2 n3 n4 f0 f1 f2 f3 f4 rp) H) D cI cC cJ) (QcRead (nI (zs_rc n0 (zs_un x)))) 0 0 (fun _ => False) := by
  refine zMet (by decide) (Nat.le_of_ble_eq_true rfl) ?_
  intro p e s m below meth c hx hb hr hg hown hlk hml hP hE ls hl
  have hl : lv_has ls 3 [(0, .ref (h 0)), (1, .int x)] := hl
  have hS9 : CallFix p m c b_SF_areReceivers 3 s [.ref (h 0), .int x].toArray zg "SealedFiles" := ⟨hx, hb, hml, hown, hg⟩
  have hP : va_P D zcl [((h 0), .inr (1, [.ref (h 1), .ref (h 3), .ref (h 5), .ref (h 7), .ref (h 9), .int rp])), ((h 1), .inr (0, [.ref (h 2), .int (nI n0)])), ((h 2), .inl (cI, 4, .inl f0)), ((h 3), .inr (0, [.ref (h 4), .int (nI n1)])), ((h 4), .inl (cI, 4, .inl f1)), ((h 5), .inr (0, [.ref (h 6), .int (nI n2)])), ((h 6), .inl (cI, 40, .inl f2)), ((h 7), .inr (0, [.ref (h 8), .int (nI n3)])), ((h 8), .inl (cI, 120, .inl f3)), ((h 9), .inr (0, [.ref (h 10), .int (nI n4)])), ((h 10), .inl (cI, 160, .inl f4))] s.heap := hP
  refine lv_iload_n hx hb d_SF_areReceivers_0 rfl (lv_at hl 1 rfl) ?_
  refine zRd (rest := []) (zrS hS9 (c_IN_bitCount l D cI cC cJ x) zc_IN_bitCount zw_330 zw_331 (by decide) (trivial) hE rfl hl.1 rfl (Nat.le_of_ble_eq_true rfl) d_SF_areReceivers_1) ?_
  refine lv_istore_n hx hb d_SF_areReceivers_4 rfl hl (by decide) (lv' := [(2, .int (zs_bc x)), (0, .ref (h 0)), (1, .int x)]) rfl (fun ls hl => ?_)
  refine lv_iload_n hx hb d_SF_areReceivers_5 rfl (lv_at hl 0 rfl) ?_
  refine lv_iconst (v := (nI 1)) hx hb d_SF_areReceivers_6 (by decide) ?_
  have h16 := zs_two4 hn0
  have hux : nI (zs_un x) = x := zs_nI_un x
  by_cases g : zs_un x < 2 ^ n0
  · have hbc : zs_bc x = nI (zs_pc (zs_un x)) := by rw [← zs_bc_4 (zs_un x) (by omega), hux]
    have hp4 := zs_pc_le (zs_un x)
    by_cases g1 : 1 ≤ zs_pc (zs_un x)
    · refine lv_icmp_lt hx hb d_SF_areReceivers_7 (tgt := 31) (by decide) (fun z9 => absurd z9 (by rw [hbc]; exact nI_nlt (by omega) (by omega))) (fun _ => ?_)
      refine lv_iload_n hx hb d_SF_areReceivers_10 rfl (lv_at hl 0 rfl) ?_
      refine lv_iconst (v := (nI 3)) hx hb d_SF_areReceivers_11 (by decide) ?_
      by_cases g2 : zs_pc (zs_un x) ≤ 3
      · refine lv_icmp_gt hx hb d_SF_areReceivers_12 (tgt := 31) (by decide) (fun z9 => absurd z9 (by rw [hbc]; exact nI_nlt (by omega) (by omega))) (fun _ => ?_)
        refine lv_iload_n hx hb d_SF_areReceivers_15 rfl (lv_at hl 2 rfl) ?_
        refine lv_aload_n hx hb d_SF_areReceivers_16 rfl (lv_at hl 1 rfl) ?_
        refine va_get (D := D) (ci := 1) (v := .ref (h 1)) (C := R_SF) (T := F_SF) (N := 6) hx hb hg i_SF hown hE.1 hP 0 rfl rfl 0 (by decide) (hg _ zw_40) (fun _ h9 => h9) rfl d_SF_areReceivers_17 ?_
        refine zRd (rest := [.int x]) (zrVN hS9 (c_RW_size l D cI cC cJ (h 1) (h 2) 4 n0 f0 (by omega) (by decide)) zc_RW_size (by decide) zw_85 zp_3 (by decide) (va_recv hE.1 hP (ci := 0) (q := (R_RW, F_RW, 2)) rfl (q0 := 1) rfl) (hP.sub [1, 2] rfl) hE rfl hl.1 rfl (Nat.le_of_ble_eq_true rfl) d_SF_areReceivers_20) ?_
        refine lv_iushr (v := zs_u x (nI n0)) hx hb d_SF_areReceivers_23 rfl ?_
        refine ztop (y := nI (zs_un x / 2 ^ n0)) (zs_u_un x (by omega)) ?_
        refine lv_if_ne hx hb d_SF_areReceivers_24 (tgt := 31) (by decide) (fun z9 => absurd (by rw [Nat.div_eq_of_lt g]; rfl) z9) (fun _ => ?_)
        refine lv_iconst (v := (nI 1)) hx hb d_SF_areReceivers_27 (by decide) ?_
        refine lv_goto hx hb d_SF_areReceivers_28 (tgt := 32) (by decide) ?_
        exact W.zret (v := (nI 1)) hx hb hr (rfl) (fun t ht _ => ⟨congrArg (fun z => Outcome.returned (some (Value.int z))) (by rw [zs_rc, if_pos ⟨g1, g2, g⟩]), ht⟩) t_nil d_SF_areReceivers_32
      · refine lv_icmp_gt hx hb d_SF_areReceivers_12 (tgt := 31) (by decide) (fun _ => ?_) (fun z9 => absurd (by rw [hbc]; exact nI_lt (by omega) (by omega)) z9)
        refine lv_iconst (v := (nI 0)) hx hb d_SF_areReceivers_31 (by decide) ?_
        exact W.zret (v := (nI 0)) hx hb hr (rfl) (fun t ht _ => ⟨congrArg (fun z => Outcome.returned (some (Value.int z))) (by rw [zs_rc, if_neg (by omega)]), ht⟩) t_nil d_SF_areReceivers_32
    · refine lv_icmp_lt hx hb d_SF_areReceivers_7 (tgt := 31) (by decide) (fun _ => ?_) (fun z9 => absurd (by rw [hbc]; exact nI_lt (by omega) (by omega)) z9)
      refine lv_iconst (v := (nI 0)) hx hb d_SF_areReceivers_31 (by decide) ?_
      exact W.zret (v := (nI 0)) hx hb hr (rfl) (fun t ht _ => ⟨congrArg (fun z => Outcome.returned (some (Value.int z))) (by rw [zs_rc, if_neg (by omega)]), ht⟩) t_nil d_SF_areReceivers_32
  · refine lv_icmp_lt hx hb d_SF_areReceivers_7 (tgt := 31) (by decide) (fun g1 => ?_) (fun g1 => ?_)
    · refine lv_iconst (v := (nI 0)) hx hb d_SF_areReceivers_31 (by decide) ?_
      exact W.zret (v := (nI 0)) hx hb hr (rfl) (fun t ht _ => ⟨congrArg (fun z => Outcome.returned (some (Value.int z))) (by rw [zs_rc, if_neg (fun z => g z.2.2)]), ht⟩) t_nil d_SF_areReceivers_32
    · refine lv_iload_n hx hb d_SF_areReceivers_10 rfl (lv_at hl 0 rfl) ?_
      refine lv_iconst (v := (nI 3)) hx hb d_SF_areReceivers_11 (by decide) ?_
      refine lv_icmp_gt hx hb d_SF_areReceivers_12 (tgt := 31) (by decide) (fun g2 => ?_) (fun g2 => ?_)
      · refine lv_iconst (v := (nI 0)) hx hb d_SF_areReceivers_31 (by decide) ?_
        exact W.zret (v := (nI 0)) hx hb hr (rfl) (fun t ht _ => ⟨congrArg (fun z => Outcome.returned (some (Value.int z))) (by rw [zs_rc, if_neg (fun z => g z.2.2)]), ht⟩) t_nil d_SF_areReceivers_32
      · refine lv_iload_n hx hb d_SF_areReceivers_15 rfl (lv_at hl 2 rfl) ?_
        refine lv_aload_n hx hb d_SF_areReceivers_16 rfl (lv_at hl 1 rfl) ?_
        refine va_get (D := D) (ci := 1) (v := .ref (h 1)) (C := R_SF) (T := F_SF) (N := 6) hx hb hg i_SF hown hE.1 hP 0 rfl rfl 0 (by decide) (hg _ zw_40) (fun _ h9 => h9) rfl d_SF_areReceivers_17 ?_
        refine zRd (rest := [.int x]) (zrVN hS9 (c_RW_size l D cI cC cJ (h 1) (h 2) 4 n0 f0 (by omega) (by decide)) zc_RW_size (by decide) zw_85 zp_3 (by decide) (va_recv hE.1 hP (ci := 0) (q := (R_RW, F_RW, 2)) rfl (q0 := 1) rfl) (hP.sub [1, 2] rfl) hE rfl hl.1 rfl (Nat.le_of_ble_eq_true rfl) d_SF_areReceivers_20) ?_
        refine lv_iushr (v := zs_u x (nI n0)) hx hb d_SF_areReceivers_23 rfl ?_
        refine ztop (y := nI (zs_un x / 2 ^ n0)) (zs_u_un x (by omega)) ?_
        have hpos : 0 < zs_un x / 2 ^ n0 := Nat.div_pos (by omega) (Nat.two_pow_pos n0)
        have hle : zs_un x / 2 ^ n0 < 2 ^ 32 := Nat.lt_of_le_of_lt (Nat.div_le_self _ _) (zs_un_lt x)
        refine lv_if_ne hx hb d_SF_areReceivers_24 (tgt := 31) (by decide) (fun _ => ?_) (fun z9 => absurd z9 (zs_ne0 hpos hle))
        refine lv_iconst (v := (nI 0)) hx hb d_SF_areReceivers_31 (by decide) ?_
        exact W.zret (v := (nI 0)) hx hb hr (rfl) (fun t ht _ => ⟨congrArg (fun z => Outcome.returned (some (Value.int z))) (by rw [zs_rc, if_neg (fun z => g z.2.2)]), ht⟩) t_nil d_SF_areReceivers_32

set_option maxHeartbeats 4000000 in
set_option maxRecDepth 100000 in
theorem c_SF_draftIsPrintedForm (l : Launch) (D : va_G) (cI cC cJ : ClassId) (h : Nat → Nat) (n0 n1 n2 n3 n4 : Nat) (f0 f1 f2 f3 f4 : Nat → Int32) (rp : Int32) (hn0 : n0 ≤ 4) (hn1 : n1 ≤ 4) (hn2 : n2 ≤ 40) (hn3 : n3 ≤ 120) (hn4 : n4 ≤ 160) (E : Nat → Nat) (hE9 : zs_hold 64 f4 (n4, E)) : Met l y_SF_draftIsPrintedForm (zw k_SF_draftIsPrintedForm) ({ frames := 2, cells := 0, slots := 0, locals := 42 }) (zPc [.ref (h 0)] (fun H => va_P D zcl (zSf cI h n0 n1 n2 n3 n4 f0 f1 f2 f3 f4 rp) H) D cI cC cJ) (QcRead (nI (zs_pf n4 E))) 0 0 (fun _ => False) := by
  refine zMet (by decide) (Nat.le_of_ble_eq_true rfl) ?_
  intro p e s m below meth c hx hb hr hg hown hlk hml hP hE ls hl
  have hl : lv_has ls 3 [(0, .ref (h 0))] := hl
  have hS9 : CallFix p m c b_SF_draftIsPrintedForm 3 s [.ref (h 0)].toArray zg "SealedFiles" := ⟨hx, hb, hml, hown, hg⟩
  have hP : va_P D zcl [((h 0), .inr (1, [.ref (h 1), .ref (h 3), .ref (h 5), .ref (h 7), .ref (h 9), .int rp])), ((h 1), .inr (0, [.ref (h 2), .int (nI n0)])), ((h 2), .inl (cI, 4, .inl f0)), ((h 3), .inr (0, [.ref (h 4), .int (nI n1)])), ((h 4), .inl (cI, 4, .inl f1)), ((h 5), .inr (0, [.ref (h 6), .int (nI n2)])), ((h 6), .inl (cI, 40, .inl f2)), ((h 7), .inr (0, [.ref (h 8), .int (nI n3)])), ((h 8), .inl (cI, 120, .inl f3)), ((h 9), .inr (0, [.ref (h 10), .int (nI n4)])), ((h 10), .inl (cI, 160, .inl f4))] s.heap := hP
  refine lv_aload_n hx hb d_SF_draftIsPrintedForm_0 rfl (lv_at hl 0 rfl) ?_
  refine va_get (D := D) (ci := 1) (v := .ref (h 9)) (C := R_SF) (T := F_SF) (N := 6) hx hb hg i_SF hown hE.1 hP 0 rfl rfl 4 (by decide) (hg _ zw_44) (fun _ h9 => h9) rfl d_SF_draftIsPrintedForm_1 ?_
  refine zRd (rest := []) (zrVN hS9 (c_RW_size l D cI cC cJ (h 9) (h 10) 160 n4 f4 (by omega) (by decide)) zc_RW_size (by decide) zw_85 zp_3 (by decide) (va_recv hE.1 hP (ci := 0) (q := (R_RW, F_RW, 2)) rfl (q0 := 9) rfl) (hP.sub [9, 10] rfl) hE rfl hl.1 rfl (Nat.le_of_ble_eq_true rfl) d_SF_draftIsPrintedForm_4) ?_
  refine lv_bipush (v := (nI 6)) hx hb d_SF_draftIsPrintedForm_7 (by decide) ?_
  refine lv_imul hx hb d_SF_draftIsPrintedForm_9 ?_
  refine ztop (y := nI (n4 * 6)) (pk_mul _ _) ?_
  refine lv_aload_n hx hb d_SF_draftIsPrintedForm_10 rfl (lv_at hl 0 rfl) ?_
  refine zRd (rest := [.int (nI (n4 * 6))]) (zrV hS9 (c_SF_draftBytes l D cI cC cJ h n0 n1 n2 n3 n4 f0 f1 f2 f3 f4 rp hn0 hn1 hn2 hn3 hn4) zc_SF_draftBytes zw_473 zw_475 zp_24 (by decide) (va_recv hE.1 hP (ci := 1) (q := (R_SF, F_SF, 6)) rfl (q0 := 0) rfl) (hP) hE rfl hl.1 rfl (Nat.le_of_ble_eq_true rfl) d_SF_draftIsPrintedForm_11) ?_
  refine lv_bipush (v := (nI 8)) hx hb d_SF_draftIsPrintedForm_14 (by decide) ?_
  refine lv_imul hx hb d_SF_draftIsPrintedForm_16 ?_
  refine ztop (y := nI (n4 * 6 / 8 * 8)) (pk_mul _ _) ?_
  refine lv_isub hx hb d_SF_draftIsPrintedForm_17 ?_
  refine ztop (y := nI (n4 * 6 % 8)) ((pk_sub (by omega)).trans (congrArg nI (by omega))) ?_
  refine lv_istore_n hx hb d_SF_draftIsPrintedForm_18 rfl hl (by decide) (lv' := [(1, .int (nI (n4 * 6 % 8))), (0, .ref (h 0))]) rfl (fun ls hl => ?_)
  refine lv_iload_n hx hb d_SF_draftIsPrintedForm_19 rfl (lv_at hl 0 rfl) ?_
  by_cases g : (n4 * 6 % 8) = 0
  · refine lv_if_ne hx hb d_SF_draftIsPrintedForm_20 (tgt := 25) (by decide) (fun z9 => absurd (by rw [g]; rfl) z9) (fun _ => ?_)
    refine lv_iconst (v := (nI 1)) hx hb d_SF_draftIsPrintedForm_23 (by decide) ?_
    exact W.zret (v := (nI 1)) hx hb hr (rfl) (fun t ht _ => ⟨congrArg (fun z => Outcome.returned (some (Value.int z))) (by rw [zs_pf, if_pos g]), ht⟩) t_nil d_SF_draftIsPrintedForm_24
  · have h2 : 2 ^ (n4 * 6 % 8) ≤ 2 ^ 7 := Nat.pow_le_pow_right (by decide) (by omega)
    have h1 : 0 < 2 ^ (n4 * 6 % 8) := Nat.two_pow_pos _
    refine lv_if_ne hx hb d_SF_draftIsPrintedForm_20 (tgt := 25) (by decide) (fun _ => ?_) (fun z9 => absurd z9 (nI_ne0 (by omega) (by omega)))
    refine lv_iconst (v := (nI 1)) hx hb d_SF_draftIsPrintedForm_25 (by decide) ?_
    refine lv_iload_n hx hb d_SF_draftIsPrintedForm_26 rfl (lv_at hl 0 rfl) ?_
    refine lv_ishl hx hb d_SF_draftIsPrintedForm_27 ?_
    refine ztop (y := nI (2 ^ (n4 * 6 % 8))) ((pk_shlN (nI (n4 * 6 % 8) &&& 31) (n4 * 6 % 8) (zs_sm _ (by omega)) (by omega)).trans (by rw [Nat.one_mul])) ?_
    refine lv_iconst (v := (nI 1)) hx hb d_SF_draftIsPrintedForm_28 (by decide) ?_
    refine lv_isub hx hb d_SF_draftIsPrintedForm_29 ?_
    refine ztop (y := nI (2 ^ (n4 * 6 % 8) - 1)) (pk_sub (by omega)) ?_
    refine lv_istore_n hx hb d_SF_draftIsPrintedForm_30 rfl hl (by decide) (lv' := [(2, .int (nI (2 ^ (n4 * 6 % 8) - 1))), (1, .int (nI (n4 * 6 % 8))), (0, .ref (h 0))]) rfl (fun ls hl => ?_)
    refine lv_iload_n hx hb d_SF_draftIsPrintedForm_31 rfl (lv_at hl 1 rfl) ?_
    refine lv_bipush (v := (nI 6)) hx hb d_SF_draftIsPrintedForm_32 (by decide) ?_
    by_cases g1 : (n4 * 6 % 8) < 6
    · refine lv_icmp_ge hx hb d_SF_draftIsPrintedForm_34 (tgt := 62) (by decide) (fun z9 => absurd z9 (nI_ge (by omega) (by omega))) (fun _ => ?_)
      refine lv_aload_n hx hb d_SF_draftIsPrintedForm_37 rfl (lv_at hl 2 rfl) ?_
      refine va_get (D := D) (ci := 1) (v := .ref (h 9)) (C := R_SF) (T := F_SF) (N := 6) hx hb hg i_SF hown hE.1 hP 0 rfl rfl 4 (by decide) (hg _ zw_44) (fun _ h9 => h9) rfl d_SF_draftIsPrintedForm_38 ?_
      refine lv_aload_n hx hb d_SF_draftIsPrintedForm_41 rfl (lv_at hl 2 rfl) ?_
      refine va_get (D := D) (ci := 1) (v := .ref (h 9)) (C := R_SF) (T := F_SF) (N := 6) hx hb hg i_SF hown hE.1 hP 0 rfl rfl 4 (by decide) (hg _ zw_44) (fun _ h9 => h9) rfl d_SF_draftIsPrintedForm_42 ?_
      refine zRd (rest := [.ref (h 9)]) (zrVN hS9 (c_RW_size l D cI cC cJ (h 9) (h 10) 160 n4 f4 (by omega) (by decide)) zc_RW_size (by decide) zw_85 zp_3 (by decide) (va_recv hE.1 hP (ci := 0) (q := (R_RW, F_RW, 2)) rfl (q0 := 9) rfl) (hP.sub [9, 10] rfl) hE rfl hl.1 rfl (Nat.le_of_ble_eq_true rfl) d_SF_draftIsPrintedForm_45) ?_
      refine lv_iconst (v := (nI 1)) hx hb d_SF_draftIsPrintedForm_48 (by decide) ?_
      refine lv_isub hx hb d_SF_draftIsPrintedForm_49 ?_
      refine ztop (y := nI (n4 - 1)) (pk_sub (by omega)) ?_
      refine zRd (rest := []) (zrVN hS9 (c_RW_item l D cI cC cJ (h 9) (h 10) 160 n4 f4 (by omega) (by decide) (nI (n4 - 1))) zc_RW_item (by decide) zw_65 zp_0 (by decide) (va_recv hE.1 hP (ci := 0) (q := (R_RW, F_RW, 2)) rfl (q0 := 9) rfl) (hP.sub [9, 10] rfl) hE rfl hl.1 rfl (Nat.le_of_ble_eq_true rfl) d_SF_draftIsPrintedForm_50) ?_
      refine ztop (y := nI (E (n4 - 1))) ((zs_item_in (by omega) (by omega)).trans (hE9 (n4 - 1) (show n4 - 1 < n4 by omega)).1) ?_
      have h8 : E (n4 - 1) < 64 := (hE9 (n4 - 1) (show n4 - 1 < n4 by omega)).2
      refine lv_iload_n hx hb d_SF_draftIsPrintedForm_53 rfl (lv_at hl 0 rfl) ?_
      refine lv_iand hx hb d_SF_draftIsPrintedForm_54 ?_
      refine ztop (y := nI (E (n4 - 1) % 2 ^ (n4 * 6 % 8))) (pk_andN (by omega) (n4 * 6 % 8) (pk_tn (by omega))) ?_
      have h9 : E (n4 - 1) % 2 ^ (n4 * 6 % 8) ≤ E (n4 - 1) := Nat.mod_le _ _
      by_cases g2 : E (n4 - 1) % 2 ^ (n4 * 6 % 8) = 0
      · refine lv_if_ne hx hb d_SF_draftIsPrintedForm_55 (tgt := 62) (by decide) (fun z9 => absurd (by rw [g2]; rfl) z9) (fun _ => ?_)
        refine lv_iconst (v := (nI 1)) hx hb d_SF_draftIsPrintedForm_58 (by decide) ?_
        refine lv_goto hx hb d_SF_draftIsPrintedForm_59 (tgt := 63) (by decide) ?_
        exact W.zret (v := (nI 1)) hx hb hr (rfl) (fun t ht _ => ⟨congrArg (fun z => Outcome.returned (some (Value.int z))) (by rw [zs_pf, if_neg g, if_pos ⟨g1, g2⟩]), ht⟩) t_nil d_SF_draftIsPrintedForm_63
      · refine lv_if_ne hx hb d_SF_draftIsPrintedForm_55 (tgt := 62) (by decide) (fun _ => ?_) (fun z9 => absurd z9 (nI_ne0 (by omega) (by omega)))
        refine lv_iconst (v := (nI 0)) hx hb d_SF_draftIsPrintedForm_62 (by decide) ?_
        exact W.zret (v := (nI 0)) hx hb hr (rfl) (fun t ht _ => ⟨congrArg (fun z => Outcome.returned (some (Value.int z))) (by rw [zs_pf, if_neg g, if_neg (fun z => g2 z.2)]), ht⟩) t_nil d_SF_draftIsPrintedForm_63
    · refine lv_icmp_ge hx hb d_SF_draftIsPrintedForm_34 (tgt := 62) (by decide) (fun _ => ?_) (fun z9 => absurd (nI_le (by omega) (by omega)) z9)
      refine lv_iconst (v := (nI 0)) hx hb d_SF_draftIsPrintedForm_62 (by decide) ?_
      exact W.zret (v := (nI 0)) hx hb hr (rfl) (fun t ht _ => ⟨congrArg (fun z => Outcome.returned (some (Value.int z))) (by rw [zs_pf, if_neg g, if_neg (fun z => g1 z.1)]), ht⟩) t_nil d_SF_draftIsPrintedForm_63

set_option maxHeartbeats 4000000 in
set_option maxRecDepth 100000 in
theorem c_SF_takeDraft (l : Launch) (D : va_G) (cI cC cJ : ClassId) (h : Nat → Nat) (n0 n1 n2 n3 n4 : Nat) (f0 f1 f2 f3 f4 : Nat → Int32) (rp : Int32) (hn0 : n0 ≤ 4) (hn1 : n1 ≤ 4) (hn2 : n2 ≤ 40) (hn3 : n3 ≤ 120) (hn4 : n4 ≤ 160) (hh : zs_inj h) (E : Nat → Nat) (hE9 : zs_hold 64 f4 (n4, E)) : Met l y_SF_takeDraft (zw k_SF_takeDraft) ({ frames := 2, cells := 0, slots := 0, locals := 42 }) (zPc [.ref (h 0)] (fun H => va_P D zcl (zSf cI h n0 n1 n2 n3 n4 f0 f1 f2 f3 f4 rp) H) D cI cC cJ) (zQm none (fun H => ∃ f3' : Nat → Int32, zs_hold 256 f3' (zs_lds E (n4 * 6 / 8)) ∧ va_P D zcl (zSf cI h n0 n1 n2 (n4 * 6 / 8) n4 f0 f1 f2 (f3') f4 rp) H) (zAS h)) 0 0 (zAS h) := by
  refine zMet (by decide) (Nat.le_of_ble_eq_true rfl) ?_
  intro p e s m below meth c hx hb hr hg hown hlk hml hP hE ls hl
  have hl : lv_has ls 6 [(0, .ref (h 0))] := hl
  have hS9 : CallFix p m c b_SF_takeDraft 6 s [.ref (h 0)].toArray zg "SealedFiles" := ⟨hx, hb, hml, hown, hg⟩
  have hP : va_P D zcl [((h 0), .inr (1, [.ref (h 1), .ref (h 3), .ref (h 5), .ref (h 7), .ref (h 9), .int rp])), ((h 1), .inr (0, [.ref (h 2), .int (nI n0)])), ((h 2), .inl (cI, 4, .inl f0)), ((h 3), .inr (0, [.ref (h 4), .int (nI n1)])), ((h 4), .inl (cI, 4, .inl f1)), ((h 5), .inr (0, [.ref (h 6), .int (nI n2)])), ((h 6), .inl (cI, 40, .inl f2)), ((h 7), .inr (0, [.ref (h 8), .int (nI n3)])), ((h 8), .inl (cI, 120, .inl f3)), ((h 9), .inr (0, [.ref (h 10), .int (nI n4)])), ((h 10), .inl (cI, 160, .inl f4))] s.heap := hP
  have hD : va_D (zAS h) [((h 0), .inr (1, [.ref (h 1), .ref (h 3), .ref (h 5), .ref (h 7), .ref (h 9), .int rp])), ((h 1), .inr (0, [.ref (h 2), .int (nI n0)])), ((h 2), .inl (cI, 4, .inl f0)), ((h 3), .inr (0, [.ref (h 4), .int (nI n1)])), ((h 4), .inl (cI, 4, .inl f1)), ((h 5), .inr (0, [.ref (h 6), .int (nI n2)])), ((h 6), .inl (cI, 40, .inl f2)), ((h 7), .inr (0, [.ref (h 8), .int (nI n3)])), ((h 8), .inl (cI, 120, .inl f3)), ((h 9), .inr (0, [.ref (h 10), .int (nI n4)])), ((h 10), .inl (cI, 160, .inl f4))] := zSf_D hh
  have hS : va_S (zAS h) s.heap s.heap [] := va_S.rf
  refine lv_aload_n hx hb d_SF_takeDraft_0 rfl (lv_at hl 0 rfl) ?_
  refine va_get (D := D) (ci := 1) (v := .ref (h 7)) (C := R_SF) (T := F_SF) (N := 6) hx hb hg i_SF hown hE.1 hP 0 rfl rfl 3 (by decide) (hg _ zw_43) (fun _ h9 => h9) rfl d_SF_takeDraft_1 ?_
  refine lv_iconst (v := (nI 0)) hx hb d_SF_takeDraft_4 (by decide) ?_
  refine zWr (rest := []) (zrVN hS9 (c_RW_clear l D cI cC cJ (h 7) (h 8) 120 n3 f3 (by omega) (by decide) (fun z => absurd (hh 7 8 (by decide) (by decide) z) (by decide))) zc_RW_shorten (by decide) zw_89 zp_4 (by decide) (va_recv hE.1 hP (ci := 0) (q := (R_RW, F_RW, 2)) rfl (q0 := 7) rfl) (hP.sub [7, 8] rfl) hE rfl hl.1 rfl (Nat.le_of_ble_eq_true rfl) d_SF_takeDraft_5) hS (fun q _ h => zA2_in hD 7 8 rfl rfl q h) (fun q h => zA2_in hD 7 8 rfl rfl q h) (fun H locs hB1 hz hk hS => ?_)
  obtain ⟨hP, hD⟩ := zrow hP hD 7 8 rfl rfl (by decide) hk hB1
  have hP : va_P D zcl [((h 0), .inr (1, [.ref (h 1), .ref (h 3), .ref (h 5), .ref (h 7), .ref (h 9), .int rp])), ((h 1), .inr (0, [.ref (h 2), .int (nI n0)])), ((h 2), .inl (cI, 4, .inl f0)), ((h 3), .inr (0, [.ref (h 4), .int (nI n1)])), ((h 4), .inl (cI, 4, .inl f1)), ((h 5), .inr (0, [.ref (h 6), .int (nI n2)])), ((h 6), .inl (cI, 40, .inl f2)), ((h 7), .inr (0, [.ref (h 8), .int (nI 0)])), ((h 8), .inl (cI, 120, .inl f3)), ((h 9), .inr (0, [.ref (h 10), .int (nI n4)])), ((h 10), .inl (cI, 160, .inl f4))] H := hP
  have hD : va_D (zAS h) [((h 0), .inr (1, [.ref (h 1), .ref (h 3), .ref (h 5), .ref (h 7), .ref (h 9), .int rp])), ((h 1), .inr (0, [.ref (h 2), .int (nI n0)])), ((h 2), .inl (cI, 4, .inl f0)), ((h 3), .inr (0, [.ref (h 4), .int (nI n1)])), ((h 4), .inl (cI, 4, .inl f1)), ((h 5), .inr (0, [.ref (h 6), .int (nI n2)])), ((h 6), .inl (cI, 40, .inl f2)), ((h 7), .inr (0, [.ref (h 8), .int (nI 0)])), ((h 8), .inl (cI, 120, .inl f3)), ((h 9), .inr (0, [.ref (h 10), .int (nI n4)])), ((h 10), .inl (cI, 160, .inl f4))] := hD
  refine lv_pop hx hb d_SF_takeDraft_8 rfl ?_
  refine lv_aload_n hx hb d_SF_takeDraft_9 rfl (lv_at hl 0 rfl) ?_
  refine zRd (rest := []) (zrV hS9 (c_SF_draftBytes l D cI cC cJ h n0 n1 n2 0 n4 f0 f1 f2 f3 f4 rp (by omega) (by omega) (by omega) (by omega) (by omega)) zc_SF_draftBytes zw_473 zw_475 zp_24 (by decide) (va_recv hE.1 hP (ci := 1) (q := (R_SF, F_SF, 6)) rfl (q0 := 0) rfl) (hP) hE rfl hl.1 rfl (Nat.le_of_ble_eq_true rfl) d_SF_takeDraft_10) ?_
  refine lv_istore_n hx hb d_SF_takeDraft_13 rfl hl (by decide) (lv' := [(1, .int (nI (n4 * 6 / 8))), (0, .ref (h 0))]) rfl (fun ls hl => ?_)
  refine lv_iconst (v := (nI 0)) hx hb d_SF_takeDraft_14 (by decide) ?_
  refine lv_istore_n hx hb d_SF_takeDraft_15 rfl hl (by decide) (lv' := [(2, .int (nI 0)), (1, .int (nI (n4 * 6 / 8))), (0, .ref (h 0))]) rfl (fun ls hl => ?_)
  have hl : lv_has ls 6 [(2, .int (nI 0)), (1, .int (nI (n4 * 6 / 8))), (0, .ref (h 0))] := lv_sub hl [0, 1, 2] rfl
  have loop : ∀ (k : Nat) (i : Nat) (fx : Nat → Int32) (H : Heap) (locs : List Loc), i + k = (n4 * 6 / 8) → zs_hold 256 fx (zs_lds E i) → va_P D zcl (zSf cI h n0 n1 n2 i n4 f0 f1 f2 fx f4 rp) H → va_S (zAS h) s.heap H locs → ∀ ls : Array Slot, lv_has ls 6 [(2, .int (nI i)), (1, .int (nI (n4 * 6 / 8))), (0, .ref (h 0))] → W p l e ({ frames := 2, cells := 0, slots := 0, locals := 42 }) s m [.ref (h 0)].toArray below meth c H locs 0 0 (MQ below (zQm none (fun H => ∃ f3' : Nat → Int32, zs_hold 256 f3' (zs_lds E (n4 * 6 / 8)) ∧ va_P D zcl (zSf cI h n0 n1 n2 (n4 * 6 / 8) n4 f0 f1 f2 (f3') f4 rp) H) (zAS h)) [.ref (h 0)].toArray s 0 0 (zAS h)) (F0 m 16 ls []) := by
    intro k
    induction k with
    | zero =>
      intro i fx H locs hi hB hP hS ls hl
      have hP : va_P D zcl [((h 0), .inr (1, [.ref (h 1), .ref (h 3), .ref (h 5), .ref (h 7), .ref (h 9), .int rp])), ((h 1), .inr (0, [.ref (h 2), .int (nI n0)])), ((h 2), .inl (cI, 4, .inl f0)), ((h 3), .inr (0, [.ref (h 4), .int (nI n1)])), ((h 4), .inl (cI, 4, .inl f1)), ((h 5), .inr (0, [.ref (h 6), .int (nI n2)])), ((h 6), .inl (cI, 40, .inl f2)), ((h 7), .inr (0, [.ref (h 8), .int (nI i)])), ((h 8), .inl (cI, 120, .inl fx)), ((h 9), .inr (0, [.ref (h 10), .int (nI n4)])), ((h 10), .inl (cI, 160, .inl f4))] H := hP
      have hD : va_D (zAS h) [((h 0), .inr (1, [.ref (h 1), .ref (h 3), .ref (h 5), .ref (h 7), .ref (h 9), .int rp])), ((h 1), .inr (0, [.ref (h 2), .int (nI n0)])), ((h 2), .inl (cI, 4, .inl f0)), ((h 3), .inr (0, [.ref (h 4), .int (nI n1)])), ((h 4), .inl (cI, 4, .inl f1)), ((h 5), .inr (0, [.ref (h 6), .int (nI n2)])), ((h 6), .inl (cI, 40, .inl f2)), ((h 7), .inr (0, [.ref (h 8), .int (nI i)])), ((h 8), .inl (cI, 120, .inl fx)), ((h 9), .inr (0, [.ref (h 10), .int (nI n4)])), ((h 10), .inl (cI, 160, .inl f4))] := zSf_D hh
      refine lv_iload_n hx hb d_SF_takeDraft_16 rfl (lv_at hl 0 rfl) ?_
      refine lv_iload_n hx hb d_SF_takeDraft_17 rfl (lv_at hl 1 rfl) ?_
      refine lv_icmp_ge hx hb d_SF_takeDraft_18 (tgt := 87) (by decide) (fun _ => ?_) (fun z9 => absurd (nI_le (by omega) (by omega)) z9)
      obtain rfl : i = (n4 * 6 / 8) := by omega
      exact W.vret hx hb hr (fun t ht _ => ⟨rfl, by rw [ht]; exact ⟨fx, hB, hP⟩, hS.F ht⟩) hS.2.2 d_SF_takeDraft_87
    | succ k ih =>
      intro i fx H locs hi hB hP hS ls hl
      have hP : va_P D zcl [((h 0), .inr (1, [.ref (h 1), .ref (h 3), .ref (h 5), .ref (h 7), .ref (h 9), .int rp])), ((h 1), .inr (0, [.ref (h 2), .int (nI n0)])), ((h 2), .inl (cI, 4, .inl f0)), ((h 3), .inr (0, [.ref (h 4), .int (nI n1)])), ((h 4), .inl (cI, 4, .inl f1)), ((h 5), .inr (0, [.ref (h 6), .int (nI n2)])), ((h 6), .inl (cI, 40, .inl f2)), ((h 7), .inr (0, [.ref (h 8), .int (nI i)])), ((h 8), .inl (cI, 120, .inl fx)), ((h 9), .inr (0, [.ref (h 10), .int (nI n4)])), ((h 10), .inl (cI, 160, .inl f4))] H := hP
      have hD : va_D (zAS h) [((h 0), .inr (1, [.ref (h 1), .ref (h 3), .ref (h 5), .ref (h 7), .ref (h 9), .int rp])), ((h 1), .inr (0, [.ref (h 2), .int (nI n0)])), ((h 2), .inl (cI, 4, .inl f0)), ((h 3), .inr (0, [.ref (h 4), .int (nI n1)])), ((h 4), .inl (cI, 4, .inl f1)), ((h 5), .inr (0, [.ref (h 6), .int (nI n2)])), ((h 6), .inl (cI, 40, .inl f2)), ((h 7), .inr (0, [.ref (h 8), .int (nI i)])), ((h 8), .inl (cI, 120, .inl fx)), ((h 9), .inr (0, [.ref (h 10), .int (nI n4)])), ((h 10), .inl (cI, 160, .inl f4))] := zSf_D hh
      have hcn := zs_lds_n E i
      refine lv_iload_n hx hb d_SF_takeDraft_16 rfl (lv_at hl 0 rfl) ?_
      refine lv_iload_n hx hb d_SF_takeDraft_17 rfl (lv_at hl 1 rfl) ?_
      refine lv_icmp_ge hx hb d_SF_takeDraft_18 (tgt := 87) (by decide) (fun z9 => absurd z9 (nI_ge (by omega) (by omega))) (fun _ => ?_)
      refine lv_iload_n hx hb d_SF_takeDraft_21 rfl (lv_at hl 0 rfl) ?_
      refine lv_bipush (v := (nI 8)) hx hb d_SF_takeDraft_22 (by decide) ?_
      refine lv_imul hx hb d_SF_takeDraft_24 ?_
      refine ztop (y := nI (i * 8)) (pk_mul _ _) ?_
      refine lv_bipush (v := (nI 6)) hx hb d_SF_takeDraft_25 (by decide) ?_
      refine lv_idiv hx hb d_SF_takeDraft_27 (by decide) ?_
      refine ztop (y := nI (i * 8 / 6)) (pk_div (by omega) (by decide) (by decide)) ?_
      refine lv_istore_n hx hb d_SF_takeDraft_28 rfl hl (by decide) (lv' := [(3, .int (nI (i * 8 / 6))), (2, .int (nI i)), (1, .int (nI (n4 * 6 / 8))), (0, .ref (h 0))]) rfl (fun ls hl => ?_)
      refine lv_iload_n hx hb d_SF_takeDraft_29 rfl (lv_at hl 1 rfl) ?_
      refine lv_bipush (v := (nI 8)) hx hb d_SF_takeDraft_30 (by decide) ?_
      refine lv_imul hx hb d_SF_takeDraft_32 ?_
      refine ztop (y := nI (i * 8)) (pk_mul _ _) ?_
      refine lv_bipush (v := (nI 6)) hx hb d_SF_takeDraft_33 (by decide) ?_
      refine lv_irem hx hb d_SF_takeDraft_35 (by decide) ?_
      refine ztop (y := nI (i * 8 % 6)) (pk_rem (by omega) (by decide) (by decide)) ?_
      refine lv_istore hx hb d_SF_takeDraft_36 hl (by decide) (lv' := [(4, .int (nI (i * 8 % 6))), (3, .int (nI (i * 8 / 6))), (2, .int (nI i)), (1, .int (nI (n4 * 6 / 8))), (0, .ref (h 0))]) rfl (fun ls hl => ?_)
      refine lv_aload_n hx hb d_SF_takeDraft_38 rfl (lv_at hl 4 rfl) ?_
      refine va_get (D := D) (ci := 1) (v := .ref (h 9)) (C := R_SF) (T := F_SF) (N := 6) hx hb hg i_SF hown hE.1 hP 0 rfl rfl 4 (by decide) (hg _ zw_44) (fun _ h9 => h9) rfl d_SF_takeDraft_39 ?_
      refine lv_iload_n hx hb d_SF_takeDraft_42 rfl (lv_at hl 1 rfl) ?_
      refine zRd (rest := []) (zrVN hS9 (c_RW_item l D cI cC cJ (h 9) (h 10) 160 n4 f4 (by omega) (by decide) (nI (i * 8 / 6))) zc_RW_item (by decide) zw_65 zp_0 (by decide) (va_recv hE.1 hP (ci := 0) (q := (R_RW, F_RW, 2)) rfl (q0 := 9) rfl) (hP.sub [9, 10] rfl) hE rfl hl.1 rfl (Nat.le_of_ble_eq_true rfl) d_SF_takeDraft_43) ?_
      refine ztop (y := nI (E (i * 8 / 6))) ((zs_item_in (by omega) (by omega)).trans (hE9 (i * 8 / 6) (show i * 8 / 6 < n4 by omega)).1) ?_
      refine lv_bipush (v := (nI 6)) hx hb d_SF_takeDraft_46 (by decide) ?_
      refine lv_ishl hx hb d_SF_takeDraft_48 ?_
      refine lv_aload_n hx hb d_SF_takeDraft_49 rfl (lv_at hl 4 rfl) ?_
      refine va_get (D := D) (ci := 1) (v := .ref (h 9)) (C := R_SF) (T := F_SF) (N := 6) hx hb hg i_SF hown hE.1 hP 0 rfl rfl 4 (by decide) (hg _ zw_44) (fun _ h9 => h9) rfl d_SF_takeDraft_50 ?_
      refine lv_iload_n hx hb d_SF_takeDraft_53 rfl (lv_at hl 1 rfl) ?_
      refine lv_iconst (v := (nI 1)) hx hb d_SF_takeDraft_54 (by decide) ?_
      refine lv_iadd hx hb d_SF_takeDraft_55 ?_
      refine ztop (y := nI (i * 8 / 6 + 1)) (nI_add _ _) ?_
      refine zRd (rest := [.int ((nI (E (i * 8 / 6))) <<< ((nI 6) &&& 31))]) (zrVN hS9 (c_RW_item l D cI cC cJ (h 9) (h 10) 160 n4 f4 (by omega) (by decide) (nI (i * 8 / 6 + 1))) zc_RW_item (by decide) zw_65 zp_0 (by decide) (va_recv hE.1 hP (ci := 0) (q := (R_RW, F_RW, 2)) rfl (q0 := 9) rfl) (hP.sub [9, 10] rfl) hE rfl hl.1 rfl (Nat.le_of_ble_eq_true rfl) d_SF_takeDraft_56) ?_
      refine ztop (y := nI (E (i * 8 / 6 + 1))) ((zs_item_in (by omega) (by omega)).trans (hE9 (i * 8 / 6 + 1) (show i * 8 / 6 + 1 < n4 by omega)).1) ?_
      have e1 : E (i * 8 / 6) < 64 := (hE9 _ (show i * 8 / 6 < n4 by omega)).2
      have e2 : E (i * 8 / 6 + 1) < 64 := (hE9 _ (show i * 8 / 6 + 1 < n4 by omega)).2
      refine lv_ior hx hb d_SF_takeDraft_59 ?_
      refine ztop (y := nI (E (i * 8 / 6) * 64 + E (i * 8 / 6 + 1))) (zs_cat (k := 6) (by decide) (by omega) (by omega)) ?_
      refine lv_istore hx hb d_SF_takeDraft_60 hl (by decide) (lv' := [(5, .int (nI (E (i * 8 / 6) * 64 + E (i * 8 / 6 + 1)))), (4, .int (nI (i * 8 % 6))), (3, .int (nI (i * 8 / 6))), (2, .int (nI i)), (1, .int (nI (n4 * 6 / 8))), (0, .ref (h 0))]) rfl (fun ls hl => ?_)
      refine lv_aload_n hx hb d_SF_takeDraft_62 rfl (lv_at hl 5 rfl) ?_
      refine va_get (D := D) (ci := 1) (v := .ref (h 7)) (C := R_SF) (T := F_SF) (N := 6) hx hb hg i_SF hown hE.1 hP 0 rfl rfl 3 (by decide) (hg _ zw_43) (fun _ h9 => h9) rfl d_SF_takeDraft_63 ?_
      refine lv_iload hx hb d_SF_takeDraft_66 (lv_at hl 0 rfl) ?_
      refine lv_iconst (v := (nI 4)) hx hb d_SF_takeDraft_68 (by decide) ?_
      refine lv_iload hx hb d_SF_takeDraft_69 (lv_at hl 1 rfl) ?_
      refine lv_isub hx hb d_SF_takeDraft_71 ?_
      refine ztop (y := nI (4 - i * 8 % 6)) (pk_sub (by omega)) ?_
      refine lv_iushr (v := zs_u (nI (E (i * 8 / 6) * 64 + E (i * 8 / 6 + 1))) (nI (4 - i * 8 % 6))) hx hb d_SF_takeDraft_72 rfl ?_
      refine ztop (y := nI ((E (i * 8 / 6) * 64 + E (i * 8 / 6 + 1)) / 2 ^ (4 - i * 8 % 6))) (zs_u_nI (by omega) (by omega)) ?_
      have e3 : (E (i * 8 / 6) * 64 + E (i * 8 / 6 + 1)) / 2 ^ (4 - i * 8 % 6) ≤ E (i * 8 / 6) * 64 + E (i * 8 / 6 + 1) := Nat.div_le_self _ _
      refine lv_sipush (v := (nI 255)) hx hb d_SF_takeDraft_73 (by decide) ?_
      refine lv_iand hx hb d_SF_takeDraft_76 ?_
      refine ztop (y := nI (zs_ld E i)) (pk_andN (by omega) 8 (by decide)) ?_
      have hB : zs_hold 256 fx (i, (zs_lds E i).2) := by have hq := hB; unfold zs_hold at hq; rw [hcn] at hq; exact hq
      refine zWr (rest := []) (zrVN hS9 (c_RW_append l D cI cC cJ (h 7) (h 8) 120 i fx (by omega) (by decide) (fun z => absurd (hh 7 8 (by decide) (by decide) z) (by decide)) (nI (zs_ld E i)) (by omega)) zc_RW_append (by decide) zw_77 zp_2 (by decide) (va_recv hE.1 hP (ci := 0) (q := (R_RW, F_RW, 2)) rfl (q0 := 7) rfl) (hP.sub [7, 8] rfl) hE rfl hl.1 rfl (Nat.le_of_ble_eq_true rfl) d_SF_takeDraft_77) hS (fun q _ h => zA2_in hD 7 8 rfl rfl q h) (fun q h => zA2_in hD 7 8 rfl rfl q h) (fun H locs hB1 hz hk hS => ?_)
      obtain ⟨hP, hD⟩ := zrow hP hD 7 8 rfl rfl (by decide) hk hB1
      have hP : va_P D zcl [((h 0), .inr (1, [.ref (h 1), .ref (h 3), .ref (h 5), .ref (h 7), .ref (h 9), .int rp])), ((h 1), .inr (0, [.ref (h 2), .int (nI n0)])), ((h 2), .inl (cI, 4, .inl f0)), ((h 3), .inr (0, [.ref (h 4), .int (nI n1)])), ((h 4), .inl (cI, 4, .inl f1)), ((h 5), .inr (0, [.ref (h 6), .int (nI n2)])), ((h 6), .inl (cI, 40, .inl f2)), ((h 7), .inr (0, [.ref (h 8), .int (nI (i + 1))])), ((h 8), .inl (cI, 120, .inl (upd fx i (nI (zs_ld E i))))), ((h 9), .inr (0, [.ref (h 10), .int (nI n4)])), ((h 10), .inl (cI, 160, .inl f4))] H := hP
      have hD : va_D (zAS h) [((h 0), .inr (1, [.ref (h 1), .ref (h 3), .ref (h 5), .ref (h 7), .ref (h 9), .int rp])), ((h 1), .inr (0, [.ref (h 2), .int (nI n0)])), ((h 2), .inl (cI, 4, .inl f0)), ((h 3), .inr (0, [.ref (h 4), .int (nI n1)])), ((h 4), .inl (cI, 4, .inl f1)), ((h 5), .inr (0, [.ref (h 6), .int (nI n2)])), ((h 6), .inl (cI, 40, .inl f2)), ((h 7), .inr (0, [.ref (h 8), .int (nI (i + 1))])), ((h 8), .inl (cI, 120, .inl (upd fx i (nI (zs_ld E i))))), ((h 9), .inr (0, [.ref (h 10), .int (nI n4)])), ((h 10), .inl (cI, 160, .inl f4))] := hD
      have hB : zs_hold 256 (upd fx i (nI (zs_ld E i))) (zs_push (i, (zs_lds E i).2) (zs_ld E i)) := zs_hold_push hB (zs_ld_lt E i)
      generalize (upd fx i (nI (zs_ld E i))) = fz at hP hD hB
      have hB : zs_hold 256 fz (zs_lds E (i + 1)) := by show zs_hold 256 fz (zs_push (zs_lds E i) (zs_ld E i)); have e9 : zs_lds E i = (i, (zs_lds E i).2) := Prod.ext hcn rfl; rw [e9]; exact hB
      refine lv_pop hx hb d_SF_takeDraft_80 rfl ?_
      refine lv_iinc (k := 3) (v := nI (i + 1)) hx hb d_SF_takeDraft_81 hl rfl (nI_1 i) (by decide) (lv' := [(2, .int (nI (i + 1))), (5, .int (nI (E (i * 8 / 6) * 64 + E (i * 8 / 6 + 1)))), (4, .int (nI (i * 8 % 6))), (3, .int (nI (i * 8 / 6))), (1, .int (nI (n4 * 6 / 8))), (0, .ref (h 0))]) rfl (fun ls hl => ?_)
      refine lv_goto hx hb d_SF_takeDraft_84 (tgt := 16) (by decide) ?_
      have hl : lv_has ls 6 [(2, .int (nI (i + 1))), (1, .int (nI (n4 * 6 / 8))), (0, .ref (h 0))] := lv_sub hl [0, 4, 5] rfl
      exact ih (i + 1) fz H locs (by omega) hB hP hS ls hl
  exact loop (n4 * 6 / 8) 0 f3 H locs (by omega) zs_hold_0 hP hS ls hl
end
section
/-- a SealedFiles as its calls show it: keys, message, file, draft, right pieces -/
def zCl (D : va_G) (cI : ClassId) (h : Nat → Nat) (n0 : Nat) (S : Nat → Nat) (n2 : Nat) (M : Nat → Nat) (n3 : Nat) (B : Nat → Nat) (n4 : Nat) (E : Nat → Nat) (rt : Nat) (H : Heap) : Prop :=
  ∃ f0 f1 f2 f3 f4 : Nat → Int32, zs_hold 32748 f0 (n0, S) ∧ (∀ j, j < n0 → f1 j = nI (zs_pw 2 (S j))) ∧ zs_hold 256 f2 (n2, M) ∧ zs_hold 256 f3 (n3, B) ∧ zs_hold 64 f4 (n4, E) ∧ va_P D zcl (zSf cI h n0 n0 n2 n3 n4 f0 f1 f2 f3 f4 (nI rt)) H
/-- what stands at a place, or -1 -/
def zo_at (n : Nat) (B : Nat → Nat) (x : Int32) : Int32 := if zs_has n x = 0 then -1 else nI (B x.toNatClampNeg)
theorem zo_at_of {n b : Nat} {f : Nat → Int32} {B : Nat → Nat} (h : zs_hold b f (n, B)) (hn : n < 2 ^ 31) (x : Int32) : zs_item n f x = zo_at n B x := by
  unfold zs_item zo_at
  split
  · rfl
  · rename_i g
    obtain ⟨j, hj, rfl⟩ := zs_has_of hn g
    rw [nI_clamp (by omega)]
    exact (h j hj).1
/-- which number is asked -/
def zo_count (a b c : Nat) (x : Int32) : Int32 := if x = nI 0 then nI a else if x = nI 1 then nI b else if x = nI 2 then nI c else -1
set_option maxHeartbeats 4000000 in
set_option maxRecDepth 100000 in
theorem c_SF_address (l : Launch) (D : va_G) (cI cC cJ : ClassId) (h : Nat → Nat) (n0 : Nat) (S : Nat → Nat) (n2 : Nat) (M : Nat → Nat) (n3 : Nat) (B : Nat → Nat) (n4 : Nat) (E : Nat → Nat) (rt : Nat) (hh : zs_inj h) (hn0 : n0 ≤ 4) (hn2 : n2 ≤ 40) (hn3 : n3 ≤ 120) (hn4 : n4 ≤ 160) (x : Int32) : Met l y_SF_address (zw k_SF_address) ({ frames := 2, cells := 0, slots := 0, locals := 42 }) (zPc [.ref (h 0), .int x] (fun H => zCl D cI h n0 S n2 M n3 B n4 E rt H) D cI cC cJ) (QcRead (zo_at n0 (fun j => zs_pw 2 (S j)) x)) 0 0 (fun _ => False) := by
  refine zMet (by decide) (Nat.le_of_ble_eq_true rfl) ?_
  intro p e s m below meth c hx hb hr hg hown hlk hml hB0 hE ls hl
  have hl : lv_has ls 2 [(0, .ref (h 0)), (1, .int x)] := hl
  have hS9 : CallFix p m c b_SF_address 2 s [.ref (h 0), .int x].toArray zg "SealedFiles" := ⟨hx, hb, hml, hown, hg⟩
  obtain ⟨f0, f1, f2, f3, f4, hS0, hA0, hM, hB, hE9, hP⟩ := hB0
  have hP : va_P D zcl [((h 0), .inr (1, [.ref (h 1), .ref (h 3), .ref (h 5), .ref (h 7), .ref (h 9), .int (nI rt)])), ((h 1), .inr (0, [.ref (h 2), .int (nI n0)])), ((h 2), .inl (cI, 4, .inl f0)), ((h 3), .inr (0, [.ref (h 4), .int (nI n0)])), ((h 4), .inl (cI, 4, .inl f1)), ((h 5), .inr (0, [.ref (h 6), .int (nI n2)])), ((h 6), .inl (cI, 40, .inl f2)), ((h 7), .inr (0, [.ref (h 8), .int (nI n3)])), ((h 8), .inl (cI, 120, .inl f3)), ((h 9), .inr (0, [.ref (h 10), .int (nI n4)])), ((h 10), .inl (cI, 160, .inl f4))] s.heap := hP
  have hn1 : n0 ≤ 4 := hn0
  refine lv_aload_n hx hb d_SF_address_0 rfl (lv_at hl 0 rfl) ?_
  refine va_get (D := D) (ci := 1) (v := .ref (h 3)) (C := R_SF) (T := F_SF) (N := 6) hx hb hg i_SF hown hE.1 hP 0 rfl rfl 1 (by decide) (hg _ zw_41) (fun _ h9 => h9) rfl d_SF_address_1 ?_
  refine lv_iload_n hx hb d_SF_address_4 rfl (lv_at hl 1 rfl) ?_
  refine zRd (rest := []) (zrVN hS9 (c_RW_item l D cI cC cJ (h 3) (h 4) 4 n0 f1 (by omega) (by decide) x) zc_RW_item (by decide) zw_65 zp_0 (by decide) (va_recv hE.1 hP (ci := 0) (q := (R_RW, F_RW, 2)) rfl (q0 := 3) rfl) (hP.sub [3, 4] rfl) hE rfl hl.1 rfl (Nat.le_of_ble_eq_true rfl) d_SF_address_5) ?_
  exact W.iret (v := (zs_item n0 f1 x)) hx hb hr (fun t ht _ => ⟨congrArg (fun z => Outcome.returned (some (Value.int z))) (zo_at_of (b := 32749) (fun j hj => ⟨hA0 j hj, zs_pw_lt _ _⟩) (by omega) x), ht⟩) t_nil d_SF_address_8

set_option maxHeartbeats 4000000 in
set_option maxRecDepth 100000 in
theorem c_SF_at (l : Launch) (D : va_G) (cI cC cJ : ClassId) (h : Nat → Nat) (n0 : Nat) (S : Nat → Nat) (n2 : Nat) (M : Nat → Nat) (n3 : Nat) (B : Nat → Nat) (n4 : Nat) (E : Nat → Nat) (rt : Nat) (hh : zs_inj h) (hn0 : n0 ≤ 4) (hn2 : n2 ≤ 40) (hn3 : n3 ≤ 120) (hn4 : n4 ≤ 160) (x : Int32) : Met l y_SF_at (zw k_SF_at) ({ frames := 2, cells := 0, slots := 0, locals := 42 }) (zPc [.ref (h 0), .int x] (fun H => zCl D cI h n0 S n2 M n3 B n4 E rt H) D cI cC cJ) (QcRead (zo_at n3 B x)) 0 0 (fun _ => False) := by
  refine zMet (by decide) (Nat.le_of_ble_eq_true rfl) ?_
  intro p e s m below meth c hx hb hr hg hown hlk hml hB0 hE ls hl
  have hl : lv_has ls 2 [(0, .ref (h 0)), (1, .int x)] := hl
  have hS9 : CallFix p m c b_SF_at 2 s [.ref (h 0), .int x].toArray zg "SealedFiles" := ⟨hx, hb, hml, hown, hg⟩
  obtain ⟨f0, f1, f2, f3, f4, hS0, hA0, hM, hB, hE9, hP⟩ := hB0
  have hP : va_P D zcl [((h 0), .inr (1, [.ref (h 1), .ref (h 3), .ref (h 5), .ref (h 7), .ref (h 9), .int (nI rt)])), ((h 1), .inr (0, [.ref (h 2), .int (nI n0)])), ((h 2), .inl (cI, 4, .inl f0)), ((h 3), .inr (0, [.ref (h 4), .int (nI n0)])), ((h 4), .inl (cI, 4, .inl f1)), ((h 5), .inr (0, [.ref (h 6), .int (nI n2)])), ((h 6), .inl (cI, 40, .inl f2)), ((h 7), .inr (0, [.ref (h 8), .int (nI n3)])), ((h 8), .inl (cI, 120, .inl f3)), ((h 9), .inr (0, [.ref (h 10), .int (nI n4)])), ((h 10), .inl (cI, 160, .inl f4))] s.heap := hP
  have hn1 : n0 ≤ 4 := hn0
  refine lv_aload_n hx hb d_SF_at_0 rfl (lv_at hl 0 rfl) ?_
  refine va_get (D := D) (ci := 1) (v := .ref (h 7)) (C := R_SF) (T := F_SF) (N := 6) hx hb hg i_SF hown hE.1 hP 0 rfl rfl 3 (by decide) (hg _ zw_43) (fun _ h9 => h9) rfl d_SF_at_1 ?_
  refine lv_iload_n hx hb d_SF_at_4 rfl (lv_at hl 1 rfl) ?_
  refine zRd (rest := []) (zrVN hS9 (c_RW_item l D cI cC cJ (h 7) (h 8) 120 n3 f3 (by omega) (by decide) x) zc_RW_item (by decide) zw_65 zp_0 (by decide) (va_recv hE.1 hP (ci := 0) (q := (R_RW, F_RW, 2)) rfl (q0 := 7) rfl) (hP.sub [7, 8] rfl) hE rfl hl.1 rfl (Nat.le_of_ble_eq_true rfl) d_SF_at_5) ?_
  exact W.iret (v := (zs_item n3 f3 x)) hx hb hr (fun t ht _ => ⟨congrArg (fun z => Outcome.returned (some (Value.int z))) (zo_at_of hB (by omega) x), ht⟩) t_nil d_SF_at_8

set_option maxHeartbeats 4000000 in
set_option maxRecDepth 100000 in
theorem c_SF_pieces (l : Launch) (D : va_G) (cI cC cJ : ClassId) (h : Nat → Nat) (n0 : Nat) (S : Nat → Nat) (n2 : Nat) (M : Nat → Nat) (n3 : Nat) (B : Nat → Nat) (n4 : Nat) (E : Nat → Nat) (rt : Nat) (hh : zs_inj h) (hn0 : n0 ≤ 4) (hn2 : n2 ≤ 40) (hn3 : n3 ≤ 120) (hn4 : n4 ≤ 160) : Met l y_SF_pieces (zw k_SF_pieces) ({ frames := 0, cells := 0, slots := 0, locals := 0 }) (zPc [.ref (h 0)] (fun H => zCl D cI h n0 S n2 M n3 B n4 E rt H) D cI cC cJ) (QcRead (nI rt)) 0 0 (fun _ => False) := by
  refine zMet (by decide) (Nat.le_of_ble_eq_true rfl) ?_
  intro p e s m below meth c hx hb hr hg hown hlk hml hB0 hE ls hl
  have hl : lv_has ls 1 [(0, .ref (h 0))] := hl
  have hS9 : CallFix p m c b_SF_pieces 1 s [.ref (h 0)].toArray zg "SealedFiles" := ⟨hx, hb, hml, hown, hg⟩
  obtain ⟨f0, f1, f2, f3, f4, hS0, hA0, hM, hB, hE9, hP⟩ := hB0
  have hP : va_P D zcl [((h 0), .inr (1, [.ref (h 1), .ref (h 3), .ref (h 5), .ref (h 7), .ref (h 9), .int (nI rt)])), ((h 1), .inr (0, [.ref (h 2), .int (nI n0)])), ((h 2), .inl (cI, 4, .inl f0)), ((h 3), .inr (0, [.ref (h 4), .int (nI n0)])), ((h 4), .inl (cI, 4, .inl f1)), ((h 5), .inr (0, [.ref (h 6), .int (nI n2)])), ((h 6), .inl (cI, 40, .inl f2)), ((h 7), .inr (0, [.ref (h 8), .int (nI n3)])), ((h 8), .inl (cI, 120, .inl f3)), ((h 9), .inr (0, [.ref (h 10), .int (nI n4)])), ((h 10), .inl (cI, 160, .inl f4))] s.heap := hP
  have hn1 : n0 ≤ 4 := hn0
  refine lv_aload_n hx hb d_SF_pieces_0 rfl (lv_at hl 0 rfl) ?_
  refine va_get (D := D) (ci := 1) (v := .int (nI rt)) (C := R_SF) (T := F_SF) (N := 6) hx hb hg i_SF hown hE.1 hP 0 rfl rfl 5 (by decide) (hg _ zw_45) (fun _ h9 => h9) rfl d_SF_pieces_1 ?_
  exact W.iret (v := (nI rt)) hx hb hr (fun t ht _ => ⟨congrArg (fun z => Outcome.returned (some (Value.int z))) (rfl), ht⟩) t_nil d_SF_pieces_4

theorem zs_out3 {x : Int32} (h0 : ¬ x = nI 0) (h1 : ¬ x = nI 1) (h2 : ¬ x = nI 2) : x.toInt < 0 ∨ 2 < x.toInt := by
  have e : ∀ k : Nat, k < 2 ^ 31 → x.toInt = k → x = nI k := fun k hk e => Int32.toInt_inj.mp (by rw [e, nI_toInt hk])
  rcases Int.lt_or_le x.toInt 0 with h | h
  · exact Or.inl h
  · refine Or.inr ?_
    have a0 : ¬ x.toInt = 0 := fun z => h0 (e 0 (by decide) z)
    have a1 : ¬ x.toInt = 1 := fun z => h1 (e 1 (by decide) z)
    have a2 : ¬ x.toInt = 2 := fun z => h2 (e 2 (by decide) z)
    omega
set_option maxHeartbeats 4000000 in
set_option maxRecDepth 100000 in
theorem c_SF_count (l : Launch) (D : va_G) (cI cC cJ : ClassId) (h : Nat → Nat) (n0 : Nat) (S : Nat → Nat) (n2 : Nat) (M : Nat → Nat) (n3 : Nat) (B : Nat → Nat) (n4 : Nat) (E : Nat → Nat) (rt : Nat) (hh : zs_inj h) (hn0 : n0 ≤ 4) (hn2 : n2 ≤ 40) (hn3 : n3 ≤ 120) (hn4 : n4 ≤ 160) (x : Int32) : Met l y_SF_count (zw k_SF_count) ({ frames := 1, cells := 0, slots := 0, locals := 20 }) (zPc [.ref (h 0), .int x] (fun H => zCl D cI h n0 S n2 M n3 B n4 E rt H) D cI cC cJ) (QcRead (zo_count n2 n3 n0 x)) 0 0 (fun _ => False) := by
  refine zMet (by decide) (Nat.le_of_ble_eq_true rfl) ?_
  intro p e s m below meth c hx hb hr hg hown hlk hml hB0 hE ls hl
  have hl : lv_has ls 2 [(0, .ref (h 0)), (1, .int x)] := hl
  have hS9 : CallFix p m c b_SF_count 2 s [.ref (h 0), .int x].toArray zg "SealedFiles" := ⟨hx, hb, hml, hown, hg⟩
  obtain ⟨f0, f1, f2, f3, f4, hS0, hA0, hM, hB, hE9, hP⟩ := hB0
  have hP : va_P D zcl [((h 0), .inr (1, [.ref (h 1), .ref (h 3), .ref (h 5), .ref (h 7), .ref (h 9), .int (nI rt)])), ((h 1), .inr (0, [.ref (h 2), .int (nI n0)])), ((h 2), .inl (cI, 4, .inl f0)), ((h 3), .inr (0, [.ref (h 4), .int (nI n0)])), ((h 4), .inl (cI, 4, .inl f1)), ((h 5), .inr (0, [.ref (h 6), .int (nI n2)])), ((h 6), .inl (cI, 40, .inl f2)), ((h 7), .inr (0, [.ref (h 8), .int (nI n3)])), ((h 8), .inl (cI, 120, .inl f3)), ((h 9), .inr (0, [.ref (h 10), .int (nI n4)])), ((h 10), .inl (cI, 160, .inl f4))] s.heap := hP
  have hn1 : n0 ≤ 4 := hn0
  refine lv_iload_n hx hb d_SF_count_0 rfl (lv_at hl 1 rfl) ?_
  by_cases g0 : x = nI 0
  · refine lv_tableIn hx hb d_SF_count_1 (by rw [g0]; decide) (by rw [g0]; decide) (off := 27) (tgt := 28) (by rw [g0]; decide) (by decide) ?_
    refine lv_aload_n hx hb d_SF_count_28 rfl (lv_at hl 0 rfl) ?_
    refine va_get (D := D) (ci := 1) (v := .ref (h 5)) (C := R_SF) (T := F_SF) (N := 6) hx hb hg i_SF hown hE.1 hP 0 rfl rfl 2 (by decide) (hg _ zw_42) (fun _ h9 => h9) rfl d_SF_count_29 ?_
    refine zRd (rest := []) (zrVN hS9 (c_RW_size l D cI cC cJ (h 5) (h 6) 40 n2 f2 (by omega) (by decide)) zc_RW_size (by decide) zw_85 zp_3 (by decide) (va_recv hE.1 hP (ci := 0) (q := (R_RW, F_RW, 2)) rfl (q0 := 5) rfl) (hP.sub [5, 6] rfl) hE rfl hl.1 rfl (Nat.le_of_ble_eq_true rfl) d_SF_count_32) ?_
    exact W.iret (v := (nI n2)) hx hb hr (fun t ht _ => ⟨congrArg (fun z => Outcome.returned (some (Value.int z))) (by rw [zo_count, if_pos g0]), ht⟩) t_nil d_SF_count_35
  · by_cases g1 : x = nI 1
    · refine lv_tableIn hx hb d_SF_count_1 (by rw [g1]; decide) (by rw [g1]; decide) (off := 35) (tgt := 36) (by rw [g1]; decide) (by decide) ?_
      refine lv_aload_n hx hb d_SF_count_36 rfl (lv_at hl 0 rfl) ?_
      refine va_get (D := D) (ci := 1) (v := .ref (h 7)) (C := R_SF) (T := F_SF) (N := 6) hx hb hg i_SF hown hE.1 hP 0 rfl rfl 3 (by decide) (hg _ zw_43) (fun _ h9 => h9) rfl d_SF_count_37 ?_
      refine zRd (rest := []) (zrVN hS9 (c_RW_size l D cI cC cJ (h 7) (h 8) 120 n3 f3 (by omega) (by decide)) zc_RW_size (by decide) zw_85 zp_3 (by decide) (va_recv hE.1 hP (ci := 0) (q := (R_RW, F_RW, 2)) rfl (q0 := 7) rfl) (hP.sub [7, 8] rfl) hE rfl hl.1 rfl (Nat.le_of_ble_eq_true rfl) d_SF_count_40) ?_
      exact W.iret (v := (nI n3)) hx hb hr (fun t ht _ => ⟨congrArg (fun z => Outcome.returned (some (Value.int z))) (by rw [zo_count, if_neg g0, if_pos g1]), ht⟩) t_nil d_SF_count_43
    · by_cases g2 : x = nI 2
      · refine lv_tableIn hx hb d_SF_count_1 (by rw [g2]; decide) (by rw [g2]; decide) (off := 43) (tgt := 44) (by rw [g2]; decide) (by decide) ?_
        refine lv_aload_n hx hb d_SF_count_44 rfl (lv_at hl 0 rfl) ?_
        refine va_get (D := D) (ci := 1) (v := .ref (h 1)) (C := R_SF) (T := F_SF) (N := 6) hx hb hg i_SF hown hE.1 hP 0 rfl rfl 0 (by decide) (hg _ zw_40) (fun _ h9 => h9) rfl d_SF_count_45 ?_
        refine zRd (rest := []) (zrVN hS9 (c_RW_size l D cI cC cJ (h 1) (h 2) 4 n0 f0 (by omega) (by decide)) zc_RW_size (by decide) zw_85 zp_3 (by decide) (va_recv hE.1 hP (ci := 0) (q := (R_RW, F_RW, 2)) rfl (q0 := 1) rfl) (hP.sub [1, 2] rfl) hE rfl hl.1 rfl (Nat.le_of_ble_eq_true rfl) d_SF_count_48) ?_
        exact W.iret (v := (nI n0)) hx hb hr (fun t ht _ => ⟨congrArg (fun z => Outcome.returned (some (Value.int z))) (by rw [zo_count, if_neg g0, if_neg g1, if_pos g2]), ht⟩) t_nil d_SF_count_51
      · refine lv_tableOut hx hb d_SF_count_1 (zs_out3 g0 g1 g2) (tgt := 52) (by decide) ?_
        refine lv_iconst (v := (-1)) hx hb d_SF_count_52 (by decide) ?_
        exact W.iret (v := (-1)) hx hb hr (fun t ht _ => ⟨congrArg (fun z => Outcome.returned (some (Value.int z))) (by rw [zo_count, if_neg g0, if_neg g1, if_neg g2]), ht⟩) t_nil d_SF_count_53

set_option maxHeartbeats 4000000 in
set_option maxRecDepth 100000 in
theorem c_SF_put_ok (l : Launch) (D : va_G) (cI cC cJ : ClassId) (h : Nat → Nat) (n0 : Nat) (S : Nat → Nat) (n2 : Nat) (M : Nat → Nat) (n3 : Nat) (B : Nat → Nat) (n4 : Nat) (E : Nat → Nat) (rt : Nat) (hh : zs_inj h) (hn0 : n0 ≤ 4) (hn2 : n2 ≤ 40) (hn3 : n3 ≤ 120) (hn4 : n4 ≤ 160) (b : Nat) (hb9 : b < 256) (hr9 : n2 < 40) : Met l y_SF_put (zw k_SF_put) ({ frames := 1, cells := 0, slots := 0, locals := 21 }) (zPc [.ref (h 0), .int (nI b)] (fun H => zCl D cI h n0 S n2 M n3 B n4 E rt H) D cI cC cJ) (zQm (some (.int (nI 1))) (fun H => zCl D cI h n0 S (n2 + 1) (zs_push (n2, M) b).2 n3 B n4 E rt H) (zAS h)) 0 0 (zAS h) := by
  refine zMet (by decide) (Nat.le_of_ble_eq_true rfl) ?_
  intro p e s m below meth c hx hb hr hg hown hlk hml hB0 hE ls hl
  have hl : lv_has ls 2 [(0, .ref (h 0)), (1, .int (nI b))] := hl
  have hS9 : CallFix p m c b_SF_put 2 s [.ref (h 0), .int (nI b)].toArray zg "SealedFiles" := ⟨hx, hb, hml, hown, hg⟩
  obtain ⟨f0, f1, f2, f3, f4, hS0, hA0, hM, hB, hE9, hP⟩ := hB0
  have hP : va_P D zcl [((h 0), .inr (1, [.ref (h 1), .ref (h 3), .ref (h 5), .ref (h 7), .ref (h 9), .int (nI rt)])), ((h 1), .inr (0, [.ref (h 2), .int (nI n0)])), ((h 2), .inl (cI, 4, .inl f0)), ((h 3), .inr (0, [.ref (h 4), .int (nI n0)])), ((h 4), .inl (cI, 4, .inl f1)), ((h 5), .inr (0, [.ref (h 6), .int (nI n2)])), ((h 6), .inl (cI, 40, .inl f2)), ((h 7), .inr (0, [.ref (h 8), .int (nI n3)])), ((h 8), .inl (cI, 120, .inl f3)), ((h 9), .inr (0, [.ref (h 10), .int (nI n4)])), ((h 10), .inl (cI, 160, .inl f4))] s.heap := hP
  have hn1 : n0 ≤ 4 := hn0
  have hD : va_D (zAS h) [((h 0), .inr (1, [.ref (h 1), .ref (h 3), .ref (h 5), .ref (h 7), .ref (h 9), .int (nI rt)])), ((h 1), .inr (0, [.ref (h 2), .int (nI n0)])), ((h 2), .inl (cI, 4, .inl f0)), ((h 3), .inr (0, [.ref (h 4), .int (nI n0)])), ((h 4), .inl (cI, 4, .inl f1)), ((h 5), .inr (0, [.ref (h 6), .int (nI n2)])), ((h 6), .inl (cI, 40, .inl f2)), ((h 7), .inr (0, [.ref (h 8), .int (nI n3)])), ((h 8), .inl (cI, 120, .inl f3)), ((h 9), .inr (0, [.ref (h 10), .int (nI n4)])), ((h 10), .inl (cI, 160, .inl f4))] := zSf_D hh
  have hS : va_S (zAS h) s.heap s.heap [] := va_S.rf
  refine lv_iload_n hx hb d_SF_put_0 rfl (lv_at hl 1 rfl) ?_
  refine lv_if_lt hx hb d_SF_put_1 (tgt := 26) (by decide) (fun z9 => absurd z9 (nI_pos (by omega))) (fun _ => ?_)
  refine lv_iload_n hx hb d_SF_put_4 rfl (lv_at hl 1 rfl) ?_
  refine lv_sipush (v := (nI 255)) hx hb d_SF_put_5 (by decide) ?_
  refine lv_icmp_gt hx hb d_SF_put_8 (tgt := 26) (by decide) (fun z9 => absurd z9 (nI_nlt (by omega) (by omega))) (fun _ => ?_)
  refine lv_aload_n hx hb d_SF_put_11 rfl (lv_at hl 0 rfl) ?_
  refine va_get (D := D) (ci := 1) (v := .ref (h 5)) (C := R_SF) (T := F_SF) (N := 6) hx hb hg i_SF hown hE.1 hP 0 rfl rfl 2 (by decide) (hg _ zw_42) (fun _ h9 => h9) rfl d_SF_put_12 ?_
  refine lv_iload_n hx hb d_SF_put_15 rfl (lv_at hl 1 rfl) ?_
  refine zWr (rest := []) (zrVN hS9 (c_RW_append l D cI cC cJ (h 5) (h 6) 40 n2 f2 (by omega) (by decide) (fun z => absurd (hh 5 6 (by decide) (by decide) z) (by decide)) (nI b) (hr9)) zc_RW_append (by decide) zw_77 zp_2 (by decide) (va_recv hE.1 hP (ci := 0) (q := (R_RW, F_RW, 2)) rfl (q0 := 5) rfl) (hP.sub [5, 6] rfl) hE rfl hl.1 rfl (Nat.le_of_ble_eq_true rfl) d_SF_put_16) hS (fun q _ h => zA2_in hD 5 6 rfl rfl q h) (fun q h => zA2_in hD 5 6 rfl rfl q h) (fun H locs hB1 hz hk hS => ?_)
  obtain ⟨hP, hD⟩ := zrow hP hD 5 6 rfl rfl (by decide) hk hB1
  have hP : va_P D zcl [((h 0), .inr (1, [.ref (h 1), .ref (h 3), .ref (h 5), .ref (h 7), .ref (h 9), .int (nI rt)])), ((h 1), .inr (0, [.ref (h 2), .int (nI n0)])), ((h 2), .inl (cI, 4, .inl f0)), ((h 3), .inr (0, [.ref (h 4), .int (nI n0)])), ((h 4), .inl (cI, 4, .inl f1)), ((h 5), .inr (0, [.ref (h 6), .int (nI (n2 + 1))])), ((h 6), .inl (cI, 40, .inl (upd f2 n2 (nI b)))), ((h 7), .inr (0, [.ref (h 8), .int (nI n3)])), ((h 8), .inl (cI, 120, .inl f3)), ((h 9), .inr (0, [.ref (h 10), .int (nI n4)])), ((h 10), .inl (cI, 160, .inl f4))] H := hP
  have hD : va_D (zAS h) [((h 0), .inr (1, [.ref (h 1), .ref (h 3), .ref (h 5), .ref (h 7), .ref (h 9), .int (nI rt)])), ((h 1), .inr (0, [.ref (h 2), .int (nI n0)])), ((h 2), .inl (cI, 4, .inl f0)), ((h 3), .inr (0, [.ref (h 4), .int (nI n0)])), ((h 4), .inl (cI, 4, .inl f1)), ((h 5), .inr (0, [.ref (h 6), .int (nI (n2 + 1))])), ((h 6), .inl (cI, 40, .inl (upd f2 n2 (nI b)))), ((h 7), .inr (0, [.ref (h 8), .int (nI n3)])), ((h 8), .inl (cI, 120, .inl f3)), ((h 9), .inr (0, [.ref (h 10), .int (nI n4)])), ((h 10), .inl (cI, 160, .inl f4))] := hD
  have hM : zs_hold 256 (upd f2 n2 (nI b)) (zs_push (n2, M) b) := zs_hold_push hM (hb9)
  generalize (upd f2 n2 (nI b)) = fz at hP hD hM
  refine lv_if_eq hx hb d_SF_put_19 (tgt := 26) (by decide) (fun z9 => absurd z9 (by decide)) (fun _ => ?_)
  refine lv_iconst (v := (nI 1)) hx hb d_SF_put_22 (by decide) ?_
  refine lv_goto hx hb d_SF_put_23 (tgt := 27) (by decide) ?_
  exact W.zret (v := (nI 1)) hx hb hr (rfl) (fun t ht _ => ⟨rfl, by rw [ht]; exact ⟨f0, f1, fz, f3, f4, hS0, hA0, hM, hB, hE9, hP⟩, hS.F ht⟩) hS.2.2 d_SF_put_27

set_option maxHeartbeats 4000000 in
set_option maxRecDepth 100000 in
theorem c_SF_put_no (l : Launch) (D : va_G) (cI cC cJ : ClassId) (h : Nat → Nat) (n0 : Nat) (S : Nat → Nat) (n2 : Nat) (M : Nat → Nat) (n3 : Nat) (B : Nat → Nat) (n4 : Nat) (E : Nat → Nat) (rt : Nat) (hh : zs_inj h) (hn0 : n0 ≤ 4) (hn2 : n2 ≤ 40) (hn3 : n3 ≤ 120) (hn4 : n4 ≤ 160) (x : Int32) (hx9 : x < 0 ∨ nI 255 < x ∨ n2 = 40) : Met l y_SF_put (zw k_SF_put) ({ frames := 1, cells := 0, slots := 0, locals := 21 }) (zPc [.ref (h 0), .int x] (fun H => zCl D cI h n0 S n2 M n3 B n4 E rt H) D cI cC cJ) (zQm (some (.int (nI 0))) (fun H => zCl D cI h n0 S n2 M n3 B n4 E rt H) (zAS h)) 0 0 (zAS h) := by
  refine zMet (by decide) (Nat.le_of_ble_eq_true rfl) ?_
  intro p e s m below meth c hx hb hr hg hown hlk hml hB0 hE ls hl
  have hl : lv_has ls 2 [(0, .ref (h 0)), (1, .int x)] := hl
  have hS9 : CallFix p m c b_SF_put 2 s [.ref (h 0), .int x].toArray zg "SealedFiles" := ⟨hx, hb, hml, hown, hg⟩
  obtain ⟨f0, f1, f2, f3, f4, hS0, hA0, hM, hB, hE9, hP⟩ := hB0
  have hP : va_P D zcl [((h 0), .inr (1, [.ref (h 1), .ref (h 3), .ref (h 5), .ref (h 7), .ref (h 9), .int (nI rt)])), ((h 1), .inr (0, [.ref (h 2), .int (nI n0)])), ((h 2), .inl (cI, 4, .inl f0)), ((h 3), .inr (0, [.ref (h 4), .int (nI n0)])), ((h 4), .inl (cI, 4, .inl f1)), ((h 5), .inr (0, [.ref (h 6), .int (nI n2)])), ((h 6), .inl (cI, 40, .inl f2)), ((h 7), .inr (0, [.ref (h 8), .int (nI n3)])), ((h 8), .inl (cI, 120, .inl f3)), ((h 9), .inr (0, [.ref (h 10), .int (nI n4)])), ((h 10), .inl (cI, 160, .inl f4))] s.heap := hP
  have hn1 : n0 ≤ 4 := hn0
  have hD : va_D (zAS h) [((h 0), .inr (1, [.ref (h 1), .ref (h 3), .ref (h 5), .ref (h 7), .ref (h 9), .int (nI rt)])), ((h 1), .inr (0, [.ref (h 2), .int (nI n0)])), ((h 2), .inl (cI, 4, .inl f0)), ((h 3), .inr (0, [.ref (h 4), .int (nI n0)])), ((h 4), .inl (cI, 4, .inl f1)), ((h 5), .inr (0, [.ref (h 6), .int (nI n2)])), ((h 6), .inl (cI, 40, .inl f2)), ((h 7), .inr (0, [.ref (h 8), .int (nI n3)])), ((h 8), .inl (cI, 120, .inl f3)), ((h 9), .inr (0, [.ref (h 10), .int (nI n4)])), ((h 10), .inl (cI, 160, .inl f4))] := zSf_D hh
  have hS : va_S (zAS h) s.heap s.heap [] := va_S.rf
  refine lv_iload_n hx hb d_SF_put_0 rfl (lv_at hl 1 rfl) ?_
  refine lv_if_lt hx hb d_SF_put_1 (tgt := 26) (by decide) (fun g => ?_) (fun g => ?_)
  · refine lv_iconst (v := (nI 0)) hx hb d_SF_put_26 (by decide) ?_
    exact W.zret (v := (nI 0)) hx hb hr (rfl) (fun t ht _ => ⟨rfl, by rw [ht]; exact ⟨f0, f1, f2, f3, f4, hS0, hA0, hM, hB, hE9, hP⟩, hS.F ht⟩) hS.2.2 d_SF_put_27
  · refine lv_iload_n hx hb d_SF_put_4 rfl (lv_at hl 1 rfl) ?_
    refine lv_sipush (v := (nI 255)) hx hb d_SF_put_5 (by decide) ?_
    refine lv_icmp_gt hx hb d_SF_put_8 (tgt := 26) (by decide) (fun g2 => ?_) (fun g2 => ?_)
    · refine lv_iconst (v := (nI 0)) hx hb d_SF_put_26 (by decide) ?_
      exact W.zret (v := (nI 0)) hx hb hr (rfl) (fun t ht _ => ⟨rfl, by rw [ht]; exact ⟨f0, f1, f2, f3, f4, hS0, hA0, hM, hB, hE9, hP⟩, hS.F ht⟩) hS.2.2 d_SF_put_27
    · refine lv_aload_n hx hb d_SF_put_11 rfl (lv_at hl 0 rfl) ?_
      refine va_get (D := D) (ci := 1) (v := .ref (h 5)) (C := R_SF) (T := F_SF) (N := 6) hx hb hg i_SF hown hE.1 hP 0 rfl rfl 2 (by decide) (hg _ zw_42) (fun _ h9 => h9) rfl d_SF_put_12 ?_
      refine lv_iload_n hx hb d_SF_put_15 rfl (lv_at hl 1 rfl) ?_
      have g3 : n2 = 40 := hx9.resolve_left g |>.resolve_left g2
      refine zWr (rest := []) (zrVN hS9 (c_RW_append_full l D cI cC cJ (h 5) (h 6) 40 n2 f2 (by omega) (by decide) (fun z => absurd (hh 5 6 (by decide) (by decide) z) (by decide)) x g3) zc_RW_append (by decide) zw_77 zp_2 (by decide) (va_recv hE.1 hP (ci := 0) (q := (R_RW, F_RW, 2)) rfl (q0 := 5) rfl) (hP.sub [5, 6] rfl) hE rfl hl.1 rfl (Nat.le_of_ble_eq_true rfl) d_SF_put_16) hS (fun q _ h => zA2_in hD 5 6 rfl rfl q h) (fun q h => zA2_in hD 5 6 rfl rfl q h) (fun H locs hB1 hz hk hS => ?_)
      obtain ⟨hP, hD⟩ := zrow hP hD 5 6 rfl rfl (by decide) hk hB1
      have hP : va_P D zcl [((h 0), .inr (1, [.ref (h 1), .ref (h 3), .ref (h 5), .ref (h 7), .ref (h 9), .int (nI rt)])), ((h 1), .inr (0, [.ref (h 2), .int (nI n0)])), ((h 2), .inl (cI, 4, .inl f0)), ((h 3), .inr (0, [.ref (h 4), .int (nI n0)])), ((h 4), .inl (cI, 4, .inl f1)), ((h 5), .inr (0, [.ref (h 6), .int (nI n2)])), ((h 6), .inl (cI, 40, .inl f2)), ((h 7), .inr (0, [.ref (h 8), .int (nI n3)])), ((h 8), .inl (cI, 120, .inl f3)), ((h 9), .inr (0, [.ref (h 10), .int (nI n4)])), ((h 10), .inl (cI, 160, .inl f4))] H := hP
      have hD : va_D (zAS h) [((h 0), .inr (1, [.ref (h 1), .ref (h 3), .ref (h 5), .ref (h 7), .ref (h 9), .int (nI rt)])), ((h 1), .inr (0, [.ref (h 2), .int (nI n0)])), ((h 2), .inl (cI, 4, .inl f0)), ((h 3), .inr (0, [.ref (h 4), .int (nI n0)])), ((h 4), .inl (cI, 4, .inl f1)), ((h 5), .inr (0, [.ref (h 6), .int (nI n2)])), ((h 6), .inl (cI, 40, .inl f2)), ((h 7), .inr (0, [.ref (h 8), .int (nI n3)])), ((h 8), .inl (cI, 120, .inl f3)), ((h 9), .inr (0, [.ref (h 10), .int (nI n4)])), ((h 10), .inl (cI, 160, .inl f4))] := hD
      refine lv_if_eq hx hb d_SF_put_19 (tgt := 26) (by decide) (fun _ => ?_) (fun z9 => absurd (by decide) z9)
      refine lv_iconst (v := (nI 0)) hx hb d_SF_put_26 (by decide) ?_
      exact W.zret (v := (nI 0)) hx hb hr (rfl) (fun t ht _ => ⟨rfl, by rw [ht]; exact ⟨f0, f1, f2, f3, f4, hS0, hA0, hM, hB, hE9, hP⟩, hS.F ht⟩) hS.2.2 d_SF_put_27

set_option maxHeartbeats 4000000 in
set_option maxRecDepth 100000 in
theorem c_SF_clear (l : Launch) (D : va_G) (cI cC cJ : ClassId) (h : Nat → Nat) (n0 : Nat) (S : Nat → Nat) (n2 : Nat) (M : Nat → Nat) (n3 : Nat) (B : Nat → Nat) (n4 : Nat) (E : Nat → Nat) (rt : Nat) (hh : zs_inj h) (hn0 : n0 ≤ 4) (hn2 : n2 ≤ 40) (hn3 : n3 ≤ 120) (hn4 : n4 ≤ 160) : Met l y_SF_clear (zw k_SF_clear) ({ frames := 1, cells := 0, slots := 0, locals := 21 }) (zPc [.ref (h 0)] (fun H => zCl D cI h n0 S n2 M n3 B n4 E rt H) D cI cC cJ) (zQm (some (.int (nI n2))) (fun H => zCl D cI h n0 S 0 M n3 B n4 E rt H) (zAS h)) 0 0 (zAS h) := by
  refine zMet (by decide) (Nat.le_of_ble_eq_true rfl) ?_
  intro p e s m below meth c hx hb hr hg hown hlk hml hB0 hE ls hl
  have hl : lv_has ls 2 [(0, .ref (h 0))] := hl
  have hS9 : CallFix p m c b_SF_clear 2 s [.ref (h 0)].toArray zg "SealedFiles" := ⟨hx, hb, hml, hown, hg⟩
  obtain ⟨f0, f1, f2, f3, f4, hS0, hA0, hM, hB, hE9, hP⟩ := hB0
  have hP : va_P D zcl [((h 0), .inr (1, [.ref (h 1), .ref (h 3), .ref (h 5), .ref (h 7), .ref (h 9), .int (nI rt)])), ((h 1), .inr (0, [.ref (h 2), .int (nI n0)])), ((h 2), .inl (cI, 4, .inl f0)), ((h 3), .inr (0, [.ref (h 4), .int (nI n0)])), ((h 4), .inl (cI, 4, .inl f1)), ((h 5), .inr (0, [.ref (h 6), .int (nI n2)])), ((h 6), .inl (cI, 40, .inl f2)), ((h 7), .inr (0, [.ref (h 8), .int (nI n3)])), ((h 8), .inl (cI, 120, .inl f3)), ((h 9), .inr (0, [.ref (h 10), .int (nI n4)])), ((h 10), .inl (cI, 160, .inl f4))] s.heap := hP
  have hn1 : n0 ≤ 4 := hn0
  have hD : va_D (zAS h) [((h 0), .inr (1, [.ref (h 1), .ref (h 3), .ref (h 5), .ref (h 7), .ref (h 9), .int (nI rt)])), ((h 1), .inr (0, [.ref (h 2), .int (nI n0)])), ((h 2), .inl (cI, 4, .inl f0)), ((h 3), .inr (0, [.ref (h 4), .int (nI n0)])), ((h 4), .inl (cI, 4, .inl f1)), ((h 5), .inr (0, [.ref (h 6), .int (nI n2)])), ((h 6), .inl (cI, 40, .inl f2)), ((h 7), .inr (0, [.ref (h 8), .int (nI n3)])), ((h 8), .inl (cI, 120, .inl f3)), ((h 9), .inr (0, [.ref (h 10), .int (nI n4)])), ((h 10), .inl (cI, 160, .inl f4))] := zSf_D hh
  have hS : va_S (zAS h) s.heap s.heap [] := va_S.rf
  refine lv_aload_n hx hb d_SF_clear_0 rfl (lv_at hl 0 rfl) ?_
  refine va_get (D := D) (ci := 1) (v := .ref (h 5)) (C := R_SF) (T := F_SF) (N := 6) hx hb hg i_SF hown hE.1 hP 0 rfl rfl 2 (by decide) (hg _ zw_42) (fun _ h9 => h9) rfl d_SF_clear_1 ?_
  refine zRd (rest := []) (zrVN hS9 (c_RW_size l D cI cC cJ (h 5) (h 6) 40 n2 f2 (by omega) (by decide)) zc_RW_size (by decide) zw_85 zp_3 (by decide) (va_recv hE.1 hP (ci := 0) (q := (R_RW, F_RW, 2)) rfl (q0 := 5) rfl) (hP.sub [5, 6] rfl) hE rfl hl.1 rfl (Nat.le_of_ble_eq_true rfl) d_SF_clear_4) ?_
  refine lv_istore_n hx hb d_SF_clear_7 rfl hl (by decide) (lv' := [(1, .int (nI n2)), (0, .ref (h 0))]) rfl (fun ls hl => ?_)
  refine lv_aload_n hx hb d_SF_clear_8 rfl (lv_at hl 1 rfl) ?_
  refine va_get (D := D) (ci := 1) (v := .ref (h 5)) (C := R_SF) (T := F_SF) (N := 6) hx hb hg i_SF hown hE.1 hP 0 rfl rfl 2 (by decide) (hg _ zw_42) (fun _ h9 => h9) rfl d_SF_clear_9 ?_
  refine lv_iconst (v := (nI 0)) hx hb d_SF_clear_12 (by decide) ?_
  refine zWr (rest := []) (zrVN hS9 (c_RW_clear l D cI cC cJ (h 5) (h 6) 40 n2 f2 (by omega) (by decide) (fun z => absurd (hh 5 6 (by decide) (by decide) z) (by decide))) zc_RW_shorten (by decide) zw_89 zp_4 (by decide) (va_recv hE.1 hP (ci := 0) (q := (R_RW, F_RW, 2)) rfl (q0 := 5) rfl) (hP.sub [5, 6] rfl) hE rfl hl.1 rfl (Nat.le_of_ble_eq_true rfl) d_SF_clear_13) hS (fun q _ h => zA2_in hD 5 6 rfl rfl q h) (fun q h => zA2_in hD 5 6 rfl rfl q h) (fun H locs hB1 hz hk hS => ?_)
  obtain ⟨hP, hD⟩ := zrow hP hD 5 6 rfl rfl (by decide) hk hB1
  have hP : va_P D zcl [((h 0), .inr (1, [.ref (h 1), .ref (h 3), .ref (h 5), .ref (h 7), .ref (h 9), .int (nI rt)])), ((h 1), .inr (0, [.ref (h 2), .int (nI n0)])), ((h 2), .inl (cI, 4, .inl f0)), ((h 3), .inr (0, [.ref (h 4), .int (nI n0)])), ((h 4), .inl (cI, 4, .inl f1)), ((h 5), .inr (0, [.ref (h 6), .int (nI 0)])), ((h 6), .inl (cI, 40, .inl f2)), ((h 7), .inr (0, [.ref (h 8), .int (nI n3)])), ((h 8), .inl (cI, 120, .inl f3)), ((h 9), .inr (0, [.ref (h 10), .int (nI n4)])), ((h 10), .inl (cI, 160, .inl f4))] H := hP
  have hD : va_D (zAS h) [((h 0), .inr (1, [.ref (h 1), .ref (h 3), .ref (h 5), .ref (h 7), .ref (h 9), .int (nI rt)])), ((h 1), .inr (0, [.ref (h 2), .int (nI n0)])), ((h 2), .inl (cI, 4, .inl f0)), ((h 3), .inr (0, [.ref (h 4), .int (nI n0)])), ((h 4), .inl (cI, 4, .inl f1)), ((h 5), .inr (0, [.ref (h 6), .int (nI 0)])), ((h 6), .inl (cI, 40, .inl f2)), ((h 7), .inr (0, [.ref (h 8), .int (nI n3)])), ((h 8), .inl (cI, 120, .inl f3)), ((h 9), .inr (0, [.ref (h 10), .int (nI n4)])), ((h 10), .inl (cI, 160, .inl f4))] := hD
  refine lv_pop hx hb d_SF_clear_16 rfl ?_
  refine lv_iload_n hx hb d_SF_clear_17 rfl (lv_at hl 0 rfl) ?_
  exact W.iret (v := (nI n2)) hx hb hr (fun t ht _ => ⟨rfl, by rw [ht]; exact ⟨f0, f1, f2, f3, f4, hS0, hA0, zs_hold_0, hB, hE9, hP⟩, hS.F ht⟩) hS.2.2 d_SF_clear_18

set_option maxHeartbeats 4000000 in
set_option maxRecDepth 100000 in
theorem c_SF_cut_ok (l : Launch) (D : va_G) (cI cC cJ : ClassId) (h : Nat → Nat) (n0 : Nat) (S : Nat → Nat) (n2 : Nat) (M : Nat → Nat) (n3 : Nat) (B : Nat → Nat) (n4 : Nat) (E : Nat → Nat) (rt : Nat) (hh : zs_inj h) (hn0 : n0 ≤ 4) (hn2 : n2 ≤ 40) (hn3 : n3 ≤ 120) (hn4 : n4 ≤ 160) (j : Nat) (hj : j < n3) : Met l y_SF_cut (zw k_SF_cut) ({ frames := 1, cells := 0, slots := 0, locals := 21 }) (zPc [.ref (h 0), .int (nI j)] (fun H => zCl D cI h n0 S n2 M n3 B n4 E rt H) D cI cC cJ) (zQm (some (.int (nI 1))) (fun H => zCl D cI h n0 S n2 M j B n4 E rt H) (zAS h)) 0 0 (zAS h) := by
  refine zMet (by decide) (Nat.le_of_ble_eq_true rfl) ?_
  intro p e s m below meth c hx hb hr hg hown hlk hml hB0 hE ls hl
  have hl : lv_has ls 2 [(0, .ref (h 0)), (1, .int (nI j))] := hl
  have hS9 : CallFix p m c b_SF_cut 2 s [.ref (h 0), .int (nI j)].toArray zg "SealedFiles" := ⟨hx, hb, hml, hown, hg⟩
  obtain ⟨f0, f1, f2, f3, f4, hS0, hA0, hM, hB, hE9, hP⟩ := hB0
  have hP : va_P D zcl [((h 0), .inr (1, [.ref (h 1), .ref (h 3), .ref (h 5), .ref (h 7), .ref (h 9), .int (nI rt)])), ((h 1), .inr (0, [.ref (h 2), .int (nI n0)])), ((h 2), .inl (cI, 4, .inl f0)), ((h 3), .inr (0, [.ref (h 4), .int (nI n0)])), ((h 4), .inl (cI, 4, .inl f1)), ((h 5), .inr (0, [.ref (h 6), .int (nI n2)])), ((h 6), .inl (cI, 40, .inl f2)), ((h 7), .inr (0, [.ref (h 8), .int (nI n3)])), ((h 8), .inl (cI, 120, .inl f3)), ((h 9), .inr (0, [.ref (h 10), .int (nI n4)])), ((h 10), .inl (cI, 160, .inl f4))] s.heap := hP
  have hn1 : n0 ≤ 4 := hn0
  have hD : va_D (zAS h) [((h 0), .inr (1, [.ref (h 1), .ref (h 3), .ref (h 5), .ref (h 7), .ref (h 9), .int (nI rt)])), ((h 1), .inr (0, [.ref (h 2), .int (nI n0)])), ((h 2), .inl (cI, 4, .inl f0)), ((h 3), .inr (0, [.ref (h 4), .int (nI n0)])), ((h 4), .inl (cI, 4, .inl f1)), ((h 5), .inr (0, [.ref (h 6), .int (nI n2)])), ((h 6), .inl (cI, 40, .inl f2)), ((h 7), .inr (0, [.ref (h 8), .int (nI n3)])), ((h 8), .inl (cI, 120, .inl f3)), ((h 9), .inr (0, [.ref (h 10), .int (nI n4)])), ((h 10), .inl (cI, 160, .inl f4))] := zSf_D hh
  have hS : va_S (zAS h) s.heap s.heap [] := va_S.rf
  refine lv_aload_n hx hb d_SF_cut_0 rfl (lv_at hl 0 rfl) ?_
  refine va_get (D := D) (ci := 1) (v := .ref (h 7)) (C := R_SF) (T := F_SF) (N := 6) hx hb hg i_SF hown hE.1 hP 0 rfl rfl 3 (by decide) (hg _ zw_43) (fun _ h9 => h9) rfl d_SF_cut_1 ?_
  refine lv_iload_n hx hb d_SF_cut_4 rfl (lv_at hl 1 rfl) ?_
  refine zWr (rest := []) (zrVN hS9 (c_RW_shorten l D cI cC cJ (h 7) (h 8) 120 n3 f3 (by omega) (by decide) (fun z => absurd (hh 7 8 (by decide) (by decide) z) (by decide)) j hj) zc_RW_shorten (by decide) zw_89 zp_4 (by decide) (va_recv hE.1 hP (ci := 0) (q := (R_RW, F_RW, 2)) rfl (q0 := 7) rfl) (hP.sub [7, 8] rfl) hE rfl hl.1 rfl (Nat.le_of_ble_eq_true rfl) d_SF_cut_5) hS (fun q _ h => zA2_in hD 7 8 rfl rfl q h) (fun q h => zA2_in hD 7 8 rfl rfl q h) (fun H locs hB1 hz hk hS => ?_)
  obtain ⟨hP, hD⟩ := zrow hP hD 7 8 rfl rfl (by decide) hk hB1
  have hP : va_P D zcl [((h 0), .inr (1, [.ref (h 1), .ref (h 3), .ref (h 5), .ref (h 7), .ref (h 9), .int (nI rt)])), ((h 1), .inr (0, [.ref (h 2), .int (nI n0)])), ((h 2), .inl (cI, 4, .inl f0)), ((h 3), .inr (0, [.ref (h 4), .int (nI n0)])), ((h 4), .inl (cI, 4, .inl f1)), ((h 5), .inr (0, [.ref (h 6), .int (nI n2)])), ((h 6), .inl (cI, 40, .inl f2)), ((h 7), .inr (0, [.ref (h 8), .int (nI j)])), ((h 8), .inl (cI, 120, .inl f3)), ((h 9), .inr (0, [.ref (h 10), .int (nI n4)])), ((h 10), .inl (cI, 160, .inl f4))] H := hP
  have hD : va_D (zAS h) [((h 0), .inr (1, [.ref (h 1), .ref (h 3), .ref (h 5), .ref (h 7), .ref (h 9), .int (nI rt)])), ((h 1), .inr (0, [.ref (h 2), .int (nI n0)])), ((h 2), .inl (cI, 4, .inl f0)), ((h 3), .inr (0, [.ref (h 4), .int (nI n0)])), ((h 4), .inl (cI, 4, .inl f1)), ((h 5), .inr (0, [.ref (h 6), .int (nI n2)])), ((h 6), .inl (cI, 40, .inl f2)), ((h 7), .inr (0, [.ref (h 8), .int (nI j)])), ((h 8), .inl (cI, 120, .inl f3)), ((h 9), .inr (0, [.ref (h 10), .int (nI n4)])), ((h 10), .inl (cI, 160, .inl f4))] := hD
  exact W.zret (v := (nI 1)) hx hb hr (rfl) (fun t ht _ => ⟨rfl, by rw [ht]; exact ⟨f0, f1, f2, f3, f4, hS0, hA0, hM, zs_hold_cut hB (Nat.le_of_lt hj), hE9, hP⟩, hS.F ht⟩) hS.2.2 d_SF_cut_8

set_option maxHeartbeats 4000000 in
set_option maxRecDepth 100000 in
theorem c_SF_cut_no (l : Launch) (D : va_G) (cI cC cJ : ClassId) (h : Nat → Nat) (n0 : Nat) (S : Nat → Nat) (n2 : Nat) (M : Nat → Nat) (n3 : Nat) (B : Nat → Nat) (n4 : Nat) (E : Nat → Nat) (rt : Nat) (hh : zs_inj h) (hn0 : n0 ≤ 4) (hn2 : n2 ≤ 40) (hn3 : n3 ≤ 120) (hn4 : n4 ≤ 160) (x : Int32) (hx9 : x < 0 ∨ nI n3 ≤ x) : Met l y_SF_cut (zw k_SF_cut) ({ frames := 1, cells := 0, slots := 0, locals := 21 }) (zPc [.ref (h 0), .int x] (fun H => zCl D cI h n0 S n2 M n3 B n4 E rt H) D cI cC cJ) (zQm (some (.int (nI 0))) (fun H => zCl D cI h n0 S n2 M n3 B n4 E rt H) (zAS h)) 0 0 (zAS h) := by
  refine zMet (by decide) (Nat.le_of_ble_eq_true rfl) ?_
  intro p e s m below meth c hx hb hr hg hown hlk hml hB0 hE ls hl
  have hl : lv_has ls 2 [(0, .ref (h 0)), (1, .int x)] := hl
  have hS9 : CallFix p m c b_SF_cut 2 s [.ref (h 0), .int x].toArray zg "SealedFiles" := ⟨hx, hb, hml, hown, hg⟩
  obtain ⟨f0, f1, f2, f3, f4, hS0, hA0, hM, hB, hE9, hP⟩ := hB0
  have hP : va_P D zcl [((h 0), .inr (1, [.ref (h 1), .ref (h 3), .ref (h 5), .ref (h 7), .ref (h 9), .int (nI rt)])), ((h 1), .inr (0, [.ref (h 2), .int (nI n0)])), ((h 2), .inl (cI, 4, .inl f0)), ((h 3), .inr (0, [.ref (h 4), .int (nI n0)])), ((h 4), .inl (cI, 4, .inl f1)), ((h 5), .inr (0, [.ref (h 6), .int (nI n2)])), ((h 6), .inl (cI, 40, .inl f2)), ((h 7), .inr (0, [.ref (h 8), .int (nI n3)])), ((h 8), .inl (cI, 120, .inl f3)), ((h 9), .inr (0, [.ref (h 10), .int (nI n4)])), ((h 10), .inl (cI, 160, .inl f4))] s.heap := hP
  have hn1 : n0 ≤ 4 := hn0
  have hD : va_D (zAS h) [((h 0), .inr (1, [.ref (h 1), .ref (h 3), .ref (h 5), .ref (h 7), .ref (h 9), .int (nI rt)])), ((h 1), .inr (0, [.ref (h 2), .int (nI n0)])), ((h 2), .inl (cI, 4, .inl f0)), ((h 3), .inr (0, [.ref (h 4), .int (nI n0)])), ((h 4), .inl (cI, 4, .inl f1)), ((h 5), .inr (0, [.ref (h 6), .int (nI n2)])), ((h 6), .inl (cI, 40, .inl f2)), ((h 7), .inr (0, [.ref (h 8), .int (nI n3)])), ((h 8), .inl (cI, 120, .inl f3)), ((h 9), .inr (0, [.ref (h 10), .int (nI n4)])), ((h 10), .inl (cI, 160, .inl f4))] := zSf_D hh
  have hS : va_S (zAS h) s.heap s.heap [] := va_S.rf
  refine lv_aload_n hx hb d_SF_cut_0 rfl (lv_at hl 0 rfl) ?_
  refine va_get (D := D) (ci := 1) (v := .ref (h 7)) (C := R_SF) (T := F_SF) (N := 6) hx hb hg i_SF hown hE.1 hP 0 rfl rfl 3 (by decide) (hg _ zw_43) (fun _ h9 => h9) rfl d_SF_cut_1 ?_
  refine lv_iload_n hx hb d_SF_cut_4 rfl (lv_at hl 1 rfl) ?_
  refine zWr (rest := []) (zrVN hS9 (c_RW_shorten_no l D cI cC cJ (h 7) (h 8) 120 n3 f3 (by omega) (by decide) (fun z => absurd (hh 7 8 (by decide) (by decide) z) (by decide)) x hx9) zc_RW_shorten (by decide) zw_89 zp_4 (by decide) (va_recv hE.1 hP (ci := 0) (q := (R_RW, F_RW, 2)) rfl (q0 := 7) rfl) (hP.sub [7, 8] rfl) hE rfl hl.1 rfl (Nat.le_of_ble_eq_true rfl) d_SF_cut_5) hS (fun q _ h => zA2_in hD 7 8 rfl rfl q h) (fun q h => zA2_in hD 7 8 rfl rfl q h) (fun H locs hB1 hz hk hS => ?_)
  obtain ⟨hP, hD⟩ := zrow hP hD 7 8 rfl rfl (by decide) hk hB1
  have hP : va_P D zcl [((h 0), .inr (1, [.ref (h 1), .ref (h 3), .ref (h 5), .ref (h 7), .ref (h 9), .int (nI rt)])), ((h 1), .inr (0, [.ref (h 2), .int (nI n0)])), ((h 2), .inl (cI, 4, .inl f0)), ((h 3), .inr (0, [.ref (h 4), .int (nI n0)])), ((h 4), .inl (cI, 4, .inl f1)), ((h 5), .inr (0, [.ref (h 6), .int (nI n2)])), ((h 6), .inl (cI, 40, .inl f2)), ((h 7), .inr (0, [.ref (h 8), .int (nI n3)])), ((h 8), .inl (cI, 120, .inl f3)), ((h 9), .inr (0, [.ref (h 10), .int (nI n4)])), ((h 10), .inl (cI, 160, .inl f4))] H := hP
  have hD : va_D (zAS h) [((h 0), .inr (1, [.ref (h 1), .ref (h 3), .ref (h 5), .ref (h 7), .ref (h 9), .int (nI rt)])), ((h 1), .inr (0, [.ref (h 2), .int (nI n0)])), ((h 2), .inl (cI, 4, .inl f0)), ((h 3), .inr (0, [.ref (h 4), .int (nI n0)])), ((h 4), .inl (cI, 4, .inl f1)), ((h 5), .inr (0, [.ref (h 6), .int (nI n2)])), ((h 6), .inl (cI, 40, .inl f2)), ((h 7), .inr (0, [.ref (h 8), .int (nI n3)])), ((h 8), .inl (cI, 120, .inl f3)), ((h 9), .inr (0, [.ref (h 10), .int (nI n4)])), ((h 10), .inl (cI, 160, .inl f4))] := hD
  exact W.zret (v := (nI 0)) hx hb hr (rfl) (fun t ht _ => ⟨rfl, by rw [ht]; exact ⟨f0, f1, f2, f3, f4, hS0, hA0, hM, hB, hE9, hP⟩, hS.F ht⟩) hS.2.2 d_SF_cut_8
end
section
section VXA
/-! The laws vx_back, vx_callV, vx_callS, vx_callSW, vx_throw0, vx_throwS follow proofs of the library, with one case more: JvmDerived/Free/Laws.lean (Back.of_free), Shelf42/LK1.lean (callV, callS), Shelf/KitTraced.lean (throwNew0V, throwNewS). -/
/-- where a method has thrown q: the class by its name, the cell, what was written, the world -/
def vx_T (XC : String → State → State → Prop) (st : State) (q : Addr) (t : State) (mc ms : Nat) (free : Addr → Prop) : Prop :=
  ∃ (E : String) (ce : Cell) (L : List Loc), XC E st t ∧ t.heap[q]? = some ce ∧ ce.vm = .none ∧ st.vm.findClass E = some ce.cls ∧ st.WarmedH t.vm ∧ st.sameButNew ({ t with vm := st.vm } : State) L mc ms ∧ ∀ z ∈ L, free z.base
def vx_Q (Qc : Array Value → State → Outcome → State → Prop) (XC : String → State → State → Prop) (mc ms : Nat) (free : Addr → Prop) : Array Value → State → Outcome → State → Prop := fun a st o t =>
  (Qc a st o t ∧ ∃ L, FrameEnd st o t L mc ms ∧ ∀ q ∈ L, free q.base) ∨ ∃ q, o = .threw q ∧ vx_T XC st q t mc ms free
/-- a callee that returns or throws -/
def vx_Met (l : Launch) (y : MethodName) (ws : List Cond) (rm : Room) (Pc : Array Value → State → Prop) (Qc : Array Value → State → Outcome → State → Prop) (XC : String → State → State → Prop) (mc ms : Nat) (free : Addr → Prop) : Prop :=
  MetFree l y (headSpec ws rm) Pc (fun _ _ _ _ _ => True) (vx_Q Qc XC mc ms free)
def vx_Post (XC : String → State → State → Prop) (mc ms : Nat) (free : Addr → Prop) : Pt → Array Value → Addr → Pt → Prop := fun A a q B =>
  ∃ (g : JFrame) (mk : MethodId) (t : State) (L : List Loc) (E : String) (ce : Cell), B.U.heap = t.heap ∧ B.U.vm = t.vm ∧ XC E (A.U.calling g mk a) t ∧ t.heap[q]? = some ce ∧ ce.vm = .none ∧ A.U.vm.findClass E = some ce.cls ∧ B.locs = A.locs ++ L ∧ (∀ z ∈ L, free z.base) ∧ B.cells = A.cells + mc ∧ B.slots = A.slots + ms
def vx_Back (l : Launch) (R : Room) (p : Program) (e : Env) (below : List Frame) (s : State) (sargs : Array Value) (y : MethodName) (len W9 : Nat)
    (Pre : Pt → Array Value → Prop) (Post : Pt → Array Value → Option Value → Pt → Prop) (PostX : Pt → Array Value → Addr → Pt → Prop) : Prop :=
  ∀ (m : MethodId) (meth : Method) (c : Code) (A : Pt) (g : JFrame) (ig : Instr) (mk : MethodId) (a : Array Value),
    Stand p l e R s m sargs below meth c A.U A.locs A.cells A.slots → g.method = m → g.locals.size = c.maxLocals → decode c.code g.pc = .ok (ig, len) →
    2 * g.monitorRoom + (g.stack.map fun v => v.category).sum ≤ W9 → A.U.methodNamed? y = some mk → Pre A a →
    (∃ (v : Option Value) (B : Pt), Stand p l e R s m sargs below meth c B.U B.locs B.cells B.slots ∧ Post A a v B ∧
      Steps p.tables e below (doInvoke e (A.U.setTop g) [] mk a).1 (B.U.setTop { g with pc := g.pc + len, stack := v.toList ++ g.stack })) ∨
    (∃ (q : Addr) (B : Pt), Stand p l e R s m sargs below meth c B.U B.locs B.cells B.slots ∧ PostX A a q B ∧
      Steps p.tables e below (doInvoke e (A.U.setTop g) [] mk a).1 ((B.U.setTop g).pushFrame (.throwing q)))
section Payer
variable {l : Launch} {R : Room} {p : Program} {e : Env} {below : List Frame} {s : State} {sargs : Array Value} {y : MethodName} {len W9 : Nat}
theorem vx_back {ws : List Cond} {rm : Room} {Pc : Array Value → State → Prop} {Qc : Array Value → State → Outcome → State → Prop} {XC : String → State → State → Prop} {mc ms : Nat} {free : Addr → Prop} {bytes : ByteArray} {maxL : Nat} {ret : Option FieldType}
    (hM : vx_Met l y ws rm Pc Qc XC mc ms free) (hblind : FrameBlind Pc) (hrc : rm.cells = mc) (hrs : rm.slots = ms)
    (hframes : rm.frames + 1 ≤ R.frames) (hlocals : W9 + (maxL + 11) + rm.locals ≤ R.locals)
    (hws : ∀ w ∈ ws, ∀ a' U, s.WarmedH U.vm → w.before a' U = true) (hcode : Cond.code y bytes maxL ret ∈ ws) (hinit : ∀ a' U, s.WarmedH U.vm → (Cond.initialized y.cls).before a' U = true) :
    vx_Back l R p e below s sargs y len W9 (PreOf R mc ms Pc) (PostOf Qc mc ms free) (vx_Post XC mc ms free) := by
  intro m meth c A g ig mk a X hg hsize hdg hW hn hp
  have h1 : (headSpec ws rm).pre.before a A.U = true := atoms_intro fun w hw => hws w hw _ _ X.warmed
  have h2 : (Cond.code y bytes maxL ret).before a A.U = true := hws _ hcode _ _ X.warmed
  have h3 : (Cond.initialized y.cls).before a A.U = true := hinit _ _ X.warmed
  have h4 : A.cells + (headSpec ws rm).room.cells ≤ R.cells := by rw [show (headSpec ws rm).room.cells = mc from hrc]; exact hp.1
  have h5 : A.slots + (headSpec ws rm).room.slots ≤ R.slots := by rw [show (headSpec ws rm).room.slots = ms from hrs]; exact hp.2.1
  have hPc : Pc a (A.U.calling g mk a) := hblind _ _ _ _ hp.2.2
  obtain ⟨U, Ls, c0, s0⟩ := A
  dsimp only [Pt.U, Pt.locs, Pt.cells, Pt.slots] at h1 h2 h3 h4 h5 X hn hPc ⊢
  obtain ⟨methY, cY, hmY, hcY, -, hlY, -, -, -, -⟩ := Cond.code_spec hn h2
  obtain ⟨kY, hkY, -⟩ := className_of_methodNamed hn
  have hinitY : kY.init = .initialized := Cond.initialized_spec (findClass_of_methodNamed hn) hkY h3
  have h : At U g.method c below := by rw [hg]; exact X.here
  have hlocals9 : W9 + (maxL + 11) + (headSpec ws rm).room.locals ≤ R.locals := hlocals
  have happ : (headSpec ws rm).appliesLoose y e.platform (U.calling g mk a) = true :=
    Spec.appliesLoose_calling (g := g) h hdg hn hkY hinitY
      (X.room_calling (g := g) (R' := (headSpec ws rm).room) hsize hmY hcY hframes (by rw [hlY]; omega) h4 h5) h1
  obtain ⟨mid, hmid⟩ := h.above
  have hfr : (U.setTop g).frames = (.java g :: mid) ++ below := by rw [State.frames_setTop' g h.top, hmid]; rfl
  obtain ⟨o, s₂, hsteps, -, hend, hq⟩ := Steps.callFree hM p X.admits X.cas X.clock (acts := []) hfr happ hPc trivial
  have hq' : vx_Q Qc XC mc ms free a (U.calling g mk a) o s₂ := hq
  rw [State.frames_setTop' g h.top] at hend
  obtain ⟨g₀, hg0⟩ := Option.isSome_iff_exists.mp h.top
  obtain ⟨r, hr⟩ := State.topJava?_eq_some.mp hg0
  have hr' : (({ U with heap := s₂.heap, slotsUsed := s₂.slotsUsed } : State).setVm s₂.vm).frames = .java g₀ :: r := hr
  rcases hq' with ⟨hqc, L, hfe, hL⟩ | ⟨q, rfl, E, ce, L, hx, hce, hcv, hcl, hW₂, hsm, hL⟩
  · obtain ⟨⟨v, rfl⟩, hW₂, e2, q2, q3, q4, q5, q6⟩ := id hfe
    have e3 : s₂ = ({ (U.calling g mk a).setFrames s₂.frames with heap := s₂.heap, slotsUsed := s₂.slotsUsed } : State).setVm s₂.vm := by
      have : s₂ = ({ s₂ with vm := (U.calling g mk a).vm } : State).setVm s₂.vm := rfl
      rw [e2] at this
      exact this
    obtain ⟨c₂, i₂, len₂, hc₂, hd₂, hf₂⟩ := hend
    have hW' : U.WarmedH s₂.vm := hW₂
    have hcc : c₂ = c := by
      have h1 : s₂.code? g.method = U.code? g.method := by
        rw [State.code?_eq, State.code?_eq, hW'.alike.method?]
      exact Option.some.inj (hc₂.symm.trans (h1.trans h.code))
    subst hcc
    have hlen : len₂ = len := by rw [hdg] at hd₂; cases hd₂; rfl
    subst hlen
    have hs₂ : s₂ = (({ U with heap := s₂.heap, slotsUsed := s₂.slotsUsed } : State).setVm s₂.vm).setTop { g with pc := g.pc + len₂, stack := v.toList ++ g.stack } := by
      refine e3.trans ?_
      rw [hf₂, State.calling_eq h.top, State.setFrames_setFrames, State.setTop_of_frames _ hr', hr]
      rfl
    have hsame : U.sameButNew ({ U with heap := s₂.heap, slotsUsed := s₂.slotsUsed } : State) L mc ms := by
      refine ⟨?_, q2, q3, q4, q5, q6⟩
      obtain ⟨t, ht, -⟩ := State.frames_cons hr
      show ({ U with heap := s₂.heap, slotsUsed := s₂.slotsUsed } : State) = { U.setFrames U.frames with heap := s₂.heap, slotsUsed := s₂.slotsUsed }
      rw [State.setFrames_self ht]
    subst hg
    refine Or.inl ⟨v, ⟨(({ U with heap := s₂.heap, slotsUsed := s₂.slotsUsed } : State).setVm s₂.vm), Ls ++ L, c0 + mc, s0 + ms⟩,
      ⟨X.admits, X.cas, X.clock, X.frames, X.room, X.hears, X.method, X.code, (X.here.setHeapUsed s₂.heap s₂.slotsUsed).setVm hW'.alike, X.tail, State.WarmedH.trans X.warmed hW', X.limits, X.bytes, X.same.trans (hsame.setVm s.vm)⟩,
      ⟨g, mk, s₂, L, rfl, rfl, hqc, rfl, hL, rfl, rfl⟩, ?_⟩
    show Steps p.tables e below _ ((({ U with heap := s₂.heap, slotsUsed := s₂.slotsUsed } : State).setVm s₂.vm).setTop { g with pc := g.pc + len₂, stack := v.toList ++ g.stack })
    rw [← hs₂]
    exact hsteps
  · obtain ⟨e2, q2, q3, q4, q5, q6⟩ := id hsm
    have e3 : s₂ = ({ (U.calling g mk a).setFrames s₂.frames with heap := s₂.heap, slotsUsed := s₂.slotsUsed } : State).setVm s₂.vm := by
      have : s₂ = ({ s₂ with vm := (U.calling g mk a).vm } : State).setVm s₂.vm := rfl
      rw [e2] at this
      exact this
    have hf₂ : s₂.frames = .throwing q :: .java g :: U.frames.tail := hend
    have hW' : U.WarmedH s₂.vm := hW₂
    have hs₂ : s₂ = ((({ U with heap := s₂.heap, slotsUsed := s₂.slotsUsed } : State).setVm s₂.vm).setTop g).pushFrame (.throwing q) := by
      refine e3.trans ?_
      rw [hf₂, State.calling_eq h.top, State.setFrames_setFrames, State.pushFrame, State.frames_setTop _ hr', State.setTop_of_frames _ hr', State.setFrames_setFrames, hr]
      rfl
    have hsame : U.sameButNew ({ U with heap := s₂.heap, slotsUsed := s₂.slotsUsed } : State) L mc ms := by
      refine ⟨?_, q2, q3, q4, q5, q6⟩
      obtain ⟨t, ht, -⟩ := State.frames_cons hr
      show ({ U with heap := s₂.heap, slotsUsed := s₂.slotsUsed } : State) = { U.setFrames U.frames with heap := s₂.heap, slotsUsed := s₂.slotsUsed }
      rw [State.setFrames_self ht]
    subst hg
    refine Or.inr ⟨q, ⟨(({ U with heap := s₂.heap, slotsUsed := s₂.slotsUsed } : State).setVm s₂.vm), Ls ++ L, c0 + mc, s0 + ms⟩,
      ⟨X.admits, X.cas, X.clock, X.frames, X.room, X.hears, X.method, X.code, (X.here.setHeapUsed s₂.heap s₂.slotsUsed).setVm hW'.alike, X.tail, State.WarmedH.trans X.warmed hW', X.limits, X.bytes, X.same.trans (hsame.setVm s.vm)⟩,
      ⟨g, mk, s₂, L, E, ce, rfl, rfl, hx, hce, hcv, hcl, rfl, hL, rfl, rfl⟩, ?_⟩
    show Steps p.tables e below _ (((({ U with heap := s₂.heap, slotsUsed := s₂.slotsUsed } : State).setVm s₂.vm).setTop g).pushFrame (.throwing q))
    rw [← hs₂]
    exact hsteps
end Payer
section Calls
variable {p : Program} {l : Launch} {e : Env} {R : Room} {s : State} {m : MethodId} {args : Array Value} {below : List Frame} {meth : Method} {c : Code} {T : State} {locs : List Loc} {cells slots : Nat}
theorem vx_callV (X : Stand p l e R s m args below meth c T locs cells slots) (hexec : p.tables.exec = Jvm.exec) {own C : String} {index : Nat} {y : MethodName} {bytes : ByteArray} {maxL : Nat} {ret : Option FieldType}
    (hown : s.vm.findClass own = some m.cls) (hlink : (Cond.methodLink own index y).before args s = true) (hinst : (Cond.instanceMethod y).before args s = true) (hsel : (Cond.selects C y y).before args s = true)
    (hcode : (Cond.code y bytes maxL ret).before args s = true) (hy : y.cls ≠ "java/lang/invoke/MethodHandle" ∧ y.cls ≠ "java/lang/invoke/VarHandle")
    {W9 : Nat} {Pre : Pt → Array Value → Prop} {Post : Pt → Array Value → Option Value → Pt → Prop} {PostX : Pt → Array Value → Addr → Pt → Prop} (hK : vx_Back l R p e below s args y 3 W9 Pre Post PostX)
    {b : Addr} {cellB : Cell} (hcell : T.heap[b]? = some cellB) (hobj : cellB.vm.isStatics = false) (hcls : s.vm.findClass C = some cellB.cls)
    {g : JFrame} (hg : g.method = m) (hsize : g.locals.size = c.maxLocals) {argsL rest : List Value} (hlen : ∀ sig, parseMethodDescriptor y.desc = some sig → argsL.length = sig.parameters.length)
    (hstack : g.stack = argsL.reverse ++ .ref b :: rest) (hW : 2 * g.monitorRoom + (rest.map fun v => v.category).sum ≤ W9) (hdg : decode c.code g.pc = .ok (.invokevirtual index, 3))
    (hpre : ∀ vm₁, s.WarmedH vm₁ → Pre ⟨T.setVm vm₁, locs, cells, slots⟩ (Value.ref b :: argsL).toArray) :
    (∃ (v : Option Value) (vm₁ : Vm) (B : Pt), s.WarmedH vm₁ ∧ Stand p l e R s m args below meth c B.U B.locs B.cells B.slots ∧ Post ⟨T.setVm vm₁, locs, cells, slots⟩ (Value.ref b :: argsL).toArray v B ∧
      ∀ target, Steps p.tables e below (B.U.setTop { g with pc := g.pc + 3, stack := v.toList ++ rest }) target → Steps p.tables e below (T.setTop g) target) ∨
    (∃ (q : Addr) (vm₁ : Vm) (B : Pt), s.WarmedH vm₁ ∧ Stand p l e R s m args below meth c B.U B.locs B.cells B.slots ∧ PostX ⟨T.setVm vm₁, locs, cells, slots⟩ (Value.ref b :: argsL).toArray q B ∧
      Steps p.tables e below (T.setTop g) ((B.U.setTop { g with stack := rest }).pushFrame (.throwing q))) := by
  obtain ⟨mk, methM, hnamed, hmethM, hstM, habM⟩ := Cond.instanceMethod_spec hinst
  obtain ⟨methM', cM, hmethM', -, -, -, -, -, -, hsigM⟩ := Cond.code_spec hnamed hcode
  cases hmethM.symm.trans hmethM'
  obtain ⟨c2, r2, m2, q1, q2, q3, q4, kP, hkP, hkPi⟩ := Cond.selects_spec hsel
  cases hcls.symm.trans q1
  cases (State.methodFound?_of_named hnamed hy).symm.trans q2
  cases hnamed.symm.trans q3
  have hselP : selectMethod e.platform s.vm cellB.cls mk = .method mk := by rw [Launch.admits_selectMethod X.admits]; exact q4
  obtain ⟨vm₁, X₁, hstep₁⟩ := X.invokevirtual hexec hown hlink hnamed hmethM hstM hkP hkPi hy (a := b) (cell := cellB) hcell
    (fun z h => by rw [h] at hobj; cases hobj) hselP hmethM habM hkP hkPi (g := g) hg (argsL := argsL) (rest := rest) (hlen _ hsigM) hstack hdg
  rcases hK m meth c ⟨T.setVm vm₁, locs, cells, slots⟩ { g with stack := rest } (.invokevirtual index) mk (Value.ref b :: argsL).toArray X₁ hg hsize hdg hW (X₁.named hnamed) (hpre vm₁ X₁.warmed) with ⟨v, B, X', hpost, hsteps⟩ | ⟨q, B, X', hpost, hsteps⟩
  · exact Or.inl ⟨v, vm₁, B, X₁.warmed, X', hpost, fun target h => hstep₁ _ fun acts => by rw [doInvoke_state]; exact hsteps.trans h⟩
  · exact Or.inr ⟨q, vm₁, B, X₁.warmed, X', hpost, hstep₁ _ fun acts => by rw [doInvoke_state]; exact hsteps⟩
theorem vx_callS (X : Stand p l e R s m args below meth c T locs cells slots) (hexec : p.tables.exec = Jvm.exec) {own : String} {index : Nat} {y : MethodName} {bytes : ByteArray} {maxL : Nat} {ret : Option FieldType}
    (hown : s.vm.findClass own = some m.cls) (hlink : (Cond.methodLink own index y).before args s = true) (hstat : (Cond.static y).before args s = true) (hinit : (Cond.initialized y.cls).before args s = true)
    (hcode : (Cond.code y bytes maxL ret).before args s = true) (hy : y.cls ≠ "java/lang/invoke/MethodHandle" ∧ y.cls ≠ "java/lang/invoke/VarHandle")
    {W9 : Nat} {Pre : Pt → Array Value → Prop} {Post : Pt → Array Value → Option Value → Pt → Prop} {PostX : Pt → Array Value → Addr → Pt → Prop} (hK : vx_Back l R p e below s args y 3 W9 Pre Post PostX)
    {g : JFrame} (hg : g.method = m) (hsize : g.locals.size = c.maxLocals) {argsL rest : List Value} (hlen : ∀ sig, parseMethodDescriptor y.desc = some sig → argsL.length = sig.parameters.length)
    (hstack : g.stack = argsL.reverse ++ rest) (hW : 2 * g.monitorRoom + (rest.map fun v => v.category).sum ≤ W9) (hdg : decode c.code g.pc = .ok (.invokestatic index, 3))
    (hpre : ∀ vm₁, s.WarmedH vm₁ → Pre ⟨T.setVm vm₁, locs, cells, slots⟩ argsL.toArray) :
    (∃ (v : Option Value) (vm₁ : Vm) (B : Pt), s.WarmedH vm₁ ∧ Stand p l e R s m args below meth c B.U B.locs B.cells B.slots ∧ Post ⟨T.setVm vm₁, locs, cells, slots⟩ argsL.toArray v B ∧
      ∀ target, Steps p.tables e below (B.U.setTop { g with pc := g.pc + 3, stack := v.toList ++ rest }) target → Steps p.tables e below (T.setTop g) target) ∨
    (∃ (q : Addr) (vm₁ : Vm) (B : Pt), s.WarmedH vm₁ ∧ Stand p l e R s m args below meth c B.U B.locs B.cells B.slots ∧ PostX ⟨T.setVm vm₁, locs, cells, slots⟩ argsL.toArray q B ∧
      Steps p.tables e below (T.setTop g) ((B.U.setTop { g with stack := rest }).pushFrame (.throwing q))) := by
  obtain ⟨mk, hnamed⟩ := Cond.code_named hcode
  obtain ⟨methM, cM, hmethM, -, -, -, -, -, -, hsigM⟩ := Cond.code_spec hnamed hcode
  have hstatic : methM.isStatic = true := Cond.static_spec hnamed hmethM hstat
  obtain ⟨kP, hkP, -⟩ := className_of_methodNamed hnamed
  have hinitP : kP.init = .initialized := Cond.initialized_spec (findClass_of_methodNamed hnamed) hkP hinit
  obtain ⟨vm₁, X₁, hstep₁⟩ := X.invokestatic hexec hown hlink hnamed hmethM hstatic hkP hinitP hy (g := g) hg (argsL := argsL) (rest := rest) (hlen _ hsigM) hstack hdg
  rcases hK m meth c ⟨T.setVm vm₁, locs, cells, slots⟩ { g with stack := rest } (.invokestatic index) mk argsL.toArray X₁ hg hsize hdg hW (X₁.named hnamed) (hpre vm₁ X₁.warmed) with ⟨v, B, X', hpost, hsteps⟩ | ⟨q, B, X', hpost, hsteps⟩
  · exact Or.inl ⟨v, vm₁, B, X₁.warmed, X', hpost, fun target h => hstep₁ _ fun acts => by rw [doInvoke_state]; exact hsteps.trans h⟩
  · exact Or.inr ⟨q, vm₁, B, X₁.warmed, X', hpost, hstep₁ _ fun acts => by rw [doInvoke_state]; exact hsteps⟩
end Calls
theorem vx_cls {s : State} {T : State} {vm₁ : Vm} {E : String} {k : ClassId} (hW : s.WarmedH vm₁) (h : (T.setVm vm₁).vm.findClass E = some k) : s.vm.findClass E = some k := by
  have h1 : vm₁.findClass E = some k := h
  rw [hW.alike.findClass] at h1
  exact h1
/-- the method's frame g, with q thrown over it -/
def vx_W (p : Program) (l : Launch) (e : Env) (R : Room) (s : State) (m : MethodId) (args : Array Value) (below : List Frame) (meth : Method) (c : Code) (H : Heap) (locs : List Loc) (cells slots : Nat) (Q : State → Prop) (g : JFrame) (q : Addr) : Prop :=
  ∀ T : State, T.heap = H → Stand p l e R s m args below meth c T locs cells slots → ∃ t, Steps p.tables e below ((T.setTop g).pushFrame (.throwing q)) t ∧ Q t
def vx_Run (p : Program) (l : Launch) (e : Env) (R : Room) (s : State) (m : MethodId) (args : Array Value) (below : List Frame) (meth : Method) (c : Code) (H : Heap) (locs : List Loc) (cells slots mc ms : Nat) (g : JFrame) (rest : List Value) (Qa : State → Outcome → State → Prop) (XC : String → State → State → Prop) (free : Addr → Prop) : Prop :=
  ∀ T : State, T.heap = H → Stand p l e R s m args below meth c T locs cells slots →
    (∃ (v : Option Value) (st₀ t T' : State) (L : List Loc), st₀.heap = H ∧ Stand p l e R s m args below meth c T' (locs ++ L) (cells + mc) (slots + ms) ∧ (∀ q ∈ L, free q.base) ∧ T'.heap = t.heap ∧ T'.vm = t.vm ∧ Qa st₀ (.returned v) t ∧
      Goes p e below T g T' { g with pc := g.pc + 3, stack := v.toList ++ rest }) ∨
    (∃ (q : Addr) (st₀ t T' : State) (L : List Loc) (E : String) (ce : Cell), st₀.heap = H ∧ Stand p l e R s m args below meth c T' (locs ++ L) (cells + mc) (slots + ms) ∧ (∀ z ∈ L, free z.base) ∧ T'.heap = t.heap ∧ T'.vm = t.vm ∧ XC E st₀ t ∧ t.heap[q]? = some ce ∧ ce.vm = .none ∧ s.vm.findClass E = some ce.cls ∧
      Steps p.tables e below (T.setTop g) ((T'.setTop { g with stack := rest }).pushFrame (.throwing q)))
def vx_X {S : Type} (px : S → Prop) (B : String → S → State → Prop) (A : Nat → Prop) : String → State → State → Prop := fun E st t => ∃ u : S, px u ∧ B E u t ∧ va_F A st t
section Runs
variable {p : Program} {l : Launch} {e : Env} {R : Room} {s : State} {m : MethodId} {args : Array Value} {below : List Frame} {meth : Method} {c : Code} {H : Heap} {locs : List Loc} {cells slots : Nat}
variable {y : MethodName} {bytes cc : ByteArray} {maxL nL mc ms n index : Nat} {ret : Option FieldType} {ws : List Cond} {rm : Room} {Pc : Array Value → State → Prop} {Qc : Array Value → State → Outcome → State → Prop} {XC : String → State → State → Prop} {free : Addr → Prop} {Ts : List Cond} {own C : String} {b : Addr} {As rest : List Value} {g : JFrame}
theorem vx_callBack (cb : CallB R s args own index y bytes maxL ret ws rm mc ms n) (hM : vx_Met l y ws rm Pc Qc XC mc ms free) (hbl : FrameBlind Pc) : vx_Back l R p e below s args y 3 8 (PreOf R mc ms Pc) (PostOf Qc mc ms free) (vx_Post XC mc ms free) := by
  obtain ⟨hrc, hrs, hfr, hlo, hws, hcw, -, hini, -⟩ := cb
  exact vx_back (bytes := bytes) (maxL := maxL) (ret := ret) hM hbl hrc hrs hfr hlo hws hcw (fun a' U hW => word_at hW (Or.inl (by first | rfl | simp [Cond.onTables, Cond.keeps, Cond.steady])) hini)
theorem vx_runV (S : CallFix p m c cc nL s args Ts own) (hM : vx_Met l y ws rm Pc Qc XC mc ms free) (cw : CallW R s args own C index y bytes maxL ret ws rm mc ms n) (hp : PreV s H C b Pc As)
    (hg : g.method = m) (hn : As.length = n) (hsize : g.locals.size = nL) (hstack : g.stack = As.reverse ++ .ref b :: rest) (hW : 2 * g.monitorRoom + (rest.map fun v => v.category).sum ≤ 8) (hdg : decode cc g.pc = .ok (.invokevirtual index, 3)) (hf : cells + mc ≤ R.cells ∧ slots + ms ≤ R.slots) :
    vx_Run p l e R s m args below meth c H locs cells slots mc ms g rest (Qc (Value.ref b :: As).toArray) XC free := by
  have hK : vx_Back l R p e below s args y 3 8 (PreOf R mc ms Pc) (PostOf Qc mc ms free) (vx_Post XC mc ms free) := vx_callBack cw.1 hM hp.1
  obtain ⟨⟨-, -, -, -, -, -, hcode, -, hy, hlen, hl⟩, hin, hse⟩ := cw
  obtain ⟨hx, hb, hml, ho, -⟩ := S
  obtain ⟨-, ⟨cellB, hcB, hoB, hclB⟩, hPc⟩ := hp
  intro T hT X
  rcases vx_callV X hx (C := C) (bytes := bytes) (maxL := maxL) (ret := ret) ho hl hin hse hcode hy hK (by rw [hT]; exact hcB) hoB hclB hg (hsize.trans hml.symm) (argsL := As) (rest := rest) (fun sig h => hn.trans (hlen sig h)) hstack hW (by rw [hb]; exact hdg)
    (fun vm₁ hW₁ => ⟨hf.1, hf.2, hPc (T.setVm vm₁) hT hW₁⟩) with ⟨v, vm₁, ⟨U', l2, c2, s2⟩, hW₁, X', ⟨g', mk, t, L, e1, e2, hq, h1, hL, h2, h3⟩, st⟩ | ⟨q, vm₁, ⟨U', l2, c2, s2⟩, hW₁, X', ⟨g', mk, t, L, E, ce, e1, e2, hq, hce, hcv, hcl, h1, hL, h2, h3⟩, st⟩
  · dsimp only [Pt.U, Pt.locs, Pt.cells, Pt.slots] at X' e1 e2 h1 h2 h3 st
    subst h1; subst h2; subst h3
    exact Or.inl ⟨v, (T.setVm vm₁).calling g' mk (Value.ref b :: As).toArray, t, U', L, hT, X', hL, e1, e2, hq, st⟩
  · dsimp only [Pt.U, Pt.locs, Pt.cells, Pt.slots] at X' e1 e2 h1 h2 h3 st hcl
    subst h1; subst h2; subst h3
    exact Or.inr ⟨q, (T.setVm vm₁).calling g' mk (Value.ref b :: As).toArray, t, U', L, E, ce, hT, X', hL, e1, e2, hq, hce, hcv, vx_cls hW₁ hcl, st⟩
theorem vx_runS (S : CallFix p m c cc nL s args Ts own) (hM : vx_Met l y ws rm Pc Qc XC mc ms free) (cw : CallB R s args own index y bytes maxL ret ws rm mc ms n ∧ (Cond.static y).before args s = true) (hp : PreS s H Pc As)
    (hg : g.method = m) (hn : As.length = n) (hsize : g.locals.size = nL) (hstack : g.stack = As.reverse ++ rest) (hW : 2 * g.monitorRoom + (rest.map fun v => v.category).sum ≤ 8) (hdg : decode cc g.pc = .ok (.invokestatic index, 3)) (hf : cells + mc ≤ R.cells ∧ slots + ms ≤ R.slots) :
    vx_Run p l e R s m args below meth c H locs cells slots mc ms g rest (Qc As.toArray) XC free := by
  have hK : vx_Back l R p e below s args y 3 8 (PreOf R mc ms Pc) (PostOf Qc mc ms free) (vx_Post XC mc ms free) := vx_callBack cw.1 hM hp.1
  obtain ⟨⟨-, -, -, -, -, -, hcode, hini, hy, hlen, hl⟩, hstt⟩ := cw
  obtain ⟨hx, hb, hml, ho, -⟩ := S
  intro T hT X
  rcases vx_callS X hx (bytes := bytes) (maxL := maxL) (ret := ret) ho hl hstt hini hcode hy hK hg (hsize.trans hml.symm) (argsL := As) (rest := rest) (fun sig h => hn.trans (hlen sig h)) hstack hW (by rw [hb]; exact hdg)
    (fun vm₁ hW₁ => ⟨hf.1, hf.2, hp.2 (T.setVm vm₁) hT hW₁⟩) with ⟨v, vm₁, ⟨U', l2, c2, s2⟩, hW₁, X', ⟨g', mk, t, L, e1, e2, hq, h1, hL, h2, h3⟩, st⟩ | ⟨q, vm₁, ⟨U', l2, c2, s2⟩, hW₁, X', ⟨g', mk, t, L, E, ce, e1, e2, hq, hce, hcv, hcl, h1, hL, h2, h3⟩, st⟩
  · dsimp only [Pt.U, Pt.locs, Pt.cells, Pt.slots] at X' e1 e2 h1 h2 h3 st
    subst h1; subst h2; subst h3
    exact Or.inl ⟨v, (T.setVm vm₁).calling g' mk As.toArray, t, U', L, hT, X', hL, e1, e2, hq, st⟩
  · dsimp only [Pt.U, Pt.locs, Pt.cells, Pt.slots] at X' e1 e2 h1 h2 h3 st hcl
    subst h1; subst h2; subst h3
    exact Or.inr ⟨q, (T.setVm vm₁).calling g' mk As.toArray, t, U', L, E, ce, hT, X', hL, e1, e2, hq, hce, hcv, vx_cls hW₁ hcl, st⟩
end Runs
section Rows
variable {p : Program} {l : Launch} {e : Env} {R : Room} {s : State} {m : MethodId} {args : Array Value} {below : List Frame} {meth : Method} {c : Code} {H : Heap} {locs : List Loc} {cells slots : Nat} {Q : State → Prop}
variable {mc ms : Nat} {free : Addr → Prop} {A0 A1 : Nat → Prop} {H0 : Heap} {a : Array Value} {pc : Nat} {ls : Array Slot} {st0 rest : List Value}
theorem vx_keep {st₀ t T' : State} {L : List Loc} (h0 : st₀.heap = H) (e1 : T'.heap = t.heap) (hS : va_S A0 H0 H locs) (hA : ∀ q, q < H.size → A1 q → A0 q) (hf : ∀ q, free q → A0 q) (hL : ∀ q ∈ L, free q.base) (hF : va_F A1 st₀ t) :
    H.size ≤ T'.heap.size ∧ (∀ q : Nat, q < H.size → ¬ A1 q → T'.heap[q]? = H[q]?) ∧ va_S A0 H0 T'.heap (locs ++ L) := by
  obtain ⟨hz, hk⟩ := hF
  rw [h0] at hz hk
  exact ⟨by rw [e1]; exact hz, fun q h1 h2 => by rw [e1]; exact hk q h1 h2,
    ⟨Nat.le_trans hS.1 (by rw [e1]; exact hz), fun q h1 h2 => by rw [e1, hk q (Nat.lt_of_lt_of_le h1 hS.1) (fun z => h2 (hA q (Nat.lt_of_lt_of_le h1 hS.1) z))]; exact hS.2.1 q h1 h2, fun q hq => by
      rcases List.mem_append.mp hq with h | h
      · exact hS.2.2 q h
      · exact hf _ (hL q h)⟩⟩
theorem vx_calli {S SX : Type} {post : Int32 → S → Prop} {px : SX → Prop} {B : S → State → Prop} {BX : String → SX → State → Prop} {AX : Nat → Prop} (hr : vx_Run p l e R s m args below meth c H locs cells slots mc ms (F0 m pc ls st0) rest (va_Qi post B A1 a) (vx_X px BX AX) free) (hS : va_S A0 H0 H locs) (hA : ∀ q, q < H.size → A1 q → A0 q) (hf : ∀ q, free q → A0 q) (hAX : ∀ q, q < H.size → AX q → A0 q)
    (kx : ∀ (E : String) (ce : Cell) (q9 : Addr) (u : SX) (t : State) (H1 : Heap) (locs1 : List Loc), t.heap = H1 → s.vm.Alike t.vm → px u → BX E u t → H.size ≤ H1.size → (∀ q : Nat, q < H.size → ¬ AX q → H1[q]? = H[q]?) → va_S A0 H0 H1 locs1 → H1[q9]? = some ce → ce.vm = .none → s.vm.findClass E = some ce.cls → vx_W p l e R s m args below meth c H1 locs1 (cells + mc) (slots + ms) Q (F0 m pc ls rest) q9)
    (kk : ∀ (r : Int32) (u : S) (t : State) (H1 : Heap) (locs1 : List Loc), t.heap = H1 → s.vm.Alike t.vm → post r u → B u t → H.size ≤ H1.size → (∀ q : Nat, q < H.size → ¬ A1 q → H1[q]? = H[q]?) → va_S A0 H0 H1 locs1 → W p l e R s m args below meth c H1 locs1 (cells + mc) (slots + ms) Q (F0 m (pc + 3) ls (.int r :: rest))) : W p l e R s m args below meth c H locs cells slots Q (F0 m pc ls st0) := by
  intro T hT X
  rcases hr T hT X with ⟨v, st₀, t, T', L, h0, X', hL, e1, e2, ⟨⟨r, u, hv, hp, hb⟩, hF⟩, st⟩ | ⟨q, st₀, t, T', L, E, ce, h0, X', hL, e1, e2, ⟨u, hp, hb, hF⟩, hce, hcv, hcl, st⟩
  · cases hv
    obtain ⟨k1, k2, k3⟩ := vx_keep h0 e1 hS hA hf hL hF
    obtain ⟨t2, a1, b1⟩ := kk r u t T'.heap (locs ++ L) e1.symm (by rw [← e2]; exact X'.warmed.alike) hp hb k1 k2 k3 T' rfl X'
    exact ⟨t2, st t2 a1, b1⟩
  · obtain ⟨k1, k2, k3⟩ := vx_keep h0 e1 hS hAX hf hL hF
    obtain ⟨t2, a1, b1⟩ := kx E ce q u t T'.heap (locs ++ L) e1.symm (by rw [← e2]; exact X'.warmed.alike) hp hb k1 k2 k3 (by rw [e1]; exact hce) hcv hcl T' rfl X'
    exact ⟨t2, st.trans a1, b1⟩
theorem vx_calll {S SX : Type} {post : Int64 → S → Prop} {px : SX → Prop} {B : S → State → Prop} {BX : String → SX → State → Prop} {AX : Nat → Prop} (hr : vx_Run p l e R s m args below meth c H locs cells slots mc ms (F0 m pc ls st0) rest (va_Ql post B A1 a) (vx_X px BX AX) free) (hS : va_S A0 H0 H locs) (hA : ∀ q, q < H.size → A1 q → A0 q) (hf : ∀ q, free q → A0 q) (hAX : ∀ q, q < H.size → AX q → A0 q)
    (kx : ∀ (E : String) (ce : Cell) (q9 : Addr) (u : SX) (t : State) (H1 : Heap) (locs1 : List Loc), t.heap = H1 → s.vm.Alike t.vm → px u → BX E u t → H.size ≤ H1.size → (∀ q : Nat, q < H.size → ¬ AX q → H1[q]? = H[q]?) → va_S A0 H0 H1 locs1 → H1[q9]? = some ce → ce.vm = .none → s.vm.findClass E = some ce.cls → vx_W p l e R s m args below meth c H1 locs1 (cells + mc) (slots + ms) Q (F0 m pc ls rest) q9)
    (kk : ∀ (r : Int64) (u : S) (t : State) (H1 : Heap) (locs1 : List Loc), t.heap = H1 → s.vm.Alike t.vm → post r u → B u t → H.size ≤ H1.size → (∀ q : Nat, q < H.size → ¬ A1 q → H1[q]? = H[q]?) → va_S A0 H0 H1 locs1 → W p l e R s m args below meth c H1 locs1 (cells + mc) (slots + ms) Q (F0 m (pc + 3) ls (.long r :: rest))) : W p l e R s m args below meth c H locs cells slots Q (F0 m pc ls st0) := by
  intro T hT X
  rcases hr T hT X with ⟨v, st₀, t, T', L, h0, X', hL, e1, e2, ⟨⟨r, u, hv, hp, hb⟩, hF⟩, st⟩ | ⟨q, st₀, t, T', L, E, ce, h0, X', hL, e1, e2, ⟨u, hp, hb, hF⟩, hce, hcv, hcl, st⟩
  · cases hv
    obtain ⟨k1, k2, k3⟩ := vx_keep h0 e1 hS hA hf hL hF
    obtain ⟨t2, a1, b1⟩ := kk r u t T'.heap (locs ++ L) e1.symm (by rw [← e2]; exact X'.warmed.alike) hp hb k1 k2 k3 T' rfl X'
    exact ⟨t2, st t2 a1, b1⟩
  · obtain ⟨k1, k2, k3⟩ := vx_keep h0 e1 hS hAX hf hL hF
    obtain ⟨t2, a1, b1⟩ := kx E ce q u t T'.heap (locs ++ L) e1.symm (by rw [← e2]; exact X'.warmed.alike) hp hb k1 k2 k3 (by rw [e1]; exact hce) hcv hcl T' rfl X'
    exact ⟨t2, st.trans a1, b1⟩
theorem vx_callf {S SX : Type} {post : UInt32 → S → Prop} {px : SX → Prop} {B : S → State → Prop} {BX : String → SX → State → Prop} {AX : Nat → Prop} (hr : vx_Run p l e R s m args below meth c H locs cells slots mc ms (F0 m pc ls st0) rest (va_Qf post B A1 a) (vx_X px BX AX) free) (hS : va_S A0 H0 H locs) (hA : ∀ q, q < H.size → A1 q → A0 q) (hf : ∀ q, free q → A0 q) (hAX : ∀ q, q < H.size → AX q → A0 q)
    (kx : ∀ (E : String) (ce : Cell) (q9 : Addr) (u : SX) (t : State) (H1 : Heap) (locs1 : List Loc), t.heap = H1 → s.vm.Alike t.vm → px u → BX E u t → H.size ≤ H1.size → (∀ q : Nat, q < H.size → ¬ AX q → H1[q]? = H[q]?) → va_S A0 H0 H1 locs1 → H1[q9]? = some ce → ce.vm = .none → s.vm.findClass E = some ce.cls → vx_W p l e R s m args below meth c H1 locs1 (cells + mc) (slots + ms) Q (F0 m pc ls rest) q9)
    (kk : ∀ (r : UInt32) (u : S) (t : State) (H1 : Heap) (locs1 : List Loc), t.heap = H1 → s.vm.Alike t.vm → post r u → B u t → H.size ≤ H1.size → (∀ q : Nat, q < H.size → ¬ A1 q → H1[q]? = H[q]?) → va_S A0 H0 H1 locs1 → W p l e R s m args below meth c H1 locs1 (cells + mc) (slots + ms) Q (F0 m (pc + 3) ls (.float r :: rest))) : W p l e R s m args below meth c H locs cells slots Q (F0 m pc ls st0) := by
  intro T hT X
  rcases hr T hT X with ⟨v, st₀, t, T', L, h0, X', hL, e1, e2, ⟨⟨r, u, hv, hp, hb⟩, hF⟩, st⟩ | ⟨q, st₀, t, T', L, E, ce, h0, X', hL, e1, e2, ⟨u, hp, hb, hF⟩, hce, hcv, hcl, st⟩
  · cases hv
    obtain ⟨k1, k2, k3⟩ := vx_keep h0 e1 hS hA hf hL hF
    obtain ⟨t2, a1, b1⟩ := kk r u t T'.heap (locs ++ L) e1.symm (by rw [← e2]; exact X'.warmed.alike) hp hb k1 k2 k3 T' rfl X'
    exact ⟨t2, st t2 a1, b1⟩
  · obtain ⟨k1, k2, k3⟩ := vx_keep h0 e1 hS hAX hf hL hF
    obtain ⟨t2, a1, b1⟩ := kx E ce q u t T'.heap (locs ++ L) e1.symm (by rw [← e2]; exact X'.warmed.alike) hp hb k1 k2 k3 (by rw [e1]; exact hce) hcv hcl T' rfl X'
    exact ⟨t2, st.trans a1, b1⟩
theorem vx_calld {S SX : Type} {post : UInt64 → S → Prop} {px : SX → Prop} {B : S → State → Prop} {BX : String → SX → State → Prop} {AX : Nat → Prop} (hr : vx_Run p l e R s m args below meth c H locs cells slots mc ms (F0 m pc ls st0) rest (va_Qd post B A1 a) (vx_X px BX AX) free) (hS : va_S A0 H0 H locs) (hA : ∀ q, q < H.size → A1 q → A0 q) (hf : ∀ q, free q → A0 q) (hAX : ∀ q, q < H.size → AX q → A0 q)
    (kx : ∀ (E : String) (ce : Cell) (q9 : Addr) (u : SX) (t : State) (H1 : Heap) (locs1 : List Loc), t.heap = H1 → s.vm.Alike t.vm → px u → BX E u t → H.size ≤ H1.size → (∀ q : Nat, q < H.size → ¬ AX q → H1[q]? = H[q]?) → va_S A0 H0 H1 locs1 → H1[q9]? = some ce → ce.vm = .none → s.vm.findClass E = some ce.cls → vx_W p l e R s m args below meth c H1 locs1 (cells + mc) (slots + ms) Q (F0 m pc ls rest) q9)
    (kk : ∀ (r : UInt64) (u : S) (t : State) (H1 : Heap) (locs1 : List Loc), t.heap = H1 → s.vm.Alike t.vm → post r u → B u t → H.size ≤ H1.size → (∀ q : Nat, q < H.size → ¬ A1 q → H1[q]? = H[q]?) → va_S A0 H0 H1 locs1 → W p l e R s m args below meth c H1 locs1 (cells + mc) (slots + ms) Q (F0 m (pc + 3) ls (.double r :: rest))) : W p l e R s m args below meth c H locs cells slots Q (F0 m pc ls st0) := by
  intro T hT X
  rcases hr T hT X with ⟨v, st₀, t, T', L, h0, X', hL, e1, e2, ⟨⟨r, u, hv, hp, hb⟩, hF⟩, st⟩ | ⟨q, st₀, t, T', L, E, ce, h0, X', hL, e1, e2, ⟨u, hp, hb, hF⟩, hce, hcv, hcl, st⟩
  · cases hv
    obtain ⟨k1, k2, k3⟩ := vx_keep h0 e1 hS hA hf hL hF
    obtain ⟨t2, a1, b1⟩ := kk r u t T'.heap (locs ++ L) e1.symm (by rw [← e2]; exact X'.warmed.alike) hp hb k1 k2 k3 T' rfl X'
    exact ⟨t2, st t2 a1, b1⟩
  · obtain ⟨k1, k2, k3⟩ := vx_keep h0 e1 hS hAX hf hL hF
    obtain ⟨t2, a1, b1⟩ := kx E ce q u t T'.heap (locs ++ L) e1.symm (by rw [← e2]; exact X'.warmed.alike) hp hb k1 k2 k3 (by rw [e1]; exact hce) hcv hcl T' rfl X'
    exact ⟨t2, st.trans a1, b1⟩
theorem vx_callv {S SX : Type} {post : S → Prop} {px : SX → Prop} {B : S → State → Prop} {BX : String → SX → State → Prop} {AX : Nat → Prop} (hr : vx_Run p l e R s m args below meth c H locs cells slots mc ms (F0 m pc ls st0) rest (va_Qv post B A1 a) (vx_X px BX AX) free) (hS : va_S A0 H0 H locs) (hA : ∀ q, q < H.size → A1 q → A0 q) (hf : ∀ q, free q → A0 q) (hAX : ∀ q, q < H.size → AX q → A0 q)
    (kx : ∀ (E : String) (ce : Cell) (q9 : Addr) (u : SX) (t : State) (H1 : Heap) (locs1 : List Loc), t.heap = H1 → s.vm.Alike t.vm → px u → BX E u t → H.size ≤ H1.size → (∀ q : Nat, q < H.size → ¬ AX q → H1[q]? = H[q]?) → va_S A0 H0 H1 locs1 → H1[q9]? = some ce → ce.vm = .none → s.vm.findClass E = some ce.cls → vx_W p l e R s m args below meth c H1 locs1 (cells + mc) (slots + ms) Q (F0 m pc ls rest) q9)
    (kk : ∀ (u : S) (t : State) (H1 : Heap) (locs1 : List Loc), t.heap = H1 → s.vm.Alike t.vm → post u → B u t → H.size ≤ H1.size → (∀ q : Nat, q < H.size → ¬ A1 q → H1[q]? = H[q]?) → va_S A0 H0 H1 locs1 → W p l e R s m args below meth c H1 locs1 (cells + mc) (slots + ms) Q (F0 m (pc + 3) ls (rest))) : W p l e R s m args below meth c H locs cells slots Q (F0 m pc ls st0) := by
  intro T hT X
  rcases hr T hT X with ⟨v, st₀, t, T', L, h0, X', hL, e1, e2, ⟨⟨u, hv, hp, hb⟩, hF⟩, st⟩ | ⟨q, st₀, t, T', L, E, ce, h0, X', hL, e1, e2, ⟨u, hp, hb, hF⟩, hce, hcv, hcl, st⟩
  · cases hv
    obtain ⟨k1, k2, k3⟩ := vx_keep h0 e1 hS hA hf hL hF
    obtain ⟨t2, a1, b1⟩ := kk u t T'.heap (locs ++ L) e1.symm (by rw [← e2]; exact X'.warmed.alike) hp hb k1 k2 k3 T' rfl X'
    exact ⟨t2, st t2 a1, b1⟩
  · obtain ⟨k1, k2, k3⟩ := vx_keep h0 e1 hS hAX hf hL hF
    obtain ⟨t2, a1, b1⟩ := kx E ce q u t T'.heap (locs ++ L) e1.symm (by rw [← e2]; exact X'.warmed.alike) hp hb k1 k2 k3 (by rw [e1]; exact hce) hcv hcl T' rfl X'
    exact ⟨t2, st.trans a1, b1⟩
/-- caught by the row x of this method's table; the rows ahead don't take it -/
theorem vx_catch {own name : String} {E : String} {ce : Cell} {q : Addr} (hown : s.vm.findClass own = some m.cls) (pre : List ExceptionTableEntry) (x : ExceptionTableEntry) (suf : List ExceptionTableEntry) (hsplit : c.exceptionTable.toList = pre ++ x :: suf)
    (hpass : ∀ z ∈ pre, covers z pc = false ∨ (z.catchType ≠ 0 ∧ ∃ nm : String, (Cond.classLink own z.catchType nm).before args s = true ∧ va_Nc E nm s)) (hx : covers x pc = true) (h0 : x.catchType ≠ 0)
    (hlink : (Cond.classLink own x.catchType name).before args s = true) (hcast : (Cond.castable E name).before args s = true) (hcell : H[q]? = some ce) (hv : ce.vm = .none) (hcl : s.vm.findClass E = some ce.cls)
    (kk : W p l e R s m args below meth c H locs cells slots Q (F0 m x.handlerPc ls [.ref q])) : vx_W p l e R s m args below meth c H locs cells slots Q (F0 m pc ls rest) q := by
  intro T hT X
  have hpl : e.platform.magicAccessors = ({} : Platform).magicAccessors := by rw [X.admits.platform]
  obtain ⟨c3, c4, hc3, hc4, hasg⟩ := Cond.castable_spec hcast
  cases Option.some.inj (hc3.symm.trans hcl)
  obtain ⟨c5, hc5, hcl5⟩ := Cond.classLink_spec hown hlink e.platform hpl
  cases Option.some.inj (hc4.symm.trans hc5)
  obtain ⟨vm', X', st⟩ := X.thenCaughtThrough q (g := F0 m pc ls rest) rfl (Steps.refl _) (by rw [hT]; exact hcell) (by rw [hv]; rfl) (by obtain ⟨k9, h9, -⟩ := Vm.findClass_spec hcl; exact ⟨k9, h9⟩) pre x suf hsplit
    (fun z hz => by
      rcases hpass z hz with h | ⟨hz0, nm, hl1, hn1⟩
      · exact Or.inl h
      · obtain ⟨c6, hc6, hcl6⟩ := Cond.classLink_spec hown hl1 e.platform hpl
        obtain ⟨a8, b8, h1, h2, h3⟩ := hn1
        cases Option.some.inj (h1.symm.trans hcl)
        cases Option.some.inj (h2.symm.trans hc6)
        exact Or.inr ⟨hz0, _, hcl6, h3⟩) hx (Or.inr ⟨h0, c4, hcl5, hasg⟩)
  obtain ⟨t, a1, b1⟩ := kk (T.setVm vm') hT X'
  exact ⟨t, st.trans a1, b1⟩
end Rows
section Ends
variable {p : Program} {l : Launch} {e : Env} {R : Room} {s : State} {m : MethodId} {args : Array Value} {below : List Frame} {meth : Method} {c : Code} {H : Heap} {locs : List Loc} {cells slots : Nat} {Q : State → Prop}
variable {mc ms : Nat} {free : Addr → Prop} {A0 A1 : Nat → Prop} {H0 : Heap} {a : Array Value} {ls : Array Slot} {st0 rest : List Value}
variable {Qc : Array Value → State → Outcome → State → Prop} {XC : String → State → State → Prop}
/-- what a body that may throw owes at its end -/
def vx_MQ (below : List Frame) (Qc : Array Value → State → Outcome → State → Prop) (XC : String → State → State → Prop) (a : Array Value) (s : State) (mc ms : Nat) (free : Addr → Prop) : State → Prop := fun t =>
  ∃ o, t.status = .running ∧ Ended t below o ∧ vx_Q Qc XC mc ms free a s o t
theorem vx_ret {g : JFrame} {mc ms : Nat} (k : W p l e R s m args below meth c H locs cells slots (MQ below Qc args s mc ms free) g) : W p l e R s m args below meth c H locs cells slots (vx_MQ below Qc XC args s mc ms free) g := by
  intro T hT X
  obtain ⟨t, a1, o, b1, b2, b3, b4⟩ := k T hT X
  exact ⟨t, a1, o, b1, b2, Or.inl ⟨b3, b4⟩⟩
/-- not caught here: it goes on to the caller -/
theorem vx_widen {g : JFrame} {q : Addr} {k n : Nat} (h1 : cells ≤ k) (h2 : slots ≤ n) (kk : vx_W p l e R s m args below meth c H locs k n Q g q) : vx_W p l e R s m args below meth c H locs cells slots Q g q := fun T hT X => kk T hT (stand_widen X h1 h2)
theorem vx_out {pc : Nat} {E : String} {ce : Cell} {q : Addr} {mc ms : Nat} (hout : ∀ x ∈ c.exceptionTable.toList, covers x pc = false) (hlocks : meth.locks = false) (hcell : H[q]? = some ce) (hv : ce.vm = .none) (hcl : s.vm.findClass E = some ce.cls)
    (hx : ∀ t : State, t.heap = H → s.vm.Alike t.vm → XC E s t) (hf : ∀ z ∈ locs, free z.base) (hc : cells ≤ mc) (hs : slots ≤ ms) :
    vx_W p l e R s m args below meth c H locs cells slots (vx_MQ below Qc XC args s mc ms free) (F0 m pc ls rest) q := by
  intro T hT X
  obtain ⟨st1, hrun, hend, hW, hsm⟩ := X.leaveThrown q (g := F0 m pc ls rest) rfl rfl rfl hout hlocks
  have hcell9 : (T.setFrames (.throwing q :: below)).heap[q]? = some ce := by
    show T.heap[q]? = some ce
    rw [hT]; exact hcell
  exact ⟨_, st1, .threw q, hrun, hend, Or.inr ⟨q, rfl, E, ce, locs, hx _ hT hW.alike, hcell9, hv, hcl, hW, hsm.mono hc hs, hf⟩⟩
theorem vx_frame {U : State} {k n : Nat} (h : s.sameButNew ({ U with vm := s.vm } : State) locs k n) : s.heap.size ≤ U.heap.size ∧ ∀ q : Nat, q < s.heap.size → (∀ z ∈ locs, z.base ≠ q) → U.heap[q]? = s.heap[q]? := by
  obtain ⟨-, h2, -, -, -, h6⟩ := h
  refine ⟨h2, fun q hq hz => ?_⟩
  obtain ⟨c9, e1, e2, e3, e4⟩ := h6 q _ (Array.getElem?_eq_getElem hq)
  have hs : c9.slots = (s.heap[q]).slots := Array.ext_getElem? fun i => e4 i fun hm => hz _ hm rfl
  have h9 : c9 = s.heap[q] := by
    rw [hs] at e2
    exact e2
  have e5 : U.heap[q]? = some c9 := e1
  rw [e5, h9, Array.getElem?_eq_getElem hq]
/-- the words of a throw but the four that speak of the heap -/
def vx_no (w : Cond) : Bool := decide (w ≠ .isRef (.static Bundle.tN "UNASSIGNED_STACK" Bundle.steD)) && decide (w ≠ .isRef (.static Bundle.tN "SUPPRESSED_SENTINEL" Bundle.listD)) && decide (w ≠ .laysStatic Bundle.tN "UNASSIGNED_STACK" Bundle.steD) && decide (w ≠ .laysStatic Bundle.tN "SUPPRESSED_SENTINEL" Bundle.listD)
def vx_at0 (own : String) (ic : Nat) (X : String) (names : List String) : List Cond := (Bundle.ownAtoms0 own ic X names).filter vx_no
def vx_atS (own : String) (ic : Nat) (X : String) (names : List String) : List Cond := (Bundle.ownAtoms own ic X names).filter vx_no
/-- a word that the tables alone decide, or a good one -/
def vx_ot (w : Cond) : Bool := w.onTables || goodWord w
theorem vx_ot_at {args a' : Array Value} {s U : State} {w : Cond} (hW : s.WarmedH U.vm) (hvm : s.vm = U.vm) (hg : vx_ot w = true) (h : w.before args s = true) : w.before a' U = true := by
  simp only [vx_ot, Bool.or_eq_true] at hg
  rcases hg with hg | hg
  · exact va_tabs hg hvm h
  · exact word_at hW (good_of_word hg) h
/-- a list's words: the good ones out of the method's own list, the others by premises of their own -/
theorem vx_hat {args : Array Value} {s : State} {L B : List Cond} (h1 : ∀ w ∈ L.filter goodWord, w.before args s = true) (h2 : ∀ w ∈ L.filter (fun w => !goodWord w), w ∈ B) (h3 : ∀ w ∈ B, w.before args s = true) : ∀ w ∈ L, w.before args s = true := by
  intro w hw
  by_cases g : goodWord w = true
  · exact h1 w (List.mem_filter.mpr ⟨hw, g⟩)
  · refine h3 w (h2 w (List.mem_filter.mpr ⟨hw, ?_⟩))
    show (!goodWord w) = true
    cases hgw : goodWord w
    · rfl
    · exact absurd hgw g
theorem vx_c {args : Array Value} {s : State} {w : Cond} {B : List Cond} (h : w.before args s = true) (t : ∀ w ∈ B, w.before args s = true) : ∀ w' ∈ w :: B, w'.before args s = true := fun w' h' => (List.mem_cons.mp h').elim (fun e => by rw [e]; exact h) (t w')
theorem vx_n {args : Array Value} {s : State} : ∀ w ∈ ([] : List Cond), w.before args s = true := fun _ h => nomatch h
theorem vx_own {args : Array Value} {s : State} {L : List Cond} (h1 : ∀ w ∈ L.filter vx_no, w.before args s = true)
    (hU : (Cond.isRef (.static Bundle.tN "UNASSIGNED_STACK" Bundle.steD)).before args s = true) (hN : (Cond.isRef (.static Bundle.tN "SUPPRESSED_SENTINEL" Bundle.listD)).before args s = true)
    (lU : (Cond.laysStatic Bundle.tN "UNASSIGNED_STACK" Bundle.steD).before args s = true) (lN : (Cond.laysStatic Bundle.tN "SUPPRESSED_SENTINEL" Bundle.listD).before args s = true) : ∀ w ∈ L, w.before args s = true := by
  intro w hw
  by_cases e1 : w = .isRef (.static Bundle.tN "UNASSIGNED_STACK" Bundle.steD)
  · rw [e1]; exact hU
  · by_cases e2 : w = .isRef (.static Bundle.tN "SUPPRESSED_SENTINEL" Bundle.listD)
    · rw [e2]; exact hN
    · by_cases e3 : w = .laysStatic Bundle.tN "UNASSIGNED_STACK" Bundle.steD
      · rw [e3]; exact lU
      · by_cases e4 : w = .laysStatic Bundle.tN "SUPPRESSED_SENTINEL" Bundle.listD
        · rw [e4]; exact lN
        · exact h1 w (List.mem_filter.mpr ⟨hw, by unfold vx_no; rw [decide_eq_true e1, decide_eq_true e2, decide_eq_true e3, decide_eq_true e4]; rfl⟩)
/-- where a static field lies, its class's statics cell in H -/
def vx_L (C n d : String) (A : Nat → Prop) (U : State) (H : Heap) : Prop := ∃ (c : ClassId) (k : Class) (i : Nat) (f : Field) (a : Nat) (cell : Cell), U.vm.findClass C = some c ∧ U.fieldFound? C n d = some (c, k, i, f) ∧ f.isStatic = true ∧ k.statics = some a ∧ H[a]? = some cell ∧ cell.vm.isStatics = true ∧ cell.cls = c ∧ f.slot < cell.slots.size ∧ k.staticTypes[f.slot]? = some f.type ∧ ¬ A a
theorem vx_L.moved {C n d : String} {A : Nat → Prop} {u U : State} {H : Heap} (hvm : u.vm.Alike U.vm) (h : vx_L C n d A u H) : vx_L C n d A U H := by
  obtain ⟨c, k, i, f, a, cell, h1, h2, h3, h4, h5, h6, h7, h8, h9, h10⟩ := h
  obtain ⟨k', hi', he⟩ := State.fieldFound?_setVm hvm h2
  exact ⟨c, k', i, f, a, cell, by rw [hvm.findClass]; exact h1, hi', h3, by rw [he]; exact h4, h5, h6, h7, h8, by rw [he]; exact h9, h10⟩
theorem vx_L.kept {C n d : String} {A : Nat → Prop} {U : State} {H H1 : Heap} (h : vx_L C n d A U H) (hq : ∀ a : Nat, a < H.size → ¬ A a → H1[a]? = H[a]?) : vx_L C n d A U H1 := by
  obtain ⟨c, k, i, f, a, cell, h1, h2, h3, h4, h5, h6, h7, h8, h9, h10⟩ := h
  exact ⟨c, k, i, f, a, cell, h1, h2, h3, h4, by rw [hq a (Array.getElem?_eq_some_iff.mp h5).1 h10]; exact h5, h6, h7, h8, h9, h10⟩
theorem vx_L.narrow {C n d : String} {A B : Nat → Prop} {U : State} {H : Heap} (h : vx_L C n d A U H) (hAB : ∀ q, B q → A q) : vx_L C n d B U H := by
  obtain ⟨c, k, i, f, a, cell, h1, h2, h3, h4, h5, h6, h7, h8, h9, h10⟩ := h
  exact ⟨c, k, i, f, a, cell, h1, h2, h3, h4, h5, h6, h7, h8, h9, fun z => h10 (hAB _ z)⟩
theorem vx_L.word {C n d : String} {A : Nat → Prop} {s : State} {args : Array Value} (h : vx_L C n d A s s.heap) : (Cond.laysStatic C n d).before args s = true := by
  obtain ⟨c, k, i, f, a, cell, h1, h2, h3, h4, h5, h6, h7, h8, h9, -⟩ := h
  show (Cond.laysStatic C n d).holds args s none s [] = true
  exact Cond.laysStatic_of h1 h2 h3 h4 h5 h6 h7 h8 h9
/-- .. and what it holds: null or some reference -/
def vx_Zq (C n d : String) (A : Nat → Prop) (U : State) (H : Heap) : Prop := va_Zq C n d A U H ∧ vx_L C n d A U H
theorem vx_Zq.moved {C n d : String} {A : Nat → Prop} {u U : State} {H : Heap} (hvm : u.vm.Alike U.vm) (h : vx_Zq C n d A u H) : vx_Zq C n d A U H := ⟨va_Zq.moved hvm h.1, vx_L.moved hvm h.2⟩
theorem vx_Zq.kept {C n d : String} {A : Nat → Prop} {U : State} {H H1 : Heap} (h : vx_Zq C n d A U H) (hq : ∀ a : Nat, a < H.size → ¬ A a → H1[a]? = H[a]?) : vx_Zq C n d A U H1 := ⟨va_Zq.kept h.1 hq, vx_L.kept h.2 hq⟩
theorem vx_Zq.narrow {C n d : String} {A B : Nat → Prop} {U : State} {H : Heap} (h : vx_Zq C n d A U H) (hAB : ∀ q, B q → A q) : vx_Zq C n d B U H := ⟨va_Zq.narrow h.1 hAB, vx_L.narrow h.2 hAB⟩
theorem vx_Zqof {args : Array Value} {s : State} {C n d : String} {A : Nat → Prop} (hl : (Cond.laysStatic C n d).before args s = true) (hini : (Cond.initialized C).before args s = true) (h : (Cond.isRef (.static C n d)).before args s = true) (hA : ∀ a : Nat, a < s.heap.size → ¬ A a) : vx_Zq C n d A s s.heap := by
  refine ⟨va_Zqof hl hini h hA, ?_⟩
  obtain ⟨c, k, i, f, a, cell, h1, h2, h3, h4, h5, h6, h7, h8, h9⟩ := Cond.laysStatic_spec hl
  exact ⟨c, k, i, f, a, cell, h1, h2, h3, h4, h5, h6, h7, h8, h9, hA a (Array.getElem?_eq_some_iff.mp h5).1⟩
theorem vx_isRef {C n d : String} {v : Value} {A : Nat → Prop} {s : State} {args : Array Value} (h : va_Z C n d v A s s.heap) (hv : v.isRef = true) : (Cond.isRef (.static C n d)).before args s = true := by
  obtain ⟨cf, kf, fi, f, a, cell, h1, h2, h3, h4, h5, h6, h7, -⟩ := h
  have he : (Term.static C n d).eval args s none [] s = some v := by
    simp [Term.eval, State.fieldNamed?, h1, h2, h4, h5, h6, h7]
  simp only [Cond.before, Cond.holds, Cond.value, he]
  cases v <;> simp_all [Value.isRef]
theorem vx_isRefq {C n d : String} {A : Nat → Prop} {s : State} {args : Array Value} (h : va_Zq C n d A s s.heap) : (Cond.isRef (.static C n d)).before args s = true := by
  rcases h with h | ⟨t, h⟩
  · exact vx_isRef h rfl
  · exact vx_isRef h rfl
/-- the same frame, seen from here: as if the method were called anew in this heap -/
theorem vx_rebase {T : State} (X : Stand p l e R s m args below meth c T locs cells slots) {R' : Room} (hf : R'.frames ≤ R.frames) (hl : R'.locals ≤ R.locals) (hc : cells + R'.cells ≤ R.cells) (hs : slots + R'.slots ≤ R.slots) :
    Stand p l e R' ((T.setVm s.vm).setFrames (.invoking m args :: below)) m args below meth c T [] 0 0 := by
  have htop : (T.setVm s.vm).topJava?.isSome := X.here.top
  have hF : ((T.setVm s.vm).setFrames (.invoking m args :: below)).frames = .invoking m args :: below := State.frames_setFrames _ (State.cur_lt_of_top htop)
  obtain ⟨g₀, hg0⟩ := Option.isSome_iff_exists.mp htop
  obtain ⟨r, hr⟩ := State.topJava?_eq_some.mp hg0
  have hl9 : e.platform.stackLimits (T.setVm s.vm).me = e.platform.stackLimits s.me := X.limits
  have hb9 : (T.setVm s.vm).me.stackBytes = s.me.stackBytes := X.bytes
  refine ⟨X.admits, X.cas, X.clock, hF, ?_, X.hears, X.method, X.code, X.here, X.tail, X.warmed, ?_, ?_, ?_⟩
  · have h := X.room
    have hU : ((T.setVm s.vm).setFrames (.invoking m args :: below)).localsInUse = s.localsInUse := by
      rw [State.localsInUse_invoking hF (meth := meth) (c := c) X.method X.code, State.localsInUse_invoking X.frames X.method X.code]
    simp only [State.hasRoom, Bool.and_eq_true, decide_eq_true_eq] at h ⊢
    obtain ⟨⟨⟨⟨h1, h2, h3, h4, h5, h6⟩, h7⟩, h8⟩, h9⟩ := h
    rw [X.frames, List.length_cons] at h2 h3
    have q1 := X.heapSize
    have q2 := X.used
    simp only [hF, hU, List.length_cons, State.stackLimits_setFrames, State.stackBytes_setFrames, hl9, hb9]
    refine ⟨⟨⟨⟨by omega, by omega, by omega, by omega, by omega, h6⟩, ?_⟩, ?_⟩, X.book⟩
    · show T.heap.size + R'.cells ≤ e.platform.maxCells
      omega
    · show T.slotsUsed + R'.slots ≤ e.platform.maxSlots
      omega
  · rw [State.stackLimits_setFrames]; rfl
  · rw [State.stackBytes_setFrames]; rfl
  · refine ⟨?_, Nat.le_refl _, Nat.le_refl _, ?_, ?_, fun a c9 h9 => ⟨c9, h9, rfl, rfl, fun _ _ => rfl⟩⟩
    · obtain ⟨t, ht, -⟩ := State.frames_cons hr
      show T.setVm s.vm = { ((T.setVm s.vm).setFrames (.invoking m args :: below)).setFrames (T.setVm s.vm).frames with heap := T.heap, slotsUsed := T.slotsUsed }
      rw [State.setFrames_setFrames, State.setFrames_self ht]
      rfl
    · show T.slotsUsed = T.slotsUsed + ((T.heap.toList.drop T.heap.size).map (·.slots.size)).sum
      rw [List.drop_eq_nil_of_le (Nat.le_of_eq Array.length_toList)]
      rfl
    · show ((T.heap.toList.drop T.heap.size).map (·.slots.size)).sum ≤ 0
      rw [List.drop_eq_nil_of_le (Nat.le_of_eq Array.length_toList)]
      exact Nat.le_refl _
/-- 'throw new E()': new; dup; invokespecial; athrow -/
theorem vx_throw0 {cc : ByteArray} {pc : Nat} (hexec : p.tables.exec = Jvm.exec) (hb : c.code = cc) (hl : l.stackTraces = false) {own cls : String} {names : List String} {ik ic mc ms : Nat} {A : Nat → Prop}
    (hown : s.vm.findClass own = some m.cls) (hcls : Bundle.fit cls = true) (hnames : ∀ n ∈ names, Bundle.fit n = true)
    (hk : (Cond.classLink own ik cls).before args s = true) (hini : (Cond.initialized cls).before args s = true) (hat : ∀ w ∈ vx_at0 own ic cls names, w.before args s = true)
    (hgood : ∀ w ∈ Cond.classLink own ik cls :: Cond.initialized cls :: vx_at0 own ic cls names, vx_ot w = true)
    (hU : vx_Zq Bundle.tN "UNASSIGNED_STACK" Bundle.steD A s s.heap) (hN : vx_Zq Bundle.tN "SUPPRESSED_SENTINEL" Bundle.listD A s s.heap) (hS : va_S A s.heap H locs) (hsize : ls.size = c.maxLocals)
    (d0 : decode cc pc = .ok (.new ik, 3)) (d3 : decode cc (pc + 3) = .ok (.dup, 1)) (d4 : decode cc (pc + 4) = .ok (.invokespecial ic, 3)) (d7 : decode cc (pc + 7) = .ok (.athrow, 1))
    (hout : ∀ x ∈ c.exceptionTable.toList, covers x (pc + 7) = false)
    (hRframes : names.length + 3 < R.frames) (hRlocals : (rest.map fun v => v.category).sum + (13 * (names.length + 1) + 42) ≤ R.locals) (hRcells : cells + 1 ≤ R.cells) (hRslots : slots + 6 ≤ R.slots) (hlocks : meth.locks = false)
    (hx : ∀ t : State, s.vm.Alike t.vm → H.size ≤ t.heap.size → (∀ q : Nat, q < H.size → t.heap[q]? = H[q]?) → XC cls s t)
    (hf : ∀ z ∈ locs, free z.base) (hc : cells + 1 ≤ mc) (hs : slots + 6 ≤ ms) :
    W p l e R s m args below meth c H locs cells slots (vx_MQ below Qc XC args s mc ms free) (F0 m pc ls rest) := by
  intro T hT X
  have htr : e.platform.stackTraces = false := (show e.platform.stackTraces = l.stackTraces by rw [X.admits.platform]).trans hl
  have Y := vx_rebase X (R' := { frames := R.frames, locals := R.locals, cells := 1, slots := 6 }) (Nat.le_refl _) (Nat.le_refl _) hRcells hRslots
  obtain ⟨s', hA⟩ : ∃ z, z = (T.setVm s.vm).setFrames (.invoking m args :: below) := ⟨_, rfl⟩
  rw [← hA] at Y
  have hvm : s'.vm = s.vm := by rw [hA]; rfl
  have hhp : s'.heap = H := by rw [hA]; exact hT
  have hW0 : s.WarmedH s'.vm := by rw [hvm]; exact State.WarmedH.refl s
  have hat' : ∀ w ∈ vx_at0 own ic cls names, w.before args s' = true := fun w hw => vx_ot_at hW0 hvm.symm (hgood w (List.mem_cons_of_mem _ (List.mem_cons_of_mem _ hw))) (hat w hw)
  have hk' : (Cond.classLink own ik cls).before args s' = true := vx_ot_at hW0 hvm.symm (hgood _ List.mem_cons_self) hk
  have hini' : (Cond.initialized cls).before args s' = true := vx_ot_at hW0 hvm.symm (hgood _ (List.mem_cons_of_mem _ List.mem_cons_self)) hini
  have hU' : vx_Zq Bundle.tN "UNASSIGNED_STACK" Bundle.steD A s' s'.heap := by rw [hhp]; exact vx_Zq.moved hW0.alike (hU.kept hS.2.1)
  have hN' : vx_Zq Bundle.tN "SUPPRESSED_SENTINEL" Bundle.listD A s' s'.heap := by rw [hhp]; exact vx_Zq.moved hW0.alike (hN.kept hS.2.1)
  have h : ∀ w ∈ Bundle.ownAtoms0 own ic cls names, w.before args s' = true := vx_own hat' (vx_isRefq hU'.1) (vx_isRefq hN'.1) hU'.2.word hN'.2.word
  have hown' : s'.vm.findClass own = some m.cls := by rw [hvm]; exact hown
  have hins : (Cond.instantiable cls 6).before args s' = true := h _ (by simp [Bundle.ownAtoms0])
  obtain ⟨vm₁, cX, kX, hfX, hkX, -, -, X₁, st1⟩ := Y.newCold hexec (own := own) (C := cls) (index := ik) (n := 6) hown' hk' hins hini'
    (g := F0 m pc ls rest) rfl (by rw [hb]; exact d0) (Nat.le_refl _) (Nat.le_refl _)
  generalize hT1 : (T.setVm vm₁).pushCell { cls := cX, slots := kX.instanceTypes.map defaultValue, vm := .none } = T1 at X₁ st1
  have hcat : (Value.ref T.heap.size).category = 1 := rfl
  have hcellA : T1.heap[T.heap.size]? = some (freshCell cX kX) := by rw [← hT1]; exact State.heap_pushCell_size _ _
  have d3' : decode c.code (pc + 3) = .ok (.dup, 1) := by rw [hb]; exact d3
  obtain ⟨U, hsteps, hrun, hend, hW, hsame, ce, hce, hO⟩ := X₁.ctorThrow0 hexec htr (own := own) (cls := cls) (names := names) (ic := ic) hown' hcls hnames h (fun x hx => nomatch hx) hfX hkX hcellA (by rw [hhp, hT]; exact Nat.le_refl _)
    (g := { method := m, pc := pc + 4, locals := ls, stack := .ref T.heap.size :: .ref T.heap.size :: rest, locked := none }) rfl hsize rfl rfl (rest := rest) rfl
    (by rw [hb]; exact d4) (by rw [hb]; exact d7) hout hRframes (by simp only [List.map_cons, List.sum_cons, hcat]; omega) hlocks
  obtain ⟨f1, f2⟩ := vx_frame hsame
  rw [hhp] at f1 f2
  have hWs : s.WarmedH U.vm := State.WarmedH.trans hW0 hW
  have hcl : s.vm.findClass cls = some ce.cls := by
    have h9 := hO.cls
    rw [hvm] at h9
    exact h9
  have hall : s.sameButNew ({ U with vm := s.vm } : State) locs mc ms := by
    subst hA
    obtain ⟨e1, e2⟩ := hsame
    rw [State.setFrames_setFrames] at e1
    have h2 : (T.setVm s.vm).sameButNew ({ U with vm := s.vm } : State) [] (0 + 1) (0 + 6) := ⟨e1, e2⟩
    have h3 := X.same.trans h2
    rw [List.append_nil] at h3
    exact h3.mono hc hs
  refine ⟨U, ?_, .threw T.heap.size, hrun, hend, Or.inr ⟨T.heap.size, rfl, cls, ce, locs, hx U hWs.alike f1 (fun q hq => f2 q hq (fun z hz => nomatch hz)), hce, hO.vm, hcl, hWs, hall, hf⟩⟩
  refine st1 _ ?_
  show Steps p.tables e below (T1.setTop { method := m, pc := pc + 3, locals := ls, stack := .ref T.heap.size :: rest, locked := none }) _
  jvm_step X₁.here [X₁.here.top, hexec, d3', Value.category]
  exact hsteps
/-- 'throw new E("text")': new; dup; ldc; invokespecial; athrow -/
theorem vx_throwS {cc : ByteArray} {pc : Nat} (hexec : p.tables.exec = Jvm.exec) (hb : c.code = cc) (hl : l.stackTraces = false) {own cls text : String} {names : List String} {ik is ic mc ms sa : Nat} {A : Nat → Prop}
    (hown : s.vm.findClass own = some m.cls) (hcls : Bundle.fit cls = true) (hnames : ∀ n ∈ names, Bundle.fit n = true)
    (hk : (Cond.classLink own ik cls).before args s = true) (hini : (Cond.initialized cls).before args s = true) (hstr : vk_R own is text sa s) (hat : ∀ w ∈ vx_atS own ic cls names, w.before args s = true)
    (hgood : ∀ w ∈ Cond.classLink own ik cls :: Cond.initialized cls :: vx_atS own ic cls names, vx_ot w = true)
    (hU : vx_Zq Bundle.tN "UNASSIGNED_STACK" Bundle.steD A s s.heap) (hN : vx_Zq Bundle.tN "SUPPRESSED_SENTINEL" Bundle.listD A s s.heap) (hS : va_S A s.heap H locs) (hsize : ls.size = c.maxLocals)
    (d0 : decode cc pc = .ok (.new ik, 3)) (d3 : decode cc (pc + 3) = .ok (.dup, 1)) (d4 : decode cc (pc + 4) = .ok (.ldc is, 2)) (d6 : decode cc (pc + 6) = .ok (.invokespecial ic, 3)) (d9 : decode cc (pc + 9) = .ok (.athrow, 1))
    (hout : ∀ x ∈ c.exceptionTable.toList, covers x (pc + 9) = false)
    (hRframes : names.length + 3 < R.frames) (hRlocals : (rest.map fun v => v.category).sum + (13 * (names.length + 1) + 43) ≤ R.locals) (hRcells : cells + 1 ≤ R.cells) (hRslots : slots + 6 ≤ R.slots) (hlocks : meth.locks = false)
    (hx : ∀ t : State, s.vm.Alike t.vm → H.size ≤ t.heap.size → (∀ q : Nat, q < H.size → t.heap[q]? = H[q]?) → XC cls s t)
    (hf : ∀ z ∈ locs, free z.base) (hc : cells + 1 ≤ mc) (hs : slots + 6 ≤ ms) :
    W p l e R s m args below meth c H locs cells slots (vx_MQ below Qc XC args s mc ms free) (F0 m pc ls rest) := by
  intro T hT X
  have htr : e.platform.stackTraces = false := (show e.platform.stackTraces = l.stackTraces by rw [X.admits.platform]).trans hl
  have Y := vx_rebase X (R' := { frames := R.frames, locals := R.locals, cells := 1, slots := 6 }) (Nat.le_refl _) (Nat.le_refl _) hRcells hRslots
  obtain ⟨s', hA⟩ : ∃ z, z = (T.setVm s.vm).setFrames (.invoking m args :: below) := ⟨_, rfl⟩
  rw [← hA] at Y
  have hvm : s'.vm = s.vm := by rw [hA]; rfl
  have hhp : s'.heap = H := by rw [hA]; exact hT
  have hW0 : s.WarmedH s'.vm := by rw [hvm]; exact State.WarmedH.refl s
  have hat' : ∀ w ∈ vx_atS own ic cls names, w.before args s' = true := fun w hw => vx_ot_at hW0 hvm.symm (hgood w (List.mem_cons_of_mem _ (List.mem_cons_of_mem _ hw))) (hat w hw)
  have hk' : (Cond.classLink own ik cls).before args s' = true := vx_ot_at hW0 hvm.symm (hgood _ List.mem_cons_self) hk
  have hini' : (Cond.initialized cls).before args s' = true := vx_ot_at hW0 hvm.symm (hgood _ (List.mem_cons_of_mem _ List.mem_cons_self)) hini
  have hU' : vx_Zq Bundle.tN "UNASSIGNED_STACK" Bundle.steD A s' s'.heap := by rw [hhp]; exact vx_Zq.moved hW0.alike (hU.kept hS.2.1)
  have hN' : vx_Zq Bundle.tN "SUPPRESSED_SENTINEL" Bundle.listD A s' s'.heap := by rw [hhp]; exact vx_Zq.moved hW0.alike (hN.kept hS.2.1)
  have h : ∀ w ∈ Bundle.ownAtoms own ic cls names, w.before args s' = true := vx_own hat' (vx_isRefq hU'.1) (vx_isRefq hN'.1) hU'.2.word hN'.2.word
  have hown' : s'.vm.findClass own = some m.cls := by rw [hvm]; exact hown
  have hins : (Cond.instantiable cls 6).before args s' = true := h _ (by simp [Bundle.ownAtoms])
  obtain ⟨vm₁, cX, kX, hfX, hkX, -, -, X₁, st1⟩ := Y.newCold hexec (own := own) (C := cls) (index := ik) (n := 6) hown' hk' hins hini'
    (g := F0 m pc ls rest) rfl (by rw [hb]; exact d0) (Nat.le_refl _) (Nat.le_refl _)
  generalize hT1 : (T.setVm vm₁).pushCell { cls := cX, slots := kX.instanceTypes.map defaultValue, vm := .none } = T1 at X₁ st1
  have hcat : (Value.ref T.heap.size).category = 1 := rfl
  have hcellA : T1.heap[T.heap.size]? = some (freshCell cX kX) := by rw [← hT1]; exact State.heap_pushCell_size _ _
  have d3' : decode c.code (pc + 3) = .ok (.dup, 1) := by rw [hb]; exact d3
  have d4' : decode c.code (pc + 4) = .ok (.ldc is, 2) := by rw [hb]; exact d4
  have hstr' : vk_R own is text sa s' := vk_R.warm hW0 hstr
  obtain ⟨U, hsteps, hrun, hend, hW, hsame, ce, hce, hO⟩ := X₁.ctorThrowS hexec htr (own := own) (cls := cls) (names := names) (ic := ic) hown' hcls hnames h (fun x hx => nomatch hx) hfX hkX hcellA (by rw [hhp, hT]; exact Nat.le_refl _) (msg := .ref sa) rfl
    (g := { method := m, pc := pc + 6, locals := ls, stack := .ref sa :: .ref T.heap.size :: .ref T.heap.size :: rest, locked := none }) rfl hsize rfl rfl (rest := rest) rfl
    (by rw [hb]; exact d6) (by rw [hb]; exact d9) hout hRframes (by simp only [List.map_cons, List.sum_cons, hcat]; omega) hlocks
  obtain ⟨f1, f2⟩ := vx_frame hsame
  rw [hhp] at f1 f2
  have hWs : s.WarmedH U.vm := State.WarmedH.trans hW0 hW
  have hcl : s.vm.findClass cls = some ce.cls := by
    have h9 := hO.cls
    rw [hvm] at h9
    exact h9
  have hall : s.sameButNew ({ U with vm := s.vm } : State) locs mc ms := by
    subst hA
    obtain ⟨e1, e2⟩ := hsame
    rw [State.setFrames_setFrames] at e1
    have h2 : (T.setVm s.vm).sameButNew ({ U with vm := s.vm } : State) [] (0 + 1) (0 + 6) := ⟨e1, e2⟩
    have h3 := X.same.trans h2
    rw [List.append_nil] at h3
    exact h3.mono hc hs
  refine ⟨U, ?_, .threw T.heap.size, hrun, hend, Or.inr ⟨T.heap.size, rfl, cls, ce, locs, hx U hWs.alike f1 (fun q hq => f2 q hq (fun z hz => nomatch hz)), hce, hO.vm, hcl, hWs, hall, hf⟩⟩
  refine st1 _ ?_
  show Steps p.tables e below (T1.setTop { method := m, pc := pc + 3, locals := ls, stack := .ref T.heap.size :: rest, locked := none }) _
  jvm_step X₁.here [X₁.here.top, hexec, d3', Value.category]
  exact X₁.ldcString hexec (own := own) (text := text) (index := is) (a := sa) hown' hstr'.1 hstr'.2
    (g := { method := m, pc := pc + 4, locals := ls, stack := .ref T.heap.size :: .ref T.heap.size :: rest, locked := none }) rfl d4' _ hsteps
/-- 'throw new E("text")', the text by a wide index -/
theorem vx_throwSW {cc : ByteArray} {pc : Nat} (hexec : p.tables.exec = Jvm.exec) (hb : c.code = cc) (hl : l.stackTraces = false) {own cls text : String} {names : List String} {ik is ic mc ms sa : Nat} {A : Nat → Prop}
    (hown : s.vm.findClass own = some m.cls) (hcls : Bundle.fit cls = true) (hnames : ∀ n ∈ names, Bundle.fit n = true)
    (hk : (Cond.classLink own ik cls).before args s = true) (hini : (Cond.initialized cls).before args s = true) (hstr : vk_R own is text sa s) (hat : ∀ w ∈ vx_atS own ic cls names, w.before args s = true)
    (hgood : ∀ w ∈ Cond.classLink own ik cls :: Cond.initialized cls :: vx_atS own ic cls names, vx_ot w = true)
    (hU : vx_Zq Bundle.tN "UNASSIGNED_STACK" Bundle.steD A s s.heap) (hN : vx_Zq Bundle.tN "SUPPRESSED_SENTINEL" Bundle.listD A s s.heap) (hS : va_S A s.heap H locs) (hsize : ls.size = c.maxLocals)
    (d0 : decode cc pc = .ok (.new ik, 3)) (d3 : decode cc (pc + 3) = .ok (.dup, 1)) (d4 : decode cc (pc + 4) = .ok (.ldc_w is, 3)) (d7 : decode cc (pc + 7) = .ok (.invokespecial ic, 3)) (d10 : decode cc (pc + 10) = .ok (.athrow, 1))
    (hout : ∀ x ∈ c.exceptionTable.toList, covers x (pc + 10) = false)
    (hRframes : names.length + 3 < R.frames) (hRlocals : (rest.map fun v => v.category).sum + (13 * (names.length + 1) + 43) ≤ R.locals) (hRcells : cells + 1 ≤ R.cells) (hRslots : slots + 6 ≤ R.slots) (hlocks : meth.locks = false)
    (hx : ∀ t : State, s.vm.Alike t.vm → H.size ≤ t.heap.size → (∀ q : Nat, q < H.size → t.heap[q]? = H[q]?) → XC cls s t)
    (hf : ∀ z ∈ locs, free z.base) (hc : cells + 1 ≤ mc) (hs : slots + 6 ≤ ms) :
    W p l e R s m args below meth c H locs cells slots (vx_MQ below Qc XC args s mc ms free) (F0 m pc ls rest) := by
  intro T hT X
  have htr : e.platform.stackTraces = false := (show e.platform.stackTraces = l.stackTraces by rw [X.admits.platform]).trans hl
  have Y := vx_rebase X (R' := { frames := R.frames, locals := R.locals, cells := 1, slots := 6 }) (Nat.le_refl _) (Nat.le_refl _) hRcells hRslots
  obtain ⟨s', hA⟩ : ∃ z, z = (T.setVm s.vm).setFrames (.invoking m args :: below) := ⟨_, rfl⟩
  rw [← hA] at Y
  have hvm : s'.vm = s.vm := by rw [hA]; rfl
  have hhp : s'.heap = H := by rw [hA]; exact hT
  have hW0 : s.WarmedH s'.vm := by rw [hvm]; exact State.WarmedH.refl s
  have hat' : ∀ w ∈ vx_atS own ic cls names, w.before args s' = true := fun w hw => vx_ot_at hW0 hvm.symm (hgood w (List.mem_cons_of_mem _ (List.mem_cons_of_mem _ hw))) (hat w hw)
  have hk' : (Cond.classLink own ik cls).before args s' = true := vx_ot_at hW0 hvm.symm (hgood _ List.mem_cons_self) hk
  have hini' : (Cond.initialized cls).before args s' = true := vx_ot_at hW0 hvm.symm (hgood _ (List.mem_cons_of_mem _ List.mem_cons_self)) hini
  have hU' : vx_Zq Bundle.tN "UNASSIGNED_STACK" Bundle.steD A s' s'.heap := by rw [hhp]; exact vx_Zq.moved hW0.alike (hU.kept hS.2.1)
  have hN' : vx_Zq Bundle.tN "SUPPRESSED_SENTINEL" Bundle.listD A s' s'.heap := by rw [hhp]; exact vx_Zq.moved hW0.alike (hN.kept hS.2.1)
  have h : ∀ w ∈ Bundle.ownAtoms own ic cls names, w.before args s' = true := vx_own hat' (vx_isRefq hU'.1) (vx_isRefq hN'.1) hU'.2.word hN'.2.word
  have hown' : s'.vm.findClass own = some m.cls := by rw [hvm]; exact hown
  have hins : (Cond.instantiable cls 6).before args s' = true := h _ (by simp [Bundle.ownAtoms])
  obtain ⟨vm₁, cX, kX, hfX, hkX, -, -, X₁, st1⟩ := Y.newCold hexec (own := own) (C := cls) (index := ik) (n := 6) hown' hk' hins hini'
    (g := F0 m pc ls rest) rfl (by rw [hb]; exact d0) (Nat.le_refl _) (Nat.le_refl _)
  generalize hT1 : (T.setVm vm₁).pushCell { cls := cX, slots := kX.instanceTypes.map defaultValue, vm := .none } = T1 at X₁ st1
  have hcat : (Value.ref T.heap.size).category = 1 := rfl
  have hcellA : T1.heap[T.heap.size]? = some (freshCell cX kX) := by rw [← hT1]; exact State.heap_pushCell_size _ _
  have d3' : decode c.code (pc + 3) = .ok (.dup, 1) := by rw [hb]; exact d3
  have d4' : decode c.code (pc + 4) = .ok (.ldc_w is, 3) := by rw [hb]; exact d4
  have hstr' : vk_R own is text sa s' := vk_R.warm hW0 hstr
  obtain ⟨U, hsteps, hrun, hend, hW, hsame, ce, hce, hO⟩ := X₁.ctorThrowS hexec htr (own := own) (cls := cls) (names := names) (ic := ic) hown' hcls hnames h (fun x hx => nomatch hx) hfX hkX hcellA (by rw [hhp, hT]; exact Nat.le_refl _) (msg := .ref sa) rfl
    (g := { method := m, pc := pc + 7, locals := ls, stack := .ref sa :: .ref T.heap.size :: .ref T.heap.size :: rest, locked := none }) rfl hsize rfl rfl (rest := rest) rfl
    (by rw [hb]; exact d7) (by rw [hb]; exact d10) hout hRframes (by simp only [List.map_cons, List.sum_cons, hcat]; omega) hlocks
  obtain ⟨f1, f2⟩ := vx_frame hsame
  rw [hhp] at f1 f2
  have hWs : s.WarmedH U.vm := State.WarmedH.trans hW0 hW
  have hcl : s.vm.findClass cls = some ce.cls := by
    have h9 := hO.cls
    rw [hvm] at h9
    exact h9
  have hall : s.sameButNew ({ U with vm := s.vm } : State) locs mc ms := by
    subst hA
    obtain ⟨e1, e2⟩ := hsame
    rw [State.setFrames_setFrames] at e1
    have h2 : (T.setVm s.vm).sameButNew ({ U with vm := s.vm } : State) [] (0 + 1) (0 + 6) := ⟨e1, e2⟩
    have h3 := X.same.trans h2
    rw [List.append_nil] at h3
    exact h3.mono hc hs
  refine ⟨U, ?_, .threw T.heap.size, hrun, hend, Or.inr ⟨T.heap.size, rfl, cls, ce, locs, hx U hWs.alike f1 (fun q hq => f2 q hq (fun z hz => nomatch hz)), hce, hO.vm, hcl, hWs, hall, hf⟩⟩
  refine st1 _ ?_
  show Steps p.tables e below (T1.setTop { method := m, pc := pc + 3, locals := ls, stack := .ref T.heap.size :: rest, locked := none }) _
  jvm_step X₁.here [X₁.here.top, hexec, d3', Value.category]
  exact X₁.ldcStringW hexec (own := own) (text := text) (index := is) (a := sa) hown' hstr'.1 hstr'.2
    (g := { method := m, pc := pc + 4, locals := ls, stack := .ref T.heap.size :: .ref T.heap.size :: rest, locked := none }) rfl d4' _ hsteps
end Ends
section Bodies
variable {l : Launch}
theorem vx_ofW {y : MethodName} {ws ws' : List Cond} {rm : Room} {Pc : Array Value → State → Prop} {Qc : Array Value → State → Outcome → State → Prop} {XC : String → State → State → Prop} {mc ms : Nat} {free : Addr → Prop} {cc : ByteArray} {maxL : Nat} {ret : Option FieldType}
    (hy : plainName y.cls = true) (hw : ws = Cond.code y cc maxL ret :: ws')
    (body : ∀ p e s m args below meth c s₁, BodyLoose p l y (headSpec ws rm) cc maxL ret e s m args below meth c s₁ → c.maxLocals = maxL → (∀ x ∈ c.exceptionTable.toList, False) → Pc args s →
      W p l e (headSpec ws rm).room s m args below meth c s.heap [] 0 0 (vx_MQ below Qc XC args s mc ms free) (entryFrame m args maxL)) : vx_Met l y ws rm Pc Qc XC mc ms free := by
  refine MetFree.of_bodyS (code := cc) (maxLocals := maxL) (ret := ret) hy ?_ ?_
  · intro args s m h hn
    obtain ⟨meth, c, h1, h2, h3, h4, h5, h6, -, -⟩ := Cond.code_spec hn (atoms_spec (ws := ws) h _ (by rw [hw]; exact List.mem_cons_self))
    exact ⟨meth, c, h1, h2, h3, h4, h5, h6⟩
  · intro p e s m args below meth c s₁ B hml hP _
    have hh0 : s₁.heap = s.heap := by rw [B.state]; rfl
    have ht : ∀ x ∈ c.exceptionTable.toList, False := by
      obtain ⟨meth9, c9, h1, h2, -, -, -, -, h7, -⟩ := Cond.code_spec B.named (atoms_spec (ws := ws) B.pre _ (by rw [hw]; exact List.mem_cons_self))
      cases Option.some.inj (h1.symm.trans B.method)
      cases Option.some.inj (h2.symm.trans (Stand.of_body B).code)
      intro x hx
      rw [Array.isEmpty_iff.mp h7] at hx
      cases hx
    obtain ⟨t, a1, o, b1, b2, b3⟩ := body p e s m args below meth c s₁ B hml ht hP s₁ hh0 (Stand.of_body B)
    exact ⟨t, o, a1, b1, b2, b3⟩
/-- the table of a body with handlers -/
theorem vx_table {p : Program} {x y : MethodName} {S : Spec} {cc bytes : ByteArray} {maxL maxL' : Nat} {ret ret' : Option FieldType} {e : Env} {s s₁ : State} {m : MethodId} {args : Array Value} {below : List Frame} {meth : Method} {c : Code} {hh : List (Nat × Nat × Nat × Nat)}
    (B : BodyLoose p l y S cc maxL ret e s m args below meth c s₁) (h : (Cond.codeWith y bytes maxL' ret' hh).before args s = true) : c.exceptionTable.toList = tableOf hh := by
  obtain ⟨m9, meth9, c9, hn9, h1, h2, -, -, h6, -⟩ := Cond.codeWith_spec h
  cases Option.some.inj (hn9.symm.trans B.named)
  cases Option.some.inj (h1.symm.trans B.method)
  cases Option.some.inj (h2.symm.trans (Stand.of_body B).code)
  rw [← h6, table_eq]
end Bodies
end VXA
section VXS
variable {p : Program} {l : Launch} {e : Env} {R : Room} {s : State} {m : MethodId} {args : Array Value} {below : List Frame} {meth : Method} {c : Code} {T : State} {H : Heap} {locs : List Loc} {cells slots : Nat}
abbrev vx_CSW (R : Room) (s : State) (args : Array Value) (own : String) (index : Nat) (y : MethodName) (bytes : ByteArray) (maxL : Nat) (ret : Option FieldType) (hh : List (Nat × Nat × Nat × Nat)) (ws : List Cond) (rm : Room) (mc ms n : Nat) : Prop :=
  (rm.cells = mc ∧ rm.slots = ms ∧ rm.frames + 1 ≤ R.frames ∧ 8 + (maxL + 11) + rm.locals ≤ R.locals ∧ (∀ w ∈ ws, ∀ (a' : Array Value) (U : State), s.WarmedH U.vm → w.before a' U = true) ∧ Cond.codeWith y bytes maxL ret hh ∈ ws) ∧
  (Cond.codeWith y bytes maxL ret hh).before args s = true ∧ (Cond.initialized y.cls).before args s = true ∧ (y.cls ≠ "java/lang/invoke/MethodHandle" ∧ y.cls ≠ "java/lang/invoke/VarHandle") ∧
  (∀ sig, parseMethodDescriptor y.desc = some sig → n = sig.parameters.length) ∧ (Cond.methodLink own index y).before args s = true ∧ (Cond.static y).before args s = true
theorem vx_cwSW {own : String} {index maxL mc ms : Nat} {y : MethodName} {bytes : ByteArray} {ret : Option FieldType} {hh : List (Nat × Nat × Nat × Nat)} {Ts ws ws' : List Cond} {rm : Room} (n : Nat) (ht : ∀ w ∈ Ts, w.before args s = true) (hT : GoodIn Ts (va_wsS own index y ws)) (hw : ws = Cond.codeWith y bytes maxL ret hh :: ws') (hrc : rm.cells = mc) (hrs : rm.slots = ms)
    (hd : y.cls ≠ "java/lang/invoke/MethodHandle" ∧ y.cls ≠ "java/lang/invoke/VarHandle" ∧ (parseMethodDescriptor y.desc).map (fun d => d.parameters.length) = some n) (hR : rm.frames + 1 ≤ R.frames ∧ 8 + (maxL + 11) + rm.locals ≤ R.locals) :
    vx_CSW R s args own index y bytes maxL ret hh ws rm mc ms n := by
  have ok : ∀ w ∈ va_wsS own index y ws, w.before args s = true := fun w h => ht w (hT w h).1
  have hG : GoodIn Ts ws := fun w h => hT w (by unfold va_wsS; exact List.mem_append_right _ h)
  have hc : Cond.codeWith y bytes maxL ret hh ∈ ws := by rw [hw]; exact List.mem_cons_self
  refine ⟨⟨hrc, hrs, hR.1, hR.2, pay_in ht hG, hc⟩, ht _ (hG _ hc).1, ok _ (by simp [va_wsS]), ⟨hd.1, hd.2.1⟩, fun sig h => ?_, ok _ (by simp [va_wsS]), ok _ (by simp [va_wsS])⟩
  have h2 := hd.2.2
  rw [h] at h2
  exact (Option.some.inj h2).symm
theorem vx_callSW (X : Stand p l e R s m args below meth c T locs cells slots) (hexec : p.tables.exec = Jvm.exec) {own : String} {index : Nat} {y : MethodName} {bytes : ByteArray} {maxL : Nat} {ret : Option FieldType} {hh : List (Nat × Nat × Nat × Nat)}
    (hown : s.vm.findClass own = some m.cls) (hlink : (Cond.methodLink own index y).before args s = true) (hstat : (Cond.static y).before args s = true) (hinit : (Cond.initialized y.cls).before args s = true)
    (hcode : (Cond.codeWith y bytes maxL ret hh).before args s = true) (hy : y.cls ≠ "java/lang/invoke/MethodHandle" ∧ y.cls ≠ "java/lang/invoke/VarHandle")
    {W9 : Nat} {Pre : Pt → Array Value → Prop} {Post : Pt → Array Value → Option Value → Pt → Prop} (hK : Back l R p e below s args y 3 W9 Pre Post)
    {g : JFrame} (hg : g.method = m) (hsize : g.locals.size = c.maxLocals) {argsL rest : List Value} (hlen : ∀ sig, parseMethodDescriptor y.desc = some sig → argsL.length = sig.parameters.length)
    (hstack : g.stack = argsL.reverse ++ rest) (hW : 2 * g.monitorRoom + (rest.map fun v => v.category).sum ≤ W9) (hdg : decode c.code g.pc = .ok (.invokestatic index, 3))
    (hpre : ∀ vm₁, s.WarmedH vm₁ → Pre ⟨T.setVm vm₁, locs, cells, slots⟩ argsL.toArray) :
    ∃ (v : Option Value) (vm₁ : Vm) (B : Pt), s.WarmedH vm₁ ∧ Stand p l e R s m args below meth c B.U B.locs B.cells B.slots ∧ Post ⟨T.setVm vm₁, locs, cells, slots⟩ argsL.toArray v B ∧
      ∀ target, Steps p.tables e below (B.U.setTop { g with pc := g.pc + 3, stack := v.toList ++ rest }) target → Steps p.tables e below (T.setTop g) target := by
  obtain ⟨mk, methM, cM, hnamed, hmethM, -, -, -, -, -, -, hsigM⟩ := Cond.codeWith_spec hcode
  have hstatic : methM.isStatic = true := Cond.static_spec hnamed hmethM hstat
  obtain ⟨kP, hkP, -⟩ := className_of_methodNamed hnamed
  have hinitP : kP.init = .initialized := Cond.initialized_spec (findClass_of_methodNamed hnamed) hkP hinit
  obtain ⟨vm₁, X₁, hstep₁⟩ := X.invokestatic hexec hown hlink hnamed hmethM hstatic hkP hinitP hy (g := g) hg (argsL := argsL) (rest := rest) (hlen _ hsigM) hstack hdg
  obtain ⟨v, B, X', hpost, hsteps⟩ := hK m meth c ⟨T.setVm vm₁, locs, cells, slots⟩ { g with stack := rest } (.invokestatic index) mk argsL.toArray X₁ hg hsize hdg hW (X₁.named hnamed) (hpre vm₁ X₁.warmed)
  exact ⟨v, vm₁, B, X₁.warmed, X', hpost, fun target h => hstep₁ _ fun acts => by rw [doInvoke_state]; exact hsteps.trans h⟩
theorem vx_runSW {y : MethodName} {bytes cc : ByteArray} {maxL nL mc ms n index : Nat} {ret : Option FieldType} {hh : List (Nat × Nat × Nat × Nat)} {ws : List Cond} {rm : Room} {Pc : Array Value → State → Prop} {Qc : Array Value → State → Outcome → State → Prop} {free : Addr → Prop} {Ts : List Cond} {own : String} {As rest : List Value} {g : JFrame}
    (S : CallFix p m c cc nL s args Ts own) (hM : Met l y ws rm Pc Qc mc ms free) (cw : vx_CSW R s args own index y bytes maxL ret hh ws rm mc ms n) (hp : PreS s H Pc As)
    (hg : g.method = m) (hn : As.length = n) (hsize : g.locals.size = nL) (hstack : g.stack = As.reverse ++ rest) (hW : 2 * g.monitorRoom + (rest.map fun v => v.category).sum ≤ 8) (hdg : decode cc g.pc = .ok (.invokestatic index, 3)) (hf : cells + mc ≤ R.cells ∧ slots + ms ≤ R.slots) :
    va_Run p l e R s m args below meth c H locs cells slots mc ms g rest (Qc As.toArray) (free) := by
  obtain ⟨⟨hrc, hrs, hfr, hlo, hws, hcw⟩, hcode, hini, hy, hlen, hl, hstt⟩ := cw
  have hK : Back l R p e below s args y 3 8 (PreOf R mc ms Pc) (PostOf Qc mc ms free) := va_backW (hh := hh) (bytes := bytes) (maxL := maxL) (ret := ret) hM hp.1 hrc hrs hfr hlo hws hcw (fun a' U hW => word_at hW (Or.inl (by first | rfl | simp [Cond.onTables, Cond.keeps, Cond.steady])) hini)
  obtain ⟨hx, hb, hml, ho, -⟩ := S
  intro T hT X
  obtain ⟨v, vm₁, ⟨U', l2, c2, s2⟩, hW₁, X', ⟨g', mk, t, L, e1, e2, hq, h1, hL, h2, h3⟩, st⟩ := vx_callSW X hx (hh := hh) (bytes := bytes) (maxL := maxL) (ret := ret) ho hl hstt hini hcode hy hK hg (hsize.trans hml.symm) (argsL := As) (rest := rest) (fun sig h => hn.trans (hlen sig h)) hstack hW (by rw [hb]; exact hdg)
    (fun vm₁ hW₁ => ⟨hf.1, hf.2, hp.2 (T.setVm vm₁) hT hW₁⟩)
  dsimp only [Pt.U, Pt.locs, Pt.cells, Pt.slots] at X' e1 e2 h1 h2 h3 st
  subst h1; subst h2; subst h3
  exact ⟨v, (T.setVm vm₁).calling g' mk As.toArray, t, U', L, hT, X', hL, e1, e2, hq, st⟩
/-- a thing of a world lies in the heap -/
theorem vx_lt {D : va_G} {cl : List vw_C} {ws : va_W} {H1 : Heap} (h : va_P D cl ws H1) {k : Nat} {q : Nat × va_E} (hk : ws[k]? = some q) : q.1 < H1.size := (h k q hk).lt
end VXS
end
section
/-! Sealing and opening as a whole: pure. -/
theorem zs_hold_n {b n : Nat} {f : Nat → Int32} {F : zs_F} (h : zs_hold b f F) (e : F.1 = n) : zs_hold b f (n, F.2) := by
  subst e; exact h
theorem zo_adr {n x : Nat} {f : Nat → Int32} {S : Nat → Nat} (h : ∀ j, j < n → f j = nI (zs_pw 2 (S j))) : ∀ j, j < n + 1 → upd f n (nI (zs_pw 2 x)) j = nI (zs_pw 2 ((zs_push (n, S) x).2 j)) := by
  intro j hj
  by_cases e : j = n
  · subst e; rw [pk_us]; simp [zs_push]
  · rw [pk_un e, h j (by omega)]; simp [zs_push, e]
/-- a byte altered -/
def zo_al (b : Nat) (x : Int32) : Nat := b ^^^ (zs_un x % 2 ^ 8)
theorem zo_al_lt {b : Nat} (h : b < 256) (x : Int32) : zo_al b x < 256 := Nat.xor_lt_two_pow (n := 8) h (Nat.mod_lt _ (by decide))
/-- the head of a file: its mark, its number of entries, the entries of the keys below i -/
def zs_ents (S : Nat → Nat) (x f g : Int32) : Nat → zs_F
  | 0 => zs_push (zs_push (0, fun _ => 0) 83) (zs_pc (zs_un x))
  | i + 1 => if zs_un x / 2 ^ i % 2 = 1 then zs_entry (zs_ents S x f g i) (zs_pw 2 (S i)) f (zs_e f g i) else zs_ents S x f g i
theorem zs_ents_le (S : Nat → Nat) (x f g : Int32) (i : Nat) : (zs_ents S x f g i).1 ≤ 2 + 8 * i := by
  induction i with
  | zero => exact Nat.le_refl _
  | succ i ih =>
    rw [zs_ents]
    split
    · show (zs_ents S x f g i).1 + 8 ≤ _; omega
    · omega
def zs_head (S : Nat → Nat) (x f g : Int32) (n : Nat) : zs_F := zs_pair (zs_ents S x f g n) (zs_sg (zs_ents S x f g n).2 0 (zs_ents S x f g n).1 (zs_word f (nI 0) (nI 3)))
def zs_seal (S : Nat → Nat) (n0 n2 : Nat) (M : Nat → Nat) (x f g : Int32) : zs_F := zs_pcs n2 M f ((n2 - 1) / 8) (zs_head S x f g n0) ((n2 - 1) / 8 + 1)
theorem zs_ent_is (B : Nat → Nat) (s ad : Nat) : ∀ n i, zs_ent B s ad i n = -1 ∨ ∃ j, j < i + n ∧ zs_ent B s ad i n = nI (2 + 8 * j) := by
  intro n
  induction n with
  | zero => intro i; exact Or.inl rfl
  | succ n ih =>
    intro i
    rw [zs_ent]
    split
    · exact Or.inr ⟨i, by omega, rfl⟩
    · rcases ih (i + 1) with h | ⟨j, hj, h⟩
      · exact Or.inl h
      · exact Or.inr ⟨j, by omega, h⟩
/-- what open answers, the right pieces, the message -/
def zs_open (n3 : Nat) (B : Nat → Nat) (s ad : Nat) (F : zs_F) : Int32 × Nat × zs_F :=
  if zs_sh n3 B = 0 then (-1, 0, F) else
  if zs_ent B s ad 0 (B 1) < 0 then (-2, 0, F) else
  if zs_two B (2 + B 1 * 8) = zs_sg B 0 (2 + B 1 * 8) (zs_word (zs_un_w B (zs_ent B s ad 0 (B 1)).toNatClampNeg s ad) (nI 0) (nI 3)) then
    zs_take B n3 (zs_un_w B (zs_ent B s ad 0 (B 1)).toNatClampNeg s ad) (2 + B 1 * 8 + 2) ((n3 - (2 + B 1 * 8 + 2) - 1) / 10 + 1) 0 (0, fun _ => 0)
  else (-3, 0, F)
end
section
set_option maxHeartbeats 4000000 in
set_option maxRecDepth 100000 in
theorem c_SF_key_ok (l : Launch) (D : va_G) (cI cC cJ : ClassId) (h : Nat → Nat) (n0 : Nat) (S : Nat → Nat) (n2 : Nat) (M : Nat → Nat) (n3 : Nat) (B : Nat → Nat) (n4 : Nat) (E : Nat → Nat) (rt : Nat) (hh : zs_inj h) (hn0 : n0 ≤ 4) (hn2 : n2 ≤ 40) (hn3 : n3 ≤ 120) (hn4 : n4 ≤ 160) (x : Nat) (hx1 : 2 ≤ x) (hx2 : x ≤ 32747) (hr9 : n0 < 4) : Met l y_SF_key (zw k_SF_key) ({ frames := 5, cells := 0, slots := 0, locals := 90 }) (zPc [.ref (h 0), .int (nI x)] (fun H => zCl D cI h n0 S n2 M n3 B n4 E rt H) D cI cC cJ) (zQm (some (.int (nI n0))) (fun H => zCl D cI h (n0 + 1) (zs_push (n0, S) x).2 n2 M n3 B n4 E rt H) (zAS h)) 0 0 (zAS h) := by
  refine zMet (by decide) (Nat.le_of_ble_eq_true rfl) ?_
  intro p e s m below meth c hx hb hr hg hown hlk hml hB0 hE ls hl
  have hl : lv_has ls 2 [(0, .ref (h 0)), (1, .int (nI x))] := hl
  have hS9 : CallFix p m c b_SF_key 2 s [.ref (h 0), .int (nI x)].toArray zg "SealedFiles" := ⟨hx, hb, hml, hown, hg⟩
  obtain ⟨f0, f1, f2, f3, f4, hS0, hA0, hM, hB, hE9, hP⟩ := hB0
  have hP : va_P D zcl [((h 0), .inr (1, [.ref (h 1), .ref (h 3), .ref (h 5), .ref (h 7), .ref (h 9), .int (nI rt)])), ((h 1), .inr (0, [.ref (h 2), .int (nI n0)])), ((h 2), .inl (cI, 4, .inl f0)), ((h 3), .inr (0, [.ref (h 4), .int (nI n0)])), ((h 4), .inl (cI, 4, .inl f1)), ((h 5), .inr (0, [.ref (h 6), .int (nI n2)])), ((h 6), .inl (cI, 40, .inl f2)), ((h 7), .inr (0, [.ref (h 8), .int (nI n3)])), ((h 8), .inl (cI, 120, .inl f3)), ((h 9), .inr (0, [.ref (h 10), .int (nI n4)])), ((h 10), .inl (cI, 160, .inl f4))] s.heap := hP
  have hn1 : n0 ≤ 4 := hn0
  have hD : va_D (zAS h) [((h 0), .inr (1, [.ref (h 1), .ref (h 3), .ref (h 5), .ref (h 7), .ref (h 9), .int (nI rt)])), ((h 1), .inr (0, [.ref (h 2), .int (nI n0)])), ((h 2), .inl (cI, 4, .inl f0)), ((h 3), .inr (0, [.ref (h 4), .int (nI n0)])), ((h 4), .inl (cI, 4, .inl f1)), ((h 5), .inr (0, [.ref (h 6), .int (nI n2)])), ((h 6), .inl (cI, 40, .inl f2)), ((h 7), .inr (0, [.ref (h 8), .int (nI n3)])), ((h 8), .inl (cI, 120, .inl f3)), ((h 9), .inr (0, [.ref (h 10), .int (nI n4)])), ((h 10), .inl (cI, 160, .inl f4))] := zSf_D hh
  have hS : va_S (zAS h) s.heap s.heap [] := va_S.rf
  refine lv_iload_n hx hb d_SF_key_0 rfl (lv_at hl 1 rfl) ?_
  refine lv_iconst (v := (nI 2)) hx hb d_SF_key_1 (by decide) ?_
  refine lv_icmp_lt hx hb d_SF_key_2 (tgt := 12) (by decide) (fun z9 => absurd z9 (nI_nlt (by omega) (by omega))) (fun _ => ?_)
  refine lv_iload_n hx hb d_SF_key_5 rfl (lv_at hl 1 rfl) ?_
  refine lv_sipush (v := (nI 32747)) hx hb d_SF_key_6 (by decide) ?_
  refine lv_icmp_le hx hb d_SF_key_9 (tgt := 22) (by decide) (fun _ => ?_) (fun z9 => absurd (nI_le (by omega) (by omega)) z9)
  refine lv_aload_n hx hb d_SF_key_22 rfl (lv_at hl 0 rfl) ?_
  refine va_get (D := D) (ci := 1) (v := .ref (h 1)) (C := R_SF) (T := F_SF) (N := 6) hx hb hg i_SF hown hE.1 hP 0 rfl rfl 0 (by decide) (hg _ zw_40) (fun _ h9 => h9) rfl d_SF_key_23 ?_
  refine lv_iload_n hx hb d_SF_key_26 rfl (lv_at hl 1 rfl) ?_
  refine zWr (rest := []) (zrVN hS9 (c_RW_append l D cI cC cJ (h 1) (h 2) 4 n0 f0 (by omega) (by decide) (fun z => absurd (hh 1 2 (by decide) (by decide) z) (by decide)) (nI x) (hr9)) zc_RW_append (by decide) zw_77 zp_2 (by decide) (va_recv hE.1 hP (ci := 0) (q := (R_RW, F_RW, 2)) rfl (q0 := 1) rfl) (hP.sub [1, 2] rfl) hE rfl hl.1 rfl (Nat.le_of_ble_eq_true rfl) d_SF_key_27) hS (fun q _ h => zA2_in hD 1 2 rfl rfl q h) (fun q h => zA2_in hD 1 2 rfl rfl q h) (fun H locs hB1 hz hk hS => ?_)
  obtain ⟨hP, hD⟩ := zrow hP hD 1 2 rfl rfl (by decide) hk hB1
  have hP : va_P D zcl [((h 0), .inr (1, [.ref (h 1), .ref (h 3), .ref (h 5), .ref (h 7), .ref (h 9), .int (nI rt)])), ((h 1), .inr (0, [.ref (h 2), .int (nI (n0 + 1))])), ((h 2), .inl (cI, 4, .inl (upd f0 n0 (nI x)))), ((h 3), .inr (0, [.ref (h 4), .int (nI n0)])), ((h 4), .inl (cI, 4, .inl f1)), ((h 5), .inr (0, [.ref (h 6), .int (nI n2)])), ((h 6), .inl (cI, 40, .inl f2)), ((h 7), .inr (0, [.ref (h 8), .int (nI n3)])), ((h 8), .inl (cI, 120, .inl f3)), ((h 9), .inr (0, [.ref (h 10), .int (nI n4)])), ((h 10), .inl (cI, 160, .inl f4))] H := hP
  have hD : va_D (zAS h) [((h 0), .inr (1, [.ref (h 1), .ref (h 3), .ref (h 5), .ref (h 7), .ref (h 9), .int (nI rt)])), ((h 1), .inr (0, [.ref (h 2), .int (nI (n0 + 1))])), ((h 2), .inl (cI, 4, .inl (upd f0 n0 (nI x)))), ((h 3), .inr (0, [.ref (h 4), .int (nI n0)])), ((h 4), .inl (cI, 4, .inl f1)), ((h 5), .inr (0, [.ref (h 6), .int (nI n2)])), ((h 6), .inl (cI, 40, .inl f2)), ((h 7), .inr (0, [.ref (h 8), .int (nI n3)])), ((h 8), .inl (cI, 120, .inl f3)), ((h 9), .inr (0, [.ref (h 10), .int (nI n4)])), ((h 10), .inl (cI, 160, .inl f4))] := hD
  have hS0 : zs_hold 32748 (upd f0 n0 (nI x)) (zs_push (n0, S) x) := zs_hold_push hS0 (by omega)
  generalize (upd f0 n0 (nI x)) = f0z at hP hD hS0
  refine lv_if_ne hx hb d_SF_key_30 (tgt := 43) (by decide) (fun _ => ?_) (fun z9 => absurd z9 (by decide))
  refine lv_aload_n hx hb d_SF_key_43 rfl (lv_at hl 0 rfl) ?_
  refine va_get (D := D) (ci := 1) (v := .ref (h 3)) (C := R_SF) (T := F_SF) (N := 6) hx hb hg i_SF hown hE.1 hP 0 rfl rfl 1 (by decide) (hg _ zw_41) (fun _ h9 => h9) rfl d_SF_key_44 ?_
  refine lv_iconst (v := (nI 2)) hx hb d_SF_key_47 (by decide) ?_
  refine lv_iload_n hx hb d_SF_key_48 rfl (lv_at hl 1 rfl) ?_
  refine zRd (rest := [.ref (h 3)]) (zrSN hS9 (c_NU_power l D cI cC cJ 2 x (by decide) (by omega)) zc_NU_power (by decide) zw_317 (by decide) (trivial) hE rfl hl.1 rfl (Nat.le_of_ble_eq_true rfl) d_SF_key_49) ?_
  refine zWr (rest := []) (zrVN hS9 (c_RW_append l D cI cC cJ (h 3) (h 4) 4 n0 f1 (by omega) (by decide) (fun z => absurd (hh 3 4 (by decide) (by decide) z) (by decide)) (nI (zs_pw 2 x)) hr9) zc_RW_append (by decide) zw_77 zp_2 (by decide) (va_recv hE.1 hP (ci := 0) (q := (R_RW, F_RW, 2)) rfl (q0 := 3) rfl) (hP.sub [3, 4] rfl) hE rfl hl.1 rfl (Nat.le_of_ble_eq_true rfl) d_SF_key_52) hS (fun q _ h => zA2_in hD 3 4 rfl rfl q h) (fun q h => zA2_in hD 3 4 rfl rfl q h) (fun H locs hB1 hz hk hS => ?_)
  obtain ⟨hP, hD⟩ := zrow hP hD 3 4 rfl rfl (by decide) hk hB1
  have hP : va_P D zcl [((h 0), .inr (1, [.ref (h 1), .ref (h 3), .ref (h 5), .ref (h 7), .ref (h 9), .int (nI rt)])), ((h 1), .inr (0, [.ref (h 2), .int (nI (n0 + 1))])), ((h 2), .inl (cI, 4, .inl f0z)), ((h 3), .inr (0, [.ref (h 4), .int (nI (n0 + 1))])), ((h 4), .inl (cI, 4, .inl (upd f1 n0 (nI (zs_pw 2 x))))), ((h 5), .inr (0, [.ref (h 6), .int (nI n2)])), ((h 6), .inl (cI, 40, .inl f2)), ((h 7), .inr (0, [.ref (h 8), .int (nI n3)])), ((h 8), .inl (cI, 120, .inl f3)), ((h 9), .inr (0, [.ref (h 10), .int (nI n4)])), ((h 10), .inl (cI, 160, .inl f4))] H := hP
  have hD : va_D (zAS h) [((h 0), .inr (1, [.ref (h 1), .ref (h 3), .ref (h 5), .ref (h 7), .ref (h 9), .int (nI rt)])), ((h 1), .inr (0, [.ref (h 2), .int (nI (n0 + 1))])), ((h 2), .inl (cI, 4, .inl f0z)), ((h 3), .inr (0, [.ref (h 4), .int (nI (n0 + 1))])), ((h 4), .inl (cI, 4, .inl (upd f1 n0 (nI (zs_pw 2 x))))), ((h 5), .inr (0, [.ref (h 6), .int (nI n2)])), ((h 6), .inl (cI, 40, .inl f2)), ((h 7), .inr (0, [.ref (h 8), .int (nI n3)])), ((h 8), .inl (cI, 120, .inl f3)), ((h 9), .inr (0, [.ref (h 10), .int (nI n4)])), ((h 10), .inl (cI, 160, .inl f4))] := hD
  have hA0 := zo_adr (x := x) hA0
  refine lv_pop hx hb d_SF_key_55 rfl ?_
  refine lv_aload_n hx hb d_SF_key_56 rfl (lv_at hl 0 rfl) ?_
  refine va_get (D := D) (ci := 1) (v := .ref (h 1)) (C := R_SF) (T := F_SF) (N := 6) hx hb hg i_SF hown hE.1 hP 0 rfl rfl 0 (by decide) (hg _ zw_40) (fun _ h9 => h9) rfl d_SF_key_57 ?_
  refine zRd (rest := []) (zrVN hS9 (c_RW_size l D cI cC cJ (h 1) (h 2) 4 (n0 + 1) f0z (by omega) (by decide)) zc_RW_size (by decide) zw_85 zp_3 (by decide) (va_recv hE.1 hP (ci := 0) (q := (R_RW, F_RW, 2)) rfl (q0 := 1) rfl) (hP.sub [1, 2] rfl) hE rfl hl.1 rfl (Nat.le_of_ble_eq_true rfl) d_SF_key_60) ?_
  refine lv_iconst (v := (nI 1)) hx hb d_SF_key_63 (by decide) ?_
  refine lv_isub hx hb d_SF_key_64 ?_
  exact W.iret (v := ((nI (n0 + 1)) - (nI 1))) hx hb hr (fun t ht _ => ⟨congrArg (fun z => Outcome.returned (some (Value.int z))) (pk_sub (by omega)), by rw [ht]; exact ⟨f0z, (upd f1 n0 (nI (zs_pw 2 x))), f2, f3, f4, hS0, hA0, hM, hB, hE9, hP⟩, hS.F ht⟩) hS.2.2 d_SF_key_65

set_option maxHeartbeats 4000000 in
set_option maxRecDepth 100000 in
theorem c_SF_read_ok (l : Launch) (D : va_G) (cI cC cJ : ClassId) (h : Nat → Nat) (n0 : Nat) (S : Nat → Nat) (n2 : Nat) (M : Nat → Nat) (n3 : Nat) (B : Nat → Nat) (n4 : Nat) (E : Nat → Nat) (rt : Nat) (hh : zs_inj h) (hn0 : n0 ≤ 4) (hn2 : n2 ≤ 40) (hn3 : n3 ≤ 120) (hn4 : n4 ≤ 160) (j : Nat) (hj : j < n2) : Met l y_SF_read (zw k_SF_read) ({ frames := 5, cells := 0, slots := 0, locals := 90 }) (zPc [.ref (h 0), .int (nI j)] (fun H => zCl D cI h n0 S n2 M n3 B n4 E rt H) D cI cC cJ) (QcRead (nI (M j))) 0 0 (fun _ => False) := by
  refine zMet (by decide) (Nat.le_of_ble_eq_true rfl) ?_
  intro p e s m below meth c hx hb hr hg hown hlk hml hB0 hE ls hl
  have hl : lv_has ls 2 [(0, .ref (h 0)), (1, .int (nI j))] := hl
  have hS9 : CallFix p m c b_SF_read 2 s [.ref (h 0), .int (nI j)].toArray zg "SealedFiles" := ⟨hx, hb, hml, hown, hg⟩
  obtain ⟨f0, f1, f2, f3, f4, hS0, hA0, hM, hB, hE9, hP⟩ := hB0
  have hP : va_P D zcl [((h 0), .inr (1, [.ref (h 1), .ref (h 3), .ref (h 5), .ref (h 7), .ref (h 9), .int (nI rt)])), ((h 1), .inr (0, [.ref (h 2), .int (nI n0)])), ((h 2), .inl (cI, 4, .inl f0)), ((h 3), .inr (0, [.ref (h 4), .int (nI n0)])), ((h 4), .inl (cI, 4, .inl f1)), ((h 5), .inr (0, [.ref (h 6), .int (nI n2)])), ((h 6), .inl (cI, 40, .inl f2)), ((h 7), .inr (0, [.ref (h 8), .int (nI n3)])), ((h 8), .inl (cI, 120, .inl f3)), ((h 9), .inr (0, [.ref (h 10), .int (nI n4)])), ((h 10), .inl (cI, 160, .inl f4))] s.heap := hP
  have hn1 : n0 ≤ 4 := hn0
  refine lv_aload_n hx hb d_SF_read_0 rfl (lv_at hl 0 rfl) ?_
  refine va_get (D := D) (ci := 1) (v := .ref (h 5)) (C := R_SF) (T := F_SF) (N := 6) hx hb hg i_SF hown hE.1 hP 0 rfl rfl 2 (by decide) (hg _ zw_42) (fun _ h9 => h9) rfl d_SF_read_1 ?_
  refine lv_iload_n hx hb d_SF_read_4 rfl (lv_at hl 1 rfl) ?_
  refine zRd (rest := []) (zrVN hS9 (c_RW_has l D cI cC cJ (h 5) (h 6) 40 n2 f2 (by omega) (by decide) (nI j)) zc_RW_has (by decide) zw_69 zp_1 (by decide) (va_recv hE.1 hP (ci := 0) (q := (R_RW, F_RW, 2)) rfl (q0 := 5) rfl) (hP.sub [5, 6] rfl) hE rfl hl.1 rfl (Nat.le_of_ble_eq_true rfl) d_SF_read_5) ?_
  refine lv_if_ne hx hb d_SF_read_8 (tgt := 21) (by decide) (fun _ => ?_) (fun z9 => absurd z9 (by rw [zs_has_in hj (by omega)]; decide))
  refine lv_aload_n hx hb d_SF_read_21 rfl (lv_at hl 0 rfl) ?_
  refine va_get (D := D) (ci := 1) (v := .ref (h 5)) (C := R_SF) (T := F_SF) (N := 6) hx hb hg i_SF hown hE.1 hP 0 rfl rfl 2 (by decide) (hg _ zw_42) (fun _ h9 => h9) rfl d_SF_read_22 ?_
  refine lv_iload_n hx hb d_SF_read_25 rfl (lv_at hl 1 rfl) ?_
  refine zRd (rest := []) (zrVN hS9 (c_RW_item l D cI cC cJ (h 5) (h 6) 40 n2 f2 (by omega) (by decide) (nI j)) zc_RW_item (by decide) zw_65 zp_0 (by decide) (va_recv hE.1 hP (ci := 0) (q := (R_RW, F_RW, 2)) rfl (q0 := 5) rfl) (hP.sub [5, 6] rfl) hE rfl hl.1 rfl (Nat.le_of_ble_eq_true rfl) d_SF_read_26) ?_
  exact W.iret (v := (zs_item n2 f2 (nI j))) hx hb hr (fun t ht _ => ⟨congrArg (fun z => Outcome.returned (some (Value.int z))) ((zs_item_in hj (by omega)).trans (hM j hj).1), ht⟩) t_nil d_SF_read_29

set_option maxHeartbeats 4000000 in
set_option maxRecDepth 100000 in
theorem c_SF_alter_ok (l : Launch) (D : va_G) (cI cC cJ : ClassId) (h : Nat → Nat) (n0 : Nat) (S : Nat → Nat) (n2 : Nat) (M : Nat → Nat) (n3 : Nat) (B : Nat → Nat) (n4 : Nat) (E : Nat → Nat) (rt : Nat) (hh : zs_inj h) (hn0 : n0 ≤ 4) (hn2 : n2 ≤ 40) (hn3 : n3 ≤ 120) (hn4 : n4 ≤ 160) (j : Nat) (x : Int32) (hj : j < n3) : Met l y_SF_alter (zw k_SF_alter) ({ frames := 5, cells := 0, slots := 0, locals := 90 }) (zPc [.ref (h 0), .int (nI j), .int x] (fun H => zCl D cI h n0 S n2 M n3 B n4 E rt H) D cI cC cJ) (zQm (some (.int (nI (zo_al (B j) x)))) (fun H => zCl D cI h n0 S n2 M n3 (zs_set (n3, B) j (zo_al (B j) x)).2 n4 E rt H) (zAS h)) 0 0 (zAS h) := by
  refine zMet (by decide) (Nat.le_of_ble_eq_true rfl) ?_
  intro p e s m below meth c hx hb hr hg hown hlk hml hB0 hE ls hl
  have hl : lv_has ls 3 [(0, .ref (h 0)), (1, .int (nI j)), (2, .int x)] := hl
  have hS9 : CallFix p m c b_SF_alter 3 s [.ref (h 0), .int (nI j), .int x].toArray zg "SealedFiles" := ⟨hx, hb, hml, hown, hg⟩
  obtain ⟨f0, f1, f2, f3, f4, hS0, hA0, hM, hB, hE9, hP⟩ := hB0
  have hP : va_P D zcl [((h 0), .inr (1, [.ref (h 1), .ref (h 3), .ref (h 5), .ref (h 7), .ref (h 9), .int (nI rt)])), ((h 1), .inr (0, [.ref (h 2), .int (nI n0)])), ((h 2), .inl (cI, 4, .inl f0)), ((h 3), .inr (0, [.ref (h 4), .int (nI n0)])), ((h 4), .inl (cI, 4, .inl f1)), ((h 5), .inr (0, [.ref (h 6), .int (nI n2)])), ((h 6), .inl (cI, 40, .inl f2)), ((h 7), .inr (0, [.ref (h 8), .int (nI n3)])), ((h 8), .inl (cI, 120, .inl f3)), ((h 9), .inr (0, [.ref (h 10), .int (nI n4)])), ((h 10), .inl (cI, 160, .inl f4))] s.heap := hP
  have hn1 : n0 ≤ 4 := hn0
  have hD : va_D (zAS h) [((h 0), .inr (1, [.ref (h 1), .ref (h 3), .ref (h 5), .ref (h 7), .ref (h 9), .int (nI rt)])), ((h 1), .inr (0, [.ref (h 2), .int (nI n0)])), ((h 2), .inl (cI, 4, .inl f0)), ((h 3), .inr (0, [.ref (h 4), .int (nI n0)])), ((h 4), .inl (cI, 4, .inl f1)), ((h 5), .inr (0, [.ref (h 6), .int (nI n2)])), ((h 6), .inl (cI, 40, .inl f2)), ((h 7), .inr (0, [.ref (h 8), .int (nI n3)])), ((h 8), .inl (cI, 120, .inl f3)), ((h 9), .inr (0, [.ref (h 10), .int (nI n4)])), ((h 10), .inl (cI, 160, .inl f4))] := zSf_D hh
  have hS : va_S (zAS h) s.heap s.heap [] := va_S.rf
  have hbj : B j < 256 := (hB j hj).2
  refine lv_aload_n hx hb d_SF_alter_0 rfl (lv_at hl 0 rfl) ?_
  refine va_get (D := D) (ci := 1) (v := .ref (h 7)) (C := R_SF) (T := F_SF) (N := 6) hx hb hg i_SF hown hE.1 hP 0 rfl rfl 3 (by decide) (hg _ zw_43) (fun _ h9 => h9) rfl d_SF_alter_1 ?_
  refine lv_iload_n hx hb d_SF_alter_4 rfl (lv_at hl 1 rfl) ?_
  refine zRd (rest := []) (zrVN hS9 (c_RW_has l D cI cC cJ (h 7) (h 8) 120 n3 f3 (by omega) (by decide) (nI j)) zc_RW_has (by decide) zw_69 zp_1 (by decide) (va_recv hE.1 hP (ci := 0) (q := (R_RW, F_RW, 2)) rfl (q0 := 7) rfl) (hP.sub [7, 8] rfl) hE rfl hl.1 rfl (Nat.le_of_ble_eq_true rfl) d_SF_alter_5) ?_
  refine lv_if_ne hx hb d_SF_alter_8 (tgt := 21) (by decide) (fun _ => ?_) (fun z9 => absurd z9 (by rw [zs_has_in hj (by omega)]; decide))
  refine lv_aload_n hx hb d_SF_alter_21 rfl (lv_at hl 0 rfl) ?_
  refine va_get (D := D) (ci := 1) (v := .ref (h 7)) (C := R_SF) (T := F_SF) (N := 6) hx hb hg i_SF hown hE.1 hP 0 rfl rfl 3 (by decide) (hg _ zw_43) (fun _ h9 => h9) rfl d_SF_alter_22 ?_
  refine lv_iload_n hx hb d_SF_alter_25 rfl (lv_at hl 1 rfl) ?_
  refine lv_aload_n hx hb d_SF_alter_26 rfl (lv_at hl 0 rfl) ?_
  refine va_get (D := D) (ci := 1) (v := .ref (h 7)) (C := R_SF) (T := F_SF) (N := 6) hx hb hg i_SF hown hE.1 hP 0 rfl rfl 3 (by decide) (hg _ zw_43) (fun _ h9 => h9) rfl d_SF_alter_27 ?_
  refine lv_iload_n hx hb d_SF_alter_30 rfl (lv_at hl 1 rfl) ?_
  refine zRd (rest := [.int (nI j), .ref (h 7)]) (zrVN hS9 (c_RW_item l D cI cC cJ (h 7) (h 8) 120 n3 f3 (by omega) (by decide) (nI j)) zc_RW_item (by decide) zw_65 zp_0 (by decide) (va_recv hE.1 hP (ci := 0) (q := (R_RW, F_RW, 2)) rfl (q0 := 7) rfl) (hP.sub [7, 8] rfl) hE rfl hl.1 rfl (Nat.le_of_ble_eq_true rfl) d_SF_alter_31) ?_
  refine ztop (y := nI (B j)) ((zs_item_in hj (by omega)).trans (hB j hj).1) ?_
  refine lv_iload_n hx hb d_SF_alter_34 rfl (lv_at hl 2 rfl) ?_
  refine lv_sipush (v := (nI 255)) hx hb d_SF_alter_35 (by decide) ?_
  refine lv_iand hx hb d_SF_alter_38 ?_
  refine lv_ixor hx hb d_SF_alter_39 ?_
  refine ztop (y := nI (zo_al (B j) x)) (zs_cv_i _ _) ?_
  refine zWr (rest := []) (zrVN hS9 (c_RW_replace l D cI cC cJ (h 7) (h 8) 120 n3 f3 (by omega) (by decide) (fun z => absurd (hh 7 8 (by decide) (by decide) z) (by decide)) j (nI (zo_al (B j) x)) hj) zc_RW_replace (by decide) zw_460 zp_22 (by decide) (va_recv hE.1 hP (ci := 0) (q := (R_RW, F_RW, 2)) rfl (q0 := 7) rfl) (hP.sub [7, 8] rfl) hE rfl hl.1 rfl (Nat.le_of_ble_eq_true rfl) d_SF_alter_40) hS (fun q _ h => zA2_in hD 7 8 rfl rfl q h) (fun q h => zA2_in hD 7 8 rfl rfl q h) (fun H locs hB1 hz hk hS => ?_)
  obtain ⟨hP, hD⟩ := zrow hP hD 7 8 rfl rfl (by decide) hk hB1
  have hP : va_P D zcl [((h 0), .inr (1, [.ref (h 1), .ref (h 3), .ref (h 5), .ref (h 7), .ref (h 9), .int (nI rt)])), ((h 1), .inr (0, [.ref (h 2), .int (nI n0)])), ((h 2), .inl (cI, 4, .inl f0)), ((h 3), .inr (0, [.ref (h 4), .int (nI n0)])), ((h 4), .inl (cI, 4, .inl f1)), ((h 5), .inr (0, [.ref (h 6), .int (nI n2)])), ((h 6), .inl (cI, 40, .inl f2)), ((h 7), .inr (0, [.ref (h 8), .int (nI n3)])), ((h 8), .inl (cI, 120, .inl (upd f3 j (nI (zo_al (B j) x))))), ((h 9), .inr (0, [.ref (h 10), .int (nI n4)])), ((h 10), .inl (cI, 160, .inl f4))] H := hP
  have hD : va_D (zAS h) [((h 0), .inr (1, [.ref (h 1), .ref (h 3), .ref (h 5), .ref (h 7), .ref (h 9), .int (nI rt)])), ((h 1), .inr (0, [.ref (h 2), .int (nI n0)])), ((h 2), .inl (cI, 4, .inl f0)), ((h 3), .inr (0, [.ref (h 4), .int (nI n0)])), ((h 4), .inl (cI, 4, .inl f1)), ((h 5), .inr (0, [.ref (h 6), .int (nI n2)])), ((h 6), .inl (cI, 40, .inl f2)), ((h 7), .inr (0, [.ref (h 8), .int (nI n3)])), ((h 8), .inl (cI, 120, .inl (upd f3 j (nI (zo_al (B j) x))))), ((h 9), .inr (0, [.ref (h 10), .int (nI n4)])), ((h 10), .inl (cI, 160, .inl f4))] := hD
  have hB : zs_hold 256 (upd f3 j (nI (zo_al (B j) x))) (zs_set (n3, B) j (zo_al (B j) x)) := zs_hold_set hB (zo_al_lt hbj x)
  refine lv_aload_n hx hb d_SF_alter_43 rfl (lv_at hl 0 rfl) ?_
  refine va_get (D := D) (ci := 1) (v := .ref (h 7)) (C := R_SF) (T := F_SF) (N := 6) hx hb hg i_SF hown hE.1 hP 0 rfl rfl 3 (by decide) (hg _ zw_43) (fun _ h9 => h9) rfl d_SF_alter_44 ?_
  refine lv_iload_n hx hb d_SF_alter_47 rfl (lv_at hl 1 rfl) ?_
  refine zRd (rest := []) (zrVN hS9 (c_RW_item l D cI cC cJ (h 7) (h 8) 120 n3 (upd f3 j (nI (zo_al (B j) x))) (by omega) (by decide) (nI j)) zc_RW_item (by decide) zw_65 zp_0 (by decide) (va_recv hE.1 hP (ci := 0) (q := (R_RW, F_RW, 2)) rfl (q0 := 7) rfl) (hP.sub [7, 8] rfl) hE rfl hl.1 rfl (Nat.le_of_ble_eq_true rfl) d_SF_alter_48) ?_
  exact W.iret (v := (zs_item n3 (upd f3 j (nI (zo_al (B j) x))) (nI j))) hx hb hr (fun t ht _ => ⟨congrArg (fun z => Outcome.returned (some (Value.int z))) ((zs_item_in hj (by omega)).trans pk_us), by rw [ht]; exact ⟨f0, f1, f2, (upd f3 j (nI (zo_al (B j) x))), f4, hS0, hA0, hM, hB, hE9, hP⟩, hS.F ht⟩) hS.2.2 d_SF_alter_51

set_option maxHeartbeats 4000000 in
set_option maxRecDepth 100000 in
theorem c_SF_load_ok (l : Launch) (D : va_G) (cI cC cJ : ClassId) (h : Nat → Nat) (n0 : Nat) (S : Nat → Nat) (n2 : Nat) (M : Nat → Nat) (n3 : Nat) (B : Nat → Nat) (n4 : Nat) (E : Nat → Nat) (rt : Nat) (hh : zs_inj h) (hn0 : n0 ≤ 4) (hn2 : n2 ≤ 40) (hn3 : n3 ≤ 120) (hn4 : n4 ≤ 160) (hpf : zs_pf n4 E = 1) : Met l y_SF_load (zw k_SF_load) ({ frames := 5, cells := 0, slots := 0, locals := 90 }) (zPc [.ref (h 0)] (fun H => zCl D cI h n0 S n2 M n3 B n4 E rt H) D cI cC cJ) (zQm (some (.int (nI (n4 * 6 / 8)))) (fun H => zCl D cI h n0 S n2 M (n4 * 6 / 8) (zs_lds E (n4 * 6 / 8)).2 0 E rt H) (zAS h)) 0 0 (zAS h) := by
  refine zMet (by decide) (Nat.le_of_ble_eq_true rfl) ?_
  intro p e s m below meth c hx hb hr hg hown hlk hml hB0 hE ls hl
  have hl : lv_has ls 2 [(0, .ref (h 0))] := hl
  have hS9 : CallFix p m c b_SF_load 2 s [.ref (h 0)].toArray zg "SealedFiles" := ⟨hx, hb, hml, hown, hg⟩
  obtain ⟨f0, f1, f2, f3, f4, hS0, hA0, hM, hB, hE9, hP⟩ := hB0
  have hP : va_P D zcl [((h 0), .inr (1, [.ref (h 1), .ref (h 3), .ref (h 5), .ref (h 7), .ref (h 9), .int (nI rt)])), ((h 1), .inr (0, [.ref (h 2), .int (nI n0)])), ((h 2), .inl (cI, 4, .inl f0)), ((h 3), .inr (0, [.ref (h 4), .int (nI n0)])), ((h 4), .inl (cI, 4, .inl f1)), ((h 5), .inr (0, [.ref (h 6), .int (nI n2)])), ((h 6), .inl (cI, 40, .inl f2)), ((h 7), .inr (0, [.ref (h 8), .int (nI n3)])), ((h 8), .inl (cI, 120, .inl f3)), ((h 9), .inr (0, [.ref (h 10), .int (nI n4)])), ((h 10), .inl (cI, 160, .inl f4))] s.heap := hP
  have hn1 : n0 ≤ 4 := hn0
  have hD : va_D (zAS h) [((h 0), .inr (1, [.ref (h 1), .ref (h 3), .ref (h 5), .ref (h 7), .ref (h 9), .int (nI rt)])), ((h 1), .inr (0, [.ref (h 2), .int (nI n0)])), ((h 2), .inl (cI, 4, .inl f0)), ((h 3), .inr (0, [.ref (h 4), .int (nI n0)])), ((h 4), .inl (cI, 4, .inl f1)), ((h 5), .inr (0, [.ref (h 6), .int (nI n2)])), ((h 6), .inl (cI, 40, .inl f2)), ((h 7), .inr (0, [.ref (h 8), .int (nI n3)])), ((h 8), .inl (cI, 120, .inl f3)), ((h 9), .inr (0, [.ref (h 10), .int (nI n4)])), ((h 10), .inl (cI, 160, .inl f4))] := zSf_D hh
  have hS : va_S (zAS h) s.heap s.heap [] := va_S.rf
  refine lv_aload_n hx hb d_SF_load_0 rfl (lv_at hl 0 rfl) ?_
  refine zRd (rest := []) (zrV hS9 (c_SF_draftIsPrintedForm l D cI cC cJ h n0 n0 n2 n3 n4 f0 f1 f2 f3 f4 (nI rt) (by omega) (by omega) (by omega) (by omega) (by omega) E hE9) zc_SF_draftIsPrintedForm zw_469 zw_471 zp_23 (by decide) (va_recv hE.1 hP (ci := 1) (q := (R_SF, F_SF, 6)) rfl (q0 := 0) rfl) (hP) hE rfl hl.1 rfl (Nat.le_of_ble_eq_true rfl) d_SF_load_1) ?_
  refine lv_istore_n hx hb d_SF_load_4 rfl hl (by decide) (lv' := [(1, .int (nI (zs_pf n4 E))), (0, .ref (h 0))]) rfl (fun ls hl => ?_)
  refine lv_iload_n hx hb d_SF_load_5 rfl (lv_at hl 0 rfl) ?_
  refine lv_if_eq hx hb d_SF_load_6 (tgt := 13) (by decide) (fun z9 => absurd z9 (by rw [hpf]; decide)) (fun _ => ?_)
  refine lv_aload_n hx hb d_SF_load_9 rfl (lv_at hl 1 rfl) ?_
  refine zWr (rest := []) (zrV hS9 (c_SF_takeDraft l D cI cC cJ h n0 n0 n2 n3 n4 f0 f1 f2 f3 f4 (nI rt) (by omega) (by omega) (by omega) (by omega) (by omega) hh E hE9) zc_SF_takeDraft zw_477 zw_479 zp_25 (by decide) (va_recv hE.1 hP (ci := 1) (q := (R_SF, F_SF, 6)) rfl (q0 := 0) rfl) (hP) hE rfl hl.1 rfl (Nat.le_of_ble_eq_true rfl) d_SF_load_10) hS (fun _ _ h => h) (fun _ h => h) (fun H locs hB1 hz hk hS => ?_)
  obtain ⟨fz, hB, hP⟩ := hB1
  have hP : va_P D zcl [((h 0), .inr (1, [.ref (h 1), .ref (h 3), .ref (h 5), .ref (h 7), .ref (h 9), .int (nI rt)])), ((h 1), .inr (0, [.ref (h 2), .int (nI n0)])), ((h 2), .inl (cI, 4, .inl f0)), ((h 3), .inr (0, [.ref (h 4), .int (nI n0)])), ((h 4), .inl (cI, 4, .inl f1)), ((h 5), .inr (0, [.ref (h 6), .int (nI n2)])), ((h 6), .inl (cI, 40, .inl f2)), ((h 7), .inr (0, [.ref (h 8), .int (nI (n4 * 6 / 8))])), ((h 8), .inl (cI, 120, .inl fz)), ((h 9), .inr (0, [.ref (h 10), .int (nI n4)])), ((h 10), .inl (cI, 160, .inl f4))] H := hP
  have hD : va_D (zAS h) [((h 0), .inr (1, [.ref (h 1), .ref (h 3), .ref (h 5), .ref (h 7), .ref (h 9), .int (nI rt)])), ((h 1), .inr (0, [.ref (h 2), .int (nI n0)])), ((h 2), .inl (cI, 4, .inl f0)), ((h 3), .inr (0, [.ref (h 4), .int (nI n0)])), ((h 4), .inl (cI, 4, .inl f1)), ((h 5), .inr (0, [.ref (h 6), .int (nI n2)])), ((h 6), .inl (cI, 40, .inl f2)), ((h 7), .inr (0, [.ref (h 8), .int (nI (n4 * 6 / 8))])), ((h 8), .inl (cI, 120, .inl fz)), ((h 9), .inr (0, [.ref (h 10), .int (nI n4)])), ((h 10), .inl (cI, 160, .inl f4))] := zSf_D hh
  have hB : zs_hold 256 fz (zs_lds E (n4 * 6 / 8)) := hB
  have hB := zs_hold_n hB (zs_lds_n E (n4 * 6 / 8))
  refine lv_aload_n hx hb d_SF_load_13 rfl (lv_at hl 1 rfl) ?_
  refine va_get (D := D) (ci := 1) (v := .ref (h 9)) (C := R_SF) (T := F_SF) (N := 6) hx hb hg i_SF hown hE.1 hP 0 rfl rfl 4 (by decide) (hg _ zw_44) (fun _ h9 => h9) rfl d_SF_load_14 ?_
  refine lv_iconst (v := (nI 0)) hx hb d_SF_load_17 (by decide) ?_
  refine zWr (rest := []) (zrVN hS9 (c_RW_clear l D cI cC cJ (h 9) (h 10) 160 n4 f4 (by omega) (by decide) (fun z => absurd (hh 9 10 (by decide) (by decide) z) (by decide))) zc_RW_shorten (by decide) zw_89 zp_4 (by decide) (va_recv hE.1 hP (ci := 0) (q := (R_RW, F_RW, 2)) rfl (q0 := 9) rfl) (hP.sub [9, 10] rfl) hE rfl hl.1 rfl (Nat.le_of_ble_eq_true rfl) d_SF_load_18) hS (fun q _ h => zA2_in hD 9 10 rfl rfl q h) (fun q h => zA2_in hD 9 10 rfl rfl q h) (fun H locs hB1 hz hk hS => ?_)
  obtain ⟨hP, hD⟩ := zrow hP hD 9 10 rfl rfl (by decide) hk hB1
  have hP : va_P D zcl [((h 0), .inr (1, [.ref (h 1), .ref (h 3), .ref (h 5), .ref (h 7), .ref (h 9), .int (nI rt)])), ((h 1), .inr (0, [.ref (h 2), .int (nI n0)])), ((h 2), .inl (cI, 4, .inl f0)), ((h 3), .inr (0, [.ref (h 4), .int (nI n0)])), ((h 4), .inl (cI, 4, .inl f1)), ((h 5), .inr (0, [.ref (h 6), .int (nI n2)])), ((h 6), .inl (cI, 40, .inl f2)), ((h 7), .inr (0, [.ref (h 8), .int (nI (n4 * 6 / 8))])), ((h 8), .inl (cI, 120, .inl fz)), ((h 9), .inr (0, [.ref (h 10), .int (nI 0)])), ((h 10), .inl (cI, 160, .inl f4))] H := hP
  have hD : va_D (zAS h) [((h 0), .inr (1, [.ref (h 1), .ref (h 3), .ref (h 5), .ref (h 7), .ref (h 9), .int (nI rt)])), ((h 1), .inr (0, [.ref (h 2), .int (nI n0)])), ((h 2), .inl (cI, 4, .inl f0)), ((h 3), .inr (0, [.ref (h 4), .int (nI n0)])), ((h 4), .inl (cI, 4, .inl f1)), ((h 5), .inr (0, [.ref (h 6), .int (nI n2)])), ((h 6), .inl (cI, 40, .inl f2)), ((h 7), .inr (0, [.ref (h 8), .int (nI (n4 * 6 / 8))])), ((h 8), .inl (cI, 120, .inl fz)), ((h 9), .inr (0, [.ref (h 10), .int (nI 0)])), ((h 10), .inl (cI, 160, .inl f4))] := hD
  refine lv_pop hx hb d_SF_load_21 rfl ?_
  refine lv_iload_n hx hb d_SF_load_22 rfl (lv_at hl 0 rfl) ?_
  refine lv_if_ne hx hb d_SF_load_23 (tgt := 36) (by decide) (fun _ => ?_) (fun z9 => absurd z9 (by rw [hpf]; decide))
  refine lv_aload_n hx hb d_SF_load_36 rfl (lv_at hl 1 rfl) ?_
  refine va_get (D := D) (ci := 1) (v := .ref (h 7)) (C := R_SF) (T := F_SF) (N := 6) hx hb hg i_SF hown hE.1 hP 0 rfl rfl 3 (by decide) (hg _ zw_43) (fun _ h9 => h9) rfl d_SF_load_37 ?_
  refine zRd (rest := []) (zrVN hS9 (c_RW_size l D cI cC cJ (h 7) (h 8) 120 (n4 * 6 / 8) fz (by omega) (by decide)) zc_RW_size (by decide) zw_85 zp_3 (by decide) (va_recv hE.1 hP (ci := 0) (q := (R_RW, F_RW, 2)) rfl (q0 := 7) rfl) (hP.sub [7, 8] rfl) hE rfl hl.1 rfl (Nat.le_of_ble_eq_true rfl) d_SF_load_40) ?_
  exact W.iret (v := (nI (n4 * 6 / 8))) hx hb hr (fun t ht _ => ⟨rfl, by rw [ht]; exact ⟨f0, f1, f2, fz, f4, hS0, hA0, hM, hB, zs_hold_0, hP⟩, hS.F ht⟩) hS.2.2 d_SF_load_43

set_option maxHeartbeats 4000000 in
set_option maxRecDepth 100000 in
theorem c_SF_seal_ok (l : Launch) (D : va_G) (cI cC cJ : ClassId) (h : Nat → Nat) (n0 : Nat) (S : Nat → Nat) (n2 : Nat) (M : Nat → Nat) (n3 : Nat) (B : Nat → Nat) (n4 : Nat) (E : Nat → Nat) (rt : Nat) (hh : zs_inj h) (hn0 : n0 ≤ 4) (hn2 : n2 ≤ 40) (hn3 : n3 ≤ 120) (hn4 : n4 ≤ 160) (x f g : Int32) (hrc : zs_rc n0 (zs_un x) = 1) : Met l y_SF_seal (zw k_SF_seal) ({ frames := 5, cells := 0, slots := 0, locals := 123 }) (zPc [.ref (h 0), .int x, .int f, .int g] (fun H => zCl D cI h n0 S n2 M n3 B n4 E rt H) D cI cC cJ) (zQm (some (.int (nI (zs_seal S n0 n2 M x f g).1))) (fun H => zCl D cI h n0 S n2 M (zs_seal S n0 n2 M x f g).1 (zs_seal S n0 n2 M x f g).2 n4 E rt H) (zAS h)) 0 0 (zAS h) := by
  refine zMet (by decide) (Nat.le_of_ble_eq_true rfl) ?_
  intro p e s m below meth c hx hb hr hg hown hlk hml hB0 hE ls hl
  have hl : lv_has ls 5 [(0, .ref (h 0)), (1, .int x), (2, .int f), (3, .int g)] := hl
  have hS9 : CallFix p m c b_SF_seal 5 s [.ref (h 0), .int x, .int f, .int g].toArray zg "SealedFiles" := ⟨hx, hb, hml, hown, hg⟩
  obtain ⟨f0, f1, f2, f3, f4, hS0, hA0, hM, hB, hE9, hP⟩ := hB0
  have hP : va_P D zcl [((h 0), .inr (1, [.ref (h 1), .ref (h 3), .ref (h 5), .ref (h 7), .ref (h 9), .int (nI rt)])), ((h 1), .inr (0, [.ref (h 2), .int (nI n0)])), ((h 2), .inl (cI, 4, .inl f0)), ((h 3), .inr (0, [.ref (h 4), .int (nI n0)])), ((h 4), .inl (cI, 4, .inl f1)), ((h 5), .inr (0, [.ref (h 6), .int (nI n2)])), ((h 6), .inl (cI, 40, .inl f2)), ((h 7), .inr (0, [.ref (h 8), .int (nI n3)])), ((h 8), .inl (cI, 120, .inl f3)), ((h 9), .inr (0, [.ref (h 10), .int (nI n4)])), ((h 10), .inl (cI, 160, .inl f4))] s.heap := hP
  have hn1 : n0 ≤ 4 := hn0
  have hD : va_D (zAS h) [((h 0), .inr (1, [.ref (h 1), .ref (h 3), .ref (h 5), .ref (h 7), .ref (h 9), .int (nI rt)])), ((h 1), .inr (0, [.ref (h 2), .int (nI n0)])), ((h 2), .inl (cI, 4, .inl f0)), ((h 3), .inr (0, [.ref (h 4), .int (nI n0)])), ((h 4), .inl (cI, 4, .inl f1)), ((h 5), .inr (0, [.ref (h 6), .int (nI n2)])), ((h 6), .inl (cI, 40, .inl f2)), ((h 7), .inr (0, [.ref (h 8), .int (nI n3)])), ((h 8), .inl (cI, 120, .inl f3)), ((h 9), .inr (0, [.ref (h 10), .int (nI n4)])), ((h 10), .inl (cI, 160, .inl f4))] := zSf_D hh
  have hS : va_S (zAS h) s.heap s.heap [] := va_S.rf
  have hrc2 : 1 ≤ zs_pc (zs_un x) ∧ zs_pc (zs_un x) ≤ 3 ∧ zs_un x < 2 ^ n0 := by unfold zs_rc at hrc; split at hrc; assumption; omega
  have h16 := zs_two4 hn0
  refine lv_aload_n hx hb d_SF_seal_0 rfl (lv_at hl 0 rfl) ?_
  refine lv_iload_n hx hb d_SF_seal_1 rfl (lv_at hl 1 rfl) ?_
  refine zRd (rest := []) (zrV hS9 (c_SF_areReceivers l D cI cC cJ h n0 n0 n2 n3 n4 f0 f1 f2 f3 f4 (nI rt) (by omega) (by omega) (by omega) (by omega) (by omega) x) zc_SF_areReceivers zw_326 zw_328 zp_6 (by decide) (va_recv hE.1 hP (ci := 1) (q := (R_SF, F_SF, 6)) rfl (q0 := 0) rfl) (hP) hE rfl hl.1 rfl (Nat.le_of_ble_eq_true rfl) d_SF_seal_2) ?_
  refine lv_if_ne hx hb d_SF_seal_5 (tgt := 18) (by decide) (fun _ => ?_) (fun z9 => absurd z9 (by rw [hrc]; decide))
  refine lv_aload_n hx hb d_SF_seal_18 rfl (lv_at hl 0 rfl) ?_
  refine va_get (D := D) (ci := 1) (v := .ref (h 7)) (C := R_SF) (T := F_SF) (N := 6) hx hb hg i_SF hown hE.1 hP 0 rfl rfl 3 (by decide) (hg _ zw_43) (fun _ h9 => h9) rfl d_SF_seal_19 ?_
  refine lv_iconst (v := (nI 0)) hx hb d_SF_seal_22 (by decide) ?_
  refine zWr (rest := []) (zrVN hS9 (c_RW_clear l D cI cC cJ (h 7) (h 8) 120 n3 f3 (by omega) (by decide) (fun z => absurd (hh 7 8 (by decide) (by decide) z) (by decide))) zc_RW_shorten (by decide) zw_89 zp_4 (by decide) (va_recv hE.1 hP (ci := 0) (q := (R_RW, F_RW, 2)) rfl (q0 := 7) rfl) (hP.sub [7, 8] rfl) hE rfl hl.1 rfl (Nat.le_of_ble_eq_true rfl) d_SF_seal_23) hS (fun q _ h => zA2_in hD 7 8 rfl rfl q h) (fun q h => zA2_in hD 7 8 rfl rfl q h) (fun H locs hB1 hz hk hS => ?_)
  obtain ⟨hP, hD⟩ := zrow hP hD 7 8 rfl rfl (by decide) hk hB1
  have hP : va_P D zcl [((h 0), .inr (1, [.ref (h 1), .ref (h 3), .ref (h 5), .ref (h 7), .ref (h 9), .int (nI rt)])), ((h 1), .inr (0, [.ref (h 2), .int (nI n0)])), ((h 2), .inl (cI, 4, .inl f0)), ((h 3), .inr (0, [.ref (h 4), .int (nI n0)])), ((h 4), .inl (cI, 4, .inl f1)), ((h 5), .inr (0, [.ref (h 6), .int (nI n2)])), ((h 6), .inl (cI, 40, .inl f2)), ((h 7), .inr (0, [.ref (h 8), .int (nI 0)])), ((h 8), .inl (cI, 120, .inl f3)), ((h 9), .inr (0, [.ref (h 10), .int (nI n4)])), ((h 10), .inl (cI, 160, .inl f4))] H := hP
  have hD : va_D (zAS h) [((h 0), .inr (1, [.ref (h 1), .ref (h 3), .ref (h 5), .ref (h 7), .ref (h 9), .int (nI rt)])), ((h 1), .inr (0, [.ref (h 2), .int (nI n0)])), ((h 2), .inl (cI, 4, .inl f0)), ((h 3), .inr (0, [.ref (h 4), .int (nI n0)])), ((h 4), .inl (cI, 4, .inl f1)), ((h 5), .inr (0, [.ref (h 6), .int (nI n2)])), ((h 6), .inl (cI, 40, .inl f2)), ((h 7), .inr (0, [.ref (h 8), .int (nI 0)])), ((h 8), .inl (cI, 120, .inl f3)), ((h 9), .inr (0, [.ref (h 10), .int (nI n4)])), ((h 10), .inl (cI, 160, .inl f4))] := hD
  have hB : zs_hold 256 f3 (0, fun _ => 0) := zs_hold_0
  refine lv_pop hx hb d_SF_seal_26 rfl ?_
  refine lv_aload_n hx hb d_SF_seal_27 rfl (lv_at hl 0 rfl) ?_
  refine va_get (D := D) (ci := 1) (v := .ref (h 7)) (C := R_SF) (T := F_SF) (N := 6) hx hb hg i_SF hown hE.1 hP 0 rfl rfl 3 (by decide) (hg _ zw_43) (fun _ h9 => h9) rfl d_SF_seal_28 ?_
  refine lv_bipush (v := (nI 83)) hx hb d_SF_seal_31 (by decide) ?_
  refine zWr (rest := []) (zrVN hS9 (c_RW_append l D cI cC cJ (h 7) (h 8) 120 0 f3 (by omega) (by decide) (fun z => absurd (hh 7 8 (by decide) (by decide) z) (by decide)) (nI 83) (by decide)) zc_RW_append (by decide) zw_77 zp_2 (by decide) (va_recv hE.1 hP (ci := 0) (q := (R_RW, F_RW, 2)) rfl (q0 := 7) rfl) (hP.sub [7, 8] rfl) hE rfl hl.1 rfl (Nat.le_of_ble_eq_true rfl) d_SF_seal_33) hS (fun q _ h => zA2_in hD 7 8 rfl rfl q h) (fun q h => zA2_in hD 7 8 rfl rfl q h) (fun H locs hB1 hz hk hS => ?_)
  obtain ⟨hP, hD⟩ := zrow hP hD 7 8 rfl rfl (by decide) hk hB1
  have hP : va_P D zcl [((h 0), .inr (1, [.ref (h 1), .ref (h 3), .ref (h 5), .ref (h 7), .ref (h 9), .int (nI rt)])), ((h 1), .inr (0, [.ref (h 2), .int (nI n0)])), ((h 2), .inl (cI, 4, .inl f0)), ((h 3), .inr (0, [.ref (h 4), .int (nI n0)])), ((h 4), .inl (cI, 4, .inl f1)), ((h 5), .inr (0, [.ref (h 6), .int (nI n2)])), ((h 6), .inl (cI, 40, .inl f2)), ((h 7), .inr (0, [.ref (h 8), .int (nI (0 + 1))])), ((h 8), .inl (cI, 120, .inl (upd f3 0 (nI 83)))), ((h 9), .inr (0, [.ref (h 10), .int (nI n4)])), ((h 10), .inl (cI, 160, .inl f4))] H := hP
  have hD : va_D (zAS h) [((h 0), .inr (1, [.ref (h 1), .ref (h 3), .ref (h 5), .ref (h 7), .ref (h 9), .int (nI rt)])), ((h 1), .inr (0, [.ref (h 2), .int (nI n0)])), ((h 2), .inl (cI, 4, .inl f0)), ((h 3), .inr (0, [.ref (h 4), .int (nI n0)])), ((h 4), .inl (cI, 4, .inl f1)), ((h 5), .inr (0, [.ref (h 6), .int (nI n2)])), ((h 6), .inl (cI, 40, .inl f2)), ((h 7), .inr (0, [.ref (h 8), .int (nI (0 + 1))])), ((h 8), .inl (cI, 120, .inl (upd f3 0 (nI 83)))), ((h 9), .inr (0, [.ref (h 10), .int (nI n4)])), ((h 10), .inl (cI, 160, .inl f4))] := hD
  have hB : zs_hold 256 (upd f3 0 (nI 83)) (zs_push (0, fun _ => 0) 83) := zs_hold_push hB (by decide)
  generalize (upd f3 0 (nI 83)) = f3a at hP hD hB
  refine lv_pop hx hb d_SF_seal_36 rfl ?_
  refine lv_aload_n hx hb d_SF_seal_37 rfl (lv_at hl 0 rfl) ?_
  refine va_get (D := D) (ci := 1) (v := .ref (h 7)) (C := R_SF) (T := F_SF) (N := 6) hx hb hg i_SF hown hE.1 hP 0 rfl rfl 3 (by decide) (hg _ zw_43) (fun _ h9 => h9) rfl d_SF_seal_38 ?_
  refine lv_iload_n hx hb d_SF_seal_41 rfl (lv_at hl 1 rfl) ?_
  refine zRd (rest := [.ref (h 7)]) (zrS hS9 (c_IN_bitCount l D cI cC cJ x) zc_IN_bitCount zw_330 zw_331 (by decide) (trivial) hE rfl hl.1 rfl (Nat.le_of_ble_eq_true rfl) d_SF_seal_42) ?_
  refine ztop (y := nI (zs_pc (zs_un x))) (by rw [← zs_bc_4 (zs_un x) (by omega), zs_nI_un]) ?_
  refine zWr (rest := []) (zrVN hS9 (c_RW_append l D cI cC cJ (h 7) (h 8) 120 (0 + 1) f3a (by omega) (by decide) (fun z => absurd (hh 7 8 (by decide) (by decide) z) (by decide)) (nI (zs_pc (zs_un x))) (by decide)) zc_RW_append (by decide) zw_77 zp_2 (by decide) (va_recv hE.1 hP (ci := 0) (q := (R_RW, F_RW, 2)) rfl (q0 := 7) rfl) (hP.sub [7, 8] rfl) hE rfl hl.1 rfl (Nat.le_of_ble_eq_true rfl) d_SF_seal_45) hS (fun q _ h => zA2_in hD 7 8 rfl rfl q h) (fun q h => zA2_in hD 7 8 rfl rfl q h) (fun H locs hB1 hz hk hS => ?_)
  obtain ⟨hP, hD⟩ := zrow hP hD 7 8 rfl rfl (by decide) hk hB1
  have hP : va_P D zcl [((h 0), .inr (1, [.ref (h 1), .ref (h 3), .ref (h 5), .ref (h 7), .ref (h 9), .int (nI rt)])), ((h 1), .inr (0, [.ref (h 2), .int (nI n0)])), ((h 2), .inl (cI, 4, .inl f0)), ((h 3), .inr (0, [.ref (h 4), .int (nI n0)])), ((h 4), .inl (cI, 4, .inl f1)), ((h 5), .inr (0, [.ref (h 6), .int (nI n2)])), ((h 6), .inl (cI, 40, .inl f2)), ((h 7), .inr (0, [.ref (h 8), .int (nI (0 + 1 + 1))])), ((h 8), .inl (cI, 120, .inl (upd f3a (0 + 1) (nI (zs_pc (zs_un x)))))), ((h 9), .inr (0, [.ref (h 10), .int (nI n4)])), ((h 10), .inl (cI, 160, .inl f4))] H := hP
  have hD : va_D (zAS h) [((h 0), .inr (1, [.ref (h 1), .ref (h 3), .ref (h 5), .ref (h 7), .ref (h 9), .int (nI rt)])), ((h 1), .inr (0, [.ref (h 2), .int (nI n0)])), ((h 2), .inl (cI, 4, .inl f0)), ((h 3), .inr (0, [.ref (h 4), .int (nI n0)])), ((h 4), .inl (cI, 4, .inl f1)), ((h 5), .inr (0, [.ref (h 6), .int (nI n2)])), ((h 6), .inl (cI, 40, .inl f2)), ((h 7), .inr (0, [.ref (h 8), .int (nI (0 + 1 + 1))])), ((h 8), .inl (cI, 120, .inl (upd f3a (0 + 1) (nI (zs_pc (zs_un x)))))), ((h 9), .inr (0, [.ref (h 10), .int (nI n4)])), ((h 10), .inl (cI, 160, .inl f4))] := hD
  have hB : zs_hold 256 (upd f3a (0 + 1) (nI (zs_pc (zs_un x)))) (zs_push (zs_push (0, fun _ => 0) 83) (zs_pc (zs_un x))) := zs_hold_push hB (by omega)
  generalize (upd f3a (0 + 1) (nI (zs_pc (zs_un x)))) = f3b at hP hD hB
  refine lv_pop hx hb d_SF_seal_48 rfl ?_
  refine lv_iconst (v := (nI 0)) hx hb d_SF_seal_49 (by decide) ?_
  refine lv_istore hx hb d_SF_seal_50 hl (by decide) (lv' := [(4, .int (nI 0)), (0, .ref (h 0)), (1, .int x), (2, .int f), (3, .int g)]) rfl (fun ls hl => ?_)
  have hl : lv_has ls 5 [(4, .int (nI 0)), (0, .ref (h 0)), (1, .int x), (2, .int f), (3, .int g)] := lv_sub hl [0, 1, 2, 3, 4] rfl
  have loop : ∀ (k : Nat) (i : Nat) (fx : Nat → Int32) (H : Heap) (locs : List Loc), i + k = n0 → zs_hold 256 fx (zs_ents S x f g i) → va_P D zcl (zSf cI h n0 n0 n2 ((zs_ents S x f g i).1) n4 f0 f1 f2 fx f4 (nI rt)) H → va_S (zAS h) s.heap H locs → ∀ ls : Array Slot, lv_has ls 5 [(4, .int (nI i)), (0, .ref (h 0)), (1, .int x), (2, .int f), (3, .int g)] → W p l e ({ frames := 5, cells := 0, slots := 0, locals := 123 }) s m [.ref (h 0), .int x, .int f, .int g].toArray below meth c H locs 0 0 (MQ below (zQm (some (.int (nI (zs_seal S n0 n2 M x f g).1))) (fun H => zCl D cI h n0 S n2 M (zs_seal S n0 n2 M x f g).1 (zs_seal S n0 n2 M x f g).2 n4 E rt H) (zAS h)) [.ref (h 0), .int x, .int f, .int g].toArray s 0 0 (zAS h)) (F0 m 52 ls []) := by
    intro k
    induction k with
    | zero =>
      intro i fx H locs hi hB hP hS ls hl
      have hP : va_P D zcl [((h 0), .inr (1, [.ref (h 1), .ref (h 3), .ref (h 5), .ref (h 7), .ref (h 9), .int (nI rt)])), ((h 1), .inr (0, [.ref (h 2), .int (nI n0)])), ((h 2), .inl (cI, 4, .inl f0)), ((h 3), .inr (0, [.ref (h 4), .int (nI n0)])), ((h 4), .inl (cI, 4, .inl f1)), ((h 5), .inr (0, [.ref (h 6), .int (nI n2)])), ((h 6), .inl (cI, 40, .inl f2)), ((h 7), .inr (0, [.ref (h 8), .int (nI ((zs_ents S x f g i).1))])), ((h 8), .inl (cI, 120, .inl fx)), ((h 9), .inr (0, [.ref (h 10), .int (nI n4)])), ((h 10), .inl (cI, 160, .inl f4))] H := hP
      have hD : va_D (zAS h) [((h 0), .inr (1, [.ref (h 1), .ref (h 3), .ref (h 5), .ref (h 7), .ref (h 9), .int (nI rt)])), ((h 1), .inr (0, [.ref (h 2), .int (nI n0)])), ((h 2), .inl (cI, 4, .inl f0)), ((h 3), .inr (0, [.ref (h 4), .int (nI n0)])), ((h 4), .inl (cI, 4, .inl f1)), ((h 5), .inr (0, [.ref (h 6), .int (nI n2)])), ((h 6), .inl (cI, 40, .inl f2)), ((h 7), .inr (0, [.ref (h 8), .int (nI ((zs_ents S x f g i).1))])), ((h 8), .inl (cI, 120, .inl fx)), ((h 9), .inr (0, [.ref (h 10), .int (nI n4)])), ((h 10), .inl (cI, 160, .inl f4))] := zSf_D hh
      have hle := zs_ents_le S x f g i
      have e9 : i = n0 := by omega
      rw [e9] at hB hP hle
      have hP : va_P D zcl [((h 0), .inr (1, [.ref (h 1), .ref (h 3), .ref (h 5), .ref (h 7), .ref (h 9), .int (nI rt)])), ((h 1), .inr (0, [.ref (h 2), .int (nI n0)])), ((h 2), .inl (cI, 4, .inl f0)), ((h 3), .inr (0, [.ref (h 4), .int (nI n0)])), ((h 4), .inl (cI, 4, .inl f1)), ((h 5), .inr (0, [.ref (h 6), .int (nI n2)])), ((h 6), .inl (cI, 40, .inl f2)), ((h 7), .inr (0, [.ref (h 8), .int (nI ((zs_ents S x f g n0).1))])), ((h 8), .inl (cI, 120, .inl fx)), ((h 9), .inr (0, [.ref (h 10), .int (nI n4)])), ((h 10), .inl (cI, 160, .inl f4))] H := hP
      have hD : va_D (zAS h) [((h 0), .inr (1, [.ref (h 1), .ref (h 3), .ref (h 5), .ref (h 7), .ref (h 9), .int (nI rt)])), ((h 1), .inr (0, [.ref (h 2), .int (nI n0)])), ((h 2), .inl (cI, 4, .inl f0)), ((h 3), .inr (0, [.ref (h 4), .int (nI n0)])), ((h 4), .inl (cI, 4, .inl f1)), ((h 5), .inr (0, [.ref (h 6), .int (nI n2)])), ((h 6), .inl (cI, 40, .inl f2)), ((h 7), .inr (0, [.ref (h 8), .int (nI ((zs_ents S x f g n0).1))])), ((h 8), .inl (cI, 120, .inl fx)), ((h 9), .inr (0, [.ref (h 10), .int (nI n4)])), ((h 10), .inl (cI, 160, .inl f4))] := zSf_D hh
      refine lv_iload hx hb d_SF_seal_52 (lv_at hl 0 rfl) ?_
      refine lv_aload_n hx hb d_SF_seal_54 rfl (lv_at hl 1 rfl) ?_
      refine va_get (D := D) (ci := 1) (v := .ref (h 1)) (C := R_SF) (T := F_SF) (N := 6) hx hb hg i_SF hown hE.1 hP 0 rfl rfl 0 (by decide) (hg _ zw_40) (fun _ h9 => h9) rfl d_SF_seal_55 ?_
      refine zRd (rest := [.int (nI i)]) (zrVN hS9 (c_RW_size l D cI cC cJ (h 1) (h 2) 4 n0 f0 (by omega) (by decide)) zc_RW_size (by decide) zw_85 zp_3 (by decide) (va_recv hE.1 hP (ci := 0) (q := (R_RW, F_RW, 2)) rfl (q0 := 1) rfl) (hP.sub [1, 2] rfl) hE rfl hl.1 rfl (Nat.le_of_ble_eq_true rfl) d_SF_seal_58) ?_
      refine lv_icmp_ge hx hb d_SF_seal_61 (tgt := 101) (by decide) (fun _ => ?_) (fun z9 => absurd (by rw [e9]; exact Int32.le_refl _) z9)
      refine lv_aload_n hx hb d_SF_seal_101 rfl (lv_at hl 1 rfl) ?_
      refine va_get (D := D) (ci := 1) (v := .ref (h 7)) (C := R_SF) (T := F_SF) (N := 6) hx hb hg i_SF hown hE.1 hP 0 rfl rfl 3 (by decide) (hg _ zw_43) (fun _ h9 => h9) rfl d_SF_seal_102 ?_
      refine lv_aload_n hx hb d_SF_seal_105 rfl (lv_at hl 1 rfl) ?_
      refine lv_iload_n hx hb d_SF_seal_106 rfl (lv_at hl 3 rfl) ?_
      refine lv_aload_n hx hb d_SF_seal_107 rfl (lv_at hl 1 rfl) ?_
      refine va_get (D := D) (ci := 1) (v := .ref (h 7)) (C := R_SF) (T := F_SF) (N := 6) hx hb hg i_SF hown hE.1 hP 0 rfl rfl 3 (by decide) (hg _ zw_43) (fun _ h9 => h9) rfl d_SF_seal_108 ?_
      refine zRd (rest := [.int f, .ref (h 0), .ref (h 7)]) (zrVN hS9 (c_RW_size l D cI cC cJ (h 7) (h 8) 120 ((zs_ents S x f g n0).1) fx (by omega) (by decide)) zc_RW_size (by decide) zw_85 zp_3 (by decide) (va_recv hE.1 hP (ci := 0) (q := (R_RW, F_RW, 2)) rfl (q0 := 7) rfl) (hP.sub [7, 8] rfl) hE rfl hl.1 rfl (Nat.le_of_ble_eq_true rfl) d_SF_seal_111) ?_
      refine zRd (rest := [.ref (h 7)]) (zrV hS9 (c_SF_headSign l D cI cC cJ h n0 n0 n2 ((zs_ents S x f g n0).1) n4 f0 f1 f2 fx f4 (nI rt) (by omega) (by omega) (by omega) (by omega) (by omega) (zs_ents S x f g n0).2 hB f (zs_ents S x f g n0).1 (by omega)) zc_SF_headSign zw_369 zw_371 zp_11 (by decide) (va_recv hE.1 hP (ci := 1) (q := (R_SF, F_SF, 6)) rfl (q0 := 0) rfl) (hP) hE rfl hl.1 rfl (Nat.le_of_ble_eq_true rfl) d_SF_seal_114) ?_
      refine zWr (rest := []) (zrVN hS9 (c_RW_pairN l D cI cC cJ (h 7) (h 8) 120 ((zs_ents S x f g n0).1) fx (by omega) (by decide) (fun z => absurd (hh 7 8 (by decide) (by decide) z) (by decide)) (zs_sg (zs_ents S x f g n0).2 0 (zs_ents S x f g n0).1 (zs_word f (nI 0) (nI 3))) (Nat.lt_trans (zs_sg_lt _ _ _ _) (by decide)) (by omega)) zc_RW_appendPair (by decide) zw_354 zp_8 (by decide) (va_recv hE.1 hP (ci := 0) (q := (R_RW, F_RW, 2)) rfl (q0 := 7) rfl) (hP.sub [7, 8] rfl) hE rfl hl.1 rfl (Nat.le_of_ble_eq_true rfl) d_SF_seal_117) hS (fun q _ h => zA2_in hD 7 8 rfl rfl q h) (fun q h => zA2_in hD 7 8 rfl rfl q h) (fun H locs hB1 hz hk hS => ?_)
      obtain ⟨hP, hD⟩ := zrow hP hD 7 8 rfl rfl (by decide) hk hB1
      have hP : va_P D zcl [((h 0), .inr (1, [.ref (h 1), .ref (h 3), .ref (h 5), .ref (h 7), .ref (h 9), .int (nI rt)])), ((h 1), .inr (0, [.ref (h 2), .int (nI n0)])), ((h 2), .inl (cI, 4, .inl f0)), ((h 3), .inr (0, [.ref (h 4), .int (nI n0)])), ((h 4), .inl (cI, 4, .inl f1)), ((h 5), .inr (0, [.ref (h 6), .int (nI n2)])), ((h 6), .inl (cI, 40, .inl f2)), ((h 7), .inr (0, [.ref (h 8), .int (nI ((zs_ents S x f g n0).1 + 2))])), ((h 8), .inl (cI, 120, .inl (upd (upd fx ((zs_ents S x f g n0).1) (nI ((zs_sg (zs_ents S x f g n0).2 0 (zs_ents S x f g n0).1 (zs_word f (nI 0) (nI 3))) / 256))) ((zs_ents S x f g n0).1 + 1) (nI ((zs_sg (zs_ents S x f g n0).2 0 (zs_ents S x f g n0).1 (zs_word f (nI 0) (nI 3))) % 256))))), ((h 9), .inr (0, [.ref (h 10), .int (nI n4)])), ((h 10), .inl (cI, 160, .inl f4))] H := hP
      have hD : va_D (zAS h) [((h 0), .inr (1, [.ref (h 1), .ref (h 3), .ref (h 5), .ref (h 7), .ref (h 9), .int (nI rt)])), ((h 1), .inr (0, [.ref (h 2), .int (nI n0)])), ((h 2), .inl (cI, 4, .inl f0)), ((h 3), .inr (0, [.ref (h 4), .int (nI n0)])), ((h 4), .inl (cI, 4, .inl f1)), ((h 5), .inr (0, [.ref (h 6), .int (nI n2)])), ((h 6), .inl (cI, 40, .inl f2)), ((h 7), .inr (0, [.ref (h 8), .int (nI ((zs_ents S x f g n0).1 + 2))])), ((h 8), .inl (cI, 120, .inl (upd (upd fx ((zs_ents S x f g n0).1) (nI ((zs_sg (zs_ents S x f g n0).2 0 (zs_ents S x f g n0).1 (zs_word f (nI 0) (nI 3))) / 256))) ((zs_ents S x f g n0).1 + 1) (nI ((zs_sg (zs_ents S x f g n0).2 0 (zs_ents S x f g n0).1 (zs_word f (nI 0) (nI 3))) % 256))))), ((h 9), .inr (0, [.ref (h 10), .int (nI n4)])), ((h 10), .inl (cI, 160, .inl f4))] := hD
      have hB := zs_hold_pair (v := zs_sg (zs_ents S x f g n0).2 0 (zs_ents S x f g n0).1 (zs_word f (nI 0) (nI 3))) hB (Nat.lt_trans (zs_sg_lt _ _ _ _) (by decide))
      have hB : zs_hold 256 (upd (upd fx ((zs_ents S x f g n0).1) (nI ((zs_sg (zs_ents S x f g n0).2 0 (zs_ents S x f g n0).1 (zs_word f (nI 0) (nI 3))) / 256))) ((zs_ents S x f g n0).1 + 1) (nI ((zs_sg (zs_ents S x f g n0).2 0 (zs_ents S x f g n0).1 (zs_word f (nI 0) (nI 3))) % 256))) (zs_pair (zs_ents S x f g n0) (zs_sg (zs_ents S x f g n0).2 0 (zs_ents S x f g n0).1 (zs_word f (nI 0) (nI 3)))) := hB
      generalize (upd (upd fx ((zs_ents S x f g n0).1) (nI ((zs_sg (zs_ents S x f g n0).2 0 (zs_ents S x f g n0).1 (zs_word f (nI 0) (nI 3))) / 256))) ((zs_ents S x f g n0).1 + 1) (nI ((zs_sg (zs_ents S x f g n0).2 0 (zs_ents S x f g n0).1 (zs_word f (nI 0) (nI 3))) % 256))) = fh at hP hD hB
      have hB : zs_hold 256 fh (zs_head S x f g n0) := hB
      have hhd : (zs_head S x f g n0).1 = (zs_ents S x f g n0).1 + 2 := rfl
      refine lv_aload_n hx hb d_SF_seal_120 rfl (lv_at hl 1 rfl) ?_
      refine lv_iload_n hx hb d_SF_seal_121 rfl (lv_at hl 3 rfl) ?_
      refine zWr (rest := []) (zrV hS9 (c_SF_appendPieces l D cI cC cJ h n0 n0 n2 ((zs_ents S x f g n0).1 + 2) n4 f0 f1 f2 fh f4 (nI rt) (by omega) (by omega) (by omega) (by omega) (by omega) hh (zs_head S x f g n0).2 hB M hM f (by omega)) zc_SF_appendPieces zw_373 zw_375 zp_12 (by decide) (va_recv hE.1 hP (ci := 1) (q := (R_SF, F_SF, 6)) rfl (q0 := 0) rfl) (hP) hE rfl hl.1 rfl (Nat.le_of_ble_eq_true rfl) d_SF_seal_122) hS (fun _ _ h => h) (fun _ h => h) (fun H locs hB1 hz hk hS => ?_)
      obtain ⟨fq, hB, hP⟩ := hB1
      have hP : va_P D zcl [((h 0), .inr (1, [.ref (h 1), .ref (h 3), .ref (h 5), .ref (h 7), .ref (h 9), .int (nI rt)])), ((h 1), .inr (0, [.ref (h 2), .int (nI n0)])), ((h 2), .inl (cI, 4, .inl f0)), ((h 3), .inr (0, [.ref (h 4), .int (nI n0)])), ((h 4), .inl (cI, 4, .inl f1)), ((h 5), .inr (0, [.ref (h 6), .int (nI n2)])), ((h 6), .inl (cI, 40, .inl f2)), ((h 7), .inr (0, [.ref (h 8), .int (nI ((zs_seal S n0 n2 M x f g).1))])), ((h 8), .inl (cI, 120, .inl fq)), ((h 9), .inr (0, [.ref (h 10), .int (nI n4)])), ((h 10), .inl (cI, 160, .inl f4))] H := hP
      have hD : va_D (zAS h) [((h 0), .inr (1, [.ref (h 1), .ref (h 3), .ref (h 5), .ref (h 7), .ref (h 9), .int (nI rt)])), ((h 1), .inr (0, [.ref (h 2), .int (nI n0)])), ((h 2), .inl (cI, 4, .inl f0)), ((h 3), .inr (0, [.ref (h 4), .int (nI n0)])), ((h 4), .inl (cI, 4, .inl f1)), ((h 5), .inr (0, [.ref (h 6), .int (nI n2)])), ((h 6), .inl (cI, 40, .inl f2)), ((h 7), .inr (0, [.ref (h 8), .int (nI ((zs_seal S n0 n2 M x f g).1))])), ((h 8), .inl (cI, 120, .inl fq)), ((h 9), .inr (0, [.ref (h 10), .int (nI n4)])), ((h 10), .inl (cI, 160, .inl f4))] := zSf_D hh
      have hB : zs_hold 256 fq (zs_seal S n0 n2 M x f g) := hB
      have hfin : (zs_seal S n0 n2 M x f g).1 ≤ (zs_head S x f g n0).1 + 10 * ((n2 - 1) / 8 + 1) := zs_pcs_le _ _ _ _ _ _
      refine lv_aload_n hx hb d_SF_seal_125 rfl (lv_at hl 1 rfl) ?_
      refine va_get (D := D) (ci := 1) (v := .ref (h 7)) (C := R_SF) (T := F_SF) (N := 6) hx hb hg i_SF hown hE.1 hP 0 rfl rfl 3 (by decide) (hg _ zw_43) (fun _ h9 => h9) rfl d_SF_seal_126 ?_
      refine zRd (rest := []) (zrVN hS9 (c_RW_size l D cI cC cJ (h 7) (h 8) 120 ((zs_seal S n0 n2 M x f g).1) fq (by omega) (by decide)) zc_RW_size (by decide) zw_85 zp_3 (by decide) (va_recv hE.1 hP (ci := 0) (q := (R_RW, F_RW, 2)) rfl (q0 := 7) rfl) (hP.sub [7, 8] rfl) hE rfl hl.1 rfl (Nat.le_of_ble_eq_true rfl) d_SF_seal_129) ?_
      exact W.iret (v := (nI (zs_seal S n0 n2 M x f g).1)) hx hb hr (fun t ht _ => ⟨rfl, by rw [ht]; exact ⟨f0, f1, f2, fq, f4, hS0, hA0, hM, hB, hE9, hP⟩, hS.F ht⟩) hS.2.2 d_SF_seal_132
    | succ k ih =>
      intro i fx H locs hi hB hP hS ls hl
      have hP : va_P D zcl [((h 0), .inr (1, [.ref (h 1), .ref (h 3), .ref (h 5), .ref (h 7), .ref (h 9), .int (nI rt)])), ((h 1), .inr (0, [.ref (h 2), .int (nI n0)])), ((h 2), .inl (cI, 4, .inl f0)), ((h 3), .inr (0, [.ref (h 4), .int (nI n0)])), ((h 4), .inl (cI, 4, .inl f1)), ((h 5), .inr (0, [.ref (h 6), .int (nI n2)])), ((h 6), .inl (cI, 40, .inl f2)), ((h 7), .inr (0, [.ref (h 8), .int (nI ((zs_ents S x f g i).1))])), ((h 8), .inl (cI, 120, .inl fx)), ((h 9), .inr (0, [.ref (h 10), .int (nI n4)])), ((h 10), .inl (cI, 160, .inl f4))] H := hP
      have hD : va_D (zAS h) [((h 0), .inr (1, [.ref (h 1), .ref (h 3), .ref (h 5), .ref (h 7), .ref (h 9), .int (nI rt)])), ((h 1), .inr (0, [.ref (h 2), .int (nI n0)])), ((h 2), .inl (cI, 4, .inl f0)), ((h 3), .inr (0, [.ref (h 4), .int (nI n0)])), ((h 4), .inl (cI, 4, .inl f1)), ((h 5), .inr (0, [.ref (h 6), .int (nI n2)])), ((h 6), .inl (cI, 40, .inl f2)), ((h 7), .inr (0, [.ref (h 8), .int (nI ((zs_ents S x f g i).1))])), ((h 8), .inl (cI, 120, .inl fx)), ((h 9), .inr (0, [.ref (h 10), .int (nI n4)])), ((h 10), .inl (cI, 160, .inl f4))] := zSf_D hh
      have hle := zs_ents_le S x f g i
      refine lv_iload hx hb d_SF_seal_52 (lv_at hl 0 rfl) ?_
      refine lv_aload_n hx hb d_SF_seal_54 rfl (lv_at hl 1 rfl) ?_
      refine va_get (D := D) (ci := 1) (v := .ref (h 1)) (C := R_SF) (T := F_SF) (N := 6) hx hb hg i_SF hown hE.1 hP 0 rfl rfl 0 (by decide) (hg _ zw_40) (fun _ h9 => h9) rfl d_SF_seal_55 ?_
      refine zRd (rest := [.int (nI i)]) (zrVN hS9 (c_RW_size l D cI cC cJ (h 1) (h 2) 4 n0 f0 (by omega) (by decide)) zc_RW_size (by decide) zw_85 zp_3 (by decide) (va_recv hE.1 hP (ci := 0) (q := (R_RW, F_RW, 2)) rfl (q0 := 1) rfl) (hP.sub [1, 2] rfl) hE rfl hl.1 rfl (Nat.le_of_ble_eq_true rfl) d_SF_seal_58) ?_
      refine lv_icmp_ge hx hb d_SF_seal_61 (tgt := 101) (by decide) (fun z9 => absurd z9 (nI_ge (by omega) (by omega))) (fun _ => ?_)
      refine lv_iload_n hx hb d_SF_seal_64 rfl (lv_at hl 2 rfl) ?_
      refine lv_iload hx hb d_SF_seal_65 (lv_at hl 0 rfl) ?_
      refine lv_iushr (v := zs_u x (nI i)) hx hb d_SF_seal_67 rfl ?_
      refine ztop (y := nI (zs_un x / 2 ^ i)) (zs_u_un x (by omega)) ?_
      refine lv_iconst (v := (nI 1)) hx hb d_SF_seal_68 (by decide) ?_
      refine lv_iand hx hb d_SF_seal_69 ?_
      have hux := zs_un_lt x
      have hdl : zs_un x / 2 ^ i ≤ zs_un x := Nat.div_le_self _ _
      refine ztop (y := nI (zs_un x / 2 ^ i % 2)) (pk_andN (by omega) 1 (by decide)) ?_
      refine lv_iconst (v := (nI 1)) hx hb d_SF_seal_70 (by decide) ?_
      by_cases gb : zs_un x / 2 ^ i % 2 = 1
      · refine lv_icmp_ne hx hb d_SF_seal_71 (tgt := 95) (by decide) (fun z9 => absurd (by rw [gb]) z9) (fun _ => ?_)
        refine lv_aload_n hx hb d_SF_seal_74 rfl (lv_at hl 1 rfl) ?_
        refine lv_aload_n hx hb d_SF_seal_75 rfl (lv_at hl 1 rfl) ?_
        refine va_get (D := D) (ci := 1) (v := .ref (h 3)) (C := R_SF) (T := F_SF) (N := 6) hx hb hg i_SF hown hE.1 hP 0 rfl rfl 1 (by decide) (hg _ zw_41) (fun _ h9 => h9) rfl d_SF_seal_76 ?_
        refine lv_iload hx hb d_SF_seal_79 (lv_at hl 0 rfl) ?_
        refine zRd (rest := [.ref (h 0)]) (zrVN hS9 (c_RW_item l D cI cC cJ (h 3) (h 4) 4 n0 f1 (by omega) (by decide) (nI i)) zc_RW_item (by decide) zw_65 zp_0 (by decide) (va_recv hE.1 hP (ci := 0) (q := (R_RW, F_RW, 2)) rfl (q0 := 3) rfl) (hP.sub [3, 4] rfl) hE rfl hl.1 rfl (Nat.le_of_ble_eq_true rfl) d_SF_seal_81) ?_
        refine ztop (y := nI (zs_pw 2 (S i))) ((zs_item_in (by omega) (by omega)).trans (hA0 i (by omega))) ?_
        refine lv_iload_n hx hb d_SF_seal_84 rfl (lv_at hl 3 rfl) ?_
        refine lv_iload_n hx hb d_SF_seal_85 rfl (lv_at hl 3 rfl) ?_
        refine lv_iload_n hx hb d_SF_seal_86 rfl (lv_at hl 4 rfl) ?_
        refine lv_iload hx hb d_SF_seal_87 (lv_at hl 0 rfl) ?_
        refine zRd (rest := [.int f, .int (nI (zs_pw 2 (S i))), .ref (h 0)]) (zrS hS9 (c_SF_exponent l D cI cC cJ f g i) zc_SF_exponent zw_337 zw_338 (by decide) (trivial) hE rfl hl.1 rfl (Nat.le_of_ble_eq_true rfl) d_SF_seal_89) ?_
        refine zWr (rest := []) (zrV hS9 (c_SF_appendEntry l D cI cC cJ h n0 n0 n2 ((zs_ents S x f g i).1) n4 f0 f1 f2 fx f4 (nI rt) (by omega) (by omega) (by omega) (by omega) (by omega) hh (zs_ents S x f g i).2 hB (zs_pw 2 (S i)) (zs_e f g i) f (zs_pw_lt _ _) (by have := zs_e_lt f g i; omega) (by omega)) zc_SF_appendEntry zw_348 zw_350 zp_7 (by decide) (va_recv hE.1 hP (ci := 1) (q := (R_SF, F_SF, 6)) rfl (q0 := 0) rfl) (hP) hE rfl hl.1 rfl (Nat.le_of_ble_eq_true rfl) d_SF_seal_92) hS (fun _ _ h => h) (fun _ h => h) (fun H locs hB1 hz hk hS => ?_)
        obtain ⟨fz, hB, hP⟩ := hB1
        have hP : va_P D zcl [((h 0), .inr (1, [.ref (h 1), .ref (h 3), .ref (h 5), .ref (h 7), .ref (h 9), .int (nI rt)])), ((h 1), .inr (0, [.ref (h 2), .int (nI n0)])), ((h 2), .inl (cI, 4, .inl f0)), ((h 3), .inr (0, [.ref (h 4), .int (nI n0)])), ((h 4), .inl (cI, 4, .inl f1)), ((h 5), .inr (0, [.ref (h 6), .int (nI n2)])), ((h 6), .inl (cI, 40, .inl f2)), ((h 7), .inr (0, [.ref (h 8), .int (nI ((zs_ents S x f g i).1 + 8))])), ((h 8), .inl (cI, 120, .inl fz)), ((h 9), .inr (0, [.ref (h 10), .int (nI n4)])), ((h 10), .inl (cI, 160, .inl f4))] H := hP
        have hD : va_D (zAS h) [((h 0), .inr (1, [.ref (h 1), .ref (h 3), .ref (h 5), .ref (h 7), .ref (h 9), .int (nI rt)])), ((h 1), .inr (0, [.ref (h 2), .int (nI n0)])), ((h 2), .inl (cI, 4, .inl f0)), ((h 3), .inr (0, [.ref (h 4), .int (nI n0)])), ((h 4), .inl (cI, 4, .inl f1)), ((h 5), .inr (0, [.ref (h 6), .int (nI n2)])), ((h 6), .inl (cI, 40, .inl f2)), ((h 7), .inr (0, [.ref (h 8), .int (nI ((zs_ents S x f g i).1 + 8))])), ((h 8), .inl (cI, 120, .inl fz)), ((h 9), .inr (0, [.ref (h 10), .int (nI n4)])), ((h 10), .inl (cI, 160, .inl f4))] := zSf_D hh
        have hB : zs_hold 256 fz (zs_entry (zs_ents S x f g i) (zs_pw 2 (S i)) f (zs_e f g i)) := hB
        have hB : zs_hold 256 fz (zs_ents S x f g (i + 1)) := by rw [zs_ents, if_pos gb]; exact hB
        have hP : va_P D zcl (zSf cI h n0 n0 n2 ((zs_ents S x f g (i + 1)).1) n4 f0 f1 f2 fz f4 (nI rt)) H := by rw [zs_ents, if_pos gb]; exact hP
        refine lv_iinc (k := 0) (v := nI (i + 1)) hx hb d_SF_seal_95 hl rfl (nI_1 i) (by decide) (lv' := [(4, .int (nI (i + 1))), (0, .ref (h 0)), (1, .int x), (2, .int f), (3, .int g)]) rfl (fun ls hl => ?_)
        refine lv_goto hx hb d_SF_seal_98 (tgt := 52) (by decide) ?_
        have hl : lv_has ls 5 [(4, .int (nI (i + 1))), (0, .ref (h 0)), (1, .int x), (2, .int f), (3, .int g)] := lv_sub hl [0, 1, 2, 3, 4] rfl
        exact ih (i + 1) fz H locs (by omega) hB hP hS ls hl
      · refine lv_icmp_ne hx hb d_SF_seal_71 (tgt := 95) (by decide) (fun _ => ?_) (fun z9 => absurd z9 (by rw [show zs_un x / 2 ^ i % 2 = 0 by omega]; decide))
        have hB : zs_hold 256 fx (zs_ents S x f g (i + 1)) := by rw [zs_ents, if_neg gb]; exact hB
        have hP : va_P D zcl (zSf cI h n0 n0 n2 ((zs_ents S x f g (i + 1)).1) n4 f0 f1 f2 fx f4 (nI rt)) H := by rw [zs_ents, if_neg gb]; exact hP
        refine lv_iinc (k := 0) (v := nI (i + 1)) hx hb d_SF_seal_95 hl rfl (nI_1 i) (by decide) (lv' := [(4, .int (nI (i + 1))), (0, .ref (h 0)), (1, .int x), (2, .int f), (3, .int g)]) rfl (fun ls hl => ?_)
        refine lv_goto hx hb d_SF_seal_98 (tgt := 52) (by decide) ?_
        have hl : lv_has ls 5 [(4, .int (nI (i + 1))), (0, .ref (h 0)), (1, .int x), (2, .int f), (3, .int g)] := lv_sub hl [0, 1, 2, 3, 4] rfl
        exact ih (i + 1) fx H locs (by omega) hB hP hS ls hl
  exact loop n0 0 f3b H locs (by omega) hB hP hS ls hl

set_option maxHeartbeats 4000000 in
set_option maxRecDepth 100000 in
theorem c_SF_open_ok (l : Launch) (D : va_G) (cI cC cJ : ClassId) (h : Nat → Nat) (n0 : Nat) (S : Nat → Nat) (n2 : Nat) (M : Nat → Nat) (n3 : Nat) (B : Nat → Nat) (n4 : Nat) (E : Nat → Nat) (rt : Nat) (hh : zs_inj h) (hn0 : n0 ≤ 4) (hn2 : n2 ≤ 40) (hn3 : n3 ≤ 120) (hn4 : n4 ≤ 160) (k : Nat) (hk : k < n0) (R9 : Int32 × Nat × zs_F) (hRe : (zs_open n3 B (S k) (zs_pw 2 (S k)) (n2, M)) = R9) : Met l y_SF_open (zw k_SF_open) ({ frames := 5, cells := 0, slots := 0, locals := 125 }) (zPc [.ref (h 0), .int (nI k)] (fun H => zCl D cI h n0 S n2 M n3 B n4 E rt H) D cI cC cJ) (zQm (some (.int R9.1)) (fun H => zCl D cI h n0 S R9.2.2.1 R9.2.2.2 n3 B n4 E R9.2.1 H) (zAS h)) 0 0 (zAS h) := by
  refine zMet (by decide) (Nat.le_of_ble_eq_true rfl) ?_
  intro p e s m below meth c hx hb hr hg hown hlk hml hB0 hE ls hl
  have hl : lv_has ls 5 [(0, .ref (h 0)), (1, .int (nI k))] := hl
  have hS9 : CallFix p m c b_SF_open 5 s [.ref (h 0), .int (nI k)].toArray zg "SealedFiles" := ⟨hx, hb, hml, hown, hg⟩
  obtain ⟨f0, f1, f2, f3, f4, hS0, hA0, hM, hB, hE9, hP⟩ := hB0
  have hP : va_P D zcl [((h 0), .inr (1, [.ref (h 1), .ref (h 3), .ref (h 5), .ref (h 7), .ref (h 9), .int (nI rt)])), ((h 1), .inr (0, [.ref (h 2), .int (nI n0)])), ((h 2), .inl (cI, 4, .inl f0)), ((h 3), .inr (0, [.ref (h 4), .int (nI n0)])), ((h 4), .inl (cI, 4, .inl f1)), ((h 5), .inr (0, [.ref (h 6), .int (nI n2)])), ((h 6), .inl (cI, 40, .inl f2)), ((h 7), .inr (0, [.ref (h 8), .int (nI n3)])), ((h 8), .inl (cI, 120, .inl f3)), ((h 9), .inr (0, [.ref (h 10), .int (nI n4)])), ((h 10), .inl (cI, 160, .inl f4))] s.heap := hP
  have hn1 : n0 ≤ 4 := hn0
  have hD : va_D (zAS h) [((h 0), .inr (1, [.ref (h 1), .ref (h 3), .ref (h 5), .ref (h 7), .ref (h 9), .int (nI rt)])), ((h 1), .inr (0, [.ref (h 2), .int (nI n0)])), ((h 2), .inl (cI, 4, .inl f0)), ((h 3), .inr (0, [.ref (h 4), .int (nI n0)])), ((h 4), .inl (cI, 4, .inl f1)), ((h 5), .inr (0, [.ref (h 6), .int (nI n2)])), ((h 6), .inl (cI, 40, .inl f2)), ((h 7), .inr (0, [.ref (h 8), .int (nI n3)])), ((h 8), .inl (cI, 120, .inl f3)), ((h 9), .inr (0, [.ref (h 10), .int (nI n4)])), ((h 10), .inl (cI, 160, .inl f4))] := zSf_D hh
  have hS : va_S (zAS h) s.heap s.heap [] := va_S.rf
  refine lv_aload_n hx hb d_SF_open_0 rfl (lv_at hl 0 rfl) ?_
  refine va_get (D := D) (ci := 1) (v := .ref (h 1)) (C := R_SF) (T := F_SF) (N := 6) hx hb hg i_SF hown hE.1 hP 0 rfl rfl 0 (by decide) (hg _ zw_40) (fun _ h9 => h9) rfl d_SF_open_1 ?_
  refine lv_iload_n hx hb d_SF_open_4 rfl (lv_at hl 1 rfl) ?_
  refine zRd (rest := []) (zrVN hS9 (c_RW_has l D cI cC cJ (h 1) (h 2) 4 n0 f0 (by omega) (by decide) (nI k)) zc_RW_has (by decide) zw_69 zp_1 (by decide) (va_recv hE.1 hP (ci := 0) (q := (R_RW, F_RW, 2)) rfl (q0 := 1) rfl) (hP.sub [1, 2] rfl) hE rfl hl.1 rfl (Nat.le_of_ble_eq_true rfl) d_SF_open_5) ?_
  refine lv_if_ne hx hb d_SF_open_8 (tgt := 21) (by decide) (fun _ => ?_) (fun z9 => absurd z9 (by rw [zs_has_in hk (by omega)]; decide))
  refine lv_aload_n hx hb d_SF_open_21 rfl (lv_at hl 0 rfl) ?_
  refine lv_iconst (v := (nI 0)) hx hb d_SF_open_22 (by decide) ?_
  refine va_put (D := D) (ci := 1) (v := .int (nI 0)) (ty := .int) (C := R_SF) (T := F_SF) (N := 6) hx hb hg i_SF t_SF t_SF_ok n_SF hown hE.1 hP hD hS 0 rfl rfl 5 (by decide) (hg _ zw_45) (fun _ h9 => h9) rfl (by decide +kernel) rfl rfl (Nat.le_of_ble_eq_true rfl) d_SF_open_23 (fun H locs hP hD hS => ?_)
  have hP : va_P D zcl [((h 0), .inr (1, [.ref (h 1), .ref (h 3), .ref (h 5), .ref (h 7), .ref (h 9), .int (nI 0)])), ((h 1), .inr (0, [.ref (h 2), .int (nI n0)])), ((h 2), .inl (cI, 4, .inl f0)), ((h 3), .inr (0, [.ref (h 4), .int (nI n0)])), ((h 4), .inl (cI, 4, .inl f1)), ((h 5), .inr (0, [.ref (h 6), .int (nI n2)])), ((h 6), .inl (cI, 40, .inl f2)), ((h 7), .inr (0, [.ref (h 8), .int (nI n3)])), ((h 8), .inl (cI, 120, .inl f3)), ((h 9), .inr (0, [.ref (h 10), .int (nI n4)])), ((h 10), .inl (cI, 160, .inl f4))] H := hP
  have hD : va_D (zAS h) [((h 0), .inr (1, [.ref (h 1), .ref (h 3), .ref (h 5), .ref (h 7), .ref (h 9), .int (nI 0)])), ((h 1), .inr (0, [.ref (h 2), .int (nI n0)])), ((h 2), .inl (cI, 4, .inl f0)), ((h 3), .inr (0, [.ref (h 4), .int (nI n0)])), ((h 4), .inl (cI, 4, .inl f1)), ((h 5), .inr (0, [.ref (h 6), .int (nI n2)])), ((h 6), .inl (cI, 40, .inl f2)), ((h 7), .inr (0, [.ref (h 8), .int (nI n3)])), ((h 8), .inl (cI, 120, .inl f3)), ((h 9), .inr (0, [.ref (h 10), .int (nI n4)])), ((h 10), .inl (cI, 160, .inl f4))] := hD
  refine lv_aload_n hx hb d_SF_open_26 rfl (lv_at hl 0 rfl) ?_
  refine zRd (rest := []) (zrV hS9 (c_SF_hasShape l D cI cC cJ h n0 n0 n2 n3 n4 f0 f1 f2 f3 f4 (nI 0) (by omega) (by omega) (by omega) (by omega) (by omega) B hB) zc_SF_hasShape zw_394 zw_396 zp_14 (by decide) (va_recv hE.1 hP (ci := 1) (q := (R_SF, F_SF, 6)) rfl (q0 := 0) rfl) (hP) hE rfl hl.1 rfl (Nat.le_of_ble_eq_true rfl) d_SF_open_27) ?_
  by_cases g0 : zs_sh n3 B = 0
  · refine lv_if_ne hx hb d_SF_open_30 (tgt := 35) (by decide) (fun z9 => absurd (by rw [g0]; rfl) z9) (fun _ => ?_)
    refine lv_iconst (v := (-1)) hx hb d_SF_open_33 (by decide) ?_
    rw [zs_open, if_pos g0] at hRe
    subst hRe
    exact W.iret (v := (-1)) hx hb hr (fun t ht _ => ⟨rfl, by rw [ht]; exact ⟨f0, f1, f2, f3, f4, hS0, hA0, hM, hB, hE9, hP⟩, hS.F ht⟩) hS.2.2 d_SF_open_34
  · have hsh : 2 ≤ n3 ∧ B 0 = 83 ∧ 1 ≤ B 1 ∧ B 1 ≤ 3 ∧ 6 + B 1 * 8 ≤ n3 := by unfold zs_sh at g0; split at g0; assumption; exact absurd rfl g0
    have g1 : zs_sh n3 B = 1 := by rw [zs_sh, if_pos hsh]
    refine lv_if_ne hx hb d_SF_open_30 (tgt := 35) (by decide) (fun _ => ?_) (fun z9 => absurd z9 (by rw [g1]; decide))
    refine lv_aload_n hx hb d_SF_open_35 rfl (lv_at hl 0 rfl) ?_
    refine lv_iload_n hx hb d_SF_open_36 rfl (lv_at hl 1 rfl) ?_
    refine zRd (rest := []) (zrV hS9 (c_SF_entryFor l D cI cC cJ h n0 n0 n2 n3 n4 f0 f1 f2 f3 f4 (nI 0) (by omega) (by omega) (by omega) (by omega) (by omega) B hB S hS0 hA0 rfl k hk (by omega) (by omega)) zc_SF_entryFor zw_402 zw_404 zp_16 (by decide) (va_recv hE.1 hP (ci := 1) (q := (R_SF, F_SF, 6)) rfl (q0 := 0) rfl) (hP) hE rfl hl.1 rfl (Nat.le_of_ble_eq_true rfl) d_SF_open_37) ?_
    refine lv_istore_n hx hb d_SF_open_40 rfl hl (by decide) (lv' := [(2, .int (zs_ent B (S k) (zs_pw 2 (S k)) 0 (B 1))), (0, .ref (h 0)), (1, .int (nI k))]) rfl (fun ls hl => ?_)
    refine lv_iload_n hx hb d_SF_open_41 rfl (lv_at hl 0 rfl) ?_
    rcases zs_ent_is B (S k) (zs_pw 2 (S k)) (B 1) 0 with ge | ⟨j, hj, ge⟩
    · refine lv_if_ge hx hb d_SF_open_42 (tgt := 48) (by decide) (fun z9 => absurd z9 (by rw [ge]; decide)) (fun _ => ?_)
      refine lv_bipush (v := (-2)) hx hb d_SF_open_45 (by decide) ?_
      rw [zs_open, if_neg g0, if_pos (by rw [ge]; decide)] at hRe
      subst hRe
      exact W.iret (v := (-2)) hx hb hr (fun t ht _ => ⟨rfl, by rw [ht]; exact ⟨f0, f1, f2, f3, f4, hS0, hA0, hM, hB, hE9, hP⟩, hS.F ht⟩) hS.2.2 d_SF_open_47
    · refine lv_if_ge hx hb d_SF_open_42 (tgt := 48) (by decide) (fun _ => ?_) (fun z9 => absurd (by rw [ge]; exact nI_pos' (by omega)) z9)
      have gn : ¬ zs_ent B (S k) (zs_pw 2 (S k)) 0 (B 1) < 0 := by rw [ge]; exact nI_pos (by omega)
      have gc : (zs_ent B (S k) (zs_pw 2 (S k)) 0 (B 1)).toNatClampNeg = 2 + 8 * j := by rw [ge]; exact nI_clamp (by omega)
      rw [zs_open, if_neg g0, if_neg gn, gc] at hRe
      refine lv_aload_n hx hb d_SF_open_48 rfl (lv_at hl 1 rfl) ?_
      refine lv_iload_n hx hb d_SF_open_49 rfl (lv_at hl 0 rfl) ?_
      refine lv_iload_n hx hb d_SF_open_50 rfl (lv_at hl 2 rfl) ?_
      rw [ge]
      rw [ge] at hl
      refine zRd (rest := []) (zrV hS9 (c_SF_unwrapped l D cI cC cJ h n0 n0 n2 n3 n4 f0 f1 f2 f3 f4 (nI 0) (by omega) (by omega) (by omega) (by omega) (by omega) B hB S hS0 hA0 rfl (2 + 8 * j) k (by omega) hk) zc_SF_unwrapped zw_414 zw_416 zp_19 (by decide) (va_recv hE.1 hP (ci := 1) (q := (R_SF, F_SF, 6)) rfl (q0 := 0) rfl) (hP) hE rfl hl.1 rfl (Nat.le_of_ble_eq_true rfl) d_SF_open_51) ?_
      refine lv_istore_n hx hb d_SF_open_54 rfl hl (by decide) (lv' := [(3, .int (zs_un_w B (2 + 8 * j) (S k) (zs_pw 2 (S k)))), (2, .int (nI (2 + 8 * j))), (0, .ref (h 0)), (1, .int (nI k))]) rfl (fun ls hl => ?_)
      refine lv_aload_n hx hb d_SF_open_55 rfl (lv_at hl 2 rfl) ?_
      refine zRd (rest := []) (zrV hS9 (c_SF_entriesEnd l D cI cC cJ h n0 n0 n2 n3 n4 f0 f1 f2 f3 f4 (nI 0) (by omega) (by omega) (by omega) (by omega) (by omega) B hB (by omega)) zc_SF_entriesEnd zw_398 zw_400 zp_15 (by decide) (va_recv hE.1 hP (ci := 1) (q := (R_SF, F_SF, 6)) rfl (q0 := 0) rfl) (hP) hE rfl hl.1 rfl (Nat.le_of_ble_eq_true rfl) d_SF_open_56) ?_
      refine lv_istore hx hb d_SF_open_59 hl (by decide) (lv' := [(4, .int (nI (2 + B 1 * 8))), (3, .int (zs_un_w B (2 + 8 * j) (S k) (zs_pw 2 (S k)))), (2, .int (nI (2 + 8 * j))), (0, .ref (h 0)), (1, .int (nI k))]) rfl (fun ls hl => ?_)
      refine lv_aload_n hx hb d_SF_open_61 rfl (lv_at hl 3 rfl) ?_
      refine va_get (D := D) (ci := 1) (v := .ref (h 7)) (C := R_SF) (T := F_SF) (N := 6) hx hb hg i_SF hown hE.1 hP 0 rfl rfl 3 (by decide) (hg _ zw_43) (fun _ h9 => h9) rfl d_SF_open_62 ?_
      refine lv_iload hx hb d_SF_open_65 (lv_at hl 0 rfl) ?_
      refine zRd (rest := []) (zrVN hS9 (c_RW_pair l D cI cC cJ (h 7) (h 8) 120 n3 f3 (by omega) (by decide) (nI (2 + B 1 * 8))) zc_RW_pair (by decide) zw_412 zp_18 (by decide) (va_recv hE.1 hP (ci := 0) (q := (R_RW, F_RW, 2)) rfl (q0 := 7) rfl) (hP.sub [7, 8] rfl) hE rfl hl.1 rfl (Nat.le_of_ble_eq_true rfl) d_SF_open_67) ?_
      refine ztop (y := nI (zs_two B (2 + B 1 * 8))) (zs_pair_in hB (by omega) (by omega)) ?_
      refine lv_aload_n hx hb d_SF_open_70 rfl (lv_at hl 3 rfl) ?_
      refine lv_iload_n hx hb d_SF_open_71 rfl (lv_at hl 1 rfl) ?_
      refine lv_iload hx hb d_SF_open_72 (lv_at hl 0 rfl) ?_
      refine zRd (rest := [.int (nI (zs_two B (2 + B 1 * 8)))]) (zrV hS9 (c_SF_headSign l D cI cC cJ h n0 n0 n2 n3 n4 f0 f1 f2 f3 f4 (nI 0) (by omega) (by omega) (by omega) (by omega) (by omega) B hB (zs_un_w B (2 + 8 * j) (S k) (zs_pw 2 (S k))) (2 + B 1 * 8) (by omega)) zc_SF_headSign zw_369 zw_371 zp_11 (by decide) (va_recv hE.1 hP (ci := 1) (q := (R_SF, F_SF, 6)) rfl (q0 := 0) rfl) (hP) hE rfl hl.1 rfl (Nat.le_of_ble_eq_true rfl) d_SF_open_74) ?_
      have l1 : zs_two B (2 + B 1 * 8) < 65536 := zs_two_lt (hB _ (show (2 + B 1 * 8) < n3 by omega)).2 (hB _ (show (2 + B 1 * 8) + 1 < n3 by omega)).2
      have l2 := zs_sg_lt B 0 (2 + B 1 * 8) (zs_word (zs_un_w B (2 + 8 * j) (S k) (zs_pw 2 (S k))) (nI 0) (nI 3))
      by_cases g2 : zs_two B (2 + B 1 * 8) = zs_sg B 0 (2 + B 1 * 8) (zs_word (zs_un_w B (2 + 8 * j) (S k) (zs_pw 2 (S k))) (nI 0) (nI 3))
      · refine lv_icmp_eq hx hb d_SF_open_77 (tgt := 83) (by decide) (fun _ => ?_) (fun z9 => absurd (by rw [g2]) z9)
        refine lv_aload_n hx hb d_SF_open_83 rfl (lv_at hl 3 rfl) ?_
        refine lv_iload_n hx hb d_SF_open_84 rfl (lv_at hl 1 rfl) ?_
        refine lv_iload hx hb d_SF_open_85 (lv_at hl 0 rfl) ?_
        refine lv_iconst (v := (nI 2)) hx hb d_SF_open_87 (by decide) ?_
        refine lv_iadd hx hb d_SF_open_88 ?_
        refine ztop (y := nI ((2 + B 1 * 8) + 2)) (nI_add _ _) ?_
        rw [if_pos g2] at hRe
        refine zWr (rest := []) (zrV hS9 (c_SF_takePieces l D cI cC cJ h n0 n0 n2 n3 n4 f0 f1 f2 f3 f4 (nI 0) (by omega) (by omega) (by omega) (by omega) (by omega) hh B hB (zs_un_w B (2 + 8 * j) (S k) (zs_pw 2 (S k))) ((2 + B 1 * 8) + 2) (by omega) rfl) zc_SF_takePieces zw_418 zw_420 zp_20 (by decide) (va_recv hE.1 hP (ci := 1) (q := (R_SF, F_SF, 6)) rfl (q0 := 0) rfl) (hP) hE rfl hl.1 rfl (Nat.le_of_ble_eq_true rfl) d_SF_open_89) hS (fun _ _ h => h) (fun _ h => h) (fun H locs hB1 hz hk9 hS => ?_)
        obtain ⟨fq, hM, hP⟩ := hB1
        rw [hRe] at hM hP ⊢
        exact W.iret (v := R9.1) hx hb hr (fun t ht _ => ⟨rfl, by rw [ht]; exact ⟨f0, f1, fq, f3, f4, hS0, hA0, hM, hB, hE9, hP⟩, hS.F ht⟩) hS.2.2 d_SF_open_92
      · refine lv_icmp_eq hx hb d_SF_open_77 (tgt := 83) (by decide) (fun z9 => absurd z9 (fun z => g2 ((nI_eq (by omega) (by omega)).mp z))) (fun _ => ?_)
        refine lv_bipush (v := (-3)) hx hb d_SF_open_80 (by decide) ?_
        rw [if_neg g2] at hRe
        subst hRe
        exact W.iret (v := (-3)) hx hb hr (fun t ht _ => ⟨rfl, by rw [ht]; exact ⟨f0, f1, f2, f3, f4, hS0, hA0, hM, hB, hE9, hP⟩, hS.F ht⟩) hS.2.2 d_SF_open_82
end
section
theorem zc_MD_add : zCal y_MD_add b_MD_add 2 none 1 := ⟨zk_MD_add, zw_3, by decide, by decide, by decide +kernel⟩
theorem zc_MD_addTwo : zCal y_MD_addTwo b_MD_addTwo 2 none 1 := ⟨zk_MD_addTwo, zw_3, by decide, by decide, by decide +kernel⟩
theorem zc_MD_address : zCal y_MD_address b_MD_address 2 (some .int) 1 := ⟨zk_MD_address, zw_3, by decide, by decide, by decide +kernel⟩
theorem zc_MD_alter : zCal y_MD_alter b_MD_alter 3 (some .int) 2 := ⟨zk_MD_alter, zw_3, by decide, by decide, by decide +kernel⟩
theorem zc_MD_at : zCal y_MD_at b_MD_at 2 (some .int) 1 := ⟨zk_MD_at, zw_3, by decide, by decide, by decide +kernel⟩
theorem zc_MD_bit : zCal y_MD_bit b_MD_bit 2 (some .int) 1 := ⟨zk_MD_bit, zw_3, by decide, by decide, by decide +kernel⟩
theorem zc_MD_clear : zCal y_MD_clear b_MD_clear 2 (some .int) 0 := ⟨zk_MD_clear, zw_3, by decide, by decide, by decide +kernel⟩
theorem zc_MD_count : zCal y_MD_count b_MD_count 2 (some .int) 1 := ⟨zk_MD_count, zw_3, by decide, by decide, by decide +kernel⟩
theorem zc_MD_cut : zCal y_MD_cut b_MD_cut 2 (some .boolean) 1 := ⟨zk_MD_cut, zw_3, by decide, by decide, by decide +kernel⟩
theorem zc_MD_entry : zCal y_MD_entry b_MD_entry 11 none 3 := ⟨zk_MD_entry, zw_3, by decide, by decide, by decide +kernel⟩
theorem zc_MD_entryOf : zCal y_MD_entryOf b_MD_entryOf 6 (some .int) 1 := ⟨zk_MD_entryOf, zw_3, by decide, by decide, by decide +kernel⟩
theorem zc_MD_fails : zCal y_MD_fails b_MD_fails 2 (some .int) 1 := ⟨zk_MD_fails, zw_3, by decide, by decide, by decide +kernel⟩
theorem zc_MD_init : zCal y_MD_init b_MD_init 1 none 0 := ⟨zk_MD_init, zw_3, by decide, by decide, by decide +kernel⟩
theorem zc_MD_isKey : zCal y_MD_isKey b_MD_isKey 2 (some .boolean) 1 := ⟨zk_MD_isKey, zw_3, by decide, by decide, by decide +kernel⟩
theorem zc_MD_key : zCal y_MD_key b_MD_key 2 (some .int) 1 := ⟨zk_MD_key, zw_3, by decide, by decide, by decide +kernel⟩
theorem zc_MD_load : zCal y_MD_load b_MD_load 8 (some .int) 0 := ⟨zk_MD_load, zw_3, by decide, by decide, by decide +kernel⟩
theorem zc_MD_open : zCal y_MD_open b_MD_open 10 (some .int) 1 := ⟨zk_MD_open, zw_3, by decide, by decide, by decide +kernel⟩
theorem zc_MD_piece : zCal y_MD_piece b_MD_piece 7 (some .int) 5 := ⟨zk_MD_piece, zw_3, by decide, by decide, by decide +kernel⟩
theorem zc_MD_pieces : zCal y_MD_pieces b_MD_pieces 1 (some .int) 0 := ⟨zk_MD_pieces, zw_3, by decide, by decide, by decide +kernel⟩
theorem zc_MD_print : zCal y_MD_print b_MD_print 4 (some .int) 1 := ⟨zk_MD_print, zw_3, by decide, by decide, by decide +kernel⟩
theorem zc_MD_put : zCal y_MD_put b_MD_put 2 (some .boolean) 1 := ⟨zk_MD_put, zw_3, by decide, by decide, by decide +kernel⟩
theorem zc_MD_read : zCal y_MD_read b_MD_read 2 (some .int) 1 := ⟨zk_MD_read, zw_3, by decide, by decide, by decide +kernel⟩
theorem zc_MD_seal : zCal y_MD_seal b_MD_seal 10 (some .int) 3 := ⟨zk_MD_seal, zw_3, by decide, by decide, by decide +kernel⟩
theorem zc_MD_sign : zCal y_MD_sign b_MD_sign 9 (some .int) 3 := ⟨zk_MD_sign, zw_3, by decide, by decide, by decide +kernel⟩
theorem zc_MD_sixOf : zCal y_MD_sixOf b_MD_sixOf 1 (some .int) 1 := ⟨zk_MD_sixOf, zw_3, by decide, by decide, by decide +kernel⟩
theorem zc_MD_thrown : zCal y_MD_thrown b_MD_thrown 1 (some .int) 0 := ⟨zk_MD_thrown, zw_3, by decide, by decide, by decide +kernel⟩
theorem zc_MD_two : zCal y_MD_two b_MD_two 2 (some .int) 1 := ⟨zk_MD_two, zw_3, by decide, by decide, by decide +kernel⟩
theorem zc_MD_uncover : zCal y_MD_uncover b_MD_uncover 6 none 4 := ⟨zk_MD_uncover, zw_3, by decide, by decide, by decide +kernel⟩
theorem zc_MD_write : zCal y_MD_write b_MD_write 2 (some .boolean) 1 := ⟨zk_MD_write, zw_3, by decide, by decide, by decide +kernel⟩
/-- a SealedFilesModel: its object, and five arrays -/
abbrev zMd (cI cC : ClassId) (gg : Nat → Nat) (ft : Int32) (n0 n2 n3 rt rd n4 : Nat) (e0 e2 e3 e5 e4 : Nat → Int32) : va_W := [((gg 0), .inr (2, [.int ft, .int (nI n0), .ref (gg 1), .int (nI n2), .int (nI n3), .int (nI rt), .ref (gg 2), .ref (gg 3), .ref (gg 4), .int (nI rd), .int (nI n4), .ref (gg 5)])), ((gg 1), .inl (cI, 4, .inl e0)), ((gg 2), .inl (cI, 40, .inl e2)), ((gg 3), .inl (cI, 120, .inl e3)), ((gg 4), .inl (cI, 40, .inl e5)), ((gg 5), .inl (cC, 160, .inl e4))]
def zm_inj (h : Nat → Nat) : Prop := ∀ i j, i < 6 → j < 6 → h i = h j → i = j
def zAM (h : Nat → Nat) : Nat → Prop := fun q => ∃ i, i < 6 ∧ q = h i
theorem zMd_a {cI cC : ClassId} {gg : Nat → Nat} {ft : Int32} {n0 n2 n3 rt rd n4 : Nat} {e0 e2 e3 e5 e4 : Nat → Int32} : ∀ (k : Nat) (q : Nat × va_E), (zMd cI cC gg ft n0 n2 n3 rt rd n4 e0 e2 e3 e5 e4)[k]? = some q → k < 6 ∧ q.1 = gg k := by
  intro k q hk
  match k with
  | 0 | 1 | 2 | 3 | 4 | 5 => cases hk; exact ⟨by decide, rfl⟩
  | k + 6 => cases hk
theorem zMd_D {cI cC : ClassId} {gg : Nat → Nat} {ft : Int32} {n0 n2 n3 rt rd n4 : Nat} {e0 e2 e3 e5 e4 : Nat → Int32} (hh : zm_inj gg) : va_D (zAM gg) (zMd cI cC gg ft n0 n2 n3 rt rd n4 e0 e2 e3 e5 e4) := by
  refine ⟨fun i j p q hi hj e => ?_, fun k q hk => ⟨k, (zMd_a k q hk).1, (zMd_a k q hk).2⟩⟩
  obtain ⟨a1, a2⟩ := zMd_a i p hi
  obtain ⟨b1, b2⟩ := zMd_a j q hj
  exact hh i j a1 b1 (a2.symm.trans (e.trans b2))
def bt_ (x : Int32) (i : Nat) : Bool := x.toBitVec.getLsbD i
theorem bt_ext {x y : Int32} (h : ∀ i, i < 32 → bt_ x i = bt_ y i) : x = y := Int32.toBitVec_inj.1 (BitVec.eq_of_getLsbD_eq fun i hi => h i hi)
/-- the second byte, by either shift -/
theorem zs_shr8 (x : Int32) : (x >>> (nI 8 &&& 31)) &&& nI 255 = nI (zs_un x / 256 % 256) := by
  have h1 : (x >>> (nI 8 &&& 31)) &&& nI 255 = zs_u x (nI 8) &&& nI 255 := by
    apply bt_ext
    intro i hi
    have e1 : (x >>> (nI 8 &&& 31)).toBitVec = x.toBitVec.sshiftRight 8 := rfl
    have e2 : (zs_u x (nI 8)).toBitVec = x.toBitVec >>> 8 := rfl
    have e3 : (nI 255).toBitVec = 255#32 := rfl
    unfold bt_
    rw [Int32.toBitVec_and, Int32.toBitVec_and, BitVec.getLsbD_and, BitVec.getLsbD_and, e1, e2, e3]
    by_cases h8 : i < 8
    · rw [BitVec.getLsbD_sshiftRight, BitVec.getLsbD_ushiftRight]
      simp [hi, show 8 + i < 32 by omega, Nat.not_le.mpr hi]
    · have : (255#32).getLsbD i = false := by
        rw [show (255#32) = BitVec.ofNat 32 (2 ^ 8 - 1) from rfl, BitVec.getLsbD_ofNat, Nat.testBit_two_pow_sub_one]
        simp [h8]
      rw [this, Bool.and_false, Bool.and_false]
  have h2 := zs_un_lt x
  rw [h1, zs_u_un x (by decide), show nI (zs_un x / 2 ^ 8) &&& nI 255 = nI (zs_un x / 2 ^ 8 % 2 ^ 8) from pk_andN (by omega) 8 (by decide)]
/-- what a piece's sign says -/
def zs_pcode (B : Nat → Nat) (a e : Nat) (f : Int32) (k t : Nat) : Int32 := if zs_two B e = zs_sg B a e (zs_word f (nI k) (zs_use t)) then nI 0 else if zs_two B e = zs_sg B a e (zs_word f (nI k) (zs_use (1 - t))) then -5 else -4
/-- a bit of the file -/
def zs_bitv (n : Nat) (B : Nat → Nat) (i : Nat) : Nat := if i < 8 * n then B (i / 8) / 2 ^ (7 - i % 8) % 2 else 0
/-- the six bits of a character -/
def zs_six (c : Nat) : Int32 := if 65 ≤ c ∧ c ≤ 90 then nI (c - 65) else if 97 ≤ c ∧ c ≤ 122 then nI (26 + c - 97) else if 48 ≤ c ∧ c ≤ 57 then nI (52 + c - 48) else if c = 43 then nI 62 else if c = 45 then nI 63 else -1
set_option maxHeartbeats 4000000 in
set_option maxRecDepth 100000 in
theorem c_MD_fails (l : Launch) (D : va_G) (cI cC cJ : ClassId) (gg : Nat → Nat) (ft : Int32) (n0 n2 n3 rt rd n4 : Nat) (e0 e2 e3 e5 e4 : Nat → Int32) (hn0 : n0 ≤ 4) (hn2 : n2 ≤ 40) (hn3 : n3 ≤ 120) (hn4 : n4 ≤ 160) (hh : zm_inj gg) (x : Int32) : Met l y_MD_fails (zw k_MD_fails) ({ frames := 0, cells := 0, slots := 0, locals := 0 }) (zPc [.ref (gg 0), .int x] (fun H => va_P D zcl (zMd cI cC gg ft n0 n2 n3 rt rd n4 e0 e2 e3 e5 e4) H) D cI cC cJ) (zQm (some (.int (nI 0))) (fun H => va_P D zcl (zMd cI cC gg x n0 n2 n3 rt rd n4 e0 e2 e3 e5 e4) H) (zAM gg)) 0 0 (zAM gg) := by
  refine zMet (by decide) (Nat.le_of_ble_eq_true rfl) ?_
  intro p e s m below meth c hx hb hr hg hown hlk hml hP hE ls hl
  have hl : lv_has ls 2 [(0, .ref (gg 0)), (1, .int x)] := hl
  have hS9 : CallFix p m c b_MD_fails 2 s [.ref (gg 0), .int x].toArray zg "SealedFilesModel" := ⟨hx, hb, hml, hown, hg⟩
  have hP : va_P D zcl [((gg 0), .inr (2, [.int ft, .int (nI n0), .ref (gg 1), .int (nI n2), .int (nI n3), .int (nI rt), .ref (gg 2), .ref (gg 3), .ref (gg 4), .int (nI rd), .int (nI n4), .ref (gg 5)])), ((gg 1), .inl (cI, 4, .inl e0)), ((gg 2), .inl (cI, 40, .inl e2)), ((gg 3), .inl (cI, 120, .inl e3)), ((gg 4), .inl (cI, 40, .inl e5)), ((gg 5), .inl (cC, 160, .inl e4))] s.heap := hP
  have hD : va_D (zAM gg) [((gg 0), .inr (2, [.int ft, .int (nI n0), .ref (gg 1), .int (nI n2), .int (nI n3), .int (nI rt), .ref (gg 2), .ref (gg 3), .ref (gg 4), .int (nI rd), .int (nI n4), .ref (gg 5)])), ((gg 1), .inl (cI, 4, .inl e0)), ((gg 2), .inl (cI, 40, .inl e2)), ((gg 3), .inl (cI, 120, .inl e3)), ((gg 4), .inl (cI, 40, .inl e5)), ((gg 5), .inl (cC, 160, .inl e4))] := zMd_D hh
  have hS : va_S (zAM gg) s.heap s.heap [] := va_S.rf
  refine lv_aload_n hx hb d_MD_fails_0 rfl (lv_at hl 0 rfl) ?_
  refine lv_iload_n hx hb d_MD_fails_1 rfl (lv_at hl 1 rfl) ?_
  refine va_put (D := D) (ci := 2) (v := .int x) (ty := .int) (C := R_MD) (T := F_MD) (N := 12) hx hb hg i_MD t_MD t_MD_ok n_MD hown hE.1 hP hD hS 0 rfl rfl 0 (by decide) (hg _ zw_488) (fun _ h9 => h9) rfl (by decide +kernel) rfl rfl (Nat.le_of_ble_eq_true rfl) d_MD_fails_2 (fun H locs hP hD hS => ?_)
  have hP : va_P D zcl [((gg 0), .inr (2, [.int x, .int (nI n0), .ref (gg 1), .int (nI n2), .int (nI n3), .int (nI rt), .ref (gg 2), .ref (gg 3), .ref (gg 4), .int (nI rd), .int (nI n4), .ref (gg 5)])), ((gg 1), .inl (cI, 4, .inl e0)), ((gg 2), .inl (cI, 40, .inl e2)), ((gg 3), .inl (cI, 120, .inl e3)), ((gg 4), .inl (cI, 40, .inl e5)), ((gg 5), .inl (cC, 160, .inl e4))] H := hP
  have hD : va_D (zAM gg) [((gg 0), .inr (2, [.int x, .int (nI n0), .ref (gg 1), .int (nI n2), .int (nI n3), .int (nI rt), .ref (gg 2), .ref (gg 3), .ref (gg 4), .int (nI rd), .int (nI n4), .ref (gg 5)])), ((gg 1), .inl (cI, 4, .inl e0)), ((gg 2), .inl (cI, 40, .inl e2)), ((gg 3), .inl (cI, 120, .inl e3)), ((gg 4), .inl (cI, 40, .inl e5)), ((gg 5), .inl (cC, 160, .inl e4))] := hD
  refine lv_iconst (v := (nI 0)) hx hb d_MD_fails_5 (by decide) ?_
  exact W.iret (v := (nI 0)) hx hb hr (fun t ht _ => ⟨rfl, by rw [ht]; exact hP, hS.F ht⟩) hS.2.2 d_MD_fails_6

set_option maxHeartbeats 4000000 in
set_option maxRecDepth 100000 in
theorem c_MD_isKey (l : Launch) (D : va_G) (cI cC cJ : ClassId) (gg : Nat → Nat) (ft : Int32) (n0 n2 n3 rt rd n4 : Nat) (e0 e2 e3 e5 e4 : Nat → Int32) (hn0 : n0 ≤ 4) (hn2 : n2 ≤ 40) (hn3 : n3 ≤ 120) (hn4 : n4 ≤ 160) (i : Int32) : Met l y_MD_isKey (zw k_MD_isKey) ({ frames := 0, cells := 0, slots := 0, locals := 0 }) (zPc [.ref (gg 0), .int i] (fun H => va_P D zcl (zMd cI cC gg ft n0 n2 n3 rt rd n4 e0 e2 e3 e5 e4) H) D cI cC cJ) (QcRead (zs_has n0 i)) 0 0 (fun _ => False) := by
  refine zMet (by decide) (Nat.le_of_ble_eq_true rfl) ?_
  intro p e s m below meth c hx hb hr hg hown hlk hml hP hE ls hl
  have hl : lv_has ls 2 [(0, .ref (gg 0)), (1, .int i)] := hl
  have hS9 : CallFix p m c b_MD_isKey 2 s [.ref (gg 0), .int i].toArray zg "SealedFilesModel" := ⟨hx, hb, hml, hown, hg⟩
  have hP : va_P D zcl [((gg 0), .inr (2, [.int ft, .int (nI n0), .ref (gg 1), .int (nI n2), .int (nI n3), .int (nI rt), .ref (gg 2), .ref (gg 3), .ref (gg 4), .int (nI rd), .int (nI n4), .ref (gg 5)])), ((gg 1), .inl (cI, 4, .inl e0)), ((gg 2), .inl (cI, 40, .inl e2)), ((gg 3), .inl (cI, 120, .inl e3)), ((gg 4), .inl (cI, 40, .inl e5)), ((gg 5), .inl (cC, 160, .inl e4))] s.heap := hP
  refine lv_iload_n hx hb d_MD_isKey_0 rfl (lv_at hl 1 rfl) ?_
  refine lv_if_lt hx hb d_MD_isKey_1 (tgt := 16) (by decide) (fun h => ?_) (fun h => ?_)
  · refine lv_iconst (v := (nI 0)) hx hb d_MD_isKey_16 (by decide) ?_
    exact W.zret (v := (nI 0)) hx hb hr (rfl) (fun t ht _ => ⟨congrArg (fun z => Outcome.returned (some (Value.int z))) (by rw [zs_has, if_pos h]), ht⟩) t_nil d_MD_isKey_17
  · refine lv_iload_n hx hb d_MD_isKey_4 rfl (lv_at hl 1 rfl) ?_
    refine lv_aload_n hx hb d_MD_isKey_5 rfl (lv_at hl 0 rfl) ?_
    refine va_get (D := D) (ci := 2) (v := .int (nI n0)) (C := R_MD) (T := F_MD) (N := 12) hx hb hg i_MD hown hE.1 hP 0 rfl rfl 1 (by decide) (hg _ zw_489) (fun _ h9 => h9) rfl d_MD_isKey_6 ?_
    refine lv_icmp_ge hx hb d_MD_isKey_9 (tgt := 16) (by decide) (fun h2 => ?_) (fun h2 => ?_)
    · refine lv_iconst (v := (nI 0)) hx hb d_MD_isKey_16 (by decide) ?_
      exact W.zret (v := (nI 0)) hx hb hr (rfl) (fun t ht _ => ⟨congrArg (fun z => Outcome.returned (some (Value.int z))) (by rw [zs_has, if_neg h, if_pos h2]), ht⟩) t_nil d_MD_isKey_17
    · refine lv_iconst (v := (nI 1)) hx hb d_MD_isKey_12 (by decide) ?_
      refine lv_goto hx hb d_MD_isKey_13 (tgt := 17) (by decide) ?_
      exact W.zret (v := (nI 1)) hx hb hr (rfl) (fun t ht _ => ⟨congrArg (fun z => Outcome.returned (some (Value.int z))) (by rw [zs_has, if_neg h, if_neg h2]), ht⟩) t_nil d_MD_isKey_17

set_option maxHeartbeats 4000000 in
set_option maxRecDepth 100000 in
theorem c_MD_two (l : Launch) (D : va_G) (cI cC cJ : ClassId) (gg : Nat → Nat) (ft : Int32) (n0 n2 n3 rt rd n4 : Nat) (e0 e2 e3 e5 e4 : Nat → Int32) (hn0 : n0 ≤ 4) (hn2 : n2 ≤ 40) (hn3 : n3 ≤ 120) (hn4 : n4 ≤ 160) (B : Nat → Nat) (hB : zs_hold 256 e3 (n3, B)) (j : Nat) (hj : j + 1 < n3) : Met l y_MD_two (zw k_MD_two) ({ frames := 0, cells := 0, slots := 0, locals := 0 }) (zPc [.ref (gg 0), .int (nI j)] (fun H => va_P D zcl (zMd cI cC gg ft n0 n2 n3 rt rd n4 e0 e2 e3 e5 e4) H) D cI cC cJ) (QcRead (nI (zs_two B j))) 0 0 (fun _ => False) := by
  refine zMet (by decide) (Nat.le_of_ble_eq_true rfl) ?_
  intro p e s m below meth c hx hb hr hg hown hlk hml hP hE ls hl
  have hl : lv_has ls 2 [(0, .ref (gg 0)), (1, .int (nI j))] := hl
  have hS9 : CallFix p m c b_MD_two 2 s [.ref (gg 0), .int (nI j)].toArray zg "SealedFilesModel" := ⟨hx, hb, hml, hown, hg⟩
  have hP : va_P D zcl [((gg 0), .inr (2, [.int ft, .int (nI n0), .ref (gg 1), .int (nI n2), .int (nI n3), .int (nI rt), .ref (gg 2), .ref (gg 3), .ref (gg 4), .int (nI rd), .int (nI n4), .ref (gg 5)])), ((gg 1), .inl (cI, 4, .inl e0)), ((gg 2), .inl (cI, 40, .inl e2)), ((gg 3), .inl (cI, 120, .inl e3)), ((gg 4), .inl (cI, 40, .inl e5)), ((gg 5), .inl (cC, 160, .inl e4))] s.heap := hP
  refine lv_aload_n hx hb d_MD_two_0 rfl (lv_at hl 0 rfl) ?_
  refine va_get (D := D) (ci := 2) (v := .ref (gg 3)) (C := R_MD) (T := F_MD) (N := 12) hx hb hg i_MD hown hE.1 hP 0 rfl rfl 7 (by decide) (hg _ zw_495) (fun _ h9 => h9) rfl d_MD_two_1 ?_
  refine lv_iload_n hx hb d_MD_two_4 rfl (lv_at hl 1 rfl) ?_
  refine zald hx hb hE.1 hP 3 0 rfl rfl (by omega) (by decide) d_MD_two_5 ?_
  refine ztop (y := nI (B j)) ((hB j (show j < n3 by omega)).1) ?_
  refine lv_sipush (v := (nI 256)) hx hb d_MD_two_6 (by decide) ?_
  refine lv_imul hx hb d_MD_two_9 ?_
  refine lv_aload_n hx hb d_MD_two_10 rfl (lv_at hl 0 rfl) ?_
  refine va_get (D := D) (ci := 2) (v := .ref (gg 3)) (C := R_MD) (T := F_MD) (N := 12) hx hb hg i_MD hown hE.1 hP 0 rfl rfl 7 (by decide) (hg _ zw_495) (fun _ h9 => h9) rfl d_MD_two_11 ?_
  refine lv_iload_n hx hb d_MD_two_14 rfl (lv_at hl 1 rfl) ?_
  refine lv_iconst (v := (nI 1)) hx hb d_MD_two_15 (by decide) ?_
  refine lv_iadd hx hb d_MD_two_16 ?_
  refine ztop (y := nI (j + 1)) (nI_add _ _) ?_
  refine zald hx hb hE.1 hP 3 0 rfl rfl (by omega) (by decide) d_MD_two_17 ?_
  refine ztop (y := nI (B (j + 1))) ((hB (j + 1) (show j + 1 < n3 by omega)).1) ?_
  refine lv_iadd hx hb d_MD_two_18 ?_
  exact W.iret (v := (((nI (B j)) * (nI 256)) + (nI (B (j + 1))))) hx hb hr (fun t ht _ => ⟨congrArg (fun z => Outcome.returned (some (Value.int z))) (by rw [pk_mul, nI_add]; rfl), ht⟩) t_nil d_MD_two_19

set_option maxHeartbeats 4000000 in
set_option maxRecDepth 100000 in
theorem c_MD_sign (l : Launch) (D : va_G) (cI cC cJ : ClassId) (gg : Nat → Nat) (ft : Int32) (n0 n2 n3 rt rd n4 : Nat) (e0 e2 e3 e5 e4 : Nat → Int32) (hn0 : n0 ≤ 4) (hn2 : n2 ≤ 40) (hn3 : n3 ≤ 120) (hn4 : n4 ≤ 160) (B : Nat → Nat) (hB : zs_hold 256 e3 (n3, B)) (a b : Nat) (hab : a ≤ b) (hbn : b ≤ n3) (g : Int32) : Met l y_MD_sign (zw k_MD_sign) ({ frames := 0, cells := 0, slots := 0, locals := 0 }) (zPc [.ref (gg 0), .int (nI a), .int (nI b), .int g] (fun H => va_P D zcl (zMd cI cC gg ft n0 n2 n3 rt rd n4 e0 e2 e3 e5 e4) H) D cI cC cJ) (QcRead (nI (zs_sg B a b g))) 0 0 (fun _ => False) := by
  refine zMet (by decide) (Nat.le_of_ble_eq_true rfl) ?_
  intro p e s m below meth c hx hb hr hg hown hlk hml hP hE ls hl
  have hl : lv_has ls 9 [(0, .ref (gg 0)), (1, .int (nI a)), (2, .int (nI b)), (3, .int g)] := hl
  have hS9 : CallFix p m c b_MD_sign 9 s [.ref (gg 0), .int (nI a), .int (nI b), .int g].toArray zg "SealedFilesModel" := ⟨hx, hb, hml, hown, hg⟩
  have hP : va_P D zcl [((gg 0), .inr (2, [.int ft, .int (nI n0), .ref (gg 1), .int (nI n2), .int (nI n3), .int (nI rt), .ref (gg 2), .ref (gg 3), .ref (gg 4), .int (nI rd), .int (nI n4), .ref (gg 5)])), ((gg 1), .inl (cI, 4, .inl e0)), ((gg 2), .inl (cI, 40, .inl e2)), ((gg 3), .inl (cI, 120, .inl e3)), ((gg 4), .inl (cI, 40, .inl e5)), ((gg 5), .inl (cC, 160, .inl e4))] s.heap := hP
  refine lv_lconst (v := lN 1) hx hb d_MD_sign_0 (by decide) ?_
  refine lv_iload_n hx hb d_MD_sign_1 rfl (lv_at hl 3 rfl) ?_
  refine lv_bipush (v := (nI 8)) hx hb d_MD_sign_2 (by decide) ?_
  refine lv_iushr (v := zs_u g (nI 8)) hx hb d_MD_sign_4 rfl ?_
  refine lv_ldc (v := (nI 65520)) hx hb hown (hg _ zw_589) d_MD_sign_5 ?_
  refine lv_irem hx hb d_MD_sign_7 (by decide) ?_
  refine ztop (y := nI (zs_un g / 2 ^ 8 % 65520)) (zs_fac_r g) ?_
  refine lv_i2l hx hb d_MD_sign_8 rfl ?_
  refine ztopl (y := lN (zs_un g / 2 ^ 8 % 65520)) (nI_l (by omega)) ?_
  refine lv_ladd hx hb d_MD_sign_9 ?_
  refine ztopl (y := lN (zs_fac g)) (lN_add _ _) ?_
  refine lv_lstore hx hb d_MD_sign_10 hl (by decide) (lv' := [(4, .long (lN (zs_fac g))), (0, .ref (gg 0)), (1, .int (nI a)), (2, .int (nI b)), (3, .int g)]) rfl (fun ls hl => ?_)
  refine lv_lconst (v := lN 0) hx hb d_MD_sign_12 (by decide) ?_
  refine ztopl (y := lN (zs_sgt B (zs_fac g) a 0)) (rfl) ?_
  refine lv_lstore hx hb d_MD_sign_13 hl (by decide) (lv' := [(6, .long (lN (zs_sgt B (zs_fac g) a 0))), (4, .long (lN (zs_fac g))), (0, .ref (gg 0)), (1, .int (nI a)), (2, .int (nI b)), (3, .int g)]) rfl (fun ls hl => ?_)
  refine lv_iload_n hx hb d_MD_sign_15 rfl (lv_at hl 3 rfl) ?_
  refine lv_istore hx hb d_MD_sign_16 hl (by decide) (lv' := [(8, .int (nI a)), (6, .long (lN (zs_sgt B (zs_fac g) a 0))), (4, .long (lN (zs_fac g))), (0, .ref (gg 0)), (1, .int (nI a)), (2, .int (nI b)), (3, .int g)]) rfl (fun ls hl => ?_)
  have hl : lv_has ls 9 [(8, .int (nI a)), (6, .long (lN (zs_sgt B (zs_fac g) a 0))), (4, .long (lN (zs_fac g))), (0, .ref (gg 0)), (1, .int (nI a)), (2, .int (nI b)), (3, .int g)] := lv_sub hl [0, 1, 2, 3, 4, 5, 6] rfl
  have loop : ∀ (k : Nat) (i : Nat), i + k = b - a → ∀ ls : Array Slot, lv_has ls 9 [(8, .int (nI (a + i))), (6, .long (lN (zs_sgt B (zs_fac g) a i))), (4, .long (lN (zs_fac g))), (0, .ref (gg 0)), (1, .int (nI a)), (2, .int (nI b)), (3, .int g)] → W p l e ({ frames := 0, cells := 0, slots := 0, locals := 0 }) s m [.ref (gg 0), .int (nI a), .int (nI b), .int g].toArray below meth c s.heap [] 0 0 (MQ below (QcRead (nI (zs_sg B a b g))) [.ref (gg 0), .int (nI a), .int (nI b), .int g].toArray s 0 0 (fun _ => False)) (F0 m 18 ls []) := by
    intro k
    induction k with
    | zero =>
      intro i hi ls hl
      refine lv_iload hx hb d_MD_sign_18 (lv_at hl 0 rfl) ?_
      refine lv_iload_n hx hb d_MD_sign_20 rfl (lv_at hl 5 rfl) ?_
      refine lv_icmp_ge hx hb d_MD_sign_21 (tgt := 52) (by decide) (fun _ => ?_) (fun z9 => absurd (nI_le (by omega) (by omega)) z9)
      refine lv_lload hx hb d_MD_sign_52 (lv_at hl 1 rfl) ?_
      refine lv_iload_n hx hb d_MD_sign_54 rfl (lv_at hl 6 rfl) ?_
      refine lv_sipush (v := (nI 255)) hx hb d_MD_sign_55 (by decide) ?_
      refine lv_iand hx hb d_MD_sign_58 ?_
      refine ztop (y := nI (zs_un g % 2 ^ 8)) (zs_and g 8 (by decide)) ?_
      refine lv_i2l hx hb d_MD_sign_59 rfl ?_
      refine ztopl (y := lN (zs_un g % 2 ^ 8)) (nI_l (by omega)) ?_
      refine lv_ladd hx hb d_MD_sign_60 ?_
      refine lv_ldc2 (v := lN 65521) hx hb hown (hg _ zw_590) d_MD_sign_61 ?_
      refine lv_lrem hx hb d_MD_sign_64 (by decide) ?_
      refine ztopl (y := lN ((zs_sgt B (zs_fac g) a i + zs_un g % 2 ^ 8) % 65521)) (zs_sgt_fin B (zs_fac g) a i (by omega)) ?_
      refine lv_l2i hx hb d_MD_sign_65 rfl ?_
      refine ztop (y := nI ((zs_sgt B (zs_fac g) a i + zs_un g % 2 ^ 8) % 65521)) (lN_i _) ?_
      exact W.iret (v := (nI ((zs_sgt B (zs_fac g) a i + zs_un g % 2 ^ 8) % 65521))) hx hb hr (fun t ht _ => ⟨congrArg (fun z => Outcome.returned (some (Value.int z))) (by rw [zs_sg, show b - a = i by omega]), ht⟩) t_nil d_MD_sign_66
    | succ k ih =>
      intro i hi ls hl
      refine lv_iload hx hb d_MD_sign_18 (lv_at hl 0 rfl) ?_
      refine lv_iload_n hx hb d_MD_sign_20 rfl (lv_at hl 5 rfl) ?_
      refine lv_icmp_ge hx hb d_MD_sign_21 (tgt := 52) (by decide) (fun z9 => absurd z9 (nI_ge (show a + i < b by omega) (by omega))) (fun _ => ?_)
      refine lv_lload hx hb d_MD_sign_24 (lv_at hl 1 rfl) ?_
      refine lv_aload_n hx hb d_MD_sign_26 rfl (lv_at hl 3 rfl) ?_
      refine va_get (D := D) (ci := 2) (v := .ref (gg 3)) (C := R_MD) (T := F_MD) (N := 12) hx hb hg i_MD hown hE.1 hP 0 rfl rfl 7 (by decide) (hg _ zw_495) (fun _ h9 => h9) rfl d_MD_sign_27 ?_
      refine lv_iload hx hb d_MD_sign_30 (lv_at hl 0 rfl) ?_
      refine zald hx hb hE.1 hP 3 0 rfl rfl (by omega) (by decide) d_MD_sign_32 ?_
      refine ztop (y := nI (B (a + i))) ((hB (a + i) (show a + i < n3 by omega)).1) ?_
      refine lv_i2l hx hb d_MD_sign_33 rfl ?_
      refine ztopl (y := lN (B (a + i))) (nI_l (by have h8 : B (a + i) < 256 := (hB (a + i) (show a + i < n3 by omega)).2; omega)) ?_
      refine lv_ladd hx hb d_MD_sign_34 ?_
      refine lv_lconst (v := lN 1) hx hb d_MD_sign_35 (by decide) ?_
      refine lv_ladd hx hb d_MD_sign_36 ?_
      refine lv_lload hx hb d_MD_sign_37 (lv_at hl 2 rfl) ?_
      refine lv_lmul hx hb d_MD_sign_39 ?_
      refine lv_ldc2 (v := lN 65521) hx hb hown (hg _ zw_590) d_MD_sign_40 ?_
      refine lv_lrem hx hb d_MD_sign_43 (by decide) ?_
      refine ztopl (y := lN (zs_sgt B (zs_fac g) a (i + 1))) (zs_sgt_step (zs_fac_le g) ((hB (a + i) (show a + i < n3 by omega)).2) rfl) ?_
      refine lv_lstore hx hb d_MD_sign_44 hl (by decide) (lv' := [(6, .long (lN (zs_sgt B (zs_fac g) a (i + 1)))), (8, .int (nI (a + i))), (4, .long (lN (zs_fac g))), (0, .ref (gg 0)), (1, .int (nI a)), (2, .int (nI b)), (3, .int g)]) rfl (fun ls hl => ?_)
      refine lv_iinc (k := 1) (v := nI (a + (i + 1))) hx hb d_MD_sign_46 hl rfl (nI_1 (a + i)) (by decide) (lv' := [(8, .int (nI (a + (i + 1)))), (6, .long (lN (zs_sgt B (zs_fac g) a (i + 1)))), (4, .long (lN (zs_fac g))), (0, .ref (gg 0)), (1, .int (nI a)), (2, .int (nI b)), (3, .int g)]) rfl (fun ls hl => ?_)
      refine lv_goto hx hb d_MD_sign_49 (tgt := 18) (by decide) ?_
      have hl : lv_has ls 9 [(8, .int (nI (a + (i + 1)))), (6, .long (lN (zs_sgt B (zs_fac g) a (i + 1)))), (4, .long (lN (zs_fac g))), (0, .ref (gg 0)), (1, .int (nI a)), (2, .int (nI b)), (3, .int g)] := lv_sub hl [0, 1, 2, 3, 4, 5, 6] rfl
      exact ih (i + 1) (by omega) ls hl
  exact loop (b - a) 0 (by omega) ls hl

set_option maxHeartbeats 4000000 in
set_option maxRecDepth 100000 in
theorem c_MD_add (l : Launch) (D : va_G) (cI cC cJ : ClassId) (gg : Nat → Nat) (ft : Int32) (n0 n2 n3 rt rd n4 : Nat) (e0 e2 e3 e5 e4 : Nat → Int32) (hn0 : n0 ≤ 4) (hn2 : n2 ≤ 40) (hn3 : n3 ≤ 120) (hn4 : n4 ≤ 160) (hh : zm_inj gg) (x : Int32) (hr9 : n3 < 120) : Met l y_MD_add (zw k_MD_add) ({ frames := 0, cells := 0, slots := 0, locals := 0 }) (zPc [.ref (gg 0), .int x] (fun H => va_P D zcl (zMd cI cC gg ft n0 n2 n3 rt rd n4 e0 e2 e3 e5 e4) H) D cI cC cJ) (zQm none (fun H => va_P D zcl (zMd cI cC gg ft n0 n2 (n3 + 1) rt rd n4 e0 e2 (upd e3 n3 (x &&& nI 255)) e5 e4) H) (zAM gg)) 0 0 (zAM gg) := by
  refine zMet (by decide) (Nat.le_of_ble_eq_true rfl) ?_
  intro p e s m below meth c hx hb hr hg hown hlk hml hP hE ls hl
  have hl : lv_has ls 2 [(0, .ref (gg 0)), (1, .int x)] := hl
  have hS9 : CallFix p m c b_MD_add 2 s [.ref (gg 0), .int x].toArray zg "SealedFilesModel" := ⟨hx, hb, hml, hown, hg⟩
  have hP : va_P D zcl [((gg 0), .inr (2, [.int ft, .int (nI n0), .ref (gg 1), .int (nI n2), .int (nI n3), .int (nI rt), .ref (gg 2), .ref (gg 3), .ref (gg 4), .int (nI rd), .int (nI n4), .ref (gg 5)])), ((gg 1), .inl (cI, 4, .inl e0)), ((gg 2), .inl (cI, 40, .inl e2)), ((gg 3), .inl (cI, 120, .inl e3)), ((gg 4), .inl (cI, 40, .inl e5)), ((gg 5), .inl (cC, 160, .inl e4))] s.heap := hP
  have hD : va_D (zAM gg) [((gg 0), .inr (2, [.int ft, .int (nI n0), .ref (gg 1), .int (nI n2), .int (nI n3), .int (nI rt), .ref (gg 2), .ref (gg 3), .ref (gg 4), .int (nI rd), .int (nI n4), .ref (gg 5)])), ((gg 1), .inl (cI, 4, .inl e0)), ((gg 2), .inl (cI, 40, .inl e2)), ((gg 3), .inl (cI, 120, .inl e3)), ((gg 4), .inl (cI, 40, .inl e5)), ((gg 5), .inl (cC, 160, .inl e4))] := zMd_D hh
  have hS : va_S (zAM gg) s.heap s.heap [] := va_S.rf
  refine lv_aload_n hx hb d_MD_add_0 rfl (lv_at hl 0 rfl) ?_
  refine va_get (D := D) (ci := 2) (v := .ref (gg 3)) (C := R_MD) (T := F_MD) (N := 12) hx hb hg i_MD hown hE.1 hP 0 rfl rfl 7 (by decide) (hg _ zw_495) (fun _ h9 => h9) rfl d_MD_add_1 ?_
  refine lv_aload_n hx hb d_MD_add_4 rfl (lv_at hl 0 rfl) ?_
  refine va_get (D := D) (ci := 2) (v := .int (nI n3)) (C := R_MD) (T := F_MD) (N := 12) hx hb hg i_MD hown hE.1 hP 0 rfl rfl 4 (by decide) (hg _ zw_492) (fun _ h9 => h9) rfl d_MD_add_5 ?_
  refine lv_iload_n hx hb d_MD_add_8 rfl (lv_at hl 1 rfl) ?_
  refine lv_sipush (v := (nI 255)) hx hb d_MD_add_9 (by decide) ?_
  refine lv_iand hx hb d_MD_add_12 ?_
  refine zast hx hb hE.1 hP hD hS 3 0 rfl rfl (hr9) (by decide) d_MD_add_13 (fun H locs hP hD hS => ?_)
  have hP : va_P D zcl [((gg 0), .inr (2, [.int ft, .int (nI n0), .ref (gg 1), .int (nI n2), .int (nI n3), .int (nI rt), .ref (gg 2), .ref (gg 3), .ref (gg 4), .int (nI rd), .int (nI n4), .ref (gg 5)])), ((gg 1), .inl (cI, 4, .inl e0)), ((gg 2), .inl (cI, 40, .inl e2)), ((gg 3), .inl (cI, 120, .inl (upd e3 n3 (x &&& (nI 255))))), ((gg 4), .inl (cI, 40, .inl e5)), ((gg 5), .inl (cC, 160, .inl e4))] H := hP
  have hD : va_D (zAM gg) [((gg 0), .inr (2, [.int ft, .int (nI n0), .ref (gg 1), .int (nI n2), .int (nI n3), .int (nI rt), .ref (gg 2), .ref (gg 3), .ref (gg 4), .int (nI rd), .int (nI n4), .ref (gg 5)])), ((gg 1), .inl (cI, 4, .inl e0)), ((gg 2), .inl (cI, 40, .inl e2)), ((gg 3), .inl (cI, 120, .inl (upd e3 n3 (x &&& (nI 255))))), ((gg 4), .inl (cI, 40, .inl e5)), ((gg 5), .inl (cC, 160, .inl e4))] := hD
  refine lv_aload_n hx hb d_MD_add_14 rfl (lv_at hl 0 rfl) ?_
  refine lv_dup hx hb d_MD_add_15 rfl ?_
  refine va_get (D := D) (ci := 2) (v := .int (nI n3)) (C := R_MD) (T := F_MD) (N := 12) hx hb hg i_MD hown hE.1 hP 0 rfl rfl 4 (by decide) (hg _ zw_492) (fun _ h9 => h9) rfl d_MD_add_16 ?_
  refine lv_iconst (v := (nI 1)) hx hb d_MD_add_19 (by decide) ?_
  refine lv_iadd hx hb d_MD_add_20 ?_
  refine ztop (y := nI (n3 + 1)) (nI_1 _) ?_
  refine va_put (D := D) (ci := 2) (v := .int (nI (n3 + 1))) (ty := .int) (C := R_MD) (T := F_MD) (N := 12) hx hb hg i_MD t_MD t_MD_ok n_MD hown hE.1 hP hD hS 0 rfl rfl 4 (by decide) (hg _ zw_492) (fun _ h9 => h9) rfl (by decide +kernel) rfl rfl (Nat.le_of_ble_eq_true rfl) d_MD_add_21 (fun H locs hP hD hS => ?_)
  have hP : va_P D zcl [((gg 0), .inr (2, [.int ft, .int (nI n0), .ref (gg 1), .int (nI n2), .int (nI (n3 + 1)), .int (nI rt), .ref (gg 2), .ref (gg 3), .ref (gg 4), .int (nI rd), .int (nI n4), .ref (gg 5)])), ((gg 1), .inl (cI, 4, .inl e0)), ((gg 2), .inl (cI, 40, .inl e2)), ((gg 3), .inl (cI, 120, .inl (upd e3 n3 (x &&& (nI 255))))), ((gg 4), .inl (cI, 40, .inl e5)), ((gg 5), .inl (cC, 160, .inl e4))] H := hP
  have hD : va_D (zAM gg) [((gg 0), .inr (2, [.int ft, .int (nI n0), .ref (gg 1), .int (nI n2), .int (nI (n3 + 1)), .int (nI rt), .ref (gg 2), .ref (gg 3), .ref (gg 4), .int (nI rd), .int (nI n4), .ref (gg 5)])), ((gg 1), .inl (cI, 4, .inl e0)), ((gg 2), .inl (cI, 40, .inl e2)), ((gg 3), .inl (cI, 120, .inl (upd e3 n3 (x &&& (nI 255))))), ((gg 4), .inl (cI, 40, .inl e5)), ((gg 5), .inl (cC, 160, .inl e4))] := hD
  exact W.vret hx hb hr (fun t ht _ => ⟨rfl, by rw [ht]; exact hP, hS.F ht⟩) hS.2.2 d_MD_add_24

set_option maxHeartbeats 4000000 in
set_option maxRecDepth 100000 in
theorem c_MD_addTwo (l : Launch) (D : va_G) (cI cC cJ : ClassId) (gg : Nat → Nat) (ft : Int32) (n0 n2 n3 rt rd n4 : Nat) (e0 e2 e3 e5 e4 : Nat → Int32) (hn0 : n0 ≤ 4) (hn2 : n2 ≤ 40) (hn3 : n3 ≤ 120) (hn4 : n4 ≤ 160) (hh : zm_inj gg) (x : Int32) (hr9 : n3 + 2 ≤ 120) : Met l y_MD_addTwo (zw k_MD_addTwo) ({ frames := 1, cells := 0, slots := 0, locals := 21 }) (zPc [.ref (gg 0), .int x] (fun H => va_P D zcl (zMd cI cC gg ft n0 n2 n3 rt rd n4 e0 e2 e3 e5 e4) H) D cI cC cJ) (zQm none (fun H => va_P D zcl (zMd cI cC gg ft n0 n2 (n3 + 2) rt rd n4 e0 e2 (upd (upd e3 n3 (nI ((zs_un x % 65536) / 256))) (n3 + 1) (nI ((zs_un x % 65536) % 256))) e5 e4) H) (zAM gg)) 0 0 (zAM gg) := by
  refine zMet (by decide) (Nat.le_of_ble_eq_true rfl) ?_
  intro p e s m below meth c hx hb hr hg hown hlk hml hP hE ls hl
  have hl : lv_has ls 2 [(0, .ref (gg 0)), (1, .int x)] := hl
  have hS9 : CallFix p m c b_MD_addTwo 2 s [.ref (gg 0), .int x].toArray zg "SealedFilesModel" := ⟨hx, hb, hml, hown, hg⟩
  have hP : va_P D zcl [((gg 0), .inr (2, [.int ft, .int (nI n0), .ref (gg 1), .int (nI n2), .int (nI n3), .int (nI rt), .ref (gg 2), .ref (gg 3), .ref (gg 4), .int (nI rd), .int (nI n4), .ref (gg 5)])), ((gg 1), .inl (cI, 4, .inl e0)), ((gg 2), .inl (cI, 40, .inl e2)), ((gg 3), .inl (cI, 120, .inl e3)), ((gg 4), .inl (cI, 40, .inl e5)), ((gg 5), .inl (cC, 160, .inl e4))] s.heap := hP
  have hD : va_D (zAM gg) [((gg 0), .inr (2, [.int ft, .int (nI n0), .ref (gg 1), .int (nI n2), .int (nI n3), .int (nI rt), .ref (gg 2), .ref (gg 3), .ref (gg 4), .int (nI rd), .int (nI n4), .ref (gg 5)])), ((gg 1), .inl (cI, 4, .inl e0)), ((gg 2), .inl (cI, 40, .inl e2)), ((gg 3), .inl (cI, 120, .inl e3)), ((gg 4), .inl (cI, 40, .inl e5)), ((gg 5), .inl (cC, 160, .inl e4))] := zMd_D hh
  have hS : va_S (zAM gg) s.heap s.heap [] := va_S.rf
  refine lv_aload_n hx hb d_MD_addTwo_0 rfl (lv_at hl 0 rfl) ?_
  refine lv_iload_n hx hb d_MD_addTwo_1 rfl (lv_at hl 1 rfl) ?_
  refine lv_bipush (v := (nI 8)) hx hb d_MD_addTwo_2 (by decide) ?_
  refine lv_ishr hx hb d_MD_addTwo_4 ?_
  refine zWr (rest := []) (zrV hS9 (c_MD_add l D cI cC cJ gg ft n0 n2 n3 rt rd n4 e0 e2 e3 e5 e4 (by omega) (by omega) (by omega) (by omega) hh (x >>> (nI 8 &&& 31)) (by omega)) zc_MD_add zw_565 zw_567 zp_28 (by decide) (va_recv hE.1 hP (ci := 2) (q := (R_MD, F_MD, 12)) rfl (q0 := 0) rfl) (hP) hE rfl hl.1 rfl (Nat.le_of_ble_eq_true rfl) d_MD_addTwo_5) hS (fun _ _ h => h) (fun _ h => h) (fun H locs hP hz hk9 hS => ?_)
  have hP : va_P D zcl [((gg 0), .inr (2, [.int ft, .int (nI n0), .ref (gg 1), .int (nI n2), .int (nI (n3 + 1)), .int (nI rt), .ref (gg 2), .ref (gg 3), .ref (gg 4), .int (nI rd), .int (nI n4), .ref (gg 5)])), ((gg 1), .inl (cI, 4, .inl e0)), ((gg 2), .inl (cI, 40, .inl e2)), ((gg 3), .inl (cI, 120, .inl (upd e3 n3 ((x >>> (nI 8 &&& 31)) &&& nI 255)))), ((gg 4), .inl (cI, 40, .inl e5)), ((gg 5), .inl (cC, 160, .inl e4))] H := hP
  have hD : va_D (zAM gg) [((gg 0), .inr (2, [.int ft, .int (nI n0), .ref (gg 1), .int (nI n2), .int (nI (n3 + 1)), .int (nI rt), .ref (gg 2), .ref (gg 3), .ref (gg 4), .int (nI rd), .int (nI n4), .ref (gg 5)])), ((gg 1), .inl (cI, 4, .inl e0)), ((gg 2), .inl (cI, 40, .inl e2)), ((gg 3), .inl (cI, 120, .inl (upd e3 n3 ((x >>> (nI 8 &&& 31)) &&& nI 255)))), ((gg 4), .inl (cI, 40, .inl e5)), ((gg 5), .inl (cC, 160, .inl e4))] := zMd_D hh
  refine lv_aload_n hx hb d_MD_addTwo_8 rfl (lv_at hl 0 rfl) ?_
  refine lv_iload_n hx hb d_MD_addTwo_9 rfl (lv_at hl 1 rfl) ?_
  refine zWr (rest := []) (zrV hS9 (c_MD_add l D cI cC cJ gg ft n0 n2 (n3 + 1) rt rd n4 e0 e2 (upd e3 n3 ((x >>> (nI 8 &&& 31)) &&& nI 255)) e5 e4 (by omega) (by omega) (by omega) (by omega) hh x (by omega)) zc_MD_add zw_565 zw_567 zp_28 (by decide) (va_recv hE.1 hP (ci := 2) (q := (R_MD, F_MD, 12)) rfl (q0 := 0) rfl) (hP) hE rfl hl.1 rfl (Nat.le_of_ble_eq_true rfl) d_MD_addTwo_10) hS (fun _ _ h => h) (fun _ h => h) (fun H locs hP hz hk9 hS => ?_)
  have hP : va_P D zcl [((gg 0), .inr (2, [.int ft, .int (nI n0), .ref (gg 1), .int (nI n2), .int (nI (n3 + 2)), .int (nI rt), .ref (gg 2), .ref (gg 3), .ref (gg 4), .int (nI rd), .int (nI n4), .ref (gg 5)])), ((gg 1), .inl (cI, 4, .inl e0)), ((gg 2), .inl (cI, 40, .inl e2)), ((gg 3), .inl (cI, 120, .inl (upd (upd e3 n3 ((x >>> (nI 8 &&& 31)) &&& nI 255)) (n3 + 1) (x &&& nI 255)))), ((gg 4), .inl (cI, 40, .inl e5)), ((gg 5), .inl (cC, 160, .inl e4))] H := hP
  have hD : va_D (zAM gg) [((gg 0), .inr (2, [.int ft, .int (nI n0), .ref (gg 1), .int (nI n2), .int (nI (n3 + 2)), .int (nI rt), .ref (gg 2), .ref (gg 3), .ref (gg 4), .int (nI rd), .int (nI n4), .ref (gg 5)])), ((gg 1), .inl (cI, 4, .inl e0)), ((gg 2), .inl (cI, 40, .inl e2)), ((gg 3), .inl (cI, 120, .inl (upd (upd e3 n3 ((x >>> (nI 8 &&& 31)) &&& nI 255)) (n3 + 1) (x &&& nI 255)))), ((gg 4), .inl (cI, 40, .inl e5)), ((gg 5), .inl (cC, 160, .inl e4))] := zMd_D hh
  rw [zs_shr8, show x &&& nI 255 = nI (zs_un x % 256) from zs_and x 8 (by decide), show zs_un x / 256 % 256 = (zs_un x % 65536) / 256 by omega, show zs_un x % 256 = (zs_un x % 65536) % 256 by omega] at hP
  exact W.vret hx hb hr (fun t ht _ => ⟨rfl, by rw [ht]; exact hP, hS.F ht⟩) hS.2.2 d_MD_addTwo_13

set_option maxHeartbeats 4000000 in
set_option maxRecDepth 100000 in
theorem c_MD_bit (l : Launch) (D : va_G) (cI cC cJ : ClassId) (gg : Nat → Nat) (ft : Int32) (n0 n2 n3 rt rd n4 : Nat) (e0 e2 e3 e5 e4 : Nat → Int32) (hn0 : n0 ≤ 4) (hn2 : n2 ≤ 40) (hn3 : n3 ≤ 120) (hn4 : n4 ≤ 160) (B : Nat → Nat) (hB : zs_hold 256 e3 (n3, B)) (i : Nat) (hi : i < 2 ^ 20) : Met l y_MD_bit (zw k_MD_bit) ({ frames := 0, cells := 0, slots := 0, locals := 0 }) (zPc [.ref (gg 0), .int (nI i)] (fun H => va_P D zcl (zMd cI cC gg ft n0 n2 n3 rt rd n4 e0 e2 e3 e5 e4) H) D cI cC cJ) (QcRead (nI (zs_bitv n3 B i))) 0 0 (fun _ => False) := by
  refine zMet (by decide) (Nat.le_of_ble_eq_true rfl) ?_
  intro p e s m below meth c hx hb hr hg hown hlk hml hP hE ls hl
  have hl : lv_has ls 2 [(0, .ref (gg 0)), (1, .int (nI i))] := hl
  have hS9 : CallFix p m c b_MD_bit 2 s [.ref (gg 0), .int (nI i)].toArray zg "SealedFilesModel" := ⟨hx, hb, hml, hown, hg⟩
  have hP : va_P D zcl [((gg 0), .inr (2, [.int ft, .int (nI n0), .ref (gg 1), .int (nI n2), .int (nI n3), .int (nI rt), .ref (gg 2), .ref (gg 3), .ref (gg 4), .int (nI rd), .int (nI n4), .ref (gg 5)])), ((gg 1), .inl (cI, 4, .inl e0)), ((gg 2), .inl (cI, 40, .inl e2)), ((gg 3), .inl (cI, 120, .inl e3)), ((gg 4), .inl (cI, 40, .inl e5)), ((gg 5), .inl (cC, 160, .inl e4))] s.heap := hP
  refine lv_iload_n hx hb d_MD_bit_0 rfl (lv_at hl 1 rfl) ?_
  refine lv_bipush (v := (nI 8)) hx hb d_MD_bit_1 (by decide) ?_
  refine lv_aload_n hx hb d_MD_bit_3 rfl (lv_at hl 0 rfl) ?_
  refine va_get (D := D) (ci := 2) (v := .int (nI n3)) (C := R_MD) (T := F_MD) (N := 12) hx hb hg i_MD hown hE.1 hP 0 rfl rfl 4 (by decide) (hg _ zw_492) (fun _ h9 => h9) rfl d_MD_bit_4 ?_
  refine lv_imul hx hb d_MD_bit_7 ?_
  refine ztop (y := nI (8 * n3)) (pk_mul _ _) ?_
  by_cases g : i < 8 * n3
  · refine lv_icmp_ge hx hb d_MD_bit_8 (tgt := 33) (by decide) (fun z9 => absurd z9 (nI_ge (by omega) (by omega))) (fun _ => ?_)
    refine lv_aload_n hx hb d_MD_bit_11 rfl (lv_at hl 0 rfl) ?_
    refine va_get (D := D) (ci := 2) (v := .ref (gg 3)) (C := R_MD) (T := F_MD) (N := 12) hx hb hg i_MD hown hE.1 hP 0 rfl rfl 7 (by decide) (hg _ zw_495) (fun _ h9 => h9) rfl d_MD_bit_12 ?_
    refine lv_iload_n hx hb d_MD_bit_15 rfl (lv_at hl 1 rfl) ?_
    refine lv_bipush (v := (nI 8)) hx hb d_MD_bit_16 (by decide) ?_
    refine lv_idiv hx hb d_MD_bit_18 (by decide) ?_
    refine ztop (y := nI (i / 8)) (pk_div (by omega) (by decide) (by decide)) ?_
    refine zald hx hb hE.1 hP 3 0 rfl rfl (by omega) (by decide) d_MD_bit_19 ?_
    refine ztop (y := nI (B (i / 8))) ((hB (i / 8) (show i / 8 < n3 by omega)).1) ?_
    refine lv_bipush (v := (nI 7)) hx hb d_MD_bit_20 (by decide) ?_
    refine lv_iload_n hx hb d_MD_bit_22 rfl (lv_at hl 1 rfl) ?_
    refine lv_bipush (v := (nI 8)) hx hb d_MD_bit_23 (by decide) ?_
    refine lv_irem hx hb d_MD_bit_25 (by decide) ?_
    refine ztop (y := nI (i % 8)) (pk_rem (by omega) (by decide) (by decide)) ?_
    refine lv_isub hx hb d_MD_bit_26 ?_
    refine ztop (y := nI (7 - i % 8)) (pk_sub (by omega)) ?_
    refine lv_ishr hx hb d_MD_bit_27 ?_
    refine lv_iconst (v := (nI 1)) hx hb d_MD_bit_28 (by decide) ?_
    refine lv_iand hx hb d_MD_bit_29 ?_
    refine lv_goto hx hb d_MD_bit_30 (tgt := 34) (by decide) ?_
    have h8 : B (i / 8) < 256 := (hB (i / 8) (show i / 8 < n3 by omega)).2
    exact W.iret (v := (((nI (B (i / 8))) >>> ((nI (7 - i % 8)) &&& 31)) &&& (nI 1))) hx hb hr (fun t ht _ => ⟨congrArg (fun z => Outcome.returned (some (Value.int z))) ((zs_sbit (by omega) (by omega)).trans (by rw [zs_bitv, if_pos g])), ht⟩) t_nil d_MD_bit_34
  · refine lv_icmp_ge hx hb d_MD_bit_8 (tgt := 33) (by decide) (fun _ => ?_) (fun z9 => absurd (nI_le (by omega) (by omega)) z9)
    refine lv_iconst (v := (nI 0)) hx hb d_MD_bit_33 (by decide) ?_
    exact W.iret (v := (nI 0)) hx hb hr (fun t ht _ => ⟨congrArg (fun z => Outcome.returned (some (Value.int z))) (by rw [zs_bitv, if_neg g]), ht⟩) t_nil d_MD_bit_34

set_option maxHeartbeats 4000000 in
set_option maxRecDepth 100000 in
theorem c_MD_sixOf (l : Launch) (D : va_G) (cI cC cJ : ClassId) (c9 : Nat) (hc9 : c9 < 65536) : Met l y_MD_sixOf (zw k_MD_sixOf) ({ frames := 0, cells := 0, slots := 0, locals := 0 }) (zPc [.int (nI c9)] (fun _ => True) D cI cC cJ) (QcRead (zs_six c9)) 0 0 (fun _ => False) := by
  refine zMet (by decide) (Nat.le_of_ble_eq_true rfl) ?_
  intro p e s m below meth c hx hb hr hg hown hlk hml hB hE ls hl
  have hl : lv_has ls 1 [(0, .int (nI c9))] := hl
  have hS9 : CallFix p m c b_MD_sixOf 1 s [.int (nI c9)].toArray zg "SealedFilesModel" := ⟨hx, hb, hml, hown, hg⟩
  by_cases g1 : 65 ≤ c9 ∧ c9 ≤ 90
  · refine lv_iload_n hx hb d_MD_sixOf_0 rfl (lv_at hl 0 rfl) ?_
    refine lv_bipush (v := (nI 65)) hx hb d_MD_sixOf_1 (by decide) ?_
    refine lv_icmp_lt hx hb d_MD_sixOf_3 (tgt := 17) (by decide) (fun z9 => absurd z9 (nI_nlt (by omega) (by omega))) (fun _ => ?_)
    refine lv_iload_n hx hb d_MD_sixOf_6 rfl (lv_at hl 0 rfl) ?_
    refine lv_bipush (v := (nI 90)) hx hb d_MD_sixOf_7 (by decide) ?_
    refine lv_icmp_gt hx hb d_MD_sixOf_9 (tgt := 17) (by decide) (fun z9 => absurd z9 (nI_nlt (by omega) (by omega))) (fun _ => ?_)
    refine lv_iload_n hx hb d_MD_sixOf_12 rfl (lv_at hl 0 rfl) ?_
    refine lv_bipush (v := (nI 65)) hx hb d_MD_sixOf_13 (by decide) ?_
    refine lv_isub hx hb d_MD_sixOf_15 ?_
    exact W.iret (v := ((nI c9) - (nI 65))) hx hb hr (fun t ht _ => ⟨congrArg (fun z => Outcome.returned (some (Value.int z))) ((pk_sub (by omega)).trans (by rw [zs_six, if_pos g1])), ht⟩) t_nil d_MD_sixOf_16
  · have restg1 : ∀ ls : Array Slot, lv_has ls 1 [(0, .int (nI c9))] → W p l e ({ frames := 0, cells := 0, slots := 0, locals := 0 }) s m [.int (nI c9)].toArray below meth c s.heap [] 0 0 (MQ below (QcRead (zs_six c9)) [.int (nI c9)].toArray s 0 0 (fun _ => False)) (F0 m 17 ls []) := by
      intro ls hl
      by_cases g2 : 97 ≤ c9 ∧ c9 ≤ 122
      · refine lv_iload_n hx hb d_MD_sixOf_17 rfl (lv_at hl 0 rfl) ?_
        refine lv_bipush (v := (nI 97)) hx hb d_MD_sixOf_18 (by decide) ?_
        refine lv_icmp_lt hx hb d_MD_sixOf_20 (tgt := 37) (by decide) (fun z9 => absurd z9 (nI_nlt (by omega) (by omega))) (fun _ => ?_)
        refine lv_iload_n hx hb d_MD_sixOf_23 rfl (lv_at hl 0 rfl) ?_
        refine lv_bipush (v := (nI 122)) hx hb d_MD_sixOf_24 (by decide) ?_
        refine lv_icmp_gt hx hb d_MD_sixOf_26 (tgt := 37) (by decide) (fun z9 => absurd z9 (nI_nlt (by omega) (by omega))) (fun _ => ?_)
        refine lv_bipush (v := (nI 26)) hx hb d_MD_sixOf_29 (by decide) ?_
        refine lv_iload_n hx hb d_MD_sixOf_31 rfl (lv_at hl 0 rfl) ?_
        refine lv_iadd hx hb d_MD_sixOf_32 ?_
        refine lv_bipush (v := (nI 97)) hx hb d_MD_sixOf_33 (by decide) ?_
        refine lv_isub hx hb d_MD_sixOf_35 ?_
        exact W.iret (v := (((nI 26) + (nI c9)) - (nI 97))) hx hb hr (fun t ht _ => ⟨congrArg (fun z => Outcome.returned (some (Value.int z))) (by rw [nI_add, pk_sub (by omega), zs_six, if_neg g1, if_pos g2]), ht⟩) t_nil d_MD_sixOf_36
      · have restg2 : ∀ ls : Array Slot, lv_has ls 1 [(0, .int (nI c9))] → W p l e ({ frames := 0, cells := 0, slots := 0, locals := 0 }) s m [.int (nI c9)].toArray below meth c s.heap [] 0 0 (MQ below (QcRead (zs_six c9)) [.int (nI c9)].toArray s 0 0 (fun _ => False)) (F0 m 37 ls []) := by
          intro ls hl
          by_cases g3 : 48 ≤ c9 ∧ c9 ≤ 57
          · refine lv_iload_n hx hb d_MD_sixOf_37 rfl (lv_at hl 0 rfl) ?_
            refine lv_bipush (v := (nI 48)) hx hb d_MD_sixOf_38 (by decide) ?_
            refine lv_icmp_lt hx hb d_MD_sixOf_40 (tgt := 57) (by decide) (fun z9 => absurd z9 (nI_nlt (by omega) (by omega))) (fun _ => ?_)
            refine lv_iload_n hx hb d_MD_sixOf_43 rfl (lv_at hl 0 rfl) ?_
            refine lv_bipush (v := (nI 57)) hx hb d_MD_sixOf_44 (by decide) ?_
            refine lv_icmp_gt hx hb d_MD_sixOf_46 (tgt := 57) (by decide) (fun z9 => absurd z9 (nI_nlt (by omega) (by omega))) (fun _ => ?_)
            refine lv_bipush (v := (nI 52)) hx hb d_MD_sixOf_49 (by decide) ?_
            refine lv_iload_n hx hb d_MD_sixOf_51 rfl (lv_at hl 0 rfl) ?_
            refine lv_iadd hx hb d_MD_sixOf_52 ?_
            refine lv_bipush (v := (nI 48)) hx hb d_MD_sixOf_53 (by decide) ?_
            refine lv_isub hx hb d_MD_sixOf_55 ?_
            exact W.iret (v := (((nI 52) + (nI c9)) - (nI 48))) hx hb hr (fun t ht _ => ⟨congrArg (fun z => Outcome.returned (some (Value.int z))) (by rw [nI_add, pk_sub (by omega), zs_six, if_neg g1, if_neg g2, if_pos g3]), ht⟩) t_nil d_MD_sixOf_56
          · have restg3 : ∀ ls : Array Slot, lv_has ls 1 [(0, .int (nI c9))] → W p l e ({ frames := 0, cells := 0, slots := 0, locals := 0 }) s m [.int (nI c9)].toArray below meth c s.heap [] 0 0 (MQ below (QcRead (zs_six c9)) [.int (nI c9)].toArray s 0 0 (fun _ => False)) (F0 m 57 ls []) := by
              intro ls hl
              refine lv_iload_n hx hb d_MD_sixOf_57 rfl (lv_at hl 0 rfl) ?_
              refine lv_bipush (v := (nI 43)) hx hb d_MD_sixOf_58 (by decide) ?_
              by_cases g4 : c9 = 43
              · refine lv_icmp_ne hx hb d_MD_sixOf_60 (tgt := 68) (by decide) (fun z9 => absurd (by rw [g4]) z9) (fun _ => ?_)
                refine lv_bipush (v := (nI 62)) hx hb d_MD_sixOf_63 (by decide) ?_
                refine lv_goto hx hb d_MD_sixOf_65 (tgt := 80) (by decide) ?_
                exact W.iret (v := (nI 62)) hx hb hr (fun t ht _ => ⟨congrArg (fun z => Outcome.returned (some (Value.int z))) (by rw [zs_six, if_neg g1, if_neg g2, if_neg g3, if_pos g4]), ht⟩) t_nil d_MD_sixOf_80
              · refine lv_icmp_ne hx hb d_MD_sixOf_60 (tgt := 68) (by decide) (fun _ => ?_) (fun z9 => absurd z9 (fun z => g4 ((nI_eq (by omega) (by omega)).mp z)))
                refine lv_iload_n hx hb d_MD_sixOf_68 rfl (lv_at hl 0 rfl) ?_
                refine lv_bipush (v := (nI 45)) hx hb d_MD_sixOf_69 (by decide) ?_
                by_cases g5 : c9 = 45
                · refine lv_icmp_ne hx hb d_MD_sixOf_71 (tgt := 79) (by decide) (fun z9 => absurd (by rw [g5]) z9) (fun _ => ?_)
                  refine lv_bipush (v := (nI 63)) hx hb d_MD_sixOf_74 (by decide) ?_
                  refine lv_goto hx hb d_MD_sixOf_76 (tgt := 80) (by decide) ?_
                  exact W.iret (v := (nI 63)) hx hb hr (fun t ht _ => ⟨congrArg (fun z => Outcome.returned (some (Value.int z))) (by rw [zs_six, if_neg g1, if_neg g2, if_neg g3, if_neg g4, if_pos g5]), ht⟩) t_nil d_MD_sixOf_80
                · refine lv_icmp_ne hx hb d_MD_sixOf_71 (tgt := 79) (by decide) (fun _ => ?_) (fun z9 => absurd z9 (fun z => g5 ((nI_eq (by omega) (by omega)).mp z)))
                  refine lv_iconst (v := (-1)) hx hb d_MD_sixOf_79 (by decide) ?_
                  exact W.iret (v := (-1)) hx hb hr (fun t ht _ => ⟨congrArg (fun z => Outcome.returned (some (Value.int z))) (by rw [zs_six, if_neg g1, if_neg g2, if_neg g3, if_neg g4, if_neg g5]), ht⟩) t_nil d_MD_sixOf_80
            refine lv_iload_n hx hb d_MD_sixOf_37 rfl (lv_at hl 0 rfl) ?_
            refine lv_bipush (v := (nI 48)) hx hb d_MD_sixOf_38 (by decide) ?_
            by_cases qg3 : c9 < 48
            · refine lv_icmp_lt hx hb d_MD_sixOf_40 (tgt := 57) (by decide) (fun _ => ?_) (fun z9 => absurd (nI_lt (by omega) (by omega)) z9)
              exact restg3 ls hl
            · refine lv_icmp_lt hx hb d_MD_sixOf_40 (tgt := 57) (by decide) (fun z9 => absurd z9 (nI_nlt (by omega) (by omega))) (fun _ => ?_)
              refine lv_iload_n hx hb d_MD_sixOf_43 rfl (lv_at hl 0 rfl) ?_
              refine lv_bipush (v := (nI 57)) hx hb d_MD_sixOf_44 (by decide) ?_
              refine lv_icmp_gt hx hb d_MD_sixOf_46 (tgt := 57) (by decide) (fun _ => ?_) (fun z9 => absurd (nI_lt (by omega) (by omega)) z9)
              exact restg3 ls hl
        refine lv_iload_n hx hb d_MD_sixOf_17 rfl (lv_at hl 0 rfl) ?_
        refine lv_bipush (v := (nI 97)) hx hb d_MD_sixOf_18 (by decide) ?_
        by_cases qg2 : c9 < 97
        · refine lv_icmp_lt hx hb d_MD_sixOf_20 (tgt := 37) (by decide) (fun _ => ?_) (fun z9 => absurd (nI_lt (by omega) (by omega)) z9)
          exact restg2 ls hl
        · refine lv_icmp_lt hx hb d_MD_sixOf_20 (tgt := 37) (by decide) (fun z9 => absurd z9 (nI_nlt (by omega) (by omega))) (fun _ => ?_)
          refine lv_iload_n hx hb d_MD_sixOf_23 rfl (lv_at hl 0 rfl) ?_
          refine lv_bipush (v := (nI 122)) hx hb d_MD_sixOf_24 (by decide) ?_
          refine lv_icmp_gt hx hb d_MD_sixOf_26 (tgt := 37) (by decide) (fun _ => ?_) (fun z9 => absurd (nI_lt (by omega) (by omega)) z9)
          exact restg2 ls hl
    refine lv_iload_n hx hb d_MD_sixOf_0 rfl (lv_at hl 0 rfl) ?_
    refine lv_bipush (v := (nI 65)) hx hb d_MD_sixOf_1 (by decide) ?_
    by_cases qg1 : c9 < 65
    · refine lv_icmp_lt hx hb d_MD_sixOf_3 (tgt := 17) (by decide) (fun _ => ?_) (fun z9 => absurd (nI_lt (by omega) (by omega)) z9)
      exact restg1 ls hl
    · refine lv_icmp_lt hx hb d_MD_sixOf_3 (tgt := 17) (by decide) (fun z9 => absurd z9 (nI_nlt (by omega) (by omega))) (fun _ => ?_)
      refine lv_iload_n hx hb d_MD_sixOf_6 rfl (lv_at hl 0 rfl) ?_
      refine lv_bipush (v := (nI 90)) hx hb d_MD_sixOf_7 (by decide) ?_
      refine lv_icmp_gt hx hb d_MD_sixOf_9 (tgt := 17) (by decide) (fun _ => ?_) (fun z9 => absurd (nI_lt (by omega) (by omega)) z9)
      exact restg1 ls hl
end
section
set_option maxHeartbeats 4000000 in
set_option maxRecDepth 100000 in
theorem c_MD_entry (l : Launch) (D : va_G) (cI cC cJ : ClassId) (gg : Nat → Nat) (ft : Int32) (n0 n2 n3 rt rd n4 : Nat) (e0 e2 e3 e5 e4 : Nat → Int32) (hn0 : n0 ≤ 4) (hn2 : n2 ≤ 40) (hn3 : n3 ≤ 120) (hn4 : n4 ≤ 160) (hh : zm_inj gg) (B : Nat → Nat) (hB : zs_hold 256 e3 (n3, B)) (S : Nat → Nat) (hS0 : zs_hold 32748 e0 (n0, S)) (k : Nat) (f g : Int32) (hk : k < n0) (hr9 : n3 + 8 ≤ 120) : Met l y_MD_entry (zw k_MD_entry) ({ frames := 2, cells := 0, slots := 0, locals := 44 }) (zPc [.ref (gg 0), .int (nI k), .int f, .int g] (fun H => va_P D zcl (zMd cI cC gg ft n0 n2 n3 rt rd n4 e0 e2 e3 e5 e4) H) D cI cC cJ) (zQm none (fun H => ∃ e3' : Nat → Int32, zs_hold 256 e3' (zs_entry (n3, B) (zs_pw 2 (S k)) f (zs_e f g k)) ∧ va_P D zcl (zMd cI cC gg ft n0 n2 (n3 + 8) rt rd n4 e0 e2 (e3') e5 e4) H) (zAM gg)) 0 0 (zAM gg) := by
  refine zMet (by decide) (Nat.le_of_ble_eq_true rfl) ?_
  intro p e s m below meth c hx hb hr hg hown hlk hml hP hE ls hl
  have hl : lv_has ls 11 [(0, .ref (gg 0)), (1, .int (nI k)), (2, .int f), (3, .int g)] := hl
  have hS9 : CallFix p m c b_MD_entry 11 s [.ref (gg 0), .int (nI k), .int f, .int g].toArray zg "SealedFilesModel" := ⟨hx, hb, hml, hown, hg⟩
  have hP : va_P D zcl [((gg 0), .inr (2, [.int ft, .int (nI n0), .ref (gg 1), .int (nI n2), .int (nI n3), .int (nI rt), .ref (gg 2), .ref (gg 3), .ref (gg 4), .int (nI rd), .int (nI n4), .ref (gg 5)])), ((gg 1), .inl (cI, 4, .inl e0)), ((gg 2), .inl (cI, 40, .inl e2)), ((gg 3), .inl (cI, 120, .inl e3)), ((gg 4), .inl (cI, 40, .inl e5)), ((gg 5), .inl (cC, 160, .inl e4))] s.heap := hP
  have hD : va_D (zAM gg) [((gg 0), .inr (2, [.int ft, .int (nI n0), .ref (gg 1), .int (nI n2), .int (nI n3), .int (nI rt), .ref (gg 2), .ref (gg 3), .ref (gg 4), .int (nI rd), .int (nI n4), .ref (gg 5)])), ((gg 1), .inl (cI, 4, .inl e0)), ((gg 2), .inl (cI, 40, .inl e2)), ((gg 3), .inl (cI, 120, .inl e3)), ((gg 4), .inl (cI, 40, .inl e5)), ((gg 5), .inl (cC, 160, .inl e4))] := zMd_D hh
  have hS : va_S (zAM gg) s.heap s.heap [] := va_S.rf
  have h8 : S k < 32748 := (hS0 k hk).2
  have he8 := zs_e_lt f g k
  have hB : zs_hold 256 e3 (n3, B) := hB
  have w9 := zs_un_lt (zs_wrap f (zs_pw (zs_pw 2 (S k)) (zs_e f g k)) (zs_pw 2 (S k)))
  have p1 := zs_pw_lt 2 (zs_e f g k)
  have p2 := zs_pw_lt 2 (S k)
  refine lv_iload_n hx hb d_MD_entry_0 rfl (lv_at hl 2 rfl) ?_
  refine lv_iload_n hx hb d_MD_entry_1 rfl (lv_at hl 3 rfl) ?_
  refine lv_iload_n hx hb d_MD_entry_2 rfl (lv_at hl 1 rfl) ?_
  refine zRd (rest := []) (zrS hS9 (c_MD_word l D cI cC cJ f g (nI k)) zc_MD_word zw_573 zw_574 (by decide) (trivial) hE rfl hl.1 rfl (Nat.le_of_ble_eq_true rfl) d_MD_entry_3) ?_
  refine lv_istore hx hb d_MD_entry_6 hl (by decide) (lv' := [(4, .int (zs_word f g (nI k))), (0, .ref (gg 0)), (1, .int (nI k)), (2, .int f), (3, .int g)]) rfl (fun ls hl => ?_)
  refine lv_iconst (v := (nI 2)) hx hb d_MD_entry_8 (by decide) ?_
  refine lv_iload hx hb d_MD_entry_9 (lv_at hl 0 rfl) ?_
  refine lv_iconst (v := (nI 1)) hx hb d_MD_entry_11 (by decide) ?_
  refine lv_iushr (v := zs_u (zs_word f g (nI k)) (nI 1)) hx hb d_MD_entry_12 rfl ?_
  refine lv_sipush (v := (nI 32746)) hx hb d_MD_entry_13 (by decide) ?_
  refine lv_irem hx hb d_MD_entry_16 (by decide) ?_
  refine lv_iadd hx hb d_MD_entry_17 ?_
  refine ztop (y := nI (zs_e f g k)) (zs_e_i _) ?_
  refine lv_istore hx hb d_MD_entry_18 hl (by decide) (lv' := [(4, .int (nI (zs_e f g k))), (0, .ref (gg 0)), (1, .int (nI k)), (2, .int f), (3, .int g)]) rfl (fun ls hl => ?_)
  refine lv_iconst (v := (nI 2)) hx hb d_MD_entry_20 (by decide) ?_
  refine lv_aload_n hx hb d_MD_entry_21 rfl (lv_at hl 1 rfl) ?_
  refine va_get (D := D) (ci := 2) (v := .ref (gg 1)) (C := R_MD) (T := F_MD) (N := 12) hx hb hg i_MD hown hE.1 hP 0 rfl rfl 2 (by decide) (hg _ zw_490) (fun _ h9 => h9) rfl d_MD_entry_22 ?_
  refine lv_iload_n hx hb d_MD_entry_25 rfl (lv_at hl 2 rfl) ?_
  refine zald hx hb hE.1 hP 1 0 rfl rfl (by omega) (by decide) d_MD_entry_26 ?_
  refine ztop (y := nI (S k)) ((hS0 k hk).1) ?_
  refine zRd (rest := []) (zrS hS9 (c_MD_power l D cI cC cJ 2 (S k) (by decide) (by omega)) zc_MD_power zw_546 zw_547 (by decide) (trivial) hE rfl hl.1 rfl (Nat.le_of_ble_eq_true rfl) d_MD_entry_27) ?_
  refine lv_istore hx hb d_MD_entry_30 hl (by decide) (lv' := [(5, .int (nI (zs_pw 2 (S k)))), (4, .int (nI (zs_e f g k))), (0, .ref (gg 0)), (1, .int (nI k)), (2, .int f), (3, .int g)]) rfl (fun ls hl => ?_)
  refine lv_iload hx hb d_MD_entry_32 (lv_at hl 0 rfl) ?_
  refine lv_iload hx hb d_MD_entry_34 (lv_at hl 1 rfl) ?_
  refine zRd (rest := []) (zrS hS9 (c_MD_power l D cI cC cJ (zs_pw 2 (S k)) (zs_e f g k) (by omega) (by omega)) zc_MD_power zw_546 zw_547 (by decide) (trivial) hE rfl hl.1 rfl (Nat.le_of_ble_eq_true rfl) d_MD_entry_36) ?_
  refine lv_istore hx hb d_MD_entry_39 hl (by decide) (lv' := [(6, .int (nI (zs_pw (zs_pw 2 (S k)) (zs_e f g k)))), (5, .int (nI (zs_pw 2 (S k)))), (4, .int (nI (zs_e f g k))), (0, .ref (gg 0)), (1, .int (nI k)), (2, .int f), (3, .int g)]) rfl (fun ls hl => ?_)
  refine lv_aload_n hx hb d_MD_entry_41 rfl (lv_at hl 3 rfl) ?_
  refine va_get (D := D) (ci := 2) (v := .int (nI n3)) (C := R_MD) (T := F_MD) (N := 12) hx hb hg i_MD hown hE.1 hP 0 rfl rfl 4 (by decide) (hg _ zw_492) (fun _ h9 => h9) rfl d_MD_entry_42 ?_
  refine lv_istore hx hb d_MD_entry_45 hl (by decide) (lv' := [(7, .int (nI n3)), (6, .int (nI (zs_pw (zs_pw 2 (S k)) (zs_e f g k)))), (5, .int (nI (zs_pw 2 (S k)))), (4, .int (nI (zs_e f g k))), (0, .ref (gg 0)), (1, .int (nI k)), (2, .int f), (3, .int g)]) rfl (fun ls hl => ?_)
  refine lv_iload_n hx hb d_MD_entry_47 rfl (lv_at hl 6 rfl) ?_
  refine lv_iload hx hb d_MD_entry_48 (lv_at hl 1 rfl) ?_
  refine lv_iload hx hb d_MD_entry_50 (lv_at hl 2 rfl) ?_
  refine lv_iconst (v := (nI 1)) hx hb d_MD_entry_52 (by decide) ?_
  refine zRd (rest := [.int f]) (zrS hS9 (c_MD_word l D cI cC cJ (nI (zs_pw (zs_pw 2 (S k)) (zs_e f g k))) (nI (zs_pw 2 (S k))) (nI 1)) zc_MD_word zw_573 zw_574 (by decide) (trivial) hE rfl hl.1 rfl (Nat.le_of_ble_eq_true rfl) d_MD_entry_53) ?_
  refine lv_ixor hx hb d_MD_entry_56 ?_
  refine ztop (y := (zs_wrap f (zs_pw (zs_pw 2 (S k)) (zs_e f g k)) (zs_pw 2 (S k)))) (rfl) ?_
  refine lv_istore hx hb d_MD_entry_57 hl (by decide) (lv' := [(8, .int (zs_wrap f (zs_pw (zs_pw 2 (S k)) (zs_e f g k)) (zs_pw 2 (S k)))), (7, .int (nI n3)), (6, .int (nI (zs_pw (zs_pw 2 (S k)) (zs_e f g k)))), (5, .int (nI (zs_pw 2 (S k)))), (4, .int (nI (zs_e f g k))), (0, .ref (gg 0)), (1, .int (nI k)), (2, .int f), (3, .int g)]) rfl (fun ls hl => ?_)
  refine lv_iconst (v := (nI 2)) hx hb d_MD_entry_59 (by decide) ?_
  refine lv_iload hx hb d_MD_entry_60 (lv_at hl 4 rfl) ?_
  refine zRd (rest := []) (zrS hS9 (c_MD_power l D cI cC cJ 2 (zs_e f g k) (by decide) (by omega)) zc_MD_power zw_546 zw_547 (by decide) (trivial) hE rfl hl.1 rfl (Nat.le_of_ble_eq_true rfl) d_MD_entry_62) ?_
  refine lv_istore hx hb d_MD_entry_65 hl (by decide) (lv' := [(9, .int (nI (zs_pw 2 (zs_e f g k)))), (8, .int (zs_wrap f (zs_pw (zs_pw 2 (S k)) (zs_e f g k)) (zs_pw 2 (S k)))), (7, .int (nI n3)), (6, .int (nI (zs_pw (zs_pw 2 (S k)) (zs_e f g k)))), (5, .int (nI (zs_pw 2 (S k)))), (4, .int (nI (zs_e f g k))), (0, .ref (gg 0)), (1, .int (nI k)), (2, .int f), (3, .int g)]) rfl (fun ls hl => ?_)
  refine lv_aload_n hx hb d_MD_entry_67 rfl (lv_at hl 6 rfl) ?_
  refine lv_iload hx hb d_MD_entry_68 (lv_at hl 0 rfl) ?_
  refine zWr (rest := []) (zrV hS9 (c_MD_addTwo l D cI cC cJ gg ft n0 n2 n3 rt rd n4 e0 e2 e3 e5 e4 (by omega) (by omega) (by omega) (by omega) hh (nI (zs_pw 2 (zs_e f g k))) (by omega)) zc_MD_addTwo zw_581 zw_583 zp_30 (by decide) (va_recv hE.1 hP (ci := 2) (q := (R_MD, F_MD, 12)) rfl (q0 := 0) rfl) (hP) hE rfl hl.1 rfl (Nat.le_of_ble_eq_true rfl) d_MD_entry_70) hS (fun _ _ h => h) (fun _ h => h) (fun H locs hP hz hk9 hS => ?_)
  have hP : va_P D zcl [((gg 0), .inr (2, [.int ft, .int (nI n0), .ref (gg 1), .int (nI n2), .int (nI (n3 + 2)), .int (nI rt), .ref (gg 2), .ref (gg 3), .ref (gg 4), .int (nI rd), .int (nI n4), .ref (gg 5)])), ((gg 1), .inl (cI, 4, .inl e0)), ((gg 2), .inl (cI, 40, .inl e2)), ((gg 3), .inl (cI, 120, .inl (upd (upd e3 n3 (nI ((zs_un (nI (zs_pw 2 (zs_e f g k))) % 65536) / 256))) (n3 + 1) (nI ((zs_un (nI (zs_pw 2 (zs_e f g k))) % 65536) % 256))))), ((gg 4), .inl (cI, 40, .inl e5)), ((gg 5), .inl (cC, 160, .inl e4))] H := hP
  have hD : va_D (zAM gg) [((gg 0), .inr (2, [.int ft, .int (nI n0), .ref (gg 1), .int (nI n2), .int (nI (n3 + 2)), .int (nI rt), .ref (gg 2), .ref (gg 3), .ref (gg 4), .int (nI rd), .int (nI n4), .ref (gg 5)])), ((gg 1), .inl (cI, 4, .inl e0)), ((gg 2), .inl (cI, 40, .inl e2)), ((gg 3), .inl (cI, 120, .inl (upd (upd e3 n3 (nI ((zs_un (nI (zs_pw 2 (zs_e f g k))) % 65536) / 256))) (n3 + 1) (nI ((zs_un (nI (zs_pw 2 (zs_e f g k))) % 65536) % 256))))), ((gg 4), .inl (cI, 40, .inl e5)), ((gg 5), .inl (cC, 160, .inl e4))] := zMd_D hh
  have hv9 : zs_un (nI (zs_pw 2 (zs_e f g k))) % 65536 = zs_pw 2 (zs_e f g k) := by rw [zs_un_nI (by omega)]; exact Nat.mod_eq_of_lt (by omega)
  rw [hv9] at hP
  have hB : zs_hold 256 (upd (upd e3 n3 (nI ((zs_pw 2 (zs_e f g k)) / 256))) (n3 + 1) (nI ((zs_pw 2 (zs_e f g k)) % 256))) (zs_pair (n3, B) (zs_pw 2 (zs_e f g k))) := zs_hold_pair (v := zs_pw 2 (zs_e f g k)) hB (by omega)
  have hP : va_P D zcl [((gg 0), .inr (2, [.int ft, .int (nI n0), .ref (gg 1), .int (nI n2), .int (nI (n3 + 2)), .int (nI rt), .ref (gg 2), .ref (gg 3), .ref (gg 4), .int (nI rd), .int (nI n4), .ref (gg 5)])), ((gg 1), .inl (cI, 4, .inl e0)), ((gg 2), .inl (cI, 40, .inl e2)), ((gg 3), .inl (cI, 120, .inl (upd (upd e3 n3 (nI ((zs_pw 2 (zs_e f g k)) / 256))) (n3 + 1) (nI ((zs_pw 2 (zs_e f g k)) % 256))))), ((gg 4), .inl (cI, 40, .inl e5)), ((gg 5), .inl (cC, 160, .inl e4))] H := hP
  have hD : va_D (zAM gg) [((gg 0), .inr (2, [.int ft, .int (nI n0), .ref (gg 1), .int (nI n2), .int (nI (n3 + 2)), .int (nI rt), .ref (gg 2), .ref (gg 3), .ref (gg 4), .int (nI rd), .int (nI n4), .ref (gg 5)])), ((gg 1), .inl (cI, 4, .inl e0)), ((gg 2), .inl (cI, 40, .inl e2)), ((gg 3), .inl (cI, 120, .inl (upd (upd e3 n3 (nI ((zs_pw 2 (zs_e f g k)) / 256))) (n3 + 1) (nI ((zs_pw 2 (zs_e f g k)) % 256))))), ((gg 4), .inl (cI, 40, .inl e5)), ((gg 5), .inl (cC, 160, .inl e4))] := zMd_D hh
  generalize (upd (upd e3 n3 (nI ((zs_pw 2 (zs_e f g k)) / 256))) (n3 + 1) (nI ((zs_pw 2 (zs_e f g k)) % 256))) = e31 at hP hD hB
  refine lv_aload_n hx hb d_MD_entry_73 rfl (lv_at hl 6 rfl) ?_
  refine lv_iload hx hb d_MD_entry_74 (lv_at hl 1 rfl) ?_
  refine lv_bipush (v := (nI 16)) hx hb d_MD_entry_76 (by decide) ?_
  refine lv_iushr (v := zs_u (zs_wrap f (zs_pw (zs_pw 2 (S k)) (zs_e f g k)) (zs_pw 2 (S k))) (nI 16)) hx hb d_MD_entry_78 rfl ?_
  refine ztop (y := nI (zs_un (zs_wrap f (zs_pw (zs_pw 2 (S k)) (zs_e f g k)) (zs_pw 2 (S k))) / 2 ^ 16)) (zs_u_un _ (by decide)) ?_
  refine zWr (rest := []) (zrV hS9 (c_MD_addTwo l D cI cC cJ gg ft n0 n2 (n3 + 2) rt rd n4 e0 e2 e31 e5 e4 (by omega) (by omega) (by omega) (by omega) hh (nI (zs_un (zs_wrap f (zs_pw (zs_pw 2 (S k)) (zs_e f g k)) (zs_pw 2 (S k))) / 2 ^ 16)) (by omega)) zc_MD_addTwo zw_581 zw_583 zp_30 (by decide) (va_recv hE.1 hP (ci := 2) (q := (R_MD, F_MD, 12)) rfl (q0 := 0) rfl) (hP) hE rfl hl.1 rfl (Nat.le_of_ble_eq_true rfl) d_MD_entry_79) hS (fun _ _ h => h) (fun _ h => h) (fun H locs hP hz hk9 hS => ?_)
  have hP : va_P D zcl [((gg 0), .inr (2, [.int ft, .int (nI n0), .ref (gg 1), .int (nI n2), .int (nI (n3 + 4)), .int (nI rt), .ref (gg 2), .ref (gg 3), .ref (gg 4), .int (nI rd), .int (nI n4), .ref (gg 5)])), ((gg 1), .inl (cI, 4, .inl e0)), ((gg 2), .inl (cI, 40, .inl e2)), ((gg 3), .inl (cI, 120, .inl (upd (upd e31 (n3 + 2) (nI ((zs_un (nI (zs_un (zs_wrap f (zs_pw (zs_pw 2 (S k)) (zs_e f g k)) (zs_pw 2 (S k))) / 2 ^ 16)) % 65536) / 256))) (n3 + 2 + 1) (nI ((zs_un (nI (zs_un (zs_wrap f (zs_pw (zs_pw 2 (S k)) (zs_e f g k)) (zs_pw 2 (S k))) / 2 ^ 16)) % 65536) % 256))))), ((gg 4), .inl (cI, 40, .inl e5)), ((gg 5), .inl (cC, 160, .inl e4))] H := hP
  have hD : va_D (zAM gg) [((gg 0), .inr (2, [.int ft, .int (nI n0), .ref (gg 1), .int (nI n2), .int (nI (n3 + 4)), .int (nI rt), .ref (gg 2), .ref (gg 3), .ref (gg 4), .int (nI rd), .int (nI n4), .ref (gg 5)])), ((gg 1), .inl (cI, 4, .inl e0)), ((gg 2), .inl (cI, 40, .inl e2)), ((gg 3), .inl (cI, 120, .inl (upd (upd e31 (n3 + 2) (nI ((zs_un (nI (zs_un (zs_wrap f (zs_pw (zs_pw 2 (S k)) (zs_e f g k)) (zs_pw 2 (S k))) / 2 ^ 16)) % 65536) / 256))) (n3 + 2 + 1) (nI ((zs_un (nI (zs_un (zs_wrap f (zs_pw (zs_pw 2 (S k)) (zs_e f g k)) (zs_pw 2 (S k))) / 2 ^ 16)) % 65536) % 256))))), ((gg 4), .inl (cI, 40, .inl e5)), ((gg 5), .inl (cC, 160, .inl e4))] := zMd_D hh
  have hv9 : zs_un (nI (zs_un (zs_wrap f (zs_pw (zs_pw 2 (S k)) (zs_e f g k)) (zs_pw 2 (S k))) / 2 ^ 16)) % 65536 = zs_un (zs_wrap f (zs_pw (zs_pw 2 (S k)) (zs_e f g k)) (zs_pw 2 (S k))) / 2 ^ 16 := by rw [zs_un_nI (by omega)]; exact Nat.mod_eq_of_lt (by omega)
  rw [hv9] at hP
  have hB : zs_hold 256 (upd (upd e31 (n3 + 2) (nI ((zs_un (zs_wrap f (zs_pw (zs_pw 2 (S k)) (zs_e f g k)) (zs_pw 2 (S k))) / 2 ^ 16) / 256))) (n3 + 2 + 1) (nI ((zs_un (zs_wrap f (zs_pw (zs_pw 2 (S k)) (zs_e f g k)) (zs_pw 2 (S k))) / 2 ^ 16) % 256))) (zs_pair (zs_pair (n3, B) (zs_pw 2 (zs_e f g k))) (zs_un (zs_wrap f (zs_pw (zs_pw 2 (S k)) (zs_e f g k)) (zs_pw 2 (S k))) / 2 ^ 16)) := zs_hold_pair (v := zs_un (zs_wrap f (zs_pw (zs_pw 2 (S k)) (zs_e f g k)) (zs_pw 2 (S k))) / 2 ^ 16) hB (by omega)
  have hP : va_P D zcl [((gg 0), .inr (2, [.int ft, .int (nI n0), .ref (gg 1), .int (nI n2), .int (nI (n3 + 4)), .int (nI rt), .ref (gg 2), .ref (gg 3), .ref (gg 4), .int (nI rd), .int (nI n4), .ref (gg 5)])), ((gg 1), .inl (cI, 4, .inl e0)), ((gg 2), .inl (cI, 40, .inl e2)), ((gg 3), .inl (cI, 120, .inl (upd (upd e31 (n3 + 2) (nI ((zs_un (zs_wrap f (zs_pw (zs_pw 2 (S k)) (zs_e f g k)) (zs_pw 2 (S k))) / 2 ^ 16) / 256))) (n3 + 2 + 1) (nI ((zs_un (zs_wrap f (zs_pw (zs_pw 2 (S k)) (zs_e f g k)) (zs_pw 2 (S k))) / 2 ^ 16) % 256))))), ((gg 4), .inl (cI, 40, .inl e5)), ((gg 5), .inl (cC, 160, .inl e4))] H := hP
  have hD : va_D (zAM gg) [((gg 0), .inr (2, [.int ft, .int (nI n0), .ref (gg 1), .int (nI n2), .int (nI (n3 + 4)), .int (nI rt), .ref (gg 2), .ref (gg 3), .ref (gg 4), .int (nI rd), .int (nI n4), .ref (gg 5)])), ((gg 1), .inl (cI, 4, .inl e0)), ((gg 2), .inl (cI, 40, .inl e2)), ((gg 3), .inl (cI, 120, .inl (upd (upd e31 (n3 + 2) (nI ((zs_un (zs_wrap f (zs_pw (zs_pw 2 (S k)) (zs_e f g k)) (zs_pw 2 (S k))) / 2 ^ 16) / 256))) (n3 + 2 + 1) (nI ((zs_un (zs_wrap f (zs_pw (zs_pw 2 (S k)) (zs_e f g k)) (zs_pw 2 (S k))) / 2 ^ 16) % 256))))), ((gg 4), .inl (cI, 40, .inl e5)), ((gg 5), .inl (cC, 160, .inl e4))] := zMd_D hh
  generalize (upd (upd e31 (n3 + 2) (nI ((zs_un (zs_wrap f (zs_pw (zs_pw 2 (S k)) (zs_e f g k)) (zs_pw 2 (S k))) / 2 ^ 16) / 256))) (n3 + 2 + 1) (nI ((zs_un (zs_wrap f (zs_pw (zs_pw 2 (S k)) (zs_e f g k)) (zs_pw 2 (S k))) / 2 ^ 16) % 256))) = e32 at hP hD hB
  refine lv_aload_n hx hb d_MD_entry_82 rfl (lv_at hl 6 rfl) ?_
  refine lv_iload hx hb d_MD_entry_83 (lv_at hl 1 rfl) ?_
  refine zWr (rest := []) (zrV hS9 (c_MD_addTwo l D cI cC cJ gg ft n0 n2 (n3 + 4) rt rd n4 e0 e2 e32 e5 e4 (by omega) (by omega) (by omega) (by omega) hh (zs_wrap f (zs_pw (zs_pw 2 (S k)) (zs_e f g k)) (zs_pw 2 (S k))) (by omega)) zc_MD_addTwo zw_581 zw_583 zp_30 (by decide) (va_recv hE.1 hP (ci := 2) (q := (R_MD, F_MD, 12)) rfl (q0 := 0) rfl) (hP) hE rfl hl.1 rfl (Nat.le_of_ble_eq_true rfl) d_MD_entry_85) hS (fun _ _ h => h) (fun _ h => h) (fun H locs hP hz hk9 hS => ?_)
  have hP : va_P D zcl [((gg 0), .inr (2, [.int ft, .int (nI n0), .ref (gg 1), .int (nI n2), .int (nI (n3 + 6)), .int (nI rt), .ref (gg 2), .ref (gg 3), .ref (gg 4), .int (nI rd), .int (nI n4), .ref (gg 5)])), ((gg 1), .inl (cI, 4, .inl e0)), ((gg 2), .inl (cI, 40, .inl e2)), ((gg 3), .inl (cI, 120, .inl (upd (upd e32 (n3 + 4) (nI ((zs_un (zs_wrap f (zs_pw (zs_pw 2 (S k)) (zs_e f g k)) (zs_pw 2 (S k))) % 65536) / 256))) (n3 + 4 + 1) (nI ((zs_un (zs_wrap f (zs_pw (zs_pw 2 (S k)) (zs_e f g k)) (zs_pw 2 (S k))) % 65536) % 256))))), ((gg 4), .inl (cI, 40, .inl e5)), ((gg 5), .inl (cC, 160, .inl e4))] H := hP
  have hD : va_D (zAM gg) [((gg 0), .inr (2, [.int ft, .int (nI n0), .ref (gg 1), .int (nI n2), .int (nI (n3 + 6)), .int (nI rt), .ref (gg 2), .ref (gg 3), .ref (gg 4), .int (nI rd), .int (nI n4), .ref (gg 5)])), ((gg 1), .inl (cI, 4, .inl e0)), ((gg 2), .inl (cI, 40, .inl e2)), ((gg 3), .inl (cI, 120, .inl (upd (upd e32 (n3 + 4) (nI ((zs_un (zs_wrap f (zs_pw (zs_pw 2 (S k)) (zs_e f g k)) (zs_pw 2 (S k))) % 65536) / 256))) (n3 + 4 + 1) (nI ((zs_un (zs_wrap f (zs_pw (zs_pw 2 (S k)) (zs_e f g k)) (zs_pw 2 (S k))) % 65536) % 256))))), ((gg 4), .inl (cI, 40, .inl e5)), ((gg 5), .inl (cC, 160, .inl e4))] := zMd_D hh
  have hv9 : zs_un (zs_wrap f (zs_pw (zs_pw 2 (S k)) (zs_e f g k)) (zs_pw 2 (S k))) % 65536 = zs_un (zs_wrap f (zs_pw (zs_pw 2 (S k)) (zs_e f g k)) (zs_pw 2 (S k))) % 2 ^ 16 := rfl
  rw [hv9] at hP
  have hB : zs_hold 256 (upd (upd e32 (n3 + 4) (nI ((zs_un (zs_wrap f (zs_pw (zs_pw 2 (S k)) (zs_e f g k)) (zs_pw 2 (S k))) % 2 ^ 16) / 256))) (n3 + 4 + 1) (nI ((zs_un (zs_wrap f (zs_pw (zs_pw 2 (S k)) (zs_e f g k)) (zs_pw 2 (S k))) % 2 ^ 16) % 256))) (zs_pair (zs_pair (zs_pair (n3, B) (zs_pw 2 (zs_e f g k))) (zs_un (zs_wrap f (zs_pw (zs_pw 2 (S k)) (zs_e f g k)) (zs_pw 2 (S k))) / 2 ^ 16)) (zs_un (zs_wrap f (zs_pw (zs_pw 2 (S k)) (zs_e f g k)) (zs_pw 2 (S k))) % 2 ^ 16)) := zs_hold_pair (v := zs_un (zs_wrap f (zs_pw (zs_pw 2 (S k)) (zs_e f g k)) (zs_pw 2 (S k))) % 2 ^ 16) hB (by omega)
  have hP : va_P D zcl [((gg 0), .inr (2, [.int ft, .int (nI n0), .ref (gg 1), .int (nI n2), .int (nI (n3 + 6)), .int (nI rt), .ref (gg 2), .ref (gg 3), .ref (gg 4), .int (nI rd), .int (nI n4), .ref (gg 5)])), ((gg 1), .inl (cI, 4, .inl e0)), ((gg 2), .inl (cI, 40, .inl e2)), ((gg 3), .inl (cI, 120, .inl (upd (upd e32 (n3 + 4) (nI ((zs_un (zs_wrap f (zs_pw (zs_pw 2 (S k)) (zs_e f g k)) (zs_pw 2 (S k))) % 2 ^ 16) / 256))) (n3 + 4 + 1) (nI ((zs_un (zs_wrap f (zs_pw (zs_pw 2 (S k)) (zs_e f g k)) (zs_pw 2 (S k))) % 2 ^ 16) % 256))))), ((gg 4), .inl (cI, 40, .inl e5)), ((gg 5), .inl (cC, 160, .inl e4))] H := hP
  have hD : va_D (zAM gg) [((gg 0), .inr (2, [.int ft, .int (nI n0), .ref (gg 1), .int (nI n2), .int (nI (n3 + 6)), .int (nI rt), .ref (gg 2), .ref (gg 3), .ref (gg 4), .int (nI rd), .int (nI n4), .ref (gg 5)])), ((gg 1), .inl (cI, 4, .inl e0)), ((gg 2), .inl (cI, 40, .inl e2)), ((gg 3), .inl (cI, 120, .inl (upd (upd e32 (n3 + 4) (nI ((zs_un (zs_wrap f (zs_pw (zs_pw 2 (S k)) (zs_e f g k)) (zs_pw 2 (S k))) % 2 ^ 16) / 256))) (n3 + 4 + 1) (nI ((zs_un (zs_wrap f (zs_pw (zs_pw 2 (S k)) (zs_e f g k)) (zs_pw 2 (S k))) % 2 ^ 16) % 256))))), ((gg 4), .inl (cI, 40, .inl e5)), ((gg 5), .inl (cC, 160, .inl e4))] := zMd_D hh
  generalize (upd (upd e32 (n3 + 4) (nI ((zs_un (zs_wrap f (zs_pw (zs_pw 2 (S k)) (zs_e f g k)) (zs_pw 2 (S k))) % 2 ^ 16) / 256))) (n3 + 4 + 1) (nI ((zs_un (zs_wrap f (zs_pw (zs_pw 2 (S k)) (zs_e f g k)) (zs_pw 2 (S k))) % 2 ^ 16) % 256))) = e33 at hP hD hB
  have hB : zs_hold 256 e33 (n3 + 6, (zs_ent3 (n3, B) (zs_pw 2 (S k)) f (zs_e f g k)).2) := hB
  refine lv_aload_n hx hb d_MD_entry_88 rfl (lv_at hl 6 rfl) ?_
  refine lv_iload hx hb d_MD_entry_89 (lv_at hl 2 rfl) ?_
  refine lv_aload_n hx hb d_MD_entry_91 rfl (lv_at hl 6 rfl) ?_
  refine va_get (D := D) (ci := 2) (v := .int (nI (n3 + 6))) (C := R_MD) (T := F_MD) (N := 12) hx hb hg i_MD hown hE.1 hP 0 rfl rfl 4 (by decide) (hg _ zw_492) (fun _ h9 => h9) rfl d_MD_entry_92 ?_
  refine lv_iload hx hb d_MD_entry_95 (lv_at hl 3 rfl) ?_
  refine lv_iload hx hb d_MD_entry_97 (lv_at hl 4 rfl) ?_
  refine lv_iconst (v := (nI 2)) hx hb d_MD_entry_99 (by decide) ?_
  refine zRd (rest := [.int (nI (n3 + 6)), .int (nI n3), .ref (gg 0)]) (zrS hS9 (c_MD_word l D cI cC cJ (nI (zs_pw (zs_pw 2 (S k)) (zs_e f g k))) (nI (zs_pw 2 (S k))) (nI 2)) zc_MD_word zw_573 zw_574 (by decide) (trivial) hE rfl hl.1 rfl (Nat.le_of_ble_eq_true rfl) d_MD_entry_100) ?_
  refine zRd (rest := []) (zrV hS9 (c_MD_sign l D cI cC cJ gg ft n0 n2 (n3 + 6) rt rd n4 e0 e2 e33 e5 e4 (by omega) (by omega) (by omega) (by omega) (zs_ent3 (n3, B) (zs_pw 2 (S k)) f (zs_e f g k)).2 hB n3 (n3 + 6) (by omega) (by omega) (zs_word (nI (zs_pw (zs_pw 2 (S k)) (zs_e f g k))) (nI (zs_pw 2 (S k))) (nI 2))) zc_MD_sign zw_585 zw_587 zp_31 (by decide) (va_recv hE.1 hP (ci := 2) (q := (R_MD, F_MD, 12)) rfl (q0 := 0) rfl) (hP) hE rfl hl.1 rfl (Nat.le_of_ble_eq_true rfl) d_MD_entry_103) ?_
  have l9 := zs_sg_lt (zs_ent3 (n3, B) (zs_pw 2 (S k)) f (zs_e f g k)).2 n3 (n3 + 6) (zs_word (nI (zs_pw (zs_pw 2 (S k)) (zs_e f g k))) (nI (zs_pw 2 (S k))) (nI 2))
  refine lv_istore hx hb d_MD_entry_106 hl (by decide) (lv' := [(10, .int (nI (zs_sg (zs_ent3 (n3, B) (zs_pw 2 (S k)) f (zs_e f g k)).2 n3 (n3 + 6) (zs_word (nI (zs_pw (zs_pw 2 (S k)) (zs_e f g k))) (nI (zs_pw 2 (S k))) (nI 2))))), (9, .int (nI (zs_pw 2 (zs_e f g k)))), (8, .int (zs_wrap f (zs_pw (zs_pw 2 (S k)) (zs_e f g k)) (zs_pw 2 (S k)))), (7, .int (nI n3)), (6, .int (nI (zs_pw (zs_pw 2 (S k)) (zs_e f g k)))), (5, .int (nI (zs_pw 2 (S k)))), (4, .int (nI (zs_e f g k))), (0, .ref (gg 0)), (1, .int (nI k)), (2, .int f), (3, .int g)]) rfl (fun ls hl => ?_)
  refine lv_aload_n hx hb d_MD_entry_108 rfl (lv_at hl 7 rfl) ?_
  refine lv_iload hx hb d_MD_entry_109 (lv_at hl 0 rfl) ?_
  refine zWr (rest := []) (zrV hS9 (c_MD_addTwo l D cI cC cJ gg ft n0 n2 (n3 + 6) rt rd n4 e0 e2 e33 e5 e4 (by omega) (by omega) (by omega) (by omega) hh (nI (zs_sg (zs_ent3 (n3, B) (zs_pw 2 (S k)) f (zs_e f g k)).2 n3 (n3 + 6) (zs_word (nI (zs_pw (zs_pw 2 (S k)) (zs_e f g k))) (nI (zs_pw 2 (S k))) (nI 2)))) (by omega)) zc_MD_addTwo zw_581 zw_583 zp_30 (by decide) (va_recv hE.1 hP (ci := 2) (q := (R_MD, F_MD, 12)) rfl (q0 := 0) rfl) (hP) hE rfl hl.1 rfl (Nat.le_of_ble_eq_true rfl) d_MD_entry_111) hS (fun _ _ h => h) (fun _ h => h) (fun H locs hP hz hk9 hS => ?_)
  have hP : va_P D zcl [((gg 0), .inr (2, [.int ft, .int (nI n0), .ref (gg 1), .int (nI n2), .int (nI (n3 + 8)), .int (nI rt), .ref (gg 2), .ref (gg 3), .ref (gg 4), .int (nI rd), .int (nI n4), .ref (gg 5)])), ((gg 1), .inl (cI, 4, .inl e0)), ((gg 2), .inl (cI, 40, .inl e2)), ((gg 3), .inl (cI, 120, .inl (upd (upd e33 (n3 + 6) (nI ((zs_un (nI (zs_sg (zs_ent3 (n3, B) (zs_pw 2 (S k)) f (zs_e f g k)).2 n3 (n3 + 6) (zs_word (nI (zs_pw (zs_pw 2 (S k)) (zs_e f g k))) (nI (zs_pw 2 (S k))) (nI 2)))) % 65536) / 256))) (n3 + 6 + 1) (nI ((zs_un (nI (zs_sg (zs_ent3 (n3, B) (zs_pw 2 (S k)) f (zs_e f g k)).2 n3 (n3 + 6) (zs_word (nI (zs_pw (zs_pw 2 (S k)) (zs_e f g k))) (nI (zs_pw 2 (S k))) (nI 2)))) % 65536) % 256))))), ((gg 4), .inl (cI, 40, .inl e5)), ((gg 5), .inl (cC, 160, .inl e4))] H := hP
  have hD : va_D (zAM gg) [((gg 0), .inr (2, [.int ft, .int (nI n0), .ref (gg 1), .int (nI n2), .int (nI (n3 + 8)), .int (nI rt), .ref (gg 2), .ref (gg 3), .ref (gg 4), .int (nI rd), .int (nI n4), .ref (gg 5)])), ((gg 1), .inl (cI, 4, .inl e0)), ((gg 2), .inl (cI, 40, .inl e2)), ((gg 3), .inl (cI, 120, .inl (upd (upd e33 (n3 + 6) (nI ((zs_un (nI (zs_sg (zs_ent3 (n3, B) (zs_pw 2 (S k)) f (zs_e f g k)).2 n3 (n3 + 6) (zs_word (nI (zs_pw (zs_pw 2 (S k)) (zs_e f g k))) (nI (zs_pw 2 (S k))) (nI 2)))) % 65536) / 256))) (n3 + 6 + 1) (nI ((zs_un (nI (zs_sg (zs_ent3 (n3, B) (zs_pw 2 (S k)) f (zs_e f g k)).2 n3 (n3 + 6) (zs_word (nI (zs_pw (zs_pw 2 (S k)) (zs_e f g k))) (nI (zs_pw 2 (S k))) (nI 2)))) % 65536) % 256))))), ((gg 4), .inl (cI, 40, .inl e5)), ((gg 5), .inl (cC, 160, .inl e4))] := zMd_D hh
  have hv9 : zs_un (nI (zs_sg (zs_ent3 (n3, B) (zs_pw 2 (S k)) f (zs_e f g k)).2 n3 (n3 + 6) (zs_word (nI (zs_pw (zs_pw 2 (S k)) (zs_e f g k))) (nI (zs_pw 2 (S k))) (nI 2)))) % 65536 = zs_sg (zs_ent3 (n3, B) (zs_pw 2 (S k)) f (zs_e f g k)).2 n3 (n3 + 6) (zs_word (nI (zs_pw (zs_pw 2 (S k)) (zs_e f g k))) (nI (zs_pw 2 (S k))) (nI 2)) := by rw [zs_un_nI (by omega)]; exact Nat.mod_eq_of_lt (by omega)
  rw [hv9] at hP
  have hB : zs_hold 256 (upd (upd e33 (n3 + 6) (nI ((zs_sg (zs_ent3 (n3, B) (zs_pw 2 (S k)) f (zs_e f g k)).2 n3 (n3 + 6) (zs_word (nI (zs_pw (zs_pw 2 (S k)) (zs_e f g k))) (nI (zs_pw 2 (S k))) (nI 2))) / 256))) (n3 + 6 + 1) (nI ((zs_sg (zs_ent3 (n3, B) (zs_pw 2 (S k)) f (zs_e f g k)).2 n3 (n3 + 6) (zs_word (nI (zs_pw (zs_pw 2 (S k)) (zs_e f g k))) (nI (zs_pw 2 (S k))) (nI 2))) % 256))) (zs_pair (n3 + 6, (zs_ent3 (n3, B) (zs_pw 2 (S k)) f (zs_e f g k)).2) (zs_sg (zs_ent3 (n3, B) (zs_pw 2 (S k)) f (zs_e f g k)).2 n3 (n3 + 6) (zs_word (nI (zs_pw (zs_pw 2 (S k)) (zs_e f g k))) (nI (zs_pw 2 (S k))) (nI 2)))) := zs_hold_pair (v := zs_sg (zs_ent3 (n3, B) (zs_pw 2 (S k)) f (zs_e f g k)).2 n3 (n3 + 6) (zs_word (nI (zs_pw (zs_pw 2 (S k)) (zs_e f g k))) (nI (zs_pw 2 (S k))) (nI 2))) hB (by omega)
  have hP : va_P D zcl [((gg 0), .inr (2, [.int ft, .int (nI n0), .ref (gg 1), .int (nI n2), .int (nI (n3 + 8)), .int (nI rt), .ref (gg 2), .ref (gg 3), .ref (gg 4), .int (nI rd), .int (nI n4), .ref (gg 5)])), ((gg 1), .inl (cI, 4, .inl e0)), ((gg 2), .inl (cI, 40, .inl e2)), ((gg 3), .inl (cI, 120, .inl (upd (upd e33 (n3 + 6) (nI ((zs_sg (zs_ent3 (n3, B) (zs_pw 2 (S k)) f (zs_e f g k)).2 n3 (n3 + 6) (zs_word (nI (zs_pw (zs_pw 2 (S k)) (zs_e f g k))) (nI (zs_pw 2 (S k))) (nI 2))) / 256))) (n3 + 6 + 1) (nI ((zs_sg (zs_ent3 (n3, B) (zs_pw 2 (S k)) f (zs_e f g k)).2 n3 (n3 + 6) (zs_word (nI (zs_pw (zs_pw 2 (S k)) (zs_e f g k))) (nI (zs_pw 2 (S k))) (nI 2))) % 256))))), ((gg 4), .inl (cI, 40, .inl e5)), ((gg 5), .inl (cC, 160, .inl e4))] H := hP
  have hD : va_D (zAM gg) [((gg 0), .inr (2, [.int ft, .int (nI n0), .ref (gg 1), .int (nI n2), .int (nI (n3 + 8)), .int (nI rt), .ref (gg 2), .ref (gg 3), .ref (gg 4), .int (nI rd), .int (nI n4), .ref (gg 5)])), ((gg 1), .inl (cI, 4, .inl e0)), ((gg 2), .inl (cI, 40, .inl e2)), ((gg 3), .inl (cI, 120, .inl (upd (upd e33 (n3 + 6) (nI ((zs_sg (zs_ent3 (n3, B) (zs_pw 2 (S k)) f (zs_e f g k)).2 n3 (n3 + 6) (zs_word (nI (zs_pw (zs_pw 2 (S k)) (zs_e f g k))) (nI (zs_pw 2 (S k))) (nI 2))) / 256))) (n3 + 6 + 1) (nI ((zs_sg (zs_ent3 (n3, B) (zs_pw 2 (S k)) f (zs_e f g k)).2 n3 (n3 + 6) (zs_word (nI (zs_pw (zs_pw 2 (S k)) (zs_e f g k))) (nI (zs_pw 2 (S k))) (nI 2))) % 256))))), ((gg 4), .inl (cI, 40, .inl e5)), ((gg 5), .inl (cC, 160, .inl e4))] := zMd_D hh
  generalize (upd (upd e33 (n3 + 6) (nI ((zs_sg (zs_ent3 (n3, B) (zs_pw 2 (S k)) f (zs_e f g k)).2 n3 (n3 + 6) (zs_word (nI (zs_pw (zs_pw 2 (S k)) (zs_e f g k))) (nI (zs_pw 2 (S k))) (nI 2))) / 256))) (n3 + 6 + 1) (nI ((zs_sg (zs_ent3 (n3, B) (zs_pw 2 (S k)) f (zs_e f g k)).2 n3 (n3 + 6) (zs_word (nI (zs_pw (zs_pw 2 (S k)) (zs_e f g k))) (nI (zs_pw 2 (S k))) (nI 2))) % 256))) = e34 at hP hD hB
  exact W.vret hx hb hr (fun t ht _ => ⟨rfl, by rw [ht]; exact ⟨e34, hB, hP⟩, hS.F ht⟩) hS.2.2 d_MD_entry_114

set_option maxHeartbeats 4000000 in
set_option maxRecDepth 100000 in
theorem c_MD_entryOf (l : Launch) (D : va_G) (cI cC cJ : ClassId) (gg : Nat → Nat) (ft : Int32) (n0 n2 n3 rt rd n4 : Nat) (e0 e2 e3 e5 e4 : Nat → Int32) (hn0 : n0 ≤ 4) (hn2 : n2 ≤ 40) (hn3 : n3 ≤ 120) (hn4 : n4 ≤ 160) (B : Nat → Nat) (hB : zs_hold 256 e3 (n3, B)) (S : Nat → Nat) (hS0 : zs_hold 32748 e0 (n0, S)) (k : Nat) (hk : k < n0) (h3 : B 1 ≤ 3) (h6 : 6 + B 1 * 8 ≤ n3) : Met l y_MD_entryOf (zw k_MD_entryOf) ({ frames := 2, cells := 0, slots := 0, locals := 44 }) (zPc [.ref (gg 0), .int (nI k)] (fun H => va_P D zcl (zMd cI cC gg ft n0 n2 n3 rt rd n4 e0 e2 e3 e5 e4) H) D cI cC cJ) (QcRead (zs_ent B (S k) (zs_pw 2 (S k)) 0 (B 1))) 0 0 (fun _ => False) := by
  refine zMet (by decide) (Nat.le_of_ble_eq_true rfl) ?_
  intro p e s m below meth c hx hb hr hg hown hlk hml hP hE ls hl
  have hl : lv_has ls 6 [(0, .ref (gg 0)), (1, .int (nI k))] := hl
  have hS9 : CallFix p m c b_MD_entryOf 6 s [.ref (gg 0), .int (nI k)].toArray zg "SealedFilesModel" := ⟨hx, hb, hml, hown, hg⟩
  have hP : va_P D zcl [((gg 0), .inr (2, [.int ft, .int (nI n0), .ref (gg 1), .int (nI n2), .int (nI n3), .int (nI rt), .ref (gg 2), .ref (gg 3), .ref (gg 4), .int (nI rd), .int (nI n4), .ref (gg 5)])), ((gg 1), .inl (cI, 4, .inl e0)), ((gg 2), .inl (cI, 40, .inl e2)), ((gg 3), .inl (cI, 120, .inl e3)), ((gg 4), .inl (cI, 40, .inl e5)), ((gg 5), .inl (cC, 160, .inl e4))] s.heap := hP
  have h8 : S k < 32748 := (hS0 k hk).2
  refine lv_iconst (v := (nI 2)) hx hb d_MD_entryOf_0 (by decide) ?_
  refine lv_aload_n hx hb d_MD_entryOf_1 rfl (lv_at hl 0 rfl) ?_
  refine va_get (D := D) (ci := 2) (v := .ref (gg 1)) (C := R_MD) (T := F_MD) (N := 12) hx hb hg i_MD hown hE.1 hP 0 rfl rfl 2 (by decide) (hg _ zw_490) (fun _ h9 => h9) rfl d_MD_entryOf_2 ?_
  refine lv_iload_n hx hb d_MD_entryOf_5 rfl (lv_at hl 1 rfl) ?_
  refine zald hx hb hE.1 hP 1 0 rfl rfl (by omega) (by decide) d_MD_entryOf_6 ?_
  refine ztop (y := nI (S k)) ((hS0 k hk).1) ?_
  refine zRd (rest := []) (zrS hS9 (c_MD_power l D cI cC cJ 2 (S k) (by decide) (by omega)) zc_MD_power zw_546 zw_547 (by decide) (trivial) hE rfl hl.1 rfl (Nat.le_of_ble_eq_true rfl) d_MD_entryOf_7) ?_
  refine lv_istore_n hx hb d_MD_entryOf_10 rfl hl (by decide) (lv' := [(2, .int (nI (zs_pw 2 (S k)))), (0, .ref (gg 0)), (1, .int (nI k))]) rfl (fun ls hl => ?_)
  refine lv_iconst (v := (nI 0)) hx hb d_MD_entryOf_11 (by decide) ?_
  refine lv_istore_n hx hb d_MD_entryOf_12 rfl hl (by decide) (lv' := [(3, .int (nI 0)), (2, .int (nI (zs_pw 2 (S k)))), (0, .ref (gg 0)), (1, .int (nI k))]) rfl (fun ls hl => ?_)
  have hl : lv_has ls 6 [(3, .int (nI 0)), (2, .int (nI (zs_pw 2 (S k)))), (0, .ref (gg 0)), (1, .int (nI k))] := lv_sub hl [0, 1, 2, 3] rfl
  have loop : ∀ (k_ : Nat) (i : Nat), i + k_ = B 1 → zs_ent B (S k) (zs_pw 2 (S k)) i k_ = zs_ent B (S k) (zs_pw 2 (S k)) 0 (B 1) → ∀ ls : Array Slot, lv_has ls 6 [(3, .int (nI i)), (2, .int (nI (zs_pw 2 (S k)))), (0, .ref (gg 0)), (1, .int (nI k))] → W p l e ({ frames := 2, cells := 0, slots := 0, locals := 44 }) s m [.ref (gg 0), .int (nI k)].toArray below meth c s.heap [] 0 0 (MQ below (QcRead (zs_ent B (S k) (zs_pw 2 (S k)) 0 (B 1))) [.ref (gg 0), .int (nI k)].toArray s 0 0 (fun _ => False)) (F0 m 13 ls []) := by
    intro k_
    induction k_ with
    | zero =>
      intro i hi he ls hl
      refine lv_iload_n hx hb d_MD_entryOf_13 rfl (lv_at hl 0 rfl) ?_
      refine lv_aload_n hx hb d_MD_entryOf_14 rfl (lv_at hl 2 rfl) ?_
      refine va_get (D := D) (ci := 2) (v := .ref (gg 3)) (C := R_MD) (T := F_MD) (N := 12) hx hb hg i_MD hown hE.1 hP 0 rfl rfl 7 (by decide) (hg _ zw_495) (fun _ h9 => h9) rfl d_MD_entryOf_15 ?_
      refine lv_iconst (v := (nI 1)) hx hb d_MD_entryOf_18 (by decide) ?_
      refine zald hx hb hE.1 hP 3 0 rfl rfl (by decide) (by decide) d_MD_entryOf_19 ?_
      refine ztop (y := nI (B 1)) ((hB 1 (show 1 < n3 by omega)).1) ?_
      refine lv_icmp_ge hx hb d_MD_entryOf_20 (tgt := 87) (by decide) (fun _ => ?_) (fun z9 => absurd (nI_le (by omega) (by omega)) z9)
      refine lv_iconst (v := (-1)) hx hb d_MD_entryOf_87 (by decide) ?_
      exact W.iret (v := (-1)) hx hb hr (fun t ht _ => ⟨congrArg (fun z => Outcome.returned (some (Value.int z))) (show (-1 : Int32) = _ from he), ht⟩) t_nil d_MD_entryOf_88
    | succ k_ ih =>
      intro i hi he ls hl
      refine lv_iload_n hx hb d_MD_entryOf_13 rfl (lv_at hl 0 rfl) ?_
      refine lv_aload_n hx hb d_MD_entryOf_14 rfl (lv_at hl 2 rfl) ?_
      refine va_get (D := D) (ci := 2) (v := .ref (gg 3)) (C := R_MD) (T := F_MD) (N := 12) hx hb hg i_MD hown hE.1 hP 0 rfl rfl 7 (by decide) (hg _ zw_495) (fun _ h9 => h9) rfl d_MD_entryOf_15 ?_
      refine lv_iconst (v := (nI 1)) hx hb d_MD_entryOf_18 (by decide) ?_
      refine zald hx hb hE.1 hP 3 0 rfl rfl (by decide) (by decide) d_MD_entryOf_19 ?_
      refine ztop (y := nI (B 1)) ((hB 1 (show 1 < n3 by omega)).1) ?_
      refine lv_icmp_ge hx hb d_MD_entryOf_20 (tgt := 87) (by decide) (fun z9 => absurd z9 (nI_ge (by omega) (by omega))) (fun _ => ?_)
      refine lv_iconst (v := (nI 2)) hx hb d_MD_entryOf_23 (by decide) ?_
      refine lv_bipush (v := (nI 8)) hx hb d_MD_entryOf_24 (by decide) ?_
      refine lv_iload_n hx hb d_MD_entryOf_26 rfl (lv_at hl 0 rfl) ?_
      refine lv_imul hx hb d_MD_entryOf_27 ?_
      refine lv_iadd hx hb d_MD_entryOf_28 ?_
      refine ztop (y := nI (2 + 8 * i)) (by rw [pk_mul, nI_add]) ?_
      refine lv_istore hx hb d_MD_entryOf_29 hl (by decide) (lv' := [(4, .int (nI (2 + 8 * i))), (3, .int (nI i)), (2, .int (nI (zs_pw 2 (S k)))), (0, .ref (gg 0)), (1, .int (nI k))]) rfl (fun ls hl => ?_)
      refine lv_aload_n hx hb d_MD_entryOf_31 rfl (lv_at hl 3 rfl) ?_
      refine lv_iload hx hb d_MD_entryOf_32 (lv_at hl 0 rfl) ?_
      refine zRd (rest := []) (zrV hS9 (c_MD_two l D cI cC cJ gg ft n0 n2 n3 rt rd n4 e0 e2 e3 e5 e4 (by omega) (by omega) (by omega) (by omega) B hB (2 + 8 * i) (by omega)) zc_MD_two zw_599 zw_601 zp_33 (by decide) (va_recv hE.1 hP (ci := 2) (q := (R_MD, F_MD, 12)) rfl (q0 := 0) rfl) (hP) hE rfl hl.1 rfl (Nat.le_of_ble_eq_true rfl) d_MD_entryOf_34) ?_
      refine lv_aload_n hx hb d_MD_entryOf_37 rfl (lv_at hl 3 rfl) ?_
      refine va_get (D := D) (ci := 2) (v := .ref (gg 1)) (C := R_MD) (T := F_MD) (N := 12) hx hb hg i_MD hown hE.1 hP 0 rfl rfl 2 (by decide) (hg _ zw_490) (fun _ h9 => h9) rfl d_MD_entryOf_38 ?_
      refine lv_iload_n hx hb d_MD_entryOf_41 rfl (lv_at hl 4 rfl) ?_
      refine zald hx hb hE.1 hP 1 0 rfl rfl (by omega) (by decide) d_MD_entryOf_42 ?_
      refine ztop (y := nI (S k)) ((hS0 k hk).1) ?_
      have h7 : zs_two B (2 + 8 * i) < 65536 := zs_two_lt ((hB (2 + 8 * i) (show 2 + 8 * i < n3 by omega)).2) ((hB (2 + 8 * i + 1) (show 2 + 8 * i + 1 < n3 by omega)).2)
      refine zRd (rest := []) (zrS hS9 (c_MD_power l D cI cC cJ (zs_two B (2 + 8 * i)) (S k) (by omega) (by omega)) zc_MD_power zw_546 zw_547 (by decide) (trivial) hE rfl hl.1 rfl (Nat.le_of_ble_eq_true rfl) d_MD_entryOf_43) ?_
      refine ztop (y := nI (zs_z B (2 + 8 * i) (S k))) (rfl) ?_
      refine lv_istore hx hb d_MD_entryOf_46 hl (by decide) (lv' := [(5, .int (nI (zs_z B (2 + 8 * i) (S k)))), (4, .int (nI (2 + 8 * i))), (3, .int (nI i)), (2, .int (nI (zs_pw 2 (S k)))), (0, .ref (gg 0)), (1, .int (nI k))]) rfl (fun ls hl => ?_)
      refine lv_aload_n hx hb d_MD_entryOf_48 rfl (lv_at hl 4 rfl) ?_
      refine lv_iload hx hb d_MD_entryOf_49 (lv_at hl 1 rfl) ?_
      refine lv_bipush (v := (nI 6)) hx hb d_MD_entryOf_51 (by decide) ?_
      refine lv_iadd hx hb d_MD_entryOf_53 ?_
      refine ztop (y := nI (2 + 8 * i + 6)) (nI_add _ _) ?_
      refine zRd (rest := []) (zrV hS9 (c_MD_two l D cI cC cJ gg ft n0 n2 n3 rt rd n4 e0 e2 e3 e5 e4 (by omega) (by omega) (by omega) (by omega) B hB (2 + 8 * i + 6) (by omega)) zc_MD_two zw_599 zw_601 zp_33 (by decide) (va_recv hE.1 hP (ci := 2) (q := (R_MD, F_MD, 12)) rfl (q0 := 0) rfl) (hP) hE rfl hl.1 rfl (Nat.le_of_ble_eq_true rfl) d_MD_entryOf_54) ?_
      refine lv_aload_n hx hb d_MD_entryOf_57 rfl (lv_at hl 4 rfl) ?_
      refine lv_iload hx hb d_MD_entryOf_58 (lv_at hl 1 rfl) ?_
      refine lv_iload hx hb d_MD_entryOf_60 (lv_at hl 1 rfl) ?_
      refine lv_bipush (v := (nI 6)) hx hb d_MD_entryOf_62 (by decide) ?_
      refine lv_iadd hx hb d_MD_entryOf_64 ?_
      refine ztop (y := nI (2 + 8 * i + 6)) (nI_add _ _) ?_
      refine lv_iload hx hb d_MD_entryOf_65 (lv_at hl 0 rfl) ?_
      refine lv_iload_n hx hb d_MD_entryOf_67 rfl (lv_at hl 3 rfl) ?_
      refine lv_iconst (v := (nI 2)) hx hb d_MD_entryOf_68 (by decide) ?_
      refine zRd (rest := [.int (nI (2 + 8 * i + 6)), .int (nI (2 + 8 * i)), .ref (gg 0), .int (nI (zs_two B (2 + 8 * i + 6)))]) (zrS hS9 (c_MD_word l D cI cC cJ (nI (zs_z B (2 + 8 * i) (S k))) (nI (zs_pw 2 (S k))) (nI 2)) zc_MD_word zw_573 zw_574 (by decide) (trivial) hE rfl hl.1 rfl (Nat.le_of_ble_eq_true rfl) d_MD_entryOf_69) ?_
      refine zRd (rest := [.int (nI (zs_two B (2 + 8 * i + 6)))]) (zrV hS9 (c_MD_sign l D cI cC cJ gg ft n0 n2 n3 rt rd n4 e0 e2 e3 e5 e4 (by omega) (by omega) (by omega) (by omega) B hB (2 + 8 * i) (2 + 8 * i + 6) (by omega) (by omega) (zs_word (nI (zs_z B (2 + 8 * i) (S k))) (nI (zs_pw 2 (S k))) (nI 2))) zc_MD_sign zw_585 zw_587 zp_31 (by decide) (va_recv hE.1 hP (ci := 2) (q := (R_MD, F_MD, 12)) rfl (q0 := 0) rfl) (hP) hE rfl hl.1 rfl (Nat.le_of_ble_eq_true rfl) d_MD_entryOf_72) ?_
      have l2 := zs_sg_lt B (2 + 8 * i) (2 + 8 * i + 6) (zs_word (nI (zs_z B (2 + 8 * i) (S k))) (nI (zs_pw 2 (S k))) (nI 2))
      have l1 : zs_two B (2 + 8 * i + 6) < 65536 := zs_two_lt ((hB (2 + 8 * i + 6) (show 2 + 8 * i + 6 < n3 by omega)).2) ((hB (2 + 8 * i + 6 + 1) (show 2 + 8 * i + 6 + 1 < n3 by omega)).2)
      by_cases gg9 : zs_two B (2 + 8 * i + 6) = zs_sg B (2 + 8 * i) (2 + 8 * i + 6) (zs_word (nI (zs_z B (2 + 8 * i) (S k))) (nI (zs_pw 2 (S k))) (nI 2))
      · refine lv_icmp_ne hx hb d_MD_entryOf_75 (tgt := 81) (by decide) (fun z9 => absurd (by rw [gg9]) z9) (fun _ => ?_)
        refine lv_iload hx hb d_MD_entryOf_78 (lv_at hl 1 rfl) ?_
        exact W.iret (v := (nI (2 + 8 * i))) hx hb hr (fun t ht _ => ⟨congrArg (fun z => Outcome.returned (some (Value.int z))) (by rw [← he, zs_ent, if_pos gg9]), ht⟩) t_nil d_MD_entryOf_80
      · refine lv_icmp_ne hx hb d_MD_entryOf_75 (tgt := 81) (by decide) (fun _ => ?_) (fun z9 => absurd z9 (fun z => gg9 ((nI_eq (by omega) (by omega)).mp z)))
        refine lv_iinc (k := 2) (v := nI (i + 1)) hx hb d_MD_entryOf_81 hl rfl (nI_1 i) (by decide) (lv' := [(3, .int (nI (i + 1))), (5, .int (nI (zs_z B (2 + 8 * i) (S k)))), (4, .int (nI (2 + 8 * i))), (2, .int (nI (zs_pw 2 (S k)))), (0, .ref (gg 0)), (1, .int (nI k))]) rfl (fun ls hl => ?_)
        refine lv_goto hx hb d_MD_entryOf_84 (tgt := 13) (by decide) ?_
        have hl : lv_has ls 6 [(3, .int (nI (i + 1))), (2, .int (nI (zs_pw 2 (S k)))), (0, .ref (gg 0)), (1, .int (nI k))] := lv_sub hl [0, 3, 4, 5] rfl
        exact ih (i + 1) (by omega) (by rw [zs_ent, if_neg gg9] at he; exact he) ls hl
  exact loop (B 1) 0 (by omega) rfl ls hl

set_option maxHeartbeats 4000000 in
set_option maxRecDepth 100000 in
theorem c_MD_piece (l : Launch) (D : va_G) (cI cC cJ : ClassId) (gg : Nat → Nat) (ft : Int32) (n0 n2 n3 rt rd n4 : Nat) (e0 e2 e3 e5 e4 : Nat → Int32) (hn0 : n0 ≤ 4) (hn2 : n2 ≤ 40) (hn3 : n3 ≤ 120) (hn4 : n4 ≤ 160) (B : Nat → Nat) (hB : zs_hold 256 e3 (n3, B)) (a n k t : Nat) (f : Int32) (hr9 : a + n + 2 ≤ n3) (ht9 : t < 2) : Met l y_MD_piece (zw k_MD_piece) ({ frames := 2, cells := 0, slots := 0, locals := 44 }) (zPc [.ref (gg 0), .int (nI a), .int (nI n), .int (nI k), .int f, .int (nI t)] (fun H => va_P D zcl (zMd cI cC gg ft n0 n2 n3 rt rd n4 e0 e2 e3 e5 e4) H) D cI cC cJ) (QcRead (zs_pcode B a (a + n) f k t)) 0 0 (fun _ => False) := by
  refine zMet (by decide) (Nat.le_of_ble_eq_true rfl) ?_
  intro p e s m below meth c hx hb hr hg hown hlk hml hP hE ls hl
  have hl : lv_has ls 7 [(0, .ref (gg 0)), (1, .int (nI a)), (2, .int (nI n)), (3, .int (nI k)), (4, .int f), (5, .int (nI t))] := hl
  have hS9 : CallFix p m c b_MD_piece 7 s [.ref (gg 0), .int (nI a), .int (nI n), .int (nI k), .int f, .int (nI t)].toArray zg "SealedFilesModel" := ⟨hx, hb, hml, hown, hg⟩
  have hP : va_P D zcl [((gg 0), .inr (2, [.int ft, .int (nI n0), .ref (gg 1), .int (nI n2), .int (nI n3), .int (nI rt), .ref (gg 2), .ref (gg 3), .ref (gg 4), .int (nI rd), .int (nI n4), .ref (gg 5)])), ((gg 1), .inl (cI, 4, .inl e0)), ((gg 2), .inl (cI, 40, .inl e2)), ((gg 3), .inl (cI, 120, .inl e3)), ((gg 4), .inl (cI, 40, .inl e5)), ((gg 5), .inl (cC, 160, .inl e4))] s.heap := hP
  have l1 : zs_two B (a + n) < 65536 := zs_two_lt ((hB (a + n) (show a + n < n3 by omega)).2) ((hB (a + n + 1) (show a + n + 1 < n3 by omega)).2)
  refine lv_aload_n hx hb d_MD_piece_0 rfl (lv_at hl 0 rfl) ?_
  refine lv_iload_n hx hb d_MD_piece_1 rfl (lv_at hl 1 rfl) ?_
  refine lv_iload_n hx hb d_MD_piece_2 rfl (lv_at hl 2 rfl) ?_
  refine lv_iadd hx hb d_MD_piece_3 ?_
  refine ztop (y := nI (a + n)) (nI_add _ _) ?_
  refine zRd (rest := []) (zrV hS9 (c_MD_two l D cI cC cJ gg ft n0 n2 n3 rt rd n4 e0 e2 e3 e5 e4 (by omega) (by omega) (by omega) (by omega) B hB (a + n) (by omega)) zc_MD_two zw_599 zw_601 zp_33 (by decide) (va_recv hE.1 hP (ci := 2) (q := (R_MD, F_MD, 12)) rfl (q0 := 0) rfl) (hP) hE rfl hl.1 rfl (Nat.le_of_ble_eq_true rfl) d_MD_piece_4) ?_
  refine lv_istore hx hb d_MD_piece_7 hl (by decide) (lv' := [(6, .int (nI (zs_two B (a + n)))), (0, .ref (gg 0)), (1, .int (nI a)), (2, .int (nI n)), (3, .int (nI k)), (4, .int f), (5, .int (nI t))]) rfl (fun ls hl => ?_)
  refine lv_iload hx hb d_MD_piece_9 (lv_at hl 0 rfl) ?_
  refine lv_aload_n hx hb d_MD_piece_11 rfl (lv_at hl 1 rfl) ?_
  refine lv_iload_n hx hb d_MD_piece_12 rfl (lv_at hl 2 rfl) ?_
  refine lv_iload_n hx hb d_MD_piece_13 rfl (lv_at hl 2 rfl) ?_
  refine lv_iload_n hx hb d_MD_piece_14 rfl (lv_at hl 3 rfl) ?_
  refine lv_iadd hx hb d_MD_piece_15 ?_
  refine ztop (y := nI (a + n)) (nI_add _ _) ?_
  refine lv_iload hx hb d_MD_piece_16 (lv_at hl 5 rfl) ?_
  refine lv_iload_n hx hb d_MD_piece_18 rfl (lv_at hl 4 rfl) ?_
  refine lv_iload hx hb d_MD_piece_19 (lv_at hl 6 rfl) ?_
  by_cases h9 : t = 0
  · refine lv_if_eq hx hb d_MD_piece_21 (tgt := 29) (by decide) (fun _ => ?_) (fun z9 => absurd (by rw [h9]; rfl) z9)
    refine lv_iconst (v := (nI 5)) hx hb d_MD_piece_29 (by decide) ?_
    refine ztop (y := zs_use t) (by rw [zs_use, if_pos h9]) ?_
    refine zRd (rest := [.int (nI (a + n)), .int (nI a), .ref (gg 0), .int (nI (zs_two B (a + n)))]) (zrS hS9 (c_MD_word l D cI cC cJ f (nI k) (zs_use t)) zc_MD_word zw_573 zw_574 (by decide) (trivial) hE rfl hl.1 rfl (Nat.le_of_ble_eq_true rfl) d_MD_piece_30) ?_
    refine zRd (rest := [.int (nI (zs_two B (a + n)))]) (zrV hS9 (c_MD_sign l D cI cC cJ gg ft n0 n2 n3 rt rd n4 e0 e2 e3 e5 e4 (by omega) (by omega) (by omega) (by omega) B hB a (a + n) (by omega) (by omega) (zs_word f (nI k) (zs_use t))) zc_MD_sign zw_585 zw_587 zp_31 (by decide) (va_recv hE.1 hP (ci := 2) (q := (R_MD, F_MD, 12)) rfl (q0 := 0) rfl) (hP) hE rfl hl.1 rfl (Nat.le_of_ble_eq_true rfl) d_MD_piece_33) ?_
    have l2 := zs_sg_lt B a (a + n) (zs_word f (nI k) (zs_use t))
    by_cases g1 : zs_two B (a + n) = zs_sg B a (a + n) (zs_word f (nI k) (zs_use t))
    · refine lv_icmp_ne hx hb d_MD_piece_36 (tgt := 41) (by decide) (fun z9 => absurd (by rw [g1]) z9) (fun _ => ?_)
      refine lv_iconst (v := (nI 0)) hx hb d_MD_piece_39 (by decide) ?_
      exact W.iret (v := (nI 0)) hx hb hr (fun t ht _ => ⟨congrArg (fun z => Outcome.returned (some (Value.int z))) (by rw [zs_pcode, if_pos g1]), ht⟩) t_nil d_MD_piece_40
    · refine lv_icmp_ne hx hb d_MD_piece_36 (tgt := 41) (by decide) (fun _ => ?_) (fun z9 => absurd z9 (fun z => g1 ((nI_eq (by omega) (by omega)).mp z)))
      refine lv_iload hx hb d_MD_piece_41 (lv_at hl 0 rfl) ?_
      refine lv_aload_n hx hb d_MD_piece_43 rfl (lv_at hl 1 rfl) ?_
      refine lv_iload_n hx hb d_MD_piece_44 rfl (lv_at hl 2 rfl) ?_
      refine lv_iload_n hx hb d_MD_piece_45 rfl (lv_at hl 2 rfl) ?_
      refine lv_iload_n hx hb d_MD_piece_46 rfl (lv_at hl 3 rfl) ?_
      refine lv_iadd hx hb d_MD_piece_47 ?_
      refine ztop (y := nI (a + n)) (nI_add _ _) ?_
      refine lv_iload hx hb d_MD_piece_48 (lv_at hl 5 rfl) ?_
      refine lv_iload_n hx hb d_MD_piece_50 rfl (lv_at hl 4 rfl) ?_
      refine lv_iload hx hb d_MD_piece_51 (lv_at hl 6 rfl) ?_
      refine lv_if_eq hx hb d_MD_piece_53 (tgt := 60) (by decide) (fun _ => ?_) (fun z9 => absurd (by rw [h9]; rfl) z9)
      refine lv_bipush (v := (nI 6)) hx hb d_MD_piece_60 (by decide) ?_
      refine ztop (y := zs_use (1 - t)) (by rw [zs_use, if_neg (by omega)]) ?_
      refine zRd (rest := [.int (nI (a + n)), .int (nI a), .ref (gg 0), .int (nI (zs_two B (a + n)))]) (zrS hS9 (c_MD_word l D cI cC cJ f (nI k) (zs_use (1 - t))) zc_MD_word zw_573 zw_574 (by decide) (trivial) hE rfl hl.1 rfl (Nat.le_of_ble_eq_true rfl) d_MD_piece_62) ?_
      refine zRd (rest := [.int (nI (zs_two B (a + n)))]) (zrV hS9 (c_MD_sign l D cI cC cJ gg ft n0 n2 n3 rt rd n4 e0 e2 e3 e5 e4 (by omega) (by omega) (by omega) (by omega) B hB a (a + n) (by omega) (by omega) (zs_word f (nI k) (zs_use (1 - t)))) zc_MD_sign zw_585 zw_587 zp_31 (by decide) (va_recv hE.1 hP (ci := 2) (q := (R_MD, F_MD, 12)) rfl (q0 := 0) rfl) (hP) hE rfl hl.1 rfl (Nat.le_of_ble_eq_true rfl) d_MD_piece_65) ?_
      have l3 := zs_sg_lt B a (a + n) (zs_word f (nI k) (zs_use (1 - t)))
      by_cases g2 : zs_two B (a + n) = zs_sg B a (a + n) (zs_word f (nI k) (zs_use (1 - t)))
      · refine lv_icmp_ne hx hb d_MD_piece_68 (tgt := 76) (by decide) (fun z9 => absurd (by rw [g2]) z9) (fun _ => ?_)
        refine lv_bipush (v := (-5)) hx hb d_MD_piece_71 (by decide) ?_
        refine lv_goto hx hb d_MD_piece_73 (tgt := 78) (by decide) ?_
        exact W.iret (v := (-5)) hx hb hr (fun t ht _ => ⟨congrArg (fun z => Outcome.returned (some (Value.int z))) (by rw [zs_pcode, if_neg g1, if_pos g2]), ht⟩) t_nil d_MD_piece_78
      · refine lv_icmp_ne hx hb d_MD_piece_68 (tgt := 76) (by decide) (fun _ => ?_) (fun z9 => absurd z9 (fun z => g2 ((nI_eq (by omega) (by omega)).mp z)))
        refine lv_bipush (v := (-4)) hx hb d_MD_piece_76 (by decide) ?_
        exact W.iret (v := (-4)) hx hb hr (fun t ht _ => ⟨congrArg (fun z => Outcome.returned (some (Value.int z))) (by rw [zs_pcode, if_neg g1, if_neg g2]), ht⟩) t_nil d_MD_piece_78
  · refine lv_if_eq hx hb d_MD_piece_21 (tgt := 29) (by decide) (fun z9 => absurd z9 (nI_ne0 (by omega) (by omega))) (fun _ => ?_)
    refine lv_bipush (v := (nI 6)) hx hb d_MD_piece_24 (by decide) ?_
    refine lv_goto hx hb d_MD_piece_26 (tgt := 30) (by decide) ?_
    refine ztop (y := zs_use t) (by rw [zs_use, if_neg h9]) ?_
    refine zRd (rest := [.int (nI (a + n)), .int (nI a), .ref (gg 0), .int (nI (zs_two B (a + n)))]) (zrS hS9 (c_MD_word l D cI cC cJ f (nI k) (zs_use t)) zc_MD_word zw_573 zw_574 (by decide) (trivial) hE rfl hl.1 rfl (Nat.le_of_ble_eq_true rfl) d_MD_piece_30) ?_
    refine zRd (rest := [.int (nI (zs_two B (a + n)))]) (zrV hS9 (c_MD_sign l D cI cC cJ gg ft n0 n2 n3 rt rd n4 e0 e2 e3 e5 e4 (by omega) (by omega) (by omega) (by omega) B hB a (a + n) (by omega) (by omega) (zs_word f (nI k) (zs_use t))) zc_MD_sign zw_585 zw_587 zp_31 (by decide) (va_recv hE.1 hP (ci := 2) (q := (R_MD, F_MD, 12)) rfl (q0 := 0) rfl) (hP) hE rfl hl.1 rfl (Nat.le_of_ble_eq_true rfl) d_MD_piece_33) ?_
    have l2 := zs_sg_lt B a (a + n) (zs_word f (nI k) (zs_use t))
    by_cases g1 : zs_two B (a + n) = zs_sg B a (a + n) (zs_word f (nI k) (zs_use t))
    · refine lv_icmp_ne hx hb d_MD_piece_36 (tgt := 41) (by decide) (fun z9 => absurd (by rw [g1]) z9) (fun _ => ?_)
      refine lv_iconst (v := (nI 0)) hx hb d_MD_piece_39 (by decide) ?_
      exact W.iret (v := (nI 0)) hx hb hr (fun t ht _ => ⟨congrArg (fun z => Outcome.returned (some (Value.int z))) (by rw [zs_pcode, if_pos g1]), ht⟩) t_nil d_MD_piece_40
    · refine lv_icmp_ne hx hb d_MD_piece_36 (tgt := 41) (by decide) (fun _ => ?_) (fun z9 => absurd z9 (fun z => g1 ((nI_eq (by omega) (by omega)).mp z)))
      refine lv_iload hx hb d_MD_piece_41 (lv_at hl 0 rfl) ?_
      refine lv_aload_n hx hb d_MD_piece_43 rfl (lv_at hl 1 rfl) ?_
      refine lv_iload_n hx hb d_MD_piece_44 rfl (lv_at hl 2 rfl) ?_
      refine lv_iload_n hx hb d_MD_piece_45 rfl (lv_at hl 2 rfl) ?_
      refine lv_iload_n hx hb d_MD_piece_46 rfl (lv_at hl 3 rfl) ?_
      refine lv_iadd hx hb d_MD_piece_47 ?_
      refine ztop (y := nI (a + n)) (nI_add _ _) ?_
      refine lv_iload hx hb d_MD_piece_48 (lv_at hl 5 rfl) ?_
      refine lv_iload_n hx hb d_MD_piece_50 rfl (lv_at hl 4 rfl) ?_
      refine lv_iload hx hb d_MD_piece_51 (lv_at hl 6 rfl) ?_
      refine lv_if_eq hx hb d_MD_piece_53 (tgt := 60) (by decide) (fun z9 => absurd z9 (nI_ne0 (by omega) (by omega))) (fun _ => ?_)
      refine lv_iconst (v := (nI 5)) hx hb d_MD_piece_56 (by decide) ?_
      refine lv_goto hx hb d_MD_piece_57 (tgt := 62) (by decide) ?_
      refine ztop (y := zs_use (1 - t)) (by rw [zs_use, if_pos (by omega)]) ?_
      refine zRd (rest := [.int (nI (a + n)), .int (nI a), .ref (gg 0), .int (nI (zs_two B (a + n)))]) (zrS hS9 (c_MD_word l D cI cC cJ f (nI k) (zs_use (1 - t))) zc_MD_word zw_573 zw_574 (by decide) (trivial) hE rfl hl.1 rfl (Nat.le_of_ble_eq_true rfl) d_MD_piece_62) ?_
      refine zRd (rest := [.int (nI (zs_two B (a + n)))]) (zrV hS9 (c_MD_sign l D cI cC cJ gg ft n0 n2 n3 rt rd n4 e0 e2 e3 e5 e4 (by omega) (by omega) (by omega) (by omega) B hB a (a + n) (by omega) (by omega) (zs_word f (nI k) (zs_use (1 - t)))) zc_MD_sign zw_585 zw_587 zp_31 (by decide) (va_recv hE.1 hP (ci := 2) (q := (R_MD, F_MD, 12)) rfl (q0 := 0) rfl) (hP) hE rfl hl.1 rfl (Nat.le_of_ble_eq_true rfl) d_MD_piece_65) ?_
      have l3 := zs_sg_lt B a (a + n) (zs_word f (nI k) (zs_use (1 - t)))
      by_cases g2 : zs_two B (a + n) = zs_sg B a (a + n) (zs_word f (nI k) (zs_use (1 - t)))
      · refine lv_icmp_ne hx hb d_MD_piece_68 (tgt := 76) (by decide) (fun z9 => absurd (by rw [g2]) z9) (fun _ => ?_)
        refine lv_bipush (v := (-5)) hx hb d_MD_piece_71 (by decide) ?_
        refine lv_goto hx hb d_MD_piece_73 (tgt := 78) (by decide) ?_
        exact W.iret (v := (-5)) hx hb hr (fun t ht _ => ⟨congrArg (fun z => Outcome.returned (some (Value.int z))) (by rw [zs_pcode, if_neg g1, if_pos g2]), ht⟩) t_nil d_MD_piece_78
      · refine lv_icmp_ne hx hb d_MD_piece_68 (tgt := 76) (by decide) (fun _ => ?_) (fun z9 => absurd z9 (fun z => g2 ((nI_eq (by omega) (by omega)).mp z)))
        refine lv_bipush (v := (-4)) hx hb d_MD_piece_76 (by decide) ?_
        exact W.iret (v := (-4)) hx hb hr (fun t ht _ => ⟨congrArg (fun z => Outcome.returned (some (Value.int z))) (by rw [zs_pcode, if_neg g1, if_neg g2]), ht⟩) t_nil d_MD_piece_78

set_option maxHeartbeats 4000000 in
set_option maxRecDepth 100000 in
theorem c_MD_uncover (l : Launch) (D : va_G) (cI cC cJ : ClassId) (gg : Nat → Nat) (ft : Int32) (n0 n2 n3 rt rd n4 : Nat) (e0 e2 e3 e5 e4 : Nat → Int32) (hn0 : n0 ≤ 4) (hn2 : n2 ≤ 40) (hn3 : n3 ≤ 120) (hn4 : n4 ≤ 160) (hh : zm_inj gg) (B : Nat → Nat) (hB : zs_hold 256 e3 (n3, B)) (O : Nat → Nat) (hO : zs_hold 256 e5 (rd, O)) (hrd : rd ≤ 40) (f : Int32) (a n k : Nat) (hr9 : a + n ≤ n3) : Met l y_MD_uncover (zw k_MD_uncover) ({ frames := 2, cells := 0, slots := 0, locals := 44 }) (zPc [.ref (gg 0), .int (nI a), .int (nI n), .int (nI k), .int f] (fun H => va_P D zcl (zMd cI cC gg ft n0 n2 n3 rt rd n4 e0 e2 e3 e5 e4) H) D cI cC cJ) (zQm none (fun H => ∃ e5' : Nat → Int32, zs_hold 256 e5' (zs_unc B f k a (rd, O) n) ∧ va_P D zcl (zMd cI cC gg ft n0 n2 n3 rt ((zs_unc B f k a (rd, O) n).1) n4 e0 e2 e3 (e5') e4) H) (zAM gg)) 0 0 (zAM gg) := by
  refine zMet (by decide) (Nat.le_of_ble_eq_true rfl) ?_
  intro p e s m below meth c hx hb hr hg hown hlk hml hP hE ls hl
  have hl : lv_has ls 6 [(0, .ref (gg 0)), (1, .int (nI a)), (2, .int (nI n)), (3, .int (nI k)), (4, .int f)] := hl
  have hS9 : CallFix p m c b_MD_uncover 6 s [.ref (gg 0), .int (nI a), .int (nI n), .int (nI k), .int f].toArray zg "SealedFilesModel" := ⟨hx, hb, hml, hown, hg⟩
  have hP : va_P D zcl [((gg 0), .inr (2, [.int ft, .int (nI n0), .ref (gg 1), .int (nI n2), .int (nI n3), .int (nI rt), .ref (gg 2), .ref (gg 3), .ref (gg 4), .int (nI rd), .int (nI n4), .ref (gg 5)])), ((gg 1), .inl (cI, 4, .inl e0)), ((gg 2), .inl (cI, 40, .inl e2)), ((gg 3), .inl (cI, 120, .inl e3)), ((gg 4), .inl (cI, 40, .inl e5)), ((gg 5), .inl (cC, 160, .inl e4))] s.heap := hP
  have hD : va_D (zAM gg) [((gg 0), .inr (2, [.int ft, .int (nI n0), .ref (gg 1), .int (nI n2), .int (nI n3), .int (nI rt), .ref (gg 2), .ref (gg 3), .ref (gg 4), .int (nI rd), .int (nI n4), .ref (gg 5)])), ((gg 1), .inl (cI, 4, .inl e0)), ((gg 2), .inl (cI, 40, .inl e2)), ((gg 3), .inl (cI, 120, .inl e3)), ((gg 4), .inl (cI, 40, .inl e5)), ((gg 5), .inl (cC, 160, .inl e4))] := zMd_D hh
  have hS : va_S (zAM gg) s.heap s.heap [] := va_S.rf
  refine lv_iconst (v := (nI 0)) hx hb d_MD_uncover_0 (by decide) ?_
  refine lv_istore hx hb d_MD_uncover_1 hl (by decide) (lv' := [(5, .int (nI 0)), (0, .ref (gg 0)), (1, .int (nI a)), (2, .int (nI n)), (3, .int (nI k)), (4, .int f)]) rfl (fun ls hl => ?_)
  have hl : lv_has ls 6 [(5, .int (nI 0)), (0, .ref (gg 0)), (1, .int (nI a)), (2, .int (nI n)), (3, .int (nI k)), (4, .int f)] := lv_sub hl [0, 1, 2, 3, 4, 5] rfl
  have loop : ∀ (k_ : Nat) (j : Nat) (ex : Nat → Int32) (H : Heap) (locs : List Loc), j + k_ = n → zs_hold 256 ex (zs_unc B f k a (rd, O) j) → va_P D zcl (zMd cI cC gg ft n0 n2 n3 rt ((zs_unc B f k a (rd, O) j).1) n4 e0 e2 e3 ex e4) H → va_S (zAM gg) s.heap H locs → ∀ ls : Array Slot, lv_has ls 6 [(5, .int (nI j)), (0, .ref (gg 0)), (1, .int (nI a)), (2, .int (nI n)), (3, .int (nI k)), (4, .int f)] → W p l e ({ frames := 2, cells := 0, slots := 0, locals := 44 }) s m [.ref (gg 0), .int (nI a), .int (nI n), .int (nI k), .int f].toArray below meth c H locs 0 0 (MQ below (zQm none (fun H => ∃ e5' : Nat → Int32, zs_hold 256 e5' (zs_unc B f k a (rd, O) n) ∧ va_P D zcl (zMd cI cC gg ft n0 n2 n3 rt ((zs_unc B f k a (rd, O) n).1) n4 e0 e2 e3 (e5') e4) H) (zAM gg)) [.ref (gg 0), .int (nI a), .int (nI n), .int (nI k), .int f].toArray s 0 0 (zAM gg)) (F0 m 3 ls []) := by
    intro k_
    induction k_ with
    | zero =>
      intro j ex H locs hj hO hP hS ls hl
      have hP : va_P D zcl [((gg 0), .inr (2, [.int ft, .int (nI n0), .ref (gg 1), .int (nI n2), .int (nI n3), .int (nI rt), .ref (gg 2), .ref (gg 3), .ref (gg 4), .int (nI ((zs_unc B f k a (rd, O) j).1)), .int (nI n4), .ref (gg 5)])), ((gg 1), .inl (cI, 4, .inl e0)), ((gg 2), .inl (cI, 40, .inl e2)), ((gg 3), .inl (cI, 120, .inl e3)), ((gg 4), .inl (cI, 40, .inl ex)), ((gg 5), .inl (cC, 160, .inl e4))] H := hP
      have hD : va_D (zAM gg) [((gg 0), .inr (2, [.int ft, .int (nI n0), .ref (gg 1), .int (nI n2), .int (nI n3), .int (nI rt), .ref (gg 2), .ref (gg 3), .ref (gg 4), .int (nI ((zs_unc B f k a (rd, O) j).1)), .int (nI n4), .ref (gg 5)])), ((gg 1), .inl (cI, 4, .inl e0)), ((gg 2), .inl (cI, 40, .inl e2)), ((gg 3), .inl (cI, 120, .inl e3)), ((gg 4), .inl (cI, 40, .inl ex)), ((gg 5), .inl (cC, 160, .inl e4))] := zMd_D hh
      refine lv_iload hx hb d_MD_uncover_3 (lv_at hl 0 rfl) ?_
      refine lv_iload_n hx hb d_MD_uncover_5 rfl (lv_at hl 3 rfl) ?_
      refine lv_icmp_ge hx hb d_MD_uncover_6 (tgt := 70) (by decide) (fun _ => ?_) (fun z9 => absurd (nI_le (by omega) (by omega)) z9)
      obtain rfl : j = n := by omega
      exact W.vret hx hb hr (fun t ht _ => ⟨rfl, by rw [ht]; exact ⟨ex, hO, hP⟩, hS.F ht⟩) hS.2.2 d_MD_uncover_70
    | succ k_ ih =>
      intro j ex H locs hj hO hP hS ls hl
      have hP : va_P D zcl [((gg 0), .inr (2, [.int ft, .int (nI n0), .ref (gg 1), .int (nI n2), .int (nI n3), .int (nI rt), .ref (gg 2), .ref (gg 3), .ref (gg 4), .int (nI ((zs_unc B f k a (rd, O) j).1)), .int (nI n4), .ref (gg 5)])), ((gg 1), .inl (cI, 4, .inl e0)), ((gg 2), .inl (cI, 40, .inl e2)), ((gg 3), .inl (cI, 120, .inl e3)), ((gg 4), .inl (cI, 40, .inl ex)), ((gg 5), .inl (cC, 160, .inl e4))] H := hP
      have hD : va_D (zAM gg) [((gg 0), .inr (2, [.int ft, .int (nI n0), .ref (gg 1), .int (nI n2), .int (nI n3), .int (nI rt), .ref (gg 2), .ref (gg 3), .ref (gg 4), .int (nI ((zs_unc B f k a (rd, O) j).1)), .int (nI n4), .ref (gg 5)])), ((gg 1), .inl (cI, 4, .inl e0)), ((gg 2), .inl (cI, 40, .inl e2)), ((gg 3), .inl (cI, 120, .inl e3)), ((gg 4), .inl (cI, 40, .inl ex)), ((gg 5), .inl (cC, 160, .inl e4))] := zMd_D hh
      have hle := zs_unc_le B f k a (F := (rd, O)) hrd j
      refine lv_iload hx hb d_MD_uncover_3 (lv_at hl 0 rfl) ?_
      refine lv_iload_n hx hb d_MD_uncover_5 rfl (lv_at hl 3 rfl) ?_
      refine lv_icmp_ge hx hb d_MD_uncover_6 (tgt := 70) (by decide) (fun z9 => absurd z9 (nI_ge (by omega) (by omega))) (fun _ => ?_)
      refine lv_aload_n hx hb d_MD_uncover_9 rfl (lv_at hl 1 rfl) ?_
      refine va_get (D := D) (ci := 2) (v := .int (nI ((zs_unc B f k a (rd, O) j).1))) (C := R_MD) (T := F_MD) (N := 12) hx hb hg i_MD hown hE.1 hP 0 rfl rfl 9 (by decide) (hg _ zw_497) (fun _ h9 => h9) rfl d_MD_uncover_10 ?_
      refine lv_bipush (v := (nI 40)) hx hb d_MD_uncover_13 (by decide) ?_
      by_cases g : (zs_unc B f k a (rd, O) j).1 < 40
      · refine lv_icmp_ge hx hb d_MD_uncover_15 (tgt := 64) (by decide) (fun z9 => absurd z9 (nI_ge g (by omega))) (fun _ => ?_)
        refine lv_aload_n hx hb d_MD_uncover_18 rfl (lv_at hl 1 rfl) ?_
        refine va_get (D := D) (ci := 2) (v := .ref (gg 4)) (C := R_MD) (T := F_MD) (N := 12) hx hb hg i_MD hown hE.1 hP 0 rfl rfl 8 (by decide) (hg _ zw_496) (fun _ h9 => h9) rfl d_MD_uncover_19 ?_
        refine lv_aload_n hx hb d_MD_uncover_22 rfl (lv_at hl 1 rfl) ?_
        refine va_get (D := D) (ci := 2) (v := .int (nI ((zs_unc B f k a (rd, O) j).1))) (C := R_MD) (T := F_MD) (N := 12) hx hb hg i_MD hown hE.1 hP 0 rfl rfl 9 (by decide) (hg _ zw_497) (fun _ h9 => h9) rfl d_MD_uncover_23 ?_
        refine lv_aload_n hx hb d_MD_uncover_26 rfl (lv_at hl 1 rfl) ?_
        refine va_get (D := D) (ci := 2) (v := .ref (gg 3)) (C := R_MD) (T := F_MD) (N := 12) hx hb hg i_MD hown hE.1 hP 0 rfl rfl 7 (by decide) (hg _ zw_495) (fun _ h9 => h9) rfl d_MD_uncover_27 ?_
        refine lv_iload_n hx hb d_MD_uncover_30 rfl (lv_at hl 2 rfl) ?_
        refine lv_iload hx hb d_MD_uncover_31 (lv_at hl 0 rfl) ?_
        refine lv_iadd hx hb d_MD_uncover_33 ?_
        refine ztop (y := nI (a + j)) (nI_add _ _) ?_
        refine zald hx hb hE.1 hP 3 0 rfl rfl (by omega) (by decide) d_MD_uncover_34 ?_
        refine ztop (y := nI (B (a + j))) ((hB (a + j) (show a + j < n3 by omega)).1) ?_
        refine lv_iload hx hb d_MD_uncover_35 (lv_at hl 5 rfl) ?_
        refine lv_bipush (v := (nI 16)) hx hb d_MD_uncover_37 (by decide) ?_
        refine lv_iload_n hx hb d_MD_uncover_39 rfl (lv_at hl 4 rfl) ?_
        refine lv_imul hx hb d_MD_uncover_40 ?_
        refine lv_iload hx hb d_MD_uncover_41 (lv_at hl 0 rfl) ?_
        refine lv_iadd hx hb d_MD_uncover_43 ?_
        refine ztop (y := nI (16 * k + j)) (by rw [pk_mul, nI_add]) ?_
        refine lv_iconst (v := (nI 4)) hx hb d_MD_uncover_44 (by decide) ?_
        refine zRd (rest := [.int (nI (B (a + j))), .int (nI ((zs_unc B f k a (rd, O) j).1)), .ref (gg 4)]) (zrS hS9 (c_MD_word l D cI cC cJ f (nI (16 * k + j)) (nI 4)) zc_MD_word zw_573 zw_574 (by decide) (trivial) hE rfl hl.1 rfl (Nat.le_of_ble_eq_true rfl) d_MD_uncover_45) ?_
        refine lv_sipush (v := (nI 255)) hx hb d_MD_uncover_48 (by decide) ?_
        refine lv_iand hx hb d_MD_uncover_51 ?_
        refine lv_ixor hx hb d_MD_uncover_52 ?_
        refine ztop (y := nI (zs_cv (B (a + j)) f k j)) (zs_cv_i _ _) ?_
        have hm8 : B (a + j) < 256 := (hB (a + j) (show a + j < n3 by omega)).2
        refine zast hx hb hE.1 hP hD hS 4 0 rfl rfl (g) (by decide) d_MD_uncover_53 (fun H locs hP hD hS => ?_)
        have hP : va_P D zcl [((gg 0), .inr (2, [.int ft, .int (nI n0), .ref (gg 1), .int (nI n2), .int (nI n3), .int (nI rt), .ref (gg 2), .ref (gg 3), .ref (gg 4), .int (nI ((zs_unc B f k a (rd, O) j).1)), .int (nI n4), .ref (gg 5)])), ((gg 1), .inl (cI, 4, .inl e0)), ((gg 2), .inl (cI, 40, .inl e2)), ((gg 3), .inl (cI, 120, .inl e3)), ((gg 4), .inl (cI, 40, .inl (upd ex ((zs_unc B f k a (rd, O) j).1) (nI (zs_cv (B (a + j)) f k j))))), ((gg 5), .inl (cC, 160, .inl e4))] H := hP
        have hD : va_D (zAM gg) [((gg 0), .inr (2, [.int ft, .int (nI n0), .ref (gg 1), .int (nI n2), .int (nI n3), .int (nI rt), .ref (gg 2), .ref (gg 3), .ref (gg 4), .int (nI ((zs_unc B f k a (rd, O) j).1)), .int (nI n4), .ref (gg 5)])), ((gg 1), .inl (cI, 4, .inl e0)), ((gg 2), .inl (cI, 40, .inl e2)), ((gg 3), .inl (cI, 120, .inl e3)), ((gg 4), .inl (cI, 40, .inl (upd ex ((zs_unc B f k a (rd, O) j).1) (nI (zs_cv (B (a + j)) f k j))))), ((gg 5), .inl (cC, 160, .inl e4))] := hD
        refine lv_aload_n hx hb d_MD_uncover_54 rfl (lv_at hl 1 rfl) ?_
        refine lv_dup hx hb d_MD_uncover_55 rfl ?_
        refine va_get (D := D) (ci := 2) (v := .int (nI ((zs_unc B f k a (rd, O) j).1))) (C := R_MD) (T := F_MD) (N := 12) hx hb hg i_MD hown hE.1 hP 0 rfl rfl 9 (by decide) (hg _ zw_497) (fun _ h9 => h9) rfl d_MD_uncover_56 ?_
        refine lv_iconst (v := (nI 1)) hx hb d_MD_uncover_59 (by decide) ?_
        refine lv_iadd hx hb d_MD_uncover_60 ?_
        refine ztop (y := nI ((zs_unc B f k a (rd, O) j).1 + 1)) (nI_1 _) ?_
        refine va_put (D := D) (ci := 2) (v := .int (nI ((zs_unc B f k a (rd, O) j).1 + 1))) (ty := .int) (C := R_MD) (T := F_MD) (N := 12) hx hb hg i_MD t_MD t_MD_ok n_MD hown hE.1 hP hD hS 0 rfl rfl 9 (by decide) (hg _ zw_497) (fun _ h9 => h9) rfl (by decide +kernel) rfl rfl (Nat.le_of_ble_eq_true rfl) d_MD_uncover_61 (fun H locs hP hD hS => ?_)
        have hP : va_P D zcl [((gg 0), .inr (2, [.int ft, .int (nI n0), .ref (gg 1), .int (nI n2), .int (nI n3), .int (nI rt), .ref (gg 2), .ref (gg 3), .ref (gg 4), .int (nI ((zs_unc B f k a (rd, O) j).1 + 1)), .int (nI n4), .ref (gg 5)])), ((gg 1), .inl (cI, 4, .inl e0)), ((gg 2), .inl (cI, 40, .inl e2)), ((gg 3), .inl (cI, 120, .inl e3)), ((gg 4), .inl (cI, 40, .inl (upd ex ((zs_unc B f k a (rd, O) j).1) (nI (zs_cv (B (a + j)) f k j))))), ((gg 5), .inl (cC, 160, .inl e4))] H := hP
        have hD : va_D (zAM gg) [((gg 0), .inr (2, [.int ft, .int (nI n0), .ref (gg 1), .int (nI n2), .int (nI n3), .int (nI rt), .ref (gg 2), .ref (gg 3), .ref (gg 4), .int (nI ((zs_unc B f k a (rd, O) j).1 + 1)), .int (nI n4), .ref (gg 5)])), ((gg 1), .inl (cI, 4, .inl e0)), ((gg 2), .inl (cI, 40, .inl e2)), ((gg 3), .inl (cI, 120, .inl e3)), ((gg 4), .inl (cI, 40, .inl (upd ex ((zs_unc B f k a (rd, O) j).1) (nI (zs_cv (B (a + j)) f k j))))), ((gg 5), .inl (cC, 160, .inl e4))] := hD
        have hO : zs_hold 256 (upd ex (zs_unc B f k a (rd, O) j).1 (nI (zs_cv (B (a + j)) f k j))) (zs_unc B f k a (rd, O) (j + 1)) := by rw [zs_unc, if_pos g]; exact zs_hold_push hO (zs_cv_lt hm8 f k j)
        have hP : va_P D zcl (zMd cI cC gg ft n0 n2 n3 rt ((zs_unc B f k a (rd, O) (j + 1)).1) n4 e0 e2 e3 (upd ex ((zs_unc B f k a (rd, O) j).1) (nI (zs_cv (B (a + j)) f k j))) e4) H := by rw [zs_unc, if_pos g]; exact hP
        refine lv_iinc (k := 0) (v := nI (j + 1)) hx hb d_MD_uncover_64 hl rfl (nI_1 j) (by decide) (lv' := [(5, .int (nI (j + 1))), (0, .ref (gg 0)), (1, .int (nI a)), (2, .int (nI n)), (3, .int (nI k)), (4, .int f)]) rfl (fun ls hl => ?_)
        refine lv_goto hx hb d_MD_uncover_67 (tgt := 3) (by decide) ?_
        have hl : lv_has ls 6 [(5, .int (nI (j + 1))), (0, .ref (gg 0)), (1, .int (nI a)), (2, .int (nI n)), (3, .int (nI k)), (4, .int f)] := lv_sub hl [0, 1, 2, 3, 4, 5] rfl
        exact ih (j + 1) _ H locs (by omega) hO hP hS ls hl
      · refine lv_icmp_ge hx hb d_MD_uncover_15 (tgt := 64) (by decide) (fun _ => ?_) (fun z9 => absurd (nI_le (by omega) (by omega)) z9)
        have hO : zs_hold 256 ex (zs_unc B f k a (rd, O) (j + 1)) := by rw [zs_unc, if_neg g]; exact hO
        have hP : va_P D zcl (zMd cI cC gg ft n0 n2 n3 rt ((zs_unc B f k a (rd, O) (j + 1)).1) n4 e0 e2 e3 ex e4) H := by rw [zs_unc, if_neg g]; exact hP
        refine lv_iinc (k := 0) (v := nI (j + 1)) hx hb d_MD_uncover_64 hl rfl (nI_1 j) (by decide) (lv' := [(5, .int (nI (j + 1))), (0, .ref (gg 0)), (1, .int (nI a)), (2, .int (nI n)), (3, .int (nI k)), (4, .int f)]) rfl (fun ls hl => ?_)
        refine lv_goto hx hb d_MD_uncover_67 (tgt := 3) (by decide) ?_
        have hl : lv_has ls 6 [(5, .int (nI (j + 1))), (0, .ref (gg 0)), (1, .int (nI a)), (2, .int (nI n)), (3, .int (nI k)), (4, .int f)] := lv_sub hl [0, 1, 2, 3, 4, 5] rfl
        exact ih (j + 1) ex H locs (by omega) hO hP hS ls hl
  exact loop n 0 e5 s.heap [] (by omega) hO hP hS ls hl
end
