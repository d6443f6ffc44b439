def R_SF : String := "SealedFiles"
def R_RW : String := "SealedFiles$Row"
def R_NU : String := "SealedFiles$Numbers"
def R_MD : String := "SealedFilesModel"
def R_LW : String := "SealedFilesLaw"
def F_RW : u_T := fun k => match k with
  | 0 => ("SealedFiles$Row", "items", "[I", true)
  | _ => ("SealedFiles$Row", "size", "I", false)
def t_RW : Nat → FieldType := fun k => match k with
  | 0 => .array .int
  | _ => .int
theorem n_RW : ∀ a, a < 2 → ∀ b, b < 2 → a ≠ b → (F_RW a).2.1 ≠ (F_RW b).2.1 := by decide +kernel
theorem t_RW_ok : ∀ k, k < 2 → parseFieldDescriptor (F_RW k).2.2.1 = some (t_RW k) := by decide +kernel
theorem i_RW  : ∀ w ∈ u_ws R_RW F_RW 2, w ∈ zg := by decide +kernel
def F_SF : u_T := fun k => match k with
  | 0 => ("SealedFiles", "secrets", "LSealedFiles$Row;", true)
  | 1 => ("SealedFiles", "addresses", "LSealedFiles$Row;", true)
  | 2 => ("SealedFiles", "message", "LSealedFiles$Row;", true)
  | 3 => ("SealedFiles", "file", "LSealedFiles$Row;", true)
  | 4 => ("SealedFiles", "draft", "LSealedFiles$Row;", true)
  | _ => ("SealedFiles", "rightPieces", "I", false)
def t_SF : Nat → FieldType := fun k => match k with
  | 0 => .object "SealedFiles$Row"
  | 1 => .object "SealedFiles$Row"
  | 2 => .object "SealedFiles$Row"
  | 3 => .object "SealedFiles$Row"
  | 4 => .object "SealedFiles$Row"
  | _ => .int
theorem n_SF : ∀ a, a < 6 → ∀ b, b < 6 → a ≠ b → (F_SF a).2.1 ≠ (F_SF b).2.1 := by decide +kernel
theorem t_SF_ok : ∀ k, k < 6 → parseFieldDescriptor (F_SF k).2.2.1 = some (t_SF k) := by decide +kernel
theorem i_SF  : ∀ w ∈ u_ws R_SF F_SF 6, w ∈ zg := by decide +kernel
def F_MD : u_T := fun k => match k with
  | 0 => ("SealedFilesModel", "fault", "I", false)
  | 1 => ("SealedFilesModel", "keys", "I", false)
  | 2 => ("SealedFilesModel", "secret", "[I", true)
  | 3 => ("SealedFilesModel", "length", "I", false)
  | 4 => ("SealedFilesModel", "size", "I", false)
  | 5 => ("SealedFilesModel", "right", "I", false)
  | 6 => ("SealedFilesModel", "message", "[I", true)
  | 7 => ("SealedFilesModel", "file", "[I", true)
  | 8 => ("SealedFilesModel", "plain", "[I", true)
  | 9 => ("SealedFilesModel", "read", "I", false)
  | 10 => ("SealedFilesModel", "drafted", "I", false)
  | _ => ("SealedFilesModel", "draft", "[C", true)
def t_MD : Nat → FieldType := fun k => match k with
  | 0 => .int
  | 1 => .int
  | 2 => .array .int
  | 3 => .int
  | 4 => .int
  | 5 => .int
  | 6 => .array .int
  | 7 => .array .int
  | 8 => .array .int
  | 9 => .int
  | 10 => .int
  | _ => .array .char
theorem n_MD : ∀ a, a < 12 → ∀ b, b < 12 → a ≠ b → (F_MD a).2.1 ≠ (F_MD b).2.1 := by decide +kernel
theorem t_MD_ok : ∀ k, k < 12 → parseFieldDescriptor (F_MD k).2.2.1 = some (t_MD k) := by decide +kernel
theorem i_MD  : ∀ w ∈ u_ws R_MD F_MD 12, w ∈ zg := by decide +kernel
/-- the classes whose objects the worlds hold -/
abbrev zcl : List vw_C := [(R_RW, F_RW, 2), (R_SF, F_SF, 6), (R_MD, F_MD, 12)]
abbrev b_MD_add : ByteArray := prog_5_method_15_code
def y_MD_add : MethodName := ⟨"SealedFilesModel", "add", "(I)V"⟩
abbrev k_MD_add : Cond := .code y_MD_add b_MD_add 2 none
set_option maxRecDepth 20000 in
theorem zk_MD_add : k_MD_add ∈ zg := zg_in 605 rfl rfl
abbrev b_MD_addTwo : ByteArray := prog_5_method_16_code
def y_MD_addTwo : MethodName := ⟨"SealedFilesModel", "addTwo", "(I)V"⟩
abbrev k_MD_addTwo : Cond := .code y_MD_addTwo b_MD_addTwo 2 none
set_option maxRecDepth 20000 in
theorem zk_MD_addTwo : k_MD_addTwo ∈ zg := zg_in 621 rfl rfl
abbrev b_MD_address : ByteArray := prog_5_method_11_code
def y_MD_address : MethodName := ⟨"SealedFilesModel", "address", "(I)I"⟩
abbrev k_MD_address : Cond := .code y_MD_address b_MD_address 2 (some .int)
set_option maxRecDepth 20000 in
theorem zk_MD_address : k_MD_address ∈ zg := zg_in 578 rfl rfl
abbrev b_MD_alter : ByteArray := prog_5_method_26_code
def y_MD_alter : MethodName := ⟨"SealedFilesModel", "alter", "(II)I"⟩
abbrev k_MD_alter : Cond := .code y_MD_alter b_MD_alter 3 (some .int)
set_option maxRecDepth 20000 in
theorem zk_MD_alter : k_MD_alter ∈ zg := zg_in 663 rfl rfl
abbrev b_MD_at : ByteArray := prog_5_method_25_code
def y_MD_at : MethodName := ⟨"SealedFilesModel", "at", "(I)I"⟩
abbrev k_MD_at : Cond := .code y_MD_at b_MD_at 2 (some .int)
set_option maxRecDepth 20000 in
theorem zk_MD_at : k_MD_at ∈ zg := zg_in 659 rfl rfl
abbrev b_MD_bit : ByteArray := prog_5_method_28_code
def y_MD_bit : MethodName := ⟨"SealedFilesModel", "bit", "(I)I"⟩
abbrev k_MD_bit : Cond := .code y_MD_bit b_MD_bit 2 (some .int)
set_option maxRecDepth 20000 in
theorem zk_MD_bit : k_MD_bit ∈ zg := zg_in 675 rfl rfl
abbrev b_MD_clear : ByteArray := prog_5_method_13_code
def y_MD_clear : MethodName := ⟨"SealedFilesModel", "clear", "()I"⟩
abbrev k_MD_clear : Cond := .code y_MD_clear b_MD_clear 2 (some .int)
set_option maxRecDepth 20000 in
theorem zk_MD_clear : k_MD_clear ∈ zg := zg_in 593 rfl rfl
abbrev b_MD_count : ByteArray := prog_5_method_24_code
def y_MD_count : MethodName := ⟨"SealedFilesModel", "count", "(I)I"⟩
abbrev k_MD_count : Cond := .code y_MD_count b_MD_count 2 (some .int)
set_option maxRecDepth 20000 in
theorem zk_MD_count : k_MD_count ∈ zg := zg_in 655 rfl rfl
abbrev b_MD_cut : ByteArray := prog_5_method_27_code
def y_MD_cut : MethodName := ⟨"SealedFilesModel", "cut", "(I)Z"⟩
abbrev k_MD_cut : Cond := .code y_MD_cut b_MD_cut 2 (some .boolean)
set_option maxRecDepth 20000 in
theorem zk_MD_cut : k_MD_cut ∈ zg := zg_in 667 rfl rfl
abbrev b_MD_entry : ByteArray := prog_5_method_17_code
def y_MD_entry : MethodName := ⟨"SealedFilesModel", "entry", "(III)V"⟩
abbrev k_MD_entry : Cond := .code y_MD_entry b_MD_entry 11 none
set_option maxRecDepth 20000 in
theorem zk_MD_entry : k_MD_entry ∈ zg := zg_in 609 rfl rfl
abbrev b_MD_entryOf : ByteArray := prog_5_method_19_code
def y_MD_entryOf : MethodName := ⟨"SealedFilesModel", "entryOf", "(I)I"⟩
abbrev k_MD_entryOf : Cond := .code y_MD_entryOf b_MD_entryOf 6 (some .int)
set_option maxRecDepth 20000 in
theorem zk_MD_entryOf : k_MD_entryOf ∈ zg := zg_in 635 rfl rfl
abbrev b_MD_fails : ByteArray := prog_5_method_3_code
def y_MD_fails : MethodName := ⟨"SealedFilesModel", "fails", "(I)I"⟩
abbrev k_MD_fails : Cond := .code y_MD_fails b_MD_fails 2 (some .int)
set_option maxRecDepth 20000 in
theorem zk_MD_fails : k_MD_fails ∈ zg := zg_in 574 rfl rfl
abbrev b_MD_init : ByteArray := prog_5_method_1_code
def y_MD_init : MethodName := ⟨"SealedFilesModel", "<init>", "()V"⟩
abbrev k_MD_init : Cond := .code y_MD_init b_MD_init 1 none
set_option maxRecDepth 20000 in
theorem zk_MD_init : k_MD_init ∈ zg := zg_in 523 rfl rfl
abbrev b_MD_isKey : ByteArray := prog_5_method_10_code
def y_MD_isKey : MethodName := ⟨"SealedFilesModel", "isKey", "(I)Z"⟩
abbrev k_MD_isKey : Cond := .code y_MD_isKey b_MD_isKey 2 (some .boolean)
set_option maxRecDepth 20000 in
theorem zk_MD_isKey : k_MD_isKey ∈ zg := zg_in 582 rfl rfl
abbrev b_MD_key : ByteArray := prog_5_method_9_code
def y_MD_key : MethodName := ⟨"SealedFilesModel", "key", "(I)I"⟩
abbrev k_MD_key : Cond := .code y_MD_key b_MD_key 2 (some .int)
set_option maxRecDepth 20000 in
theorem zk_MD_key : k_MD_key ∈ zg := zg_in 570 rfl rfl
abbrev b_MD_load : ByteArray := prog_5_method_32_code
def y_MD_load : MethodName := ⟨"SealedFilesModel", "load", "()I"⟩
abbrev k_MD_load : Cond := .code y_MD_load b_MD_load 8 (some .int)
set_option maxRecDepth 20000 in
theorem zk_MD_load : k_MD_load ∈ zg := zg_in 686 rfl rfl
abbrev b_MD_mix : ByteArray := prog_5_method_5_code
def y_MD_mix : MethodName := ⟨"SealedFilesModel", "mix", "(I)I"⟩
abbrev k_MD_mix : Cond := .code y_MD_mix b_MD_mix 2 (some .int)
set_option maxRecDepth 20000 in
theorem zk_MD_mix : k_MD_mix ∈ zg := zg_in 615 rfl rfl
abbrev b_MD_open : ByteArray := prog_5_method_22_code
def y_MD_open : MethodName := ⟨"SealedFilesModel", "open", "(I)I"⟩
abbrev k_MD_open : Cond := .code y_MD_open b_MD_open 10 (some .int)
set_option maxRecDepth 20000 in
theorem zk_MD_open : k_MD_open ∈ zg := zg_in 631 rfl rfl
abbrev b_MD_piece : ByteArray := prog_5_method_20_code
def y_MD_piece : MethodName := ⟨"SealedFilesModel", "piece", "(IIIIZ)I"⟩
abbrev k_MD_piece : Cond := .code y_MD_piece b_MD_piece 7 (some .int)
set_option maxRecDepth 20000 in
theorem zk_MD_piece : k_MD_piece ∈ zg := zg_in 643 rfl rfl
abbrev b_MD_pieces : ByteArray := prog_5_method_23_code
def y_MD_pieces : MethodName := ⟨"SealedFilesModel", "pieces", "()I"⟩
abbrev k_MD_pieces : Cond := .code y_MD_pieces b_MD_pieces 1 (some .int)
set_option maxRecDepth 20000 in
theorem zk_MD_pieces : k_MD_pieces ∈ zg := zg_in 651 rfl rfl
abbrev b_MD_power : ByteArray := prog_5_method_4_code
def y_MD_power : MethodName := ⟨"SealedFilesModel", "power", "(II)I"⟩
abbrev k_MD_power : Cond := .code y_MD_power b_MD_power 5 (some .int)
set_option maxRecDepth 20000 in
theorem zk_MD_power : k_MD_power ∈ zg := zg_in 585 rfl rfl
abbrev b_MD_print : ByteArray := prog_5_method_30_code
def y_MD_print : MethodName := ⟨"SealedFilesModel", "print", "(I)I"⟩
abbrev k_MD_print : Cond := .code y_MD_print b_MD_print 4 (some .int)
set_option maxRecDepth 20000 in
theorem zk_MD_print : k_MD_print ∈ zg := zg_in 671 rfl rfl
abbrev b_MD_put : ByteArray := prog_5_method_12_code
def y_MD_put : MethodName := ⟨"SealedFilesModel", "put", "(I)Z"⟩
abbrev k_MD_put : Cond := .code y_MD_put b_MD_put 2 (some .boolean)
set_option maxRecDepth 20000 in
theorem zk_MD_put : k_MD_put ∈ zg := zg_in 589 rfl rfl
abbrev b_MD_read : ByteArray := prog_5_method_14_code
def y_MD_read : MethodName := ⟨"SealedFilesModel", "read", "(I)I"⟩
abbrev k_MD_read : Cond := .code y_MD_read b_MD_read 2 (some .int)
set_option maxRecDepth 20000 in
theorem zk_MD_read : k_MD_read ∈ zg := zg_in 597 rfl rfl
abbrev b_MD_seal : ByteArray := prog_5_method_18_code
def y_MD_seal : MethodName := ⟨"SealedFilesModel", "seal", "(III)I"⟩
abbrev k_MD_seal : Cond := .code y_MD_seal b_MD_seal 10 (some .int)
set_option maxRecDepth 20000 in
theorem zk_MD_seal : k_MD_seal ∈ zg := zg_in 601 rfl rfl
abbrev b_MD_sign : ByteArray := prog_5_method_7_code
def y_MD_sign : MethodName := ⟨"SealedFilesModel", "sign", "(III)I"⟩
abbrev k_MD_sign : Cond := .code y_MD_sign b_MD_sign 9 (some .int)
set_option maxRecDepth 20000 in
theorem zk_MD_sign : k_MD_sign ∈ zg := zg_in 625 rfl rfl
abbrev b_MD_sixOf : ByteArray := prog_5_method_29_code
def y_MD_sixOf : MethodName := ⟨"SealedFilesModel", "sixOf", "(C)I"⟩
abbrev k_MD_sixOf : Cond := .code y_MD_sixOf b_MD_sixOf 1 (some .int)
set_option maxRecDepth 20000 in
theorem zk_MD_sixOf : k_MD_sixOf ∈ zg := zg_in 682 rfl rfl
abbrev b_MD_thrown : ByteArray := prog_5_method_2_code
def y_MD_thrown : MethodName := ⟨"SealedFilesModel", "thrown", "()I"⟩
abbrev k_MD_thrown : Cond := .code y_MD_thrown b_MD_thrown 1 (some .int)
set_option maxRecDepth 20000 in
theorem zk_MD_thrown : k_MD_thrown ∈ zg := zg_in 566 rfl rfl
abbrev b_MD_two : ByteArray := prog_5_method_8_code
def y_MD_two : MethodName := ⟨"SealedFilesModel", "two", "(I)I"⟩
abbrev k_MD_two : Cond := .code y_MD_two b_MD_two 2 (some .int)
set_option maxRecDepth 20000 in
theorem zk_MD_two : k_MD_two ∈ zg := zg_in 639 rfl rfl
abbrev b_MD_uncover : ByteArray := prog_5_method_21_code
def y_MD_uncover : MethodName := ⟨"SealedFilesModel", "uncover", "(IIII)V"⟩
abbrev k_MD_uncover : Cond := .code y_MD_uncover b_MD_uncover 6 none
set_option maxRecDepth 20000 in
theorem zk_MD_uncover : k_MD_uncover ∈ zg := zg_in 647 rfl rfl
abbrev b_MD_word : ByteArray := prog_5_method_6_code
def y_MD_word : MethodName := ⟨"SealedFilesModel", "word", "(III)I"⟩
abbrev k_MD_word : Cond := .code y_MD_word b_MD_word 4 (some .int)
set_option maxRecDepth 20000 in
theorem zk_MD_word : k_MD_word ∈ zg := zg_in 612 rfl rfl
abbrev b_MD_write : ByteArray := prog_5_method_31_code
def y_MD_write : MethodName := ⟨"SealedFilesModel", "write", "(C)Z"⟩
abbrev k_MD_write : Cond := .code y_MD_write b_MD_write 2 (some .boolean)
set_option maxRecDepth 20000 in
theorem zk_MD_write : k_MD_write ∈ zg := zg_in 679 rfl rfl
abbrev b_NU_mix : ByteArray := prog_2_method_3_code
def y_NU_mix : MethodName := ⟨"SealedFiles$Numbers", "mix", "(I)I"⟩
abbrev k_NU_mix : Cond := .code y_NU_mix b_NU_mix 3 (some .int)
set_option maxRecDepth 20000 in
theorem zk_NU_mix : k_NU_mix ∈ zg := zg_in 382 rfl rfl
abbrev b_NU_power : ByteArray := prog_2_method_2_code
def y_NU_power : MethodName := ⟨"SealedFiles$Numbers", "power", "(II)I"⟩
abbrev k_NU_power : Cond := .code y_NU_power b_NU_power 5 (some .int)
set_option maxRecDepth 20000 in
theorem zk_NU_power : k_NU_power ∈ zg := zg_in 355 rfl rfl
abbrev b_NU_word : ByteArray := prog_2_method_4_code
def y_NU_word : MethodName := ⟨"SealedFiles$Numbers", "word", "(III)I"⟩
abbrev k_NU_word : Cond := .code y_NU_word b_NU_word 3 (some .int)
set_option maxRecDepth 20000 in
theorem zk_NU_word : k_NU_word ∈ zg := zg_in 379 rfl rfl
abbrev b_RW_append : ByteArray := prog_3_method_5_code
def y_RW_append : MethodName := ⟨"SealedFiles$Row", "append", "(I)Z"⟩
abbrev k_RW_append : Cond := .code y_RW_append b_RW_append 2 (some .boolean)
set_option maxRecDepth 20000 in
theorem zk_RW_append : k_RW_append ∈ zg := zg_in 115 rfl rfl
abbrev b_RW_appendPair : ByteArray := prog_3_method_8_code
def y_RW_appendPair : MethodName := ⟨"SealedFiles$Row", "appendPair", "(I)V"⟩
abbrev k_RW_appendPair : Cond := .code y_RW_appendPair b_RW_appendPair 2 none
set_option maxRecDepth 20000 in
theorem zk_RW_appendPair : k_RW_appendPair ∈ zg := zg_in 392 rfl rfl
abbrev b_RW_has : ByteArray := prog_3_method_3_code
def y_RW_has : MethodName := ⟨"SealedFiles$Row", "has", "(I)Z"⟩
abbrev k_RW_has : Cond := .code y_RW_has b_RW_has 2 (some .boolean)
set_option maxRecDepth 20000 in
theorem zk_RW_has : k_RW_has ∈ zg := zg_in 107 rfl rfl
abbrev b_RW_init : ByteArray := prog_3_method_1_code
def y_RW_init : MethodName := ⟨"SealedFiles$Row", "<init>", "(I)V"⟩
abbrev k_RW_init : Cond := .code y_RW_init b_RW_init 2 none
set_option maxRecDepth 20000 in
theorem zk_RW_init : k_RW_init ∈ zg := zg_in 67 rfl rfl
abbrev b_RW_item : ByteArray := prog_3_method_4_code
def y_RW_item : MethodName := ⟨"SealedFiles$Row", "item", "(I)I"⟩
abbrev k_RW_item : Cond := .code y_RW_item b_RW_item 2 (some .int)
set_option maxRecDepth 20000 in
theorem zk_RW_item : k_RW_item ∈ zg := zg_in 103 rfl rfl
abbrev b_RW_pair : ByteArray := prog_3_method_9_code
def y_RW_pair : MethodName := ⟨"SealedFiles$Row", "pair", "(I)I"⟩
abbrev k_RW_pair : Cond := .code y_RW_pair b_RW_pair 2 (some .int)
set_option maxRecDepth 20000 in
theorem zk_RW_pair : k_RW_pair ∈ zg := zg_in 450 rfl rfl
abbrev b_RW_replace : ByteArray := prog_3_method_6_code
def y_RW_replace : MethodName := ⟨"SealedFiles$Row", "replace", "(II)V"⟩
abbrev k_RW_replace : Cond := .code y_RW_replace b_RW_replace 3 none
set_option maxRecDepth 20000 in
theorem zk_RW_replace : k_RW_replace ∈ zg := zg_in 498 rfl rfl
abbrev b_RW_shorten : ByteArray := prog_3_method_7_code
def y_RW_shorten : MethodName := ⟨"SealedFiles$Row", "shorten", "(I)Z"⟩
abbrev k_RW_shorten : Cond := .code y_RW_shorten b_RW_shorten 2 (some .boolean)
set_option maxRecDepth 20000 in
theorem zk_RW_shorten : k_RW_shorten ∈ zg := zg_in 127 rfl rfl
abbrev b_RW_sign : ByteArray := prog_3_method_10_code
def y_RW_sign : MethodName := ⟨"SealedFiles$Row", "sign", "(III)I"⟩
abbrev k_RW_sign : Cond := .code y_RW_sign b_RW_sign 9 (some .int)
set_option maxRecDepth 20000 in
theorem zk_RW_sign : k_RW_sign ∈ zg := zg_in 402 rfl rfl
abbrev b_RW_size : ByteArray := prog_3_method_2_code
def y_RW_size : MethodName := ⟨"SealedFiles$Row", "size", "()I"⟩
abbrev k_RW_size : Cond := .code y_RW_size b_RW_size 1 (some .int)
set_option maxRecDepth 20000 in
theorem zk_RW_size : k_RW_size ∈ zg := zg_in 123 rfl rfl
abbrev b_SF_address : ByteArray := prog_1_method_3_code
def y_SF_address : MethodName := ⟨"SealedFiles", "address", "(I)I"⟩
abbrev k_SF_address : Cond := .code y_SF_address b_SF_address 2 (some .int)
set_option maxRecDepth 20000 in
theorem zk_SF_address : k_SF_address ∈ zg := zg_in 99 rfl rfl
abbrev b_SF_agreed : ByteArray := prog_1_method_28_code
def y_SF_agreed : MethodName := ⟨"SealedFiles", "agreed", "(II)I"⟩
abbrev k_SF_agreed : Cond := .code y_SF_agreed b_SF_agreed 3 (some .int)
set_option maxRecDepth 20000 in
theorem zk_SF_agreed : k_SF_agreed ∈ zg := zg_in 446 rfl rfl
abbrev b_SF_alter : ByteArray := prog_1_method_12_code
def y_SF_alter : MethodName := ⟨"SealedFiles", "alter", "(II)I"⟩
abbrev k_SF_alter : Cond := .code y_SF_alter b_SF_alter 3 (some .int)
set_option maxRecDepth 20000 in
theorem zk_SF_alter : k_SF_alter ∈ zg := zg_in 493 rfl rfl
abbrev b_SF_appendEntry : ByteArray := prog_1_method_19_code
def y_SF_appendEntry : MethodName := ⟨"SealedFiles", "appendEntry", "(III)V"⟩
abbrev k_SF_appendEntry : Cond := .code y_SF_appendEntry b_SF_appendEntry 7 none
set_option maxRecDepth 20000 in
theorem zk_SF_appendEntry : k_SF_appendEntry ∈ zg := zg_in 388 rfl rfl
abbrev b_SF_appendPieces : ByteArray := prog_1_method_24_code
def y_SF_appendPieces : MethodName := ⟨"SealedFiles", "appendPieces", "(I)V"⟩
abbrev k_SF_appendPieces : Cond := .code y_SF_appendPieces b_SF_appendPieces 8 none
set_option maxRecDepth 20000 in
theorem zk_SF_appendPieces : k_SF_appendPieces ∈ zg := zg_in 413 rfl rfl
abbrev b_SF_areReceivers : ByteArray := prog_1_method_17_code
def y_SF_areReceivers : MethodName := ⟨"SealedFiles", "areReceivers", "(I)Z"⟩
abbrev k_SF_areReceivers : Cond := .code y_SF_areReceivers b_SF_areReceivers 3 (some .boolean)
set_option maxRecDepth 20000 in
theorem zk_SF_areReceivers : k_SF_areReceivers ∈ zg := zg_in 366 rfl rfl
abbrev b_SF_at : ByteArray := prog_1_method_11_code
def y_SF_at : MethodName := ⟨"SealedFiles", "at", "(I)I"⟩
abbrev k_SF_at : Cond := .code y_SF_at b_SF_at 2 (some .int)
set_option maxRecDepth 20000 in
theorem zk_SF_at : k_SF_at ∈ zg := zg_in 139 rfl rfl
abbrev b_SF_clear : ByteArray := prog_1_method_5_code
def y_SF_clear : MethodName := ⟨"SealedFiles", "clear", "()I"⟩
abbrev k_SF_clear : Cond := .code y_SF_clear b_SF_clear 2 (some .int)
set_option maxRecDepth 20000 in
theorem zk_SF_clear : k_SF_clear ∈ zg := zg_in 119 rfl rfl
abbrev b_SF_count : ByteArray := prog_1_method_10_code
def y_SF_count : MethodName := ⟨"SealedFiles", "count", "(I)I"⟩
abbrev k_SF_count : Cond := .code y_SF_count b_SF_count 2 (some .int)
set_option maxRecDepth 20000 in
theorem zk_SF_count : k_SF_count ∈ zg := zg_in 135 rfl rfl
abbrev b_SF_covered : ByteArray := prog_1_method_23_code
def y_SF_covered : MethodName := ⟨"SealedFiles", "covered", "(IIII)I"⟩
abbrev k_SF_covered : Cond := .code y_SF_covered b_SF_covered 4 (some .int)
set_option maxRecDepth 20000 in
theorem zk_SF_covered : k_SF_covered ∈ zg := zg_in 418 rfl rfl
abbrev b_SF_cut : ByteArray := prog_1_method_13_code
def y_SF_cut : MethodName := ⟨"SealedFiles", "cut", "(I)Z"⟩
abbrev k_SF_cut : Cond := .code y_SF_cut b_SF_cut 2 (some .boolean)
set_option maxRecDepth 20000 in
theorem zk_SF_cut : k_SF_cut ∈ zg := zg_in 143 rfl rfl
abbrev b_SF_draftBytes : ByteArray := prog_1_method_32_code
def y_SF_draftBytes : MethodName := ⟨"SealedFiles", "draftBytes", "()I"⟩
abbrev k_SF_draftBytes : Cond := .code y_SF_draftBytes b_SF_draftBytes 1 (some .int)
set_option maxRecDepth 20000 in
theorem zk_SF_draftBytes : k_SF_draftBytes ∈ zg := zg_in 513 rfl rfl
abbrev b_SF_draftIsPrintedForm : ByteArray := prog_1_method_33_code
def y_SF_draftIsPrintedForm : MethodName := ⟨"SealedFiles", "draftIsPrintedForm", "()Z"⟩
abbrev k_SF_draftIsPrintedForm : Cond := .code y_SF_draftIsPrintedForm b_SF_draftIsPrintedForm 3 (some .boolean)
set_option maxRecDepth 20000 in
theorem zk_SF_draftIsPrintedForm : k_SF_draftIsPrintedForm ∈ zg := zg_in 509 rfl rfl
abbrev b_SF_entriesEnd : ByteArray := prog_1_method_25_code
def y_SF_entriesEnd : MethodName := ⟨"SealedFiles", "entriesEnd", "()I"⟩
abbrev k_SF_entriesEnd : Cond := .code y_SF_entriesEnd b_SF_entriesEnd 1 (some .int)
set_option maxRecDepth 20000 in
theorem zk_SF_entriesEnd : k_SF_entriesEnd ∈ zg := zg_in 438 rfl rfl
abbrev b_SF_entryFor : ByteArray := prog_1_method_27_code
def y_SF_entryFor : MethodName := ⟨"SealedFiles", "entryFor", "(I)I"⟩
abbrev k_SF_entryFor : Cond := .code y_SF_entryFor b_SF_entryFor 6 (some .int)
set_option maxRecDepth 20000 in
theorem zk_SF_entryFor : k_SF_entryFor ∈ zg := zg_in 442 rfl rfl
abbrev b_SF_entrySign : ByteArray := prog_1_method_20_code
def y_SF_entrySign : MethodName := ⟨"SealedFiles", "entrySign", "(III)I"⟩
abbrev k_SF_entrySign : Cond := .code y_SF_entrySign b_SF_entrySign 4 (some .int)
set_option maxRecDepth 20000 in
theorem zk_SF_entrySign : k_SF_entrySign ∈ zg := zg_in 398 rfl rfl
abbrev b_SF_exponent : ByteArray := prog_1_method_18_code
def y_SF_exponent : MethodName := ⟨"SealedFiles", "exponent", "(III)I"⟩
abbrev k_SF_exponent : Cond := .code y_SF_exponent b_SF_exponent 3 (some .int)
set_option maxRecDepth 20000 in
theorem zk_SF_exponent : k_SF_exponent ∈ zg := zg_in 376 rfl rfl
abbrev b_SF_hasShape : ByteArray := prog_1_method_26_code
def y_SF_hasShape : MethodName := ⟨"SealedFiles", "hasShape", "()Z"⟩
abbrev k_SF_hasShape : Cond := .code y_SF_hasShape b_SF_hasShape 1 (some .boolean)
set_option maxRecDepth 20000 in
theorem zk_SF_hasShape : k_SF_hasShape ∈ zg := zg_in 434 rfl rfl
abbrev b_SF_headSign : ByteArray := prog_1_method_21_code
def y_SF_headSign : MethodName := ⟨"SealedFiles", "headSign", "(II)I"⟩
abbrev k_SF_headSign : Cond := .code y_SF_headSign b_SF_headSign 3 (some .int)
set_option maxRecDepth 20000 in
theorem zk_SF_headSign : k_SF_headSign ∈ zg := zg_in 409 rfl rfl
abbrev b_SF_init : ByteArray := prog_1_method_1_code
def y_SF_init : MethodName := ⟨"SealedFiles", "<init>", "()V"⟩
abbrev k_SF_init : Cond := .code y_SF_init b_SF_init 1 none
set_option maxRecDepth 20000 in
theorem zk_SF_init : k_SF_init ∈ zg := zg_in 59 rfl rfl
abbrev b_SF_key : ByteArray := prog_1_method_2_code
def y_SF_key : MethodName := ⟨"SealedFiles", "key", "(I)I"⟩
abbrev k_SF_key : Cond := .code y_SF_key b_SF_key 2 (some .int)
set_option maxRecDepth 20000 in
theorem zk_SF_key : k_SF_key ∈ zg := zg_in 269 rfl rfl
abbrev b_SF_load : ByteArray := prog_1_method_16_code
def y_SF_load : MethodName := ⟨"SealedFiles", "load", "()I"⟩
abbrev k_SF_load : Cond := .code y_SF_load b_SF_load 2 (some .int)
set_option maxRecDepth 20000 in
theorem zk_SF_load : k_SF_load ∈ zg := zg_in 505 rfl rfl
abbrev b_SF_open : ByteArray := prog_1_method_7_code
def y_SF_open : MethodName := ⟨"SealedFiles", "open", "(I)I"⟩
abbrev k_SF_open : Cond := .code y_SF_open b_SF_open 5 (some .int)
set_option maxRecDepth 20000 in
theorem zk_SF_open : k_SF_open ∈ zg := zg_in 429 rfl rfl
abbrev b_SF_pieceSign : ByteArray := prog_1_method_22_code
def y_SF_pieceSign : MethodName := ⟨"SealedFiles", "pieceSign", "(IIIIZ)I"⟩
abbrev k_SF_pieceSign : Cond := .code y_SF_pieceSign b_SF_pieceSign 7 (some .int)
set_option maxRecDepth 20000 in
theorem zk_SF_pieceSign : k_SF_pieceSign ∈ zg := zg_in 422 rfl rfl
abbrev b_SF_pieces : ByteArray := prog_1_method_8_code
def y_SF_pieces : MethodName := ⟨"SealedFiles", "pieces", "()I"⟩
abbrev k_SF_pieces : Cond := .code y_SF_pieces b_SF_pieces 1 (some .int)
set_option maxRecDepth 20000 in
theorem zk_SF_pieces : k_SF_pieces ∈ zg := zg_in 131 rfl rfl
abbrev b_SF_print : ByteArray := prog_1_method_14_code
def y_SF_print : MethodName := ⟨"SealedFiles", "print", "(I)I"⟩
abbrev k_SF_print : Cond := .code y_SF_print b_SF_print 7 (some .int)
set_option maxRecDepth 20000 in
theorem zk_SF_print : k_SF_print ∈ zg := zg_in 147 rfl rfl
abbrev b_SF_put : ByteArray := prog_1_method_4_code
def y_SF_put : MethodName := ⟨"SealedFiles", "put", "(I)Z"⟩
abbrev k_SF_put : Cond := .code y_SF_put b_SF_put 2 (some .boolean)
set_option maxRecDepth 20000 in
theorem zk_SF_put : k_SF_put ∈ zg := zg_in 111 rfl rfl
abbrev b_SF_read : ByteArray := prog_1_method_9_code
def y_SF_read : MethodName := ⟨"SealedFiles", "read", "(I)I"⟩
abbrev k_SF_read : Cond := .code y_SF_read b_SF_read 2 (some .int)
set_option maxRecDepth 20000 in
theorem zk_SF_read : k_SF_read ∈ zg := zg_in 470 rfl rfl
abbrev b_SF_seal : ByteArray := prog_1_method_6_code
def y_SF_seal : MethodName := ⟨"SealedFiles", "seal", "(III)I"⟩
abbrev k_SF_seal : Cond := .code y_SF_seal b_SF_seal 5 (some .int)
set_option maxRecDepth 20000 in
theorem zk_SF_seal : k_SF_seal ∈ zg := zg_in 362 rfl rfl
abbrev b_SF_takeDraft : ByteArray := prog_1_method_34_code
def y_SF_takeDraft : MethodName := ⟨"SealedFiles", "takeDraft", "()V"⟩
abbrev k_SF_takeDraft : Cond := .code y_SF_takeDraft b_SF_takeDraft 6 none
set_option maxRecDepth 20000 in
theorem zk_SF_takeDraft : k_SF_takeDraft ∈ zg := zg_in 517 rfl rfl
abbrev b_SF_takePieces : ByteArray := prog_1_method_30_code
def y_SF_takePieces : MethodName := ⟨"SealedFiles", "takePieces", "(II)I"⟩
abbrev k_SF_takePieces : Cond := .code y_SF_takePieces b_SF_takePieces 10 (some .int)
set_option maxRecDepth 20000 in
theorem zk_SF_takePieces : k_SF_takePieces ∈ zg := zg_in 458 rfl rfl
abbrev b_SF_uncover : ByteArray := prog_1_method_31_code
def y_SF_uncover : MethodName := ⟨"SealedFiles", "uncover", "(IIII)V"⟩
abbrev k_SF_uncover : Cond := .code y_SF_uncover b_SF_uncover 6 none
set_option maxRecDepth 20000 in
theorem zk_SF_uncover : k_SF_uncover ∈ zg := zg_in 462 rfl rfl
abbrev b_SF_unwrapped : ByteArray := prog_1_method_29_code
def y_SF_unwrapped : MethodName := ⟨"SealedFiles", "unwrapped", "(II)I"⟩
abbrev k_SF_unwrapped : Cond := .code y_SF_unwrapped b_SF_unwrapped 4 (some .int)
set_option maxRecDepth 20000 in
theorem zk_SF_unwrapped : k_SF_unwrapped ∈ zg := zg_in 454 rfl rfl
abbrev b_SF_write : ByteArray := prog_1_method_15_code
def y_SF_write : MethodName := ⟨"SealedFiles", "write", "(C)Z"⟩
abbrev k_SF_write : Cond := .code y_SF_write b_SF_write 3 (some .boolean)
set_option maxRecDepth 20000 in
theorem zk_SF_write : k_SF_write ∈ zg := zg_in 194 rfl rfl
set_option maxRecDepth 20000 in
theorem zw_0 : (Cond.initialized "SealedFilesLaw") ∈ zg := zg_in 37 rfl rfl
set_option maxRecDepth 20000 in
theorem zw_1 : (Cond.initialized "SealedFiles") ∈ zg := zg_in 38 rfl rfl
set_option maxRecDepth 20000 in
theorem zw_2 : (Cond.initialized "SealedFiles$Row") ∈ zg := zg_in 39 rfl rfl
set_option maxRecDepth 20000 in
theorem zw_3 : (Cond.initialized "SealedFilesModel") ∈ zg := zg_in 40 rfl rfl
set_option maxRecDepth 20000 in
theorem zw_4 : (Cond.initialized "java/lang/Throwable") ∈ zg := zg_in 41 rfl rfl
set_option maxRecDepth 20000 in
theorem zw_5 : (Cond.initialized "java/lang/Exception") ∈ zg := zg_in 42 rfl rfl
set_option maxRecDepth 20000 in
theorem zw_6 : (Cond.initialized "java/lang/RuntimeException") ∈ zg := zg_in 43 rfl rfl
set_option maxRecDepth 20000 in
theorem zw_7 : (Cond.initialized "java/lang/IllegalArgumentException") ∈ zg := zg_in 44 rfl rfl
set_option maxRecDepth 20000 in
theorem zw_8 : (Cond.initialized "java/lang/IllegalStateException") ∈ zg := zg_in 45 rfl rfl
set_option maxRecDepth 20000 in
theorem zw_9 : (Cond.initialized "SealedFiles$Numbers") ∈ zg := zg_in 46 rfl rfl
set_option maxRecDepth 20000 in
theorem zw_10 : (Cond.initialized "java/lang/Integer") ∈ zg := zg_in 47 rfl rfl
set_option maxRecDepth 20000 in
theorem zw_11 : (Cond.initialized "java/lang/Math") ∈ zg := zg_in 48 rfl rfl
set_option maxRecDepth 20000 in
theorem zw_12 : (Cond.initialized "java/util/NoSuchElementException") ∈ zg := zg_in 49 rfl rfl
set_option maxRecDepth 20000 in
theorem zw_13 : (Cond.initialized "java/lang/String") ∈ zg := zg_in 50 rfl rfl
set_option maxRecDepth 20000 in
theorem zw_14 : (Cond.initialized "java/lang/StringLatin1") ∈ zg := zg_in 51 rfl rfl
set_option maxRecDepth 20000 in
theorem zw_15 : (Cond.initialized "jdk/internal/util/Preconditions") ∈ zg := zg_in 52 rfl rfl
set_option maxRecDepth 20000 in
theorem zw_16 : (Cond.initialized "java/lang/StringUTF16") ∈ zg := zg_in 53 rfl rfl
set_option maxRecDepth 20000 in
theorem zw_17 : (Cond.initialized "java/lang/Character") ∈ zg := zg_in 54 rfl rfl
set_option maxRecDepth 20000 in
theorem zw_18 : (Cond.classLink "SealedFilesLaw" 8 "SealedFiles") ∈ zg := zg_in 55 rfl rfl
set_option maxRecDepth 20000 in
theorem zw_19 : (Cond.instantiable "SealedFiles" 6) ∈ zg := zg_in 56 rfl rfl
set_option maxRecDepth 20000 in
theorem zw_20 : (Cond.methodLink "SealedFilesLaw" 37 ⟨"SealedFiles", "<init>", "()V"⟩) ∈ zg := zg_in 57 rfl rfl
set_option maxRecDepth 20000 in
theorem zw_21 : (Cond.instanceMethod ⟨"SealedFiles", "<init>", "()V"⟩) ∈ zg := zg_in 58 rfl rfl
set_option maxRecDepth 20000 in
theorem zw_23 : (Cond.methodLink "SealedFiles" 1 ⟨"java/lang/Object", "<init>", "()V"⟩) ∈ zg := zg_in 60 rfl rfl
set_option maxRecDepth 20000 in
theorem zw_24 : (Cond.instanceMethod ⟨"java/lang/Object", "<init>", "()V"⟩) ∈ zg := zg_in 61 rfl rfl
set_option maxRecDepth 20000 in
theorem zw_26 : (Cond.classLink "SealedFiles" 7 "SealedFiles$Row") ∈ zg := zg_in 63 rfl rfl
set_option maxRecDepth 20000 in
theorem zw_27 : (Cond.instantiable "SealedFiles$Row" 2) ∈ zg := zg_in 64 rfl rfl
set_option maxRecDepth 20000 in
theorem zw_29 : (Cond.instanceMethod ⟨"SealedFiles$Row", "<init>", "(I)V"⟩) ∈ zg := zg_in 66 rfl rfl
set_option maxRecDepth 20000 in
theorem zw_31 : (Cond.methodLink "SealedFiles$Row" 1 ⟨"java/lang/Object", "<init>", "()V"⟩) ∈ zg := zg_in 68 rfl rfl
set_option maxRecDepth 20000 in
theorem zw_32 : (Cond.fieldLink "SealedFiles$Row" 7 "SealedFiles$Row" "items" "[I") ∈ zg := zg_in 69 rfl rfl
set_option maxRecDepth 20000 in
theorem zw_33 : (Cond.fieldLink "SealedFiles$Row" 13 "SealedFiles$Row" "size" "I") ∈ zg := zg_in 70 rfl rfl
set_option maxRecDepth 20000 in
theorem zw_38 : (Cond.superclass "SealedFiles$Row" "java/lang/Object") ∈ zg := zg_in 75 rfl rfl
set_option maxRecDepth 20000 in
theorem zw_39 : (Cond.arrayClass .int) ∈ zg := zg_in 76 rfl rfl
set_option maxRecDepth 20000 in
theorem zw_40 : (Cond.fieldLink "SealedFiles" 14 "SealedFiles" "secrets" "LSealedFiles$Row;") ∈ zg := zg_in 77 rfl rfl
set_option maxRecDepth 20000 in
theorem zw_41 : (Cond.fieldLink "SealedFiles" 18 "SealedFiles" "addresses" "LSealedFiles$Row;") ∈ zg := zg_in 78 rfl rfl
set_option maxRecDepth 20000 in
theorem zw_42 : (Cond.fieldLink "SealedFiles" 21 "SealedFiles" "message" "LSealedFiles$Row;") ∈ zg := zg_in 79 rfl rfl
set_option maxRecDepth 20000 in
theorem zw_43 : (Cond.fieldLink "SealedFiles" 24 "SealedFiles" "file" "LSealedFiles$Row;") ∈ zg := zg_in 80 rfl rfl
set_option maxRecDepth 20000 in
theorem zw_44 : (Cond.fieldLink "SealedFiles" 27 "SealedFiles" "draft" "LSealedFiles$Row;") ∈ zg := zg_in 81 rfl rfl
set_option maxRecDepth 20000 in
theorem zw_45 : (Cond.fieldLink "SealedFiles" 30 "SealedFiles" "rightPieces" "I") ∈ zg := zg_in 82 rfl rfl
set_option maxRecDepth 20000 in
theorem zw_58 : (Cond.superclass "SealedFiles" "java/lang/Object") ∈ zg := zg_in 95 rfl rfl
set_option maxRecDepth 20000 in
theorem zw_59 : (Cond.methodLink "SealedFilesLaw" 50 ⟨"SealedFiles", "address", "(I)I"⟩) ∈ zg := zg_in 96 rfl rfl
set_option maxRecDepth 20000 in
theorem zw_60 : (Cond.instanceMethod ⟨"SealedFiles", "address", "(I)I"⟩) ∈ zg := zg_in 97 rfl rfl
set_option maxRecDepth 20000 in
theorem zw_61 : (Cond.selects "SealedFiles" ⟨"SealedFiles", "address", "(I)I"⟩ ⟨"SealedFiles", "address", "(I)I"⟩) ∈ zg := zg_in 98 rfl rfl
set_option maxRecDepth 20000 in
theorem zw_65 : (Cond.instanceMethod ⟨"SealedFiles$Row", "item", "(I)I"⟩) ∈ zg := zg_in 102 rfl rfl
set_option maxRecDepth 20000 in
theorem zw_67 : (Cond.methodLink "SealedFiles$Row" 17 ⟨"SealedFiles$Row", "has", "(I)Z"⟩) ∈ zg := zg_in 104 rfl rfl
set_option maxRecDepth 20000 in
theorem zw_69 : (Cond.instanceMethod ⟨"SealedFiles$Row", "has", "(I)Z"⟩) ∈ zg := zg_in 106 rfl rfl
set_option maxRecDepth 20000 in
theorem zw_71 : (Cond.methodLink "SealedFilesLaw" 54 ⟨"SealedFiles", "put", "(I)Z"⟩) ∈ zg := zg_in 108 rfl rfl
set_option maxRecDepth 20000 in
theorem zw_72 : (Cond.instanceMethod ⟨"SealedFiles", "put", "(I)Z"⟩) ∈ zg := zg_in 109 rfl rfl
set_option maxRecDepth 20000 in
theorem zw_73 : (Cond.selects "SealedFiles" ⟨"SealedFiles", "put", "(I)Z"⟩ ⟨"SealedFiles", "put", "(I)Z"⟩) ∈ zg := zg_in 110 rfl rfl
set_option maxRecDepth 20000 in
theorem zw_77 : (Cond.instanceMethod ⟨"SealedFiles$Row", "append", "(I)Z"⟩) ∈ zg := zg_in 114 rfl rfl
set_option maxRecDepth 20000 in
theorem zw_79 : (Cond.methodLink "SealedFilesLaw" 59 ⟨"SealedFiles", "clear", "()I"⟩) ∈ zg := zg_in 116 rfl rfl
set_option maxRecDepth 20000 in
theorem zw_80 : (Cond.instanceMethod ⟨"SealedFiles", "clear", "()I"⟩) ∈ zg := zg_in 117 rfl rfl
set_option maxRecDepth 20000 in
theorem zw_81 : (Cond.selects "SealedFiles" ⟨"SealedFiles", "clear", "()I"⟩ ⟨"SealedFiles", "clear", "()I"⟩) ∈ zg := zg_in 118 rfl rfl
set_option maxRecDepth 20000 in
theorem zw_85 : (Cond.instanceMethod ⟨"SealedFiles$Row", "size", "()I"⟩) ∈ zg := zg_in 122 rfl rfl
set_option maxRecDepth 20000 in
theorem zw_89 : (Cond.instanceMethod ⟨"SealedFiles$Row", "shorten", "(I)Z"⟩) ∈ zg := zg_in 126 rfl rfl
set_option maxRecDepth 20000 in
theorem zw_91 : (Cond.methodLink "SealedFilesLaw" 70 ⟨"SealedFiles", "pieces", "()I"⟩) ∈ zg := zg_in 128 rfl rfl
set_option maxRecDepth 20000 in
theorem zw_92 : (Cond.instanceMethod ⟨"SealedFiles", "pieces", "()I"⟩) ∈ zg := zg_in 129 rfl rfl
set_option maxRecDepth 20000 in
theorem zw_93 : (Cond.selects "SealedFiles" ⟨"SealedFiles", "pieces", "()I"⟩ ⟨"SealedFiles", "pieces", "()I"⟩) ∈ zg := zg_in 130 rfl rfl
set_option maxRecDepth 20000 in
theorem zw_95 : (Cond.methodLink "SealedFilesLaw" 77 ⟨"SealedFiles", "count", "(I)I"⟩) ∈ zg := zg_in 132 rfl rfl
set_option maxRecDepth 20000 in
theorem zw_96 : (Cond.instanceMethod ⟨"SealedFiles", "count", "(I)I"⟩) ∈ zg := zg_in 133 rfl rfl
set_option maxRecDepth 20000 in
theorem zw_97 : (Cond.selects "SealedFiles" ⟨"SealedFiles", "count", "(I)I"⟩ ⟨"SealedFiles", "count", "(I)I"⟩) ∈ zg := zg_in 134 rfl rfl
set_option maxRecDepth 20000 in
theorem zw_99 : (Cond.methodLink "SealedFilesLaw" 81 ⟨"SealedFiles", "at", "(I)I"⟩) ∈ zg := zg_in 136 rfl rfl
set_option maxRecDepth 20000 in
theorem zw_100 : (Cond.instanceMethod ⟨"SealedFiles", "at", "(I)I"⟩) ∈ zg := zg_in 137 rfl rfl
set_option maxRecDepth 20000 in
theorem zw_101 : (Cond.selects "SealedFiles" ⟨"SealedFiles", "at", "(I)I"⟩ ⟨"SealedFiles", "at", "(I)I"⟩) ∈ zg := zg_in 138 rfl rfl
set_option maxRecDepth 20000 in
theorem zw_103 : (Cond.methodLink "SealedFilesLaw" 89 ⟨"SealedFiles", "cut", "(I)Z"⟩) ∈ zg := zg_in 140 rfl rfl
set_option maxRecDepth 20000 in
theorem zw_104 : (Cond.instanceMethod ⟨"SealedFiles", "cut", "(I)Z"⟩) ∈ zg := zg_in 141 rfl rfl
set_option maxRecDepth 20000 in
theorem zw_105 : (Cond.selects "SealedFiles" ⟨"SealedFiles", "cut", "(I)Z"⟩ ⟨"SealedFiles", "cut", "(I)Z"⟩) ∈ zg := zg_in 142 rfl rfl
set_option maxRecDepth 20000 in
theorem zw_107 : (Cond.methodLink "SealedFilesLaw" 93 ⟨"SealedFiles", "print", "(I)I"⟩) ∈ zg := zg_in 144 rfl rfl
set_option maxRecDepth 20000 in
theorem zw_108 : (Cond.instanceMethod ⟨"SealedFiles", "print", "(I)I"⟩) ∈ zg := zg_in 145 rfl rfl
set_option maxRecDepth 20000 in
theorem zw_109 : (Cond.selects "SealedFiles" ⟨"SealedFiles", "print", "(I)I"⟩ ⟨"SealedFiles", "print", "(I)I"⟩) ∈ zg := zg_in 146 rfl rfl
set_option maxRecDepth 20000 in
theorem zw_113 : (Cond.methodLink "SealedFiles" 131 ⟨"java/lang/String", "charAt", "(I)C"⟩) ∈ zg := zg_in 150 rfl rfl
set_option maxRecDepth 20000 in
theorem zw_114 : (Cond.instanceMethod ⟨"java/lang/String", "charAt", "(I)C"⟩) ∈ zg := zg_in 151 rfl rfl
set_option maxRecDepth 20000 in
theorem zw_115 : (Cond.selects "java/lang/String" ⟨"java/lang/String", "charAt", "(I)C"⟩ ⟨"java/lang/String", "charAt", "(I)C"⟩) ∈ zg := zg_in 152 rfl rfl
set_option maxRecDepth 20000 in
theorem zw_117 : (Cond.methodLink "java/lang/String" 492 ⟨"java/lang/String", "isLatin1", "()Z"⟩) ∈ zg := zg_in 154 rfl rfl
set_option maxRecDepth 20000 in
theorem zw_118 : (Cond.instanceMethod ⟨"java/lang/String", "isLatin1", "()Z"⟩) ∈ zg := zg_in 155 rfl rfl
set_option maxRecDepth 20000 in
theorem zw_119 : (Cond.selects "java/lang/String" ⟨"java/lang/String", "isLatin1", "()Z"⟩ ⟨"java/lang/String", "isLatin1", "()Z"⟩) ∈ zg := zg_in 156 rfl rfl
set_option maxRecDepth 20000 in
theorem zw_121 : (Cond.fieldLink "java/lang/String" 38 "java/lang/String" "COMPACT_STRINGS" "Z") ∈ zg := zg_in 158 rfl rfl
set_option maxRecDepth 20000 in
theorem zw_123 : (Cond.methodLink "java/lang/String" 495 ⟨"java/lang/StringLatin1", "charAt", "([BI)C"⟩) ∈ zg := zg_in 160 rfl rfl
set_option maxRecDepth 20000 in
theorem zw_124 : (Cond.static ⟨"java/lang/StringLatin1", "charAt", "([BI)C"⟩) ∈ zg := zg_in 161 rfl rfl
set_option maxRecDepth 20000 in
theorem zw_126 : (Cond.methodLink "java/lang/StringLatin1" 9 ⟨"java/lang/String", "checkIndex", "(II)V"⟩) ∈ zg := zg_in 163 rfl rfl
set_option maxRecDepth 20000 in
theorem zw_127 : (Cond.static ⟨"java/lang/String", "checkIndex", "(II)V"⟩) ∈ zg := zg_in 164 rfl rfl
set_option maxRecDepth 20000 in
theorem zw_129 : (Cond.fieldLink "java/lang/String" 1053 "jdk/internal/util/Preconditions" "SIOOBE_FORMATTER" "Ljava/util/function/BiFunction;") ∈ zg := zg_in 166 rfl rfl
set_option maxRecDepth 20000 in
theorem zw_131 : (Cond.methodLink "java/lang/String" 1059 ⟨"jdk/internal/util/Preconditions", "checkIndex", "(IILjava/util/function/BiFunction;)I"⟩) ∈ zg := zg_in 168 rfl rfl
set_option maxRecDepth 20000 in
theorem zw_132 : (Cond.static ⟨"jdk/internal/util/Preconditions", "checkIndex", "(IILjava/util/function/BiFunction;)I"⟩) ∈ zg := zg_in 169 rfl rfl
set_option maxRecDepth 20000 in
theorem zw_134 : (Cond.methodLink "java/lang/String" 498 ⟨"java/lang/StringUTF16", "charAt", "([BI)C"⟩) ∈ zg := zg_in 171 rfl rfl
set_option maxRecDepth 20000 in
theorem zw_135 : (Cond.static ⟨"java/lang/StringUTF16", "charAt", "([BI)C"⟩) ∈ zg := zg_in 172 rfl rfl
set_option maxRecDepth 20000 in
theorem zw_137 : (Cond.methodLink "java/lang/StringUTF16" 67 ⟨"java/lang/StringUTF16", "checkIndex", "(I[B)V"⟩) ∈ zg := zg_in 174 rfl rfl
set_option maxRecDepth 20000 in
theorem zw_138 : (Cond.static ⟨"java/lang/StringUTF16", "checkIndex", "(I[B)V"⟩) ∈ zg := zg_in 175 rfl rfl
set_option maxRecDepth 20000 in
theorem zw_140 : (Cond.methodLink "java/lang/StringUTF16" 48 ⟨"java/lang/StringUTF16", "length", "([B)I"⟩) ∈ zg := zg_in 177 rfl rfl
set_option maxRecDepth 20000 in
theorem zw_141 : (Cond.static ⟨"java/lang/StringUTF16", "length", "([B)I"⟩) ∈ zg := zg_in 178 rfl rfl
set_option maxRecDepth 20000 in
theorem zw_143 : (Cond.methodLink "java/lang/StringUTF16" 414 ⟨"java/lang/String", "checkIndex", "(II)V"⟩) ∈ zg := zg_in 180 rfl rfl
set_option maxRecDepth 20000 in
theorem zw_144 : (Cond.methodLink "java/lang/StringUTF16" 71 ⟨"java/lang/StringUTF16", "getChar", "([BI)C"⟩) ∈ zg := zg_in 181 rfl rfl
set_option maxRecDepth 20000 in
theorem zw_145 : (Cond.static ⟨"java/lang/StringUTF16", "getChar", "([BI)C"⟩) ∈ zg := zg_in 182 rfl rfl
set_option maxRecDepth 20000 in
theorem zw_147 : (Cond.fieldLink "java/lang/StringUTF16" 44 "java/lang/StringUTF16" "$assertionsDisabled" "Z") ∈ zg := zg_in 184 rfl rfl
set_option maxRecDepth 20000 in
theorem zw_149 : (Cond.fieldLink "java/lang/StringUTF16" 59 "java/lang/StringUTF16" "HI_BYTE_SHIFT" "I") ∈ zg := zg_in 186 rfl rfl
set_option maxRecDepth 20000 in
theorem zw_151 : (Cond.fieldLink "java/lang/StringUTF16" 63 "java/lang/StringUTF16" "LO_BYTE_SHIFT" "I") ∈ zg := zg_in 188 rfl rfl
set_option maxRecDepth 20000 in
theorem zw_153 : (Cond.arrayClass .byte) ∈ zg := zg_in 190 rfl rfl
set_option maxRecDepth 20000 in
theorem zw_154 : (Cond.methodLink "SealedFilesLaw" 97 ⟨"SealedFiles", "write", "(C)Z"⟩) ∈ zg := zg_in 191 rfl rfl
set_option maxRecDepth 20000 in
theorem zw_155 : (Cond.instanceMethod ⟨"SealedFiles", "write", "(C)Z"⟩) ∈ zg := zg_in 192 rfl rfl
set_option maxRecDepth 20000 in
theorem zw_156 : (Cond.selects "SealedFiles" ⟨"SealedFiles", "write", "(C)Z"⟩ ⟨"SealedFiles", "write", "(C)Z"⟩) ∈ zg := zg_in 193 rfl rfl
set_option maxRecDepth 20000 in
theorem zw_158 : (Cond.methodLink "SealedFiles" 137 ⟨"java/lang/String", "indexOf", "(I)I"⟩) ∈ zg := zg_in 195 rfl rfl
set_option maxRecDepth 20000 in
theorem zw_159 : (Cond.instanceMethod ⟨"java/lang/String", "indexOf", "(I)I"⟩) ∈ zg := zg_in 196 rfl rfl
set_option maxRecDepth 20000 in
theorem zw_160 : (Cond.selects "java/lang/String" ⟨"java/lang/String", "indexOf", "(I)I"⟩ ⟨"java/lang/String", "indexOf", "(I)I"⟩) ∈ zg := zg_in 197 rfl rfl
set_option maxRecDepth 20000 in
theorem zw_162 : (Cond.methodLink "java/lang/String" 633 ⟨"java/lang/String", "indexOf", "(II)I"⟩) ∈ zg := zg_in 199 rfl rfl
set_option maxRecDepth 20000 in
theorem zw_163 : (Cond.instanceMethod ⟨"java/lang/String", "indexOf", "(II)I"⟩) ∈ zg := zg_in 200 rfl rfl
set_option maxRecDepth 20000 in
theorem zw_164 : (Cond.selects "java/lang/String" ⟨"java/lang/String", "indexOf", "(II)I"⟩ ⟨"java/lang/String", "indexOf", "(II)I"⟩) ∈ zg := zg_in 201 rfl rfl
set_option maxRecDepth 20000 in
theorem zw_166 : (Cond.methodLink "java/lang/String" 505 ⟨"java/lang/String", "length", "()I"⟩) ∈ zg := zg_in 203 rfl rfl
set_option maxRecDepth 20000 in
theorem zw_167 : (Cond.instanceMethod ⟨"java/lang/String", "length", "()I"⟩) ∈ zg := zg_in 204 rfl rfl
set_option maxRecDepth 20000 in
theorem zw_168 : (Cond.selects "java/lang/String" ⟨"java/lang/String", "length", "()I"⟩ ⟨"java/lang/String", "length", "()I"⟩) ∈ zg := zg_in 205 rfl rfl
set_option maxRecDepth 20000 in
theorem zw_170 : (Cond.methodLink "java/lang/String" 335 ⟨"java/lang/String", "coder", "()B"⟩) ∈ zg := zg_in 207 rfl rfl
set_option maxRecDepth 20000 in
theorem zw_171 : (Cond.instanceMethod ⟨"java/lang/String", "coder", "()B"⟩) ∈ zg := zg_in 208 rfl rfl
set_option maxRecDepth 20000 in
theorem zw_172 : (Cond.selects "java/lang/String" ⟨"java/lang/String", "coder", "()B"⟩ ⟨"java/lang/String", "coder", "()B"⟩) ∈ zg := zg_in 209 rfl rfl
set_option maxRecDepth 20000 in
theorem zw_174 : (Cond.methodLink "java/lang/String" 637 ⟨"java/lang/StringLatin1", "indexOf", "([BIII)I"⟩) ∈ zg := zg_in 211 rfl rfl
set_option maxRecDepth 20000 in
theorem zw_175 : (Cond.static ⟨"java/lang/StringLatin1", "indexOf", "([BIII)I"⟩) ∈ zg := zg_in 212 rfl rfl
set_option maxRecDepth 20000 in
theorem zw_177 : (Cond.methodLink "java/lang/StringLatin1" 88 ⟨"java/lang/StringLatin1", "canEncode", "(I)Z"⟩) ∈ zg := zg_in 214 rfl rfl
set_option maxRecDepth 20000 in
theorem zw_178 : (Cond.static ⟨"java/lang/StringLatin1", "canEncode", "(I)Z"⟩) ∈ zg := zg_in 215 rfl rfl
set_option maxRecDepth 20000 in
theorem zw_180 : (Cond.methodLink "java/lang/StringLatin1" 92 ⟨"java/lang/Math", "max", "(II)I"⟩) ∈ zg := zg_in 217 rfl rfl
set_option maxRecDepth 20000 in
theorem zw_181 : (Cond.static ⟨"java/lang/Math", "max", "(II)I"⟩) ∈ zg := zg_in 218 rfl rfl
set_option maxRecDepth 20000 in
theorem zw_183 : (Cond.methodLink "java/lang/StringLatin1" 38 ⟨"java/lang/Math", "min", "(II)I"⟩) ∈ zg := zg_in 220 rfl rfl
set_option maxRecDepth 20000 in
theorem zw_184 : (Cond.static ⟨"java/lang/Math", "min", "(II)I"⟩) ∈ zg := zg_in 221 rfl rfl
set_option maxRecDepth 20000 in
theorem zw_186 : (Cond.methodLink "java/lang/StringLatin1" 95 ⟨"java/lang/StringLatin1", "indexOfChar", "([BIII)I"⟩) ∈ zg := zg_in 223 rfl rfl
set_option maxRecDepth 20000 in
theorem zw_187 : (Cond.static ⟨"java/lang/StringLatin1", "indexOfChar", "([BIII)I"⟩) ∈ zg := zg_in 224 rfl rfl
set_option maxRecDepth 20000 in
theorem zw_189 : (Cond.methodLink "java/lang/String" 640 ⟨"java/lang/StringUTF16", "indexOf", "([BIII)I"⟩) ∈ zg := zg_in 226 rfl rfl
set_option maxRecDepth 20000 in
theorem zw_190 : (Cond.static ⟨"java/lang/StringUTF16", "indexOf", "([BIII)I"⟩) ∈ zg := zg_in 227 rfl rfl
set_option maxRecDepth 20000 in
theorem zw_192 : (Cond.methodLink "java/lang/StringUTF16" 224 ⟨"java/lang/Math", "max", "(II)I"⟩) ∈ zg := zg_in 229 rfl rfl
set_option maxRecDepth 20000 in
theorem zw_193 : (Cond.methodLink "java/lang/StringUTF16" 183 ⟨"java/lang/Math", "min", "(II)I"⟩) ∈ zg := zg_in 230 rfl rfl
set_option maxRecDepth 20000 in
theorem zw_194 : (Cond.constant "java/lang/StringUTF16" 227 65536) ∈ zg := zg_in 231 rfl rfl
set_option maxRecDepth 20000 in
theorem zw_195 : (Cond.methodLink "java/lang/StringUTF16" 228 ⟨"java/lang/StringUTF16", "indexOfChar", "([BIII)I"⟩) ∈ zg := zg_in 232 rfl rfl
set_option maxRecDepth 20000 in
theorem zw_196 : (Cond.static ⟨"java/lang/StringUTF16", "indexOfChar", "([BIII)I"⟩) ∈ zg := zg_in 233 rfl rfl
set_option maxRecDepth 20000 in
theorem zw_198 : (Cond.methodLink "java/lang/StringUTF16" 96 ⟨"java/lang/StringUTF16", "checkBoundsBeginEnd", "(II[B)V"⟩) ∈ zg := zg_in 235 rfl rfl
set_option maxRecDepth 20000 in
theorem zw_199 : (Cond.static ⟨"java/lang/StringUTF16", "checkBoundsBeginEnd", "(II[B)V"⟩) ∈ zg := zg_in 236 rfl rfl
set_option maxRecDepth 20000 in
theorem zw_201 : (Cond.methodLink "java/lang/StringUTF16" 241 ⟨"java/lang/String", "checkBoundsBeginEnd", "(III)V"⟩) ∈ zg := zg_in 238 rfl rfl
set_option maxRecDepth 20000 in
theorem zw_202 : (Cond.static ⟨"java/lang/String", "checkBoundsBeginEnd", "(III)V"⟩) ∈ zg := zg_in 239 rfl rfl
set_option maxRecDepth 20000 in
theorem zw_204 : (Cond.methodLink "java/lang/String" 1062 ⟨"jdk/internal/util/Preconditions", "checkFromToIndex", "(IIILjava/util/function/BiFunction;)I"⟩) ∈ zg := zg_in 241 rfl rfl
set_option maxRecDepth 20000 in
theorem zw_205 : (Cond.static ⟨"jdk/internal/util/Preconditions", "checkFromToIndex", "(IIILjava/util/function/BiFunction;)I"⟩) ∈ zg := zg_in 242 rfl rfl
set_option maxRecDepth 20000 in
theorem zw_207 : (Cond.methodLink "java/lang/StringUTF16" 244 ⟨"java/lang/StringUTF16", "indexOfCharUnsafe", "([BIII)I"⟩) ∈ zg := zg_in 244 rfl rfl
set_option maxRecDepth 20000 in
theorem zw_208 : (Cond.static ⟨"java/lang/StringUTF16", "indexOfCharUnsafe", "([BIII)I"⟩) ∈ zg := zg_in 245 rfl rfl
set_option maxRecDepth 20000 in
theorem zw_210 : (Cond.methodLink "java/lang/StringUTF16" 232 ⟨"java/lang/StringUTF16", "indexOfSupplementary", "([BIII)I"⟩) ∈ zg := zg_in 247 rfl rfl
set_option maxRecDepth 20000 in
theorem zw_211 : (Cond.static ⟨"java/lang/StringUTF16", "indexOfSupplementary", "([BIII)I"⟩) ∈ zg := zg_in 248 rfl rfl
set_option maxRecDepth 20000 in
theorem zw_213 : (Cond.methodLink "java/lang/StringUTF16" 164 ⟨"java/lang/Character", "isValidCodePoint", "(I)Z"⟩) ∈ zg := zg_in 250 rfl rfl
set_option maxRecDepth 20000 in
theorem zw_214 : (Cond.static ⟨"java/lang/Character", "isValidCodePoint", "(I)Z"⟩) ∈ zg := zg_in 251 rfl rfl
set_option maxRecDepth 20000 in
theorem zw_216 : (Cond.methodLink "java/lang/StringUTF16" 157 ⟨"java/lang/Character", "highSurrogate", "(I)C"⟩) ∈ zg := zg_in 253 rfl rfl
set_option maxRecDepth 20000 in
theorem zw_217 : (Cond.static ⟨"java/lang/Character", "highSurrogate", "(I)C"⟩) ∈ zg := zg_in 254 rfl rfl
set_option maxRecDepth 20000 in
theorem zw_219 : (Cond.constant "java/lang/Character" 110 55232) ∈ zg := zg_in 256 rfl rfl
set_option maxRecDepth 20000 in
theorem zw_220 : (Cond.methodLink "java/lang/StringUTF16" 161 ⟨"java/lang/Character", "lowSurrogate", "(I)C"⟩) ∈ zg := zg_in 257 rfl rfl
set_option maxRecDepth 20000 in
theorem zw_221 : (Cond.static ⟨"java/lang/Character", "lowSurrogate", "(I)C"⟩) ∈ zg := zg_in 258 rfl rfl
set_option maxRecDepth 20000 in
theorem zw_223 : (Cond.constant "java/lang/Character" 76 56320) ∈ zg := zg_in 260 rfl rfl
set_option maxRecDepth 20000 in
theorem zw_224 : (Cond.methodLink "SealedFilesLaw" 41 ⟨"SealedFilesLaw", "key", "(LSealedFiles;I[J)I"⟩) ∈ zg := zg_in 261 rfl rfl
set_option maxRecDepth 20000 in
theorem zw_225 : (Cond.static ⟨"SealedFilesLaw", "key", "(LSealedFiles;I[J)I"⟩) ∈ zg := zg_in 262 rfl rfl
set_option maxRecDepth 20000 in
theorem zw_227 : (Cond.classLink "SealedFilesLaw" 13 "java/lang/IllegalArgumentException") ∈ zg := zg_in 264 rfl rfl
set_option maxRecDepth 20000 in
theorem zw_228 : (Cond.classLink "SealedFilesLaw" 15 "java/lang/IllegalStateException") ∈ zg := zg_in 265 rfl rfl
set_option maxRecDepth 20000 in
theorem zw_229 : (Cond.methodLink "SealedFilesLaw" 7 ⟨"SealedFiles", "key", "(I)I"⟩) ∈ zg := zg_in 266 rfl rfl
set_option maxRecDepth 20000 in
theorem zw_230 : (Cond.instanceMethod ⟨"SealedFiles", "key", "(I)I"⟩) ∈ zg := zg_in 267 rfl rfl
set_option maxRecDepth 20000 in
theorem zw_231 : (Cond.selects "SealedFiles" ⟨"SealedFiles", "key", "(I)I"⟩ ⟨"SealedFiles", "key", "(I)I"⟩) ∈ zg := zg_in 268 rfl rfl
set_option maxRecDepth 20000 in
theorem zw_233 : (Cond.classLink "SealedFiles" 34 "java/lang/IllegalArgumentException") ∈ zg := zg_in 270 rfl rfl
set_option maxRecDepth 20000 in
theorem zw_234 : (Cond.instantiable "java/lang/IllegalArgumentException" 6) ∈ zg := zg_in 271 rfl rfl
set_option maxRecDepth 20000 in
theorem zw_242 : (Cond.selects "java/lang/IllegalArgumentException" ⟨"java/lang/Throwable", "fillInStackTrace", "(I)Ljava/lang/Throwable;"⟩ ⟨"java/lang/Throwable", "fillInStackTrace", "(I)Ljava/lang/Throwable;"⟩) ∈ zg := zg_in 279 rfl rfl
set_option maxRecDepth 20000 in
theorem zw_243 : (Cond.selects "java/lang/IllegalArgumentException" ⟨"java/lang/Throwable", "fillInStackTrace", "()Ljava/lang/Throwable;"⟩ ⟨"java/lang/Throwable", "fillInStackTrace", "()Ljava/lang/Throwable;"⟩) ∈ zg := zg_in 280 rfl rfl
set_option maxRecDepth 20000 in
theorem zw_254 : (Cond.fieldLink "java/lang/Throwable" 198 "java/lang/Throwable" "backtrace" "Ljava/lang/Object;") ∈ zg := zg_in 291 rfl rfl
set_option maxRecDepth 20000 in
theorem zw_255 : (Cond.superclass "java/lang/Throwable" "java/lang/Object") ∈ zg := zg_in 292 rfl rfl
set_option maxRecDepth 20000 in
theorem zw_256 : (Cond.instanceMethod ⟨"java/lang/Throwable", "<init>", "()V"⟩) ∈ zg := zg_in 293 rfl rfl
set_option maxRecDepth 20000 in
theorem zw_258 : (Cond.methodLink "java/lang/Throwable" 1 ⟨"java/lang/Object", "<init>", "()V"⟩) ∈ zg := zg_in 295 rfl rfl
set_option maxRecDepth 20000 in
theorem zw_259 : (Cond.fieldLink "java/lang/Throwable" 13 "java/lang/Throwable" "UNASSIGNED_STACK" "[Ljava/lang/StackTraceElement;") ∈ zg := zg_in 296 rfl rfl
set_option maxRecDepth 20000 in
theorem zw_261 : (Cond.fieldLink "java/lang/Throwable" 20 "java/lang/Throwable" "SUPPRESSED_SENTINEL" "Ljava/util/List;") ∈ zg := zg_in 298 rfl rfl
set_option maxRecDepth 20000 in
theorem zw_263 : (Cond.methodLink "java/lang/Throwable" 27 ⟨"java/lang/Throwable", "fillInStackTrace", "()Ljava/lang/Throwable;"⟩) ∈ zg := zg_in 300 rfl rfl
set_option maxRecDepth 20000 in
theorem zw_264 : (Cond.instanceMethod ⟨"java/lang/Throwable", "fillInStackTrace", "()Ljava/lang/Throwable;"⟩) ∈ zg := zg_in 301 rfl rfl
set_option maxRecDepth 20000 in
theorem zw_266 : (Cond.selects "java/lang/IllegalStateException" ⟨"java/lang/Throwable", "fillInStackTrace", "()Ljava/lang/Throwable;"⟩ ⟨"java/lang/Throwable", "fillInStackTrace", "()Ljava/lang/Throwable;"⟩) ∈ zg := zg_in 303 rfl rfl
set_option maxRecDepth 20000 in
theorem zw_267 : (Cond.selects "java/util/NoSuchElementException" ⟨"java/lang/Throwable", "fillInStackTrace", "()Ljava/lang/Throwable;"⟩ ⟨"java/lang/Throwable", "fillInStackTrace", "()Ljava/lang/Throwable;"⟩) ∈ zg := zg_in 304 rfl rfl
set_option maxRecDepth 20000 in
theorem zw_269 : (Cond.methodLink "java/lang/Throwable" 202 ⟨"java/lang/Throwable", "fillInStackTrace", "(I)Ljava/lang/Throwable;"⟩) ∈ zg := zg_in 306 rfl rfl
set_option maxRecDepth 20000 in
theorem zw_271 : (Cond.instanceMethod ⟨"java/lang/Throwable", "fillInStackTrace", "(I)Ljava/lang/Throwable;"⟩) ∈ zg := zg_in 308 rfl rfl
set_option maxRecDepth 20000 in
theorem zw_272 : (Cond.instantiable "java/lang/Throwable" 6) ∈ zg := zg_in 309 rfl rfl
set_option maxRecDepth 20000 in
theorem zw_275 : (Cond.methodLink "SealedFiles" 38 ⟨"java/lang/IllegalArgumentException", "<init>", "(Ljava/lang/String;)V"⟩) ∈ zg := zg_in 312 rfl rfl
set_option maxRecDepth 20000 in
theorem zw_276 : (Cond.instanceMethod ⟨"java/lang/IllegalArgumentException", "<init>", "(Ljava/lang/String;)V"⟩) ∈ zg := zg_in 313 rfl rfl
set_option maxRecDepth 20000 in
theorem zw_278 : (Cond.methodLink "java/lang/IllegalArgumentException" 7 ⟨"java/lang/RuntimeException", "<init>", "(Ljava/lang/String;)V"⟩) ∈ zg := zg_in 315 rfl rfl
set_option maxRecDepth 20000 in
theorem zw_279 : (Cond.instanceMethod ⟨"java/lang/RuntimeException", "<init>", "(Ljava/lang/String;)V"⟩) ∈ zg := zg_in 316 rfl rfl
set_option maxRecDepth 20000 in
theorem zw_281 : (Cond.methodLink "java/lang/RuntimeException" 7 ⟨"java/lang/Exception", "<init>", "(Ljava/lang/String;)V"⟩) ∈ zg := zg_in 318 rfl rfl
set_option maxRecDepth 20000 in
theorem zw_282 : (Cond.instanceMethod ⟨"java/lang/Exception", "<init>", "(Ljava/lang/String;)V"⟩) ∈ zg := zg_in 319 rfl rfl
set_option maxRecDepth 20000 in
theorem zw_284 : (Cond.methodLink "java/lang/Exception" 7 ⟨"java/lang/Throwable", "<init>", "(Ljava/lang/String;)V"⟩) ∈ zg := zg_in 321 rfl rfl
set_option maxRecDepth 20000 in
theorem zw_285 : (Cond.instanceMethod ⟨"java/lang/Throwable", "<init>", "(Ljava/lang/String;)V"⟩) ∈ zg := zg_in 322 rfl rfl
set_option maxRecDepth 20000 in
theorem zw_287 : (Cond.fieldLink "java/lang/Throwable" 198 "java/lang/Throwable" "backtrace" "Ljava/lang/Object;") ∈ zg := zg_in 324 rfl rfl
set_option maxRecDepth 20000 in
theorem zw_288 : (Cond.fieldLink "java/lang/Throwable" 31 "java/lang/Throwable" "detailMessage" "Ljava/lang/String;") ∈ zg := zg_in 325 rfl rfl
set_option maxRecDepth 20000 in
theorem zw_289 : (Cond.fieldLink "java/lang/Throwable" 7 "java/lang/Throwable" "cause" "Ljava/lang/Throwable;") ∈ zg := zg_in 326 rfl rfl
set_option maxRecDepth 20000 in
theorem zw_290 : (Cond.fieldLink "java/lang/Throwable" 17 "java/lang/Throwable" "stackTrace" "[Ljava/lang/StackTraceElement;") ∈ zg := zg_in 327 rfl rfl
set_option maxRecDepth 20000 in
theorem zw_291 : (Cond.fieldLink "java/lang/Throwable" 24 "java/lang/Throwable" "suppressedExceptions" "Ljava/util/List;") ∈ zg := zg_in 328 rfl rfl
set_option maxRecDepth 20000 in
theorem zw_299 : (Cond.superclass "java/lang/IllegalArgumentException" "java/lang/RuntimeException") ∈ zg := zg_in 336 rfl rfl
set_option maxRecDepth 20000 in
theorem zw_300 : (Cond.classLink "SealedFiles" 45 "java/lang/IllegalStateException") ∈ zg := zg_in 337 rfl rfl
set_option maxRecDepth 20000 in
theorem zw_301 : (Cond.instantiable "java/lang/IllegalStateException" 6) ∈ zg := zg_in 338 rfl rfl
set_option maxRecDepth 20000 in
theorem zw_303 : (Cond.selects "java/lang/IllegalStateException" ⟨"java/lang/Throwable", "fillInStackTrace", "(I)Ljava/lang/Throwable;"⟩ ⟨"java/lang/Throwable", "fillInStackTrace", "(I)Ljava/lang/Throwable;"⟩) ∈ zg := zg_in 340 rfl rfl
set_option maxRecDepth 20000 in
theorem zw_310 : (Cond.methodLink "SealedFiles" 49 ⟨"java/lang/IllegalStateException", "<init>", "(Ljava/lang/String;)V"⟩) ∈ zg := zg_in 347 rfl rfl
set_option maxRecDepth 20000 in
theorem zw_311 : (Cond.instanceMethod ⟨"java/lang/IllegalStateException", "<init>", "(Ljava/lang/String;)V"⟩) ∈ zg := zg_in 348 rfl rfl
set_option maxRecDepth 20000 in
theorem zw_313 : (Cond.methodLink "java/lang/IllegalStateException" 7 ⟨"java/lang/RuntimeException", "<init>", "(Ljava/lang/String;)V"⟩) ∈ zg := zg_in 350 rfl rfl
set_option maxRecDepth 20000 in
theorem zw_315 : (Cond.superclass "java/lang/IllegalStateException" "java/lang/RuntimeException") ∈ zg := zg_in 352 rfl rfl
set_option maxRecDepth 20000 in
theorem zw_317 : (Cond.static ⟨"SealedFiles$Numbers", "power", "(II)I"⟩) ∈ zg := zg_in 354 rfl rfl
set_option maxRecDepth 20000 in
theorem zw_319 : (Cond.methodLink "SealedFilesLaw" 63 ⟨"SealedFilesLaw", "seal", "(LSealedFiles;III[J)I"⟩) ∈ zg := zg_in 356 rfl rfl
set_option maxRecDepth 20000 in
theorem zw_320 : (Cond.static ⟨"SealedFilesLaw", "seal", "(LSealedFiles;III[J)I"⟩) ∈ zg := zg_in 357 rfl rfl
set_option maxRecDepth 20000 in
theorem zw_322 : (Cond.methodLink "SealedFilesLaw" 17 ⟨"SealedFiles", "seal", "(III)I"⟩) ∈ zg := zg_in 359 rfl rfl
set_option maxRecDepth 20000 in
theorem zw_323 : (Cond.instanceMethod ⟨"SealedFiles", "seal", "(III)I"⟩) ∈ zg := zg_in 360 rfl rfl
set_option maxRecDepth 20000 in
theorem zw_324 : (Cond.selects "SealedFiles" ⟨"SealedFiles", "seal", "(III)I"⟩ ⟨"SealedFiles", "seal", "(III)I"⟩) ∈ zg := zg_in 361 rfl rfl
set_option maxRecDepth 20000 in
theorem zw_326 : (Cond.methodLink "SealedFiles" 67 ⟨"SealedFiles", "areReceivers", "(I)Z"⟩) ∈ zg := zg_in 363 rfl rfl
set_option maxRecDepth 20000 in
theorem zw_328 : (Cond.instanceMethod ⟨"SealedFiles", "areReceivers", "(I)Z"⟩) ∈ zg := zg_in 365 rfl rfl
set_option maxRecDepth 20000 in
theorem zw_330 : (Cond.methodLink "SealedFiles" 72 ⟨"java/lang/Integer", "bitCount", "(I)I"⟩) ∈ zg := zg_in 367 rfl rfl
set_option maxRecDepth 20000 in
theorem zw_331 : (Cond.static ⟨"java/lang/Integer", "bitCount", "(I)I"⟩) ∈ zg := zg_in 368 rfl rfl
set_option maxRecDepth 20000 in
theorem zw_333 : (Cond.constant "java/lang/Integer" 265 1431655765) ∈ zg := zg_in 370 rfl rfl
set_option maxRecDepth 20000 in
theorem zw_334 : (Cond.constant "java/lang/Integer" 266 858993459) ∈ zg := zg_in 371 rfl rfl
set_option maxRecDepth 20000 in
theorem zw_335 : (Cond.constant "java/lang/Integer" 267 252645135) ∈ zg := zg_in 372 rfl rfl
set_option maxRecDepth 20000 in
theorem zw_337 : (Cond.methodLink "SealedFiles" 77 ⟨"SealedFiles", "exponent", "(III)I"⟩) ∈ zg := zg_in 374 rfl rfl
set_option maxRecDepth 20000 in
theorem zw_338 : (Cond.static ⟨"SealedFiles", "exponent", "(III)I"⟩) ∈ zg := zg_in 375 rfl rfl
set_option maxRecDepth 20000 in
theorem zw_341 : (Cond.static ⟨"SealedFiles$Numbers", "word", "(III)I"⟩) ∈ zg := zg_in 378 rfl rfl
set_option maxRecDepth 20000 in
theorem zw_343 : (Cond.methodLink "SealedFiles$Numbers" 11 ⟨"SealedFiles$Numbers", "mix", "(I)I"⟩) ∈ zg := zg_in 380 rfl rfl
set_option maxRecDepth 20000 in
theorem zw_344 : (Cond.static ⟨"SealedFiles$Numbers", "mix", "(I)I"⟩) ∈ zg := zg_in 381 rfl rfl
set_option maxRecDepth 20000 in
theorem zw_346 : (Cond.constant "SealedFiles$Numbers" 9 2146121005) ∈ zg := zg_in 383 rfl rfl
set_option maxRecDepth 20000 in
theorem zw_347 : (Cond.constant "SealedFiles$Numbers" 10 2073254073) ∈ zg := zg_in 384 rfl rfl
set_option maxRecDepth 20000 in
theorem zw_348 : (Cond.methodLink "SealedFiles" 81 ⟨"SealedFiles", "appendEntry", "(III)V"⟩) ∈ zg := zg_in 385 rfl rfl
set_option maxRecDepth 20000 in
theorem zw_350 : (Cond.instanceMethod ⟨"SealedFiles", "appendEntry", "(III)V"⟩) ∈ zg := zg_in 387 rfl rfl
set_option maxRecDepth 20000 in
theorem zw_354 : (Cond.instanceMethod ⟨"SealedFiles$Row", "appendPair", "(I)V"⟩) ∈ zg := zg_in 391 rfl rfl
set_option maxRecDepth 20000 in
theorem zw_356 : (Cond.methodLink "SealedFiles$Row" 21 ⟨"SealedFiles$Row", "append", "(I)Z"⟩) ∈ zg := zg_in 393 rfl rfl
set_option maxRecDepth 20000 in
theorem zw_357 : (Cond.constant "SealedFiles" 151 65535) ∈ zg := zg_in 394 rfl rfl
set_option maxRecDepth 20000 in
theorem zw_358 : (Cond.methodLink "SealedFiles" 152 ⟨"SealedFiles", "entrySign", "(III)I"⟩) ∈ zg := zg_in 395 rfl rfl
set_option maxRecDepth 20000 in
theorem zw_360 : (Cond.instanceMethod ⟨"SealedFiles", "entrySign", "(III)I"⟩) ∈ zg := zg_in 397 rfl rfl
set_option maxRecDepth 20000 in
theorem zw_364 : (Cond.instanceMethod ⟨"SealedFiles$Row", "sign", "(III)I"⟩) ∈ zg := zg_in 401 rfl rfl
set_option maxRecDepth 20000 in
theorem zw_366 : (Cond.constant "SealedFiles$Row" 28 65520) ∈ zg := zg_in 403 rfl rfl
set_option maxRecDepth 20000 in
theorem zw_367 : (Cond.methodLink "SealedFiles$Row" 24 ⟨"SealedFiles$Row", "item", "(I)I"⟩) ∈ zg := zg_in 404 rfl rfl
set_option maxRecDepth 20000 in
theorem zw_368 : (Cond.constantLong "SealedFiles$Row" 29 65521) ∈ zg := zg_in 405 rfl rfl
set_option maxRecDepth 20000 in
theorem zw_369 : (Cond.methodLink "SealedFiles" 85 ⟨"SealedFiles", "headSign", "(II)I"⟩) ∈ zg := zg_in 406 rfl rfl
set_option maxRecDepth 20000 in
theorem zw_371 : (Cond.instanceMethod ⟨"SealedFiles", "headSign", "(II)I"⟩) ∈ zg := zg_in 408 rfl rfl
set_option maxRecDepth 20000 in
theorem zw_373 : (Cond.methodLink "SealedFiles" 91 ⟨"SealedFiles", "appendPieces", "(I)V"⟩) ∈ zg := zg_in 410 rfl rfl
set_option maxRecDepth 20000 in
theorem zw_375 : (Cond.instanceMethod ⟨"SealedFiles", "appendPieces", "(I)V"⟩) ∈ zg := zg_in 412 rfl rfl
set_option maxRecDepth 20000 in
theorem zw_377 : (Cond.methodLink "SealedFiles" 158 ⟨"java/lang/Math", "max", "(II)I"⟩) ∈ zg := zg_in 414 rfl rfl
set_option maxRecDepth 20000 in
theorem zw_378 : (Cond.methodLink "SealedFiles" 163 ⟨"java/lang/Math", "min", "(II)I"⟩) ∈ zg := zg_in 415 rfl rfl
set_option maxRecDepth 20000 in
theorem zw_379 : (Cond.methodLink "SealedFiles" 166 ⟨"SealedFiles", "covered", "(IIII)I"⟩) ∈ zg := zg_in 416 rfl rfl
set_option maxRecDepth 20000 in
theorem zw_380 : (Cond.static ⟨"SealedFiles", "covered", "(IIII)I"⟩) ∈ zg := zg_in 417 rfl rfl
set_option maxRecDepth 20000 in
theorem zw_382 : (Cond.methodLink "SealedFiles" 170 ⟨"SealedFiles", "pieceSign", "(IIIIZ)I"⟩) ∈ zg := zg_in 419 rfl rfl
set_option maxRecDepth 20000 in
theorem zw_384 : (Cond.instanceMethod ⟨"SealedFiles", "pieceSign", "(IIIIZ)I"⟩) ∈ zg := zg_in 421 rfl rfl
set_option maxRecDepth 20000 in
theorem zw_386 : (Cond.methodLink "SealedFilesLaw" 67 ⟨"SealedFilesLaw", "open", "(LSealedFiles;I[J)I"⟩) ∈ zg := zg_in 423 rfl rfl
set_option maxRecDepth 20000 in
theorem zw_387 : (Cond.static ⟨"SealedFilesLaw", "open", "(LSealedFiles;I[J)I"⟩) ∈ zg := zg_in 424 rfl rfl
set_option maxRecDepth 20000 in
theorem zw_389 : (Cond.methodLink "SealedFilesLaw" 21 ⟨"SealedFiles", "open", "(I)I"⟩) ∈ zg := zg_in 426 rfl rfl
set_option maxRecDepth 20000 in
theorem zw_390 : (Cond.instanceMethod ⟨"SealedFiles", "open", "(I)I"⟩) ∈ zg := zg_in 427 rfl rfl
set_option maxRecDepth 20000 in
theorem zw_391 : (Cond.selects "SealedFiles" ⟨"SealedFiles", "open", "(I)I"⟩ ⟨"SealedFiles", "open", "(I)I"⟩) ∈ zg := zg_in 428 rfl rfl
set_option maxRecDepth 20000 in
theorem zw_394 : (Cond.methodLink "SealedFiles" 99 ⟨"SealedFiles", "hasShape", "()Z"⟩) ∈ zg := zg_in 431 rfl rfl
set_option maxRecDepth 20000 in
theorem zw_396 : (Cond.instanceMethod ⟨"SealedFiles", "hasShape", "()Z"⟩) ∈ zg := zg_in 433 rfl rfl
set_option maxRecDepth 20000 in
theorem zw_398 : (Cond.methodLink "SealedFiles" 109 ⟨"SealedFiles", "entriesEnd", "()I"⟩) ∈ zg := zg_in 435 rfl rfl
set_option maxRecDepth 20000 in
theorem zw_400 : (Cond.instanceMethod ⟨"SealedFiles", "entriesEnd", "()I"⟩) ∈ zg := zg_in 437 rfl rfl
set_option maxRecDepth 20000 in
theorem zw_402 : (Cond.methodLink "SealedFiles" 103 ⟨"SealedFiles", "entryFor", "(I)I"⟩) ∈ zg := zg_in 439 rfl rfl
set_option maxRecDepth 20000 in
theorem zw_404 : (Cond.instanceMethod ⟨"SealedFiles", "entryFor", "(I)I"⟩) ∈ zg := zg_in 441 rfl rfl
set_option maxRecDepth 20000 in
theorem zw_406 : (Cond.methodLink "SealedFiles" 174 ⟨"SealedFiles", "agreed", "(II)I"⟩) ∈ zg := zg_in 443 rfl rfl
set_option maxRecDepth 20000 in
theorem zw_408 : (Cond.instanceMethod ⟨"SealedFiles", "agreed", "(II)I"⟩) ∈ zg := zg_in 445 rfl rfl
set_option maxRecDepth 20000 in
theorem zw_412 : (Cond.instanceMethod ⟨"SealedFiles$Row", "pair", "(I)I"⟩) ∈ zg := zg_in 449 rfl rfl
set_option maxRecDepth 20000 in
theorem zw_414 : (Cond.methodLink "SealedFiles" 106 ⟨"SealedFiles", "unwrapped", "(II)I"⟩) ∈ zg := zg_in 451 rfl rfl
set_option maxRecDepth 20000 in
theorem zw_416 : (Cond.instanceMethod ⟨"SealedFiles", "unwrapped", "(II)I"⟩) ∈ zg := zg_in 453 rfl rfl
set_option maxRecDepth 20000 in
theorem zw_418 : (Cond.methodLink "SealedFiles" 115 ⟨"SealedFiles", "takePieces", "(II)I"⟩) ∈ zg := zg_in 455 rfl rfl
set_option maxRecDepth 20000 in
theorem zw_420 : (Cond.instanceMethod ⟨"SealedFiles", "takePieces", "(II)I"⟩) ∈ zg := zg_in 457 rfl rfl
set_option maxRecDepth 20000 in
theorem zw_422 : (Cond.methodLink "SealedFiles" 177 ⟨"SealedFiles", "uncover", "(IIII)V"⟩) ∈ zg := zg_in 459 rfl rfl
set_option maxRecDepth 20000 in
theorem zw_424 : (Cond.instanceMethod ⟨"SealedFiles", "uncover", "(IIII)V"⟩) ∈ zg := zg_in 461 rfl rfl
set_option maxRecDepth 20000 in
theorem zw_426 : (Cond.methodLink "SealedFilesLaw" 74 ⟨"SealedFilesLaw", "read", "(LSealedFiles;I[J)I"⟩) ∈ zg := zg_in 463 rfl rfl
set_option maxRecDepth 20000 in
theorem zw_427 : (Cond.static ⟨"SealedFilesLaw", "read", "(LSealedFiles;I[J)I"⟩) ∈ zg := zg_in 464 rfl rfl
set_option maxRecDepth 20000 in
theorem zw_429 : (Cond.classLink "SealedFilesLaw" 27 "java/util/NoSuchElementException") ∈ zg := zg_in 466 rfl rfl
set_option maxRecDepth 20000 in
theorem zw_430 : (Cond.methodLink "SealedFilesLaw" 24 ⟨"SealedFiles", "read", "(I)I"⟩) ∈ zg := zg_in 467 rfl rfl
set_option maxRecDepth 20000 in
theorem zw_431 : (Cond.instanceMethod ⟨"SealedFiles", "read", "(I)I"⟩) ∈ zg := zg_in 468 rfl rfl
set_option maxRecDepth 20000 in
theorem zw_432 : (Cond.selects "SealedFiles" ⟨"SealedFiles", "read", "(I)I"⟩ ⟨"SealedFiles", "read", "(I)I"⟩) ∈ zg := zg_in 469 rfl rfl
set_option maxRecDepth 20000 in
theorem zw_434 : (Cond.classLink "SealedFiles" 118 "java/util/NoSuchElementException") ∈ zg := zg_in 471 rfl rfl
set_option maxRecDepth 20000 in
theorem zw_435 : (Cond.instantiable "java/util/NoSuchElementException" 6) ∈ zg := zg_in 472 rfl rfl
set_option maxRecDepth 20000 in
theorem zw_437 : (Cond.selects "java/util/NoSuchElementException" ⟨"java/lang/Throwable", "fillInStackTrace", "(I)Ljava/lang/Throwable;"⟩ ⟨"java/lang/Throwable", "fillInStackTrace", "(I)Ljava/lang/Throwable;"⟩) ∈ zg := zg_in 474 rfl rfl
set_option maxRecDepth 20000 in
theorem zw_444 : (Cond.methodLink "SealedFiles" 122 ⟨"java/util/NoSuchElementException", "<init>", "(Ljava/lang/String;)V"⟩) ∈ zg := zg_in 481 rfl rfl
set_option maxRecDepth 20000 in
theorem zw_445 : (Cond.instanceMethod ⟨"java/util/NoSuchElementException", "<init>", "(Ljava/lang/String;)V"⟩) ∈ zg := zg_in 482 rfl rfl
set_option maxRecDepth 20000 in
theorem zw_447 : (Cond.methodLink "java/util/NoSuchElementException" 13 ⟨"java/lang/RuntimeException", "<init>", "(Ljava/lang/String;)V"⟩) ∈ zg := zg_in 484 rfl rfl
set_option maxRecDepth 20000 in
theorem zw_449 : (Cond.superclass "java/util/NoSuchElementException" "java/lang/RuntimeException") ∈ zg := zg_in 486 rfl rfl
set_option maxRecDepth 20000 in
theorem zw_450 : (Cond.methodLink "SealedFilesLaw" 85 ⟨"SealedFilesLaw", "alter", "(LSealedFiles;II[J)I"⟩) ∈ zg := zg_in 487 rfl rfl
set_option maxRecDepth 20000 in
theorem zw_451 : (Cond.static ⟨"SealedFilesLaw", "alter", "(LSealedFiles;II[J)I"⟩) ∈ zg := zg_in 488 rfl rfl
set_option maxRecDepth 20000 in
theorem zw_453 : (Cond.methodLink "SealedFilesLaw" 29 ⟨"SealedFiles", "alter", "(II)I"⟩) ∈ zg := zg_in 490 rfl rfl
set_option maxRecDepth 20000 in
theorem zw_454 : (Cond.instanceMethod ⟨"SealedFiles", "alter", "(II)I"⟩) ∈ zg := zg_in 491 rfl rfl
set_option maxRecDepth 20000 in
theorem zw_455 : (Cond.selects "SealedFiles" ⟨"SealedFiles", "alter", "(II)I"⟩ ⟨"SealedFiles", "alter", "(II)I"⟩) ∈ zg := zg_in 492 rfl rfl
set_option maxRecDepth 20000 in
theorem zw_460 : (Cond.instanceMethod ⟨"SealedFiles$Row", "replace", "(II)V"⟩) ∈ zg := zg_in 497 rfl rfl
set_option maxRecDepth 20000 in
theorem zw_462 : (Cond.methodLink "SealedFilesLaw" 102 ⟨"SealedFilesLaw", "load", "(LSealedFiles;[J)I"⟩) ∈ zg := zg_in 499 rfl rfl
set_option maxRecDepth 20000 in
theorem zw_463 : (Cond.static ⟨"SealedFilesLaw", "load", "(LSealedFiles;[J)I"⟩) ∈ zg := zg_in 500 rfl rfl
set_option maxRecDepth 20000 in
theorem zw_465 : (Cond.methodLink "SealedFilesLaw" 33 ⟨"SealedFiles", "load", "()I"⟩) ∈ zg := zg_in 502 rfl rfl
set_option maxRecDepth 20000 in
theorem zw_466 : (Cond.instanceMethod ⟨"SealedFiles", "load", "()I"⟩) ∈ zg := zg_in 503 rfl rfl
set_option maxRecDepth 20000 in
theorem zw_467 : (Cond.selects "SealedFiles" ⟨"SealedFiles", "load", "()I"⟩ ⟨"SealedFiles", "load", "()I"⟩) ∈ zg := zg_in 504 rfl rfl
set_option maxRecDepth 20000 in
theorem zw_469 : (Cond.methodLink "SealedFiles" 140 ⟨"SealedFiles", "draftIsPrintedForm", "()Z"⟩) ∈ zg := zg_in 506 rfl rfl
set_option maxRecDepth 20000 in
theorem zw_471 : (Cond.instanceMethod ⟨"SealedFiles", "draftIsPrintedForm", "()Z"⟩) ∈ zg := zg_in 508 rfl rfl
set_option maxRecDepth 20000 in
theorem zw_473 : (Cond.methodLink "SealedFiles" 181 ⟨"SealedFiles", "draftBytes", "()I"⟩) ∈ zg := zg_in 510 rfl rfl
set_option maxRecDepth 20000 in
theorem zw_475 : (Cond.instanceMethod ⟨"SealedFiles", "draftBytes", "()I"⟩) ∈ zg := zg_in 512 rfl rfl
set_option maxRecDepth 20000 in
theorem zw_477 : (Cond.methodLink "SealedFiles" 143 ⟨"SealedFiles", "takeDraft", "()V"⟩) ∈ zg := zg_in 514 rfl rfl
set_option maxRecDepth 20000 in
theorem zw_479 : (Cond.instanceMethod ⟨"SealedFiles", "takeDraft", "()V"⟩) ∈ zg := zg_in 516 rfl rfl
set_option maxRecDepth 20000 in
theorem zw_482 : (Cond.classLink "SealedFilesLaw" 38 "SealedFilesModel") ∈ zg := zg_in 519 rfl rfl
set_option maxRecDepth 20000 in
theorem zw_483 : (Cond.instantiable "SealedFilesModel" 12) ∈ zg := zg_in 520 rfl rfl
set_option maxRecDepth 20000 in
theorem zw_484 : (Cond.methodLink "SealedFilesLaw" 40 ⟨"SealedFilesModel", "<init>", "()V"⟩) ∈ zg := zg_in 521 rfl rfl
set_option maxRecDepth 20000 in
theorem zw_485 : (Cond.instanceMethod ⟨"SealedFilesModel", "<init>", "()V"⟩) ∈ zg := zg_in 522 rfl rfl
set_option maxRecDepth 20000 in
theorem zw_487 : (Cond.methodLink "SealedFilesModel" 1 ⟨"java/lang/Object", "<init>", "()V"⟩) ∈ zg := zg_in 524 rfl rfl
set_option maxRecDepth 20000 in
theorem zw_488 : (Cond.fieldLink "SealedFilesModel" 26 "SealedFilesModel" "fault" "I") ∈ zg := zg_in 525 rfl rfl
set_option maxRecDepth 20000 in
theorem zw_489 : (Cond.fieldLink "SealedFilesModel" 42 "SealedFilesModel" "keys" "I") ∈ zg := zg_in 526 rfl rfl
set_option maxRecDepth 20000 in
theorem zw_490 : (Cond.fieldLink "SealedFilesModel" 7 "SealedFilesModel" "secret" "[I") ∈ zg := zg_in 527 rfl rfl
set_option maxRecDepth 20000 in
theorem zw_491 : (Cond.fieldLink "SealedFilesModel" 53 "SealedFilesModel" "length" "I") ∈ zg := zg_in 528 rfl rfl
set_option maxRecDepth 20000 in
theorem zw_492 : (Cond.fieldLink "SealedFilesModel" 56 "SealedFilesModel" "size" "I") ∈ zg := zg_in 529 rfl rfl
set_option maxRecDepth 20000 in
theorem zw_493 : (Cond.fieldLink "SealedFilesModel" 83 "SealedFilesModel" "right" "I") ∈ zg := zg_in 530 rfl rfl
set_option maxRecDepth 20000 in
theorem zw_494 : (Cond.fieldLink "SealedFilesModel" 13 "SealedFilesModel" "message" "[I") ∈ zg := zg_in 531 rfl rfl
set_option maxRecDepth 20000 in
theorem zw_495 : (Cond.fieldLink "SealedFilesModel" 16 "SealedFilesModel" "file" "[I") ∈ zg := zg_in 532 rfl rfl
set_option maxRecDepth 20000 in
theorem zw_496 : (Cond.fieldLink "SealedFilesModel" 19 "SealedFilesModel" "plain" "[I") ∈ zg := zg_in 533 rfl rfl
set_option maxRecDepth 20000 in
theorem zw_497 : (Cond.fieldLink "SealedFilesModel" 80 "SealedFilesModel" "read" "I") ∈ zg := zg_in 534 rfl rfl
set_option maxRecDepth 20000 in
theorem zw_498 : (Cond.fieldLink "SealedFilesModel" 100 "SealedFilesModel" "drafted" "I") ∈ zg := zg_in 535 rfl rfl
set_option maxRecDepth 20000 in
theorem zw_499 : (Cond.fieldLink "SealedFilesModel" 22 "SealedFilesModel" "draft" "[C") ∈ zg := zg_in 536 rfl rfl
set_option maxRecDepth 20000 in
theorem zw_524 : (Cond.superclass "SealedFilesModel" "java/lang/Object") ∈ zg := zg_in 561 rfl rfl
set_option maxRecDepth 20000 in
theorem zw_525 : (Cond.arrayClass .char) ∈ zg := zg_in 562 rfl rfl
set_option maxRecDepth 20000 in
theorem zw_526 : (Cond.methodLink "SealedFilesLaw" 47 ⟨"SealedFilesModel", "thrown", "()I"⟩) ∈ zg := zg_in 563 rfl rfl
set_option maxRecDepth 20000 in
theorem zw_527 : (Cond.instanceMethod ⟨"SealedFilesModel", "thrown", "()I"⟩) ∈ zg := zg_in 564 rfl rfl
set_option maxRecDepth 20000 in
theorem zw_528 : (Cond.selects "SealedFilesModel" ⟨"SealedFilesModel", "thrown", "()I"⟩ ⟨"SealedFilesModel", "thrown", "()I"⟩) ∈ zg := zg_in 565 rfl rfl
set_option maxRecDepth 20000 in
theorem zw_530 : (Cond.methodLink "SealedFilesLaw" 46 ⟨"SealedFilesModel", "key", "(I)I"⟩) ∈ zg := zg_in 567 rfl rfl
set_option maxRecDepth 20000 in
theorem zw_531 : (Cond.instanceMethod ⟨"SealedFilesModel", "key", "(I)I"⟩) ∈ zg := zg_in 568 rfl rfl
set_option maxRecDepth 20000 in
theorem zw_532 : (Cond.selects "SealedFilesModel" ⟨"SealedFilesModel", "key", "(I)I"⟩ ⟨"SealedFilesModel", "key", "(I)I"⟩) ∈ zg := zg_in 569 rfl rfl
set_option maxRecDepth 20000 in
theorem zw_534 : (Cond.methodLink "SealedFilesModel" 39 ⟨"SealedFilesModel", "fails", "(I)I"⟩) ∈ zg := zg_in 571 rfl rfl
set_option maxRecDepth 20000 in
theorem zw_536 : (Cond.instanceMethod ⟨"SealedFilesModel", "fails", "(I)I"⟩) ∈ zg := zg_in 573 rfl rfl
set_option maxRecDepth 20000 in
theorem zw_538 : (Cond.methodLink "SealedFilesLaw" 53 ⟨"SealedFilesModel", "address", "(I)I"⟩) ∈ zg := zg_in 575 rfl rfl
set_option maxRecDepth 20000 in
theorem zw_539 : (Cond.instanceMethod ⟨"SealedFilesModel", "address", "(I)I"⟩) ∈ zg := zg_in 576 rfl rfl
set_option maxRecDepth 20000 in
theorem zw_540 : (Cond.selects "SealedFilesModel" ⟨"SealedFilesModel", "address", "(I)I"⟩ ⟨"SealedFilesModel", "address", "(I)I"⟩) ∈ zg := zg_in 577 rfl rfl
set_option maxRecDepth 20000 in
theorem zw_542 : (Cond.methodLink "SealedFilesModel" 45 ⟨"SealedFilesModel", "isKey", "(I)Z"⟩) ∈ zg := zg_in 579 rfl rfl
set_option maxRecDepth 20000 in
theorem zw_544 : (Cond.instanceMethod ⟨"SealedFilesModel", "isKey", "(I)Z"⟩) ∈ zg := zg_in 581 rfl rfl
set_option maxRecDepth 20000 in
theorem zw_546 : (Cond.methodLink "SealedFilesModel" 49 ⟨"SealedFilesModel", "power", "(II)I"⟩) ∈ zg := zg_in 583 rfl rfl
set_option maxRecDepth 20000 in
theorem zw_547 : (Cond.static ⟨"SealedFilesModel", "power", "(II)I"⟩) ∈ zg := zg_in 584 rfl rfl
set_option maxRecDepth 20000 in
theorem zw_549 : (Cond.methodLink "SealedFilesLaw" 58 ⟨"SealedFilesModel", "put", "(I)Z"⟩) ∈ zg := zg_in 586 rfl rfl
set_option maxRecDepth 20000 in
theorem zw_550 : (Cond.instanceMethod ⟨"SealedFilesModel", "put", "(I)Z"⟩) ∈ zg := zg_in 587 rfl rfl
set_option maxRecDepth 20000 in
theorem zw_551 : (Cond.selects "SealedFilesModel" ⟨"SealedFilesModel", "put", "(I)Z"⟩ ⟨"SealedFilesModel", "put", "(I)Z"⟩) ∈ zg := zg_in 588 rfl rfl
set_option maxRecDepth 20000 in
theorem zw_553 : (Cond.methodLink "SealedFilesLaw" 62 ⟨"SealedFilesModel", "clear", "()I"⟩) ∈ zg := zg_in 590 rfl rfl
set_option maxRecDepth 20000 in
theorem zw_554 : (Cond.instanceMethod ⟨"SealedFilesModel", "clear", "()I"⟩) ∈ zg := zg_in 591 rfl rfl
set_option maxRecDepth 20000 in
theorem zw_555 : (Cond.selects "SealedFilesModel" ⟨"SealedFilesModel", "clear", "()I"⟩ ⟨"SealedFilesModel", "clear", "()I"⟩) ∈ zg := zg_in 592 rfl rfl
set_option maxRecDepth 20000 in
theorem zw_557 : (Cond.methodLink "SealedFilesLaw" 76 ⟨"SealedFilesModel", "read", "(I)I"⟩) ∈ zg := zg_in 594 rfl rfl
set_option maxRecDepth 20000 in
theorem zw_558 : (Cond.instanceMethod ⟨"SealedFilesModel", "read", "(I)I"⟩) ∈ zg := zg_in 595 rfl rfl
set_option maxRecDepth 20000 in
theorem zw_559 : (Cond.selects "SealedFilesModel" ⟨"SealedFilesModel", "read", "(I)I"⟩ ⟨"SealedFilesModel", "read", "(I)I"⟩) ∈ zg := zg_in 596 rfl rfl
set_option maxRecDepth 20000 in
theorem zw_561 : (Cond.methodLink "SealedFilesLaw" 66 ⟨"SealedFilesModel", "seal", "(III)I"⟩) ∈ zg := zg_in 598 rfl rfl
set_option maxRecDepth 20000 in
theorem zw_562 : (Cond.instanceMethod ⟨"SealedFilesModel", "seal", "(III)I"⟩) ∈ zg := zg_in 599 rfl rfl
set_option maxRecDepth 20000 in
theorem zw_563 : (Cond.selects "SealedFilesModel" ⟨"SealedFilesModel", "seal", "(III)I"⟩ ⟨"SealedFilesModel", "seal", "(III)I"⟩) ∈ zg := zg_in 600 rfl rfl
set_option maxRecDepth 20000 in
theorem zw_565 : (Cond.methodLink "SealedFilesModel" 59 ⟨"SealedFilesModel", "add", "(I)V"⟩) ∈ zg := zg_in 602 rfl rfl
set_option maxRecDepth 20000 in
theorem zw_567 : (Cond.instanceMethod ⟨"SealedFilesModel", "add", "(I)V"⟩) ∈ zg := zg_in 604 rfl rfl
set_option maxRecDepth 20000 in
theorem zw_569 : (Cond.methodLink "SealedFilesModel" 73 ⟨"SealedFilesModel", "entry", "(III)V"⟩) ∈ zg := zg_in 606 rfl rfl
set_option maxRecDepth 20000 in
theorem zw_571 : (Cond.instanceMethod ⟨"SealedFilesModel", "entry", "(III)V"⟩) ∈ zg := zg_in 608 rfl rfl
set_option maxRecDepth 20000 in
theorem zw_573 : (Cond.methodLink "SealedFilesModel" 63 ⟨"SealedFilesModel", "word", "(III)I"⟩) ∈ zg := zg_in 610 rfl rfl
set_option maxRecDepth 20000 in
theorem zw_574 : (Cond.static ⟨"SealedFilesModel", "word", "(III)I"⟩) ∈ zg := zg_in 611 rfl rfl
set_option maxRecDepth 20000 in
theorem zw_576 : (Cond.methodLink "SealedFilesModel" 32 ⟨"SealedFilesModel", "mix", "(I)I"⟩) ∈ zg := zg_in 613 rfl rfl
set_option maxRecDepth 20000 in
theorem zw_577 : (Cond.static ⟨"SealedFilesModel", "mix", "(I)I"⟩) ∈ zg := zg_in 614 rfl rfl
set_option maxRecDepth 20000 in
theorem zw_579 : (Cond.constant "SealedFilesModel" 30 2146121005) ∈ zg := zg_in 616 rfl rfl
set_option maxRecDepth 20000 in
theorem zw_580 : (Cond.constant "SealedFilesModel" 31 2073254073) ∈ zg := zg_in 617 rfl rfl
set_option maxRecDepth 20000 in
theorem zw_581 : (Cond.methodLink "SealedFilesModel" 67 ⟨"SealedFilesModel", "addTwo", "(I)V"⟩) ∈ zg := zg_in 618 rfl rfl
set_option maxRecDepth 20000 in
theorem zw_583 : (Cond.instanceMethod ⟨"SealedFilesModel", "addTwo", "(I)V"⟩) ∈ zg := zg_in 620 rfl rfl
set_option maxRecDepth 20000 in
theorem zw_585 : (Cond.methodLink "SealedFilesModel" 70 ⟨"SealedFilesModel", "sign", "(III)I"⟩) ∈ zg := zg_in 622 rfl rfl
set_option maxRecDepth 20000 in
theorem zw_587 : (Cond.instanceMethod ⟨"SealedFilesModel", "sign", "(III)I"⟩) ∈ zg := zg_in 624 rfl rfl
set_option maxRecDepth 20000 in
theorem zw_589 : (Cond.constant "SealedFilesModel" 36 65520) ∈ zg := zg_in 626 rfl rfl
set_option maxRecDepth 20000 in
theorem zw_590 : (Cond.constantLong "SealedFilesModel" 37 65521) ∈ zg := zg_in 627 rfl rfl
set_option maxRecDepth 20000 in
theorem zw_591 : (Cond.methodLink "SealedFilesLaw" 69 ⟨"SealedFilesModel", "open", "(I)I"⟩) ∈ zg := zg_in 628 rfl rfl
set_option maxRecDepth 20000 in
theorem zw_592 : (Cond.instanceMethod ⟨"SealedFilesModel", "open", "(I)I"⟩) ∈ zg := zg_in 629 rfl rfl
set_option maxRecDepth 20000 in
theorem zw_593 : (Cond.selects "SealedFilesModel" ⟨"SealedFilesModel", "open", "(I)I"⟩ ⟨"SealedFilesModel", "open", "(I)I"⟩) ∈ zg := zg_in 630 rfl rfl
set_option maxRecDepth 20000 in
theorem zw_595 : (Cond.methodLink "SealedFilesModel" 86 ⟨"SealedFilesModel", "entryOf", "(I)I"⟩) ∈ zg := zg_in 632 rfl rfl
set_option maxRecDepth 20000 in
theorem zw_597 : (Cond.instanceMethod ⟨"SealedFilesModel", "entryOf", "(I)I"⟩) ∈ zg := zg_in 634 rfl rfl
set_option maxRecDepth 20000 in
theorem zw_599 : (Cond.methodLink "SealedFilesModel" 77 ⟨"SealedFilesModel", "two", "(I)I"⟩) ∈ zg := zg_in 636 rfl rfl
set_option maxRecDepth 20000 in
theorem zw_601 : (Cond.instanceMethod ⟨"SealedFilesModel", "two", "(I)I"⟩) ∈ zg := zg_in 638 rfl rfl
set_option maxRecDepth 20000 in
theorem zw_603 : (Cond.methodLink "SealedFilesModel" 89 ⟨"SealedFilesModel", "piece", "(IIIIZ)I"⟩) ∈ zg := zg_in 640 rfl rfl
set_option maxRecDepth 20000 in
theorem zw_605 : (Cond.instanceMethod ⟨"SealedFilesModel", "piece", "(IIIIZ)I"⟩) ∈ zg := zg_in 642 rfl rfl
set_option maxRecDepth 20000 in
theorem zw_607 : (Cond.methodLink "SealedFilesModel" 93 ⟨"SealedFilesModel", "uncover", "(IIII)V"⟩) ∈ zg := zg_in 644 rfl rfl
set_option maxRecDepth 20000 in
theorem zw_609 : (Cond.instanceMethod ⟨"SealedFilesModel", "uncover", "(IIII)V"⟩) ∈ zg := zg_in 646 rfl rfl
set_option maxRecDepth 20000 in
theorem zw_611 : (Cond.methodLink "SealedFilesLaw" 73 ⟨"SealedFilesModel", "pieces", "()I"⟩) ∈ zg := zg_in 648 rfl rfl
set_option maxRecDepth 20000 in
theorem zw_612 : (Cond.instanceMethod ⟨"SealedFilesModel", "pieces", "()I"⟩) ∈ zg := zg_in 649 rfl rfl
set_option maxRecDepth 20000 in
theorem zw_613 : (Cond.selects "SealedFilesModel" ⟨"SealedFilesModel", "pieces", "()I"⟩ ⟨"SealedFilesModel", "pieces", "()I"⟩) ∈ zg := zg_in 650 rfl rfl
set_option maxRecDepth 20000 in
theorem zw_615 : (Cond.methodLink "SealedFilesLaw" 80 ⟨"SealedFilesModel", "count", "(I)I"⟩) ∈ zg := zg_in 652 rfl rfl
set_option maxRecDepth 20000 in
theorem zw_616 : (Cond.instanceMethod ⟨"SealedFilesModel", "count", "(I)I"⟩) ∈ zg := zg_in 653 rfl rfl
set_option maxRecDepth 20000 in
theorem zw_617 : (Cond.selects "SealedFilesModel" ⟨"SealedFilesModel", "count", "(I)I"⟩ ⟨"SealedFilesModel", "count", "(I)I"⟩) ∈ zg := zg_in 654 rfl rfl
set_option maxRecDepth 20000 in
theorem zw_619 : (Cond.methodLink "SealedFilesLaw" 84 ⟨"SealedFilesModel", "at", "(I)I"⟩) ∈ zg := zg_in 656 rfl rfl
set_option maxRecDepth 20000 in
theorem zw_620 : (Cond.instanceMethod ⟨"SealedFilesModel", "at", "(I)I"⟩) ∈ zg := zg_in 657 rfl rfl
set_option maxRecDepth 20000 in
theorem zw_621 : (Cond.selects "SealedFilesModel" ⟨"SealedFilesModel", "at", "(I)I"⟩ ⟨"SealedFilesModel", "at", "(I)I"⟩) ∈ zg := zg_in 658 rfl rfl
set_option maxRecDepth 20000 in
theorem zw_623 : (Cond.methodLink "SealedFilesLaw" 88 ⟨"SealedFilesModel", "alter", "(II)I"⟩) ∈ zg := zg_in 660 rfl rfl
set_option maxRecDepth 20000 in
theorem zw_624 : (Cond.instanceMethod ⟨"SealedFilesModel", "alter", "(II)I"⟩) ∈ zg := zg_in 661 rfl rfl
set_option maxRecDepth 20000 in
theorem zw_625 : (Cond.selects "SealedFilesModel" ⟨"SealedFilesModel", "alter", "(II)I"⟩ ⟨"SealedFilesModel", "alter", "(II)I"⟩) ∈ zg := zg_in 662 rfl rfl
set_option maxRecDepth 20000 in
theorem zw_627 : (Cond.methodLink "SealedFilesLaw" 92 ⟨"SealedFilesModel", "cut", "(I)Z"⟩) ∈ zg := zg_in 664 rfl rfl
set_option maxRecDepth 20000 in
theorem zw_628 : (Cond.instanceMethod ⟨"SealedFilesModel", "cut", "(I)Z"⟩) ∈ zg := zg_in 665 rfl rfl
set_option maxRecDepth 20000 in
theorem zw_629 : (Cond.selects "SealedFilesModel" ⟨"SealedFilesModel", "cut", "(I)Z"⟩ ⟨"SealedFilesModel", "cut", "(I)Z"⟩) ∈ zg := zg_in 666 rfl rfl
set_option maxRecDepth 20000 in
theorem zw_631 : (Cond.methodLink "SealedFilesLaw" 96 ⟨"SealedFilesModel", "print", "(I)I"⟩) ∈ zg := zg_in 668 rfl rfl
set_option maxRecDepth 20000 in
theorem zw_632 : (Cond.instanceMethod ⟨"SealedFilesModel", "print", "(I)I"⟩) ∈ zg := zg_in 669 rfl rfl
set_option maxRecDepth 20000 in
theorem zw_633 : (Cond.selects "SealedFilesModel" ⟨"SealedFilesModel", "print", "(I)I"⟩ ⟨"SealedFilesModel", "print", "(I)I"⟩) ∈ zg := zg_in 670 rfl rfl
set_option maxRecDepth 20000 in
theorem zw_635 : (Cond.methodLink "SealedFilesModel" 97 ⟨"SealedFilesModel", "bit", "(I)I"⟩) ∈ zg := zg_in 672 rfl rfl
set_option maxRecDepth 20000 in
theorem zw_637 : (Cond.instanceMethod ⟨"SealedFilesModel", "bit", "(I)I"⟩) ∈ zg := zg_in 674 rfl rfl
set_option maxRecDepth 20000 in
theorem zw_639 : (Cond.methodLink "SealedFilesLaw" 101 ⟨"SealedFilesModel", "write", "(C)Z"⟩) ∈ zg := zg_in 676 rfl rfl
set_option maxRecDepth 20000 in
theorem zw_640 : (Cond.instanceMethod ⟨"SealedFilesModel", "write", "(C)Z"⟩) ∈ zg := zg_in 677 rfl rfl
set_option maxRecDepth 20000 in
theorem zw_641 : (Cond.selects "SealedFilesModel" ⟨"SealedFilesModel", "write", "(C)Z"⟩ ⟨"SealedFilesModel", "write", "(C)Z"⟩) ∈ zg := zg_in 678 rfl rfl
set_option maxRecDepth 20000 in
theorem zw_643 : (Cond.methodLink "SealedFilesModel" 103 ⟨"SealedFilesModel", "sixOf", "(C)I"⟩) ∈ zg := zg_in 680 rfl rfl
set_option maxRecDepth 20000 in
theorem zw_644 : (Cond.static ⟨"SealedFilesModel", "sixOf", "(C)I"⟩) ∈ zg := zg_in 681 rfl rfl
set_option maxRecDepth 20000 in
theorem zw_646 : (Cond.methodLink "SealedFilesLaw" 105 ⟨"SealedFilesModel", "load", "()I"⟩) ∈ zg := zg_in 683 rfl rfl
set_option maxRecDepth 20000 in
theorem zw_647 : (Cond.instanceMethod ⟨"SealedFilesModel", "load", "()I"⟩) ∈ zg := zg_in 684 rfl rfl
set_option maxRecDepth 20000 in
theorem zw_648 : (Cond.selects "SealedFilesModel" ⟨"SealedFilesModel", "load", "()I"⟩ ⟨"SealedFilesModel", "load", "()I"⟩) ∈ zg := zg_in 685 rfl rfl
set_option maxRecDepth 20000 in
theorem zw_650 : (Cond.arrayClass .long) ∈ zg := zg_in 687 rfl rfl
set_option maxRecDepth 20000 in
theorem zw_652 : (Cond.fieldLink "java/lang/String" 15 "java/lang/String" "coder" "B") ∈ zg := zg_in 689 rfl rfl
set_option maxRecDepth 20000 in
theorem zw_653 : (Cond.fieldLink "java/lang/String" 9 "java/lang/String" "value" "[B") ∈ zg := zg_in 690 rfl rfl
theorem zp_0 : (Cond.selects "SealedFiles$Row" ⟨"SealedFiles$Row", "item", "(I)I"⟩ ⟨"SealedFiles$Row", "item", "(I)I"⟩) ∈ zg := zg_in 0 rfl rfl
theorem zp_1 : (Cond.selects "SealedFiles$Row" ⟨"SealedFiles$Row", "has", "(I)Z"⟩ ⟨"SealedFiles$Row", "has", "(I)Z"⟩) ∈ zg := zg_in 1 rfl rfl
theorem zp_2 : (Cond.selects "SealedFiles$Row" ⟨"SealedFiles$Row", "append", "(I)Z"⟩ ⟨"SealedFiles$Row", "append", "(I)Z"⟩) ∈ zg := zg_in 2 rfl rfl
theorem zp_3 : (Cond.selects "SealedFiles$Row" ⟨"SealedFiles$Row", "size", "()I"⟩ ⟨"SealedFiles$Row", "size", "()I"⟩) ∈ zg := zg_in 3 rfl rfl
theorem zp_4 : (Cond.selects "SealedFiles$Row" ⟨"SealedFiles$Row", "shorten", "(I)Z"⟩ ⟨"SealedFiles$Row", "shorten", "(I)Z"⟩) ∈ zg := zg_in 4 rfl rfl
theorem zp_5 : (Cond.selects "java/lang/Throwable" ⟨"java/lang/Throwable", "fillInStackTrace", "(I)Ljava/lang/Throwable;"⟩ ⟨"java/lang/Throwable", "fillInStackTrace", "(I)Ljava/lang/Throwable;"⟩) ∈ zg := zg_in 5 rfl rfl
theorem zp_6 : (Cond.selects "SealedFiles" ⟨"SealedFiles", "areReceivers", "(I)Z"⟩ ⟨"SealedFiles", "areReceivers", "(I)Z"⟩) ∈ zg := zg_in 6 rfl rfl
theorem zp_7 : (Cond.selects "SealedFiles" ⟨"SealedFiles", "appendEntry", "(III)V"⟩ ⟨"SealedFiles", "appendEntry", "(III)V"⟩) ∈ zg := zg_in 7 rfl rfl
theorem zp_8 : (Cond.selects "SealedFiles$Row" ⟨"SealedFiles$Row", "appendPair", "(I)V"⟩ ⟨"SealedFiles$Row", "appendPair", "(I)V"⟩) ∈ zg := zg_in 8 rfl rfl
theorem zp_9 : (Cond.selects "SealedFiles" ⟨"SealedFiles", "entrySign", "(III)I"⟩ ⟨"SealedFiles", "entrySign", "(III)I"⟩) ∈ zg := zg_in 9 rfl rfl
theorem zp_10 : (Cond.selects "SealedFiles$Row" ⟨"SealedFiles$Row", "sign", "(III)I"⟩ ⟨"SealedFiles$Row", "sign", "(III)I"⟩) ∈ zg := zg_in 10 rfl rfl
theorem zp_11 : (Cond.selects "SealedFiles" ⟨"SealedFiles", "headSign", "(II)I"⟩ ⟨"SealedFiles", "headSign", "(II)I"⟩) ∈ zg := zg_in 11 rfl rfl
theorem zp_12 : (Cond.selects "SealedFiles" ⟨"SealedFiles", "appendPieces", "(I)V"⟩ ⟨"SealedFiles", "appendPieces", "(I)V"⟩) ∈ zg := zg_in 12 rfl rfl
theorem zp_13 : (Cond.selects "SealedFiles" ⟨"SealedFiles", "pieceSign", "(IIIIZ)I"⟩ ⟨"SealedFiles", "pieceSign", "(IIIIZ)I"⟩) ∈ zg := zg_in 13 rfl rfl
theorem zp_14 : (Cond.selects "SealedFiles" ⟨"SealedFiles", "hasShape", "()Z"⟩ ⟨"SealedFiles", "hasShape", "()Z"⟩) ∈ zg := zg_in 14 rfl rfl
theorem zp_15 : (Cond.selects "SealedFiles" ⟨"SealedFiles", "entriesEnd", "()I"⟩ ⟨"SealedFiles", "entriesEnd", "()I"⟩) ∈ zg := zg_in 15 rfl rfl
theorem zp_16 : (Cond.selects "SealedFiles" ⟨"SealedFiles", "entryFor", "(I)I"⟩ ⟨"SealedFiles", "entryFor", "(I)I"⟩) ∈ zg := zg_in 16 rfl rfl
theorem zp_17 : (Cond.selects "SealedFiles" ⟨"SealedFiles", "agreed", "(II)I"⟩ ⟨"SealedFiles", "agreed", "(II)I"⟩) ∈ zg := zg_in 17 rfl rfl
theorem zp_18 : (Cond.selects "SealedFiles$Row" ⟨"SealedFiles$Row", "pair", "(I)I"⟩ ⟨"SealedFiles$Row", "pair", "(I)I"⟩) ∈ zg := zg_in 18 rfl rfl
theorem zp_19 : (Cond.selects "SealedFiles" ⟨"SealedFiles", "unwrapped", "(II)I"⟩ ⟨"SealedFiles", "unwrapped", "(II)I"⟩) ∈ zg := zg_in 19 rfl rfl
theorem zp_20 : (Cond.selects "SealedFiles" ⟨"SealedFiles", "takePieces", "(II)I"⟩ ⟨"SealedFiles", "takePieces", "(II)I"⟩) ∈ zg := zg_in 20 rfl rfl
theorem zp_21 : (Cond.selects "SealedFiles" ⟨"SealedFiles", "uncover", "(IIII)V"⟩ ⟨"SealedFiles", "uncover", "(IIII)V"⟩) ∈ zg := zg_in 21 rfl rfl
theorem zp_22 : (Cond.selects "SealedFiles$Row" ⟨"SealedFiles$Row", "replace", "(II)V"⟩ ⟨"SealedFiles$Row", "replace", "(II)V"⟩) ∈ zg := zg_in 22 rfl rfl
theorem zp_23 : (Cond.selects "SealedFiles" ⟨"SealedFiles", "draftIsPrintedForm", "()Z"⟩ ⟨"SealedFiles", "draftIsPrintedForm", "()Z"⟩) ∈ zg := zg_in 23 rfl rfl
theorem zp_24 : (Cond.selects "SealedFiles" ⟨"SealedFiles", "draftBytes", "()I"⟩ ⟨"SealedFiles", "draftBytes", "()I"⟩) ∈ zg := zg_in 24 rfl rfl
theorem zp_25 : (Cond.selects "SealedFiles" ⟨"SealedFiles", "takeDraft", "()V"⟩ ⟨"SealedFiles", "takeDraft", "()V"⟩) ∈ zg := zg_in 25 rfl rfl
theorem zp_26 : (Cond.selects "SealedFilesModel" ⟨"SealedFilesModel", "fails", "(I)I"⟩ ⟨"SealedFilesModel", "fails", "(I)I"⟩) ∈ zg := zg_in 26 rfl rfl
theorem zp_27 : (Cond.selects "SealedFilesModel" ⟨"SealedFilesModel", "isKey", "(I)Z"⟩ ⟨"SealedFilesModel", "isKey", "(I)Z"⟩) ∈ zg := zg_in 27 rfl rfl
theorem zp_28 : (Cond.selects "SealedFilesModel" ⟨"SealedFilesModel", "add", "(I)V"⟩ ⟨"SealedFilesModel", "add", "(I)V"⟩) ∈ zg := zg_in 28 rfl rfl
theorem zp_29 : (Cond.selects "SealedFilesModel" ⟨"SealedFilesModel", "entry", "(III)V"⟩ ⟨"SealedFilesModel", "entry", "(III)V"⟩) ∈ zg := zg_in 29 rfl rfl
theorem zp_30 : (Cond.selects "SealedFilesModel" ⟨"SealedFilesModel", "addTwo", "(I)V"⟩ ⟨"SealedFilesModel", "addTwo", "(I)V"⟩) ∈ zg := zg_in 30 rfl rfl
theorem zp_31 : (Cond.selects "SealedFilesModel" ⟨"SealedFilesModel", "sign", "(III)I"⟩ ⟨"SealedFilesModel", "sign", "(III)I"⟩) ∈ zg := zg_in 31 rfl rfl
theorem zp_32 : (Cond.selects "SealedFilesModel" ⟨"SealedFilesModel", "entryOf", "(I)I"⟩ ⟨"SealedFilesModel", "entryOf", "(I)I"⟩) ∈ zg := zg_in 32 rfl rfl
theorem zp_33 : (Cond.selects "SealedFilesModel" ⟨"SealedFilesModel", "two", "(I)I"⟩ ⟨"SealedFilesModel", "two", "(I)I"⟩) ∈ zg := zg_in 33 rfl rfl
theorem zp_34 : (Cond.selects "SealedFilesModel" ⟨"SealedFilesModel", "piece", "(IIIIZ)I"⟩ ⟨"SealedFilesModel", "piece", "(IIIIZ)I"⟩) ∈ zg := zg_in 34 rfl rfl
theorem zp_35 : (Cond.selects "SealedFilesModel" ⟨"SealedFilesModel", "uncover", "(IIII)V"⟩ ⟨"SealedFilesModel", "uncover", "(IIII)V"⟩) ∈ zg := zg_in 35 rfl rfl
theorem zp_36 : (Cond.selects "SealedFilesModel" ⟨"SealedFilesModel", "bit", "(I)I"⟩ ⟨"SealedFilesModel", "bit", "(I)I"⟩) ∈ zg := zg_in 36 rfl rfl
/-- the links inside the nest -/
def zNl : List (Nat × MethodName) := [(11, ⟨"SealedFiles$Row", "<init>", "(I)V"⟩), (60, ⟨"SealedFiles$Row", "item", "(I)I"⟩), (41, ⟨"SealedFiles$Row", "append", "(I)Z"⟩), (56, ⟨"SealedFiles$Row", "size", "()I"⟩), (64, ⟨"SealedFiles$Row", "shorten", "(I)Z"⟩), (94, ⟨"SealedFiles$Row", "has", "(I)Z"⟩), (50, ⟨"SealedFiles$Numbers", "power", "(II)I"⟩), (148, ⟨"SealedFiles$Numbers", "word", "(III)I"⟩), (88, ⟨"SealedFiles$Row", "appendPair", "(I)V"⟩), (155, ⟨"SealedFiles$Row", "sign", "(III)I"⟩), (112, ⟨"SealedFiles$Row", "pair", "(I)I"⟩), (125, ⟨"SealedFiles$Row", "replace", "(II)V"⟩)]
def zN : List Cond := zNl.map fun q => .methodLinkNest "SealedFiles" q.1 q.2 "SealedFiles"
