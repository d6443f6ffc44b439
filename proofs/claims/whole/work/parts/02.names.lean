def R_SF : String := "SealedFiles"
def R_RW : String := "SealedFiles$Row"
def R_NU : String := "SealedFiles$Numbers"
def R_MD : String := "SealedFilesModel"
def R_LW : String := "SealedFilesLaw"
def F_RW : u_T := fun k => match k with
  | 0 => ("SealedFiles$Row", "items", "[I", true)
  | _ => ("SealedFiles$Row", "size", "I", false)
def t_RW : Nat → FieldType := fun k => match k with
  | 0 => .array .int
  | _ => .int
theorem n_RW : ∀ a, a < 2 → ∀ b, b < 2 → a ≠ b → (F_RW a).2.1 ≠ (F_RW b).2.1 := by decide +kernel
theorem t_RW_ok : ∀ k, k < 2 → parseFieldDescriptor (F_RW k).2.2.1 = some (t_RW k) := by decide +kernel
theorem i_RW {c : Cond} : ∀ w ∈ u_ws R_RW F_RW 2, w ∈ zw c := fun w hw => List.mem_cons_of_mem _ ((show ∀ w ∈ u_ws R_RW F_RW 2, w ∈ zg by decide +kernel) w hw)
def F_SF : u_T := fun k => match k with
  | 0 => ("SealedFiles", "secrets", "LSealedFiles$Row;", true)
  | 1 => ("SealedFiles", "addresses", "LSealedFiles$Row;", true)
  | 2 => ("SealedFiles", "message", "LSealedFiles$Row;", true)
  | 3 => ("SealedFiles", "file", "LSealedFiles$Row;", true)
  | 4 => ("SealedFiles", "draft", "LSealedFiles$Row;", true)
  | _ => ("SealedFiles", "rightPieces", "I", false)
def t_SF : Nat → FieldType := fun k => match k with
  | 0 => .object "SealedFiles$Row"
  | 1 => .object "SealedFiles$Row"
  | 2 => .object "SealedFiles$Row"
  | 3 => .object "SealedFiles$Row"
  | 4 => .object "SealedFiles$Row"
  | _ => .int
theorem n_SF : ∀ a, a < 6 → ∀ b, b < 6 → a ≠ b → (F_SF a).2.1 ≠ (F_SF b).2.1 := by decide +kernel
theorem t_SF_ok : ∀ k, k < 6 → parseFieldDescriptor (F_SF k).2.2.1 = some (t_SF k) := by decide +kernel
theorem i_SF {c : Cond} : ∀ w ∈ u_ws R_SF F_SF 6, w ∈ zw c := fun w hw => List.mem_cons_of_mem _ ((show ∀ w ∈ u_ws R_SF F_SF 6, w ∈ zg by decide +kernel) w hw)
def F_MD : u_T := fun k => match k with
  | 0 => ("SealedFilesModel", "fault", "I", false)
  | 1 => ("SealedFilesModel", "keys", "I", false)
  | 2 => ("SealedFilesModel", "secret", "[I", true)
  | 3 => ("SealedFilesModel", "length", "I", false)
  | 4 => ("SealedFilesModel", "size", "I", false)
  | 5 => ("SealedFilesModel", "right", "I", false)
  | 6 => ("SealedFilesModel", "message", "[I", true)
  | 7 => ("SealedFilesModel", "file", "[I", true)
  | 8 => ("SealedFilesModel", "plain", "[I", true)
  | 9 => ("SealedFilesModel", "read", "I", false)
  | 10 => ("SealedFilesModel", "drafted", "I", false)
  | _ => ("SealedFilesModel", "draft", "[C", true)
def t_MD : Nat → FieldType := fun k => match k with
  | 0 => .int
  | 1 => .int
  | 2 => .array .int
  | 3 => .int
  | 4 => .int
  | 5 => .int
  | 6 => .array .int
  | 7 => .array .int
  | 8 => .array .int
  | 9 => .int
  | 10 => .int
  | _ => .array .char
theorem n_MD : ∀ a, a < 12 → ∀ b, b < 12 → a ≠ b → (F_MD a).2.1 ≠ (F_MD b).2.1 := by decide +kernel
theorem t_MD_ok : ∀ k, k < 12 → parseFieldDescriptor (F_MD k).2.2.1 = some (t_MD k) := by decide +kernel
theorem i_MD {c : Cond} : ∀ w ∈ u_ws R_MD F_MD 12, w ∈ zw c := fun w hw => List.mem_cons_of_mem _ ((show ∀ w ∈ u_ws R_MD F_MD 12, w ∈ zg by decide +kernel) w hw)
/-- the classes whose objects the worlds hold -/
abbrev zcl : List vw_C := [(R_RW, F_RW, 2), (R_SF, F_SF, 6), (R_MD, F_MD, 12)]
abbrev b_MD_add : ByteArray := prog_5_method_15_code
def y_MD_add : MethodName := ⟨"SealedFilesModel", "add", "(I)V"⟩
abbrev k_MD_add : Cond := .code y_MD_add b_MD_add 2 none
set_option maxRecDepth 20000 in
theorem zk_MD_add : k_MD_add ∈ zg := zg_in 605 rfl rfl
abbrev b_MD_addTwo : ByteArray := prog_5_method_16_code
def y_MD_addTwo : MethodName := ⟨"SealedFilesModel", "addTwo", "(I)V"⟩
abbrev k_MD_addTwo : Cond := .code y_MD_addTwo b_MD_addTwo 2 none
set_option maxRecDepth 20000 in
theorem zk_MD_addTwo : k_MD_addTwo ∈ zg := zg_in 621 rfl rfl
abbrev b_MD_address : ByteArray := prog_5_method_11_code
def y_MD_address : MethodName := ⟨"SealedFilesModel", "address", "(I)I"⟩
abbrev k_MD_address : Cond := .code y_MD_address b_MD_address 2 (some .int)
set_option maxRecDepth 20000 in
theorem zk_MD_address : k_MD_address ∈ zg := zg_in 578 rfl rfl
abbrev b_MD_alter : ByteArray := prog_5_method_26_code
def y_MD_alter : MethodName := ⟨"SealedFilesModel", "alter", "(II)I"⟩
abbrev k_MD_alter : Cond := .code y_MD_alter b_MD_alter 3 (some .int)
set_option maxRecDepth 20000 in
theorem zk_MD_alter : k_MD_alter ∈ zg := zg_in 663 rfl rfl
abbrev b_MD_at : ByteArray := prog_5_method_25_code
def y_MD_at : MethodName := ⟨"SealedFilesModel", "at", "(I)I"⟩
abbrev k_MD_at : Cond := .code y_MD_at b_MD_at 2 (some .int)
set_option maxRecDepth 20000 in
theorem zk_MD_at : k_MD_at ∈ zg := zg_in 659 rfl rfl
abbrev b_MD_bit : ByteArray := prog_5_method_28_code
def y_MD_bit : MethodName := ⟨"SealedFilesModel", "bit", "(I)I"⟩
abbrev k_MD_bit : Cond := .code y_MD_bit b_MD_bit 2 (some .int)
set_option maxRecDepth 20000 in
theorem zk_MD_bit : k_MD_bit ∈ zg := zg_in 675 rfl rfl
abbrev b_MD_clear : ByteArray := prog_5_method_13_code
def y_MD_clear : MethodName := ⟨"SealedFilesModel", "clear", "()I"⟩
abbrev k_MD_clear : Cond := .code y_MD_clear b_MD_clear 2 (some .int)
set_option maxRecDepth 20000 in
theorem zk_MD_clear : k_MD_clear ∈ zg := zg_in 593 rfl rfl
abbrev b_MD_count : ByteArray := prog_5_method_24_code
def y_MD_count : MethodName := ⟨"SealedFilesModel", "count", "(I)I"⟩
abbrev k_MD_count : Cond := .code y_MD_count b_MD_count 2 (some .int)
set_option maxRecDepth 20000 in
theorem zk_MD_count : k_MD_count ∈ zg := zg_in 655 rfl rfl
abbrev b_MD_cut : ByteArray := prog_5_method_27_code
def y_MD_cut : MethodName := ⟨"SealedFilesModel", "cut", "(I)Z"⟩
abbrev k_MD_cut : Cond := .code y_MD_cut b_MD_cut 2 (some .boolean)
set_option maxRecDepth 20000 in
theorem zk_MD_cut : k_MD_cut ∈ zg := zg_in 667 rfl rfl
abbrev b_MD_entry : ByteArray := prog_5_method_17_code
def y_MD_entry : MethodName := ⟨"SealedFilesModel", "entry", "(III)V"⟩
abbrev k_MD_entry : Cond := .code y_MD_entry b_MD_entry 11 none
set_option maxRecDepth 20000 in
theorem zk_MD_entry : k_MD_entry ∈ zg := zg_in 609 rfl rfl
abbrev b_MD_entryOf : ByteArray := prog_5_method_19_code
def y_MD_entryOf : MethodName := ⟨"SealedFilesModel", "entryOf", "(I)I"⟩
abbrev k_MD_entryOf : Cond := .code y_MD_entryOf b_MD_entryOf 6 (some .int)
set_option maxRecDepth 20000 in
theorem zk_MD_entryOf : k_MD_entryOf ∈ zg := zg_in 635 rfl rfl
abbrev b_MD_fails : ByteArray := prog_5_method_3_code
def y_MD_fails : MethodName := ⟨"SealedFilesModel", "fails", "(I)I"⟩
abbrev k_MD_fails : Cond := .code y_MD_fails b_MD_fails 2 (some .int)
set_option maxRecDepth 20000 in
theorem zk_MD_fails : k_MD_fails ∈ zg := zg_in 574 rfl rfl
abbrev b_MD_init : ByteArray := prog_5_method_1_code
def y_MD_init : MethodName := ⟨"SealedFilesModel", "<init>", "()V"⟩
abbrev k_MD_init : Cond := .code y_MD_init b_MD_init 1 none
set_option maxRecDepth 20000 in
theorem zk_MD_init : k_MD_init ∈ zg := zg_in 523 rfl rfl
abbrev b_MD_isKey : ByteArray := prog_5_method_10_code
def y_MD_isKey : MethodName := ⟨"SealedFilesModel", "isKey", "(I)Z"⟩
abbrev k_MD_isKey : Cond := .code y_MD_isKey b_MD_isKey 2 (some .boolean)
set_option maxRecDepth 20000 in
theorem zk_MD_isKey : k_MD_isKey ∈ zg := zg_in 582 rfl rfl
abbrev b_MD_key : ByteArray := prog_5_method_9_code
def y_MD_key : MethodName := ⟨"SealedFilesModel", "key", "(I)I"⟩
abbrev k_MD_key : Cond := .code y_MD_key b_MD_key 2 (some .int)
set_option maxRecDepth 20000 in
theorem zk_MD_key : k_MD_key ∈ zg := zg_in 570 rfl rfl
abbrev b_MD_load : ByteArray := prog_5_method_32_code
def y_MD_load : MethodName := ⟨"SealedFilesModel", "load", "()I"⟩
abbrev k_MD_load : Cond := .code y_MD_load b_MD_load 8 (some .int)
set_option maxRecDepth 20000 in
theorem zk_MD_load : k_MD_load ∈ zg := zg_in 686 rfl rfl
abbrev b_MD_mix : ByteArray := prog_5_method_5_code
def y_MD_mix : MethodName := ⟨"SealedFilesModel", "mix", "(I)I"⟩
abbrev k_MD_mix : Cond := .code y_MD_mix b_MD_mix 2 (some .int)
set_option maxRecDepth 20000 in
theorem zk_MD_mix : k_MD_mix ∈ zg := zg_in 615 rfl rfl
abbrev b_MD_open : ByteArray := prog_5_method_22_code
def y_MD_open : MethodName := ⟨"SealedFilesModel", "open", "(I)I"⟩
abbrev k_MD_open : Cond := .code y_MD_open b_MD_open 10 (some .int)
set_option maxRecDepth 20000 in
theorem zk_MD_open : k_MD_open ∈ zg := zg_in 631 rfl rfl
abbrev b_MD_piece : ByteArray := prog_5_method_20_code
def y_MD_piece : MethodName := ⟨"SealedFilesModel", "piece", "(IIIIZ)I"⟩
abbrev k_MD_piece : Cond := .code y_MD_piece b_MD_piece 7 (some .int)
set_option maxRecDepth 20000 in
theorem zk_MD_piece : k_MD_piece ∈ zg := zg_in 643 rfl rfl
abbrev b_MD_pieces : ByteArray := prog_5_method_23_code
def y_MD_pieces : MethodName := ⟨"SealedFilesModel", "pieces", "()I"⟩
abbrev k_MD_pieces : Cond := .code y_MD_pieces b_MD_pieces 1 (some .int)
set_option maxRecDepth 20000 in
theorem zk_MD_pieces : k_MD_pieces ∈ zg := zg_in 651 rfl rfl
abbrev b_MD_power : ByteArray := prog_5_method_4_code
def y_MD_power : MethodName := ⟨"SealedFilesModel", "power", "(II)I"⟩
abbrev k_MD_power : Cond := .code y_MD_power b_MD_power 5 (some .int)
set_option maxRecDepth 20000 in
theorem zk_MD_power : k_MD_power ∈ zg := zg_in 585 rfl rfl
abbrev b_MD_print : ByteArray := prog_5_method_30_code
def y_MD_print : MethodName := ⟨"SealedFilesModel", "print", "(I)I"⟩
abbrev k_MD_print : Cond := .code y_MD_print b_MD_print 4 (some .int)
set_option maxRecDepth 20000 in
theorem zk_MD_print : k_MD_print ∈ zg := zg_in 671 rfl rfl
abbrev b_MD_put : ByteArray := prog_5_method_12_code
def y_MD_put : MethodName := ⟨"SealedFilesModel", "put", "(I)Z"⟩
abbrev k_MD_put : Cond := .code y_MD_put b_MD_put 2 (some .boolean)
set_option maxRecDepth 20000 in
theorem zk_MD_put : k_MD_put ∈ zg := zg_in 589 rfl rfl
abbrev b_MD_read : ByteArray := prog_5_method_14_code
def y_MD_read : MethodName := ⟨"SealedFilesModel", "read", "(I)I"⟩
abbrev k_MD_read : Cond := .code y_MD_read b_MD_read 2 (some .int)
set_option maxRecDepth 20000 in
theorem zk_MD_read : k_MD_read ∈ zg := zg_in 597 rfl rfl
abbrev b_MD_seal : ByteArray := prog_5_method_18_code
def y_MD_seal : MethodName := ⟨"SealedFilesModel", "seal", "(III)I"⟩
abbrev k_MD_seal : Cond := .code y_MD_seal b_MD_seal 10 (some .int)
set_option maxRecDepth 20000 in
theorem zk_MD_seal : k_MD_seal ∈ zg := zg_in 601 rfl rfl
abbrev b_MD_sign : ByteArray := prog_5_method_7_code
def y_MD_sign : MethodName := ⟨"SealedFilesModel", "sign", "(III)I"⟩
abbrev k_MD_sign : Cond := .code y_MD_sign b_MD_sign 9 (some .int)
set_option maxRecDepth 20000 in
theorem zk_MD_sign : k_MD_sign ∈ zg := zg_in 625 rfl rfl
abbrev b_MD_sixOf : ByteArray := prog_5_method_29_code
def y_MD_sixOf : MethodName := ⟨"SealedFilesModel", "sixOf", "(C)I"⟩
abbrev k_MD_sixOf : Cond := .code y_MD_sixOf b_MD_sixOf 1 (some .int)
set_option maxRecDepth 20000 in
theorem zk_MD_sixOf : k_MD_sixOf ∈ zg := zg_in 682 rfl rfl
abbrev b_MD_thrown : ByteArray := prog_5_method_2_code
def y_MD_thrown : MethodName := ⟨"SealedFilesModel", "thrown", "()I"⟩
abbrev k_MD_thrown : Cond := .code y_MD_thrown b_MD_thrown 1 (some .int)
set_option maxRecDepth 20000 in
theorem zk_MD_thrown : k_MD_thrown ∈ zg := zg_in 566 rfl rfl
abbrev b_MD_two : ByteArray := prog_5_method_8_code
def y_MD_two : MethodName := ⟨"SealedFilesModel", "two", "(I)I"⟩
abbrev k_MD_two : Cond := .code y_MD_two b_MD_two 2 (some .int)
set_option maxRecDepth 20000 in
theorem zk_MD_two : k_MD_two ∈ zg := zg_in 639 rfl rfl
abbrev b_MD_uncover : ByteArray := prog_5_method_21_code
def y_MD_uncover : MethodName := ⟨"SealedFilesModel", "uncover", "(IIII)V"⟩
abbrev k_MD_uncover : Cond := .code y_MD_uncover b_MD_uncover 6 none
set_option maxRecDepth 20000 in
theorem zk_MD_uncover : k_MD_uncover ∈ zg := zg_in 647 rfl rfl
abbrev b_MD_word : ByteArray := prog_5_method_6_code
def y_MD_word : MethodName := ⟨"SealedFilesModel", "word", "(III)I"⟩
abbrev k_MD_word : Cond := .code y_MD_word b_MD_word 4 (some .int)
set_option maxRecDepth 20000 in
theorem zk_MD_word : k_MD_word ∈ zg := zg_in 612 rfl rfl
abbrev b_MD_write : ByteArray := prog_5_method_31_code
def y_MD_write : MethodName := ⟨"SealedFilesModel", "write", "(C)Z"⟩
abbrev k_MD_write : Cond := .code y_MD_write b_MD_write 2 (some .boolean)
set_option maxRecDepth 20000 in
theorem zk_MD_write : k_MD_write ∈ zg := zg_in 679 rfl rfl
abbrev b_NU_mix : ByteArray := prog_2_method_3_code
def y_NU_mix : MethodName := ⟨"SealedFiles$Numbers", "mix", "(I)I"⟩
abbrev k_NU_mix : Cond := .code y_NU_mix b_NU_mix 3 (some .int)
set_option maxRecDepth 20000 in
theorem zk_NU_mix : k_NU_mix ∈ zg := zg_in 382 rfl rfl
abbrev b_NU_power : ByteArray := prog_2_method_2_code
def y_NU_power : MethodName := ⟨"SealedFiles$Numbers", "power", "(II)I"⟩
abbrev k_NU_power : Cond := .code y_NU_power b_NU_power 5 (some .int)
set_option maxRecDepth 20000 in
theorem zk_NU_power : k_NU_power ∈ zg := zg_in 355 rfl rfl
abbrev b_NU_word : ByteArray := prog_2_method_4_code
def y_NU_word : MethodName := ⟨"SealedFiles$Numbers", "word", "(III)I"⟩
abbrev k_NU_word : Cond := .code y_NU_word b_NU_word 3 (some .int)
set_option maxRecDepth 20000 in
theorem zk_NU_word : k_NU_word ∈ zg := zg_in 379 rfl rfl
abbrev b_RW_append : ByteArray := prog_3_method_5_code
def y_RW_append : MethodName := ⟨"SealedFiles$Row", "append", "(I)Z"⟩
abbrev k_RW_append : Cond := .code y_RW_append b_RW_append 2 (some .boolean)
set_option maxRecDepth 20000 in
theorem zk_RW_append : k_RW_append ∈ zg := zg_in 115 rfl rfl
abbrev b_RW_appendPair : ByteArray := prog_3_method_8_code
def y_RW_appendPair : MethodName := ⟨"SealedFiles$Row", "appendPair", "(I)V"⟩
abbrev k_RW_appendPair : Cond := .code y_RW_appendPair b_RW_appendPair 2 none
set_option maxRecDepth 20000 in
theorem zk_RW_appendPair : k_RW_appendPair ∈ zg := zg_in 392 rfl rfl
abbrev b_RW_has : ByteArray := prog_3_method_3_code
def y_RW_has : MethodName := ⟨"SealedFiles$Row", "has", "(I)Z"⟩
abbrev k_RW_has : Cond := .code y_RW_has b_RW_has 2 (some .boolean)
set_option maxRecDepth 20000 in
theorem zk_RW_has : k_RW_has ∈ zg := zg_in 107 rfl rfl
abbrev b_RW_init : ByteArray := prog_3_method_1_code
def y_RW_init : MethodName := ⟨"SealedFiles$Row", "<init>", "(I)V"⟩
abbrev k_RW_init : Cond := .code y_RW_init b_RW_init 2 none
set_option maxRecDepth 20000 in
theorem zk_RW_init : k_RW_init ∈ zg := zg_in 67 rfl rfl
abbrev b_RW_item : ByteArray := prog_3_method_4_code
def y_RW_item : MethodName := ⟨"SealedFiles$Row", "item", "(I)I"⟩
abbrev k_RW_item : Cond := .code y_RW_item b_RW_item 2 (some .int)
set_option maxRecDepth 20000 in
theorem zk_RW_item : k_RW_item ∈ zg := zg_in 103 rfl rfl
abbrev b_RW_pair : ByteArray := prog_3_method_9_code
def y_RW_pair : MethodName := ⟨"SealedFiles$Row", "pair", "(I)I"⟩
abbrev k_RW_pair : Cond := .code y_RW_pair b_RW_pair 2 (some .int)
set_option maxRecDepth 20000 in
theorem zk_RW_pair : k_RW_pair ∈ zg := zg_in 450 rfl rfl
abbrev b_RW_replace : ByteArray := prog_3_method_6_code
def y_RW_replace : MethodName := ⟨"SealedFiles$Row", "replace", "(II)V"⟩
abbrev k_RW_replace : Cond := .code y_RW_replace b_RW_replace 3 none
set_option maxRecDepth 20000 in
theorem zk_RW_replace : k_RW_replace ∈ zg := zg_in 498 rfl rfl
abbrev b_RW_shorten : ByteArray := prog_3_method_7_code
def y_RW_shorten : MethodName := ⟨"SealedFiles$Row", "shorten", "(I)Z"⟩
abbrev k_RW_shorten : Cond := .code y_RW_shorten b_RW_shorten 2 (some .boolean)
set_option maxRecDepth 20000 in
theorem zk_RW_shorten : k_RW_shorten ∈ zg := zg_in 127 rfl rfl
abbrev b_RW_sign : ByteArray := prog_3_method_10_code
def y_RW_sign : MethodName := ⟨"SealedFiles$Row", "sign", "(III)I"⟩
abbrev k_RW_sign : Cond := .code y_RW_sign b_RW_sign 9 (some .int)
set_option maxRecDepth 20000 in
theorem zk_RW_sign : k_RW_sign ∈ zg := zg_in 402 rfl rfl
abbrev b_RW_size : ByteArray := prog_3_method_2_code
def y_RW_size : MethodName := ⟨"SealedFiles$Row", "size", "()I"⟩
abbrev k_RW_size : Cond := .code y_RW_size b_RW_size 1 (some .int)
set_option maxRecDepth 20000 in
theorem zk_RW_size : k_RW_size ∈ zg := zg_in 123 rfl rfl
abbrev b_SF_address : ByteArray := prog_1_method_3_code
def y_SF_address : MethodName := ⟨"SealedFiles", "address", "(I)I"⟩
abbrev k_SF_address : Cond := .code y_SF_address b_SF_address 2 (some .int)
set_option maxRecDepth 20000 in
theorem zk_SF_address : k_SF_address ∈ zg := zg_in 99 rfl rfl
abbrev b_SF_agreed : ByteArray := prog_1_method_28_code
def y_SF_agreed : MethodName := ⟨"SealedFiles", "agreed", "(II)I"⟩
abbrev k_SF_agreed : Cond := .code y_SF_agreed b_SF_agreed 3 (some .int)
set_option maxRecDepth 20000 in
theorem zk_SF_agreed : k_SF_agreed ∈ zg := zg_in 446 rfl rfl
abbrev b_SF_alter : ByteArray := prog_1_method_12_code
def y_SF_alter : MethodName := ⟨"SealedFiles", "alter", "(II)I"⟩
abbrev k_SF_alter : Cond := .code y_SF_alter b_SF_alter 3 (some .int)
set_option maxRecDepth 20000 in
theorem zk_SF_alter : k_SF_alter ∈ zg := zg_in 493 rfl rfl
abbrev b_SF_appendEntry : ByteArray := prog_1_method_19_code
def y_SF_appendEntry : MethodName := ⟨"SealedFiles", "appendEntry", "(III)V"⟩
abbrev k_SF_appendEntry : Cond := .code y_SF_appendEntry b_SF_appendEntry 7 none
set_option maxRecDepth 20000 in
theorem zk_SF_appendEntry : k_SF_appendEntry ∈ zg := zg_in 388 rfl rfl
abbrev b_SF_appendPieces : ByteArray := prog_1_method_24_code
def y_SF_appendPieces : MethodName := ⟨"SealedFiles", "appendPieces", "(I)V"⟩
abbrev k_SF_appendPieces : Cond := .code y_SF_appendPieces b_SF_appendPieces 8 none
set_option maxRecDepth 20000 in
theorem zk_SF_appendPieces : k_SF_appendPieces ∈ zg := zg_in 413 rfl rfl
abbrev b_SF_areReceivers : ByteArray := prog_1_method_17_code
def y_SF_areReceivers : MethodName := ⟨"SealedFiles", "areReceivers", "(I)Z"⟩
abbrev k_SF_areReceivers : Cond := .code y_SF_areReceivers b_SF_areReceivers 3 (some .boolean)
set_option maxRecDepth 20000 in
theorem zk_SF_areReceivers : k_SF_areReceivers ∈ zg := zg_in 366 rfl rfl
abbrev b_SF_at : ByteArray := prog_1_method_11_code
def y_SF_at : MethodName := ⟨"SealedFiles", "at", "(I)I"⟩
abbrev k_SF_at : Cond := .code y_SF_at b_SF_at 2 (some .int)
set_option maxRecDepth 20000 in
theorem zk_SF_at : k_SF_at ∈ zg := zg_in 139 rfl rfl
abbrev b_SF_clear : ByteArray := prog_1_method_5_code
def y_SF_clear : MethodName := ⟨"SealedFiles", "clear", "()I"⟩
abbrev k_SF_clear : Cond := .code y_SF_clear b_SF_clear 2 (some .int)
set_option maxRecDepth 20000 in
theorem zk_SF_clear : k_SF_clear ∈ zg := zg_in 119 rfl rfl
abbrev b_SF_count : ByteArray := prog_1_method_10_code
def y_SF_count : MethodName := ⟨"SealedFiles", "count", "(I)I"⟩
abbrev k_SF_count : Cond := .code y_SF_count b_SF_count 2 (some .int)
set_option maxRecDepth 20000 in
theorem zk_SF_count : k_SF_count ∈ zg := zg_in 135 rfl rfl
abbrev b_SF_covered : ByteArray := prog_1_method_23_code
def y_SF_covered : MethodName := ⟨"SealedFiles", "covered", "(IIII)I"⟩
abbrev k_SF_covered : Cond := .code y_SF_covered b_SF_covered 4 (some .int)
set_option maxRecDepth 20000 in
theorem zk_SF_covered : k_SF_covered ∈ zg := zg_in 418 rfl rfl
abbrev b_SF_cut : ByteArray := prog_1_method_13_code
def y_SF_cut : MethodName := ⟨"SealedFiles", "cut", "(I)Z"⟩
abbrev k_SF_cut : Cond := .code y_SF_cut b_SF_cut 2 (some .boolean)
set_option maxRecDepth 20000 in
theorem zk_SF_cut : k_SF_cut ∈ zg := zg_in 143 rfl rfl
abbrev b_SF_draftBytes : ByteArray := prog_1_method_32_code
def y_SF_draftBytes : MethodName := ⟨"SealedFiles", "draftBytes", "()I"⟩
abbrev k_SF_draftBytes : Cond := .code y_SF_draftBytes b_SF_draftBytes 1 (some .int)
set_option maxRecDepth 20000 in
theorem zk_SF_draftBytes : k_SF_draftBytes ∈ zg := zg_in 513 rfl rfl
abbrev b_SF_draftIsPrintedForm : ByteArray := prog_1_method_33_code
def y_SF_draftIsPrintedForm : MethodName := ⟨"SealedFiles", "draftIsPrintedForm", "()Z"⟩
abbrev k_SF_draftIsPrintedForm : Cond := .code y_SF_draftIsPrintedForm b_SF_draftIsPrintedForm 3 (some .boolean)
set_option maxRecDepth 20000 in
theorem zk_SF_draftIsPrintedForm : k_SF_draftIsPrintedForm ∈ zg := zg_in 509 rfl rfl
abbrev b_SF_entriesEnd : ByteArray := prog_1_method_25_code
def y_SF_entriesEnd : MethodName := ⟨"SealedFiles", "entriesEnd", "()I"⟩
abbrev k_SF_entriesEnd : Cond := .code y_SF_entriesEnd b_SF_entriesEnd 1 (some .int)
set_option maxRecDepth 20000 in
theorem zk_SF_entriesEnd : k_SF_entriesEnd ∈ zg := zg_in 438 rfl rfl
abbrev b_SF_entryFor : ByteArray := prog_1_method_27_code
def y_SF_entryFor : MethodName := ⟨"SealedFiles", "entryFor", "(I)I"⟩
abbrev k_SF_entryFor : Cond := .code y_SF_entryFor b_SF_entryFor 6 (some .int)
set_option maxRecDepth 20000 in
theorem zk_SF_entryFor : k_SF_entryFor ∈ zg := zg_in 442 rfl rfl
abbrev b_SF_entrySign : ByteArray := prog_1_method_20_code
def y_SF_entrySign : MethodName := ⟨"SealedFiles", "entrySign", "(III)I"⟩
abbrev k_SF_entrySign : Cond := .code y_SF_entrySign b_SF_entrySign 4 (some .int)
set_option maxRecDepth 20000 in
theorem zk_SF_entrySign : k_SF_entrySign ∈ zg := zg_in 398 rfl rfl
abbrev b_SF_exponent : ByteArray := prog_1_method_18_code
def y_SF_exponent : MethodName := ⟨"SealedFiles", "exponent", "(III)I"⟩
abbrev k_SF_exponent : Cond := .code y_SF_exponent b_SF_exponent 3 (some .int)
set_option maxRecDepth 20000 in
theorem zk_SF_exponent : k_SF_exponent ∈ zg := zg_in 376 rfl rfl
abbrev b_SF_hasShape : ByteArray := prog_1_method_26_code
def y_SF_hasShape : MethodName := ⟨"SealedFiles", "hasShape", "()Z"⟩
abbrev k_SF_hasShape : Cond := .code y_SF_hasShape b_SF_hasShape 1 (some .boolean)
set_option maxRecDepth 20000 in
theorem zk_SF_hasShape : k_SF_hasShape ∈ zg := zg_in 434 rfl rfl
abbrev b_SF_headSign : ByteArray := prog_1_method_21_code
def y_SF_headSign : MethodName := ⟨"SealedFiles", "headSign", "(II)I"⟩
abbrev k_SF_headSign : Cond := .code y_SF_headSign b_SF_headSign 3 (some .int)
set_option maxRecDepth 20000 in
theorem zk_SF_headSign : k_SF_headSign ∈ zg := zg_in 409 rfl rfl
abbrev b_SF_init : ByteArray := prog_1_method_1_code
def y_SF_init : MethodName := ⟨"SealedFiles", "<init>", "()V"⟩
abbrev k_SF_init : Cond := .code y_SF_init b_SF_init 1 none
set_option maxRecDepth 20000 in
theorem zk_SF_init : k_SF_init ∈ zg := zg_in 59 rfl rfl
abbrev b_SF_key : ByteArray := prog_1_method_2_code
def y_SF_key : MethodName := ⟨"SealedFiles", "key", "(I)I"⟩
abbrev k_SF_key : Cond := .code y_SF_key b_SF_key 2 (some .int)
set_option maxRecDepth 20000 in
theorem zk_SF_key : k_SF_key ∈ zg := zg_in 269 rfl rfl
abbrev b_SF_load : ByteArray := prog_1_method_16_code
def y_SF_load : MethodName := ⟨"SealedFiles", "load", "()I"⟩
abbrev k_SF_load : Cond := .code y_SF_load b_SF_load 2 (some .int)
set_option maxRecDepth 20000 in
theorem zk_SF_load : k_SF_load ∈ zg := zg_in 505 rfl rfl
abbrev b_SF_open : ByteArray := prog_1_method_7_code
def y_SF_open : MethodName := ⟨"SealedFiles", "open", "(I)I"⟩
abbrev k_SF_open : Cond := .code y_SF_open b_SF_open 5 (some .int)
set_option maxRecDepth 20000 in
theorem zk_SF_open : k_SF_open ∈ zg := zg_in 429 rfl rfl
abbrev b_SF_pieceSign : ByteArray := prog_1_method_22_code
def y_SF_pieceSign : MethodName := ⟨"SealedFiles", "pieceSign", "(IIIIZ)I"⟩
abbrev k_SF_pieceSign : Cond := .code y_SF_pieceSign b_SF_pieceSign 7 (some .int)
set_option maxRecDepth 20000 in
theorem zk_SF_pieceSign : k_SF_pieceSign ∈ zg := zg_in 422 rfl rfl
abbrev b_SF_pieces : ByteArray := prog_1_method_8_code
def y_SF_pieces : MethodName := ⟨"SealedFiles", "pieces", "()I"⟩
abbrev k_SF_pieces : Cond := .code y_SF_pieces b_SF_pieces 1 (some .int)
set_option maxRecDepth 20000 in
theorem zk_SF_pieces : k_SF_pieces ∈ zg := zg_in 131 rfl rfl
abbrev b_SF_print : ByteArray := prog_1_method_14_code
def y_SF_print : MethodName := ⟨"SealedFiles", "print", "(I)I"⟩
abbrev k_SF_print : Cond := .code y_SF_print b_SF_print 7 (some .int)
set_option maxRecDepth 20000 in
theorem zk_SF_print : k_SF_print ∈ zg := zg_in 147 rfl rfl
abbrev b_SF_put : ByteArray := prog_1_method_4_code
def y_SF_put : MethodName := ⟨"SealedFiles", "put", "(I)Z"⟩
abbrev k_SF_put : Cond := .code y_SF_put b_SF_put 2 (some .boolean)
set_option maxRecDepth 20000 in
theorem zk_SF_put : k_SF_put ∈ zg := zg_in 111 rfl rfl
abbrev b_SF_read : ByteArray := prog_1_method_9_code
def y_SF_read : MethodName := ⟨"SealedFiles", "read", "(I)I"⟩
abbrev k_SF_read : Cond := .code y_SF_read b_SF_read 2 (some .int)
set_option maxRecDepth 20000 in
theorem zk_SF_read : k_SF_read ∈ zg := zg_in 470 rfl rfl
abbrev b_SF_seal : ByteArray := prog_1_method_6_code
def y_SF_seal : MethodName := ⟨"SealedFiles", "seal", "(III)I"⟩
abbrev k_SF_seal : Cond := .code y_SF_seal b_SF_seal 5 (some .int)
set_option maxRecDepth 20000 in
theorem zk_SF_seal : k_SF_seal ∈ zg := zg_in 362 rfl rfl
abbrev b_SF_takeDraft : ByteArray := prog_1_method_34_code
def y_SF_takeDraft : MethodName := ⟨"SealedFiles", "takeDraft", "()V"⟩
abbrev k_SF_takeDraft : Cond := .code y_SF_takeDraft b_SF_takeDraft 6 none
set_option maxRecDepth 20000 in
theorem zk_SF_takeDraft : k_SF_takeDraft ∈ zg := zg_in 517 rfl rfl
abbrev b_SF_takePieces : ByteArray := prog_1_method_30_code
def y_SF_takePieces : MethodName := ⟨"SealedFiles", "takePieces", "(II)I"⟩
abbrev k_SF_takePieces : Cond := .code y_SF_takePieces b_SF_takePieces 10 (some .int)
set_option maxRecDepth 20000 in
theorem zk_SF_takePieces : k_SF_takePieces ∈ zg := zg_in 458 rfl rfl
abbrev b_SF_uncover : ByteArray := prog_1_method_31_code
def y_SF_uncover : MethodName := ⟨"SealedFiles", "uncover", "(IIII)V"⟩
abbrev k_SF_uncover : Cond := .code y_SF_uncover b_SF_uncover 6 none
set_option maxRecDepth 20000 in
theorem zk_SF_uncover : k_SF_uncover ∈ zg := zg_in 462 rfl rfl
abbrev b_SF_unwrapped : ByteArray := prog_1_method_29_code
def y_SF_unwrapped : MethodName := ⟨"SealedFiles", "unwrapped", "(II)I"⟩
abbrev k_SF_unwrapped : Cond := .code y_SF_unwrapped b_SF_unwrapped 4 (some .int)
set_option maxRecDepth 20000 in
theorem zk_SF_unwrapped : k_SF_unwrapped ∈ zg := zg_in 454 rfl rfl
abbrev b_SF_write : ByteArray := prog_1_method_15_code
def y_SF_write : MethodName := ⟨"SealedFiles", "write", "(C)Z"⟩
abbrev k_SF_write : Cond := .code y_SF_write b_SF_write 3 (some .boolean)
set_option maxRecDepth 20000 in
theorem zk_SF_write : k_SF_write ∈ zg := zg_in 194 rfl rfl
