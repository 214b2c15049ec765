section
-- ===== PART A: goes FIRST, ahead of the names: the tables' words, and 'selects' of the private methods out of them =====
/-- a private method of a class that the tables say can be made, by its rows of tables_1 -/
def lw_okq (q : MethodName × Nat) : Prop := (q.1.cls ≠ "java/lang/invoke/MethodHandle" ∧ q.1.cls ≠ "java/lang/invoke/VarHandle") ∧ Cond.instantiable q.1.cls q.2 ∈ tables_1 ∧ Cond.privateMethod q.1 ∈ tables_1 ∧ Cond.instanceMethod q.1 ∈ tables_1
theorem lw_p0 : lw_okq (⟨"NotePool$HashTree", "hashUp", "(I)V"⟩, 3) := ⟨⟨by decide +kernel, by decide +kernel⟩, List.mem_of_getElem? (i := 15) (by decide +kernel), List.mem_of_getElem? (i := 21) (by decide +kernel), List.mem_of_getElem? (i := 22) (by decide +kernel)⟩
theorem lw_p1 : lw_okq (⟨"NotePool", "makeNote", "(III)I"⟩, 8) := ⟨⟨by decide +kernel, by decide +kernel⟩, List.mem_of_getElem? (i := 7) (by decide +kernel), List.mem_of_getElem? (i := 125) (by decide +kernel), List.mem_of_getElem? (i := 126) (by decide +kernel)⟩
theorem lw_p2 : lw_okq (⟨"NotePool", "hasNote", "(I)Z"⟩, 8) := ⟨⟨by decide +kernel, by decide +kernel⟩, List.mem_of_getElem? (i := 7) (by decide +kernel), List.mem_of_getElem? (i := 134) (by decide +kernel), List.mem_of_getElem? (i := 135) (by decide +kernel)⟩
theorem lw_p3 : lw_okq (⟨"NotePool", "ownerOfKey", "(I)I"⟩, 8) := ⟨⟨by decide +kernel, by decide +kernel⟩, List.mem_of_getElem? (i := 7) (by decide +kernel), List.mem_of_getElem? (i := 138) (by decide +kernel), List.mem_of_getElem? (i := 139) (by decide +kernel)⟩
theorem lw_p4 : lw_okq (⟨"NotePool$SpendVector", "dueIn", "(I)I"⟩, 1) := ⟨⟨by decide +kernel, by decide +kernel⟩, List.mem_of_getElem? (i := 64) (by decide +kernel), List.mem_of_getElem? (i := 172) (by decide +kernel), List.mem_of_getElem? (i := 173) (by decide +kernel)⟩
theorem lw_p5 : lw_okq (⟨"NotePool$SpendVector", "dueInBlock", "(II)I"⟩, 1) := ⟨⟨by decide +kernel, by decide +kernel⟩, List.mem_of_getElem? (i := 64) (by decide +kernel), List.mem_of_getElem? (i := 176) (by decide +kernel), List.mem_of_getElem? (i := 177) (by decide +kernel)⟩
theorem lw_p6 : lw_okq (⟨"NotePool$SpendVector", "dueRight", "(I)I"⟩, 1) := ⟨⟨by decide +kernel, by decide +kernel⟩, List.mem_of_getElem? (i := 64) (by decide +kernel), List.mem_of_getElem? (i := 187) (by decide +kernel), List.mem_of_getElem? (i := 188) (by decide +kernel)⟩
theorem lw_p7 : lw_okq (⟨"NotePool$SpendVector", "resultOf", "(I)I"⟩, 1) := ⟨⟨by decide +kernel, by decide +kernel⟩, List.mem_of_getElem? (i := 64) (by decide +kernel), List.mem_of_getElem? (i := 191) (by decide +kernel), List.mem_of_getElem? (i := 192) (by decide +kernel)⟩
theorem lw_p8 : lw_okq (⟨"NotePool$SpendVector", "dueLeft", "(I)I"⟩, 1) := ⟨⟨by decide +kernel, by decide +kernel⟩, List.mem_of_getElem? (i := 64) (by decide +kernel), List.mem_of_getElem? (i := 198) (by decide +kernel), List.mem_of_getElem? (i := 199) (by decide +kernel)⟩
theorem lw_p9 : lw_okq (⟨"NotePool$SpendVector", "sumOfBits", "()I"⟩, 1) := ⟨⟨by decide +kernel, by decide +kernel⟩, List.mem_of_getElem? (i := 64) (by decide +kernel), List.mem_of_getElem? (i := 202) (by decide +kernel), List.mem_of_getElem? (i := 203) (by decide +kernel)⟩
theorem lw_p10 : lw_okq (⟨"NotePool", "markOf", "(I)I"⟩, 8) := ⟨⟨by decide +kernel, by decide +kernel⟩, List.mem_of_getElem? (i := 7) (by decide +kernel), List.mem_of_getElem? (i := 266) (by decide +kernel), List.mem_of_getElem? (i := 267) (by decide +kernel)⟩
theorem lw_p11 : lw_okq (⟨"NotePoolModel", "make", "(III)I"⟩, 9) := ⟨⟨by decide +kernel, by decide +kernel⟩, List.mem_of_getElem? (i := 299) (by decide +kernel), List.mem_of_getElem? (i := 365) (by decide +kernel), List.mem_of_getElem? (i := 366) (by decide +kernel)⟩
theorem lw_p12 : lw_okq (⟨"NotePoolModel", "ownerOf", "(I)I"⟩, 9) := ⟨⟨by decide +kernel, by decide +kernel⟩, List.mem_of_getElem? (i := 299) (by decide +kernel), List.mem_of_getElem? (i := 373) (by decide +kernel), List.mem_of_getElem? (i := 374) (by decide +kernel)⟩
theorem lw_p13 : lw_okq (⟨"NotePoolModel", "fill", "(I)V"⟩, 9) := ⟨⟨by decide +kernel, by decide +kernel⟩, List.mem_of_getElem? (i := 299) (by decide +kernel), List.mem_of_getElem? (i := 377) (by decide +kernel), List.mem_of_getElem? (i := 378) (by decide +kernel)⟩
theorem lw_p14 : lw_okq (⟨"NotePoolModel", "due", "(II)I"⟩, 9) := ⟨⟨by decide +kernel, by decide +kernel⟩, List.mem_of_getElem? (i := 299) (by decide +kernel), List.mem_of_getElem? (i := 381) (by decide +kernel), List.mem_of_getElem? (i := 382) (by decide +kernel)⟩
theorem lw_p15 : lw_okq (⟨"NotePoolModel", "input", "(IZ)I"⟩, 9) := ⟨⟨by decide +kernel, by decide +kernel⟩, List.mem_of_getElem? (i := 299) (by decide +kernel), List.mem_of_getElem? (i := 385) (by decide +kernel), List.mem_of_getElem? (i := 386) (by decide +kernel)⟩
def lw_privs_1 : List (MethodName × Nat) := [(⟨"NotePool$HashTree", "hashUp", "(I)V"⟩, 3), (⟨"NotePool", "makeNote", "(III)I"⟩, 8), (⟨"NotePool", "hasNote", "(I)Z"⟩, 8), (⟨"NotePool", "ownerOfKey", "(I)I"⟩, 8), (⟨"NotePool$SpendVector", "dueIn", "(I)I"⟩, 1), (⟨"NotePool$SpendVector", "dueInBlock", "(II)I"⟩, 1), (⟨"NotePool$SpendVector", "dueRight", "(I)I"⟩, 1), (⟨"NotePool$SpendVector", "resultOf", "(I)I"⟩, 1), (⟨"NotePool$SpendVector", "dueLeft", "(I)I"⟩, 1), (⟨"NotePool$SpendVector", "sumOfBits", "()I"⟩, 1), (⟨"NotePool", "markOf", "(I)I"⟩, 8), (⟨"NotePoolModel", "make", "(III)I"⟩, 9), (⟨"NotePoolModel", "ownerOf", "(I)I"⟩, 9), (⟨"NotePoolModel", "fill", "(I)V"⟩, 9), (⟨"NotePoolModel", "due", "(II)I"⟩, 9), (⟨"NotePoolModel", "input", "(IZ)I"⟩, 9)]
theorem lw_r1 : ∀ q ∈ lw_privs_1, lw_okq q := List.forall_mem_cons.mpr ⟨lw_p0, List.forall_mem_cons.mpr ⟨lw_p1, List.forall_mem_cons.mpr ⟨lw_p2, List.forall_mem_cons.mpr ⟨lw_p3, List.forall_mem_cons.mpr ⟨lw_p4, List.forall_mem_cons.mpr ⟨lw_p5, List.forall_mem_cons.mpr ⟨lw_p6, List.forall_mem_cons.mpr ⟨lw_p7, List.forall_mem_cons.mpr ⟨lw_p8, List.forall_mem_cons.mpr ⟨lw_p9, List.forall_mem_cons.mpr ⟨lw_p10, List.forall_mem_cons.mpr ⟨lw_p11, List.forall_mem_cons.mpr ⟨lw_p12, List.forall_mem_cons.mpr ⟨lw_p13, List.forall_mem_cons.mpr ⟨lw_p14, List.forall_mem_cons.mpr ⟨lw_p15, fun _ h => absurd h List.not_mem_nil⟩⟩⟩⟩⟩⟩⟩⟩⟩⟩⟩⟩⟩⟩⟩⟩
theorem lw_p16 : lw_okq (⟨"NotePoolModel", "nodeOf", "(III)I"⟩, 9) := ⟨⟨by decide +kernel, by decide +kernel⟩, List.mem_of_getElem? (i := 299) (by decide +kernel), List.mem_of_getElem? (i := 389) (by decide +kernel), List.mem_of_getElem? (i := 390) (by decide +kernel)⟩
theorem lw_p17 : lw_okq (⟨"NotePoolModel", "leaf", "(I)I"⟩, 9) := ⟨⟨by decide +kernel, by decide +kernel⟩, List.mem_of_getElem? (i := 299) (by decide +kernel), List.mem_of_getElem? (i := 393) (by decide +kernel), List.mem_of_getElem? (i := 394) (by decide +kernel)⟩
theorem lw_p18 : lw_okq (⟨"NotePoolModel", "turned", "(IZ)I"⟩, 9) := ⟨⟨by decide +kernel, by decide +kernel⟩, List.mem_of_getElem? (i := 299) (by decide +kernel), List.mem_of_getElem? (i := 397) (by decide +kernel), List.mem_of_getElem? (i := 398) (by decide +kernel)⟩
theorem lw_p19 : lw_okq (⟨"NotePoolModel", "holds", "(I)Z"⟩, 9) := ⟨⟨by decide +kernel, by decide +kernel⟩, List.mem_of_getElem? (i := 299) (by decide +kernel), List.mem_of_getElem? (i := 405) (by decide +kernel), List.mem_of_getElem? (i := 406) (by decide +kernel)⟩
theorem lw_p20 : lw_okq (⟨"NotePoolModel", "bit", "(I)Z"⟩, 9) := ⟨⟨by decide +kernel, by decide +kernel⟩, List.mem_of_getElem? (i := 299) (by decide +kernel), List.mem_of_getElem? (i := 409) (by decide +kernel), List.mem_of_getElem? (i := 410) (by decide +kernel)⟩
theorem lw_p21 : lw_okq (⟨"NotePoolModel", "sums", "()Z"⟩, 9) := ⟨⟨by decide +kernel, by decide +kernel⟩, List.mem_of_getElem? (i := 299) (by decide +kernel), List.mem_of_getElem? (i := 413) (by decide +kernel), List.mem_of_getElem? (i := 414) (by decide +kernel)⟩
theorem lw_p22 : lw_okq (⟨"NotePoolModel", "nine", "(II)Z"⟩, 9) := ⟨⟨by decide +kernel, by decide +kernel⟩, List.mem_of_getElem? (i := 299) (by decide +kernel), List.mem_of_getElem? (i := 417) (by decide +kernel), List.mem_of_getElem? (i := 418) (by decide +kernel)⟩
theorem lw_p23 : lw_okq (⟨"NotePoolModel", "isRecent", "(I)Z"⟩, 9) := ⟨⟨by decide +kernel, by decide +kernel⟩, List.mem_of_getElem? (i := 299) (by decide +kernel), List.mem_of_getElem? (i := 434) (by decide +kernel), List.mem_of_getElem? (i := 435) (by decide +kernel)⟩
theorem lw_p24 : lw_okq (⟨"NotePoolModel", "isUsed", "(I)Z"⟩, 9) := ⟨⟨by decide +kernel, by decide +kernel⟩, List.mem_of_getElem? (i := 299) (by decide +kernel), List.mem_of_getElem? (i := 442) (by decide +kernel), List.mem_of_getElem? (i := 443) (by decide +kernel)⟩
def lw_privs_2 : List (MethodName × Nat) := [(⟨"NotePoolModel", "nodeOf", "(III)I"⟩, 9), (⟨"NotePoolModel", "leaf", "(I)I"⟩, 9), (⟨"NotePoolModel", "turned", "(IZ)I"⟩, 9), (⟨"NotePoolModel", "holds", "(I)Z"⟩, 9), (⟨"NotePoolModel", "bit", "(I)Z"⟩, 9), (⟨"NotePoolModel", "sums", "()Z"⟩, 9), (⟨"NotePoolModel", "nine", "(II)Z"⟩, 9), (⟨"NotePoolModel", "isRecent", "(I)Z"⟩, 9), (⟨"NotePoolModel", "isUsed", "(I)Z"⟩, 9)]
theorem lw_r2 : ∀ q ∈ lw_privs_2, lw_okq q := List.forall_mem_cons.mpr ⟨lw_p16, List.forall_mem_cons.mpr ⟨lw_p17, List.forall_mem_cons.mpr ⟨lw_p18, List.forall_mem_cons.mpr ⟨lw_p19, List.forall_mem_cons.mpr ⟨lw_p20, List.forall_mem_cons.mpr ⟨lw_p21, List.forall_mem_cons.mpr ⟨lw_p22, List.forall_mem_cons.mpr ⟨lw_p23, List.forall_mem_cons.mpr ⟨lw_p24, fun _ h => absurd h List.not_mem_nil⟩⟩⟩⟩⟩⟩⟩⟩⟩
def lw_privs : List (MethodName × Nat) := lw_privs_1 ++ (lw_privs_2)
def lw_tbl : List Cond := k2_sels lw_privs ++ tables_1
theorem lw_privs_ok : ∀ q ∈ lw_privs, lw_okq q := by
  show ∀ q ∈ lw_privs_1 ++ (lw_privs_2), lw_okq q
  exact List.forall_mem_append.mpr ⟨lw_r1, lw_r2⟩
-- ===== end of PART A; then your names; then what follows =====
/-! ===== my names, by wip/whole/gen/names.py out of the listing ===== -/
abbrev b_P_init : ByteArray := prog_1_method_1_code
def y_P_init : MethodName := ⟨"NotePool", "<init>", "()V"⟩
abbrev b_T_init : ByteArray := prog_2_method_1_code
def y_T_init : MethodName := ⟨"NotePool$HashTree", "<init>", "()V"⟩
abbrev b_T_hashUp : ByteArray := prog_2_method_7_code
def y_T_hashUp : MethodName := ⟨"NotePool$HashTree", "hashUp", "(I)V"⟩
abbrev b_P_hashOf : ByteArray := prog_1_method_31_code
def y_P_hashOf : MethodName := ⟨"NotePool", "hashOf", "(II)I"⟩
abbrev b_P_sum : ByteArray := prog_1_method_28_code
def y_P_sum : MethodName := ⟨"NotePool", "sum", "(II)I"⟩
abbrev b_P_product : ByteArray := prog_1_method_30_code
def y_P_product : MethodName := ⟨"NotePool", "product", "(II)I"⟩
abbrev b_K_init : ByteArray := prog_3_method_1_code
def y_K_init : MethodName := ⟨"NotePool$MarkRow", "<init>", "()V"⟩
abbrev b_S_init : ByteArray := prog_4_method_1_code
def y_S_init : MethodName := ⟨"NotePool$SpendVector", "<init>", "()V"⟩
abbrev b_P_secretOf : ByteArray := prog_1_method_27_code
def y_P_secretOf : MethodName := ⟨"NotePool", "secretOf", "(I)I"⟩
abbrev b_P_hash : ByteArray := prog_1_method_2_code
def y_P_hash : MethodName := ⟨"NotePool", "hash", "(II)I"⟩
abbrev b_P_isNumber : ByteArray := prog_1_method_26_code
def y_P_isNumber : MethodName := ⟨"NotePool", "isNumber", "(I)Z"⟩
abbrev b_P_deposit : ByteArray := prog_1_method_3_code
def y_P_deposit : MethodName := ⟨"NotePool", "deposit", "(III)I"⟩
abbrev b_P_isAccount : ByteArray := prog_1_method_24_code
def y_P_isAccount : MethodName := ⟨"NotePool", "isAccount", "(I)Z"⟩
abbrev b_P_isValue : ByteArray := prog_1_method_25_code
def y_P_isValue : MethodName := ⟨"NotePool", "isValue", "(I)Z"⟩
abbrev b_T_isFull : ByteArray := prog_2_method_2_code
def y_T_isFull : MethodName := ⟨"NotePool$HashTree", "isFull", "()Z"⟩
abbrev b_P_makeNote : ByteArray := prog_1_method_20_code
def y_P_makeNote : MethodName := ⟨"NotePool", "makeNote", "(III)I"⟩
abbrev b_T_append : ByteArray := prog_2_method_3_code
def y_T_append : MethodName := ⟨"NotePool$HashTree", "append", "(I)I"⟩
abbrev b_P_hasNote : ByteArray := prog_1_method_23_code
def y_P_hasNote : MethodName := ⟨"NotePool", "hasNote", "(I)Z"⟩
abbrev b_P_ownerOfKey : ByteArray := prog_1_method_21_code
def y_P_ownerOfKey : MethodName := ⟨"NotePool", "ownerOfKey", "(I)I"⟩
abbrev b_P_load : ByteArray := prog_1_method_4_code
def y_P_load : MethodName := ⟨"NotePool", "load", "(IIIII)I"⟩
abbrev b_S_takeNote : ByteArray := prog_4_method_3_code
def y_S_takeNote : MethodName := ⟨"NotePool$SpendVector", "takeNote", "(III)V"⟩
abbrev b_S_takePayment : ByteArray := prog_4_method_4_code
def y_S_takePayment : MethodName := ⟨"NotePool$SpendVector", "takePayment", "(IIII)V"⟩
abbrev b_S_takePath : ByteArray := prog_4_method_5_code
def y_S_takePath : MethodName := ⟨"NotePool$SpendVector", "takePath", "(ILNotePool$HashTree;)V"⟩
abbrev b_T_nodeAt : ByteArray := prog_2_method_4_code
def y_T_nodeAt : MethodName := ⟨"NotePool$HashTree", "nodeAt", "(II)I"⟩
abbrev b_S_complete : ByteArray := prog_4_method_6_code
def y_S_complete : MethodName := ⟨"NotePool$SpendVector", "complete", "()V"⟩
abbrev b_S_cellOf : ByteArray := prog_4_method_8_code
def y_S_cellOf : MethodName := ⟨"NotePool$SpendVector", "cellOf", "(I)I"⟩
abbrev b_S_cellOnLevel : ByteArray := prog_4_method_9_code
def y_S_cellOnLevel : MethodName := ⟨"NotePool$SpendVector", "cellOnLevel", "(II)I"⟩
abbrev b_S_dueIn : ByteArray := prog_4_method_10_code
def y_S_dueIn : MethodName := ⟨"NotePool$SpendVector", "dueIn", "(I)I"⟩
abbrev b_S_dueInBlock : ByteArray := prog_4_method_14_code
def y_S_dueInBlock : MethodName := ⟨"NotePool$SpendVector", "dueInBlock", "(II)I"⟩
abbrev b_S_dueRight : ByteArray := prog_4_method_13_code
def y_S_dueRight : MethodName := ⟨"NotePool$SpendVector", "dueRight", "(I)I"⟩
abbrev b_S_resultOf : ByteArray := prog_4_method_15_code
def y_S_resultOf : MethodName := ⟨"NotePool$SpendVector", "resultOf", "(I)I"⟩
abbrev b_P_difference : ByteArray := prog_1_method_29_code
def y_P_difference : MethodName := ⟨"NotePool", "difference", "(II)I"⟩
abbrev b_S_dueLeft : ByteArray := prog_4_method_12_code
def y_S_dueLeft : MethodName := ⟨"NotePool$SpendVector", "dueLeft", "(I)I"⟩
abbrev b_S_sumOfBits : ByteArray := prog_4_method_11_code
def y_S_sumOfBits : MethodName := ⟨"NotePool$SpendVector", "sumOfBits", "()I"⟩
abbrev b_S_firstFault : ByteArray := prog_4_method_7_code
def y_S_firstFault : MethodName := ⟨"NotePool$SpendVector", "firstFault", "()I"⟩
abbrev b_P_set : ByteArray := prog_1_method_5_code
def y_P_set : MethodName := ⟨"NotePool", "set", "(II)Z"⟩
abbrev b_S_isCell : ByteArray := prog_4_method_2_code
def y_S_isCell : MethodName := ⟨"NotePool$SpendVector", "isCell", "(I)Z"⟩
abbrev b_P_get : ByteArray := prog_1_method_6_code
def y_P_get : MethodName := ⟨"NotePool", "get", "(I)I"⟩
abbrev b_P_fault : ByteArray := prog_1_method_7_code
def y_P_fault : MethodName := ⟨"NotePool", "fault", "()I"⟩
abbrev b_P_submit : ByteArray := prog_1_method_8_code
def y_P_submit : MethodName := ⟨"NotePool", "submit", "()I"⟩
abbrev b_T_isRecent : ByteArray := prog_2_method_6_code
def y_T_isRecent : MethodName := ⟨"NotePool$HashTree", "isRecent", "(I)Z"⟩
abbrev b_T_recentRoot : ByteArray := prog_2_method_5_code
def y_T_recentRoot : MethodName := ⟨"NotePool$HashTree", "recentRoot", "(I)I"⟩
abbrev b_K_has : ByteArray := prog_3_method_2_code
def y_K_has : MethodName := ⟨"NotePool$MarkRow", "has", "(I)Z"⟩
abbrev b_K_add : ByteArray := prog_3_method_3_code
def y_K_add : MethodName := ⟨"NotePool$MarkRow", "add", "(I)V"⟩
abbrev b_P_notes : ByteArray := prog_1_method_9_code
def y_P_notes : MethodName := ⟨"NotePool", "notes", "()I"⟩
abbrev b_P_commitment : ByteArray := prog_1_method_10_code
def y_P_commitment : MethodName := ⟨"NotePool", "commitment", "(I)I"⟩
abbrev b_P_owner : ByteArray := prog_1_method_11_code
def y_P_owner : MethodName := ⟨"NotePool", "owner", "(I)I"⟩
abbrev b_P_value : ByteArray := prog_1_method_12_code
def y_P_value : MethodName := ⟨"NotePool", "value", "(I)I"⟩
abbrev b_P_unspent : ByteArray := prog_1_method_13_code
def y_P_unspent : MethodName := ⟨"NotePool", "unspent", "(I)Z"⟩
abbrev b_P_markOf : ByteArray := prog_1_method_22_code
def y_P_markOf : MethodName := ⟨"NotePool", "markOf", "(I)I"⟩
abbrev b_P_balance : ByteArray := prog_1_method_14_code
def y_P_balance : MethodName := ⟨"NotePool", "balance", "(I)I"⟩
abbrev b_P_root : ByteArray := prog_1_method_15_code
def y_P_root : MethodName := ⟨"NotePool", "root", "(I)I"⟩
abbrev b_P_node : ByteArray := prog_1_method_16_code
def y_P_node : MethodName := ⟨"NotePool", "node", "(II)I"⟩
abbrev b_P_used : ByteArray := prog_1_method_17_code
def y_P_used : MethodName := ⟨"NotePool", "used", "()I"⟩
abbrev b_P_mark : ByteArray := prog_1_method_18_code
def y_P_mark : MethodName := ⟨"NotePool", "mark", "(I)I"⟩
abbrev b_K_at : ByteArray := prog_3_method_4_code
def y_K_at : MethodName := ⟨"NotePool$MarkRow", "at", "(I)I"⟩
abbrev b_P_pool : ByteArray := prog_1_method_19_code
def y_P_pool : MethodName := ⟨"NotePool", "pool", "()I"⟩
abbrev b_M_init : ByteArray := prog_6_method_1_code
def y_M_init : MethodName := ⟨"NotePoolModel", "<init>", "()V"⟩
abbrev b_M_hash : ByteArray := prog_6_method_8_code
def y_M_hash : MethodName := ⟨"NotePoolModel", "hash", "(II)I"⟩
abbrev b_M_outside : ByteArray := prog_6_method_2_code
def y_M_outside : MethodName := ⟨"NotePoolModel", "outside", "(II)Z"⟩
abbrev b_M_hashed : ByteArray := prog_6_method_7_code
def y_M_hashed : MethodName := ⟨"NotePoolModel", "hashed", "(II)I"⟩
abbrev b_M_salt : ByteArray := prog_6_method_6_code
def y_M_salt : MethodName := ⟨"NotePoolModel", "salt", "(I)I"⟩
abbrev b_M_cubed : ByteArray := prog_6_method_5_code
def y_M_cubed : MethodName := ⟨"NotePoolModel", "cubed", "(J)I"⟩
abbrev b_M_reduced : ByteArray := prog_6_method_3_code
def y_M_reduced : MethodName := ⟨"NotePoolModel", "reduced", "(J)I"⟩
abbrev b_M_times : ByteArray := prog_6_method_4_code
def y_M_times : MethodName := ⟨"NotePoolModel", "times", "(JJ)I"⟩
abbrev b_M_deposit : ByteArray := prog_6_method_15_code
def y_M_deposit : MethodName := ⟨"NotePoolModel", "deposit", "(III)I"⟩
abbrev b_M_accountKey : ByteArray := prog_6_method_9_code
def y_M_accountKey : MethodName := ⟨"NotePoolModel", "accountKey", "(I)I"⟩
abbrev b_M_make : ByteArray := prog_6_method_14_code
def y_M_make : MethodName := ⟨"NotePoolModel", "make", "(III)I"⟩
abbrev b_M_load : ByteArray := prog_6_method_24_code
def y_M_load : MethodName := ⟨"NotePoolModel", "load", "(IIIII)I"⟩
abbrev b_M_ownerOf : ByteArray := prog_6_method_11_code
def y_M_ownerOf : MethodName := ⟨"NotePoolModel", "ownerOf", "(I)I"⟩
abbrev b_M_fill : ByteArray := prog_6_method_23_code
def y_M_fill : MethodName := ⟨"NotePoolModel", "fill", "(I)V"⟩
abbrev b_M_due : ByteArray := prog_6_method_17_code
def y_M_due : MethodName := ⟨"NotePoolModel", "due", "(II)I"⟩
abbrev b_M_input : ByteArray := prog_6_method_16_code
def y_M_input : MethodName := ⟨"NotePoolModel", "input", "(IZ)I"⟩
abbrev b_M_nodeOf : ByteArray := prog_6_method_13_code
def y_M_nodeOf : MethodName := ⟨"NotePoolModel", "nodeOf", "(III)I"⟩
abbrev b_M_leaf : ByteArray := prog_6_method_10_code
def y_M_leaf : MethodName := ⟨"NotePoolModel", "leaf", "(I)I"⟩
abbrev b_M_turned : ByteArray := prog_6_method_18_code
def y_M_turned : MethodName := ⟨"NotePoolModel", "turned", "(IZ)I"⟩
abbrev b_M_fault : ByteArray := prog_6_method_27_code
def y_M_fault : MethodName := ⟨"NotePoolModel", "fault", "()I"⟩
abbrev b_M_holds : ByteArray := prog_6_method_22_code
def y_M_holds : MethodName := ⟨"NotePoolModel", "holds", "(I)Z"⟩
abbrev b_M_bit : ByteArray := prog_6_method_19_code
def y_M_bit : MethodName := ⟨"NotePoolModel", "bit", "(I)Z"⟩
abbrev b_M_sums : ByteArray := prog_6_method_21_code
def y_M_sums : MethodName := ⟨"NotePoolModel", "sums", "()Z"⟩
abbrev b_M_nine : ByteArray := prog_6_method_20_code
def y_M_nine : MethodName := ⟨"NotePoolModel", "nine", "(II)Z"⟩
abbrev b_M_set : ByteArray := prog_6_method_25_code
def y_M_set : MethodName := ⟨"NotePoolModel", "set", "(II)Z"⟩
abbrev b_M_get : ByteArray := prog_6_method_26_code
def y_M_get : MethodName := ⟨"NotePoolModel", "get", "(I)I"⟩
abbrev b_M_submit : ByteArray := prog_6_method_29_code
def y_M_submit : MethodName := ⟨"NotePoolModel", "submit", "()I"⟩
abbrev b_M_isRecent : ByteArray := prog_6_method_28_code
def y_M_isRecent : MethodName := ⟨"NotePoolModel", "isRecent", "(I)Z"⟩
abbrev b_M_root : ByteArray := prog_6_method_36_code
def y_M_root : MethodName := ⟨"NotePoolModel", "root", "(I)I"⟩
abbrev b_M_isUsed : ByteArray := prog_6_method_12_code
def y_M_isUsed : MethodName := ⟨"NotePoolModel", "isUsed", "(I)Z"⟩
abbrev b_M_notes : ByteArray := prog_6_method_30_code
def y_M_notes : MethodName := ⟨"NotePoolModel", "notes", "()I"⟩
abbrev b_M_commitment : ByteArray := prog_6_method_31_code
def y_M_commitment : MethodName := ⟨"NotePoolModel", "commitment", "(I)I"⟩
abbrev b_M_owner : ByteArray := prog_6_method_32_code
def y_M_owner : MethodName := ⟨"NotePoolModel", "owner", "(I)I"⟩
abbrev b_M_value : ByteArray := prog_6_method_33_code
def y_M_value : MethodName := ⟨"NotePoolModel", "value", "(I)I"⟩
abbrev b_M_unspent : ByteArray := prog_6_method_34_code
def y_M_unspent : MethodName := ⟨"NotePoolModel", "unspent", "(I)Z"⟩
abbrev b_M_balance : ByteArray := prog_6_method_35_code
def y_M_balance : MethodName := ⟨"NotePoolModel", "balance", "(I)I"⟩
abbrev b_M_node : ByteArray := prog_6_method_37_code
def y_M_node : MethodName := ⟨"NotePoolModel", "node", "(II)I"⟩
abbrev b_M_used : ByteArray := prog_6_method_38_code
def y_M_used : MethodName := ⟨"NotePoolModel", "used", "()I"⟩
abbrev b_M_mark : ByteArray := prog_6_method_39_code
def y_M_mark : MethodName := ⟨"NotePoolModel", "mark", "(I)I"⟩
abbrev b_M_pool : ByteArray := prog_6_method_40_code
def y_M_pool : MethodName := ⟨"NotePoolModel", "pool", "()I"⟩
def F_P : u_T := fun k => match k with
  | 0 => ("NotePool", "keys", "[I", true)
  | 1 => ("NotePool", "owners", "[I", true)
  | 2 => ("NotePool", "values", "[I", true)
  | 3 => ("NotePool", "nonces", "[I", true)
  | 4 => ("NotePool", "tree", "LNotePool$HashTree;", true)
  | 5 => ("NotePool", "marks", "LNotePool$MarkRow;", true)
  | 6 => ("NotePool", "vector", "LNotePool$SpendVector;", true)
  | _ => ("NotePool", "inPool", "I", false)
def ty_P : Nat → FieldType := fun k => match k with
  | 0 => .array .int
  | 1 => .array .int
  | 2 => .array .int
  | 3 => .array .int
  | 4 => .object "NotePool$HashTree"
  | 5 => .object "NotePool$MarkRow"
  | 6 => .object "NotePool$SpendVector"
  | _ => .int
theorem nm_P : ∀ a, a < 8 → ∀ b, b < 8 → a ≠ b → (F_P a).2.1 ≠ (F_P b).2.1 := by decide +kernel
theorem tyok_P : ∀ k, k < 8 → parseFieldDescriptor (F_P k).2.2.1 = some (ty_P k) := by decide +kernel
def F_T : u_T := fun k => match k with
  | 0 => ("NotePool$HashTree", "nodes", "[I", true)
  | 1 => ("NotePool$HashTree", "rootWithNotes", "[I", true)
  | _ => ("NotePool$HashTree", "count", "I", false)
def ty_T : Nat → FieldType := fun k => match k with
  | 0 => .array .int
  | 1 => .array .int
  | _ => .int
theorem nm_T : ∀ a, a < 3 → ∀ b, b < 3 → a ≠ b → (F_T a).2.1 ≠ (F_T b).2.1 := by decide +kernel
theorem tyok_T : ∀ k, k < 3 → parseFieldDescriptor (F_T k).2.2.1 = some (ty_T k) := by decide +kernel
def F_K : u_T := fun k => match k with
  | 0 => ("NotePool$MarkRow", "sorted", "[I", true)
  | _ => ("NotePool$MarkRow", "count", "I", false)
def ty_K : Nat → FieldType := fun k => match k with
  | 0 => .array .int
  | _ => .int
theorem nm_K : ∀ a, a < 2 → ∀ b, b < 2 → a ≠ b → (F_K a).2.1 ≠ (F_K b).2.1 := by decide +kernel
theorem tyok_K : ∀ k, k < 2 → parseFieldDescriptor (F_K k).2.2.1 = some (ty_K k) := by decide +kernel
def F_S : u_T := fun k => match k with
  | _ => ("NotePool$SpendVector", "cells", "[I", true)
def ty_S : Nat → FieldType := fun k => match k with
  | _ => .array .int
theorem nm_S : ∀ a, a < 1 → ∀ b, b < 1 → a ≠ b → (F_S a).2.1 ≠ (F_S b).2.1 := by decide +kernel
theorem tyok_S : ∀ k, k < 1 → parseFieldDescriptor (F_S k).2.2.1 = some (ty_S k) := by decide +kernel
def F_M : u_T := fun k => match k with
  | 0 => ("NotePoolModel", "count", "I", false)
  | 1 => ("NotePoolModel", "keyOf", "[I", true)
  | 2 => ("NotePoolModel", "valueOf", "[I", true)
  | 3 => ("NotePoolModel", "nonceOf", "[I", true)
  | 4 => ("NotePoolModel", "spent", "I", false)
  | 5 => ("NotePoolModel", "marks", "[I", true)
  | 6 => ("NotePoolModel", "inside", "I", false)
  | 7 => ("NotePoolModel", "cell", "[I", true)
  | _ => ("NotePoolModel", "work", "[I", true)
def ty_M : Nat → FieldType := fun k => match k with
  | 0 => .int
  | 1 => .array .int
  | 2 => .array .int
  | 3 => .array .int
  | 4 => .int
  | 5 => .array .int
  | 6 => .int
  | 7 => .array .int
  | _ => .array .int
theorem nm_M : ∀ a, a < 9 → ∀ b, b < 9 → a ≠ b → (F_M a).2.1 ≠ (F_M b).2.1 := by decide +kernel
theorem tyok_M : ∀ k, k < 9 → parseFieldDescriptor (F_M k).2.2.1 = some (ty_M k) := by decide +kernel
abbrev np_cls : List vw_C := [("NotePool", F_P, 8), ("NotePool$HashTree", F_T, 3), ("NotePool$MarkRow", F_K, 2), ("NotePool$SpendVector", F_S, 1), ("NotePoolModel", F_M, 9)]
/-- the words that are handed on -/
def np_TS : List Cond := lw_tbl.filter goodWord
theorem np_TS_good : ∀ x ∈ np_TS, (x.onTables && x.keeps) = true ∨ ∃ ty, x = .arrayClass ty := fun x hx => good_of_word (List.mem_filter.mp hx).2
theorem np_TS_tbl {x : Cond} (h : x ∈ np_TS) : x ∈ lw_tbl := (List.mem_filter.mp h).1
theorem np_in {x : Cond} (i : Nat) (h : tables_1[i]? = some x) (hg : goodWord x = true) : x ∈ np_TS := List.mem_filter.mpr ⟨List.mem_append_right _ (List.mem_of_getElem? h), hg⟩
theorem np_inS {q : MethodName × Nat} (i : Nat) (h : lw_privs[i]? = some q) (hg : goodWord (.selects q.1.cls q.1 q.1) = true) : Cond.selects q.1.cls q.1 q.1 ∈ np_TS := List.mem_filter.mpr ⟨List.mem_append_left _ (List.mem_map.mpr ⟨q, List.mem_of_getElem? h, rfl⟩), hg⟩
theorem m_0 : (Cond.initialized "NotePoolLaw") ∈ np_TS := np_in 0 (by decide +kernel) (by decide +kernel)
theorem m_1 : (Cond.initialized "NotePool") ∈ np_TS := np_in 1 (by decide +kernel) (by decide +kernel)
theorem m_2 : (Cond.initialized "NotePool$HashTree") ∈ np_TS := np_in 2 (by decide +kernel) (by decide +kernel)
theorem m_3 : (Cond.initialized "NotePool$MarkRow") ∈ np_TS := np_in 3 (by decide +kernel) (by decide +kernel)
theorem m_4 : (Cond.initialized "NotePool$SpendVector") ∈ np_TS := np_in 4 (by decide +kernel) (by decide +kernel)
theorem m_5 : (Cond.initialized "NotePoolModel") ∈ np_TS := np_in 5 (by decide +kernel) (by decide +kernel)
theorem m_6 : (Cond.classLink "NotePoolLaw" 7 "NotePool") ∈ np_TS := np_in 6 (by decide +kernel) (by decide +kernel)
theorem m_7 : (Cond.instantiable "NotePool" 8) ∈ np_TS := np_in 7 (by decide +kernel) (by decide +kernel)
theorem m_8 : (Cond.methodLink "NotePoolLaw" 9 y_P_init) ∈ np_TS := np_in 8 (by decide +kernel) (by decide +kernel)
theorem m_9 : (Cond.instanceMethod y_P_init) ∈ np_TS := np_in 9 (by decide +kernel) (by decide +kernel)
theorem m_10 : (Cond.code y_P_init prog_1_method_1_code 2 none) ∈ np_TS := np_in 10 (by decide +kernel) (by decide +kernel)
theorem m_11 : (Cond.methodLink "NotePool" 1 objectInit) ∈ np_TS := np_in 11 (by decide +kernel) (by decide +kernel)
theorem m_12 : (Cond.instanceMethod objectInit) ∈ np_TS := np_in 12 (by decide +kernel) (by decide +kernel)
theorem m_13 : (Cond.code objectInit ⟨#[0xb1]⟩ 1 none) ∈ np_TS := np_in 13 (by decide +kernel) (by decide +kernel)
theorem m_14 : (Cond.classLink "NotePool" 22 "NotePool$HashTree") ∈ np_TS := np_in 14 (by decide +kernel) (by decide +kernel)
theorem m_15 : (Cond.instantiable "NotePool$HashTree" 3) ∈ np_TS := np_in 15 (by decide +kernel) (by decide +kernel)
theorem m_16 : (Cond.methodLink "NotePool" 24 y_T_init) ∈ np_TS := np_in 16 (by decide +kernel) (by decide +kernel)
theorem m_17 : (Cond.instanceMethod y_T_init) ∈ np_TS := np_in 17 (by decide +kernel) (by decide +kernel)
theorem m_18 : (Cond.code y_T_init prog_2_method_1_code 2 none) ∈ np_TS := np_in 18 (by decide +kernel) (by decide +kernel)
theorem m_19 : (Cond.methodLink "NotePool$HashTree" 3 objectInit) ∈ np_TS := np_in 19 (by decide +kernel) (by decide +kernel)
theorem m_20 : (Cond.methodLink "NotePool$HashTree" 22 y_T_hashUp) ∈ np_TS := np_in 20 (by decide +kernel) (by decide +kernel)
theorem m_22 : (Cond.instanceMethod y_T_hashUp) ∈ np_TS := np_in 22 (by decide +kernel) (by decide +kernel)
theorem m_23 : (Cond.code y_T_hashUp prog_2_method_7_code 2 none) ∈ np_TS := np_in 23 (by decide +kernel) (by decide +kernel)
theorem m_25 : (Cond.static y_P_hashOf) ∈ np_TS := np_in 25 (by decide +kernel) (by decide +kernel)
theorem m_26 : (Cond.code y_P_hashOf prog_1_method_31_code 5 (some .int)) ∈ np_TS := np_in 26 (by decide +kernel) (by decide +kernel)
theorem m_27 : (Cond.fieldLink "NotePool" 136 "NotePool" "SALTS" "[I") ∈ np_TS := np_in 27 (by decide +kernel) (by decide +kernel)
theorem m_29 : (Cond.methodLink "NotePool" 139 y_P_sum) ∈ np_TS := np_in 29 (by decide +kernel) (by decide +kernel)
theorem m_30 : (Cond.static y_P_sum) ∈ np_TS := np_in 30 (by decide +kernel) (by decide +kernel)
theorem m_31 : (Cond.code y_P_sum prog_1_method_28_code 2 (some .int)) ∈ np_TS := np_in 31 (by decide +kernel) (by decide +kernel)
theorem m_32 : (Cond.constant "NotePool" 133 (65537 : Int32)) ∈ np_TS := np_in 32 (by decide +kernel) (by decide +kernel)
theorem m_33 : (Cond.methodLink "NotePool" 142 y_P_product) ∈ np_TS := np_in 33 (by decide +kernel) (by decide +kernel)
theorem m_34 : (Cond.static y_P_product) ∈ np_TS := np_in 34 (by decide +kernel) (by decide +kernel)
theorem m_35 : (Cond.code y_P_product prog_1_method_30_code 2 (some .int)) ∈ np_TS := np_in 35 (by decide +kernel) (by decide +kernel)
theorem m_36 : (Cond.constantLong "NotePool" 134 (65537 : Int64)) ∈ np_TS := np_in 36 (by decide +kernel) (by decide +kernel)
theorem m_37 : (Cond.fieldLink "NotePool$HashTree" 9 "NotePool$HashTree" "nodes" "[I") ∈ np_TS := np_in 37 (by decide +kernel) (by decide +kernel)
theorem m_38 : (Cond.fieldLink "NotePool$HashTree" 15 "NotePool$HashTree" "rootWithNotes" "[I") ∈ np_TS := np_in 38 (by decide +kernel) (by decide +kernel)
theorem m_39 : (Cond.fieldLink "NotePool$HashTree" 18 "NotePool$HashTree" "count" "I") ∈ np_TS := np_in 39 (by decide +kernel) (by decide +kernel)
theorem m_41 : (Cond.laysFinal "NotePool$HashTree" "NotePool$HashTree" "nodes" "[I") ∈ np_TS := np_in 41 (by decide +kernel) (by decide +kernel)
theorem m_43 : (Cond.laysFinal "NotePool$HashTree" "NotePool$HashTree" "rootWithNotes" "[I") ∈ np_TS := np_in 43 (by decide +kernel) (by decide +kernel)
theorem m_45 : (Cond.lays "NotePool$HashTree" "NotePool$HashTree" "count" "I") ∈ np_TS := np_in 45 (by decide +kernel) (by decide +kernel)
theorem m_48 : (Cond.arrayClass .int) ∈ np_TS := np_in 48 (by decide +kernel) (by decide +kernel)
theorem m_49 : (Cond.classLink "NotePool" 29 "NotePool$MarkRow") ∈ np_TS := np_in 49 (by decide +kernel) (by decide +kernel)
theorem m_50 : (Cond.instantiable "NotePool$MarkRow" 2) ∈ np_TS := np_in 50 (by decide +kernel) (by decide +kernel)
theorem m_52 : (Cond.instanceMethod y_K_init) ∈ np_TS := np_in 52 (by decide +kernel) (by decide +kernel)
theorem m_53 : (Cond.code y_K_init prog_3_method_1_code 1 none) ∈ np_TS := np_in 53 (by decide +kernel) (by decide +kernel)
theorem m_54 : (Cond.methodLink "NotePool$MarkRow" 3 objectInit) ∈ np_TS := np_in 54 (by decide +kernel) (by decide +kernel)
theorem m_55 : (Cond.fieldLink "NotePool$MarkRow" 9 "NotePool$MarkRow" "sorted" "[I") ∈ np_TS := np_in 55 (by decide +kernel) (by decide +kernel)
theorem m_56 : (Cond.fieldLink "NotePool$MarkRow" 15 "NotePool$MarkRow" "count" "I") ∈ np_TS := np_in 56 (by decide +kernel) (by decide +kernel)
theorem m_58 : (Cond.laysFinal "NotePool$MarkRow" "NotePool$MarkRow" "sorted" "[I") ∈ np_TS := np_in 58 (by decide +kernel) (by decide +kernel)
theorem m_60 : (Cond.lays "NotePool$MarkRow" "NotePool$MarkRow" "count" "I") ∈ np_TS := np_in 60 (by decide +kernel) (by decide +kernel)
theorem m_63 : (Cond.classLink "NotePool" 36 "NotePool$SpendVector") ∈ np_TS := np_in 63 (by decide +kernel) (by decide +kernel)
theorem m_64 : (Cond.instantiable "NotePool$SpendVector" 1) ∈ np_TS := np_in 64 (by decide +kernel) (by decide +kernel)
theorem m_65 : (Cond.methodLink "NotePool" 38 y_S_init) ∈ np_TS := np_in 65 (by decide +kernel) (by decide +kernel)
theorem m_66 : (Cond.instanceMethod y_S_init) ∈ np_TS := np_in 66 (by decide +kernel) (by decide +kernel)
theorem m_67 : (Cond.code y_S_init prog_4_method_1_code 1 none) ∈ np_TS := np_in 67 (by decide +kernel) (by decide +kernel)
theorem m_68 : (Cond.methodLink "NotePool$SpendVector" 5 objectInit) ∈ np_TS := np_in 68 (by decide +kernel) (by decide +kernel)
theorem m_69 : (Cond.fieldLink "NotePool$SpendVector" 11 "NotePool$SpendVector" "cells" "[I") ∈ np_TS := np_in 69 (by decide +kernel) (by decide +kernel)
theorem m_71 : (Cond.laysFinal "NotePool$SpendVector" "NotePool$SpendVector" "cells" "[I") ∈ np_TS := np_in 71 (by decide +kernel) (by decide +kernel)
theorem m_74 : (Cond.methodLink "NotePool" 47 y_P_secretOf) ∈ np_TS := np_in 74 (by decide +kernel) (by decide +kernel)
theorem m_75 : (Cond.static y_P_secretOf) ∈ np_TS := np_in 75 (by decide +kernel) (by decide +kernel)
theorem m_76 : (Cond.code y_P_secretOf prog_1_method_27_code 1 (some .int)) ∈ np_TS := np_in 76 (by decide +kernel) (by decide +kernel)
theorem m_77 : (Cond.methodLink "NotePool" 51 y_P_hashOf) ∈ np_TS := np_in 77 (by decide +kernel) (by decide +kernel)
theorem m_78 : (Cond.fieldLink "NotePool" 9 "NotePool" "keys" "[I") ∈ np_TS := np_in 78 (by decide +kernel) (by decide +kernel)
theorem m_79 : (Cond.fieldLink "NotePool" 13 "NotePool" "owners" "[I") ∈ np_TS := np_in 79 (by decide +kernel) (by decide +kernel)
theorem m_80 : (Cond.fieldLink "NotePool" 16 "NotePool" "values" "[I") ∈ np_TS := np_in 80 (by decide +kernel) (by decide +kernel)
theorem m_81 : (Cond.fieldLink "NotePool" 19 "NotePool" "nonces" "[I") ∈ np_TS := np_in 81 (by decide +kernel) (by decide +kernel)
theorem m_82 : (Cond.fieldLink "NotePool" 25 "NotePool" "tree" "LNotePool$HashTree;") ∈ np_TS := np_in 82 (by decide +kernel) (by decide +kernel)
theorem m_83 : (Cond.fieldLink "NotePool" 32 "NotePool" "marks" "LNotePool$MarkRow;") ∈ np_TS := np_in 83 (by decide +kernel) (by decide +kernel)
theorem m_84 : (Cond.fieldLink "NotePool" 39 "NotePool" "vector" "LNotePool$SpendVector;") ∈ np_TS := np_in 84 (by decide +kernel) (by decide +kernel)
theorem m_85 : (Cond.fieldLink "NotePool" 43 "NotePool" "inPool" "I") ∈ np_TS := np_in 85 (by decide +kernel) (by decide +kernel)
theorem m_86 : (Cond.laysFinal "NotePool" "NotePool" "keys" "[I") ∈ np_TS := np_in 86 (by decide +kernel) (by decide +kernel)
theorem m_88 : (Cond.laysFinal "NotePool" "NotePool" "owners" "[I") ∈ np_TS := np_in 88 (by decide +kernel) (by decide +kernel)
theorem m_90 : (Cond.laysFinal "NotePool" "NotePool" "values" "[I") ∈ np_TS := np_in 90 (by decide +kernel) (by decide +kernel)
theorem m_92 : (Cond.laysFinal "NotePool" "NotePool" "nonces" "[I") ∈ np_TS := np_in 92 (by decide +kernel) (by decide +kernel)
theorem m_94 : (Cond.laysFinal "NotePool" "NotePool" "tree" "LNotePool$HashTree;") ∈ np_TS := np_in 94 (by decide +kernel) (by decide +kernel)
theorem m_96 : (Cond.laysFinal "NotePool" "NotePool" "marks" "LNotePool$MarkRow;") ∈ np_TS := np_in 96 (by decide +kernel) (by decide +kernel)
theorem m_98 : (Cond.laysFinal "NotePool" "NotePool" "vector" "LNotePool$SpendVector;") ∈ np_TS := np_in 98 (by decide +kernel) (by decide +kernel)
theorem m_100 : (Cond.lays "NotePool" "NotePool" "inPool" "I") ∈ np_TS := np_in 100 (by decide +kernel) (by decide +kernel)
theorem m_103 : (Cond.methodLink "NotePoolLaw" 13 y_P_hash) ∈ np_TS := np_in 103 (by decide +kernel) (by decide +kernel)
theorem m_104 : (Cond.instanceMethod y_P_hash) ∈ np_TS := np_in 104 (by decide +kernel) (by decide +kernel)
theorem m_105 : (Cond.selects "NotePool" y_P_hash y_P_hash) ∈ np_TS := np_in 105 (by decide +kernel) (by decide +kernel)
theorem m_106 : (Cond.code y_P_hash prog_1_method_2_code 3 (some .int)) ∈ np_TS := np_in 106 (by decide +kernel) (by decide +kernel)
theorem m_107 : (Cond.methodLink "NotePool" 55 y_P_isNumber) ∈ np_TS := np_in 107 (by decide +kernel) (by decide +kernel)
theorem m_108 : (Cond.static y_P_isNumber) ∈ np_TS := np_in 108 (by decide +kernel) (by decide +kernel)
theorem m_109 : (Cond.code y_P_isNumber prog_1_method_26_code 1 (some .boolean)) ∈ np_TS := np_in 109 (by decide +kernel) (by decide +kernel)
theorem m_110 : (Cond.methodLink "NotePoolLaw" 18 y_P_deposit) ∈ np_TS := np_in 110 (by decide +kernel) (by decide +kernel)
theorem m_111 : (Cond.instanceMethod y_P_deposit) ∈ np_TS := np_in 111 (by decide +kernel) (by decide +kernel)
theorem m_112 : (Cond.selects "NotePool" y_P_deposit y_P_deposit) ∈ np_TS := np_in 112 (by decide +kernel) (by decide +kernel)
theorem m_113 : (Cond.code y_P_deposit prog_1_method_3_code 4 (some .int)) ∈ np_TS := np_in 113 (by decide +kernel) (by decide +kernel)
theorem m_114 : (Cond.methodLink "NotePool" 59 y_P_isAccount) ∈ np_TS := np_in 114 (by decide +kernel) (by decide +kernel)
theorem m_115 : (Cond.static y_P_isAccount) ∈ np_TS := np_in 115 (by decide +kernel) (by decide +kernel)
theorem m_116 : (Cond.code y_P_isAccount prog_1_method_24_code 1 (some .boolean)) ∈ np_TS := np_in 116 (by decide +kernel) (by decide +kernel)
theorem m_117 : (Cond.methodLink "NotePool" 62 y_P_isValue) ∈ np_TS := np_in 117 (by decide +kernel) (by decide +kernel)
theorem m_118 : (Cond.static y_P_isValue) ∈ np_TS := np_in 118 (by decide +kernel) (by decide +kernel)
theorem m_119 : (Cond.code y_P_isValue prog_1_method_25_code 1 (some .boolean)) ∈ np_TS := np_in 119 (by decide +kernel) (by decide +kernel)
theorem m_120 : (Cond.methodLink "NotePool" 65 y_T_isFull) ∈ np_TS := np_in 120 (by decide +kernel) (by decide +kernel)
theorem m_121 : (Cond.instanceMethod y_T_isFull) ∈ np_TS := np_in 121 (by decide +kernel) (by decide +kernel)
theorem m_122 : (Cond.selects "NotePool$HashTree" y_T_isFull y_T_isFull) ∈ np_TS := np_in 122 (by decide +kernel) (by decide +kernel)
theorem m_123 : (Cond.code y_T_isFull prog_2_method_2_code 1 (some .boolean)) ∈ np_TS := np_in 123 (by decide +kernel) (by decide +kernel)
theorem m_124 : (Cond.methodLink "NotePool" 69 y_P_makeNote) ∈ np_TS := np_in 124 (by decide +kernel) (by decide +kernel)
theorem m_126 : (Cond.instanceMethod y_P_makeNote) ∈ np_TS := np_in 126 (by decide +kernel) (by decide +kernel)
theorem m_127 : (Cond.code y_P_makeNote prog_1_method_20_code 5 (some .int)) ∈ np_TS := np_in 127 (by decide +kernel) (by decide +kernel)
theorem m_128 : (Cond.methodLink "NotePool" 127 y_T_append) ∈ np_TS := np_in 128 (by decide +kernel) (by decide +kernel)
theorem m_129 : (Cond.instanceMethod y_T_append) ∈ np_TS := np_in 129 (by decide +kernel) (by decide +kernel)
theorem m_130 : (Cond.selects "NotePool$HashTree" y_T_append y_T_append) ∈ np_TS := np_in 130 (by decide +kernel) (by decide +kernel)
theorem m_131 : (Cond.code y_T_append prog_2_method_3_code 4 (some .int)) ∈ np_TS := np_in 131 (by decide +kernel) (by decide +kernel)
theorem m_132 : (Cond.methodLink "NotePool$HashTree" 26 y_T_isFull) ∈ np_TS := np_in 132 (by decide +kernel) (by decide +kernel)
theorem m_133 : (Cond.methodLink "NotePool" 73 y_P_hasNote) ∈ np_TS := np_in 133 (by decide +kernel) (by decide +kernel)
theorem m_135 : (Cond.instanceMethod y_P_hasNote) ∈ np_TS := np_in 135 (by decide +kernel) (by decide +kernel)
theorem m_136 : (Cond.code y_P_hasNote prog_1_method_23_code 2 (some .boolean)) ∈ np_TS := np_in 136 (by decide +kernel) (by decide +kernel)
theorem m_137 : (Cond.methodLink "NotePool" 130 y_P_ownerOfKey) ∈ np_TS := np_in 137 (by decide +kernel) (by decide +kernel)
theorem m_139 : (Cond.instanceMethod y_P_ownerOfKey) ∈ np_TS := np_in 139 (by decide +kernel) (by decide +kernel)
theorem m_140 : (Cond.code y_P_ownerOfKey prog_1_method_21_code 3 (some .int)) ∈ np_TS := np_in 140 (by decide +kernel) (by decide +kernel)
theorem m_141 : (Cond.methodLink "NotePoolLaw" 23 y_P_load) ∈ np_TS := np_in 141 (by decide +kernel) (by decide +kernel)
theorem m_142 : (Cond.instanceMethod y_P_load) ∈ np_TS := np_in 142 (by decide +kernel) (by decide +kernel)
theorem m_143 : (Cond.selects "NotePool" y_P_load y_P_load) ∈ np_TS := np_in 143 (by decide +kernel) (by decide +kernel)
theorem m_144 : (Cond.code y_P_load prog_1_method_4_code 6 (some .int)) ∈ np_TS := np_in 144 (by decide +kernel) (by decide +kernel)
theorem m_145 : (Cond.methodLink "NotePool" 76 y_S_takeNote) ∈ np_TS := np_in 145 (by decide +kernel) (by decide +kernel)
theorem m_146 : (Cond.instanceMethod y_S_takeNote) ∈ np_TS := np_in 146 (by decide +kernel) (by decide +kernel)
theorem m_147 : (Cond.selects "NotePool$SpendVector" y_S_takeNote y_S_takeNote) ∈ np_TS := np_in 147 (by decide +kernel) (by decide +kernel)
theorem m_148 : (Cond.code y_S_takeNote prog_4_method_3_code 4 none) ∈ np_TS := np_in 148 (by decide +kernel) (by decide +kernel)
theorem m_149 : (Cond.methodLink "NotePool" 80 y_S_takePayment) ∈ np_TS := np_in 149 (by decide +kernel) (by decide +kernel)
theorem m_150 : (Cond.instanceMethod y_S_takePayment) ∈ np_TS := np_in 150 (by decide +kernel) (by decide +kernel)
theorem m_151 : (Cond.selects "NotePool$SpendVector" y_S_takePayment y_S_takePayment) ∈ np_TS := np_in 151 (by decide +kernel) (by decide +kernel)
theorem m_152 : (Cond.code y_S_takePayment prog_4_method_4_code 6 none) ∈ np_TS := np_in 152 (by decide +kernel) (by decide +kernel)
theorem m_153 : (Cond.methodLink "NotePool" 84 y_S_takePath) ∈ np_TS := np_in 153 (by decide +kernel) (by decide +kernel)
theorem m_154 : (Cond.instanceMethod y_S_takePath) ∈ np_TS := np_in 154 (by decide +kernel) (by decide +kernel)
theorem m_155 : (Cond.selects "NotePool$SpendVector" y_S_takePath y_S_takePath) ∈ np_TS := np_in 155 (by decide +kernel) (by decide +kernel)
theorem m_156 : (Cond.code y_S_takePath prog_4_method_5_code 4 none) ∈ np_TS := np_in 156 (by decide +kernel) (by decide +kernel)
theorem m_157 : (Cond.methodLink "NotePool$SpendVector" 15 y_T_nodeAt) ∈ np_TS := np_in 157 (by decide +kernel) (by decide +kernel)
theorem m_158 : (Cond.instanceMethod y_T_nodeAt) ∈ np_TS := np_in 158 (by decide +kernel) (by decide +kernel)
theorem m_159 : (Cond.selects "NotePool$HashTree" y_T_nodeAt y_T_nodeAt) ∈ np_TS := np_in 159 (by decide +kernel) (by decide +kernel)
theorem m_160 : (Cond.code y_T_nodeAt prog_2_method_4_code 4 (some .int)) ∈ np_TS := np_in 160 (by decide +kernel) (by decide +kernel)
theorem m_161 : (Cond.methodLink "NotePool" 88 y_S_complete) ∈ np_TS := np_in 161 (by decide +kernel) (by decide +kernel)
theorem m_162 : (Cond.instanceMethod y_S_complete) ∈ np_TS := np_in 162 (by decide +kernel) (by decide +kernel)
theorem m_163 : (Cond.selects "NotePool$SpendVector" y_S_complete y_S_complete) ∈ np_TS := np_in 163 (by decide +kernel) (by decide +kernel)
theorem m_164 : (Cond.code y_S_complete prog_4_method_6_code 3 none) ∈ np_TS := np_in 164 (by decide +kernel) (by decide +kernel)
theorem m_165 : (Cond.methodLink "NotePool$SpendVector" 21 y_S_cellOf) ∈ np_TS := np_in 165 (by decide +kernel) (by decide +kernel)
theorem m_166 : (Cond.static y_S_cellOf) ∈ np_TS := np_in 166 (by decide +kernel) (by decide +kernel)
theorem m_167 : (Cond.code y_S_cellOf prog_4_method_8_code 1 (some .int)) ∈ np_TS := np_in 167 (by decide +kernel) (by decide +kernel)
theorem m_168 : (Cond.methodLink "NotePool$SpendVector" 28 y_S_cellOnLevel) ∈ np_TS := np_in 168 (by decide +kernel) (by decide +kernel)
theorem m_169 : (Cond.static y_S_cellOnLevel) ∈ np_TS := np_in 169 (by decide +kernel) (by decide +kernel)
theorem m_170 : (Cond.code y_S_cellOnLevel prog_4_method_9_code 2 (some .int)) ∈ np_TS := np_in 170 (by decide +kernel) (by decide +kernel)
theorem m_171 : (Cond.methodLink "NotePool$SpendVector" 25 y_S_dueIn) ∈ np_TS := np_in 171 (by decide +kernel) (by decide +kernel)
theorem m_173 : (Cond.instanceMethod y_S_dueIn) ∈ np_TS := np_in 173 (by decide +kernel) (by decide +kernel)
theorem m_174 : (Cond.code y_S_dueIn prog_4_method_10_code 2 (some .int)) ∈ np_TS := np_in 174 (by decide +kernel) (by decide +kernel)
theorem m_175 : (Cond.methodLink "NotePool$SpendVector" 31 y_S_dueInBlock) ∈ np_TS := np_in 175 (by decide +kernel) (by decide +kernel)
theorem m_177 : (Cond.instanceMethod y_S_dueInBlock) ∈ np_TS := np_in 177 (by decide +kernel) (by decide +kernel)
theorem m_178 : (Cond.code y_S_dueInBlock prog_4_method_14_code 9 (some .int)) ∈ np_TS := np_in 178 (by decide +kernel) (by decide +kernel)
theorem m_179 : (Cond.fieldLink "NotePool$SpendVector" 56 "NotePool$SpendVector" "FIRST_INPUTS" "[I") ∈ np_TS := np_in 179 (by decide +kernel) (by decide +kernel)
theorem m_181 : (Cond.fieldLink "NotePool$SpendVector" 59 "NotePool$SpendVector" "SECOND_INPUTS" "[I") ∈ np_TS := np_in 181 (by decide +kernel) (by decide +kernel)
theorem m_186 : (Cond.methodLink "NotePool$SpendVector" 37 y_S_dueRight) ∈ np_TS := np_in 186 (by decide +kernel) (by decide +kernel)
theorem m_188 : (Cond.instanceMethod y_S_dueRight) ∈ np_TS := np_in 188 (by decide +kernel) (by decide +kernel)
theorem m_189 : (Cond.code y_S_dueRight prog_4_method_13_code 3 (some .int)) ∈ np_TS := np_in 189 (by decide +kernel) (by decide +kernel)
theorem m_190 : (Cond.methodLink "NotePool$SpendVector" 50 y_S_resultOf) ∈ np_TS := np_in 190 (by decide +kernel) (by decide +kernel)
theorem m_192 : (Cond.instanceMethod y_S_resultOf) ∈ np_TS := np_in 192 (by decide +kernel) (by decide +kernel)
theorem m_193 : (Cond.code y_S_resultOf prog_4_method_15_code 2 (some .int)) ∈ np_TS := np_in 193 (by decide +kernel) (by decide +kernel)
theorem m_195 : (Cond.static y_P_difference) ∈ np_TS := np_in 195 (by decide +kernel) (by decide +kernel)
theorem m_196 : (Cond.code y_P_difference prog_1_method_29_code 2 (some .int)) ∈ np_TS := np_in 196 (by decide +kernel) (by decide +kernel)
theorem m_197 : (Cond.methodLink "NotePool$SpendVector" 40 y_S_dueLeft) ∈ np_TS := np_in 197 (by decide +kernel) (by decide +kernel)
theorem m_199 : (Cond.instanceMethod y_S_dueLeft) ∈ np_TS := np_in 199 (by decide +kernel) (by decide +kernel)
theorem m_200 : (Cond.code y_S_dueLeft prog_4_method_12_code 4 (some .int)) ∈ np_TS := np_in 200 (by decide +kernel) (by decide +kernel)
theorem m_201 : (Cond.methodLink "NotePool$SpendVector" 43 y_S_sumOfBits) ∈ np_TS := np_in 201 (by decide +kernel) (by decide +kernel)
theorem m_203 : (Cond.instanceMethod y_S_sumOfBits) ∈ np_TS := np_in 203 (by decide +kernel) (by decide +kernel)
theorem m_204 : (Cond.code y_S_sumOfBits prog_4_method_11_code 3 (some .int)) ∈ np_TS := np_in 204 (by decide +kernel) (by decide +kernel)
theorem m_205 : (Cond.methodLink "NotePool" 91 y_S_firstFault) ∈ np_TS := np_in 205 (by decide +kernel) (by decide +kernel)
theorem m_206 : (Cond.instanceMethod y_S_firstFault) ∈ np_TS := np_in 206 (by decide +kernel) (by decide +kernel)
theorem m_207 : (Cond.selects "NotePool$SpendVector" y_S_firstFault y_S_firstFault) ∈ np_TS := np_in 207 (by decide +kernel) (by decide +kernel)
theorem m_208 : (Cond.code y_S_firstFault prog_4_method_7_code 3 (some .int)) ∈ np_TS := np_in 208 (by decide +kernel) (by decide +kernel)
theorem m_209 : (Cond.methodLink "NotePoolLaw" 28 y_P_set) ∈ np_TS := np_in 209 (by decide +kernel) (by decide +kernel)
theorem m_210 : (Cond.instanceMethod y_P_set) ∈ np_TS := np_in 210 (by decide +kernel) (by decide +kernel)
theorem m_211 : (Cond.selects "NotePool" y_P_set y_P_set) ∈ np_TS := np_in 211 (by decide +kernel) (by decide +kernel)
theorem m_212 : (Cond.code y_P_set prog_1_method_5_code 3 (some .boolean)) ∈ np_TS := np_in 212 (by decide +kernel) (by decide +kernel)
theorem m_213 : (Cond.methodLink "NotePool" 95 y_S_isCell) ∈ np_TS := np_in 213 (by decide +kernel) (by decide +kernel)
theorem m_214 : (Cond.static y_S_isCell) ∈ np_TS := np_in 214 (by decide +kernel) (by decide +kernel)
theorem m_215 : (Cond.code y_S_isCell prog_4_method_2_code 1 (some .boolean)) ∈ np_TS := np_in 215 (by decide +kernel) (by decide +kernel)
theorem m_216 : (Cond.methodLink "NotePoolLaw" 33 y_P_get) ∈ np_TS := np_in 216 (by decide +kernel) (by decide +kernel)
theorem m_217 : (Cond.instanceMethod y_P_get) ∈ np_TS := np_in 217 (by decide +kernel) (by decide +kernel)
theorem m_218 : (Cond.selects "NotePool" y_P_get y_P_get) ∈ np_TS := np_in 218 (by decide +kernel) (by decide +kernel)
theorem m_219 : (Cond.code y_P_get prog_1_method_6_code 2 (some .int)) ∈ np_TS := np_in 219 (by decide +kernel) (by decide +kernel)
theorem m_220 : (Cond.methodLink "NotePoolLaw" 38 y_P_fault) ∈ np_TS := np_in 220 (by decide +kernel) (by decide +kernel)
theorem m_221 : (Cond.instanceMethod y_P_fault) ∈ np_TS := np_in 221 (by decide +kernel) (by decide +kernel)
theorem m_222 : (Cond.selects "NotePool" y_P_fault y_P_fault) ∈ np_TS := np_in 222 (by decide +kernel) (by decide +kernel)
theorem m_223 : (Cond.code y_P_fault prog_1_method_7_code 1 (some .int)) ∈ np_TS := np_in 223 (by decide +kernel) (by decide +kernel)
theorem m_224 : (Cond.methodLink "NotePoolLaw" 43 y_P_submit) ∈ np_TS := np_in 224 (by decide +kernel) (by decide +kernel)
theorem m_225 : (Cond.instanceMethod y_P_submit) ∈ np_TS := np_in 225 (by decide +kernel) (by decide +kernel)
theorem m_226 : (Cond.selects "NotePool" y_P_submit y_P_submit) ∈ np_TS := np_in 226 (by decide +kernel) (by decide +kernel)
theorem m_227 : (Cond.code y_P_submit prog_1_method_8_code 2 (some .int)) ∈ np_TS := np_in 227 (by decide +kernel) (by decide +kernel)
theorem m_228 : (Cond.methodLink "NotePool" 101 y_T_isRecent) ∈ np_TS := np_in 228 (by decide +kernel) (by decide +kernel)
theorem m_229 : (Cond.instanceMethod y_T_isRecent) ∈ np_TS := np_in 229 (by decide +kernel) (by decide +kernel)
theorem m_230 : (Cond.selects "NotePool$HashTree" y_T_isRecent y_T_isRecent) ∈ np_TS := np_in 230 (by decide +kernel) (by decide +kernel)
theorem m_231 : (Cond.code y_T_isRecent prog_2_method_6_code 3 (some .boolean)) ∈ np_TS := np_in 231 (by decide +kernel) (by decide +kernel)
theorem m_232 : (Cond.methodLink "NotePool$HashTree" 30 y_T_recentRoot) ∈ np_TS := np_in 232 (by decide +kernel) (by decide +kernel)
theorem m_233 : (Cond.instanceMethod y_T_recentRoot) ∈ np_TS := np_in 233 (by decide +kernel) (by decide +kernel)
theorem m_234 : (Cond.selects "NotePool$HashTree" y_T_recentRoot y_T_recentRoot) ∈ np_TS := np_in 234 (by decide +kernel) (by decide +kernel)
theorem m_235 : (Cond.code y_T_recentRoot prog_2_method_5_code 2 (some .int)) ∈ np_TS := np_in 235 (by decide +kernel) (by decide +kernel)
theorem m_236 : (Cond.methodLink "NotePool" 104 y_K_has) ∈ np_TS := np_in 236 (by decide +kernel) (by decide +kernel)
theorem m_237 : (Cond.instanceMethod y_K_has) ∈ np_TS := np_in 237 (by decide +kernel) (by decide +kernel)
theorem m_238 : (Cond.selects "NotePool$MarkRow" y_K_has y_K_has) ∈ np_TS := np_in 238 (by decide +kernel) (by decide +kernel)
theorem m_239 : (Cond.code y_K_has prog_3_method_2_code 3 (some .boolean)) ∈ np_TS := np_in 239 (by decide +kernel) (by decide +kernel)
theorem m_240 : (Cond.methodLink "NotePool" 107 y_K_add) ∈ np_TS := np_in 240 (by decide +kernel) (by decide +kernel)
theorem m_241 : (Cond.instanceMethod y_K_add) ∈ np_TS := np_in 241 (by decide +kernel) (by decide +kernel)
theorem m_242 : (Cond.selects "NotePool$MarkRow" y_K_add y_K_add) ∈ np_TS := np_in 242 (by decide +kernel) (by decide +kernel)
theorem m_243 : (Cond.code y_K_add prog_3_method_3_code 3 none) ∈ np_TS := np_in 243 (by decide +kernel) (by decide +kernel)
theorem m_244 : (Cond.methodLink "NotePoolLaw" 47 y_P_notes) ∈ np_TS := np_in 244 (by decide +kernel) (by decide +kernel)
theorem m_245 : (Cond.instanceMethod y_P_notes) ∈ np_TS := np_in 245 (by decide +kernel) (by decide +kernel)
theorem m_246 : (Cond.selects "NotePool" y_P_notes y_P_notes) ∈ np_TS := np_in 246 (by decide +kernel) (by decide +kernel)
theorem m_247 : (Cond.code y_P_notes prog_1_method_9_code 1 (some .int)) ∈ np_TS := np_in 247 (by decide +kernel) (by decide +kernel)
theorem m_248 : (Cond.methodLink "NotePoolLaw" 51 y_P_commitment) ∈ np_TS := np_in 248 (by decide +kernel) (by decide +kernel)
theorem m_249 : (Cond.instanceMethod y_P_commitment) ∈ np_TS := np_in 249 (by decide +kernel) (by decide +kernel)
theorem m_250 : (Cond.selects "NotePool" y_P_commitment y_P_commitment) ∈ np_TS := np_in 250 (by decide +kernel) (by decide +kernel)
theorem m_251 : (Cond.code y_P_commitment prog_1_method_10_code 2 (some .int)) ∈ np_TS := np_in 251 (by decide +kernel) (by decide +kernel)
theorem m_252 : (Cond.methodLink "NotePool" 114 y_T_nodeAt) ∈ np_TS := np_in 252 (by decide +kernel) (by decide +kernel)
theorem m_253 : (Cond.methodLink "NotePoolLaw" 55 y_P_owner) ∈ np_TS := np_in 253 (by decide +kernel) (by decide +kernel)
theorem m_254 : (Cond.instanceMethod y_P_owner) ∈ np_TS := np_in 254 (by decide +kernel) (by decide +kernel)
theorem m_255 : (Cond.selects "NotePool" y_P_owner y_P_owner) ∈ np_TS := np_in 255 (by decide +kernel) (by decide +kernel)
theorem m_256 : (Cond.code y_P_owner prog_1_method_11_code 2 (some .int)) ∈ np_TS := np_in 256 (by decide +kernel) (by decide +kernel)
theorem m_257 : (Cond.methodLink "NotePoolLaw" 59 y_P_value) ∈ np_TS := np_in 257 (by decide +kernel) (by decide +kernel)
theorem m_258 : (Cond.instanceMethod y_P_value) ∈ np_TS := np_in 258 (by decide +kernel) (by decide +kernel)
theorem m_259 : (Cond.selects "NotePool" y_P_value y_P_value) ∈ np_TS := np_in 259 (by decide +kernel) (by decide +kernel)
theorem m_260 : (Cond.code y_P_value prog_1_method_12_code 2 (some .int)) ∈ np_TS := np_in 260 (by decide +kernel) (by decide +kernel)
theorem m_261 : (Cond.methodLink "NotePoolLaw" 63 y_P_unspent) ∈ np_TS := np_in 261 (by decide +kernel) (by decide +kernel)
theorem m_262 : (Cond.instanceMethod y_P_unspent) ∈ np_TS := np_in 262 (by decide +kernel) (by decide +kernel)
theorem m_263 : (Cond.selects "NotePool" y_P_unspent y_P_unspent) ∈ np_TS := np_in 263 (by decide +kernel) (by decide +kernel)
theorem m_264 : (Cond.code y_P_unspent prog_1_method_13_code 2 (some .boolean)) ∈ np_TS := np_in 264 (by decide +kernel) (by decide +kernel)
theorem m_265 : (Cond.methodLink "NotePool" 117 y_P_markOf) ∈ np_TS := np_in 265 (by decide +kernel) (by decide +kernel)
theorem m_267 : (Cond.instanceMethod y_P_markOf) ∈ np_TS := np_in 267 (by decide +kernel) (by decide +kernel)
theorem m_268 : (Cond.code y_P_markOf prog_1_method_22_code 2 (some .int)) ∈ np_TS := np_in 268 (by decide +kernel) (by decide +kernel)
theorem m_269 : (Cond.methodLink "NotePoolLaw" 68 y_P_balance) ∈ np_TS := np_in 269 (by decide +kernel) (by decide +kernel)
theorem m_270 : (Cond.instanceMethod y_P_balance) ∈ np_TS := np_in 270 (by decide +kernel) (by decide +kernel)
theorem m_271 : (Cond.selects "NotePool" y_P_balance y_P_balance) ∈ np_TS := np_in 271 (by decide +kernel) (by decide +kernel)
theorem m_272 : (Cond.code y_P_balance prog_1_method_14_code 4 (some .int)) ∈ np_TS := np_in 272 (by decide +kernel) (by decide +kernel)
theorem m_273 : (Cond.methodLink "NotePoolLaw" 72 y_P_root) ∈ np_TS := np_in 273 (by decide +kernel) (by decide +kernel)
theorem m_274 : (Cond.instanceMethod y_P_root) ∈ np_TS := np_in 274 (by decide +kernel) (by decide +kernel)
theorem m_275 : (Cond.selects "NotePool" y_P_root y_P_root) ∈ np_TS := np_in 275 (by decide +kernel) (by decide +kernel)
theorem m_276 : (Cond.code y_P_root prog_1_method_15_code 2 (some .int)) ∈ np_TS := np_in 276 (by decide +kernel) (by decide +kernel)
theorem m_277 : (Cond.methodLink "NotePool" 120 y_T_recentRoot) ∈ np_TS := np_in 277 (by decide +kernel) (by decide +kernel)
theorem m_278 : (Cond.methodLink "NotePoolLaw" 76 y_P_node) ∈ np_TS := np_in 278 (by decide +kernel) (by decide +kernel)
theorem m_279 : (Cond.instanceMethod y_P_node) ∈ np_TS := np_in 279 (by decide +kernel) (by decide +kernel)
theorem m_280 : (Cond.selects "NotePool" y_P_node y_P_node) ∈ np_TS := np_in 280 (by decide +kernel) (by decide +kernel)
theorem m_281 : (Cond.code y_P_node prog_1_method_16_code 3 (some .int)) ∈ np_TS := np_in 281 (by decide +kernel) (by decide +kernel)
theorem m_282 : (Cond.methodLink "NotePoolLaw" 80 y_P_used) ∈ np_TS := np_in 282 (by decide +kernel) (by decide +kernel)
theorem m_283 : (Cond.instanceMethod y_P_used) ∈ np_TS := np_in 283 (by decide +kernel) (by decide +kernel)
theorem m_284 : (Cond.selects "NotePool" y_P_used y_P_used) ∈ np_TS := np_in 284 (by decide +kernel) (by decide +kernel)
theorem m_285 : (Cond.code y_P_used prog_1_method_17_code 1 (some .int)) ∈ np_TS := np_in 285 (by decide +kernel) (by decide +kernel)
theorem m_286 : (Cond.methodLink "NotePoolLaw" 84 y_P_mark) ∈ np_TS := np_in 286 (by decide +kernel) (by decide +kernel)
theorem m_287 : (Cond.instanceMethod y_P_mark) ∈ np_TS := np_in 287 (by decide +kernel) (by decide +kernel)
theorem m_288 : (Cond.selects "NotePool" y_P_mark y_P_mark) ∈ np_TS := np_in 288 (by decide +kernel) (by decide +kernel)
theorem m_289 : (Cond.code y_P_mark prog_1_method_18_code 2 (some .int)) ∈ np_TS := np_in 289 (by decide +kernel) (by decide +kernel)
theorem m_290 : (Cond.methodLink "NotePool" 124 y_K_at) ∈ np_TS := np_in 290 (by decide +kernel) (by decide +kernel)
theorem m_291 : (Cond.instanceMethod y_K_at) ∈ np_TS := np_in 291 (by decide +kernel) (by decide +kernel)
theorem m_292 : (Cond.selects "NotePool$MarkRow" y_K_at y_K_at) ∈ np_TS := np_in 292 (by decide +kernel) (by decide +kernel)
theorem m_293 : (Cond.code y_K_at prog_3_method_4_code 2 (some .int)) ∈ np_TS := np_in 293 (by decide +kernel) (by decide +kernel)
theorem m_294 : (Cond.methodLink "NotePoolLaw" 88 y_P_pool) ∈ np_TS := np_in 294 (by decide +kernel) (by decide +kernel)
theorem m_295 : (Cond.instanceMethod y_P_pool) ∈ np_TS := np_in 295 (by decide +kernel) (by decide +kernel)
theorem m_296 : (Cond.selects "NotePool" y_P_pool y_P_pool) ∈ np_TS := np_in 296 (by decide +kernel) (by decide +kernel)
theorem m_297 : (Cond.code y_P_pool prog_1_method_19_code 1 (some .int)) ∈ np_TS := np_in 297 (by decide +kernel) (by decide +kernel)
theorem m_298 : (Cond.classLink "NotePoolLaw" 10 "NotePoolModel") ∈ np_TS := np_in 298 (by decide +kernel) (by decide +kernel)
theorem m_299 : (Cond.instantiable "NotePoolModel" 9) ∈ np_TS := np_in 299 (by decide +kernel) (by decide +kernel)
theorem m_300 : (Cond.methodLink "NotePoolLaw" 12 y_M_init) ∈ np_TS := np_in 300 (by decide +kernel) (by decide +kernel)
theorem m_301 : (Cond.instanceMethod y_M_init) ∈ np_TS := np_in 301 (by decide +kernel) (by decide +kernel)
theorem m_302 : (Cond.code y_M_init prog_6_method_1_code 1 none) ∈ np_TS := np_in 302 (by decide +kernel) (by decide +kernel)
theorem m_303 : (Cond.methodLink "NotePoolModel" 1 objectInit) ∈ np_TS := np_in 303 (by decide +kernel) (by decide +kernel)
theorem m_304 : (Cond.fieldLink "NotePoolModel" 65 "NotePoolModel" "count" "I") ∈ np_TS := np_in 304 (by decide +kernel) (by decide +kernel)
theorem m_305 : (Cond.fieldLink "NotePoolModel" 7 "NotePoolModel" "keyOf" "[I") ∈ np_TS := np_in 305 (by decide +kernel) (by decide +kernel)
theorem m_306 : (Cond.fieldLink "NotePoolModel" 13 "NotePoolModel" "valueOf" "[I") ∈ np_TS := np_in 306 (by decide +kernel) (by decide +kernel)
theorem m_307 : (Cond.fieldLink "NotePoolModel" 16 "NotePoolModel" "nonceOf" "[I") ∈ np_TS := np_in 307 (by decide +kernel) (by decide +kernel)
theorem m_308 : (Cond.fieldLink "NotePoolModel" 58 "NotePoolModel" "spent" "I") ∈ np_TS := np_in 308 (by decide +kernel) (by decide +kernel)
theorem m_309 : (Cond.fieldLink "NotePoolModel" 19 "NotePoolModel" "marks" "[I") ∈ np_TS := np_in 309 (by decide +kernel) (by decide +kernel)
theorem m_310 : (Cond.fieldLink "NotePoolModel" 68 "NotePoolModel" "inside" "I") ∈ np_TS := np_in 310 (by decide +kernel) (by decide +kernel)
theorem m_311 : (Cond.fieldLink "NotePoolModel" 22 "NotePoolModel" "cell" "[I") ∈ np_TS := np_in 311 (by decide +kernel) (by decide +kernel)
theorem m_312 : (Cond.fieldLink "NotePoolModel" 25 "NotePoolModel" "work" "[I") ∈ np_TS := np_in 312 (by decide +kernel) (by decide +kernel)
theorem m_313 : (Cond.lays "NotePoolModel" "NotePoolModel" "count" "I") ∈ np_TS := np_in 313 (by decide +kernel) (by decide +kernel)
theorem m_315 : (Cond.laysFinal "NotePoolModel" "NotePoolModel" "keyOf" "[I") ∈ np_TS := np_in 315 (by decide +kernel) (by decide +kernel)
theorem m_317 : (Cond.laysFinal "NotePoolModel" "NotePoolModel" "valueOf" "[I") ∈ np_TS := np_in 317 (by decide +kernel) (by decide +kernel)
theorem m_319 : (Cond.laysFinal "NotePoolModel" "NotePoolModel" "nonceOf" "[I") ∈ np_TS := np_in 319 (by decide +kernel) (by decide +kernel)
theorem m_321 : (Cond.lays "NotePoolModel" "NotePoolModel" "spent" "I") ∈ np_TS := np_in 321 (by decide +kernel) (by decide +kernel)
theorem m_323 : (Cond.laysFinal "NotePoolModel" "NotePoolModel" "marks" "[I") ∈ np_TS := np_in 323 (by decide +kernel) (by decide +kernel)
theorem m_325 : (Cond.lays "NotePoolModel" "NotePoolModel" "inside" "I") ∈ np_TS := np_in 325 (by decide +kernel) (by decide +kernel)
theorem m_327 : (Cond.laysFinal "NotePoolModel" "NotePoolModel" "cell" "[I") ∈ np_TS := np_in 327 (by decide +kernel) (by decide +kernel)
theorem m_329 : (Cond.laysFinal "NotePoolModel" "NotePoolModel" "work" "[I") ∈ np_TS := np_in 329 (by decide +kernel) (by decide +kernel)
theorem m_332 : (Cond.methodLink "NotePoolLaw" 17 y_M_hash) ∈ np_TS := np_in 332 (by decide +kernel) (by decide +kernel)
theorem m_333 : (Cond.instanceMethod y_M_hash) ∈ np_TS := np_in 333 (by decide +kernel) (by decide +kernel)
theorem m_334 : (Cond.selects "NotePoolModel" y_M_hash y_M_hash) ∈ np_TS := np_in 334 (by decide +kernel) (by decide +kernel)
theorem m_335 : (Cond.code y_M_hash prog_6_method_8_code 3 (some .int)) ∈ np_TS := np_in 335 (by decide +kernel) (by decide +kernel)
theorem m_336 : (Cond.constant "NotePoolModel" 46 (65536 : Int32)) ∈ np_TS := np_in 336 (by decide +kernel) (by decide +kernel)
theorem m_337 : (Cond.methodLink "NotePoolModel" 47 y_M_outside) ∈ np_TS := np_in 337 (by decide +kernel) (by decide +kernel)
theorem m_338 : (Cond.static y_M_outside) ∈ np_TS := np_in 338 (by decide +kernel) (by decide +kernel)
theorem m_339 : (Cond.code y_M_outside prog_6_method_2_code 2 (some .boolean)) ∈ np_TS := np_in 339 (by decide +kernel) (by decide +kernel)
theorem m_340 : (Cond.methodLink "NotePoolModel" 51 y_M_hashed) ∈ np_TS := np_in 340 (by decide +kernel) (by decide +kernel)
theorem m_341 : (Cond.static y_M_hashed) ∈ np_TS := np_in 341 (by decide +kernel) (by decide +kernel)
theorem m_342 : (Cond.code y_M_hashed prog_6_method_7_code 4 (some .int)) ∈ np_TS := np_in 342 (by decide +kernel) (by decide +kernel)
theorem m_343 : (Cond.methodLink "NotePoolModel" 39 y_M_salt) ∈ np_TS := np_in 343 (by decide +kernel) (by decide +kernel)
theorem m_344 : (Cond.static y_M_salt) ∈ np_TS := np_in 344 (by decide +kernel) (by decide +kernel)
theorem m_345 : (Cond.code y_M_salt prog_6_method_6_code 1 (some .int)) ∈ np_TS := np_in 345 (by decide +kernel) (by decide +kernel)
theorem m_346 : (Cond.constant "NotePoolModel" 38 (44444 : Int32)) ∈ np_TS := np_in 346 (by decide +kernel) (by decide +kernel)
theorem m_347 : (Cond.methodLink "NotePoolModel" 43 y_M_cubed) ∈ np_TS := np_in 347 (by decide +kernel) (by decide +kernel)
theorem m_348 : (Cond.static y_M_cubed) ∈ np_TS := np_in 348 (by decide +kernel) (by decide +kernel)
theorem m_349 : (Cond.code y_M_cubed prog_6_method_5_code 4 (some .int)) ∈ np_TS := np_in 349 (by decide +kernel) (by decide +kernel)
theorem m_350 : (Cond.methodLink "NotePoolModel" 30 y_M_reduced) ∈ np_TS := np_in 350 (by decide +kernel) (by decide +kernel)
theorem m_351 : (Cond.static y_M_reduced) ∈ np_TS := np_in 351 (by decide +kernel) (by decide +kernel)
theorem m_352 : (Cond.code y_M_reduced prog_6_method_3_code 4 (some .int)) ∈ np_TS := np_in 352 (by decide +kernel) (by decide +kernel)
theorem m_353 : (Cond.constantLong "NotePoolModel" 28 (65537 : Int64)) ∈ np_TS := np_in 353 (by decide +kernel) (by decide +kernel)
theorem m_354 : (Cond.methodLink "NotePoolModel" 34 y_M_times) ∈ np_TS := np_in 354 (by decide +kernel) (by decide +kernel)
theorem m_355 : (Cond.static y_M_times) ∈ np_TS := np_in 355 (by decide +kernel) (by decide +kernel)
theorem m_356 : (Cond.code y_M_times prog_6_method_4_code 4 (some .int)) ∈ np_TS := np_in 356 (by decide +kernel) (by decide +kernel)
theorem m_357 : (Cond.methodLink "NotePoolLaw" 22 y_M_deposit) ∈ np_TS := np_in 357 (by decide +kernel) (by decide +kernel)
theorem m_358 : (Cond.instanceMethod y_M_deposit) ∈ np_TS := np_in 358 (by decide +kernel) (by decide +kernel)
theorem m_359 : (Cond.selects "NotePoolModel" y_M_deposit y_M_deposit) ∈ np_TS := np_in 359 (by decide +kernel) (by decide +kernel)
theorem m_360 : (Cond.code y_M_deposit prog_6_method_15_code 5 (some .int)) ∈ np_TS := np_in 360 (by decide +kernel) (by decide +kernel)
theorem m_361 : (Cond.methodLink "NotePoolModel" 55 y_M_accountKey) ∈ np_TS := np_in 361 (by decide +kernel) (by decide +kernel)
theorem m_362 : (Cond.static y_M_accountKey) ∈ np_TS := np_in 362 (by decide +kernel) (by decide +kernel)
theorem m_363 : (Cond.code y_M_accountKey prog_6_method_9_code 1 (some .int)) ∈ np_TS := np_in 363 (by decide +kernel) (by decide +kernel)
theorem m_364 : (Cond.methodLink "NotePoolModel" 71 y_M_make) ∈ np_TS := np_in 364 (by decide +kernel) (by decide +kernel)
theorem m_366 : (Cond.instanceMethod y_M_make) ∈ np_TS := np_in 366 (by decide +kernel) (by decide +kernel)
theorem m_367 : (Cond.code y_M_make prog_6_method_14_code 4 (some .int)) ∈ np_TS := np_in 367 (by decide +kernel) (by decide +kernel)
theorem m_368 : (Cond.methodLink "NotePoolLaw" 27 y_M_load) ∈ np_TS := np_in 368 (by decide +kernel) (by decide +kernel)
theorem m_369 : (Cond.instanceMethod y_M_load) ∈ np_TS := np_in 369 (by decide +kernel) (by decide +kernel)
theorem m_370 : (Cond.selects "NotePoolModel" y_M_load y_M_load) ∈ np_TS := np_in 370 (by decide +kernel) (by decide +kernel)
theorem m_371 : (Cond.code y_M_load prog_6_method_24_code 9 (some .int)) ∈ np_TS := np_in 371 (by decide +kernel) (by decide +kernel)
theorem m_372 : (Cond.methodLink "NotePoolModel" 96 y_M_ownerOf) ∈ np_TS := np_in 372 (by decide +kernel) (by decide +kernel)
theorem m_374 : (Cond.instanceMethod y_M_ownerOf) ∈ np_TS := np_in 374 (by decide +kernel) (by decide +kernel)
theorem m_375 : (Cond.code y_M_ownerOf prog_6_method_11_code 3 (some .int)) ∈ np_TS := np_in 375 (by decide +kernel) (by decide +kernel)
theorem m_376 : (Cond.methodLink "NotePoolModel" 99 y_M_fill) ∈ np_TS := np_in 376 (by decide +kernel) (by decide +kernel)
theorem m_378 : (Cond.instanceMethod y_M_fill) ∈ np_TS := np_in 378 (by decide +kernel) (by decide +kernel)
theorem m_379 : (Cond.code y_M_fill prog_6_method_23_code 3 none) ∈ np_TS := np_in 379 (by decide +kernel) (by decide +kernel)
theorem m_380 : (Cond.methodLink "NotePoolModel" 79 y_M_due) ∈ np_TS := np_in 380 (by decide +kernel) (by decide +kernel)
theorem m_382 : (Cond.instanceMethod y_M_due) ∈ np_TS := np_in 382 (by decide +kernel) (by decide +kernel)
theorem m_383 : (Cond.code y_M_due prog_6_method_17_code 12 (some .int)) ∈ np_TS := np_in 383 (by decide +kernel) (by decide +kernel)
theorem m_384 : (Cond.methodLink "NotePoolModel" 75 y_M_input) ∈ np_TS := np_in 384 (by decide +kernel) (by decide +kernel)
theorem m_386 : (Cond.instanceMethod y_M_input) ∈ np_TS := np_in 386 (by decide +kernel) (by decide +kernel)
theorem m_387 : (Cond.code y_M_input prog_6_method_16_code 3 (some .int)) ∈ np_TS := np_in 387 (by decide +kernel) (by decide +kernel)
theorem m_388 : (Cond.methodLink "NotePoolModel" 103 y_M_nodeOf) ∈ np_TS := np_in 388 (by decide +kernel) (by decide +kernel)
theorem m_390 : (Cond.instanceMethod y_M_nodeOf) ∈ np_TS := np_in 390 (by decide +kernel) (by decide +kernel)
theorem m_391 : (Cond.code y_M_nodeOf prog_6_method_13_code 7 (some .int)) ∈ np_TS := np_in 391 (by decide +kernel) (by decide +kernel)
theorem m_392 : (Cond.methodLink "NotePoolModel" 62 y_M_leaf) ∈ np_TS := np_in 392 (by decide +kernel) (by decide +kernel)
theorem m_394 : (Cond.instanceMethod y_M_leaf) ∈ np_TS := np_in 394 (by decide +kernel) (by decide +kernel)
theorem m_395 : (Cond.code y_M_leaf prog_6_method_10_code 3 (some .int)) ∈ np_TS := np_in 395 (by decide +kernel) (by decide +kernel)
theorem m_396 : (Cond.methodLink "NotePoolModel" 93 y_M_turned) ∈ np_TS := np_in 396 (by decide +kernel) (by decide +kernel)
theorem m_398 : (Cond.instanceMethod y_M_turned) ∈ np_TS := np_in 398 (by decide +kernel) (by decide +kernel)
theorem m_399 : (Cond.code y_M_turned prog_6_method_18_code 8 (some .int)) ∈ np_TS := np_in 399 (by decide +kernel) (by decide +kernel)
theorem m_400 : (Cond.methodLink "NotePoolModel" 106 y_M_fault) ∈ np_TS := np_in 400 (by decide +kernel) (by decide +kernel)
theorem m_401 : (Cond.instanceMethod y_M_fault) ∈ np_TS := np_in 401 (by decide +kernel) (by decide +kernel)
theorem m_402 : (Cond.selects "NotePoolModel" y_M_fault y_M_fault) ∈ np_TS := np_in 402 (by decide +kernel) (by decide +kernel)
theorem m_403 : (Cond.code y_M_fault prog_6_method_27_code 2 (some .int)) ∈ np_TS := np_in 403 (by decide +kernel) (by decide +kernel)
theorem m_404 : (Cond.methodLink "NotePoolModel" 110 y_M_holds) ∈ np_TS := np_in 404 (by decide +kernel) (by decide +kernel)
theorem m_406 : (Cond.instanceMethod y_M_holds) ∈ np_TS := np_in 406 (by decide +kernel) (by decide +kernel)
theorem m_407 : (Cond.code y_M_holds prog_6_method_22_code 5 (some .boolean)) ∈ np_TS := np_in 407 (by decide +kernel) (by decide +kernel)
theorem m_408 : (Cond.methodLink "NotePoolModel" 82 y_M_bit) ∈ np_TS := np_in 408 (by decide +kernel) (by decide +kernel)
theorem m_410 : (Cond.instanceMethod y_M_bit) ∈ np_TS := np_in 410 (by decide +kernel) (by decide +kernel)
theorem m_411 : (Cond.code y_M_bit prog_6_method_19_code 2 (some .boolean)) ∈ np_TS := np_in 411 (by decide +kernel) (by decide +kernel)
theorem m_412 : (Cond.methodLink "NotePoolModel" 86 y_M_sums) ∈ np_TS := np_in 412 (by decide +kernel) (by decide +kernel)
theorem m_414 : (Cond.instanceMethod y_M_sums) ∈ np_TS := np_in 414 (by decide +kernel) (by decide +kernel)
theorem m_415 : (Cond.code y_M_sums prog_6_method_21_code 4 (some .boolean)) ∈ np_TS := np_in 415 (by decide +kernel) (by decide +kernel)
theorem m_416 : (Cond.methodLink "NotePoolModel" 90 y_M_nine) ∈ np_TS := np_in 416 (by decide +kernel) (by decide +kernel)
theorem m_418 : (Cond.instanceMethod y_M_nine) ∈ np_TS := np_in 418 (by decide +kernel) (by decide +kernel)
theorem m_419 : (Cond.code y_M_nine prog_6_method_20_code 3 (some .boolean)) ∈ np_TS := np_in 419 (by decide +kernel) (by decide +kernel)
theorem m_420 : (Cond.methodLink "NotePoolLaw" 32 y_M_set) ∈ np_TS := np_in 420 (by decide +kernel) (by decide +kernel)
theorem m_421 : (Cond.instanceMethod y_M_set) ∈ np_TS := np_in 421 (by decide +kernel) (by decide +kernel)
theorem m_422 : (Cond.selects "NotePoolModel" y_M_set y_M_set) ∈ np_TS := np_in 422 (by decide +kernel) (by decide +kernel)
theorem m_423 : (Cond.code y_M_set prog_6_method_25_code 3 (some .boolean)) ∈ np_TS := np_in 423 (by decide +kernel) (by decide +kernel)
theorem m_424 : (Cond.methodLink "NotePoolLaw" 37 y_M_get) ∈ np_TS := np_in 424 (by decide +kernel) (by decide +kernel)
theorem m_425 : (Cond.instanceMethod y_M_get) ∈ np_TS := np_in 425 (by decide +kernel) (by decide +kernel)
theorem m_426 : (Cond.selects "NotePoolModel" y_M_get y_M_get) ∈ np_TS := np_in 426 (by decide +kernel) (by decide +kernel)
theorem m_427 : (Cond.code y_M_get prog_6_method_26_code 2 (some .int)) ∈ np_TS := np_in 427 (by decide +kernel) (by decide +kernel)
theorem m_428 : (Cond.methodLink "NotePoolLaw" 42 y_M_fault) ∈ np_TS := np_in 428 (by decide +kernel) (by decide +kernel)
theorem m_429 : (Cond.methodLink "NotePoolLaw" 46 y_M_submit) ∈ np_TS := np_in 429 (by decide +kernel) (by decide +kernel)
theorem m_430 : (Cond.instanceMethod y_M_submit) ∈ np_TS := np_in 430 (by decide +kernel) (by decide +kernel)
theorem m_431 : (Cond.selects "NotePoolModel" y_M_submit y_M_submit) ∈ np_TS := np_in 431 (by decide +kernel) (by decide +kernel)
theorem m_432 : (Cond.code y_M_submit prog_6_method_29_code 1 (some .int)) ∈ np_TS := np_in 432 (by decide +kernel) (by decide +kernel)
theorem m_433 : (Cond.methodLink "NotePoolModel" 116 y_M_isRecent) ∈ np_TS := np_in 433 (by decide +kernel) (by decide +kernel)
theorem m_435 : (Cond.instanceMethod y_M_isRecent) ∈ np_TS := np_in 435 (by decide +kernel) (by decide +kernel)
theorem m_436 : (Cond.code y_M_isRecent prog_6_method_28_code 3 (some .boolean)) ∈ np_TS := np_in 436 (by decide +kernel) (by decide +kernel)
theorem m_437 : (Cond.methodLink "NotePoolModel" 113 y_M_root) ∈ np_TS := np_in 437 (by decide +kernel) (by decide +kernel)
theorem m_438 : (Cond.instanceMethod y_M_root) ∈ np_TS := np_in 438 (by decide +kernel) (by decide +kernel)
theorem m_439 : (Cond.selects "NotePoolModel" y_M_root y_M_root) ∈ np_TS := np_in 439 (by decide +kernel) (by decide +kernel)
theorem m_440 : (Cond.code y_M_root prog_6_method_36_code 2 (some .int)) ∈ np_TS := np_in 440 (by decide +kernel) (by decide +kernel)
theorem m_441 : (Cond.methodLink "NotePoolModel" 119 y_M_isUsed) ∈ np_TS := np_in 441 (by decide +kernel) (by decide +kernel)
theorem m_443 : (Cond.instanceMethod y_M_isUsed) ∈ np_TS := np_in 443 (by decide +kernel) (by decide +kernel)
theorem m_444 : (Cond.code y_M_isUsed prog_6_method_12_code 3 (some .boolean)) ∈ np_TS := np_in 444 (by decide +kernel) (by decide +kernel)
theorem m_445 : (Cond.methodLink "NotePoolLaw" 50 y_M_notes) ∈ np_TS := np_in 445 (by decide +kernel) (by decide +kernel)
theorem m_446 : (Cond.instanceMethod y_M_notes) ∈ np_TS := np_in 446 (by decide +kernel) (by decide +kernel)
theorem m_447 : (Cond.selects "NotePoolModel" y_M_notes y_M_notes) ∈ np_TS := np_in 447 (by decide +kernel) (by decide +kernel)
theorem m_448 : (Cond.code y_M_notes prog_6_method_30_code 1 (some .int)) ∈ np_TS := np_in 448 (by decide +kernel) (by decide +kernel)
theorem m_449 : (Cond.methodLink "NotePoolLaw" 54 y_M_commitment) ∈ np_TS := np_in 449 (by decide +kernel) (by decide +kernel)
theorem m_450 : (Cond.instanceMethod y_M_commitment) ∈ np_TS := np_in 450 (by decide +kernel) (by decide +kernel)
theorem m_451 : (Cond.selects "NotePoolModel" y_M_commitment y_M_commitment) ∈ np_TS := np_in 451 (by decide +kernel) (by decide +kernel)
theorem m_452 : (Cond.code y_M_commitment prog_6_method_31_code 2 (some .int)) ∈ np_TS := np_in 452 (by decide +kernel) (by decide +kernel)
theorem m_453 : (Cond.methodLink "NotePoolLaw" 58 y_M_owner) ∈ np_TS := np_in 453 (by decide +kernel) (by decide +kernel)
theorem m_454 : (Cond.instanceMethod y_M_owner) ∈ np_TS := np_in 454 (by decide +kernel) (by decide +kernel)
theorem m_455 : (Cond.selects "NotePoolModel" y_M_owner y_M_owner) ∈ np_TS := np_in 455 (by decide +kernel) (by decide +kernel)
theorem m_456 : (Cond.code y_M_owner prog_6_method_32_code 2 (some .int)) ∈ np_TS := np_in 456 (by decide +kernel) (by decide +kernel)
theorem m_457 : (Cond.methodLink "NotePoolLaw" 62 y_M_value) ∈ np_TS := np_in 457 (by decide +kernel) (by decide +kernel)
theorem m_458 : (Cond.instanceMethod y_M_value) ∈ np_TS := np_in 458 (by decide +kernel) (by decide +kernel)
theorem m_459 : (Cond.selects "NotePoolModel" y_M_value y_M_value) ∈ np_TS := np_in 459 (by decide +kernel) (by decide +kernel)
theorem m_460 : (Cond.code y_M_value prog_6_method_33_code 2 (some .int)) ∈ np_TS := np_in 460 (by decide +kernel) (by decide +kernel)
theorem m_461 : (Cond.methodLink "NotePoolLaw" 67 y_M_unspent) ∈ np_TS := np_in 461 (by decide +kernel) (by decide +kernel)
theorem m_462 : (Cond.instanceMethod y_M_unspent) ∈ np_TS := np_in 462 (by decide +kernel) (by decide +kernel)
theorem m_463 : (Cond.selects "NotePoolModel" y_M_unspent y_M_unspent) ∈ np_TS := np_in 463 (by decide +kernel) (by decide +kernel)
theorem m_464 : (Cond.code y_M_unspent prog_6_method_34_code 4 (some .boolean)) ∈ np_TS := np_in 464 (by decide +kernel) (by decide +kernel)
theorem m_465 : (Cond.methodLink "NotePoolLaw" 71 y_M_balance) ∈ np_TS := np_in 465 (by decide +kernel) (by decide +kernel)
theorem m_466 : (Cond.instanceMethod y_M_balance) ∈ np_TS := np_in 466 (by decide +kernel) (by decide +kernel)
theorem m_467 : (Cond.selects "NotePoolModel" y_M_balance y_M_balance) ∈ np_TS := np_in 467 (by decide +kernel) (by decide +kernel)
theorem m_468 : (Cond.code y_M_balance prog_6_method_35_code 4 (some .int)) ∈ np_TS := np_in 468 (by decide +kernel) (by decide +kernel)
theorem m_469 : (Cond.methodLink "NotePoolModel" 122 y_M_unspent) ∈ np_TS := np_in 469 (by decide +kernel) (by decide +kernel)
theorem m_470 : (Cond.methodLink "NotePoolLaw" 75 y_M_root) ∈ np_TS := np_in 470 (by decide +kernel) (by decide +kernel)
theorem m_471 : (Cond.methodLink "NotePoolLaw" 79 y_M_node) ∈ np_TS := np_in 471 (by decide +kernel) (by decide +kernel)
theorem m_472 : (Cond.instanceMethod y_M_node) ∈ np_TS := np_in 472 (by decide +kernel) (by decide +kernel)
theorem m_473 : (Cond.selects "NotePoolModel" y_M_node y_M_node) ∈ np_TS := np_in 473 (by decide +kernel) (by decide +kernel)
theorem m_474 : (Cond.code y_M_node prog_6_method_37_code 3 (some .int)) ∈ np_TS := np_in 474 (by decide +kernel) (by decide +kernel)
theorem m_475 : (Cond.methodLink "NotePoolLaw" 83 y_M_used) ∈ np_TS := np_in 475 (by decide +kernel) (by decide +kernel)
theorem m_476 : (Cond.instanceMethod y_M_used) ∈ np_TS := np_in 476 (by decide +kernel) (by decide +kernel)
theorem m_477 : (Cond.selects "NotePoolModel" y_M_used y_M_used) ∈ np_TS := np_in 477 (by decide +kernel) (by decide +kernel)
theorem m_478 : (Cond.code y_M_used prog_6_method_38_code 1 (some .int)) ∈ np_TS := np_in 478 (by decide +kernel) (by decide +kernel)
theorem m_479 : (Cond.methodLink "NotePoolLaw" 87 y_M_mark) ∈ np_TS := np_in 479 (by decide +kernel) (by decide +kernel)
theorem m_480 : (Cond.instanceMethod y_M_mark) ∈ np_TS := np_in 480 (by decide +kernel) (by decide +kernel)
theorem m_481 : (Cond.selects "NotePoolModel" y_M_mark y_M_mark) ∈ np_TS := np_in 481 (by decide +kernel) (by decide +kernel)
theorem m_482 : (Cond.code y_M_mark prog_6_method_39_code 5 (some .int)) ∈ np_TS := np_in 482 (by decide +kernel) (by decide +kernel)
theorem m_483 : (Cond.methodLink "NotePoolLaw" 91 y_M_pool) ∈ np_TS := np_in 483 (by decide +kernel) (by decide +kernel)
theorem m_484 : (Cond.instanceMethod y_M_pool) ∈ np_TS := np_in 484 (by decide +kernel) (by decide +kernel)
theorem m_485 : (Cond.selects "NotePoolModel" y_M_pool y_M_pool) ∈ np_TS := np_in 485 (by decide +kernel) (by decide +kernel)
theorem m_486 : (Cond.code y_M_pool prog_6_method_40_code 1 (some .int)) ∈ np_TS := np_in 486 (by decide +kernel) (by decide +kernel)
theorem ms_T_hashUp : Cond.selects "NotePool$HashTree" y_T_hashUp y_T_hashUp ∈ np_TS := np_inS (q := (y_T_hashUp, 3)) 0 (by decide +kernel) (by decide +kernel)
theorem ms_P_makeNote : Cond.selects "NotePool" y_P_makeNote y_P_makeNote ∈ np_TS := np_inS (q := (y_P_makeNote, 8)) 1 (by decide +kernel) (by decide +kernel)
theorem ms_P_hasNote : Cond.selects "NotePool" y_P_hasNote y_P_hasNote ∈ np_TS := np_inS (q := (y_P_hasNote, 8)) 2 (by decide +kernel) (by decide +kernel)
theorem ms_P_ownerOfKey : Cond.selects "NotePool" y_P_ownerOfKey y_P_ownerOfKey ∈ np_TS := np_inS (q := (y_P_ownerOfKey, 8)) 3 (by decide +kernel) (by decide +kernel)
theorem ms_S_dueIn : Cond.selects "NotePool$SpendVector" y_S_dueIn y_S_dueIn ∈ np_TS := np_inS (q := (y_S_dueIn, 1)) 4 (by decide +kernel) (by decide +kernel)
theorem ms_S_dueInBlock : Cond.selects "NotePool$SpendVector" y_S_dueInBlock y_S_dueInBlock ∈ np_TS := np_inS (q := (y_S_dueInBlock, 1)) 5 (by decide +kernel) (by decide +kernel)
theorem ms_S_dueRight : Cond.selects "NotePool$SpendVector" y_S_dueRight y_S_dueRight ∈ np_TS := np_inS (q := (y_S_dueRight, 1)) 6 (by decide +kernel) (by decide +kernel)
theorem ms_S_resultOf : Cond.selects "NotePool$SpendVector" y_S_resultOf y_S_resultOf ∈ np_TS := np_inS (q := (y_S_resultOf, 1)) 7 (by decide +kernel) (by decide +kernel)
theorem ms_S_dueLeft : Cond.selects "NotePool$SpendVector" y_S_dueLeft y_S_dueLeft ∈ np_TS := np_inS (q := (y_S_dueLeft, 1)) 8 (by decide +kernel) (by decide +kernel)
theorem ms_S_sumOfBits : Cond.selects "NotePool$SpendVector" y_S_sumOfBits y_S_sumOfBits ∈ np_TS := np_inS (q := (y_S_sumOfBits, 1)) 9 (by decide +kernel) (by decide +kernel)
theorem ms_P_markOf : Cond.selects "NotePool" y_P_markOf y_P_markOf ∈ np_TS := np_inS (q := (y_P_markOf, 8)) 10 (by decide +kernel) (by decide +kernel)
theorem ms_M_make : Cond.selects "NotePoolModel" y_M_make y_M_make ∈ np_TS := np_inS (q := (y_M_make, 9)) 11 (by decide +kernel) (by decide +kernel)
theorem ms_M_ownerOf : Cond.selects "NotePoolModel" y_M_ownerOf y_M_ownerOf ∈ np_TS := np_inS (q := (y_M_ownerOf, 9)) 12 (by decide +kernel) (by decide +kernel)
theorem ms_M_fill : Cond.selects "NotePoolModel" y_M_fill y_M_fill ∈ np_TS := np_inS (q := (y_M_fill, 9)) 13 (by decide +kernel) (by decide +kernel)
theorem ms_M_due : Cond.selects "NotePoolModel" y_M_due y_M_due ∈ np_TS := np_inS (q := (y_M_due, 9)) 14 (by decide +kernel) (by decide +kernel)
theorem ms_M_input : Cond.selects "NotePoolModel" y_M_input y_M_input ∈ np_TS := np_inS (q := (y_M_input, 9)) 15 (by decide +kernel) (by decide +kernel)
theorem ms_M_nodeOf : Cond.selects "NotePoolModel" y_M_nodeOf y_M_nodeOf ∈ np_TS := np_inS (q := (y_M_nodeOf, 9)) 16 (by decide +kernel) (by decide +kernel)
theorem ms_M_leaf : Cond.selects "NotePoolModel" y_M_leaf y_M_leaf ∈ np_TS := np_inS (q := (y_M_leaf, 9)) 17 (by decide +kernel) (by decide +kernel)
theorem ms_M_turned : Cond.selects "NotePoolModel" y_M_turned y_M_turned ∈ np_TS := np_inS (q := (y_M_turned, 9)) 18 (by decide +kernel) (by decide +kernel)
theorem ms_M_holds : Cond.selects "NotePoolModel" y_M_holds y_M_holds ∈ np_TS := np_inS (q := (y_M_holds, 9)) 19 (by decide +kernel) (by decide +kernel)
theorem ms_M_bit : Cond.selects "NotePoolModel" y_M_bit y_M_bit ∈ np_TS := np_inS (q := (y_M_bit, 9)) 20 (by decide +kernel) (by decide +kernel)
theorem ms_M_sums : Cond.selects "NotePoolModel" y_M_sums y_M_sums ∈ np_TS := np_inS (q := (y_M_sums, 9)) 21 (by decide +kernel) (by decide +kernel)
theorem ms_M_nine : Cond.selects "NotePoolModel" y_M_nine y_M_nine ∈ np_TS := np_inS (q := (y_M_nine, 9)) 22 (by decide +kernel) (by decide +kernel)
theorem ms_M_isRecent : Cond.selects "NotePoolModel" y_M_isRecent y_M_isRecent ∈ np_TS := np_inS (q := (y_M_isRecent, 9)) 23 (by decide +kernel) (by decide +kernel)
theorem ms_M_isUsed : Cond.selects "NotePoolModel" y_M_isUsed y_M_isUsed ∈ np_TS := np_inS (q := (y_M_isUsed, 9)) 24 (by decide +kernel) (by decide +kernel)
theorem hin_P : ∀ x ∈ u_ws "NotePool" F_P 8, x ∈ np_TS := by
  intro x hx
  have hx : x ∈ [Cond.laysFinal "NotePool" "NotePool" "keys" "[I", Cond.laysFinal "NotePool" "NotePool" "owners" "[I", Cond.laysFinal "NotePool" "NotePool" "values" "[I", Cond.laysFinal "NotePool" "NotePool" "nonces" "[I", Cond.laysFinal "NotePool" "NotePool" "tree" "LNotePool$HashTree;", Cond.laysFinal "NotePool" "NotePool" "marks" "LNotePool$MarkRow;", Cond.laysFinal "NotePool" "NotePool" "vector" "LNotePool$SpendVector;", Cond.lays "NotePool" "NotePool" "inPool" "I"] := hx
  simp only [List.mem_cons, List.not_mem_nil, or_false] at hx
  rcases hx with rfl | rfl | rfl | rfl | rfl | rfl | rfl | rfl
  · exact m_86
  · exact m_88
  · exact m_90
  · exact m_92
  · exact m_94
  · exact m_96
  · exact m_98
  · exact m_100
theorem hin_T : ∀ x ∈ u_ws "NotePool$HashTree" F_T 3, x ∈ np_TS := by
  intro x hx
  have hx : x ∈ [Cond.laysFinal "NotePool$HashTree" "NotePool$HashTree" "nodes" "[I", Cond.laysFinal "NotePool$HashTree" "NotePool$HashTree" "rootWithNotes" "[I", Cond.lays "NotePool$HashTree" "NotePool$HashTree" "count" "I"] := hx
  simp only [List.mem_cons, List.not_mem_nil, or_false] at hx
  rcases hx with rfl | rfl | rfl
  · exact m_41
  · exact m_43
  · exact m_45
theorem hin_K : ∀ x ∈ u_ws "NotePool$MarkRow" F_K 2, x ∈ np_TS := by
  intro x hx
  have hx : x ∈ [Cond.laysFinal "NotePool$MarkRow" "NotePool$MarkRow" "sorted" "[I", Cond.lays "NotePool$MarkRow" "NotePool$MarkRow" "count" "I"] := hx
  simp only [List.mem_cons, List.not_mem_nil, or_false] at hx
  rcases hx with rfl | rfl
  · exact m_58
  · exact m_60
theorem hin_S : ∀ x ∈ u_ws "NotePool$SpendVector" F_S 1, x ∈ np_TS := by
  intro x hx
  have hx : x ∈ [Cond.laysFinal "NotePool$SpendVector" "NotePool$SpendVector" "cells" "[I"] := hx
  simp only [List.mem_cons, List.not_mem_nil, or_false] at hx
  subst hx
  exact m_71
theorem hin_M : ∀ x ∈ u_ws "NotePoolModel" F_M 9, x ∈ np_TS := by
  intro x hx
  have hx : x ∈ [Cond.lays "NotePoolModel" "NotePoolModel" "count" "I", Cond.laysFinal "NotePoolModel" "NotePoolModel" "keyOf" "[I", Cond.laysFinal "NotePoolModel" "NotePoolModel" "valueOf" "[I", Cond.laysFinal "NotePoolModel" "NotePoolModel" "nonceOf" "[I", Cond.lays "NotePoolModel" "NotePoolModel" "spent" "I", Cond.laysFinal "NotePoolModel" "NotePoolModel" "marks" "[I", Cond.lays "NotePoolModel" "NotePoolModel" "inside" "I", Cond.laysFinal "NotePoolModel" "NotePoolModel" "cell" "[I", Cond.laysFinal "NotePoolModel" "NotePoolModel" "work" "[I"] := hx
  simp only [List.mem_cons, List.not_mem_nil, or_false] at hx
  rcases hx with rfl | rfl | rfl | rfl | rfl | rfl | rfl | rfl | rfl
  · exact m_313
  · exact m_315
  · exact m_317
  · exact m_319
  · exact m_321
  · exact m_323
  · exact m_325
  · exact m_327
  · exact m_329
def np_NW : List Cond := [Cond.methodLinkNest "NotePool$HashTree" 34 y_P_hashOf "NotePool", Cond.fieldLinkNest "NotePool" 111 "NotePool$HashTree" "count" "I" "NotePool", Cond.methodLinkNest "NotePool" 31 y_K_init "NotePool", Cond.fieldLinkNest "NotePool" 123 "NotePool$MarkRow" "count" "I" "NotePool", Cond.fieldLinkNest "NotePool" 98 "NotePool$SpendVector" "cells" "[I" "NotePool", Cond.methodLinkNest "NotePool$SpendVector" 47 y_P_sum "NotePool", Cond.fieldLinkNest "NotePool$SpendVector" 62 "NotePool" "SALTS" "[I" "NotePool", Cond.methodLinkNest "NotePool$SpendVector" 34 y_P_product "NotePool", Cond.methodLinkNest "NotePool$SpendVector" 53 y_P_difference "NotePool"]
theorem n_0 : (Cond.methodLinkNest "NotePool$HashTree" 34 y_P_hashOf "NotePool") ∈ np_NW := List.mem_of_getElem? (i := 0) rfl
theorem nt_0 : (Cond.methodLinkNest "NotePool$HashTree" 34 y_P_hashOf "NotePool") ∈ lw_tbl := List.mem_append_right _ (List.mem_of_getElem? (i := 24) (by decide +kernel))
theorem n_1 : (Cond.fieldLinkNest "NotePool" 111 "NotePool$HashTree" "count" "I" "NotePool") ∈ np_NW := List.mem_of_getElem? (i := 1) rfl
theorem nt_1 : (Cond.fieldLinkNest "NotePool" 111 "NotePool$HashTree" "count" "I" "NotePool") ∈ lw_tbl := List.mem_append_right _ (List.mem_of_getElem? (i := 40) (by decide +kernel))
theorem n_2 : (Cond.methodLinkNest "NotePool" 31 y_K_init "NotePool") ∈ np_NW := List.mem_of_getElem? (i := 2) rfl
theorem nt_2 : (Cond.methodLinkNest "NotePool" 31 y_K_init "NotePool") ∈ lw_tbl := List.mem_append_right _ (List.mem_of_getElem? (i := 51) (by decide +kernel))
theorem n_3 : (Cond.fieldLinkNest "NotePool" 123 "NotePool$MarkRow" "count" "I" "NotePool") ∈ np_NW := List.mem_of_getElem? (i := 3) rfl
theorem nt_3 : (Cond.fieldLinkNest "NotePool" 123 "NotePool$MarkRow" "count" "I" "NotePool") ∈ lw_tbl := List.mem_append_right _ (List.mem_of_getElem? (i := 57) (by decide +kernel))
theorem n_4 : (Cond.fieldLinkNest "NotePool" 98 "NotePool$SpendVector" "cells" "[I" "NotePool") ∈ np_NW := List.mem_of_getElem? (i := 4) rfl
theorem nt_4 : (Cond.fieldLinkNest "NotePool" 98 "NotePool$SpendVector" "cells" "[I" "NotePool") ∈ lw_tbl := List.mem_append_right _ (List.mem_of_getElem? (i := 70) (by decide +kernel))
theorem n_5 : (Cond.methodLinkNest "NotePool$SpendVector" 47 y_P_sum "NotePool") ∈ np_NW := List.mem_of_getElem? (i := 5) rfl
theorem nt_5 : (Cond.methodLinkNest "NotePool$SpendVector" 47 y_P_sum "NotePool") ∈ lw_tbl := List.mem_append_right _ (List.mem_of_getElem? (i := 183) (by decide +kernel))
theorem n_6 : (Cond.fieldLinkNest "NotePool$SpendVector" 62 "NotePool" "SALTS" "[I" "NotePool") ∈ np_NW := List.mem_of_getElem? (i := 6) rfl
theorem nt_6 : (Cond.fieldLinkNest "NotePool$SpendVector" 62 "NotePool" "SALTS" "[I" "NotePool") ∈ lw_tbl := List.mem_append_right _ (List.mem_of_getElem? (i := 184) (by decide +kernel))
theorem n_7 : (Cond.methodLinkNest "NotePool$SpendVector" 34 y_P_product "NotePool") ∈ np_NW := List.mem_of_getElem? (i := 7) rfl
theorem nt_7 : (Cond.methodLinkNest "NotePool$SpendVector" 34 y_P_product "NotePool") ∈ lw_tbl := List.mem_append_right _ (List.mem_of_getElem? (i := 185) (by decide +kernel))
theorem n_8 : (Cond.methodLinkNest "NotePool$SpendVector" 53 y_P_difference "NotePool") ∈ np_NW := List.mem_of_getElem? (i := 8) rfl
theorem nt_8 : (Cond.methodLinkNest "NotePool$SpendVector" 53 y_P_difference "NotePool") ∈ lw_tbl := List.mem_append_right _ (List.mem_of_getElem? (i := 194) (by decide +kernel))
theorem hd_P_init : y_P_init.cls ≠ "java/lang/invoke/MethodHandle" ∧ y_P_init.cls ≠ "java/lang/invoke/VarHandle" ∧ (parseMethodDescriptor y_P_init.desc).map (fun d => d.parameters.length) = some 0 := by decide +kernel
theorem hd_T_init : y_T_init.cls ≠ "java/lang/invoke/MethodHandle" ∧ y_T_init.cls ≠ "java/lang/invoke/VarHandle" ∧ (parseMethodDescriptor y_T_init.desc).map (fun d => d.parameters.length) = some 0 := by decide +kernel
theorem hd_T_hashUp : y_T_hashUp.cls ≠ "java/lang/invoke/MethodHandle" ∧ y_T_hashUp.cls ≠ "java/lang/invoke/VarHandle" ∧ (parseMethodDescriptor y_T_hashUp.desc).map (fun d => d.parameters.length) = some 1 := by decide +kernel
theorem hd_P_hashOf : y_P_hashOf.cls ≠ "java/lang/invoke/MethodHandle" ∧ y_P_hashOf.cls ≠ "java/lang/invoke/VarHandle" ∧ (parseMethodDescriptor y_P_hashOf.desc).map (fun d => d.parameters.length) = some 2 := by decide +kernel
theorem hd_P_sum : y_P_sum.cls ≠ "java/lang/invoke/MethodHandle" ∧ y_P_sum.cls ≠ "java/lang/invoke/VarHandle" ∧ (parseMethodDescriptor y_P_sum.desc).map (fun d => d.parameters.length) = some 2 := by decide +kernel
theorem hd_P_product : y_P_product.cls ≠ "java/lang/invoke/MethodHandle" ∧ y_P_product.cls ≠ "java/lang/invoke/VarHandle" ∧ (parseMethodDescriptor y_P_product.desc).map (fun d => d.parameters.length) = some 2 := by decide +kernel
theorem hd_K_init : y_K_init.cls ≠ "java/lang/invoke/MethodHandle" ∧ y_K_init.cls ≠ "java/lang/invoke/VarHandle" ∧ (parseMethodDescriptor y_K_init.desc).map (fun d => d.parameters.length) = some 0 := by decide +kernel
theorem hd_S_init : y_S_init.cls ≠ "java/lang/invoke/MethodHandle" ∧ y_S_init.cls ≠ "java/lang/invoke/VarHandle" ∧ (parseMethodDescriptor y_S_init.desc).map (fun d => d.parameters.length) = some 0 := by decide +kernel
theorem hd_P_secretOf : y_P_secretOf.cls ≠ "java/lang/invoke/MethodHandle" ∧ y_P_secretOf.cls ≠ "java/lang/invoke/VarHandle" ∧ (parseMethodDescriptor y_P_secretOf.desc).map (fun d => d.parameters.length) = some 1 := by decide +kernel
theorem hd_P_hash : y_P_hash.cls ≠ "java/lang/invoke/MethodHandle" ∧ y_P_hash.cls ≠ "java/lang/invoke/VarHandle" ∧ (parseMethodDescriptor y_P_hash.desc).map (fun d => d.parameters.length) = some 2 := by decide +kernel
theorem hd_P_isNumber : y_P_isNumber.cls ≠ "java/lang/invoke/MethodHandle" ∧ y_P_isNumber.cls ≠ "java/lang/invoke/VarHandle" ∧ (parseMethodDescriptor y_P_isNumber.desc).map (fun d => d.parameters.length) = some 1 := by decide +kernel
theorem hd_P_deposit : y_P_deposit.cls ≠ "java/lang/invoke/MethodHandle" ∧ y_P_deposit.cls ≠ "java/lang/invoke/VarHandle" ∧ (parseMethodDescriptor y_P_deposit.desc).map (fun d => d.parameters.length) = some 3 := by decide +kernel
theorem hd_P_isAccount : y_P_isAccount.cls ≠ "java/lang/invoke/MethodHandle" ∧ y_P_isAccount.cls ≠ "java/lang/invoke/VarHandle" ∧ (parseMethodDescriptor y_P_isAccount.desc).map (fun d => d.parameters.length) = some 1 := by decide +kernel
theorem hd_P_isValue : y_P_isValue.cls ≠ "java/lang/invoke/MethodHandle" ∧ y_P_isValue.cls ≠ "java/lang/invoke/VarHandle" ∧ (parseMethodDescriptor y_P_isValue.desc).map (fun d => d.parameters.length) = some 1 := by decide +kernel
theorem hd_T_isFull : y_T_isFull.cls ≠ "java/lang/invoke/MethodHandle" ∧ y_T_isFull.cls ≠ "java/lang/invoke/VarHandle" ∧ (parseMethodDescriptor y_T_isFull.desc).map (fun d => d.parameters.length) = some 0 := by decide +kernel
theorem hd_P_makeNote : y_P_makeNote.cls ≠ "java/lang/invoke/MethodHandle" ∧ y_P_makeNote.cls ≠ "java/lang/invoke/VarHandle" ∧ (parseMethodDescriptor y_P_makeNote.desc).map (fun d => d.parameters.length) = some 3 := by decide +kernel
theorem hd_T_append : y_T_append.cls ≠ "java/lang/invoke/MethodHandle" ∧ y_T_append.cls ≠ "java/lang/invoke/VarHandle" ∧ (parseMethodDescriptor y_T_append.desc).map (fun d => d.parameters.length) = some 1 := by decide +kernel
theorem hd_P_hasNote : y_P_hasNote.cls ≠ "java/lang/invoke/MethodHandle" ∧ y_P_hasNote.cls ≠ "java/lang/invoke/VarHandle" ∧ (parseMethodDescriptor y_P_hasNote.desc).map (fun d => d.parameters.length) = some 1 := by decide +kernel
theorem hd_P_ownerOfKey : y_P_ownerOfKey.cls ≠ "java/lang/invoke/MethodHandle" ∧ y_P_ownerOfKey.cls ≠ "java/lang/invoke/VarHandle" ∧ (parseMethodDescriptor y_P_ownerOfKey.desc).map (fun d => d.parameters.length) = some 1 := by decide +kernel
theorem hd_P_load : y_P_load.cls ≠ "java/lang/invoke/MethodHandle" ∧ y_P_load.cls ≠ "java/lang/invoke/VarHandle" ∧ (parseMethodDescriptor y_P_load.desc).map (fun d => d.parameters.length) = some 5 := by decide +kernel
theorem hd_S_takeNote : y_S_takeNote.cls ≠ "java/lang/invoke/MethodHandle" ∧ y_S_takeNote.cls ≠ "java/lang/invoke/VarHandle" ∧ (parseMethodDescriptor y_S_takeNote.desc).map (fun d => d.parameters.length) = some 3 := by decide +kernel
theorem hd_S_takePayment : y_S_takePayment.cls ≠ "java/lang/invoke/MethodHandle" ∧ y_S_takePayment.cls ≠ "java/lang/invoke/VarHandle" ∧ (parseMethodDescriptor y_S_takePayment.desc).map (fun d => d.parameters.length) = some 4 := by decide +kernel
theorem hd_S_takePath : y_S_takePath.cls ≠ "java/lang/invoke/MethodHandle" ∧ y_S_takePath.cls ≠ "java/lang/invoke/VarHandle" ∧ (parseMethodDescriptor y_S_takePath.desc).map (fun d => d.parameters.length) = some 2 := by decide +kernel
theorem hd_T_nodeAt : y_T_nodeAt.cls ≠ "java/lang/invoke/MethodHandle" ∧ y_T_nodeAt.cls ≠ "java/lang/invoke/VarHandle" ∧ (parseMethodDescriptor y_T_nodeAt.desc).map (fun d => d.parameters.length) = some 2 := by decide +kernel
theorem hd_S_complete : y_S_complete.cls ≠ "java/lang/invoke/MethodHandle" ∧ y_S_complete.cls ≠ "java/lang/invoke/VarHandle" ∧ (parseMethodDescriptor y_S_complete.desc).map (fun d => d.parameters.length) = some 0 := by decide +kernel
theorem hd_S_cellOf : y_S_cellOf.cls ≠ "java/lang/invoke/MethodHandle" ∧ y_S_cellOf.cls ≠ "java/lang/invoke/VarHandle" ∧ (parseMethodDescriptor y_S_cellOf.desc).map (fun d => d.parameters.length) = some 1 := by decide +kernel
theorem hd_S_cellOnLevel : y_S_cellOnLevel.cls ≠ "java/lang/invoke/MethodHandle" ∧ y_S_cellOnLevel.cls ≠ "java/lang/invoke/VarHandle" ∧ (parseMethodDescriptor y_S_cellOnLevel.desc).map (fun d => d.parameters.length) = some 2 := by decide +kernel
theorem hd_S_dueIn : y_S_dueIn.cls ≠ "java/lang/invoke/MethodHandle" ∧ y_S_dueIn.cls ≠ "java/lang/invoke/VarHandle" ∧ (parseMethodDescriptor y_S_dueIn.desc).map (fun d => d.parameters.length) = some 1 := by decide +kernel
theorem hd_S_dueInBlock : y_S_dueInBlock.cls ≠ "java/lang/invoke/MethodHandle" ∧ y_S_dueInBlock.cls ≠ "java/lang/invoke/VarHandle" ∧ (parseMethodDescriptor y_S_dueInBlock.desc).map (fun d => d.parameters.length) = some 2 := by decide +kernel
theorem hd_S_dueRight : y_S_dueRight.cls ≠ "java/lang/invoke/MethodHandle" ∧ y_S_dueRight.cls ≠ "java/lang/invoke/VarHandle" ∧ (parseMethodDescriptor y_S_dueRight.desc).map (fun d => d.parameters.length) = some 1 := by decide +kernel
theorem hd_S_resultOf : y_S_resultOf.cls ≠ "java/lang/invoke/MethodHandle" ∧ y_S_resultOf.cls ≠ "java/lang/invoke/VarHandle" ∧ (parseMethodDescriptor y_S_resultOf.desc).map (fun d => d.parameters.length) = some 1 := by decide +kernel
theorem hd_P_difference : y_P_difference.cls ≠ "java/lang/invoke/MethodHandle" ∧ y_P_difference.cls ≠ "java/lang/invoke/VarHandle" ∧ (parseMethodDescriptor y_P_difference.desc).map (fun d => d.parameters.length) = some 2 := by decide +kernel
theorem hd_S_dueLeft : y_S_dueLeft.cls ≠ "java/lang/invoke/MethodHandle" ∧ y_S_dueLeft.cls ≠ "java/lang/invoke/VarHandle" ∧ (parseMethodDescriptor y_S_dueLeft.desc).map (fun d => d.parameters.length) = some 1 := by decide +kernel
theorem hd_S_sumOfBits : y_S_sumOfBits.cls ≠ "java/lang/invoke/MethodHandle" ∧ y_S_sumOfBits.cls ≠ "java/lang/invoke/VarHandle" ∧ (parseMethodDescriptor y_S_sumOfBits.desc).map (fun d => d.parameters.length) = some 0 := by decide +kernel
theorem hd_S_firstFault : y_S_firstFault.cls ≠ "java/lang/invoke/MethodHandle" ∧ y_S_firstFault.cls ≠ "java/lang/invoke/VarHandle" ∧ (parseMethodDescriptor y_S_firstFault.desc).map (fun d => d.parameters.length) = some 0 := by decide +kernel
theorem hd_P_set : y_P_set.cls ≠ "java/lang/invoke/MethodHandle" ∧ y_P_set.cls ≠ "java/lang/invoke/VarHandle" ∧ (parseMethodDescriptor y_P_set.desc).map (fun d => d.parameters.length) = some 2 := by decide +kernel
theorem hd_S_isCell : y_S_isCell.cls ≠ "java/lang/invoke/MethodHandle" ∧ y_S_isCell.cls ≠ "java/lang/invoke/VarHandle" ∧ (parseMethodDescriptor y_S_isCell.desc).map (fun d => d.parameters.length) = some 1 := by decide +kernel
theorem hd_P_get : y_P_get.cls ≠ "java/lang/invoke/MethodHandle" ∧ y_P_get.cls ≠ "java/lang/invoke/VarHandle" ∧ (parseMethodDescriptor y_P_get.desc).map (fun d => d.parameters.length) = some 1 := by decide +kernel
theorem hd_P_fault : y_P_fault.cls ≠ "java/lang/invoke/MethodHandle" ∧ y_P_fault.cls ≠ "java/lang/invoke/VarHandle" ∧ (parseMethodDescriptor y_P_fault.desc).map (fun d => d.parameters.length) = some 0 := by decide +kernel
theorem hd_P_submit : y_P_submit.cls ≠ "java/lang/invoke/MethodHandle" ∧ y_P_submit.cls ≠ "java/lang/invoke/VarHandle" ∧ (parseMethodDescriptor y_P_submit.desc).map (fun d => d.parameters.length) = some 0 := by decide +kernel
theorem hd_T_isRecent : y_T_isRecent.cls ≠ "java/lang/invoke/MethodHandle" ∧ y_T_isRecent.cls ≠ "java/lang/invoke/VarHandle" ∧ (parseMethodDescriptor y_T_isRecent.desc).map (fun d => d.parameters.length) = some 1 := by decide +kernel
theorem hd_T_recentRoot : y_T_recentRoot.cls ≠ "java/lang/invoke/MethodHandle" ∧ y_T_recentRoot.cls ≠ "java/lang/invoke/VarHandle" ∧ (parseMethodDescriptor y_T_recentRoot.desc).map (fun d => d.parameters.length) = some 1 := by decide +kernel
theorem hd_K_has : y_K_has.cls ≠ "java/lang/invoke/MethodHandle" ∧ y_K_has.cls ≠ "java/lang/invoke/VarHandle" ∧ (parseMethodDescriptor y_K_has.desc).map (fun d => d.parameters.length) = some 1 := by decide +kernel
theorem hd_K_add : y_K_add.cls ≠ "java/lang/invoke/MethodHandle" ∧ y_K_add.cls ≠ "java/lang/invoke/VarHandle" ∧ (parseMethodDescriptor y_K_add.desc).map (fun d => d.parameters.length) = some 1 := by decide +kernel
theorem hd_P_notes : y_P_notes.cls ≠ "java/lang/invoke/MethodHandle" ∧ y_P_notes.cls ≠ "java/lang/invoke/VarHandle" ∧ (parseMethodDescriptor y_P_notes.desc).map (fun d => d.parameters.length) = some 0 := by decide +kernel
theorem hd_P_commitment : y_P_commitment.cls ≠ "java/lang/invoke/MethodHandle" ∧ y_P_commitment.cls ≠ "java/lang/invoke/VarHandle" ∧ (parseMethodDescriptor y_P_commitment.desc).map (fun d => d.parameters.length) = some 1 := by decide +kernel
theorem hd_P_owner : y_P_owner.cls ≠ "java/lang/invoke/MethodHandle" ∧ y_P_owner.cls ≠ "java/lang/invoke/VarHandle" ∧ (parseMethodDescriptor y_P_owner.desc).map (fun d => d.parameters.length) = some 1 := by decide +kernel
theorem hd_P_value : y_P_value.cls ≠ "java/lang/invoke/MethodHandle" ∧ y_P_value.cls ≠ "java/lang/invoke/VarHandle" ∧ (parseMethodDescriptor y_P_value.desc).map (fun d => d.parameters.length) = some 1 := by decide +kernel
theorem hd_P_unspent : y_P_unspent.cls ≠ "java/lang/invoke/MethodHandle" ∧ y_P_unspent.cls ≠ "java/lang/invoke/VarHandle" ∧ (parseMethodDescriptor y_P_unspent.desc).map (fun d => d.parameters.length) = some 1 := by decide +kernel
theorem hd_P_markOf : y_P_markOf.cls ≠ "java/lang/invoke/MethodHandle" ∧ y_P_markOf.cls ≠ "java/lang/invoke/VarHandle" ∧ (parseMethodDescriptor y_P_markOf.desc).map (fun d => d.parameters.length) = some 1 := by decide +kernel
theorem hd_P_balance : y_P_balance.cls ≠ "java/lang/invoke/MethodHandle" ∧ y_P_balance.cls ≠ "java/lang/invoke/VarHandle" ∧ (parseMethodDescriptor y_P_balance.desc).map (fun d => d.parameters.length) = some 1 := by decide +kernel
theorem hd_P_root : y_P_root.cls ≠ "java/lang/invoke/MethodHandle" ∧ y_P_root.cls ≠ "java/lang/invoke/VarHandle" ∧ (parseMethodDescriptor y_P_root.desc).map (fun d => d.parameters.length) = some 1 := by decide +kernel
theorem hd_P_node : y_P_node.cls ≠ "java/lang/invoke/MethodHandle" ∧ y_P_node.cls ≠ "java/lang/invoke/VarHandle" ∧ (parseMethodDescriptor y_P_node.desc).map (fun d => d.parameters.length) = some 2 := by decide +kernel
theorem hd_P_used : y_P_used.cls ≠ "java/lang/invoke/MethodHandle" ∧ y_P_used.cls ≠ "java/lang/invoke/VarHandle" ∧ (parseMethodDescriptor y_P_used.desc).map (fun d => d.parameters.length) = some 0 := by decide +kernel
theorem hd_P_mark : y_P_mark.cls ≠ "java/lang/invoke/MethodHandle" ∧ y_P_mark.cls ≠ "java/lang/invoke/VarHandle" ∧ (parseMethodDescriptor y_P_mark.desc).map (fun d => d.parameters.length) = some 1 := by decide +kernel
theorem hd_K_at : y_K_at.cls ≠ "java/lang/invoke/MethodHandle" ∧ y_K_at.cls ≠ "java/lang/invoke/VarHandle" ∧ (parseMethodDescriptor y_K_at.desc).map (fun d => d.parameters.length) = some 1 := by decide +kernel
theorem hd_P_pool : y_P_pool.cls ≠ "java/lang/invoke/MethodHandle" ∧ y_P_pool.cls ≠ "java/lang/invoke/VarHandle" ∧ (parseMethodDescriptor y_P_pool.desc).map (fun d => d.parameters.length) = some 0 := by decide +kernel
theorem hd_M_init : y_M_init.cls ≠ "java/lang/invoke/MethodHandle" ∧ y_M_init.cls ≠ "java/lang/invoke/VarHandle" ∧ (parseMethodDescriptor y_M_init.desc).map (fun d => d.parameters.length) = some 0 := by decide +kernel
theorem hd_M_hash : y_M_hash.cls ≠ "java/lang/invoke/MethodHandle" ∧ y_M_hash.cls ≠ "java/lang/invoke/VarHandle" ∧ (parseMethodDescriptor y_M_hash.desc).map (fun d => d.parameters.length) = some 2 := by decide +kernel
theorem hd_M_outside : y_M_outside.cls ≠ "java/lang/invoke/MethodHandle" ∧ y_M_outside.cls ≠ "java/lang/invoke/VarHandle" ∧ (parseMethodDescriptor y_M_outside.desc).map (fun d => d.parameters.length) = some 2 := by decide +kernel
theorem hd_M_hashed : y_M_hashed.cls ≠ "java/lang/invoke/MethodHandle" ∧ y_M_hashed.cls ≠ "java/lang/invoke/VarHandle" ∧ (parseMethodDescriptor y_M_hashed.desc).map (fun d => d.parameters.length) = some 2 := by decide +kernel
theorem hd_M_salt : y_M_salt.cls ≠ "java/lang/invoke/MethodHandle" ∧ y_M_salt.cls ≠ "java/lang/invoke/VarHandle" ∧ (parseMethodDescriptor y_M_salt.desc).map (fun d => d.parameters.length) = some 1 := by decide +kernel
theorem hd_M_cubed : y_M_cubed.cls ≠ "java/lang/invoke/MethodHandle" ∧ y_M_cubed.cls ≠ "java/lang/invoke/VarHandle" ∧ (parseMethodDescriptor y_M_cubed.desc).map (fun d => d.parameters.length) = some 1 := by decide +kernel
theorem hd_M_reduced : y_M_reduced.cls ≠ "java/lang/invoke/MethodHandle" ∧ y_M_reduced.cls ≠ "java/lang/invoke/VarHandle" ∧ (parseMethodDescriptor y_M_reduced.desc).map (fun d => d.parameters.length) = some 1 := by decide +kernel
theorem hd_M_times : y_M_times.cls ≠ "java/lang/invoke/MethodHandle" ∧ y_M_times.cls ≠ "java/lang/invoke/VarHandle" ∧ (parseMethodDescriptor y_M_times.desc).map (fun d => d.parameters.length) = some 2 := by decide +kernel
theorem hd_M_deposit : y_M_deposit.cls ≠ "java/lang/invoke/MethodHandle" ∧ y_M_deposit.cls ≠ "java/lang/invoke/VarHandle" ∧ (parseMethodDescriptor y_M_deposit.desc).map (fun d => d.parameters.length) = some 3 := by decide +kernel
theorem hd_M_accountKey : y_M_accountKey.cls ≠ "java/lang/invoke/MethodHandle" ∧ y_M_accountKey.cls ≠ "java/lang/invoke/VarHandle" ∧ (parseMethodDescriptor y_M_accountKey.desc).map (fun d => d.parameters.length) = some 1 := by decide +kernel
theorem hd_M_make : y_M_make.cls ≠ "java/lang/invoke/MethodHandle" ∧ y_M_make.cls ≠ "java/lang/invoke/VarHandle" ∧ (parseMethodDescriptor y_M_make.desc).map (fun d => d.parameters.length) = some 3 := by decide +kernel
theorem hd_M_load : y_M_load.cls ≠ "java/lang/invoke/MethodHandle" ∧ y_M_load.cls ≠ "java/lang/invoke/VarHandle" ∧ (parseMethodDescriptor y_M_load.desc).map (fun d => d.parameters.length) = some 5 := by decide +kernel
theorem hd_M_ownerOf : y_M_ownerOf.cls ≠ "java/lang/invoke/MethodHandle" ∧ y_M_ownerOf.cls ≠ "java/lang/invoke/VarHandle" ∧ (parseMethodDescriptor y_M_ownerOf.desc).map (fun d => d.parameters.length) = some 1 := by decide +kernel
theorem hd_M_fill : y_M_fill.cls ≠ "java/lang/invoke/MethodHandle" ∧ y_M_fill.cls ≠ "java/lang/invoke/VarHandle" ∧ (parseMethodDescriptor y_M_fill.desc).map (fun d => d.parameters.length) = some 1 := by decide +kernel
theorem hd_M_due : y_M_due.cls ≠ "java/lang/invoke/MethodHandle" ∧ y_M_due.cls ≠ "java/lang/invoke/VarHandle" ∧ (parseMethodDescriptor y_M_due.desc).map (fun d => d.parameters.length) = some 2 := by decide +kernel
theorem hd_M_input : y_M_input.cls ≠ "java/lang/invoke/MethodHandle" ∧ y_M_input.cls ≠ "java/lang/invoke/VarHandle" ∧ (parseMethodDescriptor y_M_input.desc).map (fun d => d.parameters.length) = some 2 := by decide +kernel
theorem hd_M_nodeOf : y_M_nodeOf.cls ≠ "java/lang/invoke/MethodHandle" ∧ y_M_nodeOf.cls ≠ "java/lang/invoke/VarHandle" ∧ (parseMethodDescriptor y_M_nodeOf.desc).map (fun d => d.parameters.length) = some 3 := by decide +kernel
theorem hd_M_leaf : y_M_leaf.cls ≠ "java/lang/invoke/MethodHandle" ∧ y_M_leaf.cls ≠ "java/lang/invoke/VarHandle" ∧ (parseMethodDescriptor y_M_leaf.desc).map (fun d => d.parameters.length) = some 1 := by decide +kernel
theorem hd_M_turned : y_M_turned.cls ≠ "java/lang/invoke/MethodHandle" ∧ y_M_turned.cls ≠ "java/lang/invoke/VarHandle" ∧ (parseMethodDescriptor y_M_turned.desc).map (fun d => d.parameters.length) = some 2 := by decide +kernel
theorem hd_M_fault : y_M_fault.cls ≠ "java/lang/invoke/MethodHandle" ∧ y_M_fault.cls ≠ "java/lang/invoke/VarHandle" ∧ (parseMethodDescriptor y_M_fault.desc).map (fun d => d.parameters.length) = some 0 := by decide +kernel
theorem hd_M_holds : y_M_holds.cls ≠ "java/lang/invoke/MethodHandle" ∧ y_M_holds.cls ≠ "java/lang/invoke/VarHandle" ∧ (parseMethodDescriptor y_M_holds.desc).map (fun d => d.parameters.length) = some 1 := by decide +kernel
theorem hd_M_bit : y_M_bit.cls ≠ "java/lang/invoke/MethodHandle" ∧ y_M_bit.cls ≠ "java/lang/invoke/VarHandle" ∧ (parseMethodDescriptor y_M_bit.desc).map (fun d => d.parameters.length) = some 1 := by decide +kernel
theorem hd_M_sums : y_M_sums.cls ≠ "java/lang/invoke/MethodHandle" ∧ y_M_sums.cls ≠ "java/lang/invoke/VarHandle" ∧ (parseMethodDescriptor y_M_sums.desc).map (fun d => d.parameters.length) = some 0 := by decide +kernel
theorem hd_M_nine : y_M_nine.cls ≠ "java/lang/invoke/MethodHandle" ∧ y_M_nine.cls ≠ "java/lang/invoke/VarHandle" ∧ (parseMethodDescriptor y_M_nine.desc).map (fun d => d.parameters.length) = some 2 := by decide +kernel
theorem hd_M_set : y_M_set.cls ≠ "java/lang/invoke/MethodHandle" ∧ y_M_set.cls ≠ "java/lang/invoke/VarHandle" ∧ (parseMethodDescriptor y_M_set.desc).map (fun d => d.parameters.length) = some 2 := by decide +kernel
theorem hd_M_get : y_M_get.cls ≠ "java/lang/invoke/MethodHandle" ∧ y_M_get.cls ≠ "java/lang/invoke/VarHandle" ∧ (parseMethodDescriptor y_M_get.desc).map (fun d => d.parameters.length) = some 1 := by decide +kernel
theorem hd_M_submit : y_M_submit.cls ≠ "java/lang/invoke/MethodHandle" ∧ y_M_submit.cls ≠ "java/lang/invoke/VarHandle" ∧ (parseMethodDescriptor y_M_submit.desc).map (fun d => d.parameters.length) = some 0 := by decide +kernel
theorem hd_M_isRecent : y_M_isRecent.cls ≠ "java/lang/invoke/MethodHandle" ∧ y_M_isRecent.cls ≠ "java/lang/invoke/VarHandle" ∧ (parseMethodDescriptor y_M_isRecent.desc).map (fun d => d.parameters.length) = some 1 := by decide +kernel
theorem hd_M_root : y_M_root.cls ≠ "java/lang/invoke/MethodHandle" ∧ y_M_root.cls ≠ "java/lang/invoke/VarHandle" ∧ (parseMethodDescriptor y_M_root.desc).map (fun d => d.parameters.length) = some 1 := by decide +kernel
theorem hd_M_isUsed : y_M_isUsed.cls ≠ "java/lang/invoke/MethodHandle" ∧ y_M_isUsed.cls ≠ "java/lang/invoke/VarHandle" ∧ (parseMethodDescriptor y_M_isUsed.desc).map (fun d => d.parameters.length) = some 1 := by decide +kernel
theorem hd_M_notes : y_M_notes.cls ≠ "java/lang/invoke/MethodHandle" ∧ y_M_notes.cls ≠ "java/lang/invoke/VarHandle" ∧ (parseMethodDescriptor y_M_notes.desc).map (fun d => d.parameters.length) = some 0 := by decide +kernel
theorem hd_M_commitment : y_M_commitment.cls ≠ "java/lang/invoke/MethodHandle" ∧ y_M_commitment.cls ≠ "java/lang/invoke/VarHandle" ∧ (parseMethodDescriptor y_M_commitment.desc).map (fun d => d.parameters.length) = some 1 := by decide +kernel
theorem hd_M_owner : y_M_owner.cls ≠ "java/lang/invoke/MethodHandle" ∧ y_M_owner.cls ≠ "java/lang/invoke/VarHandle" ∧ (parseMethodDescriptor y_M_owner.desc).map (fun d => d.parameters.length) = some 1 := by decide +kernel
theorem hd_M_value : y_M_value.cls ≠ "java/lang/invoke/MethodHandle" ∧ y_M_value.cls ≠ "java/lang/invoke/VarHandle" ∧ (parseMethodDescriptor y_M_value.desc).map (fun d => d.parameters.length) = some 1 := by decide +kernel
theorem hd_M_unspent : y_M_unspent.cls ≠ "java/lang/invoke/MethodHandle" ∧ y_M_unspent.cls ≠ "java/lang/invoke/VarHandle" ∧ (parseMethodDescriptor y_M_unspent.desc).map (fun d => d.parameters.length) = some 1 := by decide +kernel
theorem hd_M_balance : y_M_balance.cls ≠ "java/lang/invoke/MethodHandle" ∧ y_M_balance.cls ≠ "java/lang/invoke/VarHandle" ∧ (parseMethodDescriptor y_M_balance.desc).map (fun d => d.parameters.length) = some 1 := by decide +kernel
theorem hd_M_node : y_M_node.cls ≠ "java/lang/invoke/MethodHandle" ∧ y_M_node.cls ≠ "java/lang/invoke/VarHandle" ∧ (parseMethodDescriptor y_M_node.desc).map (fun d => d.parameters.length) = some 2 := by decide +kernel
theorem hd_M_used : y_M_used.cls ≠ "java/lang/invoke/MethodHandle" ∧ y_M_used.cls ≠ "java/lang/invoke/VarHandle" ∧ (parseMethodDescriptor y_M_used.desc).map (fun d => d.parameters.length) = some 0 := by decide +kernel
theorem hd_M_mark : y_M_mark.cls ≠ "java/lang/invoke/MethodHandle" ∧ y_M_mark.cls ≠ "java/lang/invoke/VarHandle" ∧ (parseMethodDescriptor y_M_mark.desc).map (fun d => d.parameters.length) = some 1 := by decide +kernel
theorem hd_M_pool : y_M_pool.cls ≠ "java/lang/invoke/MethodHandle" ∧ y_M_pool.cls ≠ "java/lang/invoke/VarHandle" ∧ (parseMethodDescriptor y_M_pool.desc).map (fun d => d.parameters.length) = some 0 := by decide +kernel
end
section
theorem d_L_law_0 : decode code 0 = .ok (.new 7, 3) := by decide +kernel
theorem d_L_law_3 : decode code 3 = .ok (.dup, 1) := by decide +kernel
theorem d_L_law_4 : decode code 4 = .ok (.invokespecial 9, 3) := by decide +kernel
theorem d_L_law_7 : decode code 7 = .ok (.astore_n 1, 1) := by decide +kernel
theorem d_L_law_8 : decode code 8 = .ok (.new 10, 3) := by decide +kernel
theorem d_L_law_11 : decode code 11 = .ok (.dup, 1) := by decide +kernel
theorem d_L_law_12 : decode code 12 = .ok (.invokespecial 12, 3) := by decide +kernel
theorem d_L_law_15 : decode code 15 = .ok (.astore_n 2, 1) := by decide +kernel
theorem d_L_law_16 : decode code 16 = .ok (.iconst 0, 1) := by decide +kernel
theorem d_L_law_17 : decode code 17 = .ok (.istore_n 3, 1) := by decide +kernel
theorem d_L_law_18 : decode code 18 = .ok (.iload_n 3, 1) := by decide +kernel
theorem d_L_law_19 : decode code 19 = .ok (.aload_n 0, 1) := by decide +kernel
theorem d_L_law_20 : decode code 20 = .ok (.arraylength, 1) := by decide +kernel
theorem d_L_law_21 : decode code 21 = .ok (.bipush 6, 2) := by decide +kernel
theorem d_L_law_23 : decode code 23 = .ok (.isub, 1) := by decide +kernel
theorem d_L_law_24 : decode code 24 = .ok (.if_icmp .gt 556, 3) := by decide +kernel
theorem d_L_law_27 : decode code 27 = .ok (.aload_n 0, 1) := by decide +kernel
theorem d_L_law_28 : decode code 28 = .ok (.iload_n 3, 1) := by decide +kernel
theorem d_L_law_29 : decode code 29 = .ok (.iaload, 1) := by decide +kernel
theorem d_L_law_30 : decode code 30 = .ok (.bipush 31, 2) := by decide +kernel
theorem d_L_law_32 : decode code 32 = .ok (.iand, 1) := by decide +kernel
theorem d_L_law_33 : decode code 33 = .ok (.tableswitch 541 0 17 #[87, 120, 163, 226, 259, 282, 295, 308, 321, 344, 367, 390, 413, 436, 459, 492, 505, 528], 87) := by decide +kernel
theorem d_L_law_120 : decode code 120 = .ok (.aload_n 1, 1) := by decide +kernel
theorem d_L_law_121 : decode code 121 = .ok (.aload_n 0, 1) := by decide +kernel
theorem d_L_law_122 : decode code 122 = .ok (.iload_n 3, 1) := by decide +kernel
theorem d_L_law_123 : decode code 123 = .ok (.iconst 1, 1) := by decide +kernel
theorem d_L_law_124 : decode code 124 = .ok (.iadd, 1) := by decide +kernel
theorem d_L_law_125 : decode code 125 = .ok (.iaload, 1) := by decide +kernel
theorem d_L_law_126 : decode code 126 = .ok (.aload_n 0, 1) := by decide +kernel
theorem d_L_law_127 : decode code 127 = .ok (.iload_n 3, 1) := by decide +kernel
theorem d_L_law_128 : decode code 128 = .ok (.iconst 2, 1) := by decide +kernel
theorem d_L_law_129 : decode code 129 = .ok (.iadd, 1) := by decide +kernel
theorem d_L_law_130 : decode code 130 = .ok (.iaload, 1) := by decide +kernel
theorem d_L_law_131 : decode code 131 = .ok (.invokevirtual 13, 3) := by decide +kernel
theorem d_L_law_134 : decode code 134 = .ok (.aload_n 2, 1) := by decide +kernel
theorem d_L_law_135 : decode code 135 = .ok (.aload_n 0, 1) := by decide +kernel
theorem d_L_law_136 : decode code 136 = .ok (.iload_n 3, 1) := by decide +kernel
theorem d_L_law_137 : decode code 137 = .ok (.iconst 1, 1) := by decide +kernel
theorem d_L_law_138 : decode code 138 = .ok (.iadd, 1) := by decide +kernel
theorem d_L_law_139 : decode code 139 = .ok (.iaload, 1) := by decide +kernel
theorem d_L_law_140 : decode code 140 = .ok (.aload_n 0, 1) := by decide +kernel
theorem d_L_law_141 : decode code 141 = .ok (.iload_n 3, 1) := by decide +kernel
theorem d_L_law_142 : decode code 142 = .ok (.iconst 2, 1) := by decide +kernel
theorem d_L_law_143 : decode code 143 = .ok (.iadd, 1) := by decide +kernel
theorem d_L_law_144 : decode code 144 = .ok (.iaload, 1) := by decide +kernel
theorem d_L_law_145 : decode code 145 = .ok (.invokevirtual 17, 3) := by decide +kernel
theorem d_L_law_148 : decode code 148 = .ok (.if_icmp .eq 426, 3) := by decide +kernel
theorem d_L_law_151 : decode code 151 = .ok (.iconst 0, 1) := by decide +kernel
theorem d_L_law_152 : decode code 152 = .ok (.ireturn, 1) := by decide +kernel
theorem d_L_law_153 : decode code 153 = .ok (.aload_n 1, 1) := by decide +kernel
theorem d_L_law_154 : decode code 154 = .ok (.aload_n 0, 1) := by decide +kernel
theorem d_L_law_155 : decode code 155 = .ok (.iload_n 3, 1) := by decide +kernel
theorem d_L_law_156 : decode code 156 = .ok (.iconst 1, 1) := by decide +kernel
theorem d_L_law_157 : decode code 157 = .ok (.iadd, 1) := by decide +kernel
theorem d_L_law_158 : decode code 158 = .ok (.iaload, 1) := by decide +kernel
theorem d_L_law_159 : decode code 159 = .ok (.aload_n 0, 1) := by decide +kernel
theorem d_L_law_160 : decode code 160 = .ok (.iload_n 3, 1) := by decide +kernel
theorem d_L_law_161 : decode code 161 = .ok (.iconst 2, 1) := by decide +kernel
theorem d_L_law_162 : decode code 162 = .ok (.iadd, 1) := by decide +kernel
theorem d_L_law_163 : decode code 163 = .ok (.iaload, 1) := by decide +kernel
theorem d_L_law_164 : decode code 164 = .ok (.aload_n 0, 1) := by decide +kernel
theorem d_L_law_165 : decode code 165 = .ok (.iload_n 3, 1) := by decide +kernel
theorem d_L_law_166 : decode code 166 = .ok (.iconst 3, 1) := by decide +kernel
theorem d_L_law_167 : decode code 167 = .ok (.iadd, 1) := by decide +kernel
theorem d_L_law_168 : decode code 168 = .ok (.iaload, 1) := by decide +kernel
theorem d_L_law_169 : decode code 169 = .ok (.invokevirtual 18, 3) := by decide +kernel
theorem d_L_law_172 : decode code 172 = .ok (.aload_n 2, 1) := by decide +kernel
theorem d_L_law_173 : decode code 173 = .ok (.aload_n 0, 1) := by decide +kernel
theorem d_L_law_174 : decode code 174 = .ok (.iload_n 3, 1) := by decide +kernel
theorem d_L_law_175 : decode code 175 = .ok (.iconst 1, 1) := by decide +kernel
theorem d_L_law_176 : decode code 176 = .ok (.iadd, 1) := by decide +kernel
theorem d_L_law_177 : decode code 177 = .ok (.iaload, 1) := by decide +kernel
theorem d_L_law_178 : decode code 178 = .ok (.aload_n 0, 1) := by decide +kernel
theorem d_L_law_179 : decode code 179 = .ok (.iload_n 3, 1) := by decide +kernel
theorem d_L_law_180 : decode code 180 = .ok (.iconst 2, 1) := by decide +kernel
theorem d_L_law_181 : decode code 181 = .ok (.iadd, 1) := by decide +kernel
theorem d_L_law_182 : decode code 182 = .ok (.iaload, 1) := by decide +kernel
theorem d_L_law_183 : decode code 183 = .ok (.aload_n 0, 1) := by decide +kernel
theorem d_L_law_184 : decode code 184 = .ok (.iload_n 3, 1) := by decide +kernel
theorem d_L_law_185 : decode code 185 = .ok (.iconst 3, 1) := by decide +kernel
theorem d_L_law_186 : decode code 186 = .ok (.iadd, 1) := by decide +kernel
theorem d_L_law_187 : decode code 187 = .ok (.iaload, 1) := by decide +kernel
theorem d_L_law_188 : decode code 188 = .ok (.invokevirtual 22, 3) := by decide +kernel
theorem d_L_law_191 : decode code 191 = .ok (.if_icmp .eq 383, 3) := by decide +kernel
theorem d_L_law_194 : decode code 194 = .ok (.iconst 0, 1) := by decide +kernel
theorem d_L_law_195 : decode code 195 = .ok (.ireturn, 1) := by decide +kernel
theorem d_L_law_196 : decode code 196 = .ok (.aload_n 1, 1) := by decide +kernel
theorem d_L_law_197 : decode code 197 = .ok (.aload_n 0, 1) := by decide +kernel
theorem d_L_law_198 : decode code 198 = .ok (.iload_n 3, 1) := by decide +kernel
theorem d_L_law_199 : decode code 199 = .ok (.iconst 1, 1) := by decide +kernel
theorem d_L_law_200 : decode code 200 = .ok (.iadd, 1) := by decide +kernel
theorem d_L_law_201 : decode code 201 = .ok (.iaload, 1) := by decide +kernel
theorem d_L_law_202 : decode code 202 = .ok (.aload_n 0, 1) := by decide +kernel
theorem d_L_law_203 : decode code 203 = .ok (.iload_n 3, 1) := by decide +kernel
theorem d_L_law_204 : decode code 204 = .ok (.iconst 2, 1) := by decide +kernel
theorem d_L_law_205 : decode code 205 = .ok (.iadd, 1) := by decide +kernel
theorem d_L_law_206 : decode code 206 = .ok (.iaload, 1) := by decide +kernel
theorem d_L_law_207 : decode code 207 = .ok (.aload_n 0, 1) := by decide +kernel
theorem d_L_law_208 : decode code 208 = .ok (.iload_n 3, 1) := by decide +kernel
theorem d_L_law_209 : decode code 209 = .ok (.iconst 3, 1) := by decide +kernel
theorem d_L_law_210 : decode code 210 = .ok (.iadd, 1) := by decide +kernel
theorem d_L_law_211 : decode code 211 = .ok (.iaload, 1) := by decide +kernel
theorem d_L_law_212 : decode code 212 = .ok (.aload_n 0, 1) := by decide +kernel
theorem d_L_law_213 : decode code 213 = .ok (.iload_n 3, 1) := by decide +kernel
theorem d_L_law_214 : decode code 214 = .ok (.iconst 4, 1) := by decide +kernel
theorem d_L_law_215 : decode code 215 = .ok (.iadd, 1) := by decide +kernel
theorem d_L_law_216 : decode code 216 = .ok (.iaload, 1) := by decide +kernel
theorem d_L_law_217 : decode code 217 = .ok (.aload_n 0, 1) := by decide +kernel
theorem d_L_law_218 : decode code 218 = .ok (.iload_n 3, 1) := by decide +kernel
theorem d_L_law_219 : decode code 219 = .ok (.iconst 5, 1) := by decide +kernel
theorem d_L_law_220 : decode code 220 = .ok (.iadd, 1) := by decide +kernel
theorem d_L_law_221 : decode code 221 = .ok (.iaload, 1) := by decide +kernel
theorem d_L_law_222 : decode code 222 = .ok (.invokevirtual 23, 3) := by decide +kernel
theorem d_L_law_225 : decode code 225 = .ok (.aload_n 2, 1) := by decide +kernel
theorem d_L_law_226 : decode code 226 = .ok (.aload_n 0, 1) := by decide +kernel
theorem d_L_law_227 : decode code 227 = .ok (.iload_n 3, 1) := by decide +kernel
theorem d_L_law_228 : decode code 228 = .ok (.iconst 1, 1) := by decide +kernel
theorem d_L_law_229 : decode code 229 = .ok (.iadd, 1) := by decide +kernel
theorem d_L_law_230 : decode code 230 = .ok (.iaload, 1) := by decide +kernel
theorem d_L_law_231 : decode code 231 = .ok (.aload_n 0, 1) := by decide +kernel
theorem d_L_law_232 : decode code 232 = .ok (.iload_n 3, 1) := by decide +kernel
theorem d_L_law_233 : decode code 233 = .ok (.iconst 2, 1) := by decide +kernel
theorem d_L_law_234 : decode code 234 = .ok (.iadd, 1) := by decide +kernel
theorem d_L_law_235 : decode code 235 = .ok (.iaload, 1) := by decide +kernel
theorem d_L_law_236 : decode code 236 = .ok (.aload_n 0, 1) := by decide +kernel
theorem d_L_law_237 : decode code 237 = .ok (.iload_n 3, 1) := by decide +kernel
theorem d_L_law_238 : decode code 238 = .ok (.iconst 3, 1) := by decide +kernel
theorem d_L_law_239 : decode code 239 = .ok (.iadd, 1) := by decide +kernel
theorem d_L_law_240 : decode code 240 = .ok (.iaload, 1) := by decide +kernel
theorem d_L_law_241 : decode code 241 = .ok (.aload_n 0, 1) := by decide +kernel
theorem d_L_law_242 : decode code 242 = .ok (.iload_n 3, 1) := by decide +kernel
theorem d_L_law_243 : decode code 243 = .ok (.iconst 4, 1) := by decide +kernel
theorem d_L_law_244 : decode code 244 = .ok (.iadd, 1) := by decide +kernel
theorem d_L_law_245 : decode code 245 = .ok (.iaload, 1) := by decide +kernel
theorem d_L_law_246 : decode code 246 = .ok (.aload_n 0, 1) := by decide +kernel
theorem d_L_law_247 : decode code 247 = .ok (.iload_n 3, 1) := by decide +kernel
theorem d_L_law_248 : decode code 248 = .ok (.iconst 5, 1) := by decide +kernel
theorem d_L_law_249 : decode code 249 = .ok (.iadd, 1) := by decide +kernel
theorem d_L_law_250 : decode code 250 = .ok (.iaload, 1) := by decide +kernel
theorem d_L_law_251 : decode code 251 = .ok (.invokevirtual 27, 3) := by decide +kernel
theorem d_L_law_254 : decode code 254 = .ok (.if_icmp .eq 320, 3) := by decide +kernel
theorem d_L_law_257 : decode code 257 = .ok (.iconst 0, 1) := by decide +kernel
theorem d_L_law_258 : decode code 258 = .ok (.ireturn, 1) := by decide +kernel
theorem d_L_law_259 : decode code 259 = .ok (.aload_n 1, 1) := by decide +kernel
theorem d_L_law_260 : decode code 260 = .ok (.aload_n 0, 1) := by decide +kernel
theorem d_L_law_261 : decode code 261 = .ok (.iload_n 3, 1) := by decide +kernel
theorem d_L_law_262 : decode code 262 = .ok (.iconst 1, 1) := by decide +kernel
theorem d_L_law_263 : decode code 263 = .ok (.iadd, 1) := by decide +kernel
theorem d_L_law_264 : decode code 264 = .ok (.iaload, 1) := by decide +kernel
theorem d_L_law_265 : decode code 265 = .ok (.aload_n 0, 1) := by decide +kernel
theorem d_L_law_266 : decode code 266 = .ok (.iload_n 3, 1) := by decide +kernel
theorem d_L_law_267 : decode code 267 = .ok (.iconst 2, 1) := by decide +kernel
theorem d_L_law_268 : decode code 268 = .ok (.iadd, 1) := by decide +kernel
theorem d_L_law_269 : decode code 269 = .ok (.iaload, 1) := by decide +kernel
theorem d_L_law_270 : decode code 270 = .ok (.invokevirtual 28, 3) := by decide +kernel
theorem d_L_law_273 : decode code 273 = .ok (.aload_n 2, 1) := by decide +kernel
theorem d_L_law_274 : decode code 274 = .ok (.aload_n 0, 1) := by decide +kernel
theorem d_L_law_275 : decode code 275 = .ok (.iload_n 3, 1) := by decide +kernel
theorem d_L_law_276 : decode code 276 = .ok (.iconst 1, 1) := by decide +kernel
theorem d_L_law_277 : decode code 277 = .ok (.iadd, 1) := by decide +kernel
theorem d_L_law_278 : decode code 278 = .ok (.iaload, 1) := by decide +kernel
theorem d_L_law_279 : decode code 279 = .ok (.aload_n 0, 1) := by decide +kernel
theorem d_L_law_280 : decode code 280 = .ok (.iload_n 3, 1) := by decide +kernel
theorem d_L_law_281 : decode code 281 = .ok (.iconst 2, 1) := by decide +kernel
theorem d_L_law_282 : decode code 282 = .ok (.iadd, 1) := by decide +kernel
theorem d_L_law_283 : decode code 283 = .ok (.iaload, 1) := by decide +kernel
theorem d_L_law_284 : decode code 284 = .ok (.invokevirtual 32, 3) := by decide +kernel
theorem d_L_law_287 : decode code 287 = .ok (.if_icmp .eq 287, 3) := by decide +kernel
theorem d_L_law_290 : decode code 290 = .ok (.iconst 0, 1) := by decide +kernel
theorem d_L_law_291 : decode code 291 = .ok (.ireturn, 1) := by decide +kernel
theorem d_L_law_292 : decode code 292 = .ok (.aload_n 1, 1) := by decide +kernel
theorem d_L_law_293 : decode code 293 = .ok (.aload_n 0, 1) := by decide +kernel
theorem d_L_law_294 : decode code 294 = .ok (.iload_n 3, 1) := by decide +kernel
theorem d_L_law_295 : decode code 295 = .ok (.iconst 1, 1) := by decide +kernel
theorem d_L_law_296 : decode code 296 = .ok (.iadd, 1) := by decide +kernel
theorem d_L_law_297 : decode code 297 = .ok (.iaload, 1) := by decide +kernel
theorem d_L_law_298 : decode code 298 = .ok (.invokevirtual 33, 3) := by decide +kernel
theorem d_L_law_301 : decode code 301 = .ok (.aload_n 2, 1) := by decide +kernel
theorem d_L_law_302 : decode code 302 = .ok (.aload_n 0, 1) := by decide +kernel
theorem d_L_law_303 : decode code 303 = .ok (.iload_n 3, 1) := by decide +kernel
theorem d_L_law_304 : decode code 304 = .ok (.iconst 1, 1) := by decide +kernel
theorem d_L_law_305 : decode code 305 = .ok (.iadd, 1) := by decide +kernel
theorem d_L_law_306 : decode code 306 = .ok (.iaload, 1) := by decide +kernel
theorem d_L_law_307 : decode code 307 = .ok (.invokevirtual 37, 3) := by decide +kernel
theorem d_L_law_310 : decode code 310 = .ok (.if_icmp .eq 264, 3) := by decide +kernel
theorem d_L_law_313 : decode code 313 = .ok (.iconst 0, 1) := by decide +kernel
theorem d_L_law_314 : decode code 314 = .ok (.ireturn, 1) := by decide +kernel
theorem d_L_law_315 : decode code 315 = .ok (.aload_n 1, 1) := by decide +kernel
theorem d_L_law_316 : decode code 316 = .ok (.invokevirtual 38, 3) := by decide +kernel
theorem d_L_law_319 : decode code 319 = .ok (.aload_n 2, 1) := by decide +kernel
theorem d_L_law_320 : decode code 320 = .ok (.invokevirtual 42, 3) := by decide +kernel
theorem d_L_law_323 : decode code 323 = .ok (.if_icmp .eq 251, 3) := by decide +kernel
theorem d_L_law_326 : decode code 326 = .ok (.iconst 0, 1) := by decide +kernel
theorem d_L_law_327 : decode code 327 = .ok (.ireturn, 1) := by decide +kernel
theorem d_L_law_328 : decode code 328 = .ok (.aload_n 1, 1) := by decide +kernel
theorem d_L_law_329 : decode code 329 = .ok (.invokevirtual 43, 3) := by decide +kernel
theorem d_L_law_332 : decode code 332 = .ok (.aload_n 2, 1) := by decide +kernel
theorem d_L_law_333 : decode code 333 = .ok (.invokevirtual 46, 3) := by decide +kernel
theorem d_L_law_336 : decode code 336 = .ok (.if_icmp .eq 238, 3) := by decide +kernel
theorem d_L_law_339 : decode code 339 = .ok (.iconst 0, 1) := by decide +kernel
theorem d_L_law_340 : decode code 340 = .ok (.ireturn, 1) := by decide +kernel
theorem d_L_law_341 : decode code 341 = .ok (.aload_n 1, 1) := by decide +kernel
theorem d_L_law_342 : decode code 342 = .ok (.invokevirtual 47, 3) := by decide +kernel
theorem d_L_law_345 : decode code 345 = .ok (.aload_n 2, 1) := by decide +kernel
theorem d_L_law_346 : decode code 346 = .ok (.invokevirtual 50, 3) := by decide +kernel
theorem d_L_law_349 : decode code 349 = .ok (.if_icmp .eq 225, 3) := by decide +kernel
theorem d_L_law_352 : decode code 352 = .ok (.iconst 0, 1) := by decide +kernel
theorem d_L_law_353 : decode code 353 = .ok (.ireturn, 1) := by decide +kernel
theorem d_L_law_354 : decode code 354 = .ok (.aload_n 1, 1) := by decide +kernel
theorem d_L_law_355 : decode code 355 = .ok (.aload_n 0, 1) := by decide +kernel
theorem d_L_law_356 : decode code 356 = .ok (.iload_n 3, 1) := by decide +kernel
theorem d_L_law_357 : decode code 357 = .ok (.iconst 1, 1) := by decide +kernel
theorem d_L_law_358 : decode code 358 = .ok (.iadd, 1) := by decide +kernel
theorem d_L_law_359 : decode code 359 = .ok (.iaload, 1) := by decide +kernel
theorem d_L_law_360 : decode code 360 = .ok (.invokevirtual 51, 3) := by decide +kernel
theorem d_L_law_363 : decode code 363 = .ok (.aload_n 2, 1) := by decide +kernel
theorem d_L_law_364 : decode code 364 = .ok (.aload_n 0, 1) := by decide +kernel
theorem d_L_law_365 : decode code 365 = .ok (.iload_n 3, 1) := by decide +kernel
theorem d_L_law_366 : decode code 366 = .ok (.iconst 1, 1) := by decide +kernel
theorem d_L_law_367 : decode code 367 = .ok (.iadd, 1) := by decide +kernel
theorem d_L_law_368 : decode code 368 = .ok (.iaload, 1) := by decide +kernel
theorem d_L_law_369 : decode code 369 = .ok (.invokevirtual 54, 3) := by decide +kernel
theorem d_L_law_372 : decode code 372 = .ok (.if_icmp .eq 202, 3) := by decide +kernel
theorem d_L_law_375 : decode code 375 = .ok (.iconst 0, 1) := by decide +kernel
theorem d_L_law_376 : decode code 376 = .ok (.ireturn, 1) := by decide +kernel
theorem d_L_law_377 : decode code 377 = .ok (.aload_n 1, 1) := by decide +kernel
theorem d_L_law_378 : decode code 378 = .ok (.aload_n 0, 1) := by decide +kernel
theorem d_L_law_379 : decode code 379 = .ok (.iload_n 3, 1) := by decide +kernel
theorem d_L_law_380 : decode code 380 = .ok (.iconst 1, 1) := by decide +kernel
theorem d_L_law_381 : decode code 381 = .ok (.iadd, 1) := by decide +kernel
theorem d_L_law_382 : decode code 382 = .ok (.iaload, 1) := by decide +kernel
theorem d_L_law_383 : decode code 383 = .ok (.invokevirtual 55, 3) := by decide +kernel
theorem d_L_law_386 : decode code 386 = .ok (.aload_n 2, 1) := by decide +kernel
theorem d_L_law_387 : decode code 387 = .ok (.aload_n 0, 1) := by decide +kernel
theorem d_L_law_388 : decode code 388 = .ok (.iload_n 3, 1) := by decide +kernel
theorem d_L_law_389 : decode code 389 = .ok (.iconst 1, 1) := by decide +kernel
theorem d_L_law_390 : decode code 390 = .ok (.iadd, 1) := by decide +kernel
theorem d_L_law_391 : decode code 391 = .ok (.iaload, 1) := by decide +kernel
theorem d_L_law_392 : decode code 392 = .ok (.invokevirtual 58, 3) := by decide +kernel
theorem d_L_law_395 : decode code 395 = .ok (.if_icmp .eq 179, 3) := by decide +kernel
theorem d_L_law_398 : decode code 398 = .ok (.iconst 0, 1) := by decide +kernel
theorem d_L_law_399 : decode code 399 = .ok (.ireturn, 1) := by decide +kernel
theorem d_L_law_400 : decode code 400 = .ok (.aload_n 1, 1) := by decide +kernel
theorem d_L_law_401 : decode code 401 = .ok (.aload_n 0, 1) := by decide +kernel
theorem d_L_law_402 : decode code 402 = .ok (.iload_n 3, 1) := by decide +kernel
theorem d_L_law_403 : decode code 403 = .ok (.iconst 1, 1) := by decide +kernel
theorem d_L_law_404 : decode code 404 = .ok (.iadd, 1) := by decide +kernel
theorem d_L_law_405 : decode code 405 = .ok (.iaload, 1) := by decide +kernel
theorem d_L_law_406 : decode code 406 = .ok (.invokevirtual 59, 3) := by decide +kernel
theorem d_L_law_409 : decode code 409 = .ok (.aload_n 2, 1) := by decide +kernel
theorem d_L_law_410 : decode code 410 = .ok (.aload_n 0, 1) := by decide +kernel
theorem d_L_law_411 : decode code 411 = .ok (.iload_n 3, 1) := by decide +kernel
theorem d_L_law_412 : decode code 412 = .ok (.iconst 1, 1) := by decide +kernel
theorem d_L_law_413 : decode code 413 = .ok (.iadd, 1) := by decide +kernel
theorem d_L_law_414 : decode code 414 = .ok (.iaload, 1) := by decide +kernel
theorem d_L_law_415 : decode code 415 = .ok (.invokevirtual 62, 3) := by decide +kernel
theorem d_L_law_418 : decode code 418 = .ok (.if_icmp .eq 156, 3) := by decide +kernel
theorem d_L_law_421 : decode code 421 = .ok (.iconst 0, 1) := by decide +kernel
theorem d_L_law_422 : decode code 422 = .ok (.ireturn, 1) := by decide +kernel
theorem d_L_law_423 : decode code 423 = .ok (.aload_n 1, 1) := by decide +kernel
theorem d_L_law_424 : decode code 424 = .ok (.aload_n 0, 1) := by decide +kernel
theorem d_L_law_425 : decode code 425 = .ok (.iload_n 3, 1) := by decide +kernel
theorem d_L_law_426 : decode code 426 = .ok (.iconst 1, 1) := by decide +kernel
theorem d_L_law_427 : decode code 427 = .ok (.iadd, 1) := by decide +kernel
theorem d_L_law_428 : decode code 428 = .ok (.iaload, 1) := by decide +kernel
theorem d_L_law_429 : decode code 429 = .ok (.invokevirtual 63, 3) := by decide +kernel
theorem d_L_law_432 : decode code 432 = .ok (.aload_n 2, 1) := by decide +kernel
theorem d_L_law_433 : decode code 433 = .ok (.aload_n 0, 1) := by decide +kernel
theorem d_L_law_434 : decode code 434 = .ok (.iload_n 3, 1) := by decide +kernel
theorem d_L_law_435 : decode code 435 = .ok (.iconst 1, 1) := by decide +kernel
theorem d_L_law_436 : decode code 436 = .ok (.iadd, 1) := by decide +kernel
theorem d_L_law_437 : decode code 437 = .ok (.iaload, 1) := by decide +kernel
theorem d_L_law_438 : decode code 438 = .ok (.invokevirtual 67, 3) := by decide +kernel
theorem d_L_law_441 : decode code 441 = .ok (.if_icmp .eq 133, 3) := by decide +kernel
theorem d_L_law_444 : decode code 444 = .ok (.iconst 0, 1) := by decide +kernel
theorem d_L_law_445 : decode code 445 = .ok (.ireturn, 1) := by decide +kernel
theorem d_L_law_446 : decode code 446 = .ok (.aload_n 1, 1) := by decide +kernel
theorem d_L_law_447 : decode code 447 = .ok (.aload_n 0, 1) := by decide +kernel
theorem d_L_law_448 : decode code 448 = .ok (.iload_n 3, 1) := by decide +kernel
theorem d_L_law_449 : decode code 449 = .ok (.iconst 1, 1) := by decide +kernel
theorem d_L_law_450 : decode code 450 = .ok (.iadd, 1) := by decide +kernel
theorem d_L_law_451 : decode code 451 = .ok (.iaload, 1) := by decide +kernel
theorem d_L_law_452 : decode code 452 = .ok (.invokevirtual 68, 3) := by decide +kernel
theorem d_L_law_455 : decode code 455 = .ok (.aload_n 2, 1) := by decide +kernel
theorem d_L_law_456 : decode code 456 = .ok (.aload_n 0, 1) := by decide +kernel
theorem d_L_law_457 : decode code 457 = .ok (.iload_n 3, 1) := by decide +kernel
theorem d_L_law_458 : decode code 458 = .ok (.iconst 1, 1) := by decide +kernel
theorem d_L_law_459 : decode code 459 = .ok (.iadd, 1) := by decide +kernel
theorem d_L_law_460 : decode code 460 = .ok (.iaload, 1) := by decide +kernel
theorem d_L_law_461 : decode code 461 = .ok (.invokevirtual 71, 3) := by decide +kernel
theorem d_L_law_464 : decode code 464 = .ok (.if_icmp .eq 110, 3) := by decide +kernel
theorem d_L_law_467 : decode code 467 = .ok (.iconst 0, 1) := by decide +kernel
theorem d_L_law_468 : decode code 468 = .ok (.ireturn, 1) := by decide +kernel
theorem d_L_law_469 : decode code 469 = .ok (.aload_n 1, 1) := by decide +kernel
theorem d_L_law_470 : decode code 470 = .ok (.aload_n 0, 1) := by decide +kernel
theorem d_L_law_471 : decode code 471 = .ok (.iload_n 3, 1) := by decide +kernel
theorem d_L_law_472 : decode code 472 = .ok (.iconst 1, 1) := by decide +kernel
theorem d_L_law_473 : decode code 473 = .ok (.iadd, 1) := by decide +kernel
theorem d_L_law_474 : decode code 474 = .ok (.iaload, 1) := by decide +kernel
theorem d_L_law_475 : decode code 475 = .ok (.invokevirtual 72, 3) := by decide +kernel
theorem d_L_law_478 : decode code 478 = .ok (.aload_n 2, 1) := by decide +kernel
theorem d_L_law_479 : decode code 479 = .ok (.aload_n 0, 1) := by decide +kernel
theorem d_L_law_480 : decode code 480 = .ok (.iload_n 3, 1) := by decide +kernel
theorem d_L_law_481 : decode code 481 = .ok (.iconst 1, 1) := by decide +kernel
theorem d_L_law_482 : decode code 482 = .ok (.iadd, 1) := by decide +kernel
theorem d_L_law_483 : decode code 483 = .ok (.iaload, 1) := by decide +kernel
theorem d_L_law_484 : decode code 484 = .ok (.invokevirtual 75, 3) := by decide +kernel
theorem d_L_law_487 : decode code 487 = .ok (.if_icmp .eq 87, 3) := by decide +kernel
theorem d_L_law_490 : decode code 490 = .ok (.iconst 0, 1) := by decide +kernel
theorem d_L_law_491 : decode code 491 = .ok (.ireturn, 1) := by decide +kernel
theorem d_L_law_492 : decode code 492 = .ok (.aload_n 1, 1) := by decide +kernel
theorem d_L_law_493 : decode code 493 = .ok (.aload_n 0, 1) := by decide +kernel
theorem d_L_law_494 : decode code 494 = .ok (.iload_n 3, 1) := by decide +kernel
theorem d_L_law_495 : decode code 495 = .ok (.iconst 1, 1) := by decide +kernel
theorem d_L_law_496 : decode code 496 = .ok (.iadd, 1) := by decide +kernel
theorem d_L_law_497 : decode code 497 = .ok (.iaload, 1) := by decide +kernel
theorem d_L_law_498 : decode code 498 = .ok (.aload_n 0, 1) := by decide +kernel
theorem d_L_law_499 : decode code 499 = .ok (.iload_n 3, 1) := by decide +kernel
theorem d_L_law_500 : decode code 500 = .ok (.iconst 2, 1) := by decide +kernel
theorem d_L_law_501 : decode code 501 = .ok (.iadd, 1) := by decide +kernel
theorem d_L_law_502 : decode code 502 = .ok (.iaload, 1) := by decide +kernel
theorem d_L_law_503 : decode code 503 = .ok (.invokevirtual 76, 3) := by decide +kernel
theorem d_L_law_506 : decode code 506 = .ok (.aload_n 2, 1) := by decide +kernel
theorem d_L_law_507 : decode code 507 = .ok (.aload_n 0, 1) := by decide +kernel
theorem d_L_law_508 : decode code 508 = .ok (.iload_n 3, 1) := by decide +kernel
theorem d_L_law_509 : decode code 509 = .ok (.iconst 1, 1) := by decide +kernel
theorem d_L_law_510 : decode code 510 = .ok (.iadd, 1) := by decide +kernel
theorem d_L_law_511 : decode code 511 = .ok (.iaload, 1) := by decide +kernel
theorem d_L_law_512 : decode code 512 = .ok (.aload_n 0, 1) := by decide +kernel
theorem d_L_law_513 : decode code 513 = .ok (.iload_n 3, 1) := by decide +kernel
theorem d_L_law_514 : decode code 514 = .ok (.iconst 2, 1) := by decide +kernel
theorem d_L_law_515 : decode code 515 = .ok (.iadd, 1) := by decide +kernel
theorem d_L_law_516 : decode code 516 = .ok (.iaload, 1) := by decide +kernel
theorem d_L_law_517 : decode code 517 = .ok (.invokevirtual 79, 3) := by decide +kernel
theorem d_L_law_520 : decode code 520 = .ok (.if_icmp .eq 54, 3) := by decide +kernel
theorem d_L_law_523 : decode code 523 = .ok (.iconst 0, 1) := by decide +kernel
theorem d_L_law_524 : decode code 524 = .ok (.ireturn, 1) := by decide +kernel
theorem d_L_law_525 : decode code 525 = .ok (.aload_n 1, 1) := by decide +kernel
theorem d_L_law_526 : decode code 526 = .ok (.invokevirtual 80, 3) := by decide +kernel
theorem d_L_law_529 : decode code 529 = .ok (.aload_n 2, 1) := by decide +kernel
theorem d_L_law_530 : decode code 530 = .ok (.invokevirtual 83, 3) := by decide +kernel
theorem d_L_law_533 : decode code 533 = .ok (.if_icmp .eq 41, 3) := by decide +kernel
theorem d_L_law_536 : decode code 536 = .ok (.iconst 0, 1) := by decide +kernel
theorem d_L_law_537 : decode code 537 = .ok (.ireturn, 1) := by decide +kernel
theorem d_L_law_538 : decode code 538 = .ok (.aload_n 1, 1) := by decide +kernel
theorem d_L_law_539 : decode code 539 = .ok (.aload_n 0, 1) := by decide +kernel
theorem d_L_law_540 : decode code 540 = .ok (.iload_n 3, 1) := by decide +kernel
theorem d_L_law_541 : decode code 541 = .ok (.iconst 1, 1) := by decide +kernel
theorem d_L_law_542 : decode code 542 = .ok (.iadd, 1) := by decide +kernel
theorem d_L_law_543 : decode code 543 = .ok (.iaload, 1) := by decide +kernel
theorem d_L_law_544 : decode code 544 = .ok (.invokevirtual 84, 3) := by decide +kernel
theorem d_L_law_547 : decode code 547 = .ok (.aload_n 2, 1) := by decide +kernel
theorem d_L_law_548 : decode code 548 = .ok (.aload_n 0, 1) := by decide +kernel
theorem d_L_law_549 : decode code 549 = .ok (.iload_n 3, 1) := by decide +kernel
theorem d_L_law_550 : decode code 550 = .ok (.iconst 1, 1) := by decide +kernel
theorem d_L_law_551 : decode code 551 = .ok (.iadd, 1) := by decide +kernel
theorem d_L_law_552 : decode code 552 = .ok (.iaload, 1) := by decide +kernel
theorem d_L_law_553 : decode code 553 = .ok (.invokevirtual 87, 3) := by decide +kernel
theorem d_L_law_556 : decode code 556 = .ok (.if_icmp .eq 18, 3) := by decide +kernel
theorem d_L_law_559 : decode code 559 = .ok (.iconst 0, 1) := by decide +kernel
theorem d_L_law_560 : decode code 560 = .ok (.ireturn, 1) := by decide +kernel
theorem d_L_law_561 : decode code 561 = .ok (.aload_n 1, 1) := by decide +kernel
theorem d_L_law_562 : decode code 562 = .ok (.invokevirtual 88, 3) := by decide +kernel
theorem d_L_law_565 : decode code 565 = .ok (.aload_n 2, 1) := by decide +kernel
theorem d_L_law_566 : decode code 566 = .ok (.invokevirtual 91, 3) := by decide +kernel
theorem d_L_law_569 : decode code 569 = .ok (.if_icmp .eq 5, 3) := by decide +kernel
theorem d_L_law_572 : decode code 572 = .ok (.iconst 0, 1) := by decide +kernel
theorem d_L_law_573 : decode code 573 = .ok (.ireturn, 1) := by decide +kernel
theorem d_L_law_574 : decode code 574 = .ok (.iinc 3 6, 3) := by decide +kernel
theorem d_L_law_577 : decode code 577 = .ok (.goto (-559), 3) := by decide +kernel
theorem d_L_law_580 : decode code 580 = .ok (.iconst 1, 1) := by decide +kernel
theorem d_L_law_581 : decode code 581 = .ok (.ireturn, 1) := by decide +kernel
end
section
theorem d_M_init_0 : decode b_M_init 0 = .ok (.aload_n 0, 1) := by decide +kernel
theorem d_M_init_1 : decode b_M_init 1 = .ok (.invokespecial 1, 3) := by decide +kernel
theorem d_M_init_4 : decode b_M_init 4 = .ok (.aload_n 0, 1) := by decide +kernel
theorem d_M_init_5 : decode b_M_init 5 = .ok (.bipush 16, 2) := by decide +kernel
theorem d_M_init_7 : decode b_M_init 7 = .ok (.newarray .int, 2) := by decide +kernel
theorem d_M_init_9 : decode b_M_init 9 = .ok (.putfield 7, 3) := by decide +kernel
theorem d_M_init_12 : decode b_M_init 12 = .ok (.aload_n 0, 1) := by decide +kernel
theorem d_M_init_13 : decode b_M_init 13 = .ok (.bipush 16, 2) := by decide +kernel
theorem d_M_init_15 : decode b_M_init 15 = .ok (.newarray .int, 2) := by decide +kernel
theorem d_M_init_17 : decode b_M_init 17 = .ok (.putfield 13, 3) := by decide +kernel
theorem d_M_init_20 : decode b_M_init 20 = .ok (.aload_n 0, 1) := by decide +kernel
theorem d_M_init_21 : decode b_M_init 21 = .ok (.bipush 16, 2) := by decide +kernel
theorem d_M_init_23 : decode b_M_init 23 = .ok (.newarray .int, 2) := by decide +kernel
theorem d_M_init_25 : decode b_M_init 25 = .ok (.putfield 16, 3) := by decide +kernel
theorem d_M_init_28 : decode b_M_init 28 = .ok (.aload_n 0, 1) := by decide +kernel
theorem d_M_init_29 : decode b_M_init 29 = .ok (.bipush 16, 2) := by decide +kernel
theorem d_M_init_31 : decode b_M_init 31 = .ok (.newarray .int, 2) := by decide +kernel
theorem d_M_init_33 : decode b_M_init 33 = .ok (.putfield 19, 3) := by decide +kernel
theorem d_M_init_36 : decode b_M_init 36 = .ok (.aload_n 0, 1) := by decide +kernel
theorem d_M_init_37 : decode b_M_init 37 = .ok (.bipush 125, 2) := by decide +kernel
theorem d_M_init_39 : decode b_M_init 39 = .ok (.newarray .int, 2) := by decide +kernel
theorem d_M_init_41 : decode b_M_init 41 = .ok (.putfield 22, 3) := by decide +kernel
theorem d_M_init_44 : decode b_M_init 44 = .ok (.aload_n 0, 1) := by decide +kernel
theorem d_M_init_45 : decode b_M_init 45 = .ok (.bipush 16, 2) := by decide +kernel
theorem d_M_init_47 : decode b_M_init 47 = .ok (.newarray .int, 2) := by decide +kernel
theorem d_M_init_49 : decode b_M_init 49 = .ok (.putfield 25, 3) := by decide +kernel
theorem d_M_init_52 : decode b_M_init 52 = .ok (.aload_n 0, 1) := by decide +kernel
theorem d_M_init_53 : decode b_M_init 53 = .ok (.getfield 22, 3) := by decide +kernel
theorem d_M_init_56 : decode b_M_init 56 = .ok (.iconst 0, 1) := by decide +kernel
theorem d_M_init_57 : decode b_M_init 57 = .ok (.iconst 1, 1) := by decide +kernel
theorem d_M_init_58 : decode b_M_init 58 = .ok (.iastore, 1) := by decide +kernel
theorem d_M_init_59 : decode b_M_init 59 = .ok (.return_, 1) := by decide +kernel
theorem d_M_hash_0 : decode b_M_hash 0 = .ok (.iload_n 1, 1) := by decide +kernel
theorem d_M_hash_1 : decode b_M_hash 1 = .ok (.ldc 46, 2) := by decide +kernel
theorem d_M_hash_3 : decode b_M_hash 3 = .ok (.invokestatic 47, 3) := by decide +kernel
theorem d_M_hash_6 : decode b_M_hash 6 = .ok (.ifCond .ne 12, 3) := by decide +kernel
theorem d_M_hash_9 : decode b_M_hash 9 = .ok (.iload_n 2, 1) := by decide +kernel
theorem d_M_hash_10 : decode b_M_hash 10 = .ok (.ldc 46, 2) := by decide +kernel
theorem d_M_hash_12 : decode b_M_hash 12 = .ok (.invokestatic 47, 3) := by decide +kernel
theorem d_M_hash_15 : decode b_M_hash 15 = .ok (.ifCond .eq 7, 3) := by decide +kernel
theorem d_M_hash_18 : decode b_M_hash 18 = .ok (.iconst (-1), 1) := by decide +kernel
theorem d_M_hash_19 : decode b_M_hash 19 = .ok (.goto 8, 3) := by decide +kernel
theorem d_M_hash_22 : decode b_M_hash 22 = .ok (.iload_n 1, 1) := by decide +kernel
theorem d_M_hash_23 : decode b_M_hash 23 = .ok (.iload_n 2, 1) := by decide +kernel
theorem d_M_hash_24 : decode b_M_hash 24 = .ok (.invokestatic 51, 3) := by decide +kernel
theorem d_M_hash_27 : decode b_M_hash 27 = .ok (.ireturn, 1) := by decide +kernel
theorem d_M_outside_0 : decode b_M_outside 0 = .ok (.iload_n 0, 1) := by decide +kernel
theorem d_M_outside_1 : decode b_M_outside 1 = .ok (.ifCond .lt 8, 3) := by decide +kernel
theorem d_M_outside_4 : decode b_M_outside 4 = .ok (.iload_n 0, 1) := by decide +kernel
theorem d_M_outside_5 : decode b_M_outside 5 = .ok (.iload_n 1, 1) := by decide +kernel
theorem d_M_outside_6 : decode b_M_outside 6 = .ok (.if_icmp .le 7, 3) := by decide +kernel
theorem d_M_outside_9 : decode b_M_outside 9 = .ok (.iconst 1, 1) := by decide +kernel
theorem d_M_outside_10 : decode b_M_outside 10 = .ok (.goto 4, 3) := by decide +kernel
theorem d_M_outside_13 : decode b_M_outside 13 = .ok (.iconst 0, 1) := by decide +kernel
theorem d_M_outside_14 : decode b_M_outside 14 = .ok (.ireturn, 1) := by decide +kernel
theorem d_M_hashed_0 : decode b_M_hashed 0 = .ok (.iload_n 0, 1) := by decide +kernel
theorem d_M_hashed_1 : decode b_M_hashed 1 = .ok (.istore_n 2, 1) := by decide +kernel
theorem d_M_hashed_2 : decode b_M_hashed 2 = .ok (.iconst 0, 1) := by decide +kernel
theorem d_M_hashed_3 : decode b_M_hashed 3 = .ok (.istore_n 3, 1) := by decide +kernel
theorem d_M_hashed_4 : decode b_M_hashed 4 = .ok (.iload_n 3, 1) := by decide +kernel
theorem d_M_hashed_5 : decode b_M_hashed 5 = .ok (.iconst 4, 1) := by decide +kernel
theorem d_M_hashed_6 : decode b_M_hashed 6 = .ok (.if_icmp .ge 24, 3) := by decide +kernel
theorem d_M_hashed_9 : decode b_M_hashed 9 = .ok (.iload_n 2, 1) := by decide +kernel
theorem d_M_hashed_10 : decode b_M_hashed 10 = .ok (.i2l, 1) := by decide +kernel
theorem d_M_hashed_11 : decode b_M_hashed 11 = .ok (.iload_n 1, 1) := by decide +kernel
theorem d_M_hashed_12 : decode b_M_hashed 12 = .ok (.i2l, 1) := by decide +kernel
theorem d_M_hashed_13 : decode b_M_hashed 13 = .ok (.ladd, 1) := by decide +kernel
theorem d_M_hashed_14 : decode b_M_hashed 14 = .ok (.iload_n 3, 1) := by decide +kernel
theorem d_M_hashed_15 : decode b_M_hashed 15 = .ok (.invokestatic 39, 3) := by decide +kernel
theorem d_M_hashed_18 : decode b_M_hashed 18 = .ok (.i2l, 1) := by decide +kernel
theorem d_M_hashed_19 : decode b_M_hashed 19 = .ok (.ladd, 1) := by decide +kernel
theorem d_M_hashed_20 : decode b_M_hashed 20 = .ok (.invokestatic 43, 3) := by decide +kernel
theorem d_M_hashed_23 : decode b_M_hashed 23 = .ok (.istore_n 2, 1) := by decide +kernel
theorem d_M_hashed_24 : decode b_M_hashed 24 = .ok (.iinc 3 1, 3) := by decide +kernel
theorem d_M_hashed_27 : decode b_M_hashed 27 = .ok (.goto (-23), 3) := by decide +kernel
theorem d_M_hashed_30 : decode b_M_hashed 30 = .ok (.iload_n 2, 1) := by decide +kernel
theorem d_M_hashed_31 : decode b_M_hashed 31 = .ok (.i2l, 1) := by decide +kernel
theorem d_M_hashed_32 : decode b_M_hashed 32 = .ok (.iload_n 0, 1) := by decide +kernel
theorem d_M_hashed_33 : decode b_M_hashed 33 = .ok (.i2l, 1) := by decide +kernel
theorem d_M_hashed_34 : decode b_M_hashed 34 = .ok (.ladd, 1) := by decide +kernel
theorem d_M_hashed_35 : decode b_M_hashed 35 = .ok (.iload_n 1, 1) := by decide +kernel
theorem d_M_hashed_36 : decode b_M_hashed 36 = .ok (.i2l, 1) := by decide +kernel
theorem d_M_hashed_37 : decode b_M_hashed 37 = .ok (.ladd, 1) := by decide +kernel
theorem d_M_hashed_38 : decode b_M_hashed 38 = .ok (.invokestatic 30, 3) := by decide +kernel
theorem d_M_hashed_41 : decode b_M_hashed 41 = .ok (.ireturn, 1) := by decide +kernel
theorem d_M_salt_0 : decode b_M_salt 0 = .ok (.iload_n 0, 1) := by decide +kernel
theorem d_M_salt_1 : decode b_M_salt 1 = .ok (.ifCond .ne 8, 3) := by decide +kernel
theorem d_M_salt_4 : decode b_M_salt 4 = .ok (.bipush 11, 2) := by decide +kernel
theorem d_M_salt_6 : decode b_M_salt 6 = .ok (.goto 27, 3) := by decide +kernel
theorem d_M_salt_9 : decode b_M_salt 9 = .ok (.iload_n 0, 1) := by decide +kernel
theorem d_M_salt_10 : decode b_M_salt 10 = .ok (.iconst 1, 1) := by decide +kernel
theorem d_M_salt_11 : decode b_M_salt 11 = .ok (.if_icmp .ne 9, 3) := by decide +kernel
theorem d_M_salt_14 : decode b_M_salt 14 = .ok (.sipush 222, 3) := by decide +kernel
theorem d_M_salt_17 : decode b_M_salt 17 = .ok (.goto 16, 3) := by decide +kernel
theorem d_M_salt_20 : decode b_M_salt 20 = .ok (.iload_n 0, 1) := by decide +kernel
theorem d_M_salt_21 : decode b_M_salt 21 = .ok (.iconst 2, 1) := by decide +kernel
theorem d_M_salt_22 : decode b_M_salt 22 = .ok (.if_icmp .ne 9, 3) := by decide +kernel
theorem d_M_salt_25 : decode b_M_salt 25 = .ok (.sipush 3333, 3) := by decide +kernel
theorem d_M_salt_28 : decode b_M_salt 28 = .ok (.goto 5, 3) := by decide +kernel
theorem d_M_salt_31 : decode b_M_salt 31 = .ok (.ldc 38, 2) := by decide +kernel
theorem d_M_salt_33 : decode b_M_salt 33 = .ok (.ireturn, 1) := by decide +kernel
theorem d_M_cubed_0 : decode b_M_cubed 0 = .ok (.lload_n 0, 1) := by decide +kernel
theorem d_M_cubed_1 : decode b_M_cubed 1 = .ok (.invokestatic 30, 3) := by decide +kernel
theorem d_M_cubed_4 : decode b_M_cubed 4 = .ok (.istore_n 2, 1) := by decide +kernel
theorem d_M_cubed_5 : decode b_M_cubed 5 = .ok (.iload_n 2, 1) := by decide +kernel
theorem d_M_cubed_6 : decode b_M_cubed 6 = .ok (.i2l, 1) := by decide +kernel
theorem d_M_cubed_7 : decode b_M_cubed 7 = .ok (.iload_n 2, 1) := by decide +kernel
theorem d_M_cubed_8 : decode b_M_cubed 8 = .ok (.i2l, 1) := by decide +kernel
theorem d_M_cubed_9 : decode b_M_cubed 9 = .ok (.invokestatic 34, 3) := by decide +kernel
theorem d_M_cubed_12 : decode b_M_cubed 12 = .ok (.istore_n 3, 1) := by decide +kernel
theorem d_M_cubed_13 : decode b_M_cubed 13 = .ok (.iload_n 3, 1) := by decide +kernel
theorem d_M_cubed_14 : decode b_M_cubed 14 = .ok (.i2l, 1) := by decide +kernel
theorem d_M_cubed_15 : decode b_M_cubed 15 = .ok (.iload_n 2, 1) := by decide +kernel
theorem d_M_cubed_16 : decode b_M_cubed 16 = .ok (.i2l, 1) := by decide +kernel
theorem d_M_cubed_17 : decode b_M_cubed 17 = .ok (.invokestatic 34, 3) := by decide +kernel
theorem d_M_cubed_20 : decode b_M_cubed 20 = .ok (.ireturn, 1) := by decide +kernel
theorem d_M_reduced_0 : decode b_M_reduced 0 = .ok (.lload_n 0, 1) := by decide +kernel
theorem d_M_reduced_1 : decode b_M_reduced 1 = .ok (.ldc2_w 28, 3) := by decide +kernel
theorem d_M_reduced_4 : decode b_M_reduced 4 = .ok (.lrem, 1) := by decide +kernel
theorem d_M_reduced_5 : decode b_M_reduced 5 = .ok (.lstore_n 2, 1) := by decide +kernel
theorem d_M_reduced_6 : decode b_M_reduced 6 = .ok (.lload_n 2, 1) := by decide +kernel
theorem d_M_reduced_7 : decode b_M_reduced 7 = .ok (.lconst 0, 1) := by decide +kernel
theorem d_M_reduced_8 : decode b_M_reduced 8 = .ok (.lcmp, 1) := by decide +kernel
theorem d_M_reduced_9 : decode b_M_reduced 9 = .ok (.ifCond .ge 11, 3) := by decide +kernel
theorem d_M_reduced_12 : decode b_M_reduced 12 = .ok (.lload_n 2, 1) := by decide +kernel
theorem d_M_reduced_13 : decode b_M_reduced 13 = .ok (.ldc2_w 28, 3) := by decide +kernel
theorem d_M_reduced_16 : decode b_M_reduced 16 = .ok (.ladd, 1) := by decide +kernel
theorem d_M_reduced_17 : decode b_M_reduced 17 = .ok (.goto 4, 3) := by decide +kernel
theorem d_M_reduced_20 : decode b_M_reduced 20 = .ok (.lload_n 2, 1) := by decide +kernel
theorem d_M_reduced_21 : decode b_M_reduced 21 = .ok (.l2i, 1) := by decide +kernel
theorem d_M_reduced_22 : decode b_M_reduced 22 = .ok (.ireturn, 1) := by decide +kernel
theorem d_M_times_0 : decode b_M_times 0 = .ok (.lload_n 0, 1) := by decide +kernel
theorem d_M_times_1 : decode b_M_times 1 = .ok (.lload_n 2, 1) := by decide +kernel
theorem d_M_times_2 : decode b_M_times 2 = .ok (.lmul, 1) := by decide +kernel
theorem d_M_times_3 : decode b_M_times 3 = .ok (.invokestatic 30, 3) := by decide +kernel
theorem d_M_times_6 : decode b_M_times 6 = .ok (.ireturn, 1) := by decide +kernel
theorem d_M_deposit_0 : decode b_M_deposit 0 = .ok (.iload_n 1, 1) := by decide +kernel
theorem d_M_deposit_1 : decode b_M_deposit 1 = .ok (.iconst 3, 1) := by decide +kernel
theorem d_M_deposit_2 : decode b_M_deposit 2 = .ok (.invokestatic 47, 3) := by decide +kernel
theorem d_M_deposit_5 : decode b_M_deposit 5 = .ok (.ifCond .eq 6, 3) := by decide +kernel
theorem d_M_deposit_8 : decode b_M_deposit 8 = .ok (.bipush (-2), 2) := by decide +kernel
theorem d_M_deposit_10 : decode b_M_deposit 10 = .ok (.ireturn, 1) := by decide +kernel
theorem d_M_deposit_11 : decode b_M_deposit 11 = .ok (.iload_n 2, 1) := by decide +kernel
theorem d_M_deposit_12 : decode b_M_deposit 12 = .ok (.sipush 255, 3) := by decide +kernel
theorem d_M_deposit_15 : decode b_M_deposit 15 = .ok (.invokestatic 47, 3) := by decide +kernel
theorem d_M_deposit_18 : decode b_M_deposit 18 = .ok (.ifCond .ne 12, 3) := by decide +kernel
theorem d_M_deposit_21 : decode b_M_deposit 21 = .ok (.iload_n 3, 1) := by decide +kernel
theorem d_M_deposit_22 : decode b_M_deposit 22 = .ok (.ldc 46, 2) := by decide +kernel
theorem d_M_deposit_24 : decode b_M_deposit 24 = .ok (.invokestatic 47, 3) := by decide +kernel
theorem d_M_deposit_27 : decode b_M_deposit 27 = .ok (.ifCond .eq 6, 3) := by decide +kernel
theorem d_M_deposit_30 : decode b_M_deposit 30 = .ok (.bipush (-3), 2) := by decide +kernel
theorem d_M_deposit_32 : decode b_M_deposit 32 = .ok (.ireturn, 1) := by decide +kernel
theorem d_M_deposit_33 : decode b_M_deposit 33 = .ok (.aload_n 0, 1) := by decide +kernel
theorem d_M_deposit_34 : decode b_M_deposit 34 = .ok (.getfield 65, 3) := by decide +kernel
theorem d_M_deposit_37 : decode b_M_deposit 37 = .ok (.bipush 16, 2) := by decide +kernel
theorem d_M_deposit_39 : decode b_M_deposit 39 = .ok (.if_icmp .ne 6, 3) := by decide +kernel
theorem d_M_deposit_42 : decode b_M_deposit 42 = .ok (.bipush (-7), 2) := by decide +kernel
theorem d_M_deposit_44 : decode b_M_deposit 44 = .ok (.ireturn, 1) := by decide +kernel
theorem d_M_deposit_45 : decode b_M_deposit 45 = .ok (.aload_n 0, 1) := by decide +kernel
theorem d_M_deposit_46 : decode b_M_deposit 46 = .ok (.aload_n 0, 1) := by decide +kernel
theorem d_M_deposit_47 : decode b_M_deposit 47 = .ok (.getfield 68, 3) := by decide +kernel
theorem d_M_deposit_50 : decode b_M_deposit 50 = .ok (.iload_n 2, 1) := by decide +kernel
theorem d_M_deposit_51 : decode b_M_deposit 51 = .ok (.iadd, 1) := by decide +kernel
theorem d_M_deposit_52 : decode b_M_deposit 52 = .ok (.putfield 68, 3) := by decide +kernel
theorem d_M_deposit_55 : decode b_M_deposit 55 = .ok (.iload_n 1, 1) := by decide +kernel
theorem d_M_deposit_56 : decode b_M_deposit 56 = .ok (.invokestatic 55, 3) := by decide +kernel
theorem d_M_deposit_59 : decode b_M_deposit 59 = .ok (.istore 4, 2) := by decide +kernel
theorem d_M_deposit_61 : decode b_M_deposit 61 = .ok (.aload_n 0, 1) := by decide +kernel
theorem d_M_deposit_62 : decode b_M_deposit 62 = .ok (.iload 4, 2) := by decide +kernel
theorem d_M_deposit_64 : decode b_M_deposit 64 = .ok (.iload_n 2, 1) := by decide +kernel
theorem d_M_deposit_65 : decode b_M_deposit 65 = .ok (.iload_n 3, 1) := by decide +kernel
theorem d_M_deposit_66 : decode b_M_deposit 66 = .ok (.invokevirtual 71, 3) := by decide +kernel
theorem d_M_deposit_69 : decode b_M_deposit 69 = .ok (.ireturn, 1) := by decide +kernel
theorem d_M_accountKey_0 : decode b_M_accountKey 0 = .ok (.bipush 100, 2) := by decide +kernel
theorem d_M_accountKey_2 : decode b_M_accountKey 2 = .ok (.iload_n 0, 1) := by decide +kernel
theorem d_M_accountKey_3 : decode b_M_accountKey 3 = .ok (.iadd, 1) := by decide +kernel
theorem d_M_accountKey_4 : decode b_M_accountKey 4 = .ok (.iconst 0, 1) := by decide +kernel
theorem d_M_accountKey_5 : decode b_M_accountKey 5 = .ok (.invokestatic 51, 3) := by decide +kernel
theorem d_M_accountKey_8 : decode b_M_accountKey 8 = .ok (.ireturn, 1) := by decide +kernel
theorem d_M_make_0 : decode b_M_make 0 = .ok (.aload_n 0, 1) := by decide +kernel
theorem d_M_make_1 : decode b_M_make 1 = .ok (.getfield 7, 3) := by decide +kernel
theorem d_M_make_4 : decode b_M_make 4 = .ok (.aload_n 0, 1) := by decide +kernel
theorem d_M_make_5 : decode b_M_make 5 = .ok (.getfield 65, 3) := by decide +kernel
theorem d_M_make_8 : decode b_M_make 8 = .ok (.iload_n 1, 1) := by decide +kernel
theorem d_M_make_9 : decode b_M_make 9 = .ok (.iastore, 1) := by decide +kernel
theorem d_M_make_10 : decode b_M_make 10 = .ok (.aload_n 0, 1) := by decide +kernel
theorem d_M_make_11 : decode b_M_make 11 = .ok (.getfield 13, 3) := by decide +kernel
theorem d_M_make_14 : decode b_M_make 14 = .ok (.aload_n 0, 1) := by decide +kernel
theorem d_M_make_15 : decode b_M_make 15 = .ok (.getfield 65, 3) := by decide +kernel
theorem d_M_make_18 : decode b_M_make 18 = .ok (.iload_n 2, 1) := by decide +kernel
theorem d_M_make_19 : decode b_M_make 19 = .ok (.iastore, 1) := by decide +kernel
theorem d_M_make_20 : decode b_M_make 20 = .ok (.aload_n 0, 1) := by decide +kernel
theorem d_M_make_21 : decode b_M_make 21 = .ok (.getfield 16, 3) := by decide +kernel
theorem d_M_make_24 : decode b_M_make 24 = .ok (.aload_n 0, 1) := by decide +kernel
theorem d_M_make_25 : decode b_M_make 25 = .ok (.getfield 65, 3) := by decide +kernel
theorem d_M_make_28 : decode b_M_make 28 = .ok (.iload_n 3, 1) := by decide +kernel
theorem d_M_make_29 : decode b_M_make 29 = .ok (.iastore, 1) := by decide +kernel
theorem d_M_make_30 : decode b_M_make 30 = .ok (.aload_n 0, 1) := by decide +kernel
theorem d_M_make_31 : decode b_M_make 31 = .ok (.dup, 1) := by decide +kernel
theorem d_M_make_32 : decode b_M_make 32 = .ok (.getfield 65, 3) := by decide +kernel
theorem d_M_make_35 : decode b_M_make 35 = .ok (.iconst 1, 1) := by decide +kernel
theorem d_M_make_36 : decode b_M_make 36 = .ok (.iadd, 1) := by decide +kernel
theorem d_M_make_37 : decode b_M_make 37 = .ok (.putfield 65, 3) := by decide +kernel
theorem d_M_make_40 : decode b_M_make 40 = .ok (.aload_n 0, 1) := by decide +kernel
theorem d_M_make_41 : decode b_M_make 41 = .ok (.getfield 65, 3) := by decide +kernel
theorem d_M_make_44 : decode b_M_make 44 = .ok (.iconst 1, 1) := by decide +kernel
theorem d_M_make_45 : decode b_M_make 45 = .ok (.isub, 1) := by decide +kernel
theorem d_M_make_46 : decode b_M_make 46 = .ok (.ireturn, 1) := by decide +kernel
theorem d_M_load_0 : decode b_M_load 0 = .ok (.iload_n 1, 1) := by decide +kernel
theorem d_M_load_1 : decode b_M_load 1 = .ok (.ifCond .lt 19, 3) := by decide +kernel
theorem d_M_load_4 : decode b_M_load 4 = .ok (.iload_n 1, 1) := by decide +kernel
theorem d_M_load_5 : decode b_M_load 5 = .ok (.aload_n 0, 1) := by decide +kernel
theorem d_M_load_6 : decode b_M_load 6 = .ok (.getfield 65, 3) := by decide +kernel
theorem d_M_load_9 : decode b_M_load 9 = .ok (.if_icmp .ge 11, 3) := by decide +kernel
theorem d_M_load_12 : decode b_M_load 12 = .ok (.iload_n 2, 1) := by decide +kernel
theorem d_M_load_13 : decode b_M_load 13 = .ok (.iconst 3, 1) := by decide +kernel
theorem d_M_load_14 : decode b_M_load 14 = .ok (.invokestatic 47, 3) := by decide +kernel
theorem d_M_load_17 : decode b_M_load 17 = .ok (.ifCond .eq 6, 3) := by decide +kernel
theorem d_M_load_20 : decode b_M_load 20 = .ok (.bipush (-2), 2) := by decide +kernel
theorem d_M_load_22 : decode b_M_load 22 = .ok (.ireturn, 1) := by decide +kernel
theorem d_M_load_23 : decode b_M_load 23 = .ok (.aload_n 0, 1) := by decide +kernel
theorem d_M_load_24 : decode b_M_load 24 = .ok (.iload_n 1, 1) := by decide +kernel
theorem d_M_load_25 : decode b_M_load 25 = .ok (.invokevirtual 96, 3) := by decide +kernel
theorem d_M_load_28 : decode b_M_load 28 = .ok (.istore 6, 2) := by decide +kernel
theorem d_M_load_30 : decode b_M_load 30 = .ok (.iload 6, 2) := by decide +kernel
theorem d_M_load_32 : decode b_M_load 32 = .ok (.iconst (-1), 1) := by decide +kernel
theorem d_M_load_33 : decode b_M_load 33 = .ok (.if_icmp .ne 5, 3) := by decide +kernel
theorem d_M_load_36 : decode b_M_load 36 = .ok (.iconst (-1), 1) := by decide +kernel
theorem d_M_load_37 : decode b_M_load 37 = .ok (.ireturn, 1) := by decide +kernel
theorem d_M_load_38 : decode b_M_load 38 = .ok (.iload_n 3, 1) := by decide +kernel
theorem d_M_load_39 : decode b_M_load 39 = .ok (.sipush 255, 3) := by decide +kernel
theorem d_M_load_42 : decode b_M_load 42 = .ok (.invokestatic 47, 3) := by decide +kernel
theorem d_M_load_45 : decode b_M_load 45 = .ok (.ifCond .ne 24, 3) := by decide +kernel
theorem d_M_load_48 : decode b_M_load 48 = .ok (.iload 4, 2) := by decide +kernel
theorem d_M_load_50 : decode b_M_load 50 = .ok (.sipush 255, 3) := by decide +kernel
theorem d_M_load_53 : decode b_M_load 53 = .ok (.invokestatic 47, 3) := by decide +kernel
theorem d_M_load_56 : decode b_M_load 56 = .ok (.ifCond .ne 13, 3) := by decide +kernel
theorem d_M_load_59 : decode b_M_load 59 = .ok (.iload 5, 2) := by decide +kernel
theorem d_M_load_61 : decode b_M_load 61 = .ok (.ldc 46, 2) := by decide +kernel
theorem d_M_load_63 : decode b_M_load 63 = .ok (.invokestatic 47, 3) := by decide +kernel
theorem d_M_load_66 : decode b_M_load 66 = .ok (.ifCond .eq 6, 3) := by decide +kernel
theorem d_M_load_69 : decode b_M_load 69 = .ok (.bipush (-3), 2) := by decide +kernel
theorem d_M_load_71 : decode b_M_load 71 = .ok (.ireturn, 1) := by decide +kernel
theorem d_M_load_72 : decode b_M_load 72 = .ok (.aload_n 0, 1) := by decide +kernel
theorem d_M_load_73 : decode b_M_load 73 = .ok (.getfield 22, 3) := by decide +kernel
theorem d_M_load_76 : decode b_M_load 76 = .ok (.iconst 4, 1) := by decide +kernel
theorem d_M_load_77 : decode b_M_load 77 = .ok (.iload 4, 2) := by decide +kernel
theorem d_M_load_79 : decode b_M_load 79 = .ok (.iastore, 1) := by decide +kernel
theorem d_M_load_80 : decode b_M_load 80 = .ok (.aload_n 0, 1) := by decide +kernel
theorem d_M_load_81 : decode b_M_load 81 = .ok (.getfield 22, 3) := by decide +kernel
theorem d_M_load_84 : decode b_M_load 84 = .ok (.iconst 5, 1) := by decide +kernel
theorem d_M_load_85 : decode b_M_load 85 = .ok (.bipush 100, 2) := by decide +kernel
theorem d_M_load_87 : decode b_M_load 87 = .ok (.iload 6, 2) := by decide +kernel
theorem d_M_load_89 : decode b_M_load 89 = .ok (.iadd, 1) := by decide +kernel
theorem d_M_load_90 : decode b_M_load 90 = .ok (.iastore, 1) := by decide +kernel
theorem d_M_load_91 : decode b_M_load 91 = .ok (.aload_n 0, 1) := by decide +kernel
theorem d_M_load_92 : decode b_M_load 92 = .ok (.getfield 22, 3) := by decide +kernel
theorem d_M_load_95 : decode b_M_load 95 = .ok (.bipush 6, 2) := by decide +kernel
theorem d_M_load_97 : decode b_M_load 97 = .ok (.aload_n 0, 1) := by decide +kernel
theorem d_M_load_98 : decode b_M_load 98 = .ok (.getfield 13, 3) := by decide +kernel
theorem d_M_load_101 : decode b_M_load 101 = .ok (.iload_n 1, 1) := by decide +kernel
theorem d_M_load_102 : decode b_M_load 102 = .ok (.iaload, 1) := by decide +kernel
theorem d_M_load_103 : decode b_M_load 103 = .ok (.iastore, 1) := by decide +kernel
theorem d_M_load_104 : decode b_M_load 104 = .ok (.aload_n 0, 1) := by decide +kernel
theorem d_M_load_105 : decode b_M_load 105 = .ok (.getfield 22, 3) := by decide +kernel
theorem d_M_load_108 : decode b_M_load 108 = .ok (.bipush 7, 2) := by decide +kernel
theorem d_M_load_110 : decode b_M_load 110 = .ok (.aload_n 0, 1) := by decide +kernel
theorem d_M_load_111 : decode b_M_load 111 = .ok (.getfield 16, 3) := by decide +kernel
theorem d_M_load_114 : decode b_M_load 114 = .ok (.iload_n 1, 1) := by decide +kernel
theorem d_M_load_115 : decode b_M_load 115 = .ok (.iaload, 1) := by decide +kernel
theorem d_M_load_116 : decode b_M_load 116 = .ok (.iastore, 1) := by decide +kernel
theorem d_M_load_117 : decode b_M_load 117 = .ok (.aload_n 0, 1) := by decide +kernel
theorem d_M_load_118 : decode b_M_load 118 = .ok (.getfield 22, 3) := by decide +kernel
theorem d_M_load_121 : decode b_M_load 121 = .ok (.bipush 8, 2) := by decide +kernel
theorem d_M_load_123 : decode b_M_load 123 = .ok (.iload_n 2, 1) := by decide +kernel
theorem d_M_load_124 : decode b_M_load 124 = .ok (.invokestatic 55, 3) := by decide +kernel
theorem d_M_load_127 : decode b_M_load 127 = .ok (.iastore, 1) := by decide +kernel
theorem d_M_load_128 : decode b_M_load 128 = .ok (.aload_n 0, 1) := by decide +kernel
theorem d_M_load_129 : decode b_M_load 129 = .ok (.getfield 22, 3) := by decide +kernel
theorem d_M_load_132 : decode b_M_load 132 = .ok (.bipush 9, 2) := by decide +kernel
theorem d_M_load_134 : decode b_M_load 134 = .ok (.iload_n 3, 1) := by decide +kernel
theorem d_M_load_135 : decode b_M_load 135 = .ok (.iastore, 1) := by decide +kernel
theorem d_M_load_136 : decode b_M_load 136 = .ok (.aload_n 0, 1) := by decide +kernel
theorem d_M_load_137 : decode b_M_load 137 = .ok (.getfield 22, 3) := by decide +kernel
theorem d_M_load_140 : decode b_M_load 140 = .ok (.bipush 10, 2) := by decide +kernel
theorem d_M_load_142 : decode b_M_load 142 = .ok (.iload 5, 2) := by decide +kernel
theorem d_M_load_144 : decode b_M_load 144 = .ok (.iastore, 1) := by decide +kernel
theorem d_M_load_145 : decode b_M_load 145 = .ok (.iconst 0, 1) := by decide +kernel
theorem d_M_load_146 : decode b_M_load 146 = .ok (.istore 7, 2) := by decide +kernel
theorem d_M_load_148 : decode b_M_load 148 = .ok (.iload 7, 2) := by decide +kernel
theorem d_M_load_150 : decode b_M_load 150 = .ok (.bipush 8, 2) := by decide +kernel
theorem d_M_load_152 : decode b_M_load 152 = .ok (.if_icmp .ge 25, 3) := by decide +kernel
theorem d_M_load_155 : decode b_M_load 155 = .ok (.aload_n 0, 1) := by decide +kernel
theorem d_M_load_156 : decode b_M_load 156 = .ok (.getfield 22, 3) := by decide +kernel
theorem d_M_load_159 : decode b_M_load 159 = .ok (.bipush 27, 2) := by decide +kernel
theorem d_M_load_161 : decode b_M_load 161 = .ok (.iload 7, 2) := by decide +kernel
theorem d_M_load_163 : decode b_M_load 163 = .ok (.iadd, 1) := by decide +kernel
theorem d_M_load_164 : decode b_M_load 164 = .ok (.iload_n 3, 1) := by decide +kernel
theorem d_M_load_165 : decode b_M_load 165 = .ok (.iload 7, 2) := by decide +kernel
theorem d_M_load_167 : decode b_M_load 167 = .ok (.ishr, 1) := by decide +kernel
theorem d_M_load_168 : decode b_M_load 168 = .ok (.iconst 1, 1) := by decide +kernel
theorem d_M_load_169 : decode b_M_load 169 = .ok (.iand, 1) := by decide +kernel
theorem d_M_load_170 : decode b_M_load 170 = .ok (.iastore, 1) := by decide +kernel
theorem d_M_load_171 : decode b_M_load 171 = .ok (.iinc 7 1, 3) := by decide +kernel
theorem d_M_load_174 : decode b_M_load 174 = .ok (.goto (-26), 3) := by decide +kernel
theorem d_M_load_177 : decode b_M_load 177 = .ok (.aload_n 0, 1) := by decide +kernel
theorem d_M_load_178 : decode b_M_load 178 = .ok (.iconst 0, 1) := by decide +kernel
theorem d_M_load_179 : decode b_M_load 179 = .ok (.invokevirtual 99, 3) := by decide +kernel
theorem d_M_load_182 : decode b_M_load 182 = .ok (.aload_n 0, 1) := by decide +kernel
theorem d_M_load_183 : decode b_M_load 183 = .ok (.iconst 1, 1) := by decide +kernel
theorem d_M_load_184 : decode b_M_load 184 = .ok (.invokevirtual 99, 3) := by decide +kernel
theorem d_M_load_187 : decode b_M_load 187 = .ok (.aload_n 0, 1) := by decide +kernel
theorem d_M_load_188 : decode b_M_load 188 = .ok (.iconst 2, 1) := by decide +kernel
theorem d_M_load_189 : decode b_M_load 189 = .ok (.invokevirtual 99, 3) := by decide +kernel
theorem d_M_load_192 : decode b_M_load 192 = .ok (.iconst 0, 1) := by decide +kernel
theorem d_M_load_193 : decode b_M_load 193 = .ok (.istore 7, 2) := by decide +kernel
theorem d_M_load_195 : decode b_M_load 195 = .ok (.iload 7, 2) := by decide +kernel
theorem d_M_load_197 : decode b_M_load 197 = .ok (.iconst 4, 1) := by decide +kernel
theorem d_M_load_198 : decode b_M_load 198 = .ok (.if_icmp .ge 109, 3) := by decide +kernel
theorem d_M_load_201 : decode b_M_load 201 = .ok (.iload_n 1, 1) := by decide +kernel
theorem d_M_load_202 : decode b_M_load 202 = .ok (.iload 7, 2) := by decide +kernel
theorem d_M_load_204 : decode b_M_load 204 = .ok (.ishr, 1) := by decide +kernel
theorem d_M_load_205 : decode b_M_load 205 = .ok (.istore 8, 2) := by decide +kernel
theorem d_M_load_207 : decode b_M_load 207 = .ok (.aload_n 0, 1) := by decide +kernel
theorem d_M_load_208 : decode b_M_load 208 = .ok (.getfield 22, 3) := by decide +kernel
theorem d_M_load_211 : decode b_M_load 211 = .ok (.bipush 11, 2) := by decide +kernel
theorem d_M_load_213 : decode b_M_load 213 = .ok (.iload 7, 2) := by decide +kernel
theorem d_M_load_215 : decode b_M_load 215 = .ok (.iadd, 1) := by decide +kernel
theorem d_M_load_216 : decode b_M_load 216 = .ok (.aload_n 0, 1) := by decide +kernel
theorem d_M_load_217 : decode b_M_load 217 = .ok (.aload_n 0, 1) := by decide +kernel
theorem d_M_load_218 : decode b_M_load 218 = .ok (.getfield 65, 3) := by decide +kernel
theorem d_M_load_221 : decode b_M_load 221 = .ok (.iload 7, 2) := by decide +kernel
theorem d_M_load_223 : decode b_M_load 223 = .ok (.iload 8, 2) := by decide +kernel
theorem d_M_load_225 : decode b_M_load 225 = .ok (.iconst 2, 1) := by decide +kernel
theorem d_M_load_226 : decode b_M_load 226 = .ok (.irem, 1) := by decide +kernel
theorem d_M_load_227 : decode b_M_load 227 = .ok (.ifCond .ne 10, 3) := by decide +kernel
theorem d_M_load_230 : decode b_M_load 230 = .ok (.iload 8, 2) := by decide +kernel
theorem d_M_load_232 : decode b_M_load 232 = .ok (.iconst 1, 1) := by decide +kernel
theorem d_M_load_233 : decode b_M_load 233 = .ok (.iadd, 1) := by decide +kernel
theorem d_M_load_234 : decode b_M_load 234 = .ok (.goto 7, 3) := by decide +kernel
theorem d_M_load_237 : decode b_M_load 237 = .ok (.iload 8, 2) := by decide +kernel
theorem d_M_load_239 : decode b_M_load 239 = .ok (.iconst 1, 1) := by decide +kernel
theorem d_M_load_240 : decode b_M_load 240 = .ok (.isub, 1) := by decide +kernel
theorem d_M_load_241 : decode b_M_load 241 = .ok (.invokevirtual 103, 3) := by decide +kernel
theorem d_M_load_244 : decode b_M_load 244 = .ok (.iastore, 1) := by decide +kernel
theorem d_M_load_245 : decode b_M_load 245 = .ok (.aload_n 0, 1) := by decide +kernel
theorem d_M_load_246 : decode b_M_load 246 = .ok (.getfield 22, 3) := by decide +kernel
theorem d_M_load_249 : decode b_M_load 249 = .ok (.bipush 15, 2) := by decide +kernel
theorem d_M_load_251 : decode b_M_load 251 = .ok (.iload 7, 2) := by decide +kernel
theorem d_M_load_253 : decode b_M_load 253 = .ok (.iadd, 1) := by decide +kernel
theorem d_M_load_254 : decode b_M_load 254 = .ok (.iload 8, 2) := by decide +kernel
theorem d_M_load_256 : decode b_M_load 256 = .ok (.iconst 2, 1) := by decide +kernel
theorem d_M_load_257 : decode b_M_load 257 = .ok (.irem, 1) := by decide +kernel
theorem d_M_load_258 : decode b_M_load 258 = .ok (.iastore, 1) := by decide +kernel
theorem d_M_load_259 : decode b_M_load 259 = .ok (.aload_n 0, 1) := by decide +kernel
theorem d_M_load_260 : decode b_M_load 260 = .ok (.getfield 22, 3) := by decide +kernel
theorem d_M_load_263 : decode b_M_load 263 = .ok (.bipush 19, 2) := by decide +kernel
theorem d_M_load_265 : decode b_M_load 265 = .ok (.iload 7, 2) := by decide +kernel
theorem d_M_load_267 : decode b_M_load 267 = .ok (.iadd, 1) := by decide +kernel
theorem d_M_load_268 : decode b_M_load 268 = .ok (.aload_n 0, 1) := by decide +kernel
theorem d_M_load_269 : decode b_M_load 269 = .ok (.iload 7, 2) := by decide +kernel
theorem d_M_load_271 : decode b_M_load 271 = .ok (.iconst 1, 1) := by decide +kernel
theorem d_M_load_272 : decode b_M_load 272 = .ok (.invokevirtual 93, 3) := by decide +kernel
theorem d_M_load_275 : decode b_M_load 275 = .ok (.iastore, 1) := by decide +kernel
theorem d_M_load_276 : decode b_M_load 276 = .ok (.aload_n 0, 1) := by decide +kernel
theorem d_M_load_277 : decode b_M_load 277 = .ok (.getfield 22, 3) := by decide +kernel
theorem d_M_load_280 : decode b_M_load 280 = .ok (.bipush 23, 2) := by decide +kernel
theorem d_M_load_282 : decode b_M_load 282 = .ok (.iload 7, 2) := by decide +kernel
theorem d_M_load_284 : decode b_M_load 284 = .ok (.iadd, 1) := by decide +kernel
theorem d_M_load_285 : decode b_M_load 285 = .ok (.aload_n 0, 1) := by decide +kernel
theorem d_M_load_286 : decode b_M_load 286 = .ok (.iload 7, 2) := by decide +kernel
theorem d_M_load_288 : decode b_M_load 288 = .ok (.iconst 0, 1) := by decide +kernel
theorem d_M_load_289 : decode b_M_load 289 = .ok (.invokevirtual 93, 3) := by decide +kernel
theorem d_M_load_292 : decode b_M_load 292 = .ok (.iastore, 1) := by decide +kernel
theorem d_M_load_293 : decode b_M_load 293 = .ok (.aload_n 0, 1) := by decide +kernel
theorem d_M_load_294 : decode b_M_load 294 = .ok (.iconst 3, 1) := by decide +kernel
theorem d_M_load_295 : decode b_M_load 295 = .ok (.iload 7, 2) := by decide +kernel
theorem d_M_load_297 : decode b_M_load 297 = .ok (.iadd, 1) := by decide +kernel
theorem d_M_load_298 : decode b_M_load 298 = .ok (.invokevirtual 99, 3) := by decide +kernel
theorem d_M_load_301 : decode b_M_load 301 = .ok (.iinc 7 1, 3) := by decide +kernel
theorem d_M_load_304 : decode b_M_load 304 = .ok (.goto (-109), 3) := by decide +kernel
theorem d_M_load_307 : decode b_M_load 307 = .ok (.aload_n 0, 1) := by decide +kernel
theorem d_M_load_308 : decode b_M_load 308 = .ok (.bipush 7, 2) := by decide +kernel
theorem d_M_load_310 : decode b_M_load 310 = .ok (.invokevirtual 99, 3) := by decide +kernel
theorem d_M_load_313 : decode b_M_load 313 = .ok (.aload_n 0, 1) := by decide +kernel
theorem d_M_load_314 : decode b_M_load 314 = .ok (.bipush 8, 2) := by decide +kernel
theorem d_M_load_316 : decode b_M_load 316 = .ok (.invokevirtual 99, 3) := by decide +kernel
theorem d_M_load_319 : decode b_M_load 319 = .ok (.aload_n 0, 1) := by decide +kernel
theorem d_M_load_320 : decode b_M_load 320 = .ok (.bipush 9, 2) := by decide +kernel
theorem d_M_load_322 : decode b_M_load 322 = .ok (.invokevirtual 99, 3) := by decide +kernel
theorem d_M_load_325 : decode b_M_load 325 = .ok (.aload_n 0, 1) := by decide +kernel
theorem d_M_load_326 : decode b_M_load 326 = .ok (.getfield 22, 3) := by decide +kernel
theorem d_M_load_329 : decode b_M_load 329 = .ok (.iconst 1, 1) := by decide +kernel
theorem d_M_load_330 : decode b_M_load 330 = .ok (.aload_n 0, 1) := by decide +kernel
theorem d_M_load_331 : decode b_M_load 331 = .ok (.getfield 22, 3) := by decide +kernel
theorem d_M_load_334 : decode b_M_load 334 = .ok (.bipush 97, 2) := by decide +kernel
theorem d_M_load_336 : decode b_M_load 336 = .ok (.iaload, 1) := by decide +kernel
theorem d_M_load_337 : decode b_M_load 337 = .ok (.iastore, 1) := by decide +kernel
theorem d_M_load_338 : decode b_M_load 338 = .ok (.aload_n 0, 1) := by decide +kernel
theorem d_M_load_339 : decode b_M_load 339 = .ok (.getfield 22, 3) := by decide +kernel
theorem d_M_load_342 : decode b_M_load 342 = .ok (.iconst 2, 1) := by decide +kernel
theorem d_M_load_343 : decode b_M_load 343 = .ok (.aload_n 0, 1) := by decide +kernel
theorem d_M_load_344 : decode b_M_load 344 = .ok (.getfield 22, 3) := by decide +kernel
theorem d_M_load_347 : decode b_M_load 347 = .ok (.bipush 106, 2) := by decide +kernel
theorem d_M_load_349 : decode b_M_load 349 = .ok (.iaload, 1) := by decide +kernel
theorem d_M_load_350 : decode b_M_load 350 = .ok (.iastore, 1) := by decide +kernel
theorem d_M_load_351 : decode b_M_load 351 = .ok (.aload_n 0, 1) := by decide +kernel
theorem d_M_load_352 : decode b_M_load 352 = .ok (.getfield 22, 3) := by decide +kernel
theorem d_M_load_355 : decode b_M_load 355 = .ok (.iconst 3, 1) := by decide +kernel
theorem d_M_load_356 : decode b_M_load 356 = .ok (.aload_n 0, 1) := by decide +kernel
theorem d_M_load_357 : decode b_M_load 357 = .ok (.getfield 22, 3) := by decide +kernel
theorem d_M_load_360 : decode b_M_load 360 = .ok (.bipush 124, 2) := by decide +kernel
theorem d_M_load_362 : decode b_M_load 362 = .ok (.iaload, 1) := by decide +kernel
theorem d_M_load_363 : decode b_M_load 363 = .ok (.iastore, 1) := by decide +kernel
theorem d_M_load_364 : decode b_M_load 364 = .ok (.aload_n 0, 1) := by decide +kernel
theorem d_M_load_365 : decode b_M_load 365 = .ok (.invokevirtual 106, 3) := by decide +kernel
theorem d_M_load_368 : decode b_M_load 368 = .ok (.iconst (-1), 1) := by decide +kernel
theorem d_M_load_369 : decode b_M_load 369 = .ok (.if_icmp .ne 7, 3) := by decide +kernel
theorem d_M_load_372 : decode b_M_load 372 = .ok (.iconst 1, 1) := by decide +kernel
theorem d_M_load_373 : decode b_M_load 373 = .ok (.goto 4, 3) := by decide +kernel
theorem d_M_load_376 : decode b_M_load 376 = .ok (.iconst 0, 1) := by decide +kernel
theorem d_M_load_377 : decode b_M_load 377 = .ok (.ireturn, 1) := by decide +kernel
theorem d_M_ownerOf_0 : decode b_M_ownerOf 0 = .ok (.iconst 0, 1) := by decide +kernel
theorem d_M_ownerOf_1 : decode b_M_ownerOf 1 = .ok (.istore_n 2, 1) := by decide +kernel
theorem d_M_ownerOf_2 : decode b_M_ownerOf 2 = .ok (.iload_n 2, 1) := by decide +kernel
theorem d_M_ownerOf_3 : decode b_M_ownerOf 3 = .ok (.iconst 4, 1) := by decide +kernel
theorem d_M_ownerOf_4 : decode b_M_ownerOf 4 = .ok (.if_icmp .ge 24, 3) := by decide +kernel
theorem d_M_ownerOf_7 : decode b_M_ownerOf 7 = .ok (.iload_n 2, 1) := by decide +kernel
theorem d_M_ownerOf_8 : decode b_M_ownerOf 8 = .ok (.invokestatic 55, 3) := by decide +kernel
theorem d_M_ownerOf_11 : decode b_M_ownerOf 11 = .ok (.aload_n 0, 1) := by decide +kernel
theorem d_M_ownerOf_12 : decode b_M_ownerOf 12 = .ok (.getfield 7, 3) := by decide +kernel
theorem d_M_ownerOf_15 : decode b_M_ownerOf 15 = .ok (.iload_n 1, 1) := by decide +kernel
theorem d_M_ownerOf_16 : decode b_M_ownerOf 16 = .ok (.iaload, 1) := by decide +kernel
theorem d_M_ownerOf_17 : decode b_M_ownerOf 17 = .ok (.if_icmp .ne 5, 3) := by decide +kernel
theorem d_M_ownerOf_20 : decode b_M_ownerOf 20 = .ok (.iload_n 2, 1) := by decide +kernel
theorem d_M_ownerOf_21 : decode b_M_ownerOf 21 = .ok (.ireturn, 1) := by decide +kernel
theorem d_M_ownerOf_22 : decode b_M_ownerOf 22 = .ok (.iinc 2 1, 3) := by decide +kernel
theorem d_M_ownerOf_25 : decode b_M_ownerOf 25 = .ok (.goto (-23), 3) := by decide +kernel
theorem d_M_ownerOf_28 : decode b_M_ownerOf 28 = .ok (.iconst (-1), 1) := by decide +kernel
theorem d_M_ownerOf_29 : decode b_M_ownerOf 29 = .ok (.ireturn, 1) := by decide +kernel
theorem d_M_fill_0 : decode b_M_fill 0 = .ok (.iconst 0, 1) := by decide +kernel
theorem d_M_fill_1 : decode b_M_fill 1 = .ok (.istore_n 2, 1) := by decide +kernel
theorem d_M_fill_2 : decode b_M_fill 2 = .ok (.iload_n 2, 1) := by decide +kernel
theorem d_M_fill_3 : decode b_M_fill 3 = .ok (.bipush 9, 2) := by decide +kernel
theorem d_M_fill_5 : decode b_M_fill 5 = .ok (.if_icmp .ge 29, 3) := by decide +kernel
theorem d_M_fill_8 : decode b_M_fill 8 = .ok (.aload_n 0, 1) := by decide +kernel
theorem d_M_fill_9 : decode b_M_fill 9 = .ok (.getfield 22, 3) := by decide +kernel
theorem d_M_fill_12 : decode b_M_fill 12 = .ok (.bipush 35, 2) := by decide +kernel
theorem d_M_fill_14 : decode b_M_fill 14 = .ok (.bipush 9, 2) := by decide +kernel
theorem d_M_fill_16 : decode b_M_fill 16 = .ok (.iload_n 1, 1) := by decide +kernel
theorem d_M_fill_17 : decode b_M_fill 17 = .ok (.imul, 1) := by decide +kernel
theorem d_M_fill_18 : decode b_M_fill 18 = .ok (.iadd, 1) := by decide +kernel
theorem d_M_fill_19 : decode b_M_fill 19 = .ok (.iload_n 2, 1) := by decide +kernel
theorem d_M_fill_20 : decode b_M_fill 20 = .ok (.iadd, 1) := by decide +kernel
theorem d_M_fill_21 : decode b_M_fill 21 = .ok (.aload_n 0, 1) := by decide +kernel
theorem d_M_fill_22 : decode b_M_fill 22 = .ok (.iload_n 1, 1) := by decide +kernel
theorem d_M_fill_23 : decode b_M_fill 23 = .ok (.iload_n 2, 1) := by decide +kernel
theorem d_M_fill_24 : decode b_M_fill 24 = .ok (.invokevirtual 79, 3) := by decide +kernel
theorem d_M_fill_27 : decode b_M_fill 27 = .ok (.iastore, 1) := by decide +kernel
theorem d_M_fill_28 : decode b_M_fill 28 = .ok (.iinc 2 1, 3) := by decide +kernel
theorem d_M_fill_31 : decode b_M_fill 31 = .ok (.goto (-29), 3) := by decide +kernel
theorem d_M_fill_34 : decode b_M_fill 34 = .ok (.return_, 1) := by decide +kernel
theorem d_M_due_0 : decode b_M_due 0 = .ok (.bipush 35, 2) := by decide +kernel
theorem d_M_due_2 : decode b_M_due 2 = .ok (.bipush 9, 2) := by decide +kernel
theorem d_M_due_4 : decode b_M_due 4 = .ok (.iload_n 1, 1) := by decide +kernel
theorem d_M_due_5 : decode b_M_due 5 = .ok (.imul, 1) := by decide +kernel
theorem d_M_due_6 : decode b_M_due 6 = .ok (.iadd, 1) := by decide +kernel
theorem d_M_due_7 : decode b_M_due 7 = .ok (.istore_n 3, 1) := by decide +kernel
theorem d_M_due_8 : decode b_M_due 8 = .ok (.aload_n 0, 1) := by decide +kernel
theorem d_M_due_9 : decode b_M_due 9 = .ok (.iload_n 1, 1) := by decide +kernel
theorem d_M_due_10 : decode b_M_due 10 = .ok (.iconst 1, 1) := by decide +kernel
theorem d_M_due_11 : decode b_M_due 11 = .ok (.invokevirtual 75, 3) := by decide +kernel
theorem d_M_due_14 : decode b_M_due 14 = .ok (.i2l, 1) := by decide +kernel
theorem d_M_due_15 : decode b_M_due 15 = .ok (.lstore 4, 2) := by decide +kernel
theorem d_M_due_17 : decode b_M_due 17 = .ok (.aload_n 0, 1) := by decide +kernel
theorem d_M_due_18 : decode b_M_due 18 = .ok (.iload_n 1, 1) := by decide +kernel
theorem d_M_due_19 : decode b_M_due 19 = .ok (.iconst 0, 1) := by decide +kernel
theorem d_M_due_20 : decode b_M_due 20 = .ok (.invokevirtual 75, 3) := by decide +kernel
theorem d_M_due_23 : decode b_M_due 23 = .ok (.i2l, 1) := by decide +kernel
theorem d_M_due_24 : decode b_M_due 24 = .ok (.lstore 6, 2) := by decide +kernel
theorem d_M_due_26 : decode b_M_due 26 = .ok (.iload_n 2, 1) := by decide +kernel
theorem d_M_due_27 : decode b_M_due 27 = .ok (.bipush 8, 2) := by decide +kernel
theorem d_M_due_29 : decode b_M_due 29 = .ok (.if_icmp .ne 23, 3) := by decide +kernel
theorem d_M_due_32 : decode b_M_due 32 = .ok (.aload_n 0, 1) := by decide +kernel
theorem d_M_due_33 : decode b_M_due 33 = .ok (.getfield 22, 3) := by decide +kernel
theorem d_M_due_36 : decode b_M_due 36 = .ok (.iload_n 3, 1) := by decide +kernel
theorem d_M_due_37 : decode b_M_due 37 = .ok (.bipush 7, 2) := by decide +kernel
theorem d_M_due_39 : decode b_M_due 39 = .ok (.iadd, 1) := by decide +kernel
theorem d_M_due_40 : decode b_M_due 40 = .ok (.iaload, 1) := by decide +kernel
theorem d_M_due_41 : decode b_M_due 41 = .ok (.i2l, 1) := by decide +kernel
theorem d_M_due_42 : decode b_M_due 42 = .ok (.lload 4, 2) := by decide +kernel
theorem d_M_due_44 : decode b_M_due 44 = .ok (.ladd, 1) := by decide +kernel
theorem d_M_due_45 : decode b_M_due 45 = .ok (.lload 6, 2) := by decide +kernel
theorem d_M_due_47 : decode b_M_due 47 = .ok (.ladd, 1) := by decide +kernel
theorem d_M_due_48 : decode b_M_due 48 = .ok (.invokestatic 30, 3) := by decide +kernel
theorem d_M_due_51 : decode b_M_due 51 = .ok (.ireturn, 1) := by decide +kernel
theorem d_M_due_52 : decode b_M_due 52 = .ok (.iload_n 2, 1) := by decide +kernel
theorem d_M_due_53 : decode b_M_due 53 = .ok (.iconst 2, 1) := by decide +kernel
theorem d_M_due_54 : decode b_M_due 54 = .ok (.idiv, 1) := by decide +kernel
theorem d_M_due_55 : decode b_M_due 55 = .ok (.istore 8, 2) := by decide +kernel
theorem d_M_due_57 : decode b_M_due 57 = .ok (.iload 8, 2) := by decide +kernel
theorem d_M_due_59 : decode b_M_due 59 = .ok (.ifCond .ne 8, 3) := by decide +kernel
theorem d_M_due_62 : decode b_M_due 62 = .ok (.lload 4, 2) := by decide +kernel
theorem d_M_due_64 : decode b_M_due 64 = .ok (.goto 17, 3) := by decide +kernel
theorem d_M_due_67 : decode b_M_due 67 = .ok (.aload_n 0, 1) := by decide +kernel
theorem d_M_due_68 : decode b_M_due 68 = .ok (.getfield 22, 3) := by decide +kernel
theorem d_M_due_71 : decode b_M_due 71 = .ok (.iload_n 3, 1) := by decide +kernel
theorem d_M_due_72 : decode b_M_due 72 = .ok (.iconst 2, 1) := by decide +kernel
theorem d_M_due_73 : decode b_M_due 73 = .ok (.iload 8, 2) := by decide +kernel
theorem d_M_due_75 : decode b_M_due 75 = .ok (.imul, 1) := by decide +kernel
theorem d_M_due_76 : decode b_M_due 76 = .ok (.iadd, 1) := by decide +kernel
theorem d_M_due_77 : decode b_M_due 77 = .ok (.iconst 1, 1) := by decide +kernel
theorem d_M_due_78 : decode b_M_due 78 = .ok (.isub, 1) := by decide +kernel
theorem d_M_due_79 : decode b_M_due 79 = .ok (.iaload, 1) := by decide +kernel
theorem d_M_due_80 : decode b_M_due 80 = .ok (.i2l, 1) := by decide +kernel
theorem d_M_due_81 : decode b_M_due 81 = .ok (.lstore 9, 2) := by decide +kernel
theorem d_M_due_83 : decode b_M_due 83 = .ok (.lload 9, 2) := by decide +kernel
theorem d_M_due_85 : decode b_M_due 85 = .ok (.lload 6, 2) := by decide +kernel
theorem d_M_due_87 : decode b_M_due 87 = .ok (.ladd, 1) := by decide +kernel
theorem d_M_due_88 : decode b_M_due 88 = .ok (.iload 8, 2) := by decide +kernel
theorem d_M_due_90 : decode b_M_due 90 = .ok (.invokestatic 39, 3) := by decide +kernel
theorem d_M_due_93 : decode b_M_due 93 = .ok (.i2l, 1) := by decide +kernel
theorem d_M_due_94 : decode b_M_due 94 = .ok (.ladd, 1) := by decide +kernel
theorem d_M_due_95 : decode b_M_due 95 = .ok (.invokestatic 30, 3) := by decide +kernel
theorem d_M_due_98 : decode b_M_due 98 = .ok (.istore 11, 2) := by decide +kernel
theorem d_M_due_100 : decode b_M_due 100 = .ok (.iload_n 2, 1) := by decide +kernel
theorem d_M_due_101 : decode b_M_due 101 = .ok (.iconst 2, 1) := by decide +kernel
theorem d_M_due_102 : decode b_M_due 102 = .ok (.irem, 1) := by decide +kernel
theorem d_M_due_103 : decode b_M_due 103 = .ok (.ifCond .ne 15, 3) := by decide +kernel
theorem d_M_due_106 : decode b_M_due 106 = .ok (.iload 11, 2) := by decide +kernel
theorem d_M_due_108 : decode b_M_due 108 = .ok (.i2l, 1) := by decide +kernel
theorem d_M_due_109 : decode b_M_due 109 = .ok (.iload 11, 2) := by decide +kernel
theorem d_M_due_111 : decode b_M_due 111 = .ok (.i2l, 1) := by decide +kernel
theorem d_M_due_112 : decode b_M_due 112 = .ok (.invokestatic 34, 3) := by decide +kernel
theorem d_M_due_115 : decode b_M_due 115 = .ok (.goto 20, 3) := by decide +kernel
theorem d_M_due_118 : decode b_M_due 118 = .ok (.aload_n 0, 1) := by decide +kernel
theorem d_M_due_119 : decode b_M_due 119 = .ok (.getfield 22, 3) := by decide +kernel
theorem d_M_due_122 : decode b_M_due 122 = .ok (.iload_n 3, 1) := by decide +kernel
theorem d_M_due_123 : decode b_M_due 123 = .ok (.iload_n 2, 1) := by decide +kernel
theorem d_M_due_124 : decode b_M_due 124 = .ok (.iadd, 1) := by decide +kernel
theorem d_M_due_125 : decode b_M_due 125 = .ok (.iconst 1, 1) := by decide +kernel
theorem d_M_due_126 : decode b_M_due 126 = .ok (.isub, 1) := by decide +kernel
theorem d_M_due_127 : decode b_M_due 127 = .ok (.iaload, 1) := by decide +kernel
theorem d_M_due_128 : decode b_M_due 128 = .ok (.i2l, 1) := by decide +kernel
theorem d_M_due_129 : decode b_M_due 129 = .ok (.iload 11, 2) := by decide +kernel
theorem d_M_due_131 : decode b_M_due 131 = .ok (.i2l, 1) := by decide +kernel
theorem d_M_due_132 : decode b_M_due 132 = .ok (.invokestatic 34, 3) := by decide +kernel
theorem d_M_due_135 : decode b_M_due 135 = .ok (.ireturn, 1) := by decide +kernel
theorem d_M_input_0 : decode b_M_input 0 = .ok (.iload_n 1, 1) := by decide +kernel
theorem d_M_input_1 : decode b_M_input 1 = .ok (.iconst 3, 1) := by decide +kernel
theorem d_M_input_2 : decode b_M_input 2 = .ok (.if_icmp .lt 30, 3) := by decide +kernel
theorem d_M_input_5 : decode b_M_input 5 = .ok (.iload_n 1, 1) := by decide +kernel
theorem d_M_input_6 : decode b_M_input 6 = .ok (.bipush 6, 2) := by decide +kernel
theorem d_M_input_8 : decode b_M_input 8 = .ok (.if_icmp .gt 24, 3) := by decide +kernel
theorem d_M_input_11 : decode b_M_input 11 = .ok (.aload_n 0, 1) := by decide +kernel
theorem d_M_input_12 : decode b_M_input 12 = .ok (.getfield 22, 3) := by decide +kernel
theorem d_M_input_15 : decode b_M_input 15 = .ok (.iload_n 2, 1) := by decide +kernel
theorem d_M_input_16 : decode b_M_input 16 = .ok (.ifCond .eq 8, 3) := by decide +kernel
theorem d_M_input_19 : decode b_M_input 19 = .ok (.bipush 19, 2) := by decide +kernel
theorem d_M_input_21 : decode b_M_input 21 = .ok (.goto 5, 3) := by decide +kernel
theorem d_M_input_24 : decode b_M_input 24 = .ok (.bipush 23, 2) := by decide +kernel
theorem d_M_input_26 : decode b_M_input 26 = .ok (.iload_n 1, 1) := by decide +kernel
theorem d_M_input_27 : decode b_M_input 27 = .ok (.iadd, 1) := by decide +kernel
theorem d_M_input_28 : decode b_M_input 28 = .ok (.iconst 3, 1) := by decide +kernel
theorem d_M_input_29 : decode b_M_input 29 = .ok (.isub, 1) := by decide +kernel
theorem d_M_input_30 : decode b_M_input 30 = .ok (.iaload, 1) := by decide +kernel
theorem d_M_input_31 : decode b_M_input 31 = .ok (.ireturn, 1) := by decide +kernel
theorem d_M_input_32 : decode b_M_input 32 = .ok (.iload_n 1, 1) := by decide +kernel
theorem d_M_input_33 : decode b_M_input 33 = .ok (.tableswitch 153 0 8 #[51, 66, 88, 153, 153, 153, 153, 110, 131], 51) := by decide +kernel
theorem d_M_input_84 : decode b_M_input 84 = .ok (.iload_n 2, 1) := by decide +kernel
theorem d_M_input_85 : decode b_M_input 85 = .ok (.ifCond .eq 12, 3) := by decide +kernel
theorem d_M_input_88 : decode b_M_input 88 = .ok (.aload_n 0, 1) := by decide +kernel
theorem d_M_input_89 : decode b_M_input 89 = .ok (.getfield 22, 3) := by decide +kernel
theorem d_M_input_92 : decode b_M_input 92 = .ok (.iconst 5, 1) := by decide +kernel
theorem d_M_input_93 : decode b_M_input 93 = .ok (.iaload, 1) := by decide +kernel
theorem d_M_input_94 : decode b_M_input 94 = .ok (.goto 4, 3) := by decide +kernel
theorem d_M_input_97 : decode b_M_input 97 = .ok (.iconst 0, 1) := by decide +kernel
theorem d_M_input_98 : decode b_M_input 98 = .ok (.ireturn, 1) := by decide +kernel
theorem d_M_input_99 : decode b_M_input 99 = .ok (.iload_n 2, 1) := by decide +kernel
theorem d_M_input_100 : decode b_M_input 100 = .ok (.ifCond .eq 13, 3) := by decide +kernel
theorem d_M_input_103 : decode b_M_input 103 = .ok (.aload_n 0, 1) := by decide +kernel
theorem d_M_input_104 : decode b_M_input 104 = .ok (.getfield 22, 3) := by decide +kernel
theorem d_M_input_107 : decode b_M_input 107 = .ok (.bipush 43, 2) := by decide +kernel
theorem d_M_input_109 : decode b_M_input 109 = .ok (.iaload, 1) := by decide +kernel
theorem d_M_input_110 : decode b_M_input 110 = .ok (.goto 10, 3) := by decide +kernel
theorem d_M_input_113 : decode b_M_input 113 = .ok (.aload_n 0, 1) := by decide +kernel
theorem d_M_input_114 : decode b_M_input 114 = .ok (.getfield 22, 3) := by decide +kernel
theorem d_M_input_117 : decode b_M_input 117 = .ok (.bipush 6, 2) := by decide +kernel
theorem d_M_input_119 : decode b_M_input 119 = .ok (.iaload, 1) := by decide +kernel
theorem d_M_input_120 : decode b_M_input 120 = .ok (.ireturn, 1) := by decide +kernel
theorem d_M_input_121 : decode b_M_input 121 = .ok (.iload_n 2, 1) := by decide +kernel
theorem d_M_input_122 : decode b_M_input 122 = .ok (.ifCond .eq 13, 3) := by decide +kernel
theorem d_M_input_125 : decode b_M_input 125 = .ok (.aload_n 0, 1) := by decide +kernel
theorem d_M_input_126 : decode b_M_input 126 = .ok (.getfield 22, 3) := by decide +kernel
theorem d_M_input_129 : decode b_M_input 129 = .ok (.bipush 52, 2) := by decide +kernel
theorem d_M_input_131 : decode b_M_input 131 = .ok (.iaload, 1) := by decide +kernel
theorem d_M_input_132 : decode b_M_input 132 = .ok (.goto 10, 3) := by decide +kernel
theorem d_M_input_135 : decode b_M_input 135 = .ok (.aload_n 0, 1) := by decide +kernel
theorem d_M_input_136 : decode b_M_input 136 = .ok (.getfield 22, 3) := by decide +kernel
theorem d_M_input_139 : decode b_M_input 139 = .ok (.bipush 7, 2) := by decide +kernel
theorem d_M_input_141 : decode b_M_input 141 = .ok (.iaload, 1) := by decide +kernel
theorem d_M_input_142 : decode b_M_input 142 = .ok (.ireturn, 1) := by decide +kernel
theorem d_M_input_143 : decode b_M_input 143 = .ok (.iload_n 2, 1) := by decide +kernel
theorem d_M_input_144 : decode b_M_input 144 = .ok (.ifCond .eq 12, 3) := by decide +kernel
theorem d_M_input_147 : decode b_M_input 147 = .ok (.aload_n 0, 1) := by decide +kernel
theorem d_M_input_148 : decode b_M_input 148 = .ok (.getfield 22, 3) := by decide +kernel
theorem d_M_input_151 : decode b_M_input 151 = .ok (.iconst 5, 1) := by decide +kernel
theorem d_M_input_152 : decode b_M_input 152 = .ok (.iaload, 1) := by decide +kernel
theorem d_M_input_153 : decode b_M_input 153 = .ok (.goto 10, 3) := by decide +kernel
theorem d_M_input_156 : decode b_M_input 156 = .ok (.aload_n 0, 1) := by decide +kernel
theorem d_M_input_157 : decode b_M_input 157 = .ok (.getfield 22, 3) := by decide +kernel
theorem d_M_input_160 : decode b_M_input 160 = .ok (.bipush 61, 2) := by decide +kernel
theorem d_M_input_162 : decode b_M_input 162 = .ok (.iaload, 1) := by decide +kernel
theorem d_M_input_163 : decode b_M_input 163 = .ok (.ireturn, 1) := by decide +kernel
theorem d_M_input_164 : decode b_M_input 164 = .ok (.iload_n 2, 1) := by decide +kernel
theorem d_M_input_165 : decode b_M_input 165 = .ok (.ifCond .eq 13, 3) := by decide +kernel
theorem d_M_input_168 : decode b_M_input 168 = .ok (.aload_n 0, 1) := by decide +kernel
theorem d_M_input_169 : decode b_M_input 169 = .ok (.getfield 22, 3) := by decide +kernel
theorem d_M_input_172 : decode b_M_input 172 = .ok (.bipush 8, 2) := by decide +kernel
theorem d_M_input_174 : decode b_M_input 174 = .ok (.iaload, 1) := by decide +kernel
theorem d_M_input_175 : decode b_M_input 175 = .ok (.goto 10, 3) := by decide +kernel
theorem d_M_input_178 : decode b_M_input 178 = .ok (.aload_n 0, 1) := by decide +kernel
theorem d_M_input_179 : decode b_M_input 179 = .ok (.getfield 22, 3) := by decide +kernel
theorem d_M_input_182 : decode b_M_input 182 = .ok (.bipush 9, 2) := by decide +kernel
theorem d_M_input_184 : decode b_M_input 184 = .ok (.iaload, 1) := by decide +kernel
theorem d_M_input_185 : decode b_M_input 185 = .ok (.ireturn, 1) := by decide +kernel
theorem d_M_input_186 : decode b_M_input 186 = .ok (.iload_n 2, 1) := by decide +kernel
theorem d_M_input_187 : decode b_M_input 187 = .ok (.ifCond .eq 13, 3) := by decide +kernel
theorem d_M_input_190 : decode b_M_input 190 = .ok (.aload_n 0, 1) := by decide +kernel
theorem d_M_input_191 : decode b_M_input 191 = .ok (.getfield 22, 3) := by decide +kernel
theorem d_M_input_194 : decode b_M_input 194 = .ok (.bipush 115, 2) := by decide +kernel
theorem d_M_input_196 : decode b_M_input 196 = .ok (.iaload, 1) := by decide +kernel
theorem d_M_input_197 : decode b_M_input 197 = .ok (.goto 10, 3) := by decide +kernel
theorem d_M_input_200 : decode b_M_input 200 = .ok (.aload_n 0, 1) := by decide +kernel
theorem d_M_input_201 : decode b_M_input 201 = .ok (.getfield 22, 3) := by decide +kernel
theorem d_M_input_204 : decode b_M_input 204 = .ok (.bipush 10, 2) := by decide +kernel
theorem d_M_input_206 : decode b_M_input 206 = .ok (.iaload, 1) := by decide +kernel
theorem d_M_input_207 : decode b_M_input 207 = .ok (.ireturn, 1) := by decide +kernel
theorem d_M_nodeOf_0 : decode b_M_nodeOf 0 = .ok (.iconst 0, 1) := by decide +kernel
theorem d_M_nodeOf_1 : decode b_M_nodeOf 1 = .ok (.istore 4, 2) := by decide +kernel
theorem d_M_nodeOf_3 : decode b_M_nodeOf 3 = .ok (.iload 4, 2) := by decide +kernel
theorem d_M_nodeOf_5 : decode b_M_nodeOf 5 = .ok (.bipush 16, 2) := by decide +kernel
theorem d_M_nodeOf_7 : decode b_M_nodeOf 7 = .ok (.if_icmp .ge 32, 3) := by decide +kernel
theorem d_M_nodeOf_10 : decode b_M_nodeOf 10 = .ok (.aload_n 0, 1) := by decide +kernel
theorem d_M_nodeOf_11 : decode b_M_nodeOf 11 = .ok (.getfield 25, 3) := by decide +kernel
theorem d_M_nodeOf_14 : decode b_M_nodeOf 14 = .ok (.iload 4, 2) := by decide +kernel
theorem d_M_nodeOf_16 : decode b_M_nodeOf 16 = .ok (.iload 4, 2) := by decide +kernel
theorem d_M_nodeOf_18 : decode b_M_nodeOf 18 = .ok (.iload_n 1, 1) := by decide +kernel
theorem d_M_nodeOf_19 : decode b_M_nodeOf 19 = .ok (.if_icmp .ge 12, 3) := by decide +kernel
theorem d_M_nodeOf_22 : decode b_M_nodeOf 22 = .ok (.aload_n 0, 1) := by decide +kernel
theorem d_M_nodeOf_23 : decode b_M_nodeOf 23 = .ok (.iload 4, 2) := by decide +kernel
theorem d_M_nodeOf_25 : decode b_M_nodeOf 25 = .ok (.invokevirtual 62, 3) := by decide +kernel
theorem d_M_nodeOf_28 : decode b_M_nodeOf 28 = .ok (.goto 4, 3) := by decide +kernel
theorem d_M_nodeOf_31 : decode b_M_nodeOf 31 = .ok (.iconst 0, 1) := by decide +kernel
theorem d_M_nodeOf_32 : decode b_M_nodeOf 32 = .ok (.iastore, 1) := by decide +kernel
theorem d_M_nodeOf_33 : decode b_M_nodeOf 33 = .ok (.iinc 4 1, 3) := by decide +kernel
theorem d_M_nodeOf_36 : decode b_M_nodeOf 36 = .ok (.goto (-33), 3) := by decide +kernel
theorem d_M_nodeOf_39 : decode b_M_nodeOf 39 = .ok (.bipush 16, 2) := by decide +kernel
theorem d_M_nodeOf_41 : decode b_M_nodeOf 41 = .ok (.istore 4, 2) := by decide +kernel
theorem d_M_nodeOf_43 : decode b_M_nodeOf 43 = .ok (.iconst 0, 1) := by decide +kernel
theorem d_M_nodeOf_44 : decode b_M_nodeOf 44 = .ok (.istore 5, 2) := by decide +kernel
theorem d_M_nodeOf_46 : decode b_M_nodeOf 46 = .ok (.iload 5, 2) := by decide +kernel
theorem d_M_nodeOf_48 : decode b_M_nodeOf 48 = .ok (.iload_n 2, 1) := by decide +kernel
theorem d_M_nodeOf_49 : decode b_M_nodeOf 49 = .ok (.if_icmp .ge 61, 3) := by decide +kernel
theorem d_M_nodeOf_52 : decode b_M_nodeOf 52 = .ok (.iload 4, 2) := by decide +kernel
theorem d_M_nodeOf_54 : decode b_M_nodeOf 54 = .ok (.iconst 2, 1) := by decide +kernel
theorem d_M_nodeOf_55 : decode b_M_nodeOf 55 = .ok (.idiv, 1) := by decide +kernel
theorem d_M_nodeOf_56 : decode b_M_nodeOf 56 = .ok (.istore 4, 2) := by decide +kernel
theorem d_M_nodeOf_58 : decode b_M_nodeOf 58 = .ok (.iconst 0, 1) := by decide +kernel
theorem d_M_nodeOf_59 : decode b_M_nodeOf 59 = .ok (.istore 6, 2) := by decide +kernel
theorem d_M_nodeOf_61 : decode b_M_nodeOf 61 = .ok (.iload 6, 2) := by decide +kernel
theorem d_M_nodeOf_63 : decode b_M_nodeOf 63 = .ok (.iload 4, 2) := by decide +kernel
theorem d_M_nodeOf_65 : decode b_M_nodeOf 65 = .ok (.if_icmp .ge 39, 3) := by decide +kernel
theorem d_M_nodeOf_68 : decode b_M_nodeOf 68 = .ok (.aload_n 0, 1) := by decide +kernel
theorem d_M_nodeOf_69 : decode b_M_nodeOf 69 = .ok (.getfield 25, 3) := by decide +kernel
theorem d_M_nodeOf_72 : decode b_M_nodeOf 72 = .ok (.iload 6, 2) := by decide +kernel
theorem d_M_nodeOf_74 : decode b_M_nodeOf 74 = .ok (.aload_n 0, 1) := by decide +kernel
theorem d_M_nodeOf_75 : decode b_M_nodeOf 75 = .ok (.getfield 25, 3) := by decide +kernel
theorem d_M_nodeOf_78 : decode b_M_nodeOf 78 = .ok (.iconst 2, 1) := by decide +kernel
theorem d_M_nodeOf_79 : decode b_M_nodeOf 79 = .ok (.iload 6, 2) := by decide +kernel
theorem d_M_nodeOf_81 : decode b_M_nodeOf 81 = .ok (.imul, 1) := by decide +kernel
theorem d_M_nodeOf_82 : decode b_M_nodeOf 82 = .ok (.iaload, 1) := by decide +kernel
theorem d_M_nodeOf_83 : decode b_M_nodeOf 83 = .ok (.aload_n 0, 1) := by decide +kernel
theorem d_M_nodeOf_84 : decode b_M_nodeOf 84 = .ok (.getfield 25, 3) := by decide +kernel
theorem d_M_nodeOf_87 : decode b_M_nodeOf 87 = .ok (.iconst 2, 1) := by decide +kernel
theorem d_M_nodeOf_88 : decode b_M_nodeOf 88 = .ok (.iload 6, 2) := by decide +kernel
theorem d_M_nodeOf_90 : decode b_M_nodeOf 90 = .ok (.imul, 1) := by decide +kernel
theorem d_M_nodeOf_91 : decode b_M_nodeOf 91 = .ok (.iconst 1, 1) := by decide +kernel
theorem d_M_nodeOf_92 : decode b_M_nodeOf 92 = .ok (.iadd, 1) := by decide +kernel
theorem d_M_nodeOf_93 : decode b_M_nodeOf 93 = .ok (.iaload, 1) := by decide +kernel
theorem d_M_nodeOf_94 : decode b_M_nodeOf 94 = .ok (.invokestatic 51, 3) := by decide +kernel
theorem d_M_nodeOf_97 : decode b_M_nodeOf 97 = .ok (.iastore, 1) := by decide +kernel
theorem d_M_nodeOf_98 : decode b_M_nodeOf 98 = .ok (.iinc 6 1, 3) := by decide +kernel
theorem d_M_nodeOf_101 : decode b_M_nodeOf 101 = .ok (.goto (-40), 3) := by decide +kernel
theorem d_M_nodeOf_104 : decode b_M_nodeOf 104 = .ok (.iinc 5 1, 3) := by decide +kernel
theorem d_M_nodeOf_107 : decode b_M_nodeOf 107 = .ok (.goto (-61), 3) := by decide +kernel
theorem d_M_nodeOf_110 : decode b_M_nodeOf 110 = .ok (.aload_n 0, 1) := by decide +kernel
theorem d_M_nodeOf_111 : decode b_M_nodeOf 111 = .ok (.getfield 25, 3) := by decide +kernel
theorem d_M_nodeOf_114 : decode b_M_nodeOf 114 = .ok (.iload_n 3, 1) := by decide +kernel
theorem d_M_nodeOf_115 : decode b_M_nodeOf 115 = .ok (.iaload, 1) := by decide +kernel
theorem d_M_nodeOf_116 : decode b_M_nodeOf 116 = .ok (.ireturn, 1) := by decide +kernel
theorem d_M_leaf_0 : decode b_M_leaf 0 = .ok (.aload_n 0, 1) := by decide +kernel
theorem d_M_leaf_1 : decode b_M_leaf 1 = .ok (.getfield 7, 3) := by decide +kernel
theorem d_M_leaf_4 : decode b_M_leaf 4 = .ok (.iload_n 1, 1) := by decide +kernel
theorem d_M_leaf_5 : decode b_M_leaf 5 = .ok (.iaload, 1) := by decide +kernel
theorem d_M_leaf_6 : decode b_M_leaf 6 = .ok (.aload_n 0, 1) := by decide +kernel
theorem d_M_leaf_7 : decode b_M_leaf 7 = .ok (.getfield 13, 3) := by decide +kernel
theorem d_M_leaf_10 : decode b_M_leaf 10 = .ok (.iload_n 1, 1) := by decide +kernel
theorem d_M_leaf_11 : decode b_M_leaf 11 = .ok (.iaload, 1) := by decide +kernel
theorem d_M_leaf_12 : decode b_M_leaf 12 = .ok (.invokestatic 51, 3) := by decide +kernel
theorem d_M_leaf_15 : decode b_M_leaf 15 = .ok (.istore_n 2, 1) := by decide +kernel
theorem d_M_leaf_16 : decode b_M_leaf 16 = .ok (.iload_n 2, 1) := by decide +kernel
theorem d_M_leaf_17 : decode b_M_leaf 17 = .ok (.aload_n 0, 1) := by decide +kernel
theorem d_M_leaf_18 : decode b_M_leaf 18 = .ok (.getfield 16, 3) := by decide +kernel
theorem d_M_leaf_21 : decode b_M_leaf 21 = .ok (.iload_n 1, 1) := by decide +kernel
theorem d_M_leaf_22 : decode b_M_leaf 22 = .ok (.iaload, 1) := by decide +kernel
theorem d_M_leaf_23 : decode b_M_leaf 23 = .ok (.invokestatic 51, 3) := by decide +kernel
theorem d_M_leaf_26 : decode b_M_leaf 26 = .ok (.ireturn, 1) := by decide +kernel
theorem d_M_turned_0 : decode b_M_turned 0 = .ok (.aload_n 0, 1) := by decide +kernel
theorem d_M_turned_1 : decode b_M_turned 1 = .ok (.getfield 22, 3) := by decide +kernel
theorem d_M_turned_4 : decode b_M_turned 4 = .ok (.bipush 61, 2) := by decide +kernel
theorem d_M_turned_6 : decode b_M_turned 6 = .ok (.bipush 9, 2) := by decide +kernel
theorem d_M_turned_8 : decode b_M_turned 8 = .ok (.iload_n 1, 1) := by decide +kernel
theorem d_M_turned_9 : decode b_M_turned 9 = .ok (.imul, 1) := by decide +kernel
theorem d_M_turned_10 : decode b_M_turned 10 = .ok (.iadd, 1) := by decide +kernel
theorem d_M_turned_11 : decode b_M_turned 11 = .ok (.iaload, 1) := by decide +kernel
theorem d_M_turned_12 : decode b_M_turned 12 = .ok (.i2l, 1) := by decide +kernel
theorem d_M_turned_13 : decode b_M_turned 13 = .ok (.lstore_n 3, 1) := by decide +kernel
theorem d_M_turned_14 : decode b_M_turned 14 = .ok (.aload_n 0, 1) := by decide +kernel
theorem d_M_turned_15 : decode b_M_turned 15 = .ok (.getfield 22, 3) := by decide +kernel
theorem d_M_turned_18 : decode b_M_turned 18 = .ok (.bipush 11, 2) := by decide +kernel
theorem d_M_turned_20 : decode b_M_turned 20 = .ok (.iload_n 1, 1) := by decide +kernel
theorem d_M_turned_21 : decode b_M_turned 21 = .ok (.iadd, 1) := by decide +kernel
theorem d_M_turned_22 : decode b_M_turned 22 = .ok (.iaload, 1) := by decide +kernel
theorem d_M_turned_23 : decode b_M_turned 23 = .ok (.i2l, 1) := by decide +kernel
theorem d_M_turned_24 : decode b_M_turned 24 = .ok (.lstore 5, 2) := by decide +kernel
theorem d_M_turned_26 : decode b_M_turned 26 = .ok (.aload_n 0, 1) := by decide +kernel
theorem d_M_turned_27 : decode b_M_turned 27 = .ok (.getfield 22, 3) := by decide +kernel
theorem d_M_turned_30 : decode b_M_turned 30 = .ok (.bipush 15, 2) := by decide +kernel
theorem d_M_turned_32 : decode b_M_turned 32 = .ok (.iload_n 1, 1) := by decide +kernel
theorem d_M_turned_33 : decode b_M_turned 33 = .ok (.iadd, 1) := by decide +kernel
theorem d_M_turned_34 : decode b_M_turned 34 = .ok (.iaload, 1) := by decide +kernel
theorem d_M_turned_35 : decode b_M_turned 35 = .ok (.i2l, 1) := by decide +kernel
theorem d_M_turned_36 : decode b_M_turned 36 = .ok (.lload 5, 2) := by decide +kernel
theorem d_M_turned_38 : decode b_M_turned 38 = .ok (.lload_n 3, 1) := by decide +kernel
theorem d_M_turned_39 : decode b_M_turned 39 = .ok (.lsub, 1) := by decide +kernel
theorem d_M_turned_40 : decode b_M_turned 40 = .ok (.ldc2_w 28, 3) := by decide +kernel
theorem d_M_turned_43 : decode b_M_turned 43 = .ok (.ladd, 1) := by decide +kernel
theorem d_M_turned_44 : decode b_M_turned 44 = .ok (.invokestatic 34, 3) := by decide +kernel
theorem d_M_turned_47 : decode b_M_turned 47 = .ok (.istore 7, 2) := by decide +kernel
theorem d_M_turned_49 : decode b_M_turned 49 = .ok (.iload_n 2, 1) := by decide +kernel
theorem d_M_turned_50 : decode b_M_turned 50 = .ok (.ifCond .eq 14, 3) := by decide +kernel
theorem d_M_turned_53 : decode b_M_turned 53 = .ok (.lload_n 3, 1) := by decide +kernel
theorem d_M_turned_54 : decode b_M_turned 54 = .ok (.iload 7, 2) := by decide +kernel
theorem d_M_turned_56 : decode b_M_turned 56 = .ok (.i2l, 1) := by decide +kernel
theorem d_M_turned_57 : decode b_M_turned 57 = .ok (.ladd, 1) := by decide +kernel
theorem d_M_turned_58 : decode b_M_turned 58 = .ok (.invokestatic 30, 3) := by decide +kernel
theorem d_M_turned_61 : decode b_M_turned 61 = .ok (.goto 21, 3) := by decide +kernel
theorem d_M_turned_64 : decode b_M_turned 64 = .ok (.lload_n 3, 1) := by decide +kernel
theorem d_M_turned_65 : decode b_M_turned 65 = .ok (.lload 5, 2) := by decide +kernel
theorem d_M_turned_67 : decode b_M_turned 67 = .ok (.ladd, 1) := by decide +kernel
theorem d_M_turned_68 : decode b_M_turned 68 = .ok (.aload_n 0, 1) := by decide +kernel
theorem d_M_turned_69 : decode b_M_turned 69 = .ok (.getfield 22, 3) := by decide +kernel
theorem d_M_turned_72 : decode b_M_turned 72 = .ok (.bipush 19, 2) := by decide +kernel
theorem d_M_turned_74 : decode b_M_turned 74 = .ok (.iload_n 1, 1) := by decide +kernel
theorem d_M_turned_75 : decode b_M_turned 75 = .ok (.iadd, 1) := by decide +kernel
theorem d_M_turned_76 : decode b_M_turned 76 = .ok (.iaload, 1) := by decide +kernel
theorem d_M_turned_77 : decode b_M_turned 77 = .ok (.i2l, 1) := by decide +kernel
theorem d_M_turned_78 : decode b_M_turned 78 = .ok (.lsub, 1) := by decide +kernel
theorem d_M_turned_79 : decode b_M_turned 79 = .ok (.invokestatic 30, 3) := by decide +kernel
theorem d_M_turned_82 : decode b_M_turned 82 = .ok (.ireturn, 1) := by decide +kernel
theorem d_M_fault_0 : decode b_M_fault 0 = .ok (.iconst 0, 1) := by decide +kernel
theorem d_M_fault_1 : decode b_M_fault 1 = .ok (.istore_n 1, 1) := by decide +kernel
theorem d_M_fault_2 : decode b_M_fault 2 = .ok (.iload_n 1, 1) := by decide +kernel
theorem d_M_fault_3 : decode b_M_fault 3 = .ok (.bipush 115, 2) := by decide +kernel
theorem d_M_fault_5 : decode b_M_fault 5 = .ok (.if_icmp .ge 19, 3) := by decide +kernel
theorem d_M_fault_8 : decode b_M_fault 8 = .ok (.aload_n 0, 1) := by decide +kernel
theorem d_M_fault_9 : decode b_M_fault 9 = .ok (.iload_n 1, 1) := by decide +kernel
theorem d_M_fault_10 : decode b_M_fault 10 = .ok (.invokevirtual 110, 3) := by decide +kernel
theorem d_M_fault_13 : decode b_M_fault 13 = .ok (.ifCond .ne 5, 3) := by decide +kernel
theorem d_M_fault_16 : decode b_M_fault 16 = .ok (.iload_n 1, 1) := by decide +kernel
theorem d_M_fault_17 : decode b_M_fault 17 = .ok (.ireturn, 1) := by decide +kernel
theorem d_M_fault_18 : decode b_M_fault 18 = .ok (.iinc 1 1, 3) := by decide +kernel
theorem d_M_fault_21 : decode b_M_fault 21 = .ok (.goto (-19), 3) := by decide +kernel
theorem d_M_fault_24 : decode b_M_fault 24 = .ok (.iconst (-1), 1) := by decide +kernel
theorem d_M_fault_25 : decode b_M_fault 25 = .ok (.ireturn, 1) := by decide +kernel
theorem d_M_holds_0 : decode b_M_holds 0 = .ok (.iload_n 1, 1) := by decide +kernel
theorem d_M_holds_1 : decode b_M_holds 1 = .ok (.bipush 12, 2) := by decide +kernel
theorem d_M_holds_3 : decode b_M_holds 3 = .ok (.if_icmp .ge 24, 3) := by decide +kernel
theorem d_M_holds_6 : decode b_M_holds 6 = .ok (.aload_n 0, 1) := by decide +kernel
theorem d_M_holds_7 : decode b_M_holds 7 = .ok (.iload_n 1, 1) := by decide +kernel
theorem d_M_holds_8 : decode b_M_holds 8 = .ok (.iconst 4, 1) := by decide +kernel
theorem d_M_holds_9 : decode b_M_holds 9 = .ok (.if_icmp .ge 10, 3) := by decide +kernel
theorem d_M_holds_12 : decode b_M_holds 12 = .ok (.bipush 15, 2) := by decide +kernel
theorem d_M_holds_14 : decode b_M_holds 14 = .ok (.iload_n 1, 1) := by decide +kernel
theorem d_M_holds_15 : decode b_M_holds 15 = .ok (.iadd, 1) := by decide +kernel
theorem d_M_holds_16 : decode b_M_holds 16 = .ok (.goto 7, 3) := by decide +kernel
theorem d_M_holds_19 : decode b_M_holds 19 = .ok (.bipush 23, 2) := by decide +kernel
theorem d_M_holds_21 : decode b_M_holds 21 = .ok (.iload_n 1, 1) := by decide +kernel
theorem d_M_holds_22 : decode b_M_holds 22 = .ok (.iadd, 1) := by decide +kernel
theorem d_M_holds_23 : decode b_M_holds 23 = .ok (.invokevirtual 82, 3) := by decide +kernel
theorem d_M_holds_26 : decode b_M_holds 26 = .ok (.ireturn, 1) := by decide +kernel
theorem d_M_holds_27 : decode b_M_holds 27 = .ok (.iload_n 1, 1) := by decide +kernel
theorem d_M_holds_28 : decode b_M_holds 28 = .ok (.bipush 14, 2) := by decide +kernel
theorem d_M_holds_30 : decode b_M_holds 30 = .ok (.if_icmp .ge 51, 3) := by decide +kernel
theorem d_M_holds_33 : decode b_M_holds 33 = .ok (.iload_n 1, 1) := by decide +kernel
theorem d_M_holds_34 : decode b_M_holds 34 = .ok (.bipush 12, 2) := by decide +kernel
theorem d_M_holds_36 : decode b_M_holds 36 = .ok (.if_icmp .ne 10, 3) := by decide +kernel
theorem d_M_holds_39 : decode b_M_holds 39 = .ok (.aload_n 0, 1) := by decide +kernel
theorem d_M_holds_40 : decode b_M_holds 40 = .ok (.invokevirtual 86, 3) := by decide +kernel
theorem d_M_holds_43 : decode b_M_holds 43 = .ok (.goto 37, 3) := by decide +kernel
theorem d_M_holds_46 : decode b_M_holds 46 = .ok (.aload_n 0, 1) := by decide +kernel
theorem d_M_holds_47 : decode b_M_holds 47 = .ok (.getfield 22, 3) := by decide +kernel
theorem d_M_holds_50 : decode b_M_holds 50 = .ok (.bipush 9, 2) := by decide +kernel
theorem d_M_holds_52 : decode b_M_holds 52 = .ok (.iaload, 1) := by decide +kernel
theorem d_M_holds_53 : decode b_M_holds 53 = .ok (.i2l, 1) := by decide +kernel
theorem d_M_holds_54 : decode b_M_holds 54 = .ok (.aload_n 0, 1) := by decide +kernel
theorem d_M_holds_55 : decode b_M_holds 55 = .ok (.getfield 22, 3) := by decide +kernel
theorem d_M_holds_58 : decode b_M_holds 58 = .ok (.iconst 4, 1) := by decide +kernel
theorem d_M_holds_59 : decode b_M_holds 59 = .ok (.iaload, 1) := by decide +kernel
theorem d_M_holds_60 : decode b_M_holds 60 = .ok (.i2l, 1) := by decide +kernel
theorem d_M_holds_61 : decode b_M_holds 61 = .ok (.ladd, 1) := by decide +kernel
theorem d_M_holds_62 : decode b_M_holds 62 = .ok (.invokestatic 30, 3) := by decide +kernel
theorem d_M_holds_65 : decode b_M_holds 65 = .ok (.aload_n 0, 1) := by decide +kernel
theorem d_M_holds_66 : decode b_M_holds 66 = .ok (.getfield 22, 3) := by decide +kernel
theorem d_M_holds_69 : decode b_M_holds 69 = .ok (.bipush 6, 2) := by decide +kernel
theorem d_M_holds_71 : decode b_M_holds 71 = .ok (.iaload, 1) := by decide +kernel
theorem d_M_holds_72 : decode b_M_holds 72 = .ok (.if_icmp .ne 7, 3) := by decide +kernel
theorem d_M_holds_75 : decode b_M_holds 75 = .ok (.iconst 1, 1) := by decide +kernel
theorem d_M_holds_76 : decode b_M_holds 76 = .ok (.goto 4, 3) := by decide +kernel
theorem d_M_holds_79 : decode b_M_holds 79 = .ok (.iconst 0, 1) := by decide +kernel
theorem d_M_holds_80 : decode b_M_holds 80 = .ok (.ireturn, 1) := by decide +kernel
theorem d_M_holds_81 : decode b_M_holds 81 = .ok (.iload_n 1, 1) := by decide +kernel
theorem d_M_holds_82 : decode b_M_holds 82 = .ok (.bipush 41, 2) := by decide +kernel
theorem d_M_holds_84 : decode b_M_holds 84 = .ok (.if_icmp .ge 22, 3) := by decide +kernel
theorem d_M_holds_87 : decode b_M_holds 87 = .ok (.aload_n 0, 1) := by decide +kernel
theorem d_M_holds_88 : decode b_M_holds 88 = .ok (.iload_n 1, 1) := by decide +kernel
theorem d_M_holds_89 : decode b_M_holds 89 = .ok (.bipush 14, 2) := by decide +kernel
theorem d_M_holds_91 : decode b_M_holds 91 = .ok (.isub, 1) := by decide +kernel
theorem d_M_holds_92 : decode b_M_holds 92 = .ok (.bipush 9, 2) := by decide +kernel
theorem d_M_holds_94 : decode b_M_holds 94 = .ok (.idiv, 1) := by decide +kernel
theorem d_M_holds_95 : decode b_M_holds 95 = .ok (.iload_n 1, 1) := by decide +kernel
theorem d_M_holds_96 : decode b_M_holds 96 = .ok (.bipush 14, 2) := by decide +kernel
theorem d_M_holds_98 : decode b_M_holds 98 = .ok (.isub, 1) := by decide +kernel
theorem d_M_holds_99 : decode b_M_holds 99 = .ok (.bipush 9, 2) := by decide +kernel
theorem d_M_holds_101 : decode b_M_holds 101 = .ok (.irem, 1) := by decide +kernel
theorem d_M_holds_102 : decode b_M_holds 102 = .ok (.invokevirtual 90, 3) := by decide +kernel
theorem d_M_holds_105 : decode b_M_holds 105 = .ok (.ireturn, 1) := by decide +kernel
theorem d_M_holds_106 : decode b_M_holds 106 = .ok (.iload_n 1, 1) := by decide +kernel
theorem d_M_holds_107 : decode b_M_holds 107 = .ok (.bipush 85, 2) := by decide +kernel
theorem d_M_holds_109 : decode b_M_holds 109 = .ok (.if_icmp .ge 80, 3) := by decide +kernel
theorem d_M_holds_112 : decode b_M_holds 112 = .ok (.iload_n 1, 1) := by decide +kernel
theorem d_M_holds_113 : decode b_M_holds 113 = .ok (.bipush 41, 2) := by decide +kernel
theorem d_M_holds_115 : decode b_M_holds 115 = .ok (.isub, 1) := by decide +kernel
theorem d_M_holds_116 : decode b_M_holds 116 = .ok (.bipush 11, 2) := by decide +kernel
theorem d_M_holds_118 : decode b_M_holds 118 = .ok (.idiv, 1) := by decide +kernel
theorem d_M_holds_119 : decode b_M_holds 119 = .ok (.istore_n 2, 1) := by decide +kernel
theorem d_M_holds_120 : decode b_M_holds 120 = .ok (.iload_n 1, 1) := by decide +kernel
theorem d_M_holds_121 : decode b_M_holds 121 = .ok (.bipush 41, 2) := by decide +kernel
theorem d_M_holds_123 : decode b_M_holds 123 = .ok (.isub, 1) := by decide +kernel
theorem d_M_holds_124 : decode b_M_holds 124 = .ok (.bipush 11, 2) := by decide +kernel
theorem d_M_holds_126 : decode b_M_holds 126 = .ok (.irem, 1) := by decide +kernel
theorem d_M_holds_127 : decode b_M_holds 127 = .ok (.istore_n 3, 1) := by decide +kernel
theorem d_M_holds_128 : decode b_M_holds 128 = .ok (.iload_n 3, 1) := by decide +kernel
theorem d_M_holds_129 : decode b_M_holds 129 = .ok (.iconst 1, 1) := by decide +kernel
theorem d_M_holds_130 : decode b_M_holds 130 = .ok (.if_icmp .le 14, 3) := by decide +kernel
theorem d_M_holds_133 : decode b_M_holds 133 = .ok (.aload_n 0, 1) := by decide +kernel
theorem d_M_holds_134 : decode b_M_holds 134 = .ok (.iconst 3, 1) := by decide +kernel
theorem d_M_holds_135 : decode b_M_holds 135 = .ok (.iload_n 2, 1) := by decide +kernel
theorem d_M_holds_136 : decode b_M_holds 136 = .ok (.iadd, 1) := by decide +kernel
theorem d_M_holds_137 : decode b_M_holds 137 = .ok (.iload_n 3, 1) := by decide +kernel
theorem d_M_holds_138 : decode b_M_holds 138 = .ok (.iconst 2, 1) := by decide +kernel
theorem d_M_holds_139 : decode b_M_holds 139 = .ok (.isub, 1) := by decide +kernel
theorem d_M_holds_140 : decode b_M_holds 140 = .ok (.invokevirtual 90, 3) := by decide +kernel
theorem d_M_holds_143 : decode b_M_holds 143 = .ok (.ireturn, 1) := by decide +kernel
theorem d_M_holds_144 : decode b_M_holds 144 = .ok (.aload_n 0, 1) := by decide +kernel
theorem d_M_holds_145 : decode b_M_holds 145 = .ok (.iload_n 2, 1) := by decide +kernel
theorem d_M_holds_146 : decode b_M_holds 146 = .ok (.iload_n 3, 1) := by decide +kernel
theorem d_M_holds_147 : decode b_M_holds 147 = .ok (.ifCond .ne 7, 3) := by decide +kernel
theorem d_M_holds_150 : decode b_M_holds 150 = .ok (.iconst 1, 1) := by decide +kernel
theorem d_M_holds_151 : decode b_M_holds 151 = .ok (.goto 4, 3) := by decide +kernel
theorem d_M_holds_154 : decode b_M_holds 154 = .ok (.iconst 0, 1) := by decide +kernel
theorem d_M_holds_155 : decode b_M_holds 155 = .ok (.invokevirtual 93, 3) := by decide +kernel
theorem d_M_holds_158 : decode b_M_holds 158 = .ok (.istore 4, 2) := by decide +kernel
theorem d_M_holds_160 : decode b_M_holds 160 = .ok (.aload_n 0, 1) := by decide +kernel
theorem d_M_holds_161 : decode b_M_holds 161 = .ok (.getfield 22, 3) := by decide +kernel
theorem d_M_holds_164 : decode b_M_holds 164 = .ok (.iload_n 3, 1) := by decide +kernel
theorem d_M_holds_165 : decode b_M_holds 165 = .ok (.ifCond .ne 8, 3) := by decide +kernel
theorem d_M_holds_168 : decode b_M_holds 168 = .ok (.bipush 19, 2) := by decide +kernel
theorem d_M_holds_170 : decode b_M_holds 170 = .ok (.goto 5, 3) := by decide +kernel
theorem d_M_holds_173 : decode b_M_holds 173 = .ok (.bipush 23, 2) := by decide +kernel
theorem d_M_holds_175 : decode b_M_holds 175 = .ok (.iload_n 2, 1) := by decide +kernel
theorem d_M_holds_176 : decode b_M_holds 176 = .ok (.iadd, 1) := by decide +kernel
theorem d_M_holds_177 : decode b_M_holds 177 = .ok (.iaload, 1) := by decide +kernel
theorem d_M_holds_178 : decode b_M_holds 178 = .ok (.iload 4, 2) := by decide +kernel
theorem d_M_holds_180 : decode b_M_holds 180 = .ok (.if_icmp .ne 7, 3) := by decide +kernel
theorem d_M_holds_183 : decode b_M_holds 183 = .ok (.iconst 1, 1) := by decide +kernel
theorem d_M_holds_184 : decode b_M_holds 184 = .ok (.goto 4, 3) := by decide +kernel
theorem d_M_holds_187 : decode b_M_holds 187 = .ok (.iconst 0, 1) := by decide +kernel
theorem d_M_holds_188 : decode b_M_holds 188 = .ok (.ireturn, 1) := by decide +kernel
theorem d_M_holds_189 : decode b_M_holds 189 = .ok (.iload_n 1, 1) := by decide +kernel
theorem d_M_holds_190 : decode b_M_holds 190 = .ok (.bipush 112, 2) := by decide +kernel
theorem d_M_holds_192 : decode b_M_holds 192 = .ok (.if_icmp .ge 25, 3) := by decide +kernel
theorem d_M_holds_195 : decode b_M_holds 195 = .ok (.aload_n 0, 1) := by decide +kernel
theorem d_M_holds_196 : decode b_M_holds 196 = .ok (.bipush 7, 2) := by decide +kernel
theorem d_M_holds_198 : decode b_M_holds 198 = .ok (.iload_n 1, 1) := by decide +kernel
theorem d_M_holds_199 : decode b_M_holds 199 = .ok (.bipush 85, 2) := by decide +kernel
theorem d_M_holds_201 : decode b_M_holds 201 = .ok (.isub, 1) := by decide +kernel
theorem d_M_holds_202 : decode b_M_holds 202 = .ok (.bipush 9, 2) := by decide +kernel
theorem d_M_holds_204 : decode b_M_holds 204 = .ok (.idiv, 1) := by decide +kernel
theorem d_M_holds_205 : decode b_M_holds 205 = .ok (.iadd, 1) := by decide +kernel
theorem d_M_holds_206 : decode b_M_holds 206 = .ok (.iload_n 1, 1) := by decide +kernel
theorem d_M_holds_207 : decode b_M_holds 207 = .ok (.bipush 85, 2) := by decide +kernel
theorem d_M_holds_209 : decode b_M_holds 209 = .ok (.isub, 1) := by decide +kernel
theorem d_M_holds_210 : decode b_M_holds 210 = .ok (.bipush 9, 2) := by decide +kernel
theorem d_M_holds_212 : decode b_M_holds 212 = .ok (.irem, 1) := by decide +kernel
theorem d_M_holds_213 : decode b_M_holds 213 = .ok (.invokevirtual 90, 3) := by decide +kernel
theorem d_M_holds_216 : decode b_M_holds 216 = .ok (.ireturn, 1) := by decide +kernel
theorem d_M_holds_217 : decode b_M_holds 217 = .ok (.iload_n 1, 1) := by decide +kernel
theorem d_M_holds_218 : decode b_M_holds 218 = .ok (.bipush 112, 2) := by decide +kernel
theorem d_M_holds_220 : decode b_M_holds 220 = .ok (.if_icmp .ne 27, 3) := by decide +kernel
theorem d_M_holds_223 : decode b_M_holds 223 = .ok (.aload_n 0, 1) := by decide +kernel
theorem d_M_holds_224 : decode b_M_holds 224 = .ok (.getfield 22, 3) := by decide +kernel
theorem d_M_holds_227 : decode b_M_holds 227 = .ok (.iconst 1, 1) := by decide +kernel
theorem d_M_holds_228 : decode b_M_holds 228 = .ok (.iaload, 1) := by decide +kernel
theorem d_M_holds_229 : decode b_M_holds 229 = .ok (.aload_n 0, 1) := by decide +kernel
theorem d_M_holds_230 : decode b_M_holds 230 = .ok (.getfield 22, 3) := by decide +kernel
theorem d_M_holds_233 : decode b_M_holds 233 = .ok (.bipush 97, 2) := by decide +kernel
theorem d_M_holds_235 : decode b_M_holds 235 = .ok (.iaload, 1) := by decide +kernel
theorem d_M_holds_236 : decode b_M_holds 236 = .ok (.if_icmp .ne 7, 3) := by decide +kernel
theorem d_M_holds_239 : decode b_M_holds 239 = .ok (.iconst 1, 1) := by decide +kernel
theorem d_M_holds_240 : decode b_M_holds 240 = .ok (.goto 58, 3) := by decide +kernel
theorem d_M_holds_243 : decode b_M_holds 243 = .ok (.iconst 0, 1) := by decide +kernel
theorem d_M_holds_244 : decode b_M_holds 244 = .ok (.goto 54, 3) := by decide +kernel
theorem d_M_holds_247 : decode b_M_holds 247 = .ok (.iload_n 1, 1) := by decide +kernel
theorem d_M_holds_248 : decode b_M_holds 248 = .ok (.bipush 113, 2) := by decide +kernel
theorem d_M_holds_250 : decode b_M_holds 250 = .ok (.if_icmp .ne 27, 3) := by decide +kernel
theorem d_M_holds_253 : decode b_M_holds 253 = .ok (.aload_n 0, 1) := by decide +kernel
theorem d_M_holds_254 : decode b_M_holds 254 = .ok (.getfield 22, 3) := by decide +kernel
theorem d_M_holds_257 : decode b_M_holds 257 = .ok (.iconst 2, 1) := by decide +kernel
theorem d_M_holds_258 : decode b_M_holds 258 = .ok (.iaload, 1) := by decide +kernel
theorem d_M_holds_259 : decode b_M_holds 259 = .ok (.aload_n 0, 1) := by decide +kernel
theorem d_M_holds_260 : decode b_M_holds 260 = .ok (.getfield 22, 3) := by decide +kernel
theorem d_M_holds_263 : decode b_M_holds 263 = .ok (.bipush 106, 2) := by decide +kernel
theorem d_M_holds_265 : decode b_M_holds 265 = .ok (.iaload, 1) := by decide +kernel
theorem d_M_holds_266 : decode b_M_holds 266 = .ok (.if_icmp .ne 7, 3) := by decide +kernel
theorem d_M_holds_269 : decode b_M_holds 269 = .ok (.iconst 1, 1) := by decide +kernel
theorem d_M_holds_270 : decode b_M_holds 270 = .ok (.goto 28, 3) := by decide +kernel
theorem d_M_holds_273 : decode b_M_holds 273 = .ok (.iconst 0, 1) := by decide +kernel
theorem d_M_holds_274 : decode b_M_holds 274 = .ok (.goto 24, 3) := by decide +kernel
theorem d_M_holds_277 : decode b_M_holds 277 = .ok (.aload_n 0, 1) := by decide +kernel
theorem d_M_holds_278 : decode b_M_holds 278 = .ok (.getfield 22, 3) := by decide +kernel
theorem d_M_holds_281 : decode b_M_holds 281 = .ok (.iconst 3, 1) := by decide +kernel
theorem d_M_holds_282 : decode b_M_holds 282 = .ok (.iaload, 1) := by decide +kernel
theorem d_M_holds_283 : decode b_M_holds 283 = .ok (.aload_n 0, 1) := by decide +kernel
theorem d_M_holds_284 : decode b_M_holds 284 = .ok (.getfield 22, 3) := by decide +kernel
theorem d_M_holds_287 : decode b_M_holds 287 = .ok (.bipush 124, 2) := by decide +kernel
theorem d_M_holds_289 : decode b_M_holds 289 = .ok (.iaload, 1) := by decide +kernel
theorem d_M_holds_290 : decode b_M_holds 290 = .ok (.if_icmp .ne 7, 3) := by decide +kernel
theorem d_M_holds_293 : decode b_M_holds 293 = .ok (.iconst 1, 1) := by decide +kernel
theorem d_M_holds_294 : decode b_M_holds 294 = .ok (.goto 4, 3) := by decide +kernel
theorem d_M_holds_297 : decode b_M_holds 297 = .ok (.iconst 0, 1) := by decide +kernel
theorem d_M_holds_298 : decode b_M_holds 298 = .ok (.ireturn, 1) := by decide +kernel
theorem d_M_bit_0 : decode b_M_bit 0 = .ok (.aload_n 0, 1) := by decide +kernel
theorem d_M_bit_1 : decode b_M_bit 1 = .ok (.getfield 22, 3) := by decide +kernel
theorem d_M_bit_4 : decode b_M_bit 4 = .ok (.iload_n 1, 1) := by decide +kernel
theorem d_M_bit_5 : decode b_M_bit 5 = .ok (.iaload, 1) := by decide +kernel
theorem d_M_bit_6 : decode b_M_bit 6 = .ok (.ifCond .eq 13, 3) := by decide +kernel
theorem d_M_bit_9 : decode b_M_bit 9 = .ok (.aload_n 0, 1) := by decide +kernel
theorem d_M_bit_10 : decode b_M_bit 10 = .ok (.getfield 22, 3) := by decide +kernel
theorem d_M_bit_13 : decode b_M_bit 13 = .ok (.iload_n 1, 1) := by decide +kernel
theorem d_M_bit_14 : decode b_M_bit 14 = .ok (.iaload, 1) := by decide +kernel
theorem d_M_bit_15 : decode b_M_bit 15 = .ok (.iconst 1, 1) := by decide +kernel
theorem d_M_bit_16 : decode b_M_bit 16 = .ok (.if_icmp .ne 7, 3) := by decide +kernel
theorem d_M_bit_19 : decode b_M_bit 19 = .ok (.iconst 1, 1) := by decide +kernel
theorem d_M_bit_20 : decode b_M_bit 20 = .ok (.goto 4, 3) := by decide +kernel
theorem d_M_bit_23 : decode b_M_bit 23 = .ok (.iconst 0, 1) := by decide +kernel
theorem d_M_bit_24 : decode b_M_bit 24 = .ok (.ireturn, 1) := by decide +kernel
theorem d_M_sums_0 : decode b_M_sums 0 = .ok (.lconst 0, 1) := by decide +kernel
theorem d_M_sums_1 : decode b_M_sums 1 = .ok (.lstore_n 1, 1) := by decide +kernel
theorem d_M_sums_2 : decode b_M_sums 2 = .ok (.iconst 0, 1) := by decide +kernel
theorem d_M_sums_3 : decode b_M_sums 3 = .ok (.istore_n 3, 1) := by decide +kernel
theorem d_M_sums_4 : decode b_M_sums 4 = .ok (.iload_n 3, 1) := by decide +kernel
theorem d_M_sums_5 : decode b_M_sums 5 = .ok (.bipush 8, 2) := by decide +kernel
theorem d_M_sums_7 : decode b_M_sums 7 = .ok (.if_icmp .ge 27, 3) := by decide +kernel
theorem d_M_sums_10 : decode b_M_sums 10 = .ok (.lload_n 1, 1) := by decide +kernel
theorem d_M_sums_11 : decode b_M_sums 11 = .ok (.aload_n 0, 1) := by decide +kernel
theorem d_M_sums_12 : decode b_M_sums 12 = .ok (.getfield 22, 3) := by decide +kernel
theorem d_M_sums_15 : decode b_M_sums 15 = .ok (.bipush 27, 2) := by decide +kernel
theorem d_M_sums_17 : decode b_M_sums 17 = .ok (.iload_n 3, 1) := by decide +kernel
theorem d_M_sums_18 : decode b_M_sums 18 = .ok (.iadd, 1) := by decide +kernel
theorem d_M_sums_19 : decode b_M_sums 19 = .ok (.iaload, 1) := by decide +kernel
theorem d_M_sums_20 : decode b_M_sums 20 = .ok (.i2l, 1) := by decide +kernel
theorem d_M_sums_21 : decode b_M_sums 21 = .ok (.iconst 1, 1) := by decide +kernel
theorem d_M_sums_22 : decode b_M_sums 22 = .ok (.iload_n 3, 1) := by decide +kernel
theorem d_M_sums_23 : decode b_M_sums 23 = .ok (.ishl, 1) := by decide +kernel
theorem d_M_sums_24 : decode b_M_sums 24 = .ok (.i2l, 1) := by decide +kernel
theorem d_M_sums_25 : decode b_M_sums 25 = .ok (.lmul, 1) := by decide +kernel
theorem d_M_sums_26 : decode b_M_sums 26 = .ok (.ladd, 1) := by decide +kernel
theorem d_M_sums_27 : decode b_M_sums 27 = .ok (.lstore_n 1, 1) := by decide +kernel
theorem d_M_sums_28 : decode b_M_sums 28 = .ok (.iinc 3 1, 3) := by decide +kernel
theorem d_M_sums_31 : decode b_M_sums 31 = .ok (.goto (-27), 3) := by decide +kernel
theorem d_M_sums_34 : decode b_M_sums 34 = .ok (.lload_n 1, 1) := by decide +kernel
theorem d_M_sums_35 : decode b_M_sums 35 = .ok (.invokestatic 30, 3) := by decide +kernel
theorem d_M_sums_38 : decode b_M_sums 38 = .ok (.aload_n 0, 1) := by decide +kernel
theorem d_M_sums_39 : decode b_M_sums 39 = .ok (.getfield 22, 3) := by decide +kernel
theorem d_M_sums_42 : decode b_M_sums 42 = .ok (.bipush 9, 2) := by decide +kernel
theorem d_M_sums_44 : decode b_M_sums 44 = .ok (.iaload, 1) := by decide +kernel
theorem d_M_sums_45 : decode b_M_sums 45 = .ok (.if_icmp .ne 7, 3) := by decide +kernel
theorem d_M_sums_48 : decode b_M_sums 48 = .ok (.iconst 1, 1) := by decide +kernel
theorem d_M_sums_49 : decode b_M_sums 49 = .ok (.goto 4, 3) := by decide +kernel
theorem d_M_sums_52 : decode b_M_sums 52 = .ok (.iconst 0, 1) := by decide +kernel
theorem d_M_sums_53 : decode b_M_sums 53 = .ok (.ireturn, 1) := by decide +kernel
theorem d_M_nine_0 : decode b_M_nine 0 = .ok (.aload_n 0, 1) := by decide +kernel
theorem d_M_nine_1 : decode b_M_nine 1 = .ok (.getfield 22, 3) := by decide +kernel
theorem d_M_nine_4 : decode b_M_nine 4 = .ok (.bipush 35, 2) := by decide +kernel
theorem d_M_nine_6 : decode b_M_nine 6 = .ok (.bipush 9, 2) := by decide +kernel
theorem d_M_nine_8 : decode b_M_nine 8 = .ok (.iload_n 1, 1) := by decide +kernel
theorem d_M_nine_9 : decode b_M_nine 9 = .ok (.imul, 1) := by decide +kernel
theorem d_M_nine_10 : decode b_M_nine 10 = .ok (.iadd, 1) := by decide +kernel
theorem d_M_nine_11 : decode b_M_nine 11 = .ok (.iload_n 2, 1) := by decide +kernel
theorem d_M_nine_12 : decode b_M_nine 12 = .ok (.iadd, 1) := by decide +kernel
theorem d_M_nine_13 : decode b_M_nine 13 = .ok (.iaload, 1) := by decide +kernel
theorem d_M_nine_14 : decode b_M_nine 14 = .ok (.aload_n 0, 1) := by decide +kernel
theorem d_M_nine_15 : decode b_M_nine 15 = .ok (.iload_n 1, 1) := by decide +kernel
theorem d_M_nine_16 : decode b_M_nine 16 = .ok (.iload_n 2, 1) := by decide +kernel
theorem d_M_nine_17 : decode b_M_nine 17 = .ok (.invokevirtual 79, 3) := by decide +kernel
theorem d_M_nine_20 : decode b_M_nine 20 = .ok (.if_icmp .ne 7, 3) := by decide +kernel
theorem d_M_nine_23 : decode b_M_nine 23 = .ok (.iconst 1, 1) := by decide +kernel
theorem d_M_nine_24 : decode b_M_nine 24 = .ok (.goto 4, 3) := by decide +kernel
theorem d_M_nine_27 : decode b_M_nine 27 = .ok (.iconst 0, 1) := by decide +kernel
theorem d_M_nine_28 : decode b_M_nine 28 = .ok (.ireturn, 1) := by decide +kernel
theorem d_M_set_0 : decode b_M_set 0 = .ok (.iload_n 1, 1) := by decide +kernel
theorem d_M_set_1 : decode b_M_set 1 = .ok (.iconst 1, 1) := by decide +kernel
theorem d_M_set_2 : decode b_M_set 2 = .ok (.if_icmp .lt 18, 3) := by decide +kernel
theorem d_M_set_5 : decode b_M_set 5 = .ok (.iload_n 1, 1) := by decide +kernel
theorem d_M_set_6 : decode b_M_set 6 = .ok (.bipush 124, 2) := by decide +kernel
theorem d_M_set_8 : decode b_M_set 8 = .ok (.if_icmp .gt 12, 3) := by decide +kernel
theorem d_M_set_11 : decode b_M_set 11 = .ok (.iload_n 2, 1) := by decide +kernel
theorem d_M_set_12 : decode b_M_set 12 = .ok (.ldc 46, 2) := by decide +kernel
theorem d_M_set_14 : decode b_M_set 14 = .ok (.invokestatic 47, 3) := by decide +kernel
theorem d_M_set_17 : decode b_M_set 17 = .ok (.ifCond .eq 5, 3) := by decide +kernel
theorem d_M_set_20 : decode b_M_set 20 = .ok (.iconst 0, 1) := by decide +kernel
theorem d_M_set_21 : decode b_M_set 21 = .ok (.ireturn, 1) := by decide +kernel
theorem d_M_set_22 : decode b_M_set 22 = .ok (.aload_n 0, 1) := by decide +kernel
theorem d_M_set_23 : decode b_M_set 23 = .ok (.getfield 22, 3) := by decide +kernel
theorem d_M_set_26 : decode b_M_set 26 = .ok (.iload_n 1, 1) := by decide +kernel
theorem d_M_set_27 : decode b_M_set 27 = .ok (.iload_n 2, 1) := by decide +kernel
theorem d_M_set_28 : decode b_M_set 28 = .ok (.iastore, 1) := by decide +kernel
theorem d_M_set_29 : decode b_M_set 29 = .ok (.iconst 1, 1) := by decide +kernel
theorem d_M_set_30 : decode b_M_set 30 = .ok (.ireturn, 1) := by decide +kernel
theorem d_M_get_0 : decode b_M_get 0 = .ok (.iload_n 1, 1) := by decide +kernel
theorem d_M_get_1 : decode b_M_get 1 = .ok (.bipush 124, 2) := by decide +kernel
theorem d_M_get_3 : decode b_M_get 3 = .ok (.invokestatic 47, 3) := by decide +kernel
theorem d_M_get_6 : decode b_M_get 6 = .ok (.ifCond .eq 7, 3) := by decide +kernel
theorem d_M_get_9 : decode b_M_get 9 = .ok (.iconst (-1), 1) := by decide +kernel
theorem d_M_get_10 : decode b_M_get 10 = .ok (.goto 9, 3) := by decide +kernel
theorem d_M_get_13 : decode b_M_get 13 = .ok (.aload_n 0, 1) := by decide +kernel
theorem d_M_get_14 : decode b_M_get 14 = .ok (.getfield 22, 3) := by decide +kernel
theorem d_M_get_17 : decode b_M_get 17 = .ok (.iload_n 1, 1) := by decide +kernel
theorem d_M_get_18 : decode b_M_get 18 = .ok (.iaload, 1) := by decide +kernel
theorem d_M_get_19 : decode b_M_get 19 = .ok (.ireturn, 1) := by decide +kernel
theorem d_M_submit_0 : decode b_M_submit 0 = .ok (.aload_n 0, 1) := by decide +kernel
theorem d_M_submit_1 : decode b_M_submit 1 = .ok (.invokevirtual 106, 3) := by decide +kernel
theorem d_M_submit_4 : decode b_M_submit 4 = .ok (.iconst (-1), 1) := by decide +kernel
theorem d_M_submit_5 : decode b_M_submit 5 = .ok (.if_icmp .eq 6, 3) := by decide +kernel
theorem d_M_submit_8 : decode b_M_submit 8 = .ok (.bipush (-3), 2) := by decide +kernel
theorem d_M_submit_10 : decode b_M_submit 10 = .ok (.ireturn, 1) := by decide +kernel
theorem d_M_submit_11 : decode b_M_submit 11 = .ok (.aload_n 0, 1) := by decide +kernel
theorem d_M_submit_12 : decode b_M_submit 12 = .ok (.getfield 22, 3) := by decide +kernel
theorem d_M_submit_15 : decode b_M_submit 15 = .ok (.iconst 4, 1) := by decide +kernel
theorem d_M_submit_16 : decode b_M_submit 16 = .ok (.iaload, 1) := by decide +kernel
theorem d_M_submit_17 : decode b_M_submit 17 = .ok (.sipush 255, 3) := by decide +kernel
theorem d_M_submit_20 : decode b_M_submit 20 = .ok (.if_icmp .le 6, 3) := by decide +kernel
theorem d_M_submit_23 : decode b_M_submit 23 = .ok (.bipush (-4), 2) := by decide +kernel
theorem d_M_submit_25 : decode b_M_submit 25 = .ok (.ireturn, 1) := by decide +kernel
theorem d_M_submit_26 : decode b_M_submit 26 = .ok (.aload_n 0, 1) := by decide +kernel
theorem d_M_submit_27 : decode b_M_submit 27 = .ok (.aload_n 0, 1) := by decide +kernel
theorem d_M_submit_28 : decode b_M_submit 28 = .ok (.getfield 22, 3) := by decide +kernel
theorem d_M_submit_31 : decode b_M_submit 31 = .ok (.iconst 1, 1) := by decide +kernel
theorem d_M_submit_32 : decode b_M_submit 32 = .ok (.iaload, 1) := by decide +kernel
theorem d_M_submit_33 : decode b_M_submit 33 = .ok (.invokevirtual 116, 3) := by decide +kernel
theorem d_M_submit_36 : decode b_M_submit 36 = .ok (.ifCond .ne 6, 3) := by decide +kernel
theorem d_M_submit_39 : decode b_M_submit 39 = .ok (.bipush (-5), 2) := by decide +kernel
theorem d_M_submit_41 : decode b_M_submit 41 = .ok (.ireturn, 1) := by decide +kernel
theorem d_M_submit_42 : decode b_M_submit 42 = .ok (.aload_n 0, 1) := by decide +kernel
theorem d_M_submit_43 : decode b_M_submit 43 = .ok (.aload_n 0, 1) := by decide +kernel
theorem d_M_submit_44 : decode b_M_submit 44 = .ok (.getfield 22, 3) := by decide +kernel
theorem d_M_submit_47 : decode b_M_submit 47 = .ok (.iconst 2, 1) := by decide +kernel
theorem d_M_submit_48 : decode b_M_submit 48 = .ok (.iaload, 1) := by decide +kernel
theorem d_M_submit_49 : decode b_M_submit 49 = .ok (.invokevirtual 119, 3) := by decide +kernel
theorem d_M_submit_52 : decode b_M_submit 52 = .ok (.ifCond .eq 6, 3) := by decide +kernel
theorem d_M_submit_55 : decode b_M_submit 55 = .ok (.bipush (-6), 2) := by decide +kernel
theorem d_M_submit_57 : decode b_M_submit 57 = .ok (.ireturn, 1) := by decide +kernel
theorem d_M_submit_58 : decode b_M_submit 58 = .ok (.aload_n 0, 1) := by decide +kernel
theorem d_M_submit_59 : decode b_M_submit 59 = .ok (.getfield 65, 3) := by decide +kernel
theorem d_M_submit_62 : decode b_M_submit 62 = .ok (.bipush 16, 2) := by decide +kernel
theorem d_M_submit_64 : decode b_M_submit 64 = .ok (.if_icmp .ne 6, 3) := by decide +kernel
theorem d_M_submit_67 : decode b_M_submit 67 = .ok (.bipush (-7), 2) := by decide +kernel
theorem d_M_submit_69 : decode b_M_submit 69 = .ok (.ireturn, 1) := by decide +kernel
theorem d_M_submit_70 : decode b_M_submit 70 = .ok (.aload_n 0, 1) := by decide +kernel
theorem d_M_submit_71 : decode b_M_submit 71 = .ok (.getfield 19, 3) := by decide +kernel
theorem d_M_submit_74 : decode b_M_submit 74 = .ok (.aload_n 0, 1) := by decide +kernel
theorem d_M_submit_75 : decode b_M_submit 75 = .ok (.getfield 58, 3) := by decide +kernel
theorem d_M_submit_78 : decode b_M_submit 78 = .ok (.aload_n 0, 1) := by decide +kernel
theorem d_M_submit_79 : decode b_M_submit 79 = .ok (.getfield 22, 3) := by decide +kernel
theorem d_M_submit_82 : decode b_M_submit 82 = .ok (.iconst 2, 1) := by decide +kernel
theorem d_M_submit_83 : decode b_M_submit 83 = .ok (.iaload, 1) := by decide +kernel
theorem d_M_submit_84 : decode b_M_submit 84 = .ok (.iastore, 1) := by decide +kernel
theorem d_M_submit_85 : decode b_M_submit 85 = .ok (.aload_n 0, 1) := by decide +kernel
theorem d_M_submit_86 : decode b_M_submit 86 = .ok (.dup, 1) := by decide +kernel
theorem d_M_submit_87 : decode b_M_submit 87 = .ok (.getfield 58, 3) := by decide +kernel
theorem d_M_submit_90 : decode b_M_submit 90 = .ok (.iconst 1, 1) := by decide +kernel
theorem d_M_submit_91 : decode b_M_submit 91 = .ok (.iadd, 1) := by decide +kernel
theorem d_M_submit_92 : decode b_M_submit 92 = .ok (.putfield 58, 3) := by decide +kernel
theorem d_M_submit_95 : decode b_M_submit 95 = .ok (.aload_n 0, 1) := by decide +kernel
theorem d_M_submit_96 : decode b_M_submit 96 = .ok (.aload_n 0, 1) := by decide +kernel
theorem d_M_submit_97 : decode b_M_submit 97 = .ok (.getfield 68, 3) := by decide +kernel
theorem d_M_submit_100 : decode b_M_submit 100 = .ok (.aload_n 0, 1) := by decide +kernel
theorem d_M_submit_101 : decode b_M_submit 101 = .ok (.getfield 22, 3) := by decide +kernel
theorem d_M_submit_104 : decode b_M_submit 104 = .ok (.iconst 4, 1) := by decide +kernel
theorem d_M_submit_105 : decode b_M_submit 105 = .ok (.iaload, 1) := by decide +kernel
theorem d_M_submit_106 : decode b_M_submit 106 = .ok (.isub, 1) := by decide +kernel
theorem d_M_submit_107 : decode b_M_submit 107 = .ok (.putfield 68, 3) := by decide +kernel
theorem d_M_submit_110 : decode b_M_submit 110 = .ok (.aload_n 0, 1) := by decide +kernel
theorem d_M_submit_111 : decode b_M_submit 111 = .ok (.aload_n 0, 1) := by decide +kernel
theorem d_M_submit_112 : decode b_M_submit 112 = .ok (.getfield 22, 3) := by decide +kernel
theorem d_M_submit_115 : decode b_M_submit 115 = .ok (.bipush 8, 2) := by decide +kernel
theorem d_M_submit_117 : decode b_M_submit 117 = .ok (.iaload, 1) := by decide +kernel
theorem d_M_submit_118 : decode b_M_submit 118 = .ok (.aload_n 0, 1) := by decide +kernel
theorem d_M_submit_119 : decode b_M_submit 119 = .ok (.getfield 22, 3) := by decide +kernel
theorem d_M_submit_122 : decode b_M_submit 122 = .ok (.bipush 9, 2) := by decide +kernel
theorem d_M_submit_124 : decode b_M_submit 124 = .ok (.iaload, 1) := by decide +kernel
theorem d_M_submit_125 : decode b_M_submit 125 = .ok (.aload_n 0, 1) := by decide +kernel
theorem d_M_submit_126 : decode b_M_submit 126 = .ok (.getfield 22, 3) := by decide +kernel
theorem d_M_submit_129 : decode b_M_submit 129 = .ok (.bipush 10, 2) := by decide +kernel
theorem d_M_submit_131 : decode b_M_submit 131 = .ok (.iaload, 1) := by decide +kernel
theorem d_M_submit_132 : decode b_M_submit 132 = .ok (.invokevirtual 71, 3) := by decide +kernel
theorem d_M_submit_135 : decode b_M_submit 135 = .ok (.ireturn, 1) := by decide +kernel
theorem d_M_isRecent_0 : decode b_M_isRecent 0 = .ok (.iconst 0, 1) := by decide +kernel
theorem d_M_isRecent_1 : decode b_M_isRecent 1 = .ok (.istore_n 2, 1) := by decide +kernel
theorem d_M_isRecent_2 : decode b_M_isRecent 2 = .ok (.iload_n 2, 1) := by decide +kernel
theorem d_M_isRecent_3 : decode b_M_isRecent 3 = .ok (.iconst 4, 1) := by decide +kernel
theorem d_M_isRecent_4 : decode b_M_isRecent 4 = .ok (.if_icmp .ge 20, 3) := by decide +kernel
theorem d_M_isRecent_7 : decode b_M_isRecent 7 = .ok (.aload_n 0, 1) := by decide +kernel
theorem d_M_isRecent_8 : decode b_M_isRecent 8 = .ok (.iload_n 2, 1) := by decide +kernel
theorem d_M_isRecent_9 : decode b_M_isRecent 9 = .ok (.invokevirtual 113, 3) := by decide +kernel
theorem d_M_isRecent_12 : decode b_M_isRecent 12 = .ok (.iload_n 1, 1) := by decide +kernel
theorem d_M_isRecent_13 : decode b_M_isRecent 13 = .ok (.if_icmp .ne 5, 3) := by decide +kernel
theorem d_M_isRecent_16 : decode b_M_isRecent 16 = .ok (.iconst 1, 1) := by decide +kernel
theorem d_M_isRecent_17 : decode b_M_isRecent 17 = .ok (.ireturn, 1) := by decide +kernel
theorem d_M_isRecent_18 : decode b_M_isRecent 18 = .ok (.iinc 2 1, 3) := by decide +kernel
theorem d_M_isRecent_21 : decode b_M_isRecent 21 = .ok (.goto (-19), 3) := by decide +kernel
theorem d_M_isRecent_24 : decode b_M_isRecent 24 = .ok (.iconst 0, 1) := by decide +kernel
theorem d_M_isRecent_25 : decode b_M_isRecent 25 = .ok (.ireturn, 1) := by decide +kernel
theorem d_M_root_0 : decode b_M_root 0 = .ok (.iload_n 1, 1) := by decide +kernel
theorem d_M_root_1 : decode b_M_root 1 = .ok (.iconst 3, 1) := by decide +kernel
theorem d_M_root_2 : decode b_M_root 2 = .ok (.invokestatic 47, 3) := by decide +kernel
theorem d_M_root_5 : decode b_M_root 5 = .ok (.ifCond .ne 11, 3) := by decide +kernel
theorem d_M_root_8 : decode b_M_root 8 = .ok (.iload_n 1, 1) := by decide +kernel
theorem d_M_root_9 : decode b_M_root 9 = .ok (.aload_n 0, 1) := by decide +kernel
theorem d_M_root_10 : decode b_M_root 10 = .ok (.getfield 65, 3) := by decide +kernel
theorem d_M_root_13 : decode b_M_root 13 = .ok (.if_icmp .le 7, 3) := by decide +kernel
theorem d_M_root_16 : decode b_M_root 16 = .ok (.iconst (-1), 1) := by decide +kernel
theorem d_M_root_17 : decode b_M_root 17 = .ok (.goto 15, 3) := by decide +kernel
theorem d_M_root_20 : decode b_M_root 20 = .ok (.aload_n 0, 1) := by decide +kernel
theorem d_M_root_21 : decode b_M_root 21 = .ok (.aload_n 0, 1) := by decide +kernel
theorem d_M_root_22 : decode b_M_root 22 = .ok (.getfield 65, 3) := by decide +kernel
theorem d_M_root_25 : decode b_M_root 25 = .ok (.iload_n 1, 1) := by decide +kernel
theorem d_M_root_26 : decode b_M_root 26 = .ok (.isub, 1) := by decide +kernel
theorem d_M_root_27 : decode b_M_root 27 = .ok (.iconst 4, 1) := by decide +kernel
theorem d_M_root_28 : decode b_M_root 28 = .ok (.iconst 0, 1) := by decide +kernel
theorem d_M_root_29 : decode b_M_root 29 = .ok (.invokevirtual 103, 3) := by decide +kernel
theorem d_M_root_32 : decode b_M_root 32 = .ok (.ireturn, 1) := by decide +kernel
theorem d_M_isUsed_0 : decode b_M_isUsed 0 = .ok (.iconst 0, 1) := by decide +kernel
theorem d_M_isUsed_1 : decode b_M_isUsed 1 = .ok (.istore_n 2, 1) := by decide +kernel
theorem d_M_isUsed_2 : decode b_M_isUsed 2 = .ok (.iload_n 2, 1) := by decide +kernel
theorem d_M_isUsed_3 : decode b_M_isUsed 3 = .ok (.aload_n 0, 1) := by decide +kernel
theorem d_M_isUsed_4 : decode b_M_isUsed 4 = .ok (.getfield 58, 3) := by decide +kernel
theorem d_M_isUsed_7 : decode b_M_isUsed 7 = .ok (.if_icmp .ge 21, 3) := by decide +kernel
theorem d_M_isUsed_10 : decode b_M_isUsed 10 = .ok (.aload_n 0, 1) := by decide +kernel
theorem d_M_isUsed_11 : decode b_M_isUsed 11 = .ok (.getfield 19, 3) := by decide +kernel
theorem d_M_isUsed_14 : decode b_M_isUsed 14 = .ok (.iload_n 2, 1) := by decide +kernel
theorem d_M_isUsed_15 : decode b_M_isUsed 15 = .ok (.iaload, 1) := by decide +kernel
theorem d_M_isUsed_16 : decode b_M_isUsed 16 = .ok (.iload_n 1, 1) := by decide +kernel
theorem d_M_isUsed_17 : decode b_M_isUsed 17 = .ok (.if_icmp .ne 5, 3) := by decide +kernel
theorem d_M_isUsed_20 : decode b_M_isUsed 20 = .ok (.iconst 1, 1) := by decide +kernel
theorem d_M_isUsed_21 : decode b_M_isUsed 21 = .ok (.ireturn, 1) := by decide +kernel
theorem d_M_isUsed_22 : decode b_M_isUsed 22 = .ok (.iinc 2 1, 3) := by decide +kernel
theorem d_M_isUsed_25 : decode b_M_isUsed 25 = .ok (.goto (-23), 3) := by decide +kernel
theorem d_M_isUsed_28 : decode b_M_isUsed 28 = .ok (.iconst 0, 1) := by decide +kernel
theorem d_M_isUsed_29 : decode b_M_isUsed 29 = .ok (.ireturn, 1) := by decide +kernel
theorem d_M_notes_0 : decode b_M_notes 0 = .ok (.aload_n 0, 1) := by decide +kernel
theorem d_M_notes_1 : decode b_M_notes 1 = .ok (.getfield 65, 3) := by decide +kernel
theorem d_M_notes_4 : decode b_M_notes 4 = .ok (.ireturn, 1) := by decide +kernel
theorem d_M_commitment_0 : decode b_M_commitment 0 = .ok (.iload_n 1, 1) := by decide +kernel
theorem d_M_commitment_1 : decode b_M_commitment 1 = .ok (.ifCond .lt 11, 3) := by decide +kernel
theorem d_M_commitment_4 : decode b_M_commitment 4 = .ok (.iload_n 1, 1) := by decide +kernel
theorem d_M_commitment_5 : decode b_M_commitment 5 = .ok (.aload_n 0, 1) := by decide +kernel
theorem d_M_commitment_6 : decode b_M_commitment 6 = .ok (.getfield 65, 3) := by decide +kernel
theorem d_M_commitment_9 : decode b_M_commitment 9 = .ok (.if_icmp .lt 8, 3) := by decide +kernel
theorem d_M_commitment_12 : decode b_M_commitment 12 = .ok (.bipush (-2), 2) := by decide +kernel
theorem d_M_commitment_14 : decode b_M_commitment 14 = .ok (.goto 8, 3) := by decide +kernel
theorem d_M_commitment_17 : decode b_M_commitment 17 = .ok (.aload_n 0, 1) := by decide +kernel
theorem d_M_commitment_18 : decode b_M_commitment 18 = .ok (.iload_n 1, 1) := by decide +kernel
theorem d_M_commitment_19 : decode b_M_commitment 19 = .ok (.invokevirtual 62, 3) := by decide +kernel
theorem d_M_commitment_22 : decode b_M_commitment 22 = .ok (.ireturn, 1) := by decide +kernel
theorem d_M_owner_0 : decode b_M_owner 0 = .ok (.iload_n 1, 1) := by decide +kernel
theorem d_M_owner_1 : decode b_M_owner 1 = .ok (.ifCond .lt 11, 3) := by decide +kernel
theorem d_M_owner_4 : decode b_M_owner 4 = .ok (.iload_n 1, 1) := by decide +kernel
theorem d_M_owner_5 : decode b_M_owner 5 = .ok (.aload_n 0, 1) := by decide +kernel
theorem d_M_owner_6 : decode b_M_owner 6 = .ok (.getfield 65, 3) := by decide +kernel
theorem d_M_owner_9 : decode b_M_owner 9 = .ok (.if_icmp .lt 8, 3) := by decide +kernel
theorem d_M_owner_12 : decode b_M_owner 12 = .ok (.bipush (-2), 2) := by decide +kernel
theorem d_M_owner_14 : decode b_M_owner 14 = .ok (.goto 8, 3) := by decide +kernel
theorem d_M_owner_17 : decode b_M_owner 17 = .ok (.aload_n 0, 1) := by decide +kernel
theorem d_M_owner_18 : decode b_M_owner 18 = .ok (.iload_n 1, 1) := by decide +kernel
theorem d_M_owner_19 : decode b_M_owner 19 = .ok (.invokevirtual 96, 3) := by decide +kernel
theorem d_M_owner_22 : decode b_M_owner 22 = .ok (.ireturn, 1) := by decide +kernel
theorem d_M_value_0 : decode b_M_value 0 = .ok (.iload_n 1, 1) := by decide +kernel
theorem d_M_value_1 : decode b_M_value 1 = .ok (.ifCond .lt 11, 3) := by decide +kernel
theorem d_M_value_4 : decode b_M_value 4 = .ok (.iload_n 1, 1) := by decide +kernel
theorem d_M_value_5 : decode b_M_value 5 = .ok (.aload_n 0, 1) := by decide +kernel
theorem d_M_value_6 : decode b_M_value 6 = .ok (.getfield 65, 3) := by decide +kernel
theorem d_M_value_9 : decode b_M_value 9 = .ok (.if_icmp .lt 8, 3) := by decide +kernel
theorem d_M_value_12 : decode b_M_value 12 = .ok (.bipush (-2), 2) := by decide +kernel
theorem d_M_value_14 : decode b_M_value 14 = .ok (.goto 9, 3) := by decide +kernel
theorem d_M_value_17 : decode b_M_value 17 = .ok (.aload_n 0, 1) := by decide +kernel
theorem d_M_value_18 : decode b_M_value 18 = .ok (.getfield 13, 3) := by decide +kernel
theorem d_M_value_21 : decode b_M_value 21 = .ok (.iload_n 1, 1) := by decide +kernel
theorem d_M_value_22 : decode b_M_value 22 = .ok (.iaload, 1) := by decide +kernel
theorem d_M_value_23 : decode b_M_value 23 = .ok (.ireturn, 1) := by decide +kernel
theorem d_M_unspent_0 : decode b_M_unspent 0 = .ok (.iload_n 1, 1) := by decide +kernel
theorem d_M_unspent_1 : decode b_M_unspent 1 = .ok (.ifCond .lt 11, 3) := by decide +kernel
theorem d_M_unspent_4 : decode b_M_unspent 4 = .ok (.iload_n 1, 1) := by decide +kernel
theorem d_M_unspent_5 : decode b_M_unspent 5 = .ok (.aload_n 0, 1) := by decide +kernel
theorem d_M_unspent_6 : decode b_M_unspent 6 = .ok (.getfield 65, 3) := by decide +kernel
theorem d_M_unspent_9 : decode b_M_unspent 9 = .ok (.if_icmp .lt 5, 3) := by decide +kernel
theorem d_M_unspent_12 : decode b_M_unspent 12 = .ok (.iconst 0, 1) := by decide +kernel
theorem d_M_unspent_13 : decode b_M_unspent 13 = .ok (.ireturn, 1) := by decide +kernel
theorem d_M_unspent_14 : decode b_M_unspent 14 = .ok (.aload_n 0, 1) := by decide +kernel
theorem d_M_unspent_15 : decode b_M_unspent 15 = .ok (.iload_n 1, 1) := by decide +kernel
theorem d_M_unspent_16 : decode b_M_unspent 16 = .ok (.invokevirtual 96, 3) := by decide +kernel
theorem d_M_unspent_19 : decode b_M_unspent 19 = .ok (.istore_n 2, 1) := by decide +kernel
theorem d_M_unspent_20 : decode b_M_unspent 20 = .ok (.aload_n 0, 1) := by decide +kernel
theorem d_M_unspent_21 : decode b_M_unspent 21 = .ok (.iload_n 1, 1) := by decide +kernel
theorem d_M_unspent_22 : decode b_M_unspent 22 = .ok (.invokevirtual 62, 3) := by decide +kernel
theorem d_M_unspent_25 : decode b_M_unspent 25 = .ok (.istore_n 3, 1) := by decide +kernel
theorem d_M_unspent_26 : decode b_M_unspent 26 = .ok (.iload_n 2, 1) := by decide +kernel
theorem d_M_unspent_27 : decode b_M_unspent 27 = .ok (.iconst (-1), 1) := by decide +kernel
theorem d_M_unspent_28 : decode b_M_unspent 28 = .ok (.if_icmp .eq 22, 3) := by decide +kernel
theorem d_M_unspent_31 : decode b_M_unspent 31 = .ok (.aload_n 0, 1) := by decide +kernel
theorem d_M_unspent_32 : decode b_M_unspent 32 = .ok (.bipush 100, 2) := by decide +kernel
theorem d_M_unspent_34 : decode b_M_unspent 34 = .ok (.iload_n 2, 1) := by decide +kernel
theorem d_M_unspent_35 : decode b_M_unspent 35 = .ok (.iadd, 1) := by decide +kernel
theorem d_M_unspent_36 : decode b_M_unspent 36 = .ok (.iload_n 3, 1) := by decide +kernel
theorem d_M_unspent_37 : decode b_M_unspent 37 = .ok (.invokestatic 51, 3) := by decide +kernel
theorem d_M_unspent_40 : decode b_M_unspent 40 = .ok (.invokevirtual 119, 3) := by decide +kernel
theorem d_M_unspent_43 : decode b_M_unspent 43 = .ok (.ifCond .ne 7, 3) := by decide +kernel
theorem d_M_unspent_46 : decode b_M_unspent 46 = .ok (.iconst 1, 1) := by decide +kernel
theorem d_M_unspent_47 : decode b_M_unspent 47 = .ok (.goto 4, 3) := by decide +kernel
theorem d_M_unspent_50 : decode b_M_unspent 50 = .ok (.iconst 0, 1) := by decide +kernel
theorem d_M_unspent_51 : decode b_M_unspent 51 = .ok (.ireturn, 1) := by decide +kernel
theorem d_M_balance_0 : decode b_M_balance 0 = .ok (.iload_n 1, 1) := by decide +kernel
theorem d_M_balance_1 : decode b_M_balance 1 = .ok (.iconst 3, 1) := by decide +kernel
theorem d_M_balance_2 : decode b_M_balance 2 = .ok (.invokestatic 47, 3) := by decide +kernel
theorem d_M_balance_5 : decode b_M_balance 5 = .ok (.ifCond .eq 6, 3) := by decide +kernel
theorem d_M_balance_8 : decode b_M_balance 8 = .ok (.bipush (-2), 2) := by decide +kernel
theorem d_M_balance_10 : decode b_M_balance 10 = .ok (.ireturn, 1) := by decide +kernel
theorem d_M_balance_11 : decode b_M_balance 11 = .ok (.iconst 0, 1) := by decide +kernel
theorem d_M_balance_12 : decode b_M_balance 12 = .ok (.istore_n 2, 1) := by decide +kernel
theorem d_M_balance_13 : decode b_M_balance 13 = .ok (.iconst 0, 1) := by decide +kernel
theorem d_M_balance_14 : decode b_M_balance 14 = .ok (.istore_n 3, 1) := by decide +kernel
theorem d_M_balance_15 : decode b_M_balance 15 = .ok (.iload_n 3, 1) := by decide +kernel
theorem d_M_balance_16 : decode b_M_balance 16 = .ok (.aload_n 0, 1) := by decide +kernel
theorem d_M_balance_17 : decode b_M_balance 17 = .ok (.getfield 65, 3) := by decide +kernel
theorem d_M_balance_20 : decode b_M_balance 20 = .ok (.if_icmp .ge 35, 3) := by decide +kernel
theorem d_M_balance_23 : decode b_M_balance 23 = .ok (.aload_n 0, 1) := by decide +kernel
theorem d_M_balance_24 : decode b_M_balance 24 = .ok (.iload_n 3, 1) := by decide +kernel
theorem d_M_balance_25 : decode b_M_balance 25 = .ok (.invokevirtual 96, 3) := by decide +kernel
theorem d_M_balance_28 : decode b_M_balance 28 = .ok (.iload_n 1, 1) := by decide +kernel
theorem d_M_balance_29 : decode b_M_balance 29 = .ok (.if_icmp .ne 20, 3) := by decide +kernel
theorem d_M_balance_32 : decode b_M_balance 32 = .ok (.aload_n 0, 1) := by decide +kernel
theorem d_M_balance_33 : decode b_M_balance 33 = .ok (.iload_n 3, 1) := by decide +kernel
theorem d_M_balance_34 : decode b_M_balance 34 = .ok (.invokevirtual 122, 3) := by decide +kernel
theorem d_M_balance_37 : decode b_M_balance 37 = .ok (.ifCond .eq 12, 3) := by decide +kernel
theorem d_M_balance_40 : decode b_M_balance 40 = .ok (.iload_n 2, 1) := by decide +kernel
theorem d_M_balance_41 : decode b_M_balance 41 = .ok (.aload_n 0, 1) := by decide +kernel
theorem d_M_balance_42 : decode b_M_balance 42 = .ok (.getfield 13, 3) := by decide +kernel
theorem d_M_balance_45 : decode b_M_balance 45 = .ok (.iload_n 3, 1) := by decide +kernel
theorem d_M_balance_46 : decode b_M_balance 46 = .ok (.iaload, 1) := by decide +kernel
theorem d_M_balance_47 : decode b_M_balance 47 = .ok (.iadd, 1) := by decide +kernel
theorem d_M_balance_48 : decode b_M_balance 48 = .ok (.istore_n 2, 1) := by decide +kernel
theorem d_M_balance_49 : decode b_M_balance 49 = .ok (.iinc 3 1, 3) := by decide +kernel
theorem d_M_balance_52 : decode b_M_balance 52 = .ok (.goto (-37), 3) := by decide +kernel
theorem d_M_balance_55 : decode b_M_balance 55 = .ok (.iload_n 2, 1) := by decide +kernel
theorem d_M_balance_56 : decode b_M_balance 56 = .ok (.ireturn, 1) := by decide +kernel
theorem d_M_node_0 : decode b_M_node 0 = .ok (.iload_n 1, 1) := by decide +kernel
theorem d_M_node_1 : decode b_M_node 1 = .ok (.iconst 4, 1) := by decide +kernel
theorem d_M_node_2 : decode b_M_node 2 = .ok (.invokestatic 47, 3) := by decide +kernel
theorem d_M_node_5 : decode b_M_node 5 = .ok (.ifCond .ne 16, 3) := by decide +kernel
theorem d_M_node_8 : decode b_M_node 8 = .ok (.iload_n 2, 1) := by decide +kernel
theorem d_M_node_9 : decode b_M_node 9 = .ok (.bipush 16, 2) := by decide +kernel
theorem d_M_node_11 : decode b_M_node 11 = .ok (.iload_n 1, 1) := by decide +kernel
theorem d_M_node_12 : decode b_M_node 12 = .ok (.ishr, 1) := by decide +kernel
theorem d_M_node_13 : decode b_M_node 13 = .ok (.iconst 1, 1) := by decide +kernel
theorem d_M_node_14 : decode b_M_node 14 = .ok (.isub, 1) := by decide +kernel
theorem d_M_node_15 : decode b_M_node 15 = .ok (.invokestatic 47, 3) := by decide +kernel
theorem d_M_node_18 : decode b_M_node 18 = .ok (.ifCond .eq 7, 3) := by decide +kernel
theorem d_M_node_21 : decode b_M_node 21 = .ok (.iconst (-1), 1) := by decide +kernel
theorem d_M_node_22 : decode b_M_node 22 = .ok (.goto 13, 3) := by decide +kernel
theorem d_M_node_25 : decode b_M_node 25 = .ok (.aload_n 0, 1) := by decide +kernel
theorem d_M_node_26 : decode b_M_node 26 = .ok (.aload_n 0, 1) := by decide +kernel
theorem d_M_node_27 : decode b_M_node 27 = .ok (.getfield 65, 3) := by decide +kernel
theorem d_M_node_30 : decode b_M_node 30 = .ok (.iload_n 1, 1) := by decide +kernel
theorem d_M_node_31 : decode b_M_node 31 = .ok (.iload_n 2, 1) := by decide +kernel
theorem d_M_node_32 : decode b_M_node 32 = .ok (.invokevirtual 103, 3) := by decide +kernel
theorem d_M_node_35 : decode b_M_node 35 = .ok (.ireturn, 1) := by decide +kernel
theorem d_M_used_0 : decode b_M_used 0 = .ok (.aload_n 0, 1) := by decide +kernel
theorem d_M_used_1 : decode b_M_used 1 = .ok (.getfield 58, 3) := by decide +kernel
theorem d_M_used_4 : decode b_M_used 4 = .ok (.ireturn, 1) := by decide +kernel
theorem d_M_mark_0 : decode b_M_mark 0 = .ok (.iconst 0, 1) := by decide +kernel
theorem d_M_mark_1 : decode b_M_mark 1 = .ok (.istore_n 2, 1) := by decide +kernel
theorem d_M_mark_2 : decode b_M_mark 2 = .ok (.iload_n 2, 1) := by decide +kernel
theorem d_M_mark_3 : decode b_M_mark 3 = .ok (.aload_n 0, 1) := by decide +kernel
theorem d_M_mark_4 : decode b_M_mark 4 = .ok (.getfield 58, 3) := by decide +kernel
theorem d_M_mark_7 : decode b_M_mark 7 = .ok (.if_icmp .ge 65, 3) := by decide +kernel
theorem d_M_mark_10 : decode b_M_mark 10 = .ok (.iconst 0, 1) := by decide +kernel
theorem d_M_mark_11 : decode b_M_mark 11 = .ok (.istore_n 3, 1) := by decide +kernel
theorem d_M_mark_12 : decode b_M_mark 12 = .ok (.iconst 0, 1) := by decide +kernel
theorem d_M_mark_13 : decode b_M_mark 13 = .ok (.istore 4, 2) := by decide +kernel
theorem d_M_mark_15 : decode b_M_mark 15 = .ok (.iload 4, 2) := by decide +kernel
theorem d_M_mark_17 : decode b_M_mark 17 = .ok (.aload_n 0, 1) := by decide +kernel
theorem d_M_mark_18 : decode b_M_mark 18 = .ok (.getfield 58, 3) := by decide +kernel
theorem d_M_mark_21 : decode b_M_mark 21 = .ok (.if_icmp .ge 33, 3) := by decide +kernel
theorem d_M_mark_24 : decode b_M_mark 24 = .ok (.aload_n 0, 1) := by decide +kernel
theorem d_M_mark_25 : decode b_M_mark 25 = .ok (.getfield 19, 3) := by decide +kernel
theorem d_M_mark_28 : decode b_M_mark 28 = .ok (.iload 4, 2) := by decide +kernel
theorem d_M_mark_30 : decode b_M_mark 30 = .ok (.iaload, 1) := by decide +kernel
theorem d_M_mark_31 : decode b_M_mark 31 = .ok (.aload_n 0, 1) := by decide +kernel
theorem d_M_mark_32 : decode b_M_mark 32 = .ok (.getfield 19, 3) := by decide +kernel
theorem d_M_mark_35 : decode b_M_mark 35 = .ok (.iload_n 2, 1) := by decide +kernel
theorem d_M_mark_36 : decode b_M_mark 36 = .ok (.iaload, 1) := by decide +kernel
theorem d_M_mark_37 : decode b_M_mark 37 = .ok (.if_icmp .ge 9, 3) := by decide +kernel
theorem d_M_mark_40 : decode b_M_mark 40 = .ok (.iload_n 3, 1) := by decide +kernel
theorem d_M_mark_41 : decode b_M_mark 41 = .ok (.iconst 1, 1) := by decide +kernel
theorem d_M_mark_42 : decode b_M_mark 42 = .ok (.iadd, 1) := by decide +kernel
theorem d_M_mark_43 : decode b_M_mark 43 = .ok (.goto 4, 3) := by decide +kernel
theorem d_M_mark_46 : decode b_M_mark 46 = .ok (.iload_n 3, 1) := by decide +kernel
theorem d_M_mark_47 : decode b_M_mark 47 = .ok (.istore_n 3, 1) := by decide +kernel
theorem d_M_mark_48 : decode b_M_mark 48 = .ok (.iinc 4 1, 3) := by decide +kernel
theorem d_M_mark_51 : decode b_M_mark 51 = .ok (.goto (-36), 3) := by decide +kernel
theorem d_M_mark_54 : decode b_M_mark 54 = .ok (.iload_n 3, 1) := by decide +kernel
theorem d_M_mark_55 : decode b_M_mark 55 = .ok (.iload_n 1, 1) := by decide +kernel
theorem d_M_mark_56 : decode b_M_mark 56 = .ok (.if_icmp .ne 10, 3) := by decide +kernel
theorem d_M_mark_59 : decode b_M_mark 59 = .ok (.aload_n 0, 1) := by decide +kernel
theorem d_M_mark_60 : decode b_M_mark 60 = .ok (.getfield 19, 3) := by decide +kernel
theorem d_M_mark_63 : decode b_M_mark 63 = .ok (.iload_n 2, 1) := by decide +kernel
theorem d_M_mark_64 : decode b_M_mark 64 = .ok (.iaload, 1) := by decide +kernel
theorem d_M_mark_65 : decode b_M_mark 65 = .ok (.ireturn, 1) := by decide +kernel
theorem d_M_mark_66 : decode b_M_mark 66 = .ok (.iinc 2 1, 3) := by decide +kernel
theorem d_M_mark_69 : decode b_M_mark 69 = .ok (.goto (-67), 3) := by decide +kernel
theorem d_M_mark_72 : decode b_M_mark 72 = .ok (.iconst (-1), 1) := by decide +kernel
theorem d_M_mark_73 : decode b_M_mark 73 = .ok (.ireturn, 1) := by decide +kernel
theorem d_M_pool_0 : decode b_M_pool 0 = .ok (.aload_n 0, 1) := by decide +kernel
theorem d_M_pool_1 : decode b_M_pool 1 = .ok (.getfield 68, 3) := by decide +kernel
theorem d_M_pool_4 : decode b_M_pool 4 = .ok (.ireturn, 1) := by decide +kernel
end
section
theorem d_P_init_0 : decode b_P_init 0 = .ok (.aload_n 0, 1) := by decide +kernel
theorem d_P_init_1 : decode b_P_init 1 = .ok (.invokespecial 1, 3) := by decide +kernel
theorem d_P_init_4 : decode b_P_init 4 = .ok (.aload_n 0, 1) := by decide +kernel
theorem d_P_init_5 : decode b_P_init 5 = .ok (.iconst 4, 1) := by decide +kernel
theorem d_P_init_6 : decode b_P_init 6 = .ok (.newarray .int, 2) := by decide +kernel
theorem d_P_init_8 : decode b_P_init 8 = .ok (.putfield 9, 3) := by decide +kernel
theorem d_P_init_11 : decode b_P_init 11 = .ok (.aload_n 0, 1) := by decide +kernel
theorem d_P_init_12 : decode b_P_init 12 = .ok (.bipush 16, 2) := by decide +kernel
theorem d_P_init_14 : decode b_P_init 14 = .ok (.newarray .int, 2) := by decide +kernel
theorem d_P_init_16 : decode b_P_init 16 = .ok (.putfield 13, 3) := by decide +kernel
theorem d_P_init_19 : decode b_P_init 19 = .ok (.aload_n 0, 1) := by decide +kernel
theorem d_P_init_20 : decode b_P_init 20 = .ok (.bipush 16, 2) := by decide +kernel
theorem d_P_init_22 : decode b_P_init 22 = .ok (.newarray .int, 2) := by decide +kernel
theorem d_P_init_24 : decode b_P_init 24 = .ok (.putfield 16, 3) := by decide +kernel
theorem d_P_init_27 : decode b_P_init 27 = .ok (.aload_n 0, 1) := by decide +kernel
theorem d_P_init_28 : decode b_P_init 28 = .ok (.bipush 16, 2) := by decide +kernel
theorem d_P_init_30 : decode b_P_init 30 = .ok (.newarray .int, 2) := by decide +kernel
theorem d_P_init_32 : decode b_P_init 32 = .ok (.putfield 19, 3) := by decide +kernel
theorem d_P_init_35 : decode b_P_init 35 = .ok (.aload_n 0, 1) := by decide +kernel
theorem d_P_init_36 : decode b_P_init 36 = .ok (.new 22, 3) := by decide +kernel
theorem d_P_init_39 : decode b_P_init 39 = .ok (.dup, 1) := by decide +kernel
theorem d_P_init_40 : decode b_P_init 40 = .ok (.invokespecial 24, 3) := by decide +kernel
theorem d_P_init_43 : decode b_P_init 43 = .ok (.putfield 25, 3) := by decide +kernel
theorem d_P_init_46 : decode b_P_init 46 = .ok (.aload_n 0, 1) := by decide +kernel
theorem d_P_init_47 : decode b_P_init 47 = .ok (.new 29, 3) := by decide +kernel
theorem d_P_init_50 : decode b_P_init 50 = .ok (.dup, 1) := by decide +kernel
theorem d_P_init_51 : decode b_P_init 51 = .ok (.invokespecial 31, 3) := by decide +kernel
theorem d_P_init_54 : decode b_P_init 54 = .ok (.putfield 32, 3) := by decide +kernel
theorem d_P_init_57 : decode b_P_init 57 = .ok (.aload_n 0, 1) := by decide +kernel
theorem d_P_init_58 : decode b_P_init 58 = .ok (.new 36, 3) := by decide +kernel
theorem d_P_init_61 : decode b_P_init 61 = .ok (.dup, 1) := by decide +kernel
theorem d_P_init_62 : decode b_P_init 62 = .ok (.invokespecial 38, 3) := by decide +kernel
theorem d_P_init_65 : decode b_P_init 65 = .ok (.putfield 39, 3) := by decide +kernel
theorem d_P_init_68 : decode b_P_init 68 = .ok (.aload_n 0, 1) := by decide +kernel
theorem d_P_init_69 : decode b_P_init 69 = .ok (.iconst 0, 1) := by decide +kernel
theorem d_P_init_70 : decode b_P_init 70 = .ok (.putfield 43, 3) := by decide +kernel
theorem d_P_init_73 : decode b_P_init 73 = .ok (.iconst 0, 1) := by decide +kernel
theorem d_P_init_74 : decode b_P_init 74 = .ok (.istore_n 1, 1) := by decide +kernel
theorem d_P_init_75 : decode b_P_init 75 = .ok (.iload_n 1, 1) := by decide +kernel
theorem d_P_init_76 : decode b_P_init 76 = .ok (.iconst 4, 1) := by decide +kernel
theorem d_P_init_77 : decode b_P_init 77 = .ok (.if_icmp .ge 23, 3) := by decide +kernel
theorem d_P_init_80 : decode b_P_init 80 = .ok (.aload_n 0, 1) := by decide +kernel
theorem d_P_init_81 : decode b_P_init 81 = .ok (.getfield 9, 3) := by decide +kernel
theorem d_P_init_84 : decode b_P_init 84 = .ok (.iload_n 1, 1) := by decide +kernel
theorem d_P_init_85 : decode b_P_init 85 = .ok (.iload_n 1, 1) := by decide +kernel
theorem d_P_init_86 : decode b_P_init 86 = .ok (.invokestatic 47, 3) := by decide +kernel
theorem d_P_init_89 : decode b_P_init 89 = .ok (.iconst 0, 1) := by decide +kernel
theorem d_P_init_90 : decode b_P_init 90 = .ok (.invokestatic 51, 3) := by decide +kernel
theorem d_P_init_93 : decode b_P_init 93 = .ok (.iastore, 1) := by decide +kernel
theorem d_P_init_94 : decode b_P_init 94 = .ok (.iinc 1 1, 3) := by decide +kernel
theorem d_P_init_97 : decode b_P_init 97 = .ok (.goto (-22), 3) := by decide +kernel
theorem d_P_init_100 : decode b_P_init 100 = .ok (.return_, 1) := by decide +kernel
theorem d_P_hashOf_0 : decode b_P_hashOf 0 = .ok (.iload_n 0, 1) := by decide +kernel
theorem d_P_hashOf_1 : decode b_P_hashOf 1 = .ok (.istore_n 2, 1) := by decide +kernel
theorem d_P_hashOf_2 : decode b_P_hashOf 2 = .ok (.iconst 0, 1) := by decide +kernel
theorem d_P_hashOf_3 : decode b_P_hashOf 3 = .ok (.istore_n 3, 1) := by decide +kernel
theorem d_P_hashOf_4 : decode b_P_hashOf 4 = .ok (.iload_n 3, 1) := by decide +kernel
theorem d_P_hashOf_5 : decode b_P_hashOf 5 = .ok (.getstatic 136, 3) := by decide +kernel
theorem d_P_hashOf_8 : decode b_P_hashOf 8 = .ok (.arraylength, 1) := by decide +kernel
theorem d_P_hashOf_9 : decode b_P_hashOf 9 = .ok (.if_icmp .ge 37, 3) := by decide +kernel
theorem d_P_hashOf_12 : decode b_P_hashOf 12 = .ok (.iload_n 2, 1) := by decide +kernel
theorem d_P_hashOf_13 : decode b_P_hashOf 13 = .ok (.iload_n 1, 1) := by decide +kernel
theorem d_P_hashOf_14 : decode b_P_hashOf 14 = .ok (.invokestatic 139, 3) := by decide +kernel
theorem d_P_hashOf_17 : decode b_P_hashOf 17 = .ok (.getstatic 136, 3) := by decide +kernel
theorem d_P_hashOf_20 : decode b_P_hashOf 20 = .ok (.iload_n 3, 1) := by decide +kernel
theorem d_P_hashOf_21 : decode b_P_hashOf 21 = .ok (.iaload, 1) := by decide +kernel
theorem d_P_hashOf_22 : decode b_P_hashOf 22 = .ok (.invokestatic 139, 3) := by decide +kernel
theorem d_P_hashOf_25 : decode b_P_hashOf 25 = .ok (.istore 4, 2) := by decide +kernel
theorem d_P_hashOf_27 : decode b_P_hashOf 27 = .ok (.iload 4, 2) := by decide +kernel
theorem d_P_hashOf_29 : decode b_P_hashOf 29 = .ok (.iload 4, 2) := by decide +kernel
theorem d_P_hashOf_31 : decode b_P_hashOf 31 = .ok (.invokestatic 142, 3) := by decide +kernel
theorem d_P_hashOf_34 : decode b_P_hashOf 34 = .ok (.iload 4, 2) := by decide +kernel
theorem d_P_hashOf_36 : decode b_P_hashOf 36 = .ok (.invokestatic 142, 3) := by decide +kernel
theorem d_P_hashOf_39 : decode b_P_hashOf 39 = .ok (.istore_n 2, 1) := by decide +kernel
theorem d_P_hashOf_40 : decode b_P_hashOf 40 = .ok (.iinc 3 1, 3) := by decide +kernel
theorem d_P_hashOf_43 : decode b_P_hashOf 43 = .ok (.goto (-39), 3) := by decide +kernel
theorem d_P_hashOf_46 : decode b_P_hashOf 46 = .ok (.iload_n 2, 1) := by decide +kernel
theorem d_P_hashOf_47 : decode b_P_hashOf 47 = .ok (.iload_n 0, 1) := by decide +kernel
theorem d_P_hashOf_48 : decode b_P_hashOf 48 = .ok (.invokestatic 139, 3) := by decide +kernel
theorem d_P_hashOf_51 : decode b_P_hashOf 51 = .ok (.iload_n 1, 1) := by decide +kernel
theorem d_P_hashOf_52 : decode b_P_hashOf 52 = .ok (.invokestatic 139, 3) := by decide +kernel
theorem d_P_hashOf_55 : decode b_P_hashOf 55 = .ok (.ireturn, 1) := by decide +kernel
theorem d_P_sum_0 : decode b_P_sum 0 = .ok (.iload_n 0, 1) := by decide +kernel
theorem d_P_sum_1 : decode b_P_sum 1 = .ok (.iload_n 1, 1) := by decide +kernel
theorem d_P_sum_2 : decode b_P_sum 2 = .ok (.iadd, 1) := by decide +kernel
theorem d_P_sum_3 : decode b_P_sum 3 = .ok (.ldc 133, 2) := by decide +kernel
theorem d_P_sum_5 : decode b_P_sum 5 = .ok (.irem, 1) := by decide +kernel
theorem d_P_sum_6 : decode b_P_sum 6 = .ok (.ireturn, 1) := by decide +kernel
theorem d_P_product_0 : decode b_P_product 0 = .ok (.iload_n 0, 1) := by decide +kernel
theorem d_P_product_1 : decode b_P_product 1 = .ok (.i2l, 1) := by decide +kernel
theorem d_P_product_2 : decode b_P_product 2 = .ok (.iload_n 1, 1) := by decide +kernel
theorem d_P_product_3 : decode b_P_product 3 = .ok (.i2l, 1) := by decide +kernel
theorem d_P_product_4 : decode b_P_product 4 = .ok (.lmul, 1) := by decide +kernel
theorem d_P_product_5 : decode b_P_product 5 = .ok (.ldc2_w 134, 3) := by decide +kernel
theorem d_P_product_8 : decode b_P_product 8 = .ok (.lrem, 1) := by decide +kernel
theorem d_P_product_9 : decode b_P_product 9 = .ok (.l2i, 1) := by decide +kernel
theorem d_P_product_10 : decode b_P_product 10 = .ok (.ireturn, 1) := by decide +kernel
theorem d_P_secretOf_0 : decode b_P_secretOf 0 = .ok (.bipush 100, 2) := by decide +kernel
theorem d_P_secretOf_2 : decode b_P_secretOf 2 = .ok (.iload_n 0, 1) := by decide +kernel
theorem d_P_secretOf_3 : decode b_P_secretOf 3 = .ok (.iadd, 1) := by decide +kernel
theorem d_P_secretOf_4 : decode b_P_secretOf 4 = .ok (.ireturn, 1) := by decide +kernel
theorem d_P_hash_0 : decode b_P_hash 0 = .ok (.iload_n 1, 1) := by decide +kernel
theorem d_P_hash_1 : decode b_P_hash 1 = .ok (.invokestatic 55, 3) := by decide +kernel
theorem d_P_hash_4 : decode b_P_hash 4 = .ok (.ifCond .eq 10, 3) := by decide +kernel
theorem d_P_hash_7 : decode b_P_hash 7 = .ok (.iload_n 2, 1) := by decide +kernel
theorem d_P_hash_8 : decode b_P_hash 8 = .ok (.invokestatic 55, 3) := by decide +kernel
theorem d_P_hash_11 : decode b_P_hash 11 = .ok (.ifCond .ne 5, 3) := by decide +kernel
theorem d_P_hash_14 : decode b_P_hash 14 = .ok (.iconst (-1), 1) := by decide +kernel
theorem d_P_hash_15 : decode b_P_hash 15 = .ok (.ireturn, 1) := by decide +kernel
theorem d_P_hash_16 : decode b_P_hash 16 = .ok (.iload_n 1, 1) := by decide +kernel
theorem d_P_hash_17 : decode b_P_hash 17 = .ok (.iload_n 2, 1) := by decide +kernel
theorem d_P_hash_18 : decode b_P_hash 18 = .ok (.invokestatic 51, 3) := by decide +kernel
theorem d_P_hash_21 : decode b_P_hash 21 = .ok (.ireturn, 1) := by decide +kernel
theorem d_P_isNumber_0 : decode b_P_isNumber 0 = .ok (.iload_n 0, 1) := by decide +kernel
theorem d_P_isNumber_1 : decode b_P_isNumber 1 = .ok (.ifCond .lt 13, 3) := by decide +kernel
theorem d_P_isNumber_4 : decode b_P_isNumber 4 = .ok (.iload_n 0, 1) := by decide +kernel
theorem d_P_isNumber_5 : decode b_P_isNumber 5 = .ok (.ldc 133, 2) := by decide +kernel
theorem d_P_isNumber_7 : decode b_P_isNumber 7 = .ok (.if_icmp .ge 7, 3) := by decide +kernel
theorem d_P_isNumber_10 : decode b_P_isNumber 10 = .ok (.iconst 1, 1) := by decide +kernel
theorem d_P_isNumber_11 : decode b_P_isNumber 11 = .ok (.goto 4, 3) := by decide +kernel
theorem d_P_isNumber_14 : decode b_P_isNumber 14 = .ok (.iconst 0, 1) := by decide +kernel
theorem d_P_isNumber_15 : decode b_P_isNumber 15 = .ok (.ireturn, 1) := by decide +kernel
theorem d_P_deposit_0 : decode b_P_deposit 0 = .ok (.iload_n 1, 1) := by decide +kernel
theorem d_P_deposit_1 : decode b_P_deposit 1 = .ok (.invokestatic 59, 3) := by decide +kernel
theorem d_P_deposit_4 : decode b_P_deposit 4 = .ok (.ifCond .ne 6, 3) := by decide +kernel
theorem d_P_deposit_7 : decode b_P_deposit 7 = .ok (.bipush (-2), 2) := by decide +kernel
theorem d_P_deposit_9 : decode b_P_deposit 9 = .ok (.ireturn, 1) := by decide +kernel
theorem d_P_deposit_10 : decode b_P_deposit 10 = .ok (.iload_n 2, 1) := by decide +kernel
theorem d_P_deposit_11 : decode b_P_deposit 11 = .ok (.invokestatic 62, 3) := by decide +kernel
theorem d_P_deposit_14 : decode b_P_deposit 14 = .ok (.ifCond .eq 10, 3) := by decide +kernel
theorem d_P_deposit_17 : decode b_P_deposit 17 = .ok (.iload_n 3, 1) := by decide +kernel
theorem d_P_deposit_18 : decode b_P_deposit 18 = .ok (.invokestatic 55, 3) := by decide +kernel
theorem d_P_deposit_21 : decode b_P_deposit 21 = .ok (.ifCond .ne 6, 3) := by decide +kernel
theorem d_P_deposit_24 : decode b_P_deposit 24 = .ok (.bipush (-3), 2) := by decide +kernel
theorem d_P_deposit_26 : decode b_P_deposit 26 = .ok (.ireturn, 1) := by decide +kernel
theorem d_P_deposit_27 : decode b_P_deposit 27 = .ok (.aload_n 0, 1) := by decide +kernel
theorem d_P_deposit_28 : decode b_P_deposit 28 = .ok (.getfield 25, 3) := by decide +kernel
theorem d_P_deposit_31 : decode b_P_deposit 31 = .ok (.invokevirtual 65, 3) := by decide +kernel
theorem d_P_deposit_34 : decode b_P_deposit 34 = .ok (.ifCond .eq 6, 3) := by decide +kernel
theorem d_P_deposit_37 : decode b_P_deposit 37 = .ok (.bipush (-7), 2) := by decide +kernel
theorem d_P_deposit_39 : decode b_P_deposit 39 = .ok (.ireturn, 1) := by decide +kernel
theorem d_P_deposit_40 : decode b_P_deposit 40 = .ok (.aload_n 0, 1) := by decide +kernel
theorem d_P_deposit_41 : decode b_P_deposit 41 = .ok (.dup, 1) := by decide +kernel
theorem d_P_deposit_42 : decode b_P_deposit 42 = .ok (.getfield 43, 3) := by decide +kernel
theorem d_P_deposit_45 : decode b_P_deposit 45 = .ok (.iload_n 2, 1) := by decide +kernel
theorem d_P_deposit_46 : decode b_P_deposit 46 = .ok (.iadd, 1) := by decide +kernel
theorem d_P_deposit_47 : decode b_P_deposit 47 = .ok (.putfield 43, 3) := by decide +kernel
theorem d_P_deposit_50 : decode b_P_deposit 50 = .ok (.aload_n 0, 1) := by decide +kernel
theorem d_P_deposit_51 : decode b_P_deposit 51 = .ok (.aload_n 0, 1) := by decide +kernel
theorem d_P_deposit_52 : decode b_P_deposit 52 = .ok (.getfield 9, 3) := by decide +kernel
theorem d_P_deposit_55 : decode b_P_deposit 55 = .ok (.iload_n 1, 1) := by decide +kernel
theorem d_P_deposit_56 : decode b_P_deposit 56 = .ok (.iaload, 1) := by decide +kernel
theorem d_P_deposit_57 : decode b_P_deposit 57 = .ok (.iload_n 2, 1) := by decide +kernel
theorem d_P_deposit_58 : decode b_P_deposit 58 = .ok (.iload_n 3, 1) := by decide +kernel
theorem d_P_deposit_59 : decode b_P_deposit 59 = .ok (.invokevirtual 69, 3) := by decide +kernel
theorem d_P_deposit_62 : decode b_P_deposit 62 = .ok (.ireturn, 1) := by decide +kernel
theorem d_P_isAccount_0 : decode b_P_isAccount 0 = .ok (.iload_n 0, 1) := by decide +kernel
theorem d_P_isAccount_1 : decode b_P_isAccount 1 = .ok (.ifCond .lt 12, 3) := by decide +kernel
theorem d_P_isAccount_4 : decode b_P_isAccount 4 = .ok (.iload_n 0, 1) := by decide +kernel
theorem d_P_isAccount_5 : decode b_P_isAccount 5 = .ok (.iconst 4, 1) := by decide +kernel
theorem d_P_isAccount_6 : decode b_P_isAccount 6 = .ok (.if_icmp .ge 7, 3) := by decide +kernel
theorem d_P_isAccount_9 : decode b_P_isAccount 9 = .ok (.iconst 1, 1) := by decide +kernel
theorem d_P_isAccount_10 : decode b_P_isAccount 10 = .ok (.goto 4, 3) := by decide +kernel
theorem d_P_isAccount_13 : decode b_P_isAccount 13 = .ok (.iconst 0, 1) := by decide +kernel
theorem d_P_isAccount_14 : decode b_P_isAccount 14 = .ok (.ireturn, 1) := by decide +kernel
theorem d_P_isValue_0 : decode b_P_isValue 0 = .ok (.iload_n 0, 1) := by decide +kernel
theorem d_P_isValue_1 : decode b_P_isValue 1 = .ok (.ifCond .lt 14, 3) := by decide +kernel
theorem d_P_isValue_4 : decode b_P_isValue 4 = .ok (.iload_n 0, 1) := by decide +kernel
theorem d_P_isValue_5 : decode b_P_isValue 5 = .ok (.sipush 255, 3) := by decide +kernel
theorem d_P_isValue_8 : decode b_P_isValue 8 = .ok (.if_icmp .gt 7, 3) := by decide +kernel
theorem d_P_isValue_11 : decode b_P_isValue 11 = .ok (.iconst 1, 1) := by decide +kernel
theorem d_P_isValue_12 : decode b_P_isValue 12 = .ok (.goto 4, 3) := by decide +kernel
theorem d_P_isValue_15 : decode b_P_isValue 15 = .ok (.iconst 0, 1) := by decide +kernel
theorem d_P_isValue_16 : decode b_P_isValue 16 = .ok (.ireturn, 1) := by decide +kernel
theorem d_P_makeNote_0 : decode b_P_makeNote 0 = .ok (.aload_n 0, 1) := by decide +kernel
theorem d_P_makeNote_1 : decode b_P_makeNote 1 = .ok (.getfield 25, 3) := by decide +kernel
theorem d_P_makeNote_4 : decode b_P_makeNote 4 = .ok (.iload_n 1, 1) := by decide +kernel
theorem d_P_makeNote_5 : decode b_P_makeNote 5 = .ok (.iload_n 2, 1) := by decide +kernel
theorem d_P_makeNote_6 : decode b_P_makeNote 6 = .ok (.invokestatic 51, 3) := by decide +kernel
theorem d_P_makeNote_9 : decode b_P_makeNote 9 = .ok (.iload_n 3, 1) := by decide +kernel
theorem d_P_makeNote_10 : decode b_P_makeNote 10 = .ok (.invokestatic 51, 3) := by decide +kernel
theorem d_P_makeNote_13 : decode b_P_makeNote 13 = .ok (.invokevirtual 127, 3) := by decide +kernel
theorem d_P_makeNote_16 : decode b_P_makeNote 16 = .ok (.istore 4, 2) := by decide +kernel
theorem d_P_makeNote_18 : decode b_P_makeNote 18 = .ok (.aload_n 0, 1) := by decide +kernel
theorem d_P_makeNote_19 : decode b_P_makeNote 19 = .ok (.iload 4, 2) := by decide +kernel
theorem d_P_makeNote_21 : decode b_P_makeNote 21 = .ok (.invokevirtual 73, 3) := by decide +kernel
theorem d_P_makeNote_24 : decode b_P_makeNote 24 = .ok (.ifCond .eq 31, 3) := by decide +kernel
theorem d_P_makeNote_27 : decode b_P_makeNote 27 = .ok (.aload_n 0, 1) := by decide +kernel
theorem d_P_makeNote_28 : decode b_P_makeNote 28 = .ok (.getfield 13, 3) := by decide +kernel
theorem d_P_makeNote_31 : decode b_P_makeNote 31 = .ok (.iload 4, 2) := by decide +kernel
theorem d_P_makeNote_33 : decode b_P_makeNote 33 = .ok (.aload_n 0, 1) := by decide +kernel
theorem d_P_makeNote_34 : decode b_P_makeNote 34 = .ok (.iload_n 1, 1) := by decide +kernel
theorem d_P_makeNote_35 : decode b_P_makeNote 35 = .ok (.invokevirtual 130, 3) := by decide +kernel
theorem d_P_makeNote_38 : decode b_P_makeNote 38 = .ok (.iastore, 1) := by decide +kernel
theorem d_P_makeNote_39 : decode b_P_makeNote 39 = .ok (.aload_n 0, 1) := by decide +kernel
theorem d_P_makeNote_40 : decode b_P_makeNote 40 = .ok (.getfield 16, 3) := by decide +kernel
theorem d_P_makeNote_43 : decode b_P_makeNote 43 = .ok (.iload 4, 2) := by decide +kernel
theorem d_P_makeNote_45 : decode b_P_makeNote 45 = .ok (.iload_n 2, 1) := by decide +kernel
theorem d_P_makeNote_46 : decode b_P_makeNote 46 = .ok (.iastore, 1) := by decide +kernel
theorem d_P_makeNote_47 : decode b_P_makeNote 47 = .ok (.aload_n 0, 1) := by decide +kernel
theorem d_P_makeNote_48 : decode b_P_makeNote 48 = .ok (.getfield 19, 3) := by decide +kernel
theorem d_P_makeNote_51 : decode b_P_makeNote 51 = .ok (.iload 4, 2) := by decide +kernel
theorem d_P_makeNote_53 : decode b_P_makeNote 53 = .ok (.iload_n 3, 1) := by decide +kernel
theorem d_P_makeNote_54 : decode b_P_makeNote 54 = .ok (.iastore, 1) := by decide +kernel
theorem d_P_makeNote_55 : decode b_P_makeNote 55 = .ok (.iload 4, 2) := by decide +kernel
theorem d_P_makeNote_57 : decode b_P_makeNote 57 = .ok (.ireturn, 1) := by decide +kernel
theorem d_P_hasNote_0 : decode b_P_hasNote 0 = .ok (.iload_n 1, 1) := by decide +kernel
theorem d_P_hasNote_1 : decode b_P_hasNote 1 = .ok (.ifCond .lt 18, 3) := by decide +kernel
theorem d_P_hasNote_4 : decode b_P_hasNote 4 = .ok (.iload_n 1, 1) := by decide +kernel
theorem d_P_hasNote_5 : decode b_P_hasNote 5 = .ok (.aload_n 0, 1) := by decide +kernel
theorem d_P_hasNote_6 : decode b_P_hasNote 6 = .ok (.getfield 25, 3) := by decide +kernel
theorem d_P_hasNote_9 : decode b_P_hasNote 9 = .ok (.getfield 111, 3) := by decide +kernel
theorem d_P_hasNote_12 : decode b_P_hasNote 12 = .ok (.if_icmp .ge 7, 3) := by decide +kernel
theorem d_P_hasNote_15 : decode b_P_hasNote 15 = .ok (.iconst 1, 1) := by decide +kernel
theorem d_P_hasNote_16 : decode b_P_hasNote 16 = .ok (.goto 4, 3) := by decide +kernel
theorem d_P_hasNote_19 : decode b_P_hasNote 19 = .ok (.iconst 0, 1) := by decide +kernel
theorem d_P_hasNote_20 : decode b_P_hasNote 20 = .ok (.ireturn, 1) := by decide +kernel
theorem d_P_ownerOfKey_0 : decode b_P_ownerOfKey 0 = .ok (.iconst 0, 1) := by decide +kernel
theorem d_P_ownerOfKey_1 : decode b_P_ownerOfKey 1 = .ok (.istore_n 2, 1) := by decide +kernel
theorem d_P_ownerOfKey_2 : decode b_P_ownerOfKey 2 = .ok (.iload_n 2, 1) := by decide +kernel
theorem d_P_ownerOfKey_3 : decode b_P_ownerOfKey 3 = .ok (.iconst 4, 1) := by decide +kernel
theorem d_P_ownerOfKey_4 : decode b_P_ownerOfKey 4 = .ok (.if_icmp .ge 21, 3) := by decide +kernel
theorem d_P_ownerOfKey_7 : decode b_P_ownerOfKey 7 = .ok (.aload_n 0, 1) := by decide +kernel
theorem d_P_ownerOfKey_8 : decode b_P_ownerOfKey 8 = .ok (.getfield 9, 3) := by decide +kernel
theorem d_P_ownerOfKey_11 : decode b_P_ownerOfKey 11 = .ok (.iload_n 2, 1) := by decide +kernel
theorem d_P_ownerOfKey_12 : decode b_P_ownerOfKey 12 = .ok (.iaload, 1) := by decide +kernel
theorem d_P_ownerOfKey_13 : decode b_P_ownerOfKey 13 = .ok (.iload_n 1, 1) := by decide +kernel
theorem d_P_ownerOfKey_14 : decode b_P_ownerOfKey 14 = .ok (.if_icmp .ne 5, 3) := by decide +kernel
theorem d_P_ownerOfKey_17 : decode b_P_ownerOfKey 17 = .ok (.iload_n 2, 1) := by decide +kernel
theorem d_P_ownerOfKey_18 : decode b_P_ownerOfKey 18 = .ok (.ireturn, 1) := by decide +kernel
theorem d_P_ownerOfKey_19 : decode b_P_ownerOfKey 19 = .ok (.iinc 2 1, 3) := by decide +kernel
theorem d_P_ownerOfKey_22 : decode b_P_ownerOfKey 22 = .ok (.goto (-20), 3) := by decide +kernel
theorem d_P_ownerOfKey_25 : decode b_P_ownerOfKey 25 = .ok (.iconst (-1), 1) := by decide +kernel
theorem d_P_ownerOfKey_26 : decode b_P_ownerOfKey 26 = .ok (.ireturn, 1) := by decide +kernel
theorem d_P_load_0 : decode b_P_load 0 = .ok (.aload_n 0, 1) := by decide +kernel
theorem d_P_load_1 : decode b_P_load 1 = .ok (.iload_n 1, 1) := by decide +kernel
theorem d_P_load_2 : decode b_P_load 2 = .ok (.invokevirtual 73, 3) := by decide +kernel
theorem d_P_load_5 : decode b_P_load 5 = .ok (.ifCond .eq 10, 3) := by decide +kernel
theorem d_P_load_8 : decode b_P_load 8 = .ok (.iload_n 2, 1) := by decide +kernel
theorem d_P_load_9 : decode b_P_load 9 = .ok (.invokestatic 59, 3) := by decide +kernel
theorem d_P_load_12 : decode b_P_load 12 = .ok (.ifCond .ne 6, 3) := by decide +kernel
theorem d_P_load_15 : decode b_P_load 15 = .ok (.bipush (-2), 2) := by decide +kernel
theorem d_P_load_17 : decode b_P_load 17 = .ok (.ireturn, 1) := by decide +kernel
theorem d_P_load_18 : decode b_P_load 18 = .ok (.aload_n 0, 1) := by decide +kernel
theorem d_P_load_19 : decode b_P_load 19 = .ok (.getfield 13, 3) := by decide +kernel
theorem d_P_load_22 : decode b_P_load 22 = .ok (.iload_n 1, 1) := by decide +kernel
theorem d_P_load_23 : decode b_P_load 23 = .ok (.iaload, 1) := by decide +kernel
theorem d_P_load_24 : decode b_P_load 24 = .ok (.invokestatic 59, 3) := by decide +kernel
theorem d_P_load_27 : decode b_P_load 27 = .ok (.ifCond .ne 5, 3) := by decide +kernel
theorem d_P_load_30 : decode b_P_load 30 = .ok (.iconst (-1), 1) := by decide +kernel
theorem d_P_load_31 : decode b_P_load 31 = .ok (.ireturn, 1) := by decide +kernel
theorem d_P_load_32 : decode b_P_load 32 = .ok (.iload_n 3, 1) := by decide +kernel
theorem d_P_load_33 : decode b_P_load 33 = .ok (.invokestatic 62, 3) := by decide +kernel
theorem d_P_load_36 : decode b_P_load 36 = .ok (.ifCond .eq 19, 3) := by decide +kernel
theorem d_P_load_39 : decode b_P_load 39 = .ok (.iload 4, 2) := by decide +kernel
theorem d_P_load_41 : decode b_P_load 41 = .ok (.invokestatic 62, 3) := by decide +kernel
theorem d_P_load_44 : decode b_P_load 44 = .ok (.ifCond .eq 11, 3) := by decide +kernel
theorem d_P_load_47 : decode b_P_load 47 = .ok (.iload 5, 2) := by decide +kernel
theorem d_P_load_49 : decode b_P_load 49 = .ok (.invokestatic 55, 3) := by decide +kernel
theorem d_P_load_52 : decode b_P_load 52 = .ok (.ifCond .ne 6, 3) := by decide +kernel
theorem d_P_load_55 : decode b_P_load 55 = .ok (.bipush (-3), 2) := by decide +kernel
theorem d_P_load_57 : decode b_P_load 57 = .ok (.ireturn, 1) := by decide +kernel
theorem d_P_load_58 : decode b_P_load 58 = .ok (.aload_n 0, 1) := by decide +kernel
theorem d_P_load_59 : decode b_P_load 59 = .ok (.getfield 39, 3) := by decide +kernel
theorem d_P_load_62 : decode b_P_load 62 = .ok (.aload_n 0, 1) := by decide +kernel
theorem d_P_load_63 : decode b_P_load 63 = .ok (.getfield 13, 3) := by decide +kernel
theorem d_P_load_66 : decode b_P_load 66 = .ok (.iload_n 1, 1) := by decide +kernel
theorem d_P_load_67 : decode b_P_load 67 = .ok (.iaload, 1) := by decide +kernel
theorem d_P_load_68 : decode b_P_load 68 = .ok (.invokestatic 47, 3) := by decide +kernel
theorem d_P_load_71 : decode b_P_load 71 = .ok (.aload_n 0, 1) := by decide +kernel
theorem d_P_load_72 : decode b_P_load 72 = .ok (.getfield 16, 3) := by decide +kernel
theorem d_P_load_75 : decode b_P_load 75 = .ok (.iload_n 1, 1) := by decide +kernel
theorem d_P_load_76 : decode b_P_load 76 = .ok (.iaload, 1) := by decide +kernel
theorem d_P_load_77 : decode b_P_load 77 = .ok (.aload_n 0, 1) := by decide +kernel
theorem d_P_load_78 : decode b_P_load 78 = .ok (.getfield 19, 3) := by decide +kernel
theorem d_P_load_81 : decode b_P_load 81 = .ok (.iload_n 1, 1) := by decide +kernel
theorem d_P_load_82 : decode b_P_load 82 = .ok (.iaload, 1) := by decide +kernel
theorem d_P_load_83 : decode b_P_load 83 = .ok (.invokevirtual 76, 3) := by decide +kernel
theorem d_P_load_86 : decode b_P_load 86 = .ok (.aload_n 0, 1) := by decide +kernel
theorem d_P_load_87 : decode b_P_load 87 = .ok (.getfield 39, 3) := by decide +kernel
theorem d_P_load_90 : decode b_P_load 90 = .ok (.aload_n 0, 1) := by decide +kernel
theorem d_P_load_91 : decode b_P_load 91 = .ok (.getfield 9, 3) := by decide +kernel
theorem d_P_load_94 : decode b_P_load 94 = .ok (.iload_n 2, 1) := by decide +kernel
theorem d_P_load_95 : decode b_P_load 95 = .ok (.iaload, 1) := by decide +kernel
theorem d_P_load_96 : decode b_P_load 96 = .ok (.iload_n 3, 1) := by decide +kernel
theorem d_P_load_97 : decode b_P_load 97 = .ok (.iload 4, 2) := by decide +kernel
theorem d_P_load_99 : decode b_P_load 99 = .ok (.iload 5, 2) := by decide +kernel
theorem d_P_load_101 : decode b_P_load 101 = .ok (.invokevirtual 80, 3) := by decide +kernel
theorem d_P_load_104 : decode b_P_load 104 = .ok (.aload_n 0, 1) := by decide +kernel
theorem d_P_load_105 : decode b_P_load 105 = .ok (.getfield 39, 3) := by decide +kernel
theorem d_P_load_108 : decode b_P_load 108 = .ok (.iload_n 1, 1) := by decide +kernel
theorem d_P_load_109 : decode b_P_load 109 = .ok (.aload_n 0, 1) := by decide +kernel
theorem d_P_load_110 : decode b_P_load 110 = .ok (.getfield 25, 3) := by decide +kernel
theorem d_P_load_113 : decode b_P_load 113 = .ok (.invokevirtual 84, 3) := by decide +kernel
theorem d_P_load_116 : decode b_P_load 116 = .ok (.aload_n 0, 1) := by decide +kernel
theorem d_P_load_117 : decode b_P_load 117 = .ok (.getfield 39, 3) := by decide +kernel
theorem d_P_load_120 : decode b_P_load 120 = .ok (.invokevirtual 88, 3) := by decide +kernel
theorem d_P_load_123 : decode b_P_load 123 = .ok (.aload_n 0, 1) := by decide +kernel
theorem d_P_load_124 : decode b_P_load 124 = .ok (.getfield 39, 3) := by decide +kernel
theorem d_P_load_127 : decode b_P_load 127 = .ok (.invokevirtual 91, 3) := by decide +kernel
theorem d_P_load_130 : decode b_P_load 130 = .ok (.iconst (-1), 1) := by decide +kernel
theorem d_P_load_131 : decode b_P_load 131 = .ok (.if_icmp .ne 7, 3) := by decide +kernel
theorem d_P_load_134 : decode b_P_load 134 = .ok (.iconst 1, 1) := by decide +kernel
theorem d_P_load_135 : decode b_P_load 135 = .ok (.goto 4, 3) := by decide +kernel
theorem d_P_load_138 : decode b_P_load 138 = .ok (.iconst 0, 1) := by decide +kernel
theorem d_P_load_139 : decode b_P_load 139 = .ok (.ireturn, 1) := by decide +kernel
theorem d_P_difference_0 : decode b_P_difference 0 = .ok (.iload_n 0, 1) := by decide +kernel
theorem d_P_difference_1 : decode b_P_difference 1 = .ok (.iload_n 1, 1) := by decide +kernel
theorem d_P_difference_2 : decode b_P_difference 2 = .ok (.isub, 1) := by decide +kernel
theorem d_P_difference_3 : decode b_P_difference 3 = .ok (.ldc 133, 2) := by decide +kernel
theorem d_P_difference_5 : decode b_P_difference 5 = .ok (.iadd, 1) := by decide +kernel
theorem d_P_difference_6 : decode b_P_difference 6 = .ok (.ldc 133, 2) := by decide +kernel
theorem d_P_difference_8 : decode b_P_difference 8 = .ok (.irem, 1) := by decide +kernel
theorem d_P_difference_9 : decode b_P_difference 9 = .ok (.ireturn, 1) := by decide +kernel
theorem d_P_set_0 : decode b_P_set 0 = .ok (.iload_n 1, 1) := by decide +kernel
theorem d_P_set_1 : decode b_P_set 1 = .ok (.invokestatic 95, 3) := by decide +kernel
theorem d_P_set_4 : decode b_P_set 4 = .ok (.ifCond .eq 14, 3) := by decide +kernel
theorem d_P_set_7 : decode b_P_set 7 = .ok (.iload_n 1, 1) := by decide +kernel
theorem d_P_set_8 : decode b_P_set 8 = .ok (.ifCond .eq 10, 3) := by decide +kernel
theorem d_P_set_11 : decode b_P_set 11 = .ok (.iload_n 2, 1) := by decide +kernel
theorem d_P_set_12 : decode b_P_set 12 = .ok (.invokestatic 55, 3) := by decide +kernel
theorem d_P_set_15 : decode b_P_set 15 = .ok (.ifCond .ne 5, 3) := by decide +kernel
theorem d_P_set_18 : decode b_P_set 18 = .ok (.iconst 0, 1) := by decide +kernel
theorem d_P_set_19 : decode b_P_set 19 = .ok (.ireturn, 1) := by decide +kernel
theorem d_P_set_20 : decode b_P_set 20 = .ok (.aload_n 0, 1) := by decide +kernel
theorem d_P_set_21 : decode b_P_set 21 = .ok (.getfield 39, 3) := by decide +kernel
theorem d_P_set_24 : decode b_P_set 24 = .ok (.getfield 98, 3) := by decide +kernel
theorem d_P_set_27 : decode b_P_set 27 = .ok (.iload_n 1, 1) := by decide +kernel
theorem d_P_set_28 : decode b_P_set 28 = .ok (.iload_n 2, 1) := by decide +kernel
theorem d_P_set_29 : decode b_P_set 29 = .ok (.iastore, 1) := by decide +kernel
theorem d_P_set_30 : decode b_P_set 30 = .ok (.iconst 1, 1) := by decide +kernel
theorem d_P_set_31 : decode b_P_set 31 = .ok (.ireturn, 1) := by decide +kernel
theorem d_P_get_0 : decode b_P_get 0 = .ok (.iload_n 1, 1) := by decide +kernel
theorem d_P_get_1 : decode b_P_get 1 = .ok (.invokestatic 95, 3) := by decide +kernel
theorem d_P_get_4 : decode b_P_get 4 = .ok (.ifCond .eq 15, 3) := by decide +kernel
theorem d_P_get_7 : decode b_P_get 7 = .ok (.aload_n 0, 1) := by decide +kernel
theorem d_P_get_8 : decode b_P_get 8 = .ok (.getfield 39, 3) := by decide +kernel
theorem d_P_get_11 : decode b_P_get 11 = .ok (.getfield 98, 3) := by decide +kernel
theorem d_P_get_14 : decode b_P_get 14 = .ok (.iload_n 1, 1) := by decide +kernel
theorem d_P_get_15 : decode b_P_get 15 = .ok (.iaload, 1) := by decide +kernel
theorem d_P_get_16 : decode b_P_get 16 = .ok (.goto 4, 3) := by decide +kernel
theorem d_P_get_19 : decode b_P_get 19 = .ok (.iconst (-1), 1) := by decide +kernel
theorem d_P_get_20 : decode b_P_get 20 = .ok (.ireturn, 1) := by decide +kernel
theorem d_P_fault_0 : decode b_P_fault 0 = .ok (.aload_n 0, 1) := by decide +kernel
theorem d_P_fault_1 : decode b_P_fault 1 = .ok (.getfield 39, 3) := by decide +kernel
theorem d_P_fault_4 : decode b_P_fault 4 = .ok (.invokevirtual 91, 3) := by decide +kernel
theorem d_P_fault_7 : decode b_P_fault 7 = .ok (.ireturn, 1) := by decide +kernel
theorem d_P_submit_0 : decode b_P_submit 0 = .ok (.aload_n 0, 1) := by decide +kernel
theorem d_P_submit_1 : decode b_P_submit 1 = .ok (.getfield 39, 3) := by decide +kernel
theorem d_P_submit_4 : decode b_P_submit 4 = .ok (.getfield 98, 3) := by decide +kernel
theorem d_P_submit_7 : decode b_P_submit 7 = .ok (.astore_n 1, 1) := by decide +kernel
theorem d_P_submit_8 : decode b_P_submit 8 = .ok (.aload_n 0, 1) := by decide +kernel
theorem d_P_submit_9 : decode b_P_submit 9 = .ok (.getfield 39, 3) := by decide +kernel
theorem d_P_submit_12 : decode b_P_submit 12 = .ok (.invokevirtual 91, 3) := by decide +kernel
theorem d_P_submit_15 : decode b_P_submit 15 = .ok (.iconst (-1), 1) := by decide +kernel
theorem d_P_submit_16 : decode b_P_submit 16 = .ok (.if_icmp .eq 6, 3) := by decide +kernel
theorem d_P_submit_19 : decode b_P_submit 19 = .ok (.bipush (-3), 2) := by decide +kernel
theorem d_P_submit_21 : decode b_P_submit 21 = .ok (.ireturn, 1) := by decide +kernel
theorem d_P_submit_22 : decode b_P_submit 22 = .ok (.aload_n 1, 1) := by decide +kernel
theorem d_P_submit_23 : decode b_P_submit 23 = .ok (.iconst 4, 1) := by decide +kernel
theorem d_P_submit_24 : decode b_P_submit 24 = .ok (.iaload, 1) := by decide +kernel
theorem d_P_submit_25 : decode b_P_submit 25 = .ok (.sipush 255, 3) := by decide +kernel
theorem d_P_submit_28 : decode b_P_submit 28 = .ok (.if_icmp .le 6, 3) := by decide +kernel
theorem d_P_submit_31 : decode b_P_submit 31 = .ok (.bipush (-4), 2) := by decide +kernel
theorem d_P_submit_33 : decode b_P_submit 33 = .ok (.ireturn, 1) := by decide +kernel
theorem d_P_submit_34 : decode b_P_submit 34 = .ok (.aload_n 0, 1) := by decide +kernel
theorem d_P_submit_35 : decode b_P_submit 35 = .ok (.getfield 25, 3) := by decide +kernel
theorem d_P_submit_38 : decode b_P_submit 38 = .ok (.aload_n 1, 1) := by decide +kernel
theorem d_P_submit_39 : decode b_P_submit 39 = .ok (.iconst 1, 1) := by decide +kernel
theorem d_P_submit_40 : decode b_P_submit 40 = .ok (.iaload, 1) := by decide +kernel
theorem d_P_submit_41 : decode b_P_submit 41 = .ok (.invokevirtual 101, 3) := by decide +kernel
theorem d_P_submit_44 : decode b_P_submit 44 = .ok (.ifCond .ne 6, 3) := by decide +kernel
theorem d_P_submit_47 : decode b_P_submit 47 = .ok (.bipush (-5), 2) := by decide +kernel
theorem d_P_submit_49 : decode b_P_submit 49 = .ok (.ireturn, 1) := by decide +kernel
theorem d_P_submit_50 : decode b_P_submit 50 = .ok (.aload_n 0, 1) := by decide +kernel
theorem d_P_submit_51 : decode b_P_submit 51 = .ok (.getfield 32, 3) := by decide +kernel
theorem d_P_submit_54 : decode b_P_submit 54 = .ok (.aload_n 1, 1) := by decide +kernel
theorem d_P_submit_55 : decode b_P_submit 55 = .ok (.iconst 2, 1) := by decide +kernel
theorem d_P_submit_56 : decode b_P_submit 56 = .ok (.iaload, 1) := by decide +kernel
theorem d_P_submit_57 : decode b_P_submit 57 = .ok (.invokevirtual 104, 3) := by decide +kernel
theorem d_P_submit_60 : decode b_P_submit 60 = .ok (.ifCond .eq 6, 3) := by decide +kernel
theorem d_P_submit_63 : decode b_P_submit 63 = .ok (.bipush (-6), 2) := by decide +kernel
theorem d_P_submit_65 : decode b_P_submit 65 = .ok (.ireturn, 1) := by decide +kernel
theorem d_P_submit_66 : decode b_P_submit 66 = .ok (.aload_n 0, 1) := by decide +kernel
theorem d_P_submit_67 : decode b_P_submit 67 = .ok (.getfield 25, 3) := by decide +kernel
theorem d_P_submit_70 : decode b_P_submit 70 = .ok (.invokevirtual 65, 3) := by decide +kernel
theorem d_P_submit_73 : decode b_P_submit 73 = .ok (.ifCond .eq 6, 3) := by decide +kernel
theorem d_P_submit_76 : decode b_P_submit 76 = .ok (.bipush (-7), 2) := by decide +kernel
theorem d_P_submit_78 : decode b_P_submit 78 = .ok (.ireturn, 1) := by decide +kernel
theorem d_P_submit_79 : decode b_P_submit 79 = .ok (.aload_n 0, 1) := by decide +kernel
theorem d_P_submit_80 : decode b_P_submit 80 = .ok (.getfield 32, 3) := by decide +kernel
theorem d_P_submit_83 : decode b_P_submit 83 = .ok (.aload_n 1, 1) := by decide +kernel
theorem d_P_submit_84 : decode b_P_submit 84 = .ok (.iconst 2, 1) := by decide +kernel
theorem d_P_submit_85 : decode b_P_submit 85 = .ok (.iaload, 1) := by decide +kernel
theorem d_P_submit_86 : decode b_P_submit 86 = .ok (.invokevirtual 107, 3) := by decide +kernel
theorem d_P_submit_89 : decode b_P_submit 89 = .ok (.aload_n 0, 1) := by decide +kernel
theorem d_P_submit_90 : decode b_P_submit 90 = .ok (.dup, 1) := by decide +kernel
theorem d_P_submit_91 : decode b_P_submit 91 = .ok (.getfield 43, 3) := by decide +kernel
theorem d_P_submit_94 : decode b_P_submit 94 = .ok (.aload_n 1, 1) := by decide +kernel
theorem d_P_submit_95 : decode b_P_submit 95 = .ok (.iconst 4, 1) := by decide +kernel
theorem d_P_submit_96 : decode b_P_submit 96 = .ok (.iaload, 1) := by decide +kernel
theorem d_P_submit_97 : decode b_P_submit 97 = .ok (.isub, 1) := by decide +kernel
theorem d_P_submit_98 : decode b_P_submit 98 = .ok (.putfield 43, 3) := by decide +kernel
theorem d_P_submit_101 : decode b_P_submit 101 = .ok (.aload_n 0, 1) := by decide +kernel
theorem d_P_submit_102 : decode b_P_submit 102 = .ok (.aload_n 1, 1) := by decide +kernel
theorem d_P_submit_103 : decode b_P_submit 103 = .ok (.bipush 8, 2) := by decide +kernel
theorem d_P_submit_105 : decode b_P_submit 105 = .ok (.iaload, 1) := by decide +kernel
theorem d_P_submit_106 : decode b_P_submit 106 = .ok (.aload_n 1, 1) := by decide +kernel
theorem d_P_submit_107 : decode b_P_submit 107 = .ok (.bipush 9, 2) := by decide +kernel
theorem d_P_submit_109 : decode b_P_submit 109 = .ok (.iaload, 1) := by decide +kernel
theorem d_P_submit_110 : decode b_P_submit 110 = .ok (.aload_n 1, 1) := by decide +kernel
theorem d_P_submit_111 : decode b_P_submit 111 = .ok (.bipush 10, 2) := by decide +kernel
theorem d_P_submit_113 : decode b_P_submit 113 = .ok (.iaload, 1) := by decide +kernel
theorem d_P_submit_114 : decode b_P_submit 114 = .ok (.invokevirtual 69, 3) := by decide +kernel
theorem d_P_submit_117 : decode b_P_submit 117 = .ok (.ireturn, 1) := by decide +kernel
theorem d_P_notes_0 : decode b_P_notes 0 = .ok (.aload_n 0, 1) := by decide +kernel
theorem d_P_notes_1 : decode b_P_notes 1 = .ok (.getfield 25, 3) := by decide +kernel
theorem d_P_notes_4 : decode b_P_notes 4 = .ok (.getfield 111, 3) := by decide +kernel
theorem d_P_notes_7 : decode b_P_notes 7 = .ok (.ireturn, 1) := by decide +kernel
theorem d_P_commitment_0 : decode b_P_commitment 0 = .ok (.aload_n 0, 1) := by decide +kernel
theorem d_P_commitment_1 : decode b_P_commitment 1 = .ok (.iload_n 1, 1) := by decide +kernel
theorem d_P_commitment_2 : decode b_P_commitment 2 = .ok (.invokevirtual 73, 3) := by decide +kernel
theorem d_P_commitment_5 : decode b_P_commitment 5 = .ok (.ifCond .eq 15, 3) := by decide +kernel
theorem d_P_commitment_8 : decode b_P_commitment 8 = .ok (.aload_n 0, 1) := by decide +kernel
theorem d_P_commitment_9 : decode b_P_commitment 9 = .ok (.getfield 25, 3) := by decide +kernel
theorem d_P_commitment_12 : decode b_P_commitment 12 = .ok (.iconst 0, 1) := by decide +kernel
theorem d_P_commitment_13 : decode b_P_commitment 13 = .ok (.iload_n 1, 1) := by decide +kernel
theorem d_P_commitment_14 : decode b_P_commitment 14 = .ok (.invokevirtual 114, 3) := by decide +kernel
theorem d_P_commitment_17 : decode b_P_commitment 17 = .ok (.goto 5, 3) := by decide +kernel
theorem d_P_commitment_20 : decode b_P_commitment 20 = .ok (.bipush (-2), 2) := by decide +kernel
theorem d_P_commitment_22 : decode b_P_commitment 22 = .ok (.ireturn, 1) := by decide +kernel
theorem d_P_owner_0 : decode b_P_owner 0 = .ok (.aload_n 0, 1) := by decide +kernel
theorem d_P_owner_1 : decode b_P_owner 1 = .ok (.iload_n 1, 1) := by decide +kernel
theorem d_P_owner_2 : decode b_P_owner 2 = .ok (.invokevirtual 73, 3) := by decide +kernel
theorem d_P_owner_5 : decode b_P_owner 5 = .ok (.ifCond .eq 12, 3) := by decide +kernel
theorem d_P_owner_8 : decode b_P_owner 8 = .ok (.aload_n 0, 1) := by decide +kernel
theorem d_P_owner_9 : decode b_P_owner 9 = .ok (.getfield 13, 3) := by decide +kernel
theorem d_P_owner_12 : decode b_P_owner 12 = .ok (.iload_n 1, 1) := by decide +kernel
theorem d_P_owner_13 : decode b_P_owner 13 = .ok (.iaload, 1) := by decide +kernel
theorem d_P_owner_14 : decode b_P_owner 14 = .ok (.goto 5, 3) := by decide +kernel
theorem d_P_owner_17 : decode b_P_owner 17 = .ok (.bipush (-2), 2) := by decide +kernel
theorem d_P_owner_19 : decode b_P_owner 19 = .ok (.ireturn, 1) := by decide +kernel
theorem d_P_value_0 : decode b_P_value 0 = .ok (.aload_n 0, 1) := by decide +kernel
theorem d_P_value_1 : decode b_P_value 1 = .ok (.iload_n 1, 1) := by decide +kernel
theorem d_P_value_2 : decode b_P_value 2 = .ok (.invokevirtual 73, 3) := by decide +kernel
theorem d_P_value_5 : decode b_P_value 5 = .ok (.ifCond .eq 12, 3) := by decide +kernel
theorem d_P_value_8 : decode b_P_value 8 = .ok (.aload_n 0, 1) := by decide +kernel
theorem d_P_value_9 : decode b_P_value 9 = .ok (.getfield 16, 3) := by decide +kernel
theorem d_P_value_12 : decode b_P_value 12 = .ok (.iload_n 1, 1) := by decide +kernel
theorem d_P_value_13 : decode b_P_value 13 = .ok (.iaload, 1) := by decide +kernel
theorem d_P_value_14 : decode b_P_value 14 = .ok (.goto 5, 3) := by decide +kernel
theorem d_P_value_17 : decode b_P_value 17 = .ok (.bipush (-2), 2) := by decide +kernel
theorem d_P_value_19 : decode b_P_value 19 = .ok (.ireturn, 1) := by decide +kernel
theorem d_P_unspent_0 : decode b_P_unspent 0 = .ok (.aload_n 0, 1) := by decide +kernel
theorem d_P_unspent_1 : decode b_P_unspent 1 = .ok (.iload_n 1, 1) := by decide +kernel
theorem d_P_unspent_2 : decode b_P_unspent 2 = .ok (.invokevirtual 73, 3) := by decide +kernel
theorem d_P_unspent_5 : decode b_P_unspent 5 = .ok (.ifCond .eq 34, 3) := by decide +kernel
theorem d_P_unspent_8 : decode b_P_unspent 8 = .ok (.aload_n 0, 1) := by decide +kernel
theorem d_P_unspent_9 : decode b_P_unspent 9 = .ok (.getfield 13, 3) := by decide +kernel
theorem d_P_unspent_12 : decode b_P_unspent 12 = .ok (.iload_n 1, 1) := by decide +kernel
theorem d_P_unspent_13 : decode b_P_unspent 13 = .ok (.iaload, 1) := by decide +kernel
theorem d_P_unspent_14 : decode b_P_unspent 14 = .ok (.invokestatic 59, 3) := by decide +kernel
theorem d_P_unspent_17 : decode b_P_unspent 17 = .ok (.ifCond .eq 22, 3) := by decide +kernel
theorem d_P_unspent_20 : decode b_P_unspent 20 = .ok (.aload_n 0, 1) := by decide +kernel
theorem d_P_unspent_21 : decode b_P_unspent 21 = .ok (.getfield 32, 3) := by decide +kernel
theorem d_P_unspent_24 : decode b_P_unspent 24 = .ok (.aload_n 0, 1) := by decide +kernel
theorem d_P_unspent_25 : decode b_P_unspent 25 = .ok (.iload_n 1, 1) := by decide +kernel
theorem d_P_unspent_26 : decode b_P_unspent 26 = .ok (.invokevirtual 117, 3) := by decide +kernel
theorem d_P_unspent_29 : decode b_P_unspent 29 = .ok (.invokevirtual 104, 3) := by decide +kernel
theorem d_P_unspent_32 : decode b_P_unspent 32 = .ok (.ifCond .ne 7, 3) := by decide +kernel
theorem d_P_unspent_35 : decode b_P_unspent 35 = .ok (.iconst 1, 1) := by decide +kernel
theorem d_P_unspent_36 : decode b_P_unspent 36 = .ok (.goto 4, 3) := by decide +kernel
theorem d_P_unspent_39 : decode b_P_unspent 39 = .ok (.iconst 0, 1) := by decide +kernel
theorem d_P_unspent_40 : decode b_P_unspent 40 = .ok (.ireturn, 1) := by decide +kernel
theorem d_P_markOf_0 : decode b_P_markOf 0 = .ok (.aload_n 0, 1) := by decide +kernel
theorem d_P_markOf_1 : decode b_P_markOf 1 = .ok (.getfield 13, 3) := by decide +kernel
theorem d_P_markOf_4 : decode b_P_markOf 4 = .ok (.iload_n 1, 1) := by decide +kernel
theorem d_P_markOf_5 : decode b_P_markOf 5 = .ok (.iaload, 1) := by decide +kernel
theorem d_P_markOf_6 : decode b_P_markOf 6 = .ok (.invokestatic 47, 3) := by decide +kernel
theorem d_P_markOf_9 : decode b_P_markOf 9 = .ok (.aload_n 0, 1) := by decide +kernel
theorem d_P_markOf_10 : decode b_P_markOf 10 = .ok (.getfield 25, 3) := by decide +kernel
theorem d_P_markOf_13 : decode b_P_markOf 13 = .ok (.iconst 0, 1) := by decide +kernel
theorem d_P_markOf_14 : decode b_P_markOf 14 = .ok (.iload_n 1, 1) := by decide +kernel
theorem d_P_markOf_15 : decode b_P_markOf 15 = .ok (.invokevirtual 114, 3) := by decide +kernel
theorem d_P_markOf_18 : decode b_P_markOf 18 = .ok (.invokestatic 51, 3) := by decide +kernel
theorem d_P_markOf_21 : decode b_P_markOf 21 = .ok (.ireturn, 1) := by decide +kernel
theorem d_P_balance_0 : decode b_P_balance 0 = .ok (.iload_n 1, 1) := by decide +kernel
theorem d_P_balance_1 : decode b_P_balance 1 = .ok (.invokestatic 59, 3) := by decide +kernel
theorem d_P_balance_4 : decode b_P_balance 4 = .ok (.ifCond .ne 6, 3) := by decide +kernel
theorem d_P_balance_7 : decode b_P_balance 7 = .ok (.bipush (-2), 2) := by decide +kernel
theorem d_P_balance_9 : decode b_P_balance 9 = .ok (.ireturn, 1) := by decide +kernel
theorem d_P_balance_10 : decode b_P_balance 10 = .ok (.iconst 0, 1) := by decide +kernel
theorem d_P_balance_11 : decode b_P_balance 11 = .ok (.istore_n 2, 1) := by decide +kernel
theorem d_P_balance_12 : decode b_P_balance 12 = .ok (.iconst 0, 1) := by decide +kernel
theorem d_P_balance_13 : decode b_P_balance 13 = .ok (.istore_n 3, 1) := by decide +kernel
theorem d_P_balance_14 : decode b_P_balance 14 = .ok (.iload_n 3, 1) := by decide +kernel
theorem d_P_balance_15 : decode b_P_balance 15 = .ok (.bipush 16, 2) := by decide +kernel
theorem d_P_balance_17 : decode b_P_balance 17 = .ok (.if_icmp .ge 51, 3) := by decide +kernel
theorem d_P_balance_20 : decode b_P_balance 20 = .ok (.aload_n 0, 1) := by decide +kernel
theorem d_P_balance_21 : decode b_P_balance 21 = .ok (.iload_n 3, 1) := by decide +kernel
theorem d_P_balance_22 : decode b_P_balance 22 = .ok (.invokevirtual 73, 3) := by decide +kernel
theorem d_P_balance_25 : decode b_P_balance 25 = .ok (.ifCond .eq 37, 3) := by decide +kernel
theorem d_P_balance_28 : decode b_P_balance 28 = .ok (.aload_n 0, 1) := by decide +kernel
theorem d_P_balance_29 : decode b_P_balance 29 = .ok (.getfield 13, 3) := by decide +kernel
theorem d_P_balance_32 : decode b_P_balance 32 = .ok (.iload_n 3, 1) := by decide +kernel
theorem d_P_balance_33 : decode b_P_balance 33 = .ok (.iaload, 1) := by decide +kernel
theorem d_P_balance_34 : decode b_P_balance 34 = .ok (.iload_n 1, 1) := by decide +kernel
theorem d_P_balance_35 : decode b_P_balance 35 = .ok (.if_icmp .ne 27, 3) := by decide +kernel
theorem d_P_balance_38 : decode b_P_balance 38 = .ok (.aload_n 0, 1) := by decide +kernel
theorem d_P_balance_39 : decode b_P_balance 39 = .ok (.getfield 32, 3) := by decide +kernel
theorem d_P_balance_42 : decode b_P_balance 42 = .ok (.aload_n 0, 1) := by decide +kernel
theorem d_P_balance_43 : decode b_P_balance 43 = .ok (.iload_n 3, 1) := by decide +kernel
theorem d_P_balance_44 : decode b_P_balance 44 = .ok (.invokevirtual 117, 3) := by decide +kernel
theorem d_P_balance_47 : decode b_P_balance 47 = .ok (.invokevirtual 104, 3) := by decide +kernel
theorem d_P_balance_50 : decode b_P_balance 50 = .ok (.ifCond .ne 12, 3) := by decide +kernel
theorem d_P_balance_53 : decode b_P_balance 53 = .ok (.iload_n 2, 1) := by decide +kernel
theorem d_P_balance_54 : decode b_P_balance 54 = .ok (.aload_n 0, 1) := by decide +kernel
theorem d_P_balance_55 : decode b_P_balance 55 = .ok (.getfield 16, 3) := by decide +kernel
theorem d_P_balance_58 : decode b_P_balance 58 = .ok (.iload_n 3, 1) := by decide +kernel
theorem d_P_balance_59 : decode b_P_balance 59 = .ok (.iaload, 1) := by decide +kernel
theorem d_P_balance_60 : decode b_P_balance 60 = .ok (.iadd, 1) := by decide +kernel
theorem d_P_balance_61 : decode b_P_balance 61 = .ok (.istore_n 2, 1) := by decide +kernel
theorem d_P_balance_62 : decode b_P_balance 62 = .ok (.iinc 3 1, 3) := by decide +kernel
theorem d_P_balance_65 : decode b_P_balance 65 = .ok (.goto (-51), 3) := by decide +kernel
theorem d_P_balance_68 : decode b_P_balance 68 = .ok (.iload_n 2, 1) := by decide +kernel
theorem d_P_balance_69 : decode b_P_balance 69 = .ok (.ireturn, 1) := by decide +kernel
theorem d_P_root_0 : decode b_P_root 0 = .ok (.aload_n 0, 1) := by decide +kernel
theorem d_P_root_1 : decode b_P_root 1 = .ok (.getfield 25, 3) := by decide +kernel
theorem d_P_root_4 : decode b_P_root 4 = .ok (.iload_n 1, 1) := by decide +kernel
theorem d_P_root_5 : decode b_P_root 5 = .ok (.invokevirtual 120, 3) := by decide +kernel
theorem d_P_root_8 : decode b_P_root 8 = .ok (.ireturn, 1) := by decide +kernel
theorem d_P_node_0 : decode b_P_node 0 = .ok (.aload_n 0, 1) := by decide +kernel
theorem d_P_node_1 : decode b_P_node 1 = .ok (.getfield 25, 3) := by decide +kernel
theorem d_P_node_4 : decode b_P_node 4 = .ok (.iload_n 1, 1) := by decide +kernel
theorem d_P_node_5 : decode b_P_node 5 = .ok (.iload_n 2, 1) := by decide +kernel
theorem d_P_node_6 : decode b_P_node 6 = .ok (.invokevirtual 114, 3) := by decide +kernel
theorem d_P_node_9 : decode b_P_node 9 = .ok (.ireturn, 1) := by decide +kernel
theorem d_P_used_0 : decode b_P_used 0 = .ok (.aload_n 0, 1) := by decide +kernel
theorem d_P_used_1 : decode b_P_used 1 = .ok (.getfield 32, 3) := by decide +kernel
theorem d_P_used_4 : decode b_P_used 4 = .ok (.getfield 123, 3) := by decide +kernel
theorem d_P_used_7 : decode b_P_used 7 = .ok (.ireturn, 1) := by decide +kernel
theorem d_P_mark_0 : decode b_P_mark 0 = .ok (.aload_n 0, 1) := by decide +kernel
theorem d_P_mark_1 : decode b_P_mark 1 = .ok (.getfield 32, 3) := by decide +kernel
theorem d_P_mark_4 : decode b_P_mark 4 = .ok (.iload_n 1, 1) := by decide +kernel
theorem d_P_mark_5 : decode b_P_mark 5 = .ok (.invokevirtual 124, 3) := by decide +kernel
theorem d_P_mark_8 : decode b_P_mark 8 = .ok (.ireturn, 1) := by decide +kernel
theorem d_P_pool_0 : decode b_P_pool 0 = .ok (.aload_n 0, 1) := by decide +kernel
theorem d_P_pool_1 : decode b_P_pool 1 = .ok (.getfield 43, 3) := by decide +kernel
theorem d_P_pool_4 : decode b_P_pool 4 = .ok (.ireturn, 1) := by decide +kernel
end
section
theorem d_T_init_0 : decode b_T_init 0 = .ok (.aload_n 0, 1) := by decide +kernel
theorem d_T_init_1 : decode b_T_init 1 = .ok (.invokespecial 3, 3) := by decide +kernel
theorem d_T_init_4 : decode b_T_init 4 = .ok (.aload_n 0, 1) := by decide +kernel
theorem d_T_init_5 : decode b_T_init 5 = .ok (.bipush 32, 2) := by decide +kernel
theorem d_T_init_7 : decode b_T_init 7 = .ok (.newarray .int, 2) := by decide +kernel
theorem d_T_init_9 : decode b_T_init 9 = .ok (.putfield 9, 3) := by decide +kernel
theorem d_T_init_12 : decode b_T_init 12 = .ok (.aload_n 0, 1) := by decide +kernel
theorem d_T_init_13 : decode b_T_init 13 = .ok (.bipush 17, 2) := by decide +kernel
theorem d_T_init_15 : decode b_T_init 15 = .ok (.newarray .int, 2) := by decide +kernel
theorem d_T_init_17 : decode b_T_init 17 = .ok (.putfield 15, 3) := by decide +kernel
theorem d_T_init_20 : decode b_T_init 20 = .ok (.aload_n 0, 1) := by decide +kernel
theorem d_T_init_21 : decode b_T_init 21 = .ok (.iconst 0, 1) := by decide +kernel
theorem d_T_init_22 : decode b_T_init 22 = .ok (.putfield 18, 3) := by decide +kernel
theorem d_T_init_25 : decode b_T_init 25 = .ok (.bipush 15, 2) := by decide +kernel
theorem d_T_init_27 : decode b_T_init 27 = .ok (.istore_n 1, 1) := by decide +kernel
theorem d_T_init_28 : decode b_T_init 28 = .ok (.iload_n 1, 1) := by decide +kernel
theorem d_T_init_29 : decode b_T_init 29 = .ok (.iconst 1, 1) := by decide +kernel
theorem d_T_init_30 : decode b_T_init 30 = .ok (.if_icmp .lt 14, 3) := by decide +kernel
theorem d_T_init_33 : decode b_T_init 33 = .ok (.aload_n 0, 1) := by decide +kernel
theorem d_T_init_34 : decode b_T_init 34 = .ok (.iload_n 1, 1) := by decide +kernel
theorem d_T_init_35 : decode b_T_init 35 = .ok (.invokevirtual 22, 3) := by decide +kernel
theorem d_T_init_38 : decode b_T_init 38 = .ok (.iinc 1 (-1), 3) := by decide +kernel
theorem d_T_init_41 : decode b_T_init 41 = .ok (.goto (-13), 3) := by decide +kernel
theorem d_T_init_44 : decode b_T_init 44 = .ok (.aload_n 0, 1) := by decide +kernel
theorem d_T_init_45 : decode b_T_init 45 = .ok (.getfield 15, 3) := by decide +kernel
theorem d_T_init_48 : decode b_T_init 48 = .ok (.iconst 0, 1) := by decide +kernel
theorem d_T_init_49 : decode b_T_init 49 = .ok (.aload_n 0, 1) := by decide +kernel
theorem d_T_init_50 : decode b_T_init 50 = .ok (.getfield 9, 3) := by decide +kernel
theorem d_T_init_53 : decode b_T_init 53 = .ok (.iconst 1, 1) := by decide +kernel
theorem d_T_init_54 : decode b_T_init 54 = .ok (.iaload, 1) := by decide +kernel
theorem d_T_init_55 : decode b_T_init 55 = .ok (.iastore, 1) := by decide +kernel
theorem d_T_init_56 : decode b_T_init 56 = .ok (.return_, 1) := by decide +kernel
theorem d_T_hashUp_0 : decode b_T_hashUp 0 = .ok (.aload_n 0, 1) := by decide +kernel
theorem d_T_hashUp_1 : decode b_T_hashUp 1 = .ok (.getfield 9, 3) := by decide +kernel
theorem d_T_hashUp_4 : decode b_T_hashUp 4 = .ok (.iload_n 1, 1) := by decide +kernel
theorem d_T_hashUp_5 : decode b_T_hashUp 5 = .ok (.aload_n 0, 1) := by decide +kernel
theorem d_T_hashUp_6 : decode b_T_hashUp 6 = .ok (.getfield 9, 3) := by decide +kernel
theorem d_T_hashUp_9 : decode b_T_hashUp 9 = .ok (.iconst 2, 1) := by decide +kernel
theorem d_T_hashUp_10 : decode b_T_hashUp 10 = .ok (.iload_n 1, 1) := by decide +kernel
theorem d_T_hashUp_11 : decode b_T_hashUp 11 = .ok (.imul, 1) := by decide +kernel
theorem d_T_hashUp_12 : decode b_T_hashUp 12 = .ok (.iaload, 1) := by decide +kernel
theorem d_T_hashUp_13 : decode b_T_hashUp 13 = .ok (.aload_n 0, 1) := by decide +kernel
theorem d_T_hashUp_14 : decode b_T_hashUp 14 = .ok (.getfield 9, 3) := by decide +kernel
theorem d_T_hashUp_17 : decode b_T_hashUp 17 = .ok (.iconst 2, 1) := by decide +kernel
theorem d_T_hashUp_18 : decode b_T_hashUp 18 = .ok (.iload_n 1, 1) := by decide +kernel
theorem d_T_hashUp_19 : decode b_T_hashUp 19 = .ok (.imul, 1) := by decide +kernel
theorem d_T_hashUp_20 : decode b_T_hashUp 20 = .ok (.iconst 1, 1) := by decide +kernel
theorem d_T_hashUp_21 : decode b_T_hashUp 21 = .ok (.iadd, 1) := by decide +kernel
theorem d_T_hashUp_22 : decode b_T_hashUp 22 = .ok (.iaload, 1) := by decide +kernel
theorem d_T_hashUp_23 : decode b_T_hashUp 23 = .ok (.invokestatic 34, 3) := by decide +kernel
theorem d_T_hashUp_26 : decode b_T_hashUp 26 = .ok (.iastore, 1) := by decide +kernel
theorem d_T_hashUp_27 : decode b_T_hashUp 27 = .ok (.return_, 1) := by decide +kernel
theorem d_K_init_0 : decode b_K_init 0 = .ok (.aload_n 0, 1) := by decide +kernel
theorem d_K_init_1 : decode b_K_init 1 = .ok (.invokespecial 3, 3) := by decide +kernel
theorem d_K_init_4 : decode b_K_init 4 = .ok (.aload_n 0, 1) := by decide +kernel
theorem d_K_init_5 : decode b_K_init 5 = .ok (.bipush 16, 2) := by decide +kernel
theorem d_K_init_7 : decode b_K_init 7 = .ok (.newarray .int, 2) := by decide +kernel
theorem d_K_init_9 : decode b_K_init 9 = .ok (.putfield 9, 3) := by decide +kernel
theorem d_K_init_12 : decode b_K_init 12 = .ok (.aload_n 0, 1) := by decide +kernel
theorem d_K_init_13 : decode b_K_init 13 = .ok (.iconst 0, 1) := by decide +kernel
theorem d_K_init_14 : decode b_K_init 14 = .ok (.putfield 15, 3) := by decide +kernel
theorem d_K_init_17 : decode b_K_init 17 = .ok (.return_, 1) := by decide +kernel
theorem d_T_isFull_0 : decode b_T_isFull 0 = .ok (.aload_n 0, 1) := by decide +kernel
theorem d_T_isFull_1 : decode b_T_isFull 1 = .ok (.getfield 18, 3) := by decide +kernel
theorem d_T_isFull_4 : decode b_T_isFull 4 = .ok (.bipush 16, 2) := by decide +kernel
theorem d_T_isFull_6 : decode b_T_isFull 6 = .ok (.if_icmp .lt 7, 3) := by decide +kernel
theorem d_T_isFull_9 : decode b_T_isFull 9 = .ok (.iconst 1, 1) := by decide +kernel
theorem d_T_isFull_10 : decode b_T_isFull 10 = .ok (.goto 4, 3) := by decide +kernel
theorem d_T_isFull_13 : decode b_T_isFull 13 = .ok (.iconst 0, 1) := by decide +kernel
theorem d_T_isFull_14 : decode b_T_isFull 14 = .ok (.ireturn, 1) := by decide +kernel
theorem d_T_append_0 : decode b_T_append 0 = .ok (.aload_n 0, 1) := by decide +kernel
theorem d_T_append_1 : decode b_T_append 1 = .ok (.invokevirtual 26, 3) := by decide +kernel
theorem d_T_append_4 : decode b_T_append 4 = .ok (.ifCond .eq 6, 3) := by decide +kernel
theorem d_T_append_7 : decode b_T_append 7 = .ok (.bipush (-7), 2) := by decide +kernel
theorem d_T_append_9 : decode b_T_append 9 = .ok (.ireturn, 1) := by decide +kernel
theorem d_T_append_10 : decode b_T_append 10 = .ok (.aload_n 0, 1) := by decide +kernel
theorem d_T_append_11 : decode b_T_append 11 = .ok (.getfield 18, 3) := by decide +kernel
theorem d_T_append_14 : decode b_T_append 14 = .ok (.istore_n 2, 1) := by decide +kernel
theorem d_T_append_15 : decode b_T_append 15 = .ok (.aload_n 0, 1) := by decide +kernel
theorem d_T_append_16 : decode b_T_append 16 = .ok (.getfield 9, 3) := by decide +kernel
theorem d_T_append_19 : decode b_T_append 19 = .ok (.bipush 16, 2) := by decide +kernel
theorem d_T_append_21 : decode b_T_append 21 = .ok (.iload_n 2, 1) := by decide +kernel
theorem d_T_append_22 : decode b_T_append 22 = .ok (.iadd, 1) := by decide +kernel
theorem d_T_append_23 : decode b_T_append 23 = .ok (.iload_n 1, 1) := by decide +kernel
theorem d_T_append_24 : decode b_T_append 24 = .ok (.iastore, 1) := by decide +kernel
theorem d_T_append_25 : decode b_T_append 25 = .ok (.iconst 1, 1) := by decide +kernel
theorem d_T_append_26 : decode b_T_append 26 = .ok (.istore_n 3, 1) := by decide +kernel
theorem d_T_append_27 : decode b_T_append 27 = .ok (.iload_n 3, 1) := by decide +kernel
theorem d_T_append_28 : decode b_T_append 28 = .ok (.iconst 4, 1) := by decide +kernel
theorem d_T_append_29 : decode b_T_append 29 = .ok (.if_icmp .gt 19, 3) := by decide +kernel
theorem d_T_append_32 : decode b_T_append 32 = .ok (.aload_n 0, 1) := by decide +kernel
theorem d_T_append_33 : decode b_T_append 33 = .ok (.bipush 16, 2) := by decide +kernel
theorem d_T_append_35 : decode b_T_append 35 = .ok (.iload_n 2, 1) := by decide +kernel
theorem d_T_append_36 : decode b_T_append 36 = .ok (.iadd, 1) := by decide +kernel
theorem d_T_append_37 : decode b_T_append 37 = .ok (.iload_n 3, 1) := by decide +kernel
theorem d_T_append_38 : decode b_T_append 38 = .ok (.ishr, 1) := by decide +kernel
theorem d_T_append_39 : decode b_T_append 39 = .ok (.invokevirtual 22, 3) := by decide +kernel
theorem d_T_append_42 : decode b_T_append 42 = .ok (.iinc 3 1, 3) := by decide +kernel
theorem d_T_append_45 : decode b_T_append 45 = .ok (.goto (-18), 3) := by decide +kernel
theorem d_T_append_48 : decode b_T_append 48 = .ok (.aload_n 0, 1) := by decide +kernel
theorem d_T_append_49 : decode b_T_append 49 = .ok (.dup, 1) := by decide +kernel
theorem d_T_append_50 : decode b_T_append 50 = .ok (.getfield 18, 3) := by decide +kernel
theorem d_T_append_53 : decode b_T_append 53 = .ok (.iconst 1, 1) := by decide +kernel
theorem d_T_append_54 : decode b_T_append 54 = .ok (.iadd, 1) := by decide +kernel
theorem d_T_append_55 : decode b_T_append 55 = .ok (.putfield 18, 3) := by decide +kernel
theorem d_T_append_58 : decode b_T_append 58 = .ok (.aload_n 0, 1) := by decide +kernel
theorem d_T_append_59 : decode b_T_append 59 = .ok (.getfield 15, 3) := by decide +kernel
theorem d_T_append_62 : decode b_T_append 62 = .ok (.aload_n 0, 1) := by decide +kernel
theorem d_T_append_63 : decode b_T_append 63 = .ok (.getfield 18, 3) := by decide +kernel
theorem d_T_append_66 : decode b_T_append 66 = .ok (.aload_n 0, 1) := by decide +kernel
theorem d_T_append_67 : decode b_T_append 67 = .ok (.getfield 9, 3) := by decide +kernel
theorem d_T_append_70 : decode b_T_append 70 = .ok (.iconst 1, 1) := by decide +kernel
theorem d_T_append_71 : decode b_T_append 71 = .ok (.iaload, 1) := by decide +kernel
theorem d_T_append_72 : decode b_T_append 72 = .ok (.iastore, 1) := by decide +kernel
theorem d_T_append_73 : decode b_T_append 73 = .ok (.iload_n 2, 1) := by decide +kernel
theorem d_T_append_74 : decode b_T_append 74 = .ok (.ireturn, 1) := by decide +kernel
theorem d_T_nodeAt_0 : decode b_T_nodeAt 0 = .ok (.iload_n 1, 1) := by decide +kernel
theorem d_T_nodeAt_1 : decode b_T_nodeAt 1 = .ok (.ifCond .lt 8, 3) := by decide +kernel
theorem d_T_nodeAt_4 : decode b_T_nodeAt 4 = .ok (.iload_n 1, 1) := by decide +kernel
theorem d_T_nodeAt_5 : decode b_T_nodeAt 5 = .ok (.iconst 4, 1) := by decide +kernel
theorem d_T_nodeAt_6 : decode b_T_nodeAt 6 = .ok (.if_icmp .le 5, 3) := by decide +kernel
theorem d_T_nodeAt_9 : decode b_T_nodeAt 9 = .ok (.iconst (-1), 1) := by decide +kernel
theorem d_T_nodeAt_10 : decode b_T_nodeAt 10 = .ok (.ireturn, 1) := by decide +kernel
theorem d_T_nodeAt_11 : decode b_T_nodeAt 11 = .ok (.bipush 16, 2) := by decide +kernel
theorem d_T_nodeAt_13 : decode b_T_nodeAt 13 = .ok (.iload_n 1, 1) := by decide +kernel
theorem d_T_nodeAt_14 : decode b_T_nodeAt 14 = .ok (.ishr, 1) := by decide +kernel
theorem d_T_nodeAt_15 : decode b_T_nodeAt 15 = .ok (.istore_n 3, 1) := by decide +kernel
theorem d_T_nodeAt_16 : decode b_T_nodeAt 16 = .ok (.iload_n 2, 1) := by decide +kernel
theorem d_T_nodeAt_17 : decode b_T_nodeAt 17 = .ok (.ifCond .lt 19, 3) := by decide +kernel
theorem d_T_nodeAt_20 : decode b_T_nodeAt 20 = .ok (.iload_n 2, 1) := by decide +kernel
theorem d_T_nodeAt_21 : decode b_T_nodeAt 21 = .ok (.iload_n 3, 1) := by decide +kernel
theorem d_T_nodeAt_22 : decode b_T_nodeAt 22 = .ok (.if_icmp .ge 14, 3) := by decide +kernel
theorem d_T_nodeAt_25 : decode b_T_nodeAt 25 = .ok (.aload_n 0, 1) := by decide +kernel
theorem d_T_nodeAt_26 : decode b_T_nodeAt 26 = .ok (.getfield 9, 3) := by decide +kernel
theorem d_T_nodeAt_29 : decode b_T_nodeAt 29 = .ok (.iload_n 3, 1) := by decide +kernel
theorem d_T_nodeAt_30 : decode b_T_nodeAt 30 = .ok (.iload_n 2, 1) := by decide +kernel
theorem d_T_nodeAt_31 : decode b_T_nodeAt 31 = .ok (.iadd, 1) := by decide +kernel
theorem d_T_nodeAt_32 : decode b_T_nodeAt 32 = .ok (.iaload, 1) := by decide +kernel
theorem d_T_nodeAt_33 : decode b_T_nodeAt 33 = .ok (.goto 4, 3) := by decide +kernel
theorem d_T_nodeAt_36 : decode b_T_nodeAt 36 = .ok (.iconst (-1), 1) := by decide +kernel
theorem d_T_nodeAt_37 : decode b_T_nodeAt 37 = .ok (.ireturn, 1) := by decide +kernel
theorem d_T_isRecent_0 : decode b_T_isRecent 0 = .ok (.iconst 0, 1) := by decide +kernel
theorem d_T_isRecent_1 : decode b_T_isRecent 1 = .ok (.istore_n 2, 1) := by decide +kernel
theorem d_T_isRecent_2 : decode b_T_isRecent 2 = .ok (.iload_n 2, 1) := by decide +kernel
theorem d_T_isRecent_3 : decode b_T_isRecent 3 = .ok (.iconst 4, 1) := by decide +kernel
theorem d_T_isRecent_4 : decode b_T_isRecent 4 = .ok (.if_icmp .ge 20, 3) := by decide +kernel
theorem d_T_isRecent_7 : decode b_T_isRecent 7 = .ok (.aload_n 0, 1) := by decide +kernel
theorem d_T_isRecent_8 : decode b_T_isRecent 8 = .ok (.iload_n 2, 1) := by decide +kernel
theorem d_T_isRecent_9 : decode b_T_isRecent 9 = .ok (.invokevirtual 30, 3) := by decide +kernel
theorem d_T_isRecent_12 : decode b_T_isRecent 12 = .ok (.iload_n 1, 1) := by decide +kernel
theorem d_T_isRecent_13 : decode b_T_isRecent 13 = .ok (.if_icmp .ne 5, 3) := by decide +kernel
theorem d_T_isRecent_16 : decode b_T_isRecent 16 = .ok (.iconst 1, 1) := by decide +kernel
theorem d_T_isRecent_17 : decode b_T_isRecent 17 = .ok (.ireturn, 1) := by decide +kernel
theorem d_T_isRecent_18 : decode b_T_isRecent 18 = .ok (.iinc 2 1, 3) := by decide +kernel
theorem d_T_isRecent_21 : decode b_T_isRecent 21 = .ok (.goto (-19), 3) := by decide +kernel
theorem d_T_isRecent_24 : decode b_T_isRecent 24 = .ok (.iconst 0, 1) := by decide +kernel
theorem d_T_isRecent_25 : decode b_T_isRecent 25 = .ok (.ireturn, 1) := by decide +kernel
theorem d_T_recentRoot_0 : decode b_T_recentRoot 0 = .ok (.iload_n 1, 1) := by decide +kernel
theorem d_T_recentRoot_1 : decode b_T_recentRoot 1 = .ok (.ifCond .lt 30, 3) := by decide +kernel
theorem d_T_recentRoot_4 : decode b_T_recentRoot 4 = .ok (.iload_n 1, 1) := by decide +kernel
theorem d_T_recentRoot_5 : decode b_T_recentRoot 5 = .ok (.iconst 4, 1) := by decide +kernel
theorem d_T_recentRoot_6 : decode b_T_recentRoot 6 = .ok (.if_icmp .ge 25, 3) := by decide +kernel
theorem d_T_recentRoot_9 : decode b_T_recentRoot 9 = .ok (.iload_n 1, 1) := by decide +kernel
theorem d_T_recentRoot_10 : decode b_T_recentRoot 10 = .ok (.aload_n 0, 1) := by decide +kernel
theorem d_T_recentRoot_11 : decode b_T_recentRoot 11 = .ok (.getfield 18, 3) := by decide +kernel
theorem d_T_recentRoot_14 : decode b_T_recentRoot 14 = .ok (.if_icmp .gt 17, 3) := by decide +kernel
theorem d_T_recentRoot_17 : decode b_T_recentRoot 17 = .ok (.aload_n 0, 1) := by decide +kernel
theorem d_T_recentRoot_18 : decode b_T_recentRoot 18 = .ok (.getfield 15, 3) := by decide +kernel
theorem d_T_recentRoot_21 : decode b_T_recentRoot 21 = .ok (.aload_n 0, 1) := by decide +kernel
theorem d_T_recentRoot_22 : decode b_T_recentRoot 22 = .ok (.getfield 18, 3) := by decide +kernel
theorem d_T_recentRoot_25 : decode b_T_recentRoot 25 = .ok (.iload_n 1, 1) := by decide +kernel
theorem d_T_recentRoot_26 : decode b_T_recentRoot 26 = .ok (.isub, 1) := by decide +kernel
theorem d_T_recentRoot_27 : decode b_T_recentRoot 27 = .ok (.iaload, 1) := by decide +kernel
theorem d_T_recentRoot_28 : decode b_T_recentRoot 28 = .ok (.goto 4, 3) := by decide +kernel
theorem d_T_recentRoot_31 : decode b_T_recentRoot 31 = .ok (.iconst (-1), 1) := by decide +kernel
theorem d_T_recentRoot_32 : decode b_T_recentRoot 32 = .ok (.ireturn, 1) := by decide +kernel
theorem d_K_has_0 : decode b_K_has 0 = .ok (.iconst 0, 1) := by decide +kernel
theorem d_K_has_1 : decode b_K_has 1 = .ok (.istore_n 2, 1) := by decide +kernel
theorem d_K_has_2 : decode b_K_has 2 = .ok (.iload_n 2, 1) := by decide +kernel
theorem d_K_has_3 : decode b_K_has 3 = .ok (.aload_n 0, 1) := by decide +kernel
theorem d_K_has_4 : decode b_K_has 4 = .ok (.getfield 15, 3) := by decide +kernel
theorem d_K_has_7 : decode b_K_has 7 = .ok (.if_icmp .ge 21, 3) := by decide +kernel
theorem d_K_has_10 : decode b_K_has 10 = .ok (.aload_n 0, 1) := by decide +kernel
theorem d_K_has_11 : decode b_K_has 11 = .ok (.getfield 9, 3) := by decide +kernel
theorem d_K_has_14 : decode b_K_has 14 = .ok (.iload_n 2, 1) := by decide +kernel
theorem d_K_has_15 : decode b_K_has 15 = .ok (.iaload, 1) := by decide +kernel
theorem d_K_has_16 : decode b_K_has 16 = .ok (.iload_n 1, 1) := by decide +kernel
theorem d_K_has_17 : decode b_K_has 17 = .ok (.if_icmp .ne 5, 3) := by decide +kernel
theorem d_K_has_20 : decode b_K_has 20 = .ok (.iconst 1, 1) := by decide +kernel
theorem d_K_has_21 : decode b_K_has 21 = .ok (.ireturn, 1) := by decide +kernel
theorem d_K_has_22 : decode b_K_has 22 = .ok (.iinc 2 1, 3) := by decide +kernel
theorem d_K_has_25 : decode b_K_has 25 = .ok (.goto (-23), 3) := by decide +kernel
theorem d_K_has_28 : decode b_K_has 28 = .ok (.iconst 0, 1) := by decide +kernel
theorem d_K_has_29 : decode b_K_has 29 = .ok (.ireturn, 1) := by decide +kernel
theorem d_K_add_0 : decode b_K_add 0 = .ok (.aload_n 0, 1) := by decide +kernel
theorem d_K_add_1 : decode b_K_add 1 = .ok (.getfield 15, 3) := by decide +kernel
theorem d_K_add_4 : decode b_K_add 4 = .ok (.bipush 16, 2) := by decide +kernel
theorem d_K_add_6 : decode b_K_add 6 = .ok (.if_icmp .lt 4, 3) := by decide +kernel
theorem d_K_add_9 : decode b_K_add 9 = .ok (.return_, 1) := by decide +kernel
theorem d_K_add_10 : decode b_K_add 10 = .ok (.aload_n 0, 1) := by decide +kernel
theorem d_K_add_11 : decode b_K_add 11 = .ok (.getfield 15, 3) := by decide +kernel
theorem d_K_add_14 : decode b_K_add 14 = .ok (.istore_n 2, 1) := by decide +kernel
theorem d_K_add_15 : decode b_K_add 15 = .ok (.iload_n 2, 1) := by decide +kernel
theorem d_K_add_16 : decode b_K_add 16 = .ok (.ifCond .le 35, 3) := by decide +kernel
theorem d_K_add_19 : decode b_K_add 19 = .ok (.aload_n 0, 1) := by decide +kernel
theorem d_K_add_20 : decode b_K_add 20 = .ok (.getfield 9, 3) := by decide +kernel
theorem d_K_add_23 : decode b_K_add 23 = .ok (.iload_n 2, 1) := by decide +kernel
theorem d_K_add_24 : decode b_K_add 24 = .ok (.iconst 1, 1) := by decide +kernel
theorem d_K_add_25 : decode b_K_add 25 = .ok (.isub, 1) := by decide +kernel
theorem d_K_add_26 : decode b_K_add 26 = .ok (.iaload, 1) := by decide +kernel
theorem d_K_add_27 : decode b_K_add 27 = .ok (.iload_n 1, 1) := by decide +kernel
theorem d_K_add_28 : decode b_K_add 28 = .ok (.if_icmp .le 23, 3) := by decide +kernel
theorem d_K_add_31 : decode b_K_add 31 = .ok (.aload_n 0, 1) := by decide +kernel
theorem d_K_add_32 : decode b_K_add 32 = .ok (.getfield 9, 3) := by decide +kernel
theorem d_K_add_35 : decode b_K_add 35 = .ok (.iload_n 2, 1) := by decide +kernel
theorem d_K_add_36 : decode b_K_add 36 = .ok (.aload_n 0, 1) := by decide +kernel
theorem d_K_add_37 : decode b_K_add 37 = .ok (.getfield 9, 3) := by decide +kernel
theorem d_K_add_40 : decode b_K_add 40 = .ok (.iload_n 2, 1) := by decide +kernel
theorem d_K_add_41 : decode b_K_add 41 = .ok (.iconst 1, 1) := by decide +kernel
theorem d_K_add_42 : decode b_K_add 42 = .ok (.isub, 1) := by decide +kernel
theorem d_K_add_43 : decode b_K_add 43 = .ok (.iaload, 1) := by decide +kernel
theorem d_K_add_44 : decode b_K_add 44 = .ok (.iastore, 1) := by decide +kernel
theorem d_K_add_45 : decode b_K_add 45 = .ok (.iinc 2 (-1), 3) := by decide +kernel
theorem d_K_add_48 : decode b_K_add 48 = .ok (.goto (-33), 3) := by decide +kernel
theorem d_K_add_51 : decode b_K_add 51 = .ok (.aload_n 0, 1) := by decide +kernel
theorem d_K_add_52 : decode b_K_add 52 = .ok (.getfield 9, 3) := by decide +kernel
theorem d_K_add_55 : decode b_K_add 55 = .ok (.iload_n 2, 1) := by decide +kernel
theorem d_K_add_56 : decode b_K_add 56 = .ok (.iload_n 1, 1) := by decide +kernel
theorem d_K_add_57 : decode b_K_add 57 = .ok (.iastore, 1) := by decide +kernel
theorem d_K_add_58 : decode b_K_add 58 = .ok (.aload_n 0, 1) := by decide +kernel
theorem d_K_add_59 : decode b_K_add 59 = .ok (.dup, 1) := by decide +kernel
theorem d_K_add_60 : decode b_K_add 60 = .ok (.getfield 15, 3) := by decide +kernel
theorem d_K_add_63 : decode b_K_add 63 = .ok (.iconst 1, 1) := by decide +kernel
theorem d_K_add_64 : decode b_K_add 64 = .ok (.iadd, 1) := by decide +kernel
theorem d_K_add_65 : decode b_K_add 65 = .ok (.putfield 15, 3) := by decide +kernel
theorem d_K_add_68 : decode b_K_add 68 = .ok (.return_, 1) := by decide +kernel
theorem d_K_at_0 : decode b_K_at 0 = .ok (.iload_n 1, 1) := by decide +kernel
theorem d_K_at_1 : decode b_K_at 1 = .ok (.ifCond .lt 20, 3) := by decide +kernel
theorem d_K_at_4 : decode b_K_at 4 = .ok (.iload_n 1, 1) := by decide +kernel
theorem d_K_at_5 : decode b_K_at 5 = .ok (.aload_n 0, 1) := by decide +kernel
theorem d_K_at_6 : decode b_K_at 6 = .ok (.getfield 15, 3) := by decide +kernel
theorem d_K_at_9 : decode b_K_at 9 = .ok (.if_icmp .ge 12, 3) := by decide +kernel
theorem d_K_at_12 : decode b_K_at 12 = .ok (.aload_n 0, 1) := by decide +kernel
theorem d_K_at_13 : decode b_K_at 13 = .ok (.getfield 9, 3) := by decide +kernel
theorem d_K_at_16 : decode b_K_at 16 = .ok (.iload_n 1, 1) := by decide +kernel
theorem d_K_at_17 : decode b_K_at 17 = .ok (.iaload, 1) := by decide +kernel
theorem d_K_at_18 : decode b_K_at 18 = .ok (.goto 4, 3) := by decide +kernel
theorem d_K_at_21 : decode b_K_at 21 = .ok (.iconst (-1), 1) := by decide +kernel
theorem d_K_at_22 : decode b_K_at 22 = .ok (.ireturn, 1) := by decide +kernel
end
section
theorem d_S_init_0 : decode b_S_init 0 = .ok (.aload_n 0, 1) := by decide +kernel
theorem d_S_init_1 : decode b_S_init 1 = .ok (.invokespecial 5, 3) := by decide +kernel
theorem d_S_init_4 : decode b_S_init 4 = .ok (.aload_n 0, 1) := by decide +kernel
theorem d_S_init_5 : decode b_S_init 5 = .ok (.bipush 125, 2) := by decide +kernel
theorem d_S_init_7 : decode b_S_init 7 = .ok (.newarray .int, 2) := by decide +kernel
theorem d_S_init_9 : decode b_S_init 9 = .ok (.putfield 11, 3) := by decide +kernel
theorem d_S_init_12 : decode b_S_init 12 = .ok (.aload_n 0, 1) := by decide +kernel
theorem d_S_init_13 : decode b_S_init 13 = .ok (.getfield 11, 3) := by decide +kernel
theorem d_S_init_16 : decode b_S_init 16 = .ok (.iconst 0, 1) := by decide +kernel
theorem d_S_init_17 : decode b_S_init 17 = .ok (.iconst 1, 1) := by decide +kernel
theorem d_S_init_18 : decode b_S_init 18 = .ok (.iastore, 1) := by decide +kernel
theorem d_S_init_19 : decode b_S_init 19 = .ok (.return_, 1) := by decide +kernel
theorem d_S_takeNote_0 : decode b_S_takeNote 0 = .ok (.aload_n 0, 1) := by decide +kernel
theorem d_S_takeNote_1 : decode b_S_takeNote 1 = .ok (.getfield 11, 3) := by decide +kernel
theorem d_S_takeNote_4 : decode b_S_takeNote 4 = .ok (.iconst 5, 1) := by decide +kernel
theorem d_S_takeNote_5 : decode b_S_takeNote 5 = .ok (.iload_n 1, 1) := by decide +kernel
theorem d_S_takeNote_6 : decode b_S_takeNote 6 = .ok (.iastore, 1) := by decide +kernel
theorem d_S_takeNote_7 : decode b_S_takeNote 7 = .ok (.aload_n 0, 1) := by decide +kernel
theorem d_S_takeNote_8 : decode b_S_takeNote 8 = .ok (.getfield 11, 3) := by decide +kernel
theorem d_S_takeNote_11 : decode b_S_takeNote 11 = .ok (.bipush 6, 2) := by decide +kernel
theorem d_S_takeNote_13 : decode b_S_takeNote 13 = .ok (.iload_n 2, 1) := by decide +kernel
theorem d_S_takeNote_14 : decode b_S_takeNote 14 = .ok (.iastore, 1) := by decide +kernel
theorem d_S_takeNote_15 : decode b_S_takeNote 15 = .ok (.aload_n 0, 1) := by decide +kernel
theorem d_S_takeNote_16 : decode b_S_takeNote 16 = .ok (.getfield 11, 3) := by decide +kernel
theorem d_S_takeNote_19 : decode b_S_takeNote 19 = .ok (.bipush 7, 2) := by decide +kernel
theorem d_S_takeNote_21 : decode b_S_takeNote 21 = .ok (.iload_n 3, 1) := by decide +kernel
theorem d_S_takeNote_22 : decode b_S_takeNote 22 = .ok (.iastore, 1) := by decide +kernel
theorem d_S_takeNote_23 : decode b_S_takeNote 23 = .ok (.return_, 1) := by decide +kernel
theorem d_S_takePayment_0 : decode b_S_takePayment 0 = .ok (.aload_n 0, 1) := by decide +kernel
theorem d_S_takePayment_1 : decode b_S_takePayment 1 = .ok (.getfield 11, 3) := by decide +kernel
theorem d_S_takePayment_4 : decode b_S_takePayment 4 = .ok (.bipush 8, 2) := by decide +kernel
theorem d_S_takePayment_6 : decode b_S_takePayment 6 = .ok (.iload_n 1, 1) := by decide +kernel
theorem d_S_takePayment_7 : decode b_S_takePayment 7 = .ok (.iastore, 1) := by decide +kernel
theorem d_S_takePayment_8 : decode b_S_takePayment 8 = .ok (.aload_n 0, 1) := by decide +kernel
theorem d_S_takePayment_9 : decode b_S_takePayment 9 = .ok (.getfield 11, 3) := by decide +kernel
theorem d_S_takePayment_12 : decode b_S_takePayment 12 = .ok (.bipush 9, 2) := by decide +kernel
theorem d_S_takePayment_14 : decode b_S_takePayment 14 = .ok (.iload_n 2, 1) := by decide +kernel
theorem d_S_takePayment_15 : decode b_S_takePayment 15 = .ok (.iastore, 1) := by decide +kernel
theorem d_S_takePayment_16 : decode b_S_takePayment 16 = .ok (.aload_n 0, 1) := by decide +kernel
theorem d_S_takePayment_17 : decode b_S_takePayment 17 = .ok (.getfield 11, 3) := by decide +kernel
theorem d_S_takePayment_20 : decode b_S_takePayment 20 = .ok (.iconst 4, 1) := by decide +kernel
theorem d_S_takePayment_21 : decode b_S_takePayment 21 = .ok (.iload_n 3, 1) := by decide +kernel
theorem d_S_takePayment_22 : decode b_S_takePayment 22 = .ok (.iastore, 1) := by decide +kernel
theorem d_S_takePayment_23 : decode b_S_takePayment 23 = .ok (.aload_n 0, 1) := by decide +kernel
theorem d_S_takePayment_24 : decode b_S_takePayment 24 = .ok (.getfield 11, 3) := by decide +kernel
theorem d_S_takePayment_27 : decode b_S_takePayment 27 = .ok (.bipush 10, 2) := by decide +kernel
theorem d_S_takePayment_29 : decode b_S_takePayment 29 = .ok (.iload 4, 2) := by decide +kernel
theorem d_S_takePayment_31 : decode b_S_takePayment 31 = .ok (.iastore, 1) := by decide +kernel
theorem d_S_takePayment_32 : decode b_S_takePayment 32 = .ok (.iconst 0, 1) := by decide +kernel
theorem d_S_takePayment_33 : decode b_S_takePayment 33 = .ok (.istore 5, 2) := by decide +kernel
theorem d_S_takePayment_35 : decode b_S_takePayment 35 = .ok (.iload 5, 2) := by decide +kernel
theorem d_S_takePayment_37 : decode b_S_takePayment 37 = .ok (.bipush 8, 2) := by decide +kernel
theorem d_S_takePayment_39 : decode b_S_takePayment 39 = .ok (.if_icmp .ge 25, 3) := by decide +kernel
theorem d_S_takePayment_42 : decode b_S_takePayment 42 = .ok (.aload_n 0, 1) := by decide +kernel
theorem d_S_takePayment_43 : decode b_S_takePayment 43 = .ok (.getfield 11, 3) := by decide +kernel
theorem d_S_takePayment_46 : decode b_S_takePayment 46 = .ok (.bipush 27, 2) := by decide +kernel
theorem d_S_takePayment_48 : decode b_S_takePayment 48 = .ok (.iload 5, 2) := by decide +kernel
theorem d_S_takePayment_50 : decode b_S_takePayment 50 = .ok (.iadd, 1) := by decide +kernel
theorem d_S_takePayment_51 : decode b_S_takePayment 51 = .ok (.iload_n 2, 1) := by decide +kernel
theorem d_S_takePayment_52 : decode b_S_takePayment 52 = .ok (.iload 5, 2) := by decide +kernel
theorem d_S_takePayment_54 : decode b_S_takePayment 54 = .ok (.ishr, 1) := by decide +kernel
theorem d_S_takePayment_55 : decode b_S_takePayment 55 = .ok (.iconst 1, 1) := by decide +kernel
theorem d_S_takePayment_56 : decode b_S_takePayment 56 = .ok (.iand, 1) := by decide +kernel
theorem d_S_takePayment_57 : decode b_S_takePayment 57 = .ok (.iastore, 1) := by decide +kernel
theorem d_S_takePayment_58 : decode b_S_takePayment 58 = .ok (.iinc 5 1, 3) := by decide +kernel
theorem d_S_takePayment_61 : decode b_S_takePayment 61 = .ok (.goto (-26), 3) := by decide +kernel
theorem d_S_takePayment_64 : decode b_S_takePayment 64 = .ok (.return_, 1) := by decide +kernel
theorem d_S_takePath_0 : decode b_S_takePath 0 = .ok (.iconst 0, 1) := by decide +kernel
theorem d_S_takePath_1 : decode b_S_takePath 1 = .ok (.istore_n 3, 1) := by decide +kernel
theorem d_S_takePath_2 : decode b_S_takePath 2 = .ok (.iload_n 3, 1) := by decide +kernel
theorem d_S_takePath_3 : decode b_S_takePath 3 = .ok (.iconst 4, 1) := by decide +kernel
theorem d_S_takePath_4 : decode b_S_takePath 4 = .ok (.if_icmp .ge 42, 3) := by decide +kernel
theorem d_S_takePath_7 : decode b_S_takePath 7 = .ok (.aload_n 0, 1) := by decide +kernel
theorem d_S_takePath_8 : decode b_S_takePath 8 = .ok (.getfield 11, 3) := by decide +kernel
theorem d_S_takePath_11 : decode b_S_takePath 11 = .ok (.bipush 15, 2) := by decide +kernel
theorem d_S_takePath_13 : decode b_S_takePath 13 = .ok (.iload_n 3, 1) := by decide +kernel
theorem d_S_takePath_14 : decode b_S_takePath 14 = .ok (.iadd, 1) := by decide +kernel
theorem d_S_takePath_15 : decode b_S_takePath 15 = .ok (.iload_n 1, 1) := by decide +kernel
theorem d_S_takePath_16 : decode b_S_takePath 16 = .ok (.iload_n 3, 1) := by decide +kernel
theorem d_S_takePath_17 : decode b_S_takePath 17 = .ok (.ishr, 1) := by decide +kernel
theorem d_S_takePath_18 : decode b_S_takePath 18 = .ok (.iconst 1, 1) := by decide +kernel
theorem d_S_takePath_19 : decode b_S_takePath 19 = .ok (.iand, 1) := by decide +kernel
theorem d_S_takePath_20 : decode b_S_takePath 20 = .ok (.iastore, 1) := by decide +kernel
theorem d_S_takePath_21 : decode b_S_takePath 21 = .ok (.aload_n 0, 1) := by decide +kernel
theorem d_S_takePath_22 : decode b_S_takePath 22 = .ok (.getfield 11, 3) := by decide +kernel
theorem d_S_takePath_25 : decode b_S_takePath 25 = .ok (.bipush 11, 2) := by decide +kernel
theorem d_S_takePath_27 : decode b_S_takePath 27 = .ok (.iload_n 3, 1) := by decide +kernel
theorem d_S_takePath_28 : decode b_S_takePath 28 = .ok (.iadd, 1) := by decide +kernel
theorem d_S_takePath_29 : decode b_S_takePath 29 = .ok (.aload_n 2, 1) := by decide +kernel
theorem d_S_takePath_30 : decode b_S_takePath 30 = .ok (.iload_n 3, 1) := by decide +kernel
theorem d_S_takePath_31 : decode b_S_takePath 31 = .ok (.iload_n 1, 1) := by decide +kernel
theorem d_S_takePath_32 : decode b_S_takePath 32 = .ok (.iload_n 3, 1) := by decide +kernel
theorem d_S_takePath_33 : decode b_S_takePath 33 = .ok (.ishr, 1) := by decide +kernel
theorem d_S_takePath_34 : decode b_S_takePath 34 = .ok (.iconst 1, 1) := by decide +kernel
theorem d_S_takePath_35 : decode b_S_takePath 35 = .ok (.ixor, 1) := by decide +kernel
theorem d_S_takePath_36 : decode b_S_takePath 36 = .ok (.invokevirtual 15, 3) := by decide +kernel
theorem d_S_takePath_39 : decode b_S_takePath 39 = .ok (.iastore, 1) := by decide +kernel
theorem d_S_takePath_40 : decode b_S_takePath 40 = .ok (.iinc 3 1, 3) := by decide +kernel
theorem d_S_takePath_43 : decode b_S_takePath 43 = .ok (.goto (-41), 3) := by decide +kernel
theorem d_S_takePath_46 : decode b_S_takePath 46 = .ok (.return_, 1) := by decide +kernel
theorem d_S_complete_0 : decode b_S_complete 0 = .ok (.bipush 14, 2) := by decide +kernel
theorem d_S_complete_2 : decode b_S_complete 2 = .ok (.istore_n 1, 1) := by decide +kernel
theorem d_S_complete_3 : decode b_S_complete 3 = .ok (.iload_n 1, 1) := by decide +kernel
theorem d_S_complete_4 : decode b_S_complete 4 = .ok (.bipush 115, 2) := by decide +kernel
theorem d_S_complete_6 : decode b_S_complete 6 = .ok (.if_icmp .ge 25, 3) := by decide +kernel
theorem d_S_complete_9 : decode b_S_complete 9 = .ok (.iload_n 1, 1) := by decide +kernel
theorem d_S_complete_10 : decode b_S_complete 10 = .ok (.invokestatic 21, 3) := by decide +kernel
theorem d_S_complete_13 : decode b_S_complete 13 = .ok (.istore_n 2, 1) := by decide +kernel
theorem d_S_complete_14 : decode b_S_complete 14 = .ok (.aload_n 0, 1) := by decide +kernel
theorem d_S_complete_15 : decode b_S_complete 15 = .ok (.getfield 11, 3) := by decide +kernel
theorem d_S_complete_18 : decode b_S_complete 18 = .ok (.iload_n 2, 1) := by decide +kernel
theorem d_S_complete_19 : decode b_S_complete 19 = .ok (.aload_n 0, 1) := by decide +kernel
theorem d_S_complete_20 : decode b_S_complete 20 = .ok (.iload_n 2, 1) := by decide +kernel
theorem d_S_complete_21 : decode b_S_complete 21 = .ok (.invokevirtual 25, 3) := by decide +kernel
theorem d_S_complete_24 : decode b_S_complete 24 = .ok (.iastore, 1) := by decide +kernel
theorem d_S_complete_25 : decode b_S_complete 25 = .ok (.iinc 1 1, 3) := by decide +kernel
theorem d_S_complete_28 : decode b_S_complete 28 = .ok (.goto (-25), 3) := by decide +kernel
theorem d_S_complete_31 : decode b_S_complete 31 = .ok (.return_, 1) := by decide +kernel
theorem d_S_cellOf_0 : decode b_S_cellOf 0 = .ok (.iload_n 0, 1) := by decide +kernel
theorem d_S_cellOf_1 : decode b_S_cellOf 1 = .ok (.iconst 4, 1) := by decide +kernel
theorem d_S_cellOf_2 : decode b_S_cellOf 2 = .ok (.if_icmp .ge 8, 3) := by decide +kernel
theorem d_S_cellOf_5 : decode b_S_cellOf 5 = .ok (.bipush 15, 2) := by decide +kernel
theorem d_S_cellOf_7 : decode b_S_cellOf 7 = .ok (.iload_n 0, 1) := by decide +kernel
theorem d_S_cellOf_8 : decode b_S_cellOf 8 = .ok (.iadd, 1) := by decide +kernel
theorem d_S_cellOf_9 : decode b_S_cellOf 9 = .ok (.ireturn, 1) := by decide +kernel
theorem d_S_cellOf_10 : decode b_S_cellOf 10 = .ok (.iload_n 0, 1) := by decide +kernel
theorem d_S_cellOf_11 : decode b_S_cellOf 11 = .ok (.bipush 12, 2) := by decide +kernel
theorem d_S_cellOf_13 : decode b_S_cellOf 13 = .ok (.if_icmp .ge 10, 3) := by decide +kernel
theorem d_S_cellOf_16 : decode b_S_cellOf 16 = .ok (.bipush 27, 2) := by decide +kernel
theorem d_S_cellOf_18 : decode b_S_cellOf 18 = .ok (.iload_n 0, 1) := by decide +kernel
theorem d_S_cellOf_19 : decode b_S_cellOf 19 = .ok (.iadd, 1) := by decide +kernel
theorem d_S_cellOf_20 : decode b_S_cellOf 20 = .ok (.iconst 4, 1) := by decide +kernel
theorem d_S_cellOf_21 : decode b_S_cellOf 21 = .ok (.isub, 1) := by decide +kernel
theorem d_S_cellOf_22 : decode b_S_cellOf 22 = .ok (.ireturn, 1) := by decide +kernel
theorem d_S_cellOf_23 : decode b_S_cellOf 23 = .ok (.iload_n 0, 1) := by decide +kernel
theorem d_S_cellOf_24 : decode b_S_cellOf 24 = .ok (.bipush 12, 2) := by decide +kernel
theorem d_S_cellOf_26 : decode b_S_cellOf 26 = .ok (.if_icmp .ne 6, 3) := by decide +kernel
theorem d_S_cellOf_29 : decode b_S_cellOf 29 = .ok (.bipush 9, 2) := by decide +kernel
theorem d_S_cellOf_31 : decode b_S_cellOf 31 = .ok (.ireturn, 1) := by decide +kernel
theorem d_S_cellOf_32 : decode b_S_cellOf 32 = .ok (.iload_n 0, 1) := by decide +kernel
theorem d_S_cellOf_33 : decode b_S_cellOf 33 = .ok (.bipush 13, 2) := by decide +kernel
theorem d_S_cellOf_35 : decode b_S_cellOf 35 = .ok (.if_icmp .ne 6, 3) := by decide +kernel
theorem d_S_cellOf_38 : decode b_S_cellOf 38 = .ok (.bipush 6, 2) := by decide +kernel
theorem d_S_cellOf_40 : decode b_S_cellOf 40 = .ok (.ireturn, 1) := by decide +kernel
theorem d_S_cellOf_41 : decode b_S_cellOf 41 = .ok (.iload_n 0, 1) := by decide +kernel
theorem d_S_cellOf_42 : decode b_S_cellOf 42 = .ok (.bipush 41, 2) := by decide +kernel
theorem d_S_cellOf_44 : decode b_S_cellOf 44 = .ok (.if_icmp .ge 11, 3) := by decide +kernel
theorem d_S_cellOf_47 : decode b_S_cellOf 47 = .ok (.bipush 35, 2) := by decide +kernel
theorem d_S_cellOf_49 : decode b_S_cellOf 49 = .ok (.iload_n 0, 1) := by decide +kernel
theorem d_S_cellOf_50 : decode b_S_cellOf 50 = .ok (.iadd, 1) := by decide +kernel
theorem d_S_cellOf_51 : decode b_S_cellOf 51 = .ok (.bipush 14, 2) := by decide +kernel
theorem d_S_cellOf_53 : decode b_S_cellOf 53 = .ok (.isub, 1) := by decide +kernel
theorem d_S_cellOf_54 : decode b_S_cellOf 54 = .ok (.ireturn, 1) := by decide +kernel
theorem d_S_cellOf_55 : decode b_S_cellOf 55 = .ok (.iload_n 0, 1) := by decide +kernel
theorem d_S_cellOf_56 : decode b_S_cellOf 56 = .ok (.bipush 85, 2) := by decide +kernel
theorem d_S_cellOf_58 : decode b_S_cellOf 58 = .ok (.if_icmp .ge 21, 3) := by decide +kernel
theorem d_S_cellOf_61 : decode b_S_cellOf 61 = .ok (.iload_n 0, 1) := by decide +kernel
theorem d_S_cellOf_62 : decode b_S_cellOf 62 = .ok (.bipush 41, 2) := by decide +kernel
theorem d_S_cellOf_64 : decode b_S_cellOf 64 = .ok (.isub, 1) := by decide +kernel
theorem d_S_cellOf_65 : decode b_S_cellOf 65 = .ok (.bipush 11, 2) := by decide +kernel
theorem d_S_cellOf_67 : decode b_S_cellOf 67 = .ok (.idiv, 1) := by decide +kernel
theorem d_S_cellOf_68 : decode b_S_cellOf 68 = .ok (.iload_n 0, 1) := by decide +kernel
theorem d_S_cellOf_69 : decode b_S_cellOf 69 = .ok (.bipush 41, 2) := by decide +kernel
theorem d_S_cellOf_71 : decode b_S_cellOf 71 = .ok (.isub, 1) := by decide +kernel
theorem d_S_cellOf_72 : decode b_S_cellOf 72 = .ok (.bipush 11, 2) := by decide +kernel
theorem d_S_cellOf_74 : decode b_S_cellOf 74 = .ok (.irem, 1) := by decide +kernel
theorem d_S_cellOf_75 : decode b_S_cellOf 75 = .ok (.invokestatic 28, 3) := by decide +kernel
theorem d_S_cellOf_78 : decode b_S_cellOf 78 = .ok (.ireturn, 1) := by decide +kernel
theorem d_S_cellOf_79 : decode b_S_cellOf 79 = .ok (.iload_n 0, 1) := by decide +kernel
theorem d_S_cellOf_80 : decode b_S_cellOf 80 = .ok (.bipush 112, 2) := by decide +kernel
theorem d_S_cellOf_82 : decode b_S_cellOf 82 = .ok (.if_icmp .ge 11, 3) := by decide +kernel
theorem d_S_cellOf_85 : decode b_S_cellOf 85 = .ok (.bipush 98, 2) := by decide +kernel
theorem d_S_cellOf_87 : decode b_S_cellOf 87 = .ok (.iload_n 0, 1) := by decide +kernel
theorem d_S_cellOf_88 : decode b_S_cellOf 88 = .ok (.iadd, 1) := by decide +kernel
theorem d_S_cellOf_89 : decode b_S_cellOf 89 = .ok (.bipush 85, 2) := by decide +kernel
theorem d_S_cellOf_91 : decode b_S_cellOf 91 = .ok (.isub, 1) := by decide +kernel
theorem d_S_cellOf_92 : decode b_S_cellOf 92 = .ok (.ireturn, 1) := by decide +kernel
theorem d_S_cellOf_93 : decode b_S_cellOf 93 = .ok (.iconst 1, 1) := by decide +kernel
theorem d_S_cellOf_94 : decode b_S_cellOf 94 = .ok (.iload_n 0, 1) := by decide +kernel
theorem d_S_cellOf_95 : decode b_S_cellOf 95 = .ok (.iadd, 1) := by decide +kernel
theorem d_S_cellOf_96 : decode b_S_cellOf 96 = .ok (.bipush 112, 2) := by decide +kernel
theorem d_S_cellOf_98 : decode b_S_cellOf 98 = .ok (.isub, 1) := by decide +kernel
theorem d_S_cellOf_99 : decode b_S_cellOf 99 = .ok (.ireturn, 1) := by decide +kernel
theorem d_S_cellOnLevel_0 : decode b_S_cellOnLevel 0 = .ok (.iload_n 1, 1) := by decide +kernel
theorem d_S_cellOnLevel_1 : decode b_S_cellOnLevel 1 = .ok (.ifCond .ne 8, 3) := by decide +kernel
theorem d_S_cellOnLevel_4 : decode b_S_cellOnLevel 4 = .ok (.bipush 19, 2) := by decide +kernel
theorem d_S_cellOnLevel_6 : decode b_S_cellOnLevel 6 = .ok (.iload_n 0, 1) := by decide +kernel
theorem d_S_cellOnLevel_7 : decode b_S_cellOnLevel 7 = .ok (.iadd, 1) := by decide +kernel
theorem d_S_cellOnLevel_8 : decode b_S_cellOnLevel 8 = .ok (.ireturn, 1) := by decide +kernel
theorem d_S_cellOnLevel_9 : decode b_S_cellOnLevel 9 = .ok (.iload_n 1, 1) := by decide +kernel
theorem d_S_cellOnLevel_10 : decode b_S_cellOnLevel 10 = .ok (.iconst 1, 1) := by decide +kernel
theorem d_S_cellOnLevel_11 : decode b_S_cellOnLevel 11 = .ok (.if_icmp .ne 8, 3) := by decide +kernel
theorem d_S_cellOnLevel_14 : decode b_S_cellOnLevel 14 = .ok (.bipush 23, 2) := by decide +kernel
theorem d_S_cellOnLevel_16 : decode b_S_cellOnLevel 16 = .ok (.iload_n 0, 1) := by decide +kernel
theorem d_S_cellOnLevel_17 : decode b_S_cellOnLevel 17 = .ok (.iadd, 1) := by decide +kernel
theorem d_S_cellOnLevel_18 : decode b_S_cellOnLevel 18 = .ok (.ireturn, 1) := by decide +kernel
theorem d_S_cellOnLevel_19 : decode b_S_cellOnLevel 19 = .ok (.bipush 35, 2) := by decide +kernel
theorem d_S_cellOnLevel_21 : decode b_S_cellOnLevel 21 = .ok (.iconst 3, 1) := by decide +kernel
theorem d_S_cellOnLevel_22 : decode b_S_cellOnLevel 22 = .ok (.iload_n 0, 1) := by decide +kernel
theorem d_S_cellOnLevel_23 : decode b_S_cellOnLevel 23 = .ok (.iadd, 1) := by decide +kernel
theorem d_S_cellOnLevel_24 : decode b_S_cellOnLevel 24 = .ok (.bipush 9, 2) := by decide +kernel
theorem d_S_cellOnLevel_26 : decode b_S_cellOnLevel 26 = .ok (.imul, 1) := by decide +kernel
theorem d_S_cellOnLevel_27 : decode b_S_cellOnLevel 27 = .ok (.iadd, 1) := by decide +kernel
theorem d_S_cellOnLevel_28 : decode b_S_cellOnLevel 28 = .ok (.iload_n 1, 1) := by decide +kernel
theorem d_S_cellOnLevel_29 : decode b_S_cellOnLevel 29 = .ok (.iadd, 1) := by decide +kernel
theorem d_S_cellOnLevel_30 : decode b_S_cellOnLevel 30 = .ok (.iconst 2, 1) := by decide +kernel
theorem d_S_cellOnLevel_31 : decode b_S_cellOnLevel 31 = .ok (.isub, 1) := by decide +kernel
theorem d_S_cellOnLevel_32 : decode b_S_cellOnLevel 32 = .ok (.ireturn, 1) := by decide +kernel
theorem d_S_dueIn_0 : decode b_S_dueIn 0 = .ok (.iload_n 1, 1) := by decide +kernel
theorem d_S_dueIn_1 : decode b_S_dueIn 1 = .ok (.bipush 35, 2) := by decide +kernel
theorem d_S_dueIn_3 : decode b_S_dueIn 3 = .ok (.if_icmp .lt 22, 3) := by decide +kernel
theorem d_S_dueIn_6 : decode b_S_dueIn 6 = .ok (.aload_n 0, 1) := by decide +kernel
theorem d_S_dueIn_7 : decode b_S_dueIn 7 = .ok (.iload_n 1, 1) := by decide +kernel
theorem d_S_dueIn_8 : decode b_S_dueIn 8 = .ok (.bipush 35, 2) := by decide +kernel
theorem d_S_dueIn_10 : decode b_S_dueIn 10 = .ok (.isub, 1) := by decide +kernel
theorem d_S_dueIn_11 : decode b_S_dueIn 11 = .ok (.bipush 9, 2) := by decide +kernel
theorem d_S_dueIn_13 : decode b_S_dueIn 13 = .ok (.idiv, 1) := by decide +kernel
theorem d_S_dueIn_14 : decode b_S_dueIn 14 = .ok (.iload_n 1, 1) := by decide +kernel
theorem d_S_dueIn_15 : decode b_S_dueIn 15 = .ok (.bipush 35, 2) := by decide +kernel
theorem d_S_dueIn_17 : decode b_S_dueIn 17 = .ok (.isub, 1) := by decide +kernel
theorem d_S_dueIn_18 : decode b_S_dueIn 18 = .ok (.bipush 9, 2) := by decide +kernel
theorem d_S_dueIn_20 : decode b_S_dueIn 20 = .ok (.irem, 1) := by decide +kernel
theorem d_S_dueIn_21 : decode b_S_dueIn 21 = .ok (.invokevirtual 31, 3) := by decide +kernel
theorem d_S_dueIn_24 : decode b_S_dueIn 24 = .ok (.ireturn, 1) := by decide +kernel
theorem d_S_dueIn_25 : decode b_S_dueIn 25 = .ok (.iload_n 1, 1) := by decide +kernel
theorem d_S_dueIn_26 : decode b_S_dueIn 26 = .ok (.bipush 27, 2) := by decide +kernel
theorem d_S_dueIn_28 : decode b_S_dueIn 28 = .ok (.if_icmp .lt 19, 3) := by decide +kernel
theorem d_S_dueIn_31 : decode b_S_dueIn 31 = .ok (.aload_n 0, 1) := by decide +kernel
theorem d_S_dueIn_32 : decode b_S_dueIn 32 = .ok (.getfield 11, 3) := by decide +kernel
theorem d_S_dueIn_35 : decode b_S_dueIn 35 = .ok (.iload_n 1, 1) := by decide +kernel
theorem d_S_dueIn_36 : decode b_S_dueIn 36 = .ok (.iaload, 1) := by decide +kernel
theorem d_S_dueIn_37 : decode b_S_dueIn 37 = .ok (.aload_n 0, 1) := by decide +kernel
theorem d_S_dueIn_38 : decode b_S_dueIn 38 = .ok (.getfield 11, 3) := by decide +kernel
theorem d_S_dueIn_41 : decode b_S_dueIn 41 = .ok (.iload_n 1, 1) := by decide +kernel
theorem d_S_dueIn_42 : decode b_S_dueIn 42 = .ok (.iaload, 1) := by decide +kernel
theorem d_S_dueIn_43 : decode b_S_dueIn 43 = .ok (.invokestatic 34, 3) := by decide +kernel
theorem d_S_dueIn_46 : decode b_S_dueIn 46 = .ok (.ireturn, 1) := by decide +kernel
theorem d_S_dueIn_47 : decode b_S_dueIn 47 = .ok (.iload_n 1, 1) := by decide +kernel
theorem d_S_dueIn_48 : decode b_S_dueIn 48 = .ok (.bipush 23, 2) := by decide +kernel
theorem d_S_dueIn_50 : decode b_S_dueIn 50 = .ok (.if_icmp .lt 12, 3) := by decide +kernel
theorem d_S_dueIn_53 : decode b_S_dueIn 53 = .ok (.aload_n 0, 1) := by decide +kernel
theorem d_S_dueIn_54 : decode b_S_dueIn 54 = .ok (.iload_n 1, 1) := by decide +kernel
theorem d_S_dueIn_55 : decode b_S_dueIn 55 = .ok (.bipush 23, 2) := by decide +kernel
theorem d_S_dueIn_57 : decode b_S_dueIn 57 = .ok (.isub, 1) := by decide +kernel
theorem d_S_dueIn_58 : decode b_S_dueIn 58 = .ok (.invokevirtual 37, 3) := by decide +kernel
theorem d_S_dueIn_61 : decode b_S_dueIn 61 = .ok (.ireturn, 1) := by decide +kernel
theorem d_S_dueIn_62 : decode b_S_dueIn 62 = .ok (.iload_n 1, 1) := by decide +kernel
theorem d_S_dueIn_63 : decode b_S_dueIn 63 = .ok (.bipush 19, 2) := by decide +kernel
theorem d_S_dueIn_65 : decode b_S_dueIn 65 = .ok (.if_icmp .lt 12, 3) := by decide +kernel
theorem d_S_dueIn_68 : decode b_S_dueIn 68 = .ok (.aload_n 0, 1) := by decide +kernel
theorem d_S_dueIn_69 : decode b_S_dueIn 69 = .ok (.iload_n 1, 1) := by decide +kernel
theorem d_S_dueIn_70 : decode b_S_dueIn 70 = .ok (.bipush 19, 2) := by decide +kernel
theorem d_S_dueIn_72 : decode b_S_dueIn 72 = .ok (.isub, 1) := by decide +kernel
theorem d_S_dueIn_73 : decode b_S_dueIn 73 = .ok (.invokevirtual 40, 3) := by decide +kernel
theorem d_S_dueIn_76 : decode b_S_dueIn 76 = .ok (.ireturn, 1) := by decide +kernel
theorem d_S_dueIn_77 : decode b_S_dueIn 77 = .ok (.iload_n 1, 1) := by decide +kernel
theorem d_S_dueIn_78 : decode b_S_dueIn 78 = .ok (.bipush 15, 2) := by decide +kernel
theorem d_S_dueIn_80 : decode b_S_dueIn 80 = .ok (.if_icmp .lt 19, 3) := by decide +kernel
theorem d_S_dueIn_83 : decode b_S_dueIn 83 = .ok (.aload_n 0, 1) := by decide +kernel
theorem d_S_dueIn_84 : decode b_S_dueIn 84 = .ok (.getfield 11, 3) := by decide +kernel
theorem d_S_dueIn_87 : decode b_S_dueIn 87 = .ok (.iload_n 1, 1) := by decide +kernel
theorem d_S_dueIn_88 : decode b_S_dueIn 88 = .ok (.iaload, 1) := by decide +kernel
theorem d_S_dueIn_89 : decode b_S_dueIn 89 = .ok (.aload_n 0, 1) := by decide +kernel
theorem d_S_dueIn_90 : decode b_S_dueIn 90 = .ok (.getfield 11, 3) := by decide +kernel
theorem d_S_dueIn_93 : decode b_S_dueIn 93 = .ok (.iload_n 1, 1) := by decide +kernel
theorem d_S_dueIn_94 : decode b_S_dueIn 94 = .ok (.iaload, 1) := by decide +kernel
theorem d_S_dueIn_95 : decode b_S_dueIn 95 = .ok (.invokestatic 34, 3) := by decide +kernel
theorem d_S_dueIn_98 : decode b_S_dueIn 98 = .ok (.ireturn, 1) := by decide +kernel
theorem d_S_dueIn_99 : decode b_S_dueIn 99 = .ok (.iload_n 1, 1) := by decide +kernel
theorem d_S_dueIn_100 : decode b_S_dueIn 100 = .ok (.tableswitch 95 1 9 #[74, 81, 88, 95, 95, 57, 95, 95, 52], 52) := by decide +kernel
theorem d_S_dueIn_152 : decode b_S_dueIn 152 = .ok (.aload_n 0, 1) := by decide +kernel
theorem d_S_dueIn_153 : decode b_S_dueIn 153 = .ok (.invokevirtual 43, 3) := by decide +kernel
theorem d_S_dueIn_156 : decode b_S_dueIn 156 = .ok (.ireturn, 1) := by decide +kernel
theorem d_S_dueIn_157 : decode b_S_dueIn 157 = .ok (.aload_n 0, 1) := by decide +kernel
theorem d_S_dueIn_158 : decode b_S_dueIn 158 = .ok (.getfield 11, 3) := by decide +kernel
theorem d_S_dueIn_161 : decode b_S_dueIn 161 = .ok (.bipush 9, 2) := by decide +kernel
theorem d_S_dueIn_163 : decode b_S_dueIn 163 = .ok (.iaload, 1) := by decide +kernel
theorem d_S_dueIn_164 : decode b_S_dueIn 164 = .ok (.aload_n 0, 1) := by decide +kernel
theorem d_S_dueIn_165 : decode b_S_dueIn 165 = .ok (.getfield 11, 3) := by decide +kernel
theorem d_S_dueIn_168 : decode b_S_dueIn 168 = .ok (.iconst 4, 1) := by decide +kernel
theorem d_S_dueIn_169 : decode b_S_dueIn 169 = .ok (.iaload, 1) := by decide +kernel
theorem d_S_dueIn_170 : decode b_S_dueIn 170 = .ok (.invokestatic 47, 3) := by decide +kernel
theorem d_S_dueIn_173 : decode b_S_dueIn 173 = .ok (.ireturn, 1) := by decide +kernel
theorem d_S_dueIn_174 : decode b_S_dueIn 174 = .ok (.aload_n 0, 1) := by decide +kernel
theorem d_S_dueIn_175 : decode b_S_dueIn 175 = .ok (.bipush 6, 2) := by decide +kernel
theorem d_S_dueIn_177 : decode b_S_dueIn 177 = .ok (.invokevirtual 50, 3) := by decide +kernel
theorem d_S_dueIn_180 : decode b_S_dueIn 180 = .ok (.ireturn, 1) := by decide +kernel
theorem d_S_dueIn_181 : decode b_S_dueIn 181 = .ok (.aload_n 0, 1) := by decide +kernel
theorem d_S_dueIn_182 : decode b_S_dueIn 182 = .ok (.bipush 7, 2) := by decide +kernel
theorem d_S_dueIn_184 : decode b_S_dueIn 184 = .ok (.invokevirtual 50, 3) := by decide +kernel
theorem d_S_dueIn_187 : decode b_S_dueIn 187 = .ok (.ireturn, 1) := by decide +kernel
theorem d_S_dueIn_188 : decode b_S_dueIn 188 = .ok (.aload_n 0, 1) := by decide +kernel
theorem d_S_dueIn_189 : decode b_S_dueIn 189 = .ok (.bipush 9, 2) := by decide +kernel
theorem d_S_dueIn_191 : decode b_S_dueIn 191 = .ok (.invokevirtual 50, 3) := by decide +kernel
theorem d_S_dueIn_194 : decode b_S_dueIn 194 = .ok (.ireturn, 1) := by decide +kernel
theorem d_S_dueIn_195 : decode b_S_dueIn 195 = .ok (.aload_n 0, 1) := by decide +kernel
theorem d_S_dueIn_196 : decode b_S_dueIn 196 = .ok (.getfield 11, 3) := by decide +kernel
theorem d_S_dueIn_199 : decode b_S_dueIn 199 = .ok (.iload_n 1, 1) := by decide +kernel
theorem d_S_dueIn_200 : decode b_S_dueIn 200 = .ok (.iaload, 1) := by decide +kernel
theorem d_S_dueIn_201 : decode b_S_dueIn 201 = .ok (.ireturn, 1) := by decide +kernel
theorem d_S_dueInBlock_0 : decode b_S_dueInBlock 0 = .ok (.bipush 35, 2) := by decide +kernel
theorem d_S_dueInBlock_2 : decode b_S_dueInBlock 2 = .ok (.iload_n 1, 1) := by decide +kernel
theorem d_S_dueInBlock_3 : decode b_S_dueInBlock 3 = .ok (.bipush 9, 2) := by decide +kernel
theorem d_S_dueInBlock_5 : decode b_S_dueInBlock 5 = .ok (.imul, 1) := by decide +kernel
theorem d_S_dueInBlock_6 : decode b_S_dueInBlock 6 = .ok (.iadd, 1) := by decide +kernel
theorem d_S_dueInBlock_7 : decode b_S_dueInBlock 7 = .ok (.istore_n 3, 1) := by decide +kernel
theorem d_S_dueInBlock_8 : decode b_S_dueInBlock 8 = .ok (.aload_n 0, 1) := by decide +kernel
theorem d_S_dueInBlock_9 : decode b_S_dueInBlock 9 = .ok (.getfield 11, 3) := by decide +kernel
theorem d_S_dueInBlock_12 : decode b_S_dueInBlock 12 = .ok (.getstatic 56, 3) := by decide +kernel
theorem d_S_dueInBlock_15 : decode b_S_dueInBlock 15 = .ok (.iload_n 1, 1) := by decide +kernel
theorem d_S_dueInBlock_16 : decode b_S_dueInBlock 16 = .ok (.iaload, 1) := by decide +kernel
theorem d_S_dueInBlock_17 : decode b_S_dueInBlock 17 = .ok (.iaload, 1) := by decide +kernel
theorem d_S_dueInBlock_18 : decode b_S_dueInBlock 18 = .ok (.istore 4, 2) := by decide +kernel
theorem d_S_dueInBlock_20 : decode b_S_dueInBlock 20 = .ok (.iload_n 1, 1) := by decide +kernel
theorem d_S_dueInBlock_21 : decode b_S_dueInBlock 21 = .ok (.ifCond .ne 7, 3) := by decide +kernel
theorem d_S_dueInBlock_24 : decode b_S_dueInBlock 24 = .ok (.iconst 0, 1) := by decide +kernel
theorem d_S_dueInBlock_25 : decode b_S_dueInBlock 25 = .ok (.goto 13, 3) := by decide +kernel
theorem d_S_dueInBlock_28 : decode b_S_dueInBlock 28 = .ok (.aload_n 0, 1) := by decide +kernel
theorem d_S_dueInBlock_29 : decode b_S_dueInBlock 29 = .ok (.getfield 11, 3) := by decide +kernel
theorem d_S_dueInBlock_32 : decode b_S_dueInBlock 32 = .ok (.getstatic 59, 3) := by decide +kernel
theorem d_S_dueInBlock_35 : decode b_S_dueInBlock 35 = .ok (.iload_n 1, 1) := by decide +kernel
theorem d_S_dueInBlock_36 : decode b_S_dueInBlock 36 = .ok (.iaload, 1) := by decide +kernel
theorem d_S_dueInBlock_37 : decode b_S_dueInBlock 37 = .ok (.iaload, 1) := by decide +kernel
theorem d_S_dueInBlock_38 : decode b_S_dueInBlock 38 = .ok (.istore 5, 2) := by decide +kernel
theorem d_S_dueInBlock_40 : decode b_S_dueInBlock 40 = .ok (.iload_n 2, 1) := by decide +kernel
theorem d_S_dueInBlock_41 : decode b_S_dueInBlock 41 = .ok (.bipush 8, 2) := by decide +kernel
theorem d_S_dueInBlock_43 : decode b_S_dueInBlock 43 = .ok (.if_icmp .ne 24, 3) := by decide +kernel
theorem d_S_dueInBlock_46 : decode b_S_dueInBlock 46 = .ok (.aload_n 0, 1) := by decide +kernel
theorem d_S_dueInBlock_47 : decode b_S_dueInBlock 47 = .ok (.getfield 11, 3) := by decide +kernel
theorem d_S_dueInBlock_50 : decode b_S_dueInBlock 50 = .ok (.iload_n 3, 1) := by decide +kernel
theorem d_S_dueInBlock_51 : decode b_S_dueInBlock 51 = .ok (.iload_n 2, 1) := by decide +kernel
theorem d_S_dueInBlock_52 : decode b_S_dueInBlock 52 = .ok (.iadd, 1) := by decide +kernel
theorem d_S_dueInBlock_53 : decode b_S_dueInBlock 53 = .ok (.iconst 1, 1) := by decide +kernel
theorem d_S_dueInBlock_54 : decode b_S_dueInBlock 54 = .ok (.isub, 1) := by decide +kernel
theorem d_S_dueInBlock_55 : decode b_S_dueInBlock 55 = .ok (.iaload, 1) := by decide +kernel
theorem d_S_dueInBlock_56 : decode b_S_dueInBlock 56 = .ok (.iload 4, 2) := by decide +kernel
theorem d_S_dueInBlock_58 : decode b_S_dueInBlock 58 = .ok (.invokestatic 47, 3) := by decide +kernel
theorem d_S_dueInBlock_61 : decode b_S_dueInBlock 61 = .ok (.iload 5, 2) := by decide +kernel
theorem d_S_dueInBlock_63 : decode b_S_dueInBlock 63 = .ok (.invokestatic 47, 3) := by decide +kernel
theorem d_S_dueInBlock_66 : decode b_S_dueInBlock 66 = .ok (.ireturn, 1) := by decide +kernel
theorem d_S_dueInBlock_67 : decode b_S_dueInBlock 67 = .ok (.iload_n 2, 1) := by decide +kernel
theorem d_S_dueInBlock_68 : decode b_S_dueInBlock 68 = .ok (.iconst 2, 1) := by decide +kernel
theorem d_S_dueInBlock_69 : decode b_S_dueInBlock 69 = .ok (.idiv, 1) := by decide +kernel
theorem d_S_dueInBlock_70 : decode b_S_dueInBlock 70 = .ok (.istore 6, 2) := by decide +kernel
theorem d_S_dueInBlock_72 : decode b_S_dueInBlock 72 = .ok (.iload 6, 2) := by decide +kernel
theorem d_S_dueInBlock_74 : decode b_S_dueInBlock 74 = .ok (.ifCond .ne 8, 3) := by decide +kernel
theorem d_S_dueInBlock_77 : decode b_S_dueInBlock 77 = .ok (.iload 4, 2) := by decide +kernel
theorem d_S_dueInBlock_79 : decode b_S_dueInBlock 79 = .ok (.goto 16, 3) := by decide +kernel
theorem d_S_dueInBlock_82 : decode b_S_dueInBlock 82 = .ok (.aload_n 0, 1) := by decide +kernel
theorem d_S_dueInBlock_83 : decode b_S_dueInBlock 83 = .ok (.getfield 11, 3) := by decide +kernel
theorem d_S_dueInBlock_86 : decode b_S_dueInBlock 86 = .ok (.iload_n 3, 1) := by decide +kernel
theorem d_S_dueInBlock_87 : decode b_S_dueInBlock 87 = .ok (.iconst 2, 1) := by decide +kernel
theorem d_S_dueInBlock_88 : decode b_S_dueInBlock 88 = .ok (.iload 6, 2) := by decide +kernel
theorem d_S_dueInBlock_90 : decode b_S_dueInBlock 90 = .ok (.imul, 1) := by decide +kernel
theorem d_S_dueInBlock_91 : decode b_S_dueInBlock 91 = .ok (.iadd, 1) := by decide +kernel
theorem d_S_dueInBlock_92 : decode b_S_dueInBlock 92 = .ok (.iconst 1, 1) := by decide +kernel
theorem d_S_dueInBlock_93 : decode b_S_dueInBlock 93 = .ok (.isub, 1) := by decide +kernel
theorem d_S_dueInBlock_94 : decode b_S_dueInBlock 94 = .ok (.iaload, 1) := by decide +kernel
theorem d_S_dueInBlock_95 : decode b_S_dueInBlock 95 = .ok (.istore 7, 2) := by decide +kernel
theorem d_S_dueInBlock_97 : decode b_S_dueInBlock 97 = .ok (.iload 7, 2) := by decide +kernel
theorem d_S_dueInBlock_99 : decode b_S_dueInBlock 99 = .ok (.iload 5, 2) := by decide +kernel
theorem d_S_dueInBlock_101 : decode b_S_dueInBlock 101 = .ok (.invokestatic 47, 3) := by decide +kernel
theorem d_S_dueInBlock_104 : decode b_S_dueInBlock 104 = .ok (.getstatic 62, 3) := by decide +kernel
theorem d_S_dueInBlock_107 : decode b_S_dueInBlock 107 = .ok (.iload 6, 2) := by decide +kernel
theorem d_S_dueInBlock_109 : decode b_S_dueInBlock 109 = .ok (.iaload, 1) := by decide +kernel
theorem d_S_dueInBlock_110 : decode b_S_dueInBlock 110 = .ok (.invokestatic 47, 3) := by decide +kernel
theorem d_S_dueInBlock_113 : decode b_S_dueInBlock 113 = .ok (.istore 8, 2) := by decide +kernel
theorem d_S_dueInBlock_115 : decode b_S_dueInBlock 115 = .ok (.iload_n 2, 1) := by decide +kernel
theorem d_S_dueInBlock_116 : decode b_S_dueInBlock 116 = .ok (.iconst 2, 1) := by decide +kernel
theorem d_S_dueInBlock_117 : decode b_S_dueInBlock 117 = .ok (.irem, 1) := by decide +kernel
theorem d_S_dueInBlock_118 : decode b_S_dueInBlock 118 = .ok (.ifCond .ne 8, 3) := by decide +kernel
theorem d_S_dueInBlock_121 : decode b_S_dueInBlock 121 = .ok (.iload 8, 2) := by decide +kernel
theorem d_S_dueInBlock_123 : decode b_S_dueInBlock 123 = .ok (.goto 13, 3) := by decide +kernel
theorem d_S_dueInBlock_126 : decode b_S_dueInBlock 126 = .ok (.aload_n 0, 1) := by decide +kernel
theorem d_S_dueInBlock_127 : decode b_S_dueInBlock 127 = .ok (.getfield 11, 3) := by decide +kernel
theorem d_S_dueInBlock_130 : decode b_S_dueInBlock 130 = .ok (.iload_n 3, 1) := by decide +kernel
theorem d_S_dueInBlock_131 : decode b_S_dueInBlock 131 = .ok (.iload_n 2, 1) := by decide +kernel
theorem d_S_dueInBlock_132 : decode b_S_dueInBlock 132 = .ok (.iadd, 1) := by decide +kernel
theorem d_S_dueInBlock_133 : decode b_S_dueInBlock 133 = .ok (.iconst 1, 1) := by decide +kernel
theorem d_S_dueInBlock_134 : decode b_S_dueInBlock 134 = .ok (.isub, 1) := by decide +kernel
theorem d_S_dueInBlock_135 : decode b_S_dueInBlock 135 = .ok (.iaload, 1) := by decide +kernel
theorem d_S_dueInBlock_136 : decode b_S_dueInBlock 136 = .ok (.iload 8, 2) := by decide +kernel
theorem d_S_dueInBlock_138 : decode b_S_dueInBlock 138 = .ok (.invokestatic 34, 3) := by decide +kernel
theorem d_S_dueInBlock_141 : decode b_S_dueInBlock 141 = .ok (.ireturn, 1) := by decide +kernel
theorem d_S_dueRight_0 : decode b_S_dueRight 0 = .ok (.aload_n 0, 1) := by decide +kernel
theorem d_S_dueRight_1 : decode b_S_dueRight 1 = .ok (.iconst 2, 1) := by decide +kernel
theorem d_S_dueRight_2 : decode b_S_dueRight 2 = .ok (.iload_n 1, 1) := by decide +kernel
theorem d_S_dueRight_3 : decode b_S_dueRight 3 = .ok (.iadd, 1) := by decide +kernel
theorem d_S_dueRight_4 : decode b_S_dueRight 4 = .ok (.invokevirtual 50, 3) := by decide +kernel
theorem d_S_dueRight_7 : decode b_S_dueRight 7 = .ok (.aload_n 0, 1) := by decide +kernel
theorem d_S_dueRight_8 : decode b_S_dueRight 8 = .ok (.getfield 11, 3) := by decide +kernel
theorem d_S_dueRight_11 : decode b_S_dueRight 11 = .ok (.bipush 11, 2) := by decide +kernel
theorem d_S_dueRight_13 : decode b_S_dueRight 13 = .ok (.iload_n 1, 1) := by decide +kernel
theorem d_S_dueRight_14 : decode b_S_dueRight 14 = .ok (.iadd, 1) := by decide +kernel
theorem d_S_dueRight_15 : decode b_S_dueRight 15 = .ok (.iaload, 1) := by decide +kernel
theorem d_S_dueRight_16 : decode b_S_dueRight 16 = .ok (.invokestatic 47, 3) := by decide +kernel
theorem d_S_dueRight_19 : decode b_S_dueRight 19 = .ok (.istore_n 2, 1) := by decide +kernel
theorem d_S_dueRight_20 : decode b_S_dueRight 20 = .ok (.iload_n 2, 1) := by decide +kernel
theorem d_S_dueRight_21 : decode b_S_dueRight 21 = .ok (.aload_n 0, 1) := by decide +kernel
theorem d_S_dueRight_22 : decode b_S_dueRight 22 = .ok (.getfield 11, 3) := by decide +kernel
theorem d_S_dueRight_25 : decode b_S_dueRight 25 = .ok (.bipush 19, 2) := by decide +kernel
theorem d_S_dueRight_27 : decode b_S_dueRight 27 = .ok (.iload_n 1, 1) := by decide +kernel
theorem d_S_dueRight_28 : decode b_S_dueRight 28 = .ok (.iadd, 1) := by decide +kernel
theorem d_S_dueRight_29 : decode b_S_dueRight 29 = .ok (.iaload, 1) := by decide +kernel
theorem d_S_dueRight_30 : decode b_S_dueRight 30 = .ok (.invokestatic 53, 3) := by decide +kernel
theorem d_S_dueRight_33 : decode b_S_dueRight 33 = .ok (.ireturn, 1) := by decide +kernel
theorem d_S_resultOf_0 : decode b_S_resultOf 0 = .ok (.aload_n 0, 1) := by decide +kernel
theorem d_S_resultOf_1 : decode b_S_resultOf 1 = .ok (.getfield 11, 3) := by decide +kernel
theorem d_S_resultOf_4 : decode b_S_resultOf 4 = .ok (.bipush 35, 2) := by decide +kernel
theorem d_S_resultOf_6 : decode b_S_resultOf 6 = .ok (.iload_n 1, 1) := by decide +kernel
theorem d_S_resultOf_7 : decode b_S_resultOf 7 = .ok (.bipush 9, 2) := by decide +kernel
theorem d_S_resultOf_9 : decode b_S_resultOf 9 = .ok (.imul, 1) := by decide +kernel
theorem d_S_resultOf_10 : decode b_S_resultOf 10 = .ok (.iadd, 1) := by decide +kernel
theorem d_S_resultOf_11 : decode b_S_resultOf 11 = .ok (.bipush 9, 2) := by decide +kernel
theorem d_S_resultOf_13 : decode b_S_resultOf 13 = .ok (.iadd, 1) := by decide +kernel
theorem d_S_resultOf_14 : decode b_S_resultOf 14 = .ok (.iconst 1, 1) := by decide +kernel
theorem d_S_resultOf_15 : decode b_S_resultOf 15 = .ok (.isub, 1) := by decide +kernel
theorem d_S_resultOf_16 : decode b_S_resultOf 16 = .ok (.iaload, 1) := by decide +kernel
theorem d_S_resultOf_17 : decode b_S_resultOf 17 = .ok (.ireturn, 1) := by decide +kernel
theorem d_S_dueLeft_0 : decode b_S_dueLeft 0 = .ok (.aload_n 0, 1) := by decide +kernel
theorem d_S_dueLeft_1 : decode b_S_dueLeft 1 = .ok (.iconst 2, 1) := by decide +kernel
theorem d_S_dueLeft_2 : decode b_S_dueLeft 2 = .ok (.iload_n 1, 1) := by decide +kernel
theorem d_S_dueLeft_3 : decode b_S_dueLeft 3 = .ok (.iadd, 1) := by decide +kernel
theorem d_S_dueLeft_4 : decode b_S_dueLeft 4 = .ok (.invokevirtual 50, 3) := by decide +kernel
theorem d_S_dueLeft_7 : decode b_S_dueLeft 7 = .ok (.istore_n 2, 1) := by decide +kernel
theorem d_S_dueLeft_8 : decode b_S_dueLeft 8 = .ok (.aload_n 0, 1) := by decide +kernel
theorem d_S_dueLeft_9 : decode b_S_dueLeft 9 = .ok (.getfield 11, 3) := by decide +kernel
theorem d_S_dueLeft_12 : decode b_S_dueLeft 12 = .ok (.bipush 11, 2) := by decide +kernel
theorem d_S_dueLeft_14 : decode b_S_dueLeft 14 = .ok (.iload_n 1, 1) := by decide +kernel
theorem d_S_dueLeft_15 : decode b_S_dueLeft 15 = .ok (.iadd, 1) := by decide +kernel
theorem d_S_dueLeft_16 : decode b_S_dueLeft 16 = .ok (.iaload, 1) := by decide +kernel
theorem d_S_dueLeft_17 : decode b_S_dueLeft 17 = .ok (.iload_n 2, 1) := by decide +kernel
theorem d_S_dueLeft_18 : decode b_S_dueLeft 18 = .ok (.invokestatic 53, 3) := by decide +kernel
theorem d_S_dueLeft_21 : decode b_S_dueLeft 21 = .ok (.istore_n 3, 1) := by decide +kernel
theorem d_S_dueLeft_22 : decode b_S_dueLeft 22 = .ok (.iload_n 2, 1) := by decide +kernel
theorem d_S_dueLeft_23 : decode b_S_dueLeft 23 = .ok (.aload_n 0, 1) := by decide +kernel
theorem d_S_dueLeft_24 : decode b_S_dueLeft 24 = .ok (.getfield 11, 3) := by decide +kernel
theorem d_S_dueLeft_27 : decode b_S_dueLeft 27 = .ok (.bipush 15, 2) := by decide +kernel
theorem d_S_dueLeft_29 : decode b_S_dueLeft 29 = .ok (.iload_n 1, 1) := by decide +kernel
theorem d_S_dueLeft_30 : decode b_S_dueLeft 30 = .ok (.iadd, 1) := by decide +kernel
theorem d_S_dueLeft_31 : decode b_S_dueLeft 31 = .ok (.iaload, 1) := by decide +kernel
theorem d_S_dueLeft_32 : decode b_S_dueLeft 32 = .ok (.iload_n 3, 1) := by decide +kernel
theorem d_S_dueLeft_33 : decode b_S_dueLeft 33 = .ok (.invokestatic 34, 3) := by decide +kernel
theorem d_S_dueLeft_36 : decode b_S_dueLeft 36 = .ok (.invokestatic 47, 3) := by decide +kernel
theorem d_S_dueLeft_39 : decode b_S_dueLeft 39 = .ok (.ireturn, 1) := by decide +kernel
theorem d_S_sumOfBits_0 : decode b_S_sumOfBits 0 = .ok (.iconst 0, 1) := by decide +kernel
theorem d_S_sumOfBits_1 : decode b_S_sumOfBits 1 = .ok (.istore_n 1, 1) := by decide +kernel
theorem d_S_sumOfBits_2 : decode b_S_sumOfBits 2 = .ok (.iconst 0, 1) := by decide +kernel
theorem d_S_sumOfBits_3 : decode b_S_sumOfBits 3 = .ok (.istore_n 2, 1) := by decide +kernel
theorem d_S_sumOfBits_4 : decode b_S_sumOfBits 4 = .ok (.iload_n 2, 1) := by decide +kernel
theorem d_S_sumOfBits_5 : decode b_S_sumOfBits 5 = .ok (.bipush 8, 2) := by decide +kernel
theorem d_S_sumOfBits_7 : decode b_S_sumOfBits 7 = .ok (.if_icmp .ge 29, 3) := by decide +kernel
theorem d_S_sumOfBits_10 : decode b_S_sumOfBits 10 = .ok (.iload_n 1, 1) := by decide +kernel
theorem d_S_sumOfBits_11 : decode b_S_sumOfBits 11 = .ok (.iconst 1, 1) := by decide +kernel
theorem d_S_sumOfBits_12 : decode b_S_sumOfBits 12 = .ok (.iload_n 2, 1) := by decide +kernel
theorem d_S_sumOfBits_13 : decode b_S_sumOfBits 13 = .ok (.ishl, 1) := by decide +kernel
theorem d_S_sumOfBits_14 : decode b_S_sumOfBits 14 = .ok (.aload_n 0, 1) := by decide +kernel
theorem d_S_sumOfBits_15 : decode b_S_sumOfBits 15 = .ok (.getfield 11, 3) := by decide +kernel
theorem d_S_sumOfBits_18 : decode b_S_sumOfBits 18 = .ok (.bipush 27, 2) := by decide +kernel
theorem d_S_sumOfBits_20 : decode b_S_sumOfBits 20 = .ok (.iload_n 2, 1) := by decide +kernel
theorem d_S_sumOfBits_21 : decode b_S_sumOfBits 21 = .ok (.iadd, 1) := by decide +kernel
theorem d_S_sumOfBits_22 : decode b_S_sumOfBits 22 = .ok (.iaload, 1) := by decide +kernel
theorem d_S_sumOfBits_23 : decode b_S_sumOfBits 23 = .ok (.invokestatic 34, 3) := by decide +kernel
theorem d_S_sumOfBits_26 : decode b_S_sumOfBits 26 = .ok (.invokestatic 47, 3) := by decide +kernel
theorem d_S_sumOfBits_29 : decode b_S_sumOfBits 29 = .ok (.istore_n 1, 1) := by decide +kernel
theorem d_S_sumOfBits_30 : decode b_S_sumOfBits 30 = .ok (.iinc 2 1, 3) := by decide +kernel
theorem d_S_sumOfBits_33 : decode b_S_sumOfBits 33 = .ok (.goto (-29), 3) := by decide +kernel
theorem d_S_sumOfBits_36 : decode b_S_sumOfBits 36 = .ok (.iload_n 1, 1) := by decide +kernel
theorem d_S_sumOfBits_37 : decode b_S_sumOfBits 37 = .ok (.ireturn, 1) := by decide +kernel
theorem d_S_firstFault_0 : decode b_S_firstFault 0 = .ok (.iconst 0, 1) := by decide +kernel
theorem d_S_firstFault_1 : decode b_S_firstFault 1 = .ok (.istore_n 1, 1) := by decide +kernel
theorem d_S_firstFault_2 : decode b_S_firstFault 2 = .ok (.iload_n 1, 1) := by decide +kernel
theorem d_S_firstFault_3 : decode b_S_firstFault 3 = .ok (.bipush 115, 2) := by decide +kernel
theorem d_S_firstFault_5 : decode b_S_firstFault 5 = .ok (.if_icmp .ge 30, 3) := by decide +kernel
theorem d_S_firstFault_8 : decode b_S_firstFault 8 = .ok (.iload_n 1, 1) := by decide +kernel
theorem d_S_firstFault_9 : decode b_S_firstFault 9 = .ok (.invokestatic 21, 3) := by decide +kernel
theorem d_S_firstFault_12 : decode b_S_firstFault 12 = .ok (.istore_n 2, 1) := by decide +kernel
theorem d_S_firstFault_13 : decode b_S_firstFault 13 = .ok (.aload_n 0, 1) := by decide +kernel
theorem d_S_firstFault_14 : decode b_S_firstFault 14 = .ok (.getfield 11, 3) := by decide +kernel
theorem d_S_firstFault_17 : decode b_S_firstFault 17 = .ok (.iload_n 2, 1) := by decide +kernel
theorem d_S_firstFault_18 : decode b_S_firstFault 18 = .ok (.iaload, 1) := by decide +kernel
theorem d_S_firstFault_19 : decode b_S_firstFault 19 = .ok (.aload_n 0, 1) := by decide +kernel
theorem d_S_firstFault_20 : decode b_S_firstFault 20 = .ok (.iload_n 2, 1) := by decide +kernel
theorem d_S_firstFault_21 : decode b_S_firstFault 21 = .ok (.invokevirtual 25, 3) := by decide +kernel
theorem d_S_firstFault_24 : decode b_S_firstFault 24 = .ok (.if_icmp .eq 5, 3) := by decide +kernel
theorem d_S_firstFault_27 : decode b_S_firstFault 27 = .ok (.iload_n 1, 1) := by decide +kernel
theorem d_S_firstFault_28 : decode b_S_firstFault 28 = .ok (.ireturn, 1) := by decide +kernel
theorem d_S_firstFault_29 : decode b_S_firstFault 29 = .ok (.iinc 1 1, 3) := by decide +kernel
theorem d_S_firstFault_32 : decode b_S_firstFault 32 = .ok (.goto (-30), 3) := by decide +kernel
theorem d_S_firstFault_35 : decode b_S_firstFault 35 = .ok (.iconst (-1), 1) := by decide +kernel
theorem d_S_firstFault_36 : decode b_S_firstFault 36 = .ok (.ireturn, 1) := by decide +kernel
theorem d_S_isCell_0 : decode b_S_isCell 0 = .ok (.iload_n 0, 1) := by decide +kernel
theorem d_S_isCell_1 : decode b_S_isCell 1 = .ok (.ifCond .lt 13, 3) := by decide +kernel
theorem d_S_isCell_4 : decode b_S_isCell 4 = .ok (.iload_n 0, 1) := by decide +kernel
theorem d_S_isCell_5 : decode b_S_isCell 5 = .ok (.bipush 125, 2) := by decide +kernel
theorem d_S_isCell_7 : decode b_S_isCell 7 = .ok (.if_icmp .ge 7, 3) := by decide +kernel
theorem d_S_isCell_10 : decode b_S_isCell 10 = .ok (.iconst 1, 1) := by decide +kernel
theorem d_S_isCell_11 : decode b_S_isCell 11 = .ok (.goto 4, 3) := by decide +kernel
theorem d_S_isCell_14 : decode b_S_isCell 14 = .ok (.iconst 0, 1) := by decide +kernel
theorem d_S_isCell_15 : decode b_S_isCell 15 = .ok (.ireturn, 1) := by decide +kernel
end
section
/-! MY FRAME: worlds of a fixed shape whose numbers are naturals; one judgement np_V, a row an instruction (written by wip/whole/gen/frame.py) -/
def updN (f : Nat → Nat) (k x : Nat) : Nat → Nat := fun j => if j = k then x else f j
theorem updN_same (f : Nat → Nat) (k x : Nat) : updN f k x k = x := by simp [updN]
theorem updN_ne (f : Nat → Nat) {k j : Nat} (x : Nat) (h : j ≠ k) : updN f k x j = f j := by simp [updN, h]
theorem upd_nI (f : Nat → Nat) (j v : Nat) : upd (fun k => nI (f k)) j (nI v) = fun k => nI (updN f j v k) := by
  funext k
  by_cases h : k = j
  · subst h; simp [upd, updN]
  · simp [upd, updN, h]
/-- locals by place; none: not known -/
def np_LV (ls : Array Slot) (nL : Nat) (vs : List (Option Value)) : Prop := ls.size = nL ∧ lv_wf ls ∧ ∀ (i : Nat) (v : Value), vs[i]? = some (some v) → ls[i]? = some (.val v)
def np_okst (vs : List (Option Value)) (i : Nat) : Bool := match i with
  | 0 => true
  | k + 1 => match vs[k]? with
    | some (some w) => w.category == 1
    | _ => true
def np_prs : Nat → List (Option Value) → List (Nat × Value)
  | _, [] => []
  | k, none :: r => np_prs (k + 1) r
  | k, some v :: r => (k, v) :: np_prs (k + 1) r
theorem np_prs_mem : ∀ (vs : List (Option Value)) (k i : Nat) (v : Value), vs[i]? = some (some v) → (k + i, v) ∈ np_prs k vs
  | [], _, _, _, h => by simp at h
  | none :: r, k, i, v, h => by
    match i, h with
    | 0, h => simp at h
    | j + 1, h =>
      have h2 := np_prs_mem r (k + 1) j v (by simpa using h)
      rw [show k + (j + 1) = k + 1 + j by omega]
      exact h2
  | some x :: r, k, i, v, h => by
    match i, h with
    | 0, h => simp at h; subst h; exact List.mem_cons_self
    | j + 1, h =>
      have h2 := np_prs_mem r (k + 1) j v (by simpa using h)
      rw [show k + (j + 1) = k + 1 + j by omega]
      exact List.mem_cons_of_mem _ h2
theorem np_prs_of : ∀ (vs : List (Option Value)) (k : Nat) (q : Nat × Value), q ∈ np_prs k vs → ∃ i, q.1 = k + i ∧ vs[i]? = some (some q.2)
  | [], _, _, h => by simp [np_prs] at h
  | none :: r, k, q, h => by
    obtain ⟨i, h1, h2⟩ := np_prs_of r (k + 1) q h
    exact ⟨i + 1, by omega, by simpa using h2⟩
  | some x :: r, k, q, h => by
    rcases List.mem_cons.mp h with h | h
    · subst h; exact ⟨0, rfl, rfl⟩
    · obtain ⟨i, h1, h2⟩ := np_prs_of r (k + 1) q h
      exact ⟨i + 1, by omega, by simpa using h2⟩
theorem np_LV.has {ls : Array Slot} {nL : Nat} {vs : List (Option Value)} (h : np_LV ls nL vs) : lv_has ls nL (np_prs 0 vs) := by
  refine ⟨h.1, h.2.1, fun q hq => ?_⟩
  obtain ⟨i, h1, h2⟩ := np_prs_of vs 0 q hq
  rw [h1, Nat.zero_add]
  exact h.2.2 i q.2 h2
theorem np_LV.st1 {ls : Array Slot} {nL : Nat} {vs : List (Option Value)} {i : Nat} {v : Value} (ho : np_okst vs i = true) (h : lv_has ls nL ((i, v) :: (np_prs 0 vs).filter (fun q => !(q.1 == i) && !(q.1 + 1 == i && q.2.category == 2)))) : np_LV ls nL (vs.set i (some v)) := by
  refine ⟨h.1, h.2.1, fun j w hj => ?_⟩
  by_cases hji : j = i
  · subst hji
    have hl2 : j < (vs.set j (some v)).length := (List.getElem?_eq_some_iff.mp hj).1
    rw [List.length_set] at hl2
    rw [List.getElem?_set_self hl2] at hj
    cases hj
    exact h.2.2 (j, v) List.mem_cons_self
  · rw [List.getElem?_set_ne (Ne.symm hji)] at hj
    have h3 := np_prs_mem vs 0 j w hj
    rw [Nat.zero_add] at h3
    refine h.2.2 (j, w) (List.mem_cons_of_mem _ (List.mem_filter.mpr ⟨h3, ?_⟩))
    have hn : j + 1 = i → w.category = 2 → False := by
      intro h1 h2
      subst h1
      simp [np_okst, hj, h2] at ho
    cases h5 : (j + 1 == i && w.category == 2) with
    | false => simp [hji, h5]
    | true =>
      simp at h5
      exact (hn h5.1 h5.2).elim
theorem np_LV.st2 {ls : Array Slot} {nL : Nat} {vs : List (Option Value)} {i : Nat} {v : Value} (ho : np_okst vs i = true) (h : lv_has ls nL ((i, v) :: (np_prs 0 vs).filter (fun q => !(q.1 == i) && (!(q.1 == i + 1) && !(q.1 + 1 == i && q.2.category == 2))))) : np_LV ls nL ((vs.set (i + 1) none).set i (some v)) := by
  refine ⟨h.1, h.2.1, fun j w hj => ?_⟩
  by_cases hji : j = i
  · subst hji
    have hl2 : j < ((vs.set (j + 1) none).set j (some v)).length := (List.getElem?_eq_some_iff.mp hj).1
    rw [List.length_set] at hl2
    rw [List.getElem?_set_self hl2] at hj
    cases hj
    exact h.2.2 (j, v) List.mem_cons_self
  · rw [List.getElem?_set_ne (Ne.symm hji)] at hj
    by_cases hj1 : j = i + 1
    · subst hj1
      have hl2 : i + 1 < (vs.set (i + 1) none).length := (List.getElem?_eq_some_iff.mp hj).1
      rw [List.length_set] at hl2
      rw [List.getElem?_set_self hl2] at hj
      cases hj
    · rw [List.getElem?_set_ne (Ne.symm hj1)] at hj
      have h3 := np_prs_mem vs 0 j w hj
      rw [Nat.zero_add] at h3
      refine h.2.2 (j, w) (List.mem_cons_of_mem _ (List.mem_filter.mpr ⟨h3, ?_⟩))
      have hn : j + 1 = i → w.category = 2 → False := by
        intro h1 h2
        subst h1
        simp [np_okst, hj, h2] at ho
      cases h5 : (j + 1 == i && w.category == 2) with
      | false => simp [hji, hj1, h5]
      | true =>
        simp at h5
        exact (hn h5.1 h5.2).elim
def np_vsA : List Value → List (Option Value)
  | [] => []
  | v :: r => if v.category = 2 then some v :: none :: np_vsA r else some v :: np_vsA r
theorem np_vsA_in : ∀ (av : List Value) (k i : Nat) (v : Value), (np_vsA av)[i]? = some (some v) → (k + i, v) ∈ lv_args k av
  | [], _, _, _, h => by simp [np_vsA] at h
  | x :: r, k, i, v, h => by
    by_cases hc : x.category = 2
    · simp only [np_vsA, hc, if_true] at h
      simp only [lv_args, hc, if_true]
      match i, h with
      | 0, h => simp at h; subst h; exact List.mem_cons_self
      | 1, h => simp at h
      | j + 2, h =>
        have h2 := np_vsA_in r (k + 2) j v (by simpa using h)
        rw [show k + (j + 2) = k + 2 + j by omega]
        exact List.mem_cons_of_mem _ h2
    · simp only [np_vsA, hc, if_false] at h
      simp only [lv_args, hc, if_false]
      match i, h with
      | 0, h => simp at h; subst h; exact List.mem_cons_self
      | j + 1, h =>
        have h2 := np_vsA_in r (k + 1) j v (by simpa using h)
        rw [show k + (j + 1) = k + 1 + j by omega]
        exact List.mem_cons_of_mem _ h2
theorem np_LV.entry {ls : Array Slot} {n : Nat} {av : List Value} (h : lv_has ls n (lv_args 0 av)) : np_LV ls n (np_vsA av ++ List.replicate (n - (np_vsA av).length) none) := by
  refine ⟨h.1, h.2.1, fun i v hi => ?_⟩
  by_cases hl : i < (np_vsA av).length
  · rw [List.getElem?_append_left hl] at hi
    have h2 := np_vsA_in av 0 i v hi
    rw [Nat.zero_add] at h2
    exact h.2.2 (i, v) h2
  · rw [List.getElem?_append_right (by omega)] at hi
    have h2 := List.eq_of_mem_replicate (List.mem_of_getElem? hi)
    cases h2
/-- what a callee may count on besides its world, and how that stays -/
def np_St (A : Nat → Prop) (S : State → Heap → Prop) : Prop := (∀ (U : State) (g : JFrame) (mk : MethodId) (a : Array Value), S U U.heap → S (U.calling g mk a) U.heap) ∧ ∀ s U : State, S s s.heap → s.WarmedH U.vm → (∀ q : Nat, q < s.heap.size → ¬ A q → U.heap[q]? = s.heap[q]?) → S U U.heap
def np_Qc (D : va_G) (cl : List vw_C) (A : Nat → Prop) (rv : Option Value) (w : va_W) : Array Value → State → Outcome → State → Prop := fun _ st oc t => oc = .returned rv ∧ va_P D cl w t.heap ∧ va_F A st t
def np_rm (k : Nat × Nat) : Room := { frames := k.1, cells := 0, slots := 0, locals := k.2 }
def np_Pc (D : va_G) (cl : List vw_C) (cI : ClassId) (S : State → Heap → Prop) (w : va_W) (av : List Value) : Array Value → State → Prop := va_Pc av (fun U => va_P D cl w U.heap ∧ va_K D cl [(cI, .int)] U ∧ S U U.heap)
/-- a method's contract: with arguments av, in the world w, it answers rv and leaves the world w' -/
def np_Ct (l : Launch) (D : va_G) (cl : List vw_C) (cI : ClassId) (A : Nat → Prop) (S : State → Heap → Prop) (TS : List Cond) (k : Nat × Nat) (y : MethodName) (b : ByteArray) (mL : Nat) (ret : Option FieldType) (av : List Value) (w : va_W) (rv : Option Value) (w' : va_W) : Prop :=
  Met l y (.code y b mL ret :: TS) (np_rm k) (np_Pc D cl cI S w av) (np_Qc D cl A rv w') 0 0 A
def np_Cx (p : Program) (s : State) (m : MethodId) (args : Array Value) (meth : Method) (c : Code) (cc : ByteArray) (nL : Nat) (own : String) (ret : Option FieldType) (TS : List Cond) (D : va_G) (cl : List vw_C) (cI : ClassId) (A : Nat → Prop) (S : State → Heap → Prop) : Prop :=
  CallFix p m c cc nL s args TS own ∧ va_K D cl [(cI, .int)] s ∧ S s s.heap ∧ np_St A S ∧ meth.sig.returnType = ret ∧ meth.locks = false
def np_V (p : Program) (l : Launch) (e : Env) (R : Room) (s : State) (m : MethodId) (args : Array Value) (below : List Frame) (meth : Method) (c : Code) (ce sl : Nat) (D : va_G) (cl : List vw_C) (A : Nat → Prop) (Q : State → Prop) (nL : Nat) (w : va_W) (pc : Nat) (vs : List (Option Value)) (st : List Value) : Prop :=
  ∀ (H : Heap) (locs : List Loc) (ls : Array Slot), np_LV ls nL vs → va_P D cl w H → va_S A s.heap H locs → W p l e R s m args below meth c H locs ce sl Q (F0 m pc ls st)
theorem np_Ct.of {l : Launch} {D : va_G} {cl : List vw_C} {cI : ClassId} {A : Nat → Prop} {S : State → Heap → Prop} {TS : List Cond} {k : Nat × Nat} {y : MethodName} {b : ByteArray} {mL : Nat} {ret : Option FieldType} {av : List Value} {w : va_W} {rv : Option Value} {w' : va_W}
    (hS : np_St A S) (hy : plainName y.cls = true) (hn : (lg_sl av).length ≤ mL)
    (body : ∀ (p : Program) (e : Env) (s : State) (m : MethodId) (below : List Frame) (meth : Method) (c : Code), np_Cx p s m av.toArray meth c b mL y.cls ret TS D cl cI A S →
      np_V p l e (np_rm k) s m av.toArray below meth c 0 0 D cl A (MQ below (np_Qc D cl A rv w') av.toArray s 0 0 A) mL w 0 (np_vsA av ++ List.replicate (mL - (np_vsA av).length) none) []) :
    np_Ct l D cl cI A S TS k y b mL ret av w rv w' := by
  refine Met.ofW (cc := b) (maxL := mL) (ret := ret) hy rfl ?_
  intro p e s m args below meth c s₁ B hml hv
  obtain ⟨rfl, hP, hK, hSs⟩ := hv
  have hts := atoms_spec (ws := .code y b mL ret :: TS) B.pre
  have C : np_Cx p s m av.toArray meth c b mL y.cls ret TS D cl cI A S := ⟨⟨B.exec, B.bytes, hml, findClass_of_methodNamed B.named, fun x hx => hts x (List.mem_cons_of_mem _ hx)⟩, hK, hSs, hS, B.returns, B.notSynchronized⟩
  have hl := lv_entry av (n := mL) hn
  rw [lg_entry_eq]
  exact body p e s m below meth c C s.heap [] _ (np_LV.entry hl) hP va_S.rf
section NPR
variable {p : Program} {l : Launch} {e : Env} {R : Room} {s : State} {m : MethodId} {args : Array Value} {below : List Frame} {meth : Method} {c : Code} {ce sl : Nat} {D : va_G} {cl : List vw_C} {A : Nat → Prop} {Q : State → Prop} {nL : Nat}
variable {cc : ByteArray} {own : String} {ret : Option FieldType} {TS : List Cond} {cI : ClassId} {S : State → Heap → Prop} {w : va_W} {pc : Nat} {vs : List (Option Value)} {st : List Value}

theorem np_at {vs2 : List (Option Value)} (h : vs = vs2) (k : np_V p l e R s m args below meth c ce sl D cl A Q nL w pc vs2 st) : np_V p l e R s m args below meth c ce sl D cl A Q nL w pc vs st := h ▸ k
theorem np_atw {w2 : va_W} (h : w = w2) (k : np_V p l e R s m args below meth c ce sl D cl A Q nL w2 pc vs st) : np_V p l e R s m args below meth c ce sl D cl A Q nL w pc vs st := h ▸ k
theorem np_atst {st2 : List Value} (h : st = st2) (k : np_V p l e R s m args below meth c ce sl D cl A Q nL w pc vs st2) : np_V p l e R s m args below meth c ce sl D cl A Q nL w pc vs st := h ▸ k
theorem np_top {x y : Nat} (h : nI x = nI y) (k : np_V p l e R s m args below meth c ce sl D cl A Q nL w pc vs (.int (nI y) :: st)) : np_V p l e R s m args below meth c ce sl D cl A Q nL w pc vs (.int (nI x) :: st) := h ▸ k
theorem np_topx {x : Int32} {y : Nat} (h : x = nI y) (k : np_V p l e R s m args below meth c ce sl D cl A Q nL w pc vs (.int (nI y) :: st)) : np_V p l e R s m args below meth c ce sl D cl A Q nL w pc vs (.int x :: st) := h ▸ k
theorem np_topl {x : Int64} {y : Nat} (h : x = lN y) (k : np_V p l e R s m args below meth c ce sl D cl A Q nL w pc vs (.long (lN y) :: st)) : np_V p l e R s m args below meth c ce sl D cl A Q nL w pc vs (.long x :: st) := h ▸ k
theorem np_forget (i : Nat) (k : np_V p l e R s m args below meth c ce sl D cl A Q nL w pc (vs.set i none) st) : np_V p l e R s m args below meth c ce sl D cl A Q nL w pc vs st := fun H locs ls hL hP hS => k H locs ls ⟨hL.1, hL.2.1, fun j v hj => by
  by_cases h : j = i
  · subst h
    have h2 : j < (vs.set j none).length := (List.getElem?_eq_some_iff.mp hj).1
    rw [List.length_set] at h2
    rw [List.getElem?_set_self h2] at hj
    cases hj
  · rw [List.getElem?_set_ne (Ne.symm h)] at hj
    exact hL.2.2 j v hj⟩ hP hS
theorem np_iconst (C : np_Cx p s m args meth c cc nL own ret TS D cl cI A S) {n : Int} {v : Nat} (hdg : decode cc pc = .ok (.iconst n, 1)) (hv : Int32.ofInt n = nI v) (k : np_V p l e R s m args below meth c ce sl D cl A Q nL w (pc + 1) vs (.int (nI v) :: st)) : np_V p l e R s m args below meth c ce sl D cl A Q nL w pc vs st := fun H locs ls hL hP hS => lv_iconst C.1.1 C.1.2.1 hdg hv (k H locs ls hL hP hS)
theorem np_bipush (C : np_Cx p s m args meth c cc nL own ret TS D cl cI A S) {n : Int} {v : Nat} (hdg : decode cc pc = .ok (.bipush n, 2)) (hv : (Int8.ofInt n).toInt32 = nI v) (k : np_V p l e R s m args below meth c ce sl D cl A Q nL w (pc + 2) vs (.int (nI v) :: st)) : np_V p l e R s m args below meth c ce sl D cl A Q nL w pc vs st := fun H locs ls hL hP hS => lv_bipush C.1.1 C.1.2.1 hdg hv (k H locs ls hL hP hS)
theorem np_sipush (C : np_Cx p s m args meth c cc nL own ret TS D cl cI A S) {n : Int} {v : Nat} (hdg : decode cc pc = .ok (.sipush n, 3)) (hv : (Int16.ofInt n).toInt32 = nI v) (k : np_V p l e R s m args below meth c ce sl D cl A Q nL w (pc + 3) vs (.int (nI v) :: st)) : np_V p l e R s m args below meth c ce sl D cl A Q nL w pc vs st := fun H locs ls hL hP hS => lv_sipush C.1.1 C.1.2.1 hdg hv (k H locs ls hL hP hS)
theorem np_lconst (C : np_Cx p s m args meth c cc nL own ret TS D cl cI A S) {n : Fin 2} {v : Nat} (hdg : decode cc pc = .ok (.lconst n, 1)) (hv : Int64.ofNat (n : Nat) = lN v) (k : np_V p l e R s m args below meth c ce sl D cl A Q nL w (pc + 1) vs (.long (lN v) :: st)) : np_V p l e R s m args below meth c ce sl D cl A Q nL w pc vs st := fun H locs ls hL hP hS => lv_lconst C.1.1 C.1.2.1 hdg hv (k H locs ls hL hP hS)
theorem np_ldc (C : np_Cx p s m args meth c cc nL own ret TS D cl cI A S) {index : Nat} {x : Int32} {v : Nat} (hc : Cond.constant own index x ∈ TS) (hv : x = nI v) (hdg : decode cc pc = .ok (.ldc index, 2)) (k : np_V p l e R s m args below meth c ce sl D cl A Q nL w (pc + 2) vs (.int (nI v) :: st)) : np_V p l e R s m args below meth c ce sl D cl A Q nL w pc vs st := fun H locs ls hL hP hS => lv_ldc C.1.1 C.1.2.1 C.1.2.2.2.1 (C.1.2.2.2.2 _ hc) hdg (hv ▸ k H locs ls hL hP hS)
theorem np_ldc2 (C : np_Cx p s m args meth c cc nL own ret TS D cl cI A S) {index : Nat} {x : Int64} {v : Nat} (hc : Cond.constantLong own index x ∈ TS) (hv : x = lN v) (hdg : decode cc pc = .ok (.ldc2_w index, 3)) (k : np_V p l e R s m args below meth c ce sl D cl A Q nL w (pc + 3) vs (.long (lN v) :: st)) : np_V p l e R s m args below meth c ce sl D cl A Q nL w pc vs st := fun H locs ls hL hP hS => lv_ldc2 C.1.1 C.1.2.1 C.1.2.2.2.1 (C.1.2.2.2.2 _ hc) hdg (hv ▸ k H locs ls hL hP hS)
theorem np_iload_n (C : np_Cx p s m args meth c cc nL own ret TS D cl cI A S) {i : Fin 4} {x : Int32} (hdg : decode cc pc = .ok (.iload_n i, 1)) (hl : vs[(i : Nat)]? = some (some (.int x))) (k : np_V p l e R s m args below meth c ce sl D cl A Q nL w (pc + 1) vs (.int x :: st)) : np_V p l e R s m args below meth c ce sl D cl A Q nL w pc vs st := fun H locs ls hL hP hS => lv_iload_n C.1.1 C.1.2.1 hdg rfl (hL.2.2 _ _ hl) (k H locs ls hL hP hS)
theorem np_iload (C : np_Cx p s m args meth c cc nL own ret TS D cl cI A S) {i : Nat} {x : Int32} (hdg : decode cc pc = .ok (.iload i, 2)) (hl : vs[i]? = some (some (.int x))) (k : np_V p l e R s m args below meth c ce sl D cl A Q nL w (pc + 2) vs (.int x :: st)) : np_V p l e R s m args below meth c ce sl D cl A Q nL w pc vs st := fun H locs ls hL hP hS => lv_iload C.1.1 C.1.2.1 hdg (hL.2.2 _ _ hl) (k H locs ls hL hP hS)
theorem np_lload_n (C : np_Cx p s m args meth c cc nL own ret TS D cl cI A S) {i : Fin 4} {x : Int64} (hdg : decode cc pc = .ok (.lload_n i, 1)) (hl : vs[(i : Nat)]? = some (some (.long x))) (k : np_V p l e R s m args below meth c ce sl D cl A Q nL w (pc + 1) vs (.long x :: st)) : np_V p l e R s m args below meth c ce sl D cl A Q nL w pc vs st := fun H locs ls hL hP hS => lv_lload_n C.1.1 C.1.2.1 hdg rfl (hL.2.2 _ _ hl) (k H locs ls hL hP hS)
theorem np_lload (C : np_Cx p s m args meth c cc nL own ret TS D cl cI A S) {i : Nat} {x : Int64} (hdg : decode cc pc = .ok (.lload i, 2)) (hl : vs[i]? = some (some (.long x))) (k : np_V p l e R s m args below meth c ce sl D cl A Q nL w (pc + 2) vs (.long x :: st)) : np_V p l e R s m args below meth c ce sl D cl A Q nL w pc vs st := fun H locs ls hL hP hS => lv_lload C.1.1 C.1.2.1 hdg (hL.2.2 _ _ hl) (k H locs ls hL hP hS)
theorem np_aload_n (C : np_Cx p s m args meth c cc nL own ret TS D cl cI A S) {i : Fin 4} {x : Nat} (hdg : decode cc pc = .ok (.aload_n i, 1)) (hl : vs[(i : Nat)]? = some (some (.ref x))) (k : np_V p l e R s m args below meth c ce sl D cl A Q nL w (pc + 1) vs (.ref x :: st)) : np_V p l e R s m args below meth c ce sl D cl A Q nL w pc vs st := fun H locs ls hL hP hS => lv_aload_n C.1.1 C.1.2.1 hdg rfl (hL.2.2 _ _ hl) (k H locs ls hL hP hS)
theorem np_aload (C : np_Cx p s m args meth c cc nL own ret TS D cl cI A S) {i : Nat} {x : Nat} (hdg : decode cc pc = .ok (.aload i, 2)) (hl : vs[i]? = some (some (.ref x))) (k : np_V p l e R s m args below meth c ce sl D cl A Q nL w (pc + 2) vs (.ref x :: st)) : np_V p l e R s m args below meth c ce sl D cl A Q nL w pc vs st := fun H locs ls hL hP hS => lv_aload C.1.1 C.1.2.1 hdg (hL.2.2 _ _ hl) (k H locs ls hL hP hS)
theorem np_istore_n (C : np_Cx p s m args meth c cc nL own ret TS D cl cI A S) {i : Fin 4} {x : Int32} (hdg : decode cc pc = .ok (.istore_n i, 1)) (hn : (i : Nat) < nL) (ho : np_okst vs (i : Nat) = true) (k : np_V p l e R s m args below meth c ce sl D cl A Q nL w (pc + 1) (vs.set (i : Nat) (some (.int x))) st) : np_V p l e R s m args below meth c ce sl D cl A Q nL w pc vs (.int x :: st) := fun H locs ls hL hP hS => lv_istore_n C.1.1 C.1.2.1 hdg rfl hL.has hn rfl (fun ls2 h2 => k H locs ls2 (np_LV.st1 ho h2) hP hS)
theorem np_istore (C : np_Cx p s m args meth c cc nL own ret TS D cl cI A S) {i : Nat} {x : Int32} (hdg : decode cc pc = .ok (.istore i, 2)) (hn : i < nL) (ho : np_okst vs i = true) (k : np_V p l e R s m args below meth c ce sl D cl A Q nL w (pc + 2) (vs.set i (some (.int x))) st) : np_V p l e R s m args below meth c ce sl D cl A Q nL w pc vs (.int x :: st) := fun H locs ls hL hP hS => lv_istore C.1.1 C.1.2.1 hdg hL.has hn rfl (fun ls2 h2 => k H locs ls2 (np_LV.st1 ho h2) hP hS)
theorem np_astore_n (C : np_Cx p s m args meth c cc nL own ret TS D cl cI A S) {i : Fin 4} {x : Nat} (hdg : decode cc pc = .ok (.astore_n i, 1)) (hn : (i : Nat) < nL) (ho : np_okst vs (i : Nat) = true) (k : np_V p l e R s m args below meth c ce sl D cl A Q nL w (pc + 1) (vs.set (i : Nat) (some (.ref x))) st) : np_V p l e R s m args below meth c ce sl D cl A Q nL w pc vs (.ref x :: st) := fun H locs ls hL hP hS => lv_astore_n C.1.1 C.1.2.1 hdg rfl hL.has hn rfl (fun ls2 h2 => k H locs ls2 (np_LV.st1 ho h2) hP hS)
theorem np_astore (C : np_Cx p s m args meth c cc nL own ret TS D cl cI A S) {i : Nat} {x : Nat} (hdg : decode cc pc = .ok (.astore i, 2)) (hn : i < nL) (ho : np_okst vs i = true) (k : np_V p l e R s m args below meth c ce sl D cl A Q nL w (pc + 2) (vs.set i (some (.ref x))) st) : np_V p l e R s m args below meth c ce sl D cl A Q nL w pc vs (.ref x :: st) := fun H locs ls hL hP hS => lv_astore C.1.1 C.1.2.1 hdg hL.has hn rfl (fun ls2 h2 => k H locs ls2 (np_LV.st1 ho h2) hP hS)
theorem np_lstore_n (C : np_Cx p s m args meth c cc nL own ret TS D cl cI A S) {i : Fin 4} {x : Int64} (hdg : decode cc pc = .ok (.lstore_n i, 1)) (hn : (i : Nat) + 1 < nL) (ho : np_okst vs (i : Nat) = true) (k : np_V p l e R s m args below meth c ce sl D cl A Q nL w (pc + 1) ((vs.set ((i : Nat) + 1) none).set (i : Nat) (some (.long x))) st) : np_V p l e R s m args below meth c ce sl D cl A Q nL w pc vs (.long x :: st) := fun H locs ls hL hP hS => lv_lstore_n C.1.1 C.1.2.1 hdg rfl hL.has hn rfl (fun ls2 h2 => k H locs ls2 (np_LV.st2 ho h2) hP hS)
theorem np_lstore (C : np_Cx p s m args meth c cc nL own ret TS D cl cI A S) {i : Nat} {x : Int64} (hdg : decode cc pc = .ok (.lstore i, 2)) (hn : i + 1 < nL) (ho : np_okst vs i = true) (k : np_V p l e R s m args below meth c ce sl D cl A Q nL w (pc + 2) ((vs.set (i + 1) none).set i (some (.long x))) st) : np_V p l e R s m args below meth c ce sl D cl A Q nL w pc vs (.long x :: st) := fun H locs ls hL hP hS => lv_lstore C.1.1 C.1.2.1 hdg hL.has hn rfl (fun ls2 h2 => k H locs ls2 (np_LV.st2 ho h2) hP hS)
theorem np_iinc (C : np_Cx p s m args meth c cc nL own ret TS D cl cI A S) {i : Nat} {n : Int} {x v : Nat} (hdg : decode cc pc = .ok (.iinc i n, 3)) (hl : vs[i]? = some (some (.int (nI x)))) (hv : nI x + Int32.ofInt n = nI v) (hn : i < nL) (ho : np_okst vs i = true) (k : np_V p l e R s m args below meth c ce sl D cl A Q nL w (pc + 3) (vs.set i (some (.int (nI v)))) st) : np_V p l e R s m args below meth c ce sl D cl A Q nL w pc vs st := by
  intro H locs ls hL hP hS
  have h3 := np_prs_mem vs 0 i _ hl
  rw [Nat.zero_add] at h3
  obtain ⟨j, hj⟩ := List.getElem?_of_mem h3
  exact lv_iinc C.1.1 C.1.2.1 hdg hL.has hj hv hn rfl (fun ls2 h2 => k H locs ls2 (np_LV.st1 ho h2) hP hS)
theorem np_iadd (C : np_Cx p s m args meth c cc nL own ret TS D cl cI A S) {x y : Nat}  (hdg : decode cc pc = .ok (.iadd, 1)) (k : np_V p l e R s m args below meth c ce sl D cl A Q nL w (pc + 1) vs (.int (nI (x + y)) :: st)) : np_V p l e R s m args below meth c ce sl D cl A Q nL w pc vs (.int (nI y) :: .int (nI x) :: st) := fun H locs ls hL hP hS => lv_iadd C.1.1 C.1.2.1 hdg ((nI_add x y).symm ▸ k H locs ls hL hP hS)
theorem np_imul (C : np_Cx p s m args meth c cc nL own ret TS D cl cI A S) {x y : Nat}  (hdg : decode cc pc = .ok (.imul, 1)) (k : np_V p l e R s m args below meth c ce sl D cl A Q nL w (pc + 1) vs (.int (nI (x * y)) :: st)) : np_V p l e R s m args below meth c ce sl D cl A Q nL w pc vs (.int (nI y) :: .int (nI x) :: st) := fun H locs ls hL hP hS => lv_imul C.1.1 C.1.2.1 hdg ((pk_mul x y).symm ▸ k H locs ls hL hP hS)
theorem np_isub (C : np_Cx p s m args meth c cc nL own ret TS D cl cI A S) {x y : Nat} (h : y ≤ x) (hdg : decode cc pc = .ok (.isub, 1)) (k : np_V p l e R s m args below meth c ce sl D cl A Q nL w (pc + 1) vs (.int (nI (x - y)) :: st)) : np_V p l e R s m args below meth c ce sl D cl A Q nL w pc vs (.int (nI y) :: .int (nI x) :: st) := fun H locs ls hL hP hS => lv_isub C.1.1 C.1.2.1 hdg ((pk_sub h).symm ▸ k H locs ls hL hP hS)
theorem np_idiv (C : np_Cx p s m args meth c cc nL own ret TS D cl cI A S) {x y : Nat} (hx : x < 2 ^ 31) (h0 : 0 < y) (hy : y < 2 ^ 31) (hdg : decode cc pc = .ok (.idiv, 1)) (k : np_V p l e R s m args below meth c ce sl D cl A Q nL w (pc + 1) vs (.int (nI (x / y)) :: st)) : np_V p l e R s m args below meth c ce sl D cl A Q nL w pc vs (.int (nI y) :: .int (nI x) :: st) := fun H locs ls hL hP hS => lv_idiv C.1.1 C.1.2.1 hdg (nI_ne0 h0 hy) ((pk_div hx h0 hy).symm ▸ k H locs ls hL hP hS)
theorem np_irem (C : np_Cx p s m args meth c cc nL own ret TS D cl cI A S) {x y : Nat} (hx : x < 2 ^ 31) (h0 : 0 < y) (hy : y < 2 ^ 31) (hdg : decode cc pc = .ok (.irem, 1)) (k : np_V p l e R s m args below meth c ce sl D cl A Q nL w (pc + 1) vs (.int (nI (x % y)) :: st)) : np_V p l e R s m args below meth c ce sl D cl A Q nL w pc vs (.int (nI y) :: .int (nI x) :: st) := fun H locs ls hL hP hS => lv_irem C.1.1 C.1.2.1 hdg (nI_ne0 h0 hy) ((pk_rem hx h0 hy).symm ▸ k H locs ls hL hP hS)
theorem np_ladd (C : np_Cx p s m args meth c cc nL own ret TS D cl cI A S) {x y : Nat}  (hdg : decode cc pc = .ok (.ladd, 1)) (k : np_V p l e R s m args below meth c ce sl D cl A Q nL w (pc + 1) vs (.long (lN (x + y)) :: st)) : np_V p l e R s m args below meth c ce sl D cl A Q nL w pc vs (.long (lN y) :: .long (lN x) :: st) := fun H locs ls hL hP hS => lv_ladd C.1.1 C.1.2.1 hdg ((lN_add x y).symm ▸ k H locs ls hL hP hS)
theorem np_lmul (C : np_Cx p s m args meth c cc nL own ret TS D cl cI A S) {x y : Nat}  (hdg : decode cc pc = .ok (.lmul, 1)) (k : np_V p l e R s m args below meth c ce sl D cl A Q nL w (pc + 1) vs (.long (lN (x * y)) :: st)) : np_V p l e R s m args below meth c ce sl D cl A Q nL w pc vs (.long (lN y) :: .long (lN x) :: st) := fun H locs ls hL hP hS => lv_lmul C.1.1 C.1.2.1 hdg ((lN_mul x y).symm ▸ k H locs ls hL hP hS)
theorem np_lsub (C : np_Cx p s m args meth c cc nL own ret TS D cl cI A S) {x y : Nat} (h : y ≤ x) (hdg : decode cc pc = .ok (.lsub, 1)) (k : np_V p l e R s m args below meth c ce sl D cl A Q nL w (pc + 1) vs (.long (lN (x - y)) :: st)) : np_V p l e R s m args below meth c ce sl D cl A Q nL w pc vs (.long (lN y) :: .long (lN x) :: st) := fun H locs ls hL hP hS => lv_lsub C.1.1 C.1.2.1 hdg ((lN_sub h).symm ▸ k H locs ls hL hP hS)
theorem np_subW {x y : Nat} (h : y ≤ 4294967296) : nI x - nI y = nI (x + 4294967296 - y) := by
  have e : nI x = nI (x + 4294967296) := by
    apply Int32.toBitVec_inj.mp
    apply BitVec.eq_of_toNat_eq
    simp [nI]
  rw [e, pk_sub (show y ≤ x + 4294967296 by omega)]
theorem np_isubW (C : np_Cx p s m args meth c cc nL own ret TS D cl cI A S) {x y : Nat} (h : y ≤ 4294967296) (hdg : decode cc pc = .ok (.isub, 1)) (k : np_V p l e R s m args below meth c ce sl D cl A Q nL w (pc + 1) vs (.int (nI (x + 4294967296 - y)) :: st)) : np_V p l e R s m args below meth c ce sl D cl A Q nL w pc vs (.int (nI y) :: .int (nI x) :: st) := fun H locs ls hL hP hS => lv_isub C.1.1 C.1.2.1 hdg ((np_subW h).symm ▸ k H locs ls hL hP hS)
theorem np_wrap (x : Nat) : nI (x + 4294967296) = nI x := by
  apply Int32.toBitVec_inj.mp
  apply BitVec.eq_of_toNat_eq
  simp [nI]
theorem np_nIe {x y : Nat} (hx : x < 4294967296) (hy : y < 4294967296) : nI x = nI y ↔ x = y := by
  constructor
  · intro h
    have h2 := congrArg (fun z : Int32 => z.toBitVec.toNat) h
    simp only [nI] at h2
    have e1 : (Int32.ofNat x).toBitVec.toNat = x := pk_tn (n := x) hx
    have e2 : (Int32.ofNat y).toBitVec.toNat = y := pk_tn (n := y) hy
    rw [e1, e2] at h2
    exact h2
  · intro h; rw [h]
theorem np_neg {x : Nat} (hx : x < 4294967296) : nI x < 0 ↔ 2147483648 ≤ x := by
  constructor
  · intro h
    apply Nat.le_of_not_lt
    intro h2
    exact nI_pos (n := x) h2 h
  · intro h
    have e : nI x = nI 0 - nI (4294967296 - x) := by
      rw [np_subW (show 4294967296 - x ≤ 4294967296 by omega)]
      congr 1; omega
    by_cases h9 : 4294967296 - x = 2147483648
    · have e2 : x = 2147483648 := by omega
      subst e2; decide
    · rw [Int32.lt_iff_toInt_lt, e]
      have h3 : (nI (4294967296 - x)).toInt = ((4294967296 - x : Nat) : Int) := nI_toInt (by omega)
      have h4 : nI 0 - nI (4294967296 - x) = - nI (4294967296 - x) := by rw [nI_0]; simp
      rw [h4, sb_negT (by omega)]
      simp
      omega
theorem np_of (x : Int32) : ∃ n, n < 4294967296 ∧ x = nI n := by
  refine ⟨x.toBitVec.toNat, x.toBitVec.isLt, ?_⟩
  apply Int32.toBitVec_inj.mp
  apply BitVec.eq_of_toNat_eq
  simp [nI]
theorem np_i2l (C : np_Cx p s m args meth c cc nL own ret TS D cl cI A S) {x : Nat} (h : x < 2 ^ 31) (hdg : decode cc pc = .ok (.i2l, 1)) (k : np_V p l e R s m args below meth c ce sl D cl A Q nL w (pc + 1) vs (.long (lN x) :: st)) : np_V p l e R s m args below meth c ce sl D cl A Q nL w pc vs (.int (nI x) :: st) := fun H locs ls hL hP hS => lv_i2l C.1.1 C.1.2.1 hdg (nI_l h) (k H locs ls hL hP hS)
theorem np_l2i (C : np_Cx p s m args meth c cc nL own ret TS D cl cI A S) {x : Nat} (hdg : decode cc pc = .ok (.l2i, 1)) (k : np_V p l e R s m args below meth c ce sl D cl A Q nL w (pc + 1) vs (.int (nI x) :: st)) : np_V p l e R s m args below meth c ce sl D cl A Q nL w pc vs (.long (lN x) :: st) := fun H locs ls hL hP hS => lv_l2i C.1.1 C.1.2.1 hdg (lN_i x) (k H locs ls hL hP hS)
theorem np_lrem (C : np_Cx p s m args meth c cc nL own ret TS D cl cI A S) {x y : Nat} (hx : x < 2 ^ 63) (h0 : 0 < y) (hy : y < 2 ^ 63) (hdg : decode cc pc = .ok (.lrem, 1)) (k : np_V p l e R s m args below meth c ce sl D cl A Q nL w (pc + 1) vs (.long (lN (x % y)) :: st)) : np_V p l e R s m args below meth c ce sl D cl A Q nL w pc vs (.long (lN y) :: .long (lN x) :: st) := fun H locs ls hL hP hS => lv_lrem C.1.1 C.1.2.1 hdg (fun h => by have h2 := (pk_lEQ hy (show 0 < 2 ^ 63 by decide)).mp (h.trans (by rfl)); omega) ((pk_lRem hx h0 hy).symm ▸ k H locs ls hL hP hS)
theorem np_iand1 (C : np_Cx p s m args meth c cc nL own ret TS D cl cI A S) {x : Nat} (hx : x < 2 ^ 32) (hdg : decode cc pc = .ok (.iand, 1)) (k : np_V p l e R s m args below meth c ce sl D cl A Q nL w (pc + 1) vs (.int (nI (x % 2)) :: st)) : np_V p l e R s m args below meth c ce sl D cl A Q nL w pc vs (.int (nI 1) :: .int (nI x) :: st) := fun H locs ls hL hP hS => lv_iand C.1.1 C.1.2.1 hdg ((show nI x &&& nI 1 = nI (x % 2) from pk_andN hx 1 (by decide)).symm ▸ k H locs ls hL hP hS)
theorem np_shc : ∀ k, k < 32 → ((nI k &&& 31).toBitVec.smod 32).toNat = k := by decide
theorem np_ishr (C : np_Cx p s m args meth c cc nL own ret TS D cl cI A S) {x y : Nat} (hx : x < 2 ^ 31) (hy : y < 32) (hdg : decode cc pc = .ok (.ishr, 1)) (k : np_V p l e R s m args below meth c ce sl D cl A Q nL w (pc + 1) vs (.int (nI (x / 2 ^ y)) :: st)) : np_V p l e R s m args below meth c ce sl D cl A Q nL w pc vs (.int (nI y) :: .int (nI x) :: st) := fun H locs ls hL hP hS => lv_ishr C.1.1 C.1.2.1 hdg ((pk_shrN hx _ y (np_shc y hy)).symm ▸ k H locs ls hL hP hS)
theorem np_ishl (C : np_Cx p s m args meth c cc nL own ret TS D cl cI A S) {x y : Nat} (hy : y < 32) (hx : x * 2 ^ y < 2 ^ 32) (hdg : decode cc pc = .ok (.ishl, 1)) (k : np_V p l e R s m args below meth c ce sl D cl A Q nL w (pc + 1) vs (.int (nI (x * 2 ^ y)) :: st)) : np_V p l e R s m args below meth c ce sl D cl A Q nL w pc vs (.int (nI y) :: .int (nI x) :: st) := fun H locs ls hL hP hS => lv_ishl C.1.1 C.1.2.1 hdg ((pk_shlN _ y (np_shc y hy) hx).symm ▸ k H locs ls hL hP hS)
theorem np_xor1 {x : Nat} (hx : x < 2 ^ 31) : nI x ^^^ nI 1 = nI (if x % 2 = 0 then x + 1 else x - 1) := by
  have h1 : nI x ^^^ nI 1 = nI (x ^^^ 1) := by
    apply Int32.toBitVec_inj.mp
    apply BitVec.eq_of_toNat_eq
    simp [nI, Nat.xor_mod_two_pow]
  rw [h1]
  congr 1
  have h2 : x ^^^ 1 = if x % 2 = 0 then x + 1 else x - 1 := by
    have a1 : (x ^^^ 1) / 2 = x / 2 := by rw [Nat.xor_div_two]; simp
    have a2 : (x ^^^ 1) % 2 = 1 ↔ ¬ (x % 2 = 1 ↔ 1 % 2 = 1) := Nat.xor_mod_two_eq_one
    have a3 : x % 2 = 0 ∨ x % 2 = 1 := by omega
    have a4 := Nat.div_add_mod (x ^^^ 1) 2
    have a5 := Nat.mod_lt (x ^^^ 1) (show 0 < 2 by decide)
    rcases a3 with a3 | a3
    · have a6 : (x ^^^ 1) % 2 = 1 := a2.mpr (by simp [a3])
      rw [if_pos a3]; omega
    · have a6 : ¬ (x ^^^ 1) % 2 = 1 := fun h => a2.mp h (by simp [a3])
      rw [if_neg (by omega)]; omega
  exact h2
theorem np_ixor1 (C : np_Cx p s m args meth c cc nL own ret TS D cl cI A S) {x : Nat} (hx : x < 2 ^ 31) (hdg : decode cc pc = .ok (.ixor, 1)) (k : np_V p l e R s m args below meth c ce sl D cl A Q nL w (pc + 1) vs (.int (nI (if x % 2 = 0 then x + 1 else x - 1)) :: st)) : np_V p l e R s m args below meth c ce sl D cl A Q nL w pc vs (.int (nI 1) :: .int (nI x) :: st) := fun H locs ls hL hP hS => lv_ixor C.1.1 C.1.2.1 hdg ((np_xor1 hx).symm ▸ k H locs ls hL hP hS)
theorem np_laddR (C : np_Cx p s m args meth c cc nL own ret TS D cl cI A S) {x y : Int64} (hdg : decode cc pc = .ok (.ladd, 1)) (k : np_V p l e R s m args below meth c ce sl D cl A Q nL w (pc + 1) vs (.long (x + y) :: st)) : np_V p l e R s m args below meth c ce sl D cl A Q nL w pc vs (.long y :: .long x :: st) := fun H locs ls hL hP hS => lv_ladd C.1.1 C.1.2.1 hdg (k H locs ls hL hP hS)
theorem np_lsubR (C : np_Cx p s m args meth c cc nL own ret TS D cl cI A S) {x y : Int64} (hdg : decode cc pc = .ok (.lsub, 1)) (k : np_V p l e R s m args below meth c ce sl D cl A Q nL w (pc + 1) vs (.long (x - y) :: st)) : np_V p l e R s m args below meth c ce sl D cl A Q nL w pc vs (.long y :: .long x :: st) := fun H locs ls hL hP hS => lv_lsub C.1.1 C.1.2.1 hdg (k H locs ls hL hP hS)
theorem np_lmulR (C : np_Cx p s m args meth c cc nL own ret TS D cl cI A S) {x y : Int64} (hdg : decode cc pc = .ok (.lmul, 1)) (k : np_V p l e R s m args below meth c ce sl D cl A Q nL w (pc + 1) vs (.long (x * y) :: st)) : np_V p l e R s m args below meth c ce sl D cl A Q nL w pc vs (.long y :: .long x :: st) := fun H locs ls hL hP hS => lv_lmul C.1.1 C.1.2.1 hdg (k H locs ls hL hP hS)
theorem np_lremR (C : np_Cx p s m args meth c cc nL own ret TS D cl cI A S) {x y : Int64} (hne : ¬ y = 0) (hdg : decode cc pc = .ok (.lrem, 1)) (k : np_V p l e R s m args below meth c ce sl D cl A Q nL w (pc + 1) vs (.long (x - x / y * y) :: st)) : np_V p l e R s m args below meth c ce sl D cl A Q nL w pc vs (.long y :: .long x :: st) := fun H locs ls hL hP hS => lv_lrem C.1.1 C.1.2.1 hdg hne (k H locs ls hL hP hS)
theorem np_lcmpR (C : np_Cx p s m args meth c cc nL own ret TS D cl cI A S) {x y : Int64} (hdg : decode cc pc = .ok (.lcmp, 1)) (k : np_V p l e R s m args below meth c ce sl D cl A Q nL w (pc + 1) vs (.int (lg_cmp x y) :: st)) : np_V p l e R s m args below meth c ce sl D cl A Q nL w pc vs (.long y :: .long x :: st) := fun H locs ls hL hP hS => W.lcmp C.1.1 C.1.2.1 hdg (k H locs ls hL hP hS)
theorem np_l2iR (C : np_Cx p s m args meth c cc nL own ret TS D cl cI A S) {x : Int64} (hdg : decode cc pc = .ok (.l2i, 1)) (k : np_V p l e R s m args below meth c ce sl D cl A Q nL w (pc + 1) vs (.int x.toInt32 :: st)) : np_V p l e R s m args below meth c ce sl D cl A Q nL w pc vs (.long x :: st) := fun H locs ls hL hP hS => lv_l2i C.1.1 C.1.2.1 hdg rfl (k H locs ls hL hP hS)
theorem np_dup (C : np_Cx p s m args meth c cc nL own ret TS D cl cI A S) {v : Value} (hv : v.category = 1) (hdg : decode cc pc = .ok (.dup, 1)) (k : np_V p l e R s m args below meth c ce sl D cl A Q nL w (pc + 1) vs (v :: v :: st)) : np_V p l e R s m args below meth c ce sl D cl A Q nL w pc vs (v :: st) := fun H locs ls hL hP hS => lv_dup C.1.1 C.1.2.1 hdg hv (k H locs ls hL hP hS)
theorem np_dup2 (C : np_Cx p s m args meth c cc nL own ret TS D cl cI A S) {v u : Value} (hv : v.category = 1) (hu : u.category = 1) (hdg : decode cc pc = .ok (.dup2, 1)) (k : np_V p l e R s m args below meth c ce sl D cl A Q nL w (pc + 1) vs (v :: u :: v :: u :: st)) : np_V p l e R s m args below meth c ce sl D cl A Q nL w pc vs (v :: u :: st) := fun H locs ls hL hP hS => lv_dup2_11 C.1.1 C.1.2.1 hdg hv hu (k H locs ls hL hP hS)
theorem np_pop (C : np_Cx p s m args meth c cc nL own ret TS D cl cI A S) {v : Value} (hv : v.category = 1) (hdg : decode cc pc = .ok (.pop, 1)) (k : np_V p l e R s m args below meth c ce sl D cl A Q nL w (pc + 1) vs st) : np_V p l e R s m args below meth c ce sl D cl A Q nL w pc vs (v :: st) := fun H locs ls hL hP hS => lv_pop C.1.1 C.1.2.1 hdg hv (k H locs ls hL hP hS)
theorem np_icmp_lt (C : np_Cx p s m args meth c cc nL own ret TS D cl cI A S) {x y : Nat} {off : Int} {tgt : Nat} (hx : x < 2 ^ 31) (hy : y < 2 ^ 31) (hdg : decode cc pc = .ok (.if_icmp .lt off, 3)) (ht : (pc : Int) + off = (tgt : Int)) (kt : x < y → np_V p l e R s m args below meth c ce sl D cl A Q nL w tgt vs st) (kf : y ≤ x → np_V p l e R s m args below meth c ce sl D cl A Q nL w (pc + 3) vs st) : np_V p l e R s m args below meth c ce sl D cl A Q nL w pc vs (.int (nI y) :: .int (nI x) :: st) := fun H locs ls hL hP hS => lv_icmp_lt C.1.1 C.1.2.1 hdg ht (fun h => kt ((nI_ltI hx hy).mp h) H locs ls hL hP hS) (fun h => kf (Nat.le_of_not_lt fun q => h ((nI_ltI hx hy).mpr q)) H locs ls hL hP hS)
theorem np_icmp_ge (C : np_Cx p s m args meth c cc nL own ret TS D cl cI A S) {x y : Nat} {off : Int} {tgt : Nat} (hx : x < 2 ^ 31) (hy : y < 2 ^ 31) (hdg : decode cc pc = .ok (.if_icmp .ge off, 3)) (ht : (pc : Int) + off = (tgt : Int)) (kt : y ≤ x → np_V p l e R s m args below meth c ce sl D cl A Q nL w tgt vs st) (kf : x < y → np_V p l e R s m args below meth c ce sl D cl A Q nL w (pc + 3) vs st) : np_V p l e R s m args below meth c ce sl D cl A Q nL w pc vs (.int (nI y) :: .int (nI x) :: st) := fun H locs ls hL hP hS => lv_icmp_ge C.1.1 C.1.2.1 hdg ht (fun h => kt ((nI_leI hy hx).mp h) H locs ls hL hP hS) (fun h => kf (Nat.lt_of_not_le fun q => h ((nI_leI hy hx).mpr q)) H locs ls hL hP hS)
theorem np_icmp_gt (C : np_Cx p s m args meth c cc nL own ret TS D cl cI A S) {x y : Nat} {off : Int} {tgt : Nat} (hx : x < 2 ^ 31) (hy : y < 2 ^ 31) (hdg : decode cc pc = .ok (.if_icmp .gt off, 3)) (ht : (pc : Int) + off = (tgt : Int)) (kt : y < x → np_V p l e R s m args below meth c ce sl D cl A Q nL w tgt vs st) (kf : x ≤ y → np_V p l e R s m args below meth c ce sl D cl A Q nL w (pc + 3) vs st) : np_V p l e R s m args below meth c ce sl D cl A Q nL w pc vs (.int (nI y) :: .int (nI x) :: st) := fun H locs ls hL hP hS => lv_icmp_gt C.1.1 C.1.2.1 hdg ht (fun h => kt ((nI_ltI hy hx).mp h) H locs ls hL hP hS) (fun h => kf (Nat.le_of_not_lt fun q => h ((nI_ltI hy hx).mpr q)) H locs ls hL hP hS)
theorem np_icmp_le (C : np_Cx p s m args meth c cc nL own ret TS D cl cI A S) {x y : Nat} {off : Int} {tgt : Nat} (hx : x < 2 ^ 31) (hy : y < 2 ^ 31) (hdg : decode cc pc = .ok (.if_icmp .le off, 3)) (ht : (pc : Int) + off = (tgt : Int)) (kt : x ≤ y → np_V p l e R s m args below meth c ce sl D cl A Q nL w tgt vs st) (kf : y < x → np_V p l e R s m args below meth c ce sl D cl A Q nL w (pc + 3) vs st) : np_V p l e R s m args below meth c ce sl D cl A Q nL w pc vs (.int (nI y) :: .int (nI x) :: st) := fun H locs ls hL hP hS => lv_icmp_le C.1.1 C.1.2.1 hdg ht (fun h => kt ((nI_leI hx hy).mp h) H locs ls hL hP hS) (fun h => kf (Nat.lt_of_not_le fun q => h ((nI_leI hx hy).mpr q)) H locs ls hL hP hS)
theorem np_icmp_eq (C : np_Cx p s m args meth c cc nL own ret TS D cl cI A S) {x y : Nat} {off : Int} {tgt : Nat} (hx : x < 4294967296) (hy : y < 4294967296) (hdg : decode cc pc = .ok (.if_icmp .eq off, 3)) (ht : (pc : Int) + off = (tgt : Int)) (kt : x = y → np_V p l e R s m args below meth c ce sl D cl A Q nL w tgt vs st) (kf : x ≠ y → np_V p l e R s m args below meth c ce sl D cl A Q nL w (pc + 3) vs st) : np_V p l e R s m args below meth c ce sl D cl A Q nL w pc vs (.int (nI y) :: .int (nI x) :: st) := fun H locs ls hL hP hS => lv_icmp_eq C.1.1 C.1.2.1 hdg ht (fun h => kt ((np_nIe hx hy).mp h) H locs ls hL hP hS) (fun h => kf (fun q => h ((np_nIe hx hy).mpr q)) H locs ls hL hP hS)
theorem np_icmp_ne (C : np_Cx p s m args meth c cc nL own ret TS D cl cI A S) {x y : Nat} {off : Int} {tgt : Nat} (hx : x < 4294967296) (hy : y < 4294967296) (hdg : decode cc pc = .ok (.if_icmp .ne off, 3)) (ht : (pc : Int) + off = (tgt : Int)) (kt : x ≠ y → np_V p l e R s m args below meth c ce sl D cl A Q nL w tgt vs st) (kf : x = y → np_V p l e R s m args below meth c ce sl D cl A Q nL w (pc + 3) vs st) : np_V p l e R s m args below meth c ce sl D cl A Q nL w pc vs (.int (nI y) :: .int (nI x) :: st) := fun H locs ls hL hP hS => lv_icmp_ne C.1.1 C.1.2.1 hdg ht (fun h => kt (fun q => h ((np_nIe hx hy).mpr q)) H locs ls hL hP hS) (fun h => kf ((np_nIe hx hy).mp h) H locs ls hL hP hS)
theorem np_e0 {x : Nat} (hx : x < 4294967296) : nI x = 0 ↔ x = 0 := by
  rw [← nI_0]; exact np_nIe hx (by decide)
theorem np_ge0 {x : Nat} (hx : x < 4294967296) : 0 ≤ nI x ↔ x < 2147483648 := by
  rw [← Int32.not_lt, np_neg hx]; omega
theorem np_gt0 {x : Nat} (hx : x < 4294967296) : 0 < nI x ↔ 0 < x ∧ x < 2147483648 := by
  rw [Int32.lt_iff_le_and_ne, np_ge0 hx]
  have := np_e0 hx
  constructor
  · rintro ⟨h1, h2⟩
    exact ⟨Nat.pos_of_ne_zero fun q => h2 (this.mpr q).symm, h1⟩
  · rintro ⟨h1, h2⟩
    exact ⟨h2, fun q => by have := this.mp q.symm; omega⟩
theorem np_if_eq (C : np_Cx p s m args meth c cc nL own ret TS D cl cI A S) {x : Nat} {off : Int} {tgt : Nat} (hx : x < 4294967296) (hdg : decode cc pc = .ok (.ifCond .eq off, 3)) (ht : (pc : Int) + off = (tgt : Int)) (kt : x = 0 → np_V p l e R s m args below meth c ce sl D cl A Q nL w tgt vs st) (kf : x ≠ 0 → np_V p l e R s m args below meth c ce sl D cl A Q nL w (pc + 3) vs st) : np_V p l e R s m args below meth c ce sl D cl A Q nL w pc vs (.int (nI x) :: st) := fun H locs ls hL hP hS => lv_if_eq C.1.1 C.1.2.1 hdg ht (fun h => kt ((np_e0 hx).mp h) H locs ls hL hP hS) (fun h => kf (fun q => h ((np_e0 hx).mpr q)) H locs ls hL hP hS)
theorem np_if_ne (C : np_Cx p s m args meth c cc nL own ret TS D cl cI A S) {x : Nat} {off : Int} {tgt : Nat} (hx : x < 4294967296) (hdg : decode cc pc = .ok (.ifCond .ne off, 3)) (ht : (pc : Int) + off = (tgt : Int)) (kt : x ≠ 0 → np_V p l e R s m args below meth c ce sl D cl A Q nL w tgt vs st) (kf : x = 0 → np_V p l e R s m args below meth c ce sl D cl A Q nL w (pc + 3) vs st) : np_V p l e R s m args below meth c ce sl D cl A Q nL w pc vs (.int (nI x) :: st) := fun H locs ls hL hP hS => lv_if_ne C.1.1 C.1.2.1 hdg ht (fun h => kt (fun q => h ((np_e0 hx).mpr q)) H locs ls hL hP hS) (fun h => kf ((np_e0 hx).mp h) H locs ls hL hP hS)
theorem np_if_lt (C : np_Cx p s m args meth c cc nL own ret TS D cl cI A S) {x : Nat} {off : Int} {tgt : Nat} (hx : x < 4294967296) (hdg : decode cc pc = .ok (.ifCond .lt off, 3)) (ht : (pc : Int) + off = (tgt : Int)) (kt : 2147483648 ≤ x → np_V p l e R s m args below meth c ce sl D cl A Q nL w tgt vs st) (kf : x < 2147483648 → np_V p l e R s m args below meth c ce sl D cl A Q nL w (pc + 3) vs st) : np_V p l e R s m args below meth c ce sl D cl A Q nL w pc vs (.int (nI x) :: st) := fun H locs ls hL hP hS => lv_if_lt C.1.1 C.1.2.1 hdg ht (fun h => kt ((np_neg hx).mp h) H locs ls hL hP hS) (fun h => kf (Nat.lt_of_not_le fun q => h ((np_neg hx).mpr q)) H locs ls hL hP hS)
theorem np_if_ge (C : np_Cx p s m args meth c cc nL own ret TS D cl cI A S) {x : Nat} {off : Int} {tgt : Nat} (hx : x < 4294967296) (hdg : decode cc pc = .ok (.ifCond .ge off, 3)) (ht : (pc : Int) + off = (tgt : Int)) (kt : x < 2147483648 → np_V p l e R s m args below meth c ce sl D cl A Q nL w tgt vs st) (kf : 2147483648 ≤ x → np_V p l e R s m args below meth c ce sl D cl A Q nL w (pc + 3) vs st) : np_V p l e R s m args below meth c ce sl D cl A Q nL w pc vs (.int (nI x) :: st) := fun H locs ls hL hP hS => lv_if_ge C.1.1 C.1.2.1 hdg ht (fun h => kt ((np_ge0 hx).mp h) H locs ls hL hP hS) (fun h => kf (Nat.le_of_not_lt fun q => h ((np_ge0 hx).mpr q)) H locs ls hL hP hS)
theorem np_if_gt (C : np_Cx p s m args meth c cc nL own ret TS D cl cI A S) {x : Nat} {off : Int} {tgt : Nat} (hx : x < 2147483648) (hdg : decode cc pc = .ok (.ifCond .gt off, 3)) (ht : (pc : Int) + off = (tgt : Int)) (kt : 0 < x → np_V p l e R s m args below meth c ce sl D cl A Q nL w tgt vs st) (kf : x = 0 → np_V p l e R s m args below meth c ce sl D cl A Q nL w (pc + 3) vs st) : np_V p l e R s m args below meth c ce sl D cl A Q nL w pc vs (.int (nI x) :: st) := fun H locs ls hL hP hS => lv_if_gt C.1.1 C.1.2.1 hdg ht (fun h => kt (((np_gt0 (by omega)).mp h).1) H locs ls hL hP hS) (fun h => kf (Nat.eq_zero_of_not_pos fun q => h ((np_gt0 (by omega)).mpr ⟨q, hx⟩)) H locs ls hL hP hS)
theorem np_if_le (C : np_Cx p s m args meth c cc nL own ret TS D cl cI A S) {x : Nat} {off : Int} {tgt : Nat} (hx : x < 2147483648) (hdg : decode cc pc = .ok (.ifCond .le off, 3)) (ht : (pc : Int) + off = (tgt : Int)) (kt : x = 0 → np_V p l e R s m args below meth c ce sl D cl A Q nL w tgt vs st) (kf : 0 < x → np_V p l e R s m args below meth c ce sl D cl A Q nL w (pc + 3) vs st) : np_V p l e R s m args below meth c ce sl D cl A Q nL w pc vs (.int (nI x) :: st) := fun H locs ls hL hP hS => lv_if_le C.1.1 C.1.2.1 hdg ht (fun h => kt (Nat.eq_zero_of_not_pos fun q => absurd ((np_gt0 (x := x) (by omega)).mpr ⟨q, hx⟩) (Int32.not_lt.mpr h)) H locs ls hL hP hS) (fun h => kf (Nat.pos_of_ne_zero fun q => h (by rw [q]; decide)) H locs ls hL hP hS)
theorem np_ifz_eq (C : np_Cx p s m args meth c cc nL own ret TS D cl cI A S) {cond : Prop} [Decidable cond] {off : Int} {tgt : Nat} (hdg : decode cc pc = .ok (.ifCond .eq off, 3)) (ht : (pc : Int) + off = (tgt : Int)) (kt : ¬ cond → np_V p l e R s m args below meth c ce sl D cl A Q nL w tgt vs st) (kf : cond → np_V p l e R s m args below meth c ce sl D cl A Q nL w (pc + 3) vs st) : np_V p l e R s m args below meth c ce sl D cl A Q nL w pc vs (.int (nI (if cond then 1 else 0)) :: st) := np_if_eq C (by split <;> decide) hdg ht (fun h => kt (by by_cases hc : cond <;> simp_all)) (fun h => kf (by by_cases hc : cond <;> simp_all))
theorem np_ifz_ne (C : np_Cx p s m args meth c cc nL own ret TS D cl cI A S) {cond : Prop} [Decidable cond] {off : Int} {tgt : Nat} (hdg : decode cc pc = .ok (.ifCond .ne off, 3)) (ht : (pc : Int) + off = (tgt : Int)) (kt : cond → np_V p l e R s m args below meth c ce sl D cl A Q nL w tgt vs st) (kf : ¬ cond → np_V p l e R s m args below meth c ce sl D cl A Q nL w (pc + 3) vs st) : np_V p l e R s m args below meth c ce sl D cl A Q nL w pc vs (.int (nI (if cond then 1 else 0)) :: st) := np_if_ne C (by split <;> decide) hdg ht (fun h => kt (by by_cases hc : cond <;> simp_all)) (fun h => kf (by by_cases hc : cond <;> simp_all))
theorem np_tswI (C : np_Cx p s m args meth c cc nL own ret TS D cl cI A S) {x : Nat} {dflt lo hi off : Int} {offs : Array Int} {len tgt : Nat} (hdg : decode cc pc = .ok (.tableswitch dflt lo hi offs, len)) (h1 : ¬ (nI x).toInt < lo) (h2 : ¬ hi < (nI x).toInt) (ho : offs[((nI x).toInt - lo).toNat]? = some off) (ht : (pc : Int) + off = (tgt : Int)) (k : np_V p l e R s m args below meth c ce sl D cl A Q nL w tgt vs st) : np_V p l e R s m args below meth c ce sl D cl A Q nL w pc vs (.int (nI x) :: st) := fun H locs ls hL hP hS => lv_tableIn C.1.1 C.1.2.1 hdg h1 h2 ho ht (k H locs ls hL hP hS)
theorem np_tswO (C : np_Cx p s m args meth c cc nL own ret TS D cl cI A S) {x : Nat} {dflt lo hi : Int} {offs : Array Int} {len tgt : Nat} (hdg : decode cc pc = .ok (.tableswitch dflt lo hi offs, len)) (h : (nI x).toInt < lo ∨ hi < (nI x).toInt) (ht : (pc : Int) + dflt = (tgt : Int)) (k : np_V p l e R s m args below meth c ce sl D cl A Q nL w tgt vs st) : np_V p l e R s m args below meth c ce sl D cl A Q nL w pc vs (.int (nI x) :: st) := fun H locs ls hL hP hS => lv_tableOut C.1.1 C.1.2.1 hdg h ht (k H locs ls hL hP hS)
theorem np_goto (C : np_Cx p s m args meth c cc nL own ret TS D cl cI A S) {off : Int} {tgt : Nat} (hdg : decode cc pc = .ok (.goto off, 3)) (ht : (pc : Int) + off = (tgt : Int)) (k : np_V p l e R s m args below meth c ce sl D cl A Q nL w tgt vs st) : np_V p l e R s m args below meth c ce sl D cl A Q nL w pc vs st := fun H locs ls hL hP hS => lv_goto C.1.1 C.1.2.1 hdg ht (k H locs ls hL hP hS)
theorem np_get (C : np_Cx p s m args meth c cc nL own ret TS D cl cI A S) {ref Cn : String} {T : u_T} {N ci index : Nat} (q0 k0 : Nat) {fs : List Value} {a : Nat} {v : Value} (hdg : decode cc pc = .ok (.getfield index, 3)) (he : w[q0]? = some (a, .inr (ci, fs))) (hv : fs[k0]? = some v) (hc : cl[ci]? = some (Cn, T, N)) (hk : k0 < N) (hin : ∀ x ∈ u_ws Cn T N, x ∈ TS) (hlink : Cond.fieldLink own index ref (T k0).2.1 (T k0).2.2.1 ∈ TS) (href : (T k0).1 = ref)
    (k : np_V p l e R s m args below meth c ce sl D cl A Q nL w (pc + 3) vs (v :: st)) : np_V p l e R s m args below meth c ce sl D cl A Q nL w pc vs (.ref a :: st) := fun H locs ls hL hP hS => va_get C.1.1 C.1.2.1 C.1.2.2.2.2 hin C.1.2.2.2.1 C.2.1 hP q0 he hc k0 hk (C.1.2.2.2.2 _ hlink) (fun x h => href ▸ h) hv hdg (k H locs ls hL hP hS)
theorem np_getN (C : np_Cx p s m args meth c cc nL own ret TS D cl cI A S) {ref Cn host : String} {T : u_T} {N ci index : Nat} (q0 k0 : Nat) {fs : List Value} {a : Nat} {v : Value} (hdg : decode cc pc = .ok (.getfield index, 3)) (he : w[q0]? = some (a, .inr (ci, fs))) (hv : fs[k0]? = some v) (hc : cl[ci]? = some (Cn, T, N)) (hk : k0 < N) (hin : ∀ x ∈ u_ws Cn T N, x ∈ TS) (hlink : va_Nw (.fieldLinkNest own index ref (T k0).2.1 (T k0).2.2.1 host) s) (href : (T k0).1 = ref)
    (k : np_V p l e R s m args below meth c ce sl D cl A Q nL w (pc + 3) vs (v :: st)) : np_V p l e R s m args below meth c ce sl D cl A Q nL w pc vs (.ref a :: st) := fun H locs ls hL hP hS => va_getN C.1.1 C.1.2.1 C.1.2.2.2.2 hin C.1.2.2.2.1 C.2.1 hP q0 he hc k0 hk (va_Nw.use rfl hlink) (fun x h => href ▸ h) hv hdg (k H locs ls hL hP hS)
theorem np_put (C : np_Cx p s m args meth c cc nL own ret TS D cl cI A S) {ref Cn : String} {T : u_T} {N ci index : Nat} (q0 k0 : Nat) {fs : List Value} {a : Nat} {w' : va_W} {x : Int32} (hD : va_D A w) (hdg : decode cc pc = .ok (.putfield index, 3)) (he : w[q0]? = some (a, .inr (ci, fs))) (hw : w.set q0 (a, .inr (ci, fs.set k0 (.int x))) = w') (hc : cl[ci]? = some (Cn, T, N)) (hk : k0 < N) (hin : ∀ x ∈ u_ws Cn T N, x ∈ TS) (ty0 : Nat → FieldType) (hty : ∀ k, k < N → parseFieldDescriptor (T k).2.2.1 = some (ty0 k)) (hnm : ∀ a, a < N → ∀ b, b < N → a ≠ b → (T a).2.1 ≠ (T b).2.1) (hlink : Cond.fieldLink own index ref (T k0).2.1 (T k0).2.2.1 ∈ TS) (href : (T k0).1 = ref) (hfin : (T k0).2.2.2 = false) (hd : parseFieldDescriptor (T k0).2.2.1 = some .int) (hl : k0 < fs.length)
    (k : np_V p l e R s m args below meth c ce sl D cl A Q nL w' (pc + 3) vs st) : np_V p l e R s m args below meth c ce sl D cl A Q nL w pc vs (.int x :: .ref a :: st) := fun H locs ls hL hP hS => va_put (ty := .int) C.1.1 C.1.2.1 C.1.2.2.2.2 hin ty0 hty hnm C.1.2.2.2.1 C.2.1 hP hD hS q0 he hc k0 hk (C.1.2.2.2.2 _ hlink) (fun x h => href ▸ h) hfin hd rfl rfl hl hdg (fun H1 locs1 hP1 _ hS1 => k H1 locs1 ls hL (hw ▸ hP1) hS1)
theorem np_iald (C : np_Cx p s m args meth c cc nL own ret TS D cl cI A S) (q0 : Nat) {n j a : Nat} {f : Nat → Nat} (hdg : decode cc pc = .ok (.iaload, 1)) (he : w[q0]? = some (a, .inl (cI, n, .inl (fun i => nI (f i))))) (hj : j < n) (hn : n < 2 ^ 31)
    (k : np_V p l e R s m args below meth c ce sl D cl A Q nL w (pc + 1) vs (.int (nI (f j)) :: st)) : np_V p l e R s m args below meth c ce sl D cl A Q nL w pc vs (.int (nI j) :: .ref a :: st) := fun H locs ls hL hP hS => va_iald C.1.1 C.1.2.1 C.2.1 hP q0 0 he rfl (vp_in_nI hj hn) hdg (by
      have e : (nI j).toNatClampNeg = j := nI_clamp (Nat.lt_trans hj hn)
      simp only [e]
      exact k H locs ls hL hP hS)
theorem np_iast (C : np_Cx p s m args meth c cc nL own ret TS D cl cI A S) (q0 : Nat) {n j a v : Nat} {f : Nat → Nat} {w' : va_W} (hD : va_D A w) (hdg : decode cc pc = .ok (.iastore, 1)) (he : w[q0]? = some (a, .inl (cI, n, .inl (fun i => nI (f i))))) (hw : w.set q0 (a, .inl (cI, n, .inl (fun i => nI (updN f j v i)))) = w') (hj : j < n) (hn : n < 2 ^ 31)
    (k : np_V p l e R s m args below meth c ce sl D cl A Q nL w' (pc + 1) vs st) : np_V p l e R s m args below meth c ce sl D cl A Q nL w pc vs (.int (nI v) :: .int (nI j) :: .ref a :: st) := fun H locs ls hL hP hS => va_iast C.1.1 C.1.2.1 C.2.1 hP hD hS q0 0 he rfl (vp_in_nI hj hn) hdg (fun H1 locs1 hP1 _ hS1 => k H1 locs1 ls hL (by
      have e : (nI j).toNatClampNeg = j := nI_clamp (Nat.lt_trans hj hn)
      rw [e, upd_nI, hw] at hP1
      exact hP1) hS1)
theorem np_alen (C : np_Cx p s m args meth c cc nL own ret TS D cl cI A S) (q0 : Nat) {n a : Nat} {f : Nat → Nat} (hdg : decode cc pc = .ok (.arraylength, 1)) (he : w[q0]? = some (a, .inl (cI, n, .inl (fun i => nI (f i)))))
    (k : np_V p l e R s m args below meth c ce sl D cl A Q nL w (pc + 1) vs (.int (nI n) :: st)) : np_V p l e R s m args below meth c ce sl D cl A Q nL w pc vs (.ref a :: st) := fun H locs ls hL hP hS => va_alen C.1.1 C.1.2.1 C.2.1 hP q0 0 he rfl rfl hdg (k H locs ls hL hP hS)
theorem np_gets (C : np_Cx p s m args meth c cc nL own ret TS D cl cI A S) {Cn n d ref : String} {index : Nat} {v : Value} (hZ : va_Z Cn n d v A s s.heap) (hlink : Cond.fieldLink own index ref n d ∈ TS) (href : Cn = ref) (hdg : decode cc pc = .ok (.getstatic index, 3))
    (k : np_V p l e R s m args below meth c ce sl D cl A Q nL w (pc + 3) vs (v :: st)) : np_V p l e R s m args below meth c ce sl D cl A Q nL w pc vs st := fun H locs ls hL hP hS => va_gets C.1.1 C.1.2.1 hZ hS C.1.2.2.2.1 (C.1.2.2.2.2 _ hlink) (fun x h => href ▸ h) hdg (k H locs ls hL hP hS)
theorem np_getsN (C : np_Cx p s m args meth c cc nL own ret TS D cl cI A S) {Cn n d ref host : String} {index : Nat} {v : Value} (hZ : va_Z Cn n d v A s s.heap) (hlink : va_Nw (.fieldLinkNest own index ref n d host) s) (href : Cn = ref) (hdg : decode cc pc = .ok (.getstatic index, 3))
    (k : np_V p l e R s m args below meth c ce sl D cl A Q nL w (pc + 3) vs (v :: st)) : np_V p l e R s m args below meth c ce sl D cl A Q nL w pc vs st := fun H locs ls hL hP hS => va_getsN C.1.1 C.1.2.1 hZ hS C.1.2.2.2.1 (va_Nw.use rfl hlink) (fun x h => href ▸ h) hdg (k H locs ls hL hP hS)
theorem np_tald (C : np_Cx p s m args meth c cc nL own ret TS D cl cI A S) {t N j : Nat} {f : Nat → Nat} (hT : va_T .int t N (fun i => .int (nI (f i))) A s s.heap) (hj : j < N) (hN : N < 2 ^ 31) (hdg : decode cc pc = .ok (.iaload, 1))
    (k : np_V p l e R s m args below meth c ce sl D cl A Q nL w (pc + 1) vs (.int (nI (f j)) :: st)) : np_V p l e R s m args below meth c ce sl D cl A Q nL w pc vs (.int (nI j) :: .ref t :: st) := fun H locs ls hL hP hS => va_ti C.1.1 C.1.2.1 hT hS (vp_in_nI hj hN) (v := .int (nI (f j))) (by
      have e : (nI j).toNatClampNeg = j := nI_clamp (Nat.lt_trans hj hN)
      simp only [e]) hdg (k H locs ls hL hP hS)
theorem np_tlen (C : np_Cx p s m args meth c cc nL own ret TS D cl cI A S) {t N : Nat} {f : Nat → Value} (hT : va_T .int t N f A s s.heap) (hdg : decode cc pc = .ok (.arraylength, 1))
    (k : np_V p l e R s m args below meth c ce sl D cl A Q nL w (pc + 1) vs (.int (nI N) :: st)) : np_V p l e R s m args below meth c ce sl D cl A Q nL w pc vs (.ref t :: st) := fun H locs ls hL hP hS => va_tlen C.1.1 C.1.2.1 hT hS rfl hdg (k H locs ls hL hP hS)
theorem np_iret (C : np_Cx p s m args meth c cc nL own (some .int) TS D cl cI A S) {x y : Nat} {w' : va_W} (hdg : decode cc pc = .ok (.ireturn, 1)) (hv : x = y) (hw : w = w') : np_V p l e R s m args below meth c 0 0 D cl A (MQ below (np_Qc D cl A (some (.int (nI y))) w') args s 0 0 A) nL w pc vs [.int (nI x)] := by
  subst hv; subst hw
  intro H locs ls hL hP hS
  have hlk := C.2.2.2.2.2
  exact W.iret C.1.1 C.1.2.1 C.2.2.2.2.1 (fun t ht hW => ⟨rfl, by rw [ht]; exact hP, hS.F ht⟩) hS.2.2 hdg hlk
theorem np_zret (C : np_Cx p s m args meth c cc nL own (some .boolean) TS D cl cI A S) {x y : Nat} {w' : va_W} (hdg : decode cc pc = .ok (.ireturn, 1)) (hb : x < 2) (hv : x = y) (hw : w = w') : np_V p l e R s m args below meth c 0 0 D cl A (MQ below (np_Qc D cl A (some (.int (nI y))) w') args s 0 0 A) nL w pc vs [.int (nI x)] := by
  subst hv; subst hw
  intro H locs ls hL hP hS
  have hlk := C.2.2.2.2.2
  have hn : narrow .boolean (.int (nI x)) = .int (nI x) := by
    rcases (show x = 0 ∨ x = 1 by omega) with rfl | rfl <;> rfl
  exact W.zret C.1.1 C.1.2.1 C.2.2.2.2.1 hn (fun t ht hW => ⟨rfl, by rw [ht]; exact hP, hS.F ht⟩) hS.2.2 hdg hlk
theorem np_vret (C : np_Cx p s m args meth c cc nL own none TS D cl cI A S) {w' : va_W} (hdg : decode cc pc = .ok (.return_, 1)) (hw : w = w') : np_V p l e R s m args below meth c 0 0 D cl A (MQ below (np_Qc D cl A none w') args s 0 0 A) nL w pc vs [] := by
  subst hw
  intro H locs ls hL hP hS
  have hlk := C.2.2.2.2.2
  exact W.vret C.1.1 C.1.2.1 C.2.2.2.2.1 (fun t ht hW => ⟨rfl, by rw [ht]; exact hP, hS.F ht⟩) hS.2.2 hdg hlk
/-- all words of TS may be handed on -/
def np_good (TS : List Cond) : Prop := ∀ x ∈ TS, (x.onTables && x.keeps) = true ∨ ∃ ty, x = .arrayClass ty
theorem np_GoodIn {TS : List Cond} (h : np_good TS) {x : Cond} (hx : x ∈ TS) : GoodIn TS (x :: TS) := by
  intro z hz
  rcases List.mem_cons.mp hz with rfl | hz
  · exact ⟨hx, h _ hx⟩
  · exact ⟨hz, h _ hz⟩
/-- behind a call -/
theorem np_back {rv : Option Value} {w' : va_W} {a : Array Value} {st0 rest : List Value} (hr : ∀ (H : Heap) (locs : List Loc) (ls : Array Slot), np_LV ls nL vs → va_P D cl w H → va_S A s.heap H locs → va_Run p l e R s m args below meth c H locs 0 0 0 0 (F0 m pc ls st0) rest (np_Qc D cl A rv w' a) A)
    (k : np_V p l e R s m args below meth c 0 0 D cl A Q nL w' (pc + 3) vs (rv.toList ++ rest)) : np_V p l e R s m args below meth c 0 0 D cl A Q nL w pc vs st0 := by
  intro H locs ls hL hP hS T hT X
  obtain ⟨v, st₀, t, T', L, h0, X', hLo, e1, e2, ⟨hv, hPt, hz, hk⟩, go⟩ := hr H locs ls hL hP hS T hT X
  cases hv
  rw [h0] at hz hk
  have hS' : va_S A s.heap T'.heap (locs ++ L) := ⟨Nat.le_trans hS.1 (by rw [e1]; exact hz), fun q h1 h2 => by rw [e1, hk q (Nat.lt_of_lt_of_le h1 hS.1) h2]; exact hS.2.1 q h1 h2, fun q hq => by
    rcases List.mem_append.mp hq with h | h
    · exact hS.2.2 q h
    · exact hLo q h⟩
  obtain ⟨t2, a1, b1⟩ := k T'.heap (locs ++ L) ls hL (by rw [e1]; exact hPt) hS' T' rfl X'
  exact ⟨t2, go t2 a1, b1⟩
theorem np_preS (C : np_Cx p s m args meth c cc nL own ret TS D cl cI A S) {av : List Value} {H : Heap} {locs : List Loc} (hP : va_P D cl w H) (hS : va_S A s.heap H locs) : PreS s H (np_Pc D cl cI S w av) av := by
  refine ⟨fun a U g mk q => ?_, fun U hU hW => ?_⟩
  · obtain ⟨q0, q1, q2, q3⟩ := q
    exact ⟨q0, q1, va_K.moved (u := U) (U := U.calling g mk a) (Vm.Alike.refl U.vm) q2, C.2.2.2.1.1 U g mk a q3⟩
  · exact ⟨rfl, by rw [hU]; exact hP, va_K.moved hW.alike C.2.1, C.2.2.2.1.2 s U C.2.2.1 hW (fun q h1 h2 => by rw [hU]; exact hS.2.1 q h1 h2)⟩
theorem np_cb (C : np_Cx p s m args meth c cc nL own ret TS D cl cI A S) {index : Nat} {y : MethodName} {b : ByteArray} {mL n : Nat} {k k' : Nat × Nat} {rt : Option FieldType} (hg : np_good TS) (hc : Cond.code y b mL rt ∈ TS) (hl : Cond.methodLink own index y ∈ TS) (hini : Cond.initialized y.cls ∈ TS) (hd : y.cls ≠ "java/lang/invoke/MethodHandle" ∧ y.cls ≠ "java/lang/invoke/VarHandle" ∧ (parseMethodDescriptor y.desc).map (fun d => d.parameters.length) = some n) (hk : k'.1 + 1 ≤ k.1 ∧ 8 + (mL + 11) + k'.2 ≤ k.2) : CallB (np_rm k) s args own index y b mL rt (.code y b mL rt :: TS) (np_rm k') 0 0 n :=
  callB_of n C.1.2.2.2.2 (np_GoodIn hg hc) rfl rfl rfl (C.1.2.2.2.2 _ hini) (C.1.2.2.2.2 _ hl) hd hk
theorem np_cbN (C : np_Cx p s m args meth c cc nL own ret TS D cl cI A S) {index : Nat} {y : MethodName} {host : String} {b : ByteArray} {mL n : Nat} {k k' : Nat × Nat} {rt : Option FieldType} (hg : np_good TS) (hc : Cond.code y b mL rt ∈ TS) (hl : va_Nw (.methodLinkNest own index y host) s) (hini : Cond.initialized y.cls ∈ TS) (hd : y.cls ≠ "java/lang/invoke/MethodHandle" ∧ y.cls ≠ "java/lang/invoke/VarHandle" ∧ (parseMethodDescriptor y.desc).map (fun d => d.parameters.length) = some n) (hk : k'.1 + 1 ≤ k.1 ∧ 8 + (mL + 11) + k'.2 ≤ k.2) : va_CN (np_rm k) s args own index y host b mL rt (.code y b mL rt :: TS) (np_rm k') 0 0 n :=
  va_cnB n C.1.2.2.2.2 (np_GoodIn hg hc) rfl rfl rfl hl (C.1.2.2.2.2 _ hini) hd hk
theorem np_cS (C : np_Cx p s m args meth c cc nL own ret TS D cl cI A S) {index : Nat} {y : MethodName} {b : ByteArray} {mL n : Nat} {k k' : Nat × Nat} {rt : Option FieldType} {rv : Option Value} {w' : va_W} {rest : List Value} {av : List Value} (hM : np_Ct l D cl cI A S TS k' y b mL rt av w rv w') (hg : np_good TS) (hdg : decode cc pc = .ok (.invokestatic index, 3)) (hc : Cond.code y b mL rt ∈ TS) (hl : Cond.methodLink own index y ∈ TS) (hini : Cond.initialized y.cls ∈ TS) (hst : Cond.static y ∈ TS) (hd : y.cls ≠ "java/lang/invoke/MethodHandle" ∧ y.cls ≠ "java/lang/invoke/VarHandle" ∧ (parseMethodDescriptor y.desc).map (fun d => d.parameters.length) = some n) (hk : k'.1 + 1 ≤ k.1 ∧ 8 + (mL + 11) + k'.2 ≤ k.2) (hn : av.length = n) (hstk : st = av.reverse ++ rest) (hroom : (rest.map fun v => v.category).sum ≤ 8)
    (kk : np_V p l e (np_rm k) s m args below meth c 0 0 D cl A Q nL w' (pc + 3) vs (rv.toList ++ rest)) : np_V p l e (np_rm k) s m args below meth c 0 0 D cl A Q nL w pc vs st := by
  subst hstk
  refine np_back (a := av.toArray) (rest := rest) (fun H locs ls hL hP hS => ?_) kk
  exact va_runS C.1 hM ⟨np_cb C hg hc hl hini hd hk, C.1.2.2.2.2 _ hst⟩ (np_preS C hP hS) rfl hn hL.1 rfl (lv_room hroom) hdg ⟨Nat.le_refl _, Nat.le_refl _⟩
theorem np_cSN (C : np_Cx p s m args meth c cc nL own ret TS D cl cI A S) {index : Nat} {y : MethodName} {b : ByteArray} {mL n : Nat} {k k' : Nat × Nat} {rt : Option FieldType} {rv : Option Value} {w' : va_W} {rest : List Value} {host : String} {av : List Value} (hM : np_Ct l D cl cI A S TS k' y b mL rt av w rv w') (hg : np_good TS) (hdg : decode cc pc = .ok (.invokestatic index, 3)) (hc : Cond.code y b mL rt ∈ TS) (hl : va_Nw (.methodLinkNest own index y host) s) (hini : Cond.initialized y.cls ∈ TS) (hst : Cond.static y ∈ TS) (hd : y.cls ≠ "java/lang/invoke/MethodHandle" ∧ y.cls ≠ "java/lang/invoke/VarHandle" ∧ (parseMethodDescriptor y.desc).map (fun d => d.parameters.length) = some n) (hk : k'.1 + 1 ≤ k.1 ∧ 8 + (mL + 11) + k'.2 ≤ k.2) (hn : av.length = n) (hstk : st = av.reverse ++ rest) (hroom : (rest.map fun v => v.category).sum ≤ 8)
    (kk : np_V p l e (np_rm k) s m args below meth c 0 0 D cl A Q nL w' (pc + 3) vs (rv.toList ++ rest)) : np_V p l e (np_rm k) s m args below meth c 0 0 D cl A Q nL w pc vs st := by
  subst hstk
  refine np_back (a := av.toArray) (rest := rest) (fun H locs ls hL hP hS => ?_) kk
  exact va_runSN C.1 hM ⟨np_cbN C hg hc hl hini hd hk, C.1.2.2.2.2 _ hst, trivial⟩ (np_preS C hP hS) rfl hn hL.1 rfl (lv_room hroom) hdg ⟨Nat.le_refl _, Nat.le_refl _⟩
theorem np_cV (C : np_Cx p s m args meth c cc nL own ret TS D cl cI A S) {index : Nat} {y : MethodName} {b : ByteArray} {mL n : Nat} {k k' : Nat × Nat} {rt : Option FieldType} {rv : Option Value} {w' : va_W} {rest : List Value} {Cn : String} {T : u_T} {N ci a : Nat} {fs : List Value} {As : List Value} (q0 : Nat) (hM : np_Ct l D cl cI A S TS k' y b mL rt (.ref a :: As) w rv w') (hg : np_good TS) (hdg : decode cc pc = .ok (.invokevirtual index, 3)) (he : w[q0]? = some (a, .inr (ci, fs))) (hcl : cl[ci]? = some (Cn, T, N)) (hc : Cond.code y b mL rt ∈ TS) (hl : Cond.methodLink own index y ∈ TS) (hini : Cond.initialized y.cls ∈ TS) (hins : Cond.instanceMethod y ∈ TS) (hsel : Cond.selects Cn y y ∈ TS) (hd : y.cls ≠ "java/lang/invoke/MethodHandle" ∧ y.cls ≠ "java/lang/invoke/VarHandle" ∧ (parseMethodDescriptor y.desc).map (fun d => d.parameters.length) = some n) (hk : k'.1 + 1 ≤ k.1 ∧ 8 + (mL + 11) + k'.2 ≤ k.2) (hn : As.length = n) (hstk : st = As.reverse ++ .ref a :: rest) (hroom : (rest.map fun v => v.category).sum ≤ 8)
    (kk : np_V p l e (np_rm k) s m args below meth c 0 0 D cl A Q nL w' (pc + 3) vs (rv.toList ++ rest)) : np_V p l e (np_rm k) s m args below meth c 0 0 D cl A Q nL w pc vs st := by
  subst hstk
  refine np_back (a := (Value.ref a :: As).toArray) (rest := rest) (fun H locs ls hL hP hS => ?_) kk
  have hp := np_preS C (av := .ref a :: As) hP hS
  exact va_runV C.1 hM ⟨np_cb C hg hc hl hini hd hk, C.1.2.2.2.2 _ hins, C.1.2.2.2.2 _ hsel⟩ ⟨hp.1, va_recv C.2.1 hP hcl he, hp.2⟩ rfl hn hL.1 rfl (lv_room hroom) hdg ⟨Nat.le_refl _, Nat.le_refl _⟩
theorem np_cVN (C : np_Cx p s m args meth c cc nL own ret TS D cl cI A S) {index : Nat} {y : MethodName} {b : ByteArray} {mL n : Nat} {k k' : Nat × Nat} {rt : Option FieldType} {rv : Option Value} {w' : va_W} {rest : List Value} {Cn host : String} {T : u_T} {N ci a : Nat} {fs : List Value} {As : List Value} (q0 : Nat) (hM : np_Ct l D cl cI A S TS k' y b mL rt (.ref a :: As) w rv w') (hg : np_good TS) (hdg : decode cc pc = .ok (.invokevirtual index, 3)) (he : w[q0]? = some (a, .inr (ci, fs))) (hcl : cl[ci]? = some (Cn, T, N)) (hc : Cond.code y b mL rt ∈ TS) (hl : va_Nw (.methodLinkNest own index y host) s) (hini : Cond.initialized y.cls ∈ TS) (hins : Cond.instanceMethod y ∈ TS) (hsel : Cond.selects Cn y y ∈ TS) (hd : y.cls ≠ "java/lang/invoke/MethodHandle" ∧ y.cls ≠ "java/lang/invoke/VarHandle" ∧ (parseMethodDescriptor y.desc).map (fun d => d.parameters.length) = some n) (hk : k'.1 + 1 ≤ k.1 ∧ 8 + (mL + 11) + k'.2 ≤ k.2) (hn : As.length = n) (hstk : st = As.reverse ++ .ref a :: rest) (hroom : (rest.map fun v => v.category).sum ≤ 8)
    (kk : np_V p l e (np_rm k) s m args below meth c 0 0 D cl A Q nL w' (pc + 3) vs (rv.toList ++ rest)) : np_V p l e (np_rm k) s m args below meth c 0 0 D cl A Q nL w pc vs st := by
  subst hstk
  refine np_back (a := (Value.ref a :: As).toArray) (rest := rest) (fun H locs ls hL hP hS => ?_) kk
  have hp := np_preS C (av := .ref a :: As) hP hS
  exact va_runVN C.1 hM ⟨np_cbN C hg hc hl hini hd hk, C.1.2.2.2.2 _ hins, C.1.2.2.2.2 _ hsel⟩ ⟨hp.1, va_recv C.2.1 hP hcl he, hp.2⟩ rfl hn hL.1 rfl (lv_room hroom) hdg ⟨Nat.le_refl _, Nat.le_refl _⟩
theorem np_cSi (C : np_Cx p s m args meth c cc nL own ret TS D cl cI A S) {index : Nat} {y : MethodName} {b : ByteArray} {mL n : Nat} {k k' : Nat × Nat} {rt : Option FieldType} {w' : va_W} {rest : List Value} {r : Int32} {av : List Value} (hM : np_Ct l D cl cI A S TS k' y b mL rt av w (some (.int r)) w') (hg : np_good TS) (hdg : decode cc pc = .ok (.invokestatic index, 3)) (hc : Cond.code y b mL rt ∈ TS) (hl : Cond.methodLink own index y ∈ TS) (hini : Cond.initialized y.cls ∈ TS) (hst : Cond.static y ∈ TS) (hd : y.cls ≠ "java/lang/invoke/MethodHandle" ∧ y.cls ≠ "java/lang/invoke/VarHandle" ∧ (parseMethodDescriptor y.desc).map (fun d => d.parameters.length) = some n) (hk : k'.1 + 1 ≤ k.1 ∧ 8 + (mL + 11) + k'.2 ≤ k.2) (hn : av.length = n) (hstk : st = av.reverse ++ rest) (hroom : (rest.map fun v => v.category).sum ≤ 8) (kk : np_V p l e (np_rm k) s m args below meth c 0 0 D cl A Q nL w' (pc + 3) vs (.int r :: rest)) : np_V p l e (np_rm k) s m args below meth c 0 0 D cl A Q nL w pc vs st := np_cS C hM hg hdg hc hl hini hst hd hk hn hstk hroom kk
theorem np_cSv (C : np_Cx p s m args meth c cc nL own ret TS D cl cI A S) {index : Nat} {y : MethodName} {b : ByteArray} {mL n : Nat} {k k' : Nat × Nat} {rt : Option FieldType} {w' : va_W} {rest : List Value} {av : List Value} (hM : np_Ct l D cl cI A S TS k' y b mL rt av w none w') (hg : np_good TS) (hdg : decode cc pc = .ok (.invokestatic index, 3)) (hc : Cond.code y b mL rt ∈ TS) (hl : Cond.methodLink own index y ∈ TS) (hini : Cond.initialized y.cls ∈ TS) (hst : Cond.static y ∈ TS) (hd : y.cls ≠ "java/lang/invoke/MethodHandle" ∧ y.cls ≠ "java/lang/invoke/VarHandle" ∧ (parseMethodDescriptor y.desc).map (fun d => d.parameters.length) = some n) (hk : k'.1 + 1 ≤ k.1 ∧ 8 + (mL + 11) + k'.2 ≤ k.2) (hn : av.length = n) (hstk : st = av.reverse ++ rest) (hroom : (rest.map fun v => v.category).sum ≤ 8) (kk : np_V p l e (np_rm k) s m args below meth c 0 0 D cl A Q nL w' (pc + 3) vs rest) : np_V p l e (np_rm k) s m args below meth c 0 0 D cl A Q nL w pc vs st := np_cS C hM hg hdg hc hl hini hst hd hk hn hstk hroom kk
theorem np_cSNi (C : np_Cx p s m args meth c cc nL own ret TS D cl cI A S) {index : Nat} {y : MethodName} {b : ByteArray} {mL n : Nat} {k k' : Nat × Nat} {rt : Option FieldType} {w' : va_W} {rest : List Value} {r : Int32} {host : String} {av : List Value} (hM : np_Ct l D cl cI A S TS k' y b mL rt av w (some (.int r)) w') (hg : np_good TS) (hdg : decode cc pc = .ok (.invokestatic index, 3)) (hc : Cond.code y b mL rt ∈ TS) (hl : va_Nw (.methodLinkNest own index y host) s) (hini : Cond.initialized y.cls ∈ TS) (hst : Cond.static y ∈ TS) (hd : y.cls ≠ "java/lang/invoke/MethodHandle" ∧ y.cls ≠ "java/lang/invoke/VarHandle" ∧ (parseMethodDescriptor y.desc).map (fun d => d.parameters.length) = some n) (hk : k'.1 + 1 ≤ k.1 ∧ 8 + (mL + 11) + k'.2 ≤ k.2) (hn : av.length = n) (hstk : st = av.reverse ++ rest) (hroom : (rest.map fun v => v.category).sum ≤ 8) (kk : np_V p l e (np_rm k) s m args below meth c 0 0 D cl A Q nL w' (pc + 3) vs (.int r :: rest)) : np_V p l e (np_rm k) s m args below meth c 0 0 D cl A Q nL w pc vs st := np_cSN C hM hg hdg hc hl hini hst hd hk hn hstk hroom kk
theorem np_cSNv (C : np_Cx p s m args meth c cc nL own ret TS D cl cI A S) {index : Nat} {y : MethodName} {b : ByteArray} {mL n : Nat} {k k' : Nat × Nat} {rt : Option FieldType} {w' : va_W} {rest : List Value} {host : String} {av : List Value} (hM : np_Ct l D cl cI A S TS k' y b mL rt av w none w') (hg : np_good TS) (hdg : decode cc pc = .ok (.invokestatic index, 3)) (hc : Cond.code y b mL rt ∈ TS) (hl : va_Nw (.methodLinkNest own index y host) s) (hini : Cond.initialized y.cls ∈ TS) (hst : Cond.static y ∈ TS) (hd : y.cls ≠ "java/lang/invoke/MethodHandle" ∧ y.cls ≠ "java/lang/invoke/VarHandle" ∧ (parseMethodDescriptor y.desc).map (fun d => d.parameters.length) = some n) (hk : k'.1 + 1 ≤ k.1 ∧ 8 + (mL + 11) + k'.2 ≤ k.2) (hn : av.length = n) (hstk : st = av.reverse ++ rest) (hroom : (rest.map fun v => v.category).sum ≤ 8) (kk : np_V p l e (np_rm k) s m args below meth c 0 0 D cl A Q nL w' (pc + 3) vs rest) : np_V p l e (np_rm k) s m args below meth c 0 0 D cl A Q nL w pc vs st := np_cSN C hM hg hdg hc hl hini hst hd hk hn hstk hroom kk
theorem np_cVi (C : np_Cx p s m args meth c cc nL own ret TS D cl cI A S) {index : Nat} {y : MethodName} {b : ByteArray} {mL n : Nat} {k k' : Nat × Nat} {rt : Option FieldType} {w' : va_W} {rest : List Value} {r : Int32} {Cn : String} {T : u_T} {N ci a : Nat} {fs : List Value} {As : List Value} (q0 : Nat) (hM : np_Ct l D cl cI A S TS k' y b mL rt (.ref a :: As) w (some (.int r)) w') (hg : np_good TS) (hdg : decode cc pc = .ok (.invokevirtual index, 3)) (he : w[q0]? = some (a, .inr (ci, fs))) (hcl : cl[ci]? = some (Cn, T, N)) (hc : Cond.code y b mL rt ∈ TS) (hl : Cond.methodLink own index y ∈ TS) (hini : Cond.initialized y.cls ∈ TS) (hins : Cond.instanceMethod y ∈ TS) (hsel : Cond.selects Cn y y ∈ TS) (hd : y.cls ≠ "java/lang/invoke/MethodHandle" ∧ y.cls ≠ "java/lang/invoke/VarHandle" ∧ (parseMethodDescriptor y.desc).map (fun d => d.parameters.length) = some n) (hk : k'.1 + 1 ≤ k.1 ∧ 8 + (mL + 11) + k'.2 ≤ k.2) (hn : As.length = n) (hstk : st = As.reverse ++ .ref a :: rest) (hroom : (rest.map fun v => v.category).sum ≤ 8) (kk : np_V p l e (np_rm k) s m args below meth c 0 0 D cl A Q nL w' (pc + 3) vs (.int r :: rest)) : np_V p l e (np_rm k) s m args below meth c 0 0 D cl A Q nL w pc vs st := np_cV C q0 hM hg hdg he hcl hc hl hini hins hsel hd hk hn hstk hroom kk
theorem np_cVv (C : np_Cx p s m args meth c cc nL own ret TS D cl cI A S) {index : Nat} {y : MethodName} {b : ByteArray} {mL n : Nat} {k k' : Nat × Nat} {rt : Option FieldType} {w' : va_W} {rest : List Value} {Cn : String} {T : u_T} {N ci a : Nat} {fs : List Value} {As : List Value} (q0 : Nat) (hM : np_Ct l D cl cI A S TS k' y b mL rt (.ref a :: As) w none w') (hg : np_good TS) (hdg : decode cc pc = .ok (.invokevirtual index, 3)) (he : w[q0]? = some (a, .inr (ci, fs))) (hcl : cl[ci]? = some (Cn, T, N)) (hc : Cond.code y b mL rt ∈ TS) (hl : Cond.methodLink own index y ∈ TS) (hini : Cond.initialized y.cls ∈ TS) (hins : Cond.instanceMethod y ∈ TS) (hsel : Cond.selects Cn y y ∈ TS) (hd : y.cls ≠ "java/lang/invoke/MethodHandle" ∧ y.cls ≠ "java/lang/invoke/VarHandle" ∧ (parseMethodDescriptor y.desc).map (fun d => d.parameters.length) = some n) (hk : k'.1 + 1 ≤ k.1 ∧ 8 + (mL + 11) + k'.2 ≤ k.2) (hn : As.length = n) (hstk : st = As.reverse ++ .ref a :: rest) (hroom : (rest.map fun v => v.category).sum ≤ 8) (kk : np_V p l e (np_rm k) s m args below meth c 0 0 D cl A Q nL w' (pc + 3) vs rest) : np_V p l e (np_rm k) s m args below meth c 0 0 D cl A Q nL w pc vs st := np_cV C q0 hM hg hdg he hcl hc hl hini hins hsel hd hk hn hstk hroom kk
theorem np_cVNi (C : np_Cx p s m args meth c cc nL own ret TS D cl cI A S) {index : Nat} {y : MethodName} {b : ByteArray} {mL n : Nat} {k k' : Nat × Nat} {rt : Option FieldType} {w' : va_W} {rest : List Value} {r : Int32} {Cn host : String} {T : u_T} {N ci a : Nat} {fs : List Value} {As : List Value} (q0 : Nat) (hM : np_Ct l D cl cI A S TS k' y b mL rt (.ref a :: As) w (some (.int r)) w') (hg : np_good TS) (hdg : decode cc pc = .ok (.invokevirtual index, 3)) (he : w[q0]? = some (a, .inr (ci, fs))) (hcl : cl[ci]? = some (Cn, T, N)) (hc : Cond.code y b mL rt ∈ TS) (hl : va_Nw (.methodLinkNest own index y host) s) (hini : Cond.initialized y.cls ∈ TS) (hins : Cond.instanceMethod y ∈ TS) (hsel : Cond.selects Cn y y ∈ TS) (hd : y.cls ≠ "java/lang/invoke/MethodHandle" ∧ y.cls ≠ "java/lang/invoke/VarHandle" ∧ (parseMethodDescriptor y.desc).map (fun d => d.parameters.length) = some n) (hk : k'.1 + 1 ≤ k.1 ∧ 8 + (mL + 11) + k'.2 ≤ k.2) (hn : As.length = n) (hstk : st = As.reverse ++ .ref a :: rest) (hroom : (rest.map fun v => v.category).sum ≤ 8) (kk : np_V p l e (np_rm k) s m args below meth c 0 0 D cl A Q nL w' (pc + 3) vs (.int r :: rest)) : np_V p l e (np_rm k) s m args below meth c 0 0 D cl A Q nL w pc vs st := np_cVN C q0 hM hg hdg he hcl hc hl hini hins hsel hd hk hn hstk hroom kk
theorem np_cVNv (C : np_Cx p s m args meth c cc nL own ret TS D cl cI A S) {index : Nat} {y : MethodName} {b : ByteArray} {mL n : Nat} {k k' : Nat × Nat} {rt : Option FieldType} {w' : va_W} {rest : List Value} {Cn host : String} {T : u_T} {N ci a : Nat} {fs : List Value} {As : List Value} (q0 : Nat) (hM : np_Ct l D cl cI A S TS k' y b mL rt (.ref a :: As) w none w') (hg : np_good TS) (hdg : decode cc pc = .ok (.invokevirtual index, 3)) (he : w[q0]? = some (a, .inr (ci, fs))) (hcl : cl[ci]? = some (Cn, T, N)) (hc : Cond.code y b mL rt ∈ TS) (hl : va_Nw (.methodLinkNest own index y host) s) (hini : Cond.initialized y.cls ∈ TS) (hins : Cond.instanceMethod y ∈ TS) (hsel : Cond.selects Cn y y ∈ TS) (hd : y.cls ≠ "java/lang/invoke/MethodHandle" ∧ y.cls ≠ "java/lang/invoke/VarHandle" ∧ (parseMethodDescriptor y.desc).map (fun d => d.parameters.length) = some n) (hk : k'.1 + 1 ≤ k.1 ∧ 8 + (mL + 11) + k'.2 ≤ k.2) (hn : As.length = n) (hstk : st = As.reverse ++ .ref a :: rest) (hroom : (rest.map fun v => v.category).sum ≤ 8) (kk : np_V p l e (np_rm k) s m args below meth c 0 0 D cl A Q nL w' (pc + 3) vs rest) : np_V p l e (np_rm k) s m args below meth c 0 0 D cl A Q nL w pc vs st := np_cVN C q0 hM hg hdg he hcl hc hl hini hins hsel hd hk hn hstk hroom kk
theorem np_iastG (C : np_Cx p s m args meth c cc nL own ret TS D cl cI A S) (g : (Nat → Nat → Nat) → va_W) (X : Nat → Nat → Nat) (q0 q : Nat) {n j a v : Nat} (hD : va_D A (g X)) (hdg : decode cc pc = .ok (.iastore, 1)) (he : (g X)[q0]? = some (a, .inl (cI, n, .inl (fun i => nI (X q i))))) (hw : ∀ f : Nat → Nat, (g X).set q0 (a, .inl (cI, n, .inl (fun i => nI (f i)))) = g (va_up X q f)) (hj : j < n) (hn : n < 2 ^ 31)
    (k : np_V p l e R s m args below meth c ce sl D cl A Q nL (g (va_up X q (updN (X q) j v))) (pc + 1) vs st) : np_V p l e R s m args below meth c ce sl D cl A Q nL (g X) pc vs (.int (nI v) :: .int (nI j) :: .ref a :: st) := np_iast C q0 hD hdg he (hw _) hj hn k
theorem np_putG (C : np_Cx p s m args meth c cc nL own ret TS D cl cI A S) (g : (Nat → Nat → Nat) → va_W) (X : Nat → Nat → Nat) (q0 k0 i0 : Nat) {ref Cn : String} {T : u_T} {N ci index a v : Nat} {fs : List Value} (hD : va_D A (g X)) (hdg : decode cc pc = .ok (.putfield index, 3)) (he : (g X)[q0]? = some (a, .inr (ci, fs))) (hw : ∀ z : Nat, (g X).set q0 (a, .inr (ci, fs.set k0 (.int (nI z)))) = g (va_up X 0 (updN (X 0) i0 z))) (hc : cl[ci]? = some (Cn, T, N)) (hk : k0 < N) (hin : ∀ x ∈ u_ws Cn T N, x ∈ TS) (ty0 : Nat → FieldType) (hty : ∀ k, k < N → parseFieldDescriptor (T k).2.2.1 = some (ty0 k)) (hnm : ∀ a, a < N → ∀ b, b < N → a ≠ b → (T a).2.1 ≠ (T b).2.1) (hlink : Cond.fieldLink own index ref (T k0).2.1 (T k0).2.2.1 ∈ TS) (href : (T k0).1 = ref) (hfin : (T k0).2.2.2 = false) (hd : parseFieldDescriptor (T k0).2.2.1 = some .int) (hl : k0 < fs.length)
    (k : np_V p l e R s m args below meth c ce sl D cl A Q nL (g (va_up X 0 (updN (X 0) i0 v))) (pc + 3) vs st) : np_V p l e R s m args below meth c ce sl D cl A Q nL (g X) pc vs (.int (nI v) :: .ref a :: st) := np_put C q0 k0 hD hdg he (hw v) hc hk hin ty0 hty hnm hlink href hfin hd hl k
end NPR
end
section
/-! THE NUMBERS: what class and reference both compute -/
def np_sm (a b : Nat) : Nat := (a + b) % 65537
def np_df (a b : Nat) : Nat := (a + 65537 - b) % 65537
def np_pr (a b : Nat) : Nat := a * b % 65537
def np_cu (t : Nat) : Nat := np_pr (np_pr t t) t
def np_sa (i : Nat) : Nat := if i = 0 then 11 else if i = 1 then 222 else if i = 2 then 3333 else 44444
def np_hr (a b : Nat) : Nat → Nat
  | 0 => a
  | i + 1 => np_cu (np_sm (np_sm (np_hr a b i) b) (np_sa i))
def np_hh (a b : Nat) : Nat := np_sm (np_sm (np_hr a b 4) a) b
theorem np_sm_lt (a b : Nat) : np_sm a b < 65537 := Nat.mod_lt _ (by decide)
theorem np_df_lt (a b : Nat) : np_df a b < 65537 := Nat.mod_lt _ (by decide)
theorem np_pr_lt (a b : Nat) : np_pr a b < 65537 := Nat.mod_lt _ (by decide)
theorem np_cu_lt (a : Nat) : np_cu a < 65537 := np_pr_lt _ _
theorem np_hh_lt (a b : Nat) : np_hh a b < 65537 := np_sm_lt _ _
theorem np_sa_lt (i : Nat) : np_sa i < 65537 := by
  unfold np_sa
  split
  · decide
  · split
    · decide
    · split <;> decide
theorem np_hr_lt {a b : Nat} (ha : a < 65537) : ∀ i, np_hr a b i < 65537
  | 0 => ha
  | _ + 1 => np_cu_lt _
theorem np_mul_lt {a b : Nat} (ha : a < 65537) (hb : b < 65537) : a * b < 4295098369 + 1 := by
  have h := Nat.mul_le_mul (Nat.le_of_lt_succ ha) (Nat.le_of_lt_succ hb)
  omega
theorem np_sm3 (a b c : Nat) : (a + b + c) % 65537 = np_sm (np_sm a b) c := by
  unfold np_sm
  rw [Nat.mod_add_mod]
/-- a number that is its own square is 0 or 1: by trying all -/
def np_try : Nat → Nat → Bool
  | 0, x => (x * x % 65537 != x) || Nat.blt x 2
  | d + 1, x => np_try d x && np_try d (x + 2 ^ d)
theorem np_try_all : np_try 16 0 = true := by decide +kernel
theorem np_try_spec : ∀ (d x y : Nat), np_try d x = true → x ≤ y → y < x + 2 ^ d → y * y % 65537 = y → y < 2
  | 0, x, y, h, h1, h2, hy => by
    have e : y = x := by omega
    subst e
    simp only [np_try, Bool.or_eq_true, bne_iff_ne, ne_eq] at h
    rcases h with h | h
    · exact (h hy).elim
    · exact Nat.blt_eq.mp h
  | d + 1, x, y, h, h1, h2, hy => by
    simp only [np_try, Bool.and_eq_true] at h
    rw [Nat.pow_succ] at h2
    by_cases hc : y < x + 2 ^ d
    · exact np_try_spec d x y h.1 h1 hc hy
    · exact np_try_spec d (x + 2 ^ d) y h.2 (by omega) (by omega) hy
theorem np_sq {x : Nat} (hx : x < 65537) : x = np_pr x x ↔ x = 0 ∨ x = 1 := by
  constructor
  · intro h
    by_cases h6 : x = 65536
    · subst h6
      revert h
      decide
    · have := np_try_spec 16 0 x np_try_all (Nat.zero_le _) (by omega) h.symm
      omega
  · rintro (h | h) <;> subst h <;> decide
/-! the vector: the class's words for it -/
def np_fi (b : Nat) : Nat := [5, 43, 52, 19, 20, 21, 22, 5, 8, 115].getD b 0
def np_se (b : Nat) : Nat := [4294967295, 6, 7, 23, 24, 25, 26, 61, 9, 10].getD b 0
def np_res (f : Nat → Nat) (b : Nat) : Nat := f (35 + b * 9 + 9 - 1)
def np_inA (f : Nat → Nat) (b : Nat) : Nat := f (np_fi b)
def np_inB (f : Nat → Nat) (b : Nat) : Nat := if b = 0 then 0 else f (np_se b)
def np_bef (f : Nat → Nat) (b t : Nat) : Nat := if t = 0 then np_inA f b else f (35 + b * 9 + 2 * t - 1)
def np_bas (f : Nat → Nat) (b t : Nat) : Nat := np_sm (np_sm (np_bef f b t) (np_inB f b)) (np_sa t)
def np_blk (f : Nat → Nat) (b z : Nat) : Nat := if z = 8 then np_sm (np_sm (f (35 + b * 9 + z - 1)) (np_inA f b)) (np_inB f b) else np_pr (if z % 2 = 0 then np_bas f b (z / 2) else f (35 + b * 9 + z - 1)) (np_bas f b (z / 2))
def np_lft (f : Nat → Nat) (v : Nat) : Nat := np_sm (np_res f (2 + v)) (np_pr (f (15 + v)) (np_df (f (11 + v)) (np_res f (2 + v))))
def np_rgt (f : Nat → Nat) (v : Nat) : Nat := np_df (np_sm (np_res f (2 + v)) (f (11 + v))) (f (19 + v))
def np_sbt (f : Nat → Nat) : Nat → Nat
  | 0 => 0
  | k + 1 => np_sm (np_sbt f k) (np_pr (1 * 2 ^ k) (f (27 + k)))
def np_due (f : Nat → Nat) (x : Nat) : Nat :=
  if 35 ≤ x then np_blk f ((x - 35) / 9) ((x - 35) % 9) else
  if 27 ≤ x then np_pr (f x) (f x) else
  if 23 ≤ x then np_rgt f (x - 23) else
  if 19 ≤ x then np_lft f (x - 19) else
  if 15 ≤ x then np_pr (f x) (f x) else
  if x = 9 then np_sbt f 8 else
  if x = 6 then np_sm (f 9) (f 4) else
  if x = 1 then np_res f 6 else
  if x = 2 then np_res f 7 else
  if x = 3 then np_res f 9 else f x
def np_col (v z : Nat) : Nat := if z = 0 then 19 + v else if z = 1 then 23 + v else 35 + (3 + v) * 9 + z - 2
def np_cel (c : Nat) : Nat :=
  if c < 4 then 15 + c else
  if c < 12 then 27 + c - 4 else
  if c = 12 then 9 else
  if c = 13 then 6 else
  if c < 41 then 35 + c - 14 else
  if c < 85 then np_col ((c - 41) / 11) ((c - 41) % 11) else
  if c < 112 then 98 + c - 85 else 1 + c - 112
/-- the first fault from condition c on, n conditions left -/
def np_flt (f : Nat → Nat) : Nat → Nat → Nat
  | _, 0 => 4294967295
  | c, n + 1 => if f (np_cel c) = np_due f (np_cel c) then np_flt f (c + 1) n else c
def np_cpl : (Nat → Nat) → Nat → Nat → (Nat → Nat)
  | f, _, 0 => f
  | f, c, n + 1 => np_cpl (updN f (np_cel c) (np_due f (np_cel c))) (c + 1) n
theorem np_cel_lt {c : Nat} (h : c < 115) : np_cel c < 125 := by
  unfold np_cel np_col
  repeat' split
  all_goals omega
def np_ok (f : Nat → Nat) : Prop := ∀ j, f j < 65537
theorem np_ok_upd {f : Nat → Nat} (h : np_ok f) {k x : Nat} (hx : x < 65537) : np_ok (updN f k x) := by
  intro j
  unfold updN
  split
  · exact hx
  · exact h j
theorem np_blk_lt {f : Nat → Nat} (b z : Nat) : np_blk f b z < 65537 := by
  unfold np_blk
  split
  · exact np_sm_lt _ _
  · exact np_pr_lt _ _
theorem np_sbt_lt (f : Nat → Nat) : ∀ k, np_sbt f k < 65537
  | 0 => (by decide : 0 < 65537)
  | _ + 1 => np_sm_lt _ _
theorem np_due_lt {f : Nat → Nat} (h : np_ok f) (x : Nat) : np_due f x < 65537 := by
  unfold np_due
  split
  · exact np_blk_lt _ _
  split
  · exact np_pr_lt _ _
  split
  · exact np_df_lt _ _
  split
  · exact np_sm_lt _ _
  split
  · exact np_pr_lt _ _
  split
  · exact np_sbt_lt _ _
  split
  · exact np_sm_lt _ _
  split
  · exact h _
  split
  · exact h _
  split
  · exact h _
  · exact h _
theorem np_ok_cpl : ∀ (n c : Nat) (f : Nat → Nat), np_ok f → np_ok (np_cpl f c n)
  | 0, _, _, h => h
  | n + 1, c, _, h => np_ok_cpl n (c + 1) _ (np_ok_upd h (np_due_lt h _))
/-! the tree -/
def np_tr (g : Nat → Nat) : Nat → Nat → Nat
  | 0, j => g j
  | v + 1, j => np_hh (np_tr g v (2 * j)) (np_tr g v (2 * j + 1))
def np_lf (key val non : Nat → Nat) (k : Nat) : Nat := np_hh (np_hh (key k) (val k)) (non k)
def np_lv (key val non : Nat → Nat) (n k : Nat) : Nat := if k < n then np_lf key val non k else 0
def np_key (k : Nat) : Nat := np_hh (100 + k) 0
def np_own (key : Nat) : Nat := if np_key 0 = key then 0 else if np_key 1 = key then 1 else if np_key 2 = key then 2 else if np_key 3 = key then 3 else 4294967295
end
section
/-! the tree under one more leaf -/
theorem np_tr_upd (g : Nat → Nat) (n x : Nat) : ∀ (v j : Nat), n / 2 ^ v ≠ j → np_tr (updN g n x) v j = np_tr g v j
  | 0, j, h => by
    simp only [Nat.pow_zero, Nat.div_one] at h
    exact updN_ne g x (Ne.symm h)
  | v + 1, j, h => by
    have e : n / 2 ^ (v + 1) = n / 2 ^ v / 2 := by rw [Nat.pow_succ, Nat.div_div_eq_div_mul]
    rw [e] at h
    simp only [np_tr]
    rw [np_tr_upd g n x v (2 * j) (by omega), np_tr_upd g n x v (2 * j + 1) (by omega)]
theorem np_tr_congr {g g' : Nat → Nat} (hg : ∀ i, i < 16 → g i = g' i) : ∀ (v j : Nat), (j + 1) * 2 ^ v ≤ 16 → np_tr g v j = np_tr g' v j
  | 0, j, h => hg j (by simp at h; omega)
  | v + 1, j, h => by
    rw [Nat.pow_succ] at h
    simp only [np_tr]
    rw [np_tr_congr hg v (2 * j) (by
      have : (2 * j + 1) * 2 ^ v ≤ (j + 1) * (2 ^ v * 2) := by
        rw [show (j + 1) * (2 ^ v * 2) = (2 * j + 2) * 2 ^ v by rw [Nat.mul_comm (2 ^ v) 2, ← Nat.mul_assoc]; congr 1; omega]
        exact Nat.mul_le_mul_right _ (by omega)
      omega), np_tr_congr hg v (2 * j + 1) (by
      have : (2 * j + 1 + 1) * 2 ^ v = (j + 1) * (2 ^ v * 2) := by
        rw [Nat.mul_comm (2 ^ v) 2, ← Nat.mul_assoc]; congr 1; omega
      omega)]
theorem np_tr_lt {g : Nat → Nat} (hg : ∀ i, g i < 65537) : ∀ (v j : Nat), np_tr g v j < 65537
  | 0, j => hg j
  | _ + 1, _ => np_hh_lt _ _
def np_hu (nd : Nat → Nat) (i : Nat) : Nat → Nat := updN nd i (np_hh (nd (2 * i)) (nd (2 * i + 1)))
def np_ups (nd : Nat → Nat) (p : Nat) : Nat → Nat → Nat
  | 0 => nd
  | v + 1 => np_hu (np_ups nd p v) ((16 + p) / 2 ^ (v + 1))
/-- the nodes hold the tree over the leaves g -/
def np_NI (nd g : Nat → Nat) : Prop := (∀ j, j < 16 → nd (16 + j) = np_tr g 0 j) ∧ (∀ j, j < 8 → nd (8 + j) = np_tr g 1 j) ∧ (∀ j, j < 4 → nd (4 + j) = np_tr g 2 j) ∧ (∀ j, j < 2 → nd (2 + j) = np_tr g 3 j) ∧ nd 1 = np_tr g 4 0
theorem np_hu_ne {nd : Nat → Nat} {i j : Nat} (h : j ≠ i) : np_hu nd i j = nd j := updN_ne _ _ h
theorem np_hu_at {nd : Nat → Nat} {i : Nat} : np_hu nd i i = np_hh (nd (2 * i)) (nd (2 * i + 1)) := updN_same _ _ _
theorem np_NI_add {nd g : Nat → Nat} {p x : Nat} (h : np_NI nd g) (hp : p < 16) : np_NI (np_ups (updN nd (16 + p) x) p 4) (updN g p x) := by
  obtain ⟨h0, h1, h2, h3, h4⟩ := h
  -- level 0
  have a0 : ∀ j, j < 16 → updN nd (16 + p) x (16 + j) = np_tr (updN g p x) 0 j := by
    intro j hj
    show _ = updN g p x j
    by_cases e : j = p
    · subst e; rw [updN_same, updN_same]
    · rw [updN_ne _ _ (by omega), updN_ne _ _ e]; exact h0 j hj
  have b0 : ∀ k, k < 16 → updN nd (16 + p) x k = nd k := fun k hk => updN_ne _ _ (by omega)
  generalize updN nd (16 + p) x = n0 at a0 b0 ⊢
  have s1 : (16 + p) / 2 ^ (0 + 1) = 8 + p / 2 := by simp; omega
  have s2 : (16 + p) / 2 ^ (1 + 1) = 4 + p / 4 := by simp; omega
  have s3 : (16 + p) / 2 ^ (2 + 1) = 2 + p / 8 := by simp; omega
  have s4 : (16 + p) / 2 ^ (3 + 1) = 1 := by simp; omega
  simp only [np_ups, s1, s2, s3, s4]
  -- level 1
  have a1 : ∀ j, j < 8 → np_hu n0 (8 + p / 2) (8 + j) = np_tr (updN g p x) 1 j := by
    intro j hj
    by_cases e : j = p / 2
    · subst e
      rw [np_hu_at, show 2 * (8 + p / 2) = 16 + 2 * (p / 2) by omega, show 16 + 2 * (p / 2) + 1 = 16 + (2 * (p / 2) + 1) by omega, a0 _ (by omega), a0 _ (by omega)]
      rfl
    · rw [np_hu_ne (by omega), b0 _ (by omega), h1 j hj, np_tr_upd g p x 1 j (by simp; omega)]
  have c1 : ∀ j, j < 16 → np_hu n0 (8 + p / 2) (16 + j) = np_tr (updN g p x) 0 j := fun j hj => by rw [np_hu_ne (by omega)]; exact a0 j hj
  have b1 : ∀ k, k < 8 → np_hu n0 (8 + p / 2) k = nd k := fun k hk => by rw [np_hu_ne (by omega)]; exact b0 k (by omega)
  generalize np_hu n0 (8 + p / 2) = n1 at a1 b1 c1 ⊢
  have a2 : ∀ j, j < 4 → np_hu n1 (4 + p / 4) (4 + j) = np_tr (updN g p x) 2 j := by
    intro j hj
    by_cases e : j = p / 4
    · subst e
      rw [np_hu_at, show 2 * (4 + p / 4) = 8 + 2 * (p / 4) by omega, show 8 + 2 * (p / 4) + 1 = 8 + (2 * (p / 4) + 1) by omega, a1 _ (by omega), a1 _ (by omega)]
      rfl
    · rw [np_hu_ne (by omega), b1 _ (by omega), h2 j hj, np_tr_upd g p x 2 j (by simp; omega)]
  have d1 : ∀ j, j < 8 → np_hu n1 (4 + p / 4) (8 + j) = np_tr (updN g p x) 1 j := fun j hj => by rw [np_hu_ne (by omega)]; exact a1 j hj
  have c2 : ∀ j, j < 16 → np_hu n1 (4 + p / 4) (16 + j) = np_tr (updN g p x) 0 j := fun j hj => by rw [np_hu_ne (by omega)]; exact c1 j hj
  have b2 : ∀ k, k < 4 → np_hu n1 (4 + p / 4) k = nd k := fun k hk => by rw [np_hu_ne (by omega)]; exact b1 k (by omega)
  generalize np_hu n1 (4 + p / 4) = n2 at a2 b2 c2 d1 ⊢
  have a3 : ∀ j, j < 2 → np_hu n2 (2 + p / 8) (2 + j) = np_tr (updN g p x) 3 j := by
    intro j hj
    by_cases e : j = p / 8
    · subst e
      rw [np_hu_at, show 2 * (2 + p / 8) = 4 + 2 * (p / 8) by omega, show 4 + 2 * (p / 8) + 1 = 4 + (2 * (p / 8) + 1) by omega, a2 _ (by omega), a2 _ (by omega)]
      rfl
    · rw [np_hu_ne (by omega), b2 _ (by omega), h3 j hj, np_tr_upd g p x 3 j (by simp; omega)]
  have e2 : ∀ j, j < 4 → np_hu n2 (2 + p / 8) (4 + j) = np_tr (updN g p x) 2 j := fun j hj => by rw [np_hu_ne (by omega)]; exact a2 j hj
  have d2 : ∀ j, j < 8 → np_hu n2 (2 + p / 8) (8 + j) = np_tr (updN g p x) 1 j := fun j hj => by rw [np_hu_ne (by omega)]; exact d1 j hj
  have c3 : ∀ j, j < 16 → np_hu n2 (2 + p / 8) (16 + j) = np_tr (updN g p x) 0 j := fun j hj => by rw [np_hu_ne (by omega)]; exact c2 j hj
  generalize np_hu n2 (2 + p / 8) = n3 at a3 e2 d2 c3 ⊢
  refine ⟨fun j hj => ?_, fun j hj => ?_, fun j hj => ?_, fun j hj => ?_, ?_⟩
  · rw [np_hu_ne (by omega)]; exact c3 j hj
  · rw [np_hu_ne (by omega)]; exact d2 j hj
  · rw [np_hu_ne (by omega)]; exact e2 j hj
  · rw [np_hu_ne (by omega)]; exact a3 j hj
  · rw [np_hu_at]
    have q0 := a3 0 (by omega)
    have q1 := a3 1 (by omega)
    show np_hh (n3 2) (n3 3) = _
    rw [show n3 2 = _ from q0, show n3 3 = _ from q1]
    rfl
/-! the marks -/
def np_cn (f : Nat → Nat) (x : Nat) : Nat → Nat
  | 0 => 0
  | k + 1 => np_cn f x k + if f k < x then 1 else 0
def np_hs (f : Nat → Nat) (x : Nat) : Nat → Bool
  | 0 => false
  | k + 1 => np_hs f x k || f k == x
theorem np_hs_iff (f : Nat → Nat) (x : Nat) : ∀ k, np_hs f x k = true ↔ ∃ i, i < k ∧ f i = x
  | 0 => by simp [np_hs]
  | k + 1 => by
    simp only [np_hs, Bool.or_eq_true, beq_iff_eq, np_hs_iff f x k]
    constructor
    · rintro (⟨i, h1, h2⟩ | h)
      · exact ⟨i, by omega, h2⟩
      · exact ⟨k, by omega, h⟩
    · rintro ⟨i, h1, h2⟩
      by_cases e : i = k
      · subst e; exact Or.inr h2
      · exact Or.inl ⟨i, by omega, h2⟩
theorem np_cn_le (f : Nat → Nat) (x : Nat) : ∀ k, np_cn f x k ≤ np_cn f (x + 1) k
  | 0 => Nat.le_refl _
  | k + 1 => by
    have := np_cn_le f x k
    simp only [np_cn]
    split <;> split <;> omega
theorem np_hs_cn (f : Nat → Nat) (x : Nat) : ∀ k, np_hs f x k = true ↔ np_cn f x k < np_cn f (x + 1) k
  | 0 => by simp [np_hs, np_cn]
  | k + 1 => by
    have h1 := np_hs_cn f x k
    have h2 := np_cn_le f x k
    simp only [np_hs, np_cn, Bool.or_eq_true, beq_iff_eq, h1]
    constructor
    · rintro (h | h)
      · split <;> split <;> omega
      · rw [if_neg (by omega), if_pos (by omega)]; omega
    · intro h
      by_cases e : f k = x
      · exact Or.inr e
      · left
        split at h <;> split at h <;> omega
theorem np_hs_eq {f g : Nat → Nat} {k : Nat} (h : ∀ x, np_cn f x k = np_cn g x k) (x : Nat) : np_hs f x k = np_hs g x k := by
  have h1 := np_hs_cn f x k
  have h2 := np_hs_cn g x k
  rw [h x, h (x + 1), ← h2] at h1
  cases e1 : np_hs f x k <;> cases e2 : np_hs g x k <;> simp_all
theorem np_cn_congr {f g : Nat → Nat} (x : Nat) : ∀ k, (∀ i, i < k → f i = g i) → np_cn f x k = np_cn g x k
  | 0, _ => rfl
  | k + 1, h => by
    simp only [np_cn]
    rw [np_cn_congr x k (fun i hi => h i (by omega)), h k (by omega)]
def np_ins (m : Nat) : (Nat → Nat) → Nat → (Nat → Nat)
  | f, 0 => updN f 0 m
  | f, g + 1 => if m < f g then np_ins m (updN f (g + 1) (f g)) g else updN f (g + 1) m
theorem np_ins_hi (m : Nat) : ∀ (g : Nat) (f : Nat → Nat) (i : Nat), g < i → np_ins m f g i = f i
  | 0, f, i, h => updN_ne _ _ (by omega)
  | g + 1, f, i, h => by
    simp only [np_ins]
    split
    · rw [np_ins_hi m g _ i (by omega), updN_ne _ _ (by omega)]
    · exact updN_ne _ _ (by omega)
theorem np_ins_cn (m x : Nat) : ∀ (g : Nat) (f : Nat → Nat), np_cn (np_ins m f g) x (g + 1) = np_cn f x g + if m < x then 1 else 0
  | 0, f => by simp [np_ins, np_cn, updN]
  | g + 1, f => by
    rw [np_cn]
    simp only [np_ins]
    split
    · rw [np_ins_cn m x g, np_ins_hi m g _ (g + 1) (by omega), updN_same, np_cn_congr (g := f) x g (fun i hi => updN_ne _ _ (by omega))]
      simp only [np_cn]
      omega
    · rw [updN_same, np_cn_congr (g := f) x (g + 1) (fun i hi => updN_ne _ _ (by omega))]
def np_up (f : Nat → Nat) (k : Nat) : Prop := ∀ i j, i < j → j < k → f i < f j
theorem np_ins_lt (m B : Nat) (hm : m < B) : ∀ (g : Nat) (f : Nat → Nat), (∀ i, i < g → f i < B) → ∀ i, i < g + 1 → np_ins m f g i < B
  | 0, f, _, i, hi => by
    have e : i = 0 := by omega
    subst e
    simp only [np_ins, updN_same]; exact hm
  | g + 1, f, h, i, hi => by
    simp only [np_ins]
    split
    · by_cases e : i = g + 1
      · subst e
        rw [np_ins_hi m g _ _ (by omega), updN_same]
        exact h g (by omega)
      · exact np_ins_lt m B hm g _ (fun j hj => by rw [updN_ne _ _ (by omega)]; exact h j (by omega)) i (by omega)
    · by_cases e : i = g + 1
      · subst e; rw [updN_same]; exact hm
      · rw [updN_ne _ _ e]; exact h i (by omega)
theorem np_ins_up (m : Nat) : ∀ (g : Nat) (f : Nat → Nat), np_up f g → (∀ i, i < g → f i ≠ m) → np_up (np_ins m f g) (g + 1)
  | 0, f, _, _ => fun i j h1 h2 => by omega
  | g + 1, f, hu, hn => by
    simp only [np_ins]
    split
    · rename_i hlt
      have hu' : np_up (updN f (g + 1) (f g)) g := fun i j h1 h2 => by
        rw [updN_ne _ _ (by omega), updN_ne _ _ (by omega)]
        exact hu i j h1 (by omega)
      have hn' : ∀ i, i < g → updN f (g + 1) (f g) i ≠ m := fun i hi => by
        rw [updN_ne _ _ (by omega)]; exact hn i (by omega)
      have ih := np_ins_up m g _ hu' hn'
      have hb := np_ins_lt m (f g) hlt g (updN f (g + 1) (f g)) (fun i hi => by
        rw [updN_ne _ _ (by omega)]; exact hu i g hi (by omega))
      intro i j h1 h2
      by_cases e : j = g + 1
      · subst e
        rw [np_ins_hi m g _ (g + 1) (by omega), updN_same]
        exact hb i (by omega)
      · exact ih i j h1 (by omega)
    · rename_i hge
      intro i j h1 h2
      by_cases e : j = g + 1
      · subst e
        rw [updN_same, updN_ne _ _ (by omega)]
        have h3 : f g ≠ m := hn g (by omega)
        by_cases e2 : i = g
        · subst e2; omega
        · have := hu i g (by omega) (by omega); omega
      · rw [updN_ne _ _ e, updN_ne _ _ (by omega)]
        exact hu i j h1 (by omega)
theorem np_cn_up {f : Nat → Nat} {n : Nat} (hu : np_up f n) {i : Nat} (hi : i < n) : ∀ k, k ≤ n → np_cn f (f i) k = if k ≤ i then k else i
  | 0, _ => by simp [np_cn]
  | k + 1, hk => by
    simp only [np_cn]
    rw [np_cn_up hu hi k (by omega)]
    by_cases h1 : k < i
    · rw [if_pos (by omega), if_pos (hu k i h1 hi), if_pos (by omega)]
    · by_cases h2 : k = i
      · subst h2; rw [if_pos (by omega), if_neg (by omega), if_neg (by omega)]; omega
      · have h3 : f i < f k := hu i k (by omega) (by omega)
        rw [if_neg (by omega), if_neg (by omega), if_neg (by omega)]; omega
/-- the mark of rank k, as the reference finds it: the first of the marks under which there are k -/
def np_mk (f : Nat → Nat) (n k : Nat) : Nat → Nat → Nat
  | _, 0 => 4294967295
  | m, r + 1 => if np_cn f (f m) n = k then f m else np_mk f n k (m + 1) r
theorem np_mk_eq {f g : Nat → Nat} {n : Nat} (hc : ∀ x, np_cn f x n = np_cn g x n) (hu : np_up g n) (k : Nat) : ∀ (r m : Nat), m + r = n → (∀ i, i < m → np_cn f (f i) n ≠ k) → np_mk f n k m r = if k < n then g k else 4294967295
  | 0, m, hm, hno => by
    simp only [np_mk]
    rw [if_neg]
    intro hk
    have h1 : np_hs g (g k) n = true := (np_hs_iff g (g k) n).mpr ⟨k, hk, rfl⟩
    rw [← np_hs_eq hc] at h1
    obtain ⟨i, hi, e⟩ := (np_hs_iff f (g k) n).mp h1
    refine hno i (by omega) ?_
    rw [e, hc, np_cn_up hu hk n (Nat.le_refl _), if_neg (by omega)]
  | r + 1, m, hm, hno => by
    simp only [np_mk]
    have h1 : np_hs f (f m) n = true := (np_hs_iff f (f m) n).mpr ⟨m, by omega, rfl⟩
    rw [np_hs_eq hc] at h1
    obtain ⟨i, hi, e⟩ := (np_hs_iff g (f m) n).mp h1
    have h2 : np_cn f (f m) n = i := by
      rw [hc, ← e, np_cn_up hu hi n (Nat.le_refl _), if_neg (by omega)]
    by_cases h3 : np_cn f (f m) n = k
    · rw [if_pos h3, if_pos (by omega), ← e]
      rw [← h3, h2]
    · rw [if_neg h3]
      refine np_mk_eq hc hu k r (m + 1) (by omega) (fun j hj => ?_)
      by_cases e2 : j = m
      · subst e2; exact h3
      · exact hno j (by omega)
end
section
/-! the vector that load makes: the class completes it in one sweep, the reference level by level -/
theorem updN_comm (f : Nat → Nat) {i j : Nat} (x y : Nat) (h : i ≠ j) : updN (updN f i x) j y = updN (updN f j y) i x := by
  funext k
  unfold updN
  by_cases h1 : k = i
  · subst h1; simp [h]
  · by_cases h2 : k = j
    · subst h2; simp [h1]
    · simp [h1, h2]
theorem np_cpl_add : ∀ (n m c : Nat) (f : Nat → Nat), np_cpl f c (n + m) = np_cpl (np_cpl f c n) (c + n) m
  | 0, m, c, f => by rw [Nat.zero_add]; rfl
  | n + 1, m, c, f => by
    rw [show n + 1 + m = (n + m) + 1 by omega]
    simp only [np_cpl]
    rw [np_cpl_add n m (c + 1) _, show c + 1 + n = c + (n + 1) by omega]
/-- the nine cells of block b, from the z-th on, n of them -/
def np_fil : (Nat → Nat) → Nat → Nat → Nat → (Nat → Nat)
  | f, _, _, 0 => f
  | f, b, z, n + 1 => np_fil (updN f (35 + 9 * b + z) (np_blk f b z)) b (z + 1) n
theorem np_due_blk (f : Nat → Nat) {b z x : Nat} (hx : x = 35 + 9 * b + z) (hz : z < 9) : np_due f x = np_blk f b z := by
  subst hx
  unfold np_due
  rw [if_pos (by omega), show 35 + 9 * b + z - 35 = 9 * b + z by omega, show (9 * b + z) / 9 = b by omega, show (9 * b + z) % 9 = z by omega]
theorem np_fil_cpl {b c0 : Nat} (hc : ∀ z, z < 9 → np_cel (c0 + z) = 35 + 9 * b + z) : ∀ (n z : Nat) (f : Nat → Nat), z + n ≤ 9 → np_fil f b z n = np_cpl f (c0 + z) n
  | 0, _, _, _ => rfl
  | n + 1, z, f, h => by
    simp only [np_fil, np_cpl]
    rw [np_fil_cpl hc n (z + 1) _ (by omega), hc z (by omega), np_due_blk f rfl (by omega)]
    rfl
theorem np_cel_a {b z : Nat} (hb : b < 3) (hz : z < 9) : np_cel (14 + 9 * b + z) = 35 + 9 * b + z := by
  unfold np_cel
  rw [if_neg (by omega), if_neg (by omega), if_neg (by omega), if_neg (by omega), if_pos (by omega)]
  omega
theorem np_cel_b {v z : Nat} (hv : v < 4) (hz : z < 9) : np_cel (43 + 11 * v + z) = 35 + 9 * (3 + v) + z := by
  unfold np_cel
  rw [if_neg (by omega), if_neg (by omega), if_neg (by omega), if_neg (by omega), if_neg (by omega), if_pos (by omega), show (43 + 11 * v + z - 41) / 11 = v by omega, show (43 + 11 * v + z - 41) % 11 = z + 2 by omega]
  unfold np_col
  rw [if_neg (by omega), if_neg (by omega)]
  omega
theorem np_cel_l {v : Nat} (hv : v < 4) : np_cel (41 + 11 * v) = 19 + v := by
  unfold np_cel
  rw [if_neg (by omega), if_neg (by omega), if_neg (by omega), if_neg (by omega), if_neg (by omega), if_pos (by omega), show (41 + 11 * v - 41) / 11 = v by omega, show (41 + 11 * v - 41) % 11 = 0 by omega]
  rfl
theorem np_cel_r {v : Nat} (hv : v < 4) : np_cel (42 + 11 * v) = 23 + v := by
  unfold np_cel
  rw [if_neg (by omega), if_neg (by omega), if_neg (by omega), if_neg (by omega), if_neg (by omega), if_pos (by omega), show (42 + 11 * v - 41) / 11 = v by omega, show (42 + 11 * v - 41) % 11 = 1 by omega]
  rfl
theorem np_cel_c {b z : Nat} (hb : b < 3) (hz : z < 9) : np_cel (85 + 9 * b + z) = 35 + 9 * (7 + b) + z := by
  unfold np_cel
  rw [if_neg (by omega), if_neg (by omega), if_neg (by omega), if_neg (by omega), if_neg (by omega), if_neg (by omega), if_pos (by omega)]
  omega
theorem np_due_l (f : Nat → Nat) {v : Nat} (hv : v < 4) : np_due f (19 + v) = np_lft f v := by
  unfold np_due
  rw [if_neg (by omega), if_neg (by omega), if_neg (by omega), if_pos (by omega), show 19 + v - 19 = v by omega]
theorem np_due_r (f : Nat → Nat) {v : Nat} (hv : v < 4) : np_due f (23 + v) = np_rgt f v := by
  unfold np_due
  rw [if_neg (by omega), if_neg (by omega), if_pos (by omega), show 23 + v - 23 = v by omega]
/-- one level of the reference: left, right, block -/
theorem np_lev (f : Nat → Nat) {v : Nat} (hv : v < 4) : np_cpl f (41 + 11 * v) 11 = np_fil (updN (updN f (19 + v) (np_lft f v)) (23 + v) (np_rgt (updN f (19 + v) (np_lft f v)) v)) (3 + v) 0 9 := by
  rw [np_fil_cpl (c0 := 43 + 11 * v) (fun z hz => np_cel_b hv hz) 9 0 _ (by omega)]
  show np_cpl f (41 + 11 * v) (9 + 1 + 1) = _
  simp only [np_cpl]
  rw [np_cel_l hv, np_due_l f hv, show 41 + 11 * v + 1 = 42 + 11 * v by omega, np_cel_r hv, np_due_r _ hv, show 42 + 11 * v + 1 = 43 + 11 * v + 0 by omega]
theorem np_fi_out {b i : Nat} (h1 : 11 ≤ i) (h2 : i < 19) : np_fi b ≠ i := by
  unfold np_fi
  match b with
  | 0 | 1 | 2 | 3 | 4 | 5 | 6 | 7 | 8 | 9 => simp; omega
  | n + 10 => simp; omega
theorem np_se_out {b i : Nat} (h1 : 11 ≤ i) (h2 : i < 19) : np_se b ≠ i := by
  unfold np_se
  match b with
  | 0 | 1 | 2 | 3 | 4 | 5 | 6 | 7 | 8 | 9 => simp; omega
  | n + 10 => simp; omega
theorem np_blk_out (f : Nat → Nat) {b z i : Nat} (x : Nat) (h1 : 11 ≤ i) (h2 : i < 19) : np_blk (updN f i x) b z = np_blk f b z := by
  have r : ∀ k, 19 ≤ k → updN f i x k = f k := fun k hk => updN_ne _ _ (by omega)
  have ea : np_inA (updN f i x) b = np_inA f b := updN_ne _ _ (np_fi_out h1 h2)
  have eb : np_inB (updN f i x) b = np_inB f b := by
    unfold np_inB
    split
    · rfl
    · exact updN_ne _ _ (np_se_out h1 h2)
  have ef : ∀ t, np_bef (updN f i x) b t = np_bef f b t := by
    intro t
    unfold np_bef
    rw [ea, r _ (by omega)]
  unfold np_blk np_bas
  rw [ea, eb, ef, r _ (by omega)]
theorem np_out_due (f : Nat → Nat) {y i : Nat} (x : Nat) (h1 : 11 ≤ i) (h2 : i < 19) (hy : 35 ≤ y ∨ (19 ≤ y ∧ y < 27 ∧ i ≠ 11 + (y - 19) % 4 ∧ i ≠ 15 + (y - 19) % 4)) : np_due (updN f i x) y = np_due f y := by
  have r : ∀ k, 19 ≤ k → updN f i x k = f k := fun k hk => updN_ne _ _ (by omega)
  unfold np_due
  by_cases c1 : 35 ≤ y
  · rw [if_pos c1, if_pos c1, np_blk_out f x h1 h2]
  · have hy2 : 19 ≤ y ∧ y < 27 ∧ i ≠ 11 + (y - 19) % 4 ∧ i ≠ 15 + (y - 19) % 4 := by
      rcases hy with h | h
      · exact (c1 h).elim
      · exact h
    have c27 : ¬ 27 ≤ y := by omega
    rw [if_neg c1, if_neg c1, if_neg c27, if_neg c27]
    by_cases c2 : 23 ≤ y
    · rw [if_pos c2, if_pos c2]
      unfold np_rgt np_res
      rw [r _ (by omega), updN_ne f x (show 11 + (y - 23) ≠ i by omega), r _ (by omega)]
    · have c19 : 19 ≤ y := by omega
      rw [if_neg c2, if_neg c2, if_pos c19, if_pos c19]
      unfold np_lft np_res
      rw [r _ (by omega), updN_ne f x (show 11 + (y - 19) ≠ i by omega), updN_ne f x (show 15 + (y - 19) ≠ i by omega)]
/-- a sibling or a turn may be put in before or behind a stretch of conditions that doesn't look at it -/
theorem np_out {i : Nat} (x : Nat) (h1 : 11 ≤ i) (h2 : i < 19) : ∀ (n c : Nat) (f : Nat → Nat), (∀ d, c ≤ d → d < c + n → 35 ≤ np_cel d ∨ (19 ≤ np_cel d ∧ np_cel d < 27 ∧ i ≠ 11 + (np_cel d - 19) % 4 ∧ i ≠ 15 + (np_cel d - 19) % 4)) → np_cpl (updN f i x) c n = updN (np_cpl f c n) i x
  | 0, _, _, _ => rfl
  | n + 1, c, f, h => by
    simp only [np_cpl]
    have h3 := h c (Nat.le_refl _) (by omega)
    rw [np_out_due f x h1 h2 h3, updN_comm f x _ (show i ≠ np_cel c by omega), np_out x h1 h2 n (c + 1) _ (fun d hd1 hd2 => h d (by omega) (by omega))]
theorem np_seg_a {d : Nat} (h1 : 14 ≤ d) (h2 : d < 41) : 35 ≤ np_cel d := by
  unfold np_cel
  rw [if_neg (by omega), if_neg (by omega), if_neg (by omega), if_neg (by omega), if_pos (by omega)]
  omega
theorem np_seg_v {d v : Nat} (hv : v < 4) (h1 : 41 + 11 * v ≤ d) (h2 : d < 41 + 11 * v + 11) : 35 ≤ np_cel d ∨ np_cel d = 19 + v ∨ np_cel d = 23 + v := by
  by_cases a : d = 41 + 11 * v
  · right; left; rw [a]; exact np_cel_l hv
  · by_cases b : d = 42 + 11 * v
    · right; right; rw [b]; exact np_cel_r hv
    · left
      have e : d = 43 + 11 * v + (d - (43 + 11 * v)) := by omega
      rw [e, np_cel_b hv (by omega)]
      omega
/-- level v's sibling and turn put in -/
def np_pth (s t : Nat → Nat) (v : Nat) (f : Nat → Nat) : Nat → Nat := updN (updN f (15 + v) (t v)) (11 + v) (s v)
def np_lvl (s t : Nat → Nat) (v : Nat) (f : Nat → Nat) : Nat → Nat := np_cpl (np_pth s t v f) (41 + 11 * v) 11
theorem np_pth_a (s t : Nat → Nat) {v : Nat} (hv : v < 4) (f : Nat → Nat) : np_cpl (np_pth s t v f) 14 27 = np_pth s t v (np_cpl f 14 27) := by
  unfold np_pth
  rw [np_out _ (by omega) (by omega) 27 14 _ (fun d h1 h2 => Or.inl (np_seg_a h1 h2)), np_out _ (by omega) (by omega) 27 14 _ (fun d h1 h2 => Or.inl (np_seg_a h1 h2))]
theorem np_pth_v (s t : Nat → Nat) {u v : Nat} (hu : u < 4) (hv : v < 4) (h : u ≠ v) (f : Nat → Nat) : np_cpl (np_pth s t u f) (41 + 11 * v) 11 = np_pth s t u (np_cpl f (41 + 11 * v) 11) := by
  unfold np_pth
  have q : ∀ i, (i = 11 + u ∨ i = 15 + u) → ∀ d, 41 + 11 * v ≤ d → d < 41 + 11 * v + 11 → 35 ≤ np_cel d ∨ (19 ≤ np_cel d ∧ np_cel d < 27 ∧ i ≠ 11 + (np_cel d - 19) % 4 ∧ i ≠ 15 + (np_cel d - 19) % 4) := by
    intro i hi d h1 h2
    rcases np_seg_v hv h1 h2 with a | a | a
    · exact Or.inl a
    · right; rw [a]; omega
    · right; rw [a]; omega
  rw [np_out _ (by omega) (by omega) 11 _ _ (q _ (Or.inl rfl)), np_out _ (by omega) (by omega) 11 _ _ (q _ (Or.inr rfl))]
/-- both orders make one vector -/
theorem np_load_eq (s t : Nat → Nat) (f : Nat → Nat) : np_cpl (np_pth s t 3 (np_pth s t 2 (np_pth s t 1 (np_pth s t 0 f)))) 14 101 = np_cpl (np_lvl s t 3 (np_lvl s t 2 (np_lvl s t 1 (np_lvl s t 0 (np_cpl f 14 27))))) 85 30 := by
  show np_cpl _ 14 (27 + (11 + (11 + (11 + (11 + 30))))) = _
  rw [np_cpl_add 27, np_cpl_add 11, np_cpl_add 11, np_cpl_add 11, np_cpl_add 11]
  rw [np_pth_a s t (by omega), np_pth_a s t (by omega), np_pth_a s t (by omega), np_pth_a s t (by omega)]
  generalize np_cpl f 14 27 = g
  have v0 := np_pth_v s t (u := 3) (v := 0) (by omega) (by omega) (by omega)
  have v1 := np_pth_v s t (u := 2) (v := 0) (by omega) (by omega) (by omega)
  have v2 := np_pth_v s t (u := 1) (v := 0) (by omega) (by omega) (by omega)
  have v3 := np_pth_v s t (u := 3) (v := 1) (by omega) (by omega) (by omega)
  have v4 := np_pth_v s t (u := 2) (v := 1) (by omega) (by omega) (by omega)
  have v5 := np_pth_v s t (u := 3) (v := 2) (by omega) (by omega) (by omega)
  simp only [Nat.mul_zero, Nat.add_zero, Nat.mul_one, Nat.reduceMul, Nat.reduceAdd] at v0 v1 v2 v3 v4 v5
  simp only [Nat.reduceAdd]
  rw [v0, v1, v2, v3, v4, v5]
  rfl
/-- the reference's sums and differences -/
theorem np_r3 (a b c : Nat) : (a + b + c) % 65537 = np_sm (np_sm a b) c := np_sm3 a b c
theorem np_lft_eq (n sb t : Nat) (hn : n < 65537) : (n + t * (sb + 65537 - n) % 65537) % 65537 = np_sm n (np_pr t (np_df sb n)) := by
  unfold np_sm np_pr np_df
  rw [Nat.mul_mod_mod]
theorem np_bits_eq (f : Nat → Nat) : np_sbt f 8 = (f 27 * 1 + f 28 * 2 + f 29 * 4 + f 30 * 8 + f 31 * 16 + f 32 * 32 + f 33 * 64 + f 34 * 128) % 65537 := by
  simp only [np_sbt, np_sm, np_pr]
  simp only [Nat.add_mod_mod, Nat.mod_add_mod, Nat.zero_add]
  congr 1
  simp only [Nat.reducePow, Nat.reduceMul, Nat.reduceAdd, Nat.one_mul]
  simp only [Nat.mul_comm]
  omega
end
section
/-! the states: X of the class, Y of the reference. X 0: pool, notes, marks; X 1 keys, X 2 owners, X 3 values, X 4 nonces, X 6 nodes, X 7 roots, X 9 sorted marks, X 11 cells. Y 0: notes, marks, pool; Y 1 keys, Y 2 values, Y 3 nonces, Y 4 marks, Y 5 cells, Y 6 work -/
abbrev np_X : Type := Nat → Nat → Nat
def np_ow (ks : Nat → Nat) (key : Nat) : Nat := if ks 0 = key then 0 else if ks 1 = key then 1 else if ks 2 = key then 2 else if ks 3 = key then 3 else 4294967295
def np_apd (X : np_X) (leaf : Nat) : np_X := va_up (va_up (va_up X 6 (np_ups (updN (X 6) (16 + X 0 1) leaf) (X 0 1) 4)) 0 (updN (X 0) 1 (X 0 1 + 1))) 7 (updN (X 7) (X 0 1 + 1) (np_ups (updN (X 6) (16 + X 0 1) leaf) (X 0 1) 4 1))
def np_mkn (X : np_X) (key v n : Nat) : np_X := va_up (va_up (va_up (np_apd X (np_hh (np_hh key v) n)) 2 (updN (X 2) (X 0 1) (np_ow (X 1) key))) 3 (updN (X 3) (X 0 1) v)) 4 (updN (X 4) (X 0 1) n)
def np_mkY (Y : np_X) (key v n : Nat) : np_X := va_up (va_up (va_up (va_up Y 1 (updN (Y 1) (Y 0 0) key)) 2 (updN (Y 2) (Y 0 0) v)) 3 (updN (Y 3) (Y 0 0) n)) 0 (updN (Y 0) 0 (Y 0 0 + 1))
/-- what every method of the class counts on -/
def np_XI (X : np_X) : Prop := X 0 1 ≤ 16 ∧ X 0 2 ≤ X 0 1 ∧ np_ok (X 1) ∧ (∀ j, X 2 j < 4294967296) ∧ np_ok (X 3) ∧ np_ok (X 4) ∧ np_ok (X 6) ∧ np_ok (X 7) ∧ np_ok (X 9) ∧ np_ok (X 11)
/-- what every method of the reference counts on -/
def np_YI (Y : np_X) : Prop := Y 0 0 ≤ 16 ∧ Y 0 1 ≤ Y 0 0 ∧ np_ok (Y 1) ∧ np_ok (Y 2) ∧ np_ok (Y 3) ∧ np_ok (Y 4) ∧ np_ok (Y 5)
/-- the class and the reference stand alike -/
def np_R (X Y : np_X) : Prop := np_XI X ∧ np_YI Y ∧ (Y 0 0 = X 0 1 ∧ Y 0 1 = X 0 2 ∧ Y 0 2 = X 0 0) ∧ (∀ k, k < 4 → X 1 k = np_key k) ∧ (∀ k, k < X 0 1 → X 2 k = np_own (Y 1 k)) ∧ X 3 = Y 2 ∧ X 4 = Y 3 ∧ np_NI (X 6) (np_lv (Y 1) (Y 2) (Y 3) (X 0 1)) ∧ (∀ k, k ≤ X 0 1 → X 7 k = np_tr (np_lv (Y 1) (Y 2) (Y 3) k) 4 0) ∧ np_up (X 9) (X 0 2) ∧ (∀ x, np_cn (Y 4) x (X 0 2) = np_cn (X 9) x (X 0 2)) ∧ X 11 = Y 5
theorem np_own_lt (key : Nat) : np_own key < 4294967296 := by
  unfold np_own
  repeat' split
  all_goals omega
theorem np_ow_lt (ks : Nat → Nat) (key : Nat) : np_ow ks key < 4294967296 := by
  unfold np_ow
  repeat' split
  all_goals omega
theorem np_ow_own {ks : Nat → Nat} (h : ∀ k, k < 4 → ks k = np_key k) (key : Nat) : np_ow ks key = np_own key := by
  unfold np_ow np_own
  rw [h 0 (by omega), h 1 (by omega), h 2 (by omega), h 3 (by omega)]
theorem np_ok_hu {nd : Nat → Nat} (h : np_ok nd) (i : Nat) : np_ok (np_hu nd i) := np_ok_upd h (np_hh_lt _ _)
theorem np_ok_ups {nd : Nat → Nat} (h : np_ok nd) (p : Nat) : ∀ v, np_ok (np_ups nd p v)
  | 0 => h
  | v + 1 => np_ok_hu (np_ok_ups h p v) _
theorem np_lv_add (key val non : Nat → Nat) (n k v z : Nat) : np_lv (updN key n k) (updN val n v) (updN non n z) (n + 1) = updN (np_lv key val non n) n (np_hh (np_hh k v) z) := by
  funext i
  unfold np_lv np_lf
  by_cases h : i = n
  · subst h
    rw [if_pos (by omega), updN_same, updN_same, updN_same, updN_same]
  · rw [updN_ne _ _ h, updN_ne _ _ h, updN_ne _ _ h, updN_ne _ _ h]
    by_cases h2 : i < n
    · rw [if_pos (by omega), if_pos h2]
    · rw [if_neg (by omega), if_neg h2]
theorem np_lv_old (key val non : Nat → Nat) (n k v z : Nat) {r : Nat} (hr : r ≤ n) : np_lv (updN key n k) (updN val n v) (updN non n z) r = np_lv key val non r := by
  funext i
  unfold np_lv np_lf
  by_cases h2 : i < r
  · rw [if_pos h2, if_pos h2, updN_ne _ _ (show i ≠ n by omega), updN_ne _ _ (show i ≠ n by omega), updN_ne _ _ (show i ≠ n by omega)]
  · rw [if_neg h2, if_neg h2]
theorem np_R_make {X Y : np_X} {key v n : Nat} (h : np_R X Y) (hf : X 0 1 < 16) (hk : key < 65537) (hv : v < 65537) (hn : n < 65537) : np_R (np_mkn X key v n) (np_mkY Y key v n) := by
  obtain ⟨⟨x1, x2, x3, x4, x5, x6, x7, x8, x9, x10⟩, ⟨y1, y2, y3, y4, y5, y6, y7⟩, ⟨e0, e1, e2⟩, hks, how, h3, h4, hNI, hrt, hup, hcn, hce⟩ := h
  have hNI2 := np_NI_add (x := np_hh (np_hh key v) n) hNI hf
  refine ⟨⟨?_, ?_, x3, ?_, ?_, ?_, ?_, ?_, x9, x10⟩, ⟨?_, ?_, ?_, ?_, ?_, y6, y7⟩, ⟨?_, e1, e2⟩, hks, ?_, ?_, ?_, ?_, ?_, hup, hcn, hce⟩
  · show X 0 1 + 1 ≤ 16; omega
  · show X 0 2 ≤ X 0 1 + 1; omega
  · intro j
    show updN (X 2) (X 0 1) (np_ow (X 1) key) j < _
    unfold updN
    split
    · exact np_ow_lt _ _
    · exact x4 j
  · exact np_ok_upd x5 hv
  · exact np_ok_upd x6 hn
  · exact np_ok_ups (np_ok_upd x7 (np_hh_lt _ _)) _ _
  · exact np_ok_upd x8 (np_ok_ups (np_ok_upd x7 (np_hh_lt _ _)) _ _ _)
  · show Y 0 0 + 1 ≤ 16; omega
  · show Y 0 1 ≤ Y 0 0 + 1; omega
  · exact np_ok_upd y3 hk
  · exact np_ok_upd y4 hv
  · exact np_ok_upd y5 hn
  · show Y 0 0 + 1 = X 0 1 + 1; omega
  · intro k hk2
    have hk2 : k < X 0 1 + 1 := hk2
    show updN (X 2) (X 0 1) (np_ow (X 1) key) k = np_own (updN (Y 1) (Y 0 0) key k)
    rw [e0]
    by_cases e : k = X 0 1
    · subst e; rw [updN_same, updN_same, np_ow_own hks]
    · rw [updN_ne _ _ e, updN_ne _ _ e]; exact how k (by omega)
  · show updN (X 3) (X 0 1) v = updN (Y 2) (Y 0 0) v
    rw [h3, e0]
  · show updN (X 4) (X 0 1) n = updN (Y 3) (Y 0 0) n
    rw [h4, e0]
  · show np_NI (np_ups (updN (X 6) (16 + X 0 1) (np_hh (np_hh key v) n)) (X 0 1) 4) (np_lv (updN (Y 1) (Y 0 0) key) (updN (Y 2) (Y 0 0) v) (updN (Y 3) (Y 0 0) n) (X 0 1 + 1))
    rw [e0, np_lv_add]
    exact hNI2
  · intro k hk2
    have hk2 : k ≤ X 0 1 + 1 := hk2
    show updN (X 7) (X 0 1 + 1) (np_ups (updN (X 6) (16 + X 0 1) (np_hh (np_hh key v) n)) (X 0 1) 4 1) k = np_tr (np_lv (updN (Y 1) (Y 0 0) key) (updN (Y 2) (Y 0 0) v) (updN (Y 3) (Y 0 0) n) k) 4 0
    rw [e0]
    by_cases e : k = X 0 1 + 1
    · subst e
      rw [updN_same, np_lv_add]
      exact hNI2.2.2.2.2
    · rw [updN_ne _ _ e, np_lv_old _ _ _ _ _ _ _ (by omega)]
      exact hrt k (by omega)
end
section
/-! THE TWO WORLDS: the class's twelve cells, the reference's seven -/
def np_gw (a : Nat → Nat) (cI : ClassId) (X : np_X) : va_W := [
  (a 0, .inr (0, [.ref (a 1), .ref (a 2), .ref (a 3), .ref (a 4), .ref (a 5), .ref (a 8), .ref (a 10), .int (nI (X 0 0))])),
  (a 1, .inl (cI, 4, .inl (fun i => nI (X 1 i)))),
  (a 2, .inl (cI, 16, .inl (fun i => nI (X 2 i)))),
  (a 3, .inl (cI, 16, .inl (fun i => nI (X 3 i)))),
  (a 4, .inl (cI, 16, .inl (fun i => nI (X 4 i)))),
  (a 5, .inr (1, [.ref (a 6), .ref (a 7), .int (nI (X 0 1))])),
  (a 6, .inl (cI, 32, .inl (fun i => nI (X 6 i)))),
  (a 7, .inl (cI, 17, .inl (fun i => nI (X 7 i)))),
  (a 8, .inr (2, [.ref (a 9), .int (nI (X 0 2))])),
  (a 9, .inl (cI, 16, .inl (fun i => nI (X 9 i)))),
  (a 10, .inr (3, [.ref (a 11)])),
  (a 11, .inl (cI, 125, .inl (fun i => nI (X 11 i))))]
def np_mw (a : Nat → Nat) (cI : ClassId) (Y : np_X) : va_W := [
  (a 0, .inr (4, [.int (nI (Y 0 0)), .ref (a 1), .ref (a 2), .ref (a 3), .int (nI (Y 0 1)), .ref (a 4), .int (nI (Y 0 2)), .ref (a 5), .ref (a 6)])),
  (a 1, .inl (cI, 16, .inl (fun i => nI (Y 1 i)))),
  (a 2, .inl (cI, 16, .inl (fun i => nI (Y 2 i)))),
  (a 3, .inl (cI, 16, .inl (fun i => nI (Y 3 i)))),
  (a 4, .inl (cI, 16, .inl (fun i => nI (Y 4 i)))),
  (a 5, .inl (cI, 125, .inl (fun i => nI (Y 5 i)))),
  (a 6, .inl (cI, 16, .inl (fun i => nI (Y 6 i))))]
/-- the tree alone, while it is made -/
def np_tw (a : Nat → Nat) (cI : ClassId) (X : np_X) : va_W := [
  (a 5, .inr (1, [.ref (a 6), .ref (a 7), .int (nI (X 0 1))])),
  (a 6, .inl (cI, 32, .inl (fun i => nI (X 6 i)))),
  (a 7, .inl (cI, 17, .inl (fun i => nI (X 7 i))))]
def np_inj (a : Nat → Nat) (n : Nat) : Prop := ∀ i j, i < n → j < n → a i = a j → i = j
def np_ad (a : Nat → Nat) (n : Nat) : Nat → Prop := fun q => ∃ k, k < n ∧ q = a k
theorem np_DofL {a : Nat → Nat} {n : Nat} {w : va_W} (e : w.map Prod.fst = (List.range n).map a) (h : np_inj a n) : va_D (np_ad a n) w := by
  have key : ∀ (i : Nat) (p : Nat × va_E), w[i]? = some p → i < n ∧ p.1 = a i := by
    intro i p hp
    have h2 : (w.map Prod.fst)[i]? = some p.1 := by rw [List.getElem?_map, hp]; rfl
    rw [e, List.getElem?_map] at h2
    by_cases hi : i < n
    · rw [List.getElem?_range hi] at h2; exact ⟨hi, (Option.some.inj h2).symm⟩
    · rw [List.getElem?_eq_none (by simp; omega)] at h2; cases h2
  refine ⟨fun i j p q hi hj hpq => ?_, fun k q hk => ?_⟩
  · obtain ⟨h1, e1⟩ := key i p hi
    obtain ⟨h2, e2⟩ := key j q hj
    exact h i j h1 h2 (by rw [← e1, ← e2, hpq])
  · obtain ⟨h1, e1⟩ := key k q hk
    exact ⟨k, h1, e1⟩
theorem np_gD {a : Nat → Nat} {cI : ClassId} (h : np_inj a 12) (X : np_X) : va_D (np_ad a 12) (np_gw a cI X) := np_DofL rfl h
theorem np_mD {a : Nat → Nat} {cI : ClassId} (h : np_inj a 7) (X : np_X) : va_D (np_ad a 7) (np_mw a cI X) := np_DofL rfl h
theorem gs_1 (a : Nat → Nat) (cI : ClassId) (X : np_X) (f : Nat → Nat) : (np_gw a cI X).set 1 (a 1, .inl (cI, 4, .inl (fun i => nI (f i)))) = np_gw a cI (va_up X 1 f) := rfl
theorem gs_2 (a : Nat → Nat) (cI : ClassId) (X : np_X) (f : Nat → Nat) : (np_gw a cI X).set 2 (a 2, .inl (cI, 16, .inl (fun i => nI (f i)))) = np_gw a cI (va_up X 2 f) := rfl
theorem gs_3 (a : Nat → Nat) (cI : ClassId) (X : np_X) (f : Nat → Nat) : (np_gw a cI X).set 3 (a 3, .inl (cI, 16, .inl (fun i => nI (f i)))) = np_gw a cI (va_up X 3 f) := rfl
theorem gs_4 (a : Nat → Nat) (cI : ClassId) (X : np_X) (f : Nat → Nat) : (np_gw a cI X).set 4 (a 4, .inl (cI, 16, .inl (fun i => nI (f i)))) = np_gw a cI (va_up X 4 f) := rfl
theorem gs_6 (a : Nat → Nat) (cI : ClassId) (X : np_X) (f : Nat → Nat) : (np_gw a cI X).set 6 (a 6, .inl (cI, 32, .inl (fun i => nI (f i)))) = np_gw a cI (va_up X 6 f) := rfl
theorem gs_7 (a : Nat → Nat) (cI : ClassId) (X : np_X) (f : Nat → Nat) : (np_gw a cI X).set 7 (a 7, .inl (cI, 17, .inl (fun i => nI (f i)))) = np_gw a cI (va_up X 7 f) := rfl
theorem gs_9 (a : Nat → Nat) (cI : ClassId) (X : np_X) (f : Nat → Nat) : (np_gw a cI X).set 9 (a 9, .inl (cI, 16, .inl (fun i => nI (f i)))) = np_gw a cI (va_up X 9 f) := rfl
theorem gs_11 (a : Nat → Nat) (cI : ClassId) (X : np_X) (f : Nat → Nat) : (np_gw a cI X).set 11 (a 11, .inl (cI, 125, .inl (fun i => nI (f i)))) = np_gw a cI (va_up X 11 f) := rfl
theorem gp_0 (a : Nat → Nat) (cI : ClassId) (X : np_X) (z : Nat) : (np_gw a cI X).set 0 (a 0, .inr (0, [.ref (a 1), .ref (a 2), .ref (a 3), .ref (a 4), .ref (a 5), .ref (a 8), .ref (a 10), .int (nI z)])) = np_gw a cI (va_up X 0 (updN (X 0) 0 z)) := rfl
theorem gp_5 (a : Nat → Nat) (cI : ClassId) (X : np_X) (z : Nat) : (np_gw a cI X).set 5 (a 5, .inr (1, [.ref (a 6), .ref (a 7), .int (nI z)])) = np_gw a cI (va_up X 0 (updN (X 0) 1 z)) := rfl
theorem gp_8 (a : Nat → Nat) (cI : ClassId) (X : np_X) (z : Nat) : (np_gw a cI X).set 8 (a 8, .inr (2, [.ref (a 9), .int (nI z)])) = np_gw a cI (va_up X 0 (updN (X 0) 2 z)) := rfl
theorem us_1 (a : Nat → Nat) (cI : ClassId) (X : np_X) (f : Nat → Nat) : (np_mw a cI X).set 1 (a 1, .inl (cI, 16, .inl (fun i => nI (f i)))) = np_mw a cI (va_up X 1 f) := rfl
theorem us_2 (a : Nat → Nat) (cI : ClassId) (X : np_X) (f : Nat → Nat) : (np_mw a cI X).set 2 (a 2, .inl (cI, 16, .inl (fun i => nI (f i)))) = np_mw a cI (va_up X 2 f) := rfl
theorem us_3 (a : Nat → Nat) (cI : ClassId) (X : np_X) (f : Nat → Nat) : (np_mw a cI X).set 3 (a 3, .inl (cI, 16, .inl (fun i => nI (f i)))) = np_mw a cI (va_up X 3 f) := rfl
theorem us_4 (a : Nat → Nat) (cI : ClassId) (X : np_X) (f : Nat → Nat) : (np_mw a cI X).set 4 (a 4, .inl (cI, 16, .inl (fun i => nI (f i)))) = np_mw a cI (va_up X 4 f) := rfl
theorem us_5 (a : Nat → Nat) (cI : ClassId) (X : np_X) (f : Nat → Nat) : (np_mw a cI X).set 5 (a 5, .inl (cI, 125, .inl (fun i => nI (f i)))) = np_mw a cI (va_up X 5 f) := rfl
theorem us_6 (a : Nat → Nat) (cI : ClassId) (X : np_X) (f : Nat → Nat) : (np_mw a cI X).set 6 (a 6, .inl (cI, 16, .inl (fun i => nI (f i)))) = np_mw a cI (va_up X 6 f) := rfl
theorem up_0 (a : Nat → Nat) (cI : ClassId) (Y : np_X) (z : Nat) : (np_mw a cI Y).set 0 (a 0, .inr (4, [.int (nI z), .ref (a 1), .ref (a 2), .ref (a 3), .int (nI (Y 0 1)), .ref (a 4), .int (nI (Y 0 2)), .ref (a 5), .ref (a 6)])) = np_mw a cI (va_up Y 0 (updN (Y 0) 0 z)) := rfl
theorem up_4 (a : Nat → Nat) (cI : ClassId) (Y : np_X) (z : Nat) : (np_mw a cI Y).set 0 (a 0, .inr (4, [.int (nI (Y 0 0)), .ref (a 1), .ref (a 2), .ref (a 3), .int (nI z), .ref (a 4), .int (nI (Y 0 2)), .ref (a 5), .ref (a 6)])) = np_mw a cI (va_up Y 0 (updN (Y 0) 1 z)) := rfl
theorem up_6 (a : Nat → Nat) (cI : ClassId) (Y : np_X) (z : Nat) : (np_mw a cI Y).set 0 (a 0, .inr (4, [.int (nI (Y 0 0)), .ref (a 1), .ref (a 2), .ref (a 3), .int (nI (Y 0 1)), .ref (a 4), .int (nI z), .ref (a 5), .ref (a 6)])) = np_mw a cI (va_up Y 0 (updN (Y 0) 2 z)) := rfl
theorem ts_6 (a : Nat → Nat) (cI : ClassId) (X : np_X) (f : Nat → Nat) : (np_tw a cI X).set 1 (a 6, .inl (cI, 32, .inl (fun i => nI (f i)))) = np_tw a cI (va_up X 6 f) := rfl
theorem ts_7 (a : Nat → Nat) (cI : ClassId) (X : np_X) (f : Nat → Nat) : (np_tw a cI X).set 2 (a 7, .inl (cI, 17, .inl (fun i => nI (f i)))) = np_tw a cI (va_up X 7 f) := rfl
/-- a table of the class's: a static that holds it, and what it holds -/
def np_Tb (Cn n : String) (t N : Nat) (f : Nat → Nat) (A : Nat → Prop) (U : State) (H : Heap) : Prop := va_Z Cn n "[I" (.ref t) A U H ∧ va_T .int t N (fun i => .int (nI (f i))) A U H
def np_Sc (A : Nat → Prop) (t : Nat → Nat) (U : State) (H : Heap) : Prop := (∀ x ∈ np_NW, va_Nw x U) ∧ np_Tb "NotePool" "SALTS" (t 0) 4 np_sa A U H ∧ np_Tb "NotePool$SpendVector" "FIRST_INPUTS" (t 1) 10 np_fi A U H ∧ np_Tb "NotePool$SpendVector" "SECOND_INPUTS" (t 2) 10 np_se A U H
def np_Sm (_ : State) (_ : Heap) : Prop := True
theorem np_Sm_St (A : Nat → Prop) : np_St A np_Sm := ⟨fun _ _ _ _ _ => trivial, fun _ _ _ _ _ => trivial⟩
theorem np_Tb.go {Cn n : String} {t N : Nat} {f : Nat → Nat} {A : Nat → Prop} {u U : State} {H H1 : Heap} (h : np_Tb Cn n t N f A u H) (hvm : u.vm.Alike U.vm) (hq : ∀ a : Nat, a < H.size → ¬ A a → H1[a]? = H[a]?) : np_Tb Cn n t N f A U H1 := ⟨(h.1.moved hvm).kept hq, (h.2.moved hvm).kept hq⟩
theorem np_Tb.less {Cn n : String} {t N : Nat} {f : Nat → Nat} {A B : Nat → Prop} {U : State} {H : Heap} (h : np_Tb Cn n t N f A U H) (hq : ∀ q, B q → A q) : np_Tb Cn n t N f B U H := ⟨h.1.narrow hq, h.2.narrow hq⟩
theorem np_NW_warm {s U : State} (hW : s.WarmedH U.vm) (h : ∀ x ∈ np_NW, va_Nw x s) : ∀ x ∈ np_NW, va_Nw x U := by
  intro x hx
  have h1 := h x hx
  simp only [np_NW, List.mem_cons, List.not_mem_nil, or_false] at hx
  rcases hx with rfl | rfl | rfl | rfl | rfl | rfl | rfl | rfl | rfl <;> first | exact va_Nw.warmF hW h1 | exact va_Nw.warmM hW h1
theorem np_Sc_St (A : Nat → Prop) (t : Nat → Nat) : np_St A (np_Sc A t) := by
  refine ⟨fun U g mk a h => ?_, fun s U h hW hq => ?_⟩
  · have ha : U.vm.Alike (U.calling g mk a).vm := Vm.Alike.refl U.vm
    exact ⟨fun x hx => va_Nw.same (by
      simp only [np_NW, List.mem_cons, List.not_mem_nil, or_false] at hx
      rcases hx with rfl | rfl | rfl | rfl | rfl | rfl | rfl | rfl | rfl <;> rfl) (show U.vm = (U.calling g mk a).vm from rfl) (h.1 x hx), h.2.1.go ha (fun _ _ _ => rfl), h.2.2.1.go ha (fun _ _ _ => rfl), h.2.2.2.go ha (fun _ _ _ => rfl)⟩
  · exact ⟨np_NW_warm hW h.1, h.2.1.go hW.alike hq, h.2.2.1.go hW.alike hq, h.2.2.2.go hW.alike hq⟩
theorem np_Sc.less {A B : Nat → Prop} {t : Nat → Nat} {U : State} {H : Heap} (h : np_Sc A t U H) (hq : ∀ q, B q → A q) : np_Sc B t U H := ⟨h.1, h.2.1.less hq, h.2.2.1.less hq, h.2.2.2.less hq⟩
abbrev np_C (l : Launch) (D : va_G) (cI : ClassId) (A : Nat → Prop) (t : Nat → Nat) (k : Nat × Nat) (y : MethodName) (b : ByteArray) (mL : Nat) (ret : Option FieldType) (av : List Value) (w : va_W) (rv : Option Value) (w' : va_W) : Prop := np_Ct l D np_cls cI A (np_Sc A t) np_TS k y b mL ret av w rv w'
abbrev np_M (l : Launch) (D : va_G) (cI : ClassId) (A : Nat → Prop) (k : Nat × Nat) (y : MethodName) (b : ByteArray) (mL : Nat) (ret : Option FieldType) (av : List Value) (w : va_W) (rv : Option Value) (w' : va_W) : Prop := np_Ct l D np_cls cI A np_Sm np_TS k y b mL ret av w rv w'
end
section
theorem np_inc1 (x : Nat) : nI x + Int32.ofInt 1 = nI (x + 1) := by
  rw [show Int32.ofInt 1 = 1 from by decide]; exact nI_1 x
theorem np_m1 {x : Nat} (h : 0 < x) : nI x + Int32.ofInt (-1) = nI (x - 1) := by
  rw [show Int32.ofInt (-1) = -1 from by decide]; exact sb_m1 h
theorem np_inc6 (x : Nat) : nI x + Int32.ofInt 6 = nI (x + 6) := by
  rw [show Int32.ofInt 6 = nI 6 from by decide]; exact nI_add x 6
set_option maxRecDepth 20000 in
set_option maxHeartbeats 4000000 in
theorem c_P_sum (l : Launch) (D : va_G) {cI : ClassId} {A : Nat → Prop} (t : Nat → Nat) {w : va_W} {x y : Nat} (hx : x < 65537) (hy : y < 65537) : np_C l D cI A t (0, 0) y_P_sum b_P_sum 2 (some .int) [.int (nI x), .int (nI y)] w (some (.int (nI (np_sm x y)))) w := by
  refine np_Ct.of (np_Sc_St _ _) (by decide) (Nat.le_of_ble_eq_true rfl) ?_
  intro p e s m below meth c C
  refine np_at (vs2 := [some (.int (nI x)), some (.int (nI y))]) rfl ?_
  refine np_iload_n (pc := 0) C d_P_sum_0 rfl ?_
  refine np_iload_n (pc := 1) C d_P_sum_1 rfl ?_
  refine np_iadd (pc := 2) C d_P_sum_2 ?_
  refine np_ldc (pc := 3) (v := 65537) C m_32 (by decide) d_P_sum_3 ?_
  refine np_irem (pc := 5) C (by omega) (by omega) (by omega) d_P_sum_5 ?_
  exact np_iret (pc := 6) C d_P_sum_6 (by first | omega | rfl | (repeat' split) <;> omega) (by rfl)
set_option maxRecDepth 20000 in
set_option maxHeartbeats 4000000 in
theorem c_P_difference (l : Launch) (D : va_G) {cI : ClassId} {A : Nat → Prop} (t : Nat → Nat) {w : va_W} {x y : Nat} (hx : x < 65537) (hy : y < 65537) : np_C l D cI A t (0, 0) y_P_difference b_P_difference 2 (some .int) [.int (nI x), .int (nI y)] w (some (.int (nI (np_df x y)))) w := by
  refine np_Ct.of (np_Sc_St _ _) (by decide) (Nat.le_of_ble_eq_true rfl) ?_
  intro p e s m below meth c C
  refine np_at (vs2 := [some (.int (nI x)), some (.int (nI y))]) rfl ?_
  refine np_iload_n (pc := 0) C d_P_difference_0 rfl ?_
  refine np_iload_n (pc := 1) C d_P_difference_1 rfl ?_
  refine np_isubW (pc := 2) C (by omega) d_P_difference_2 ?_
  refine np_ldc (pc := 3) (v := 65537) C m_32 (by decide) d_P_difference_3 ?_
  refine np_iadd (pc := 5) C d_P_difference_5 ?_
  refine np_top (y := x + 65537 - y) (by rw [show x + 4294967296 - y + 65537 = (x + 65537 - y) + 4294967296 by omega]; exact np_wrap _) ?_
  refine np_ldc (pc := 6) (v := 65537) C m_32 (by decide) d_P_difference_6 ?_
  refine np_irem (pc := 8) C (by omega) (by omega) (by omega) d_P_difference_8 ?_
  exact np_iret (pc := 9) C d_P_difference_9 (by first | omega | rfl | (repeat' split) <;> omega) (by rfl)
set_option maxRecDepth 20000 in
set_option maxHeartbeats 4000000 in
theorem c_P_product (l : Launch) (D : va_G) {cI : ClassId} {A : Nat → Prop} (t : Nat → Nat) {w : va_W} {x y : Nat} (hx : x < 65537) (hy : y < 65537) : np_C l D cI A t (0, 0) y_P_product b_P_product 2 (some .int) [.int (nI x), .int (nI y)] w (some (.int (nI (np_pr x y)))) w := by
  refine np_Ct.of (np_Sc_St _ _) (by decide) (Nat.le_of_ble_eq_true rfl) ?_
  intro p e s m below meth c C
  refine np_at (vs2 := [some (.int (nI x)), some (.int (nI y))]) rfl ?_
  refine np_iload_n (pc := 0) C d_P_product_0 rfl ?_
  refine np_i2l (pc := 1) C (by omega) d_P_product_1 ?_
  refine np_iload_n (pc := 2) C d_P_product_2 rfl ?_
  refine np_i2l (pc := 3) C (by omega) d_P_product_3 ?_
  refine np_lmul (pc := 4) C d_P_product_4 ?_
  refine np_ldc2 (pc := 5) (v := 65537) C m_36 (by decide) d_P_product_5 ?_
  refine np_lrem (pc := 8) C (by have := np_mul_lt hx hy; omega) (by omega) (by omega) d_P_product_8 ?_
  refine np_l2i (pc := 9) C d_P_product_9 ?_
  exact np_iret (pc := 10) C d_P_product_10 (by first | omega | rfl | (repeat' split) <;> omega) (by rfl)
set_option maxRecDepth 20000 in
set_option maxHeartbeats 4000000 in
theorem c_P_secretOf (l : Launch) (D : va_G) {cI : ClassId} {A : Nat → Prop} (t : Nat → Nat) {w : va_W} {x : Nat} : np_C l D cI A t (0, 0) y_P_secretOf b_P_secretOf 1 (some .int) [.int (nI x)] w (some (.int (nI (100 + x)))) w := by
  refine np_Ct.of (np_Sc_St _ _) (by decide) (Nat.le_of_ble_eq_true rfl) ?_
  intro p e s m below meth c C
  refine np_at (vs2 := [some (.int (nI x))]) rfl ?_
  refine np_bipush (pc := 0) (v := 100) C d_P_secretOf_0 (by decide) ?_
  refine np_iload_n (pc := 2) C d_P_secretOf_2 rfl ?_
  refine np_iadd (pc := 3) C d_P_secretOf_3 ?_
  exact np_iret (pc := 4) C d_P_secretOf_4 (by first | omega | rfl | (repeat' split) <;> omega) (by rfl)
set_option maxRecDepth 20000 in
set_option maxHeartbeats 4000000 in
theorem c_P_isNumber (l : Launch) (D : va_G) {cI : ClassId} {A : Nat → Prop} (t : Nat → Nat) {w : va_W} {x : Nat} (hx : x < 4294967296) : np_C l D cI A t (0, 0) y_P_isNumber b_P_isNumber 1 (some .boolean) [.int (nI x)] w (some (.int (nI (if x < 65537 then 1 else 0)))) w := by
  refine np_Ct.of (np_Sc_St _ _) (by decide) (Nat.le_of_ble_eq_true rfl) ?_
  intro p e s m below meth c C
  refine np_at (vs2 := [some (.int (nI x))]) rfl ?_
  refine np_iload_n (pc := 0) C d_P_isNumber_0 rfl ?_
  refine np_if_lt (pc := 1) (tgt := 14) C (by omega) d_P_isNumber_1 rfl (fun h1 => ?_) (fun h1 => ?_)
  · refine np_iconst (pc := 14) (v := 0) C d_P_isNumber_14 (by decide) ?_
    exact np_zret (pc := 15) C d_P_isNumber_15 (by omega) (by split <;> omega) (by rfl)
  · refine np_iload_n (pc := 4) C d_P_isNumber_4 rfl ?_
    refine np_ldc (pc := 5) (v := 65537) C m_32 (by decide) d_P_isNumber_5 ?_
    refine np_icmp_ge (pc := 7) (tgt := 14) C (by omega) (by omega) d_P_isNumber_7 rfl (fun h7 => ?_) (fun h7 => ?_)
    · refine np_iconst (pc := 14) (v := 0) C d_P_isNumber_14 (by decide) ?_
      exact np_zret (pc := 15) C d_P_isNumber_15 (by omega) (by split <;> omega) (by rfl)
    · refine np_iconst (pc := 10) (v := 1) C d_P_isNumber_10 (by decide) ?_
      refine np_goto (pc := 11) (tgt := 15) C d_P_isNumber_11 rfl ?_
      exact np_zret (pc := 15) C d_P_isNumber_15 (by omega) (by split <;> omega) (by rfl)
set_option maxRecDepth 20000 in
set_option maxHeartbeats 4000000 in
theorem c_P_isAccount (l : Launch) (D : va_G) {cI : ClassId} {A : Nat → Prop} (t : Nat → Nat) {w : va_W} {x : Nat} (hx : x < 4294967296) : np_C l D cI A t (0, 0) y_P_isAccount b_P_isAccount 1 (some .boolean) [.int (nI x)] w (some (.int (nI (if x < 4 then 1 else 0)))) w := by
  refine np_Ct.of (np_Sc_St _ _) (by decide) (Nat.le_of_ble_eq_true rfl) ?_
  intro p e s m below meth c C
  refine np_at (vs2 := [some (.int (nI x))]) rfl ?_
  refine np_iload_n (pc := 0) C d_P_isAccount_0 rfl ?_
  refine np_if_lt (pc := 1) (tgt := 13) C (by omega) d_P_isAccount_1 rfl (fun h1 => ?_) (fun h1 => ?_)
  · refine np_iconst (pc := 13) (v := 0) C d_P_isAccount_13 (by decide) ?_
    exact np_zret (pc := 14) C d_P_isAccount_14 (by omega) (by split <;> omega) (by rfl)
  · refine np_iload_n (pc := 4) C d_P_isAccount_4 rfl ?_
    refine np_iconst (pc := 5) (v := 4) C d_P_isAccount_5 (by decide) ?_
    refine np_icmp_ge (pc := 6) (tgt := 13) C (by omega) (by omega) d_P_isAccount_6 rfl (fun h6 => ?_) (fun h6 => ?_)
    · refine np_iconst (pc := 13) (v := 0) C d_P_isAccount_13 (by decide) ?_
      exact np_zret (pc := 14) C d_P_isAccount_14 (by omega) (by split <;> omega) (by rfl)
    · refine np_iconst (pc := 9) (v := 1) C d_P_isAccount_9 (by decide) ?_
      refine np_goto (pc := 10) (tgt := 14) C d_P_isAccount_10 rfl ?_
      exact np_zret (pc := 14) C d_P_isAccount_14 (by omega) (by split <;> omega) (by rfl)
set_option maxRecDepth 20000 in
set_option maxHeartbeats 4000000 in
theorem c_P_isValue (l : Launch) (D : va_G) {cI : ClassId} {A : Nat → Prop} (t : Nat → Nat) {w : va_W} {x : Nat} (hx : x < 4294967296) : np_C l D cI A t (0, 0) y_P_isValue b_P_isValue 1 (some .boolean) [.int (nI x)] w (some (.int (nI (if x < 256 then 1 else 0)))) w := by
  refine np_Ct.of (np_Sc_St _ _) (by decide) (Nat.le_of_ble_eq_true rfl) ?_
  intro p e s m below meth c C
  refine np_at (vs2 := [some (.int (nI x))]) rfl ?_
  refine np_iload_n (pc := 0) C d_P_isValue_0 rfl ?_
  refine np_if_lt (pc := 1) (tgt := 15) C (by omega) d_P_isValue_1 rfl (fun h1 => ?_) (fun h1 => ?_)
  · refine np_iconst (pc := 15) (v := 0) C d_P_isValue_15 (by decide) ?_
    exact np_zret (pc := 16) C d_P_isValue_16 (by omega) (by split <;> omega) (by rfl)
  · refine np_iload_n (pc := 4) C d_P_isValue_4 rfl ?_
    refine np_sipush (pc := 5) (v := 255) C d_P_isValue_5 (by decide) ?_
    refine np_icmp_gt (pc := 8) (tgt := 15) C (by omega) (by omega) d_P_isValue_8 rfl (fun h8 => ?_) (fun h8 => ?_)
    · refine np_iconst (pc := 15) (v := 0) C d_P_isValue_15 (by decide) ?_
      exact np_zret (pc := 16) C d_P_isValue_16 (by omega) (by split <;> omega) (by rfl)
    · refine np_iconst (pc := 11) (v := 1) C d_P_isValue_11 (by decide) ?_
      refine np_goto (pc := 12) (tgt := 16) C d_P_isValue_12 rfl ?_
      exact np_zret (pc := 16) C d_P_isValue_16 (by omega) (by split <;> omega) (by rfl)
set_option maxRecDepth 20000 in
set_option maxHeartbeats 4000000 in
theorem c_S_isCell (l : Launch) (D : va_G) {cI : ClassId} {A : Nat → Prop} (t : Nat → Nat) {w : va_W} {x : Nat} (hx : x < 4294967296) : np_C l D cI A t (0, 0) y_S_isCell b_S_isCell 1 (some .boolean) [.int (nI x)] w (some (.int (nI (if x < 125 then 1 else 0)))) w := by
  refine np_Ct.of (np_Sc_St _ _) (by decide) (Nat.le_of_ble_eq_true rfl) ?_
  intro p e s m below meth c C
  refine np_at (vs2 := [some (.int (nI x))]) rfl ?_
  refine np_iload_n (pc := 0) C d_S_isCell_0 rfl ?_
  refine np_if_lt (pc := 1) (tgt := 14) C (by omega) d_S_isCell_1 rfl (fun h1 => ?_) (fun h1 => ?_)
  · refine np_iconst (pc := 14) (v := 0) C d_S_isCell_14 (by decide) ?_
    exact np_zret (pc := 15) C d_S_isCell_15 (by omega) (by split <;> omega) (by rfl)
  · refine np_iload_n (pc := 4) C d_S_isCell_4 rfl ?_
    refine np_bipush (pc := 5) (v := 125) C d_S_isCell_5 (by decide) ?_
    refine np_icmp_ge (pc := 7) (tgt := 14) C (by omega) (by omega) d_S_isCell_7 rfl (fun h7 => ?_) (fun h7 => ?_)
    · refine np_iconst (pc := 14) (v := 0) C d_S_isCell_14 (by decide) ?_
      exact np_zret (pc := 15) C d_S_isCell_15 (by omega) (by split <;> omega) (by rfl)
    · refine np_iconst (pc := 10) (v := 1) C d_S_isCell_10 (by decide) ?_
      refine np_goto (pc := 11) (tgt := 15) C d_S_isCell_11 rfl ?_
      exact np_zret (pc := 15) C d_S_isCell_15 (by omega) (by split <;> omega) (by rfl)
set_option maxRecDepth 20000 in
set_option maxHeartbeats 4000000 in
theorem c_P_hashOf (l : Launch) (D : va_G) {cI : ClassId} {A : Nat → Prop} (t : Nat → Nat) {w : va_W} {x y : Nat} (hx : x < 65537) (hy : y < 65537) : np_C l D cI A t (1, 21) y_P_hashOf b_P_hashOf 5 (some .int) [.int (nI x), .int (nI y)] w (some (.int (nI (np_hh x y)))) w := by
  refine np_Ct.of (np_Sc_St _ _) (by decide) (Nat.le_of_ble_eq_true rfl) ?_
  intro p e s m below meth c C
  refine np_at (vs2 := [some (.int (nI x)), some (.int (nI y)), none, none, none]) rfl ?_
  refine np_iload_n (pc := 0) C d_P_hashOf_0 rfl ?_
  refine np_istore_n (pc := 1) C d_P_hashOf_1 (by decide) rfl ?_
  refine np_iconst (pc := 2) (v := 0) C d_P_hashOf_2 (by decide) ?_
  refine np_istore_n (pc := 3) C d_P_hashOf_3 (by decide) rfl ?_
  refine np_at (vs2 := [some (.int (nI x)), some (.int (nI y)), some (.int (nI (np_hr x y 0))), some (.int (nI 0)), none]) rfl ?_
  have loop : ∀ (n i : Nat) (z : Option Value), i + n = 4 → np_V p l e (np_rm (1, 21)) s m ([.int (nI x), .int (nI y)] : List Value).toArray below meth c 0 0 D np_cls A (MQ below (np_Qc D np_cls A (some (.int (nI (np_hh x y)))) w) ([.int (nI x), .int (nI y)] : List Value).toArray s 0 0 A) 5 w 4 [some (.int (nI x)), some (.int (nI y)), some (.int (nI (np_hr x y i))), some (.int (nI i)), z] [] := by
    intro n
    induction n with
    | zero =>
      intro i z hi
      obtain rfl : i = 4 := by omega
      refine np_iload_n (pc := 4) C d_P_hashOf_4 rfl ?_
      refine np_gets (pc := 5) C C.2.2.1.2.1.1 m_27 rfl d_P_hashOf_5 ?_
      refine np_tlen (pc := 8) C C.2.2.1.2.1.2 d_P_hashOf_8 ?_
      refine np_icmp_ge (pc := 9) (tgt := 46) C (by omega) (by omega) d_P_hashOf_9 rfl (fun h9 => ?_) (fun h9 => ?_)
      · refine np_iload_n (pc := 46) C d_P_hashOf_46 rfl ?_
        refine np_iload_n (pc := 47) C d_P_hashOf_47 rfl ?_
        refine np_cSi (pc := 48) C (c_P_sum l D t (np_hr_lt hx _) hx) np_TS_good d_P_hashOf_48 m_31 m_29 m_1 m_30 hd_P_sum (by decide) rfl rfl (Nat.le_of_ble_eq_true rfl) ?_
        refine np_iload_n (pc := 51) C d_P_hashOf_51 rfl ?_
        refine np_cSi (pc := 52) C (c_P_sum l D t (np_sm_lt _ _) hy) np_TS_good d_P_hashOf_52 m_31 m_29 m_1 m_30 hd_P_sum (by decide) rfl rfl (Nat.le_of_ble_eq_true rfl) ?_
        exact np_iret (pc := 55) C d_P_hashOf_55 (by first | omega | rfl | (repeat' split) <;> omega) (by rfl)
      · exfalso; omega
    | succ n ih =>
      intro i z hi
      refine np_iload_n (pc := 4) C d_P_hashOf_4 rfl ?_
      refine np_gets (pc := 5) C C.2.2.1.2.1.1 m_27 rfl d_P_hashOf_5 ?_
      refine np_tlen (pc := 8) C C.2.2.1.2.1.2 d_P_hashOf_8 ?_
      refine np_icmp_ge (pc := 9) (tgt := 46) C (by omega) (by omega) d_P_hashOf_9 rfl (fun h9 => ?_) (fun h9 => ?_)
      · exfalso; omega
      · refine np_iload_n (pc := 12) C d_P_hashOf_12 rfl ?_
        refine np_iload_n (pc := 13) C d_P_hashOf_13 rfl ?_
        refine np_cSi (pc := 14) C (c_P_sum l D t (np_hr_lt hx _) hy) np_TS_good d_P_hashOf_14 m_31 m_29 m_1 m_30 hd_P_sum (by decide) rfl rfl (Nat.le_of_ble_eq_true rfl) ?_
        refine np_gets (pc := 17) C C.2.2.1.2.1.1 m_27 rfl d_P_hashOf_17 ?_
        refine np_iload_n (pc := 20) C d_P_hashOf_20 rfl ?_
        refine np_tald (pc := 21) C C.2.2.1.2.1.2 (by omega) (by decide) d_P_hashOf_21 ?_
        refine np_cSi (pc := 22) C (c_P_sum l D t (np_sm_lt _ _) (np_sa_lt _)) np_TS_good d_P_hashOf_22 m_31 m_29 m_1 m_30 hd_P_sum (by decide) rfl rfl (Nat.le_of_ble_eq_true rfl) ?_
        refine np_istore (pc := 25) C d_P_hashOf_25 (by decide) rfl ?_
        refine np_iload (pc := 27) C d_P_hashOf_27 rfl ?_
        refine np_iload (pc := 29) C d_P_hashOf_29 rfl ?_
        refine np_cSi (pc := 31) C (c_P_product l D t (np_sm_lt _ _) (np_sm_lt _ _)) np_TS_good d_P_hashOf_31 m_35 m_33 m_1 m_34 hd_P_product (by decide) rfl rfl (Nat.le_of_ble_eq_true rfl) ?_
        refine np_iload (pc := 34) C d_P_hashOf_34 rfl ?_
        refine np_cSi (pc := 36) C (c_P_product l D t (np_pr_lt _ _) (np_sm_lt _ _)) np_TS_good d_P_hashOf_36 m_35 m_33 m_1 m_34 hd_P_product (by decide) rfl rfl (Nat.le_of_ble_eq_true rfl) ?_
        refine np_istore_n (pc := 39) C d_P_hashOf_39 (by decide) rfl ?_
        refine np_iinc (pc := 40) C d_P_hashOf_40 rfl (np_inc1 _) (by decide) rfl ?_
        refine np_goto (pc := 43) (tgt := 4) C d_P_hashOf_43 rfl ?_
        refine np_at (vs2 := [some (.int (nI x)), some (.int (nI y)), some (.int (nI (np_hr x y (i + 1)))), some (.int (nI (i + 1))), _]) rfl ?_
        exact ih (i + 1) _ (by omega)
  exact loop 4 0 none rfl
end
section
def np_rr (X : np_X) (k : Nat) : Nat := if k < 4 then (if k ≤ X 0 1 then X 7 (X 0 1 - k) else 4294967295) else 4294967295
def np_na (nd : Nat → Nat) (v n : Nat) : Nat := if v ≤ 4 then (if n < 16 / 2 ^ v then nd (16 / 2 ^ v + n) else 4294967295) else 4294967295
theorem np_rr_lt {X : np_X} (h : np_ok (X 7)) (k : Nat) : np_rr X k < 4294967296 := by
  unfold np_rr
  have := h (X 0 1 - k)
  repeat' split
  all_goals omega
theorem np_hs_up {f : Nat → Nat} {x i k : Nat} (h : f i = x) (hi : i < k) : np_hs f x k = true := (np_hs_iff f x k).mpr ⟨i, hi, h⟩
theorem np_hs_no {f : Nat → Nat} {x k : Nat} (h : np_hs f x k = false) (h2 : f k ≠ x) : np_hs f x (k + 1) = false := by
  simp [np_hs, h, h2]
theorem np_idx {p : Nat} (v : Nat) (hp : p < 16) : (16 + p) / 2 ^ (v + 1) < 16 := by
  apply Nat.div_lt_of_lt_mul
  have : 1 ≤ 2 ^ v := Nat.one_le_two_pow
  rw [Nat.pow_succ]
  omega
set_option maxRecDepth 20000 in
set_option maxHeartbeats 4000000 in
theorem c_T_isFull (l : Launch) (D : va_G) {cI : ClassId} (t : Nat → Nat) {a : Nat → Nat} (ha : np_inj a 12) {X : np_X} (h1 : X 0 1 ≤ 16) : np_C l D cI (np_ad a 12) t (0, 0) y_T_isFull b_T_isFull 1 (some .boolean) [.ref (a 5)] (np_gw a cI X) (some (.int (nI (if 16 ≤ X 0 1 then 1 else 0)))) (np_gw a cI X) := by
  refine np_Ct.of (np_Sc_St _ _) (by decide) (Nat.le_of_ble_eq_true rfl) ?_
  intro p e s m below meth c C
  refine np_at (vs2 := [some (.ref (a 5))]) rfl ?_
  refine np_aload_n (pc := 0) C d_T_isFull_0 rfl ?_
  refine np_get (pc := 1) C 5 2 d_T_isFull_1 rfl rfl rfl (by decide) hin_T m_39 rfl ?_
  refine np_bipush (pc := 4) (v := 16) C d_T_isFull_4 (by decide) ?_
  refine np_icmp_lt (pc := 6) (tgt := 13) C (by omega) (by omega) d_T_isFull_6 rfl (fun h6 => ?_) (fun h6 => ?_)
  · refine np_iconst (pc := 13) (v := 0) C d_T_isFull_13 (by decide) ?_
    exact np_zret (pc := 14) C d_T_isFull_14 (by omega) (by first | omega | rfl | (repeat' split) <;> omega) (by rfl)
  · refine np_iconst (pc := 9) (v := 1) C d_T_isFull_9 (by decide) ?_
    refine np_goto (pc := 10) (tgt := 14) C d_T_isFull_10 rfl ?_
    exact np_zret (pc := 14) C d_T_isFull_14 (by omega) (by first | omega | rfl | (repeat' split) <;> omega) (by rfl)
set_option maxRecDepth 20000 in
set_option maxHeartbeats 4000000 in
theorem c_T_hashUp (l : Launch) (D : va_G) {cI : ClassId} (t : Nat → Nat) {a : Nat → Nat} (ha : np_inj a 12) {X : np_X} {i : Nat} (hi : i < 16) (h6 : np_ok (X 6)) : np_C l D cI (np_ad a 12) t (2, 45) y_T_hashUp b_T_hashUp 2 none [.ref (a 5), .int (nI i)] (np_gw a cI X) none (np_gw a cI (va_up X 6 (np_hu (X 6) i))) := by
  refine np_Ct.of (np_Sc_St _ _) (by decide) (Nat.le_of_ble_eq_true rfl) ?_
  intro p e s m below meth c C
  refine np_at (vs2 := [some (.ref (a 5)), some (.int (nI i))]) rfl ?_
  refine np_aload_n (pc := 0) C d_T_hashUp_0 rfl ?_
  refine np_get (pc := 1) C 5 0 d_T_hashUp_1 rfl rfl rfl (by decide) hin_T m_37 rfl ?_
  refine np_iload_n (pc := 4) C d_T_hashUp_4 rfl ?_
  refine np_aload_n (pc := 5) C d_T_hashUp_5 rfl ?_
  refine np_get (pc := 6) C 5 0 d_T_hashUp_6 rfl rfl rfl (by decide) hin_T m_37 rfl ?_
  refine np_iconst (pc := 9) (v := 2) C d_T_hashUp_9 (by decide) ?_
  refine np_iload_n (pc := 10) C d_T_hashUp_10 rfl ?_
  refine np_imul (pc := 11) C d_T_hashUp_11 ?_
  refine np_iald (pc := 12) C 6 d_T_hashUp_12 rfl (by omega) (by decide) ?_
  refine np_aload_n (pc := 13) C d_T_hashUp_13 rfl ?_
  refine np_get (pc := 14) C 5 0 d_T_hashUp_14 rfl rfl rfl (by decide) hin_T m_37 rfl ?_
  refine np_iconst (pc := 17) (v := 2) C d_T_hashUp_17 (by decide) ?_
  refine np_iload_n (pc := 18) C d_T_hashUp_18 rfl ?_
  refine np_imul (pc := 19) C d_T_hashUp_19 ?_
  refine np_iconst (pc := 20) (v := 1) C d_T_hashUp_20 (by decide) ?_
  refine np_iadd (pc := 21) C d_T_hashUp_21 ?_
  refine np_iald (pc := 22) C 6 d_T_hashUp_22 rfl (by omega) (by decide) ?_
  refine np_cSNi (pc := 23) C (c_P_hashOf l D t (h6 _) (h6 _)) np_TS_good d_T_hashUp_23 m_26 (C.2.2.1.1 _ n_0) m_1 m_25 hd_P_hashOf (by decide) rfl rfl (Nat.le_of_ble_eq_true rfl) ?_
  refine np_iastG (pc := 26) C (np_gw a cI) _ 6 6 (np_gD ha _) d_T_hashUp_26 rfl (gs_6 a cI _) (by omega) (by decide) ?_
  exact np_vret (pc := 27) C d_T_hashUp_27 (by rfl)
set_option maxRecDepth 20000 in
set_option maxHeartbeats 4000000 in
theorem c_T_hashUp_t (l : Launch) (D : va_G) {cI : ClassId} {A : Nat → Prop} (t : Nat → Nat) {a : Nat → Nat} (hD : ∀ X, va_D A (np_tw a cI X)) {X : np_X} {i : Nat} (hi : i < 16) (h6 : np_ok (X 6)) : np_C l D cI A t (2, 45) y_T_hashUp b_T_hashUp 2 none [.ref (a 5), .int (nI i)] (np_tw a cI X) none (np_tw a cI (va_up X 6 (np_hu (X 6) i))) := by
  refine np_Ct.of (np_Sc_St _ _) (by decide) (Nat.le_of_ble_eq_true rfl) ?_
  intro p e s m below meth c C
  refine np_at (vs2 := [some (.ref (a 5)), some (.int (nI i))]) rfl ?_
  refine np_aload_n (pc := 0) C d_T_hashUp_0 rfl ?_
  refine np_get (pc := 1) C 0 0 d_T_hashUp_1 rfl rfl rfl (by decide) hin_T m_37 rfl ?_
  refine np_iload_n (pc := 4) C d_T_hashUp_4 rfl ?_
  refine np_aload_n (pc := 5) C d_T_hashUp_5 rfl ?_
  refine np_get (pc := 6) C 0 0 d_T_hashUp_6 rfl rfl rfl (by decide) hin_T m_37 rfl ?_
  refine np_iconst (pc := 9) (v := 2) C d_T_hashUp_9 (by decide) ?_
  refine np_iload_n (pc := 10) C d_T_hashUp_10 rfl ?_
  refine np_imul (pc := 11) C d_T_hashUp_11 ?_
  refine np_iald (pc := 12) C 1 d_T_hashUp_12 rfl (by omega) (by decide) ?_
  refine np_aload_n (pc := 13) C d_T_hashUp_13 rfl ?_
  refine np_get (pc := 14) C 0 0 d_T_hashUp_14 rfl rfl rfl (by decide) hin_T m_37 rfl ?_
  refine np_iconst (pc := 17) (v := 2) C d_T_hashUp_17 (by decide) ?_
  refine np_iload_n (pc := 18) C d_T_hashUp_18 rfl ?_
  refine np_imul (pc := 19) C d_T_hashUp_19 ?_
  refine np_iconst (pc := 20) (v := 1) C d_T_hashUp_20 (by decide) ?_
  refine np_iadd (pc := 21) C d_T_hashUp_21 ?_
  refine np_iald (pc := 22) C 1 d_T_hashUp_22 rfl (by omega) (by decide) ?_
  refine np_cSNi (pc := 23) C (c_P_hashOf l D t (h6 _) (h6 _)) np_TS_good d_T_hashUp_23 m_26 (C.2.2.1.1 _ n_0) m_1 m_25 hd_P_hashOf (by decide) rfl rfl (Nat.le_of_ble_eq_true rfl) ?_
  refine np_iastG (pc := 26) C (np_tw a cI) _ 1 6 (hD _) d_T_hashUp_26 rfl (ts_6 a cI _) (by omega) (by decide) ?_
  exact np_vret (pc := 27) C d_T_hashUp_27 (by rfl)
set_option maxRecDepth 20000 in
set_option maxHeartbeats 4000000 in
theorem c_T_append (l : Launch) (D : va_G) {cI : ClassId} (t : Nat → Nat) {a : Nat → Nat} (ha : np_inj a 12) {X : np_X} {x : Nat} (hl : x < 65537) (hf : X 0 1 < 16) (h6 : np_ok (X 6)) : np_C l D cI (np_ad a 12) t (3, 66) y_T_append b_T_append 4 (some .int) [.ref (a 5), .int (nI x)] (np_gw a cI X) (some (.int (nI (X 0 1)))) (np_gw a cI (np_apd X x)) := by
  refine np_Ct.of (np_Sc_St _ _) (by decide) (Nat.le_of_ble_eq_true rfl) ?_
  intro p e s m below meth c C
  refine np_at (vs2 := [some (.ref (a 5)), some (.int (nI x)), none, none]) rfl ?_
  have loop : ∀ (n v : Nat), v + n = 4 → np_V p l e (np_rm (3, 66)) s m ([.ref (a 5), .int (nI x)] : List Value).toArray below meth c 0 0 D np_cls (np_ad a 12) (MQ below (np_Qc D np_cls (np_ad a 12) (some (.int (nI (X 0 1)))) (np_gw a cI (np_apd X x))) ([.ref (a 5), .int (nI x)] : List Value).toArray s 0 0 (np_ad a 12)) 4 (np_gw a cI (va_up X 6 (np_ups (updN (X 6) (16 + X 0 1) x) (X 0 1) v))) 27 [some (.ref (a 5)), some (.int (nI x)), some (.int (nI (X 0 1))), some (.int (nI (v + 1)))] [] := by
    intro n
    induction n with
    | zero =>
      intro v hv
      obtain rfl : v = 4 := by omega
      refine np_iload_n (pc := 27) C d_T_append_27 rfl ?_
      refine np_iconst (pc := 28) (v := 4) C d_T_append_28 (by decide) ?_
      refine np_icmp_gt (pc := 29) (tgt := 48) C (by omega) (by omega) d_T_append_29 rfl (fun h29 => ?_) (fun h29 => ?_)
      · refine np_aload_n (pc := 48) C d_T_append_48 rfl ?_
        refine np_dup (pc := 49) C rfl d_T_append_49 ?_
        refine np_get (pc := 50) C 5 2 d_T_append_50 rfl rfl rfl (by decide) hin_T m_39 rfl ?_
        refine np_iconst (pc := 53) (v := 1) C d_T_append_53 (by decide) ?_
        refine np_iadd (pc := 54) C d_T_append_54 ?_
        refine np_putG (pc := 55) C (np_gw a cI) _ 5 2 1 (np_gD ha _) d_T_append_55 rfl (gp_5 a cI _) rfl (by decide) hin_T ty_T tyok_T nm_T m_39 rfl rfl rfl (Nat.le_of_ble_eq_true rfl) ?_
        refine np_aload_n (pc := 58) C d_T_append_58 rfl ?_
        refine np_get (pc := 59) C 5 1 d_T_append_59 rfl rfl rfl (by decide) hin_T m_38 rfl ?_
        refine np_aload_n (pc := 62) C d_T_append_62 rfl ?_
        refine np_get (pc := 63) C 5 2 d_T_append_63 rfl rfl rfl (by decide) hin_T m_39 rfl ?_
        refine np_top (y := X 0 1 + 1) rfl ?_
        refine np_aload_n (pc := 66) C d_T_append_66 rfl ?_
        refine np_get (pc := 67) C 5 0 d_T_append_67 rfl rfl rfl (by decide) hin_T m_37 rfl ?_
        refine np_iconst (pc := 70) (v := 1) C d_T_append_70 (by decide) ?_
        refine np_iald (pc := 71) C 6 d_T_append_71 rfl (by omega) (by decide) ?_
        refine np_iastG (pc := 72) C (np_gw a cI) _ 7 7 (np_gD ha _) d_T_append_72 rfl (gs_7 a cI _) (by omega) (by decide) ?_
        refine np_iload_n (pc := 73) C d_T_append_73 rfl ?_
        exact np_iret (pc := 74) C d_T_append_74 (by first | omega | rfl | (repeat' split) <;> omega) (by rfl)
      · exfalso; omega
    | succ n ih =>
      intro v hv
      refine np_iload_n (pc := 27) C d_T_append_27 rfl ?_
      refine np_iconst (pc := 28) (v := 4) C d_T_append_28 (by decide) ?_
      refine np_icmp_gt (pc := 29) (tgt := 48) C (by omega) (by omega) d_T_append_29 rfl (fun h29 => ?_) (fun h29 => ?_)
      · exfalso; omega
      · refine np_aload_n (pc := 32) C d_T_append_32 rfl ?_
        refine np_bipush (pc := 33) (v := 16) C d_T_append_33 (by decide) ?_
        refine np_iload_n (pc := 35) C d_T_append_35 rfl ?_
        refine np_iadd (pc := 36) C d_T_append_36 ?_
        refine np_iload_n (pc := 37) C d_T_append_37 rfl ?_
        refine np_ishr (pc := 38) C (by omega) (by omega) d_T_append_38 ?_
        refine np_cVv (pc := 39) C 5 (c_T_hashUp l D t ha (np_idx v hf) (np_ok_ups (np_ok_upd h6 hl) _ _)) np_TS_good d_T_append_39 rfl rfl m_23 m_20 m_2 m_22 ms_T_hashUp hd_T_hashUp (by decide) rfl rfl (Nat.le_of_ble_eq_true rfl) ?_
        refine np_iinc (pc := 42) C d_T_append_42 rfl (np_inc1 _) (by decide) rfl ?_
        refine np_goto (pc := 45) (tgt := 27) C d_T_append_45 rfl ?_
        refine np_at (vs2 := [some (.ref (a 5)), some (.int (nI x)), some (.int (nI (X 0 1))), some (.int (nI (v + 1 + 1)))]) rfl ?_
        refine np_atw (w2 := np_gw a cI (va_up X 6 (np_ups (updN (X 6) (16 + X 0 1) x) (X 0 1) (v + 1)))) rfl ?_
        exact ih (v + 1) (by omega)
  refine np_aload_n (pc := 0) C d_T_append_0 rfl ?_
  refine np_cVi (pc := 1) C 5 (c_T_isFull l D t ha (Nat.le_of_lt hf)) np_TS_good d_T_append_1 rfl rfl m_123 m_132 m_2 m_121 m_122 hd_T_isFull (by decide) rfl rfl (Nat.le_of_ble_eq_true rfl) ?_
  refine np_ifz_eq (pc := 4) (tgt := 10) C d_T_append_4 rfl (fun h4 => ?_) (fun h4 => ?_)
  · refine np_aload_n (pc := 10) C d_T_append_10 rfl ?_
    refine np_get (pc := 11) C 5 2 d_T_append_11 rfl rfl rfl (by decide) hin_T m_39 rfl ?_
    refine np_istore_n (pc := 14) C d_T_append_14 (by decide) rfl ?_
    refine np_aload_n (pc := 15) C d_T_append_15 rfl ?_
    refine np_get (pc := 16) C 5 0 d_T_append_16 rfl rfl rfl (by decide) hin_T m_37 rfl ?_
    refine np_bipush (pc := 19) (v := 16) C d_T_append_19 (by decide) ?_
    refine np_iload_n (pc := 21) C d_T_append_21 rfl ?_
    refine np_iadd (pc := 22) C d_T_append_22 ?_
    refine np_iload_n (pc := 23) C d_T_append_23 rfl ?_
    refine np_iastG (pc := 24) C (np_gw a cI) _ 6 6 (np_gD ha _) d_T_append_24 rfl (gs_6 a cI _) (by omega) (by decide) ?_
    refine np_iconst (pc := 25) (v := 1) C d_T_append_25 (by decide) ?_
    refine np_istore_n (pc := 26) C d_T_append_26 (by decide) rfl ?_
    refine np_at (vs2 := [some (.ref (a 5)), some (.int (nI x)), some (.int (nI (X 0 1))), some (.int (nI (0 + 1)))]) rfl ?_
    refine np_atw (w2 := np_gw a cI (va_up X 6 (np_ups (updN (X 6) (16 + X 0 1) x) (X 0 1) 0))) rfl ?_
    exact loop 4 0 rfl
  · exfalso; omega
set_option maxRecDepth 20000 in
set_option maxHeartbeats 4000000 in
theorem c_T_nodeAt (l : Launch) (D : va_G) {cI : ClassId} (t : Nat → Nat) {a : Nat → Nat} (ha : np_inj a 12) {X : np_X} {v n : Nat} (hv : v < 4294967296) (hn : n < 4294967296) : np_C l D cI (np_ad a 12) t (0, 0) y_T_nodeAt b_T_nodeAt 4 (some .int) [.ref (a 5), .int (nI v), .int (nI n)] (np_gw a cI X) (some (.int (nI (np_na (X 6) v n)))) (np_gw a cI X) := by
  refine np_Ct.of (np_Sc_St _ _) (by decide) (Nat.le_of_ble_eq_true rfl) ?_
  intro p e s m below meth c C
  refine np_at (vs2 := [some (.ref (a 5)), some (.int (nI v)), some (.int (nI n)), none]) rfl ?_
  have h16 : 16 / 2 ^ v ≤ 16 := Nat.div_le_self _ _
  refine np_iload_n (pc := 0) C d_T_nodeAt_0 rfl ?_
  refine np_if_lt (pc := 1) (tgt := 9) C (by omega) d_T_nodeAt_1 rfl (fun h1 => ?_) (fun h1 => ?_)
  · refine np_iconst (pc := 9) (v := 4294967295) C d_T_nodeAt_9 (by decide) ?_
    exact np_iret (pc := 10) C d_T_nodeAt_10 (by unfold np_na; (repeat' split) <;> omega) (by rfl)
  · refine np_iload_n (pc := 4) C d_T_nodeAt_4 rfl ?_
    refine np_iconst (pc := 5) (v := 4) C d_T_nodeAt_5 (by decide) ?_
    refine np_icmp_le (pc := 6) (tgt := 11) C (by omega) (by omega) d_T_nodeAt_6 rfl (fun h6 => ?_) (fun h6 => ?_)
    · refine np_bipush (pc := 11) (v := 16) C d_T_nodeAt_11 (by decide) ?_
      refine np_iload_n (pc := 13) C d_T_nodeAt_13 rfl ?_
      refine np_ishr (pc := 14) C (by omega) (by omega) d_T_nodeAt_14 ?_
      refine np_istore_n (pc := 15) C d_T_nodeAt_15 (by decide) rfl ?_
      refine np_iload_n (pc := 16) C d_T_nodeAt_16 rfl ?_
      refine np_if_lt (pc := 17) (tgt := 36) C (by omega) d_T_nodeAt_17 rfl (fun h17 => ?_) (fun h17 => ?_)
      · refine np_iconst (pc := 36) (v := 4294967295) C d_T_nodeAt_36 (by decide) ?_
        exact np_iret (pc := 37) C d_T_nodeAt_37 (by unfold np_na; (repeat' split) <;> omega) (by rfl)
      · refine np_iload_n (pc := 20) C d_T_nodeAt_20 rfl ?_
        refine np_iload_n (pc := 21) C d_T_nodeAt_21 rfl ?_
        refine np_icmp_ge (pc := 22) (tgt := 36) C (by omega) (by omega) d_T_nodeAt_22 rfl (fun h22 => ?_) (fun h22 => ?_)
        · refine np_iconst (pc := 36) (v := 4294967295) C d_T_nodeAt_36 (by decide) ?_
          exact np_iret (pc := 37) C d_T_nodeAt_37 (by unfold np_na; (repeat' split) <;> omega) (by rfl)
        · refine np_aload_n (pc := 25) C d_T_nodeAt_25 rfl ?_
          refine np_get (pc := 26) C 5 0 d_T_nodeAt_26 rfl rfl rfl (by decide) hin_T m_37 rfl ?_
          refine np_iload_n (pc := 29) C d_T_nodeAt_29 rfl ?_
          refine np_iload_n (pc := 30) C d_T_nodeAt_30 rfl ?_
          refine np_iadd (pc := 31) C d_T_nodeAt_31 ?_
          refine np_iald (pc := 32) C 6 d_T_nodeAt_32 rfl (by omega) (by decide) ?_
          refine np_goto (pc := 33) (tgt := 37) C d_T_nodeAt_33 rfl ?_
          exact np_iret (pc := 37) C d_T_nodeAt_37 (by unfold np_na; (repeat' split) <;> omega) (by rfl)
    · refine np_iconst (pc := 9) (v := 4294967295) C d_T_nodeAt_9 (by decide) ?_
      exact np_iret (pc := 10) C d_T_nodeAt_10 (by unfold np_na; (repeat' split) <;> omega) (by rfl)
set_option maxRecDepth 20000 in
set_option maxHeartbeats 4000000 in
theorem c_T_recentRoot (l : Launch) (D : va_G) {cI : ClassId} (t : Nat → Nat) {a : Nat → Nat} (ha : np_inj a 12) {X : np_X} {k : Nat} (hk : k < 4294967296) (h1 : X 0 1 ≤ 16) : np_C l D cI (np_ad a 12) t (0, 0) y_T_recentRoot b_T_recentRoot 2 (some .int) [.ref (a 5), .int (nI k)] (np_gw a cI X) (some (.int (nI (np_rr X k)))) (np_gw a cI X) := by
  refine np_Ct.of (np_Sc_St _ _) (by decide) (Nat.le_of_ble_eq_true rfl) ?_
  intro p e s m below meth c C
  refine np_at (vs2 := [some (.ref (a 5)), some (.int (nI k))]) rfl ?_
  refine np_iload_n (pc := 0) C d_T_recentRoot_0 rfl ?_
  refine np_if_lt (pc := 1) (tgt := 31) C (by omega) d_T_recentRoot_1 rfl (fun h1 => ?_) (fun h1 => ?_)
  · refine np_iconst (pc := 31) (v := 4294967295) C d_T_recentRoot_31 (by decide) ?_
    exact np_iret (pc := 32) C d_T_recentRoot_32 (by unfold np_rr; (repeat' split) <;> omega) (by rfl)
  · refine np_iload_n (pc := 4) C d_T_recentRoot_4 rfl ?_
    refine np_iconst (pc := 5) (v := 4) C d_T_recentRoot_5 (by decide) ?_
    refine np_icmp_ge (pc := 6) (tgt := 31) C (by omega) (by omega) d_T_recentRoot_6 rfl (fun h6 => ?_) (fun h6 => ?_)
    · refine np_iconst (pc := 31) (v := 4294967295) C d_T_recentRoot_31 (by decide) ?_
      exact np_iret (pc := 32) C d_T_recentRoot_32 (by unfold np_rr; (repeat' split) <;> omega) (by rfl)
    · refine np_iload_n (pc := 9) C d_T_recentRoot_9 rfl ?_
      refine np_aload_n (pc := 10) C d_T_recentRoot_10 rfl ?_
      refine np_get (pc := 11) C 5 2 d_T_recentRoot_11 rfl rfl rfl (by decide) hin_T m_39 rfl ?_
      refine np_icmp_gt (pc := 14) (tgt := 31) C (by omega) (by omega) d_T_recentRoot_14 rfl (fun h14 => ?_) (fun h14 => ?_)
      · refine np_iconst (pc := 31) (v := 4294967295) C d_T_recentRoot_31 (by decide) ?_
        exact np_iret (pc := 32) C d_T_recentRoot_32 (by unfold np_rr; (repeat' split) <;> omega) (by rfl)
      · refine np_aload_n (pc := 17) C d_T_recentRoot_17 rfl ?_
        refine np_get (pc := 18) C 5 1 d_T_recentRoot_18 rfl rfl rfl (by decide) hin_T m_38 rfl ?_
        refine np_aload_n (pc := 21) C d_T_recentRoot_21 rfl ?_
        refine np_get (pc := 22) C 5 2 d_T_recentRoot_22 rfl rfl rfl (by decide) hin_T m_39 rfl ?_
        refine np_iload_n (pc := 25) C d_T_recentRoot_25 rfl ?_
        refine np_isub (pc := 26) C (by omega) d_T_recentRoot_26 ?_
        refine np_iald (pc := 27) C 7 d_T_recentRoot_27 rfl (by omega) (by decide) ?_
        refine np_goto (pc := 28) (tgt := 32) C d_T_recentRoot_28 rfl ?_
        exact np_iret (pc := 32) C d_T_recentRoot_32 (by unfold np_rr; (repeat' split) <;> omega) (by rfl)
set_option maxRecDepth 20000 in
set_option maxHeartbeats 4000000 in
theorem c_T_isRecent (l : Launch) (D : va_G) {cI : ClassId} (t : Nat → Nat) {a : Nat → Nat} (ha : np_inj a 12) {X : np_X} {x : Nat} (hx : x < 65537) (h1 : X 0 1 ≤ 16) (h7 : np_ok (X 7)) : np_C l D cI (np_ad a 12) t (1, 21) y_T_isRecent b_T_isRecent 3 (some .boolean) [.ref (a 5), .int (nI x)] (np_gw a cI X) (some (.int (nI (if np_hs (np_rr X) x 4 = true then 1 else 0)))) (np_gw a cI X) := by
  refine np_Ct.of (np_Sc_St _ _) (by decide) (Nat.le_of_ble_eq_true rfl) ?_
  intro p e s m below meth c C
  refine np_at (vs2 := [some (.ref (a 5)), some (.int (nI x)), none]) rfl ?_
  have loop : ∀ (n k : Nat), k + n = 4 → np_hs (np_rr X) x k = false → np_V p l e (np_rm (1, 21)) s m ([.ref (a 5), .int (nI x)] : List Value).toArray below meth c 0 0 D np_cls (np_ad a 12) (MQ below (np_Qc D np_cls (np_ad a 12) (some (.int (nI (if np_hs (np_rr X) x 4 = true then 1 else 0)))) (np_gw a cI X)) ([.ref (a 5), .int (nI x)] : List Value).toArray s 0 0 (np_ad a 12)) 3 (np_gw a cI X) 2 [some (.ref (a 5)), some (.int (nI x)), some (.int (nI k))] [] := by
    intro n
    induction n with
    | zero =>
      intro k hk hno
      obtain rfl : k = 4 := by omega
      refine np_iload_n (pc := 2) C d_T_isRecent_2 rfl ?_
      refine np_iconst (pc := 3) (v := 4) C d_T_isRecent_3 (by decide) ?_
      refine np_icmp_ge (pc := 4) (tgt := 24) C (by omega) (by omega) d_T_isRecent_4 rfl (fun h4 => ?_) (fun h4 => ?_)
      · refine np_iconst (pc := 24) (v := 0) C d_T_isRecent_24 (by decide) ?_
        exact np_zret (pc := 25) C d_T_isRecent_25 (by omega) (by rw [if_neg (by simp [hno])]) (by rfl)
      · exfalso; omega
    | succ n ih =>
      intro k hk hno
      have hb := np_rr_lt h7 k
      refine np_iload_n (pc := 2) C d_T_isRecent_2 rfl ?_
      refine np_iconst (pc := 3) (v := 4) C d_T_isRecent_3 (by decide) ?_
      refine np_icmp_ge (pc := 4) (tgt := 24) C (by omega) (by omega) d_T_isRecent_4 rfl (fun h4 => ?_) (fun h4 => ?_)
      · exfalso; omega
      · refine np_aload_n (pc := 7) C d_T_isRecent_7 rfl ?_
        refine np_iload_n (pc := 8) C d_T_isRecent_8 rfl ?_
        refine np_cVi (pc := 9) C 5 (c_T_recentRoot l D t ha (by omega) h1) np_TS_good d_T_isRecent_9 rfl rfl m_235 m_232 m_2 m_233 m_234 hd_T_recentRoot (by decide) rfl rfl (Nat.le_of_ble_eq_true rfl) ?_
        refine np_iload_n (pc := 12) C d_T_isRecent_12 rfl ?_
        refine np_icmp_ne (pc := 13) (tgt := 18) C (by omega) (by omega) d_T_isRecent_13 rfl (fun h13 => ?_) (fun h13 => ?_)
        · refine np_iinc (pc := 18) C d_T_isRecent_18 rfl (np_inc1 _) (by decide) rfl ?_
          refine np_goto (pc := 21) (tgt := 2) C d_T_isRecent_21 rfl ?_
          refine np_at (vs2 := [some (.ref (a 5)), some (.int (nI x)), some (.int (nI (k + 1)))]) rfl ?_
          exact ih (k + 1) (by omega) (np_hs_no hno h13)
        · refine np_iconst (pc := 16) (v := 1) C d_T_isRecent_16 (by decide) ?_
          exact np_zret (pc := 17) C d_T_isRecent_17 (by omega) (by rw [if_pos (np_hs_up h13 (by omega))]) (by rfl)
  refine np_iconst (pc := 0) (v := 0) C d_T_isRecent_0 (by decide) ?_
  refine np_istore_n (pc := 1) C d_T_isRecent_1 (by decide) rfl ?_
  refine np_at (vs2 := [some (.ref (a 5)), some (.int (nI x)), some (.int (nI 0))]) rfl ?_
  exact loop 4 0 rfl rfl
set_option maxRecDepth 20000 in
set_option maxHeartbeats 4000000 in
theorem c_K_has (l : Launch) (D : va_G) {cI : ClassId} (t : Nat → Nat) {a : Nat → Nat} (ha : np_inj a 12) {X : np_X} {x : Nat} (hx : x < 65537) (h2 : X 0 2 ≤ 16) (h9 : np_ok (X 9)) : np_C l D cI (np_ad a 12) t (0, 0) y_K_has b_K_has 3 (some .boolean) [.ref (a 8), .int (nI x)] (np_gw a cI X) (some (.int (nI (if np_hs (X 9) x (X 0 2) = true then 1 else 0)))) (np_gw a cI X) := by
  refine np_Ct.of (np_Sc_St _ _) (by decide) (Nat.le_of_ble_eq_true rfl) ?_
  intro p e s m below meth c C
  refine np_at (vs2 := [some (.ref (a 8)), some (.int (nI x)), none]) rfl ?_
  have loop : ∀ (n k : Nat), k + n = X 0 2 → np_hs (X 9) x k = false → np_V p l e (np_rm (0, 0)) s m ([.ref (a 8), .int (nI x)] : List Value).toArray below meth c 0 0 D np_cls (np_ad a 12) (MQ below (np_Qc D np_cls (np_ad a 12) (some (.int (nI (if np_hs (X 9) x (X 0 2) = true then 1 else 0)))) (np_gw a cI X)) ([.ref (a 8), .int (nI x)] : List Value).toArray s 0 0 (np_ad a 12)) 3 (np_gw a cI X) 2 [some (.ref (a 8)), some (.int (nI x)), some (.int (nI k))] [] := by
    intro n
    induction n with
    | zero =>
      intro k hk hno
      obtain rfl : k = X 0 2 := by omega
      refine np_iload_n (pc := 2) C d_K_has_2 rfl ?_
      refine np_aload_n (pc := 3) C d_K_has_3 rfl ?_
      refine np_get (pc := 4) C 8 1 d_K_has_4 rfl rfl rfl (by decide) hin_K m_56 rfl ?_
      refine np_icmp_ge (pc := 7) (tgt := 28) C (by omega) (by omega) d_K_has_7 rfl (fun h7 => ?_) (fun h7 => ?_)
      · refine np_iconst (pc := 28) (v := 0) C d_K_has_28 (by decide) ?_
        exact np_zret (pc := 29) C d_K_has_29 (by omega) (by rw [if_neg (by simp [hno])]) (by rfl)
      · exfalso; omega
    | succ n ih =>
      intro k hk hno
      have hb := h9 k
      refine np_iload_n (pc := 2) C d_K_has_2 rfl ?_
      refine np_aload_n (pc := 3) C d_K_has_3 rfl ?_
      refine np_get (pc := 4) C 8 1 d_K_has_4 rfl rfl rfl (by decide) hin_K m_56 rfl ?_
      refine np_icmp_ge (pc := 7) (tgt := 28) C (by omega) (by omega) d_K_has_7 rfl (fun h7 => ?_) (fun h7 => ?_)
      · exfalso; omega
      · refine np_aload_n (pc := 10) C d_K_has_10 rfl ?_
        refine np_get (pc := 11) C 8 0 d_K_has_11 rfl rfl rfl (by decide) hin_K m_55 rfl ?_
        refine np_iload_n (pc := 14) C d_K_has_14 rfl ?_
        refine np_iald (pc := 15) C 9 d_K_has_15 rfl (by omega) (by decide) ?_
        refine np_iload_n (pc := 16) C d_K_has_16 rfl ?_
        refine np_icmp_ne (pc := 17) (tgt := 22) C (by omega) (by omega) d_K_has_17 rfl (fun h17 => ?_) (fun h17 => ?_)
        · refine np_iinc (pc := 22) C d_K_has_22 rfl (np_inc1 _) (by decide) rfl ?_
          refine np_goto (pc := 25) (tgt := 2) C d_K_has_25 rfl ?_
          refine np_at (vs2 := [some (.ref (a 8)), some (.int (nI x)), some (.int (nI (k + 1)))]) rfl ?_
          exact ih (k + 1) (by omega) (np_hs_no hno h17)
        · refine np_iconst (pc := 20) (v := 1) C d_K_has_20 (by decide) ?_
          exact np_zret (pc := 21) C d_K_has_21 (by omega) (by rw [if_pos (np_hs_up h17 (by omega))]) (by rfl)
  refine np_iconst (pc := 0) (v := 0) C d_K_has_0 (by decide) ?_
  refine np_istore_n (pc := 1) C d_K_has_1 (by decide) rfl ?_
  refine np_at (vs2 := [some (.ref (a 8)), some (.int (nI x)), some (.int (nI 0))]) rfl ?_
  exact loop (X 0 2) 0 (by omega) rfl
set_option maxRecDepth 20000 in
set_option maxHeartbeats 4000000 in
theorem c_K_add (l : Launch) (D : va_G) {cI : ClassId} (t : Nat → Nat) {a : Nat → Nat} (ha : np_inj a 12) {X : np_X} {x : Nat} (hx : x < 65537) (h2 : X 0 2 < 16) (h9 : np_ok (X 9)) : np_C l D cI (np_ad a 12) t (0, 0) y_K_add b_K_add 3 none [.ref (a 8), .int (nI x)] (np_gw a cI X) none (np_gw a cI (va_up (va_up X 9 (np_ins x (X 9) (X 0 2))) 0 (updN (X 0) 2 (X 0 2 + 1)))) := by
  refine np_Ct.of (np_Sc_St _ _) (by decide) (Nat.le_of_ble_eq_true rfl) ?_
  intro p e s m below meth c C
  refine np_at (vs2 := [some (.ref (a 8)), some (.int (nI x)), none]) rfl ?_
  have loop : ∀ (k : Nat) (f : Nat → Nat), k ≤ X 0 2 → np_ok f → np_ins x f k = np_ins x (X 9) (X 0 2) → np_V p l e (np_rm (0, 0)) s m ([.ref (a 8), .int (nI x)] : List Value).toArray below meth c 0 0 D np_cls (np_ad a 12) (MQ below (np_Qc D np_cls (np_ad a 12) none (np_gw a cI (va_up (va_up X 9 (np_ins x (X 9) (X 0 2))) 0 (updN (X 0) 2 (X 0 2 + 1))))) ([.ref (a 8), .int (nI x)] : List Value).toArray s 0 0 (np_ad a 12)) 3 (np_gw a cI (va_up X 9 f)) 15 [some (.ref (a 8)), some (.int (nI x)), some (.int (nI k))] [] := by
    intro k
    induction k with
    | zero =>
      intro f hk hf hf2
      refine np_iload_n (pc := 15) C d_K_add_15 rfl ?_
      refine np_if_le (pc := 16) (tgt := 51) C (by omega) d_K_add_16 rfl (fun h16 => ?_) (fun h16 => ?_)
      · refine np_aload_n (pc := 51) C d_K_add_51 rfl ?_
        refine np_get (pc := 52) C 8 0 d_K_add_52 rfl rfl rfl (by decide) hin_K m_55 rfl ?_
        refine np_iload_n (pc := 55) C d_K_add_55 rfl ?_
        refine np_iload_n (pc := 56) C d_K_add_56 rfl ?_
        refine np_iastG (pc := 57) C (np_gw a cI) _ 9 9 (np_gD ha _) d_K_add_57 rfl (gs_9 a cI _) (by omega) (by decide) ?_
        refine np_aload_n (pc := 58) C d_K_add_58 rfl ?_
        refine np_dup (pc := 59) C rfl d_K_add_59 ?_
        refine np_get (pc := 60) C 8 1 d_K_add_60 rfl rfl rfl (by decide) hin_K m_56 rfl ?_
        refine np_top (y := X 0 2) rfl ?_
        refine np_iconst (pc := 63) (v := 1) C d_K_add_63 (by decide) ?_
        refine np_iadd (pc := 64) C d_K_add_64 ?_
        refine np_putG (pc := 65) C (np_gw a cI) _ 8 1 2 (np_gD ha _) d_K_add_65 rfl (gp_8 a cI _) rfl (by decide) hin_K ty_K tyok_K nm_K m_56 rfl rfl rfl (Nat.le_of_ble_eq_true rfl) ?_
        exact np_vret (pc := 68) C d_K_add_68 (by rw [← hf2]; rfl)
      · exfalso; omega
    | succ k ih =>
      intro f hk hf hf2
      have hb := hf k
      refine np_iload_n (pc := 15) C d_K_add_15 rfl ?_
      refine np_if_le (pc := 16) (tgt := 51) C (by omega) d_K_add_16 rfl (fun h16 => ?_) (fun h16 => ?_)
      · exfalso; omega
      · refine np_aload_n (pc := 19) C d_K_add_19 rfl ?_
        refine np_get (pc := 20) C 8 0 d_K_add_20 rfl rfl rfl (by decide) hin_K m_55 rfl ?_
        refine np_iload_n (pc := 23) C d_K_add_23 rfl ?_
        refine np_iconst (pc := 24) (v := 1) C d_K_add_24 (by decide) ?_
        refine np_isub (pc := 25) C (by omega) d_K_add_25 ?_
        refine np_top (y := k) rfl ?_
        refine np_iald (pc := 26) C 9 d_K_add_26 rfl (by omega) (by decide) ?_
        refine np_top (y := f k) rfl ?_
        refine np_iload_n (pc := 27) C d_K_add_27 rfl ?_
        refine np_icmp_le (pc := 28) (tgt := 51) C (by omega) (by omega) d_K_add_28 rfl (fun h28 => ?_) (fun h28 => ?_)
        · rw [np_ins, if_neg (by omega)] at hf2
          refine np_aload_n (pc := 51) C d_K_add_51 rfl ?_
          refine np_get (pc := 52) C 8 0 d_K_add_52 rfl rfl rfl (by decide) hin_K m_55 rfl ?_
          refine np_iload_n (pc := 55) C d_K_add_55 rfl ?_
          refine np_iload_n (pc := 56) C d_K_add_56 rfl ?_
          refine np_iastG (pc := 57) C (np_gw a cI) _ 9 9 (np_gD ha _) d_K_add_57 rfl (gs_9 a cI _) (by omega) (by decide) ?_
          refine np_aload_n (pc := 58) C d_K_add_58 rfl ?_
          refine np_dup (pc := 59) C rfl d_K_add_59 ?_
          refine np_get (pc := 60) C 8 1 d_K_add_60 rfl rfl rfl (by decide) hin_K m_56 rfl ?_
          refine np_top (y := X 0 2) rfl ?_
          refine np_iconst (pc := 63) (v := 1) C d_K_add_63 (by decide) ?_
          refine np_iadd (pc := 64) C d_K_add_64 ?_
          refine np_putG (pc := 65) C (np_gw a cI) _ 8 1 2 (np_gD ha _) d_K_add_65 rfl (gp_8 a cI _) rfl (by decide) hin_K ty_K tyok_K nm_K m_56 rfl rfl rfl (Nat.le_of_ble_eq_true rfl) ?_
          exact np_vret (pc := 68) C d_K_add_68 (by rw [← hf2]; rfl)
        · rw [np_ins, if_pos (by omega)] at hf2
          refine np_aload_n (pc := 31) C d_K_add_31 rfl ?_
          refine np_get (pc := 32) C 8 0 d_K_add_32 rfl rfl rfl (by decide) hin_K m_55 rfl ?_
          refine np_iload_n (pc := 35) C d_K_add_35 rfl ?_
          refine np_aload_n (pc := 36) C d_K_add_36 rfl ?_
          refine np_get (pc := 37) C 8 0 d_K_add_37 rfl rfl rfl (by decide) hin_K m_55 rfl ?_
          refine np_iload_n (pc := 40) C d_K_add_40 rfl ?_
          refine np_iconst (pc := 41) (v := 1) C d_K_add_41 (by decide) ?_
          refine np_isub (pc := 42) C (by omega) d_K_add_42 ?_
          refine np_top (y := k) rfl ?_
          refine np_iald (pc := 43) C 9 d_K_add_43 rfl (by omega) (by decide) ?_
          refine np_top (y := f k) rfl ?_
          refine np_iastG (pc := 44) C (np_gw a cI) _ 9 9 (np_gD ha _) d_K_add_44 rfl (gs_9 a cI _) (by omega) (by decide) ?_
          refine np_iinc (pc := 45) C d_K_add_45 rfl (np_m1 (Nat.succ_pos k)) (by decide) rfl ?_
          refine np_goto (pc := 48) (tgt := 15) C d_K_add_48 rfl ?_
          refine np_at (vs2 := [some (.ref (a 8)), some (.int (nI x)), some (.int (nI k))]) rfl ?_
          refine np_atw (w2 := np_gw a cI (va_up X 9 (updN f (k + 1) (f k)))) rfl ?_
          exact ih _ (by omega) (np_ok_upd hf (hf _)) hf2
  refine np_aload_n (pc := 0) C d_K_add_0 rfl ?_
  refine np_get (pc := 1) C 8 1 d_K_add_1 rfl rfl rfl (by decide) hin_K m_56 rfl ?_
  refine np_bipush (pc := 4) (v := 16) C d_K_add_4 (by decide) ?_
  refine np_icmp_lt (pc := 6) (tgt := 10) C (by omega) (by omega) d_K_add_6 rfl (fun h6 => ?_) (fun h6 => ?_)
  · refine np_aload_n (pc := 10) C d_K_add_10 rfl ?_
    refine np_get (pc := 11) C 8 1 d_K_add_11 rfl rfl rfl (by decide) hin_K m_56 rfl ?_
    refine np_istore_n (pc := 14) C d_K_add_14 (by decide) rfl ?_
    refine np_at (vs2 := [some (.ref (a 8)), some (.int (nI x)), some (.int (nI (X 0 2)))]) rfl ?_
    refine np_atw (w2 := np_gw a cI (va_up X 9 (X 9))) rfl ?_
    exact loop (X 0 2) (X 9) (Nat.le_refl _) h9 rfl
  · exfalso; omega
set_option maxRecDepth 20000 in
set_option maxHeartbeats 4000000 in
theorem c_K_at (l : Launch) (D : va_G) {cI : ClassId} (t : Nat → Nat) {a : Nat → Nat} (ha : np_inj a 12) {X : np_X} {k : Nat} (hk : k < 4294967296) (h2 : X 0 2 ≤ 16) : np_C l D cI (np_ad a 12) t (0, 0) y_K_at b_K_at 2 (some .int) [.ref (a 8), .int (nI k)] (np_gw a cI X) (some (.int (nI (if k < X 0 2 then X 9 k else 4294967295)))) (np_gw a cI X) := by
  refine np_Ct.of (np_Sc_St _ _) (by decide) (Nat.le_of_ble_eq_true rfl) ?_
  intro p e s m below meth c C
  refine np_at (vs2 := [some (.ref (a 8)), some (.int (nI k))]) rfl ?_
  refine np_iload_n (pc := 0) C d_K_at_0 rfl ?_
  refine np_if_lt (pc := 1) (tgt := 21) C (by omega) d_K_at_1 rfl (fun h1 => ?_) (fun h1 => ?_)
  · refine np_iconst (pc := 21) (v := 4294967295) C d_K_at_21 (by decide) ?_
    exact np_iret (pc := 22) C d_K_at_22 (by first | omega | rfl | (repeat' split) <;> omega) (by rfl)
  · refine np_iload_n (pc := 4) C d_K_at_4 rfl ?_
    refine np_aload_n (pc := 5) C d_K_at_5 rfl ?_
    refine np_get (pc := 6) C 8 1 d_K_at_6 rfl rfl rfl (by decide) hin_K m_56 rfl ?_
    refine np_icmp_ge (pc := 9) (tgt := 21) C (by omega) (by omega) d_K_at_9 rfl (fun h9 => ?_) (fun h9 => ?_)
    · refine np_iconst (pc := 21) (v := 4294967295) C d_K_at_21 (by decide) ?_
      exact np_iret (pc := 22) C d_K_at_22 (by first | omega | rfl | (repeat' split) <;> omega) (by rfl)
    · refine np_aload_n (pc := 12) C d_K_at_12 rfl ?_
      refine np_get (pc := 13) C 8 0 d_K_at_13 rfl rfl rfl (by decide) hin_K m_55 rfl ?_
      refine np_iload_n (pc := 16) C d_K_at_16 rfl ?_
      refine np_iald (pc := 17) C 9 d_K_at_17 rfl (by omega) (by decide) ?_
      refine np_goto (pc := 18) (tgt := 22) C d_K_at_18 rfl ?_
      exact np_iret (pc := 22) C d_K_at_22 (by first | omega | rfl | (repeat' split) <;> omega) (by rfl)
end
section
def np_bts (g : Nat → Nat) (am : Nat) : Nat → Nat → Nat
  | 0 => g
  | n + 1 => updN (np_bts g am n) (27 + n) (am / 2 ^ n % 2)
def np_tkp (f : Nat → Nat) (k am wd nn : Nat) : Nat → Nat := np_bts (updN (updN (updN (updN f 8 k) 9 am) 4 wd) 10 nn) am 8
def np_tpa (nd : Nat → Nat) (pl : Nat) (f : Nat → Nat) : Nat → Nat → Nat
  | 0 => f
  | n + 1 => updN (updN (np_tpa nd pl f n) (15 + n) (pl / 2 ^ n % 2)) (11 + n) (np_na nd n (if pl / 2 ^ n % 2 = 0 then pl / 2 ^ n + 1 else pl / 2 ^ n - 1))
theorem np_fi_lt {b : Nat} (h : b < 10) : np_fi b < 125 := by
  rcases (show b = 0 ∨ b = 1 ∨ b = 2 ∨ b = 3 ∨ b = 4 ∨ b = 5 ∨ b = 6 ∨ b = 7 ∨ b = 8 ∨ b = 9 by omega) with rfl | rfl | rfl | rfl | rfl | rfl | rfl | rfl | rfl | rfl <;> decide
theorem np_se_lt {b : Nat} (h : b < 10) (h0 : b ≠ 0) : np_se b < 125 := by
  rcases (show b = 1 ∨ b = 2 ∨ b = 3 ∨ b = 4 ∨ b = 5 ∨ b = 6 ∨ b = 7 ∨ b = 8 ∨ b = 9 by omega) with rfl | rfl | rfl | rfl | rfl | rfl | rfl | rfl | rfl <;> decide
theorem np_p8 {k : Nat} (h : k < 8) : 2 ^ k < 256 := Nat.pow_lt_pow_right (show 1 < 2 by decide) h
set_option maxRecDepth 20000 in
set_option maxHeartbeats 4000000 in
theorem c_S_cellOnLevel (l : Launch) (D : va_G) {cI : ClassId} {A : Nat → Prop} (t : Nat → Nat) {w : va_W} {v z : Nat} (hv : v < 4) (hz : z < 11) : np_C l D cI A t (0, 0) y_S_cellOnLevel b_S_cellOnLevel 2 (some .int) [.int (nI v), .int (nI z)] w (some (.int (nI (np_col v z)))) w := by
  refine np_Ct.of (np_Sc_St _ _) (by decide) (Nat.le_of_ble_eq_true rfl) ?_
  intro p e s m below meth c C
  refine np_at (vs2 := [some (.int (nI v)), some (.int (nI z))]) rfl ?_
  refine np_iload_n (pc := 0) C d_S_cellOnLevel_0 rfl ?_
  refine np_if_ne (pc := 1) (tgt := 9) C (by omega) d_S_cellOnLevel_1 rfl (fun h1 => ?_) (fun h1 => ?_)
  · refine np_iload_n (pc := 9) C d_S_cellOnLevel_9 rfl ?_
    refine np_iconst (pc := 10) (v := 1) C d_S_cellOnLevel_10 (by decide) ?_
    refine np_icmp_ne (pc := 11) (tgt := 19) C (by omega) (by omega) d_S_cellOnLevel_11 rfl (fun h11 => ?_) (fun h11 => ?_)
    · refine np_bipush (pc := 19) (v := 35) C d_S_cellOnLevel_19 (by decide) ?_
      refine np_iconst (pc := 21) (v := 3) C d_S_cellOnLevel_21 (by decide) ?_
      refine np_iload_n (pc := 22) C d_S_cellOnLevel_22 rfl ?_
      refine np_iadd (pc := 23) C d_S_cellOnLevel_23 ?_
      refine np_bipush (pc := 24) (v := 9) C d_S_cellOnLevel_24 (by decide) ?_
      refine np_imul (pc := 26) C d_S_cellOnLevel_26 ?_
      refine np_iadd (pc := 27) C d_S_cellOnLevel_27 ?_
      refine np_iload_n (pc := 28) C d_S_cellOnLevel_28 rfl ?_
      refine np_iadd (pc := 29) C d_S_cellOnLevel_29 ?_
      refine np_iconst (pc := 30) (v := 2) C d_S_cellOnLevel_30 (by decide) ?_
      refine np_isub (pc := 31) C (by omega) d_S_cellOnLevel_31 ?_
      exact np_iret (pc := 32) C d_S_cellOnLevel_32 (by unfold np_col; (repeat' split) <;> first | omega | rfl) (by rfl)
    · refine np_bipush (pc := 14) (v := 23) C d_S_cellOnLevel_14 (by decide) ?_
      refine np_iload_n (pc := 16) C d_S_cellOnLevel_16 rfl ?_
      refine np_iadd (pc := 17) C d_S_cellOnLevel_17 ?_
      exact np_iret (pc := 18) C d_S_cellOnLevel_18 (by unfold np_col; (repeat' split) <;> first | omega | rfl) (by rfl)
  · refine np_bipush (pc := 4) (v := 19) C d_S_cellOnLevel_4 (by decide) ?_
    refine np_iload_n (pc := 6) C d_S_cellOnLevel_6 rfl ?_
    refine np_iadd (pc := 7) C d_S_cellOnLevel_7 ?_
    exact np_iret (pc := 8) C d_S_cellOnLevel_8 (by unfold np_col; (repeat' split) <;> first | omega | rfl) (by rfl)
set_option maxRecDepth 20000 in
set_option maxHeartbeats 4000000 in
theorem c_S_cellOf (l : Launch) (D : va_G) {cI : ClassId} {A : Nat → Prop} (t : Nat → Nat) {w : va_W} {c0 : Nat} (hc : c0 < 115) : np_C l D cI A t (1, 21) y_S_cellOf b_S_cellOf 1 (some .int) [.int (nI c0)] w (some (.int (nI (np_cel c0)))) w := by
  refine np_Ct.of (np_Sc_St _ _) (by decide) (Nat.le_of_ble_eq_true rfl) ?_
  intro p e s m below meth c C
  refine np_at (vs2 := [some (.int (nI c0))]) rfl ?_
  refine np_iload_n (pc := 0) C d_S_cellOf_0 rfl ?_
  refine np_iconst (pc := 1) (v := 4) C d_S_cellOf_1 (by decide) ?_
  refine np_icmp_ge (pc := 2) (tgt := 10) C (by omega) (by omega) d_S_cellOf_2 rfl (fun h2 => ?_) (fun h2 => ?_)
  · refine np_iload_n (pc := 10) C d_S_cellOf_10 rfl ?_
    refine np_bipush (pc := 11) (v := 12) C d_S_cellOf_11 (by decide) ?_
    refine np_icmp_ge (pc := 13) (tgt := 23) C (by omega) (by omega) d_S_cellOf_13 rfl (fun h13 => ?_) (fun h13 => ?_)
    · refine np_iload_n (pc := 23) C d_S_cellOf_23 rfl ?_
      refine np_bipush (pc := 24) (v := 12) C d_S_cellOf_24 (by decide) ?_
      refine np_icmp_ne (pc := 26) (tgt := 32) C (by omega) (by omega) d_S_cellOf_26 rfl (fun h26 => ?_) (fun h26 => ?_)
      · refine np_iload_n (pc := 32) C d_S_cellOf_32 rfl ?_
        refine np_bipush (pc := 33) (v := 13) C d_S_cellOf_33 (by decide) ?_
        refine np_icmp_ne (pc := 35) (tgt := 41) C (by omega) (by omega) d_S_cellOf_35 rfl (fun h35 => ?_) (fun h35 => ?_)
        · refine np_iload_n (pc := 41) C d_S_cellOf_41 rfl ?_
          refine np_bipush (pc := 42) (v := 41) C d_S_cellOf_42 (by decide) ?_
          refine np_icmp_ge (pc := 44) (tgt := 55) C (by omega) (by omega) d_S_cellOf_44 rfl (fun h44 => ?_) (fun h44 => ?_)
          · refine np_iload_n (pc := 55) C d_S_cellOf_55 rfl ?_
            refine np_bipush (pc := 56) (v := 85) C d_S_cellOf_56 (by decide) ?_
            refine np_icmp_ge (pc := 58) (tgt := 79) C (by omega) (by omega) d_S_cellOf_58 rfl (fun h58 => ?_) (fun h58 => ?_)
            · refine np_iload_n (pc := 79) C d_S_cellOf_79 rfl ?_
              refine np_bipush (pc := 80) (v := 112) C d_S_cellOf_80 (by decide) ?_
              refine np_icmp_ge (pc := 82) (tgt := 93) C (by omega) (by omega) d_S_cellOf_82 rfl (fun h82 => ?_) (fun h82 => ?_)
              · refine np_iconst (pc := 93) (v := 1) C d_S_cellOf_93 (by decide) ?_
                refine np_iload_n (pc := 94) C d_S_cellOf_94 rfl ?_
                refine np_iadd (pc := 95) C d_S_cellOf_95 ?_
                refine np_bipush (pc := 96) (v := 112) C d_S_cellOf_96 (by decide) ?_
                refine np_isub (pc := 98) C (by omega) d_S_cellOf_98 ?_
                exact np_iret (pc := 99) C d_S_cellOf_99 (by unfold np_cel; (repeat' split) <;> first | omega | rfl) (by rfl)
              · refine np_bipush (pc := 85) (v := 98) C d_S_cellOf_85 (by decide) ?_
                refine np_iload_n (pc := 87) C d_S_cellOf_87 rfl ?_
                refine np_iadd (pc := 88) C d_S_cellOf_88 ?_
                refine np_bipush (pc := 89) (v := 85) C d_S_cellOf_89 (by decide) ?_
                refine np_isub (pc := 91) C (by omega) d_S_cellOf_91 ?_
                exact np_iret (pc := 92) C d_S_cellOf_92 (by unfold np_cel; (repeat' split) <;> first | omega | rfl) (by rfl)
            · refine np_iload_n (pc := 61) C d_S_cellOf_61 rfl ?_
              refine np_bipush (pc := 62) (v := 41) C d_S_cellOf_62 (by decide) ?_
              refine np_isub (pc := 64) C (by omega) d_S_cellOf_64 ?_
              refine np_bipush (pc := 65) (v := 11) C d_S_cellOf_65 (by decide) ?_
              refine np_idiv (pc := 67) C (by omega) (by omega) (by omega) d_S_cellOf_67 ?_
              refine np_iload_n (pc := 68) C d_S_cellOf_68 rfl ?_
              refine np_bipush (pc := 69) (v := 41) C d_S_cellOf_69 (by decide) ?_
              refine np_isub (pc := 71) C (by omega) d_S_cellOf_71 ?_
              refine np_bipush (pc := 72) (v := 11) C d_S_cellOf_72 (by decide) ?_
              refine np_irem (pc := 74) C (by omega) (by omega) (by omega) d_S_cellOf_74 ?_
              refine np_cSi (pc := 75) C (c_S_cellOnLevel l D t (by omega) (by omega)) np_TS_good d_S_cellOf_75 m_170 m_168 m_4 m_169 hd_S_cellOnLevel (by decide) rfl rfl (Nat.le_of_ble_eq_true rfl) ?_
              exact np_iret (pc := 78) C d_S_cellOf_78 (by unfold np_cel; (repeat' split) <;> first | omega | rfl) (by rfl)
          · refine np_bipush (pc := 47) (v := 35) C d_S_cellOf_47 (by decide) ?_
            refine np_iload_n (pc := 49) C d_S_cellOf_49 rfl ?_
            refine np_iadd (pc := 50) C d_S_cellOf_50 ?_
            refine np_bipush (pc := 51) (v := 14) C d_S_cellOf_51 (by decide) ?_
            refine np_isub (pc := 53) C (by omega) d_S_cellOf_53 ?_
            exact np_iret (pc := 54) C d_S_cellOf_54 (by unfold np_cel; (repeat' split) <;> first | omega | rfl) (by rfl)
        · refine np_bipush (pc := 38) (v := 6) C d_S_cellOf_38 (by decide) ?_
          exact np_iret (pc := 40) C d_S_cellOf_40 (by unfold np_cel; (repeat' split) <;> first | omega | rfl) (by rfl)
      · refine np_bipush (pc := 29) (v := 9) C d_S_cellOf_29 (by decide) ?_
        exact np_iret (pc := 31) C d_S_cellOf_31 (by unfold np_cel; (repeat' split) <;> first | omega | rfl) (by rfl)
    · refine np_bipush (pc := 16) (v := 27) C d_S_cellOf_16 (by decide) ?_
      refine np_iload_n (pc := 18) C d_S_cellOf_18 rfl ?_
      refine np_iadd (pc := 19) C d_S_cellOf_19 ?_
      refine np_iconst (pc := 20) (v := 4) C d_S_cellOf_20 (by decide) ?_
      refine np_isub (pc := 21) C (by omega) d_S_cellOf_21 ?_
      exact np_iret (pc := 22) C d_S_cellOf_22 (by unfold np_cel; (repeat' split) <;> first | omega | rfl) (by rfl)
  · refine np_bipush (pc := 5) (v := 15) C d_S_cellOf_5 (by decide) ?_
    refine np_iload_n (pc := 7) C d_S_cellOf_7 rfl ?_
    refine np_iadd (pc := 8) C d_S_cellOf_8 ?_
    exact np_iret (pc := 9) C d_S_cellOf_9 (by unfold np_cel; (repeat' split) <;> first | omega | rfl) (by rfl)
set_option maxRecDepth 20000 in
set_option maxHeartbeats 4000000 in
theorem c_S_resultOf (l : Launch) (D : va_G) {cI : ClassId} (t : Nat → Nat) {a : Nat → Nat} (ha : np_inj a 12) {X : np_X} {b : Nat} (hb : b < 10) : np_C l D cI (np_ad a 12) t (0, 0) y_S_resultOf b_S_resultOf 2 (some .int) [.ref (a 10), .int (nI b)] (np_gw a cI X) (some (.int (nI (np_res (X 11) b)))) (np_gw a cI X) := by
  refine np_Ct.of (np_Sc_St _ _) (by decide) (Nat.le_of_ble_eq_true rfl) ?_
  intro p e s m below meth c C
  refine np_at (vs2 := [some (.ref (a 10)), some (.int (nI b))]) rfl ?_
  refine np_aload_n (pc := 0) C d_S_resultOf_0 rfl ?_
  refine np_get (pc := 1) C 10 0 d_S_resultOf_1 rfl rfl rfl (by decide) hin_S m_69 rfl ?_
  refine np_bipush (pc := 4) (v := 35) C d_S_resultOf_4 (by decide) ?_
  refine np_iload_n (pc := 6) C d_S_resultOf_6 rfl ?_
  refine np_bipush (pc := 7) (v := 9) C d_S_resultOf_7 (by decide) ?_
  refine np_imul (pc := 9) C d_S_resultOf_9 ?_
  refine np_iadd (pc := 10) C d_S_resultOf_10 ?_
  refine np_bipush (pc := 11) (v := 9) C d_S_resultOf_11 (by decide) ?_
  refine np_iadd (pc := 13) C d_S_resultOf_13 ?_
  refine np_iconst (pc := 14) (v := 1) C d_S_resultOf_14 (by decide) ?_
  refine np_isub (pc := 15) C (by omega) d_S_resultOf_15 ?_
  refine np_iald (pc := 16) C 11 d_S_resultOf_16 rfl (by omega) (by decide) ?_
  exact np_iret (pc := 17) C d_S_resultOf_17 (by first | omega | rfl | (repeat' split) <;> omega) (by rfl)
set_option maxRecDepth 20000 in
set_option maxHeartbeats 4000000 in
theorem c_S_dueLeft (l : Launch) (D : va_G) {cI : ClassId} (t : Nat → Nat) {a : Nat → Nat} (ha : np_inj a 12) {X : np_X} {v : Nat} (hv : v < 4) (hc : np_ok (X 11)) : np_C l D cI (np_ad a 12) t (1, 21) y_S_dueLeft b_S_dueLeft 4 (some .int) [.ref (a 10), .int (nI v)] (np_gw a cI X) (some (.int (nI (np_lft (X 11) v)))) (np_gw a cI X) := by
  refine np_Ct.of (np_Sc_St _ _) (by decide) (Nat.le_of_ble_eq_true rfl) ?_
  intro p e s m below meth c C
  refine np_at (vs2 := [some (.ref (a 10)), some (.int (nI v)), none, none]) rfl ?_
  refine np_aload_n (pc := 0) C d_S_dueLeft_0 rfl ?_
  refine np_iconst (pc := 1) (v := 2) C d_S_dueLeft_1 (by decide) ?_
  refine np_iload_n (pc := 2) C d_S_dueLeft_2 rfl ?_
  refine np_iadd (pc := 3) C d_S_dueLeft_3 ?_
  refine np_cVi (pc := 4) C 10 (c_S_resultOf l D t ha (by omega)) np_TS_good d_S_dueLeft_4 rfl rfl m_193 m_190 m_4 m_192 ms_S_resultOf hd_S_resultOf (by decide) rfl rfl (Nat.le_of_ble_eq_true rfl) ?_
  refine np_istore_n (pc := 7) C d_S_dueLeft_7 (by decide) rfl ?_
  refine np_aload_n (pc := 8) C d_S_dueLeft_8 rfl ?_
  refine np_get (pc := 9) C 10 0 d_S_dueLeft_9 rfl rfl rfl (by decide) hin_S m_69 rfl ?_
  refine np_bipush (pc := 12) (v := 11) C d_S_dueLeft_12 (by decide) ?_
  refine np_iload_n (pc := 14) C d_S_dueLeft_14 rfl ?_
  refine np_iadd (pc := 15) C d_S_dueLeft_15 ?_
  refine np_iald (pc := 16) C 11 d_S_dueLeft_16 rfl (by omega) (by decide) ?_
  refine np_iload_n (pc := 17) C d_S_dueLeft_17 rfl ?_
  refine np_cSNi (pc := 18) C (c_P_difference l D t (hc _) (hc _)) np_TS_good d_S_dueLeft_18 m_196 (C.2.2.1.1 _ n_8) m_1 m_195 hd_P_difference (by decide) rfl rfl (Nat.le_of_ble_eq_true rfl) ?_
  refine np_istore_n (pc := 21) C d_S_dueLeft_21 (by decide) rfl ?_
  refine np_iload_n (pc := 22) C d_S_dueLeft_22 rfl ?_
  refine np_aload_n (pc := 23) C d_S_dueLeft_23 rfl ?_
  refine np_get (pc := 24) C 10 0 d_S_dueLeft_24 rfl rfl rfl (by decide) hin_S m_69 rfl ?_
  refine np_bipush (pc := 27) (v := 15) C d_S_dueLeft_27 (by decide) ?_
  refine np_iload_n (pc := 29) C d_S_dueLeft_29 rfl ?_
  refine np_iadd (pc := 30) C d_S_dueLeft_30 ?_
  refine np_iald (pc := 31) C 11 d_S_dueLeft_31 rfl (by omega) (by decide) ?_
  refine np_iload_n (pc := 32) C d_S_dueLeft_32 rfl ?_
  refine np_cSNi (pc := 33) C (c_P_product l D t (hc _) (np_df_lt _ _)) np_TS_good d_S_dueLeft_33 m_35 (C.2.2.1.1 _ n_7) m_1 m_34 hd_P_product (by decide) rfl rfl (Nat.le_of_ble_eq_true rfl) ?_
  refine np_cSNi (pc := 36) C (c_P_sum l D t (hc _) (np_pr_lt _ _)) np_TS_good d_S_dueLeft_36 m_31 (C.2.2.1.1 _ n_5) m_1 m_30 hd_P_sum (by decide) rfl rfl (Nat.le_of_ble_eq_true rfl) ?_
  exact np_iret (pc := 39) C d_S_dueLeft_39 (by first | omega | rfl | (repeat' split) <;> omega) (by rfl)
set_option maxRecDepth 20000 in
set_option maxHeartbeats 4000000 in
theorem c_S_dueRight (l : Launch) (D : va_G) {cI : ClassId} (t : Nat → Nat) {a : Nat → Nat} (ha : np_inj a 12) {X : np_X} {v : Nat} (hv : v < 4) (hc : np_ok (X 11)) : np_C l D cI (np_ad a 12) t (1, 21) y_S_dueRight b_S_dueRight 3 (some .int) [.ref (a 10), .int (nI v)] (np_gw a cI X) (some (.int (nI (np_rgt (X 11) v)))) (np_gw a cI X) := by
  refine np_Ct.of (np_Sc_St _ _) (by decide) (Nat.le_of_ble_eq_true rfl) ?_
  intro p e s m below meth c C
  refine np_at (vs2 := [some (.ref (a 10)), some (.int (nI v)), none]) rfl ?_
  refine np_aload_n (pc := 0) C d_S_dueRight_0 rfl ?_
  refine np_iconst (pc := 1) (v := 2) C d_S_dueRight_1 (by decide) ?_
  refine np_iload_n (pc := 2) C d_S_dueRight_2 rfl ?_
  refine np_iadd (pc := 3) C d_S_dueRight_3 ?_
  refine np_cVi (pc := 4) C 10 (c_S_resultOf l D t ha (by omega)) np_TS_good d_S_dueRight_4 rfl rfl m_193 m_190 m_4 m_192 ms_S_resultOf hd_S_resultOf (by decide) rfl rfl (Nat.le_of_ble_eq_true rfl) ?_
  refine np_aload_n (pc := 7) C d_S_dueRight_7 rfl ?_
  refine np_get (pc := 8) C 10 0 d_S_dueRight_8 rfl rfl rfl (by decide) hin_S m_69 rfl ?_
  refine np_bipush (pc := 11) (v := 11) C d_S_dueRight_11 (by decide) ?_
  refine np_iload_n (pc := 13) C d_S_dueRight_13 rfl ?_
  refine np_iadd (pc := 14) C d_S_dueRight_14 ?_
  refine np_iald (pc := 15) C 11 d_S_dueRight_15 rfl (by omega) (by decide) ?_
  refine np_cSNi (pc := 16) C (c_P_sum l D t (hc _) (hc _)) np_TS_good d_S_dueRight_16 m_31 (C.2.2.1.1 _ n_5) m_1 m_30 hd_P_sum (by decide) rfl rfl (Nat.le_of_ble_eq_true rfl) ?_
  refine np_istore_n (pc := 19) C d_S_dueRight_19 (by decide) rfl ?_
  refine np_iload_n (pc := 20) C d_S_dueRight_20 rfl ?_
  refine np_aload_n (pc := 21) C d_S_dueRight_21 rfl ?_
  refine np_get (pc := 22) C 10 0 d_S_dueRight_22 rfl rfl rfl (by decide) hin_S m_69 rfl ?_
  refine np_bipush (pc := 25) (v := 19) C d_S_dueRight_25 (by decide) ?_
  refine np_iload_n (pc := 27) C d_S_dueRight_27 rfl ?_
  refine np_iadd (pc := 28) C d_S_dueRight_28 ?_
  refine np_iald (pc := 29) C 11 d_S_dueRight_29 rfl (by omega) (by decide) ?_
  refine np_cSNi (pc := 30) C (c_P_difference l D t (np_sm_lt _ _) (hc _)) np_TS_good d_S_dueRight_30 m_196 (C.2.2.1.1 _ n_8) m_1 m_195 hd_P_difference (by decide) rfl rfl (Nat.le_of_ble_eq_true rfl) ?_
  exact np_iret (pc := 33) C d_S_dueRight_33 (by first | omega | rfl | (repeat' split) <;> omega) (by rfl)
set_option maxRecDepth 20000 in
set_option maxHeartbeats 4000000 in
theorem c_S_sumOfBits (l : Launch) (D : va_G) {cI : ClassId} (t : Nat → Nat) {a : Nat → Nat} (ha : np_inj a 12) {X : np_X} (hc : np_ok (X 11)) : np_C l D cI (np_ad a 12) t (1, 21) y_S_sumOfBits b_S_sumOfBits 3 (some .int) [.ref (a 10)] (np_gw a cI X) (some (.int (nI (np_sbt (X 11) 8)))) (np_gw a cI X) := by
  refine np_Ct.of (np_Sc_St _ _) (by decide) (Nat.le_of_ble_eq_true rfl) ?_
  intro p e s m below meth c C
  refine np_at (vs2 := [some (.ref (a 10)), none, none]) rfl ?_
  have loop : ∀ (n k : Nat), k + n = 8 → np_V p l e (np_rm (1, 21)) s m ([.ref (a 10)] : List Value).toArray below meth c 0 0 D np_cls (np_ad a 12) (MQ below (np_Qc D np_cls (np_ad a 12) (some (.int (nI (np_sbt (X 11) 8)))) (np_gw a cI X)) ([.ref (a 10)] : List Value).toArray s 0 0 (np_ad a 12)) 3 (np_gw a cI X) 4 [some (.ref (a 10)), some (.int (nI (np_sbt (X 11) k))), some (.int (nI k))] [] := by
    intro n
    induction n with
    | zero =>
      intro k hk
      obtain rfl : k = 8 := by omega
      refine np_iload_n (pc := 4) C d_S_sumOfBits_4 rfl ?_
      refine np_bipush (pc := 5) (v := 8) C d_S_sumOfBits_5 (by decide) ?_
      refine np_icmp_ge (pc := 7) (tgt := 36) C (by omega) (by omega) d_S_sumOfBits_7 rfl (fun h7 => ?_) (fun h7 => ?_)
      · refine np_iload_n (pc := 36) C d_S_sumOfBits_36 rfl ?_
        exact np_iret (pc := 37) C d_S_sumOfBits_37 (by first | omega | rfl | (repeat' split) <;> omega) (by rfl)
      · exfalso; omega
    | succ n ih =>
      intro k hk
      have hp := np_p8 (show k < 8 by omega)
      refine np_iload_n (pc := 4) C d_S_sumOfBits_4 rfl ?_
      refine np_bipush (pc := 5) (v := 8) C d_S_sumOfBits_5 (by decide) ?_
      refine np_icmp_ge (pc := 7) (tgt := 36) C (by omega) (by omega) d_S_sumOfBits_7 rfl (fun h7 => ?_) (fun h7 => ?_)
      · exfalso; omega
      · refine np_iload_n (pc := 10) C d_S_sumOfBits_10 rfl ?_
        refine np_iconst (pc := 11) (v := 1) C d_S_sumOfBits_11 (by decide) ?_
        refine np_iload_n (pc := 12) C d_S_sumOfBits_12 rfl ?_
        refine np_ishl (pc := 13) C (by omega) (by omega) d_S_sumOfBits_13 ?_
        refine np_aload_n (pc := 14) C d_S_sumOfBits_14 rfl ?_
        refine np_get (pc := 15) C 10 0 d_S_sumOfBits_15 rfl rfl rfl (by decide) hin_S m_69 rfl ?_
        refine np_bipush (pc := 18) (v := 27) C d_S_sumOfBits_18 (by decide) ?_
        refine np_iload_n (pc := 20) C d_S_sumOfBits_20 rfl ?_
        refine np_iadd (pc := 21) C d_S_sumOfBits_21 ?_
        refine np_iald (pc := 22) C 11 d_S_sumOfBits_22 rfl (by omega) (by decide) ?_
        refine np_cSNi (pc := 23) C (c_P_product l D t (show 1 * 2 ^ k < 65537 by omega) (hc _)) np_TS_good d_S_sumOfBits_23 m_35 (C.2.2.1.1 _ n_7) m_1 m_34 hd_P_product (by decide) rfl rfl (Nat.le_of_ble_eq_true rfl) ?_
        refine np_cSNi (pc := 26) C (c_P_sum l D t (np_sbt_lt _ _) (np_pr_lt _ _)) np_TS_good d_S_sumOfBits_26 m_31 (C.2.2.1.1 _ n_5) m_1 m_30 hd_P_sum (by decide) rfl rfl (Nat.le_of_ble_eq_true rfl) ?_
        refine np_istore_n (pc := 29) C d_S_sumOfBits_29 (by decide) rfl ?_
        refine np_iinc (pc := 30) C d_S_sumOfBits_30 rfl (np_inc1 _) (by decide) rfl ?_
        refine np_goto (pc := 33) (tgt := 4) C d_S_sumOfBits_33 rfl ?_
        refine np_at (vs2 := [some (.ref (a 10)), some (.int (nI (np_sbt (X 11) (k + 1)))), some (.int (nI (k + 1)))]) rfl ?_
        exact ih (k + 1) (by omega)
  refine np_iconst (pc := 0) (v := 0) C d_S_sumOfBits_0 (by decide) ?_
  refine np_istore_n (pc := 1) C d_S_sumOfBits_1 (by decide) rfl ?_
  refine np_iconst (pc := 2) (v := 0) C d_S_sumOfBits_2 (by decide) ?_
  refine np_istore_n (pc := 3) C d_S_sumOfBits_3 (by decide) rfl ?_
  refine np_at (vs2 := [some (.ref (a 10)), some (.int (nI (np_sbt (X 11) 0))), some (.int (nI 0))]) rfl ?_
  exact loop 8 0 rfl
set_option maxRecDepth 20000 in
set_option maxHeartbeats 4000000 in
theorem c_S_dueInBlock (l : Launch) (D : va_G) {cI : ClassId} (t : Nat → Nat) {a : Nat → Nat} (ha : np_inj a 12) {X : np_X} {b z : Nat} (hb : b < 10) (hz : z < 9) (hc : np_ok (X 11)) : np_C l D cI (np_ad a 12) t (1, 21) y_S_dueInBlock b_S_dueInBlock 9 (some .int) [.ref (a 10), .int (nI b), .int (nI z)] (np_gw a cI X) (some (.int (nI (np_blk (X 11) b z)))) (np_gw a cI X) := by
  refine np_Ct.of (np_Sc_St _ _) (by decide) (Nat.le_of_ble_eq_true rfl) ?_
  intro p e s m below meth c C
  refine np_at (vs2 := [some (.ref (a 10)), some (.int (nI b)), some (.int (nI z)), none, none, none, none, none, none]) rfl ?_
  refine np_bipush (pc := 0) (v := 35) C d_S_dueInBlock_0 (by decide) ?_
  refine np_iload_n (pc := 2) C d_S_dueInBlock_2 rfl ?_
  refine np_bipush (pc := 3) (v := 9) C d_S_dueInBlock_3 (by decide) ?_
  refine np_imul (pc := 5) C d_S_dueInBlock_5 ?_
  refine np_iadd (pc := 6) C d_S_dueInBlock_6 ?_
  refine np_istore_n (pc := 7) C d_S_dueInBlock_7 (by decide) rfl ?_
  refine np_aload_n (pc := 8) C d_S_dueInBlock_8 rfl ?_
  refine np_get (pc := 9) C 10 0 d_S_dueInBlock_9 rfl rfl rfl (by decide) hin_S m_69 rfl ?_
  refine np_gets (pc := 12) C C.2.2.1.2.2.1.1 m_179 rfl d_S_dueInBlock_12 ?_
  refine np_iload_n (pc := 15) C d_S_dueInBlock_15 rfl ?_
  refine np_tald (pc := 16) C C.2.2.1.2.2.1.2 (by omega) (by decide) d_S_dueInBlock_16 ?_
  refine np_iald (pc := 17) C 11 d_S_dueInBlock_17 rfl (by have := np_fi_lt hb; omega) (by decide) ?_
  refine np_istore (pc := 18) C d_S_dueInBlock_18 (by decide) rfl ?_
  refine np_iload_n (pc := 20) C d_S_dueInBlock_20 rfl ?_
  refine np_if_ne (pc := 21) (tgt := 28) C (by omega) d_S_dueInBlock_21 rfl (fun h21 => ?_) (fun h21 => ?_)
  · refine np_aload_n (pc := 28) C d_S_dueInBlock_28 rfl ?_
    refine np_get (pc := 29) C 10 0 d_S_dueInBlock_29 rfl rfl rfl (by decide) hin_S m_69 rfl ?_
    refine np_gets (pc := 32) C C.2.2.1.2.2.2.1 m_181 rfl d_S_dueInBlock_32 ?_
    refine np_iload_n (pc := 35) C d_S_dueInBlock_35 rfl ?_
    refine np_tald (pc := 36) C C.2.2.1.2.2.2.2 (by omega) (by decide) d_S_dueInBlock_36 ?_
    refine np_iald (pc := 37) C 11 d_S_dueInBlock_37 rfl (by have := np_se_lt hb h21; omega) (by decide) ?_
    refine np_istore (pc := 38) C d_S_dueInBlock_38 (by decide) rfl ?_
    refine np_iload_n (pc := 40) C d_S_dueInBlock_40 rfl ?_
    refine np_bipush (pc := 41) (v := 8) C d_S_dueInBlock_41 (by decide) ?_
    refine np_icmp_ne (pc := 43) (tgt := 67) C (by omega) (by omega) d_S_dueInBlock_43 rfl (fun h43 => ?_) (fun h43 => ?_)
    · refine np_iload_n (pc := 67) C d_S_dueInBlock_67 rfl ?_
      refine np_iconst (pc := 68) (v := 2) C d_S_dueInBlock_68 (by decide) ?_
      refine np_idiv (pc := 69) C (by omega) (by omega) (by omega) d_S_dueInBlock_69 ?_
      refine np_istore (pc := 70) C d_S_dueInBlock_70 (by decide) rfl ?_
      refine np_iload (pc := 72) C d_S_dueInBlock_72 rfl ?_
      refine np_if_ne (pc := 74) (tgt := 82) C (by omega) d_S_dueInBlock_74 rfl (fun h74 => ?_) (fun h74 => ?_)
      · refine np_aload_n (pc := 82) C d_S_dueInBlock_82 rfl ?_
        refine np_get (pc := 83) C 10 0 d_S_dueInBlock_83 rfl rfl rfl (by decide) hin_S m_69 rfl ?_
        refine np_iload_n (pc := 86) C d_S_dueInBlock_86 rfl ?_
        refine np_iconst (pc := 87) (v := 2) C d_S_dueInBlock_87 (by decide) ?_
        refine np_iload (pc := 88) C d_S_dueInBlock_88 rfl ?_
        refine np_imul (pc := 90) C d_S_dueInBlock_90 ?_
        refine np_iadd (pc := 91) C d_S_dueInBlock_91 ?_
        refine np_iconst (pc := 92) (v := 1) C d_S_dueInBlock_92 (by decide) ?_
        refine np_isub (pc := 93) C (by omega) d_S_dueInBlock_93 ?_
        refine np_iald (pc := 94) C 11 d_S_dueInBlock_94 rfl (by omega) (by decide) ?_
        refine np_istore (pc := 95) C d_S_dueInBlock_95 (by decide) rfl ?_
        refine np_iload (pc := 97) C d_S_dueInBlock_97 rfl ?_
        refine np_iload (pc := 99) C d_S_dueInBlock_99 rfl ?_
        refine np_cSNi (pc := 101) C (c_P_sum l D t (by first | exact hc _ | decide) (by first | exact hc _ | decide)) np_TS_good d_S_dueInBlock_101 m_31 (C.2.2.1.1 _ n_5) m_1 m_30 hd_P_sum (by decide) rfl rfl (Nat.le_of_ble_eq_true rfl) ?_
        refine np_getsN (pc := 104) C C.2.2.1.2.1.1 (C.2.2.1.1 _ n_6) rfl d_S_dueInBlock_104 ?_
        refine np_iload (pc := 107) C d_S_dueInBlock_107 rfl ?_
        refine np_tald (pc := 109) C C.2.2.1.2.1.2 (by omega) (by decide) d_S_dueInBlock_109 ?_
        refine np_cSNi (pc := 110) C (c_P_sum l D t (np_sm_lt _ _) (np_sa_lt _)) np_TS_good d_S_dueInBlock_110 m_31 (C.2.2.1.1 _ n_5) m_1 m_30 hd_P_sum (by decide) rfl rfl (Nat.le_of_ble_eq_true rfl) ?_
        refine np_istore (pc := 113) C d_S_dueInBlock_113 (by decide) rfl ?_
        refine np_iload_n (pc := 115) C d_S_dueInBlock_115 rfl ?_
        refine np_iconst (pc := 116) (v := 2) C d_S_dueInBlock_116 (by decide) ?_
        refine np_irem (pc := 117) C (by omega) (by omega) (by omega) d_S_dueInBlock_117 ?_
        refine np_if_ne (pc := 118) (tgt := 126) C (by omega) d_S_dueInBlock_118 rfl (fun h118 => ?_) (fun h118 => ?_)
        · refine np_aload_n (pc := 126) C d_S_dueInBlock_126 rfl ?_
          refine np_get (pc := 127) C 10 0 d_S_dueInBlock_127 rfl rfl rfl (by decide) hin_S m_69 rfl ?_
          refine np_iload_n (pc := 130) C d_S_dueInBlock_130 rfl ?_
          refine np_iload_n (pc := 131) C d_S_dueInBlock_131 rfl ?_
          refine np_iadd (pc := 132) C d_S_dueInBlock_132 ?_
          refine np_iconst (pc := 133) (v := 1) C d_S_dueInBlock_133 (by decide) ?_
          refine np_isub (pc := 134) C (by omega) d_S_dueInBlock_134 ?_
          refine np_iald (pc := 135) C 11 d_S_dueInBlock_135 rfl (by omega) (by decide) ?_
          refine np_iload (pc := 136) C d_S_dueInBlock_136 rfl ?_
          refine np_cSNi (pc := 138) C (c_P_product l D t (by first | exact hc _ | exact np_sm_lt _ _) (np_sm_lt _ _)) np_TS_good d_S_dueInBlock_138 m_35 (C.2.2.1.1 _ n_7) m_1 m_34 hd_P_product (by decide) rfl rfl (Nat.le_of_ble_eq_true rfl) ?_
          exact np_iret (pc := 141) C d_S_dueInBlock_141 (by simp only [np_blk, np_bas, np_bef, np_inB, np_inA, h21, h43, h74, h118, if_true, if_false, ne_eq, not_false_eq_true, ↓reduceIte]) (by rfl)
        · refine np_iload (pc := 121) C d_S_dueInBlock_121 rfl ?_
          refine np_goto (pc := 123) (tgt := 136) C d_S_dueInBlock_123 rfl ?_
          refine np_iload (pc := 136) C d_S_dueInBlock_136 rfl ?_
          refine np_cSNi (pc := 138) C (c_P_product l D t (by first | exact hc _ | exact np_sm_lt _ _) (np_sm_lt _ _)) np_TS_good d_S_dueInBlock_138 m_35 (C.2.2.1.1 _ n_7) m_1 m_34 hd_P_product (by decide) rfl rfl (Nat.le_of_ble_eq_true rfl) ?_
          exact np_iret (pc := 141) C d_S_dueInBlock_141 (by simp only [np_blk, np_bas, np_bef, np_inB, np_inA, h21, h43, h74, h118, if_true, if_false, ne_eq, not_false_eq_true, ↓reduceIte]) (by rfl)
      · refine np_iload (pc := 77) C d_S_dueInBlock_77 rfl ?_
        refine np_goto (pc := 79) (tgt := 95) C d_S_dueInBlock_79 rfl ?_
        refine np_istore (pc := 95) C d_S_dueInBlock_95 (by decide) rfl ?_
        refine np_iload (pc := 97) C d_S_dueInBlock_97 rfl ?_
        refine np_iload (pc := 99) C d_S_dueInBlock_99 rfl ?_
        refine np_cSNi (pc := 101) C (c_P_sum l D t (by first | exact hc _ | decide) (by first | exact hc _ | decide)) np_TS_good d_S_dueInBlock_101 m_31 (C.2.2.1.1 _ n_5) m_1 m_30 hd_P_sum (by decide) rfl rfl (Nat.le_of_ble_eq_true rfl) ?_
        refine np_getsN (pc := 104) C C.2.2.1.2.1.1 (C.2.2.1.1 _ n_6) rfl d_S_dueInBlock_104 ?_
        refine np_iload (pc := 107) C d_S_dueInBlock_107 rfl ?_
        refine np_tald (pc := 109) C C.2.2.1.2.1.2 (by omega) (by decide) d_S_dueInBlock_109 ?_
        refine np_cSNi (pc := 110) C (c_P_sum l D t (np_sm_lt _ _) (np_sa_lt _)) np_TS_good d_S_dueInBlock_110 m_31 (C.2.2.1.1 _ n_5) m_1 m_30 hd_P_sum (by decide) rfl rfl (Nat.le_of_ble_eq_true rfl) ?_
        refine np_istore (pc := 113) C d_S_dueInBlock_113 (by decide) rfl ?_
        refine np_iload_n (pc := 115) C d_S_dueInBlock_115 rfl ?_
        refine np_iconst (pc := 116) (v := 2) C d_S_dueInBlock_116 (by decide) ?_
        refine np_irem (pc := 117) C (by omega) (by omega) (by omega) d_S_dueInBlock_117 ?_
        refine np_if_ne (pc := 118) (tgt := 126) C (by omega) d_S_dueInBlock_118 rfl (fun h118 => ?_) (fun h118 => ?_)
        · refine np_aload_n (pc := 126) C d_S_dueInBlock_126 rfl ?_
          refine np_get (pc := 127) C 10 0 d_S_dueInBlock_127 rfl rfl rfl (by decide) hin_S m_69 rfl ?_
          refine np_iload_n (pc := 130) C d_S_dueInBlock_130 rfl ?_
          refine np_iload_n (pc := 131) C d_S_dueInBlock_131 rfl ?_
          refine np_iadd (pc := 132) C d_S_dueInBlock_132 ?_
          refine np_iconst (pc := 133) (v := 1) C d_S_dueInBlock_133 (by decide) ?_
          refine np_isub (pc := 134) C (by omega) d_S_dueInBlock_134 ?_
          refine np_iald (pc := 135) C 11 d_S_dueInBlock_135 rfl (by omega) (by decide) ?_
          refine np_iload (pc := 136) C d_S_dueInBlock_136 rfl ?_
          refine np_cSNi (pc := 138) C (c_P_product l D t (by first | exact hc _ | exact np_sm_lt _ _) (np_sm_lt _ _)) np_TS_good d_S_dueInBlock_138 m_35 (C.2.2.1.1 _ n_7) m_1 m_34 hd_P_product (by decide) rfl rfl (Nat.le_of_ble_eq_true rfl) ?_
          exact np_iret (pc := 141) C d_S_dueInBlock_141 (by simp only [np_blk, np_bas, np_bef, np_inB, np_inA, h21, h43, h74, h118, if_true, if_false, ne_eq, not_false_eq_true, ↓reduceIte]) (by rfl)
        · refine np_iload (pc := 121) C d_S_dueInBlock_121 rfl ?_
          refine np_goto (pc := 123) (tgt := 136) C d_S_dueInBlock_123 rfl ?_
          refine np_iload (pc := 136) C d_S_dueInBlock_136 rfl ?_
          refine np_cSNi (pc := 138) C (c_P_product l D t (by first | exact hc _ | exact np_sm_lt _ _) (np_sm_lt _ _)) np_TS_good d_S_dueInBlock_138 m_35 (C.2.2.1.1 _ n_7) m_1 m_34 hd_P_product (by decide) rfl rfl (Nat.le_of_ble_eq_true rfl) ?_
          exact np_iret (pc := 141) C d_S_dueInBlock_141 (by simp only [np_blk, np_bas, np_bef, np_inB, np_inA, h21, h43, h74, h118, if_true, if_false, ne_eq, not_false_eq_true, ↓reduceIte]) (by rfl)
    · refine np_aload_n (pc := 46) C d_S_dueInBlock_46 rfl ?_
      refine np_get (pc := 47) C 10 0 d_S_dueInBlock_47 rfl rfl rfl (by decide) hin_S m_69 rfl ?_
      refine np_iload_n (pc := 50) C d_S_dueInBlock_50 rfl ?_
      refine np_iload_n (pc := 51) C d_S_dueInBlock_51 rfl ?_
      refine np_iadd (pc := 52) C d_S_dueInBlock_52 ?_
      refine np_iconst (pc := 53) (v := 1) C d_S_dueInBlock_53 (by decide) ?_
      refine np_isub (pc := 54) C (by omega) d_S_dueInBlock_54 ?_
      refine np_iald (pc := 55) C 11 d_S_dueInBlock_55 rfl (by omega) (by decide) ?_
      refine np_iload (pc := 56) C d_S_dueInBlock_56 rfl ?_
      refine np_cSNi (pc := 58) C (c_P_sum l D t (hc _) (hc _)) np_TS_good d_S_dueInBlock_58 m_31 (C.2.2.1.1 _ n_5) m_1 m_30 hd_P_sum (by decide) rfl rfl (Nat.le_of_ble_eq_true rfl) ?_
      refine np_iload (pc := 61) C d_S_dueInBlock_61 rfl ?_
      refine np_cSNi (pc := 63) C (c_P_sum l D t (np_sm_lt _ _) (by first | exact hc _ | decide)) np_TS_good d_S_dueInBlock_63 m_31 (C.2.2.1.1 _ n_5) m_1 m_30 hd_P_sum (by decide) rfl rfl (Nat.le_of_ble_eq_true rfl) ?_
      exact np_iret (pc := 66) C d_S_dueInBlock_66 (by simp only [np_blk, np_bas, np_bef, np_inB, np_inA, h21, h43, if_true, if_false, ne_eq, not_false_eq_true, ↓reduceIte]) (by rfl)
  · refine np_iconst (pc := 24) (v := 0) C d_S_dueInBlock_24 (by decide) ?_
    refine np_goto (pc := 25) (tgt := 38) C d_S_dueInBlock_25 rfl ?_
    refine np_istore (pc := 38) C d_S_dueInBlock_38 (by decide) rfl ?_
    refine np_iload_n (pc := 40) C d_S_dueInBlock_40 rfl ?_
    refine np_bipush (pc := 41) (v := 8) C d_S_dueInBlock_41 (by decide) ?_
    refine np_icmp_ne (pc := 43) (tgt := 67) C (by omega) (by omega) d_S_dueInBlock_43 rfl (fun h43 => ?_) (fun h43 => ?_)
    · refine np_iload_n (pc := 67) C d_S_dueInBlock_67 rfl ?_
      refine np_iconst (pc := 68) (v := 2) C d_S_dueInBlock_68 (by decide) ?_
      refine np_idiv (pc := 69) C (by omega) (by omega) (by omega) d_S_dueInBlock_69 ?_
      refine np_istore (pc := 70) C d_S_dueInBlock_70 (by decide) rfl ?_
      refine np_iload (pc := 72) C d_S_dueInBlock_72 rfl ?_
      refine np_if_ne (pc := 74) (tgt := 82) C (by omega) d_S_dueInBlock_74 rfl (fun h74 => ?_) (fun h74 => ?_)
      · refine np_aload_n (pc := 82) C d_S_dueInBlock_82 rfl ?_
        refine np_get (pc := 83) C 10 0 d_S_dueInBlock_83 rfl rfl rfl (by decide) hin_S m_69 rfl ?_
        refine np_iload_n (pc := 86) C d_S_dueInBlock_86 rfl ?_
        refine np_iconst (pc := 87) (v := 2) C d_S_dueInBlock_87 (by decide) ?_
        refine np_iload (pc := 88) C d_S_dueInBlock_88 rfl ?_
        refine np_imul (pc := 90) C d_S_dueInBlock_90 ?_
        refine np_iadd (pc := 91) C d_S_dueInBlock_91 ?_
        refine np_iconst (pc := 92) (v := 1) C d_S_dueInBlock_92 (by decide) ?_
        refine np_isub (pc := 93) C (by omega) d_S_dueInBlock_93 ?_
        refine np_iald (pc := 94) C 11 d_S_dueInBlock_94 rfl (by omega) (by decide) ?_
        refine np_istore (pc := 95) C d_S_dueInBlock_95 (by decide) rfl ?_
        refine np_iload (pc := 97) C d_S_dueInBlock_97 rfl ?_
        refine np_iload (pc := 99) C d_S_dueInBlock_99 rfl ?_
        refine np_cSNi (pc := 101) C (c_P_sum l D t (by first | exact hc _ | decide) (by first | exact hc _ | decide)) np_TS_good d_S_dueInBlock_101 m_31 (C.2.2.1.1 _ n_5) m_1 m_30 hd_P_sum (by decide) rfl rfl (Nat.le_of_ble_eq_true rfl) ?_
        refine np_getsN (pc := 104) C C.2.2.1.2.1.1 (C.2.2.1.1 _ n_6) rfl d_S_dueInBlock_104 ?_
        refine np_iload (pc := 107) C d_S_dueInBlock_107 rfl ?_
        refine np_tald (pc := 109) C C.2.2.1.2.1.2 (by omega) (by decide) d_S_dueInBlock_109 ?_
        refine np_cSNi (pc := 110) C (c_P_sum l D t (np_sm_lt _ _) (np_sa_lt _)) np_TS_good d_S_dueInBlock_110 m_31 (C.2.2.1.1 _ n_5) m_1 m_30 hd_P_sum (by decide) rfl rfl (Nat.le_of_ble_eq_true rfl) ?_
        refine np_istore (pc := 113) C d_S_dueInBlock_113 (by decide) rfl ?_
        refine np_iload_n (pc := 115) C d_S_dueInBlock_115 rfl ?_
        refine np_iconst (pc := 116) (v := 2) C d_S_dueInBlock_116 (by decide) ?_
        refine np_irem (pc := 117) C (by omega) (by omega) (by omega) d_S_dueInBlock_117 ?_
        refine np_if_ne (pc := 118) (tgt := 126) C (by omega) d_S_dueInBlock_118 rfl (fun h118 => ?_) (fun h118 => ?_)
        · refine np_aload_n (pc := 126) C d_S_dueInBlock_126 rfl ?_
          refine np_get (pc := 127) C 10 0 d_S_dueInBlock_127 rfl rfl rfl (by decide) hin_S m_69 rfl ?_
          refine np_iload_n (pc := 130) C d_S_dueInBlock_130 rfl ?_
          refine np_iload_n (pc := 131) C d_S_dueInBlock_131 rfl ?_
          refine np_iadd (pc := 132) C d_S_dueInBlock_132 ?_
          refine np_iconst (pc := 133) (v := 1) C d_S_dueInBlock_133 (by decide) ?_
          refine np_isub (pc := 134) C (by omega) d_S_dueInBlock_134 ?_
          refine np_iald (pc := 135) C 11 d_S_dueInBlock_135 rfl (by omega) (by decide) ?_
          refine np_iload (pc := 136) C d_S_dueInBlock_136 rfl ?_
          refine np_cSNi (pc := 138) C (c_P_product l D t (by first | exact hc _ | exact np_sm_lt _ _) (np_sm_lt _ _)) np_TS_good d_S_dueInBlock_138 m_35 (C.2.2.1.1 _ n_7) m_1 m_34 hd_P_product (by decide) rfl rfl (Nat.le_of_ble_eq_true rfl) ?_
          exact np_iret (pc := 141) C d_S_dueInBlock_141 (by simp only [np_blk, np_bas, np_bef, np_inB, np_inA, h21, h43, h74, h118, if_true, if_false, ne_eq, not_false_eq_true, ↓reduceIte]) (by rfl)
        · refine np_iload (pc := 121) C d_S_dueInBlock_121 rfl ?_
          refine np_goto (pc := 123) (tgt := 136) C d_S_dueInBlock_123 rfl ?_
          refine np_iload (pc := 136) C d_S_dueInBlock_136 rfl ?_
          refine np_cSNi (pc := 138) C (c_P_product l D t (by first | exact hc _ | exact np_sm_lt _ _) (np_sm_lt _ _)) np_TS_good d_S_dueInBlock_138 m_35 (C.2.2.1.1 _ n_7) m_1 m_34 hd_P_product (by decide) rfl rfl (Nat.le_of_ble_eq_true rfl) ?_
          exact np_iret (pc := 141) C d_S_dueInBlock_141 (by simp only [np_blk, np_bas, np_bef, np_inB, np_inA, h21, h43, h74, h118, if_true, if_false, ne_eq, not_false_eq_true, ↓reduceIte]) (by rfl)
      · refine np_iload (pc := 77) C d_S_dueInBlock_77 rfl ?_
        refine np_goto (pc := 79) (tgt := 95) C d_S_dueInBlock_79 rfl ?_
        refine np_istore (pc := 95) C d_S_dueInBlock_95 (by decide) rfl ?_
        refine np_iload (pc := 97) C d_S_dueInBlock_97 rfl ?_
        refine np_iload (pc := 99) C d_S_dueInBlock_99 rfl ?_
        refine np_cSNi (pc := 101) C (c_P_sum l D t (by first | exact hc _ | decide) (by first | exact hc _ | decide)) np_TS_good d_S_dueInBlock_101 m_31 (C.2.2.1.1 _ n_5) m_1 m_30 hd_P_sum (by decide) rfl rfl (Nat.le_of_ble_eq_true rfl) ?_
        refine np_getsN (pc := 104) C C.2.2.1.2.1.1 (C.2.2.1.1 _ n_6) rfl d_S_dueInBlock_104 ?_
        refine np_iload (pc := 107) C d_S_dueInBlock_107 rfl ?_
        refine np_tald (pc := 109) C C.2.2.1.2.1.2 (by omega) (by decide) d_S_dueInBlock_109 ?_
        refine np_cSNi (pc := 110) C (c_P_sum l D t (np_sm_lt _ _) (np_sa_lt _)) np_TS_good d_S_dueInBlock_110 m_31 (C.2.2.1.1 _ n_5) m_1 m_30 hd_P_sum (by decide) rfl rfl (Nat.le_of_ble_eq_true rfl) ?_
        refine np_istore (pc := 113) C d_S_dueInBlock_113 (by decide) rfl ?_
        refine np_iload_n (pc := 115) C d_S_dueInBlock_115 rfl ?_
        refine np_iconst (pc := 116) (v := 2) C d_S_dueInBlock_116 (by decide) ?_
        refine np_irem (pc := 117) C (by omega) (by omega) (by omega) d_S_dueInBlock_117 ?_
        refine np_if_ne (pc := 118) (tgt := 126) C (by omega) d_S_dueInBlock_118 rfl (fun h118 => ?_) (fun h118 => ?_)
        · refine np_aload_n (pc := 126) C d_S_dueInBlock_126 rfl ?_
          refine np_get (pc := 127) C 10 0 d_S_dueInBlock_127 rfl rfl rfl (by decide) hin_S m_69 rfl ?_
          refine np_iload_n (pc := 130) C d_S_dueInBlock_130 rfl ?_
          refine np_iload_n (pc := 131) C d_S_dueInBlock_131 rfl ?_
          refine np_iadd (pc := 132) C d_S_dueInBlock_132 ?_
          refine np_iconst (pc := 133) (v := 1) C d_S_dueInBlock_133 (by decide) ?_
          refine np_isub (pc := 134) C (by omega) d_S_dueInBlock_134 ?_
          refine np_iald (pc := 135) C 11 d_S_dueInBlock_135 rfl (by omega) (by decide) ?_
          refine np_iload (pc := 136) C d_S_dueInBlock_136 rfl ?_
          refine np_cSNi (pc := 138) C (c_P_product l D t (by first | exact hc _ | exact np_sm_lt _ _) (np_sm_lt _ _)) np_TS_good d_S_dueInBlock_138 m_35 (C.2.2.1.1 _ n_7) m_1 m_34 hd_P_product (by decide) rfl rfl (Nat.le_of_ble_eq_true rfl) ?_
          exact np_iret (pc := 141) C d_S_dueInBlock_141 (by simp only [np_blk, np_bas, np_bef, np_inB, np_inA, h21, h43, h74, h118, if_true, if_false, ne_eq, not_false_eq_true, ↓reduceIte]) (by rfl)
        · refine np_iload (pc := 121) C d_S_dueInBlock_121 rfl ?_
          refine np_goto (pc := 123) (tgt := 136) C d_S_dueInBlock_123 rfl ?_
          refine np_iload (pc := 136) C d_S_dueInBlock_136 rfl ?_
          refine np_cSNi (pc := 138) C (c_P_product l D t (by first | exact hc _ | exact np_sm_lt _ _) (np_sm_lt _ _)) np_TS_good d_S_dueInBlock_138 m_35 (C.2.2.1.1 _ n_7) m_1 m_34 hd_P_product (by decide) rfl rfl (Nat.le_of_ble_eq_true rfl) ?_
          exact np_iret (pc := 141) C d_S_dueInBlock_141 (by simp only [np_blk, np_bas, np_bef, np_inB, np_inA, h21, h43, h74, h118, if_true, if_false, ne_eq, not_false_eq_true, ↓reduceIte]) (by rfl)
    · refine np_aload_n (pc := 46) C d_S_dueInBlock_46 rfl ?_
      refine np_get (pc := 47) C 10 0 d_S_dueInBlock_47 rfl rfl rfl (by decide) hin_S m_69 rfl ?_
      refine np_iload_n (pc := 50) C d_S_dueInBlock_50 rfl ?_
      refine np_iload_n (pc := 51) C d_S_dueInBlock_51 rfl ?_
      refine np_iadd (pc := 52) C d_S_dueInBlock_52 ?_
      refine np_iconst (pc := 53) (v := 1) C d_S_dueInBlock_53 (by decide) ?_
      refine np_isub (pc := 54) C (by omega) d_S_dueInBlock_54 ?_
      refine np_iald (pc := 55) C 11 d_S_dueInBlock_55 rfl (by omega) (by decide) ?_
      refine np_iload (pc := 56) C d_S_dueInBlock_56 rfl ?_
      refine np_cSNi (pc := 58) C (c_P_sum l D t (hc _) (hc _)) np_TS_good d_S_dueInBlock_58 m_31 (C.2.2.1.1 _ n_5) m_1 m_30 hd_P_sum (by decide) rfl rfl (Nat.le_of_ble_eq_true rfl) ?_
      refine np_iload (pc := 61) C d_S_dueInBlock_61 rfl ?_
      refine np_cSNi (pc := 63) C (c_P_sum l D t (np_sm_lt _ _) (by first | exact hc _ | decide)) np_TS_good d_S_dueInBlock_63 m_31 (C.2.2.1.1 _ n_5) m_1 m_30 hd_P_sum (by decide) rfl rfl (Nat.le_of_ble_eq_true rfl) ?_
      exact np_iret (pc := 66) C d_S_dueInBlock_66 (by simp only [np_blk, np_bas, np_bef, np_inB, np_inA, h21, h43, if_true, if_false, ne_eq, not_false_eq_true, ↓reduceIte]) (by rfl)
set_option maxRecDepth 20000 in
set_option maxHeartbeats 4000000 in
theorem c_S_dueIn (l : Launch) (D : va_G) {cI : ClassId} (t : Nat → Nat) {a : Nat → Nat} (ha : np_inj a 12) {X : np_X} {x : Nat} (hx : x < 125) (hc : np_ok (X 11)) : np_C l D cI (np_ad a 12) t (2, 49) y_S_dueIn b_S_dueIn 2 (some .int) [.ref (a 10), .int (nI x)] (np_gw a cI X) (some (.int (nI (np_due (X 11) x)))) (np_gw a cI X) := by
  refine np_Ct.of (np_Sc_St _ _) (by decide) (Nat.le_of_ble_eq_true rfl) ?_
  intro p e s m below meth c C
  refine np_at (vs2 := [some (.ref (a 10)), some (.int (nI x))]) rfl ?_
  refine np_iload_n (pc := 0) C d_S_dueIn_0 rfl ?_
  refine np_bipush (pc := 1) (v := 35) C d_S_dueIn_1 (by decide) ?_
  refine np_icmp_lt (pc := 3) (tgt := 25) C (by omega) (by omega) d_S_dueIn_3 rfl (fun h3 => ?_) (fun h3 => ?_)
  · refine np_iload_n (pc := 25) C d_S_dueIn_25 rfl ?_
    refine np_bipush (pc := 26) (v := 27) C d_S_dueIn_26 (by decide) ?_
    refine np_icmp_lt (pc := 28) (tgt := 47) C (by omega) (by omega) d_S_dueIn_28 rfl (fun h28 => ?_) (fun h28 => ?_)
    · refine np_iload_n (pc := 47) C d_S_dueIn_47 rfl ?_
      refine np_bipush (pc := 48) (v := 23) C d_S_dueIn_48 (by decide) ?_
      refine np_icmp_lt (pc := 50) (tgt := 62) C (by omega) (by omega) d_S_dueIn_50 rfl (fun h50 => ?_) (fun h50 => ?_)
      · refine np_iload_n (pc := 62) C d_S_dueIn_62 rfl ?_
        refine np_bipush (pc := 63) (v := 19) C d_S_dueIn_63 (by decide) ?_
        refine np_icmp_lt (pc := 65) (tgt := 77) C (by omega) (by omega) d_S_dueIn_65 rfl (fun h65 => ?_) (fun h65 => ?_)
        · refine np_iload_n (pc := 77) C d_S_dueIn_77 rfl ?_
          refine np_bipush (pc := 78) (v := 15) C d_S_dueIn_78 (by decide) ?_
          refine np_icmp_lt (pc := 80) (tgt := 99) C (by omega) (by omega) d_S_dueIn_80 rfl (fun h80 => ?_) (fun h80 => ?_)
          · refine np_iload_n (pc := 99) C d_S_dueIn_99 rfl ?_
            rcases (show x = 0 ∨ x = 1 ∨ x = 2 ∨ x = 3 ∨ x = 4 ∨ x = 5 ∨ x = 6 ∨ x = 7 ∨ x = 8 ∨ x = 9 ∨ x = 10 ∨ x = 11 ∨ x = 12 ∨ x = 13 ∨ x = 14 by omega) with rfl | rfl | rfl | rfl | rfl | rfl | rfl | rfl | rfl | rfl | rfl | rfl | rfl | rfl | rfl
            · refine np_tswO (pc := 100) (tgt := 195) C d_S_dueIn_100 (by decide) rfl ?_
              refine np_aload_n (pc := 195) C d_S_dueIn_195 rfl ?_
              refine np_get (pc := 196) C 10 0 d_S_dueIn_196 rfl rfl rfl (by decide) hin_S m_69 rfl ?_
              refine np_iload_n (pc := 199) C d_S_dueIn_199 rfl ?_
              refine np_iald (pc := 200) C 11 d_S_dueIn_200 rfl (by omega) (by decide) ?_
              exact np_iret (pc := 201) C d_S_dueIn_201 (by unfold np_due; (repeat' split) <;> first | omega | rfl) (by rfl)
            · refine np_tswI (pc := 100) (tgt := 174) C d_S_dueIn_100 (by decide) (by decide) (by rfl) rfl ?_
              refine np_aload_n (pc := 174) C d_S_dueIn_174 rfl ?_
              refine np_bipush (pc := 175) (v := 6) C d_S_dueIn_175 (by decide) ?_
              refine np_cVi (pc := 177) C 10 (c_S_resultOf l D t ha (by omega)) np_TS_good d_S_dueIn_177 rfl rfl m_193 m_190 m_4 m_192 ms_S_resultOf hd_S_resultOf (by decide) rfl rfl (Nat.le_of_ble_eq_true rfl) ?_
              exact np_iret (pc := 180) C d_S_dueIn_180 (by unfold np_due; (repeat' split) <;> first | omega | rfl) (by rfl)
            · refine np_tswI (pc := 100) (tgt := 181) C d_S_dueIn_100 (by decide) (by decide) (by rfl) rfl ?_
              refine np_aload_n (pc := 181) C d_S_dueIn_181 rfl ?_
              refine np_bipush (pc := 182) (v := 7) C d_S_dueIn_182 (by decide) ?_
              refine np_cVi (pc := 184) C 10 (c_S_resultOf l D t ha (by omega)) np_TS_good d_S_dueIn_184 rfl rfl m_193 m_190 m_4 m_192 ms_S_resultOf hd_S_resultOf (by decide) rfl rfl (Nat.le_of_ble_eq_true rfl) ?_
              exact np_iret (pc := 187) C d_S_dueIn_187 (by unfold np_due; (repeat' split) <;> first | omega | rfl) (by rfl)
            · refine np_tswI (pc := 100) (tgt := 188) C d_S_dueIn_100 (by decide) (by decide) (by rfl) rfl ?_
              refine np_aload_n (pc := 188) C d_S_dueIn_188 rfl ?_
              refine np_bipush (pc := 189) (v := 9) C d_S_dueIn_189 (by decide) ?_
              refine np_cVi (pc := 191) C 10 (c_S_resultOf l D t ha (by omega)) np_TS_good d_S_dueIn_191 rfl rfl m_193 m_190 m_4 m_192 ms_S_resultOf hd_S_resultOf (by decide) rfl rfl (Nat.le_of_ble_eq_true rfl) ?_
              exact np_iret (pc := 194) C d_S_dueIn_194 (by unfold np_due; (repeat' split) <;> first | omega | rfl) (by rfl)
            · refine np_tswI (pc := 100) (tgt := 195) C d_S_dueIn_100 (by decide) (by decide) (by rfl) rfl ?_
              refine np_aload_n (pc := 195) C d_S_dueIn_195 rfl ?_
              refine np_get (pc := 196) C 10 0 d_S_dueIn_196 rfl rfl rfl (by decide) hin_S m_69 rfl ?_
              refine np_iload_n (pc := 199) C d_S_dueIn_199 rfl ?_
              refine np_iald (pc := 200) C 11 d_S_dueIn_200 rfl (by omega) (by decide) ?_
              exact np_iret (pc := 201) C d_S_dueIn_201 (by unfold np_due; (repeat' split) <;> first | omega | rfl) (by rfl)
            · refine np_tswI (pc := 100) (tgt := 195) C d_S_dueIn_100 (by decide) (by decide) (by rfl) rfl ?_
              refine np_aload_n (pc := 195) C d_S_dueIn_195 rfl ?_
              refine np_get (pc := 196) C 10 0 d_S_dueIn_196 rfl rfl rfl (by decide) hin_S m_69 rfl ?_
              refine np_iload_n (pc := 199) C d_S_dueIn_199 rfl ?_
              refine np_iald (pc := 200) C 11 d_S_dueIn_200 rfl (by omega) (by decide) ?_
              exact np_iret (pc := 201) C d_S_dueIn_201 (by unfold np_due; (repeat' split) <;> first | omega | rfl) (by rfl)
            · refine np_tswI (pc := 100) (tgt := 157) C d_S_dueIn_100 (by decide) (by decide) (by rfl) rfl ?_
              refine np_aload_n (pc := 157) C d_S_dueIn_157 rfl ?_
              refine np_get (pc := 158) C 10 0 d_S_dueIn_158 rfl rfl rfl (by decide) hin_S m_69 rfl ?_
              refine np_bipush (pc := 161) (v := 9) C d_S_dueIn_161 (by decide) ?_
              refine np_iald (pc := 163) C 11 d_S_dueIn_163 rfl (by omega) (by decide) ?_
              refine np_aload_n (pc := 164) C d_S_dueIn_164 rfl ?_
              refine np_get (pc := 165) C 10 0 d_S_dueIn_165 rfl rfl rfl (by decide) hin_S m_69 rfl ?_
              refine np_iconst (pc := 168) (v := 4) C d_S_dueIn_168 (by decide) ?_
              refine np_iald (pc := 169) C 11 d_S_dueIn_169 rfl (by omega) (by decide) ?_
              refine np_cSNi (pc := 170) C (c_P_sum l D t (hc _) (hc _)) np_TS_good d_S_dueIn_170 m_31 (C.2.2.1.1 _ n_5) m_1 m_30 hd_P_sum (by decide) rfl rfl (Nat.le_of_ble_eq_true rfl) ?_
              exact np_iret (pc := 173) C d_S_dueIn_173 (by unfold np_due; (repeat' split) <;> first | omega | rfl) (by rfl)
            · refine np_tswI (pc := 100) (tgt := 195) C d_S_dueIn_100 (by decide) (by decide) (by rfl) rfl ?_
              refine np_aload_n (pc := 195) C d_S_dueIn_195 rfl ?_
              refine np_get (pc := 196) C 10 0 d_S_dueIn_196 rfl rfl rfl (by decide) hin_S m_69 rfl ?_
              refine np_iload_n (pc := 199) C d_S_dueIn_199 rfl ?_
              refine np_iald (pc := 200) C 11 d_S_dueIn_200 rfl (by omega) (by decide) ?_
              exact np_iret (pc := 201) C d_S_dueIn_201 (by unfold np_due; (repeat' split) <;> first | omega | rfl) (by rfl)
            · refine np_tswI (pc := 100) (tgt := 195) C d_S_dueIn_100 (by decide) (by decide) (by rfl) rfl ?_
              refine np_aload_n (pc := 195) C d_S_dueIn_195 rfl ?_
              refine np_get (pc := 196) C 10 0 d_S_dueIn_196 rfl rfl rfl (by decide) hin_S m_69 rfl ?_
              refine np_iload_n (pc := 199) C d_S_dueIn_199 rfl ?_
              refine np_iald (pc := 200) C 11 d_S_dueIn_200 rfl (by omega) (by decide) ?_
              exact np_iret (pc := 201) C d_S_dueIn_201 (by unfold np_due; (repeat' split) <;> first | omega | rfl) (by rfl)
            · refine np_tswI (pc := 100) (tgt := 152) C d_S_dueIn_100 (by decide) (by decide) (by rfl) rfl ?_
              refine np_aload_n (pc := 152) C d_S_dueIn_152 rfl ?_
              refine np_cVi (pc := 153) C 10 (c_S_sumOfBits l D t ha hc) np_TS_good d_S_dueIn_153 rfl rfl m_204 m_201 m_4 m_203 ms_S_sumOfBits hd_S_sumOfBits (by decide) rfl rfl (Nat.le_of_ble_eq_true rfl) ?_
              exact np_iret (pc := 156) C d_S_dueIn_156 (by unfold np_due; (repeat' split) <;> first | omega | rfl) (by rfl)
            · refine np_tswO (pc := 100) (tgt := 195) C d_S_dueIn_100 (by decide) rfl ?_
              refine np_aload_n (pc := 195) C d_S_dueIn_195 rfl ?_
              refine np_get (pc := 196) C 10 0 d_S_dueIn_196 rfl rfl rfl (by decide) hin_S m_69 rfl ?_
              refine np_iload_n (pc := 199) C d_S_dueIn_199 rfl ?_
              refine np_iald (pc := 200) C 11 d_S_dueIn_200 rfl (by omega) (by decide) ?_
              exact np_iret (pc := 201) C d_S_dueIn_201 (by unfold np_due; (repeat' split) <;> first | omega | rfl) (by rfl)
            · refine np_tswO (pc := 100) (tgt := 195) C d_S_dueIn_100 (by decide) rfl ?_
              refine np_aload_n (pc := 195) C d_S_dueIn_195 rfl ?_
              refine np_get (pc := 196) C 10 0 d_S_dueIn_196 rfl rfl rfl (by decide) hin_S m_69 rfl ?_
              refine np_iload_n (pc := 199) C d_S_dueIn_199 rfl ?_
              refine np_iald (pc := 200) C 11 d_S_dueIn_200 rfl (by omega) (by decide) ?_
              exact np_iret (pc := 201) C d_S_dueIn_201 (by unfold np_due; (repeat' split) <;> first | omega | rfl) (by rfl)
            · refine np_tswO (pc := 100) (tgt := 195) C d_S_dueIn_100 (by decide) rfl ?_
              refine np_aload_n (pc := 195) C d_S_dueIn_195 rfl ?_
              refine np_get (pc := 196) C 10 0 d_S_dueIn_196 rfl rfl rfl (by decide) hin_S m_69 rfl ?_
              refine np_iload_n (pc := 199) C d_S_dueIn_199 rfl ?_
              refine np_iald (pc := 200) C 11 d_S_dueIn_200 rfl (by omega) (by decide) ?_
              exact np_iret (pc := 201) C d_S_dueIn_201 (by unfold np_due; (repeat' split) <;> first | omega | rfl) (by rfl)
            · refine np_tswO (pc := 100) (tgt := 195) C d_S_dueIn_100 (by decide) rfl ?_
              refine np_aload_n (pc := 195) C d_S_dueIn_195 rfl ?_
              refine np_get (pc := 196) C 10 0 d_S_dueIn_196 rfl rfl rfl (by decide) hin_S m_69 rfl ?_
              refine np_iload_n (pc := 199) C d_S_dueIn_199 rfl ?_
              refine np_iald (pc := 200) C 11 d_S_dueIn_200 rfl (by omega) (by decide) ?_
              exact np_iret (pc := 201) C d_S_dueIn_201 (by unfold np_due; (repeat' split) <;> first | omega | rfl) (by rfl)
            · refine np_tswO (pc := 100) (tgt := 195) C d_S_dueIn_100 (by decide) rfl ?_
              refine np_aload_n (pc := 195) C d_S_dueIn_195 rfl ?_
              refine np_get (pc := 196) C 10 0 d_S_dueIn_196 rfl rfl rfl (by decide) hin_S m_69 rfl ?_
              refine np_iload_n (pc := 199) C d_S_dueIn_199 rfl ?_
              refine np_iald (pc := 200) C 11 d_S_dueIn_200 rfl (by omega) (by decide) ?_
              exact np_iret (pc := 201) C d_S_dueIn_201 (by unfold np_due; (repeat' split) <;> first | omega | rfl) (by rfl)
          · refine np_aload_n (pc := 83) C d_S_dueIn_83 rfl ?_
            refine np_get (pc := 84) C 10 0 d_S_dueIn_84 rfl rfl rfl (by decide) hin_S m_69 rfl ?_
            refine np_iload_n (pc := 87) C d_S_dueIn_87 rfl ?_
            refine np_iald (pc := 88) C 11 d_S_dueIn_88 rfl (by omega) (by decide) ?_
            refine np_aload_n (pc := 89) C d_S_dueIn_89 rfl ?_
            refine np_get (pc := 90) C 10 0 d_S_dueIn_90 rfl rfl rfl (by decide) hin_S m_69 rfl ?_
            refine np_iload_n (pc := 93) C d_S_dueIn_93 rfl ?_
            refine np_iald (pc := 94) C 11 d_S_dueIn_94 rfl (by omega) (by decide) ?_
            refine np_cSNi (pc := 95) C (c_P_product l D t (hc _) (hc _)) np_TS_good d_S_dueIn_95 m_35 (C.2.2.1.1 _ n_7) m_1 m_34 hd_P_product (by decide) rfl rfl (Nat.le_of_ble_eq_true rfl) ?_
            exact np_iret (pc := 98) C d_S_dueIn_98 (by unfold np_due; (repeat' split) <;> first | omega | rfl) (by rfl)
        · refine np_aload_n (pc := 68) C d_S_dueIn_68 rfl ?_
          refine np_iload_n (pc := 69) C d_S_dueIn_69 rfl ?_
          refine np_bipush (pc := 70) (v := 19) C d_S_dueIn_70 (by decide) ?_
          refine np_isub (pc := 72) C (by omega) d_S_dueIn_72 ?_
          refine np_cVi (pc := 73) C 10 (c_S_dueLeft l D t ha (by omega) hc) np_TS_good d_S_dueIn_73 rfl rfl m_200 m_197 m_4 m_199 ms_S_dueLeft hd_S_dueLeft (by decide) rfl rfl (Nat.le_of_ble_eq_true rfl) ?_
          exact np_iret (pc := 76) C d_S_dueIn_76 (by unfold np_due; (repeat' split) <;> first | omega | rfl) (by rfl)
      · refine np_aload_n (pc := 53) C d_S_dueIn_53 rfl ?_
        refine np_iload_n (pc := 54) C d_S_dueIn_54 rfl ?_
        refine np_bipush (pc := 55) (v := 23) C d_S_dueIn_55 (by decide) ?_
        refine np_isub (pc := 57) C (by omega) d_S_dueIn_57 ?_
        refine np_cVi (pc := 58) C 10 (c_S_dueRight l D t ha (by omega) hc) np_TS_good d_S_dueIn_58 rfl rfl m_189 m_186 m_4 m_188 ms_S_dueRight hd_S_dueRight (by decide) rfl rfl (Nat.le_of_ble_eq_true rfl) ?_
        exact np_iret (pc := 61) C d_S_dueIn_61 (by unfold np_due; (repeat' split) <;> first | omega | rfl) (by rfl)
    · refine np_aload_n (pc := 31) C d_S_dueIn_31 rfl ?_
      refine np_get (pc := 32) C 10 0 d_S_dueIn_32 rfl rfl rfl (by decide) hin_S m_69 rfl ?_
      refine np_iload_n (pc := 35) C d_S_dueIn_35 rfl ?_
      refine np_iald (pc := 36) C 11 d_S_dueIn_36 rfl (by omega) (by decide) ?_
      refine np_aload_n (pc := 37) C d_S_dueIn_37 rfl ?_
      refine np_get (pc := 38) C 10 0 d_S_dueIn_38 rfl rfl rfl (by decide) hin_S m_69 rfl ?_
      refine np_iload_n (pc := 41) C d_S_dueIn_41 rfl ?_
      refine np_iald (pc := 42) C 11 d_S_dueIn_42 rfl (by omega) (by decide) ?_
      refine np_cSNi (pc := 43) C (c_P_product l D t (hc _) (hc _)) np_TS_good d_S_dueIn_43 m_35 (C.2.2.1.1 _ n_7) m_1 m_34 hd_P_product (by decide) rfl rfl (Nat.le_of_ble_eq_true rfl) ?_
      exact np_iret (pc := 46) C d_S_dueIn_46 (by unfold np_due; (repeat' split) <;> first | omega | rfl) (by rfl)
  · refine np_aload_n (pc := 6) C d_S_dueIn_6 rfl ?_
    refine np_iload_n (pc := 7) C d_S_dueIn_7 rfl ?_
    refine np_bipush (pc := 8) (v := 35) C d_S_dueIn_8 (by decide) ?_
    refine np_isub (pc := 10) C (by omega) d_S_dueIn_10 ?_
    refine np_bipush (pc := 11) (v := 9) C d_S_dueIn_11 (by decide) ?_
    refine np_idiv (pc := 13) C (by omega) (by omega) (by omega) d_S_dueIn_13 ?_
    refine np_iload_n (pc := 14) C d_S_dueIn_14 rfl ?_
    refine np_bipush (pc := 15) (v := 35) C d_S_dueIn_15 (by decide) ?_
    refine np_isub (pc := 17) C (by omega) d_S_dueIn_17 ?_
    refine np_bipush (pc := 18) (v := 9) C d_S_dueIn_18 (by decide) ?_
    refine np_irem (pc := 20) C (by omega) (by omega) (by omega) d_S_dueIn_20 ?_
    refine np_cVi (pc := 21) C 10 (c_S_dueInBlock l D t ha (by omega) (by omega) hc) np_TS_good d_S_dueIn_21 rfl rfl m_178 m_175 m_4 m_177 ms_S_dueInBlock hd_S_dueInBlock (by decide) rfl rfl (Nat.le_of_ble_eq_true rfl) ?_
    exact np_iret (pc := 24) C d_S_dueIn_24 (by unfold np_due; (repeat' split) <;> first | omega | rfl) (by rfl)
set_option maxRecDepth 20000 in
set_option maxHeartbeats 4000000 in
theorem c_S_takeNote (l : Launch) (D : va_G) {cI : ClassId} (t : Nat → Nat) {a : Nat → Nat} (ha : np_inj a 12) {X : np_X} {x y z : Nat} : np_C l D cI (np_ad a 12) t (0, 0) y_S_takeNote b_S_takeNote 4 none [.ref (a 10), .int (nI x), .int (nI y), .int (nI z)] (np_gw a cI X) none (np_gw a cI (va_up X 11 (updN (updN (updN (X 11) 5 x) 6 y) 7 z))) := by
  refine np_Ct.of (np_Sc_St _ _) (by decide) (Nat.le_of_ble_eq_true rfl) ?_
  intro p e s m below meth c C
  refine np_at (vs2 := [some (.ref (a 10)), some (.int (nI x)), some (.int (nI y)), some (.int (nI z))]) rfl ?_
  refine np_aload_n (pc := 0) C d_S_takeNote_0 rfl ?_
  refine np_get (pc := 1) C 10 0 d_S_takeNote_1 rfl rfl rfl (by decide) hin_S m_69 rfl ?_
  refine np_iconst (pc := 4) (v := 5) C d_S_takeNote_4 (by decide) ?_
  refine np_iload_n (pc := 5) C d_S_takeNote_5 rfl ?_
  refine np_iastG (pc := 6) C (np_gw a cI) _ 11 11 (np_gD ha _) d_S_takeNote_6 rfl (gs_11 a cI _) (by omega) (by decide) ?_
  refine np_aload_n (pc := 7) C d_S_takeNote_7 rfl ?_
  refine np_get (pc := 8) C 10 0 d_S_takeNote_8 rfl rfl rfl (by decide) hin_S m_69 rfl ?_
  refine np_bipush (pc := 11) (v := 6) C d_S_takeNote_11 (by decide) ?_
  refine np_iload_n (pc := 13) C d_S_takeNote_13 rfl ?_
  refine np_iastG (pc := 14) C (np_gw a cI) _ 11 11 (np_gD ha _) d_S_takeNote_14 rfl (gs_11 a cI _) (by omega) (by decide) ?_
  refine np_aload_n (pc := 15) C d_S_takeNote_15 rfl ?_
  refine np_get (pc := 16) C 10 0 d_S_takeNote_16 rfl rfl rfl (by decide) hin_S m_69 rfl ?_
  refine np_bipush (pc := 19) (v := 7) C d_S_takeNote_19 (by decide) ?_
  refine np_iload_n (pc := 21) C d_S_takeNote_21 rfl ?_
  refine np_iastG (pc := 22) C (np_gw a cI) _ 11 11 (np_gD ha _) d_S_takeNote_22 rfl (gs_11 a cI _) (by omega) (by decide) ?_
  exact np_vret (pc := 23) C d_S_takeNote_23 (by rfl)
set_option maxRecDepth 20000 in
set_option maxHeartbeats 4000000 in
theorem c_S_takePayment (l : Launch) (D : va_G) {cI : ClassId} (t : Nat → Nat) {a : Nat → Nat} (ha : np_inj a 12) {X : np_X} {k am wd nn : Nat} (hm : am < 256) : np_C l D cI (np_ad a 12) t (0, 0) y_S_takePayment b_S_takePayment 6 none [.ref (a 10), .int (nI k), .int (nI am), .int (nI wd), .int (nI nn)] (np_gw a cI X) none (np_gw a cI (va_up X 11 (np_tkp (X 11) k am wd nn))) := by
  refine np_Ct.of (np_Sc_St _ _) (by decide) (Nat.le_of_ble_eq_true rfl) ?_
  intro p e s m below meth c C
  refine np_at (vs2 := [some (.ref (a 10)), some (.int (nI k)), some (.int (nI am)), some (.int (nI wd)), some (.int (nI nn)), none]) rfl ?_
  have loop : ∀ (n i : Nat), i + n = 8 → np_V p l e (np_rm (0, 0)) s m ([.ref (a 10), .int (nI k), .int (nI am), .int (nI wd), .int (nI nn)] : List Value).toArray below meth c 0 0 D np_cls (np_ad a 12) (MQ below (np_Qc D np_cls (np_ad a 12) none (np_gw a cI (va_up X 11 (np_tkp (X 11) k am wd nn)))) ([.ref (a 10), .int (nI k), .int (nI am), .int (nI wd), .int (nI nn)] : List Value).toArray s 0 0 (np_ad a 12)) 6 (np_gw a cI (va_up X 11 (np_bts (updN (updN (updN (updN (X 11) 8 k) 9 am) 4 wd) 10 nn) am i))) 35 [some (.ref (a 10)), some (.int (nI k)), some (.int (nI am)), some (.int (nI wd)), some (.int (nI nn)), some (.int (nI i))] [] := by
    intro n
    induction n with
    | zero =>
      intro i hi
      obtain rfl : i = 8 := by omega
      refine np_iload (pc := 35) C d_S_takePayment_35 rfl ?_
      refine np_bipush (pc := 37) (v := 8) C d_S_takePayment_37 (by decide) ?_
      refine np_icmp_ge (pc := 39) (tgt := 64) C (by omega) (by omega) d_S_takePayment_39 rfl (fun h39 => ?_) (fun h39 => ?_)
      · exact np_vret (pc := 64) C d_S_takePayment_64 (by rfl)
      · exfalso; omega
    | succ n ih =>
      intro i hi
      have hd := Nat.div_le_self am (2 ^ i)
      refine np_iload (pc := 35) C d_S_takePayment_35 rfl ?_
      refine np_bipush (pc := 37) (v := 8) C d_S_takePayment_37 (by decide) ?_
      refine np_icmp_ge (pc := 39) (tgt := 64) C (by omega) (by omega) d_S_takePayment_39 rfl (fun h39 => ?_) (fun h39 => ?_)
      · exfalso; omega
      · refine np_aload_n (pc := 42) C d_S_takePayment_42 rfl ?_
        refine np_get (pc := 43) C 10 0 d_S_takePayment_43 rfl rfl rfl (by decide) hin_S m_69 rfl ?_
        refine np_bipush (pc := 46) (v := 27) C d_S_takePayment_46 (by decide) ?_
        refine np_iload (pc := 48) C d_S_takePayment_48 rfl ?_
        refine np_iadd (pc := 50) C d_S_takePayment_50 ?_
        refine np_iload_n (pc := 51) C d_S_takePayment_51 rfl ?_
        refine np_iload (pc := 52) C d_S_takePayment_52 rfl ?_
        refine np_ishr (pc := 54) C (by omega) (by omega) d_S_takePayment_54 ?_
        refine np_iconst (pc := 55) (v := 1) C d_S_takePayment_55 (by decide) ?_
        refine np_iand1 (pc := 56) C (by omega) d_S_takePayment_56 ?_
        refine np_iastG (pc := 57) C (np_gw a cI) _ 11 11 (np_gD ha _) d_S_takePayment_57 rfl (gs_11 a cI _) (by omega) (by decide) ?_
        refine np_iinc (pc := 58) C d_S_takePayment_58 rfl (np_inc1 _) (by decide) rfl ?_
        refine np_goto (pc := 61) (tgt := 35) C d_S_takePayment_61 rfl ?_
        refine np_at (vs2 := [some (.ref (a 10)), some (.int (nI k)), some (.int (nI am)), some (.int (nI wd)), some (.int (nI nn)), some (.int (nI (i + 1)))]) rfl ?_
        refine np_atw (w2 := (np_gw a cI (va_up X 11 (np_bts (updN (updN (updN (updN (X 11) 8 k) 9 am) 4 wd) 10 nn) am (i + 1))))) rfl ?_
        exact ih (i + 1) (by omega)
  refine np_aload_n (pc := 0) C d_S_takePayment_0 rfl ?_
  refine np_get (pc := 1) C 10 0 d_S_takePayment_1 rfl rfl rfl (by decide) hin_S m_69 rfl ?_
  refine np_bipush (pc := 4) (v := 8) C d_S_takePayment_4 (by decide) ?_
  refine np_iload_n (pc := 6) C d_S_takePayment_6 rfl ?_
  refine np_iastG (pc := 7) C (np_gw a cI) _ 11 11 (np_gD ha _) d_S_takePayment_7 rfl (gs_11 a cI _) (by omega) (by decide) ?_
  refine np_aload_n (pc := 8) C d_S_takePayment_8 rfl ?_
  refine np_get (pc := 9) C 10 0 d_S_takePayment_9 rfl rfl rfl (by decide) hin_S m_69 rfl ?_
  refine np_bipush (pc := 12) (v := 9) C d_S_takePayment_12 (by decide) ?_
  refine np_iload_n (pc := 14) C d_S_takePayment_14 rfl ?_
  refine np_iastG (pc := 15) C (np_gw a cI) _ 11 11 (np_gD ha _) d_S_takePayment_15 rfl (gs_11 a cI _) (by omega) (by decide) ?_
  refine np_aload_n (pc := 16) C d_S_takePayment_16 rfl ?_
  refine np_get (pc := 17) C 10 0 d_S_takePayment_17 rfl rfl rfl (by decide) hin_S m_69 rfl ?_
  refine np_iconst (pc := 20) (v := 4) C d_S_takePayment_20 (by decide) ?_
  refine np_iload_n (pc := 21) C d_S_takePayment_21 rfl ?_
  refine np_iastG (pc := 22) C (np_gw a cI) _ 11 11 (np_gD ha _) d_S_takePayment_22 rfl (gs_11 a cI _) (by omega) (by decide) ?_
  refine np_aload_n (pc := 23) C d_S_takePayment_23 rfl ?_
  refine np_get (pc := 24) C 10 0 d_S_takePayment_24 rfl rfl rfl (by decide) hin_S m_69 rfl ?_
  refine np_bipush (pc := 27) (v := 10) C d_S_takePayment_27 (by decide) ?_
  refine np_iload (pc := 29) C d_S_takePayment_29 rfl ?_
  refine np_iastG (pc := 31) C (np_gw a cI) _ 11 11 (np_gD ha _) d_S_takePayment_31 rfl (gs_11 a cI _) (by omega) (by decide) ?_
  refine np_iconst (pc := 32) (v := 0) C d_S_takePayment_32 (by decide) ?_
  refine np_istore (pc := 33) C d_S_takePayment_33 (by decide) rfl ?_
  refine np_at (vs2 := [some (.ref (a 10)), some (.int (nI k)), some (.int (nI am)), some (.int (nI wd)), some (.int (nI nn)), some (.int (nI 0))]) rfl ?_
  refine np_atw (w2 := (np_gw a cI (va_up X 11 (np_bts (updN (updN (updN (updN (X 11) 8 k) 9 am) 4 wd) 10 nn) am 0)))) rfl ?_
  exact loop 8 0 rfl
set_option maxRecDepth 20000 in
set_option maxHeartbeats 4000000 in
theorem c_S_takePath (l : Launch) (D : va_G) {cI : ClassId} (t : Nat → Nat) {a : Nat → Nat} (ha : np_inj a 12) {X : np_X} {q : Nat} (hq : q < 16) : np_C l D cI (np_ad a 12) t (1, 23) y_S_takePath b_S_takePath 4 none [.ref (a 10), .int (nI q), .ref (a 5)] (np_gw a cI X) none (np_gw a cI (va_up X 11 (np_tpa (X 6) q (X 11) 4))) := by
  refine np_Ct.of (np_Sc_St _ _) (by decide) (Nat.le_of_ble_eq_true rfl) ?_
  intro p e s m below meth c C
  refine np_at (vs2 := [some (.ref (a 10)), some (.int (nI q)), some (.ref (a 5)), none]) rfl ?_
  have loop : ∀ (n i : Nat), i + n = 4 → np_V p l e (np_rm (1, 23)) s m ([.ref (a 10), .int (nI q), .ref (a 5)] : List Value).toArray below meth c 0 0 D np_cls (np_ad a 12) (MQ below (np_Qc D np_cls (np_ad a 12) none (np_gw a cI (va_up X 11 (np_tpa (X 6) q (X 11) 4)))) ([.ref (a 10), .int (nI q), .ref (a 5)] : List Value).toArray s 0 0 (np_ad a 12)) 4 (np_gw a cI (va_up X 11 (np_tpa (X 6) q (X 11) i))) 2 [some (.ref (a 10)), some (.int (nI q)), some (.ref (a 5)), some (.int (nI i))] [] := by
    intro n
    induction n with
    | zero =>
      intro i hi
      obtain rfl : i = 4 := by omega
      refine np_iload_n (pc := 2) C d_S_takePath_2 rfl ?_
      refine np_iconst (pc := 3) (v := 4) C d_S_takePath_3 (by decide) ?_
      refine np_icmp_ge (pc := 4) (tgt := 46) C (by omega) (by omega) d_S_takePath_4 rfl (fun h4 => ?_) (fun h4 => ?_)
      · exact np_vret (pc := 46) C d_S_takePath_46 (by rfl)
      · exfalso; omega
    | succ n ih =>
      intro i hi
      have hd := Nat.div_le_self q (2 ^ i)
      refine np_iload_n (pc := 2) C d_S_takePath_2 rfl ?_
      refine np_iconst (pc := 3) (v := 4) C d_S_takePath_3 (by decide) ?_
      refine np_icmp_ge (pc := 4) (tgt := 46) C (by omega) (by omega) d_S_takePath_4 rfl (fun h4 => ?_) (fun h4 => ?_)
      · exfalso; omega
      · refine np_aload_n (pc := 7) C d_S_takePath_7 rfl ?_
        refine np_get (pc := 8) C 10 0 d_S_takePath_8 rfl rfl rfl (by decide) hin_S m_69 rfl ?_
        refine np_bipush (pc := 11) (v := 15) C d_S_takePath_11 (by decide) ?_
        refine np_iload_n (pc := 13) C d_S_takePath_13 rfl ?_
        refine np_iadd (pc := 14) C d_S_takePath_14 ?_
        refine np_iload_n (pc := 15) C d_S_takePath_15 rfl ?_
        refine np_iload_n (pc := 16) C d_S_takePath_16 rfl ?_
        refine np_ishr (pc := 17) C (by omega) (by omega) d_S_takePath_17 ?_
        refine np_iconst (pc := 18) (v := 1) C d_S_takePath_18 (by decide) ?_
        refine np_iand1 (pc := 19) C (by omega) d_S_takePath_19 ?_
        refine np_iastG (pc := 20) C (np_gw a cI) _ 11 11 (np_gD ha _) d_S_takePath_20 rfl (gs_11 a cI _) (by omega) (by decide) ?_
        refine np_aload_n (pc := 21) C d_S_takePath_21 rfl ?_
        refine np_get (pc := 22) C 10 0 d_S_takePath_22 rfl rfl rfl (by decide) hin_S m_69 rfl ?_
        refine np_bipush (pc := 25) (v := 11) C d_S_takePath_25 (by decide) ?_
        refine np_iload_n (pc := 27) C d_S_takePath_27 rfl ?_
        refine np_iadd (pc := 28) C d_S_takePath_28 ?_
        refine np_aload_n (pc := 29) C d_S_takePath_29 rfl ?_
        refine np_iload_n (pc := 30) C d_S_takePath_30 rfl ?_
        refine np_iload_n (pc := 31) C d_S_takePath_31 rfl ?_
        refine np_iload_n (pc := 32) C d_S_takePath_32 rfl ?_
        refine np_ishr (pc := 33) C (by omega) (by omega) d_S_takePath_33 ?_
        refine np_iconst (pc := 34) (v := 1) C d_S_takePath_34 (by decide) ?_
        refine np_ixor1 (pc := 35) C (by omega) d_S_takePath_35 ?_
        refine np_cVi (pc := 36) C 5 (c_T_nodeAt l D t ha (by omega) (by split <;> omega)) np_TS_good d_S_takePath_36 rfl rfl m_160 m_157 m_2 m_158 m_159 hd_T_nodeAt (by decide) rfl rfl (Nat.le_of_ble_eq_true rfl) ?_
        refine np_iastG (pc := 39) C (np_gw a cI) _ 11 11 (np_gD ha _) d_S_takePath_39 rfl (gs_11 a cI _) (by omega) (by decide) ?_
        refine np_iinc (pc := 40) C d_S_takePath_40 rfl (np_inc1 _) (by decide) rfl ?_
        refine np_goto (pc := 43) (tgt := 2) C d_S_takePath_43 rfl ?_
        refine np_at (vs2 := [some (.ref (a 10)), some (.int (nI q)), some (.ref (a 5)), some (.int (nI (i + 1)))]) rfl ?_
        refine np_atw (w2 := (np_gw a cI (va_up X 11 (np_tpa (X 6) q (X 11) (i + 1))))) rfl ?_
        exact ih (i + 1) (by omega)
  refine np_iconst (pc := 0) (v := 0) C d_S_takePath_0 (by decide) ?_
  refine np_istore_n (pc := 1) C d_S_takePath_1 (by decide) rfl ?_
  refine np_at (vs2 := [some (.ref (a 10)), some (.int (nI q)), some (.ref (a 5)), some (.int (nI 0))]) rfl ?_
  refine np_atw (w2 := (np_gw a cI (va_up X 11 (np_tpa (X 6) q (X 11) 0)))) rfl ?_
  exact loop 4 0 rfl
set_option maxRecDepth 20000 in
set_option maxHeartbeats 4000000 in
theorem c_S_complete (l : Launch) (D : va_G) {cI : ClassId} (t : Nat → Nat) {a : Nat → Nat} (ha : np_inj a 12) {X : np_X} (hc : np_ok (X 11)) : np_C l D cI (np_ad a 12) t (3, 70) y_S_complete b_S_complete 3 none [.ref (a 10)] (np_gw a cI X) none (np_gw a cI (va_up X 11 (np_cpl (X 11) 14 101))) := by
  refine np_Ct.of (np_Sc_St _ _) (by decide) (Nat.le_of_ble_eq_true rfl) ?_
  intro p e s m below meth c C
  refine np_at (vs2 := [some (.ref (a 10)), none, none]) rfl ?_
  have loop : ∀ (n i : Nat) (f : Nat → Nat) (z : Option Value), i + n = 115 → np_okst [some (.ref (a 10)), some (.int (nI i)), z] 2 = true → np_ok f → np_cpl f i n = np_cpl (X 11) 14 101 → np_V p l e (np_rm (3, 70)) s m ([.ref (a 10)] : List Value).toArray below meth c 0 0 D np_cls (np_ad a 12) (MQ below (np_Qc D np_cls (np_ad a 12) none (np_gw a cI (va_up X 11 (np_cpl (X 11) 14 101)))) ([.ref (a 10)] : List Value).toArray s 0 0 (np_ad a 12)) 3 (np_gw a cI (va_up X 11 f)) 3 [some (.ref (a 10)), some (.int (nI i)), z] [] := by
    intro n
    induction n with
    | zero =>
      intro i f z hi hz hf he
      obtain rfl : i = 115 := by omega
      refine np_iload_n (pc := 3) C d_S_complete_3 rfl ?_
      refine np_bipush (pc := 4) (v := 115) C d_S_complete_4 (by decide) ?_
      refine np_icmp_ge (pc := 6) (tgt := 31) C (by omega) (by omega) d_S_complete_6 rfl (fun h6 => ?_) (fun h6 => ?_)
      · exact np_vret (pc := 31) C d_S_complete_31 (by rw [← he]; rfl)
      · exfalso; omega
    | succ n ih =>
      intro i f z hi hz hf he
      have hcl := np_cel_lt (show i < 115 by omega)
      refine np_iload_n (pc := 3) C d_S_complete_3 rfl ?_
      refine np_bipush (pc := 4) (v := 115) C d_S_complete_4 (by decide) ?_
      refine np_icmp_ge (pc := 6) (tgt := 31) C (by omega) (by omega) d_S_complete_6 rfl (fun h6 => ?_) (fun h6 => ?_)
      · exfalso; omega
      · refine np_iload_n (pc := 9) C d_S_complete_9 rfl ?_
        refine np_cSi (pc := 10) C (c_S_cellOf l D t (by omega)) np_TS_good d_S_complete_10 m_167 m_165 m_4 m_166 hd_S_cellOf (by decide) rfl rfl (Nat.le_of_ble_eq_true rfl) ?_
        refine np_istore_n (pc := 13) C d_S_complete_13 (by decide) rfl ?_
        refine np_aload_n (pc := 14) C d_S_complete_14 rfl ?_
        refine np_get (pc := 15) C 10 0 d_S_complete_15 rfl rfl rfl (by decide) hin_S m_69 rfl ?_
        refine np_iload_n (pc := 18) C d_S_complete_18 rfl ?_
        refine np_aload_n (pc := 19) C d_S_complete_19 rfl ?_
        refine np_iload_n (pc := 20) C d_S_complete_20 rfl ?_
        refine np_cVi (pc := 21) C 10 (c_S_dueIn l D t ha hcl hf) np_TS_good d_S_complete_21 rfl rfl m_174 m_171 m_4 m_173 ms_S_dueIn hd_S_dueIn (by decide) rfl rfl (Nat.le_of_ble_eq_true rfl) ?_
        refine np_iastG (pc := 24) C (np_gw a cI) _ 11 11 (np_gD ha _) d_S_complete_24 rfl (gs_11 a cI _) (by omega) (by decide) ?_
        refine np_iinc (pc := 25) C d_S_complete_25 rfl (np_inc1 _) (by decide) rfl ?_
        refine np_goto (pc := 28) (tgt := 3) C d_S_complete_28 rfl ?_
        refine np_at (vs2 := [some (.ref (a 10)), some (.int (nI (i + 1))), some (.int (nI (np_cel i)))]) rfl ?_
        refine np_atw (w2 := (np_gw a cI (va_up X 11 (updN f (np_cel i) (np_due f (np_cel i)))))) rfl ?_
        exact ih (i + 1) _ _ (by omega) rfl (np_ok_upd hf (np_due_lt hf _)) he
  refine np_bipush (pc := 0) (v := 14) C d_S_complete_0 (by decide) ?_
  refine np_istore_n (pc := 2) C d_S_complete_2 (by decide) rfl ?_
  refine np_at (vs2 := [some (.ref (a 10)), some (.int (nI 14)), none]) rfl ?_
  refine np_atw (w2 := (np_gw a cI (va_up X 11 (X 11)))) rfl ?_
  exact loop 101 14 (X 11) none rfl rfl hc rfl
set_option maxRecDepth 20000 in
set_option maxHeartbeats 4000000 in
theorem c_S_firstFault (l : Launch) (D : va_G) {cI : ClassId} (t : Nat → Nat) {a : Nat → Nat} (ha : np_inj a 12) {X : np_X} (hc : np_ok (X 11)) : np_C l D cI (np_ad a 12) t (3, 70) y_S_firstFault b_S_firstFault 3 (some .int) [.ref (a 10)] (np_gw a cI X) (some (.int (nI (np_flt (X 11) 0 115)))) (np_gw a cI X) := by
  refine np_Ct.of (np_Sc_St _ _) (by decide) (Nat.le_of_ble_eq_true rfl) ?_
  intro p e s m below meth c C
  refine np_at (vs2 := [some (.ref (a 10)), none, none]) rfl ?_
  have loop : ∀ (n i : Nat) (z : Option Value), i + n = 115 → np_flt (X 11) i n = np_flt (X 11) 0 115 → np_V p l e (np_rm (3, 70)) s m ([.ref (a 10)] : List Value).toArray below meth c 0 0 D np_cls (np_ad a 12) (MQ below (np_Qc D np_cls (np_ad a 12) (some (.int (nI (np_flt (X 11) 0 115)))) (np_gw a cI X)) ([.ref (a 10)] : List Value).toArray s 0 0 (np_ad a 12)) 3 (np_gw a cI X) 2 [some (.ref (a 10)), some (.int (nI i)), z] [] := by
    intro n
    induction n with
    | zero =>
      intro i z hi he
      obtain rfl : i = 115 := by omega
      refine np_iload_n (pc := 2) C d_S_firstFault_2 rfl ?_
      refine np_bipush (pc := 3) (v := 115) C d_S_firstFault_3 (by decide) ?_
      refine np_icmp_ge (pc := 5) (tgt := 35) C (by omega) (by omega) d_S_firstFault_5 rfl (fun h5 => ?_) (fun h5 => ?_)
      · refine np_iconst (pc := 35) (v := 4294967295) C d_S_firstFault_35 (by decide) ?_
        exact np_iret (pc := 36) C d_S_firstFault_36 (by rw [← he]; rfl) (by rfl)
      · exfalso; omega
    | succ n ih =>
      intro i z hi he
      have hcl := np_cel_lt (show i < 115 by omega)
      have hb1 := hc (np_cel i)
      have hb2 := np_due_lt hc (np_cel i)
      refine np_iload_n (pc := 2) C d_S_firstFault_2 rfl ?_
      refine np_bipush (pc := 3) (v := 115) C d_S_firstFault_3 (by decide) ?_
      refine np_icmp_ge (pc := 5) (tgt := 35) C (by omega) (by omega) d_S_firstFault_5 rfl (fun h5 => ?_) (fun h5 => ?_)
      · exfalso; omega
      · refine np_iload_n (pc := 8) C d_S_firstFault_8 rfl ?_
        refine np_cSi (pc := 9) C (c_S_cellOf l D t (by omega)) np_TS_good d_S_firstFault_9 m_167 m_165 m_4 m_166 hd_S_cellOf (by decide) rfl rfl (Nat.le_of_ble_eq_true rfl) ?_
        refine np_istore_n (pc := 12) C d_S_firstFault_12 (by decide) rfl ?_
        refine np_aload_n (pc := 13) C d_S_firstFault_13 rfl ?_
        refine np_get (pc := 14) C 10 0 d_S_firstFault_14 rfl rfl rfl (by decide) hin_S m_69 rfl ?_
        refine np_iload_n (pc := 17) C d_S_firstFault_17 rfl ?_
        refine np_iald (pc := 18) C 11 d_S_firstFault_18 rfl (by omega) (by decide) ?_
        refine np_aload_n (pc := 19) C d_S_firstFault_19 rfl ?_
        refine np_iload_n (pc := 20) C d_S_firstFault_20 rfl ?_
        refine np_cVi (pc := 21) C 10 (c_S_dueIn l D t ha hcl hc) np_TS_good d_S_firstFault_21 rfl rfl m_174 m_171 m_4 m_173 ms_S_dueIn hd_S_dueIn (by decide) rfl rfl (Nat.le_of_ble_eq_true rfl) ?_
        refine np_icmp_eq (pc := 24) (tgt := 29) C (by omega) (by omega) d_S_firstFault_24 rfl (fun h24 => ?_) (fun h24 => ?_)
        · rw [np_flt, if_pos h24] at he
          refine np_iinc (pc := 29) C d_S_firstFault_29 rfl (np_inc1 _) (by decide) rfl ?_
          refine np_goto (pc := 32) (tgt := 2) C d_S_firstFault_32 rfl ?_
          refine np_at (vs2 := [some (.ref (a 10)), some (.int (nI (i + 1))), some (.int (nI (np_cel i)))]) rfl ?_
          exact ih (i + 1) _ (by omega) he
        · rw [np_flt, if_neg h24] at he
          refine np_iload_n (pc := 27) C d_S_firstFault_27 rfl ?_
          exact np_iret (pc := 28) C d_S_firstFault_28 (by exact he) (by rfl)
  refine np_iconst (pc := 0) (v := 0) C d_S_firstFault_0 (by decide) ?_
  refine np_istore_n (pc := 1) C d_S_firstFault_1 (by decide) rfl ?_
  refine np_at (vs2 := [some (.ref (a 10)), some (.int (nI 0)), none]) rfl ?_
  exact loop 115 0 none rfl rfl
end
