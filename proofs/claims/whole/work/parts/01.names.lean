-- ===== PART A: goes FIRST, ahead of the names: the tables' words, and 'selects' of the private methods out of them =====
/-- a private method of a class that the tables say can be made, by its rows of tables_1 -/
def lw_okq (q : MethodName × Nat) : Prop := (q.1.cls ≠ "java/lang/invoke/MethodHandle" ∧ q.1.cls ≠ "java/lang/invoke/VarHandle") ∧ Cond.instantiable q.1.cls q.2 ∈ tables_1 ∧ Cond.privateMethod q.1 ∈ tables_1 ∧ Cond.instanceMethod q.1 ∈ tables_1
theorem lw_p0 : lw_okq (⟨"NotePool$HashTree", "hashUp", "(I)V"⟩, 3) := ⟨⟨by decide +kernel, by decide +kernel⟩, List.mem_of_getElem? (i := 15) (by decide +kernel), List.mem_of_getElem? (i := 21) (by decide +kernel), List.mem_of_getElem? (i := 22) (by decide +kernel)⟩
theorem lw_p1 : lw_okq (⟨"NotePool", "makeNote", "(III)I"⟩, 8) := ⟨⟨by decide +kernel, by decide +kernel⟩, List.mem_of_getElem? (i := 7) (by decide +kernel), List.mem_of_getElem? (i := 125) (by decide +kernel), List.mem_of_getElem? (i := 126) (by decide +kernel)⟩
theorem lw_p2 : lw_okq (⟨"NotePool", "hasNote", "(I)Z"⟩, 8) := ⟨⟨by decide +kernel, by decide +kernel⟩, List.mem_of_getElem? (i := 7) (by decide +kernel), List.mem_of_getElem? (i := 134) (by decide +kernel), List.mem_of_getElem? (i := 135) (by decide +kernel)⟩
theorem lw_p3 : lw_okq (⟨"NotePool", "ownerOfKey", "(I)I"⟩, 8) := ⟨⟨by decide +kernel, by decide +kernel⟩, List.mem_of_getElem? (i := 7) (by decide +kernel), List.mem_of_getElem? (i := 138) (by decide +kernel), List.mem_of_getElem? (i := 139) (by decide +kernel)⟩
theorem lw_p4 : lw_okq (⟨"NotePool$SpendVector", "dueIn", "(I)I"⟩, 1) := ⟨⟨by decide +kernel, by decide +kernel⟩, List.mem_of_getElem? (i := 64) (by decide +kernel), List.mem_of_getElem? (i := 172) (by decide +kernel), List.mem_of_getElem? (i := 173) (by decide +kernel)⟩
theorem lw_p5 : lw_okq (⟨"NotePool$SpendVector", "dueInBlock", "(II)I"⟩, 1) := ⟨⟨by decide +kernel, by decide +kernel⟩, List.mem_of_getElem? (i := 64) (by decide +kernel), List.mem_of_getElem? (i := 176) (by decide +kernel), List.mem_of_getElem? (i := 177) (by decide +kernel)⟩
theorem lw_p6 : lw_okq (⟨"NotePool$SpendVector", "dueRight", "(I)I"⟩, 1) := ⟨⟨by decide +kernel, by decide +kernel⟩, List.mem_of_getElem? (i := 64) (by decide +kernel), List.mem_of_getElem? (i := 187) (by decide +kernel), List.mem_of_getElem? (i := 188) (by decide +kernel)⟩
theorem lw_p7 : lw_okq (⟨"NotePool$SpendVector", "resultOf", "(I)I"⟩, 1) := ⟨⟨by decide +kernel, by decide +kernel⟩, List.mem_of_getElem? (i := 64) (by decide +kernel), List.mem_of_getElem? (i := 191) (by decide +kernel), List.mem_of_getElem? (i := 192) (by decide +kernel)⟩
theorem lw_p8 : lw_okq (⟨"NotePool$SpendVector", "dueLeft", "(I)I"⟩, 1) := ⟨⟨by decide +kernel, by decide +kernel⟩, List.mem_of_getElem? (i := 64) (by decide +kernel), List.mem_of_getElem? (i := 198) (by decide +kernel), List.mem_of_getElem? (i := 199) (by decide +kernel)⟩
theorem lw_p9 : lw_okq (⟨"NotePool$SpendVector", "sumOfBits", "()I"⟩, 1) := ⟨⟨by decide +kernel, by decide +kernel⟩, List.mem_of_getElem? (i := 64) (by decide +kernel), List.mem_of_getElem? (i := 202) (by decide +kernel), List.mem_of_getElem? (i := 203) (by decide +kernel)⟩
theorem lw_p10 : lw_okq (⟨"NotePool", "markOf", "(I)I"⟩, 8) := ⟨⟨by decide +kernel, by decide +kernel⟩, List.mem_of_getElem? (i := 7) (by decide +kernel), List.mem_of_getElem? (i := 266) (by decide +kernel), List.mem_of_getElem? (i := 267) (by decide +kernel)⟩
theorem lw_p11 : lw_okq (⟨"NotePoolModel", "make", "(III)I"⟩, 9) := ⟨⟨by decide +kernel, by decide +kernel⟩, List.mem_of_getElem? (i := 299) (by decide +kernel), List.mem_of_getElem? (i := 365) (by decide +kernel), List.mem_of_getElem? (i := 366) (by decide +kernel)⟩
theorem lw_p12 : lw_okq (⟨"NotePoolModel", "ownerOf", "(I)I"⟩, 9) := ⟨⟨by decide +kernel, by decide +kernel⟩, List.mem_of_getElem? (i := 299) (by decide +kernel), List.mem_of_getElem? (i := 373) (by decide +kernel), List.mem_of_getElem? (i := 374) (by decide +kernel)⟩
theorem lw_p13 : lw_okq (⟨"NotePoolModel", "fill", "(I)V"⟩, 9) := ⟨⟨by decide +kernel, by decide +kernel⟩, List.mem_of_getElem? (i := 299) (by decide +kernel), List.mem_of_getElem? (i := 377) (by decide +kernel), List.mem_of_getElem? (i := 378) (by decide +kernel)⟩
theorem lw_p14 : lw_okq (⟨"NotePoolModel", "due", "(II)I"⟩, 9) := ⟨⟨by decide +kernel, by decide +kernel⟩, List.mem_of_getElem? (i := 299) (by decide +kernel), List.mem_of_getElem? (i := 381) (by decide +kernel), List.mem_of_getElem? (i := 382) (by decide +kernel)⟩
theorem lw_p15 : lw_okq (⟨"NotePoolModel", "input", "(IZ)I"⟩, 9) := ⟨⟨by decide +kernel, by decide +kernel⟩, List.mem_of_getElem? (i := 299) (by decide +kernel), List.mem_of_getElem? (i := 385) (by decide +kernel), List.mem_of_getElem? (i := 386) (by decide +kernel)⟩
def lw_privs_1 : List (MethodName × Nat) := [(⟨"NotePool$HashTree", "hashUp", "(I)V"⟩, 3), (⟨"NotePool", "makeNote", "(III)I"⟩, 8), (⟨"NotePool", "hasNote", "(I)Z"⟩, 8), (⟨"NotePool", "ownerOfKey", "(I)I"⟩, 8), (⟨"NotePool$SpendVector", "dueIn", "(I)I"⟩, 1), (⟨"NotePool$SpendVector", "dueInBlock", "(II)I"⟩, 1), (⟨"NotePool$SpendVector", "dueRight", "(I)I"⟩, 1), (⟨"NotePool$SpendVector", "resultOf", "(I)I"⟩, 1), (⟨"NotePool$SpendVector", "dueLeft", "(I)I"⟩, 1), (⟨"NotePool$SpendVector", "sumOfBits", "()I"⟩, 1), (⟨"NotePool", "markOf", "(I)I"⟩, 8), (⟨"NotePoolModel", "make", "(III)I"⟩, 9), (⟨"NotePoolModel", "ownerOf", "(I)I"⟩, 9), (⟨"NotePoolModel", "fill", "(I)V"⟩, 9), (⟨"NotePoolModel", "due", "(II)I"⟩, 9), (⟨"NotePoolModel", "input", "(IZ)I"⟩, 9)]
theorem lw_r1 : ∀ q ∈ lw_privs_1, lw_okq q := List.forall_mem_cons.mpr ⟨lw_p0, List.forall_mem_cons.mpr ⟨lw_p1, List.forall_mem_cons.mpr ⟨lw_p2, List.forall_mem_cons.mpr ⟨lw_p3, List.forall_mem_cons.mpr ⟨lw_p4, List.forall_mem_cons.mpr ⟨lw_p5, List.forall_mem_cons.mpr ⟨lw_p6, List.forall_mem_cons.mpr ⟨lw_p7, List.forall_mem_cons.mpr ⟨lw_p8, List.forall_mem_cons.mpr ⟨lw_p9, List.forall_mem_cons.mpr ⟨lw_p10, List.forall_mem_cons.mpr ⟨lw_p11, List.forall_mem_cons.mpr ⟨lw_p12, List.forall_mem_cons.mpr ⟨lw_p13, List.forall_mem_cons.mpr ⟨lw_p14, List.forall_mem_cons.mpr ⟨lw_p15, fun _ h => absurd h List.not_mem_nil⟩⟩⟩⟩⟩⟩⟩⟩⟩⟩⟩⟩⟩⟩⟩⟩
theorem lw_p16 : lw_okq (⟨"NotePoolModel", "nodeOf", "(III)I"⟩, 9) := ⟨⟨by decide +kernel, by decide +kernel⟩, List.mem_of_getElem? (i := 299) (by decide +kernel), List.mem_of_getElem? (i := 389) (by decide +kernel), List.mem_of_getElem? (i := 390) (by decide +kernel)⟩
theorem lw_p17 : lw_okq (⟨"NotePoolModel", "leaf", "(I)I"⟩, 9) := ⟨⟨by decide +kernel, by decide +kernel⟩, List.mem_of_getElem? (i := 299) (by decide +kernel), List.mem_of_getElem? (i := 393) (by decide +kernel), List.mem_of_getElem? (i := 394) (by decide +kernel)⟩
theorem lw_p18 : lw_okq (⟨"NotePoolModel", "turned", "(IZ)I"⟩, 9) := ⟨⟨by decide +kernel, by decide +kernel⟩, List.mem_of_getElem? (i := 299) (by decide +kernel), List.mem_of_getElem? (i := 397) (by decide +kernel), List.mem_of_getElem? (i := 398) (by decide +kernel)⟩
theorem lw_p19 : lw_okq (⟨"NotePoolModel", "holds", "(I)Z"⟩, 9) := ⟨⟨by decide +kernel, by decide +kernel⟩, List.mem_of_getElem? (i := 299) (by decide +kernel), List.mem_of_getElem? (i := 405) (by decide +kernel), List.mem_of_getElem? (i := 406) (by decide +kernel)⟩
theorem lw_p20 : lw_okq (⟨"NotePoolModel", "bit", "(I)Z"⟩, 9) := ⟨⟨by decide +kernel, by decide +kernel⟩, List.mem_of_getElem? (i := 299) (by decide +kernel), List.mem_of_getElem? (i := 409) (by decide +kernel), List.mem_of_getElem? (i := 410) (by decide +kernel)⟩
theorem lw_p21 : lw_okq (⟨"NotePoolModel", "sums", "()Z"⟩, 9) := ⟨⟨by decide +kernel, by decide +kernel⟩, List.mem_of_getElem? (i := 299) (by decide +kernel), List.mem_of_getElem? (i := 413) (by decide +kernel), List.mem_of_getElem? (i := 414) (by decide +kernel)⟩
theorem lw_p22 : lw_okq (⟨"NotePoolModel", "nine", "(II)Z"⟩, 9) := ⟨⟨by decide +kernel, by decide +kernel⟩, List.mem_of_getElem? (i := 299) (by decide +kernel), List.mem_of_getElem? (i := 417) (by decide +kernel), List.mem_of_getElem? (i := 418) (by decide +kernel)⟩
theorem lw_p23 : lw_okq (⟨"NotePoolModel", "isRecent", "(I)Z"⟩, 9) := ⟨⟨by decide +kernel, by decide +kernel⟩, List.mem_of_getElem? (i := 299) (by decide +kernel), List.mem_of_getElem? (i := 434) (by decide +kernel), List.mem_of_getElem? (i := 435) (by decide +kernel)⟩
theorem lw_p24 : lw_okq (⟨"NotePoolModel", "isUsed", "(I)Z"⟩, 9) := ⟨⟨by decide +kernel, by decide +kernel⟩, List.mem_of_getElem? (i := 299) (by decide +kernel), List.mem_of_getElem? (i := 442) (by decide +kernel), List.mem_of_getElem? (i := 443) (by decide +kernel)⟩
def lw_privs_2 : List (MethodName × Nat) := [(⟨"NotePoolModel", "nodeOf", "(III)I"⟩, 9), (⟨"NotePoolModel", "leaf", "(I)I"⟩, 9), (⟨"NotePoolModel", "turned", "(IZ)I"⟩, 9), (⟨"NotePoolModel", "holds", "(I)Z"⟩, 9), (⟨"NotePoolModel", "bit", "(I)Z"⟩, 9), (⟨"NotePoolModel", "sums", "()Z"⟩, 9), (⟨"NotePoolModel", "nine", "(II)Z"⟩, 9), (⟨"NotePoolModel", "isRecent", "(I)Z"⟩, 9), (⟨"NotePoolModel", "isUsed", "(I)Z"⟩, 9)]
theorem lw_r2 : ∀ q ∈ lw_privs_2, lw_okq q := List.forall_mem_cons.mpr ⟨lw_p16, List.forall_mem_cons.mpr ⟨lw_p17, List.forall_mem_cons.mpr ⟨lw_p18, List.forall_mem_cons.mpr ⟨lw_p19, List.forall_mem_cons.mpr ⟨lw_p20, List.forall_mem_cons.mpr ⟨lw_p21, List.forall_mem_cons.mpr ⟨lw_p22, List.forall_mem_cons.mpr ⟨lw_p23, List.forall_mem_cons.mpr ⟨lw_p24, fun _ h => absurd h List.not_mem_nil⟩⟩⟩⟩⟩⟩⟩⟩⟩
def lw_privs : List (MethodName × Nat) := lw_privs_1 ++ (lw_privs_2)
def lw_tbl : List Cond := k2_sels lw_privs ++ tables_1
theorem lw_privs_ok : ∀ q ∈ lw_privs, lw_okq q := by
  show ∀ q ∈ lw_privs_1 ++ (lw_privs_2), lw_okq q
  exact List.forall_mem_append.mpr ⟨lw_r1, lw_r2⟩
-- ===== end of PART A; then your names; then what follows =====
/-! ===== my names, by wip/whole/gen/names.py out of the listing ===== -/
abbrev b_P_init : ByteArray := prog_1_method_1_code
def y_P_init : MethodName := ⟨"NotePool", "<init>", "()V"⟩
abbrev b_T_init : ByteArray := prog_2_method_1_code
def y_T_init : MethodName := ⟨"NotePool$HashTree", "<init>", "()V"⟩
abbrev b_T_hashUp : ByteArray := prog_2_method_7_code
def y_T_hashUp : MethodName := ⟨"NotePool$HashTree", "hashUp", "(I)V"⟩
abbrev b_P_hashOf : ByteArray := prog_1_method_31_code
def y_P_hashOf : MethodName := ⟨"NotePool", "hashOf", "(II)I"⟩
abbrev b_P_sum : ByteArray := prog_1_method_28_code
def y_P_sum : MethodName := ⟨"NotePool", "sum", "(II)I"⟩
abbrev b_P_product : ByteArray := prog_1_method_30_code
def y_P_product : MethodName := ⟨"NotePool", "product", "(II)I"⟩
abbrev b_K_init : ByteArray := prog_3_method_1_code
def y_K_init : MethodName := ⟨"NotePool$MarkRow", "<init>", "()V"⟩
abbrev b_S_init : ByteArray := prog_4_method_1_code
def y_S_init : MethodName := ⟨"NotePool$SpendVector", "<init>", "()V"⟩
abbrev b_P_secretOf : ByteArray := prog_1_method_27_code
def y_P_secretOf : MethodName := ⟨"NotePool", "secretOf", "(I)I"⟩
abbrev b_P_hash : ByteArray := prog_1_method_2_code
def y_P_hash : MethodName := ⟨"NotePool", "hash", "(II)I"⟩
abbrev b_P_isNumber : ByteArray := prog_1_method_26_code
def y_P_isNumber : MethodName := ⟨"NotePool", "isNumber", "(I)Z"⟩
abbrev b_P_deposit : ByteArray := prog_1_method_3_code
def y_P_deposit : MethodName := ⟨"NotePool", "deposit", "(III)I"⟩
abbrev b_P_isAccount : ByteArray := prog_1_method_24_code
def y_P_isAccount : MethodName := ⟨"NotePool", "isAccount", "(I)Z"⟩
abbrev b_P_isValue : ByteArray := prog_1_method_25_code
def y_P_isValue : MethodName := ⟨"NotePool", "isValue", "(I)Z"⟩
abbrev b_T_isFull : ByteArray := prog_2_method_2_code
def y_T_isFull : MethodName := ⟨"NotePool$HashTree", "isFull", "()Z"⟩
abbrev b_P_makeNote : ByteArray := prog_1_method_20_code
def y_P_makeNote : MethodName := ⟨"NotePool", "makeNote", "(III)I"⟩
abbrev b_T_append : ByteArray := prog_2_method_3_code
def y_T_append : MethodName := ⟨"NotePool$HashTree", "append", "(I)I"⟩
abbrev b_P_hasNote : ByteArray := prog_1_method_23_code
def y_P_hasNote : MethodName := ⟨"NotePool", "hasNote", "(I)Z"⟩
abbrev b_P_ownerOfKey : ByteArray := prog_1_method_21_code
def y_P_ownerOfKey : MethodName := ⟨"NotePool", "ownerOfKey", "(I)I"⟩
abbrev b_P_load : ByteArray := prog_1_method_4_code
def y_P_load : MethodName := ⟨"NotePool", "load", "(IIIII)I"⟩
abbrev b_S_takeNote : ByteArray := prog_4_method_3_code
def y_S_takeNote : MethodName := ⟨"NotePool$SpendVector", "takeNote", "(III)V"⟩
abbrev b_S_takePayment : ByteArray := prog_4_method_4_code
def y_S_takePayment : MethodName := ⟨"NotePool$SpendVector", "takePayment", "(IIII)V"⟩
abbrev b_S_takePath : ByteArray := prog_4_method_5_code
def y_S_takePath : MethodName := ⟨"NotePool$SpendVector", "takePath", "(ILNotePool$HashTree;)V"⟩
abbrev b_T_nodeAt : ByteArray := prog_2_method_4_code
def y_T_nodeAt : MethodName := ⟨"NotePool$HashTree", "nodeAt", "(II)I"⟩
abbrev b_S_complete : ByteArray := prog_4_method_6_code
def y_S_complete : MethodName := ⟨"NotePool$SpendVector", "complete", "()V"⟩
abbrev b_S_cellOf : ByteArray := prog_4_method_8_code
def y_S_cellOf : MethodName := ⟨"NotePool$SpendVector", "cellOf", "(I)I"⟩
abbrev b_S_cellOnLevel : ByteArray := prog_4_method_9_code
def y_S_cellOnLevel : MethodName := ⟨"NotePool$SpendVector", "cellOnLevel", "(II)I"⟩
abbrev b_S_dueIn : ByteArray := prog_4_method_10_code
def y_S_dueIn : MethodName := ⟨"NotePool$SpendVector", "dueIn", "(I)I"⟩
abbrev b_S_dueInBlock : ByteArray := prog_4_method_14_code
def y_S_dueInBlock : MethodName := ⟨"NotePool$SpendVector", "dueInBlock", "(II)I"⟩
abbrev b_S_dueRight : ByteArray := prog_4_method_13_code
def y_S_dueRight : MethodName := ⟨"NotePool$SpendVector", "dueRight", "(I)I"⟩
abbrev b_S_resultOf : ByteArray := prog_4_method_15_code
def y_S_resultOf : MethodName := ⟨"NotePool$SpendVector", "resultOf", "(I)I"⟩
abbrev b_P_difference : ByteArray := prog_1_method_29_code
def y_P_difference : MethodName := ⟨"NotePool", "difference", "(II)I"⟩
abbrev b_S_dueLeft : ByteArray := prog_4_method_12_code
def y_S_dueLeft : MethodName := ⟨"NotePool$SpendVector", "dueLeft", "(I)I"⟩
abbrev b_S_sumOfBits : ByteArray := prog_4_method_11_code
def y_S_sumOfBits : MethodName := ⟨"NotePool$SpendVector", "sumOfBits", "()I"⟩
abbrev b_S_firstFault : ByteArray := prog_4_method_7_code
def y_S_firstFault : MethodName := ⟨"NotePool$SpendVector", "firstFault", "()I"⟩
abbrev b_P_set : ByteArray := prog_1_method_5_code
def y_P_set : MethodName := ⟨"NotePool", "set", "(II)Z"⟩
abbrev b_S_isCell : ByteArray := prog_4_method_2_code
def y_S_isCell : MethodName := ⟨"NotePool$SpendVector", "isCell", "(I)Z"⟩
abbrev b_P_get : ByteArray := prog_1_method_6_code
def y_P_get : MethodName := ⟨"NotePool", "get", "(I)I"⟩
abbrev b_P_fault : ByteArray := prog_1_method_7_code
def y_P_fault : MethodName := ⟨"NotePool", "fault", "()I"⟩
abbrev b_P_submit : ByteArray := prog_1_method_8_code
def y_P_submit : MethodName := ⟨"NotePool", "submit", "()I"⟩
abbrev b_T_isRecent : ByteArray := prog_2_method_6_code
def y_T_isRecent : MethodName := ⟨"NotePool$HashTree", "isRecent", "(I)Z"⟩
abbrev b_T_recentRoot : ByteArray := prog_2_method_5_code
def y_T_recentRoot : MethodName := ⟨"NotePool$HashTree", "recentRoot", "(I)I"⟩
abbrev b_K_has : ByteArray := prog_3_method_2_code
def y_K_has : MethodName := ⟨"NotePool$MarkRow", "has", "(I)Z"⟩
abbrev b_K_add : ByteArray := prog_3_method_3_code
def y_K_add : MethodName := ⟨"NotePool$MarkRow", "add", "(I)V"⟩
abbrev b_P_notes : ByteArray := prog_1_method_9_code
def y_P_notes : MethodName := ⟨"NotePool", "notes", "()I"⟩
abbrev b_P_commitment : ByteArray := prog_1_method_10_code
def y_P_commitment : MethodName := ⟨"NotePool", "commitment", "(I)I"⟩
abbrev b_P_owner : ByteArray := prog_1_method_11_code
def y_P_owner : MethodName := ⟨"NotePool", "owner", "(I)I"⟩
abbrev b_P_value : ByteArray := prog_1_method_12_code
def y_P_value : MethodName := ⟨"NotePool", "value", "(I)I"⟩
abbrev b_P_unspent : ByteArray := prog_1_method_13_code
def y_P_unspent : MethodName := ⟨"NotePool", "unspent", "(I)Z"⟩
abbrev b_P_markOf : ByteArray := prog_1_method_22_code
def y_P_markOf : MethodName := ⟨"NotePool", "markOf", "(I)I"⟩
abbrev b_P_balance : ByteArray := prog_1_method_14_code
def y_P_balance : MethodName := ⟨"NotePool", "balance", "(I)I"⟩
abbrev b_P_root : ByteArray := prog_1_method_15_code
def y_P_root : MethodName := ⟨"NotePool", "root", "(I)I"⟩
abbrev b_P_node : ByteArray := prog_1_method_16_code
def y_P_node : MethodName := ⟨"NotePool", "node", "(II)I"⟩
abbrev b_P_used : ByteArray := prog_1_method_17_code
def y_P_used : MethodName := ⟨"NotePool", "used", "()I"⟩
abbrev b_P_mark : ByteArray := prog_1_method_18_code
def y_P_mark : MethodName := ⟨"NotePool", "mark", "(I)I"⟩
abbrev b_K_at : ByteArray := prog_3_method_4_code
def y_K_at : MethodName := ⟨"NotePool$MarkRow", "at", "(I)I"⟩
abbrev b_P_pool : ByteArray := prog_1_method_19_code
def y_P_pool : MethodName := ⟨"NotePool", "pool", "()I"⟩
abbrev b_M_init : ByteArray := prog_6_method_1_code
def y_M_init : MethodName := ⟨"NotePoolModel", "<init>", "()V"⟩
abbrev b_M_hash : ByteArray := prog_6_method_8_code
def y_M_hash : MethodName := ⟨"NotePoolModel", "hash", "(II)I"⟩
abbrev b_M_outside : ByteArray := prog_6_method_2_code
def y_M_outside : MethodName := ⟨"NotePoolModel", "outside", "(II)Z"⟩
abbrev b_M_hashed : ByteArray := prog_6_method_7_code
def y_M_hashed : MethodName := ⟨"NotePoolModel", "hashed", "(II)I"⟩
abbrev b_M_salt : ByteArray := prog_6_method_6_code
def y_M_salt : MethodName := ⟨"NotePoolModel", "salt", "(I)I"⟩
abbrev b_M_cubed : ByteArray := prog_6_method_5_code
def y_M_cubed : MethodName := ⟨"NotePoolModel", "cubed", "(J)I"⟩
abbrev b_M_reduced : ByteArray := prog_6_method_3_code
def y_M_reduced : MethodName := ⟨"NotePoolModel", "reduced", "(J)I"⟩
abbrev b_M_times : ByteArray := prog_6_method_4_code
def y_M_times : MethodName := ⟨"NotePoolModel", "times", "(JJ)I"⟩
abbrev b_M_deposit : ByteArray := prog_6_method_15_code
def y_M_deposit : MethodName := ⟨"NotePoolModel", "deposit", "(III)I"⟩
abbrev b_M_accountKey : ByteArray := prog_6_method_9_code
def y_M_accountKey : MethodName := ⟨"NotePoolModel", "accountKey", "(I)I"⟩
abbrev b_M_make : ByteArray := prog_6_method_14_code
def y_M_make : MethodName := ⟨"NotePoolModel", "make", "(III)I"⟩
abbrev b_M_load : ByteArray := prog_6_method_24_code
def y_M_load : MethodName := ⟨"NotePoolModel", "load", "(IIIII)I"⟩
abbrev b_M_ownerOf : ByteArray := prog_6_method_11_code
def y_M_ownerOf : MethodName := ⟨"NotePoolModel", "ownerOf", "(I)I"⟩
abbrev b_M_fill : ByteArray := prog_6_method_23_code
def y_M_fill : MethodName := ⟨"NotePoolModel", "fill", "(I)V"⟩
abbrev b_M_due : ByteArray := prog_6_method_17_code
def y_M_due : MethodName := ⟨"NotePoolModel", "due", "(II)I"⟩
abbrev b_M_input : ByteArray := prog_6_method_16_code
def y_M_input : MethodName := ⟨"NotePoolModel", "input", "(IZ)I"⟩
abbrev b_M_nodeOf : ByteArray := prog_6_method_13_code
def y_M_nodeOf : MethodName := ⟨"NotePoolModel", "nodeOf", "(III)I"⟩
abbrev b_M_leaf : ByteArray := prog_6_method_10_code
def y_M_leaf : MethodName := ⟨"NotePoolModel", "leaf", "(I)I"⟩
abbrev b_M_turned : ByteArray := prog_6_method_18_code
def y_M_turned : MethodName := ⟨"NotePoolModel", "turned", "(IZ)I"⟩
abbrev b_M_fault : ByteArray := prog_6_method_27_code
def y_M_fault : MethodName := ⟨"NotePoolModel", "fault", "()I"⟩
abbrev b_M_holds : ByteArray := prog_6_method_22_code
def y_M_holds : MethodName := ⟨"NotePoolModel", "holds", "(I)Z"⟩
abbrev b_M_bit : ByteArray := prog_6_method_19_code
def y_M_bit : MethodName := ⟨"NotePoolModel", "bit", "(I)Z"⟩
abbrev b_M_sums : ByteArray := prog_6_method_21_code
def y_M_sums : MethodName := ⟨"NotePoolModel", "sums", "()Z"⟩
abbrev b_M_nine : ByteArray := prog_6_method_20_code
def y_M_nine : MethodName := ⟨"NotePoolModel", "nine", "(II)Z"⟩
abbrev b_M_set : ByteArray := prog_6_method_25_code
def y_M_set : MethodName := ⟨"NotePoolModel", "set", "(II)Z"⟩
abbrev b_M_get : ByteArray := prog_6_method_26_code
def y_M_get : MethodName := ⟨"NotePoolModel", "get", "(I)I"⟩
abbrev b_M_submit : ByteArray := prog_6_method_29_code
def y_M_submit : MethodName := ⟨"NotePoolModel", "submit", "()I"⟩
abbrev b_M_isRecent : ByteArray := prog_6_method_28_code
def y_M_isRecent : MethodName := ⟨"NotePoolModel", "isRecent", "(I)Z"⟩
abbrev b_M_root : ByteArray := prog_6_method_36_code
def y_M_root : MethodName := ⟨"NotePoolModel", "root", "(I)I"⟩
abbrev b_M_isUsed : ByteArray := prog_6_method_12_code
def y_M_isUsed : MethodName := ⟨"NotePoolModel", "isUsed", "(I)Z"⟩
abbrev b_M_notes : ByteArray := prog_6_method_30_code
def y_M_notes : MethodName := ⟨"NotePoolModel", "notes", "()I"⟩
abbrev b_M_commitment : ByteArray := prog_6_method_31_code
def y_M_commitment : MethodName := ⟨"NotePoolModel", "commitment", "(I)I"⟩
abbrev b_M_owner : ByteArray := prog_6_method_32_code
def y_M_owner : MethodName := ⟨"NotePoolModel", "owner", "(I)I"⟩
abbrev b_M_value : ByteArray := prog_6_method_33_code
def y_M_value : MethodName := ⟨"NotePoolModel", "value", "(I)I"⟩
abbrev b_M_unspent : ByteArray := prog_6_method_34_code
def y_M_unspent : MethodName := ⟨"NotePoolModel", "unspent", "(I)Z"⟩
abbrev b_M_balance : ByteArray := prog_6_method_35_code
def y_M_balance : MethodName := ⟨"NotePoolModel", "balance", "(I)I"⟩
abbrev b_M_node : ByteArray := prog_6_method_37_code
def y_M_node : MethodName := ⟨"NotePoolModel", "node", "(II)I"⟩
abbrev b_M_used : ByteArray := prog_6_method_38_code
def y_M_used : MethodName := ⟨"NotePoolModel", "used", "()I"⟩
abbrev b_M_mark : ByteArray := prog_6_method_39_code
def y_M_mark : MethodName := ⟨"NotePoolModel", "mark", "(I)I"⟩
abbrev b_M_pool : ByteArray := prog_6_method_40_code
def y_M_pool : MethodName := ⟨"NotePoolModel", "pool", "()I"⟩
def F_P : u_T := fun k => match k with
  | 0 => ("NotePool", "keys", "[I", true)
  | 1 => ("NotePool", "owners", "[I", true)
  | 2 => ("NotePool", "values", "[I", true)
  | 3 => ("NotePool", "nonces", "[I", true)
  | 4 => ("NotePool", "tree", "LNotePool$HashTree;", true)
  | 5 => ("NotePool", "marks", "LNotePool$MarkRow;", true)
  | 6 => ("NotePool", "vector", "LNotePool$SpendVector;", true)
  | _ => ("NotePool", "inPool", "I", false)
def ty_P : Nat → FieldType := fun k => match k with
  | 0 => .array .int
  | 1 => .array .int
  | 2 => .array .int
  | 3 => .array .int
  | 4 => .object "NotePool$HashTree"
  | 5 => .object "NotePool$MarkRow"
  | 6 => .object "NotePool$SpendVector"
  | _ => .int
theorem nm_P : ∀ a, a < 8 → ∀ b, b < 8 → a ≠ b → (F_P a).2.1 ≠ (F_P b).2.1 := by decide +kernel
theorem tyok_P : ∀ k, k < 8 → parseFieldDescriptor (F_P k).2.2.1 = some (ty_P k) := by decide +kernel
def F_T : u_T := fun k => match k with
  | 0 => ("NotePool$HashTree", "nodes", "[I", true)
  | 1 => ("NotePool$HashTree", "rootWithNotes", "[I", true)
  | _ => ("NotePool$HashTree", "count", "I", false)
def ty_T : Nat → FieldType := fun k => match k with
  | 0 => .array .int
  | 1 => .array .int
  | _ => .int
theorem nm_T : ∀ a, a < 3 → ∀ b, b < 3 → a ≠ b → (F_T a).2.1 ≠ (F_T b).2.1 := by decide +kernel
theorem tyok_T : ∀ k, k < 3 → parseFieldDescriptor (F_T k).2.2.1 = some (ty_T k) := by decide +kernel
def F_K : u_T := fun k => match k with
  | 0 => ("NotePool$MarkRow", "sorted", "[I", true)
  | _ => ("NotePool$MarkRow", "count", "I", false)
def ty_K : Nat → FieldType := fun k => match k with
  | 0 => .array .int
  | _ => .int
theorem nm_K : ∀ a, a < 2 → ∀ b, b < 2 → a ≠ b → (F_K a).2.1 ≠ (F_K b).2.1 := by decide +kernel
theorem tyok_K : ∀ k, k < 2 → parseFieldDescriptor (F_K k).2.2.1 = some (ty_K k) := by decide +kernel
def F_S : u_T := fun k => match k with
  | _ => ("NotePool$SpendVector", "cells", "[I", true)
def ty_S : Nat → FieldType := fun k => match k with
  | _ => .array .int
theorem nm_S : ∀ a, a < 1 → ∀ b, b < 1 → a ≠ b → (F_S a).2.1 ≠ (F_S b).2.1 := by decide +kernel
theorem tyok_S : ∀ k, k < 1 → parseFieldDescriptor (F_S k).2.2.1 = some (ty_S k) := by decide +kernel
def F_M : u_T := fun k => match k with
  | 0 => ("NotePoolModel", "count", "I", false)
  | 1 => ("NotePoolModel", "keyOf", "[I", true)
  | 2 => ("NotePoolModel", "valueOf", "[I", true)
  | 3 => ("NotePoolModel", "nonceOf", "[I", true)
  | 4 => ("NotePoolModel", "spent", "I", false)
  | 5 => ("NotePoolModel", "marks", "[I", true)
  | 6 => ("NotePoolModel", "inside", "I", false)
  | 7 => ("NotePoolModel", "cell", "[I", true)
  | _ => ("NotePoolModel", "work", "[I", true)
def ty_M : Nat → FieldType := fun k => match k with
  | 0 => .int
  | 1 => .array .int
  | 2 => .array .int
  | 3 => .array .int
  | 4 => .int
  | 5 => .array .int
  | 6 => .int
  | 7 => .array .int
  | _ => .array .int
theorem nm_M : ∀ a, a < 9 → ∀ b, b < 9 → a ≠ b → (F_M a).2.1 ≠ (F_M b).2.1 := by decide +kernel
theorem tyok_M : ∀ k, k < 9 → parseFieldDescriptor (F_M k).2.2.1 = some (ty_M k) := by decide +kernel
abbrev np_cls : List vw_C := [("NotePool", F_P, 8), ("NotePool$HashTree", F_T, 3), ("NotePool$MarkRow", F_K, 2), ("NotePool$SpendVector", F_S, 1), ("NotePoolModel", F_M, 9)]
/-- the words that are handed on -/
def np_TS : List Cond := lw_tbl.filter goodWord
theorem np_TS_good : ∀ x ∈ np_TS, (x.onTables && x.keeps) = true ∨ ∃ ty, x = .arrayClass ty := fun x hx => good_of_word (List.mem_filter.mp hx).2
theorem np_TS_tbl {x : Cond} (h : x ∈ np_TS) : x ∈ lw_tbl := (List.mem_filter.mp h).1
theorem np_in {x : Cond} (i : Nat) (h : tables_1[i]? = some x) (hg : goodWord x = true) : x ∈ np_TS := List.mem_filter.mpr ⟨List.mem_append_right _ (List.mem_of_getElem? h), hg⟩
theorem np_inS {q : MethodName × Nat} (i : Nat) (h : lw_privs[i]? = some q) (hg : goodWord (.selects q.1.cls q.1 q.1) = true) : Cond.selects q.1.cls q.1 q.1 ∈ np_TS := List.mem_filter.mpr ⟨List.mem_append_left _ (List.mem_map.mpr ⟨q, List.mem_of_getElem? h, rfl⟩), hg⟩
theorem m_0 : (Cond.initialized "NotePoolLaw") ∈ np_TS := np_in 0 (by decide +kernel) (by decide +kernel)
theorem m_1 : (Cond.initialized "NotePool") ∈ np_TS := np_in 1 (by decide +kernel) (by decide +kernel)
theorem m_2 : (Cond.initialized "NotePool$HashTree") ∈ np_TS := np_in 2 (by decide +kernel) (by decide +kernel)
theorem m_3 : (Cond.initialized "NotePool$MarkRow") ∈ np_TS := np_in 3 (by decide +kernel) (by decide +kernel)
theorem m_4 : (Cond.initialized "NotePool$SpendVector") ∈ np_TS := np_in 4 (by decide +kernel) (by decide +kernel)
theorem m_5 : (Cond.initialized "NotePoolModel") ∈ np_TS := np_in 5 (by decide +kernel) (by decide +kernel)
theorem m_6 : (Cond.classLink "NotePoolLaw" 7 "NotePool") ∈ np_TS := np_in 6 (by decide +kernel) (by decide +kernel)
theorem m_7 : (Cond.instantiable "NotePool" 8) ∈ np_TS := np_in 7 (by decide +kernel) (by decide +kernel)
theorem m_8 : (Cond.methodLink "NotePoolLaw" 9 y_P_init) ∈ np_TS := np_in 8 (by decide +kernel) (by decide +kernel)
theorem m_9 : (Cond.instanceMethod y_P_init) ∈ np_TS := np_in 9 (by decide +kernel) (by decide +kernel)
theorem m_10 : (Cond.code y_P_init prog_1_method_1_code 2 none) ∈ np_TS := np_in 10 (by decide +kernel) (by decide +kernel)
theorem m_11 : (Cond.methodLink "NotePool" 1 objectInit) ∈ np_TS := np_in 11 (by decide +kernel) (by decide +kernel)
theorem m_12 : (Cond.instanceMethod objectInit) ∈ np_TS := np_in 12 (by decide +kernel) (by decide +kernel)
theorem m_13 : (Cond.code objectInit ⟨#[0xb1]⟩ 1 none) ∈ np_TS := np_in 13 (by decide +kernel) (by decide +kernel)
theorem m_14 : (Cond.classLink "NotePool" 22 "NotePool$HashTree") ∈ np_TS := np_in 14 (by decide +kernel) (by decide +kernel)
theorem m_15 : (Cond.instantiable "NotePool$HashTree" 3) ∈ np_TS := np_in 15 (by decide +kernel) (by decide +kernel)
theorem m_16 : (Cond.methodLink "NotePool" 24 y_T_init) ∈ np_TS := np_in 16 (by decide +kernel) (by decide +kernel)
theorem m_17 : (Cond.instanceMethod y_T_init) ∈ np_TS := np_in 17 (by decide +kernel) (by decide +kernel)
theorem m_18 : (Cond.code y_T_init prog_2_method_1_code 2 none) ∈ np_TS := np_in 18 (by decide +kernel) (by decide +kernel)
theorem m_19 : (Cond.methodLink "NotePool$HashTree" 3 objectInit) ∈ np_TS := np_in 19 (by decide +kernel) (by decide +kernel)
theorem m_20 : (Cond.methodLink "NotePool$HashTree" 22 y_T_hashUp) ∈ np_TS := np_in 20 (by decide +kernel) (by decide +kernel)
theorem m_22 : (Cond.instanceMethod y_T_hashUp) ∈ np_TS := np_in 22 (by decide +kernel) (by decide +kernel)
theorem m_23 : (Cond.code y_T_hashUp prog_2_method_7_code 2 none) ∈ np_TS := np_in 23 (by decide +kernel) (by decide +kernel)
theorem m_25 : (Cond.static y_P_hashOf) ∈ np_TS := np_in 25 (by decide +kernel) (by decide +kernel)
theorem m_26 : (Cond.code y_P_hashOf prog_1_method_31_code 5 (some .int)) ∈ np_TS := np_in 26 (by decide +kernel) (by decide +kernel)
theorem m_27 : (Cond.fieldLink "NotePool" 136 "NotePool" "SALTS" "[I") ∈ np_TS := np_in 27 (by decide +kernel) (by decide +kernel)
theorem m_29 : (Cond.methodLink "NotePool" 139 y_P_sum) ∈ np_TS := np_in 29 (by decide +kernel) (by decide +kernel)
theorem m_30 : (Cond.static y_P_sum) ∈ np_TS := np_in 30 (by decide +kernel) (by decide +kernel)
theorem m_31 : (Cond.code y_P_sum prog_1_method_28_code 2 (some .int)) ∈ np_TS := np_in 31 (by decide +kernel) (by decide +kernel)
theorem m_32 : (Cond.constant "NotePool" 133 (65537 : Int32)) ∈ np_TS := np_in 32 (by decide +kernel) (by decide +kernel)
theorem m_33 : (Cond.methodLink "NotePool" 142 y_P_product) ∈ np_TS := np_in 33 (by decide +kernel) (by decide +kernel)
theorem m_34 : (Cond.static y_P_product) ∈ np_TS := np_in 34 (by decide +kernel) (by decide +kernel)
theorem m_35 : (Cond.code y_P_product prog_1_method_30_code 2 (some .int)) ∈ np_TS := np_in 35 (by decide +kernel) (by decide +kernel)
theorem m_36 : (Cond.constantLong "NotePool" 134 (65537 : Int64)) ∈ np_TS := np_in 36 (by decide +kernel) (by decide +kernel)
theorem m_37 : (Cond.fieldLink "NotePool$HashTree" 9 "NotePool$HashTree" "nodes" "[I") ∈ np_TS := np_in 37 (by decide +kernel) (by decide +kernel)
theorem m_38 : (Cond.fieldLink "NotePool$HashTree" 15 "NotePool$HashTree" "rootWithNotes" "[I") ∈ np_TS := np_in 38 (by decide +kernel) (by decide +kernel)
theorem m_39 : (Cond.fieldLink "NotePool$HashTree" 18 "NotePool$HashTree" "count" "I") ∈ np_TS := np_in 39 (by decide +kernel) (by decide +kernel)
theorem m_41 : (Cond.laysFinal "NotePool$HashTree" "NotePool$HashTree" "nodes" "[I") ∈ np_TS := np_in 41 (by decide +kernel) (by decide +kernel)
theorem m_43 : (Cond.laysFinal "NotePool$HashTree" "NotePool$HashTree" "rootWithNotes" "[I") ∈ np_TS := np_in 43 (by decide +kernel) (by decide +kernel)
theorem m_45 : (Cond.lays "NotePool$HashTree" "NotePool$HashTree" "count" "I") ∈ np_TS := np_in 45 (by decide +kernel) (by decide +kernel)
theorem m_48 : (Cond.arrayClass .int) ∈ np_TS := np_in 48 (by decide +kernel) (by decide +kernel)
theorem m_49 : (Cond.classLink "NotePool" 29 "NotePool$MarkRow") ∈ np_TS := np_in 49 (by decide +kernel) (by decide +kernel)
theorem m_50 : (Cond.instantiable "NotePool$MarkRow" 2) ∈ np_TS := np_in 50 (by decide +kernel) (by decide +kernel)
theorem m_52 : (Cond.instanceMethod y_K_init) ∈ np_TS := np_in 52 (by decide +kernel) (by decide +kernel)
theorem m_53 : (Cond.code y_K_init prog_3_method_1_code 1 none) ∈ np_TS := np_in 53 (by decide +kernel) (by decide +kernel)
theorem m_54 : (Cond.methodLink "NotePool$MarkRow" 3 objectInit) ∈ np_TS := np_in 54 (by decide +kernel) (by decide +kernel)
theorem m_55 : (Cond.fieldLink "NotePool$MarkRow" 9 "NotePool$MarkRow" "sorted" "[I") ∈ np_TS := np_in 55 (by decide +kernel) (by decide +kernel)
theorem m_56 : (Cond.fieldLink "NotePool$MarkRow" 15 "NotePool$MarkRow" "count" "I") ∈ np_TS := np_in 56 (by decide +kernel) (by decide +kernel)
theorem m_58 : (Cond.laysFinal "NotePool$MarkRow" "NotePool$MarkRow" "sorted" "[I") ∈ np_TS := np_in 58 (by decide +kernel) (by decide +kernel)
theorem m_60 : (Cond.lays "NotePool$MarkRow" "NotePool$MarkRow" "count" "I") ∈ np_TS := np_in 60 (by decide +kernel) (by decide +kernel)
theorem m_63 : (Cond.classLink "NotePool" 36 "NotePool$SpendVector") ∈ np_TS := np_in 63 (by decide +kernel) (by decide +kernel)
theorem m_64 : (Cond.instantiable "NotePool$SpendVector" 1) ∈ np_TS := np_in 64 (by decide +kernel) (by decide +kernel)
theorem m_65 : (Cond.methodLink "NotePool" 38 y_S_init) ∈ np_TS := np_in 65 (by decide +kernel) (by decide +kernel)
theorem m_66 : (Cond.instanceMethod y_S_init) ∈ np_TS := np_in 66 (by decide +kernel) (by decide +kernel)
theorem m_67 : (Cond.code y_S_init prog_4_method_1_code 1 none) ∈ np_TS := np_in 67 (by decide +kernel) (by decide +kernel)
theorem m_68 : (Cond.methodLink "NotePool$SpendVector" 5 objectInit) ∈ np_TS := np_in 68 (by decide +kernel) (by decide +kernel)
theorem m_69 : (Cond.fieldLink "NotePool$SpendVector" 11 "NotePool$SpendVector" "cells" "[I") ∈ np_TS := np_in 69 (by decide +kernel) (by decide +kernel)
theorem m_71 : (Cond.laysFinal "NotePool$SpendVector" "NotePool$SpendVector" "cells" "[I") ∈ np_TS := np_in 71 (by decide +kernel) (by decide +kernel)
theorem m_74 : (Cond.methodLink "NotePool" 47 y_P_secretOf) ∈ np_TS := np_in 74 (by decide +kernel) (by decide +kernel)
theorem m_75 : (Cond.static y_P_secretOf) ∈ np_TS := np_in 75 (by decide +kernel) (by decide +kernel)
theorem m_76 : (Cond.code y_P_secretOf prog_1_method_27_code 1 (some .int)) ∈ np_TS := np_in 76 (by decide +kernel) (by decide +kernel)
theorem m_77 : (Cond.methodLink "NotePool" 51 y_P_hashOf) ∈ np_TS := np_in 77 (by decide +kernel) (by decide +kernel)
theorem m_78 : (Cond.fieldLink "NotePool" 9 "NotePool" "keys" "[I") ∈ np_TS := np_in 78 (by decide +kernel) (by decide +kernel)
theorem m_79 : (Cond.fieldLink "NotePool" 13 "NotePool" "owners" "[I") ∈ np_TS := np_in 79 (by decide +kernel) (by decide +kernel)
theorem m_80 : (Cond.fieldLink "NotePool" 16 "NotePool" "values" "[I") ∈ np_TS := np_in 80 (by decide +kernel) (by decide +kernel)
theorem m_81 : (Cond.fieldLink "NotePool" 19 "NotePool" "nonces" "[I") ∈ np_TS := np_in 81 (by decide +kernel) (by decide +kernel)
theorem m_82 : (Cond.fieldLink "NotePool" 25 "NotePool" "tree" "LNotePool$HashTree;") ∈ np_TS := np_in 82 (by decide +kernel) (by decide +kernel)
theorem m_83 : (Cond.fieldLink "NotePool" 32 "NotePool" "marks" "LNotePool$MarkRow;") ∈ np_TS := np_in 83 (by decide +kernel) (by decide +kernel)
theorem m_84 : (Cond.fieldLink "NotePool" 39 "NotePool" "vector" "LNotePool$SpendVector;") ∈ np_TS := np_in 84 (by decide +kernel) (by decide +kernel)
theorem m_85 : (Cond.fieldLink "NotePool" 43 "NotePool" "inPool" "I") ∈ np_TS := np_in 85 (by decide +kernel) (by decide +kernel)
theorem m_86 : (Cond.laysFinal "NotePool" "NotePool" "keys" "[I") ∈ np_TS := np_in 86 (by decide +kernel) (by decide +kernel)
theorem m_88 : (Cond.laysFinal "NotePool" "NotePool" "owners" "[I") ∈ np_TS := np_in 88 (by decide +kernel) (by decide +kernel)
theorem m_90 : (Cond.laysFinal "NotePool" "NotePool" "values" "[I") ∈ np_TS := np_in 90 (by decide +kernel) (by decide +kernel)
theorem m_92 : (Cond.laysFinal "NotePool" "NotePool" "nonces" "[I") ∈ np_TS := np_in 92 (by decide +kernel) (by decide +kernel)
theorem m_94 : (Cond.laysFinal "NotePool" "NotePool" "tree" "LNotePool$HashTree;") ∈ np_TS := np_in 94 (by decide +kernel) (by decide +kernel)
theorem m_96 : (Cond.laysFinal "NotePool" "NotePool" "marks" "LNotePool$MarkRow;") ∈ np_TS := np_in 96 (by decide +kernel) (by decide +kernel)
theorem m_98 : (Cond.laysFinal "NotePool" "NotePool" "vector" "LNotePool$SpendVector;") ∈ np_TS := np_in 98 (by decide +kernel) (by decide +kernel)
theorem m_100 : (Cond.lays "NotePool" "NotePool" "inPool" "I") ∈ np_TS := np_in 100 (by decide +kernel) (by decide +kernel)
theorem m_103 : (Cond.methodLink "NotePoolLaw" 13 y_P_hash) ∈ np_TS := np_in 103 (by decide +kernel) (by decide +kernel)
theorem m_104 : (Cond.instanceMethod y_P_hash) ∈ np_TS := np_in 104 (by decide +kernel) (by decide +kernel)
theorem m_105 : (Cond.selects "NotePool" y_P_hash y_P_hash) ∈ np_TS := np_in 105 (by decide +kernel) (by decide +kernel)
theorem m_106 : (Cond.code y_P_hash prog_1_method_2_code 3 (some .int)) ∈ np_TS := np_in 106 (by decide +kernel) (by decide +kernel)
theorem m_107 : (Cond.methodLink "NotePool" 55 y_P_isNumber) ∈ np_TS := np_in 107 (by decide +kernel) (by decide +kernel)
theorem m_108 : (Cond.static y_P_isNumber) ∈ np_TS := np_in 108 (by decide +kernel) (by decide +kernel)
theorem m_109 : (Cond.code y_P_isNumber prog_1_method_26_code 1 (some .boolean)) ∈ np_TS := np_in 109 (by decide +kernel) (by decide +kernel)
theorem m_110 : (Cond.methodLink "NotePoolLaw" 18 y_P_deposit) ∈ np_TS := np_in 110 (by decide +kernel) (by decide +kernel)
theorem m_111 : (Cond.instanceMethod y_P_deposit) ∈ np_TS := np_in 111 (by decide +kernel) (by decide +kernel)
theorem m_112 : (Cond.selects "NotePool" y_P_deposit y_P_deposit) ∈ np_TS := np_in 112 (by decide +kernel) (by decide +kernel)
theorem m_113 : (Cond.code y_P_deposit prog_1_method_3_code 4 (some .int)) ∈ np_TS := np_in 113 (by decide +kernel) (by decide +kernel)
theorem m_114 : (Cond.methodLink "NotePool" 59 y_P_isAccount) ∈ np_TS := np_in 114 (by decide +kernel) (by decide +kernel)
theorem m_115 : (Cond.static y_P_isAccount) ∈ np_TS := np_in 115 (by decide +kernel) (by decide +kernel)
theorem m_116 : (Cond.code y_P_isAccount prog_1_method_24_code 1 (some .boolean)) ∈ np_TS := np_in 116 (by decide +kernel) (by decide +kernel)
theorem m_117 : (Cond.methodLink "NotePool" 62 y_P_isValue) ∈ np_TS := np_in 117 (by decide +kernel) (by decide +kernel)
theorem m_118 : (Cond.static y_P_isValue) ∈ np_TS := np_in 118 (by decide +kernel) (by decide +kernel)
theorem m_119 : (Cond.code y_P_isValue prog_1_method_25_code 1 (some .boolean)) ∈ np_TS := np_in 119 (by decide +kernel) (by decide +kernel)
theorem m_120 : (Cond.methodLink "NotePool" 65 y_T_isFull) ∈ np_TS := np_in 120 (by decide +kernel) (by decide +kernel)
theorem m_121 : (Cond.instanceMethod y_T_isFull) ∈ np_TS := np_in 121 (by decide +kernel) (by decide +kernel)
theorem m_122 : (Cond.selects "NotePool$HashTree" y_T_isFull y_T_isFull) ∈ np_TS := np_in 122 (by decide +kernel) (by decide +kernel)
theorem m_123 : (Cond.code y_T_isFull prog_2_method_2_code 1 (some .boolean)) ∈ np_TS := np_in 123 (by decide +kernel) (by decide +kernel)
theorem m_124 : (Cond.methodLink "NotePool" 69 y_P_makeNote) ∈ np_TS := np_in 124 (by decide +kernel) (by decide +kernel)
theorem m_126 : (Cond.instanceMethod y_P_makeNote) ∈ np_TS := np_in 126 (by decide +kernel) (by decide +kernel)
theorem m_127 : (Cond.code y_P_makeNote prog_1_method_20_code 5 (some .int)) ∈ np_TS := np_in 127 (by decide +kernel) (by decide +kernel)
theorem m_128 : (Cond.methodLink "NotePool" 127 y_T_append) ∈ np_TS := np_in 128 (by decide +kernel) (by decide +kernel)
theorem m_129 : (Cond.instanceMethod y_T_append) ∈ np_TS := np_in 129 (by decide +kernel) (by decide +kernel)
theorem m_130 : (Cond.selects "NotePool$HashTree" y_T_append y_T_append) ∈ np_TS := np_in 130 (by decide +kernel) (by decide +kernel)
theorem m_131 : (Cond.code y_T_append prog_2_method_3_code 4 (some .int)) ∈ np_TS := np_in 131 (by decide +kernel) (by decide +kernel)
theorem m_132 : (Cond.methodLink "NotePool$HashTree" 26 y_T_isFull) ∈ np_TS := np_in 132 (by decide +kernel) (by decide +kernel)
theorem m_133 : (Cond.methodLink "NotePool" 73 y_P_hasNote) ∈ np_TS := np_in 133 (by decide +kernel) (by decide +kernel)
theorem m_135 : (Cond.instanceMethod y_P_hasNote) ∈ np_TS := np_in 135 (by decide +kernel) (by decide +kernel)
theorem m_136 : (Cond.code y_P_hasNote prog_1_method_23_code 2 (some .boolean)) ∈ np_TS := np_in 136 (by decide +kernel) (by decide +kernel)
theorem m_137 : (Cond.methodLink "NotePool" 130 y_P_ownerOfKey) ∈ np_TS := np_in 137 (by decide +kernel) (by decide +kernel)
theorem m_139 : (Cond.instanceMethod y_P_ownerOfKey) ∈ np_TS := np_in 139 (by decide +kernel) (by decide +kernel)
theorem m_140 : (Cond.code y_P_ownerOfKey prog_1_method_21_code 3 (some .int)) ∈ np_TS := np_in 140 (by decide +kernel) (by decide +kernel)
theorem m_141 : (Cond.methodLink "NotePoolLaw" 23 y_P_load) ∈ np_TS := np_in 141 (by decide +kernel) (by decide +kernel)
theorem m_142 : (Cond.instanceMethod y_P_load) ∈ np_TS := np_in 142 (by decide +kernel) (by decide +kernel)
theorem m_143 : (Cond.selects "NotePool" y_P_load y_P_load) ∈ np_TS := np_in 143 (by decide +kernel) (by decide +kernel)
theorem m_144 : (Cond.code y_P_load prog_1_method_4_code 6 (some .int)) ∈ np_TS := np_in 144 (by decide +kernel) (by decide +kernel)
theorem m_145 : (Cond.methodLink "NotePool" 76 y_S_takeNote) ∈ np_TS := np_in 145 (by decide +kernel) (by decide +kernel)
theorem m_146 : (Cond.instanceMethod y_S_takeNote) ∈ np_TS := np_in 146 (by decide +kernel) (by decide +kernel)
theorem m_147 : (Cond.selects "NotePool$SpendVector" y_S_takeNote y_S_takeNote) ∈ np_TS := np_in 147 (by decide +kernel) (by decide +kernel)
theorem m_148 : (Cond.code y_S_takeNote prog_4_method_3_code 4 none) ∈ np_TS := np_in 148 (by decide +kernel) (by decide +kernel)
theorem m_149 : (Cond.methodLink "NotePool" 80 y_S_takePayment) ∈ np_TS := np_in 149 (by decide +kernel) (by decide +kernel)
theorem m_150 : (Cond.instanceMethod y_S_takePayment) ∈ np_TS := np_in 150 (by decide +kernel) (by decide +kernel)
theorem m_151 : (Cond.selects "NotePool$SpendVector" y_S_takePayment y_S_takePayment) ∈ np_TS := np_in 151 (by decide +kernel) (by decide +kernel)
theorem m_152 : (Cond.code y_S_takePayment prog_4_method_4_code 6 none) ∈ np_TS := np_in 152 (by decide +kernel) (by decide +kernel)
theorem m_153 : (Cond.methodLink "NotePool" 84 y_S_takePath) ∈ np_TS := np_in 153 (by decide +kernel) (by decide +kernel)
theorem m_154 : (Cond.instanceMethod y_S_takePath) ∈ np_TS := np_in 154 (by decide +kernel) (by decide +kernel)
theorem m_155 : (Cond.selects "NotePool$SpendVector" y_S_takePath y_S_takePath) ∈ np_TS := np_in 155 (by decide +kernel) (by decide +kernel)
theorem m_156 : (Cond.code y_S_takePath prog_4_method_5_code 4 none) ∈ np_TS := np_in 156 (by decide +kernel) (by decide +kernel)
theorem m_157 : (Cond.methodLink "NotePool$SpendVector" 15 y_T_nodeAt) ∈ np_TS := np_in 157 (by decide +kernel) (by decide +kernel)
theorem m_158 : (Cond.instanceMethod y_T_nodeAt) ∈ np_TS := np_in 158 (by decide +kernel) (by decide +kernel)
theorem m_159 : (Cond.selects "NotePool$HashTree" y_T_nodeAt y_T_nodeAt) ∈ np_TS := np_in 159 (by decide +kernel) (by decide +kernel)
theorem m_160 : (Cond.code y_T_nodeAt prog_2_method_4_code 4 (some .int)) ∈ np_TS := np_in 160 (by decide +kernel) (by decide +kernel)
theorem m_161 : (Cond.methodLink "NotePool" 88 y_S_complete) ∈ np_TS := np_in 161 (by decide +kernel) (by decide +kernel)
theorem m_162 : (Cond.instanceMethod y_S_complete) ∈ np_TS := np_in 162 (by decide +kernel) (by decide +kernel)
theorem m_163 : (Cond.selects "NotePool$SpendVector" y_S_complete y_S_complete) ∈ np_TS := np_in 163 (by decide +kernel) (by decide +kernel)
theorem m_164 : (Cond.code y_S_complete prog_4_method_6_code 3 none) ∈ np_TS := np_in 164 (by decide +kernel) (by decide +kernel)
theorem m_165 : (Cond.methodLink "NotePool$SpendVector" 21 y_S_cellOf) ∈ np_TS := np_in 165 (by decide +kernel) (by decide +kernel)
theorem m_166 : (Cond.static y_S_cellOf) ∈ np_TS := np_in 166 (by decide +kernel) (by decide +kernel)
theorem m_167 : (Cond.code y_S_cellOf prog_4_method_8_code 1 (some .int)) ∈ np_TS := np_in 167 (by decide +kernel) (by decide +kernel)
theorem m_168 : (Cond.methodLink "NotePool$SpendVector" 28 y_S_cellOnLevel) ∈ np_TS := np_in 168 (by decide +kernel) (by decide +kernel)
theorem m_169 : (Cond.static y_S_cellOnLevel) ∈ np_TS := np_in 169 (by decide +kernel) (by decide +kernel)
theorem m_170 : (Cond.code y_S_cellOnLevel prog_4_method_9_code 2 (some .int)) ∈ np_TS := np_in 170 (by decide +kernel) (by decide +kernel)
theorem m_171 : (Cond.methodLink "NotePool$SpendVector" 25 y_S_dueIn) ∈ np_TS := np_in 171 (by decide +kernel) (by decide +kernel)
theorem m_173 : (Cond.instanceMethod y_S_dueIn) ∈ np_TS := np_in 173 (by decide +kernel) (by decide +kernel)
theorem m_174 : (Cond.code y_S_dueIn prog_4_method_10_code 2 (some .int)) ∈ np_TS := np_in 174 (by decide +kernel) (by decide +kernel)
theorem m_175 : (Cond.methodLink "NotePool$SpendVector" 31 y_S_dueInBlock) ∈ np_TS := np_in 175 (by decide +kernel) (by decide +kernel)
theorem m_177 : (Cond.instanceMethod y_S_dueInBlock) ∈ np_TS := np_in 177 (by decide +kernel) (by decide +kernel)
theorem m_178 : (Cond.code y_S_dueInBlock prog_4_method_14_code 9 (some .int)) ∈ np_TS := np_in 178 (by decide +kernel) (by decide +kernel)
theorem m_179 : (Cond.fieldLink "NotePool$SpendVector" 56 "NotePool$SpendVector" "FIRST_INPUTS" "[I") ∈ np_TS := np_in 179 (by decide +kernel) (by decide +kernel)
theorem m_181 : (Cond.fieldLink "NotePool$SpendVector" 59 "NotePool$SpendVector" "SECOND_INPUTS" "[I") ∈ np_TS := np_in 181 (by decide +kernel) (by decide +kernel)
theorem m_186 : (Cond.methodLink "NotePool$SpendVector" 37 y_S_dueRight) ∈ np_TS := np_in 186 (by decide +kernel) (by decide +kernel)
theorem m_188 : (Cond.instanceMethod y_S_dueRight) ∈ np_TS := np_in 188 (by decide +kernel) (by decide +kernel)
theorem m_189 : (Cond.code y_S_dueRight prog_4_method_13_code 3 (some .int)) ∈ np_TS := np_in 189 (by decide +kernel) (by decide +kernel)
theorem m_190 : (Cond.methodLink "NotePool$SpendVector" 50 y_S_resultOf) ∈ np_TS := np_in 190 (by decide +kernel) (by decide +kernel)
theorem m_192 : (Cond.instanceMethod y_S_resultOf) ∈ np_TS := np_in 192 (by decide +kernel) (by decide +kernel)
theorem m_193 : (Cond.code y_S_resultOf prog_4_method_15_code 2 (some .int)) ∈ np_TS := np_in 193 (by decide +kernel) (by decide +kernel)
theorem m_195 : (Cond.static y_P_difference) ∈ np_TS := np_in 195 (by decide +kernel) (by decide +kernel)
theorem m_196 : (Cond.code y_P_difference prog_1_method_29_code 2 (some .int)) ∈ np_TS := np_in 196 (by decide +kernel) (by decide +kernel)
theorem m_197 : (Cond.methodLink "NotePool$SpendVector" 40 y_S_dueLeft) ∈ np_TS := np_in 197 (by decide +kernel) (by decide +kernel)
theorem m_199 : (Cond.instanceMethod y_S_dueLeft) ∈ np_TS := np_in 199 (by decide +kernel) (by decide +kernel)
theorem m_200 : (Cond.code y_S_dueLeft prog_4_method_12_code 4 (some .int)) ∈ np_TS := np_in 200 (by decide +kernel) (by decide +kernel)
theorem m_201 : (Cond.methodLink "NotePool$SpendVector" 43 y_S_sumOfBits) ∈ np_TS := np_in 201 (by decide +kernel) (by decide +kernel)
theorem m_203 : (Cond.instanceMethod y_S_sumOfBits) ∈ np_TS := np_in 203 (by decide +kernel) (by decide +kernel)
theorem m_204 : (Cond.code y_S_sumOfBits prog_4_method_11_code 3 (some .int)) ∈ np_TS := np_in 204 (by decide +kernel) (by decide +kernel)
theorem m_205 : (Cond.methodLink "NotePool" 91 y_S_firstFault) ∈ np_TS := np_in 205 (by decide +kernel) (by decide +kernel)
theorem m_206 : (Cond.instanceMethod y_S_firstFault) ∈ np_TS := np_in 206 (by decide +kernel) (by decide +kernel)
theorem m_207 : (Cond.selects "NotePool$SpendVector" y_S_firstFault y_S_firstFault) ∈ np_TS := np_in 207 (by decide +kernel) (by decide +kernel)
theorem m_208 : (Cond.code y_S_firstFault prog_4_method_7_code 3 (some .int)) ∈ np_TS := np_in 208 (by decide +kernel) (by decide +kernel)
theorem m_209 : (Cond.methodLink "NotePoolLaw" 28 y_P_set) ∈ np_TS := np_in 209 (by decide +kernel) (by decide +kernel)
theorem m_210 : (Cond.instanceMethod y_P_set) ∈ np_TS := np_in 210 (by decide +kernel) (by decide +kernel)
theorem m_211 : (Cond.selects "NotePool" y_P_set y_P_set) ∈ np_TS := np_in 211 (by decide +kernel) (by decide +kernel)
theorem m_212 : (Cond.code y_P_set prog_1_method_5_code 3 (some .boolean)) ∈ np_TS := np_in 212 (by decide +kernel) (by decide +kernel)
theorem m_213 : (Cond.methodLink "NotePool" 95 y_S_isCell) ∈ np_TS := np_in 213 (by decide +kernel) (by decide +kernel)
theorem m_214 : (Cond.static y_S_isCell) ∈ np_TS := np_in 214 (by decide +kernel) (by decide +kernel)
theorem m_215 : (Cond.code y_S_isCell prog_4_method_2_code 1 (some .boolean)) ∈ np_TS := np_in 215 (by decide +kernel) (by decide +kernel)
theorem m_216 : (Cond.methodLink "NotePoolLaw" 33 y_P_get) ∈ np_TS := np_in 216 (by decide +kernel) (by decide +kernel)
theorem m_217 : (Cond.instanceMethod y_P_get) ∈ np_TS := np_in 217 (by decide +kernel) (by decide +kernel)
theorem m_218 : (Cond.selects "NotePool" y_P_get y_P_get) ∈ np_TS := np_in 218 (by decide +kernel) (by decide +kernel)
theorem m_219 : (Cond.code y_P_get prog_1_method_6_code 2 (some .int)) ∈ np_TS := np_in 219 (by decide +kernel) (by decide +kernel)
theorem m_220 : (Cond.methodLink "NotePoolLaw" 38 y_P_fault) ∈ np_TS := np_in 220 (by decide +kernel) (by decide +kernel)
theorem m_221 : (Cond.instanceMethod y_P_fault) ∈ np_TS := np_in 221 (by decide +kernel) (by decide +kernel)
theorem m_222 : (Cond.selects "NotePool" y_P_fault y_P_fault) ∈ np_TS := np_in 222 (by decide +kernel) (by decide +kernel)
theorem m_223 : (Cond.code y_P_fault prog_1_method_7_code 1 (some .int)) ∈ np_TS := np_in 223 (by decide +kernel) (by decide +kernel)
theorem m_224 : (Cond.methodLink "NotePoolLaw" 43 y_P_submit) ∈ np_TS := np_in 224 (by decide +kernel) (by decide +kernel)
theorem m_225 : (Cond.instanceMethod y_P_submit) ∈ np_TS := np_in 225 (by decide +kernel) (by decide +kernel)
theorem m_226 : (Cond.selects "NotePool" y_P_submit y_P_submit) ∈ np_TS := np_in 226 (by decide +kernel) (by decide +kernel)
theorem m_227 : (Cond.code y_P_submit prog_1_method_8_code 2 (some .int)) ∈ np_TS := np_in 227 (by decide +kernel) (by decide +kernel)
theorem m_228 : (Cond.methodLink "NotePool" 101 y_T_isRecent) ∈ np_TS := np_in 228 (by decide +kernel) (by decide +kernel)
theorem m_229 : (Cond.instanceMethod y_T_isRecent) ∈ np_TS := np_in 229 (by decide +kernel) (by decide +kernel)
theorem m_230 : (Cond.selects "NotePool$HashTree" y_T_isRecent y_T_isRecent) ∈ np_TS := np_in 230 (by decide +kernel) (by decide +kernel)
theorem m_231 : (Cond.code y_T_isRecent prog_2_method_6_code 3 (some .boolean)) ∈ np_TS := np_in 231 (by decide +kernel) (by decide +kernel)
theorem m_232 : (Cond.methodLink "NotePool$HashTree" 30 y_T_recentRoot) ∈ np_TS := np_in 232 (by decide +kernel) (by decide +kernel)
theorem m_233 : (Cond.instanceMethod y_T_recentRoot) ∈ np_TS := np_in 233 (by decide +kernel) (by decide +kernel)
theorem m_234 : (Cond.selects "NotePool$HashTree" y_T_recentRoot y_T_recentRoot) ∈ np_TS := np_in 234 (by decide +kernel) (by decide +kernel)
theorem m_235 : (Cond.code y_T_recentRoot prog_2_method_5_code 2 (some .int)) ∈ np_TS := np_in 235 (by decide +kernel) (by decide +kernel)
theorem m_236 : (Cond.methodLink "NotePool" 104 y_K_has) ∈ np_TS := np_in 236 (by decide +kernel) (by decide +kernel)
theorem m_237 : (Cond.instanceMethod y_K_has) ∈ np_TS := np_in 237 (by decide +kernel) (by decide +kernel)
theorem m_238 : (Cond.selects "NotePool$MarkRow" y_K_has y_K_has) ∈ np_TS := np_in 238 (by decide +kernel) (by decide +kernel)
theorem m_239 : (Cond.code y_K_has prog_3_method_2_code 3 (some .boolean)) ∈ np_TS := np_in 239 (by decide +kernel) (by decide +kernel)
theorem m_240 : (Cond.methodLink "NotePool" 107 y_K_add) ∈ np_TS := np_in 240 (by decide +kernel) (by decide +kernel)
theorem m_241 : (Cond.instanceMethod y_K_add) ∈ np_TS := np_in 241 (by decide +kernel) (by decide +kernel)
theorem m_242 : (Cond.selects "NotePool$MarkRow" y_K_add y_K_add) ∈ np_TS := np_in 242 (by decide +kernel) (by decide +kernel)
theorem m_243 : (Cond.code y_K_add prog_3_method_3_code 3 none) ∈ np_TS := np_in 243 (by decide +kernel) (by decide +kernel)
theorem m_244 : (Cond.methodLink "NotePoolLaw" 47 y_P_notes) ∈ np_TS := np_in 244 (by decide +kernel) (by decide +kernel)
theorem m_245 : (Cond.instanceMethod y_P_notes) ∈ np_TS := np_in 245 (by decide +kernel) (by decide +kernel)
theorem m_246 : (Cond.selects "NotePool" y_P_notes y_P_notes) ∈ np_TS := np_in 246 (by decide +kernel) (by decide +kernel)
theorem m_247 : (Cond.code y_P_notes prog_1_method_9_code 1 (some .int)) ∈ np_TS := np_in 247 (by decide +kernel) (by decide +kernel)
theorem m_248 : (Cond.methodLink "NotePoolLaw" 51 y_P_commitment) ∈ np_TS := np_in 248 (by decide +kernel) (by decide +kernel)
theorem m_249 : (Cond.instanceMethod y_P_commitment) ∈ np_TS := np_in 249 (by decide +kernel) (by decide +kernel)
theorem m_250 : (Cond.selects "NotePool" y_P_commitment y_P_commitment) ∈ np_TS := np_in 250 (by decide +kernel) (by decide +kernel)
theorem m_251 : (Cond.code y_P_commitment prog_1_method_10_code 2 (some .int)) ∈ np_TS := np_in 251 (by decide +kernel) (by decide +kernel)
theorem m_252 : (Cond.methodLink "NotePool" 114 y_T_nodeAt) ∈ np_TS := np_in 252 (by decide +kernel) (by decide +kernel)
theorem m_253 : (Cond.methodLink "NotePoolLaw" 55 y_P_owner) ∈ np_TS := np_in 253 (by decide +kernel) (by decide +kernel)
theorem m_254 : (Cond.instanceMethod y_P_owner) ∈ np_TS := np_in 254 (by decide +kernel) (by decide +kernel)
theorem m_255 : (Cond.selects "NotePool" y_P_owner y_P_owner) ∈ np_TS := np_in 255 (by decide +kernel) (by decide +kernel)
theorem m_256 : (Cond.code y_P_owner prog_1_method_11_code 2 (some .int)) ∈ np_TS := np_in 256 (by decide +kernel) (by decide +kernel)
theorem m_257 : (Cond.methodLink "NotePoolLaw" 59 y_P_value) ∈ np_TS := np_in 257 (by decide +kernel) (by decide +kernel)
theorem m_258 : (Cond.instanceMethod y_P_value) ∈ np_TS := np_in 258 (by decide +kernel) (by decide +kernel)
theorem m_259 : (Cond.selects "NotePool" y_P_value y_P_value) ∈ np_TS := np_in 259 (by decide +kernel) (by decide +kernel)
theorem m_260 : (Cond.code y_P_value prog_1_method_12_code 2 (some .int)) ∈ np_TS := np_in 260 (by decide +kernel) (by decide +kernel)
theorem m_261 : (Cond.methodLink "NotePoolLaw" 63 y_P_unspent) ∈ np_TS := np_in 261 (by decide +kernel) (by decide +kernel)
theorem m_262 : (Cond.instanceMethod y_P_unspent) ∈ np_TS := np_in 262 (by decide +kernel) (by decide +kernel)
theorem m_263 : (Cond.selects "NotePool" y_P_unspent y_P_unspent) ∈ np_TS := np_in 263 (by decide +kernel) (by decide +kernel)
theorem m_264 : (Cond.code y_P_unspent prog_1_method_13_code 2 (some .boolean)) ∈ np_TS := np_in 264 (by decide +kernel) (by decide +kernel)
theorem m_265 : (Cond.methodLink "NotePool" 117 y_P_markOf) ∈ np_TS := np_in 265 (by decide +kernel) (by decide +kernel)
theorem m_267 : (Cond.instanceMethod y_P_markOf) ∈ np_TS := np_in 267 (by decide +kernel) (by decide +kernel)
theorem m_268 : (Cond.code y_P_markOf prog_1_method_22_code 2 (some .int)) ∈ np_TS := np_in 268 (by decide +kernel) (by decide +kernel)
theorem m_269 : (Cond.methodLink "NotePoolLaw" 68 y_P_balance) ∈ np_TS := np_in 269 (by decide +kernel) (by decide +kernel)
theorem m_270 : (Cond.instanceMethod y_P_balance) ∈ np_TS := np_in 270 (by decide +kernel) (by decide +kernel)
theorem m_271 : (Cond.selects "NotePool" y_P_balance y_P_balance) ∈ np_TS := np_in 271 (by decide +kernel) (by decide +kernel)
theorem m_272 : (Cond.code y_P_balance prog_1_method_14_code 4 (some .int)) ∈ np_TS := np_in 272 (by decide +kernel) (by decide +kernel)
theorem m_273 : (Cond.methodLink "NotePoolLaw" 72 y_P_root) ∈ np_TS := np_in 273 (by decide +kernel) (by decide +kernel)
theorem m_274 : (Cond.instanceMethod y_P_root) ∈ np_TS := np_in 274 (by decide +kernel) (by decide +kernel)
theorem m_275 : (Cond.selects "NotePool" y_P_root y_P_root) ∈ np_TS := np_in 275 (by decide +kernel) (by decide +kernel)
theorem m_276 : (Cond.code y_P_root prog_1_method_15_code 2 (some .int)) ∈ np_TS := np_in 276 (by decide +kernel) (by decide +kernel)
theorem m_277 : (Cond.methodLink "NotePool" 120 y_T_recentRoot) ∈ np_TS := np_in 277 (by decide +kernel) (by decide +kernel)
theorem m_278 : (Cond.methodLink "NotePoolLaw" 76 y_P_node) ∈ np_TS := np_in 278 (by decide +kernel) (by decide +kernel)
theorem m_279 : (Cond.instanceMethod y_P_node) ∈ np_TS := np_in 279 (by decide +kernel) (by decide +kernel)
theorem m_280 : (Cond.selects "NotePool" y_P_node y_P_node) ∈ np_TS := np_in 280 (by decide +kernel) (by decide +kernel)
theorem m_281 : (Cond.code y_P_node prog_1_method_16_code 3 (some .int)) ∈ np_TS := np_in 281 (by decide +kernel) (by decide +kernel)
theorem m_282 : (Cond.methodLink "NotePoolLaw" 80 y_P_used) ∈ np_TS := np_in 282 (by decide +kernel) (by decide +kernel)
theorem m_283 : (Cond.instanceMethod y_P_used) ∈ np_TS := np_in 283 (by decide +kernel) (by decide +kernel)
theorem m_284 : (Cond.selects "NotePool" y_P_used y_P_used) ∈ np_TS := np_in 284 (by decide +kernel) (by decide +kernel)
theorem m_285 : (Cond.code y_P_used prog_1_method_17_code 1 (some .int)) ∈ np_TS := np_in 285 (by decide +kernel) (by decide +kernel)
theorem m_286 : (Cond.methodLink "NotePoolLaw" 84 y_P_mark) ∈ np_TS := np_in 286 (by decide +kernel) (by decide +kernel)
theorem m_287 : (Cond.instanceMethod y_P_mark) ∈ np_TS := np_in 287 (by decide +kernel) (by decide +kernel)
theorem m_288 : (Cond.selects "NotePool" y_P_mark y_P_mark) ∈ np_TS := np_in 288 (by decide +kernel) (by decide +kernel)
theorem m_289 : (Cond.code y_P_mark prog_1_method_18_code 2 (some .int)) ∈ np_TS := np_in 289 (by decide +kernel) (by decide +kernel)
theorem m_290 : (Cond.methodLink "NotePool" 124 y_K_at) ∈ np_TS := np_in 290 (by decide +kernel) (by decide +kernel)
theorem m_291 : (Cond.instanceMethod y_K_at) ∈ np_TS := np_in 291 (by decide +kernel) (by decide +kernel)
theorem m_292 : (Cond.selects "NotePool$MarkRow" y_K_at y_K_at) ∈ np_TS := np_in 292 (by decide +kernel) (by decide +kernel)
theorem m_293 : (Cond.code y_K_at prog_3_method_4_code 2 (some .int)) ∈ np_TS := np_in 293 (by decide +kernel) (by decide +kernel)
theorem m_294 : (Cond.methodLink "NotePoolLaw" 88 y_P_pool) ∈ np_TS := np_in 294 (by decide +kernel) (by decide +kernel)
theorem m_295 : (Cond.instanceMethod y_P_pool) ∈ np_TS := np_in 295 (by decide +kernel) (by decide +kernel)
theorem m_296 : (Cond.selects "NotePool" y_P_pool y_P_pool) ∈ np_TS := np_in 296 (by decide +kernel) (by decide +kernel)
theorem m_297 : (Cond.code y_P_pool prog_1_method_19_code 1 (some .int)) ∈ np_TS := np_in 297 (by decide +kernel) (by decide +kernel)
theorem m_298 : (Cond.classLink "NotePoolLaw" 10 "NotePoolModel") ∈ np_TS := np_in 298 (by decide +kernel) (by decide +kernel)
theorem m_299 : (Cond.instantiable "NotePoolModel" 9) ∈ np_TS := np_in 299 (by decide +kernel) (by decide +kernel)
theorem m_300 : (Cond.methodLink "NotePoolLaw" 12 y_M_init) ∈ np_TS := np_in 300 (by decide +kernel) (by decide +kernel)
theorem m_301 : (Cond.instanceMethod y_M_init) ∈ np_TS := np_in 301 (by decide +kernel) (by decide +kernel)
theorem m_302 : (Cond.code y_M_init prog_6_method_1_code 1 none) ∈ np_TS := np_in 302 (by decide +kernel) (by decide +kernel)
theorem m_303 : (Cond.methodLink "NotePoolModel" 1 objectInit) ∈ np_TS := np_in 303 (by decide +kernel) (by decide +kernel)
theorem m_304 : (Cond.fieldLink "NotePoolModel" 65 "NotePoolModel" "count" "I") ∈ np_TS := np_in 304 (by decide +kernel) (by decide +kernel)
theorem m_305 : (Cond.fieldLink "NotePoolModel" 7 "NotePoolModel" "keyOf" "[I") ∈ np_TS := np_in 305 (by decide +kernel) (by decide +kernel)
theorem m_306 : (Cond.fieldLink "NotePoolModel" 13 "NotePoolModel" "valueOf" "[I") ∈ np_TS := np_in 306 (by decide +kernel) (by decide +kernel)
theorem m_307 : (Cond.fieldLink "NotePoolModel" 16 "NotePoolModel" "nonceOf" "[I") ∈ np_TS := np_in 307 (by decide +kernel) (by decide +kernel)
theorem m_308 : (Cond.fieldLink "NotePoolModel" 58 "NotePoolModel" "spent" "I") ∈ np_TS := np_in 308 (by decide +kernel) (by decide +kernel)
theorem m_309 : (Cond.fieldLink "NotePoolModel" 19 "NotePoolModel" "marks" "[I") ∈ np_TS := np_in 309 (by decide +kernel) (by decide +kernel)
theorem m_310 : (Cond.fieldLink "NotePoolModel" 68 "NotePoolModel" "inside" "I") ∈ np_TS := np_in 310 (by decide +kernel) (by decide +kernel)
theorem m_311 : (Cond.fieldLink "NotePoolModel" 22 "NotePoolModel" "cell" "[I") ∈ np_TS := np_in 311 (by decide +kernel) (by decide +kernel)
theorem m_312 : (Cond.fieldLink "NotePoolModel" 25 "NotePoolModel" "work" "[I") ∈ np_TS := np_in 312 (by decide +kernel) (by decide +kernel)
theorem m_313 : (Cond.lays "NotePoolModel" "NotePoolModel" "count" "I") ∈ np_TS := np_in 313 (by decide +kernel) (by decide +kernel)
theorem m_315 : (Cond.laysFinal "NotePoolModel" "NotePoolModel" "keyOf" "[I") ∈ np_TS := np_in 315 (by decide +kernel) (by decide +kernel)
theorem m_317 : (Cond.laysFinal "NotePoolModel" "NotePoolModel" "valueOf" "[I") ∈ np_TS := np_in 317 (by decide +kernel) (by decide +kernel)
theorem m_319 : (Cond.laysFinal "NotePoolModel" "NotePoolModel" "nonceOf" "[I") ∈ np_TS := np_in 319 (by decide +kernel) (by decide +kernel)
theorem m_321 : (Cond.lays "NotePoolModel" "NotePoolModel" "spent" "I") ∈ np_TS := np_in 321 (by decide +kernel) (by decide +kernel)
theorem m_323 : (Cond.laysFinal "NotePoolModel" "NotePoolModel" "marks" "[I") ∈ np_TS := np_in 323 (by decide +kernel) (by decide +kernel)
theorem m_325 : (Cond.lays "NotePoolModel" "NotePoolModel" "inside" "I") ∈ np_TS := np_in 325 (by decide +kernel) (by decide +kernel)
theorem m_327 : (Cond.laysFinal "NotePoolModel" "NotePoolModel" "cell" "[I") ∈ np_TS := np_in 327 (by decide +kernel) (by decide +kernel)
theorem m_329 : (Cond.laysFinal "NotePoolModel" "NotePoolModel" "work" "[I") ∈ np_TS := np_in 329 (by decide +kernel) (by decide +kernel)
theorem m_332 : (Cond.methodLink "NotePoolLaw" 17 y_M_hash) ∈ np_TS := np_in 332 (by decide +kernel) (by decide +kernel)
theorem m_333 : (Cond.instanceMethod y_M_hash) ∈ np_TS := np_in 333 (by decide +kernel) (by decide +kernel)
theorem m_334 : (Cond.selects "NotePoolModel" y_M_hash y_M_hash) ∈ np_TS := np_in 334 (by decide +kernel) (by decide +kernel)
theorem m_335 : (Cond.code y_M_hash prog_6_method_8_code 3 (some .int)) ∈ np_TS := np_in 335 (by decide +kernel) (by decide +kernel)
theorem m_336 : (Cond.constant "NotePoolModel" 46 (65536 : Int32)) ∈ np_TS := np_in 336 (by decide +kernel) (by decide +kernel)
theorem m_337 : (Cond.methodLink "NotePoolModel" 47 y_M_outside) ∈ np_TS := np_in 337 (by decide +kernel) (by decide +kernel)
theorem m_338 : (Cond.static y_M_outside) ∈ np_TS := np_in 338 (by decide +kernel) (by decide +kernel)
theorem m_339 : (Cond.code y_M_outside prog_6_method_2_code 2 (some .boolean)) ∈ np_TS := np_in 339 (by decide +kernel) (by decide +kernel)
theorem m_340 : (Cond.methodLink "NotePoolModel" 51 y_M_hashed) ∈ np_TS := np_in 340 (by decide +kernel) (by decide +kernel)
theorem m_341 : (Cond.static y_M_hashed) ∈ np_TS := np_in 341 (by decide +kernel) (by decide +kernel)
theorem m_342 : (Cond.code y_M_hashed prog_6_method_7_code 4 (some .int)) ∈ np_TS := np_in 342 (by decide +kernel) (by decide +kernel)
theorem m_343 : (Cond.methodLink "NotePoolModel" 39 y_M_salt) ∈ np_TS := np_in 343 (by decide +kernel) (by decide +kernel)
theorem m_344 : (Cond.static y_M_salt) ∈ np_TS := np_in 344 (by decide +kernel) (by decide +kernel)
theorem m_345 : (Cond.code y_M_salt prog_6_method_6_code 1 (some .int)) ∈ np_TS := np_in 345 (by decide +kernel) (by decide +kernel)
theorem m_346 : (Cond.constant "NotePoolModel" 38 (44444 : Int32)) ∈ np_TS := np_in 346 (by decide +kernel) (by decide +kernel)
theorem m_347 : (Cond.methodLink "NotePoolModel" 43 y_M_cubed) ∈ np_TS := np_in 347 (by decide +kernel) (by decide +kernel)
theorem m_348 : (Cond.static y_M_cubed) ∈ np_TS := np_in 348 (by decide +kernel) (by decide +kernel)
theorem m_349 : (Cond.code y_M_cubed prog_6_method_5_code 4 (some .int)) ∈ np_TS := np_in 349 (by decide +kernel) (by decide +kernel)
theorem m_350 : (Cond.methodLink "NotePoolModel" 30 y_M_reduced) ∈ np_TS := np_in 350 (by decide +kernel) (by decide +kernel)
theorem m_351 : (Cond.static y_M_reduced) ∈ np_TS := np_in 351 (by decide +kernel) (by decide +kernel)
theorem m_352 : (Cond.code y_M_reduced prog_6_method_3_code 4 (some .int)) ∈ np_TS := np_in 352 (by decide +kernel) (by decide +kernel)
theorem m_353 : (Cond.constantLong "NotePoolModel" 28 (65537 : Int64)) ∈ np_TS := np_in 353 (by decide +kernel) (by decide +kernel)
theorem m_354 : (Cond.methodLink "NotePoolModel" 34 y_M_times) ∈ np_TS := np_in 354 (by decide +kernel) (by decide +kernel)
theorem m_355 : (Cond.static y_M_times) ∈ np_TS := np_in 355 (by decide +kernel) (by decide +kernel)
theorem m_356 : (Cond.code y_M_times prog_6_method_4_code 4 (some .int)) ∈ np_TS := np_in 356 (by decide +kernel) (by decide +kernel)
theorem m_357 : (Cond.methodLink "NotePoolLaw" 22 y_M_deposit) ∈ np_TS := np_in 357 (by decide +kernel) (by decide +kernel)
theorem m_358 : (Cond.instanceMethod y_M_deposit) ∈ np_TS := np_in 358 (by decide +kernel) (by decide +kernel)
theorem m_359 : (Cond.selects "NotePoolModel" y_M_deposit y_M_deposit) ∈ np_TS := np_in 359 (by decide +kernel) (by decide +kernel)
theorem m_360 : (Cond.code y_M_deposit prog_6_method_15_code 5 (some .int)) ∈ np_TS := np_in 360 (by decide +kernel) (by decide +kernel)
theorem m_361 : (Cond.methodLink "NotePoolModel" 55 y_M_accountKey) ∈ np_TS := np_in 361 (by decide +kernel) (by decide +kernel)
theorem m_362 : (Cond.static y_M_accountKey) ∈ np_TS := np_in 362 (by decide +kernel) (by decide +kernel)
theorem m_363 : (Cond.code y_M_accountKey prog_6_method_9_code 1 (some .int)) ∈ np_TS := np_in 363 (by decide +kernel) (by decide +kernel)
theorem m_364 : (Cond.methodLink "NotePoolModel" 71 y_M_make) ∈ np_TS := np_in 364 (by decide +kernel) (by decide +kernel)
theorem m_366 : (Cond.instanceMethod y_M_make) ∈ np_TS := np_in 366 (by decide +kernel) (by decide +kernel)
theorem m_367 : (Cond.code y_M_make prog_6_method_14_code 4 (some .int)) ∈ np_TS := np_in 367 (by decide +kernel) (by decide +kernel)
theorem m_368 : (Cond.methodLink "NotePoolLaw" 27 y_M_load) ∈ np_TS := np_in 368 (by decide +kernel) (by decide +kernel)
theorem m_369 : (Cond.instanceMethod y_M_load) ∈ np_TS := np_in 369 (by decide +kernel) (by decide +kernel)
theorem m_370 : (Cond.selects "NotePoolModel" y_M_load y_M_load) ∈ np_TS := np_in 370 (by decide +kernel) (by decide +kernel)
theorem m_371 : (Cond.code y_M_load prog_6_method_24_code 9 (some .int)) ∈ np_TS := np_in 371 (by decide +kernel) (by decide +kernel)
theorem m_372 : (Cond.methodLink "NotePoolModel" 96 y_M_ownerOf) ∈ np_TS := np_in 372 (by decide +kernel) (by decide +kernel)
theorem m_374 : (Cond.instanceMethod y_M_ownerOf) ∈ np_TS := np_in 374 (by decide +kernel) (by decide +kernel)
theorem m_375 : (Cond.code y_M_ownerOf prog_6_method_11_code 3 (some .int)) ∈ np_TS := np_in 375 (by decide +kernel) (by decide +kernel)
theorem m_376 : (Cond.methodLink "NotePoolModel" 99 y_M_fill) ∈ np_TS := np_in 376 (by decide +kernel) (by decide +kernel)
theorem m_378 : (Cond.instanceMethod y_M_fill) ∈ np_TS := np_in 378 (by decide +kernel) (by decide +kernel)
theorem m_379 : (Cond.code y_M_fill prog_6_method_23_code 3 none) ∈ np_TS := np_in 379 (by decide +kernel) (by decide +kernel)
theorem m_380 : (Cond.methodLink "NotePoolModel" 79 y_M_due) ∈ np_TS := np_in 380 (by decide +kernel) (by decide +kernel)
theorem m_382 : (Cond.instanceMethod y_M_due) ∈ np_TS := np_in 382 (by decide +kernel) (by decide +kernel)
theorem m_383 : (Cond.code y_M_due prog_6_method_17_code 12 (some .int)) ∈ np_TS := np_in 383 (by decide +kernel) (by decide +kernel)
theorem m_384 : (Cond.methodLink "NotePoolModel" 75 y_M_input) ∈ np_TS := np_in 384 (by decide +kernel) (by decide +kernel)
theorem m_386 : (Cond.instanceMethod y_M_input) ∈ np_TS := np_in 386 (by decide +kernel) (by decide +kernel)
theorem m_387 : (Cond.code y_M_input prog_6_method_16_code 3 (some .int)) ∈ np_TS := np_in 387 (by decide +kernel) (by decide +kernel)
theorem m_388 : (Cond.methodLink "NotePoolModel" 103 y_M_nodeOf) ∈ np_TS := np_in 388 (by decide +kernel) (by decide +kernel)
theorem m_390 : (Cond.instanceMethod y_M_nodeOf) ∈ np_TS := np_in 390 (by decide +kernel) (by decide +kernel)
theorem m_391 : (Cond.code y_M_nodeOf prog_6_method_13_code 7 (some .int)) ∈ np_TS := np_in 391 (by decide +kernel) (by decide +kernel)
theorem m_392 : (Cond.methodLink "NotePoolModel" 62 y_M_leaf) ∈ np_TS := np_in 392 (by decide +kernel) (by decide +kernel)
theorem m_394 : (Cond.instanceMethod y_M_leaf) ∈ np_TS := np_in 394 (by decide +kernel) (by decide +kernel)
theorem m_395 : (Cond.code y_M_leaf prog_6_method_10_code 3 (some .int)) ∈ np_TS := np_in 395 (by decide +kernel) (by decide +kernel)
theorem m_396 : (Cond.methodLink "NotePoolModel" 93 y_M_turned) ∈ np_TS := np_in 396 (by decide +kernel) (by decide +kernel)
theorem m_398 : (Cond.instanceMethod y_M_turned) ∈ np_TS := np_in 398 (by decide +kernel) (by decide +kernel)
theorem m_399 : (Cond.code y_M_turned prog_6_method_18_code 8 (some .int)) ∈ np_TS := np_in 399 (by decide +kernel) (by decide +kernel)
theorem m_400 : (Cond.methodLink "NotePoolModel" 106 y_M_fault) ∈ np_TS := np_in 400 (by decide +kernel) (by decide +kernel)
theorem m_401 : (Cond.instanceMethod y_M_fault) ∈ np_TS := np_in 401 (by decide +kernel) (by decide +kernel)
theorem m_402 : (Cond.selects "NotePoolModel" y_M_fault y_M_fault) ∈ np_TS := np_in 402 (by decide +kernel) (by decide +kernel)
theorem m_403 : (Cond.code y_M_fault prog_6_method_27_code 2 (some .int)) ∈ np_TS := np_in 403 (by decide +kernel) (by decide +kernel)
theorem m_404 : (Cond.methodLink "NotePoolModel" 110 y_M_holds) ∈ np_TS := np_in 404 (by decide +kernel) (by decide +kernel)
theorem m_406 : (Cond.instanceMethod y_M_holds) ∈ np_TS := np_in 406 (by decide +kernel) (by decide +kernel)
theorem m_407 : (Cond.code y_M_holds prog_6_method_22_code 5 (some .boolean)) ∈ np_TS := np_in 407 (by decide +kernel) (by decide +kernel)
theorem m_408 : (Cond.methodLink "NotePoolModel" 82 y_M_bit) ∈ np_TS := np_in 408 (by decide +kernel) (by decide +kernel)
theorem m_410 : (Cond.instanceMethod y_M_bit) ∈ np_TS := np_in 410 (by decide +kernel) (by decide +kernel)
theorem m_411 : (Cond.code y_M_bit prog_6_method_19_code 2 (some .boolean)) ∈ np_TS := np_in 411 (by decide +kernel) (by decide +kernel)
theorem m_412 : (Cond.methodLink "NotePoolModel" 86 y_M_sums) ∈ np_TS := np_in 412 (by decide +kernel) (by decide +kernel)
theorem m_414 : (Cond.instanceMethod y_M_sums) ∈ np_TS := np_in 414 (by decide +kernel) (by decide +kernel)
theorem m_415 : (Cond.code y_M_sums prog_6_method_21_code 4 (some .boolean)) ∈ np_TS := np_in 415 (by decide +kernel) (by decide +kernel)
theorem m_416 : (Cond.methodLink "NotePoolModel" 90 y_M_nine) ∈ np_TS := np_in 416 (by decide +kernel) (by decide +kernel)
theorem m_418 : (Cond.instanceMethod y_M_nine) ∈ np_TS := np_in 418 (by decide +kernel) (by decide +kernel)
theorem m_419 : (Cond.code y_M_nine prog_6_method_20_code 3 (some .boolean)) ∈ np_TS := np_in 419 (by decide +kernel) (by decide +kernel)
theorem m_420 : (Cond.methodLink "NotePoolLaw" 32 y_M_set) ∈ np_TS := np_in 420 (by decide +kernel) (by decide +kernel)
theorem m_421 : (Cond.instanceMethod y_M_set) ∈ np_TS := np_in 421 (by decide +kernel) (by decide +kernel)
theorem m_422 : (Cond.selects "NotePoolModel" y_M_set y_M_set) ∈ np_TS := np_in 422 (by decide +kernel) (by decide +kernel)
theorem m_423 : (Cond.code y_M_set prog_6_method_25_code 3 (some .boolean)) ∈ np_TS := np_in 423 (by decide +kernel) (by decide +kernel)
theorem m_424 : (Cond.methodLink "NotePoolLaw" 37 y_M_get) ∈ np_TS := np_in 424 (by decide +kernel) (by decide +kernel)
theorem m_425 : (Cond.instanceMethod y_M_get) ∈ np_TS := np_in 425 (by decide +kernel) (by decide +kernel)
theorem m_426 : (Cond.selects "NotePoolModel" y_M_get y_M_get) ∈ np_TS := np_in 426 (by decide +kernel) (by decide +kernel)
theorem m_427 : (Cond.code y_M_get prog_6_method_26_code 2 (some .int)) ∈ np_TS := np_in 427 (by decide +kernel) (by decide +kernel)
theorem m_428 : (Cond.methodLink "NotePoolLaw" 42 y_M_fault) ∈ np_TS := np_in 428 (by decide +kernel) (by decide +kernel)
theorem m_429 : (Cond.methodLink "NotePoolLaw" 46 y_M_submit) ∈ np_TS := np_in 429 (by decide +kernel) (by decide +kernel)
theorem m_430 : (Cond.instanceMethod y_M_submit) ∈ np_TS := np_in 430 (by decide +kernel) (by decide +kernel)
theorem m_431 : (Cond.selects "NotePoolModel" y_M_submit y_M_submit) ∈ np_TS := np_in 431 (by decide +kernel) (by decide +kernel)
theorem m_432 : (Cond.code y_M_submit prog_6_method_29_code 1 (some .int)) ∈ np_TS := np_in 432 (by decide +kernel) (by decide +kernel)
theorem m_433 : (Cond.methodLink "NotePoolModel" 116 y_M_isRecent) ∈ np_TS := np_in 433 (by decide +kernel) (by decide +kernel)
theorem m_435 : (Cond.instanceMethod y_M_isRecent) ∈ np_TS := np_in 435 (by decide +kernel) (by decide +kernel)
theorem m_436 : (Cond.code y_M_isRecent prog_6_method_28_code 3 (some .boolean)) ∈ np_TS := np_in 436 (by decide +kernel) (by decide +kernel)
theorem m_437 : (Cond.methodLink "NotePoolModel" 113 y_M_root) ∈ np_TS := np_in 437 (by decide +kernel) (by decide +kernel)
theorem m_438 : (Cond.instanceMethod y_M_root) ∈ np_TS := np_in 438 (by decide +kernel) (by decide +kernel)
theorem m_439 : (Cond.selects "NotePoolModel" y_M_root y_M_root) ∈ np_TS := np_in 439 (by decide +kernel) (by decide +kernel)
theorem m_440 : (Cond.code y_M_root prog_6_method_36_code 2 (some .int)) ∈ np_TS := np_in 440 (by decide +kernel) (by decide +kernel)
theorem m_441 : (Cond.methodLink "NotePoolModel" 119 y_M_isUsed) ∈ np_TS := np_in 441 (by decide +kernel) (by decide +kernel)
theorem m_443 : (Cond.instanceMethod y_M_isUsed) ∈ np_TS := np_in 443 (by decide +kernel) (by decide +kernel)
theorem m_444 : (Cond.code y_M_isUsed prog_6_method_12_code 3 (some .boolean)) ∈ np_TS := np_in 444 (by decide +kernel) (by decide +kernel)
theorem m_445 : (Cond.methodLink "NotePoolLaw" 50 y_M_notes) ∈ np_TS := np_in 445 (by decide +kernel) (by decide +kernel)
theorem m_446 : (Cond.instanceMethod y_M_notes) ∈ np_TS := np_in 446 (by decide +kernel) (by decide +kernel)
theorem m_447 : (Cond.selects "NotePoolModel" y_M_notes y_M_notes) ∈ np_TS := np_in 447 (by decide +kernel) (by decide +kernel)
theorem m_448 : (Cond.code y_M_notes prog_6_method_30_code 1 (some .int)) ∈ np_TS := np_in 448 (by decide +kernel) (by decide +kernel)
theorem m_449 : (Cond.methodLink "NotePoolLaw" 54 y_M_commitment) ∈ np_TS := np_in 449 (by decide +kernel) (by decide +kernel)
theorem m_450 : (Cond.instanceMethod y_M_commitment) ∈ np_TS := np_in 450 (by decide +kernel) (by decide +kernel)
theorem m_451 : (Cond.selects "NotePoolModel" y_M_commitment y_M_commitment) ∈ np_TS := np_in 451 (by decide +kernel) (by decide +kernel)
theorem m_452 : (Cond.code y_M_commitment prog_6_method_31_code 2 (some .int)) ∈ np_TS := np_in 452 (by decide +kernel) (by decide +kernel)
theorem m_453 : (Cond.methodLink "NotePoolLaw" 58 y_M_owner) ∈ np_TS := np_in 453 (by decide +kernel) (by decide +kernel)
theorem m_454 : (Cond.instanceMethod y_M_owner) ∈ np_TS := np_in 454 (by decide +kernel) (by decide +kernel)
theorem m_455 : (Cond.selects "NotePoolModel" y_M_owner y_M_owner) ∈ np_TS := np_in 455 (by decide +kernel) (by decide +kernel)
theorem m_456 : (Cond.code y_M_owner prog_6_method_32_code 2 (some .int)) ∈ np_TS := np_in 456 (by decide +kernel) (by decide +kernel)
theorem m_457 : (Cond.methodLink "NotePoolLaw" 62 y_M_value) ∈ np_TS := np_in 457 (by decide +kernel) (by decide +kernel)
theorem m_458 : (Cond.instanceMethod y_M_value) ∈ np_TS := np_in 458 (by decide +kernel) (by decide +kernel)
theorem m_459 : (Cond.selects "NotePoolModel" y_M_value y_M_value) ∈ np_TS := np_in 459 (by decide +kernel) (by decide +kernel)
theorem m_460 : (Cond.code y_M_value prog_6_method_33_code 2 (some .int)) ∈ np_TS := np_in 460 (by decide +kernel) (by decide +kernel)
theorem m_461 : (Cond.methodLink "NotePoolLaw" 67 y_M_unspent) ∈ np_TS := np_in 461 (by decide +kernel) (by decide +kernel)
theorem m_462 : (Cond.instanceMethod y_M_unspent) ∈ np_TS := np_in 462 (by decide +kernel) (by decide +kernel)
theorem m_463 : (Cond.selects "NotePoolModel" y_M_unspent y_M_unspent) ∈ np_TS := np_in 463 (by decide +kernel) (by decide +kernel)
theorem m_464 : (Cond.code y_M_unspent prog_6_method_34_code 4 (some .boolean)) ∈ np_TS := np_in 464 (by decide +kernel) (by decide +kernel)
theorem m_465 : (Cond.methodLink "NotePoolLaw" 71 y_M_balance) ∈ np_TS := np_in 465 (by decide +kernel) (by decide +kernel)
theorem m_466 : (Cond.instanceMethod y_M_balance) ∈ np_TS := np_in 466 (by decide +kernel) (by decide +kernel)
theorem m_467 : (Cond.selects "NotePoolModel" y_M_balance y_M_balance) ∈ np_TS := np_in 467 (by decide +kernel) (by decide +kernel)
theorem m_468 : (Cond.code y_M_balance prog_6_method_35_code 4 (some .int)) ∈ np_TS := np_in 468 (by decide +kernel) (by decide +kernel)
theorem m_469 : (Cond.methodLink "NotePoolModel" 122 y_M_unspent) ∈ np_TS := np_in 469 (by decide +kernel) (by decide +kernel)
theorem m_470 : (Cond.methodLink "NotePoolLaw" 75 y_M_root) ∈ np_TS := np_in 470 (by decide +kernel) (by decide +kernel)
theorem m_471 : (Cond.methodLink "NotePoolLaw" 79 y_M_node) ∈ np_TS := np_in 471 (by decide +kernel) (by decide +kernel)
theorem m_472 : (Cond.instanceMethod y_M_node) ∈ np_TS := np_in 472 (by decide +kernel) (by decide +kernel)
theorem m_473 : (Cond.selects "NotePoolModel" y_M_node y_M_node) ∈ np_TS := np_in 473 (by decide +kernel) (by decide +kernel)
theorem m_474 : (Cond.code y_M_node prog_6_method_37_code 3 (some .int)) ∈ np_TS := np_in 474 (by decide +kernel) (by decide +kernel)
theorem m_475 : (Cond.methodLink "NotePoolLaw" 83 y_M_used) ∈ np_TS := np_in 475 (by decide +kernel) (by decide +kernel)
theorem m_476 : (Cond.instanceMethod y_M_used) ∈ np_TS := np_in 476 (by decide +kernel) (by decide +kernel)
theorem m_477 : (Cond.selects "NotePoolModel" y_M_used y_M_used) ∈ np_TS := np_in 477 (by decide +kernel) (by decide +kernel)
theorem m_478 : (Cond.code y_M_used prog_6_method_38_code 1 (some .int)) ∈ np_TS := np_in 478 (by decide +kernel) (by decide +kernel)
theorem m_479 : (Cond.methodLink "NotePoolLaw" 87 y_M_mark) ∈ np_TS := np_in 479 (by decide +kernel) (by decide +kernel)
theorem m_480 : (Cond.instanceMethod y_M_mark) ∈ np_TS := np_in 480 (by decide +kernel) (by decide +kernel)
theorem m_481 : (Cond.selects "NotePoolModel" y_M_mark y_M_mark) ∈ np_TS := np_in 481 (by decide +kernel) (by decide +kernel)
theorem m_482 : (Cond.code y_M_mark prog_6_method_39_code 5 (some .int)) ∈ np_TS := np_in 482 (by decide +kernel) (by decide +kernel)
theorem m_483 : (Cond.methodLink "NotePoolLaw" 91 y_M_pool) ∈ np_TS := np_in 483 (by decide +kernel) (by decide +kernel)
theorem m_484 : (Cond.instanceMethod y_M_pool) ∈ np_TS := np_in 484 (by decide +kernel) (by decide +kernel)
theorem m_485 : (Cond.selects "NotePoolModel" y_M_pool y_M_pool) ∈ np_TS := np_in 485 (by decide +kernel) (by decide +kernel)
theorem m_486 : (Cond.code y_M_pool prog_6_method_40_code 1 (some .int)) ∈ np_TS := np_in 486 (by decide +kernel) (by decide +kernel)
theorem ms_T_hashUp : Cond.selects "NotePool$HashTree" y_T_hashUp y_T_hashUp ∈ np_TS := np_inS (q := (y_T_hashUp, 3)) 0 (by decide +kernel) (by decide +kernel)
theorem ms_P_makeNote : Cond.selects "NotePool" y_P_makeNote y_P_makeNote ∈ np_TS := np_inS (q := (y_P_makeNote, 8)) 1 (by decide +kernel) (by decide +kernel)
theorem ms_P_hasNote : Cond.selects "NotePool" y_P_hasNote y_P_hasNote ∈ np_TS := np_inS (q := (y_P_hasNote, 8)) 2 (by decide +kernel) (by decide +kernel)
theorem ms_P_ownerOfKey : Cond.selects "NotePool" y_P_ownerOfKey y_P_ownerOfKey ∈ np_TS := np_inS (q := (y_P_ownerOfKey, 8)) 3 (by decide +kernel) (by decide +kernel)
theorem ms_S_dueIn : Cond.selects "NotePool$SpendVector" y_S_dueIn y_S_dueIn ∈ np_TS := np_inS (q := (y_S_dueIn, 1)) 4 (by decide +kernel) (by decide +kernel)
theorem ms_S_dueInBlock : Cond.selects "NotePool$SpendVector" y_S_dueInBlock y_S_dueInBlock ∈ np_TS := np_inS (q := (y_S_dueInBlock, 1)) 5 (by decide +kernel) (by decide +kernel)
theorem ms_S_dueRight : Cond.selects "NotePool$SpendVector" y_S_dueRight y_S_dueRight ∈ np_TS := np_inS (q := (y_S_dueRight, 1)) 6 (by decide +kernel) (by decide +kernel)
theorem ms_S_resultOf : Cond.selects "NotePool$SpendVector" y_S_resultOf y_S_resultOf ∈ np_TS := np_inS (q := (y_S_resultOf, 1)) 7 (by decide +kernel) (by decide +kernel)
theorem ms_S_dueLeft : Cond.selects "NotePool$SpendVector" y_S_dueLeft y_S_dueLeft ∈ np_TS := np_inS (q := (y_S_dueLeft, 1)) 8 (by decide +kernel) (by decide +kernel)
theorem ms_S_sumOfBits : Cond.selects "NotePool$SpendVector" y_S_sumOfBits y_S_sumOfBits ∈ np_TS := np_inS (q := (y_S_sumOfBits, 1)) 9 (by decide +kernel) (by decide +kernel)
theorem ms_P_markOf : Cond.selects "NotePool" y_P_markOf y_P_markOf ∈ np_TS := np_inS (q := (y_P_markOf, 8)) 10 (by decide +kernel) (by decide +kernel)
theorem ms_M_make : Cond.selects "NotePoolModel" y_M_make y_M_make ∈ np_TS := np_inS (q := (y_M_make, 9)) 11 (by decide +kernel) (by decide +kernel)
theorem ms_M_ownerOf : Cond.selects "NotePoolModel" y_M_ownerOf y_M_ownerOf ∈ np_TS := np_inS (q := (y_M_ownerOf, 9)) 12 (by decide +kernel) (by decide +kernel)
theorem ms_M_fill : Cond.selects "NotePoolModel" y_M_fill y_M_fill ∈ np_TS := np_inS (q := (y_M_fill, 9)) 13 (by decide +kernel) (by decide +kernel)
theorem ms_M_due : Cond.selects "NotePoolModel" y_M_due y_M_due ∈ np_TS := np_inS (q := (y_M_due, 9)) 14 (by decide +kernel) (by decide +kernel)
theorem ms_M_input : Cond.selects "NotePoolModel" y_M_input y_M_input ∈ np_TS := np_inS (q := (y_M_input, 9)) 15 (by decide +kernel) (by decide +kernel)
theorem ms_M_nodeOf : Cond.selects "NotePoolModel" y_M_nodeOf y_M_nodeOf ∈ np_TS := np_inS (q := (y_M_nodeOf, 9)) 16 (by decide +kernel) (by decide +kernel)
theorem ms_M_leaf : Cond.selects "NotePoolModel" y_M_leaf y_M_leaf ∈ np_TS := np_inS (q := (y_M_leaf, 9)) 17 (by decide +kernel) (by decide +kernel)
theorem ms_M_turned : Cond.selects "NotePoolModel" y_M_turned y_M_turned ∈ np_TS := np_inS (q := (y_M_turned, 9)) 18 (by decide +kernel) (by decide +kernel)
theorem ms_M_holds : Cond.selects "NotePoolModel" y_M_holds y_M_holds ∈ np_TS := np_inS (q := (y_M_holds, 9)) 19 (by decide +kernel) (by decide +kernel)
theorem ms_M_bit : Cond.selects "NotePoolModel" y_M_bit y_M_bit ∈ np_TS := np_inS (q := (y_M_bit, 9)) 20 (by decide +kernel) (by decide +kernel)
theorem ms_M_sums : Cond.selects "NotePoolModel" y_M_sums y_M_sums ∈ np_TS := np_inS (q := (y_M_sums, 9)) 21 (by decide +kernel) (by decide +kernel)
theorem ms_M_nine : Cond.selects "NotePoolModel" y_M_nine y_M_nine ∈ np_TS := np_inS (q := (y_M_nine, 9)) 22 (by decide +kernel) (by decide +kernel)
theorem ms_M_isRecent : Cond.selects "NotePoolModel" y_M_isRecent y_M_isRecent ∈ np_TS := np_inS (q := (y_M_isRecent, 9)) 23 (by decide +kernel) (by decide +kernel)
theorem ms_M_isUsed : Cond.selects "NotePoolModel" y_M_isUsed y_M_isUsed ∈ np_TS := np_inS (q := (y_M_isUsed, 9)) 24 (by decide +kernel) (by decide +kernel)
theorem hin_P : ∀ x ∈ u_ws "NotePool" F_P 8, x ∈ np_TS := by
  intro x hx
  have hx : x ∈ [Cond.laysFinal "NotePool" "NotePool" "keys" "[I", Cond.laysFinal "NotePool" "NotePool" "owners" "[I", Cond.laysFinal "NotePool" "NotePool" "values" "[I", Cond.laysFinal "NotePool" "NotePool" "nonces" "[I", Cond.laysFinal "NotePool" "NotePool" "tree" "LNotePool$HashTree;", Cond.laysFinal "NotePool" "NotePool" "marks" "LNotePool$MarkRow;", Cond.laysFinal "NotePool" "NotePool" "vector" "LNotePool$SpendVector;", Cond.lays "NotePool" "NotePool" "inPool" "I"] := hx
  simp only [List.mem_cons, List.not_mem_nil, or_false] at hx
  rcases hx with rfl | rfl | rfl | rfl | rfl | rfl | rfl | rfl
  · exact m_86
  · exact m_88
  · exact m_90
  · exact m_92
  · exact m_94
  · exact m_96
  · exact m_98
  · exact m_100
theorem hin_T : ∀ x ∈ u_ws "NotePool$HashTree" F_T 3, x ∈ np_TS := by
  intro x hx
  have hx : x ∈ [Cond.laysFinal "NotePool$HashTree" "NotePool$HashTree" "nodes" "[I", Cond.laysFinal "NotePool$HashTree" "NotePool$HashTree" "rootWithNotes" "[I", Cond.lays "NotePool$HashTree" "NotePool$HashTree" "count" "I"] := hx
  simp only [List.mem_cons, List.not_mem_nil, or_false] at hx
  rcases hx with rfl | rfl | rfl
  · exact m_41
  · exact m_43
  · exact m_45
theorem hin_K : ∀ x ∈ u_ws "NotePool$MarkRow" F_K 2, x ∈ np_TS := by
  intro x hx
  have hx : x ∈ [Cond.laysFinal "NotePool$MarkRow" "NotePool$MarkRow" "sorted" "[I", Cond.lays "NotePool$MarkRow" "NotePool$MarkRow" "count" "I"] := hx
  simp only [List.mem_cons, List.not_mem_nil, or_false] at hx
  rcases hx with rfl | rfl
  · exact m_58
  · exact m_60
theorem hin_S : ∀ x ∈ u_ws "NotePool$SpendVector" F_S 1, x ∈ np_TS := by
  intro x hx
  have hx : x ∈ [Cond.laysFinal "NotePool$SpendVector" "NotePool$SpendVector" "cells" "[I"] := hx
  simp only [List.mem_cons, List.not_mem_nil, or_false] at hx
  subst hx
  exact m_71
theorem hin_M : ∀ x ∈ u_ws "NotePoolModel" F_M 9, x ∈ np_TS := by
  intro x hx
  have hx : x ∈ [Cond.lays "NotePoolModel" "NotePoolModel" "count" "I", Cond.laysFinal "NotePoolModel" "NotePoolModel" "keyOf" "[I", Cond.laysFinal "NotePoolModel" "NotePoolModel" "valueOf" "[I", Cond.laysFinal "NotePoolModel" "NotePoolModel" "nonceOf" "[I", Cond.lays "NotePoolModel" "NotePoolModel" "spent" "I", Cond.laysFinal "NotePoolModel" "NotePoolModel" "marks" "[I", Cond.lays "NotePoolModel" "NotePoolModel" "inside" "I", Cond.laysFinal "NotePoolModel" "NotePoolModel" "cell" "[I", Cond.laysFinal "NotePoolModel" "NotePoolModel" "work" "[I"] := hx
  simp only [List.mem_cons, List.not_mem_nil, or_false] at hx
  rcases hx with rfl | rfl | rfl | rfl | rfl | rfl | rfl | rfl | rfl
  · exact m_313
  · exact m_315
  · exact m_317
  · exact m_319
  · exact m_321
  · exact m_323
  · exact m_325
  · exact m_327
  · exact m_329
def np_NW : List Cond := [Cond.methodLinkNest "NotePool$HashTree" 34 y_P_hashOf "NotePool", Cond.fieldLinkNest "NotePool" 111 "NotePool$HashTree" "count" "I" "NotePool", Cond.methodLinkNest "NotePool" 31 y_K_init "NotePool", Cond.fieldLinkNest "NotePool" 123 "NotePool$MarkRow" "count" "I" "NotePool", Cond.fieldLinkNest "NotePool" 98 "NotePool$SpendVector" "cells" "[I" "NotePool", Cond.methodLinkNest "NotePool$SpendVector" 47 y_P_sum "NotePool", Cond.fieldLinkNest "NotePool$SpendVector" 62 "NotePool" "SALTS" "[I" "NotePool", Cond.methodLinkNest "NotePool$SpendVector" 34 y_P_product "NotePool", Cond.methodLinkNest "NotePool$SpendVector" 53 y_P_difference "NotePool"]
theorem n_0 : (Cond.methodLinkNest "NotePool$HashTree" 34 y_P_hashOf "NotePool") ∈ np_NW := List.mem_of_getElem? (i := 0) rfl
theorem nt_0 : (Cond.methodLinkNest "NotePool$HashTree" 34 y_P_hashOf "NotePool") ∈ lw_tbl := List.mem_append_right _ (List.mem_of_getElem? (i := 24) (by decide +kernel))
theorem n_1 : (Cond.fieldLinkNest "NotePool" 111 "NotePool$HashTree" "count" "I" "NotePool") ∈ np_NW := List.mem_of_getElem? (i := 1) rfl
theorem nt_1 : (Cond.fieldLinkNest "NotePool" 111 "NotePool$HashTree" "count" "I" "NotePool") ∈ lw_tbl := List.mem_append_right _ (List.mem_of_getElem? (i := 40) (by decide +kernel))
theorem n_2 : (Cond.methodLinkNest "NotePool" 31 y_K_init "NotePool") ∈ np_NW := List.mem_of_getElem? (i := 2) rfl
theorem nt_2 : (Cond.methodLinkNest "NotePool" 31 y_K_init "NotePool") ∈ lw_tbl := List.mem_append_right _ (List.mem_of_getElem? (i := 51) (by decide +kernel))
theorem n_3 : (Cond.fieldLinkNest "NotePool" 123 "NotePool$MarkRow" "count" "I" "NotePool") ∈ np_NW := List.mem_of_getElem? (i := 3) rfl
theorem nt_3 : (Cond.fieldLinkNest "NotePool" 123 "NotePool$MarkRow" "count" "I" "NotePool") ∈ lw_tbl := List.mem_append_right _ (List.mem_of_getElem? (i := 57) (by decide +kernel))
theorem n_4 : (Cond.fieldLinkNest "NotePool" 98 "NotePool$SpendVector" "cells" "[I" "NotePool") ∈ np_NW := List.mem_of_getElem? (i := 4) rfl
theorem nt_4 : (Cond.fieldLinkNest "NotePool" 98 "NotePool$SpendVector" "cells" "[I" "NotePool") ∈ lw_tbl := List.mem_append_right _ (List.mem_of_getElem? (i := 70) (by decide +kernel))
theorem n_5 : (Cond.methodLinkNest "NotePool$SpendVector" 47 y_P_sum "NotePool") ∈ np_NW := List.mem_of_getElem? (i := 5) rfl
theorem nt_5 : (Cond.methodLinkNest "NotePool$SpendVector" 47 y_P_sum "NotePool") ∈ lw_tbl := List.mem_append_right _ (List.mem_of_getElem? (i := 183) (by decide +kernel))
theorem n_6 : (Cond.fieldLinkNest "NotePool$SpendVector" 62 "NotePool" "SALTS" "[I" "NotePool") ∈ np_NW := List.mem_of_getElem? (i := 6) rfl
theorem nt_6 : (Cond.fieldLinkNest "NotePool$SpendVector" 62 "NotePool" "SALTS" "[I" "NotePool") ∈ lw_tbl := List.mem_append_right _ (List.mem_of_getElem? (i := 184) (by decide +kernel))
theorem n_7 : (Cond.methodLinkNest "NotePool$SpendVector" 34 y_P_product "NotePool") ∈ np_NW := List.mem_of_getElem? (i := 7) rfl
theorem nt_7 : (Cond.methodLinkNest "NotePool$SpendVector" 34 y_P_product "NotePool") ∈ lw_tbl := List.mem_append_right _ (List.mem_of_getElem? (i := 185) (by decide +kernel))
theorem n_8 : (Cond.methodLinkNest "NotePool$SpendVector" 53 y_P_difference "NotePool") ∈ np_NW := List.mem_of_getElem? (i := 8) rfl
theorem nt_8 : (Cond.methodLinkNest "NotePool$SpendVector" 53 y_P_difference "NotePool") ∈ lw_tbl := List.mem_append_right _ (List.mem_of_getElem? (i := 194) (by decide +kernel))
theorem hd_P_init : y_P_init.cls ≠ "java/lang/invoke/MethodHandle" ∧ y_P_init.cls ≠ "java/lang/invoke/VarHandle" ∧ (parseMethodDescriptor y_P_init.desc).map (fun d => d.parameters.length) = some 0 := by decide +kernel
theorem hd_T_init : y_T_init.cls ≠ "java/lang/invoke/MethodHandle" ∧ y_T_init.cls ≠ "java/lang/invoke/VarHandle" ∧ (parseMethodDescriptor y_T_init.desc).map (fun d => d.parameters.length) = some 0 := by decide +kernel
theorem hd_T_hashUp : y_T_hashUp.cls ≠ "java/lang/invoke/MethodHandle" ∧ y_T_hashUp.cls ≠ "java/lang/invoke/VarHandle" ∧ (parseMethodDescriptor y_T_hashUp.desc).map (fun d => d.parameters.length) = some 1 := by decide +kernel
theorem hd_P_hashOf : y_P_hashOf.cls ≠ "java/lang/invoke/MethodHandle" ∧ y_P_hashOf.cls ≠ "java/lang/invoke/VarHandle" ∧ (parseMethodDescriptor y_P_hashOf.desc).map (fun d => d.parameters.length) = some 2 := by decide +kernel
theorem hd_P_sum : y_P_sum.cls ≠ "java/lang/invoke/MethodHandle" ∧ y_P_sum.cls ≠ "java/lang/invoke/VarHandle" ∧ (parseMethodDescriptor y_P_sum.desc).map (fun d => d.parameters.length) = some 2 := by decide +kernel
theorem hd_P_product : y_P_product.cls ≠ "java/lang/invoke/MethodHandle" ∧ y_P_product.cls ≠ "java/lang/invoke/VarHandle" ∧ (parseMethodDescriptor y_P_product.desc).map (fun d => d.parameters.length) = some 2 := by decide +kernel
theorem hd_K_init : y_K_init.cls ≠ "java/lang/invoke/MethodHandle" ∧ y_K_init.cls ≠ "java/lang/invoke/VarHandle" ∧ (parseMethodDescriptor y_K_init.desc).map (fun d => d.parameters.length) = some 0 := by decide +kernel
theorem hd_S_init : y_S_init.cls ≠ "java/lang/invoke/MethodHandle" ∧ y_S_init.cls ≠ "java/lang/invoke/VarHandle" ∧ (parseMethodDescriptor y_S_init.desc).map (fun d => d.parameters.length) = some 0 := by decide +kernel
theorem hd_P_secretOf : y_P_secretOf.cls ≠ "java/lang/invoke/MethodHandle" ∧ y_P_secretOf.cls ≠ "java/lang/invoke/VarHandle" ∧ (parseMethodDescriptor y_P_secretOf.desc).map (fun d => d.parameters.length) = some 1 := by decide +kernel
theorem hd_P_hash : y_P_hash.cls ≠ "java/lang/invoke/MethodHandle" ∧ y_P_hash.cls ≠ "java/lang/invoke/VarHandle" ∧ (parseMethodDescriptor y_P_hash.desc).map (fun d => d.parameters.length) = some 2 := by decide +kernel
theorem hd_P_isNumber : y_P_isNumber.cls ≠ "java/lang/invoke/MethodHandle" ∧ y_P_isNumber.cls ≠ "java/lang/invoke/VarHandle" ∧ (parseMethodDescriptor y_P_isNumber.desc).map (fun d => d.parameters.length) = some 1 := by decide +kernel
theorem hd_P_deposit : y_P_deposit.cls ≠ "java/lang/invoke/MethodHandle" ∧ y_P_deposit.cls ≠ "java/lang/invoke/VarHandle" ∧ (parseMethodDescriptor y_P_deposit.desc).map (fun d => d.parameters.length) = some 3 := by decide +kernel
theorem hd_P_isAccount : y_P_isAccount.cls ≠ "java/lang/invoke/MethodHandle" ∧ y_P_isAccount.cls ≠ "java/lang/invoke/VarHandle" ∧ (parseMethodDescriptor y_P_isAccount.desc).map (fun d => d.parameters.length) = some 1 := by decide +kernel
theorem hd_P_isValue : y_P_isValue.cls ≠ "java/lang/invoke/MethodHandle" ∧ y_P_isValue.cls ≠ "java/lang/invoke/VarHandle" ∧ (parseMethodDescriptor y_P_isValue.desc).map (fun d => d.parameters.length) = some 1 := by decide +kernel
theorem hd_T_isFull : y_T_isFull.cls ≠ "java/lang/invoke/MethodHandle" ∧ y_T_isFull.cls ≠ "java/lang/invoke/VarHandle" ∧ (parseMethodDescriptor y_T_isFull.desc).map (fun d => d.parameters.length) = some 0 := by decide +kernel
theorem hd_P_makeNote : y_P_makeNote.cls ≠ "java/lang/invoke/MethodHandle" ∧ y_P_makeNote.cls ≠ "java/lang/invoke/VarHandle" ∧ (parseMethodDescriptor y_P_makeNote.desc).map (fun d => d.parameters.length) = some 3 := by decide +kernel
theorem hd_T_append : y_T_append.cls ≠ "java/lang/invoke/MethodHandle" ∧ y_T_append.cls ≠ "java/lang/invoke/VarHandle" ∧ (parseMethodDescriptor y_T_append.desc).map (fun d => d.parameters.length) = some 1 := by decide +kernel
theorem hd_P_hasNote : y_P_hasNote.cls ≠ "java/lang/invoke/MethodHandle" ∧ y_P_hasNote.cls ≠ "java/lang/invoke/VarHandle" ∧ (parseMethodDescriptor y_P_hasNote.desc).map (fun d => d.parameters.length) = some 1 := by decide +kernel
theorem hd_P_ownerOfKey : y_P_ownerOfKey.cls ≠ "java/lang/invoke/MethodHandle" ∧ y_P_ownerOfKey.cls ≠ "java/lang/invoke/VarHandle" ∧ (parseMethodDescriptor y_P_ownerOfKey.desc).map (fun d => d.parameters.length) = some 1 := by decide +kernel
theorem hd_P_load : y_P_load.cls ≠ "java/lang/invoke/MethodHandle" ∧ y_P_load.cls ≠ "java/lang/invoke/VarHandle" ∧ (parseMethodDescriptor y_P_load.desc).map (fun d => d.parameters.length) = some 5 := by decide +kernel
theorem hd_S_takeNote : y_S_takeNote.cls ≠ "java/lang/invoke/MethodHandle" ∧ y_S_takeNote.cls ≠ "java/lang/invoke/VarHandle" ∧ (parseMethodDescriptor y_S_takeNote.desc).map (fun d => d.parameters.length) = some 3 := by decide +kernel
theorem hd_S_takePayment : y_S_takePayment.cls ≠ "java/lang/invoke/MethodHandle" ∧ y_S_takePayment.cls ≠ "java/lang/invoke/VarHandle" ∧ (parseMethodDescriptor y_S_takePayment.desc).map (fun d => d.parameters.length) = some 4 := by decide +kernel
theorem hd_S_takePath : y_S_takePath.cls ≠ "java/lang/invoke/MethodHandle" ∧ y_S_takePath.cls ≠ "java/lang/invoke/VarHandle" ∧ (parseMethodDescriptor y_S_takePath.desc).map (fun d => d.parameters.length) = some 2 := by decide +kernel
theorem hd_T_nodeAt : y_T_nodeAt.cls ≠ "java/lang/invoke/MethodHandle" ∧ y_T_nodeAt.cls ≠ "java/lang/invoke/VarHandle" ∧ (parseMethodDescriptor y_T_nodeAt.desc).map (fun d => d.parameters.length) = some 2 := by decide +kernel
theorem hd_S_complete : y_S_complete.cls ≠ "java/lang/invoke/MethodHandle" ∧ y_S_complete.cls ≠ "java/lang/invoke/VarHandle" ∧ (parseMethodDescriptor y_S_complete.desc).map (fun d => d.parameters.length) = some 0 := by decide +kernel
theorem hd_S_cellOf : y_S_cellOf.cls ≠ "java/lang/invoke/MethodHandle" ∧ y_S_cellOf.cls ≠ "java/lang/invoke/VarHandle" ∧ (parseMethodDescriptor y_S_cellOf.desc).map (fun d => d.parameters.length) = some 1 := by decide +kernel
theorem hd_S_cellOnLevel : y_S_cellOnLevel.cls ≠ "java/lang/invoke/MethodHandle" ∧ y_S_cellOnLevel.cls ≠ "java/lang/invoke/VarHandle" ∧ (parseMethodDescriptor y_S_cellOnLevel.desc).map (fun d => d.parameters.length) = some 2 := by decide +kernel
theorem hd_S_dueIn : y_S_dueIn.cls ≠ "java/lang/invoke/MethodHandle" ∧ y_S_dueIn.cls ≠ "java/lang/invoke/VarHandle" ∧ (parseMethodDescriptor y_S_dueIn.desc).map (fun d => d.parameters.length) = some 1 := by decide +kernel
theorem hd_S_dueInBlock : y_S_dueInBlock.cls ≠ "java/lang/invoke/MethodHandle" ∧ y_S_dueInBlock.cls ≠ "java/lang/invoke/VarHandle" ∧ (parseMethodDescriptor y_S_dueInBlock.desc).map (fun d => d.parameters.length) = some 2 := by decide +kernel
theorem hd_S_dueRight : y_S_dueRight.cls ≠ "java/lang/invoke/MethodHandle" ∧ y_S_dueRight.cls ≠ "java/lang/invoke/VarHandle" ∧ (parseMethodDescriptor y_S_dueRight.desc).map (fun d => d.parameters.length) = some 1 := by decide +kernel
theorem hd_S_resultOf : y_S_resultOf.cls ≠ "java/lang/invoke/MethodHandle" ∧ y_S_resultOf.cls ≠ "java/lang/invoke/VarHandle" ∧ (parseMethodDescriptor y_S_resultOf.desc).map (fun d => d.parameters.length) = some 1 := by decide +kernel
theorem hd_P_difference : y_P_difference.cls ≠ "java/lang/invoke/MethodHandle" ∧ y_P_difference.cls ≠ "java/lang/invoke/VarHandle" ∧ (parseMethodDescriptor y_P_difference.desc).map (fun d => d.parameters.length) = some 2 := by decide +kernel
theorem hd_S_dueLeft : y_S_dueLeft.cls ≠ "java/lang/invoke/MethodHandle" ∧ y_S_dueLeft.cls ≠ "java/lang/invoke/VarHandle" ∧ (parseMethodDescriptor y_S_dueLeft.desc).map (fun d => d.parameters.length) = some 1 := by decide +kernel
theorem hd_S_sumOfBits : y_S_sumOfBits.cls ≠ "java/lang/invoke/MethodHandle" ∧ y_S_sumOfBits.cls ≠ "java/lang/invoke/VarHandle" ∧ (parseMethodDescriptor y_S_sumOfBits.desc).map (fun d => d.parameters.length) = some 0 := by decide +kernel
theorem hd_S_firstFault : y_S_firstFault.cls ≠ "java/lang/invoke/MethodHandle" ∧ y_S_firstFault.cls ≠ "java/lang/invoke/VarHandle" ∧ (parseMethodDescriptor y_S_firstFault.desc).map (fun d => d.parameters.length) = some 0 := by decide +kernel
theorem hd_P_set : y_P_set.cls ≠ "java/lang/invoke/MethodHandle" ∧ y_P_set.cls ≠ "java/lang/invoke/VarHandle" ∧ (parseMethodDescriptor y_P_set.desc).map (fun d => d.parameters.length) = some 2 := by decide +kernel
theorem hd_S_isCell : y_S_isCell.cls ≠ "java/lang/invoke/MethodHandle" ∧ y_S_isCell.cls ≠ "java/lang/invoke/VarHandle" ∧ (parseMethodDescriptor y_S_isCell.desc).map (fun d => d.parameters.length) = some 1 := by decide +kernel
theorem hd_P_get : y_P_get.cls ≠ "java/lang/invoke/MethodHandle" ∧ y_P_get.cls ≠ "java/lang/invoke/VarHandle" ∧ (parseMethodDescriptor y_P_get.desc).map (fun d => d.parameters.length) = some 1 := by decide +kernel
theorem hd_P_fault : y_P_fault.cls ≠ "java/lang/invoke/MethodHandle" ∧ y_P_fault.cls ≠ "java/lang/invoke/VarHandle" ∧ (parseMethodDescriptor y_P_fault.desc).map (fun d => d.parameters.length) = some 0 := by decide +kernel
theorem hd_P_submit : y_P_submit.cls ≠ "java/lang/invoke/MethodHandle" ∧ y_P_submit.cls ≠ "java/lang/invoke/VarHandle" ∧ (parseMethodDescriptor y_P_submit.desc).map (fun d => d.parameters.length) = some 0 := by decide +kernel
theorem hd_T_isRecent : y_T_isRecent.cls ≠ "java/lang/invoke/MethodHandle" ∧ y_T_isRecent.cls ≠ "java/lang/invoke/VarHandle" ∧ (parseMethodDescriptor y_T_isRecent.desc).map (fun d => d.parameters.length) = some 1 := by decide +kernel
theorem hd_T_recentRoot : y_T_recentRoot.cls ≠ "java/lang/invoke/MethodHandle" ∧ y_T_recentRoot.cls ≠ "java/lang/invoke/VarHandle" ∧ (parseMethodDescriptor y_T_recentRoot.desc).map (fun d => d.parameters.length) = some 1 := by decide +kernel
theorem hd_K_has : y_K_has.cls ≠ "java/lang/invoke/MethodHandle" ∧ y_K_has.cls ≠ "java/lang/invoke/VarHandle" ∧ (parseMethodDescriptor y_K_has.desc).map (fun d => d.parameters.length) = some 1 := by decide +kernel
theorem hd_K_add : y_K_add.cls ≠ "java/lang/invoke/MethodHandle" ∧ y_K_add.cls ≠ "java/lang/invoke/VarHandle" ∧ (parseMethodDescriptor y_K_add.desc).map (fun d => d.parameters.length) = some 1 := by decide +kernel
theorem hd_P_notes : y_P_notes.cls ≠ "java/lang/invoke/MethodHandle" ∧ y_P_notes.cls ≠ "java/lang/invoke/VarHandle" ∧ (parseMethodDescriptor y_P_notes.desc).map (fun d => d.parameters.length) = some 0 := by decide +kernel
theorem hd_P_commitment : y_P_commitment.cls ≠ "java/lang/invoke/MethodHandle" ∧ y_P_commitment.cls ≠ "java/lang/invoke/VarHandle" ∧ (parseMethodDescriptor y_P_commitment.desc).map (fun d => d.parameters.length) = some 1 := by decide +kernel
theorem hd_P_owner : y_P_owner.cls ≠ "java/lang/invoke/MethodHandle" ∧ y_P_owner.cls ≠ "java/lang/invoke/VarHandle" ∧ (parseMethodDescriptor y_P_owner.desc).map (fun d => d.parameters.length) = some 1 := by decide +kernel
theorem hd_P_value : y_P_value.cls ≠ "java/lang/invoke/MethodHandle" ∧ y_P_value.cls ≠ "java/lang/invoke/VarHandle" ∧ (parseMethodDescriptor y_P_value.desc).map (fun d => d.parameters.length) = some 1 := by decide +kernel
theorem hd_P_unspent : y_P_unspent.cls ≠ "java/lang/invoke/MethodHandle" ∧ y_P_unspent.cls ≠ "java/lang/invoke/VarHandle" ∧ (parseMethodDescriptor y_P_unspent.desc).map (fun d => d.parameters.length) = some 1 := by decide +kernel
theorem hd_P_markOf : y_P_markOf.cls ≠ "java/lang/invoke/MethodHandle" ∧ y_P_markOf.cls ≠ "java/lang/invoke/VarHandle" ∧ (parseMethodDescriptor y_P_markOf.desc).map (fun d => d.parameters.length) = some 1 := by decide +kernel
theorem hd_P_balance : y_P_balance.cls ≠ "java/lang/invoke/MethodHandle" ∧ y_P_balance.cls ≠ "java/lang/invoke/VarHandle" ∧ (parseMethodDescriptor y_P_balance.desc).map (fun d => d.parameters.length) = some 1 := by decide +kernel
theorem hd_P_root : y_P_root.cls ≠ "java/lang/invoke/MethodHandle" ∧ y_P_root.cls ≠ "java/lang/invoke/VarHandle" ∧ (parseMethodDescriptor y_P_root.desc).map (fun d => d.parameters.length) = some 1 := by decide +kernel
theorem hd_P_node : y_P_node.cls ≠ "java/lang/invoke/MethodHandle" ∧ y_P_node.cls ≠ "java/lang/invoke/VarHandle" ∧ (parseMethodDescriptor y_P_node.desc).map (fun d => d.parameters.length) = some 2 := by decide +kernel
theorem hd_P_used : y_P_used.cls ≠ "java/lang/invoke/MethodHandle" ∧ y_P_used.cls ≠ "java/lang/invoke/VarHandle" ∧ (parseMethodDescriptor y_P_used.desc).map (fun d => d.parameters.length) = some 0 := by decide +kernel
theorem hd_P_mark : y_P_mark.cls ≠ "java/lang/invoke/MethodHandle" ∧ y_P_mark.cls ≠ "java/lang/invoke/VarHandle" ∧ (parseMethodDescriptor y_P_mark.desc).map (fun d => d.parameters.length) = some 1 := by decide +kernel
theorem hd_K_at : y_K_at.cls ≠ "java/lang/invoke/MethodHandle" ∧ y_K_at.cls ≠ "java/lang/invoke/VarHandle" ∧ (parseMethodDescriptor y_K_at.desc).map (fun d => d.parameters.length) = some 1 := by decide +kernel
theorem hd_P_pool : y_P_pool.cls ≠ "java/lang/invoke/MethodHandle" ∧ y_P_pool.cls ≠ "java/lang/invoke/VarHandle" ∧ (parseMethodDescriptor y_P_pool.desc).map (fun d => d.parameters.length) = some 0 := by decide +kernel
theorem hd_M_init : y_M_init.cls ≠ "java/lang/invoke/MethodHandle" ∧ y_M_init.cls ≠ "java/lang/invoke/VarHandle" ∧ (parseMethodDescriptor y_M_init.desc).map (fun d => d.parameters.length) = some 0 := by decide +kernel
theorem hd_M_hash : y_M_hash.cls ≠ "java/lang/invoke/MethodHandle" ∧ y_M_hash.cls ≠ "java/lang/invoke/VarHandle" ∧ (parseMethodDescriptor y_M_hash.desc).map (fun d => d.parameters.length) = some 2 := by decide +kernel
theorem hd_M_outside : y_M_outside.cls ≠ "java/lang/invoke/MethodHandle" ∧ y_M_outside.cls ≠ "java/lang/invoke/VarHandle" ∧ (parseMethodDescriptor y_M_outside.desc).map (fun d => d.parameters.length) = some 2 := by decide +kernel
theorem hd_M_hashed : y_M_hashed.cls ≠ "java/lang/invoke/MethodHandle" ∧ y_M_hashed.cls ≠ "java/lang/invoke/VarHandle" ∧ (parseMethodDescriptor y_M_hashed.desc).map (fun d => d.parameters.length) = some 2 := by decide +kernel
theorem hd_M_salt : y_M_salt.cls ≠ "java/lang/invoke/MethodHandle" ∧ y_M_salt.cls ≠ "java/lang/invoke/VarHandle" ∧ (parseMethodDescriptor y_M_salt.desc).map (fun d => d.parameters.length) = some 1 := by decide +kernel
theorem hd_M_cubed : y_M_cubed.cls ≠ "java/lang/invoke/MethodHandle" ∧ y_M_cubed.cls ≠ "java/lang/invoke/VarHandle" ∧ (parseMethodDescriptor y_M_cubed.desc).map (fun d => d.parameters.length) = some 1 := by decide +kernel
theorem hd_M_reduced : y_M_reduced.cls ≠ "java/lang/invoke/MethodHandle" ∧ y_M_reduced.cls ≠ "java/lang/invoke/VarHandle" ∧ (parseMethodDescriptor y_M_reduced.desc).map (fun d => d.parameters.length) = some 1 := by decide +kernel
theorem hd_M_times : y_M_times.cls ≠ "java/lang/invoke/MethodHandle" ∧ y_M_times.cls ≠ "java/lang/invoke/VarHandle" ∧ (parseMethodDescriptor y_M_times.desc).map (fun d => d.parameters.length) = some 2 := by decide +kernel
theorem hd_M_deposit : y_M_deposit.cls ≠ "java/lang/invoke/MethodHandle" ∧ y_M_deposit.cls ≠ "java/lang/invoke/VarHandle" ∧ (parseMethodDescriptor y_M_deposit.desc).map (fun d => d.parameters.length) = some 3 := by decide +kernel
theorem hd_M_accountKey : y_M_accountKey.cls ≠ "java/lang/invoke/MethodHandle" ∧ y_M_accountKey.cls ≠ "java/lang/invoke/VarHandle" ∧ (parseMethodDescriptor y_M_accountKey.desc).map (fun d => d.parameters.length) = some 1 := by decide +kernel
theorem hd_M_make : y_M_make.cls ≠ "java/lang/invoke/MethodHandle" ∧ y_M_make.cls ≠ "java/lang/invoke/VarHandle" ∧ (parseMethodDescriptor y_M_make.desc).map (fun d => d.parameters.length) = some 3 := by decide +kernel
theorem hd_M_load : y_M_load.cls ≠ "java/lang/invoke/MethodHandle" ∧ y_M_load.cls ≠ "java/lang/invoke/VarHandle" ∧ (parseMethodDescriptor y_M_load.desc).map (fun d => d.parameters.length) = some 5 := by decide +kernel
theorem hd_M_ownerOf : y_M_ownerOf.cls ≠ "java/lang/invoke/MethodHandle" ∧ y_M_ownerOf.cls ≠ "java/lang/invoke/VarHandle" ∧ (parseMethodDescriptor y_M_ownerOf.desc).map (fun d => d.parameters.length) = some 1 := by decide +kernel
theorem hd_M_fill : y_M_fill.cls ≠ "java/lang/invoke/MethodHandle" ∧ y_M_fill.cls ≠ "java/lang/invoke/VarHandle" ∧ (parseMethodDescriptor y_M_fill.desc).map (fun d => d.parameters.length) = some 1 := by decide +kernel
theorem hd_M_due : y_M_due.cls ≠ "java/lang/invoke/MethodHandle" ∧ y_M_due.cls ≠ "java/lang/invoke/VarHandle" ∧ (parseMethodDescriptor y_M_due.desc).map (fun d => d.parameters.length) = some 2 := by decide +kernel
theorem hd_M_input : y_M_input.cls ≠ "java/lang/invoke/MethodHandle" ∧ y_M_input.cls ≠ "java/lang/invoke/VarHandle" ∧ (parseMethodDescriptor y_M_input.desc).map (fun d => d.parameters.length) = some 2 := by decide +kernel
theorem hd_M_nodeOf : y_M_nodeOf.cls ≠ "java/lang/invoke/MethodHandle" ∧ y_M_nodeOf.cls ≠ "java/lang/invoke/VarHandle" ∧ (parseMethodDescriptor y_M_nodeOf.desc).map (fun d => d.parameters.length) = some 3 := by decide +kernel
theorem hd_M_leaf : y_M_leaf.cls ≠ "java/lang/invoke/MethodHandle" ∧ y_M_leaf.cls ≠ "java/lang/invoke/VarHandle" ∧ (parseMethodDescriptor y_M_leaf.desc).map (fun d => d.parameters.length) = some 1 := by decide +kernel
theorem hd_M_turned : y_M_turned.cls ≠ "java/lang/invoke/MethodHandle" ∧ y_M_turned.cls ≠ "java/lang/invoke/VarHandle" ∧ (parseMethodDescriptor y_M_turned.desc).map (fun d => d.parameters.length) = some 2 := by decide +kernel
theorem hd_M_fault : y_M_fault.cls ≠ "java/lang/invoke/MethodHandle" ∧ y_M_fault.cls ≠ "java/lang/invoke/VarHandle" ∧ (parseMethodDescriptor y_M_fault.desc).map (fun d => d.parameters.length) = some 0 := by decide +kernel
theorem hd_M_holds : y_M_holds.cls ≠ "java/lang/invoke/MethodHandle" ∧ y_M_holds.cls ≠ "java/lang/invoke/VarHandle" ∧ (parseMethodDescriptor y_M_holds.desc).map (fun d => d.parameters.length) = some 1 := by decide +kernel
theorem hd_M_bit : y_M_bit.cls ≠ "java/lang/invoke/MethodHandle" ∧ y_M_bit.cls ≠ "java/lang/invoke/VarHandle" ∧ (parseMethodDescriptor y_M_bit.desc).map (fun d => d.parameters.length) = some 1 := by decide +kernel
theorem hd_M_sums : y_M_sums.cls ≠ "java/lang/invoke/MethodHandle" ∧ y_M_sums.cls ≠ "java/lang/invoke/VarHandle" ∧ (parseMethodDescriptor y_M_sums.desc).map (fun d => d.parameters.length) = some 0 := by decide +kernel
theorem hd_M_nine : y_M_nine.cls ≠ "java/lang/invoke/MethodHandle" ∧ y_M_nine.cls ≠ "java/lang/invoke/VarHandle" ∧ (parseMethodDescriptor y_M_nine.desc).map (fun d => d.parameters.length) = some 2 := by decide +kernel
theorem hd_M_set : y_M_set.cls ≠ "java/lang/invoke/MethodHandle" ∧ y_M_set.cls ≠ "java/lang/invoke/VarHandle" ∧ (parseMethodDescriptor y_M_set.desc).map (fun d => d.parameters.length) = some 2 := by decide +kernel
theorem hd_M_get : y_M_get.cls ≠ "java/lang/invoke/MethodHandle" ∧ y_M_get.cls ≠ "java/lang/invoke/VarHandle" ∧ (parseMethodDescriptor y_M_get.desc).map (fun d => d.parameters.length) = some 1 := by decide +kernel
theorem hd_M_submit : y_M_submit.cls ≠ "java/lang/invoke/MethodHandle" ∧ y_M_submit.cls ≠ "java/lang/invoke/VarHandle" ∧ (parseMethodDescriptor y_M_submit.desc).map (fun d => d.parameters.length) = some 0 := by decide +kernel
theorem hd_M_isRecent : y_M_isRecent.cls ≠ "java/lang/invoke/MethodHandle" ∧ y_M_isRecent.cls ≠ "java/lang/invoke/VarHandle" ∧ (parseMethodDescriptor y_M_isRecent.desc).map (fun d => d.parameters.length) = some 1 := by decide +kernel
theorem hd_M_root : y_M_root.cls ≠ "java/lang/invoke/MethodHandle" ∧ y_M_root.cls ≠ "java/lang/invoke/VarHandle" ∧ (parseMethodDescriptor y_M_root.desc).map (fun d => d.parameters.length) = some 1 := by decide +kernel
theorem hd_M_isUsed : y_M_isUsed.cls ≠ "java/lang/invoke/MethodHandle" ∧ y_M_isUsed.cls ≠ "java/lang/invoke/VarHandle" ∧ (parseMethodDescriptor y_M_isUsed.desc).map (fun d => d.parameters.length) = some 1 := by decide +kernel
theorem hd_M_notes : y_M_notes.cls ≠ "java/lang/invoke/MethodHandle" ∧ y_M_notes.cls ≠ "java/lang/invoke/VarHandle" ∧ (parseMethodDescriptor y_M_notes.desc).map (fun d => d.parameters.length) = some 0 := by decide +kernel
theorem hd_M_commitment : y_M_commitment.cls ≠ "java/lang/invoke/MethodHandle" ∧ y_M_commitment.cls ≠ "java/lang/invoke/VarHandle" ∧ (parseMethodDescriptor y_M_commitment.desc).map (fun d => d.parameters.length) = some 1 := by decide +kernel
theorem hd_M_owner : y_M_owner.cls ≠ "java/lang/invoke/MethodHandle" ∧ y_M_owner.cls ≠ "java/lang/invoke/VarHandle" ∧ (parseMethodDescriptor y_M_owner.desc).map (fun d => d.parameters.length) = some 1 := by decide +kernel
theorem hd_M_value : y_M_value.cls ≠ "java/lang/invoke/MethodHandle" ∧ y_M_value.cls ≠ "java/lang/invoke/VarHandle" ∧ (parseMethodDescriptor y_M_value.desc).map (fun d => d.parameters.length) = some 1 := by decide +kernel
theorem hd_M_unspent : y_M_unspent.cls ≠ "java/lang/invoke/MethodHandle" ∧ y_M_unspent.cls ≠ "java/lang/invoke/VarHandle" ∧ (parseMethodDescriptor y_M_unspent.desc).map (fun d => d.parameters.length) = some 1 := by decide +kernel
theorem hd_M_balance : y_M_balance.cls ≠ "java/lang/invoke/MethodHandle" ∧ y_M_balance.cls ≠ "java/lang/invoke/VarHandle" ∧ (parseMethodDescriptor y_M_balance.desc).map (fun d => d.parameters.length) = some 1 := by decide +kernel
theorem hd_M_node : y_M_node.cls ≠ "java/lang/invoke/MethodHandle" ∧ y_M_node.cls ≠ "java/lang/invoke/VarHandle" ∧ (parseMethodDescriptor y_M_node.desc).map (fun d => d.parameters.length) = some 2 := by decide +kernel
theorem hd_M_used : y_M_used.cls ≠ "java/lang/invoke/MethodHandle" ∧ y_M_used.cls ≠ "java/lang/invoke/VarHandle" ∧ (parseMethodDescriptor y_M_used.desc).map (fun d => d.parameters.length) = some 0 := by decide +kernel
theorem hd_M_mark : y_M_mark.cls ≠ "java/lang/invoke/MethodHandle" ∧ y_M_mark.cls ≠ "java/lang/invoke/VarHandle" ∧ (parseMethodDescriptor y_M_mark.desc).map (fun d => d.parameters.length) = some 1 := by decide +kernel
theorem hd_M_pool : y_M_pool.cls ≠ "java/lang/invoke/MethodHandle" ∧ y_M_pool.cls ≠ "java/lang/invoke/VarHandle" ∧ (parseMethodDescriptor y_M_pool.desc).map (fun d => d.parameters.length) = some 0 := by decide +kernel
