section
-- ===== PART A: goes FIRST, ahead of the names: the tables' words, and 'selects' of the private methods out of them =====
/-- a private method of a class that the tables say can be made, by its rows of tables_1 -/
def lw_okq (q : MethodName × Nat) : Prop := (q.1.cls ≠ "java/lang/invoke/MethodHandle" ∧ q.1.cls ≠ "java/lang/invoke/VarHandle") ∧ Cond.instantiable q.1.cls q.2 ∈ tables_1 ∧ Cond.privateMethod q.1 ∈ tables_1 ∧ Cond.instanceMethod q.1 ∈ tables_1
theorem lw_p0 : lw_okq (⟨"java/lang/Throwable", "fillInStackTrace", "(I)Ljava/lang/Throwable;"⟩, 6) := ⟨⟨by decide +kernel, by decide +kernel⟩, List.mem_of_getElem? (i := 172) (by decide +kernel), List.mem_of_getElem? (i := 170) (by decide +kernel), List.mem_of_getElem? (i := 171) (by decide +kernel)⟩
theorem lw_p1 : lw_okq (⟨"KeyCustody$Group", "multiplyNumbers", "(II)I"⟩, 3) := ⟨⟨by decide +kernel, by decide +kernel⟩, List.mem_of_getElem? (i := 27) (by decide +kernel), List.mem_of_getElem? (i := 260) (by decide +kernel), List.mem_of_getElem? (i := 261) (by decide +kernel)⟩
theorem lw_p2 : lw_okq (⟨"KeyCustody", "requireFounded", "()V"⟩, 7) := ⟨⟨by decide +kernel, by decide +kernel⟩, List.mem_of_getElem? (i := 19) (by decide +kernel), List.mem_of_getElem? (i := 277) (by decide +kernel), List.mem_of_getElem? (i := 278) (by decide +kernel)⟩
theorem lw_p3 : lw_okq (⟨"KeyCustody$Week", "rightShare", "(II)I"⟩, 9) := ⟨⟨by decide +kernel, by decide +kernel⟩, List.mem_of_getElem? (i := 57) (by decide +kernel), List.mem_of_getElem? (i := 368) (by decide +kernel), List.mem_of_getElem? (i := 369) (by decide +kernel)⟩
theorem lw_p4 : lw_okq (⟨"KeyCustody$Week", "isCheated", "(II)Z"⟩, 9) := ⟨⟨by decide +kernel, by decide +kernel⟩, List.mem_of_getElem? (i := 57) (by decide +kernel), List.mem_of_getElem? (i := 373) (by decide +kernel), List.mem_of_getElem? (i := 374) (by decide +kernel)⟩
theorem lw_p5 : lw_okq (⟨"KeyCustody$Week", "objectsTo", "(II)Z"⟩, 9) := ⟨⟨by decide +kernel, by decide +kernel⟩, List.mem_of_getElem? (i := 57) (by decide +kernel), List.mem_of_getElem? (i := 404) (by decide +kernel), List.mem_of_getElem? (i := 405) (by decide +kernel)⟩
theorem lw_p6 : lw_okq (⟨"KeyCustody", "takeOver", "(I)V"⟩, 7) := ⟨⟨by decide +kernel, by decide +kernel⟩, List.mem_of_getElem? (i := 19) (by decide +kernel), List.mem_of_getElem? (i := 457) (by decide +kernel), List.mem_of_getElem? (i := 458) (by decide +kernel)⟩
theorem lw_p7 : lw_okq (⟨"KeyCustody", "isWiped", "(I)Z"⟩, 7) := ⟨⟨by decide +kernel, by decide +kernel⟩, List.mem_of_getElem? (i := 19) (by decide +kernel), List.mem_of_getElem? (i := 461) (by decide +kernel), List.mem_of_getElem? (i := 462) (by decide +kernel)⟩
theorem lw_p8 : lw_okq (⟨"KeyCustody", "sound", "()I"⟩, 7) := ⟨⟨by decide +kernel, by decide +kernel⟩, List.mem_of_getElem? (i := 19) (by decide +kernel), List.mem_of_getElem? (i := 485) (by decide +kernel), List.mem_of_getElem? (i := 486) (by decide +kernel)⟩
theorem lw_p9 : lw_okq (⟨"KeyCustody", "isSound", "(I)Z"⟩, 7) := ⟨⟨by decide +kernel, by decide +kernel⟩, List.mem_of_getElem? (i := 19) (by decide +kernel), List.mem_of_getElem? (i := 489) (by decide +kernel), List.mem_of_getElem? (i := 490) (by decide +kernel)⟩
theorem lw_p10 : lw_okq (⟨"KeyCustody$Group", "weight", "(III)I"⟩, 3) := ⟨⟨by decide +kernel, by decide +kernel⟩, List.mem_of_getElem? (i := 27) (by decide +kernel), List.mem_of_getElem? (i := 502) (by decide +kernel), List.mem_of_getElem? (i := 503) (by decide +kernel)⟩
theorem lw_p11 : lw_okq (⟨"KeyCustody", "wiped", "()I"⟩, 7) := ⟨⟨by decide +kernel, by decide +kernel⟩, List.mem_of_getElem? (i := 19) (by decide +kernel), List.mem_of_getElem? (i := 561) (by decide +kernel), List.mem_of_getElem? (i := 562) (by decide +kernel)⟩
theorem lw_p12 : lw_okq (⟨"KeyCustodyModel", "power", "(II)I"⟩, 18) := ⟨⟨by decide +kernel, by decide +kernel⟩, List.mem_of_getElem? (i := 599) (by decide +kernel), List.mem_of_getElem? (i := 673) (by decide +kernel), List.mem_of_getElem? (i := 674) (by decide +kernel)⟩
theorem lw_p13 : lw_okq (⟨"KeyCustodyModel", "noNumber", "(I)Z"⟩, 18) := ⟨⟨by decide +kernel, by decide +kernel⟩, List.mem_of_getElem? (i := 599) (by decide +kernel), List.mem_of_getElem? (i := 681) (by decide +kernel), List.mem_of_getElem? (i := 682) (by decide +kernel)⟩
theorem lw_p14 : lw_okq (⟨"KeyCustodyModel", "valueAt", "(II)I"⟩, 18) := ⟨⟨by decide +kernel, by decide +kernel⟩, List.mem_of_getElem? (i := 599) (by decide +kernel), List.mem_of_getElem? (i := 685) (by decide +kernel), List.mem_of_getElem? (i := 686) (by decide +kernel)⟩
theorem lw_p15 : lw_okq (⟨"KeyCustodyModel", "newWeek", "()V"⟩, 18) := ⟨⟨by decide +kernel, by decide +kernel⟩, List.mem_of_getElem? (i := 599) (by decide +kernel), List.mem_of_getElem? (i := 689) (by decide +kernel), List.mem_of_getElem? (i := 690) (by decide +kernel)⟩
def lw_privs_1 : List (MethodName × Nat) := [(⟨"java/lang/Throwable", "fillInStackTrace", "(I)Ljava/lang/Throwable;"⟩, 6), (⟨"KeyCustody$Group", "multiplyNumbers", "(II)I"⟩, 3), (⟨"KeyCustody", "requireFounded", "()V"⟩, 7), (⟨"KeyCustody$Week", "rightShare", "(II)I"⟩, 9), (⟨"KeyCustody$Week", "isCheated", "(II)Z"⟩, 9), (⟨"KeyCustody$Week", "objectsTo", "(II)Z"⟩, 9), (⟨"KeyCustody", "takeOver", "(I)V"⟩, 7), (⟨"KeyCustody", "isWiped", "(I)Z"⟩, 7), (⟨"KeyCustody", "sound", "()I"⟩, 7), (⟨"KeyCustody", "isSound", "(I)Z"⟩, 7), (⟨"KeyCustody$Group", "weight", "(III)I"⟩, 3), (⟨"KeyCustody", "wiped", "()I"⟩, 7), (⟨"KeyCustodyModel", "power", "(II)I"⟩, 18), (⟨"KeyCustodyModel", "noNumber", "(I)Z"⟩, 18), (⟨"KeyCustodyModel", "valueAt", "(II)I"⟩, 18), (⟨"KeyCustodyModel", "newWeek", "()V"⟩, 18)]
theorem lw_r1 : ∀ q ∈ lw_privs_1, lw_okq q := List.forall_mem_cons.mpr ⟨lw_p0, List.forall_mem_cons.mpr ⟨lw_p1, List.forall_mem_cons.mpr ⟨lw_p2, List.forall_mem_cons.mpr ⟨lw_p3, List.forall_mem_cons.mpr ⟨lw_p4, List.forall_mem_cons.mpr ⟨lw_p5, List.forall_mem_cons.mpr ⟨lw_p6, List.forall_mem_cons.mpr ⟨lw_p7, List.forall_mem_cons.mpr ⟨lw_p8, List.forall_mem_cons.mpr ⟨lw_p9, List.forall_mem_cons.mpr ⟨lw_p10, List.forall_mem_cons.mpr ⟨lw_p11, List.forall_mem_cons.mpr ⟨lw_p12, List.forall_mem_cons.mpr ⟨lw_p13, List.forall_mem_cons.mpr ⟨lw_p14, List.forall_mem_cons.mpr ⟨lw_p15, fun _ h => absurd h List.not_mem_nil⟩⟩⟩⟩⟩⟩⟩⟩⟩⟩⟩⟩⟩⟩⟩⟩
theorem lw_p16 : lw_okq (⟨"KeyCustodyModel", "first", "(I)I"⟩, 18) := ⟨⟨by decide +kernel, by decide +kernel⟩, List.mem_of_getElem? (i := 599) (by decide +kernel), List.mem_of_getElem? (i := 697) (by decide +kernel), List.mem_of_getElem? (i := 698) (by decide +kernel)⟩
theorem lw_p17 : lw_okq (⟨"KeyCustodyModel", "put", "(IIII)V"⟩, 18) := ⟨⟨by decide +kernel, by decide +kernel⟩, List.mem_of_getElem? (i := 599) (by decide +kernel), List.mem_of_getElem? (i := 708) (by decide +kernel), List.mem_of_getElem? (i := 709) (by decide +kernel)⟩
theorem lw_p18 : lw_okq (⟨"KeyCustodyModel", "sent", "(II)I"⟩, 18) := ⟨⟨by decide +kernel, by decide +kernel⟩, List.mem_of_getElem? (i := 599) (by decide +kernel), List.mem_of_getElem? (i := 712) (by decide +kernel), List.mem_of_getElem? (i := 713) (by decide +kernel)⟩
theorem lw_p19 : lw_okq (⟨"KeyCustodyModel", "complains", "(II)Z"⟩, 18) := ⟨⟨by decide +kernel, by decide +kernel⟩, List.mem_of_getElem? (i := 599) (by decide +kernel), List.mem_of_getElem? (i := 720) (by decide +kernel), List.mem_of_getElem? (i := 721) (by decide +kernel)⟩
theorem lw_p20 : lw_okq (⟨"KeyCustodyModel", "dealer", "(I)Z"⟩, 18) := ⟨⟨by decide +kernel, by decide +kernel⟩, List.mem_of_getElem? (i := 599) (by decide +kernel), List.mem_of_getElem? (i := 724) (by decide +kernel), List.mem_of_getElem? (i := 725) (by decide +kernel)⟩
theorem lw_p21 : lw_okq (⟨"KeyCustodyModel", "goodShare", "(III)Z"⟩, 18) := ⟨⟨by decide +kernel, by decide +kernel⟩, List.mem_of_getElem? (i := 599) (by decide +kernel), List.mem_of_getElem? (i := 728) (by decide +kernel), List.mem_of_getElem? (i := 729) (by decide +kernel)⟩
theorem lw_p22 : lw_okq (⟨"KeyCustodyModel", "timesAt", "([III)I"⟩, 18) := ⟨⟨by decide +kernel, by decide +kernel⟩, List.mem_of_getElem? (i := 599) (by decide +kernel), List.mem_of_getElem? (i := 732) (by decide +kernel), List.mem_of_getElem? (i := 733) (by decide +kernel)⟩
theorem lw_p23 : lw_okq (⟨"KeyCustodyModel", "accepted", "(I)Z"⟩, 18) := ⟨⟨by decide +kernel, by decide +kernel⟩, List.mem_of_getElem? (i := 599) (by decide +kernel), List.mem_of_getElem? (i := 744) (by decide +kernel), List.mem_of_getElem? (i := 745) (by decide +kernel)⟩
theorem lw_p24 : lw_okq (⟨"KeyCustodyModel", "fitsSums", "(I)Z"⟩, 18) := ⟨⟨by decide +kernel, by decide +kernel⟩, List.mem_of_getElem? (i := 599) (by decide +kernel), List.mem_of_getElem? (i := 756) (by decide +kernel), List.mem_of_getElem? (i := 757) (by decide +kernel)⟩
theorem lw_p25 : lw_okq (⟨"KeyCustodyModel", "interpolate", "(II)I"⟩, 18) := ⟨⟨by decide +kernel, by decide +kernel⟩, List.mem_of_getElem? (i := 599) (by decide +kernel), List.mem_of_getElem? (i := 763) (by decide +kernel), List.mem_of_getElem? (i := 764) (by decide +kernel)⟩
theorem lw_p26 : lw_okq (⟨"KeyCustodyModel", "inverse", "(I)I"⟩, 18) := ⟨⟨by decide +kernel, by decide +kernel⟩, List.mem_of_getElem? (i := 599) (by decide +kernel), List.mem_of_getElem? (i := 767) (by decide +kernel), List.mem_of_getElem? (i := 768) (by decide +kernel)⟩
def lw_privs_2 : List (MethodName × Nat) := [(⟨"KeyCustodyModel", "first", "(I)I"⟩, 18), (⟨"KeyCustodyModel", "put", "(IIII)V"⟩, 18), (⟨"KeyCustodyModel", "sent", "(II)I"⟩, 18), (⟨"KeyCustodyModel", "complains", "(II)Z"⟩, 18), (⟨"KeyCustodyModel", "dealer", "(I)Z"⟩, 18), (⟨"KeyCustodyModel", "goodShare", "(III)Z"⟩, 18), (⟨"KeyCustodyModel", "timesAt", "([III)I"⟩, 18), (⟨"KeyCustodyModel", "accepted", "(I)Z"⟩, 18), (⟨"KeyCustodyModel", "fitsSums", "(I)Z"⟩, 18), (⟨"KeyCustodyModel", "interpolate", "(II)I"⟩, 18), (⟨"KeyCustodyModel", "inverse", "(I)I"⟩, 18)]
theorem lw_r2 : ∀ q ∈ lw_privs_2, lw_okq q := List.forall_mem_cons.mpr ⟨lw_p16, List.forall_mem_cons.mpr ⟨lw_p17, List.forall_mem_cons.mpr ⟨lw_p18, List.forall_mem_cons.mpr ⟨lw_p19, List.forall_mem_cons.mpr ⟨lw_p20, List.forall_mem_cons.mpr ⟨lw_p21, List.forall_mem_cons.mpr ⟨lw_p22, List.forall_mem_cons.mpr ⟨lw_p23, List.forall_mem_cons.mpr ⟨lw_p24, List.forall_mem_cons.mpr ⟨lw_p25, List.forall_mem_cons.mpr ⟨lw_p26, fun _ h => absurd h List.not_mem_nil⟩⟩⟩⟩⟩⟩⟩⟩⟩⟩⟩
def lw_privs : List (MethodName × Nat) := lw_privs_1 ++ (lw_privs_2)
def lw_tbl : List Cond := k2_sels lw_privs ++ tables_1
theorem lw_privs_ok : ∀ q ∈ lw_privs, lw_okq q := by
  show ∀ q ∈ lw_privs_1 ++ (lw_privs_2), lw_okq q
  exact List.forall_mem_append.mpr ⟨lw_r1, lw_r2⟩
end
section
abbrev y_K_init : MethodName := ⟨"KeyCustody", "<init>", "()V"⟩
abbrev y_JO_init : MethodName := ⟨"java/lang/Object", "<init>", "()V"⟩
abbrev y_G_init : MethodName := ⟨"KeyCustody$Group", "<init>", "()V"⟩
abbrev y_B_init : MethodName := ⟨"KeyCustody$Board", "<init>", "()V"⟩
abbrev y_V_init : MethodName := ⟨"KeyCustody$Week", "<init>", "(LKeyCustody$Group;)V"⟩
abbrev y_L_group : MethodName := ⟨"KeyCustodyLaw", "group", "(LKeyCustody;III)I"⟩
abbrev y_K_group : MethodName := ⟨"KeyCustody", "group", "(III)V"⟩
abbrev y_G_isGroup : MethodName := ⟨"KeyCustody$Group", "isGroup", "(III)Z"⟩
abbrev y_G_power : MethodName := ⟨"KeyCustody$Group", "power", "(III)I"⟩
abbrev y_G_isPrime : MethodName := ⟨"KeyCustody$Group", "isPrime", "(I)Z"⟩
abbrev y_JR_init : MethodName := ⟨"java/lang/RuntimeException", "<init>", "()V"⟩
abbrev y_JR_init_LSV : MethodName := ⟨"java/lang/RuntimeException", "<init>", "(Ljava/lang/String;)V"⟩
abbrev y_JE_init : MethodName := ⟨"java/lang/Exception", "<init>", "()V"⟩
abbrev y_JE_init_LSV : MethodName := ⟨"java/lang/Exception", "<init>", "(Ljava/lang/String;)V"⟩
abbrev y_JT_init : MethodName := ⟨"java/lang/Throwable", "<init>", "()V"⟩
abbrev y_JT_init_LSV : MethodName := ⟨"java/lang/Throwable", "<init>", "(Ljava/lang/String;)V"⟩
abbrev y_JT_fillInStackTrace_ILT : MethodName := ⟨"java/lang/Throwable", "fillInStackTrace", "(I)Ljava/lang/Throwable;"⟩
abbrev y_JT_fillInStackTrace : MethodName := ⟨"java/lang/Throwable", "fillInStackTrace", "()Ljava/lang/Throwable;"⟩
abbrev y_XA_init : MethodName := ⟨"java/lang/IllegalArgumentException", "<init>", "()V"⟩
abbrev y_G_become : MethodName := ⟨"KeyCustody$Group", "become", "(III)V"⟩
abbrev y_B_empty : MethodName := ⟨"KeyCustody$Board", "empty", "()V"⟩
abbrev y_V_begin : MethodName := ⟨"KeyCustody$Week", "begin", "()V"⟩
abbrev y_JA_fill : MethodName := ⟨"java/util/Arrays", "fill", "([II)V"⟩
abbrev y_L_found : MethodName := ⟨"KeyCustodyLaw", "found", "(LKeyCustody;IIII)I"⟩
abbrev y_K_found : MethodName := ⟨"KeyCustody", "found", "(IIII)V"⟩
abbrev y_G_stands : MethodName := ⟨"KeyCustody$Group", "stands", "()Z"⟩
abbrev y_XS_init : MethodName := ⟨"java/lang/IllegalStateException", "<init>", "()V"⟩
abbrev y_G_isNumber : MethodName := ⟨"KeyCustody$Group", "isNumber", "(I)Z"⟩
abbrev y_G_areNumbers : MethodName := ⟨"KeyCustody$Group", "areNumbers", "(III)Z"⟩
abbrev y_K_writeRow : MethodName := ⟨"KeyCustody", "writeRow", "([IIIII)V"⟩
abbrev y_G_commitTo : MethodName := ⟨"KeyCustody$Group", "commitTo", "([I[I)V"⟩
abbrev y_G_valueAt : MethodName := ⟨"KeyCustody$Group", "valueAt", "(I[I)I"⟩
abbrev y_G_multiplyNumbers : MethodName := ⟨"KeyCustody$Group", "multiplyNumbers", "(II)I"⟩
abbrev y_G_addNumbers : MethodName := ⟨"KeyCustody$Group", "addNumbers", "(II)I"⟩
abbrev y_L_fault : MethodName := ⟨"KeyCustodyLaw", "fault", "(LKeyCustody;II)I"⟩
abbrev y_K_fault : MethodName := ⟨"KeyCustody", "fault", "(II)V"⟩
abbrev y_K_requireFounded : MethodName := ⟨"KeyCustody", "requireFounded", "()V"⟩
abbrev y_K_requireSeat : MethodName := ⟨"KeyCustody", "requireSeat", "(I)V"⟩
abbrev y_XN_init : MethodName := ⟨"java/util/NoSuchElementException", "<init>", "()V"⟩
abbrev y_V_hasDealt : MethodName := ⟨"KeyCustody$Week", "hasDealt", "(I)Z"⟩
abbrev y_K_isAmong : MethodName := ⟨"KeyCustody", "isAmong", "(II)Z"⟩
abbrev y_K_bit : MethodName := ⟨"KeyCustody", "bit", "(I)I"⟩
abbrev y_V_isOneTooMany : MethodName := ⟨"KeyCustody$Week", "isOneTooMany", "(II)Z"⟩
abbrev y_V_faulty : MethodName := ⟨"KeyCustody$Week", "faulty", "()I"⟩
abbrev y_JI_bitCount : MethodName := ⟨"java/lang/Integer", "bitCount", "(I)I"⟩
abbrev y_XU_init : MethodName := ⟨"java/lang/UnsupportedOperationException", "<init>", "()V"⟩
abbrev y_V_turn : MethodName := ⟨"KeyCustody$Week", "turn", "(II)V"⟩
abbrev y_L_deal : MethodName := ⟨"KeyCustodyLaw", "deal", "(LKeyCustody;IIII)I"⟩
abbrev y_K_deal : MethodName := ⟨"KeyCustody", "deal", "(IIII)V"⟩
abbrev y_B_room : MethodName := ⟨"KeyCustody$Board", "room", "()I"⟩
abbrev y_V_isSilent : MethodName := ⟨"KeyCustody$Week", "isSilent", "(I)Z"⟩
abbrev y_V_passOver : MethodName := ⟨"KeyCustody$Week", "passOver", "(I)V"⟩
abbrev y_V_sendOut : MethodName := ⟨"KeyCustody$Week", "sendOut", "(IIII)V"⟩
abbrev y_V_rightShare : MethodName := ⟨"KeyCustody$Week", "rightShare", "(II)I"⟩
abbrev y_V_isCheated : MethodName := ⟨"KeyCustody$Week", "isCheated", "(II)Z"⟩
abbrev y_V_commitmentsOf : MethodName := ⟨"KeyCustody$Week", "commitmentsOf", "(I)[I"⟩
abbrev y_B_addDealing : MethodName := ⟨"KeyCustody$Board", "addDealing", "(II[I)V"⟩
abbrev y_B_add : MethodName := ⟨"KeyCustody$Board", "add", "(IIIII)V"⟩
abbrev y_JS_arraycopy : MethodName := ⟨"java/lang/System", "arraycopy", "(Ljava/lang/Object;ILjava/lang/Object;II)V"⟩
abbrev y_L_look : MethodName := ⟨"KeyCustodyLaw", "look", "(LKeyCustody;I[J)I"⟩
abbrev y_K_look : MethodName := ⟨"KeyCustody", "look", "(I)I"⟩
abbrev y_V_accusedBy : MethodName := ⟨"KeyCustody$Week", "accusedBy", "(I)I"⟩
abbrev y_V_objectsTo : MethodName := ⟨"KeyCustody$Week", "objectsTo", "(II)Z"⟩
abbrev y_G_agree : MethodName := ⟨"KeyCustody$Group", "agree", "(I[II)Z"⟩
abbrev y_G_elementAt : MethodName := ⟨"KeyCustody$Group", "elementAt", "(I[I)I"⟩
abbrev y_G_multiply : MethodName := ⟨"KeyCustody$Group", "multiply", "(II)I"⟩
abbrev y_V_complain : MethodName := ⟨"KeyCustody$Week", "complain", "(II)V"⟩
abbrev y_L_answer : MethodName := ⟨"KeyCustodyLaw", "answer", "(LKeyCustody;II[J)I"⟩
abbrev y_K_answer : MethodName := ⟨"KeyCustody", "answer", "(II)Z"⟩
abbrev y_V_dealers : MethodName := ⟨"KeyCustody$Week", "dealers", "()I"⟩
abbrev y_V_shownBy : MethodName := ⟨"KeyCustody$Week", "shownBy", "(II)I"⟩
abbrev y_V_settle : MethodName := ⟨"KeyCustody$Week", "settle", "(III)Z"⟩
abbrev y_L_close : MethodName := ⟨"KeyCustodyLaw", "close", "(LKeyCustody;[J)I"⟩
abbrev y_K_close : MethodName := ⟨"KeyCustody", "close", "()I"⟩
abbrev y_V_accepted : MethodName := ⟨"KeyCustody$Week", "accepted", "()I"⟩
abbrev y_K_takeOver : MethodName := ⟨"KeyCustody", "takeOver", "(I)V"⟩
abbrev y_K_isWiped : MethodName := ⟨"KeyCustody", "isWiped", "(I)Z"⟩
abbrev y_V_hadFrom : MethodName := ⟨"KeyCustody$Week", "hadFrom", "(II)I"⟩
abbrev y_L_wipe : MethodName := ⟨"KeyCustodyLaw", "wipe", "(LKeyCustody;I)I"⟩
abbrev y_K_wipe : MethodName := ⟨"KeyCustody", "wipe", "(I)V"⟩
abbrev y_L_recover : MethodName := ⟨"KeyCustodyLaw", "recover", "(LKeyCustody;I[J)I"⟩
abbrev y_K_recover : MethodName := ⟨"KeyCustody", "recover", "(I)I"⟩
abbrev y_K_sound : MethodName := ⟨"KeyCustody", "sound", "()I"⟩
abbrev y_K_isSound : MethodName := ⟨"KeyCustody", "isSound", "(I)Z"⟩
abbrev y_K_leastFour : MethodName := ⟨"KeyCustody", "leastFour", "(I)I"⟩
abbrev y_G_interpolate : MethodName := ⟨"KeyCustody$Group", "interpolate", "(II[I)I"⟩
abbrev y_G_weight : MethodName := ⟨"KeyCustody$Group", "weight", "(III)I"⟩
abbrev y_JM_floorMod : MethodName := ⟨"java/lang/Math", "floorMod", "(II)I"⟩
abbrev y_L_share : MethodName := ⟨"KeyCustodyLaw", "share", "(LKeyCustody;I[J)I"⟩
abbrev y_K_share : MethodName := ⟨"KeyCustody", "share", "(I)I"⟩
abbrev y_L_fits : MethodName := ⟨"KeyCustodyLaw", "fits", "(LKeyCustody;I[J)I"⟩
abbrev y_K_fits : MethodName := ⟨"KeyCustody", "fits", "(I)Z"⟩
abbrev y_L_sum : MethodName := ⟨"KeyCustodyLaw", "sum", "(LKeyCustody;I[J)I"⟩
abbrev y_K_sum : MethodName := ⟨"KeyCustody", "sum", "(I)I"⟩
abbrev y_XI_init : MethodName := ⟨"java/lang/IndexOutOfBoundsException", "<init>", "()V"⟩
abbrev y_L_element : MethodName := ⟨"KeyCustodyLaw", "element", "(LKeyCustody;I[J)I"⟩
abbrev y_K_element : MethodName := ⟨"KeyCustody", "element", "(I)I"⟩
abbrev y_L_reconstruct : MethodName := ⟨"KeyCustodyLaw", "reconstruct", "(LKeyCustody;I[J)I"⟩
abbrev y_K_reconstruct : MethodName := ⟨"KeyCustody", "reconstruct", "(I)I"⟩
abbrev y_K_wiped : MethodName := ⟨"KeyCustody", "wiped", "()I"⟩
abbrev y_L_post : MethodName := ⟨"KeyCustodyLaw", "post", "(LKeyCustody;II[J)I"⟩
abbrev y_K_post : MethodName := ⟨"KeyCustody", "post", "(II)I"⟩
abbrev y_B_size : MethodName := ⟨"KeyCustody$Board", "size", "()I"⟩
abbrev y_B_read : MethodName := ⟨"KeyCustody$Board", "read", "(II)I"⟩
abbrev y_L_about : MethodName := ⟨"KeyCustodyLaw", "about", "(LKeyCustody;I[J)I"⟩
abbrev y_K_about : MethodName := ⟨"KeyCustody", "about", "(I)I"⟩
abbrev y_V_complaintCount : MethodName := ⟨"KeyCustody$Week", "complaintCount", "()I"⟩
abbrev y_V_countAll : MethodName := ⟨"KeyCustody$Week", "countAll", "([I)I"⟩
abbrev y_V_settledCount : MethodName := ⟨"KeyCustody$Week", "settledCount", "()I"⟩
abbrev y_M_init : MethodName := ⟨"KeyCustodyModel", "<init>", "()V"⟩
abbrev y_M_thrown : MethodName := ⟨"KeyCustodyModel", "thrown", "()I"⟩
abbrev y_M_group : MethodName := ⟨"KeyCustodyModel", "group", "(III)V"⟩
abbrev y_M_prime : MethodName := ⟨"KeyCustodyModel", "prime", "(I)Z"⟩
abbrev y_M_power : MethodName := ⟨"KeyCustodyModel", "power", "(II)I"⟩
abbrev y_M_found : MethodName := ⟨"KeyCustodyModel", "found", "(IIII)V"⟩
abbrev y_M_noNumber : MethodName := ⟨"KeyCustodyModel", "noNumber", "(I)Z"⟩
abbrev y_M_valueAt : MethodName := ⟨"KeyCustodyModel", "valueAt", "(II)I"⟩
abbrev y_M_newWeek : MethodName := ⟨"KeyCustodyModel", "newWeek", "()V"⟩
abbrev y_M_fault : MethodName := ⟨"KeyCustodyModel", "fault", "(II)V"⟩
abbrev y_M_first : MethodName := ⟨"KeyCustodyModel", "first", "(I)I"⟩
abbrev y_M_noSeat : MethodName := ⟨"KeyCustodyModel", "noSeat", "(I)Z"⟩
abbrev y_M_deal : MethodName := ⟨"KeyCustodyModel", "deal", "(IIII)V"⟩
abbrev y_M_put : MethodName := ⟨"KeyCustodyModel", "put", "(IIII)V"⟩
abbrev y_M_sent : MethodName := ⟨"KeyCustodyModel", "sent", "(II)I"⟩
abbrev y_M_look : MethodName := ⟨"KeyCustodyModel", "look", "(I)I"⟩
abbrev y_M_complains : MethodName := ⟨"KeyCustodyModel", "complains", "(II)Z"⟩
abbrev y_M_dealer : MethodName := ⟨"KeyCustodyModel", "dealer", "(I)Z"⟩
abbrev y_M_goodShare : MethodName := ⟨"KeyCustodyModel", "goodShare", "(III)Z"⟩
abbrev y_M_timesAt : MethodName := ⟨"KeyCustodyModel", "timesAt", "([III)I"⟩
abbrev y_M_answer : MethodName := ⟨"KeyCustodyModel", "answer", "(II)Z"⟩
abbrev y_M_close : MethodName := ⟨"KeyCustodyModel", "close", "()I"⟩
abbrev y_M_accepted : MethodName := ⟨"KeyCustodyModel", "accepted", "(I)Z"⟩
abbrev y_M_wipe : MethodName := ⟨"KeyCustodyModel", "wipe", "(I)V"⟩
abbrev y_M_recover : MethodName := ⟨"KeyCustodyModel", "recover", "(I)I"⟩
abbrev y_M_fitsSums : MethodName := ⟨"KeyCustodyModel", "fitsSums", "(I)Z"⟩
abbrev y_M_four : MethodName := ⟨"KeyCustodyModel", "four", "(I)I"⟩
abbrev y_M_interpolate : MethodName := ⟨"KeyCustodyModel", "interpolate", "(II)I"⟩
abbrev y_M_inverse : MethodName := ⟨"KeyCustodyModel", "inverse", "(I)I"⟩
abbrev y_M_share : MethodName := ⟨"KeyCustodyModel", "share", "(I)I"⟩
abbrev y_M_fits : MethodName := ⟨"KeyCustodyModel", "fits", "(I)Z"⟩
abbrev y_M_sum : MethodName := ⟨"KeyCustodyModel", "sum", "(I)I"⟩
abbrev y_M_element : MethodName := ⟨"KeyCustodyModel", "element", "(I)I"⟩
abbrev y_M_reconstruct : MethodName := ⟨"KeyCustodyModel", "reconstruct", "(I)I"⟩
abbrev y_M_post : MethodName := ⟨"KeyCustodyModel", "post", "(II)I"⟩
abbrev y_M_about : MethodName := ⟨"KeyCustodyModel", "about", "(I)I"⟩
abbrev b_K_init : ByteArray := prog_1_method_1_code
abbrev b_G_init : ByteArray := prog_3_method_1_code
abbrev b_B_init : ByteArray := prog_2_method_1_code
abbrev b_V_init : ByteArray := prog_4_method_1_code
abbrev b_L_group : ByteArray := method_3_code
abbrev b_K_group : ByteArray := prog_1_method_2_code
abbrev b_G_isGroup : ByteArray := prog_3_method_2_code
abbrev b_G_power : ByteArray := prog_3_method_4_code
abbrev b_G_isPrime : ByteArray := prog_3_method_3_code
abbrev b_JT_init : ByteArray := prog_15_method_1_code
abbrev b_JT_fillInStackTrace : ByteArray := prog_15_method_18_code
abbrev b_XA_init : ByteArray := prog_8_method_1_code
abbrev b_JR_init : ByteArray := prog_13_method_1_code
abbrev b_JE_init : ByteArray := prog_7_method_1_code
abbrev b_G_become : ByteArray := prog_3_method_5_code
abbrev b_B_empty : ByteArray := prog_2_method_2_code
abbrev b_V_begin : ByteArray := prog_4_method_2_code
abbrev b_JA_fill : ByteArray := prog_17_method_103_code
abbrev b_L_found : ByteArray := method_4_code
abbrev b_K_found : ByteArray := prog_1_method_3_code
abbrev b_G_stands : ByteArray := prog_3_method_6_code
abbrev b_XS_init : ByteArray := prog_9_method_1_code
abbrev b_G_isNumber : ByteArray := prog_3_method_7_code
abbrev b_G_areNumbers : ByteArray := prog_3_method_8_code
abbrev b_K_writeRow : ByteArray := prog_1_method_28_code
abbrev b_G_commitTo : ByteArray := prog_3_method_13_code
abbrev b_G_valueAt : ByteArray := prog_3_method_12_code
abbrev b_G_multiplyNumbers : ByteArray := prog_3_method_10_code
abbrev b_G_addNumbers : ByteArray := prog_3_method_9_code
abbrev b_L_fault : ByteArray := method_5_code
abbrev b_K_fault : ByteArray := prog_1_method_4_code
abbrev b_K_requireFounded : ByteArray := prog_1_method_18_code
abbrev b_K_requireSeat : ByteArray := prog_1_method_19_code
abbrev b_XN_init : ByteArray := prog_18_method_1_code
abbrev b_V_hasDealt : ByteArray := prog_4_method_3_code
abbrev b_K_isAmong : ByteArray := prog_1_method_27_code
abbrev b_K_bit : ByteArray := prog_1_method_26_code
abbrev b_V_isOneTooMany : ByteArray := prog_4_method_4_code
abbrev b_V_faulty : ByteArray := prog_4_method_6_code
abbrev b_JI_bitCount : ByteArray := prog_11_method_49_code
abbrev b_XU_init : ByteArray := prog_16_method_1_code
abbrev b_V_turn : ByteArray := prog_4_method_5_code
abbrev b_L_deal : ByteArray := method_6_code
abbrev b_K_deal : ByteArray := prog_1_method_5_code
abbrev b_B_room : ByteArray := prog_2_method_4_code
abbrev b_V_isSilent : ByteArray := prog_4_method_7_code
abbrev b_V_passOver : ByteArray := prog_4_method_8_code
abbrev b_V_sendOut : ByteArray := prog_4_method_9_code
abbrev b_V_rightShare : ByteArray := prog_4_method_10_code
abbrev b_V_isCheated : ByteArray := prog_4_method_11_code
abbrev b_V_commitmentsOf : ByteArray := prog_4_method_13_code
abbrev b_B_addDealing : ByteArray := prog_2_method_7_code
abbrev b_B_add : ByteArray := prog_2_method_6_code
abbrev b_L_look : ByteArray := method_7_code
abbrev b_K_look : ByteArray := prog_1_method_6_code
abbrev b_V_accusedBy : ByteArray := prog_4_method_15_code
abbrev b_V_objectsTo : ByteArray := prog_4_method_16_code
abbrev b_G_agree : ByteArray := prog_3_method_15_code
abbrev b_G_elementAt : ByteArray := prog_3_method_14_code
abbrev b_G_multiply : ByteArray := prog_3_method_11_code
abbrev b_V_complain : ByteArray := prog_4_method_17_code
abbrev b_L_answer : ByteArray := method_8_code
abbrev b_K_answer : ByteArray := prog_1_method_7_code
abbrev b_V_dealers : ByteArray := prog_4_method_12_code
abbrev b_V_shownBy : ByteArray := prog_4_method_18_code
abbrev b_V_settle : ByteArray := prog_4_method_19_code
abbrev b_L_close : ByteArray := method_9_code
abbrev b_K_close : ByteArray := prog_1_method_8_code
abbrev b_V_accepted : ByteArray := prog_4_method_20_code
abbrev b_K_takeOver : ByteArray := prog_1_method_20_code
abbrev b_K_isWiped : ByteArray := prog_1_method_21_code
abbrev b_V_hadFrom : ByteArray := prog_4_method_14_code
abbrev b_L_wipe : ByteArray := method_10_code
abbrev b_K_wipe : ByteArray := prog_1_method_9_code
abbrev b_L_recover : ByteArray := method_11_code
abbrev b_K_recover : ByteArray := prog_1_method_10_code
abbrev b_K_sound : ByteArray := prog_1_method_24_code
abbrev b_K_isSound : ByteArray := prog_1_method_22_code
abbrev b_K_leastFour : ByteArray := prog_1_method_25_code
abbrev b_G_interpolate : ByteArray := prog_3_method_16_code
abbrev b_G_weight : ByteArray := prog_3_method_17_code
abbrev b_JM_floorMod : ByteArray := prog_12_method_50_code
abbrev b_L_share : ByteArray := method_12_code
abbrev b_K_share : ByteArray := prog_1_method_11_code
abbrev b_L_fits : ByteArray := method_13_code
abbrev b_K_fits : ByteArray := prog_1_method_12_code
abbrev b_L_sum : ByteArray := method_14_code
abbrev b_K_sum : ByteArray := prog_1_method_13_code
abbrev b_XI_init : ByteArray := prog_10_method_1_code
abbrev b_L_element : ByteArray := method_15_code
abbrev b_K_element : ByteArray := prog_1_method_14_code
abbrev b_L_reconstruct : ByteArray := method_16_code
abbrev b_K_reconstruct : ByteArray := prog_1_method_15_code
abbrev b_K_wiped : ByteArray := prog_1_method_23_code
abbrev b_L_post : ByteArray := method_17_code
abbrev b_K_post : ByteArray := prog_1_method_16_code
abbrev b_B_size : ByteArray := prog_2_method_3_code
abbrev b_B_read : ByteArray := prog_2_method_5_code
abbrev b_L_about : ByteArray := method_18_code
abbrev b_K_about : ByteArray := prog_1_method_17_code
abbrev b_V_complaintCount : ByteArray := prog_4_method_21_code
abbrev b_V_countAll : ByteArray := prog_4_method_23_code
abbrev b_V_settledCount : ByteArray := prog_4_method_22_code
abbrev b_M_init : ByteArray := prog_6_method_1_code
abbrev b_M_thrown : ByteArray := prog_6_method_17_code
abbrev b_M_group : ByteArray := prog_6_method_18_code
abbrev b_M_prime : ByteArray := prog_6_method_2_code
abbrev b_M_power : ByteArray := prog_6_method_3_code
abbrev b_M_found : ByteArray := prog_6_method_19_code
abbrev b_M_noNumber : ByteArray := prog_6_method_11_code
abbrev b_M_valueAt : ByteArray := prog_6_method_4_code
abbrev b_M_newWeek : ByteArray := prog_6_method_9_code
abbrev b_M_fault : ByteArray := prog_6_method_21_code
abbrev b_M_first : ByteArray := prog_6_method_20_code
abbrev b_M_noSeat : ByteArray := prog_6_method_12_code
abbrev b_M_deal : ByteArray := prog_6_method_22_code
abbrev b_M_put : ByteArray := prog_6_method_10_code
abbrev b_M_sent : ByteArray := prog_6_method_7_code
abbrev b_M_look : ByteArray := prog_6_method_23_code
abbrev b_M_complains : ByteArray := prog_6_method_24_code
abbrev b_M_dealer : ByteArray := prog_6_method_8_code
abbrev b_M_goodShare : ByteArray := prog_6_method_6_code
abbrev b_M_timesAt : ByteArray := prog_6_method_5_code
abbrev b_M_answer : ByteArray := prog_6_method_25_code
abbrev b_M_close : ByteArray := prog_6_method_27_code
abbrev b_M_accepted : ByteArray := prog_6_method_26_code
abbrev b_M_wipe : ByteArray := prog_6_method_28_code
abbrev b_M_recover : ByteArray := prog_6_method_29_code
abbrev b_M_fitsSums : ByteArray := prog_6_method_16_code
abbrev b_M_four : ByteArray := prog_6_method_14_code
abbrev b_M_interpolate : ByteArray := prog_6_method_15_code
abbrev b_M_inverse : ByteArray := prog_6_method_13_code
abbrev b_M_share : ByteArray := prog_6_method_30_code
abbrev b_M_fits : ByteArray := prog_6_method_31_code
abbrev b_M_sum : ByteArray := prog_6_method_32_code
abbrev b_M_element : ByteArray := prog_6_method_33_code
abbrev b_M_reconstruct : ByteArray := prog_6_method_34_code
abbrev b_M_post : ByteArray := prog_6_method_35_code
abbrev b_M_about : ByteArray := prog_6_method_36_code
end
section
theorem d_K_init_0 : decode b_K_init 0 = .ok (.aload_n 0, 1) := by decide +kernel
theorem d_K_init_1 : decode b_K_init 1 = .ok (.invokespecial 3, 3) := by decide +kernel
theorem d_K_init_4 : decode b_K_init 4 = .ok (.aload_n 0, 1) := by decide +kernel
theorem d_K_init_5 : decode b_K_init 5 = .ok (.new 9, 3) := by decide +kernel
theorem d_K_init_8 : decode b_K_init 8 = .ok (.dup, 1) := by decide +kernel
theorem d_K_init_9 : decode b_K_init 9 = .ok (.invokespecial 11, 3) := by decide +kernel
theorem d_K_init_12 : decode b_K_init 12 = .ok (.putfield 12, 3) := by decide +kernel
theorem d_K_init_15 : decode b_K_init 15 = .ok (.aload_n 0, 1) := by decide +kernel
theorem d_K_init_16 : decode b_K_init 16 = .ok (.new 16, 3) := by decide +kernel
theorem d_K_init_19 : decode b_K_init 19 = .ok (.dup, 1) := by decide +kernel
theorem d_K_init_20 : decode b_K_init 20 = .ok (.invokespecial 18, 3) := by decide +kernel
theorem d_K_init_23 : decode b_K_init 23 = .ok (.putfield 19, 3) := by decide +kernel
theorem d_K_init_26 : decode b_K_init 26 = .ok (.aload_n 0, 1) := by decide +kernel
theorem d_K_init_27 : decode b_K_init 27 = .ok (.new 23, 3) := by decide +kernel
theorem d_K_init_30 : decode b_K_init 30 = .ok (.dup, 1) := by decide +kernel
theorem d_K_init_31 : decode b_K_init 31 = .ok (.aload_n 0, 1) := by decide +kernel
theorem d_K_init_32 : decode b_K_init 32 = .ok (.getfield 12, 3) := by decide +kernel
theorem d_K_init_35 : decode b_K_init 35 = .ok (.invokespecial 25, 3) := by decide +kernel
theorem d_K_init_38 : decode b_K_init 38 = .ok (.putfield 28, 3) := by decide +kernel
theorem d_K_init_41 : decode b_K_init 41 = .ok (.aload_n 0, 1) := by decide +kernel
theorem d_K_init_42 : decode b_K_init 42 = .ok (.bipush 8, 2) := by decide +kernel
theorem d_K_init_44 : decode b_K_init 44 = .ok (.newarray .int, 2) := by decide +kernel
theorem d_K_init_46 : decode b_K_init 46 = .ok (.putfield 32, 3) := by decide +kernel
theorem d_K_init_49 : decode b_K_init 49 = .ok (.aload_n 0, 1) := by decide +kernel
theorem d_K_init_50 : decode b_K_init 50 = .ok (.iconst 4, 1) := by decide +kernel
theorem d_K_init_51 : decode b_K_init 51 = .ok (.newarray .int, 2) := by decide +kernel
theorem d_K_init_53 : decode b_K_init 53 = .ok (.putfield 36, 3) := by decide +kernel
theorem d_K_init_56 : decode b_K_init 56 = .ok (.aload_n 0, 1) := by decide +kernel
theorem d_K_init_57 : decode b_K_init 57 = .ok (.iconst 4, 1) := by decide +kernel
theorem d_K_init_58 : decode b_K_init 58 = .ok (.newarray .int, 2) := by decide +kernel
theorem d_K_init_60 : decode b_K_init 60 = .ok (.putfield 39, 3) := by decide +kernel
theorem d_K_init_63 : decode b_K_init 63 = .ok (.aload_n 0, 1) := by decide +kernel
theorem d_K_init_64 : decode b_K_init 64 = .ok (.iconst 0, 1) := by decide +kernel
theorem d_K_init_65 : decode b_K_init 65 = .ok (.putfield 42, 3) := by decide +kernel
theorem d_K_init_68 : decode b_K_init 68 = .ok (.return_, 1) := by decide +kernel
theorem d_G_init_0 : decode b_G_init 0 = .ok (.aload_n 0, 1) := by decide +kernel
theorem d_G_init_1 : decode b_G_init 1 = .ok (.invokespecial 3, 3) := by decide +kernel
theorem d_G_init_4 : decode b_G_init 4 = .ok (.aload_n 0, 1) := by decide +kernel
theorem d_G_init_5 : decode b_G_init 5 = .ok (.iconst 1, 1) := by decide +kernel
theorem d_G_init_6 : decode b_G_init 6 = .ok (.putfield 9, 3) := by decide +kernel
theorem d_G_init_9 : decode b_G_init 9 = .ok (.aload_n 0, 1) := by decide +kernel
theorem d_G_init_10 : decode b_G_init 10 = .ok (.iconst 1, 1) := by decide +kernel
theorem d_G_init_11 : decode b_G_init 11 = .ok (.putfield 15, 3) := by decide +kernel
theorem d_G_init_14 : decode b_G_init 14 = .ok (.aload_n 0, 1) := by decide +kernel
theorem d_G_init_15 : decode b_G_init 15 = .ok (.iconst 1, 1) := by decide +kernel
theorem d_G_init_16 : decode b_G_init 16 = .ok (.putfield 18, 3) := by decide +kernel
theorem d_G_init_19 : decode b_G_init 19 = .ok (.return_, 1) := by decide +kernel
theorem d_B_init_0 : decode b_B_init 0 = .ok (.aload_n 0, 1) := by decide +kernel
theorem d_B_init_1 : decode b_B_init 1 = .ok (.invokespecial 3, 3) := by decide +kernel
theorem d_B_init_4 : decode b_B_init 4 = .ok (.aload_n 0, 1) := by decide +kernel
theorem d_B_init_5 : decode b_B_init 5 = .ok (.sipush 2250, 3) := by decide +kernel
theorem d_B_init_8 : decode b_B_init 8 = .ok (.newarray .int, 2) := by decide +kernel
theorem d_B_init_10 : decode b_B_init 10 = .ok (.putfield 11, 3) := by decide +kernel
theorem d_B_init_13 : decode b_B_init 13 = .ok (.return_, 1) := by decide +kernel
theorem d_V_init_0 : decode b_V_init 0 = .ok (.aload_n 0, 1) := by decide +kernel
theorem d_V_init_1 : decode b_V_init 1 = .ok (.invokespecial 3, 3) := by decide +kernel
theorem d_V_init_4 : decode b_V_init 4 = .ok (.aload_n 0, 1) := by decide +kernel
theorem d_V_init_5 : decode b_V_init 5 = .ok (.bipush 8, 2) := by decide +kernel
theorem d_V_init_7 : decode b_V_init 7 = .ok (.newarray .int, 2) := by decide +kernel
theorem d_V_init_9 : decode b_V_init 9 = .ok (.putfield 9, 3) := by decide +kernel
theorem d_V_init_12 : decode b_V_init 12 = .ok (.aload_n 0, 1) := by decide +kernel
theorem d_V_init_13 : decode b_V_init 13 = .ok (.bipush 8, 2) := by decide +kernel
theorem d_V_init_15 : decode b_V_init 15 = .ok (.iconst 4, 1) := by decide +kernel
theorem d_V_init_16 : decode b_V_init 16 = .ok (.multianewarray 15 2, 4) := by decide +kernel
theorem d_V_init_20 : decode b_V_init 20 = .ok (.putfield 17, 3) := by decide +kernel
theorem d_V_init_23 : decode b_V_init 23 = .ok (.aload_n 0, 1) := by decide +kernel
theorem d_V_init_24 : decode b_V_init 24 = .ok (.bipush 8, 2) := by decide +kernel
theorem d_V_init_26 : decode b_V_init 26 = .ok (.iconst 4, 1) := by decide +kernel
theorem d_V_init_27 : decode b_V_init 27 = .ok (.multianewarray 15 2, 4) := by decide +kernel
theorem d_V_init_31 : decode b_V_init 31 = .ok (.putfield 20, 3) := by decide +kernel
theorem d_V_init_34 : decode b_V_init 34 = .ok (.aload_n 0, 1) := by decide +kernel
theorem d_V_init_35 : decode b_V_init 35 = .ok (.bipush 8, 2) := by decide +kernel
theorem d_V_init_37 : decode b_V_init 37 = .ok (.bipush 8, 2) := by decide +kernel
theorem d_V_init_39 : decode b_V_init 39 = .ok (.multianewarray 15 2, 4) := by decide +kernel
theorem d_V_init_43 : decode b_V_init 43 = .ok (.putfield 23, 3) := by decide +kernel
theorem d_V_init_46 : decode b_V_init 46 = .ok (.aload_n 0, 1) := by decide +kernel
theorem d_V_init_47 : decode b_V_init 47 = .ok (.bipush 8, 2) := by decide +kernel
theorem d_V_init_49 : decode b_V_init 49 = .ok (.newarray .int, 2) := by decide +kernel
theorem d_V_init_51 : decode b_V_init 51 = .ok (.putfield 26, 3) := by decide +kernel
theorem d_V_init_54 : decode b_V_init 54 = .ok (.aload_n 0, 1) := by decide +kernel
theorem d_V_init_55 : decode b_V_init 55 = .ok (.bipush 8, 2) := by decide +kernel
theorem d_V_init_57 : decode b_V_init 57 = .ok (.newarray .int, 2) := by decide +kernel
theorem d_V_init_59 : decode b_V_init 59 = .ok (.putfield 29, 3) := by decide +kernel
theorem d_V_init_62 : decode b_V_init 62 = .ok (.aload_n 0, 1) := by decide +kernel
theorem d_V_init_63 : decode b_V_init 63 = .ok (.aload_n 1, 1) := by decide +kernel
theorem d_V_init_64 : decode b_V_init 64 = .ok (.putfield 32, 3) := by decide +kernel
theorem d_V_init_67 : decode b_V_init 67 = .ok (.return_, 1) := by decide +kernel
theorem d_L_group_0 : decode b_L_group 0 = .ok (.aload_n 0, 1) := by decide +kernel
theorem d_L_group_1 : decode b_L_group 1 = .ok (.iload_n 1, 1) := by decide +kernel
theorem d_L_group_2 : decode b_L_group 2 = .ok (.iload_n 2, 1) := by decide +kernel
theorem d_L_group_3 : decode b_L_group 3 = .ok (.iload_n 3, 1) := by decide +kernel
theorem d_L_group_4 : decode b_L_group 4 = .ok (.invokevirtual 7, 3) := by decide +kernel
theorem d_L_group_7 : decode b_L_group 7 = .ok (.goto 7, 3) := by decide +kernel
theorem d_L_group_10 : decode b_L_group 10 = .ok (.astore 4, 2) := by decide +kernel
theorem d_L_group_12 : decode b_L_group 12 = .ok (.iconst 1, 1) := by decide +kernel
theorem d_L_group_13 : decode b_L_group 13 = .ok (.ireturn, 1) := by decide +kernel
theorem d_L_group_14 : decode b_L_group 14 = .ok (.iconst 0, 1) := by decide +kernel
theorem d_L_group_15 : decode b_L_group 15 = .ok (.ireturn, 1) := by decide +kernel
theorem d_K_group_0 : decode b_K_group 0 = .ok (.iload_n 1, 1) := by decide +kernel
theorem d_K_group_1 : decode b_K_group 1 = .ok (.iload_n 2, 1) := by decide +kernel
theorem d_K_group_2 : decode b_K_group 2 = .ok (.iload_n 3, 1) := by decide +kernel
theorem d_K_group_3 : decode b_K_group 3 = .ok (.invokestatic 46, 3) := by decide +kernel
theorem d_K_group_6 : decode b_K_group 6 = .ok (.ifCond .ne 11, 3) := by decide +kernel
theorem d_K_group_9 : decode b_K_group 9 = .ok (.new 50, 3) := by decide +kernel
theorem d_K_group_12 : decode b_K_group 12 = .ok (.dup, 1) := by decide +kernel
theorem d_K_group_13 : decode b_K_group 13 = .ok (.invokespecial 52, 3) := by decide +kernel
theorem d_K_group_16 : decode b_K_group 16 = .ok (.athrow, 1) := by decide +kernel
theorem d_K_group_17 : decode b_K_group 17 = .ok (.aload_n 0, 1) := by decide +kernel
theorem d_K_group_18 : decode b_K_group 18 = .ok (.getfield 12, 3) := by decide +kernel
theorem d_K_group_21 : decode b_K_group 21 = .ok (.iload_n 1, 1) := by decide +kernel
theorem d_K_group_22 : decode b_K_group 22 = .ok (.iload_n 2, 1) := by decide +kernel
theorem d_K_group_23 : decode b_K_group 23 = .ok (.iload_n 3, 1) := by decide +kernel
theorem d_K_group_24 : decode b_K_group 24 = .ok (.invokevirtual 53, 3) := by decide +kernel
theorem d_K_group_27 : decode b_K_group 27 = .ok (.aload_n 0, 1) := by decide +kernel
theorem d_K_group_28 : decode b_K_group 28 = .ok (.getfield 19, 3) := by decide +kernel
theorem d_K_group_31 : decode b_K_group 31 = .ok (.invokevirtual 57, 3) := by decide +kernel
theorem d_K_group_34 : decode b_K_group 34 = .ok (.aload_n 0, 1) := by decide +kernel
theorem d_K_group_35 : decode b_K_group 35 = .ok (.getfield 28, 3) := by decide +kernel
theorem d_K_group_38 : decode b_K_group 38 = .ok (.invokevirtual 60, 3) := by decide +kernel
theorem d_K_group_41 : decode b_K_group 41 = .ok (.aload_n 0, 1) := by decide +kernel
theorem d_K_group_42 : decode b_K_group 42 = .ok (.getfield 32, 3) := by decide +kernel
theorem d_K_group_45 : decode b_K_group 45 = .ok (.iconst 0, 1) := by decide +kernel
theorem d_K_group_46 : decode b_K_group 46 = .ok (.invokestatic 63, 3) := by decide +kernel
theorem d_K_group_49 : decode b_K_group 49 = .ok (.aload_n 0, 1) := by decide +kernel
theorem d_K_group_50 : decode b_K_group 50 = .ok (.getfield 36, 3) := by decide +kernel
theorem d_K_group_53 : decode b_K_group 53 = .ok (.iconst 0, 1) := by decide +kernel
theorem d_K_group_54 : decode b_K_group 54 = .ok (.invokestatic 63, 3) := by decide +kernel
theorem d_K_group_57 : decode b_K_group 57 = .ok (.aload_n 0, 1) := by decide +kernel
theorem d_K_group_58 : decode b_K_group 58 = .ok (.iconst 0, 1) := by decide +kernel
theorem d_K_group_59 : decode b_K_group 59 = .ok (.putfield 42, 3) := by decide +kernel
theorem d_K_group_62 : decode b_K_group 62 = .ok (.return_, 1) := by decide +kernel
theorem d_G_isGroup_0 : decode b_G_isGroup 0 = .ok (.iload_n 1, 1) := by decide +kernel
theorem d_G_isGroup_1 : decode b_G_isGroup 1 = .ok (.bipush 11, 2) := by decide +kernel
theorem d_G_isGroup_3 : decode b_G_isGroup 3 = .ok (.if_icmp .lt 23, 3) := by decide +kernel
theorem d_G_isGroup_6 : decode b_G_isGroup 6 = .ok (.iload_n 1, 1) := by decide +kernel
theorem d_G_isGroup_7 : decode b_G_isGroup 7 = .ok (.sipush 32749, 3) := by decide +kernel
theorem d_G_isGroup_10 : decode b_G_isGroup 10 = .ok (.if_icmp .gt 16, 3) := by decide +kernel
theorem d_G_isGroup_13 : decode b_G_isGroup 13 = .ok (.iload_n 0, 1) := by decide +kernel
theorem d_G_isGroup_14 : decode b_G_isGroup 14 = .ok (.iload_n 1, 1) := by decide +kernel
theorem d_G_isGroup_15 : decode b_G_isGroup 15 = .ok (.if_icmp .le 11, 3) := by decide +kernel
theorem d_G_isGroup_18 : decode b_G_isGroup 18 = .ok (.iload_n 0, 1) := by decide +kernel
theorem d_G_isGroup_19 : decode b_G_isGroup 19 = .ok (.iconst 1, 1) := by decide +kernel
theorem d_G_isGroup_20 : decode b_G_isGroup 20 = .ok (.isub, 1) := by decide +kernel
theorem d_G_isGroup_21 : decode b_G_isGroup 21 = .ok (.iload_n 1, 1) := by decide +kernel
theorem d_G_isGroup_22 : decode b_G_isGroup 22 = .ok (.irem, 1) := by decide +kernel
theorem d_G_isGroup_23 : decode b_G_isGroup 23 = .ok (.ifCond .eq 5, 3) := by decide +kernel
theorem d_G_isGroup_26 : decode b_G_isGroup 26 = .ok (.iconst 0, 1) := by decide +kernel
theorem d_G_isGroup_27 : decode b_G_isGroup 27 = .ok (.ireturn, 1) := by decide +kernel
theorem d_G_isGroup_28 : decode b_G_isGroup 28 = .ok (.iload_n 2, 1) := by decide +kernel
theorem d_G_isGroup_29 : decode b_G_isGroup 29 = .ok (.iconst 2, 1) := by decide +kernel
theorem d_G_isGroup_30 : decode b_G_isGroup 30 = .ok (.if_icmp .lt 18, 3) := by decide +kernel
theorem d_G_isGroup_33 : decode b_G_isGroup 33 = .ok (.iload_n 2, 1) := by decide +kernel
theorem d_G_isGroup_34 : decode b_G_isGroup 34 = .ok (.iload_n 0, 1) := by decide +kernel
theorem d_G_isGroup_35 : decode b_G_isGroup 35 = .ok (.if_icmp .ge 13, 3) := by decide +kernel
theorem d_G_isGroup_38 : decode b_G_isGroup 38 = .ok (.iload_n 2, 1) := by decide +kernel
theorem d_G_isGroup_39 : decode b_G_isGroup 39 = .ok (.iload_n 1, 1) := by decide +kernel
theorem d_G_isGroup_40 : decode b_G_isGroup 40 = .ok (.iload_n 0, 1) := by decide +kernel
theorem d_G_isGroup_41 : decode b_G_isGroup 41 = .ok (.invokestatic 21, 3) := by decide +kernel
theorem d_G_isGroup_44 : decode b_G_isGroup 44 = .ok (.iconst 1, 1) := by decide +kernel
theorem d_G_isGroup_45 : decode b_G_isGroup 45 = .ok (.if_icmp .eq 5, 3) := by decide +kernel
theorem d_G_isGroup_48 : decode b_G_isGroup 48 = .ok (.iconst 0, 1) := by decide +kernel
theorem d_G_isGroup_49 : decode b_G_isGroup 49 = .ok (.ireturn, 1) := by decide +kernel
theorem d_G_isGroup_50 : decode b_G_isGroup 50 = .ok (.iload_n 1, 1) := by decide +kernel
theorem d_G_isGroup_51 : decode b_G_isGroup 51 = .ok (.invokestatic 25, 3) := by decide +kernel
theorem d_G_isGroup_54 : decode b_G_isGroup 54 = .ok (.ifCond .eq 14, 3) := by decide +kernel
theorem d_G_isGroup_57 : decode b_G_isGroup 57 = .ok (.iload_n 0, 1) := by decide +kernel
theorem d_G_isGroup_58 : decode b_G_isGroup 58 = .ok (.invokestatic 25, 3) := by decide +kernel
theorem d_G_isGroup_61 : decode b_G_isGroup 61 = .ok (.ifCond .eq 7, 3) := by decide +kernel
theorem d_G_isGroup_64 : decode b_G_isGroup 64 = .ok (.iconst 1, 1) := by decide +kernel
theorem d_G_isGroup_65 : decode b_G_isGroup 65 = .ok (.goto 4, 3) := by decide +kernel
theorem d_G_isGroup_68 : decode b_G_isGroup 68 = .ok (.iconst 0, 1) := by decide +kernel
theorem d_G_isGroup_69 : decode b_G_isGroup 69 = .ok (.ireturn, 1) := by decide +kernel
theorem d_G_power_0 : decode b_G_power 0 = .ok (.iconst 1, 1) := by decide +kernel
theorem d_G_power_1 : decode b_G_power 1 = .ok (.iload_n 2, 1) := by decide +kernel
theorem d_G_power_2 : decode b_G_power 2 = .ok (.irem, 1) := by decide +kernel
theorem d_G_power_3 : decode b_G_power 3 = .ok (.i2l, 1) := by decide +kernel
theorem d_G_power_4 : decode b_G_power 4 = .ok (.lstore_n 3, 1) := by decide +kernel
theorem d_G_power_5 : decode b_G_power 5 = .ok (.iload_n 0, 1) := by decide +kernel
theorem d_G_power_6 : decode b_G_power 6 = .ok (.iload_n 2, 1) := by decide +kernel
theorem d_G_power_7 : decode b_G_power 7 = .ok (.irem, 1) := by decide +kernel
theorem d_G_power_8 : decode b_G_power 8 = .ok (.i2l, 1) := by decide +kernel
theorem d_G_power_9 : decode b_G_power 9 = .ok (.lstore 5, 2) := by decide +kernel
theorem d_G_power_11 : decode b_G_power 11 = .ok (.iload_n 1, 1) := by decide +kernel
theorem d_G_power_12 : decode b_G_power 12 = .ok (.istore 7, 2) := by decide +kernel
theorem d_G_power_14 : decode b_G_power 14 = .ok (.iload 7, 2) := by decide +kernel
theorem d_G_power_16 : decode b_G_power 16 = .ok (.ifCond .le 37, 3) := by decide +kernel
theorem d_G_power_19 : decode b_G_power 19 = .ok (.iload 7, 2) := by decide +kernel
theorem d_G_power_21 : decode b_G_power 21 = .ok (.iconst 1, 1) := by decide +kernel
theorem d_G_power_22 : decode b_G_power 22 = .ok (.iand, 1) := by decide +kernel
theorem d_G_power_23 : decode b_G_power 23 = .ok (.ifCond .eq 11, 3) := by decide +kernel
theorem d_G_power_26 : decode b_G_power 26 = .ok (.lload_n 3, 1) := by decide +kernel
theorem d_G_power_27 : decode b_G_power 27 = .ok (.lload 5, 2) := by decide +kernel
theorem d_G_power_29 : decode b_G_power 29 = .ok (.lmul, 1) := by decide +kernel
theorem d_G_power_30 : decode b_G_power 30 = .ok (.iload_n 2, 1) := by decide +kernel
theorem d_G_power_31 : decode b_G_power 31 = .ok (.i2l, 1) := by decide +kernel
theorem d_G_power_32 : decode b_G_power 32 = .ok (.lrem, 1) := by decide +kernel
theorem d_G_power_33 : decode b_G_power 33 = .ok (.lstore_n 3, 1) := by decide +kernel
theorem d_G_power_34 : decode b_G_power 34 = .ok (.lload 5, 2) := by decide +kernel
theorem d_G_power_36 : decode b_G_power 36 = .ok (.lload 5, 2) := by decide +kernel
theorem d_G_power_38 : decode b_G_power 38 = .ok (.lmul, 1) := by decide +kernel
theorem d_G_power_39 : decode b_G_power 39 = .ok (.iload_n 2, 1) := by decide +kernel
theorem d_G_power_40 : decode b_G_power 40 = .ok (.i2l, 1) := by decide +kernel
theorem d_G_power_41 : decode b_G_power 41 = .ok (.lrem, 1) := by decide +kernel
theorem d_G_power_42 : decode b_G_power 42 = .ok (.lstore 5, 2) := by decide +kernel
theorem d_G_power_44 : decode b_G_power 44 = .ok (.iload 7, 2) := by decide +kernel
theorem d_G_power_46 : decode b_G_power 46 = .ok (.iconst 1, 1) := by decide +kernel
theorem d_G_power_47 : decode b_G_power 47 = .ok (.ishr, 1) := by decide +kernel
theorem d_G_power_48 : decode b_G_power 48 = .ok (.istore 7, 2) := by decide +kernel
theorem d_G_power_50 : decode b_G_power 50 = .ok (.goto (-36), 3) := by decide +kernel
theorem d_G_power_53 : decode b_G_power 53 = .ok (.lload_n 3, 1) := by decide +kernel
theorem d_G_power_54 : decode b_G_power 54 = .ok (.l2i, 1) := by decide +kernel
theorem d_G_power_55 : decode b_G_power 55 = .ok (.ireturn, 1) := by decide +kernel
theorem d_G_isPrime_0 : decode b_G_isPrime 0 = .ok (.iload_n 0, 1) := by decide +kernel
theorem d_G_isPrime_1 : decode b_G_isPrime 1 = .ok (.iconst 5, 1) := by decide +kernel
theorem d_G_isPrime_2 : decode b_G_isPrime 2 = .ok (.if_icmp .ge 19, 3) := by decide +kernel
theorem d_G_isPrime_5 : decode b_G_isPrime 5 = .ok (.iload_n 0, 1) := by decide +kernel
theorem d_G_isPrime_6 : decode b_G_isPrime 6 = .ok (.iconst 2, 1) := by decide +kernel
theorem d_G_isPrime_7 : decode b_G_isPrime 7 = .ok (.if_icmp .eq 8, 3) := by decide +kernel
theorem d_G_isPrime_10 : decode b_G_isPrime 10 = .ok (.iload_n 0, 1) := by decide +kernel
theorem d_G_isPrime_11 : decode b_G_isPrime 11 = .ok (.iconst 3, 1) := by decide +kernel
theorem d_G_isPrime_12 : decode b_G_isPrime 12 = .ok (.if_icmp .ne 7, 3) := by decide +kernel
theorem d_G_isPrime_15 : decode b_G_isPrime 15 = .ok (.iconst 1, 1) := by decide +kernel
theorem d_G_isPrime_16 : decode b_G_isPrime 16 = .ok (.goto 4, 3) := by decide +kernel
theorem d_G_isPrime_19 : decode b_G_isPrime 19 = .ok (.iconst 0, 1) := by decide +kernel
theorem d_G_isPrime_20 : decode b_G_isPrime 20 = .ok (.ireturn, 1) := by decide +kernel
theorem d_G_isPrime_21 : decode b_G_isPrime 21 = .ok (.iload_n 0, 1) := by decide +kernel
theorem d_G_isPrime_22 : decode b_G_isPrime 22 = .ok (.iconst 2, 1) := by decide +kernel
theorem d_G_isPrime_23 : decode b_G_isPrime 23 = .ok (.irem, 1) := by decide +kernel
theorem d_G_isPrime_24 : decode b_G_isPrime 24 = .ok (.ifCond .eq 9, 3) := by decide +kernel
theorem d_G_isPrime_27 : decode b_G_isPrime 27 = .ok (.iload_n 0, 1) := by decide +kernel
theorem d_G_isPrime_28 : decode b_G_isPrime 28 = .ok (.iconst 3, 1) := by decide +kernel
theorem d_G_isPrime_29 : decode b_G_isPrime 29 = .ok (.irem, 1) := by decide +kernel
theorem d_G_isPrime_30 : decode b_G_isPrime 30 = .ok (.ifCond .ne 5, 3) := by decide +kernel
theorem d_G_isPrime_33 : decode b_G_isPrime 33 = .ok (.iconst 0, 1) := by decide +kernel
theorem d_G_isPrime_34 : decode b_G_isPrime 34 = .ok (.ireturn, 1) := by decide +kernel
theorem d_G_isPrime_35 : decode b_G_isPrime 35 = .ok (.iconst 5, 1) := by decide +kernel
theorem d_G_isPrime_36 : decode b_G_isPrime 36 = .ok (.istore_n 1, 1) := by decide +kernel
theorem d_G_isPrime_37 : decode b_G_isPrime 37 = .ok (.iload_n 1, 1) := by decide +kernel
theorem d_G_isPrime_38 : decode b_G_isPrime 38 = .ok (.iload_n 0, 1) := by decide +kernel
theorem d_G_isPrime_39 : decode b_G_isPrime 39 = .ok (.iload_n 1, 1) := by decide +kernel
theorem d_G_isPrime_40 : decode b_G_isPrime 40 = .ok (.idiv, 1) := by decide +kernel
theorem d_G_isPrime_41 : decode b_G_isPrime 41 = .ok (.if_icmp .gt 25, 3) := by decide +kernel
theorem d_G_isPrime_44 : decode b_G_isPrime 44 = .ok (.iload_n 0, 1) := by decide +kernel
theorem d_G_isPrime_45 : decode b_G_isPrime 45 = .ok (.iload_n 1, 1) := by decide +kernel
theorem d_G_isPrime_46 : decode b_G_isPrime 46 = .ok (.irem, 1) := by decide +kernel
theorem d_G_isPrime_47 : decode b_G_isPrime 47 = .ok (.ifCond .eq 11, 3) := by decide +kernel
theorem d_G_isPrime_50 : decode b_G_isPrime 50 = .ok (.iload_n 0, 1) := by decide +kernel
theorem d_G_isPrime_51 : decode b_G_isPrime 51 = .ok (.iload_n 1, 1) := by decide +kernel
theorem d_G_isPrime_52 : decode b_G_isPrime 52 = .ok (.iconst 2, 1) := by decide +kernel
theorem d_G_isPrime_53 : decode b_G_isPrime 53 = .ok (.iadd, 1) := by decide +kernel
theorem d_G_isPrime_54 : decode b_G_isPrime 54 = .ok (.irem, 1) := by decide +kernel
theorem d_G_isPrime_55 : decode b_G_isPrime 55 = .ok (.ifCond .ne 5, 3) := by decide +kernel
theorem d_G_isPrime_58 : decode b_G_isPrime 58 = .ok (.iconst 0, 1) := by decide +kernel
theorem d_G_isPrime_59 : decode b_G_isPrime 59 = .ok (.ireturn, 1) := by decide +kernel
theorem d_G_isPrime_60 : decode b_G_isPrime 60 = .ok (.iinc 1 6, 3) := by decide +kernel
theorem d_G_isPrime_63 : decode b_G_isPrime 63 = .ok (.goto (-26), 3) := by decide +kernel
theorem d_G_isPrime_66 : decode b_G_isPrime 66 = .ok (.iconst 1, 1) := by decide +kernel
theorem d_G_isPrime_67 : decode b_G_isPrime 67 = .ok (.ireturn, 1) := by decide +kernel
theorem d_G_become_0 : decode b_G_become 0 = .ok (.aload_n 0, 1) := by decide +kernel
theorem d_G_become_1 : decode b_G_become 1 = .ok (.iload_n 1, 1) := by decide +kernel
theorem d_G_become_2 : decode b_G_become 2 = .ok (.putfield 9, 3) := by decide +kernel
theorem d_G_become_5 : decode b_G_become 5 = .ok (.aload_n 0, 1) := by decide +kernel
theorem d_G_become_6 : decode b_G_become 6 = .ok (.iload_n 2, 1) := by decide +kernel
theorem d_G_become_7 : decode b_G_become 7 = .ok (.putfield 15, 3) := by decide +kernel
theorem d_G_become_10 : decode b_G_become 10 = .ok (.aload_n 0, 1) := by decide +kernel
theorem d_G_become_11 : decode b_G_become 11 = .ok (.iload_n 3, 1) := by decide +kernel
theorem d_G_become_12 : decode b_G_become 12 = .ok (.putfield 18, 3) := by decide +kernel
theorem d_G_become_15 : decode b_G_become 15 = .ok (.return_, 1) := by decide +kernel
theorem d_B_empty_0 : decode b_B_empty 0 = .ok (.aload_n 0, 1) := by decide +kernel
theorem d_B_empty_1 : decode b_B_empty 1 = .ok (.iconst 0, 1) := by decide +kernel
theorem d_B_empty_2 : decode b_B_empty 2 = .ok (.putfield 15, 3) := by decide +kernel
theorem d_B_empty_5 : decode b_B_empty 5 = .ok (.return_, 1) := by decide +kernel
theorem d_V_begin_0 : decode b_V_begin 0 = .ok (.aload_n 0, 1) := by decide +kernel
theorem d_V_begin_1 : decode b_V_begin 1 = .ok (.getfield 9, 3) := by decide +kernel
theorem d_V_begin_4 : decode b_V_begin 4 = .ok (.iconst 0, 1) := by decide +kernel
theorem d_V_begin_5 : decode b_V_begin 5 = .ok (.invokestatic 36, 3) := by decide +kernel
theorem d_V_begin_8 : decode b_V_begin 8 = .ok (.aload_n 0, 1) := by decide +kernel
theorem d_V_begin_9 : decode b_V_begin 9 = .ok (.getfield 26, 3) := by decide +kernel
theorem d_V_begin_12 : decode b_V_begin 12 = .ok (.iconst 0, 1) := by decide +kernel
theorem d_V_begin_13 : decode b_V_begin 13 = .ok (.invokestatic 36, 3) := by decide +kernel
theorem d_V_begin_16 : decode b_V_begin 16 = .ok (.aload_n 0, 1) := by decide +kernel
theorem d_V_begin_17 : decode b_V_begin 17 = .ok (.getfield 29, 3) := by decide +kernel
theorem d_V_begin_20 : decode b_V_begin 20 = .ok (.iconst 0, 1) := by decide +kernel
theorem d_V_begin_21 : decode b_V_begin 21 = .ok (.invokestatic 36, 3) := by decide +kernel
theorem d_V_begin_24 : decode b_V_begin 24 = .ok (.aload_n 0, 1) := by decide +kernel
theorem d_V_begin_25 : decode b_V_begin 25 = .ok (.iconst 0, 1) := by decide +kernel
theorem d_V_begin_26 : decode b_V_begin 26 = .ok (.putfield 42, 3) := by decide +kernel
theorem d_V_begin_29 : decode b_V_begin 29 = .ok (.aload_n 0, 1) := by decide +kernel
theorem d_V_begin_30 : decode b_V_begin 30 = .ok (.iconst 0, 1) := by decide +kernel
theorem d_V_begin_31 : decode b_V_begin 31 = .ok (.putfield 46, 3) := by decide +kernel
theorem d_V_begin_34 : decode b_V_begin 34 = .ok (.return_, 1) := by decide +kernel
theorem d_JA_fill_0 : decode b_JA_fill 0 = .ok (.iconst 0, 1) := by decide +kernel
theorem d_JA_fill_1 : decode b_JA_fill 1 = .ok (.istore_n 2, 1) := by decide +kernel
theorem d_JA_fill_2 : decode b_JA_fill 2 = .ok (.aload_n 0, 1) := by decide +kernel
theorem d_JA_fill_3 : decode b_JA_fill 3 = .ok (.arraylength, 1) := by decide +kernel
theorem d_JA_fill_4 : decode b_JA_fill 4 = .ok (.istore_n 3, 1) := by decide +kernel
theorem d_JA_fill_5 : decode b_JA_fill 5 = .ok (.iload_n 2, 1) := by decide +kernel
theorem d_JA_fill_6 : decode b_JA_fill 6 = .ok (.iload_n 3, 1) := by decide +kernel
theorem d_JA_fill_7 : decode b_JA_fill 7 = .ok (.if_icmp .ge 13, 3) := by decide +kernel
theorem d_JA_fill_10 : decode b_JA_fill 10 = .ok (.aload_n 0, 1) := by decide +kernel
theorem d_JA_fill_11 : decode b_JA_fill 11 = .ok (.iload_n 2, 1) := by decide +kernel
theorem d_JA_fill_12 : decode b_JA_fill 12 = .ok (.iload_n 1, 1) := by decide +kernel
theorem d_JA_fill_13 : decode b_JA_fill 13 = .ok (.iastore, 1) := by decide +kernel
theorem d_JA_fill_14 : decode b_JA_fill 14 = .ok (.iinc 2 1, 3) := by decide +kernel
theorem d_JA_fill_17 : decode b_JA_fill 17 = .ok (.goto (-12), 3) := by decide +kernel
theorem d_JA_fill_20 : decode b_JA_fill 20 = .ok (.return_, 1) := by decide +kernel
theorem d_L_found_0 : decode b_L_found 0 = .ok (.aload_n 0, 1) := by decide +kernel
theorem d_L_found_1 : decode b_L_found 1 = .ok (.iload_n 1, 1) := by decide +kernel
theorem d_L_found_2 : decode b_L_found 2 = .ok (.iload_n 2, 1) := by decide +kernel
theorem d_L_found_3 : decode b_L_found 3 = .ok (.iload_n 3, 1) := by decide +kernel
theorem d_L_found_4 : decode b_L_found 4 = .ok (.iload 4, 2) := by decide +kernel
theorem d_L_found_6 : decode b_L_found 6 = .ok (.invokevirtual 15, 3) := by decide +kernel
theorem d_L_found_9 : decode b_L_found 9 = .ok (.goto 11, 3) := by decide +kernel
theorem d_L_found_12 : decode b_L_found 12 = .ok (.astore 5, 2) := by decide +kernel
theorem d_L_found_14 : decode b_L_found 14 = .ok (.iconst 1, 1) := by decide +kernel
theorem d_L_found_15 : decode b_L_found 15 = .ok (.ireturn, 1) := by decide +kernel
theorem d_L_found_16 : decode b_L_found 16 = .ok (.astore 5, 2) := by decide +kernel
theorem d_L_found_18 : decode b_L_found 18 = .ok (.iconst 2, 1) := by decide +kernel
theorem d_L_found_19 : decode b_L_found 19 = .ok (.ireturn, 1) := by decide +kernel
theorem d_L_found_20 : decode b_L_found 20 = .ok (.iconst 0, 1) := by decide +kernel
theorem d_L_found_21 : decode b_L_found 21 = .ok (.ireturn, 1) := by decide +kernel
theorem d_K_found_0 : decode b_K_found 0 = .ok (.aload_n 0, 1) := by decide +kernel
theorem d_K_found_1 : decode b_K_found 1 = .ok (.getfield 12, 3) := by decide +kernel
theorem d_K_found_4 : decode b_K_found 4 = .ok (.invokevirtual 69, 3) := by decide +kernel
theorem d_K_found_7 : decode b_K_found 7 = .ok (.ifCond .ne 11, 3) := by decide +kernel
theorem d_K_found_10 : decode b_K_found 10 = .ok (.new 73, 3) := by decide +kernel
theorem d_K_found_13 : decode b_K_found 13 = .ok (.dup, 1) := by decide +kernel
theorem d_K_found_14 : decode b_K_found 14 = .ok (.invokespecial 75, 3) := by decide +kernel
theorem d_K_found_17 : decode b_K_found 17 = .ok (.athrow, 1) := by decide +kernel
theorem d_K_found_18 : decode b_K_found 18 = .ok (.aload_n 0, 1) := by decide +kernel
theorem d_K_found_19 : decode b_K_found 19 = .ok (.getfield 12, 3) := by decide +kernel
theorem d_K_found_22 : decode b_K_found 22 = .ok (.iload_n 1, 1) := by decide +kernel
theorem d_K_found_23 : decode b_K_found 23 = .ok (.invokevirtual 76, 3) := by decide +kernel
theorem d_K_found_26 : decode b_K_found 26 = .ok (.ifCond .eq 17, 3) := by decide +kernel
theorem d_K_found_29 : decode b_K_found 29 = .ok (.aload_n 0, 1) := by decide +kernel
theorem d_K_found_30 : decode b_K_found 30 = .ok (.getfield 12, 3) := by decide +kernel
theorem d_K_found_33 : decode b_K_found 33 = .ok (.iload_n 2, 1) := by decide +kernel
theorem d_K_found_34 : decode b_K_found 34 = .ok (.iload_n 3, 1) := by decide +kernel
theorem d_K_found_35 : decode b_K_found 35 = .ok (.iload 4, 2) := by decide +kernel
theorem d_K_found_37 : decode b_K_found 37 = .ok (.invokevirtual 80, 3) := by decide +kernel
theorem d_K_found_40 : decode b_K_found 40 = .ok (.ifCond .ne 11, 3) := by decide +kernel
theorem d_K_found_43 : decode b_K_found 43 = .ok (.new 50, 3) := by decide +kernel
theorem d_K_found_46 : decode b_K_found 46 = .ok (.dup, 1) := by decide +kernel
theorem d_K_found_47 : decode b_K_found 47 = .ok (.invokespecial 52, 3) := by decide +kernel
theorem d_K_found_50 : decode b_K_found 50 = .ok (.athrow, 1) := by decide +kernel
theorem d_K_found_51 : decode b_K_found 51 = .ok (.aload_n 0, 1) := by decide +kernel
theorem d_K_found_52 : decode b_K_found 52 = .ok (.getfield 39, 3) := by decide +kernel
theorem d_K_found_55 : decode b_K_found 55 = .ok (.iload_n 1, 1) := by decide +kernel
theorem d_K_found_56 : decode b_K_found 56 = .ok (.iload_n 2, 1) := by decide +kernel
theorem d_K_found_57 : decode b_K_found 57 = .ok (.iload_n 3, 1) := by decide +kernel
theorem d_K_found_58 : decode b_K_found 58 = .ok (.iload 4, 2) := by decide +kernel
theorem d_K_found_60 : decode b_K_found 60 = .ok (.invokestatic 83, 3) := by decide +kernel
theorem d_K_found_63 : decode b_K_found 63 = .ok (.aload_n 0, 1) := by decide +kernel
theorem d_K_found_64 : decode b_K_found 64 = .ok (.getfield 12, 3) := by decide +kernel
theorem d_K_found_67 : decode b_K_found 67 = .ok (.aload_n 0, 1) := by decide +kernel
theorem d_K_found_68 : decode b_K_found 68 = .ok (.getfield 39, 3) := by decide +kernel
theorem d_K_found_71 : decode b_K_found 71 = .ok (.aload_n 0, 1) := by decide +kernel
theorem d_K_found_72 : decode b_K_found 72 = .ok (.getfield 36, 3) := by decide +kernel
theorem d_K_found_75 : decode b_K_found 75 = .ok (.invokevirtual 87, 3) := by decide +kernel
theorem d_K_found_78 : decode b_K_found 78 = .ok (.iconst 1, 1) := by decide +kernel
theorem d_K_found_79 : decode b_K_found 79 = .ok (.istore 5, 2) := by decide +kernel
theorem d_K_found_81 : decode b_K_found 81 = .ok (.iload 5, 2) := by decide +kernel
theorem d_K_found_83 : decode b_K_found 83 = .ok (.bipush 7, 2) := by decide +kernel
theorem d_K_found_85 : decode b_K_found 85 = .ok (.if_icmp .gt 29, 3) := by decide +kernel
theorem d_K_found_88 : decode b_K_found 88 = .ok (.aload_n 0, 1) := by decide +kernel
theorem d_K_found_89 : decode b_K_found 89 = .ok (.getfield 32, 3) := by decide +kernel
theorem d_K_found_92 : decode b_K_found 92 = .ok (.iload 5, 2) := by decide +kernel
theorem d_K_found_94 : decode b_K_found 94 = .ok (.aload_n 0, 1) := by decide +kernel
theorem d_K_found_95 : decode b_K_found 95 = .ok (.getfield 12, 3) := by decide +kernel
theorem d_K_found_98 : decode b_K_found 98 = .ok (.iload 5, 2) := by decide +kernel
theorem d_K_found_100 : decode b_K_found 100 = .ok (.aload_n 0, 1) := by decide +kernel
theorem d_K_found_101 : decode b_K_found 101 = .ok (.getfield 39, 3) := by decide +kernel
theorem d_K_found_104 : decode b_K_found 104 = .ok (.invokevirtual 91, 3) := by decide +kernel
theorem d_K_found_107 : decode b_K_found 107 = .ok (.iastore, 1) := by decide +kernel
theorem d_K_found_108 : decode b_K_found 108 = .ok (.iinc 5 1, 3) := by decide +kernel
theorem d_K_found_111 : decode b_K_found 111 = .ok (.goto (-30), 3) := by decide +kernel
theorem d_K_found_114 : decode b_K_found 114 = .ok (.aload_n 0, 1) := by decide +kernel
theorem d_K_found_115 : decode b_K_found 115 = .ok (.getfield 19, 3) := by decide +kernel
theorem d_K_found_118 : decode b_K_found 118 = .ok (.invokevirtual 57, 3) := by decide +kernel
theorem d_K_found_121 : decode b_K_found 121 = .ok (.aload_n 0, 1) := by decide +kernel
theorem d_K_found_122 : decode b_K_found 122 = .ok (.getfield 28, 3) := by decide +kernel
theorem d_K_found_125 : decode b_K_found 125 = .ok (.invokevirtual 60, 3) := by decide +kernel
theorem d_K_found_128 : decode b_K_found 128 = .ok (.aload_n 0, 1) := by decide +kernel
theorem d_K_found_129 : decode b_K_found 129 = .ok (.iconst 1, 1) := by decide +kernel
theorem d_K_found_130 : decode b_K_found 130 = .ok (.putfield 42, 3) := by decide +kernel
theorem d_K_found_133 : decode b_K_found 133 = .ok (.return_, 1) := by decide +kernel
theorem d_G_stands_0 : decode b_G_stands 0 = .ok (.aload_n 0, 1) := by decide +kernel
theorem d_G_stands_1 : decode b_G_stands 1 = .ok (.getfield 15, 3) := by decide +kernel
theorem d_G_stands_4 : decode b_G_stands 4 = .ok (.iconst 1, 1) := by decide +kernel
theorem d_G_stands_5 : decode b_G_stands 5 = .ok (.if_icmp .le 7, 3) := by decide +kernel
theorem d_G_stands_8 : decode b_G_stands 8 = .ok (.iconst 1, 1) := by decide +kernel
theorem d_G_stands_9 : decode b_G_stands 9 = .ok (.goto 4, 3) := by decide +kernel
theorem d_G_stands_12 : decode b_G_stands 12 = .ok (.iconst 0, 1) := by decide +kernel
theorem d_G_stands_13 : decode b_G_stands 13 = .ok (.ireturn, 1) := by decide +kernel
theorem d_G_isNumber_0 : decode b_G_isNumber 0 = .ok (.iload_n 1, 1) := by decide +kernel
theorem d_G_isNumber_1 : decode b_G_isNumber 1 = .ok (.ifCond .lt 15, 3) := by decide +kernel
theorem d_G_isNumber_4 : decode b_G_isNumber 4 = .ok (.iload_n 1, 1) := by decide +kernel
theorem d_G_isNumber_5 : decode b_G_isNumber 5 = .ok (.aload_n 0, 1) := by decide +kernel
theorem d_G_isNumber_6 : decode b_G_isNumber 6 = .ok (.getfield 15, 3) := by decide +kernel
theorem d_G_isNumber_9 : decode b_G_isNumber 9 = .ok (.if_icmp .ge 7, 3) := by decide +kernel
theorem d_G_isNumber_12 : decode b_G_isNumber 12 = .ok (.iconst 1, 1) := by decide +kernel
theorem d_G_isNumber_13 : decode b_G_isNumber 13 = .ok (.goto 4, 3) := by decide +kernel
theorem d_G_isNumber_16 : decode b_G_isNumber 16 = .ok (.iconst 0, 1) := by decide +kernel
theorem d_G_isNumber_17 : decode b_G_isNumber 17 = .ok (.ireturn, 1) := by decide +kernel
theorem d_G_areNumbers_0 : decode b_G_areNumbers 0 = .ok (.aload_n 0, 1) := by decide +kernel
theorem d_G_areNumbers_1 : decode b_G_areNumbers 1 = .ok (.iload_n 1, 1) := by decide +kernel
theorem d_G_areNumbers_2 : decode b_G_areNumbers 2 = .ok (.invokevirtual 29, 3) := by decide +kernel
theorem d_G_areNumbers_5 : decode b_G_areNumbers 5 = .ok (.ifCond .eq 23, 3) := by decide +kernel
theorem d_G_areNumbers_8 : decode b_G_areNumbers 8 = .ok (.aload_n 0, 1) := by decide +kernel
theorem d_G_areNumbers_9 : decode b_G_areNumbers 9 = .ok (.iload_n 2, 1) := by decide +kernel
theorem d_G_areNumbers_10 : decode b_G_areNumbers 10 = .ok (.invokevirtual 29, 3) := by decide +kernel
theorem d_G_areNumbers_13 : decode b_G_areNumbers 13 = .ok (.ifCond .eq 15, 3) := by decide +kernel
theorem d_G_areNumbers_16 : decode b_G_areNumbers 16 = .ok (.aload_n 0, 1) := by decide +kernel
theorem d_G_areNumbers_17 : decode b_G_areNumbers 17 = .ok (.iload_n 3, 1) := by decide +kernel
theorem d_G_areNumbers_18 : decode b_G_areNumbers 18 = .ok (.invokevirtual 29, 3) := by decide +kernel
theorem d_G_areNumbers_21 : decode b_G_areNumbers 21 = .ok (.ifCond .eq 7, 3) := by decide +kernel
theorem d_G_areNumbers_24 : decode b_G_areNumbers 24 = .ok (.iconst 1, 1) := by decide +kernel
theorem d_G_areNumbers_25 : decode b_G_areNumbers 25 = .ok (.goto 4, 3) := by decide +kernel
theorem d_G_areNumbers_28 : decode b_G_areNumbers 28 = .ok (.iconst 0, 1) := by decide +kernel
theorem d_G_areNumbers_29 : decode b_G_areNumbers 29 = .ok (.ireturn, 1) := by decide +kernel
theorem d_K_writeRow_0 : decode b_K_writeRow 0 = .ok (.aload_n 0, 1) := by decide +kernel
theorem d_K_writeRow_1 : decode b_K_writeRow 1 = .ok (.iconst 0, 1) := by decide +kernel
theorem d_K_writeRow_2 : decode b_K_writeRow 2 = .ok (.iload_n 1, 1) := by decide +kernel
theorem d_K_writeRow_3 : decode b_K_writeRow 3 = .ok (.iastore, 1) := by decide +kernel
theorem d_K_writeRow_4 : decode b_K_writeRow 4 = .ok (.aload_n 0, 1) := by decide +kernel
theorem d_K_writeRow_5 : decode b_K_writeRow 5 = .ok (.iconst 1, 1) := by decide +kernel
theorem d_K_writeRow_6 : decode b_K_writeRow 6 = .ok (.iload_n 2, 1) := by decide +kernel
theorem d_K_writeRow_7 : decode b_K_writeRow 7 = .ok (.iastore, 1) := by decide +kernel
theorem d_K_writeRow_8 : decode b_K_writeRow 8 = .ok (.aload_n 0, 1) := by decide +kernel
theorem d_K_writeRow_9 : decode b_K_writeRow 9 = .ok (.iconst 2, 1) := by decide +kernel
theorem d_K_writeRow_10 : decode b_K_writeRow 10 = .ok (.iload_n 3, 1) := by decide +kernel
theorem d_K_writeRow_11 : decode b_K_writeRow 11 = .ok (.iastore, 1) := by decide +kernel
theorem d_K_writeRow_12 : decode b_K_writeRow 12 = .ok (.aload_n 0, 1) := by decide +kernel
theorem d_K_writeRow_13 : decode b_K_writeRow 13 = .ok (.iconst 3, 1) := by decide +kernel
theorem d_K_writeRow_14 : decode b_K_writeRow 14 = .ok (.iload 4, 2) := by decide +kernel
theorem d_K_writeRow_16 : decode b_K_writeRow 16 = .ok (.iastore, 1) := by decide +kernel
theorem d_K_writeRow_17 : decode b_K_writeRow 17 = .ok (.return_, 1) := by decide +kernel
theorem d_G_commitTo_0 : decode b_G_commitTo 0 = .ok (.iconst 0, 1) := by decide +kernel
theorem d_G_commitTo_1 : decode b_G_commitTo 1 = .ok (.istore_n 3, 1) := by decide +kernel
theorem d_G_commitTo_2 : decode b_G_commitTo 2 = .ok (.iload_n 3, 1) := by decide +kernel
theorem d_G_commitTo_3 : decode b_G_commitTo 3 = .ok (.iconst 4, 1) := by decide +kernel
theorem d_G_commitTo_4 : decode b_G_commitTo 4 = .ok (.if_icmp .ge 26, 3) := by decide +kernel
theorem d_G_commitTo_7 : decode b_G_commitTo 7 = .ok (.aload_n 2, 1) := by decide +kernel
theorem d_G_commitTo_8 : decode b_G_commitTo 8 = .ok (.iload_n 3, 1) := by decide +kernel
theorem d_G_commitTo_9 : decode b_G_commitTo 9 = .ok (.aload_n 0, 1) := by decide +kernel
theorem d_G_commitTo_10 : decode b_G_commitTo 10 = .ok (.getfield 18, 3) := by decide +kernel
theorem d_G_commitTo_13 : decode b_G_commitTo 13 = .ok (.aload_n 1, 1) := by decide +kernel
theorem d_G_commitTo_14 : decode b_G_commitTo 14 = .ok (.iload_n 3, 1) := by decide +kernel
theorem d_G_commitTo_15 : decode b_G_commitTo 15 = .ok (.iaload, 1) := by decide +kernel
theorem d_G_commitTo_16 : decode b_G_commitTo 16 = .ok (.aload_n 0, 1) := by decide +kernel
end
section
theorem d_G_commitTo_17 : decode b_G_commitTo 17 = .ok (.getfield 9, 3) := by decide +kernel
theorem d_G_commitTo_20 : decode b_G_commitTo 20 = .ok (.invokestatic 21, 3) := by decide +kernel
theorem d_G_commitTo_23 : decode b_G_commitTo 23 = .ok (.iastore, 1) := by decide +kernel
theorem d_G_commitTo_24 : decode b_G_commitTo 24 = .ok (.iinc 3 1, 3) := by decide +kernel
theorem d_G_commitTo_27 : decode b_G_commitTo 27 = .ok (.goto (-25), 3) := by decide +kernel
theorem d_G_commitTo_30 : decode b_G_commitTo 30 = .ok (.return_, 1) := by decide +kernel
theorem d_G_valueAt_0 : decode b_G_valueAt 0 = .ok (.iconst 0, 1) := by decide +kernel
theorem d_G_valueAt_1 : decode b_G_valueAt 1 = .ok (.istore_n 3, 1) := by decide +kernel
theorem d_G_valueAt_2 : decode b_G_valueAt 2 = .ok (.iconst 3, 1) := by decide +kernel
theorem d_G_valueAt_3 : decode b_G_valueAt 3 = .ok (.istore 4, 2) := by decide +kernel
theorem d_G_valueAt_5 : decode b_G_valueAt 5 = .ok (.iload 4, 2) := by decide +kernel
theorem d_G_valueAt_7 : decode b_G_valueAt 7 = .ok (.ifCond .lt 24, 3) := by decide +kernel
theorem d_G_valueAt_10 : decode b_G_valueAt 10 = .ok (.aload_n 0, 1) := by decide +kernel
theorem d_G_valueAt_11 : decode b_G_valueAt 11 = .ok (.aload_n 0, 1) := by decide +kernel
theorem d_G_valueAt_12 : decode b_G_valueAt 12 = .ok (.iload_n 3, 1) := by decide +kernel
theorem d_G_valueAt_13 : decode b_G_valueAt 13 = .ok (.iload_n 1, 1) := by decide +kernel
theorem d_G_valueAt_14 : decode b_G_valueAt 14 = .ok (.invokevirtual 32, 3) := by decide +kernel
theorem d_G_valueAt_17 : decode b_G_valueAt 17 = .ok (.aload_n 2, 1) := by decide +kernel
theorem d_G_valueAt_18 : decode b_G_valueAt 18 = .ok (.iload 4, 2) := by decide +kernel
theorem d_G_valueAt_20 : decode b_G_valueAt 20 = .ok (.iaload, 1) := by decide +kernel
theorem d_G_valueAt_21 : decode b_G_valueAt 21 = .ok (.invokevirtual 36, 3) := by decide +kernel
theorem d_G_valueAt_24 : decode b_G_valueAt 24 = .ok (.istore_n 3, 1) := by decide +kernel
theorem d_G_valueAt_25 : decode b_G_valueAt 25 = .ok (.iinc 4 (-1), 3) := by decide +kernel
theorem d_G_valueAt_28 : decode b_G_valueAt 28 = .ok (.goto (-23), 3) := by decide +kernel
theorem d_G_valueAt_31 : decode b_G_valueAt 31 = .ok (.iload_n 3, 1) := by decide +kernel
theorem d_G_valueAt_32 : decode b_G_valueAt 32 = .ok (.ireturn, 1) := by decide +kernel
theorem d_G_multiplyNumbers_0 : decode b_G_multiplyNumbers 0 = .ok (.iload_n 1, 1) := by decide +kernel
theorem d_G_multiplyNumbers_1 : decode b_G_multiplyNumbers 1 = .ok (.i2l, 1) := by decide +kernel
theorem d_G_multiplyNumbers_2 : decode b_G_multiplyNumbers 2 = .ok (.iload_n 2, 1) := by decide +kernel
theorem d_G_multiplyNumbers_3 : decode b_G_multiplyNumbers 3 = .ok (.i2l, 1) := by decide +kernel
theorem d_G_multiplyNumbers_4 : decode b_G_multiplyNumbers 4 = .ok (.lmul, 1) := by decide +kernel
theorem d_G_multiplyNumbers_5 : decode b_G_multiplyNumbers 5 = .ok (.aload_n 0, 1) := by decide +kernel
theorem d_G_multiplyNumbers_6 : decode b_G_multiplyNumbers 6 = .ok (.getfield 15, 3) := by decide +kernel
theorem d_G_multiplyNumbers_9 : decode b_G_multiplyNumbers 9 = .ok (.i2l, 1) := by decide +kernel
theorem d_G_multiplyNumbers_10 : decode b_G_multiplyNumbers 10 = .ok (.lrem, 1) := by decide +kernel
theorem d_G_multiplyNumbers_11 : decode b_G_multiplyNumbers 11 = .ok (.l2i, 1) := by decide +kernel
theorem d_G_multiplyNumbers_12 : decode b_G_multiplyNumbers 12 = .ok (.ireturn, 1) := by decide +kernel
theorem d_G_addNumbers_0 : decode b_G_addNumbers 0 = .ok (.iload_n 1, 1) := by decide +kernel
theorem d_G_addNumbers_1 : decode b_G_addNumbers 1 = .ok (.iload_n 2, 1) := by decide +kernel
theorem d_G_addNumbers_2 : decode b_G_addNumbers 2 = .ok (.iadd, 1) := by decide +kernel
theorem d_G_addNumbers_3 : decode b_G_addNumbers 3 = .ok (.aload_n 0, 1) := by decide +kernel
theorem d_G_addNumbers_4 : decode b_G_addNumbers 4 = .ok (.getfield 15, 3) := by decide +kernel
theorem d_G_addNumbers_7 : decode b_G_addNumbers 7 = .ok (.irem, 1) := by decide +kernel
theorem d_G_addNumbers_8 : decode b_G_addNumbers 8 = .ok (.ireturn, 1) := by decide +kernel
theorem d_L_fault_0 : decode b_L_fault 0 = .ok (.aload_n 0, 1) := by decide +kernel
theorem d_L_fault_1 : decode b_L_fault 1 = .ok (.iload_n 1, 1) := by decide +kernel
theorem d_L_fault_2 : decode b_L_fault 2 = .ok (.iload_n 2, 1) := by decide +kernel
theorem d_L_fault_3 : decode b_L_fault 3 = .ok (.invokevirtual 21, 3) := by decide +kernel
theorem d_L_fault_6 : decode b_L_fault 6 = .ok (.goto 15, 3) := by decide +kernel
theorem d_L_fault_9 : decode b_L_fault 9 = .ok (.astore_n 3, 1) := by decide +kernel
theorem d_L_fault_10 : decode b_L_fault 10 = .ok (.iconst 1, 1) := by decide +kernel
theorem d_L_fault_11 : decode b_L_fault 11 = .ok (.ireturn, 1) := by decide +kernel
theorem d_L_fault_12 : decode b_L_fault 12 = .ok (.astore_n 3, 1) := by decide +kernel
theorem d_L_fault_13 : decode b_L_fault 13 = .ok (.iconst 2, 1) := by decide +kernel
theorem d_L_fault_14 : decode b_L_fault 14 = .ok (.ireturn, 1) := by decide +kernel
theorem d_L_fault_15 : decode b_L_fault 15 = .ok (.astore_n 3, 1) := by decide +kernel
theorem d_L_fault_16 : decode b_L_fault 16 = .ok (.iconst 3, 1) := by decide +kernel
theorem d_L_fault_17 : decode b_L_fault 17 = .ok (.ireturn, 1) := by decide +kernel
theorem d_L_fault_18 : decode b_L_fault 18 = .ok (.astore_n 3, 1) := by decide +kernel
theorem d_L_fault_19 : decode b_L_fault 19 = .ok (.iconst 4, 1) := by decide +kernel
theorem d_L_fault_20 : decode b_L_fault 20 = .ok (.ireturn, 1) := by decide +kernel
theorem d_L_fault_21 : decode b_L_fault 21 = .ok (.iconst 0, 1) := by decide +kernel
theorem d_L_fault_22 : decode b_L_fault 22 = .ok (.ireturn, 1) := by decide +kernel
theorem d_K_fault_0 : decode b_K_fault 0 = .ok (.aload_n 0, 1) := by decide +kernel
theorem d_K_fault_1 : decode b_K_fault 1 = .ok (.invokevirtual 95, 3) := by decide +kernel
theorem d_K_fault_4 : decode b_K_fault 4 = .ok (.iload_n 1, 1) := by decide +kernel
theorem d_K_fault_5 : decode b_K_fault 5 = .ok (.invokestatic 98, 3) := by decide +kernel
theorem d_K_fault_8 : decode b_K_fault 8 = .ok (.iload_n 2, 1) := by decide +kernel
theorem d_K_fault_9 : decode b_K_fault 9 = .ok (.ifCond .lt 9, 3) := by decide +kernel
theorem d_K_fault_12 : decode b_K_fault 12 = .ok (.iload_n 2, 1) := by decide +kernel
theorem d_K_fault_13 : decode b_K_fault 13 = .ok (.bipush 6, 2) := by decide +kernel
theorem d_K_fault_15 : decode b_K_fault 15 = .ok (.if_icmp .le 11, 3) := by decide +kernel
theorem d_K_fault_18 : decode b_K_fault 18 = .ok (.new 50, 3) := by decide +kernel
theorem d_K_fault_21 : decode b_K_fault 21 = .ok (.dup, 1) := by decide +kernel
theorem d_K_fault_22 : decode b_K_fault 22 = .ok (.invokespecial 52, 3) := by decide +kernel
theorem d_K_fault_25 : decode b_K_fault 25 = .ok (.athrow, 1) := by decide +kernel
theorem d_K_fault_26 : decode b_K_fault 26 = .ok (.aload_n 0, 1) := by decide +kernel
theorem d_K_fault_27 : decode b_K_fault 27 = .ok (.getfield 28, 3) := by decide +kernel
theorem d_K_fault_30 : decode b_K_fault 30 = .ok (.iload_n 1, 1) := by decide +kernel
theorem d_K_fault_31 : decode b_K_fault 31 = .ok (.invokevirtual 102, 3) := by decide +kernel
theorem d_K_fault_34 : decode b_K_fault 34 = .ok (.ifCond .ne 15, 3) := by decide +kernel
theorem d_K_fault_37 : decode b_K_fault 37 = .ok (.aload_n 0, 1) := by decide +kernel
theorem d_K_fault_38 : decode b_K_fault 38 = .ok (.getfield 28, 3) := by decide +kernel
theorem d_K_fault_41 : decode b_K_fault 41 = .ok (.iload_n 1, 1) := by decide +kernel
theorem d_K_fault_42 : decode b_K_fault 42 = .ok (.iload_n 2, 1) := by decide +kernel
theorem d_K_fault_43 : decode b_K_fault 43 = .ok (.invokevirtual 105, 3) := by decide +kernel
theorem d_K_fault_46 : decode b_K_fault 46 = .ok (.ifCond .eq 11, 3) := by decide +kernel
theorem d_K_fault_49 : decode b_K_fault 49 = .ok (.new 109, 3) := by decide +kernel
theorem d_K_fault_52 : decode b_K_fault 52 = .ok (.dup, 1) := by decide +kernel
theorem d_K_fault_53 : decode b_K_fault 53 = .ok (.invokespecial 111, 3) := by decide +kernel
theorem d_K_fault_56 : decode b_K_fault 56 = .ok (.athrow, 1) := by decide +kernel
theorem d_K_fault_57 : decode b_K_fault 57 = .ok (.aload_n 0, 1) := by decide +kernel
theorem d_K_fault_58 : decode b_K_fault 58 = .ok (.getfield 28, 3) := by decide +kernel
theorem d_K_fault_61 : decode b_K_fault 61 = .ok (.iload_n 1, 1) := by decide +kernel
theorem d_K_fault_62 : decode b_K_fault 62 = .ok (.iload_n 2, 1) := by decide +kernel
theorem d_K_fault_63 : decode b_K_fault 63 = .ok (.invokevirtual 112, 3) := by decide +kernel
theorem d_K_fault_66 : decode b_K_fault 66 = .ok (.return_, 1) := by decide +kernel
theorem d_K_requireFounded_0 : decode b_K_requireFounded 0 = .ok (.aload_n 0, 1) := by decide +kernel
theorem d_K_requireFounded_1 : decode b_K_requireFounded 1 = .ok (.getfield 42, 3) := by decide +kernel
theorem d_K_requireFounded_4 : decode b_K_requireFounded 4 = .ok (.ifCond .ne 11, 3) := by decide +kernel
theorem d_K_requireFounded_7 : decode b_K_requireFounded 7 = .ok (.new 73, 3) := by decide +kernel
theorem d_K_requireFounded_10 : decode b_K_requireFounded 10 = .ok (.dup, 1) := by decide +kernel
theorem d_K_requireFounded_11 : decode b_K_requireFounded 11 = .ok (.invokespecial 75, 3) := by decide +kernel
theorem d_K_requireFounded_14 : decode b_K_requireFounded 14 = .ok (.athrow, 1) := by decide +kernel
theorem d_K_requireFounded_15 : decode b_K_requireFounded 15 = .ok (.return_, 1) := by decide +kernel
theorem d_K_requireSeat_0 : decode b_K_requireSeat 0 = .ok (.iload_n 0, 1) := by decide +kernel
theorem d_K_requireSeat_1 : decode b_K_requireSeat 1 = .ok (.iconst 1, 1) := by decide +kernel
theorem d_K_requireSeat_2 : decode b_K_requireSeat 2 = .ok (.if_icmp .lt 9, 3) := by decide +kernel
theorem d_K_requireSeat_5 : decode b_K_requireSeat 5 = .ok (.iload_n 0, 1) := by decide +kernel
theorem d_K_requireSeat_6 : decode b_K_requireSeat 6 = .ok (.bipush 7, 2) := by decide +kernel
theorem d_K_requireSeat_8 : decode b_K_requireSeat 8 = .ok (.if_icmp .le 11, 3) := by decide +kernel
theorem d_K_requireSeat_11 : decode b_K_requireSeat 11 = .ok (.new 213, 3) := by decide +kernel
theorem d_K_requireSeat_14 : decode b_K_requireSeat 14 = .ok (.dup, 1) := by decide +kernel
theorem d_K_requireSeat_15 : decode b_K_requireSeat 15 = .ok (.invokespecial 215, 3) := by decide +kernel
theorem d_K_requireSeat_18 : decode b_K_requireSeat 18 = .ok (.athrow, 1) := by decide +kernel
theorem d_K_requireSeat_19 : decode b_K_requireSeat 19 = .ok (.return_, 1) := by decide +kernel
theorem d_V_hasDealt_0 : decode b_V_hasDealt 0 = .ok (.aload_n 0, 1) := by decide +kernel
theorem d_V_hasDealt_1 : decode b_V_hasDealt 1 = .ok (.getfield 42, 3) := by decide +kernel
theorem d_V_hasDealt_4 : decode b_V_hasDealt 4 = .ok (.iload_n 1, 1) := by decide +kernel
theorem d_V_hasDealt_5 : decode b_V_hasDealt 5 = .ok (.invokestatic 49, 3) := by decide +kernel
theorem d_V_hasDealt_8 : decode b_V_hasDealt 8 = .ok (.ireturn, 1) := by decide +kernel
theorem d_K_isAmong_0 : decode b_K_isAmong 0 = .ok (.iload_n 0, 1) := by decide +kernel
theorem d_K_isAmong_1 : decode b_K_isAmong 1 = .ok (.iload_n 1, 1) := by decide +kernel
theorem d_K_isAmong_2 : decode b_K_isAmong 2 = .ok (.invokestatic 229, 3) := by decide +kernel
theorem d_K_isAmong_5 : decode b_K_isAmong 5 = .ok (.iand, 1) := by decide +kernel
theorem d_K_isAmong_6 : decode b_K_isAmong 6 = .ok (.ifCond .eq 7, 3) := by decide +kernel
theorem d_K_isAmong_9 : decode b_K_isAmong 9 = .ok (.iconst 1, 1) := by decide +kernel
theorem d_K_isAmong_10 : decode b_K_isAmong 10 = .ok (.goto 4, 3) := by decide +kernel
theorem d_K_isAmong_13 : decode b_K_isAmong 13 = .ok (.iconst 0, 1) := by decide +kernel
theorem d_K_isAmong_14 : decode b_K_isAmong 14 = .ok (.ireturn, 1) := by decide +kernel
theorem d_K_bit_0 : decode b_K_bit 0 = .ok (.iconst 1, 1) := by decide +kernel
theorem d_K_bit_1 : decode b_K_bit 1 = .ok (.iload_n 0, 1) := by decide +kernel
theorem d_K_bit_2 : decode b_K_bit 2 = .ok (.iconst 1, 1) := by decide +kernel
theorem d_K_bit_3 : decode b_K_bit 3 = .ok (.isub, 1) := by decide +kernel
theorem d_K_bit_4 : decode b_K_bit 4 = .ok (.ishl, 1) := by decide +kernel
theorem d_K_bit_5 : decode b_K_bit 5 = .ok (.ireturn, 1) := by decide +kernel
theorem d_V_isOneTooMany_0 : decode b_V_isOneTooMany 0 = .ok (.iload_n 2, 1) := by decide +kernel
theorem d_V_isOneTooMany_1 : decode b_V_isOneTooMany 1 = .ok (.ifCond .eq 23, 3) := by decide +kernel
theorem d_V_isOneTooMany_4 : decode b_V_isOneTooMany 4 = .ok (.aload_n 0, 1) := by decide +kernel
theorem d_V_isOneTooMany_5 : decode b_V_isOneTooMany 5 = .ok (.invokevirtual 53, 3) := by decide +kernel
theorem d_V_isOneTooMany_8 : decode b_V_isOneTooMany 8 = .ok (.iload_n 1, 1) := by decide +kernel
theorem d_V_isOneTooMany_9 : decode b_V_isOneTooMany 9 = .ok (.invokestatic 57, 3) := by decide +kernel
theorem d_V_isOneTooMany_12 : decode b_V_isOneTooMany 12 = .ok (.ior, 1) := by decide +kernel
theorem d_V_isOneTooMany_13 : decode b_V_isOneTooMany 13 = .ok (.invokestatic 61, 3) := by decide +kernel
theorem d_V_isOneTooMany_16 : decode b_V_isOneTooMany 16 = .ok (.iconst 3, 1) := by decide +kernel
theorem d_V_isOneTooMany_17 : decode b_V_isOneTooMany 17 = .ok (.if_icmp .le 7, 3) := by decide +kernel
theorem d_V_isOneTooMany_20 : decode b_V_isOneTooMany 20 = .ok (.iconst 1, 1) := by decide +kernel
theorem d_V_isOneTooMany_21 : decode b_V_isOneTooMany 21 = .ok (.goto 4, 3) := by decide +kernel
theorem d_V_isOneTooMany_24 : decode b_V_isOneTooMany 24 = .ok (.iconst 0, 1) := by decide +kernel
theorem d_V_isOneTooMany_25 : decode b_V_isOneTooMany 25 = .ok (.ireturn, 1) := by decide +kernel
theorem d_V_faulty_0 : decode b_V_faulty 0 = .ok (.iconst 0, 1) := by decide +kernel
theorem d_V_faulty_1 : decode b_V_faulty 1 = .ok (.istore_n 1, 1) := by decide +kernel
theorem d_V_faulty_2 : decode b_V_faulty 2 = .ok (.iconst 1, 1) := by decide +kernel
theorem d_V_faulty_3 : decode b_V_faulty 3 = .ok (.istore_n 2, 1) := by decide +kernel
theorem d_V_faulty_4 : decode b_V_faulty 4 = .ok (.iload_n 2, 1) := by decide +kernel
theorem d_V_faulty_5 : decode b_V_faulty 5 = .ok (.bipush 7, 2) := by decide +kernel
theorem d_V_faulty_7 : decode b_V_faulty 7 = .ok (.if_icmp .gt 25, 3) := by decide +kernel
theorem d_V_faulty_10 : decode b_V_faulty 10 = .ok (.aload_n 0, 1) := by decide +kernel
theorem d_V_faulty_11 : decode b_V_faulty 11 = .ok (.getfield 9, 3) := by decide +kernel
theorem d_V_faulty_14 : decode b_V_faulty 14 = .ok (.iload_n 2, 1) := by decide +kernel
theorem d_V_faulty_15 : decode b_V_faulty 15 = .ok (.iaload, 1) := by decide +kernel
theorem d_V_faulty_16 : decode b_V_faulty 16 = .ok (.ifCond .eq 10, 3) := by decide +kernel
theorem d_V_faulty_19 : decode b_V_faulty 19 = .ok (.iload_n 1, 1) := by decide +kernel
theorem d_V_faulty_20 : decode b_V_faulty 20 = .ok (.iload_n 2, 1) := by decide +kernel
theorem d_V_faulty_21 : decode b_V_faulty 21 = .ok (.invokestatic 57, 3) := by decide +kernel
theorem d_V_faulty_24 : decode b_V_faulty 24 = .ok (.ior, 1) := by decide +kernel
theorem d_V_faulty_25 : decode b_V_faulty 25 = .ok (.istore_n 1, 1) := by decide +kernel
theorem d_V_faulty_26 : decode b_V_faulty 26 = .ok (.iinc 2 1, 3) := by decide +kernel
theorem d_V_faulty_29 : decode b_V_faulty 29 = .ok (.goto (-25), 3) := by decide +kernel
theorem d_V_faulty_32 : decode b_V_faulty 32 = .ok (.iload_n 1, 1) := by decide +kernel
theorem d_V_faulty_33 : decode b_V_faulty 33 = .ok (.ireturn, 1) := by decide +kernel
theorem d_JI_bitCount_0 : decode b_JI_bitCount 0 = .ok (.iload_n 0, 1) := by decide +kernel
theorem d_JI_bitCount_1 : decode b_JI_bitCount 1 = .ok (.iload_n 0, 1) := by decide +kernel
theorem d_JI_bitCount_2 : decode b_JI_bitCount 2 = .ok (.iconst 1, 1) := by decide +kernel
theorem d_JI_bitCount_3 : decode b_JI_bitCount 3 = .ok (.iushr, 1) := by decide +kernel
theorem d_JI_bitCount_4 : decode b_JI_bitCount 4 = .ok (.ldc_w 265, 3) := by decide +kernel
theorem d_JI_bitCount_7 : decode b_JI_bitCount 7 = .ok (.iand, 1) := by decide +kernel
theorem d_JI_bitCount_8 : decode b_JI_bitCount 8 = .ok (.isub, 1) := by decide +kernel
theorem d_JI_bitCount_9 : decode b_JI_bitCount 9 = .ok (.istore_n 0, 1) := by decide +kernel
theorem d_JI_bitCount_10 : decode b_JI_bitCount 10 = .ok (.iload_n 0, 1) := by decide +kernel
theorem d_JI_bitCount_11 : decode b_JI_bitCount 11 = .ok (.ldc_w 266, 3) := by decide +kernel
theorem d_JI_bitCount_14 : decode b_JI_bitCount 14 = .ok (.iand, 1) := by decide +kernel
theorem d_JI_bitCount_15 : decode b_JI_bitCount 15 = .ok (.iload_n 0, 1) := by decide +kernel
theorem d_JI_bitCount_16 : decode b_JI_bitCount 16 = .ok (.iconst 2, 1) := by decide +kernel
theorem d_JI_bitCount_17 : decode b_JI_bitCount 17 = .ok (.iushr, 1) := by decide +kernel
theorem d_JI_bitCount_18 : decode b_JI_bitCount 18 = .ok (.ldc_w 266, 3) := by decide +kernel
theorem d_JI_bitCount_21 : decode b_JI_bitCount 21 = .ok (.iand, 1) := by decide +kernel
theorem d_JI_bitCount_22 : decode b_JI_bitCount 22 = .ok (.iadd, 1) := by decide +kernel
theorem d_JI_bitCount_23 : decode b_JI_bitCount 23 = .ok (.istore_n 0, 1) := by decide +kernel
theorem d_JI_bitCount_24 : decode b_JI_bitCount 24 = .ok (.iload_n 0, 1) := by decide +kernel
theorem d_JI_bitCount_25 : decode b_JI_bitCount 25 = .ok (.iload_n 0, 1) := by decide +kernel
theorem d_JI_bitCount_26 : decode b_JI_bitCount 26 = .ok (.iconst 4, 1) := by decide +kernel
theorem d_JI_bitCount_27 : decode b_JI_bitCount 27 = .ok (.iushr, 1) := by decide +kernel
theorem d_JI_bitCount_28 : decode b_JI_bitCount 28 = .ok (.iadd, 1) := by decide +kernel
theorem d_JI_bitCount_29 : decode b_JI_bitCount 29 = .ok (.ldc_w 267, 3) := by decide +kernel
theorem d_JI_bitCount_32 : decode b_JI_bitCount 32 = .ok (.iand, 1) := by decide +kernel
theorem d_JI_bitCount_33 : decode b_JI_bitCount 33 = .ok (.istore_n 0, 1) := by decide +kernel
theorem d_JI_bitCount_34 : decode b_JI_bitCount 34 = .ok (.iload_n 0, 1) := by decide +kernel
theorem d_JI_bitCount_35 : decode b_JI_bitCount 35 = .ok (.iload_n 0, 1) := by decide +kernel
theorem d_JI_bitCount_36 : decode b_JI_bitCount 36 = .ok (.bipush 8, 2) := by decide +kernel
theorem d_JI_bitCount_38 : decode b_JI_bitCount 38 = .ok (.iushr, 1) := by decide +kernel
theorem d_JI_bitCount_39 : decode b_JI_bitCount 39 = .ok (.iadd, 1) := by decide +kernel
theorem d_JI_bitCount_40 : decode b_JI_bitCount 40 = .ok (.istore_n 0, 1) := by decide +kernel
theorem d_JI_bitCount_41 : decode b_JI_bitCount 41 = .ok (.iload_n 0, 1) := by decide +kernel
theorem d_JI_bitCount_42 : decode b_JI_bitCount 42 = .ok (.iload_n 0, 1) := by decide +kernel
theorem d_JI_bitCount_43 : decode b_JI_bitCount 43 = .ok (.bipush 16, 2) := by decide +kernel
theorem d_JI_bitCount_45 : decode b_JI_bitCount 45 = .ok (.iushr, 1) := by decide +kernel
theorem d_JI_bitCount_46 : decode b_JI_bitCount 46 = .ok (.iadd, 1) := by decide +kernel
theorem d_JI_bitCount_47 : decode b_JI_bitCount 47 = .ok (.istore_n 0, 1) := by decide +kernel
theorem d_JI_bitCount_48 : decode b_JI_bitCount 48 = .ok (.iload_n 0, 1) := by decide +kernel
theorem d_JI_bitCount_49 : decode b_JI_bitCount 49 = .ok (.bipush 63, 2) := by decide +kernel
theorem d_JI_bitCount_51 : decode b_JI_bitCount 51 = .ok (.iand, 1) := by decide +kernel
theorem d_JI_bitCount_52 : decode b_JI_bitCount 52 = .ok (.ireturn, 1) := by decide +kernel
theorem d_V_turn_0 : decode b_V_turn 0 = .ok (.aload_n 0, 1) := by decide +kernel
theorem d_V_turn_1 : decode b_V_turn 1 = .ok (.getfield 9, 3) := by decide +kernel
theorem d_V_turn_4 : decode b_V_turn 4 = .ok (.iload_n 1, 1) := by decide +kernel
theorem d_V_turn_5 : decode b_V_turn 5 = .ok (.iload_n 2, 1) := by decide +kernel
theorem d_V_turn_6 : decode b_V_turn 6 = .ok (.iastore, 1) := by decide +kernel
theorem d_V_turn_7 : decode b_V_turn 7 = .ok (.return_, 1) := by decide +kernel
theorem d_L_deal_0 : decode b_L_deal 0 = .ok (.aload_n 0, 1) := by decide +kernel
theorem d_L_deal_1 : decode b_L_deal 1 = .ok (.iload_n 1, 1) := by decide +kernel
theorem d_L_deal_2 : decode b_L_deal 2 = .ok (.iload_n 2, 1) := by decide +kernel
theorem d_L_deal_3 : decode b_L_deal 3 = .ok (.iload_n 3, 1) := by decide +kernel
theorem d_L_deal_4 : decode b_L_deal 4 = .ok (.iload 4, 2) := by decide +kernel
theorem d_L_deal_6 : decode b_L_deal 6 = .ok (.invokevirtual 29, 3) := by decide +kernel
theorem d_L_deal_9 : decode b_L_deal 9 = .ok (.goto 19, 3) := by decide +kernel
theorem d_L_deal_12 : decode b_L_deal 12 = .ok (.astore 5, 2) := by decide +kernel
theorem d_L_deal_14 : decode b_L_deal 14 = .ok (.iconst 1, 1) := by decide +kernel
theorem d_L_deal_15 : decode b_L_deal 15 = .ok (.ireturn, 1) := by decide +kernel
theorem d_L_deal_16 : decode b_L_deal 16 = .ok (.astore 5, 2) := by decide +kernel
theorem d_L_deal_18 : decode b_L_deal 18 = .ok (.iconst 2, 1) := by decide +kernel
theorem d_L_deal_19 : decode b_L_deal 19 = .ok (.ireturn, 1) := by decide +kernel
theorem d_L_deal_20 : decode b_L_deal 20 = .ok (.astore 5, 2) := by decide +kernel
theorem d_L_deal_22 : decode b_L_deal 22 = .ok (.iconst 3, 1) := by decide +kernel
theorem d_L_deal_23 : decode b_L_deal 23 = .ok (.ireturn, 1) := by decide +kernel
theorem d_L_deal_24 : decode b_L_deal 24 = .ok (.astore 5, 2) := by decide +kernel
theorem d_L_deal_26 : decode b_L_deal 26 = .ok (.iconst 4, 1) := by decide +kernel
theorem d_L_deal_27 : decode b_L_deal 27 = .ok (.ireturn, 1) := by decide +kernel
theorem d_L_deal_28 : decode b_L_deal 28 = .ok (.iconst 0, 1) := by decide +kernel
theorem d_L_deal_29 : decode b_L_deal 29 = .ok (.ireturn, 1) := by decide +kernel
theorem d_K_deal_0 : decode b_K_deal 0 = .ok (.aload_n 0, 1) := by decide +kernel
theorem d_K_deal_1 : decode b_K_deal 1 = .ok (.invokevirtual 95, 3) := by decide +kernel
theorem d_K_deal_4 : decode b_K_deal 4 = .ok (.iload_n 1, 1) := by decide +kernel
theorem d_K_deal_5 : decode b_K_deal 5 = .ok (.invokestatic 98, 3) := by decide +kernel
theorem d_K_deal_8 : decode b_K_deal 8 = .ok (.aload_n 0, 1) := by decide +kernel
theorem d_K_deal_9 : decode b_K_deal 9 = .ok (.getfield 12, 3) := by decide +kernel
theorem d_K_deal_12 : decode b_K_deal 12 = .ok (.iload_n 2, 1) := by decide +kernel
theorem d_K_deal_13 : decode b_K_deal 13 = .ok (.iload_n 3, 1) := by decide +kernel
theorem d_K_deal_14 : decode b_K_deal 14 = .ok (.iload 4, 2) := by decide +kernel
theorem d_K_deal_16 : decode b_K_deal 16 = .ok (.invokevirtual 80, 3) := by decide +kernel
theorem d_K_deal_19 : decode b_K_deal 19 = .ok (.ifCond .ne 11, 3) := by decide +kernel
theorem d_K_deal_22 : decode b_K_deal 22 = .ok (.new 50, 3) := by decide +kernel
theorem d_K_deal_25 : decode b_K_deal 25 = .ok (.dup, 1) := by decide +kernel
theorem d_K_deal_26 : decode b_K_deal 26 = .ok (.invokespecial 52, 3) := by decide +kernel
theorem d_K_deal_29 : decode b_K_deal 29 = .ok (.athrow, 1) := by decide +kernel
theorem d_K_deal_30 : decode b_K_deal 30 = .ok (.aload_n 0, 1) := by decide +kernel
theorem d_K_deal_31 : decode b_K_deal 31 = .ok (.getfield 28, 3) := by decide +kernel
theorem d_K_deal_34 : decode b_K_deal 34 = .ok (.iload_n 1, 1) := by decide +kernel
theorem d_K_deal_35 : decode b_K_deal 35 = .ok (.invokevirtual 102, 3) := by decide +kernel
theorem d_K_deal_38 : decode b_K_deal 38 = .ok (.ifCond .ne 13, 3) := by decide +kernel
theorem d_K_deal_41 : decode b_K_deal 41 = .ok (.aload_n 0, 1) := by decide +kernel
theorem d_K_deal_42 : decode b_K_deal 42 = .ok (.getfield 19, 3) := by decide +kernel
theorem d_K_deal_45 : decode b_K_deal 45 = .ok (.invokevirtual 116, 3) := by decide +kernel
theorem d_K_deal_48 : decode b_K_deal 48 = .ok (.ifCond .ne 11, 3) := by decide +kernel
theorem d_K_deal_51 : decode b_K_deal 51 = .ok (.new 109, 3) := by decide +kernel
theorem d_K_deal_54 : decode b_K_deal 54 = .ok (.dup, 1) := by decide +kernel
theorem d_K_deal_55 : decode b_K_deal 55 = .ok (.invokespecial 111, 3) := by decide +kernel
theorem d_K_deal_58 : decode b_K_deal 58 = .ok (.athrow, 1) := by decide +kernel
theorem d_K_deal_59 : decode b_K_deal 59 = .ok (.aload_n 0, 1) := by decide +kernel
theorem d_K_deal_60 : decode b_K_deal 60 = .ok (.getfield 28, 3) := by decide +kernel
theorem d_K_deal_63 : decode b_K_deal 63 = .ok (.iload_n 1, 1) := by decide +kernel
theorem d_K_deal_64 : decode b_K_deal 64 = .ok (.invokevirtual 120, 3) := by decide +kernel
theorem d_K_deal_67 : decode b_K_deal 67 = .ok (.ifCond .eq 14, 3) := by decide +kernel
theorem d_K_deal_70 : decode b_K_deal 70 = .ok (.aload_n 0, 1) := by decide +kernel
theorem d_K_deal_71 : decode b_K_deal 71 = .ok (.getfield 28, 3) := by decide +kernel
theorem d_K_deal_74 : decode b_K_deal 74 = .ok (.iload_n 1, 1) := by decide +kernel
theorem d_K_deal_75 : decode b_K_deal 75 = .ok (.invokevirtual 123, 3) := by decide +kernel
theorem d_K_deal_78 : decode b_K_deal 78 = .ok (.goto 35, 3) := by decide +kernel
theorem d_K_deal_81 : decode b_K_deal 81 = .ok (.aload_n 0, 1) := by decide +kernel
theorem d_K_deal_82 : decode b_K_deal 82 = .ok (.getfield 28, 3) := by decide +kernel
theorem d_K_deal_85 : decode b_K_deal 85 = .ok (.iload_n 1, 1) := by decide +kernel
theorem d_K_deal_86 : decode b_K_deal 86 = .ok (.iload_n 2, 1) := by decide +kernel
theorem d_K_deal_87 : decode b_K_deal 87 = .ok (.iload_n 3, 1) := by decide +kernel
theorem d_K_deal_88 : decode b_K_deal 88 = .ok (.iload 4, 2) := by decide +kernel
theorem d_K_deal_90 : decode b_K_deal 90 = .ok (.invokevirtual 126, 3) := by decide +kernel
theorem d_K_deal_93 : decode b_K_deal 93 = .ok (.aload_n 0, 1) := by decide +kernel
theorem d_K_deal_94 : decode b_K_deal 94 = .ok (.getfield 19, 3) := by decide +kernel
theorem d_K_deal_97 : decode b_K_deal 97 = .ok (.iload_n 1, 1) := by decide +kernel
theorem d_K_deal_98 : decode b_K_deal 98 = .ok (.aload_n 0, 1) := by decide +kernel
theorem d_K_deal_99 : decode b_K_deal 99 = .ok (.getfield 42, 3) := by decide +kernel
theorem d_K_deal_102 : decode b_K_deal 102 = .ok (.aload_n 0, 1) := by decide +kernel
theorem d_K_deal_103 : decode b_K_deal 103 = .ok (.getfield 28, 3) := by decide +kernel
theorem d_K_deal_106 : decode b_K_deal 106 = .ok (.iload_n 1, 1) := by decide +kernel
theorem d_K_deal_107 : decode b_K_deal 107 = .ok (.invokevirtual 130, 3) := by decide +kernel
theorem d_K_deal_110 : decode b_K_deal 110 = .ok (.invokevirtual 134, 3) := by decide +kernel
theorem d_K_deal_113 : decode b_K_deal 113 = .ok (.return_, 1) := by decide +kernel
theorem d_B_room_0 : decode b_B_room 0 = .ok (.sipush 250, 3) := by decide +kernel
theorem d_B_room_3 : decode b_B_room 3 = .ok (.aload_n 0, 1) := by decide +kernel
theorem d_B_room_4 : decode b_B_room 4 = .ok (.getfield 15, 3) := by decide +kernel
theorem d_B_room_7 : decode b_B_room 7 = .ok (.isub, 1) := by decide +kernel
theorem d_B_room_8 : decode b_B_room 8 = .ok (.ireturn, 1) := by decide +kernel
theorem d_V_isSilent_0 : decode b_V_isSilent 0 = .ok (.aload_n 0, 1) := by decide +kernel
theorem d_V_isSilent_1 : decode b_V_isSilent 1 = .ok (.getfield 9, 3) := by decide +kernel
theorem d_V_isSilent_4 : decode b_V_isSilent 4 = .ok (.iload_n 1, 1) := by decide +kernel
theorem d_V_isSilent_5 : decode b_V_isSilent 5 = .ok (.iaload, 1) := by decide +kernel
theorem d_V_isSilent_6 : decode b_V_isSilent 6 = .ok (.iconst 1, 1) := by decide +kernel
theorem d_V_isSilent_7 : decode b_V_isSilent 7 = .ok (.if_icmp .ne 7, 3) := by decide +kernel
theorem d_V_isSilent_10 : decode b_V_isSilent 10 = .ok (.iconst 1, 1) := by decide +kernel
theorem d_V_isSilent_11 : decode b_V_isSilent 11 = .ok (.goto 4, 3) := by decide +kernel
theorem d_V_isSilent_14 : decode b_V_isSilent 14 = .ok (.iconst 0, 1) := by decide +kernel
theorem d_V_isSilent_15 : decode b_V_isSilent 15 = .ok (.ireturn, 1) := by decide +kernel
theorem d_V_passOver_0 : decode b_V_passOver 0 = .ok (.aload_n 0, 1) := by decide +kernel
theorem d_V_passOver_1 : decode b_V_passOver 1 = .ok (.dup, 1) := by decide +kernel
theorem d_V_passOver_2 : decode b_V_passOver 2 = .ok (.getfield 42, 3) := by decide +kernel
theorem d_V_passOver_5 : decode b_V_passOver 5 = .ok (.iload_n 1, 1) := by decide +kernel
theorem d_V_passOver_6 : decode b_V_passOver 6 = .ok (.invokestatic 57, 3) := by decide +kernel
theorem d_V_passOver_9 : decode b_V_passOver 9 = .ok (.ior, 1) := by decide +kernel
theorem d_V_passOver_10 : decode b_V_passOver 10 = .ok (.putfield 42, 3) := by decide +kernel
theorem d_V_passOver_13 : decode b_V_passOver 13 = .ok (.return_, 1) := by decide +kernel
theorem d_V_sendOut_0 : decode b_V_sendOut 0 = .ok (.aload_n 0, 1) := by decide +kernel
theorem d_V_sendOut_1 : decode b_V_sendOut 1 = .ok (.getfield 17, 3) := by decide +kernel
theorem d_V_sendOut_4 : decode b_V_sendOut 4 = .ok (.iload_n 1, 1) := by decide +kernel
theorem d_V_sendOut_5 : decode b_V_sendOut 5 = .ok (.aaload, 1) := by decide +kernel
theorem d_V_sendOut_6 : decode b_V_sendOut 6 = .ok (.aload_n 0, 1) := by decide +kernel
theorem d_V_sendOut_7 : decode b_V_sendOut 7 = .ok (.getfield 9, 3) := by decide +kernel
theorem d_V_sendOut_10 : decode b_V_sendOut 10 = .ok (.iload_n 1, 1) := by decide +kernel
theorem d_V_sendOut_11 : decode b_V_sendOut 11 = .ok (.iaload, 1) := by decide +kernel
theorem d_V_sendOut_12 : decode b_V_sendOut 12 = .ok (.iconst 3, 1) := by decide +kernel
theorem d_V_sendOut_13 : decode b_V_sendOut 13 = .ok (.if_icmp .ne 7, 3) := by decide +kernel
theorem d_V_sendOut_16 : decode b_V_sendOut 16 = .ok (.iconst 1, 1) := by decide +kernel
theorem d_V_sendOut_17 : decode b_V_sendOut 17 = .ok (.goto 4, 3) := by decide +kernel
theorem d_V_sendOut_20 : decode b_V_sendOut 20 = .ok (.iconst 0, 1) := by decide +kernel
theorem d_V_sendOut_21 : decode b_V_sendOut 21 = .ok (.iload_n 2, 1) := by decide +kernel
theorem d_V_sendOut_22 : decode b_V_sendOut 22 = .ok (.iload_n 3, 1) := by decide +kernel
theorem d_V_sendOut_23 : decode b_V_sendOut 23 = .ok (.iload 4, 2) := by decide +kernel
theorem d_V_sendOut_25 : decode b_V_sendOut 25 = .ok (.invokestatic 66, 3) := by decide +kernel
theorem d_V_sendOut_28 : decode b_V_sendOut 28 = .ok (.aload_n 0, 1) := by decide +kernel
theorem d_V_sendOut_29 : decode b_V_sendOut 29 = .ok (.getfield 32, 3) := by decide +kernel
theorem d_V_sendOut_32 : decode b_V_sendOut 32 = .ok (.aload_n 0, 1) := by decide +kernel
theorem d_V_sendOut_33 : decode b_V_sendOut 33 = .ok (.getfield 17, 3) := by decide +kernel
theorem d_V_sendOut_36 : decode b_V_sendOut 36 = .ok (.iload_n 1, 1) := by decide +kernel
theorem d_V_sendOut_37 : decode b_V_sendOut 37 = .ok (.aaload, 1) := by decide +kernel
theorem d_V_sendOut_38 : decode b_V_sendOut 38 = .ok (.aload_n 0, 1) := by decide +kernel
theorem d_V_sendOut_39 : decode b_V_sendOut 39 = .ok (.getfield 20, 3) := by decide +kernel
theorem d_V_sendOut_42 : decode b_V_sendOut 42 = .ok (.iload_n 1, 1) := by decide +kernel
theorem d_V_sendOut_43 : decode b_V_sendOut 43 = .ok (.aaload, 1) := by decide +kernel
theorem d_V_sendOut_44 : decode b_V_sendOut 44 = .ok (.invokevirtual 70, 3) := by decide +kernel
theorem d_V_sendOut_47 : decode b_V_sendOut 47 = .ok (.iconst 1, 1) := by decide +kernel
theorem d_V_sendOut_48 : decode b_V_sendOut 48 = .ok (.istore 5, 2) := by decide +kernel
theorem d_V_sendOut_50 : decode b_V_sendOut 50 = .ok (.iload 5, 2) := by decide +kernel
theorem d_V_sendOut_52 : decode b_V_sendOut 52 = .ok (.bipush 7, 2) := by decide +kernel
theorem d_V_sendOut_54 : decode b_V_sendOut 54 = .ok (.if_icmp .gt 52, 3) := by decide +kernel
theorem d_V_sendOut_57 : decode b_V_sendOut 57 = .ok (.aload_n 0, 1) := by decide +kernel
theorem d_V_sendOut_58 : decode b_V_sendOut 58 = .ok (.iload_n 1, 1) := by decide +kernel
theorem d_V_sendOut_59 : decode b_V_sendOut 59 = .ok (.iload 5, 2) := by decide +kernel
theorem d_V_sendOut_61 : decode b_V_sendOut 61 = .ok (.invokevirtual 76, 3) := by decide +kernel
theorem d_V_sendOut_64 : decode b_V_sendOut 64 = .ok (.istore 6, 2) := by decide +kernel
theorem d_V_sendOut_66 : decode b_V_sendOut 66 = .ok (.aload_n 0, 1) := by decide +kernel
theorem d_V_sendOut_67 : decode b_V_sendOut 67 = .ok (.getfield 23, 3) := by decide +kernel
theorem d_V_sendOut_70 : decode b_V_sendOut 70 = .ok (.iload_n 1, 1) := by decide +kernel
theorem d_V_sendOut_71 : decode b_V_sendOut 71 = .ok (.aaload, 1) := by decide +kernel
theorem d_V_sendOut_72 : decode b_V_sendOut 72 = .ok (.iload 5, 2) := by decide +kernel
theorem d_V_sendOut_74 : decode b_V_sendOut 74 = .ok (.aload_n 0, 1) := by decide +kernel
theorem d_V_sendOut_75 : decode b_V_sendOut 75 = .ok (.iload_n 1, 1) := by decide +kernel
theorem d_V_sendOut_76 : decode b_V_sendOut 76 = .ok (.iload 5, 2) := by decide +kernel
theorem d_V_sendOut_78 : decode b_V_sendOut 78 = .ok (.invokevirtual 80, 3) := by decide +kernel
theorem d_V_sendOut_81 : decode b_V_sendOut 81 = .ok (.ifCond .eq 16, 3) := by decide +kernel
theorem d_V_sendOut_84 : decode b_V_sendOut 84 = .ok (.aload_n 0, 1) := by decide +kernel
theorem d_V_sendOut_85 : decode b_V_sendOut 85 = .ok (.getfield 32, 3) := by decide +kernel
theorem d_V_sendOut_88 : decode b_V_sendOut 88 = .ok (.iload 6, 2) := by decide +kernel
theorem d_V_sendOut_90 : decode b_V_sendOut 90 = .ok (.iconst 1, 1) := by decide +kernel
theorem d_V_sendOut_91 : decode b_V_sendOut 91 = .ok (.invokevirtual 83, 3) := by decide +kernel
theorem d_V_sendOut_94 : decode b_V_sendOut 94 = .ok (.goto 5, 3) := by decide +kernel
theorem d_V_sendOut_97 : decode b_V_sendOut 97 = .ok (.iload 6, 2) := by decide +kernel
theorem d_V_sendOut_99 : decode b_V_sendOut 99 = .ok (.iastore, 1) := by decide +kernel
theorem d_V_sendOut_100 : decode b_V_sendOut 100 = .ok (.iinc 5 1, 3) := by decide +kernel
theorem d_V_sendOut_103 : decode b_V_sendOut 103 = .ok (.goto (-53), 3) := by decide +kernel
theorem d_V_sendOut_106 : decode b_V_sendOut 106 = .ok (.aload_n 0, 1) := by decide +kernel
theorem d_V_sendOut_107 : decode b_V_sendOut 107 = .ok (.dup, 1) := by decide +kernel
theorem d_V_sendOut_108 : decode b_V_sendOut 108 = .ok (.getfield 42, 3) := by decide +kernel
theorem d_V_sendOut_111 : decode b_V_sendOut 111 = .ok (.iload_n 1, 1) := by decide +kernel
theorem d_V_sendOut_112 : decode b_V_sendOut 112 = .ok (.invokestatic 57, 3) := by decide +kernel
theorem d_V_sendOut_115 : decode b_V_sendOut 115 = .ok (.ior, 1) := by decide +kernel
theorem d_V_sendOut_116 : decode b_V_sendOut 116 = .ok (.putfield 42, 3) := by decide +kernel
theorem d_V_sendOut_119 : decode b_V_sendOut 119 = .ok (.aload_n 0, 1) := by decide +kernel
theorem d_V_sendOut_120 : decode b_V_sendOut 120 = .ok (.dup, 1) := by decide +kernel
theorem d_V_sendOut_121 : decode b_V_sendOut 121 = .ok (.getfield 46, 3) := by decide +kernel
theorem d_V_sendOut_124 : decode b_V_sendOut 124 = .ok (.iload_n 1, 1) := by decide +kernel
theorem d_V_sendOut_125 : decode b_V_sendOut 125 = .ok (.invokestatic 57, 3) := by decide +kernel
theorem d_V_sendOut_128 : decode b_V_sendOut 128 = .ok (.ior, 1) := by decide +kernel
theorem d_V_sendOut_129 : decode b_V_sendOut 129 = .ok (.putfield 46, 3) := by decide +kernel
theorem d_V_sendOut_132 : decode b_V_sendOut 132 = .ok (.return_, 1) := by decide +kernel
theorem d_V_rightShare_0 : decode b_V_rightShare 0 = .ok (.aload_n 0, 1) := by decide +kernel
theorem d_V_rightShare_1 : decode b_V_rightShare 1 = .ok (.getfield 32, 3) := by decide +kernel
theorem d_V_rightShare_4 : decode b_V_rightShare 4 = .ok (.iload_n 2, 1) := by decide +kernel
theorem d_V_rightShare_5 : decode b_V_rightShare 5 = .ok (.aload_n 0, 1) := by decide +kernel
theorem d_V_rightShare_6 : decode b_V_rightShare 6 = .ok (.getfield 17, 3) := by decide +kernel
theorem d_V_rightShare_9 : decode b_V_rightShare 9 = .ok (.iload_n 1, 1) := by decide +kernel
theorem d_V_rightShare_10 : decode b_V_rightShare 10 = .ok (.aaload, 1) := by decide +kernel
theorem d_V_rightShare_11 : decode b_V_rightShare 11 = .ok (.invokevirtual 86, 3) := by decide +kernel
theorem d_V_rightShare_14 : decode b_V_rightShare 14 = .ok (.ireturn, 1) := by decide +kernel
theorem d_V_isCheated_0 : decode b_V_isCheated 0 = .ok (.aload_n 0, 1) := by decide +kernel
theorem d_V_isCheated_1 : decode b_V_isCheated 1 = .ok (.getfield 9, 3) := by decide +kernel
theorem d_V_isCheated_4 : decode b_V_isCheated 4 = .ok (.iload_n 1, 1) := by decide +kernel
theorem d_V_isCheated_5 : decode b_V_isCheated 5 = .ok (.iaload, 1) := by decide +kernel
theorem d_V_isCheated_6 : decode b_V_isCheated 6 = .ok (.istore_n 3, 1) := by decide +kernel
theorem d_V_isCheated_7 : decode b_V_isCheated 7 = .ok (.iload_n 2, 1) := by decide +kernel
theorem d_V_isCheated_8 : decode b_V_isCheated 8 = .ok (.iload_n 1, 1) := by decide +kernel
theorem d_V_isCheated_9 : decode b_V_isCheated 9 = .ok (.bipush 7, 2) := by decide +kernel
theorem d_V_isCheated_11 : decode b_V_isCheated 11 = .ok (.irem, 1) := by decide +kernel
theorem d_V_isCheated_12 : decode b_V_isCheated 12 = .ok (.iconst 1, 1) := by decide +kernel
theorem d_V_isCheated_13 : decode b_V_isCheated 13 = .ok (.iadd, 1) := by decide +kernel
theorem d_V_isCheated_14 : decode b_V_isCheated 14 = .ok (.if_icmp .ne 23, 3) := by decide +kernel
theorem d_V_isCheated_17 : decode b_V_isCheated 17 = .ok (.iload_n 3, 1) := by decide +kernel
theorem d_V_isCheated_18 : decode b_V_isCheated 18 = .ok (.iconst 2, 1) := by decide +kernel
theorem d_V_isCheated_19 : decode b_V_isCheated 19 = .ok (.if_icmp .eq 14, 3) := by decide +kernel
theorem d_V_isCheated_22 : decode b_V_isCheated 22 = .ok (.iload_n 3, 1) := by decide +kernel
theorem d_V_isCheated_23 : decode b_V_isCheated 23 = .ok (.iconst 5, 1) := by decide +kernel
theorem d_V_isCheated_24 : decode b_V_isCheated 24 = .ok (.if_icmp .eq 9, 3) := by decide +kernel
theorem d_V_isCheated_27 : decode b_V_isCheated 27 = .ok (.iload_n 3, 1) := by decide +kernel
theorem d_V_isCheated_28 : decode b_V_isCheated 28 = .ok (.bipush 6, 2) := by decide +kernel
theorem d_V_isCheated_30 : decode b_V_isCheated 30 = .ok (.if_icmp .ne 7, 3) := by decide +kernel
theorem d_V_isCheated_33 : decode b_V_isCheated 33 = .ok (.iconst 1, 1) := by decide +kernel
theorem d_V_isCheated_34 : decode b_V_isCheated 34 = .ok (.goto 4, 3) := by decide +kernel
theorem d_V_isCheated_37 : decode b_V_isCheated 37 = .ok (.iconst 0, 1) := by decide +kernel
theorem d_V_isCheated_38 : decode b_V_isCheated 38 = .ok (.ireturn, 1) := by decide +kernel
theorem d_V_commitmentsOf_0 : decode b_V_commitmentsOf 0 = .ok (.aload_n 0, 1) := by decide +kernel
theorem d_V_commitmentsOf_1 : decode b_V_commitmentsOf 1 = .ok (.getfield 20, 3) := by decide +kernel
theorem d_V_commitmentsOf_4 : decode b_V_commitmentsOf 4 = .ok (.iload_n 1, 1) := by decide +kernel
theorem d_V_commitmentsOf_5 : decode b_V_commitmentsOf 5 = .ok (.aaload, 1) := by decide +kernel
theorem d_V_commitmentsOf_6 : decode b_V_commitmentsOf 6 = .ok (.areturn, 1) := by decide +kernel
theorem d_B_addDealing_0 : decode b_B_addDealing 0 = .ok (.aload_n 0, 1) := by decide +kernel
theorem d_B_addDealing_1 : decode b_B_addDealing 1 = .ok (.getfield 15, 3) := by decide +kernel
theorem d_B_addDealing_4 : decode b_B_addDealing 4 = .ok (.sipush 250, 3) := by decide +kernel
theorem d_B_addDealing_7 : decode b_B_addDealing 7 = .ok (.if_icmp .lt 4, 3) := by decide +kernel
theorem d_B_addDealing_10 : decode b_B_addDealing 10 = .ok (.return_, 1) := by decide +kernel
theorem d_B_addDealing_11 : decode b_B_addDealing 11 = .ok (.aload_n 0, 1) := by decide +kernel
theorem d_B_addDealing_12 : decode b_B_addDealing 12 = .ok (.getfield 15, 3) := by decide +kernel
theorem d_B_addDealing_15 : decode b_B_addDealing 15 = .ok (.bipush 9, 2) := by decide +kernel
theorem d_B_addDealing_17 : decode b_B_addDealing 17 = .ok (.imul, 1) := by decide +kernel
theorem d_B_addDealing_18 : decode b_B_addDealing 18 = .ok (.iconst 5, 1) := by decide +kernel
theorem d_B_addDealing_19 : decode b_B_addDealing 19 = .ok (.iadd, 1) := by decide +kernel
theorem d_B_addDealing_20 : decode b_B_addDealing 20 = .ok (.istore 4, 2) := by decide +kernel
theorem d_B_addDealing_22 : decode b_B_addDealing 22 = .ok (.aload_n 0, 1) := by decide +kernel
theorem d_B_addDealing_23 : decode b_B_addDealing 23 = .ok (.iconst 1, 1) := by decide +kernel
theorem d_B_addDealing_24 : decode b_B_addDealing 24 = .ok (.iload_n 1, 1) := by decide +kernel
theorem d_B_addDealing_25 : decode b_B_addDealing 25 = .ok (.iconst 0, 1) := by decide +kernel
theorem d_B_addDealing_26 : decode b_B_addDealing 26 = .ok (.iconst 0, 1) := by decide +kernel
theorem d_B_addDealing_27 : decode b_B_addDealing 27 = .ok (.iload_n 2, 1) := by decide +kernel
theorem d_B_addDealing_28 : decode b_B_addDealing 28 = .ok (.invokevirtual 19, 3) := by decide +kernel
end
section
theorem d_B_addDealing_31 : decode b_B_addDealing 31 = .ok (.aload_n 3, 1) := by decide +kernel
theorem d_B_addDealing_32 : decode b_B_addDealing 32 = .ok (.iconst 0, 1) := by decide +kernel
theorem d_B_addDealing_33 : decode b_B_addDealing 33 = .ok (.aload_n 0, 1) := by decide +kernel
theorem d_B_addDealing_34 : decode b_B_addDealing 34 = .ok (.getfield 11, 3) := by decide +kernel
theorem d_B_addDealing_37 : decode b_B_addDealing 37 = .ok (.iload 4, 2) := by decide +kernel
theorem d_B_addDealing_39 : decode b_B_addDealing 39 = .ok (.iconst 4, 1) := by decide +kernel
theorem d_B_addDealing_40 : decode b_B_addDealing 40 = .ok (.invokestatic 23, 3) := by decide +kernel
theorem d_B_addDealing_43 : decode b_B_addDealing 43 = .ok (.return_, 1) := by decide +kernel
theorem d_B_add_0 : decode b_B_add 0 = .ok (.aload_n 0, 1) := by decide +kernel
theorem d_B_add_1 : decode b_B_add 1 = .ok (.getfield 15, 3) := by decide +kernel
theorem d_B_add_4 : decode b_B_add 4 = .ok (.sipush 250, 3) := by decide +kernel
theorem d_B_add_7 : decode b_B_add 7 = .ok (.if_icmp .lt 4, 3) := by decide +kernel
theorem d_B_add_10 : decode b_B_add 10 = .ok (.return_, 1) := by decide +kernel
theorem d_B_add_11 : decode b_B_add 11 = .ok (.aload_n 0, 1) := by decide +kernel
theorem d_B_add_12 : decode b_B_add 12 = .ok (.getfield 15, 3) := by decide +kernel
theorem d_B_add_15 : decode b_B_add 15 = .ok (.bipush 9, 2) := by decide +kernel
theorem d_B_add_17 : decode b_B_add 17 = .ok (.imul, 1) := by decide +kernel
theorem d_B_add_18 : decode b_B_add 18 = .ok (.istore 6, 2) := by decide +kernel
theorem d_B_add_20 : decode b_B_add 20 = .ok (.aload_n 0, 1) := by decide +kernel
theorem d_B_add_21 : decode b_B_add 21 = .ok (.getfield 11, 3) := by decide +kernel
theorem d_B_add_24 : decode b_B_add 24 = .ok (.iload 6, 2) := by decide +kernel
theorem d_B_add_26 : decode b_B_add 26 = .ok (.iload_n 1, 1) := by decide +kernel
theorem d_B_add_27 : decode b_B_add 27 = .ok (.iastore, 1) := by decide +kernel
theorem d_B_add_28 : decode b_B_add 28 = .ok (.aload_n 0, 1) := by decide +kernel
theorem d_B_add_29 : decode b_B_add 29 = .ok (.getfield 11, 3) := by decide +kernel
theorem d_B_add_32 : decode b_B_add 32 = .ok (.iload 6, 2) := by decide +kernel
theorem d_B_add_34 : decode b_B_add 34 = .ok (.iconst 1, 1) := by decide +kernel
theorem d_B_add_35 : decode b_B_add 35 = .ok (.iadd, 1) := by decide +kernel
theorem d_B_add_36 : decode b_B_add 36 = .ok (.iload_n 2, 1) := by decide +kernel
theorem d_B_add_37 : decode b_B_add 37 = .ok (.iastore, 1) := by decide +kernel
theorem d_B_add_38 : decode b_B_add 38 = .ok (.aload_n 0, 1) := by decide +kernel
theorem d_B_add_39 : decode b_B_add 39 = .ok (.getfield 11, 3) := by decide +kernel
theorem d_B_add_42 : decode b_B_add 42 = .ok (.iload 6, 2) := by decide +kernel
theorem d_B_add_44 : decode b_B_add 44 = .ok (.iconst 2, 1) := by decide +kernel
theorem d_B_add_45 : decode b_B_add 45 = .ok (.iadd, 1) := by decide +kernel
theorem d_B_add_46 : decode b_B_add 46 = .ok (.iload_n 3, 1) := by decide +kernel
theorem d_B_add_47 : decode b_B_add 47 = .ok (.iastore, 1) := by decide +kernel
theorem d_B_add_48 : decode b_B_add 48 = .ok (.aload_n 0, 1) := by decide +kernel
theorem d_B_add_49 : decode b_B_add 49 = .ok (.getfield 11, 3) := by decide +kernel
theorem d_B_add_52 : decode b_B_add 52 = .ok (.iload 6, 2) := by decide +kernel
theorem d_B_add_54 : decode b_B_add 54 = .ok (.iconst 3, 1) := by decide +kernel
theorem d_B_add_55 : decode b_B_add 55 = .ok (.iadd, 1) := by decide +kernel
theorem d_B_add_56 : decode b_B_add 56 = .ok (.iload 4, 2) := by decide +kernel
theorem d_B_add_58 : decode b_B_add 58 = .ok (.iastore, 1) := by decide +kernel
theorem d_B_add_59 : decode b_B_add 59 = .ok (.aload_n 0, 1) := by decide +kernel
theorem d_B_add_60 : decode b_B_add 60 = .ok (.getfield 11, 3) := by decide +kernel
theorem d_B_add_63 : decode b_B_add 63 = .ok (.iload 6, 2) := by decide +kernel
theorem d_B_add_65 : decode b_B_add 65 = .ok (.iconst 4, 1) := by decide +kernel
theorem d_B_add_66 : decode b_B_add 66 = .ok (.iadd, 1) := by decide +kernel
theorem d_B_add_67 : decode b_B_add 67 = .ok (.iload 5, 2) := by decide +kernel
theorem d_B_add_69 : decode b_B_add 69 = .ok (.iastore, 1) := by decide +kernel
theorem d_B_add_70 : decode b_B_add 70 = .ok (.iconst 5, 1) := by decide +kernel
theorem d_B_add_71 : decode b_B_add 71 = .ok (.istore 7, 2) := by decide +kernel
theorem d_B_add_73 : decode b_B_add 73 = .ok (.iload 7, 2) := by decide +kernel
theorem d_B_add_75 : decode b_B_add 75 = .ok (.bipush 9, 2) := by decide +kernel
theorem d_B_add_77 : decode b_B_add 77 = .ok (.if_icmp .ge 20, 3) := by decide +kernel
theorem d_B_add_80 : decode b_B_add 80 = .ok (.aload_n 0, 1) := by decide +kernel
theorem d_B_add_81 : decode b_B_add 81 = .ok (.getfield 11, 3) := by decide +kernel
theorem d_B_add_84 : decode b_B_add 84 = .ok (.iload 6, 2) := by decide +kernel
theorem d_B_add_86 : decode b_B_add 86 = .ok (.iload 7, 2) := by decide +kernel
theorem d_B_add_88 : decode b_B_add 88 = .ok (.iadd, 1) := by decide +kernel
theorem d_B_add_89 : decode b_B_add 89 = .ok (.iconst 0, 1) := by decide +kernel
theorem d_B_add_90 : decode b_B_add 90 = .ok (.iastore, 1) := by decide +kernel
theorem d_B_add_91 : decode b_B_add 91 = .ok (.iinc 7 1, 3) := by decide +kernel
theorem d_B_add_94 : decode b_B_add 94 = .ok (.goto (-21), 3) := by decide +kernel
theorem d_B_add_97 : decode b_B_add 97 = .ok (.aload_n 0, 1) := by decide +kernel
theorem d_B_add_98 : decode b_B_add 98 = .ok (.dup, 1) := by decide +kernel
theorem d_B_add_99 : decode b_B_add 99 = .ok (.getfield 15, 3) := by decide +kernel
theorem d_B_add_102 : decode b_B_add 102 = .ok (.iconst 1, 1) := by decide +kernel
theorem d_B_add_103 : decode b_B_add 103 = .ok (.iadd, 1) := by decide +kernel
theorem d_B_add_104 : decode b_B_add 104 = .ok (.putfield 15, 3) := by decide +kernel
theorem d_B_add_107 : decode b_B_add 107 = .ok (.return_, 1) := by decide +kernel
theorem d_L_look_0 : decode b_L_look 0 = .ok (.aload_n 2, 1) := by decide +kernel
theorem d_L_look_1 : decode b_L_look 1 = .ok (.iconst 0, 1) := by decide +kernel
theorem d_L_look_2 : decode b_L_look 2 = .ok (.aload_n 0, 1) := by decide +kernel
theorem d_L_look_3 : decode b_L_look 3 = .ok (.iload_n 1, 1) := by decide +kernel
theorem d_L_look_4 : decode b_L_look 4 = .ok (.invokevirtual 32, 3) := by decide +kernel
theorem d_L_look_7 : decode b_L_look 7 = .ok (.i2l, 1) := by decide +kernel
theorem d_L_look_8 : decode b_L_look 8 = .ok (.lastore, 1) := by decide +kernel
theorem d_L_look_9 : decode b_L_look 9 = .ok (.goto 12, 3) := by decide +kernel
theorem d_L_look_12 : decode b_L_look 12 = .ok (.astore_n 3, 1) := by decide +kernel
theorem d_L_look_13 : decode b_L_look 13 = .ok (.iconst 1, 1) := by decide +kernel
theorem d_L_look_14 : decode b_L_look 14 = .ok (.ireturn, 1) := by decide +kernel
theorem d_L_look_15 : decode b_L_look 15 = .ok (.astore_n 3, 1) := by decide +kernel
theorem d_L_look_16 : decode b_L_look 16 = .ok (.iconst 2, 1) := by decide +kernel
theorem d_L_look_17 : decode b_L_look 17 = .ok (.ireturn, 1) := by decide +kernel
theorem d_L_look_18 : decode b_L_look 18 = .ok (.astore_n 3, 1) := by decide +kernel
theorem d_L_look_19 : decode b_L_look 19 = .ok (.iconst 3, 1) := by decide +kernel
theorem d_L_look_20 : decode b_L_look 20 = .ok (.ireturn, 1) := by decide +kernel
theorem d_L_look_21 : decode b_L_look 21 = .ok (.iconst 0, 1) := by decide +kernel
theorem d_L_look_22 : decode b_L_look 22 = .ok (.ireturn, 1) := by decide +kernel
theorem d_K_look_0 : decode b_K_look 0 = .ok (.aload_n 0, 1) := by decide +kernel
theorem d_K_look_1 : decode b_K_look 1 = .ok (.invokevirtual 95, 3) := by decide +kernel
theorem d_K_look_4 : decode b_K_look 4 = .ok (.iload_n 1, 1) := by decide +kernel
theorem d_K_look_5 : decode b_K_look 5 = .ok (.invokestatic 98, 3) := by decide +kernel
theorem d_K_look_8 : decode b_K_look 8 = .ok (.aload_n 0, 1) := by decide +kernel
theorem d_K_look_9 : decode b_K_look 9 = .ok (.getfield 28, 3) := by decide +kernel
theorem d_K_look_12 : decode b_K_look 12 = .ok (.iload_n 1, 1) := by decide +kernel
theorem d_K_look_13 : decode b_K_look 13 = .ok (.invokevirtual 138, 3) := by decide +kernel
theorem d_K_look_16 : decode b_K_look 16 = .ok (.istore_n 2, 1) := by decide +kernel
theorem d_K_look_17 : decode b_K_look 17 = .ok (.iload_n 2, 1) := by decide +kernel
theorem d_K_look_18 : decode b_K_look 18 = .ok (.invokestatic 142, 3) := by decide +kernel
theorem d_K_look_21 : decode b_K_look 21 = .ok (.istore_n 3, 1) := by decide +kernel
theorem d_K_look_22 : decode b_K_look 22 = .ok (.iload_n 3, 1) := by decide +kernel
theorem d_K_look_23 : decode b_K_look 23 = .ok (.aload_n 0, 1) := by decide +kernel
theorem d_K_look_24 : decode b_K_look 24 = .ok (.getfield 19, 3) := by decide +kernel
theorem d_K_look_27 : decode b_K_look 27 = .ok (.invokevirtual 116, 3) := by decide +kernel
theorem d_K_look_30 : decode b_K_look 30 = .ok (.if_icmp .le 11, 3) := by decide +kernel
theorem d_K_look_33 : decode b_K_look 33 = .ok (.new 109, 3) := by decide +kernel
theorem d_K_look_36 : decode b_K_look 36 = .ok (.dup, 1) := by decide +kernel
theorem d_K_look_37 : decode b_K_look 37 = .ok (.invokespecial 111, 3) := by decide +kernel
theorem d_K_look_40 : decode b_K_look 40 = .ok (.athrow, 1) := by decide +kernel
theorem d_K_look_41 : decode b_K_look 41 = .ok (.iconst 1, 1) := by decide +kernel
theorem d_K_look_42 : decode b_K_look 42 = .ok (.istore 4, 2) := by decide +kernel
theorem d_K_look_44 : decode b_K_look 44 = .ok (.iload 4, 2) := by decide +kernel
theorem d_K_look_46 : decode b_K_look 46 = .ok (.bipush 7, 2) := by decide +kernel
theorem d_K_look_48 : decode b_K_look 48 = .ok (.if_icmp .gt 44, 3) := by decide +kernel
theorem d_K_look_51 : decode b_K_look 51 = .ok (.iload_n 2, 1) := by decide +kernel
theorem d_K_look_52 : decode b_K_look 52 = .ok (.iload 4, 2) := by decide +kernel
theorem d_K_look_54 : decode b_K_look 54 = .ok (.invokestatic 147, 3) := by decide +kernel
theorem d_K_look_57 : decode b_K_look 57 = .ok (.ifCond .eq 29, 3) := by decide +kernel
theorem d_K_look_60 : decode b_K_look 60 = .ok (.aload_n 0, 1) := by decide +kernel
theorem d_K_look_61 : decode b_K_look 61 = .ok (.getfield 28, 3) := by decide +kernel
theorem d_K_look_64 : decode b_K_look 64 = .ok (.iload_n 1, 1) := by decide +kernel
theorem d_K_look_65 : decode b_K_look 65 = .ok (.iload 4, 2) := by decide +kernel
theorem d_K_look_67 : decode b_K_look 67 = .ok (.invokevirtual 150, 3) := by decide +kernel
theorem d_K_look_70 : decode b_K_look 70 = .ok (.aload_n 0, 1) := by decide +kernel
theorem d_K_look_71 : decode b_K_look 71 = .ok (.getfield 19, 3) := by decide +kernel
theorem d_K_look_74 : decode b_K_look 74 = .ok (.iconst 2, 1) := by decide +kernel
theorem d_K_look_75 : decode b_K_look 75 = .ok (.iload_n 1, 1) := by decide +kernel
theorem d_K_look_76 : decode b_K_look 76 = .ok (.iload 4, 2) := by decide +kernel
theorem d_K_look_78 : decode b_K_look 78 = .ok (.iconst 0, 1) := by decide +kernel
theorem d_K_look_79 : decode b_K_look 79 = .ok (.aload_n 0, 1) := by decide +kernel
theorem d_K_look_80 : decode b_K_look 80 = .ok (.getfield 42, 3) := by decide +kernel
theorem d_K_look_83 : decode b_K_look 83 = .ok (.invokevirtual 153, 3) := by decide +kernel
theorem d_K_look_86 : decode b_K_look 86 = .ok (.iinc 4 1, 3) := by decide +kernel
theorem d_K_look_89 : decode b_K_look 89 = .ok (.goto (-45), 3) := by decide +kernel
theorem d_K_look_92 : decode b_K_look 92 = .ok (.iload_n 3, 1) := by decide +kernel
theorem d_K_look_93 : decode b_K_look 93 = .ok (.ireturn, 1) := by decide +kernel
theorem d_V_accusedBy_0 : decode b_V_accusedBy 0 = .ok (.iconst 0, 1) := by decide +kernel
theorem d_V_accusedBy_1 : decode b_V_accusedBy 1 = .ok (.istore_n 2, 1) := by decide +kernel
theorem d_V_accusedBy_2 : decode b_V_accusedBy 2 = .ok (.iconst 1, 1) := by decide +kernel
theorem d_V_accusedBy_3 : decode b_V_accusedBy 3 = .ok (.istore_n 3, 1) := by decide +kernel
theorem d_V_accusedBy_4 : decode b_V_accusedBy 4 = .ok (.iload_n 3, 1) := by decide +kernel
theorem d_V_accusedBy_5 : decode b_V_accusedBy 5 = .ok (.bipush 7, 2) := by decide +kernel
theorem d_V_accusedBy_7 : decode b_V_accusedBy 7 = .ok (.if_icmp .gt 49, 3) := by decide +kernel
theorem d_V_accusedBy_10 : decode b_V_accusedBy 10 = .ok (.aload_n 0, 1) := by decide +kernel
theorem d_V_accusedBy_11 : decode b_V_accusedBy 11 = .ok (.getfield 46, 3) := by decide +kernel
theorem d_V_accusedBy_14 : decode b_V_accusedBy 14 = .ok (.iload_n 3, 1) := by decide +kernel
theorem d_V_accusedBy_15 : decode b_V_accusedBy 15 = .ok (.invokestatic 49, 3) := by decide +kernel
theorem d_V_accusedBy_18 : decode b_V_accusedBy 18 = .ok (.ifCond .eq 32, 3) := by decide +kernel
theorem d_V_accusedBy_21 : decode b_V_accusedBy 21 = .ok (.aload_n 0, 1) := by decide +kernel
theorem d_V_accusedBy_22 : decode b_V_accusedBy 22 = .ok (.getfield 26, 3) := by decide +kernel
theorem d_V_accusedBy_25 : decode b_V_accusedBy 25 = .ok (.iload_n 3, 1) := by decide +kernel
theorem d_V_accusedBy_26 : decode b_V_accusedBy 26 = .ok (.iaload, 1) := by decide +kernel
theorem d_V_accusedBy_27 : decode b_V_accusedBy 27 = .ok (.iload_n 1, 1) := by decide +kernel
theorem d_V_accusedBy_28 : decode b_V_accusedBy 28 = .ok (.invokestatic 49, 3) := by decide +kernel
theorem d_V_accusedBy_31 : decode b_V_accusedBy 31 = .ok (.ifCond .ne 19, 3) := by decide +kernel
theorem d_V_accusedBy_34 : decode b_V_accusedBy 34 = .ok (.aload_n 0, 1) := by decide +kernel
theorem d_V_accusedBy_35 : decode b_V_accusedBy 35 = .ok (.iload_n 1, 1) := by decide +kernel
theorem d_V_accusedBy_36 : decode b_V_accusedBy 36 = .ok (.iload_n 3, 1) := by decide +kernel
theorem d_V_accusedBy_37 : decode b_V_accusedBy 37 = .ok (.invokevirtual 90, 3) := by decide +kernel
theorem d_V_accusedBy_40 : decode b_V_accusedBy 40 = .ok (.ifCond .eq 10, 3) := by decide +kernel
theorem d_V_accusedBy_43 : decode b_V_accusedBy 43 = .ok (.iload_n 2, 1) := by decide +kernel
theorem d_V_accusedBy_44 : decode b_V_accusedBy 44 = .ok (.iload_n 3, 1) := by decide +kernel
theorem d_V_accusedBy_45 : decode b_V_accusedBy 45 = .ok (.invokestatic 57, 3) := by decide +kernel
theorem d_V_accusedBy_48 : decode b_V_accusedBy 48 = .ok (.ior, 1) := by decide +kernel
theorem d_V_accusedBy_49 : decode b_V_accusedBy 49 = .ok (.istore_n 2, 1) := by decide +kernel
theorem d_V_accusedBy_50 : decode b_V_accusedBy 50 = .ok (.iinc 3 1, 3) := by decide +kernel
theorem d_V_accusedBy_53 : decode b_V_accusedBy 53 = .ok (.goto (-49), 3) := by decide +kernel
theorem d_V_accusedBy_56 : decode b_V_accusedBy 56 = .ok (.iload_n 2, 1) := by decide +kernel
theorem d_V_accusedBy_57 : decode b_V_accusedBy 57 = .ok (.ireturn, 1) := by decide +kernel
theorem d_V_objectsTo_0 : decode b_V_objectsTo 0 = .ok (.aload_n 0, 1) := by decide +kernel
theorem d_V_objectsTo_1 : decode b_V_objectsTo 1 = .ok (.getfield 9, 3) := by decide +kernel
theorem d_V_objectsTo_4 : decode b_V_objectsTo 4 = .ok (.iload_n 1, 1) := by decide +kernel
theorem d_V_objectsTo_5 : decode b_V_objectsTo 5 = .ok (.iaload, 1) := by decide +kernel
theorem d_V_objectsTo_6 : decode b_V_objectsTo 6 = .ok (.iconst 4, 1) := by decide +kernel
theorem d_V_objectsTo_7 : decode b_V_objectsTo 7 = .ok (.if_icmp .eq 28, 3) := by decide +kernel
theorem d_V_objectsTo_10 : decode b_V_objectsTo 10 = .ok (.aload_n 0, 1) := by decide +kernel
theorem d_V_objectsTo_11 : decode b_V_objectsTo 11 = .ok (.getfield 32, 3) := by decide +kernel
theorem d_V_objectsTo_14 : decode b_V_objectsTo 14 = .ok (.iload_n 1, 1) := by decide +kernel
theorem d_V_objectsTo_15 : decode b_V_objectsTo 15 = .ok (.aload_n 0, 1) := by decide +kernel
theorem d_V_objectsTo_16 : decode b_V_objectsTo 16 = .ok (.getfield 20, 3) := by decide +kernel
theorem d_V_objectsTo_19 : decode b_V_objectsTo 19 = .ok (.iload_n 2, 1) := by decide +kernel
theorem d_V_objectsTo_20 : decode b_V_objectsTo 20 = .ok (.aaload, 1) := by decide +kernel
theorem d_V_objectsTo_21 : decode b_V_objectsTo 21 = .ok (.aload_n 0, 1) := by decide +kernel
theorem d_V_objectsTo_22 : decode b_V_objectsTo 22 = .ok (.getfield 23, 3) := by decide +kernel
theorem d_V_objectsTo_25 : decode b_V_objectsTo 25 = .ok (.iload_n 2, 1) := by decide +kernel
theorem d_V_objectsTo_26 : decode b_V_objectsTo 26 = .ok (.aaload, 1) := by decide +kernel
theorem d_V_objectsTo_27 : decode b_V_objectsTo 27 = .ok (.iload_n 1, 1) := by decide +kernel
theorem d_V_objectsTo_28 : decode b_V_objectsTo 28 = .ok (.iaload, 1) := by decide +kernel
theorem d_V_objectsTo_29 : decode b_V_objectsTo 29 = .ok (.invokevirtual 93, 3) := by decide +kernel
theorem d_V_objectsTo_32 : decode b_V_objectsTo 32 = .ok (.ifCond .ne 7, 3) := by decide +kernel
theorem d_V_objectsTo_35 : decode b_V_objectsTo 35 = .ok (.iconst 1, 1) := by decide +kernel
theorem d_V_objectsTo_36 : decode b_V_objectsTo 36 = .ok (.goto 4, 3) := by decide +kernel
theorem d_V_objectsTo_39 : decode b_V_objectsTo 39 = .ok (.iconst 0, 1) := by decide +kernel
theorem d_V_objectsTo_40 : decode b_V_objectsTo 40 = .ok (.ireturn, 1) := by decide +kernel
theorem d_G_agree_0 : decode b_G_agree 0 = .ok (.aload_n 0, 1) := by decide +kernel
theorem d_G_agree_1 : decode b_G_agree 1 = .ok (.getfield 18, 3) := by decide +kernel
theorem d_G_agree_4 : decode b_G_agree 4 = .ok (.iload_n 3, 1) := by decide +kernel
theorem d_G_agree_5 : decode b_G_agree 5 = .ok (.aload_n 0, 1) := by decide +kernel
theorem d_G_agree_6 : decode b_G_agree 6 = .ok (.getfield 9, 3) := by decide +kernel
theorem d_G_agree_9 : decode b_G_agree 9 = .ok (.invokestatic 21, 3) := by decide +kernel
theorem d_G_agree_12 : decode b_G_agree 12 = .ok (.aload_n 0, 1) := by decide +kernel
theorem d_G_agree_13 : decode b_G_agree 13 = .ok (.iload_n 1, 1) := by decide +kernel
theorem d_G_agree_14 : decode b_G_agree 14 = .ok (.aload_n 2, 1) := by decide +kernel
theorem d_G_agree_15 : decode b_G_agree 15 = .ok (.invokevirtual 42, 3) := by decide +kernel
theorem d_G_agree_18 : decode b_G_agree 18 = .ok (.if_icmp .ne 7, 3) := by decide +kernel
theorem d_G_agree_21 : decode b_G_agree 21 = .ok (.iconst 1, 1) := by decide +kernel
theorem d_G_agree_22 : decode b_G_agree 22 = .ok (.goto 4, 3) := by decide +kernel
theorem d_G_agree_25 : decode b_G_agree 25 = .ok (.iconst 0, 1) := by decide +kernel
theorem d_G_agree_26 : decode b_G_agree 26 = .ok (.ireturn, 1) := by decide +kernel
theorem d_G_elementAt_0 : decode b_G_elementAt 0 = .ok (.iconst 1, 1) := by decide +kernel
theorem d_G_elementAt_1 : decode b_G_elementAt 1 = .ok (.istore_n 3, 1) := by decide +kernel
theorem d_G_elementAt_2 : decode b_G_elementAt 2 = .ok (.iconst 1, 1) := by decide +kernel
theorem d_G_elementAt_3 : decode b_G_elementAt 3 = .ok (.istore 4, 2) := by decide +kernel
theorem d_G_elementAt_5 : decode b_G_elementAt 5 = .ok (.iconst 0, 1) := by decide +kernel
theorem d_G_elementAt_6 : decode b_G_elementAt 6 = .ok (.istore 5, 2) := by decide +kernel
theorem d_G_elementAt_8 : decode b_G_elementAt 8 = .ok (.iload 5, 2) := by decide +kernel
theorem d_G_elementAt_10 : decode b_G_elementAt 10 = .ok (.iconst 4, 1) := by decide +kernel
theorem d_G_elementAt_11 : decode b_G_elementAt 11 = .ok (.if_icmp .ge 34, 3) := by decide +kernel
theorem d_G_elementAt_14 : decode b_G_elementAt 14 = .ok (.aload_n 0, 1) := by decide +kernel
theorem d_G_elementAt_15 : decode b_G_elementAt 15 = .ok (.iload_n 3, 1) := by decide +kernel
theorem d_G_elementAt_16 : decode b_G_elementAt 16 = .ok (.aload_n 2, 1) := by decide +kernel
theorem d_G_elementAt_17 : decode b_G_elementAt 17 = .ok (.iload 5, 2) := by decide +kernel
theorem d_G_elementAt_19 : decode b_G_elementAt 19 = .ok (.iaload, 1) := by decide +kernel
theorem d_G_elementAt_20 : decode b_G_elementAt 20 = .ok (.iload 4, 2) := by decide +kernel
theorem d_G_elementAt_22 : decode b_G_elementAt 22 = .ok (.aload_n 0, 1) := by decide +kernel
theorem d_G_elementAt_23 : decode b_G_elementAt 23 = .ok (.getfield 9, 3) := by decide +kernel
theorem d_G_elementAt_26 : decode b_G_elementAt 26 = .ok (.invokestatic 21, 3) := by decide +kernel
theorem d_G_elementAt_29 : decode b_G_elementAt 29 = .ok (.invokevirtual 39, 3) := by decide +kernel
theorem d_G_elementAt_32 : decode b_G_elementAt 32 = .ok (.istore_n 3, 1) := by decide +kernel
theorem d_G_elementAt_33 : decode b_G_elementAt 33 = .ok (.iload 4, 2) := by decide +kernel
theorem d_G_elementAt_35 : decode b_G_elementAt 35 = .ok (.iload_n 1, 1) := by decide +kernel
theorem d_G_elementAt_36 : decode b_G_elementAt 36 = .ok (.imul, 1) := by decide +kernel
theorem d_G_elementAt_37 : decode b_G_elementAt 37 = .ok (.istore 4, 2) := by decide +kernel
theorem d_G_elementAt_39 : decode b_G_elementAt 39 = .ok (.iinc 5 1, 3) := by decide +kernel
theorem d_G_elementAt_42 : decode b_G_elementAt 42 = .ok (.goto (-34), 3) := by decide +kernel
theorem d_G_elementAt_45 : decode b_G_elementAt 45 = .ok (.iload_n 3, 1) := by decide +kernel
theorem d_G_elementAt_46 : decode b_G_elementAt 46 = .ok (.ireturn, 1) := by decide +kernel
theorem d_G_multiply_0 : decode b_G_multiply 0 = .ok (.iload_n 1, 1) := by decide +kernel
theorem d_G_multiply_1 : decode b_G_multiply 1 = .ok (.i2l, 1) := by decide +kernel
theorem d_G_multiply_2 : decode b_G_multiply 2 = .ok (.iload_n 2, 1) := by decide +kernel
theorem d_G_multiply_3 : decode b_G_multiply 3 = .ok (.i2l, 1) := by decide +kernel
theorem d_G_multiply_4 : decode b_G_multiply 4 = .ok (.lmul, 1) := by decide +kernel
theorem d_G_multiply_5 : decode b_G_multiply 5 = .ok (.aload_n 0, 1) := by decide +kernel
theorem d_G_multiply_6 : decode b_G_multiply 6 = .ok (.getfield 9, 3) := by decide +kernel
theorem d_G_multiply_9 : decode b_G_multiply 9 = .ok (.i2l, 1) := by decide +kernel
theorem d_G_multiply_10 : decode b_G_multiply 10 = .ok (.lrem, 1) := by decide +kernel
theorem d_G_multiply_11 : decode b_G_multiply 11 = .ok (.l2i, 1) := by decide +kernel
theorem d_G_multiply_12 : decode b_G_multiply 12 = .ok (.ireturn, 1) := by decide +kernel
theorem d_V_complain_0 : decode b_V_complain 0 = .ok (.aload_n 0, 1) := by decide +kernel
theorem d_V_complain_1 : decode b_V_complain 1 = .ok (.getfield 26, 3) := by decide +kernel
theorem d_V_complain_4 : decode b_V_complain 4 = .ok (.iload_n 2, 1) := by decide +kernel
theorem d_V_complain_5 : decode b_V_complain 5 = .ok (.dup2, 1) := by decide +kernel
theorem d_V_complain_6 : decode b_V_complain 6 = .ok (.iaload, 1) := by decide +kernel
theorem d_V_complain_7 : decode b_V_complain 7 = .ok (.iload_n 1, 1) := by decide +kernel
theorem d_V_complain_8 : decode b_V_complain 8 = .ok (.invokestatic 57, 3) := by decide +kernel
theorem d_V_complain_11 : decode b_V_complain 11 = .ok (.ior, 1) := by decide +kernel
theorem d_V_complain_12 : decode b_V_complain 12 = .ok (.iastore, 1) := by decide +kernel
theorem d_V_complain_13 : decode b_V_complain 13 = .ok (.return_, 1) := by decide +kernel
theorem d_L_answer_0 : decode b_L_answer 0 = .ok (.aload_n 3, 1) := by decide +kernel
theorem d_L_answer_1 : decode b_L_answer 1 = .ok (.iconst 0, 1) := by decide +kernel
theorem d_L_answer_2 : decode b_L_answer 2 = .ok (.aload_n 0, 1) := by decide +kernel
theorem d_L_answer_3 : decode b_L_answer 3 = .ok (.iload_n 1, 1) := by decide +kernel
theorem d_L_answer_4 : decode b_L_answer 4 = .ok (.iload_n 2, 1) := by decide +kernel
theorem d_L_answer_5 : decode b_L_answer 5 = .ok (.invokevirtual 36, 3) := by decide +kernel
theorem d_L_answer_8 : decode b_L_answer 8 = .ok (.ifCond .eq 7, 3) := by decide +kernel
theorem d_L_answer_11 : decode b_L_answer 11 = .ok (.lconst 1, 1) := by decide +kernel
theorem d_L_answer_12 : decode b_L_answer 12 = .ok (.goto 4, 3) := by decide +kernel
theorem d_L_answer_15 : decode b_L_answer 15 = .ok (.lconst 0, 1) := by decide +kernel
theorem d_L_answer_16 : decode b_L_answer 16 = .ok (.lastore, 1) := by decide +kernel
theorem d_L_answer_17 : decode b_L_answer 17 = .ok (.goto 19, 3) := by decide +kernel
theorem d_L_answer_20 : decode b_L_answer 20 = .ok (.astore 4, 2) := by decide +kernel
theorem d_L_answer_22 : decode b_L_answer 22 = .ok (.iconst 1, 1) := by decide +kernel
theorem d_L_answer_23 : decode b_L_answer 23 = .ok (.ireturn, 1) := by decide +kernel
theorem d_L_answer_24 : decode b_L_answer 24 = .ok (.astore 4, 2) := by decide +kernel
theorem d_L_answer_26 : decode b_L_answer 26 = .ok (.iconst 2, 1) := by decide +kernel
theorem d_L_answer_27 : decode b_L_answer 27 = .ok (.ireturn, 1) := by decide +kernel
theorem d_L_answer_28 : decode b_L_answer 28 = .ok (.astore 4, 2) := by decide +kernel
theorem d_L_answer_30 : decode b_L_answer 30 = .ok (.iconst 3, 1) := by decide +kernel
theorem d_L_answer_31 : decode b_L_answer 31 = .ok (.ireturn, 1) := by decide +kernel
theorem d_L_answer_32 : decode b_L_answer 32 = .ok (.astore 4, 2) := by decide +kernel
theorem d_L_answer_34 : decode b_L_answer 34 = .ok (.iconst 4, 1) := by decide +kernel
theorem d_L_answer_35 : decode b_L_answer 35 = .ok (.ireturn, 1) := by decide +kernel
theorem d_L_answer_36 : decode b_L_answer 36 = .ok (.iconst 0, 1) := by decide +kernel
theorem d_L_answer_37 : decode b_L_answer 37 = .ok (.ireturn, 1) := by decide +kernel
theorem d_K_answer_0 : decode b_K_answer 0 = .ok (.aload_n 0, 1) := by decide +kernel
theorem d_K_answer_1 : decode b_K_answer 1 = .ok (.invokevirtual 95, 3) := by decide +kernel
theorem d_K_answer_4 : decode b_K_answer 4 = .ok (.iload_n 1, 1) := by decide +kernel
theorem d_K_answer_5 : decode b_K_answer 5 = .ok (.invokestatic 98, 3) := by decide +kernel
theorem d_K_answer_8 : decode b_K_answer 8 = .ok (.iload_n 2, 1) := by decide +kernel
theorem d_K_answer_9 : decode b_K_answer 9 = .ok (.invokestatic 98, 3) := by decide +kernel
theorem d_K_answer_12 : decode b_K_answer 12 = .ok (.aload_n 0, 1) := by decide +kernel
theorem d_K_answer_13 : decode b_K_answer 13 = .ok (.getfield 28, 3) := by decide +kernel
theorem d_K_answer_16 : decode b_K_answer 16 = .ok (.invokevirtual 157, 3) := by decide +kernel
theorem d_K_answer_19 : decode b_K_answer 19 = .ok (.iload_n 1, 1) := by decide +kernel
theorem d_K_answer_20 : decode b_K_answer 20 = .ok (.invokestatic 147, 3) := by decide +kernel
theorem d_K_answer_23 : decode b_K_answer 23 = .ok (.ifCond .ne 11, 3) := by decide +kernel
theorem d_K_answer_26 : decode b_K_answer 26 = .ok (.new 50, 3) := by decide +kernel
theorem d_K_answer_29 : decode b_K_answer 29 = .ok (.dup, 1) := by decide +kernel
theorem d_K_answer_30 : decode b_K_answer 30 = .ok (.invokespecial 52, 3) := by decide +kernel
theorem d_K_answer_33 : decode b_K_answer 33 = .ok (.athrow, 1) := by decide +kernel
theorem d_K_answer_34 : decode b_K_answer 34 = .ok (.aload_n 0, 1) := by decide +kernel
theorem d_K_answer_35 : decode b_K_answer 35 = .ok (.getfield 19, 3) := by decide +kernel
theorem d_K_answer_38 : decode b_K_answer 38 = .ok (.invokevirtual 116, 3) := by decide +kernel
theorem d_K_answer_41 : decode b_K_answer 41 = .ok (.ifCond .ne 11, 3) := by decide +kernel
theorem d_K_answer_44 : decode b_K_answer 44 = .ok (.new 109, 3) := by decide +kernel
theorem d_K_answer_47 : decode b_K_answer 47 = .ok (.dup, 1) := by decide +kernel
theorem d_K_answer_48 : decode b_K_answer 48 = .ok (.invokespecial 111, 3) := by decide +kernel
theorem d_K_answer_51 : decode b_K_answer 51 = .ok (.athrow, 1) := by decide +kernel
theorem d_K_answer_52 : decode b_K_answer 52 = .ok (.aload_n 0, 1) := by decide +kernel
theorem d_K_answer_53 : decode b_K_answer 53 = .ok (.getfield 28, 3) := by decide +kernel
theorem d_K_answer_56 : decode b_K_answer 56 = .ok (.iload_n 1, 1) := by decide +kernel
theorem d_K_answer_57 : decode b_K_answer 57 = .ok (.iload_n 2, 1) := by decide +kernel
theorem d_K_answer_58 : decode b_K_answer 58 = .ok (.invokevirtual 160, 3) := by decide +kernel
theorem d_K_answer_61 : decode b_K_answer 61 = .ok (.istore_n 3, 1) := by decide +kernel
theorem d_K_answer_62 : decode b_K_answer 62 = .ok (.iload_n 3, 1) := by decide +kernel
theorem d_K_answer_63 : decode b_K_answer 63 = .ok (.iconst (-1), 1) := by decide +kernel
theorem d_K_answer_64 : decode b_K_answer 64 = .ok (.if_icmp .ne 5, 3) := by decide +kernel
theorem d_K_answer_67 : decode b_K_answer 67 = .ok (.iconst 0, 1) := by decide +kernel
theorem d_K_answer_68 : decode b_K_answer 68 = .ok (.ireturn, 1) := by decide +kernel
theorem d_K_answer_69 : decode b_K_answer 69 = .ok (.aload_n 0, 1) := by decide +kernel
theorem d_K_answer_70 : decode b_K_answer 70 = .ok (.getfield 19, 3) := by decide +kernel
theorem d_K_answer_73 : decode b_K_answer 73 = .ok (.iconst 3, 1) := by decide +kernel
theorem d_K_answer_74 : decode b_K_answer 74 = .ok (.iload_n 1, 1) := by decide +kernel
theorem d_K_answer_75 : decode b_K_answer 75 = .ok (.iload_n 2, 1) := by decide +kernel
theorem d_K_answer_76 : decode b_K_answer 76 = .ok (.iload_n 3, 1) := by decide +kernel
theorem d_K_answer_77 : decode b_K_answer 77 = .ok (.aload_n 0, 1) := by decide +kernel
theorem d_K_answer_78 : decode b_K_answer 78 = .ok (.getfield 42, 3) := by decide +kernel
theorem d_K_answer_81 : decode b_K_answer 81 = .ok (.invokevirtual 153, 3) := by decide +kernel
theorem d_K_answer_84 : decode b_K_answer 84 = .ok (.aload_n 0, 1) := by decide +kernel
theorem d_K_answer_85 : decode b_K_answer 85 = .ok (.getfield 28, 3) := by decide +kernel
theorem d_K_answer_88 : decode b_K_answer 88 = .ok (.iload_n 1, 1) := by decide +kernel
theorem d_K_answer_89 : decode b_K_answer 89 = .ok (.iload_n 2, 1) := by decide +kernel
theorem d_K_answer_90 : decode b_K_answer 90 = .ok (.iload_n 3, 1) := by decide +kernel
theorem d_K_answer_91 : decode b_K_answer 91 = .ok (.invokevirtual 164, 3) := by decide +kernel
theorem d_K_answer_94 : decode b_K_answer 94 = .ok (.ireturn, 1) := by decide +kernel
theorem d_V_dealers_0 : decode b_V_dealers 0 = .ok (.aload_n 0, 1) := by decide +kernel
theorem d_V_dealers_1 : decode b_V_dealers 1 = .ok (.getfield 46, 3) := by decide +kernel
theorem d_V_dealers_4 : decode b_V_dealers 4 = .ok (.ireturn, 1) := by decide +kernel
theorem d_V_shownBy_0 : decode b_V_shownBy 0 = .ok (.aload_n 0, 1) := by decide +kernel
theorem d_V_shownBy_1 : decode b_V_shownBy 1 = .ok (.getfield 9, 3) := by decide +kernel
theorem d_V_shownBy_4 : decode b_V_shownBy 4 = .ok (.iload_n 1, 1) := by decide +kernel
theorem d_V_shownBy_5 : decode b_V_shownBy 5 = .ok (.iaload, 1) := by decide +kernel
theorem d_V_shownBy_6 : decode b_V_shownBy 6 = .ok (.bipush 6, 2) := by decide +kernel
theorem d_V_shownBy_8 : decode b_V_shownBy 8 = .ok (.if_icmp .ne 5, 3) := by decide +kernel
theorem d_V_shownBy_11 : decode b_V_shownBy 11 = .ok (.iconst (-1), 1) := by decide +kernel
theorem d_V_shownBy_12 : decode b_V_shownBy 12 = .ok (.ireturn, 1) := by decide +kernel
theorem d_V_shownBy_13 : decode b_V_shownBy 13 = .ok (.aload_n 0, 1) := by decide +kernel
theorem d_V_shownBy_14 : decode b_V_shownBy 14 = .ok (.iload_n 1, 1) := by decide +kernel
theorem d_V_shownBy_15 : decode b_V_shownBy 15 = .ok (.iload_n 2, 1) := by decide +kernel
theorem d_V_shownBy_16 : decode b_V_shownBy 16 = .ok (.invokevirtual 76, 3) := by decide +kernel
theorem d_V_shownBy_19 : decode b_V_shownBy 19 = .ok (.istore_n 3, 1) := by decide +kernel
theorem d_V_shownBy_20 : decode b_V_shownBy 20 = .ok (.aload_n 0, 1) := by decide +kernel
theorem d_V_shownBy_21 : decode b_V_shownBy 21 = .ok (.getfield 9, 3) := by decide +kernel
theorem d_V_shownBy_24 : decode b_V_shownBy 24 = .ok (.iload_n 1, 1) := by decide +kernel
theorem d_V_shownBy_25 : decode b_V_shownBy 25 = .ok (.iaload, 1) := by decide +kernel
theorem d_V_shownBy_26 : decode b_V_shownBy 26 = .ok (.iconst 2, 1) := by decide +kernel
theorem d_V_shownBy_27 : decode b_V_shownBy 27 = .ok (.if_icmp .ne 16, 3) := by decide +kernel
theorem d_V_shownBy_30 : decode b_V_shownBy 30 = .ok (.aload_n 0, 1) := by decide +kernel
theorem d_V_shownBy_31 : decode b_V_shownBy 31 = .ok (.iload_n 1, 1) := by decide +kernel
theorem d_V_shownBy_32 : decode b_V_shownBy 32 = .ok (.iload_n 2, 1) := by decide +kernel
theorem d_V_shownBy_33 : decode b_V_shownBy 33 = .ok (.invokevirtual 80, 3) := by decide +kernel
theorem d_V_shownBy_36 : decode b_V_shownBy 36 = .ok (.ifCond .eq 7, 3) := by decide +kernel
theorem d_V_shownBy_39 : decode b_V_shownBy 39 = .ok (.iconst 1, 1) := by decide +kernel
theorem d_V_shownBy_40 : decode b_V_shownBy 40 = .ok (.goto 4, 3) := by decide +kernel
theorem d_V_shownBy_43 : decode b_V_shownBy 43 = .ok (.iconst 0, 1) := by decide +kernel
theorem d_V_shownBy_44 : decode b_V_shownBy 44 = .ok (.istore 4, 2) := by decide +kernel
theorem d_V_shownBy_46 : decode b_V_shownBy 46 = .ok (.iload 4, 2) := by decide +kernel
theorem d_V_shownBy_48 : decode b_V_shownBy 48 = .ok (.ifCond .eq 15, 3) := by decide +kernel
theorem d_V_shownBy_51 : decode b_V_shownBy 51 = .ok (.aload_n 0, 1) := by decide +kernel
theorem d_V_shownBy_52 : decode b_V_shownBy 52 = .ok (.getfield 32, 3) := by decide +kernel
theorem d_V_shownBy_55 : decode b_V_shownBy 55 = .ok (.iload_n 3, 1) := by decide +kernel
theorem d_V_shownBy_56 : decode b_V_shownBy 56 = .ok (.iconst 1, 1) := by decide +kernel
theorem d_V_shownBy_57 : decode b_V_shownBy 57 = .ok (.invokevirtual 83, 3) := by decide +kernel
theorem d_V_shownBy_60 : decode b_V_shownBy 60 = .ok (.goto 4, 3) := by decide +kernel
theorem d_V_shownBy_63 : decode b_V_shownBy 63 = .ok (.iload_n 3, 1) := by decide +kernel
theorem d_V_shownBy_64 : decode b_V_shownBy 64 = .ok (.ireturn, 1) := by decide +kernel
theorem d_V_settle_0 : decode b_V_settle 0 = .ok (.aload_n 0, 1) := by decide +kernel
theorem d_V_settle_1 : decode b_V_settle 1 = .ok (.getfield 26, 3) := by decide +kernel
theorem d_V_settle_4 : decode b_V_settle 4 = .ok (.iload_n 1, 1) := by decide +kernel
theorem d_V_settle_5 : decode b_V_settle 5 = .ok (.iaload, 1) := by decide +kernel
theorem d_V_settle_6 : decode b_V_settle 6 = .ok (.aload_n 0, 1) := by decide +kernel
theorem d_V_settle_7 : decode b_V_settle 7 = .ok (.getfield 29, 3) := by decide +kernel
theorem d_V_settle_10 : decode b_V_settle 10 = .ok (.iload_n 1, 1) := by decide +kernel
theorem d_V_settle_11 : decode b_V_settle 11 = .ok (.iaload, 1) := by decide +kernel
theorem d_V_settle_12 : decode b_V_settle 12 = .ok (.iconst (-1), 1) := by decide +kernel
theorem d_V_settle_13 : decode b_V_settle 13 = .ok (.ixor, 1) := by decide +kernel
theorem d_V_settle_14 : decode b_V_settle 14 = .ok (.iand, 1) := by decide +kernel
theorem d_V_settle_15 : decode b_V_settle 15 = .ok (.iload_n 2, 1) := by decide +kernel
theorem d_V_settle_16 : decode b_V_settle 16 = .ok (.invokestatic 49, 3) := by decide +kernel
theorem d_V_settle_19 : decode b_V_settle 19 = .ok (.istore 4, 2) := by decide +kernel
theorem d_V_settle_21 : decode b_V_settle 21 = .ok (.iload 4, 2) := by decide +kernel
theorem d_V_settle_23 : decode b_V_settle 23 = .ok (.ifCond .eq 21, 3) := by decide +kernel
theorem d_V_settle_26 : decode b_V_settle 26 = .ok (.aload_n 0, 1) := by decide +kernel
theorem d_V_settle_27 : decode b_V_settle 27 = .ok (.getfield 32, 3) := by decide +kernel
theorem d_V_settle_30 : decode b_V_settle 30 = .ok (.iload_n 2, 1) := by decide +kernel
theorem d_V_settle_31 : decode b_V_settle 31 = .ok (.aload_n 0, 1) := by decide +kernel
theorem d_V_settle_32 : decode b_V_settle 32 = .ok (.getfield 20, 3) := by decide +kernel
theorem d_V_settle_35 : decode b_V_settle 35 = .ok (.iload_n 1, 1) := by decide +kernel
theorem d_V_settle_36 : decode b_V_settle 36 = .ok (.aaload, 1) := by decide +kernel
theorem d_V_settle_37 : decode b_V_settle 37 = .ok (.iload_n 3, 1) := by decide +kernel
theorem d_V_settle_38 : decode b_V_settle 38 = .ok (.invokevirtual 93, 3) := by decide +kernel
theorem d_V_settle_41 : decode b_V_settle 41 = .ok (.ifCond .ne 5, 3) := by decide +kernel
theorem d_V_settle_44 : decode b_V_settle 44 = .ok (.iconst 0, 1) := by decide +kernel
theorem d_V_settle_45 : decode b_V_settle 45 = .ok (.ireturn, 1) := by decide +kernel
theorem d_V_settle_46 : decode b_V_settle 46 = .ok (.aload_n 0, 1) := by decide +kernel
theorem d_V_settle_47 : decode b_V_settle 47 = .ok (.getfield 29, 3) := by decide +kernel
theorem d_V_settle_50 : decode b_V_settle 50 = .ok (.iload_n 1, 1) := by decide +kernel
theorem d_V_settle_51 : decode b_V_settle 51 = .ok (.dup2, 1) := by decide +kernel
theorem d_V_settle_52 : decode b_V_settle 52 = .ok (.iaload, 1) := by decide +kernel
theorem d_V_settle_53 : decode b_V_settle 53 = .ok (.iload_n 2, 1) := by decide +kernel
theorem d_V_settle_54 : decode b_V_settle 54 = .ok (.invokestatic 57, 3) := by decide +kernel
theorem d_V_settle_57 : decode b_V_settle 57 = .ok (.ior, 1) := by decide +kernel
theorem d_V_settle_58 : decode b_V_settle 58 = .ok (.iastore, 1) := by decide +kernel
theorem d_V_settle_59 : decode b_V_settle 59 = .ok (.aload_n 0, 1) := by decide +kernel
theorem d_V_settle_60 : decode b_V_settle 60 = .ok (.getfield 23, 3) := by decide +kernel
theorem d_V_settle_63 : decode b_V_settle 63 = .ok (.iload_n 1, 1) := by decide +kernel
theorem d_V_settle_64 : decode b_V_settle 64 = .ok (.aaload, 1) := by decide +kernel
theorem d_V_settle_65 : decode b_V_settle 65 = .ok (.iload_n 2, 1) := by decide +kernel
theorem d_V_settle_66 : decode b_V_settle 66 = .ok (.iload_n 3, 1) := by decide +kernel
theorem d_V_settle_67 : decode b_V_settle 67 = .ok (.iastore, 1) := by decide +kernel
theorem d_V_settle_68 : decode b_V_settle 68 = .ok (.iconst 1, 1) := by decide +kernel
theorem d_V_settle_69 : decode b_V_settle 69 = .ok (.ireturn, 1) := by decide +kernel
theorem d_L_close_0 : decode b_L_close 0 = .ok (.aload_n 1, 1) := by decide +kernel
theorem d_L_close_1 : decode b_L_close 1 = .ok (.iconst 0, 1) := by decide +kernel
theorem d_L_close_2 : decode b_L_close 2 = .ok (.aload_n 0, 1) := by decide +kernel
theorem d_L_close_3 : decode b_L_close 3 = .ok (.invokevirtual 40, 3) := by decide +kernel
theorem d_L_close_6 : decode b_L_close 6 = .ok (.i2l, 1) := by decide +kernel
theorem d_L_close_7 : decode b_L_close 7 = .ok (.lastore, 1) := by decide +kernel
theorem d_L_close_8 : decode b_L_close 8 = .ok (.goto 6, 3) := by decide +kernel
theorem d_L_close_11 : decode b_L_close 11 = .ok (.astore_n 2, 1) := by decide +kernel
theorem d_L_close_12 : decode b_L_close 12 = .ok (.iconst 1, 1) := by decide +kernel
theorem d_L_close_13 : decode b_L_close 13 = .ok (.ireturn, 1) := by decide +kernel
theorem d_L_close_14 : decode b_L_close 14 = .ok (.iconst 0, 1) := by decide +kernel
theorem d_L_close_15 : decode b_L_close 15 = .ok (.ireturn, 1) := by decide +kernel
theorem d_K_close_0 : decode b_K_close 0 = .ok (.aload_n 0, 1) := by decide +kernel
theorem d_K_close_1 : decode b_K_close 1 = .ok (.invokevirtual 95, 3) := by decide +kernel
theorem d_K_close_4 : decode b_K_close 4 = .ok (.aload_n 0, 1) := by decide +kernel
theorem d_K_close_5 : decode b_K_close 5 = .ok (.getfield 28, 3) := by decide +kernel
theorem d_K_close_8 : decode b_K_close 8 = .ok (.invokevirtual 167, 3) := by decide +kernel
theorem d_K_close_11 : decode b_K_close 11 = .ok (.istore_n 1, 1) := by decide +kernel
theorem d_K_close_12 : decode b_K_close 12 = .ok (.iconst 1, 1) := by decide +kernel
theorem d_K_close_13 : decode b_K_close 13 = .ok (.istore_n 2, 1) := by decide +kernel
theorem d_K_close_14 : decode b_K_close 14 = .ok (.iload_n 2, 1) := by decide +kernel
theorem d_K_close_15 : decode b_K_close 15 = .ok (.bipush 7, 2) := by decide +kernel
theorem d_K_close_17 : decode b_K_close 17 = .ok (.if_icmp .gt 22, 3) := by decide +kernel
theorem d_K_close_20 : decode b_K_close 20 = .ok (.iload_n 1, 1) := by decide +kernel
theorem d_K_close_21 : decode b_K_close 21 = .ok (.iload_n 2, 1) := by decide +kernel
end
section
theorem d_K_close_22 : decode b_K_close 22 = .ok (.invokestatic 147, 3) := by decide +kernel
theorem d_K_close_25 : decode b_K_close 25 = .ok (.ifCond .eq 8, 3) := by decide +kernel
theorem d_K_close_28 : decode b_K_close 28 = .ok (.aload_n 0, 1) := by decide +kernel
theorem d_K_close_29 : decode b_K_close 29 = .ok (.iload_n 2, 1) := by decide +kernel
theorem d_K_close_30 : decode b_K_close 30 = .ok (.invokevirtual 170, 3) := by decide +kernel
theorem d_K_close_33 : decode b_K_close 33 = .ok (.iinc 2 1, 3) := by decide +kernel
theorem d_K_close_36 : decode b_K_close 36 = .ok (.goto (-22), 3) := by decide +kernel
theorem d_K_close_39 : decode b_K_close 39 = .ok (.aload_n 0, 1) := by decide +kernel
theorem d_K_close_40 : decode b_K_close 40 = .ok (.getfield 28, 3) := by decide +kernel
theorem d_K_close_43 : decode b_K_close 43 = .ok (.invokevirtual 60, 3) := by decide +kernel
theorem d_K_close_46 : decode b_K_close 46 = .ok (.aload_n 0, 1) := by decide +kernel
theorem d_K_close_47 : decode b_K_close 47 = .ok (.dup, 1) := by decide +kernel
theorem d_K_close_48 : decode b_K_close 48 = .ok (.getfield 42, 3) := by decide +kernel
theorem d_K_close_51 : decode b_K_close 51 = .ok (.iconst 1, 1) := by decide +kernel
theorem d_K_close_52 : decode b_K_close 52 = .ok (.iadd, 1) := by decide +kernel
theorem d_K_close_53 : decode b_K_close 53 = .ok (.putfield 42, 3) := by decide +kernel
theorem d_K_close_56 : decode b_K_close 56 = .ok (.iload_n 1, 1) := by decide +kernel
theorem d_K_close_57 : decode b_K_close 57 = .ok (.ireturn, 1) := by decide +kernel
theorem d_V_accepted_0 : decode b_V_accepted 0 = .ok (.iconst 0, 1) := by decide +kernel
theorem d_V_accepted_1 : decode b_V_accepted 1 = .ok (.istore_n 1, 1) := by decide +kernel
theorem d_V_accepted_2 : decode b_V_accepted 2 = .ok (.iconst 1, 1) := by decide +kernel
theorem d_V_accepted_3 : decode b_V_accepted 3 = .ok (.istore_n 2, 1) := by decide +kernel
theorem d_V_accepted_4 : decode b_V_accepted 4 = .ok (.iload_n 2, 1) := by decide +kernel
theorem d_V_accepted_5 : decode b_V_accepted 5 = .ok (.bipush 7, 2) := by decide +kernel
theorem d_V_accepted_7 : decode b_V_accepted 7 = .ok (.if_icmp .gt 54, 3) := by decide +kernel
theorem d_V_accepted_10 : decode b_V_accepted 10 = .ok (.aload_n 0, 1) := by decide +kernel
theorem d_V_accepted_11 : decode b_V_accepted 11 = .ok (.getfield 46, 3) := by decide +kernel
theorem d_V_accepted_14 : decode b_V_accepted 14 = .ok (.iload_n 2, 1) := by decide +kernel
theorem d_V_accepted_15 : decode b_V_accepted 15 = .ok (.invokestatic 49, 3) := by decide +kernel
theorem d_V_accepted_18 : decode b_V_accepted 18 = .ok (.ifCond .eq 37, 3) := by decide +kernel
theorem d_V_accepted_21 : decode b_V_accepted 21 = .ok (.aload_n 0, 1) := by decide +kernel
theorem d_V_accepted_22 : decode b_V_accepted 22 = .ok (.getfield 20, 3) := by decide +kernel
theorem d_V_accepted_25 : decode b_V_accepted 25 = .ok (.iload_n 2, 1) := by decide +kernel
theorem d_V_accepted_26 : decode b_V_accepted 26 = .ok (.aaload, 1) := by decide +kernel
theorem d_V_accepted_27 : decode b_V_accepted 27 = .ok (.iconst 0, 1) := by decide +kernel
theorem d_V_accepted_28 : decode b_V_accepted 28 = .ok (.iaload, 1) := by decide +kernel
theorem d_V_accepted_29 : decode b_V_accepted 29 = .ok (.iconst 1, 1) := by decide +kernel
theorem d_V_accepted_30 : decode b_V_accepted 30 = .ok (.if_icmp .ne 25, 3) := by decide +kernel
theorem d_V_accepted_33 : decode b_V_accepted 33 = .ok (.aload_n 0, 1) := by decide +kernel
theorem d_V_accepted_34 : decode b_V_accepted 34 = .ok (.getfield 26, 3) := by decide +kernel
theorem d_V_accepted_37 : decode b_V_accepted 37 = .ok (.iload_n 2, 1) := by decide +kernel
theorem d_V_accepted_38 : decode b_V_accepted 38 = .ok (.iaload, 1) := by decide +kernel
theorem d_V_accepted_39 : decode b_V_accepted 39 = .ok (.aload_n 0, 1) := by decide +kernel
theorem d_V_accepted_40 : decode b_V_accepted 40 = .ok (.getfield 29, 3) := by decide +kernel
theorem d_V_accepted_43 : decode b_V_accepted 43 = .ok (.iload_n 2, 1) := by decide +kernel
theorem d_V_accepted_44 : decode b_V_accepted 44 = .ok (.iaload, 1) := by decide +kernel
theorem d_V_accepted_45 : decode b_V_accepted 45 = .ok (.if_icmp .ne 10, 3) := by decide +kernel
theorem d_V_accepted_48 : decode b_V_accepted 48 = .ok (.iload_n 1, 1) := by decide +kernel
theorem d_V_accepted_49 : decode b_V_accepted 49 = .ok (.iload_n 2, 1) := by decide +kernel
theorem d_V_accepted_50 : decode b_V_accepted 50 = .ok (.invokestatic 57, 3) := by decide +kernel
theorem d_V_accepted_53 : decode b_V_accepted 53 = .ok (.ior, 1) := by decide +kernel
theorem d_V_accepted_54 : decode b_V_accepted 54 = .ok (.istore_n 1, 1) := by decide +kernel
theorem d_V_accepted_55 : decode b_V_accepted 55 = .ok (.iinc 2 1, 3) := by decide +kernel
theorem d_V_accepted_58 : decode b_V_accepted 58 = .ok (.goto (-54), 3) := by decide +kernel
theorem d_V_accepted_61 : decode b_V_accepted 61 = .ok (.iload_n 1, 1) := by decide +kernel
theorem d_V_accepted_62 : decode b_V_accepted 62 = .ok (.ireturn, 1) := by decide +kernel
theorem d_K_takeOver_0 : decode b_K_takeOver 0 = .ok (.iconst 1, 1) := by decide +kernel
theorem d_K_takeOver_1 : decode b_K_takeOver 1 = .ok (.istore_n 2, 1) := by decide +kernel
theorem d_K_takeOver_2 : decode b_K_takeOver 2 = .ok (.iload_n 2, 1) := by decide +kernel
theorem d_K_takeOver_3 : decode b_K_takeOver 3 = .ok (.bipush 7, 2) := by decide +kernel
theorem d_K_takeOver_5 : decode b_K_takeOver 5 = .ok (.if_icmp .gt 45, 3) := by decide +kernel
theorem d_K_takeOver_8 : decode b_K_takeOver 8 = .ok (.aload_n 0, 1) := by decide +kernel
theorem d_K_takeOver_9 : decode b_K_takeOver 9 = .ok (.iload_n 2, 1) := by decide +kernel
theorem d_K_takeOver_10 : decode b_K_takeOver 10 = .ok (.invokevirtual 173, 3) := by decide +kernel
theorem d_K_takeOver_13 : decode b_K_takeOver 13 = .ok (.ifCond .ne 31, 3) := by decide +kernel
theorem d_K_takeOver_16 : decode b_K_takeOver 16 = .ok (.aload_n 0, 1) := by decide +kernel
theorem d_K_takeOver_17 : decode b_K_takeOver 17 = .ok (.getfield 32, 3) := by decide +kernel
theorem d_K_takeOver_20 : decode b_K_takeOver 20 = .ok (.iload_n 2, 1) := by decide +kernel
theorem d_K_takeOver_21 : decode b_K_takeOver 21 = .ok (.aload_n 0, 1) := by decide +kernel
theorem d_K_takeOver_22 : decode b_K_takeOver 22 = .ok (.getfield 12, 3) := by decide +kernel
theorem d_K_takeOver_25 : decode b_K_takeOver 25 = .ok (.aload_n 0, 1) := by decide +kernel
theorem d_K_takeOver_26 : decode b_K_takeOver 26 = .ok (.getfield 32, 3) := by decide +kernel
theorem d_K_takeOver_29 : decode b_K_takeOver 29 = .ok (.iload_n 2, 1) := by decide +kernel
theorem d_K_takeOver_30 : decode b_K_takeOver 30 = .ok (.iaload, 1) := by decide +kernel
theorem d_K_takeOver_31 : decode b_K_takeOver 31 = .ok (.aload_n 0, 1) := by decide +kernel
theorem d_K_takeOver_32 : decode b_K_takeOver 32 = .ok (.getfield 28, 3) := by decide +kernel
theorem d_K_takeOver_35 : decode b_K_takeOver 35 = .ok (.iload_n 1, 1) := by decide +kernel
theorem d_K_takeOver_36 : decode b_K_takeOver 36 = .ok (.iload_n 2, 1) := by decide +kernel
theorem d_K_takeOver_37 : decode b_K_takeOver 37 = .ok (.invokevirtual 216, 3) := by decide +kernel
theorem d_K_takeOver_40 : decode b_K_takeOver 40 = .ok (.invokevirtual 219, 3) := by decide +kernel
theorem d_K_takeOver_43 : decode b_K_takeOver 43 = .ok (.iastore, 1) := by decide +kernel
theorem d_K_takeOver_44 : decode b_K_takeOver 44 = .ok (.iinc 2 1, 3) := by decide +kernel
theorem d_K_takeOver_47 : decode b_K_takeOver 47 = .ok (.goto (-45), 3) := by decide +kernel
theorem d_K_takeOver_50 : decode b_K_takeOver 50 = .ok (.aload_n 0, 1) := by decide +kernel
theorem d_K_takeOver_51 : decode b_K_takeOver 51 = .ok (.getfield 28, 3) := by decide +kernel
theorem d_K_takeOver_54 : decode b_K_takeOver 54 = .ok (.iload_n 1, 1) := by decide +kernel
theorem d_K_takeOver_55 : decode b_K_takeOver 55 = .ok (.invokevirtual 130, 3) := by decide +kernel
theorem d_K_takeOver_58 : decode b_K_takeOver 58 = .ok (.astore_n 2, 1) := by decide +kernel
theorem d_K_takeOver_59 : decode b_K_takeOver 59 = .ok (.iconst 0, 1) := by decide +kernel
theorem d_K_takeOver_60 : decode b_K_takeOver 60 = .ok (.istore_n 3, 1) := by decide +kernel
theorem d_K_takeOver_61 : decode b_K_takeOver 61 = .ok (.iload_n 3, 1) := by decide +kernel
theorem d_K_takeOver_62 : decode b_K_takeOver 62 = .ok (.iconst 4, 1) := by decide +kernel
theorem d_K_takeOver_63 : decode b_K_takeOver 63 = .ok (.if_icmp .ge 31, 3) := by decide +kernel
theorem d_K_takeOver_66 : decode b_K_takeOver 66 = .ok (.aload_n 0, 1) := by decide +kernel
theorem d_K_takeOver_67 : decode b_K_takeOver 67 = .ok (.getfield 36, 3) := by decide +kernel
theorem d_K_takeOver_70 : decode b_K_takeOver 70 = .ok (.iload_n 3, 1) := by decide +kernel
theorem d_K_takeOver_71 : decode b_K_takeOver 71 = .ok (.aload_n 0, 1) := by decide +kernel
theorem d_K_takeOver_72 : decode b_K_takeOver 72 = .ok (.getfield 12, 3) := by decide +kernel
theorem d_K_takeOver_75 : decode b_K_takeOver 75 = .ok (.aload_n 0, 1) := by decide +kernel
theorem d_K_takeOver_76 : decode b_K_takeOver 76 = .ok (.getfield 36, 3) := by decide +kernel
theorem d_K_takeOver_79 : decode b_K_takeOver 79 = .ok (.iload_n 3, 1) := by decide +kernel
theorem d_K_takeOver_80 : decode b_K_takeOver 80 = .ok (.iaload, 1) := by decide +kernel
theorem d_K_takeOver_81 : decode b_K_takeOver 81 = .ok (.aload_n 2, 1) := by decide +kernel
theorem d_K_takeOver_82 : decode b_K_takeOver 82 = .ok (.iload_n 3, 1) := by decide +kernel
theorem d_K_takeOver_83 : decode b_K_takeOver 83 = .ok (.iaload, 1) := by decide +kernel
theorem d_K_takeOver_84 : decode b_K_takeOver 84 = .ok (.invokevirtual 222, 3) := by decide +kernel
theorem d_K_takeOver_87 : decode b_K_takeOver 87 = .ok (.iastore, 1) := by decide +kernel
theorem d_K_takeOver_88 : decode b_K_takeOver 88 = .ok (.iinc 3 1, 3) := by decide +kernel
theorem d_K_takeOver_91 : decode b_K_takeOver 91 = .ok (.goto (-30), 3) := by decide +kernel
theorem d_K_takeOver_94 : decode b_K_takeOver 94 = .ok (.return_, 1) := by decide +kernel
theorem d_K_isWiped_0 : decode b_K_isWiped 0 = .ok (.aload_n 0, 1) := by decide +kernel
theorem d_K_isWiped_1 : decode b_K_isWiped 1 = .ok (.getfield 32, 3) := by decide +kernel
theorem d_K_isWiped_4 : decode b_K_isWiped 4 = .ok (.iload_n 1, 1) := by decide +kernel
theorem d_K_isWiped_5 : decode b_K_isWiped 5 = .ok (.iaload, 1) := by decide +kernel
theorem d_K_isWiped_6 : decode b_K_isWiped 6 = .ok (.iconst (-1), 1) := by decide +kernel
theorem d_K_isWiped_7 : decode b_K_isWiped 7 = .ok (.if_icmp .ne 7, 3) := by decide +kernel
theorem d_K_isWiped_10 : decode b_K_isWiped 10 = .ok (.iconst 1, 1) := by decide +kernel
theorem d_K_isWiped_11 : decode b_K_isWiped 11 = .ok (.goto 4, 3) := by decide +kernel
theorem d_K_isWiped_14 : decode b_K_isWiped 14 = .ok (.iconst 0, 1) := by decide +kernel
theorem d_K_isWiped_15 : decode b_K_isWiped 15 = .ok (.ireturn, 1) := by decide +kernel
theorem d_V_hadFrom_0 : decode b_V_hadFrom 0 = .ok (.aload_n 0, 1) := by decide +kernel
theorem d_V_hadFrom_1 : decode b_V_hadFrom 1 = .ok (.getfield 23, 3) := by decide +kernel
theorem d_V_hadFrom_4 : decode b_V_hadFrom 4 = .ok (.iload_n 1, 1) := by decide +kernel
theorem d_V_hadFrom_5 : decode b_V_hadFrom 5 = .ok (.aaload, 1) := by decide +kernel
theorem d_V_hadFrom_6 : decode b_V_hadFrom 6 = .ok (.iload_n 2, 1) := by decide +kernel
theorem d_V_hadFrom_7 : decode b_V_hadFrom 7 = .ok (.iaload, 1) := by decide +kernel
theorem d_V_hadFrom_8 : decode b_V_hadFrom 8 = .ok (.ireturn, 1) := by decide +kernel
theorem d_L_wipe_0 : decode b_L_wipe 0 = .ok (.aload_n 0, 1) := by decide +kernel
theorem d_L_wipe_1 : decode b_L_wipe 1 = .ok (.iload_n 1, 1) := by decide +kernel
theorem d_L_wipe_2 : decode b_L_wipe 2 = .ok (.invokevirtual 44, 3) := by decide +kernel
theorem d_L_wipe_5 : decode b_L_wipe 5 = .ok (.goto 12, 3) := by decide +kernel
theorem d_L_wipe_8 : decode b_L_wipe 8 = .ok (.astore_n 2, 1) := by decide +kernel
theorem d_L_wipe_9 : decode b_L_wipe 9 = .ok (.iconst 1, 1) := by decide +kernel
theorem d_L_wipe_10 : decode b_L_wipe 10 = .ok (.ireturn, 1) := by decide +kernel
theorem d_L_wipe_11 : decode b_L_wipe 11 = .ok (.astore_n 2, 1) := by decide +kernel
theorem d_L_wipe_12 : decode b_L_wipe 12 = .ok (.iconst 2, 1) := by decide +kernel
theorem d_L_wipe_13 : decode b_L_wipe 13 = .ok (.ireturn, 1) := by decide +kernel
theorem d_L_wipe_14 : decode b_L_wipe 14 = .ok (.astore_n 2, 1) := by decide +kernel
theorem d_L_wipe_15 : decode b_L_wipe 15 = .ok (.iconst 3, 1) := by decide +kernel
theorem d_L_wipe_16 : decode b_L_wipe 16 = .ok (.ireturn, 1) := by decide +kernel
theorem d_L_wipe_17 : decode b_L_wipe 17 = .ok (.iconst 0, 1) := by decide +kernel
theorem d_L_wipe_18 : decode b_L_wipe 18 = .ok (.ireturn, 1) := by decide +kernel
theorem d_K_wipe_0 : decode b_K_wipe 0 = .ok (.aload_n 0, 1) := by decide +kernel
theorem d_K_wipe_1 : decode b_K_wipe 1 = .ok (.invokevirtual 95, 3) := by decide +kernel
theorem d_K_wipe_4 : decode b_K_wipe 4 = .ok (.iload_n 1, 1) := by decide +kernel
theorem d_K_wipe_5 : decode b_K_wipe 5 = .ok (.invokestatic 98, 3) := by decide +kernel
theorem d_K_wipe_8 : decode b_K_wipe 8 = .ok (.aload_n 0, 1) := by decide +kernel
theorem d_K_wipe_9 : decode b_K_wipe 9 = .ok (.iload_n 1, 1) := by decide +kernel
theorem d_K_wipe_10 : decode b_K_wipe 10 = .ok (.invokevirtual 173, 3) := by decide +kernel
theorem d_K_wipe_13 : decode b_K_wipe 13 = .ok (.ifCond .eq 11, 3) := by decide +kernel
theorem d_K_wipe_16 : decode b_K_wipe 16 = .ok (.new 109, 3) := by decide +kernel
theorem d_K_wipe_19 : decode b_K_wipe 19 = .ok (.dup, 1) := by decide +kernel
theorem d_K_wipe_20 : decode b_K_wipe 20 = .ok (.invokespecial 111, 3) := by decide +kernel
theorem d_K_wipe_23 : decode b_K_wipe 23 = .ok (.athrow, 1) := by decide +kernel
theorem d_K_wipe_24 : decode b_K_wipe 24 = .ok (.aload_n 0, 1) := by decide +kernel
theorem d_K_wipe_25 : decode b_K_wipe 25 = .ok (.getfield 32, 3) := by decide +kernel
theorem d_K_wipe_28 : decode b_K_wipe 28 = .ok (.iload_n 1, 1) := by decide +kernel
theorem d_K_wipe_29 : decode b_K_wipe 29 = .ok (.iconst (-1), 1) := by decide +kernel
theorem d_K_wipe_30 : decode b_K_wipe 30 = .ok (.iastore, 1) := by decide +kernel
theorem d_K_wipe_31 : decode b_K_wipe 31 = .ok (.return_, 1) := by decide +kernel
theorem d_L_recover_0 : decode b_L_recover 0 = .ok (.aload_n 2, 1) := by decide +kernel
theorem d_L_recover_1 : decode b_L_recover 1 = .ok (.iconst 0, 1) := by decide +kernel
theorem d_L_recover_2 : decode b_L_recover 2 = .ok (.aload_n 0, 1) := by decide +kernel
theorem d_L_recover_3 : decode b_L_recover 3 = .ok (.iload_n 1, 1) := by decide +kernel
theorem d_L_recover_4 : decode b_L_recover 4 = .ok (.invokevirtual 48, 3) := by decide +kernel
theorem d_L_recover_7 : decode b_L_recover 7 = .ok (.i2l, 1) := by decide +kernel
theorem d_L_recover_8 : decode b_L_recover 8 = .ok (.lastore, 1) := by decide +kernel
theorem d_L_recover_9 : decode b_L_recover 9 = .ok (.goto 12, 3) := by decide +kernel
theorem d_L_recover_12 : decode b_L_recover 12 = .ok (.astore_n 3, 1) := by decide +kernel
theorem d_L_recover_13 : decode b_L_recover 13 = .ok (.iconst 1, 1) := by decide +kernel
theorem d_L_recover_14 : decode b_L_recover 14 = .ok (.ireturn, 1) := by decide +kernel
theorem d_L_recover_15 : decode b_L_recover 15 = .ok (.astore_n 3, 1) := by decide +kernel
theorem d_L_recover_16 : decode b_L_recover 16 = .ok (.iconst 2, 1) := by decide +kernel
theorem d_L_recover_17 : decode b_L_recover 17 = .ok (.ireturn, 1) := by decide +kernel
theorem d_L_recover_18 : decode b_L_recover 18 = .ok (.astore_n 3, 1) := by decide +kernel
theorem d_L_recover_19 : decode b_L_recover 19 = .ok (.iconst 3, 1) := by decide +kernel
theorem d_L_recover_20 : decode b_L_recover 20 = .ok (.ireturn, 1) := by decide +kernel
theorem d_L_recover_21 : decode b_L_recover 21 = .ok (.iconst 0, 1) := by decide +kernel
theorem d_L_recover_22 : decode b_L_recover 22 = .ok (.ireturn, 1) := by decide +kernel
theorem d_K_recover_0 : decode b_K_recover 0 = .ok (.aload_n 0, 1) := by decide +kernel
theorem d_K_recover_1 : decode b_K_recover 1 = .ok (.invokevirtual 95, 3) := by decide +kernel
theorem d_K_recover_4 : decode b_K_recover 4 = .ok (.iload_n 1, 1) := by decide +kernel
theorem d_K_recover_5 : decode b_K_recover 5 = .ok (.invokestatic 98, 3) := by decide +kernel
theorem d_K_recover_8 : decode b_K_recover 8 = .ok (.aload_n 0, 1) := by decide +kernel
theorem d_K_recover_9 : decode b_K_recover 9 = .ok (.iload_n 1, 1) := by decide +kernel
theorem d_K_recover_10 : decode b_K_recover 10 = .ok (.invokevirtual 173, 3) := by decide +kernel
theorem d_K_recover_13 : decode b_K_recover 13 = .ok (.ifCond .ne 11, 3) := by decide +kernel
theorem d_K_recover_16 : decode b_K_recover 16 = .ok (.new 109, 3) := by decide +kernel
theorem d_K_recover_19 : decode b_K_recover 19 = .ok (.dup, 1) := by decide +kernel
theorem d_K_recover_20 : decode b_K_recover 20 = .ok (.invokespecial 111, 3) := by decide +kernel
theorem d_K_recover_23 : decode b_K_recover 23 = .ok (.athrow, 1) := by decide +kernel
theorem d_K_recover_24 : decode b_K_recover 24 = .ok (.aload_n 0, 1) := by decide +kernel
theorem d_K_recover_25 : decode b_K_recover 25 = .ok (.invokevirtual 176, 3) := by decide +kernel
theorem d_K_recover_28 : decode b_K_recover 28 = .ok (.istore_n 2, 1) := by decide +kernel
theorem d_K_recover_29 : decode b_K_recover 29 = .ok (.iload_n 2, 1) := by decide +kernel
theorem d_K_recover_30 : decode b_K_recover 30 = .ok (.invokestatic 142, 3) := by decide +kernel
theorem d_K_recover_33 : decode b_K_recover 33 = .ok (.iconst 4, 1) := by decide +kernel
theorem d_K_recover_34 : decode b_K_recover 34 = .ok (.if_icmp .ge 11, 3) := by decide +kernel
theorem d_K_recover_37 : decode b_K_recover 37 = .ok (.new 109, 3) := by decide +kernel
theorem d_K_recover_40 : decode b_K_recover 40 = .ok (.dup, 1) := by decide +kernel
theorem d_K_recover_41 : decode b_K_recover 41 = .ok (.invokespecial 111, 3) := by decide +kernel
theorem d_K_recover_44 : decode b_K_recover 44 = .ok (.athrow, 1) := by decide +kernel
theorem d_K_recover_45 : decode b_K_recover 45 = .ok (.iload_n 2, 1) := by decide +kernel
theorem d_K_recover_46 : decode b_K_recover 46 = .ok (.invokestatic 179, 3) := by decide +kernel
theorem d_K_recover_49 : decode b_K_recover 49 = .ok (.istore_n 3, 1) := by decide +kernel
theorem d_K_recover_50 : decode b_K_recover 50 = .ok (.aload_n 0, 1) := by decide +kernel
theorem d_K_recover_51 : decode b_K_recover 51 = .ok (.getfield 32, 3) := by decide +kernel
theorem d_K_recover_54 : decode b_K_recover 54 = .ok (.iload_n 1, 1) := by decide +kernel
theorem d_K_recover_55 : decode b_K_recover 55 = .ok (.aload_n 0, 1) := by decide +kernel
theorem d_K_recover_56 : decode b_K_recover 56 = .ok (.getfield 12, 3) := by decide +kernel
theorem d_K_recover_59 : decode b_K_recover 59 = .ok (.iload_n 1, 1) := by decide +kernel
theorem d_K_recover_60 : decode b_K_recover 60 = .ok (.iload_n 3, 1) := by decide +kernel
theorem d_K_recover_61 : decode b_K_recover 61 = .ok (.aload_n 0, 1) := by decide +kernel
theorem d_K_recover_62 : decode b_K_recover 62 = .ok (.getfield 32, 3) := by decide +kernel
theorem d_K_recover_65 : decode b_K_recover 65 = .ok (.invokevirtual 182, 3) := by decide +kernel
theorem d_K_recover_68 : decode b_K_recover 68 = .ok (.iastore, 1) := by decide +kernel
theorem d_K_recover_69 : decode b_K_recover 69 = .ok (.iload_n 3, 1) := by decide +kernel
theorem d_K_recover_70 : decode b_K_recover 70 = .ok (.ireturn, 1) := by decide +kernel
theorem d_K_sound_0 : decode b_K_sound 0 = .ok (.iconst 0, 1) := by decide +kernel
theorem d_K_sound_1 : decode b_K_sound 1 = .ok (.istore_n 1, 1) := by decide +kernel
theorem d_K_sound_2 : decode b_K_sound 2 = .ok (.iconst 1, 1) := by decide +kernel
theorem d_K_sound_3 : decode b_K_sound 3 = .ok (.istore_n 2, 1) := by decide +kernel
theorem d_K_sound_4 : decode b_K_sound 4 = .ok (.iload_n 2, 1) := by decide +kernel
theorem d_K_sound_5 : decode b_K_sound 5 = .ok (.bipush 7, 2) := by decide +kernel
theorem d_K_sound_7 : decode b_K_sound 7 = .ok (.if_icmp .gt 24, 3) := by decide +kernel
theorem d_K_sound_10 : decode b_K_sound 10 = .ok (.aload_n 0, 1) := by decide +kernel
theorem d_K_sound_11 : decode b_K_sound 11 = .ok (.iload_n 2, 1) := by decide +kernel
theorem d_K_sound_12 : decode b_K_sound 12 = .ok (.invokevirtual 186, 3) := by decide +kernel
theorem d_K_sound_15 : decode b_K_sound 15 = .ok (.ifCond .eq 10, 3) := by decide +kernel
theorem d_K_sound_18 : decode b_K_sound 18 = .ok (.iload_n 1, 1) := by decide +kernel
theorem d_K_sound_19 : decode b_K_sound 19 = .ok (.iload_n 2, 1) := by decide +kernel
theorem d_K_sound_20 : decode b_K_sound 20 = .ok (.invokestatic 229, 3) := by decide +kernel
theorem d_K_sound_23 : decode b_K_sound 23 = .ok (.ior, 1) := by decide +kernel
theorem d_K_sound_24 : decode b_K_sound 24 = .ok (.istore_n 1, 1) := by decide +kernel
theorem d_K_sound_25 : decode b_K_sound 25 = .ok (.iinc 2 1, 3) := by decide +kernel
theorem d_K_sound_28 : decode b_K_sound 28 = .ok (.goto (-24), 3) := by decide +kernel
theorem d_K_sound_31 : decode b_K_sound 31 = .ok (.iload_n 1, 1) := by decide +kernel
theorem d_K_sound_32 : decode b_K_sound 32 = .ok (.ireturn, 1) := by decide +kernel
theorem d_K_isSound_0 : decode b_K_isSound 0 = .ok (.aload_n 0, 1) := by decide +kernel
theorem d_K_isSound_1 : decode b_K_isSound 1 = .ok (.iload_n 1, 1) := by decide +kernel
theorem d_K_isSound_2 : decode b_K_isSound 2 = .ok (.invokevirtual 173, 3) := by decide +kernel
theorem d_K_isSound_5 : decode b_K_isSound 5 = .ok (.ifCond .ne 28, 3) := by decide +kernel
theorem d_K_isSound_8 : decode b_K_isSound 8 = .ok (.aload_n 0, 1) := by decide +kernel
theorem d_K_isSound_9 : decode b_K_isSound 9 = .ok (.getfield 12, 3) := by decide +kernel
theorem d_K_isSound_12 : decode b_K_isSound 12 = .ok (.iload_n 1, 1) := by decide +kernel
theorem d_K_isSound_13 : decode b_K_isSound 13 = .ok (.aload_n 0, 1) := by decide +kernel
theorem d_K_isSound_14 : decode b_K_isSound 14 = .ok (.getfield 36, 3) := by decide +kernel
theorem d_K_isSound_17 : decode b_K_isSound 17 = .ok (.aload_n 0, 1) := by decide +kernel
theorem d_K_isSound_18 : decode b_K_isSound 18 = .ok (.getfield 32, 3) := by decide +kernel
theorem d_K_isSound_21 : decode b_K_isSound 21 = .ok (.iload_n 1, 1) := by decide +kernel
theorem d_K_isSound_22 : decode b_K_isSound 22 = .ok (.iaload, 1) := by decide +kernel
theorem d_K_isSound_23 : decode b_K_isSound 23 = .ok (.invokevirtual 225, 3) := by decide +kernel
theorem d_K_isSound_26 : decode b_K_isSound 26 = .ok (.ifCond .eq 7, 3) := by decide +kernel
theorem d_K_isSound_29 : decode b_K_isSound 29 = .ok (.iconst 1, 1) := by decide +kernel
theorem d_K_isSound_30 : decode b_K_isSound 30 = .ok (.goto 4, 3) := by decide +kernel
theorem d_K_isSound_33 : decode b_K_isSound 33 = .ok (.iconst 0, 1) := by decide +kernel
theorem d_K_isSound_34 : decode b_K_isSound 34 = .ok (.ireturn, 1) := by decide +kernel
theorem d_K_leastFour_0 : decode b_K_leastFour 0 = .ok (.iconst 0, 1) := by decide +kernel
theorem d_K_leastFour_1 : decode b_K_leastFour 1 = .ok (.istore_n 1, 1) := by decide +kernel
theorem d_K_leastFour_2 : decode b_K_leastFour 2 = .ok (.iconst 1, 1) := by decide +kernel
theorem d_K_leastFour_3 : decode b_K_leastFour 3 = .ok (.istore_n 2, 1) := by decide +kernel
theorem d_K_leastFour_4 : decode b_K_leastFour 4 = .ok (.iload_n 2, 1) := by decide +kernel
theorem d_K_leastFour_5 : decode b_K_leastFour 5 = .ok (.bipush 7, 2) := by decide +kernel
theorem d_K_leastFour_7 : decode b_K_leastFour 7 = .ok (.if_icmp .gt 32, 3) := by decide +kernel
theorem d_K_leastFour_10 : decode b_K_leastFour 10 = .ok (.iload_n 0, 1) := by decide +kernel
theorem d_K_leastFour_11 : decode b_K_leastFour 11 = .ok (.iload_n 2, 1) := by decide +kernel
theorem d_K_leastFour_12 : decode b_K_leastFour 12 = .ok (.invokestatic 147, 3) := by decide +kernel
theorem d_K_leastFour_15 : decode b_K_leastFour 15 = .ok (.ifCond .eq 18, 3) := by decide +kernel
theorem d_K_leastFour_18 : decode b_K_leastFour 18 = .ok (.iload_n 1, 1) := by decide +kernel
theorem d_K_leastFour_19 : decode b_K_leastFour 19 = .ok (.invokestatic 142, 3) := by decide +kernel
theorem d_K_leastFour_22 : decode b_K_leastFour 22 = .ok (.iconst 4, 1) := by decide +kernel
theorem d_K_leastFour_23 : decode b_K_leastFour 23 = .ok (.if_icmp .ge 10, 3) := by decide +kernel
theorem d_K_leastFour_26 : decode b_K_leastFour 26 = .ok (.iload_n 1, 1) := by decide +kernel
theorem d_K_leastFour_27 : decode b_K_leastFour 27 = .ok (.iload_n 2, 1) := by decide +kernel
theorem d_K_leastFour_28 : decode b_K_leastFour 28 = .ok (.invokestatic 229, 3) := by decide +kernel
theorem d_K_leastFour_31 : decode b_K_leastFour 31 = .ok (.ior, 1) := by decide +kernel
theorem d_K_leastFour_32 : decode b_K_leastFour 32 = .ok (.istore_n 1, 1) := by decide +kernel
theorem d_K_leastFour_33 : decode b_K_leastFour 33 = .ok (.iinc 2 1, 3) := by decide +kernel
theorem d_K_leastFour_36 : decode b_K_leastFour 36 = .ok (.goto (-32), 3) := by decide +kernel
theorem d_K_leastFour_39 : decode b_K_leastFour 39 = .ok (.iload_n 1, 1) := by decide +kernel
theorem d_K_leastFour_40 : decode b_K_leastFour 40 = .ok (.ireturn, 1) := by decide +kernel
theorem d_G_interpolate_0 : decode b_G_interpolate 0 = .ok (.iconst 0, 1) := by decide +kernel
theorem d_G_interpolate_1 : decode b_G_interpolate 1 = .ok (.istore 4, 2) := by decide +kernel
theorem d_G_interpolate_3 : decode b_G_interpolate 3 = .ok (.iconst 1, 1) := by decide +kernel
theorem d_G_interpolate_4 : decode b_G_interpolate 4 = .ok (.istore 5, 2) := by decide +kernel
theorem d_G_interpolate_6 : decode b_G_interpolate 6 = .ok (.iload 5, 2) := by decide +kernel
theorem d_G_interpolate_8 : decode b_G_interpolate 8 = .ok (.bipush 7, 2) := by decide +kernel
theorem d_G_interpolate_10 : decode b_G_interpolate 10 = .ok (.if_icmp .gt 42, 3) := by decide +kernel
theorem d_G_interpolate_13 : decode b_G_interpolate 13 = .ok (.iload_n 2, 1) := by decide +kernel
theorem d_G_interpolate_14 : decode b_G_interpolate 14 = .ok (.iload 5, 2) := by decide +kernel
theorem d_G_interpolate_16 : decode b_G_interpolate 16 = .ok (.invokestatic 46, 3) := by decide +kernel
theorem d_G_interpolate_19 : decode b_G_interpolate 19 = .ok (.ifCond .eq 27, 3) := by decide +kernel
theorem d_G_interpolate_22 : decode b_G_interpolate 22 = .ok (.aload_n 0, 1) := by decide +kernel
theorem d_G_interpolate_23 : decode b_G_interpolate 23 = .ok (.iload 4, 2) := by decide +kernel
theorem d_G_interpolate_25 : decode b_G_interpolate 25 = .ok (.aload_n 0, 1) := by decide +kernel
theorem d_G_interpolate_26 : decode b_G_interpolate 26 = .ok (.aload_n 3, 1) := by decide +kernel
theorem d_G_interpolate_27 : decode b_G_interpolate 27 = .ok (.iload 5, 2) := by decide +kernel
theorem d_G_interpolate_29 : decode b_G_interpolate 29 = .ok (.iaload, 1) := by decide +kernel
theorem d_G_interpolate_30 : decode b_G_interpolate 30 = .ok (.aload_n 0, 1) := by decide +kernel
theorem d_G_interpolate_31 : decode b_G_interpolate 31 = .ok (.iload_n 1, 1) := by decide +kernel
theorem d_G_interpolate_32 : decode b_G_interpolate 32 = .ok (.iload_n 2, 1) := by decide +kernel
theorem d_G_interpolate_33 : decode b_G_interpolate 33 = .ok (.iload 5, 2) := by decide +kernel
theorem d_G_interpolate_35 : decode b_G_interpolate 35 = .ok (.invokevirtual 50, 3) := by decide +kernel
theorem d_G_interpolate_38 : decode b_G_interpolate 38 = .ok (.invokevirtual 32, 3) := by decide +kernel
theorem d_G_interpolate_41 : decode b_G_interpolate 41 = .ok (.invokevirtual 36, 3) := by decide +kernel
theorem d_G_interpolate_44 : decode b_G_interpolate 44 = .ok (.istore 4, 2) := by decide +kernel
theorem d_G_interpolate_46 : decode b_G_interpolate 46 = .ok (.iinc 5 1, 3) := by decide +kernel
theorem d_G_interpolate_49 : decode b_G_interpolate 49 = .ok (.goto (-43), 3) := by decide +kernel
theorem d_G_interpolate_52 : decode b_G_interpolate 52 = .ok (.iload 4, 2) := by decide +kernel
theorem d_G_interpolate_54 : decode b_G_interpolate 54 = .ok (.ireturn, 1) := by decide +kernel
theorem d_G_weight_0 : decode b_G_weight 0 = .ok (.iconst 1, 1) := by decide +kernel
theorem d_G_weight_1 : decode b_G_weight 1 = .ok (.istore 4, 2) := by decide +kernel
theorem d_G_weight_3 : decode b_G_weight 3 = .ok (.iconst 1, 1) := by decide +kernel
theorem d_G_weight_4 : decode b_G_weight 4 = .ok (.istore 5, 2) := by decide +kernel
theorem d_G_weight_6 : decode b_G_weight 6 = .ok (.iconst 1, 1) := by decide +kernel
theorem d_G_weight_7 : decode b_G_weight 7 = .ok (.istore 6, 2) := by decide +kernel
theorem d_G_weight_9 : decode b_G_weight 9 = .ok (.iload 6, 2) := by decide +kernel
theorem d_G_weight_11 : decode b_G_weight 11 = .ok (.bipush 7, 2) := by decide +kernel
theorem d_G_weight_13 : decode b_G_weight 13 = .ok (.if_icmp .gt 62, 3) := by decide +kernel
theorem d_G_weight_16 : decode b_G_weight 16 = .ok (.iload 6, 2) := by decide +kernel
theorem d_G_weight_18 : decode b_G_weight 18 = .ok (.iload_n 3, 1) := by decide +kernel
theorem d_G_weight_19 : decode b_G_weight 19 = .ok (.if_icmp .eq 50, 3) := by decide +kernel
theorem d_G_weight_22 : decode b_G_weight 22 = .ok (.iload_n 2, 1) := by decide +kernel
theorem d_G_weight_23 : decode b_G_weight 23 = .ok (.iload 6, 2) := by decide +kernel
theorem d_G_weight_25 : decode b_G_weight 25 = .ok (.invokestatic 46, 3) := by decide +kernel
theorem d_G_weight_28 : decode b_G_weight 28 = .ok (.ifCond .eq 41, 3) := by decide +kernel
theorem d_G_weight_31 : decode b_G_weight 31 = .ok (.aload_n 0, 1) := by decide +kernel
theorem d_G_weight_32 : decode b_G_weight 32 = .ok (.iload 4, 2) := by decide +kernel
theorem d_G_weight_34 : decode b_G_weight 34 = .ok (.iload_n 1, 1) := by decide +kernel
theorem d_G_weight_35 : decode b_G_weight 35 = .ok (.iload 6, 2) := by decide +kernel
theorem d_G_weight_37 : decode b_G_weight 37 = .ok (.isub, 1) := by decide +kernel
theorem d_G_weight_38 : decode b_G_weight 38 = .ok (.aload_n 0, 1) := by decide +kernel
theorem d_G_weight_39 : decode b_G_weight 39 = .ok (.getfield 15, 3) := by decide +kernel
theorem d_G_weight_42 : decode b_G_weight 42 = .ok (.invokestatic 53, 3) := by decide +kernel
theorem d_G_weight_45 : decode b_G_weight 45 = .ok (.invokevirtual 32, 3) := by decide +kernel
theorem d_G_weight_48 : decode b_G_weight 48 = .ok (.istore 4, 2) := by decide +kernel
theorem d_G_weight_50 : decode b_G_weight 50 = .ok (.aload_n 0, 1) := by decide +kernel
theorem d_G_weight_51 : decode b_G_weight 51 = .ok (.iload 5, 2) := by decide +kernel
theorem d_G_weight_53 : decode b_G_weight 53 = .ok (.iload_n 3, 1) := by decide +kernel
theorem d_G_weight_54 : decode b_G_weight 54 = .ok (.iload 6, 2) := by decide +kernel
theorem d_G_weight_56 : decode b_G_weight 56 = .ok (.isub, 1) := by decide +kernel
theorem d_G_weight_57 : decode b_G_weight 57 = .ok (.aload_n 0, 1) := by decide +kernel
theorem d_G_weight_58 : decode b_G_weight 58 = .ok (.getfield 15, 3) := by decide +kernel
theorem d_G_weight_61 : decode b_G_weight 61 = .ok (.invokestatic 53, 3) := by decide +kernel
theorem d_G_weight_64 : decode b_G_weight 64 = .ok (.invokevirtual 32, 3) := by decide +kernel
theorem d_G_weight_67 : decode b_G_weight 67 = .ok (.istore 5, 2) := by decide +kernel
theorem d_G_weight_69 : decode b_G_weight 69 = .ok (.iinc 6 1, 3) := by decide +kernel
theorem d_G_weight_72 : decode b_G_weight 72 = .ok (.goto (-63), 3) := by decide +kernel
theorem d_G_weight_75 : decode b_G_weight 75 = .ok (.aload_n 0, 1) := by decide +kernel
theorem d_G_weight_76 : decode b_G_weight 76 = .ok (.iload 4, 2) := by decide +kernel
theorem d_G_weight_78 : decode b_G_weight 78 = .ok (.iload 5, 2) := by decide +kernel
theorem d_G_weight_80 : decode b_G_weight 80 = .ok (.aload_n 0, 1) := by decide +kernel
theorem d_G_weight_81 : decode b_G_weight 81 = .ok (.getfield 15, 3) := by decide +kernel
theorem d_G_weight_84 : decode b_G_weight 84 = .ok (.iconst 2, 1) := by decide +kernel
theorem d_G_weight_85 : decode b_G_weight 85 = .ok (.isub, 1) := by decide +kernel
theorem d_G_weight_86 : decode b_G_weight 86 = .ok (.aload_n 0, 1) := by decide +kernel
theorem d_G_weight_87 : decode b_G_weight 87 = .ok (.getfield 15, 3) := by decide +kernel
theorem d_G_weight_90 : decode b_G_weight 90 = .ok (.invokestatic 21, 3) := by decide +kernel
theorem d_G_weight_93 : decode b_G_weight 93 = .ok (.invokevirtual 32, 3) := by decide +kernel
theorem d_G_weight_96 : decode b_G_weight 96 = .ok (.ireturn, 1) := by decide +kernel
theorem d_JM_floorMod_0 : decode b_JM_floorMod 0 = .ok (.iload_n 0, 1) := by decide +kernel
theorem d_JM_floorMod_1 : decode b_JM_floorMod 1 = .ok (.iload_n 1, 1) := by decide +kernel
theorem d_JM_floorMod_2 : decode b_JM_floorMod 2 = .ok (.irem, 1) := by decide +kernel
theorem d_JM_floorMod_3 : decode b_JM_floorMod 3 = .ok (.istore_n 2, 1) := by decide +kernel
theorem d_JM_floorMod_4 : decode b_JM_floorMod 4 = .ok (.iload_n 0, 1) := by decide +kernel
theorem d_JM_floorMod_5 : decode b_JM_floorMod 5 = .ok (.iload_n 1, 1) := by decide +kernel
theorem d_JM_floorMod_6 : decode b_JM_floorMod 6 = .ok (.ixor, 1) := by decide +kernel
theorem d_JM_floorMod_7 : decode b_JM_floorMod 7 = .ok (.ifCond .ge 11, 3) := by decide +kernel
theorem d_JM_floorMod_10 : decode b_JM_floorMod 10 = .ok (.iload_n 2, 1) := by decide +kernel
theorem d_JM_floorMod_11 : decode b_JM_floorMod 11 = .ok (.ifCond .eq 7, 3) := by decide +kernel
theorem d_JM_floorMod_14 : decode b_JM_floorMod 14 = .ok (.iload_n 2, 1) := by decide +kernel
theorem d_JM_floorMod_15 : decode b_JM_floorMod 15 = .ok (.iload_n 1, 1) := by decide +kernel
theorem d_JM_floorMod_16 : decode b_JM_floorMod 16 = .ok (.iadd, 1) := by decide +kernel
theorem d_JM_floorMod_17 : decode b_JM_floorMod 17 = .ok (.ireturn, 1) := by decide +kernel
theorem d_JM_floorMod_18 : decode b_JM_floorMod 18 = .ok (.iload_n 2, 1) := by decide +kernel
theorem d_JM_floorMod_19 : decode b_JM_floorMod 19 = .ok (.ireturn, 1) := by decide +kernel
theorem d_L_share_0 : decode b_L_share 0 = .ok (.aload_n 2, 1) := by decide +kernel
theorem d_L_share_1 : decode b_L_share 1 = .ok (.iconst 0, 1) := by decide +kernel
theorem d_L_share_2 : decode b_L_share 2 = .ok (.aload_n 0, 1) := by decide +kernel
theorem d_L_share_3 : decode b_L_share 3 = .ok (.iload_n 1, 1) := by decide +kernel
theorem d_L_share_4 : decode b_L_share 4 = .ok (.invokevirtual 51, 3) := by decide +kernel
theorem d_L_share_7 : decode b_L_share 7 = .ok (.i2l, 1) := by decide +kernel
theorem d_L_share_8 : decode b_L_share 8 = .ok (.lastore, 1) := by decide +kernel
theorem d_L_share_9 : decode b_L_share 9 = .ok (.goto 9, 3) := by decide +kernel
theorem d_L_share_12 : decode b_L_share 12 = .ok (.astore_n 3, 1) := by decide +kernel
theorem d_L_share_13 : decode b_L_share 13 = .ok (.iconst 1, 1) := by decide +kernel
theorem d_L_share_14 : decode b_L_share 14 = .ok (.ireturn, 1) := by decide +kernel
theorem d_L_share_15 : decode b_L_share 15 = .ok (.astore_n 3, 1) := by decide +kernel
theorem d_L_share_16 : decode b_L_share 16 = .ok (.iconst 2, 1) := by decide +kernel
theorem d_L_share_17 : decode b_L_share 17 = .ok (.ireturn, 1) := by decide +kernel
theorem d_L_share_18 : decode b_L_share 18 = .ok (.iconst 0, 1) := by decide +kernel
theorem d_L_share_19 : decode b_L_share 19 = .ok (.ireturn, 1) := by decide +kernel
theorem d_K_share_0 : decode b_K_share 0 = .ok (.aload_n 0, 1) := by decide +kernel
theorem d_K_share_1 : decode b_K_share 1 = .ok (.invokevirtual 95, 3) := by decide +kernel
theorem d_K_share_4 : decode b_K_share 4 = .ok (.iload_n 1, 1) := by decide +kernel
theorem d_K_share_5 : decode b_K_share 5 = .ok (.invokestatic 98, 3) := by decide +kernel
theorem d_K_share_8 : decode b_K_share 8 = .ok (.aload_n 0, 1) := by decide +kernel
theorem d_K_share_9 : decode b_K_share 9 = .ok (.getfield 32, 3) := by decide +kernel
theorem d_K_share_12 : decode b_K_share 12 = .ok (.iload_n 1, 1) := by decide +kernel
theorem d_K_share_13 : decode b_K_share 13 = .ok (.iaload, 1) := by decide +kernel
theorem d_K_share_14 : decode b_K_share 14 = .ok (.ireturn, 1) := by decide +kernel
theorem d_L_fits_0 : decode b_L_fits 0 = .ok (.aload_n 2, 1) := by decide +kernel
theorem d_L_fits_1 : decode b_L_fits 1 = .ok (.iconst 0, 1) := by decide +kernel
theorem d_L_fits_2 : decode b_L_fits 2 = .ok (.aload_n 0, 1) := by decide +kernel
theorem d_L_fits_3 : decode b_L_fits 3 = .ok (.iload_n 1, 1) := by decide +kernel
theorem d_L_fits_4 : decode b_L_fits 4 = .ok (.invokevirtual 54, 3) := by decide +kernel
theorem d_L_fits_7 : decode b_L_fits 7 = .ok (.ifCond .eq 7, 3) := by decide +kernel
theorem d_L_fits_10 : decode b_L_fits 10 = .ok (.lconst 1, 1) := by decide +kernel
theorem d_L_fits_11 : decode b_L_fits 11 = .ok (.goto 4, 3) := by decide +kernel
theorem d_L_fits_14 : decode b_L_fits 14 = .ok (.lconst 0, 1) := by decide +kernel
theorem d_L_fits_15 : decode b_L_fits 15 = .ok (.lastore, 1) := by decide +kernel
theorem d_L_fits_16 : decode b_L_fits 16 = .ok (.goto 9, 3) := by decide +kernel
theorem d_L_fits_19 : decode b_L_fits 19 = .ok (.astore_n 3, 1) := by decide +kernel
theorem d_L_fits_20 : decode b_L_fits 20 = .ok (.iconst 1, 1) := by decide +kernel
theorem d_L_fits_21 : decode b_L_fits 21 = .ok (.ireturn, 1) := by decide +kernel
theorem d_L_fits_22 : decode b_L_fits 22 = .ok (.astore_n 3, 1) := by decide +kernel
theorem d_L_fits_23 : decode b_L_fits 23 = .ok (.iconst 2, 1) := by decide +kernel
theorem d_L_fits_24 : decode b_L_fits 24 = .ok (.ireturn, 1) := by decide +kernel
theorem d_L_fits_25 : decode b_L_fits 25 = .ok (.iconst 0, 1) := by decide +kernel
theorem d_L_fits_26 : decode b_L_fits 26 = .ok (.ireturn, 1) := by decide +kernel
theorem d_K_fits_0 : decode b_K_fits 0 = .ok (.aload_n 0, 1) := by decide +kernel
theorem d_K_fits_1 : decode b_K_fits 1 = .ok (.invokevirtual 95, 3) := by decide +kernel
theorem d_K_fits_4 : decode b_K_fits 4 = .ok (.iload_n 1, 1) := by decide +kernel
theorem d_K_fits_5 : decode b_K_fits 5 = .ok (.invokestatic 98, 3) := by decide +kernel
theorem d_K_fits_8 : decode b_K_fits 8 = .ok (.aload_n 0, 1) := by decide +kernel
theorem d_K_fits_9 : decode b_K_fits 9 = .ok (.iload_n 1, 1) := by decide +kernel
theorem d_K_fits_10 : decode b_K_fits 10 = .ok (.invokevirtual 186, 3) := by decide +kernel
theorem d_K_fits_13 : decode b_K_fits 13 = .ok (.ireturn, 1) := by decide +kernel
theorem d_L_sum_0 : decode b_L_sum 0 = .ok (.aload_n 2, 1) := by decide +kernel
theorem d_L_sum_1 : decode b_L_sum 1 = .ok (.iconst 0, 1) := by decide +kernel
theorem d_L_sum_2 : decode b_L_sum 2 = .ok (.aload_n 0, 1) := by decide +kernel
theorem d_L_sum_3 : decode b_L_sum 3 = .ok (.iload_n 1, 1) := by decide +kernel
theorem d_L_sum_4 : decode b_L_sum 4 = .ok (.invokevirtual 58, 3) := by decide +kernel
theorem d_L_sum_7 : decode b_L_sum 7 = .ok (.i2l, 1) := by decide +kernel
theorem d_L_sum_8 : decode b_L_sum 8 = .ok (.lastore, 1) := by decide +kernel
theorem d_L_sum_9 : decode b_L_sum 9 = .ok (.goto 9, 3) := by decide +kernel
theorem d_L_sum_12 : decode b_L_sum 12 = .ok (.astore_n 3, 1) := by decide +kernel
theorem d_L_sum_13 : decode b_L_sum 13 = .ok (.iconst 1, 1) := by decide +kernel
theorem d_L_sum_14 : decode b_L_sum 14 = .ok (.ireturn, 1) := by decide +kernel
theorem d_L_sum_15 : decode b_L_sum 15 = .ok (.astore_n 3, 1) := by decide +kernel
theorem d_L_sum_16 : decode b_L_sum 16 = .ok (.iconst 2, 1) := by decide +kernel
theorem d_L_sum_17 : decode b_L_sum 17 = .ok (.ireturn, 1) := by decide +kernel
theorem d_L_sum_18 : decode b_L_sum 18 = .ok (.iconst 0, 1) := by decide +kernel
theorem d_L_sum_19 : decode b_L_sum 19 = .ok (.ireturn, 1) := by decide +kernel
theorem d_K_sum_0 : decode b_K_sum 0 = .ok (.aload_n 0, 1) := by decide +kernel
theorem d_K_sum_1 : decode b_K_sum 1 = .ok (.invokevirtual 95, 3) := by decide +kernel
theorem d_K_sum_4 : decode b_K_sum 4 = .ok (.iload_n 1, 1) := by decide +kernel
theorem d_K_sum_5 : decode b_K_sum 5 = .ok (.ifCond .lt 8, 3) := by decide +kernel
theorem d_K_sum_8 : decode b_K_sum 8 = .ok (.iload_n 1, 1) := by decide +kernel
theorem d_K_sum_9 : decode b_K_sum 9 = .ok (.iconst 4, 1) := by decide +kernel
end
section
theorem d_K_sum_10 : decode b_K_sum 10 = .ok (.if_icmp .lt 11, 3) := by decide +kernel
theorem d_K_sum_13 : decode b_K_sum 13 = .ok (.new 189, 3) := by decide +kernel
theorem d_K_sum_16 : decode b_K_sum 16 = .ok (.dup, 1) := by decide +kernel
theorem d_K_sum_17 : decode b_K_sum 17 = .ok (.invokespecial 191, 3) := by decide +kernel
theorem d_K_sum_20 : decode b_K_sum 20 = .ok (.athrow, 1) := by decide +kernel
theorem d_K_sum_21 : decode b_K_sum 21 = .ok (.aload_n 0, 1) := by decide +kernel
theorem d_K_sum_22 : decode b_K_sum 22 = .ok (.getfield 36, 3) := by decide +kernel
theorem d_K_sum_25 : decode b_K_sum 25 = .ok (.iload_n 1, 1) := by decide +kernel
theorem d_K_sum_26 : decode b_K_sum 26 = .ok (.iaload, 1) := by decide +kernel
theorem d_K_sum_27 : decode b_K_sum 27 = .ok (.ireturn, 1) := by decide +kernel
theorem d_L_element_0 : decode b_L_element 0 = .ok (.aload_n 2, 1) := by decide +kernel
theorem d_L_element_1 : decode b_L_element 1 = .ok (.iconst 0, 1) := by decide +kernel
theorem d_L_element_2 : decode b_L_element 2 = .ok (.aload_n 0, 1) := by decide +kernel
theorem d_L_element_3 : decode b_L_element 3 = .ok (.iload_n 1, 1) := by decide +kernel
theorem d_L_element_4 : decode b_L_element 4 = .ok (.invokevirtual 63, 3) := by decide +kernel
theorem d_L_element_7 : decode b_L_element 7 = .ok (.i2l, 1) := by decide +kernel
theorem d_L_element_8 : decode b_L_element 8 = .ok (.lastore, 1) := by decide +kernel
theorem d_L_element_9 : decode b_L_element 9 = .ok (.goto 9, 3) := by decide +kernel
theorem d_L_element_12 : decode b_L_element 12 = .ok (.astore_n 3, 1) := by decide +kernel
theorem d_L_element_13 : decode b_L_element 13 = .ok (.iconst 1, 1) := by decide +kernel
theorem d_L_element_14 : decode b_L_element 14 = .ok (.ireturn, 1) := by decide +kernel
theorem d_L_element_15 : decode b_L_element 15 = .ok (.astore_n 3, 1) := by decide +kernel
theorem d_L_element_16 : decode b_L_element 16 = .ok (.iconst 2, 1) := by decide +kernel
theorem d_L_element_17 : decode b_L_element 17 = .ok (.ireturn, 1) := by decide +kernel
theorem d_L_element_18 : decode b_L_element 18 = .ok (.iconst 0, 1) := by decide +kernel
theorem d_L_element_19 : decode b_L_element 19 = .ok (.ireturn, 1) := by decide +kernel
theorem d_K_element_0 : decode b_K_element 0 = .ok (.aload_n 0, 1) := by decide +kernel
theorem d_K_element_1 : decode b_K_element 1 = .ok (.invokevirtual 95, 3) := by decide +kernel
theorem d_K_element_4 : decode b_K_element 4 = .ok (.iload_n 1, 1) := by decide +kernel
theorem d_K_element_5 : decode b_K_element 5 = .ok (.invokestatic 98, 3) := by decide +kernel
theorem d_K_element_8 : decode b_K_element 8 = .ok (.aload_n 0, 1) := by decide +kernel
theorem d_K_element_9 : decode b_K_element 9 = .ok (.getfield 12, 3) := by decide +kernel
theorem d_K_element_12 : decode b_K_element 12 = .ok (.iload_n 1, 1) := by decide +kernel
theorem d_K_element_13 : decode b_K_element 13 = .ok (.aload_n 0, 1) := by decide +kernel
theorem d_K_element_14 : decode b_K_element 14 = .ok (.getfield 36, 3) := by decide +kernel
theorem d_K_element_17 : decode b_K_element 17 = .ok (.invokevirtual 192, 3) := by decide +kernel
theorem d_K_element_20 : decode b_K_element 20 = .ok (.ireturn, 1) := by decide +kernel
theorem d_L_reconstruct_0 : decode b_L_reconstruct 0 = .ok (.aload_n 2, 1) := by decide +kernel
theorem d_L_reconstruct_1 : decode b_L_reconstruct 1 = .ok (.iconst 0, 1) := by decide +kernel
theorem d_L_reconstruct_2 : decode b_L_reconstruct 2 = .ok (.aload_n 0, 1) := by decide +kernel
theorem d_L_reconstruct_3 : decode b_L_reconstruct 3 = .ok (.iload_n 1, 1) := by decide +kernel
theorem d_L_reconstruct_4 : decode b_L_reconstruct 4 = .ok (.invokevirtual 66, 3) := by decide +kernel
theorem d_L_reconstruct_7 : decode b_L_reconstruct 7 = .ok (.i2l, 1) := by decide +kernel
theorem d_L_reconstruct_8 : decode b_L_reconstruct 8 = .ok (.lastore, 1) := by decide +kernel
theorem d_L_reconstruct_9 : decode b_L_reconstruct 9 = .ok (.goto 9, 3) := by decide +kernel
theorem d_L_reconstruct_12 : decode b_L_reconstruct 12 = .ok (.astore_n 3, 1) := by decide +kernel
theorem d_L_reconstruct_13 : decode b_L_reconstruct 13 = .ok (.iconst 1, 1) := by decide +kernel
theorem d_L_reconstruct_14 : decode b_L_reconstruct 14 = .ok (.ireturn, 1) := by decide +kernel
theorem d_L_reconstruct_15 : decode b_L_reconstruct 15 = .ok (.astore_n 3, 1) := by decide +kernel
theorem d_L_reconstruct_16 : decode b_L_reconstruct 16 = .ok (.iconst 2, 1) := by decide +kernel
theorem d_L_reconstruct_17 : decode b_L_reconstruct 17 = .ok (.ireturn, 1) := by decide +kernel
theorem d_L_reconstruct_18 : decode b_L_reconstruct 18 = .ok (.iconst 0, 1) := by decide +kernel
theorem d_L_reconstruct_19 : decode b_L_reconstruct 19 = .ok (.ireturn, 1) := by decide +kernel
theorem d_K_reconstruct_0 : decode b_K_reconstruct 0 = .ok (.aload_n 0, 1) := by decide +kernel
theorem d_K_reconstruct_1 : decode b_K_reconstruct 1 = .ok (.invokevirtual 95, 3) := by decide +kernel
theorem d_K_reconstruct_4 : decode b_K_reconstruct 4 = .ok (.iload_n 1, 1) := by decide +kernel
theorem d_K_reconstruct_5 : decode b_K_reconstruct 5 = .ok (.ifCond .lt 26, 3) := by decide +kernel
theorem d_K_reconstruct_8 : decode b_K_reconstruct 8 = .ok (.iload_n 1, 1) := by decide +kernel
theorem d_K_reconstruct_9 : decode b_K_reconstruct 9 = .ok (.bipush 127, 2) := by decide +kernel
theorem d_K_reconstruct_11 : decode b_K_reconstruct 11 = .ok (.if_icmp .gt 20, 3) := by decide +kernel
theorem d_K_reconstruct_14 : decode b_K_reconstruct 14 = .ok (.iload_n 1, 1) := by decide +kernel
theorem d_K_reconstruct_15 : decode b_K_reconstruct 15 = .ok (.invokestatic 142, 3) := by decide +kernel
theorem d_K_reconstruct_18 : decode b_K_reconstruct 18 = .ok (.iconst 4, 1) := by decide +kernel
theorem d_K_reconstruct_19 : decode b_K_reconstruct 19 = .ok (.if_icmp .lt 12, 3) := by decide +kernel
theorem d_K_reconstruct_22 : decode b_K_reconstruct 22 = .ok (.iload_n 1, 1) := by decide +kernel
theorem d_K_reconstruct_23 : decode b_K_reconstruct 23 = .ok (.aload_n 0, 1) := by decide +kernel
theorem d_K_reconstruct_24 : decode b_K_reconstruct 24 = .ok (.invokevirtual 195, 3) := by decide +kernel
theorem d_K_reconstruct_27 : decode b_K_reconstruct 27 = .ok (.iand, 1) := by decide +kernel
theorem d_K_reconstruct_28 : decode b_K_reconstruct 28 = .ok (.ifCond .eq 11, 3) := by decide +kernel
theorem d_K_reconstruct_31 : decode b_K_reconstruct 31 = .ok (.new 50, 3) := by decide +kernel
theorem d_K_reconstruct_34 : decode b_K_reconstruct 34 = .ok (.dup, 1) := by decide +kernel
theorem d_K_reconstruct_35 : decode b_K_reconstruct 35 = .ok (.invokespecial 52, 3) := by decide +kernel
theorem d_K_reconstruct_38 : decode b_K_reconstruct 38 = .ok (.athrow, 1) := by decide +kernel
theorem d_K_reconstruct_39 : decode b_K_reconstruct 39 = .ok (.aload_n 0, 1) := by decide +kernel
theorem d_K_reconstruct_40 : decode b_K_reconstruct 40 = .ok (.getfield 12, 3) := by decide +kernel
theorem d_K_reconstruct_43 : decode b_K_reconstruct 43 = .ok (.iconst 0, 1) := by decide +kernel
theorem d_K_reconstruct_44 : decode b_K_reconstruct 44 = .ok (.iload_n 1, 1) := by decide +kernel
theorem d_K_reconstruct_45 : decode b_K_reconstruct 45 = .ok (.invokestatic 179, 3) := by decide +kernel
theorem d_K_reconstruct_48 : decode b_K_reconstruct 48 = .ok (.aload_n 0, 1) := by decide +kernel
theorem d_K_reconstruct_49 : decode b_K_reconstruct 49 = .ok (.getfield 32, 3) := by decide +kernel
theorem d_K_reconstruct_52 : decode b_K_reconstruct 52 = .ok (.invokevirtual 182, 3) := by decide +kernel
theorem d_K_reconstruct_55 : decode b_K_reconstruct 55 = .ok (.ireturn, 1) := by decide +kernel
theorem d_K_wiped_0 : decode b_K_wiped 0 = .ok (.iconst 0, 1) := by decide +kernel
theorem d_K_wiped_1 : decode b_K_wiped 1 = .ok (.istore_n 1, 1) := by decide +kernel
theorem d_K_wiped_2 : decode b_K_wiped 2 = .ok (.iconst 1, 1) := by decide +kernel
theorem d_K_wiped_3 : decode b_K_wiped 3 = .ok (.istore_n 2, 1) := by decide +kernel
theorem d_K_wiped_4 : decode b_K_wiped 4 = .ok (.iload_n 2, 1) := by decide +kernel
theorem d_K_wiped_5 : decode b_K_wiped 5 = .ok (.bipush 7, 2) := by decide +kernel
theorem d_K_wiped_7 : decode b_K_wiped 7 = .ok (.if_icmp .gt 24, 3) := by decide +kernel
theorem d_K_wiped_10 : decode b_K_wiped 10 = .ok (.aload_n 0, 1) := by decide +kernel
theorem d_K_wiped_11 : decode b_K_wiped 11 = .ok (.iload_n 2, 1) := by decide +kernel
theorem d_K_wiped_12 : decode b_K_wiped 12 = .ok (.invokevirtual 173, 3) := by decide +kernel
theorem d_K_wiped_15 : decode b_K_wiped 15 = .ok (.ifCond .eq 10, 3) := by decide +kernel
theorem d_K_wiped_18 : decode b_K_wiped 18 = .ok (.iload_n 1, 1) := by decide +kernel
theorem d_K_wiped_19 : decode b_K_wiped 19 = .ok (.iload_n 2, 1) := by decide +kernel
theorem d_K_wiped_20 : decode b_K_wiped 20 = .ok (.invokestatic 229, 3) := by decide +kernel
theorem d_K_wiped_23 : decode b_K_wiped 23 = .ok (.ior, 1) := by decide +kernel
theorem d_K_wiped_24 : decode b_K_wiped 24 = .ok (.istore_n 1, 1) := by decide +kernel
theorem d_K_wiped_25 : decode b_K_wiped 25 = .ok (.iinc 2 1, 3) := by decide +kernel
theorem d_K_wiped_28 : decode b_K_wiped 28 = .ok (.goto (-24), 3) := by decide +kernel
theorem d_K_wiped_31 : decode b_K_wiped 31 = .ok (.iload_n 1, 1) := by decide +kernel
theorem d_K_wiped_32 : decode b_K_wiped 32 = .ok (.ireturn, 1) := by decide +kernel
theorem d_L_post_0 : decode b_L_post 0 = .ok (.aload_n 3, 1) := by decide +kernel
theorem d_L_post_1 : decode b_L_post 1 = .ok (.iconst 0, 1) := by decide +kernel
theorem d_L_post_2 : decode b_L_post 2 = .ok (.aload_n 0, 1) := by decide +kernel
theorem d_L_post_3 : decode b_L_post 3 = .ok (.iload_n 1, 1) := by decide +kernel
theorem d_L_post_4 : decode b_L_post 4 = .ok (.iload_n 2, 1) := by decide +kernel
theorem d_L_post_5 : decode b_L_post 5 = .ok (.invokevirtual 69, 3) := by decide +kernel
theorem d_L_post_8 : decode b_L_post 8 = .ok (.i2l, 1) := by decide +kernel
theorem d_L_post_9 : decode b_L_post 9 = .ok (.lastore, 1) := by decide +kernel
theorem d_L_post_10 : decode b_L_post 10 = .ok (.goto 15, 3) := by decide +kernel
theorem d_L_post_13 : decode b_L_post 13 = .ok (.astore 4, 2) := by decide +kernel
theorem d_L_post_15 : decode b_L_post 15 = .ok (.iconst 1, 1) := by decide +kernel
theorem d_L_post_16 : decode b_L_post 16 = .ok (.ireturn, 1) := by decide +kernel
theorem d_L_post_17 : decode b_L_post 17 = .ok (.astore 4, 2) := by decide +kernel
theorem d_L_post_19 : decode b_L_post 19 = .ok (.iconst 2, 1) := by decide +kernel
theorem d_L_post_20 : decode b_L_post 20 = .ok (.ireturn, 1) := by decide +kernel
theorem d_L_post_21 : decode b_L_post 21 = .ok (.astore 4, 2) := by decide +kernel
theorem d_L_post_23 : decode b_L_post 23 = .ok (.iconst 3, 1) := by decide +kernel
theorem d_L_post_24 : decode b_L_post 24 = .ok (.ireturn, 1) := by decide +kernel
theorem d_L_post_25 : decode b_L_post 25 = .ok (.iconst 0, 1) := by decide +kernel
theorem d_L_post_26 : decode b_L_post 26 = .ok (.ireturn, 1) := by decide +kernel
theorem d_K_post_0 : decode b_K_post 0 = .ok (.aload_n 0, 1) := by decide +kernel
theorem d_K_post_1 : decode b_K_post 1 = .ok (.invokevirtual 95, 3) := by decide +kernel
theorem d_K_post_4 : decode b_K_post 4 = .ok (.iload_n 1, 1) := by decide +kernel
theorem d_K_post_5 : decode b_K_post 5 = .ok (.ifCond .lt 14, 3) := by decide +kernel
theorem d_K_post_8 : decode b_K_post 8 = .ok (.iload_n 1, 1) := by decide +kernel
theorem d_K_post_9 : decode b_K_post 9 = .ok (.aload_n 0, 1) := by decide +kernel
theorem d_K_post_10 : decode b_K_post 10 = .ok (.getfield 19, 3) := by decide +kernel
theorem d_K_post_13 : decode b_K_post 13 = .ok (.invokevirtual 198, 3) := by decide +kernel
theorem d_K_post_16 : decode b_K_post 16 = .ok (.if_icmp .lt 11, 3) := by decide +kernel
theorem d_K_post_19 : decode b_K_post 19 = .ok (.new 189, 3) := by decide +kernel
theorem d_K_post_22 : decode b_K_post 22 = .ok (.dup, 1) := by decide +kernel
theorem d_K_post_23 : decode b_K_post 23 = .ok (.invokespecial 191, 3) := by decide +kernel
theorem d_K_post_26 : decode b_K_post 26 = .ok (.athrow, 1) := by decide +kernel
theorem d_K_post_27 : decode b_K_post 27 = .ok (.iload_n 2, 1) := by decide +kernel
theorem d_K_post_28 : decode b_K_post 28 = .ok (.ifCond .lt 9, 3) := by decide +kernel
theorem d_K_post_31 : decode b_K_post 31 = .ok (.iload_n 2, 1) := by decide +kernel
theorem d_K_post_32 : decode b_K_post 32 = .ok (.bipush 9, 2) := by decide +kernel
theorem d_K_post_34 : decode b_K_post 34 = .ok (.if_icmp .lt 11, 3) := by decide +kernel
theorem d_K_post_37 : decode b_K_post 37 = .ok (.new 50, 3) := by decide +kernel
theorem d_K_post_40 : decode b_K_post 40 = .ok (.dup, 1) := by decide +kernel
theorem d_K_post_41 : decode b_K_post 41 = .ok (.invokespecial 52, 3) := by decide +kernel
theorem d_K_post_44 : decode b_K_post 44 = .ok (.athrow, 1) := by decide +kernel
theorem d_K_post_45 : decode b_K_post 45 = .ok (.aload_n 0, 1) := by decide +kernel
theorem d_K_post_46 : decode b_K_post 46 = .ok (.getfield 19, 3) := by decide +kernel
theorem d_K_post_49 : decode b_K_post 49 = .ok (.iload_n 1, 1) := by decide +kernel
theorem d_K_post_50 : decode b_K_post 50 = .ok (.iload_n 2, 1) := by decide +kernel
theorem d_K_post_51 : decode b_K_post 51 = .ok (.invokevirtual 201, 3) := by decide +kernel
theorem d_K_post_54 : decode b_K_post 54 = .ok (.ireturn, 1) := by decide +kernel
theorem d_B_size_0 : decode b_B_size 0 = .ok (.aload_n 0, 1) := by decide +kernel
theorem d_B_size_1 : decode b_B_size 1 = .ok (.getfield 15, 3) := by decide +kernel
theorem d_B_size_4 : decode b_B_size 4 = .ok (.ireturn, 1) := by decide +kernel
theorem d_B_read_0 : decode b_B_read 0 = .ok (.aload_n 0, 1) := by decide +kernel
theorem d_B_read_1 : decode b_B_read 1 = .ok (.getfield 11, 3) := by decide +kernel
theorem d_B_read_4 : decode b_B_read 4 = .ok (.iload_n 1, 1) := by decide +kernel
theorem d_B_read_5 : decode b_B_read 5 = .ok (.bipush 9, 2) := by decide +kernel
theorem d_B_read_7 : decode b_B_read 7 = .ok (.imul, 1) := by decide +kernel
theorem d_B_read_8 : decode b_B_read 8 = .ok (.iload_n 2, 1) := by decide +kernel
theorem d_B_read_9 : decode b_B_read 9 = .ok (.iadd, 1) := by decide +kernel
theorem d_B_read_10 : decode b_B_read 10 = .ok (.iaload, 1) := by decide +kernel
theorem d_B_read_11 : decode b_B_read 11 = .ok (.ireturn, 1) := by decide +kernel
theorem d_L_about_0 : decode b_L_about 0 = .ok (.aload_n 2, 1) := by decide +kernel
theorem d_L_about_1 : decode b_L_about 1 = .ok (.iconst 0, 1) := by decide +kernel
theorem d_L_about_2 : decode b_L_about 2 = .ok (.aload_n 0, 1) := by decide +kernel
theorem d_L_about_3 : decode b_L_about 3 = .ok (.iload_n 1, 1) := by decide +kernel
theorem d_L_about_4 : decode b_L_about 4 = .ok (.invokevirtual 73, 3) := by decide +kernel
theorem d_L_about_7 : decode b_L_about 7 = .ok (.i2l, 1) := by decide +kernel
theorem d_L_about_8 : decode b_L_about 8 = .ok (.lastore, 1) := by decide +kernel
theorem d_L_about_9 : decode b_L_about 9 = .ok (.goto 6, 3) := by decide +kernel
theorem d_L_about_12 : decode b_L_about 12 = .ok (.astore_n 3, 1) := by decide +kernel
theorem d_L_about_13 : decode b_L_about 13 = .ok (.iconst 1, 1) := by decide +kernel
theorem d_L_about_14 : decode b_L_about 14 = .ok (.ireturn, 1) := by decide +kernel
theorem d_L_about_15 : decode b_L_about 15 = .ok (.iconst 0, 1) := by decide +kernel
theorem d_L_about_16 : decode b_L_about 16 = .ok (.ireturn, 1) := by decide +kernel
theorem d_K_about_0 : decode b_K_about 0 = .ok (.iload_n 1, 1) := by decide +kernel
theorem d_K_about_1 : decode b_K_about 1 = .ok (.tableswitch 93 0 6 #[43, 48, 56, 64, 72, 80, 85], 43) := by decide +kernel
theorem d_K_about_44 : decode b_K_about 44 = .ok (.aload_n 0, 1) := by decide +kernel
theorem d_K_about_45 : decode b_K_about 45 = .ok (.getfield 42, 3) := by decide +kernel
theorem d_K_about_48 : decode b_K_about 48 = .ok (.ireturn, 1) := by decide +kernel
theorem d_K_about_49 : decode b_K_about 49 = .ok (.aload_n 0, 1) := by decide +kernel
theorem d_K_about_50 : decode b_K_about 50 = .ok (.getfield 19, 3) := by decide +kernel
theorem d_K_about_53 : decode b_K_about 53 = .ok (.invokevirtual 198, 3) := by decide +kernel
theorem d_K_about_56 : decode b_K_about 56 = .ok (.ireturn, 1) := by decide +kernel
theorem d_K_about_57 : decode b_K_about 57 = .ok (.aload_n 0, 1) := by decide +kernel
theorem d_K_about_58 : decode b_K_about 58 = .ok (.getfield 28, 3) := by decide +kernel
theorem d_K_about_61 : decode b_K_about 61 = .ok (.invokevirtual 204, 3) := by decide +kernel
theorem d_K_about_64 : decode b_K_about 64 = .ok (.ireturn, 1) := by decide +kernel
theorem d_K_about_65 : decode b_K_about 65 = .ok (.aload_n 0, 1) := by decide +kernel
theorem d_K_about_66 : decode b_K_about 66 = .ok (.getfield 28, 3) := by decide +kernel
theorem d_K_about_69 : decode b_K_about 69 = .ok (.invokevirtual 207, 3) := by decide +kernel
theorem d_K_about_72 : decode b_K_about 72 = .ok (.ireturn, 1) := by decide +kernel
theorem d_K_about_73 : decode b_K_about 73 = .ok (.aload_n 0, 1) := by decide +kernel
theorem d_K_about_74 : decode b_K_about 74 = .ok (.getfield 28, 3) := by decide +kernel
theorem d_K_about_77 : decode b_K_about 77 = .ok (.invokevirtual 157, 3) := by decide +kernel
theorem d_K_about_80 : decode b_K_about 80 = .ok (.ireturn, 1) := by decide +kernel
theorem d_K_about_81 : decode b_K_about 81 = .ok (.aload_n 0, 1) := by decide +kernel
theorem d_K_about_82 : decode b_K_about 82 = .ok (.invokevirtual 195, 3) := by decide +kernel
theorem d_K_about_85 : decode b_K_about 85 = .ok (.ireturn, 1) := by decide +kernel
theorem d_K_about_86 : decode b_K_about 86 = .ok (.aload_n 0, 1) := by decide +kernel
theorem d_K_about_87 : decode b_K_about 87 = .ok (.getfield 28, 3) := by decide +kernel
theorem d_K_about_90 : decode b_K_about 90 = .ok (.invokevirtual 210, 3) := by decide +kernel
theorem d_K_about_93 : decode b_K_about 93 = .ok (.ireturn, 1) := by decide +kernel
theorem d_K_about_94 : decode b_K_about 94 = .ok (.new 50, 3) := by decide +kernel
theorem d_K_about_97 : decode b_K_about 97 = .ok (.dup, 1) := by decide +kernel
theorem d_K_about_98 : decode b_K_about 98 = .ok (.invokespecial 52, 3) := by decide +kernel
theorem d_K_about_101 : decode b_K_about 101 = .ok (.athrow, 1) := by decide +kernel
theorem d_V_complaintCount_0 : decode b_V_complaintCount 0 = .ok (.aload_n 0, 1) := by decide +kernel
theorem d_V_complaintCount_1 : decode b_V_complaintCount 1 = .ok (.getfield 26, 3) := by decide +kernel
theorem d_V_complaintCount_4 : decode b_V_complaintCount 4 = .ok (.invokestatic 97, 3) := by decide +kernel
theorem d_V_complaintCount_7 : decode b_V_complaintCount 7 = .ok (.ireturn, 1) := by decide +kernel
theorem d_V_countAll_0 : decode b_V_countAll 0 = .ok (.iconst 0, 1) := by decide +kernel
theorem d_V_countAll_1 : decode b_V_countAll 1 = .ok (.istore_n 1, 1) := by decide +kernel
theorem d_V_countAll_2 : decode b_V_countAll 2 = .ok (.iconst 1, 1) := by decide +kernel
theorem d_V_countAll_3 : decode b_V_countAll 3 = .ok (.istore_n 2, 1) := by decide +kernel
theorem d_V_countAll_4 : decode b_V_countAll 4 = .ok (.iload_n 2, 1) := by decide +kernel
theorem d_V_countAll_5 : decode b_V_countAll 5 = .ok (.bipush 7, 2) := by decide +kernel
theorem d_V_countAll_7 : decode b_V_countAll 7 = .ok (.if_icmp .gt 18, 3) := by decide +kernel
theorem d_V_countAll_10 : decode b_V_countAll 10 = .ok (.iload_n 1, 1) := by decide +kernel
theorem d_V_countAll_11 : decode b_V_countAll 11 = .ok (.aload_n 0, 1) := by decide +kernel
theorem d_V_countAll_12 : decode b_V_countAll 12 = .ok (.iload_n 2, 1) := by decide +kernel
theorem d_V_countAll_13 : decode b_V_countAll 13 = .ok (.iaload, 1) := by decide +kernel
theorem d_V_countAll_14 : decode b_V_countAll 14 = .ok (.invokestatic 61, 3) := by decide +kernel
theorem d_V_countAll_17 : decode b_V_countAll 17 = .ok (.iadd, 1) := by decide +kernel
theorem d_V_countAll_18 : decode b_V_countAll 18 = .ok (.istore_n 1, 1) := by decide +kernel
theorem d_V_countAll_19 : decode b_V_countAll 19 = .ok (.iinc 2 1, 3) := by decide +kernel
theorem d_V_countAll_22 : decode b_V_countAll 22 = .ok (.goto (-18), 3) := by decide +kernel
theorem d_V_countAll_25 : decode b_V_countAll 25 = .ok (.iload_n 1, 1) := by decide +kernel
theorem d_V_countAll_26 : decode b_V_countAll 26 = .ok (.ireturn, 1) := by decide +kernel
theorem d_V_settledCount_0 : decode b_V_settledCount 0 = .ok (.aload_n 0, 1) := by decide +kernel
theorem d_V_settledCount_1 : decode b_V_settledCount 1 = .ok (.getfield 29, 3) := by decide +kernel
theorem d_V_settledCount_4 : decode b_V_settledCount 4 = .ok (.invokestatic 97, 3) := by decide +kernel
theorem d_V_settledCount_7 : decode b_V_settledCount 7 = .ok (.ireturn, 1) := by decide +kernel
theorem d_M_init_0 : decode b_M_init 0 = .ok (.aload_n 0, 1) := by decide +kernel
theorem d_M_init_1 : decode b_M_init 1 = .ok (.invokespecial 1, 3) := by decide +kernel
theorem d_M_init_4 : decode b_M_init 4 = .ok (.aload_n 0, 1) := by decide +kernel
theorem d_M_init_5 : decode b_M_init 5 = .ok (.iconst 0, 1) := by decide +kernel
theorem d_M_init_6 : decode b_M_init 6 = .ok (.putfield 7, 3) := by decide +kernel
theorem d_M_init_9 : decode b_M_init 9 = .ok (.aload_n 0, 1) := by decide +kernel
theorem d_M_init_10 : decode b_M_init 10 = .ok (.iconst 0, 1) := by decide +kernel
theorem d_M_init_11 : decode b_M_init 11 = .ok (.putfield 13, 3) := by decide +kernel
theorem d_M_init_14 : decode b_M_init 14 = .ok (.aload_n 0, 1) := by decide +kernel
theorem d_M_init_15 : decode b_M_init 15 = .ok (.iconst 0, 1) := by decide +kernel
theorem d_M_init_16 : decode b_M_init 16 = .ok (.putfield 16, 3) := by decide +kernel
theorem d_M_init_19 : decode b_M_init 19 = .ok (.aload_n 0, 1) := by decide +kernel
theorem d_M_init_20 : decode b_M_init 20 = .ok (.iconst 0, 1) := by decide +kernel
theorem d_M_init_21 : decode b_M_init 21 = .ok (.putfield 19, 3) := by decide +kernel
theorem d_M_init_24 : decode b_M_init 24 = .ok (.aload_n 0, 1) := by decide +kernel
theorem d_M_init_25 : decode b_M_init 25 = .ok (.iconst 0, 1) := by decide +kernel
theorem d_M_init_26 : decode b_M_init 26 = .ok (.putfield 22, 3) := by decide +kernel
theorem d_M_init_29 : decode b_M_init 29 = .ok (.aload_n 0, 1) := by decide +kernel
theorem d_M_init_30 : decode b_M_init 30 = .ok (.iconst 0, 1) := by decide +kernel
theorem d_M_init_31 : decode b_M_init 31 = .ok (.putfield 26, 3) := by decide +kernel
theorem d_M_init_34 : decode b_M_init 34 = .ok (.aload_n 0, 1) := by decide +kernel
theorem d_M_init_35 : decode b_M_init 35 = .ok (.bipush 8, 2) := by decide +kernel
theorem d_M_init_37 : decode b_M_init 37 = .ok (.newarray .int, 2) := by decide +kernel
theorem d_M_init_39 : decode b_M_init 39 = .ok (.putfield 29, 3) := by decide +kernel
theorem d_M_init_42 : decode b_M_init 42 = .ok (.aload_n 0, 1) := by decide +kernel
theorem d_M_init_43 : decode b_M_init 43 = .ok (.bipush 8, 2) := by decide +kernel
theorem d_M_init_45 : decode b_M_init 45 = .ok (.newarray .boolean, 2) := by decide +kernel
theorem d_M_init_47 : decode b_M_init 47 = .ok (.putfield 33, 3) := by decide +kernel
theorem d_M_init_50 : decode b_M_init 50 = .ok (.aload_n 0, 1) := by decide +kernel
theorem d_M_init_51 : decode b_M_init 51 = .ok (.iconst 4, 1) := by decide +kernel
theorem d_M_init_52 : decode b_M_init 52 = .ok (.newarray .int, 2) := by decide +kernel
theorem d_M_init_54 : decode b_M_init 54 = .ok (.putfield 37, 3) := by decide +kernel
theorem d_M_init_57 : decode b_M_init 57 = .ok (.aload_n 0, 1) := by decide +kernel
theorem d_M_init_58 : decode b_M_init 58 = .ok (.bipush 8, 2) := by decide +kernel
theorem d_M_init_60 : decode b_M_init 60 = .ok (.newarray .int, 2) := by decide +kernel
theorem d_M_init_62 : decode b_M_init 62 = .ok (.putfield 40, 3) := by decide +kernel
theorem d_M_init_65 : decode b_M_init 65 = .ok (.aload_n 0, 1) := by decide +kernel
theorem d_M_init_66 : decode b_M_init 66 = .ok (.bipush 8, 2) := by decide +kernel
theorem d_M_init_68 : decode b_M_init 68 = .ok (.newarray .boolean, 2) := by decide +kernel
theorem d_M_init_70 : decode b_M_init 70 = .ok (.putfield 43, 3) := by decide +kernel
theorem d_M_init_73 : decode b_M_init 73 = .ok (.aload_n 0, 1) := by decide +kernel
theorem d_M_init_74 : decode b_M_init 74 = .ok (.bipush 32, 2) := by decide +kernel
theorem d_M_init_76 : decode b_M_init 76 = .ok (.newarray .int, 2) := by decide +kernel
theorem d_M_init_78 : decode b_M_init 78 = .ok (.putfield 46, 3) := by decide +kernel
theorem d_M_init_81 : decode b_M_init 81 = .ok (.aload_n 0, 1) := by decide +kernel
theorem d_M_init_82 : decode b_M_init 82 = .ok (.bipush 32, 2) := by decide +kernel
theorem d_M_init_84 : decode b_M_init 84 = .ok (.newarray .int, 2) := by decide +kernel
theorem d_M_init_86 : decode b_M_init 86 = .ok (.putfield 49, 3) := by decide +kernel
theorem d_M_init_89 : decode b_M_init 89 = .ok (.aload_n 0, 1) := by decide +kernel
theorem d_M_init_90 : decode b_M_init 90 = .ok (.bipush 64, 2) := by decide +kernel
theorem d_M_init_92 : decode b_M_init 92 = .ok (.newarray .int, 2) := by decide +kernel
theorem d_M_init_94 : decode b_M_init 94 = .ok (.putfield 52, 3) := by decide +kernel
theorem d_M_init_97 : decode b_M_init 97 = .ok (.aload_n 0, 1) := by decide +kernel
theorem d_M_init_98 : decode b_M_init 98 = .ok (.bipush 64, 2) := by decide +kernel
theorem d_M_init_100 : decode b_M_init 100 = .ok (.newarray .boolean, 2) := by decide +kernel
theorem d_M_init_102 : decode b_M_init 102 = .ok (.putfield 55, 3) := by decide +kernel
theorem d_M_init_105 : decode b_M_init 105 = .ok (.aload_n 0, 1) := by decide +kernel
theorem d_M_init_106 : decode b_M_init 106 = .ok (.bipush 64, 2) := by decide +kernel
theorem d_M_init_108 : decode b_M_init 108 = .ok (.newarray .boolean, 2) := by decide +kernel
theorem d_M_init_110 : decode b_M_init 110 = .ok (.putfield 58, 3) := by decide +kernel
theorem d_M_init_113 : decode b_M_init 113 = .ok (.aload_n 0, 1) := by decide +kernel
theorem d_M_init_114 : decode b_M_init 114 = .ok (.iconst 0, 1) := by decide +kernel
theorem d_M_init_115 : decode b_M_init 115 = .ok (.putfield 61, 3) := by decide +kernel
theorem d_M_init_118 : decode b_M_init 118 = .ok (.aload_n 0, 1) := by decide +kernel
theorem d_M_init_119 : decode b_M_init 119 = .ok (.sipush 2250, 3) := by decide +kernel
theorem d_M_init_122 : decode b_M_init 122 = .ok (.newarray .int, 2) := by decide +kernel
theorem d_M_init_124 : decode b_M_init 124 = .ok (.putfield 64, 3) := by decide +kernel
theorem d_M_init_127 : decode b_M_init 127 = .ok (.return_, 1) := by decide +kernel
theorem d_M_thrown_0 : decode b_M_thrown 0 = .ok (.aload_n 0, 1) := by decide +kernel
theorem d_M_thrown_1 : decode b_M_thrown 1 = .ok (.getfield 7, 3) := by decide +kernel
theorem d_M_thrown_4 : decode b_M_thrown 4 = .ok (.ireturn, 1) := by decide +kernel
theorem d_M_group_0 : decode b_M_group 0 = .ok (.iload_n 2, 1) := by decide +kernel
theorem d_M_group_1 : decode b_M_group 1 = .ok (.bipush 11, 2) := by decide +kernel
theorem d_M_group_3 : decode b_M_group 3 = .ok (.if_icmp .lt 51, 3) := by decide +kernel
theorem d_M_group_6 : decode b_M_group 6 = .ok (.iload_n 2, 1) := by decide +kernel
theorem d_M_group_7 : decode b_M_group 7 = .ok (.sipush 32749, 3) := by decide +kernel
theorem d_M_group_10 : decode b_M_group 10 = .ok (.if_icmp .gt 44, 3) := by decide +kernel
theorem d_M_group_13 : decode b_M_group 13 = .ok (.iload_n 1, 1) := by decide +kernel
theorem d_M_group_14 : decode b_M_group 14 = .ok (.iload_n 2, 1) := by decide +kernel
theorem d_M_group_15 : decode b_M_group 15 = .ok (.if_icmp .le 39, 3) := by decide +kernel
theorem d_M_group_18 : decode b_M_group 18 = .ok (.iload_n 2, 1) := by decide +kernel
theorem d_M_group_19 : decode b_M_group 19 = .ok (.invokestatic 83, 3) := by decide +kernel
theorem d_M_group_22 : decode b_M_group 22 = .ok (.ifCond .eq 32, 3) := by decide +kernel
theorem d_M_group_25 : decode b_M_group 25 = .ok (.iload_n 1, 1) := by decide +kernel
theorem d_M_group_26 : decode b_M_group 26 = .ok (.invokestatic 83, 3) := by decide +kernel
theorem d_M_group_29 : decode b_M_group 29 = .ok (.ifCond .eq 25, 3) := by decide +kernel
theorem d_M_group_32 : decode b_M_group 32 = .ok (.iload_n 1, 1) := by decide +kernel
theorem d_M_group_33 : decode b_M_group 33 = .ok (.iconst 1, 1) := by decide +kernel
theorem d_M_group_34 : decode b_M_group 34 = .ok (.isub, 1) := by decide +kernel
theorem d_M_group_35 : decode b_M_group 35 = .ok (.iload_n 2, 1) := by decide +kernel
theorem d_M_group_36 : decode b_M_group 36 = .ok (.irem, 1) := by decide +kernel
theorem d_M_group_37 : decode b_M_group 37 = .ok (.ifCond .ne 17, 3) := by decide +kernel
theorem d_M_group_40 : decode b_M_group 40 = .ok (.iload_n 3, 1) := by decide +kernel
theorem d_M_group_41 : decode b_M_group 41 = .ok (.iconst 2, 1) := by decide +kernel
theorem d_M_group_42 : decode b_M_group 42 = .ok (.if_icmp .lt 12, 3) := by decide +kernel
theorem d_M_group_45 : decode b_M_group 45 = .ok (.iload_n 3, 1) := by decide +kernel
theorem d_M_group_46 : decode b_M_group 46 = .ok (.iload_n 1, 1) := by decide +kernel
theorem d_M_group_47 : decode b_M_group 47 = .ok (.if_icmp .ge 7, 3) := by decide +kernel
theorem d_M_group_50 : decode b_M_group 50 = .ok (.iconst 1, 1) := by decide +kernel
theorem d_M_group_51 : decode b_M_group 51 = .ok (.goto 4, 3) := by decide +kernel
theorem d_M_group_54 : decode b_M_group 54 = .ok (.iconst 0, 1) := by decide +kernel
theorem d_M_group_55 : decode b_M_group 55 = .ok (.istore 4, 2) := by decide +kernel
theorem d_M_group_57 : decode b_M_group 57 = .ok (.iload 4, 2) := by decide +kernel
theorem d_M_group_59 : decode b_M_group 59 = .ok (.ifCond .eq 42, 3) := by decide +kernel
theorem d_M_group_62 : decode b_M_group 62 = .ok (.aload_n 0, 1) := by decide +kernel
theorem d_M_group_63 : decode b_M_group 63 = .ok (.getfield 13, 3) := by decide +kernel
theorem d_M_group_66 : decode b_M_group 66 = .ok (.istore 5, 2) := by decide +kernel
theorem d_M_group_68 : decode b_M_group 68 = .ok (.aload_n 0, 1) := by decide +kernel
theorem d_M_group_69 : decode b_M_group 69 = .ok (.iload_n 1, 1) := by decide +kernel
theorem d_M_group_70 : decode b_M_group 70 = .ok (.putfield 13, 3) := by decide +kernel
theorem d_M_group_73 : decode b_M_group 73 = .ok (.aload_n 0, 1) := by decide +kernel
theorem d_M_group_74 : decode b_M_group 74 = .ok (.iload_n 3, 1) := by decide +kernel
theorem d_M_group_75 : decode b_M_group 75 = .ok (.iload_n 2, 1) := by decide +kernel
theorem d_M_group_76 : decode b_M_group 76 = .ok (.invokevirtual 68, 3) := by decide +kernel
theorem d_M_group_79 : decode b_M_group 79 = .ok (.iconst 1, 1) := by decide +kernel
theorem d_M_group_80 : decode b_M_group 80 = .ok (.if_icmp .ne 7, 3) := by decide +kernel
theorem d_M_group_83 : decode b_M_group 83 = .ok (.iconst 1, 1) := by decide +kernel
theorem d_M_group_84 : decode b_M_group 84 = .ok (.goto 4, 3) := by decide +kernel
theorem d_M_group_87 : decode b_M_group 87 = .ok (.iconst 0, 1) := by decide +kernel
theorem d_M_group_88 : decode b_M_group 88 = .ok (.istore 4, 2) := by decide +kernel
theorem d_M_group_90 : decode b_M_group 90 = .ok (.iload 4, 2) := by decide +kernel
theorem d_M_group_92 : decode b_M_group 92 = .ok (.ifCond .ne 9, 3) := by decide +kernel
theorem d_M_group_95 : decode b_M_group 95 = .ok (.aload_n 0, 1) := by decide +kernel
theorem d_M_group_96 : decode b_M_group 96 = .ok (.iload 5, 2) := by decide +kernel
theorem d_M_group_98 : decode b_M_group 98 = .ok (.putfield 13, 3) := by decide +kernel
theorem d_M_group_101 : decode b_M_group 101 = .ok (.aload_n 0, 1) := by decide +kernel
theorem d_M_group_102 : decode b_M_group 102 = .ok (.iload 4, 2) := by decide +kernel
theorem d_M_group_104 : decode b_M_group 104 = .ok (.ifCond .eq 7, 3) := by decide +kernel
theorem d_M_group_107 : decode b_M_group 107 = .ok (.iconst 0, 1) := by decide +kernel
theorem d_M_group_108 : decode b_M_group 108 = .ok (.goto 4, 3) := by decide +kernel
theorem d_M_group_111 : decode b_M_group 111 = .ok (.iconst 1, 1) := by decide +kernel
theorem d_M_group_112 : decode b_M_group 112 = .ok (.putfield 7, 3) := by decide +kernel
theorem d_M_group_115 : decode b_M_group 115 = .ok (.iload 4, 2) := by decide +kernel
theorem d_M_group_117 : decode b_M_group 117 = .ok (.ifCond .ne 4, 3) := by decide +kernel
theorem d_M_group_120 : decode b_M_group 120 = .ok (.return_, 1) := by decide +kernel
theorem d_M_group_121 : decode b_M_group 121 = .ok (.aload_n 0, 1) := by decide +kernel
theorem d_M_group_122 : decode b_M_group 122 = .ok (.iload_n 2, 1) := by decide +kernel
theorem d_M_group_123 : decode b_M_group 123 = .ok (.putfield 16, 3) := by decide +kernel
theorem d_M_group_126 : decode b_M_group 126 = .ok (.aload_n 0, 1) := by decide +kernel
theorem d_M_group_127 : decode b_M_group 127 = .ok (.iload_n 3, 1) := by decide +kernel
theorem d_M_group_128 : decode b_M_group 128 = .ok (.putfield 19, 3) := by decide +kernel
theorem d_M_group_131 : decode b_M_group 131 = .ok (.aload_n 0, 1) := by decide +kernel
theorem d_M_group_132 : decode b_M_group 132 = .ok (.iconst 0, 1) := by decide +kernel
theorem d_M_group_133 : decode b_M_group 133 = .ok (.putfield 22, 3) := by decide +kernel
theorem d_M_group_136 : decode b_M_group 136 = .ok (.aload_n 0, 1) := by decide +kernel
theorem d_M_group_137 : decode b_M_group 137 = .ok (.iconst 0, 1) := by decide +kernel
theorem d_M_group_138 : decode b_M_group 138 = .ok (.putfield 26, 3) := by decide +kernel
theorem d_M_group_141 : decode b_M_group 141 = .ok (.aload_n 0, 1) := by decide +kernel
theorem d_M_group_142 : decode b_M_group 142 = .ok (.iconst 0, 1) := by decide +kernel
theorem d_M_group_143 : decode b_M_group 143 = .ok (.putfield 61, 3) := by decide +kernel
theorem d_M_group_146 : decode b_M_group 146 = .ok (.return_, 1) := by decide +kernel
theorem d_M_prime_0 : decode b_M_prime 0 = .ok (.iload_n 0, 1) := by decide +kernel
theorem d_M_prime_1 : decode b_M_prime 1 = .ok (.iconst 2, 1) := by decide +kernel
theorem d_M_prime_2 : decode b_M_prime 2 = .ok (.if_icmp .ge 5, 3) := by decide +kernel
theorem d_M_prime_5 : decode b_M_prime 5 = .ok (.iconst 0, 1) := by decide +kernel
theorem d_M_prime_6 : decode b_M_prime 6 = .ok (.ireturn, 1) := by decide +kernel
theorem d_M_prime_7 : decode b_M_prime 7 = .ok (.iconst 2, 1) := by decide +kernel
theorem d_M_prime_8 : decode b_M_prime 8 = .ok (.istore_n 1, 1) := by decide +kernel
theorem d_M_prime_9 : decode b_M_prime 9 = .ok (.iload_n 1, 1) := by decide +kernel
theorem d_M_prime_10 : decode b_M_prime 10 = .ok (.ldc 67, 2) := by decide +kernel
theorem d_M_prime_12 : decode b_M_prime 12 = .ok (.if_icmp .ge 24, 3) := by decide +kernel
theorem d_M_prime_15 : decode b_M_prime 15 = .ok (.iload_n 1, 1) := by decide +kernel
theorem d_M_prime_16 : decode b_M_prime 16 = .ok (.iload_n 1, 1) := by decide +kernel
theorem d_M_prime_17 : decode b_M_prime 17 = .ok (.imul, 1) := by decide +kernel
theorem d_M_prime_18 : decode b_M_prime 18 = .ok (.iload_n 0, 1) := by decide +kernel
theorem d_M_prime_19 : decode b_M_prime 19 = .ok (.if_icmp .gt 17, 3) := by decide +kernel
theorem d_M_prime_22 : decode b_M_prime 22 = .ok (.iload_n 0, 1) := by decide +kernel
theorem d_M_prime_23 : decode b_M_prime 23 = .ok (.iload_n 1, 1) := by decide +kernel
theorem d_M_prime_24 : decode b_M_prime 24 = .ok (.irem, 1) := by decide +kernel
theorem d_M_prime_25 : decode b_M_prime 25 = .ok (.ifCond .ne 5, 3) := by decide +kernel
theorem d_M_prime_28 : decode b_M_prime 28 = .ok (.iconst 0, 1) := by decide +kernel
theorem d_M_prime_29 : decode b_M_prime 29 = .ok (.ireturn, 1) := by decide +kernel
theorem d_M_prime_30 : decode b_M_prime 30 = .ok (.iinc 1 1, 3) := by decide +kernel
theorem d_M_prime_33 : decode b_M_prime 33 = .ok (.goto (-24), 3) := by decide +kernel
theorem d_M_prime_36 : decode b_M_prime 36 = .ok (.iconst 1, 1) := by decide +kernel
theorem d_M_prime_37 : decode b_M_prime 37 = .ok (.ireturn, 1) := by decide +kernel
theorem d_M_power_0 : decode b_M_power 0 = .ok (.lconst 1, 1) := by decide +kernel
theorem d_M_power_1 : decode b_M_power 1 = .ok (.lstore_n 3, 1) := by decide +kernel
theorem d_M_power_2 : decode b_M_power 2 = .ok (.iload_n 1, 1) := by decide +kernel
theorem d_M_power_3 : decode b_M_power 3 = .ok (.aload_n 0, 1) := by decide +kernel
theorem d_M_power_4 : decode b_M_power 4 = .ok (.getfield 13, 3) := by decide +kernel
theorem d_M_power_7 : decode b_M_power 7 = .ok (.irem, 1) := by decide +kernel
theorem d_M_power_8 : decode b_M_power 8 = .ok (.i2l, 1) := by decide +kernel
theorem d_M_power_9 : decode b_M_power 9 = .ok (.lstore 5, 2) := by decide +kernel
theorem d_M_power_11 : decode b_M_power 11 = .ok (.iload_n 2, 1) := by decide +kernel
theorem d_M_power_12 : decode b_M_power 12 = .ok (.istore 7, 2) := by decide +kernel
theorem d_M_power_14 : decode b_M_power 14 = .ok (.iload 7, 2) := by decide +kernel
theorem d_M_power_16 : decode b_M_power 16 = .ok (.ifCond .le 44, 3) := by decide +kernel
theorem d_M_power_19 : decode b_M_power 19 = .ok (.iload 7, 2) := by decide +kernel
theorem d_M_power_21 : decode b_M_power 21 = .ok (.iconst 1, 1) := by decide +kernel
theorem d_M_power_22 : decode b_M_power 22 = .ok (.iand, 1) := by decide +kernel
theorem d_M_power_23 : decode b_M_power 23 = .ok (.iconst 1, 1) := by decide +kernel
theorem d_M_power_24 : decode b_M_power 24 = .ok (.if_icmp .ne 14, 3) := by decide +kernel
theorem d_M_power_27 : decode b_M_power 27 = .ok (.lload_n 3, 1) := by decide +kernel
theorem d_M_power_28 : decode b_M_power 28 = .ok (.lload 5, 2) := by decide +kernel
theorem d_M_power_30 : decode b_M_power 30 = .ok (.lmul, 1) := by decide +kernel
theorem d_M_power_31 : decode b_M_power 31 = .ok (.aload_n 0, 1) := by decide +kernel
theorem d_M_power_32 : decode b_M_power 32 = .ok (.getfield 13, 3) := by decide +kernel
theorem d_M_power_35 : decode b_M_power 35 = .ok (.i2l, 1) := by decide +kernel
theorem d_M_power_36 : decode b_M_power 36 = .ok (.lrem, 1) := by decide +kernel
theorem d_M_power_37 : decode b_M_power 37 = .ok (.lstore_n 3, 1) := by decide +kernel
theorem d_M_power_38 : decode b_M_power 38 = .ok (.lload 5, 2) := by decide +kernel
theorem d_M_power_40 : decode b_M_power 40 = .ok (.lload 5, 2) := by decide +kernel
theorem d_M_power_42 : decode b_M_power 42 = .ok (.lmul, 1) := by decide +kernel
theorem d_M_power_43 : decode b_M_power 43 = .ok (.aload_n 0, 1) := by decide +kernel
theorem d_M_power_44 : decode b_M_power 44 = .ok (.getfield 13, 3) := by decide +kernel
theorem d_M_power_47 : decode b_M_power 47 = .ok (.i2l, 1) := by decide +kernel
theorem d_M_power_48 : decode b_M_power 48 = .ok (.lrem, 1) := by decide +kernel
theorem d_M_power_49 : decode b_M_power 49 = .ok (.lstore 5, 2) := by decide +kernel
theorem d_M_power_51 : decode b_M_power 51 = .ok (.iload 7, 2) := by decide +kernel
theorem d_M_power_53 : decode b_M_power 53 = .ok (.iconst 1, 1) := by decide +kernel
theorem d_M_power_54 : decode b_M_power 54 = .ok (.ishr, 1) := by decide +kernel
theorem d_M_power_55 : decode b_M_power 55 = .ok (.istore 7, 2) := by decide +kernel
theorem d_M_power_57 : decode b_M_power 57 = .ok (.goto (-43), 3) := by decide +kernel
theorem d_M_power_60 : decode b_M_power 60 = .ok (.lload_n 3, 1) := by decide +kernel
theorem d_M_power_61 : decode b_M_power 61 = .ok (.l2i, 1) := by decide +kernel
theorem d_M_power_62 : decode b_M_power 62 = .ok (.ireturn, 1) := by decide +kernel
end
section
theorem d_M_found_0 : decode b_M_found 0 = .ok (.aload_n 0, 1) := by decide +kernel
theorem d_M_found_1 : decode b_M_found 1 = .ok (.aload_n 0, 1) := by decide +kernel
theorem d_M_found_2 : decode b_M_found 2 = .ok (.getfield 13, 3) := by decide +kernel
theorem d_M_found_5 : decode b_M_found 5 = .ok (.ifCond .ne 7, 3) := by decide +kernel
theorem d_M_found_8 : decode b_M_found 8 = .ok (.iconst 1, 1) := by decide +kernel
theorem d_M_found_9 : decode b_M_found 9 = .ok (.goto 41, 3) := by decide +kernel
theorem d_M_found_12 : decode b_M_found 12 = .ok (.aload_n 0, 1) := by decide +kernel
theorem d_M_found_13 : decode b_M_found 13 = .ok (.iload_n 1, 1) := by decide +kernel
theorem d_M_found_14 : decode b_M_found 14 = .ok (.invokevirtual 87, 3) := by decide +kernel
theorem d_M_found_17 : decode b_M_found 17 = .ok (.ifCond .ne 28, 3) := by decide +kernel
theorem d_M_found_20 : decode b_M_found 20 = .ok (.aload_n 0, 1) := by decide +kernel
theorem d_M_found_21 : decode b_M_found 21 = .ok (.iload_n 2, 1) := by decide +kernel
theorem d_M_found_22 : decode b_M_found 22 = .ok (.invokevirtual 87, 3) := by decide +kernel
theorem d_M_found_25 : decode b_M_found 25 = .ok (.ifCond .ne 20, 3) := by decide +kernel
theorem d_M_found_28 : decode b_M_found 28 = .ok (.aload_n 0, 1) := by decide +kernel
theorem d_M_found_29 : decode b_M_found 29 = .ok (.iload_n 3, 1) := by decide +kernel
theorem d_M_found_30 : decode b_M_found 30 = .ok (.invokevirtual 87, 3) := by decide +kernel
theorem d_M_found_33 : decode b_M_found 33 = .ok (.ifCond .ne 12, 3) := by decide +kernel
theorem d_M_found_36 : decode b_M_found 36 = .ok (.aload_n 0, 1) := by decide +kernel
theorem d_M_found_37 : decode b_M_found 37 = .ok (.iload 4, 2) := by decide +kernel
theorem d_M_found_39 : decode b_M_found 39 = .ok (.invokevirtual 87, 3) := by decide +kernel
theorem d_M_found_42 : decode b_M_found 42 = .ok (.ifCond .eq 7, 3) := by decide +kernel
theorem d_M_found_45 : decode b_M_found 45 = .ok (.iconst 2, 1) := by decide +kernel
theorem d_M_found_46 : decode b_M_found 46 = .ok (.goto 4, 3) := by decide +kernel
theorem d_M_found_49 : decode b_M_found 49 = .ok (.iconst 0, 1) := by decide +kernel
theorem d_M_found_50 : decode b_M_found 50 = .ok (.putfield 7, 3) := by decide +kernel
theorem d_M_found_53 : decode b_M_found 53 = .ok (.aload_n 0, 1) := by decide +kernel
theorem d_M_found_54 : decode b_M_found 54 = .ok (.getfield 7, 3) := by decide +kernel
theorem d_M_found_57 : decode b_M_found 57 = .ok (.ifCond .eq 4, 3) := by decide +kernel
theorem d_M_found_60 : decode b_M_found 60 = .ok (.return_, 1) := by decide +kernel
theorem d_M_found_61 : decode b_M_found 61 = .ok (.aload_n 0, 1) := by decide +kernel
theorem d_M_found_62 : decode b_M_found 62 = .ok (.getfield 46, 3) := by decide +kernel
theorem d_M_found_65 : decode b_M_found 65 = .ok (.iconst 0, 1) := by decide +kernel
theorem d_M_found_66 : decode b_M_found 66 = .ok (.iload_n 1, 1) := by decide +kernel
theorem d_M_found_67 : decode b_M_found 67 = .ok (.iastore, 1) := by decide +kernel
theorem d_M_found_68 : decode b_M_found 68 = .ok (.aload_n 0, 1) := by decide +kernel
theorem d_M_found_69 : decode b_M_found 69 = .ok (.getfield 46, 3) := by decide +kernel
theorem d_M_found_72 : decode b_M_found 72 = .ok (.iconst 1, 1) := by decide +kernel
theorem d_M_found_73 : decode b_M_found 73 = .ok (.iload_n 2, 1) := by decide +kernel
theorem d_M_found_74 : decode b_M_found 74 = .ok (.iastore, 1) := by decide +kernel
theorem d_M_found_75 : decode b_M_found 75 = .ok (.aload_n 0, 1) := by decide +kernel
theorem d_M_found_76 : decode b_M_found 76 = .ok (.getfield 46, 3) := by decide +kernel
theorem d_M_found_79 : decode b_M_found 79 = .ok (.iconst 2, 1) := by decide +kernel
theorem d_M_found_80 : decode b_M_found 80 = .ok (.iload_n 3, 1) := by decide +kernel
theorem d_M_found_81 : decode b_M_found 81 = .ok (.iastore, 1) := by decide +kernel
theorem d_M_found_82 : decode b_M_found 82 = .ok (.aload_n 0, 1) := by decide +kernel
theorem d_M_found_83 : decode b_M_found 83 = .ok (.getfield 46, 3) := by decide +kernel
theorem d_M_found_86 : decode b_M_found 86 = .ok (.iconst 3, 1) := by decide +kernel
theorem d_M_found_87 : decode b_M_found 87 = .ok (.iload 4, 2) := by decide +kernel
theorem d_M_found_89 : decode b_M_found 89 = .ok (.iastore, 1) := by decide +kernel
theorem d_M_found_90 : decode b_M_found 90 = .ok (.iconst 0, 1) := by decide +kernel
theorem d_M_found_91 : decode b_M_found 91 = .ok (.istore 5, 2) := by decide +kernel
theorem d_M_found_93 : decode b_M_found 93 = .ok (.iload 5, 2) := by decide +kernel
theorem d_M_found_95 : decode b_M_found 95 = .ok (.iconst 4, 1) := by decide +kernel
theorem d_M_found_96 : decode b_M_found 96 = .ok (.if_icmp .ge 31, 3) := by decide +kernel
theorem d_M_found_99 : decode b_M_found 99 = .ok (.aload_n 0, 1) := by decide +kernel
theorem d_M_found_100 : decode b_M_found 100 = .ok (.getfield 37, 3) := by decide +kernel
theorem d_M_found_103 : decode b_M_found 103 = .ok (.iload 5, 2) := by decide +kernel
theorem d_M_found_105 : decode b_M_found 105 = .ok (.aload_n 0, 1) := by decide +kernel
theorem d_M_found_106 : decode b_M_found 106 = .ok (.aload_n 0, 1) := by decide +kernel
theorem d_M_found_107 : decode b_M_found 107 = .ok (.getfield 19, 3) := by decide +kernel
theorem d_M_found_110 : decode b_M_found 110 = .ok (.aload_n 0, 1) := by decide +kernel
theorem d_M_found_111 : decode b_M_found 111 = .ok (.getfield 46, 3) := by decide +kernel
theorem d_M_found_114 : decode b_M_found 114 = .ok (.iload 5, 2) := by decide +kernel
theorem d_M_found_116 : decode b_M_found 116 = .ok (.iaload, 1) := by decide +kernel
theorem d_M_found_117 : decode b_M_found 117 = .ok (.invokevirtual 68, 3) := by decide +kernel
theorem d_M_found_120 : decode b_M_found 120 = .ok (.iastore, 1) := by decide +kernel
theorem d_M_found_121 : decode b_M_found 121 = .ok (.iinc 5 1, 3) := by decide +kernel
theorem d_M_found_124 : decode b_M_found 124 = .ok (.goto (-31), 3) := by decide +kernel
theorem d_M_found_127 : decode b_M_found 127 = .ok (.iconst 1, 1) := by decide +kernel
theorem d_M_found_128 : decode b_M_found 128 = .ok (.istore 5, 2) := by decide +kernel
theorem d_M_found_130 : decode b_M_found 130 = .ok (.iload 5, 2) := by decide +kernel
theorem d_M_found_132 : decode b_M_found 132 = .ok (.bipush 8, 2) := by decide +kernel
theorem d_M_found_134 : decode b_M_found 134 = .ok (.if_icmp .ge 31, 3) := by decide +kernel
theorem d_M_found_137 : decode b_M_found 137 = .ok (.aload_n 0, 1) := by decide +kernel
theorem d_M_found_138 : decode b_M_found 138 = .ok (.getfield 29, 3) := by decide +kernel
theorem d_M_found_141 : decode b_M_found 141 = .ok (.iload 5, 2) := by decide +kernel
theorem d_M_found_143 : decode b_M_found 143 = .ok (.aload_n 0, 1) := by decide +kernel
theorem d_M_found_144 : decode b_M_found 144 = .ok (.iconst 0, 1) := by decide +kernel
theorem d_M_found_145 : decode b_M_found 145 = .ok (.iload 5, 2) := by decide +kernel
theorem d_M_found_147 : decode b_M_found 147 = .ok (.invokevirtual 76, 3) := by decide +kernel
theorem d_M_found_150 : decode b_M_found 150 = .ok (.iastore, 1) := by decide +kernel
theorem d_M_found_151 : decode b_M_found 151 = .ok (.aload_n 0, 1) := by decide +kernel
theorem d_M_found_152 : decode b_M_found 152 = .ok (.getfield 33, 3) := by decide +kernel
theorem d_M_found_155 : decode b_M_found 155 = .ok (.iload 5, 2) := by decide +kernel
theorem d_M_found_157 : decode b_M_found 157 = .ok (.iconst 0, 1) := by decide +kernel
theorem d_M_found_158 : decode b_M_found 158 = .ok (.bastore, 1) := by decide +kernel
theorem d_M_found_159 : decode b_M_found 159 = .ok (.iinc 5 1, 3) := by decide +kernel
theorem d_M_found_162 : decode b_M_found 162 = .ok (.goto (-32), 3) := by decide +kernel
theorem d_M_found_165 : decode b_M_found 165 = .ok (.aload_n 0, 1) := by decide +kernel
theorem d_M_found_166 : decode b_M_found 166 = .ok (.iconst 1, 1) := by decide +kernel
theorem d_M_found_167 : decode b_M_found 167 = .ok (.putfield 22, 3) := by decide +kernel
theorem d_M_found_170 : decode b_M_found 170 = .ok (.aload_n 0, 1) := by decide +kernel
theorem d_M_found_171 : decode b_M_found 171 = .ok (.iconst 0, 1) := by decide +kernel
theorem d_M_found_172 : decode b_M_found 172 = .ok (.putfield 61, 3) := by decide +kernel
theorem d_M_found_175 : decode b_M_found 175 = .ok (.aload_n 0, 1) := by decide +kernel
theorem d_M_found_176 : decode b_M_found 176 = .ok (.iconst 0, 1) := by decide +kernel
theorem d_M_found_177 : decode b_M_found 177 = .ok (.putfield 26, 3) := by decide +kernel
theorem d_M_found_180 : decode b_M_found 180 = .ok (.aload_n 0, 1) := by decide +kernel
theorem d_M_found_181 : decode b_M_found 181 = .ok (.invokevirtual 90, 3) := by decide +kernel
theorem d_M_found_184 : decode b_M_found 184 = .ok (.return_, 1) := by decide +kernel
theorem d_M_noNumber_0 : decode b_M_noNumber 0 = .ok (.iload_n 1, 1) := by decide +kernel
theorem d_M_noNumber_1 : decode b_M_noNumber 1 = .ok (.ifCond .lt 11, 3) := by decide +kernel
theorem d_M_noNumber_4 : decode b_M_noNumber 4 = .ok (.iload_n 1, 1) := by decide +kernel
theorem d_M_noNumber_5 : decode b_M_noNumber 5 = .ok (.aload_n 0, 1) := by decide +kernel
theorem d_M_noNumber_6 : decode b_M_noNumber 6 = .ok (.getfield 16, 3) := by decide +kernel
theorem d_M_noNumber_9 : decode b_M_noNumber 9 = .ok (.if_icmp .lt 7, 3) := by decide +kernel
theorem d_M_noNumber_12 : decode b_M_noNumber 12 = .ok (.iconst 1, 1) := by decide +kernel
theorem d_M_noNumber_13 : decode b_M_noNumber 13 = .ok (.goto 4, 3) := by decide +kernel
theorem d_M_noNumber_16 : decode b_M_noNumber 16 = .ok (.iconst 0, 1) := by decide +kernel
theorem d_M_noNumber_17 : decode b_M_noNumber 17 = .ok (.ireturn, 1) := by decide +kernel
theorem d_M_valueAt_0 : decode b_M_valueAt 0 = .ok (.iconst 0, 1) := by decide +kernel
theorem d_M_valueAt_1 : decode b_M_valueAt 1 = .ok (.istore_n 3, 1) := by decide +kernel
theorem d_M_valueAt_2 : decode b_M_valueAt 2 = .ok (.iconst 3, 1) := by decide +kernel
theorem d_M_valueAt_3 : decode b_M_valueAt 3 = .ok (.istore 4, 2) := by decide +kernel
theorem d_M_valueAt_5 : decode b_M_valueAt 5 = .ok (.iload 4, 2) := by decide +kernel
theorem d_M_valueAt_7 : decode b_M_valueAt 7 = .ok (.ifCond .lt 30, 3) := by decide +kernel
theorem d_M_valueAt_10 : decode b_M_valueAt 10 = .ok (.iload_n 3, 1) := by decide +kernel
theorem d_M_valueAt_11 : decode b_M_valueAt 11 = .ok (.iload_n 2, 1) := by decide +kernel
theorem d_M_valueAt_12 : decode b_M_valueAt 12 = .ok (.imul, 1) := by decide +kernel
theorem d_M_valueAt_13 : decode b_M_valueAt 13 = .ok (.aload_n 0, 1) := by decide +kernel
theorem d_M_valueAt_14 : decode b_M_valueAt 14 = .ok (.getfield 46, 3) := by decide +kernel
theorem d_M_valueAt_17 : decode b_M_valueAt 17 = .ok (.iconst 4, 1) := by decide +kernel
theorem d_M_valueAt_18 : decode b_M_valueAt 18 = .ok (.iload_n 1, 1) := by decide +kernel
theorem d_M_valueAt_19 : decode b_M_valueAt 19 = .ok (.imul, 1) := by decide +kernel
theorem d_M_valueAt_20 : decode b_M_valueAt 20 = .ok (.iload 4, 2) := by decide +kernel
theorem d_M_valueAt_22 : decode b_M_valueAt 22 = .ok (.iadd, 1) := by decide +kernel
theorem d_M_valueAt_23 : decode b_M_valueAt 23 = .ok (.iaload, 1) := by decide +kernel
theorem d_M_valueAt_24 : decode b_M_valueAt 24 = .ok (.iadd, 1) := by decide +kernel
theorem d_M_valueAt_25 : decode b_M_valueAt 25 = .ok (.aload_n 0, 1) := by decide +kernel
theorem d_M_valueAt_26 : decode b_M_valueAt 26 = .ok (.getfield 16, 3) := by decide +kernel
theorem d_M_valueAt_29 : decode b_M_valueAt 29 = .ok (.irem, 1) := by decide +kernel
theorem d_M_valueAt_30 : decode b_M_valueAt 30 = .ok (.istore_n 3, 1) := by decide +kernel
theorem d_M_valueAt_31 : decode b_M_valueAt 31 = .ok (.iinc 4 (-1), 3) := by decide +kernel
theorem d_M_valueAt_34 : decode b_M_valueAt 34 = .ok (.goto (-29), 3) := by decide +kernel
theorem d_M_valueAt_37 : decode b_M_valueAt 37 = .ok (.iload_n 3, 1) := by decide +kernel
theorem d_M_valueAt_38 : decode b_M_valueAt 38 = .ok (.ireturn, 1) := by decide +kernel
theorem d_M_newWeek_0 : decode b_M_newWeek 0 = .ok (.aload_n 0, 1) := by decide +kernel
theorem d_M_newWeek_1 : decode b_M_newWeek 1 = .ok (.dup, 1) := by decide +kernel
theorem d_M_newWeek_2 : decode b_M_newWeek 2 = .ok (.getfield 26, 3) := by decide +kernel
theorem d_M_newWeek_5 : decode b_M_newWeek 5 = .ok (.iconst 1, 1) := by decide +kernel
theorem d_M_newWeek_6 : decode b_M_newWeek 6 = .ok (.iadd, 1) := by decide +kernel
theorem d_M_newWeek_7 : decode b_M_newWeek 7 = .ok (.putfield 26, 3) := by decide +kernel
theorem d_M_newWeek_10 : decode b_M_newWeek 10 = .ok (.iconst 0, 1) := by decide +kernel
theorem d_M_newWeek_11 : decode b_M_newWeek 11 = .ok (.istore_n 1, 1) := by decide +kernel
theorem d_M_newWeek_12 : decode b_M_newWeek 12 = .ok (.iload_n 1, 1) := by decide +kernel
theorem d_M_newWeek_13 : decode b_M_newWeek 13 = .ok (.bipush 8, 2) := by decide +kernel
theorem d_M_newWeek_15 : decode b_M_newWeek 15 = .ok (.if_icmp .ge 23, 3) := by decide +kernel
theorem d_M_newWeek_18 : decode b_M_newWeek 18 = .ok (.aload_n 0, 1) := by decide +kernel
theorem d_M_newWeek_19 : decode b_M_newWeek 19 = .ok (.getfield 40, 3) := by decide +kernel
theorem d_M_newWeek_22 : decode b_M_newWeek 22 = .ok (.iload_n 1, 1) := by decide +kernel
theorem d_M_newWeek_23 : decode b_M_newWeek 23 = .ok (.iconst 0, 1) := by decide +kernel
theorem d_M_newWeek_24 : decode b_M_newWeek 24 = .ok (.iastore, 1) := by decide +kernel
theorem d_M_newWeek_25 : decode b_M_newWeek 25 = .ok (.aload_n 0, 1) := by decide +kernel
theorem d_M_newWeek_26 : decode b_M_newWeek 26 = .ok (.getfield 43, 3) := by decide +kernel
theorem d_M_newWeek_29 : decode b_M_newWeek 29 = .ok (.iload_n 1, 1) := by decide +kernel
theorem d_M_newWeek_30 : decode b_M_newWeek 30 = .ok (.iconst 0, 1) := by decide +kernel
theorem d_M_newWeek_31 : decode b_M_newWeek 31 = .ok (.bastore, 1) := by decide +kernel
theorem d_M_newWeek_32 : decode b_M_newWeek 32 = .ok (.iinc 1 1, 3) := by decide +kernel
theorem d_M_newWeek_35 : decode b_M_newWeek 35 = .ok (.goto (-23), 3) := by decide +kernel
theorem d_M_newWeek_38 : decode b_M_newWeek 38 = .ok (.iconst 0, 1) := by decide +kernel
theorem d_M_newWeek_39 : decode b_M_newWeek 39 = .ok (.istore_n 1, 1) := by decide +kernel
theorem d_M_newWeek_40 : decode b_M_newWeek 40 = .ok (.iload_n 1, 1) := by decide +kernel
theorem d_M_newWeek_41 : decode b_M_newWeek 41 = .ok (.bipush 64, 2) := by decide +kernel
theorem d_M_newWeek_43 : decode b_M_newWeek 43 = .ok (.if_icmp .ge 23, 3) := by decide +kernel
theorem d_M_newWeek_46 : decode b_M_newWeek 46 = .ok (.aload_n 0, 1) := by decide +kernel
theorem d_M_newWeek_47 : decode b_M_newWeek 47 = .ok (.getfield 55, 3) := by decide +kernel
theorem d_M_newWeek_50 : decode b_M_newWeek 50 = .ok (.iload_n 1, 1) := by decide +kernel
theorem d_M_newWeek_51 : decode b_M_newWeek 51 = .ok (.iconst 0, 1) := by decide +kernel
theorem d_M_newWeek_52 : decode b_M_newWeek 52 = .ok (.bastore, 1) := by decide +kernel
theorem d_M_newWeek_53 : decode b_M_newWeek 53 = .ok (.aload_n 0, 1) := by decide +kernel
theorem d_M_newWeek_54 : decode b_M_newWeek 54 = .ok (.getfield 58, 3) := by decide +kernel
theorem d_M_newWeek_57 : decode b_M_newWeek 57 = .ok (.iload_n 1, 1) := by decide +kernel
theorem d_M_newWeek_58 : decode b_M_newWeek 58 = .ok (.iconst 0, 1) := by decide +kernel
theorem d_M_newWeek_59 : decode b_M_newWeek 59 = .ok (.bastore, 1) := by decide +kernel
theorem d_M_newWeek_60 : decode b_M_newWeek 60 = .ok (.iinc 1 1, 3) := by decide +kernel
theorem d_M_newWeek_63 : decode b_M_newWeek 63 = .ok (.goto (-23), 3) := by decide +kernel
theorem d_M_newWeek_66 : decode b_M_newWeek 66 = .ok (.return_, 1) := by decide +kernel
theorem d_M_fault_0 : decode b_M_fault 0 = .ok (.aload_n 0, 1) := by decide +kernel
theorem d_M_fault_1 : decode b_M_fault 1 = .ok (.aload_n 0, 1) := by decide +kernel
theorem d_M_fault_2 : decode b_M_fault 2 = .ok (.iload_n 1, 1) := by decide +kernel
theorem d_M_fault_3 : decode b_M_fault 3 = .ok (.invokevirtual 96, 3) := by decide +kernel
theorem d_M_fault_6 : decode b_M_fault 6 = .ok (.putfield 7, 3) := by decide +kernel
theorem d_M_fault_9 : decode b_M_fault 9 = .ok (.aload_n 0, 1) := by decide +kernel
theorem d_M_fault_10 : decode b_M_fault 10 = .ok (.getfield 7, 3) := by decide +kernel
theorem d_M_fault_13 : decode b_M_fault 13 = .ok (.ifCond .ne 18, 3) := by decide +kernel
theorem d_M_fault_16 : decode b_M_fault 16 = .ok (.iload_n 2, 1) := by decide +kernel
theorem d_M_fault_17 : decode b_M_fault 17 = .ok (.ifCond .lt 9, 3) := by decide +kernel
theorem d_M_fault_20 : decode b_M_fault 20 = .ok (.iload_n 2, 1) := by decide +kernel
theorem d_M_fault_21 : decode b_M_fault 21 = .ok (.bipush 6, 2) := by decide +kernel
theorem d_M_fault_23 : decode b_M_fault 23 = .ok (.if_icmp .le 8, 3) := by decide +kernel
theorem d_M_fault_26 : decode b_M_fault 26 = .ok (.aload_n 0, 1) := by decide +kernel
theorem d_M_fault_27 : decode b_M_fault 27 = .ok (.iconst 3, 1) := by decide +kernel
theorem d_M_fault_28 : decode b_M_fault 28 = .ok (.putfield 7, 3) := by decide +kernel
theorem d_M_fault_31 : decode b_M_fault 31 = .ok (.aload_n 0, 1) := by decide +kernel
theorem d_M_fault_32 : decode b_M_fault 32 = .ok (.getfield 7, 3) := by decide +kernel
theorem d_M_fault_35 : decode b_M_fault 35 = .ok (.ifCond .eq 4, 3) := by decide +kernel
theorem d_M_fault_38 : decode b_M_fault 38 = .ok (.return_, 1) := by decide +kernel
theorem d_M_fault_39 : decode b_M_fault 39 = .ok (.iload_n 2, 1) := by decide +kernel
theorem d_M_fault_40 : decode b_M_fault 40 = .ok (.ifCond .le 7, 3) := by decide +kernel
theorem d_M_fault_43 : decode b_M_fault 43 = .ok (.iconst 1, 1) := by decide +kernel
theorem d_M_fault_44 : decode b_M_fault 44 = .ok (.goto 4, 3) := by decide +kernel
theorem d_M_fault_47 : decode b_M_fault 47 = .ok (.iconst 0, 1) := by decide +kernel
theorem d_M_fault_48 : decode b_M_fault 48 = .ok (.istore_n 3, 1) := by decide +kernel
theorem d_M_fault_49 : decode b_M_fault 49 = .ok (.iconst 1, 1) := by decide +kernel
theorem d_M_fault_50 : decode b_M_fault 50 = .ok (.istore 4, 2) := by decide +kernel
theorem d_M_fault_52 : decode b_M_fault 52 = .ok (.iload 4, 2) := by decide +kernel
theorem d_M_fault_54 : decode b_M_fault 54 = .ok (.bipush 8, 2) := by decide +kernel
theorem d_M_fault_56 : decode b_M_fault 56 = .ok (.if_icmp .ge 33, 3) := by decide +kernel
theorem d_M_fault_59 : decode b_M_fault 59 = .ok (.iload_n 3, 1) := by decide +kernel
theorem d_M_fault_60 : decode b_M_fault 60 = .ok (.iload 4, 2) := by decide +kernel
theorem d_M_fault_62 : decode b_M_fault 62 = .ok (.iload_n 1, 1) := by decide +kernel
theorem d_M_fault_63 : decode b_M_fault 63 = .ok (.if_icmp .eq 17, 3) := by decide +kernel
theorem d_M_fault_66 : decode b_M_fault 66 = .ok (.aload_n 0, 1) := by decide +kernel
theorem d_M_fault_67 : decode b_M_fault 67 = .ok (.getfield 40, 3) := by decide +kernel
theorem d_M_fault_70 : decode b_M_fault 70 = .ok (.iload 4, 2) := by decide +kernel
theorem d_M_fault_72 : decode b_M_fault 72 = .ok (.iaload, 1) := by decide +kernel
theorem d_M_fault_73 : decode b_M_fault 73 = .ok (.ifCond .le 7, 3) := by decide +kernel
theorem d_M_fault_76 : decode b_M_fault 76 = .ok (.iconst 1, 1) := by decide +kernel
theorem d_M_fault_77 : decode b_M_fault 77 = .ok (.goto 4, 3) := by decide +kernel
theorem d_M_fault_80 : decode b_M_fault 80 = .ok (.iconst 0, 1) := by decide +kernel
theorem d_M_fault_81 : decode b_M_fault 81 = .ok (.iadd, 1) := by decide +kernel
theorem d_M_fault_82 : decode b_M_fault 82 = .ok (.istore_n 3, 1) := by decide +kernel
theorem d_M_fault_83 : decode b_M_fault 83 = .ok (.iinc 4 1, 3) := by decide +kernel
theorem d_M_fault_86 : decode b_M_fault 86 = .ok (.goto (-34), 3) := by decide +kernel
theorem d_M_fault_89 : decode b_M_fault 89 = .ok (.aload_n 0, 1) := by decide +kernel
theorem d_M_fault_90 : decode b_M_fault 90 = .ok (.getfield 43, 3) := by decide +kernel
theorem d_M_fault_93 : decode b_M_fault 93 = .ok (.iload_n 1, 1) := by decide +kernel
theorem d_M_fault_94 : decode b_M_fault 94 = .ok (.baload, 1) := by decide +kernel
theorem d_M_fault_95 : decode b_M_fault 95 = .ok (.ifCond .ne 12, 3) := by decide +kernel
theorem d_M_fault_98 : decode b_M_fault 98 = .ok (.iload_n 2, 1) := by decide +kernel
theorem d_M_fault_99 : decode b_M_fault 99 = .ok (.ifCond .le 14, 3) := by decide +kernel
theorem d_M_fault_102 : decode b_M_fault 102 = .ok (.iload_n 3, 1) := by decide +kernel
theorem d_M_fault_103 : decode b_M_fault 103 = .ok (.iconst 3, 1) := by decide +kernel
theorem d_M_fault_104 : decode b_M_fault 104 = .ok (.if_icmp .le 9, 3) := by decide +kernel
theorem d_M_fault_107 : decode b_M_fault 107 = .ok (.aload_n 0, 1) := by decide +kernel
theorem d_M_fault_108 : decode b_M_fault 108 = .ok (.iconst 4, 1) := by decide +kernel
theorem d_M_fault_109 : decode b_M_fault 109 = .ok (.putfield 7, 3) := by decide +kernel
theorem d_M_fault_112 : decode b_M_fault 112 = .ok (.return_, 1) := by decide +kernel
theorem d_M_fault_113 : decode b_M_fault 113 = .ok (.aload_n 0, 1) := by decide +kernel
theorem d_M_fault_114 : decode b_M_fault 114 = .ok (.getfield 40, 3) := by decide +kernel
theorem d_M_fault_117 : decode b_M_fault 117 = .ok (.iload_n 1, 1) := by decide +kernel
theorem d_M_fault_118 : decode b_M_fault 118 = .ok (.iload_n 2, 1) := by decide +kernel
theorem d_M_fault_119 : decode b_M_fault 119 = .ok (.iastore, 1) := by decide +kernel
theorem d_M_fault_120 : decode b_M_fault 120 = .ok (.return_, 1) := by decide +kernel
theorem d_M_first_0 : decode b_M_first 0 = .ok (.aload_n 0, 1) := by decide +kernel
theorem d_M_first_1 : decode b_M_first 1 = .ok (.getfield 22, 3) := by decide +kernel
theorem d_M_first_4 : decode b_M_first 4 = .ok (.ifCond .ne 7, 3) := by decide +kernel
theorem d_M_first_7 : decode b_M_first 7 = .ok (.iconst 1, 1) := by decide +kernel
theorem d_M_first_8 : decode b_M_first 8 = .ok (.goto 15, 3) := by decide +kernel
theorem d_M_first_11 : decode b_M_first 11 = .ok (.iload_n 1, 1) := by decide +kernel
theorem d_M_first_12 : decode b_M_first 12 = .ok (.invokestatic 93, 3) := by decide +kernel
theorem d_M_first_15 : decode b_M_first 15 = .ok (.ifCond .eq 7, 3) := by decide +kernel
theorem d_M_first_18 : decode b_M_first 18 = .ok (.iconst 2, 1) := by decide +kernel
theorem d_M_first_19 : decode b_M_first 19 = .ok (.goto 4, 3) := by decide +kernel
theorem d_M_first_22 : decode b_M_first 22 = .ok (.iconst 0, 1) := by decide +kernel
theorem d_M_first_23 : decode b_M_first 23 = .ok (.ireturn, 1) := by decide +kernel
theorem d_M_noSeat_0 : decode b_M_noSeat 0 = .ok (.iload_n 0, 1) := by decide +kernel
theorem d_M_noSeat_1 : decode b_M_noSeat 1 = .ok (.iconst 1, 1) := by decide +kernel
theorem d_M_noSeat_2 : decode b_M_noSeat 2 = .ok (.if_icmp .lt 9, 3) := by decide +kernel
theorem d_M_noSeat_5 : decode b_M_noSeat 5 = .ok (.iload_n 0, 1) := by decide +kernel
theorem d_M_noSeat_6 : decode b_M_noSeat 6 = .ok (.bipush 7, 2) := by decide +kernel
theorem d_M_noSeat_8 : decode b_M_noSeat 8 = .ok (.if_icmp .le 7, 3) := by decide +kernel
theorem d_M_noSeat_11 : decode b_M_noSeat 11 = .ok (.iconst 1, 1) := by decide +kernel
theorem d_M_noSeat_12 : decode b_M_noSeat 12 = .ok (.goto 4, 3) := by decide +kernel
theorem d_M_noSeat_15 : decode b_M_noSeat 15 = .ok (.iconst 0, 1) := by decide +kernel
theorem d_M_noSeat_16 : decode b_M_noSeat 16 = .ok (.ireturn, 1) := by decide +kernel
theorem d_M_deal_0 : decode b_M_deal 0 = .ok (.aload_n 0, 1) := by decide +kernel
theorem d_M_deal_1 : decode b_M_deal 1 = .ok (.aload_n 0, 1) := by decide +kernel
theorem d_M_deal_2 : decode b_M_deal 2 = .ok (.iload_n 1, 1) := by decide +kernel
theorem d_M_deal_3 : decode b_M_deal 3 = .ok (.invokevirtual 96, 3) := by decide +kernel
theorem d_M_deal_6 : decode b_M_deal 6 = .ok (.putfield 7, 3) := by decide +kernel
theorem d_M_deal_9 : decode b_M_deal 9 = .ok (.aload_n 0, 1) := by decide +kernel
theorem d_M_deal_10 : decode b_M_deal 10 = .ok (.getfield 7, 3) := by decide +kernel
theorem d_M_deal_13 : decode b_M_deal 13 = .ok (.ifCond .ne 33, 3) := by decide +kernel
theorem d_M_deal_16 : decode b_M_deal 16 = .ok (.aload_n 0, 1) := by decide +kernel
theorem d_M_deal_17 : decode b_M_deal 17 = .ok (.iload_n 2, 1) := by decide +kernel
theorem d_M_deal_18 : decode b_M_deal 18 = .ok (.invokevirtual 87, 3) := by decide +kernel
theorem d_M_deal_21 : decode b_M_deal 21 = .ok (.ifCond .ne 20, 3) := by decide +kernel
theorem d_M_deal_24 : decode b_M_deal 24 = .ok (.aload_n 0, 1) := by decide +kernel
theorem d_M_deal_25 : decode b_M_deal 25 = .ok (.iload_n 3, 1) := by decide +kernel
theorem d_M_deal_26 : decode b_M_deal 26 = .ok (.invokevirtual 87, 3) := by decide +kernel
theorem d_M_deal_29 : decode b_M_deal 29 = .ok (.ifCond .ne 12, 3) := by decide +kernel
theorem d_M_deal_32 : decode b_M_deal 32 = .ok (.aload_n 0, 1) := by decide +kernel
theorem d_M_deal_33 : decode b_M_deal 33 = .ok (.iload 4, 2) := by decide +kernel
theorem d_M_deal_35 : decode b_M_deal 35 = .ok (.invokevirtual 87, 3) := by decide +kernel
theorem d_M_deal_38 : decode b_M_deal 38 = .ok (.ifCond .eq 8, 3) := by decide +kernel
theorem d_M_deal_41 : decode b_M_deal 41 = .ok (.aload_n 0, 1) := by decide +kernel
theorem d_M_deal_42 : decode b_M_deal 42 = .ok (.iconst 3, 1) := by decide +kernel
theorem d_M_deal_43 : decode b_M_deal 43 = .ok (.putfield 7, 3) := by decide +kernel
theorem d_M_deal_46 : decode b_M_deal 46 = .ok (.aload_n 0, 1) := by decide +kernel
theorem d_M_deal_47 : decode b_M_deal 47 = .ok (.getfield 7, 3) := by decide +kernel
theorem d_M_deal_50 : decode b_M_deal 50 = .ok (.ifCond .ne 27, 3) := by decide +kernel
theorem d_M_deal_53 : decode b_M_deal 53 = .ok (.aload_n 0, 1) := by decide +kernel
theorem d_M_deal_54 : decode b_M_deal 54 = .ok (.getfield 43, 3) := by decide +kernel
theorem d_M_deal_57 : decode b_M_deal 57 = .ok (.iload_n 1, 1) := by decide +kernel
theorem d_M_deal_58 : decode b_M_deal 58 = .ok (.baload, 1) := by decide +kernel
theorem d_M_deal_59 : decode b_M_deal 59 = .ok (.ifCond .ne 13, 3) := by decide +kernel
theorem d_M_deal_62 : decode b_M_deal 62 = .ok (.aload_n 0, 1) := by decide +kernel
theorem d_M_deal_63 : decode b_M_deal 63 = .ok (.getfield 61, 3) := by decide +kernel
theorem d_M_deal_66 : decode b_M_deal 66 = .ok (.sipush 250, 3) := by decide +kernel
theorem d_M_deal_69 : decode b_M_deal 69 = .ok (.if_icmp .ne 8, 3) := by decide +kernel
theorem d_M_deal_72 : decode b_M_deal 72 = .ok (.aload_n 0, 1) := by decide +kernel
theorem d_M_deal_73 : decode b_M_deal 73 = .ok (.iconst 4, 1) := by decide +kernel
theorem d_M_deal_74 : decode b_M_deal 74 = .ok (.putfield 7, 3) := by decide +kernel
theorem d_M_deal_77 : decode b_M_deal 77 = .ok (.aload_n 0, 1) := by decide +kernel
theorem d_M_deal_78 : decode b_M_deal 78 = .ok (.getfield 7, 3) := by decide +kernel
theorem d_M_deal_81 : decode b_M_deal 81 = .ok (.ifCond .eq 4, 3) := by decide +kernel
theorem d_M_deal_84 : decode b_M_deal 84 = .ok (.return_, 1) := by decide +kernel
theorem d_M_deal_85 : decode b_M_deal 85 = .ok (.aload_n 0, 1) := by decide +kernel
theorem d_M_deal_86 : decode b_M_deal 86 = .ok (.getfield 43, 3) := by decide +kernel
theorem d_M_deal_89 : decode b_M_deal 89 = .ok (.iload_n 1, 1) := by decide +kernel
theorem d_M_deal_90 : decode b_M_deal 90 = .ok (.iconst 1, 1) := by decide +kernel
theorem d_M_deal_91 : decode b_M_deal 91 = .ok (.bastore, 1) := by decide +kernel
theorem d_M_deal_92 : decode b_M_deal 92 = .ok (.aload_n 0, 1) := by decide +kernel
theorem d_M_deal_93 : decode b_M_deal 93 = .ok (.getfield 40, 3) := by decide +kernel
theorem d_M_deal_96 : decode b_M_deal 96 = .ok (.iload_n 1, 1) := by decide +kernel
theorem d_M_deal_97 : decode b_M_deal 97 = .ok (.iaload, 1) := by decide +kernel
theorem d_M_deal_98 : decode b_M_deal 98 = .ok (.iconst 1, 1) := by decide +kernel
theorem d_M_deal_99 : decode b_M_deal 99 = .ok (.if_icmp .ne 4, 3) := by decide +kernel
theorem d_M_deal_102 : decode b_M_deal 102 = .ok (.return_, 1) := by decide +kernel
theorem d_M_deal_103 : decode b_M_deal 103 = .ok (.aload_n 0, 1) := by decide +kernel
theorem d_M_deal_104 : decode b_M_deal 104 = .ok (.getfield 46, 3) := by decide +kernel
theorem d_M_deal_107 : decode b_M_deal 107 = .ok (.iconst 4, 1) := by decide +kernel
theorem d_M_deal_108 : decode b_M_deal 108 = .ok (.iload_n 1, 1) := by decide +kernel
theorem d_M_deal_109 : decode b_M_deal 109 = .ok (.imul, 1) := by decide +kernel
theorem d_M_deal_110 : decode b_M_deal 110 = .ok (.aload_n 0, 1) := by decide +kernel
theorem d_M_deal_111 : decode b_M_deal 111 = .ok (.getfield 40, 3) := by decide +kernel
theorem d_M_deal_114 : decode b_M_deal 114 = .ok (.iload_n 1, 1) := by decide +kernel
theorem d_M_deal_115 : decode b_M_deal 115 = .ok (.iaload, 1) := by decide +kernel
theorem d_M_deal_116 : decode b_M_deal 116 = .ok (.iconst 3, 1) := by decide +kernel
theorem d_M_deal_117 : decode b_M_deal 117 = .ok (.if_icmp .ne 7, 3) := by decide +kernel
theorem d_M_deal_120 : decode b_M_deal 120 = .ok (.iconst 1, 1) := by decide +kernel
theorem d_M_deal_121 : decode b_M_deal 121 = .ok (.goto 4, 3) := by decide +kernel
theorem d_M_deal_124 : decode b_M_deal 124 = .ok (.iconst 0, 1) := by decide +kernel
theorem d_M_deal_125 : decode b_M_deal 125 = .ok (.iastore, 1) := by decide +kernel
theorem d_M_deal_126 : decode b_M_deal 126 = .ok (.aload_n 0, 1) := by decide +kernel
theorem d_M_deal_127 : decode b_M_deal 127 = .ok (.getfield 46, 3) := by decide +kernel
theorem d_M_deal_130 : decode b_M_deal 130 = .ok (.iconst 4, 1) := by decide +kernel
theorem d_M_deal_131 : decode b_M_deal 131 = .ok (.iload_n 1, 1) := by decide +kernel
theorem d_M_deal_132 : decode b_M_deal 132 = .ok (.imul, 1) := by decide +kernel
theorem d_M_deal_133 : decode b_M_deal 133 = .ok (.iconst 1, 1) := by decide +kernel
theorem d_M_deal_134 : decode b_M_deal 134 = .ok (.iadd, 1) := by decide +kernel
theorem d_M_deal_135 : decode b_M_deal 135 = .ok (.iload_n 2, 1) := by decide +kernel
theorem d_M_deal_136 : decode b_M_deal 136 = .ok (.iastore, 1) := by decide +kernel
theorem d_M_deal_137 : decode b_M_deal 137 = .ok (.aload_n 0, 1) := by decide +kernel
theorem d_M_deal_138 : decode b_M_deal 138 = .ok (.getfield 46, 3) := by decide +kernel
theorem d_M_deal_141 : decode b_M_deal 141 = .ok (.iconst 4, 1) := by decide +kernel
theorem d_M_deal_142 : decode b_M_deal 142 = .ok (.iload_n 1, 1) := by decide +kernel
theorem d_M_deal_143 : decode b_M_deal 143 = .ok (.imul, 1) := by decide +kernel
theorem d_M_deal_144 : decode b_M_deal 144 = .ok (.iconst 2, 1) := by decide +kernel
theorem d_M_deal_145 : decode b_M_deal 145 = .ok (.iadd, 1) := by decide +kernel
theorem d_M_deal_146 : decode b_M_deal 146 = .ok (.iload_n 3, 1) := by decide +kernel
theorem d_M_deal_147 : decode b_M_deal 147 = .ok (.iastore, 1) := by decide +kernel
theorem d_M_deal_148 : decode b_M_deal 148 = .ok (.aload_n 0, 1) := by decide +kernel
theorem d_M_deal_149 : decode b_M_deal 149 = .ok (.getfield 46, 3) := by decide +kernel
theorem d_M_deal_152 : decode b_M_deal 152 = .ok (.iconst 4, 1) := by decide +kernel
theorem d_M_deal_153 : decode b_M_deal 153 = .ok (.iload_n 1, 1) := by decide +kernel
theorem d_M_deal_154 : decode b_M_deal 154 = .ok (.imul, 1) := by decide +kernel
theorem d_M_deal_155 : decode b_M_deal 155 = .ok (.iconst 3, 1) := by decide +kernel
theorem d_M_deal_156 : decode b_M_deal 156 = .ok (.iadd, 1) := by decide +kernel
theorem d_M_deal_157 : decode b_M_deal 157 = .ok (.iload 4, 2) := by decide +kernel
theorem d_M_deal_159 : decode b_M_deal 159 = .ok (.iastore, 1) := by decide +kernel
theorem d_M_deal_160 : decode b_M_deal 160 = .ok (.iconst 0, 1) := by decide +kernel
theorem d_M_deal_161 : decode b_M_deal 161 = .ok (.istore 5, 2) := by decide +kernel
theorem d_M_deal_163 : decode b_M_deal 163 = .ok (.iload 5, 2) := by decide +kernel
theorem d_M_deal_165 : decode b_M_deal 165 = .ok (.iconst 4, 1) := by decide +kernel
theorem d_M_deal_166 : decode b_M_deal 166 = .ok (.if_icmp .ge 39, 3) := by decide +kernel
theorem d_M_deal_169 : decode b_M_deal 169 = .ok (.aload_n 0, 1) := by decide +kernel
theorem d_M_deal_170 : decode b_M_deal 170 = .ok (.getfield 49, 3) := by decide +kernel
theorem d_M_deal_173 : decode b_M_deal 173 = .ok (.iconst 4, 1) := by decide +kernel
theorem d_M_deal_174 : decode b_M_deal 174 = .ok (.iload_n 1, 1) := by decide +kernel
theorem d_M_deal_175 : decode b_M_deal 175 = .ok (.imul, 1) := by decide +kernel
theorem d_M_deal_176 : decode b_M_deal 176 = .ok (.iload 5, 2) := by decide +kernel
theorem d_M_deal_178 : decode b_M_deal 178 = .ok (.iadd, 1) := by decide +kernel
theorem d_M_deal_179 : decode b_M_deal 179 = .ok (.aload_n 0, 1) := by decide +kernel
theorem d_M_deal_180 : decode b_M_deal 180 = .ok (.aload_n 0, 1) := by decide +kernel
theorem d_M_deal_181 : decode b_M_deal 181 = .ok (.getfield 19, 3) := by decide +kernel
theorem d_M_deal_184 : decode b_M_deal 184 = .ok (.aload_n 0, 1) := by decide +kernel
theorem d_M_deal_185 : decode b_M_deal 185 = .ok (.getfield 46, 3) := by decide +kernel
theorem d_M_deal_188 : decode b_M_deal 188 = .ok (.iconst 4, 1) := by decide +kernel
theorem d_M_deal_189 : decode b_M_deal 189 = .ok (.iload_n 1, 1) := by decide +kernel
theorem d_M_deal_190 : decode b_M_deal 190 = .ok (.imul, 1) := by decide +kernel
theorem d_M_deal_191 : decode b_M_deal 191 = .ok (.iload 5, 2) := by decide +kernel
theorem d_M_deal_193 : decode b_M_deal 193 = .ok (.iadd, 1) := by decide +kernel
theorem d_M_deal_194 : decode b_M_deal 194 = .ok (.iaload, 1) := by decide +kernel
theorem d_M_deal_195 : decode b_M_deal 195 = .ok (.invokevirtual 68, 3) := by decide +kernel
theorem d_M_deal_198 : decode b_M_deal 198 = .ok (.iastore, 1) := by decide +kernel
theorem d_M_deal_199 : decode b_M_deal 199 = .ok (.iinc 5 1, 3) := by decide +kernel
theorem d_M_deal_202 : decode b_M_deal 202 = .ok (.goto (-39), 3) := by decide +kernel
theorem d_M_deal_205 : decode b_M_deal 205 = .ok (.aload_n 0, 1) := by decide +kernel
theorem d_M_deal_206 : decode b_M_deal 206 = .ok (.iconst 1, 1) := by decide +kernel
theorem d_M_deal_207 : decode b_M_deal 207 = .ok (.iload_n 1, 1) := by decide +kernel
theorem d_M_deal_208 : decode b_M_deal 208 = .ok (.iconst 0, 1) := by decide +kernel
theorem d_M_deal_209 : decode b_M_deal 209 = .ok (.iconst 0, 1) := by decide +kernel
theorem d_M_deal_210 : decode b_M_deal 210 = .ok (.invokevirtual 99, 3) := by decide +kernel
theorem d_M_deal_213 : decode b_M_deal 213 = .ok (.iconst 1, 1) := by decide +kernel
theorem d_M_deal_214 : decode b_M_deal 214 = .ok (.istore 5, 2) := by decide +kernel
theorem d_M_deal_216 : decode b_M_deal 216 = .ok (.iload 5, 2) := by decide +kernel
theorem d_M_deal_218 : decode b_M_deal 218 = .ok (.bipush 8, 2) := by decide +kernel
theorem d_M_deal_220 : decode b_M_deal 220 = .ok (.if_icmp .ge 28, 3) := by decide +kernel
theorem d_M_deal_223 : decode b_M_deal 223 = .ok (.aload_n 0, 1) := by decide +kernel
theorem d_M_deal_224 : decode b_M_deal 224 = .ok (.getfield 52, 3) := by decide +kernel
theorem d_M_deal_227 : decode b_M_deal 227 = .ok (.bipush 8, 2) := by decide +kernel
theorem d_M_deal_229 : decode b_M_deal 229 = .ok (.iload_n 1, 1) := by decide +kernel
theorem d_M_deal_230 : decode b_M_deal 230 = .ok (.imul, 1) := by decide +kernel
theorem d_M_deal_231 : decode b_M_deal 231 = .ok (.iload 5, 2) := by decide +kernel
theorem d_M_deal_233 : decode b_M_deal 233 = .ok (.iadd, 1) := by decide +kernel
theorem d_M_deal_234 : decode b_M_deal 234 = .ok (.aload_n 0, 1) := by decide +kernel
theorem d_M_deal_235 : decode b_M_deal 235 = .ok (.iload_n 1, 1) := by decide +kernel
theorem d_M_deal_236 : decode b_M_deal 236 = .ok (.iload 5, 2) := by decide +kernel
theorem d_M_deal_238 : decode b_M_deal 238 = .ok (.invokevirtual 103, 3) := by decide +kernel
theorem d_M_deal_241 : decode b_M_deal 241 = .ok (.iastore, 1) := by decide +kernel
theorem d_M_deal_242 : decode b_M_deal 242 = .ok (.iinc 5 1, 3) := by decide +kernel
theorem d_M_deal_245 : decode b_M_deal 245 = .ok (.goto (-29), 3) := by decide +kernel
theorem d_M_deal_248 : decode b_M_deal 248 = .ok (.return_, 1) := by decide +kernel
theorem d_M_put_0 : decode b_M_put 0 = .ok (.aload_n 0, 1) := by decide +kernel
theorem d_M_put_1 : decode b_M_put 1 = .ok (.getfield 64, 3) := by decide +kernel
theorem d_M_put_4 : decode b_M_put 4 = .ok (.bipush 9, 2) := by decide +kernel
theorem d_M_put_6 : decode b_M_put 6 = .ok (.aload_n 0, 1) := by decide +kernel
theorem d_M_put_7 : decode b_M_put 7 = .ok (.getfield 61, 3) := by decide +kernel
theorem d_M_put_10 : decode b_M_put 10 = .ok (.imul, 1) := by decide +kernel
theorem d_M_put_11 : decode b_M_put 11 = .ok (.iload_n 1, 1) := by decide +kernel
theorem d_M_put_12 : decode b_M_put 12 = .ok (.iastore, 1) := by decide +kernel
theorem d_M_put_13 : decode b_M_put 13 = .ok (.aload_n 0, 1) := by decide +kernel
theorem d_M_put_14 : decode b_M_put 14 = .ok (.getfield 64, 3) := by decide +kernel
theorem d_M_put_17 : decode b_M_put 17 = .ok (.bipush 9, 2) := by decide +kernel
theorem d_M_put_19 : decode b_M_put 19 = .ok (.aload_n 0, 1) := by decide +kernel
theorem d_M_put_20 : decode b_M_put 20 = .ok (.getfield 61, 3) := by decide +kernel
theorem d_M_put_23 : decode b_M_put 23 = .ok (.imul, 1) := by decide +kernel
theorem d_M_put_24 : decode b_M_put 24 = .ok (.iconst 1, 1) := by decide +kernel
theorem d_M_put_25 : decode b_M_put 25 = .ok (.iadd, 1) := by decide +kernel
theorem d_M_put_26 : decode b_M_put 26 = .ok (.iload_n 2, 1) := by decide +kernel
theorem d_M_put_27 : decode b_M_put 27 = .ok (.iastore, 1) := by decide +kernel
theorem d_M_put_28 : decode b_M_put 28 = .ok (.aload_n 0, 1) := by decide +kernel
theorem d_M_put_29 : decode b_M_put 29 = .ok (.getfield 64, 3) := by decide +kernel
theorem d_M_put_32 : decode b_M_put 32 = .ok (.bipush 9, 2) := by decide +kernel
theorem d_M_put_34 : decode b_M_put 34 = .ok (.aload_n 0, 1) := by decide +kernel
theorem d_M_put_35 : decode b_M_put 35 = .ok (.getfield 61, 3) := by decide +kernel
theorem d_M_put_38 : decode b_M_put 38 = .ok (.imul, 1) := by decide +kernel
theorem d_M_put_39 : decode b_M_put 39 = .ok (.iconst 2, 1) := by decide +kernel
theorem d_M_put_40 : decode b_M_put 40 = .ok (.iadd, 1) := by decide +kernel
theorem d_M_put_41 : decode b_M_put 41 = .ok (.iload_n 3, 1) := by decide +kernel
theorem d_M_put_42 : decode b_M_put 42 = .ok (.iastore, 1) := by decide +kernel
theorem d_M_put_43 : decode b_M_put 43 = .ok (.aload_n 0, 1) := by decide +kernel
theorem d_M_put_44 : decode b_M_put 44 = .ok (.getfield 64, 3) := by decide +kernel
theorem d_M_put_47 : decode b_M_put 47 = .ok (.bipush 9, 2) := by decide +kernel
theorem d_M_put_49 : decode b_M_put 49 = .ok (.aload_n 0, 1) := by decide +kernel
theorem d_M_put_50 : decode b_M_put 50 = .ok (.getfield 61, 3) := by decide +kernel
theorem d_M_put_53 : decode b_M_put 53 = .ok (.imul, 1) := by decide +kernel
end
section
theorem d_M_put_54 : decode b_M_put 54 = .ok (.iconst 3, 1) := by decide +kernel
theorem d_M_put_55 : decode b_M_put 55 = .ok (.iadd, 1) := by decide +kernel
theorem d_M_put_56 : decode b_M_put 56 = .ok (.iload 4, 2) := by decide +kernel
theorem d_M_put_58 : decode b_M_put 58 = .ok (.iastore, 1) := by decide +kernel
theorem d_M_put_59 : decode b_M_put 59 = .ok (.aload_n 0, 1) := by decide +kernel
theorem d_M_put_60 : decode b_M_put 60 = .ok (.getfield 64, 3) := by decide +kernel
theorem d_M_put_63 : decode b_M_put 63 = .ok (.bipush 9, 2) := by decide +kernel
theorem d_M_put_65 : decode b_M_put 65 = .ok (.aload_n 0, 1) := by decide +kernel
theorem d_M_put_66 : decode b_M_put 66 = .ok (.getfield 61, 3) := by decide +kernel
theorem d_M_put_69 : decode b_M_put 69 = .ok (.imul, 1) := by decide +kernel
theorem d_M_put_70 : decode b_M_put 70 = .ok (.iconst 4, 1) := by decide +kernel
theorem d_M_put_71 : decode b_M_put 71 = .ok (.iadd, 1) := by decide +kernel
theorem d_M_put_72 : decode b_M_put 72 = .ok (.aload_n 0, 1) := by decide +kernel
theorem d_M_put_73 : decode b_M_put 73 = .ok (.getfield 26, 3) := by decide +kernel
theorem d_M_put_76 : decode b_M_put 76 = .ok (.iastore, 1) := by decide +kernel
theorem d_M_put_77 : decode b_M_put 77 = .ok (.iconst 0, 1) := by decide +kernel
theorem d_M_put_78 : decode b_M_put 78 = .ok (.istore 5, 2) := by decide +kernel
theorem d_M_put_80 : decode b_M_put 80 = .ok (.iload 5, 2) := by decide +kernel
theorem d_M_put_82 : decode b_M_put 82 = .ok (.iconst 4, 1) := by decide +kernel
theorem d_M_put_83 : decode b_M_put 83 = .ok (.if_icmp .ge 46, 3) := by decide +kernel
theorem d_M_put_86 : decode b_M_put 86 = .ok (.aload_n 0, 1) := by decide +kernel
theorem d_M_put_87 : decode b_M_put 87 = .ok (.getfield 64, 3) := by decide +kernel
theorem d_M_put_90 : decode b_M_put 90 = .ok (.bipush 9, 2) := by decide +kernel
theorem d_M_put_92 : decode b_M_put 92 = .ok (.aload_n 0, 1) := by decide +kernel
theorem d_M_put_93 : decode b_M_put 93 = .ok (.getfield 61, 3) := by decide +kernel
theorem d_M_put_96 : decode b_M_put 96 = .ok (.imul, 1) := by decide +kernel
theorem d_M_put_97 : decode b_M_put 97 = .ok (.iconst 5, 1) := by decide +kernel
theorem d_M_put_98 : decode b_M_put 98 = .ok (.iadd, 1) := by decide +kernel
theorem d_M_put_99 : decode b_M_put 99 = .ok (.iload 5, 2) := by decide +kernel
theorem d_M_put_101 : decode b_M_put 101 = .ok (.iadd, 1) := by decide +kernel
theorem d_M_put_102 : decode b_M_put 102 = .ok (.iload_n 1, 1) := by decide +kernel
theorem d_M_put_103 : decode b_M_put 103 = .ok (.iconst 1, 1) := by decide +kernel
theorem d_M_put_104 : decode b_M_put 104 = .ok (.if_icmp .ne 17, 3) := by decide +kernel
theorem d_M_put_107 : decode b_M_put 107 = .ok (.aload_n 0, 1) := by decide +kernel
theorem d_M_put_108 : decode b_M_put 108 = .ok (.getfield 49, 3) := by decide +kernel
theorem d_M_put_111 : decode b_M_put 111 = .ok (.iconst 4, 1) := by decide +kernel
theorem d_M_put_112 : decode b_M_put 112 = .ok (.iload_n 2, 1) := by decide +kernel
theorem d_M_put_113 : decode b_M_put 113 = .ok (.imul, 1) := by decide +kernel
theorem d_M_put_114 : decode b_M_put 114 = .ok (.iload 5, 2) := by decide +kernel
theorem d_M_put_116 : decode b_M_put 116 = .ok (.iadd, 1) := by decide +kernel
theorem d_M_put_117 : decode b_M_put 117 = .ok (.iaload, 1) := by decide +kernel
theorem d_M_put_118 : decode b_M_put 118 = .ok (.goto 4, 3) := by decide +kernel
theorem d_M_put_121 : decode b_M_put 121 = .ok (.iconst 0, 1) := by decide +kernel
theorem d_M_put_122 : decode b_M_put 122 = .ok (.iastore, 1) := by decide +kernel
theorem d_M_put_123 : decode b_M_put 123 = .ok (.iinc 5 1, 3) := by decide +kernel
theorem d_M_put_126 : decode b_M_put 126 = .ok (.goto (-46), 3) := by decide +kernel
theorem d_M_put_129 : decode b_M_put 129 = .ok (.aload_n 0, 1) := by decide +kernel
theorem d_M_put_130 : decode b_M_put 130 = .ok (.dup, 1) := by decide +kernel
theorem d_M_put_131 : decode b_M_put 131 = .ok (.getfield 61, 3) := by decide +kernel
theorem d_M_put_134 : decode b_M_put 134 = .ok (.iconst 1, 1) := by decide +kernel
theorem d_M_put_135 : decode b_M_put 135 = .ok (.iadd, 1) := by decide +kernel
theorem d_M_put_136 : decode b_M_put 136 = .ok (.putfield 61, 3) := by decide +kernel
theorem d_M_put_139 : decode b_M_put 139 = .ok (.return_, 1) := by decide +kernel
theorem d_M_sent_0 : decode b_M_sent 0 = .ok (.aload_n 0, 1) := by decide +kernel
theorem d_M_sent_1 : decode b_M_sent 1 = .ok (.getfield 40, 3) := by decide +kernel
theorem d_M_sent_4 : decode b_M_sent 4 = .ok (.iload_n 1, 1) := by decide +kernel
theorem d_M_sent_5 : decode b_M_sent 5 = .ok (.iaload, 1) := by decide +kernel
theorem d_M_sent_6 : decode b_M_sent 6 = .ok (.istore_n 3, 1) := by decide +kernel
theorem d_M_sent_7 : decode b_M_sent 7 = .ok (.iload_n 3, 1) := by decide +kernel
theorem d_M_sent_8 : decode b_M_sent 8 = .ok (.iconst 2, 1) := by decide +kernel
theorem d_M_sent_9 : decode b_M_sent 9 = .ok (.if_icmp .eq 14, 3) := by decide +kernel
theorem d_M_sent_12 : decode b_M_sent 12 = .ok (.iload_n 3, 1) := by decide +kernel
theorem d_M_sent_13 : decode b_M_sent 13 = .ok (.iconst 5, 1) := by decide +kernel
theorem d_M_sent_14 : decode b_M_sent 14 = .ok (.if_icmp .eq 9, 3) := by decide +kernel
theorem d_M_sent_17 : decode b_M_sent 17 = .ok (.iload_n 3, 1) := by decide +kernel
theorem d_M_sent_18 : decode b_M_sent 18 = .ok (.bipush 6, 2) := by decide +kernel
theorem d_M_sent_20 : decode b_M_sent 20 = .ok (.if_icmp .ne 17, 3) := by decide +kernel
theorem d_M_sent_23 : decode b_M_sent 23 = .ok (.iload_n 2, 1) := by decide +kernel
theorem d_M_sent_24 : decode b_M_sent 24 = .ok (.iload_n 1, 1) := by decide +kernel
theorem d_M_sent_25 : decode b_M_sent 25 = .ok (.bipush 7, 2) := by decide +kernel
theorem d_M_sent_27 : decode b_M_sent 27 = .ok (.irem, 1) := by decide +kernel
theorem d_M_sent_28 : decode b_M_sent 28 = .ok (.iconst 1, 1) := by decide +kernel
theorem d_M_sent_29 : decode b_M_sent 29 = .ok (.iadd, 1) := by decide +kernel
theorem d_M_sent_30 : decode b_M_sent 30 = .ok (.if_icmp .ne 7, 3) := by decide +kernel
theorem d_M_sent_33 : decode b_M_sent 33 = .ok (.iconst 1, 1) := by decide +kernel
theorem d_M_sent_34 : decode b_M_sent 34 = .ok (.goto 4, 3) := by decide +kernel
theorem d_M_sent_37 : decode b_M_sent 37 = .ok (.iconst 0, 1) := by decide +kernel
theorem d_M_sent_38 : decode b_M_sent 38 = .ok (.istore 4, 2) := by decide +kernel
theorem d_M_sent_40 : decode b_M_sent 40 = .ok (.aload_n 0, 1) := by decide +kernel
theorem d_M_sent_41 : decode b_M_sent 41 = .ok (.iload_n 1, 1) := by decide +kernel
theorem d_M_sent_42 : decode b_M_sent 42 = .ok (.iload_n 2, 1) := by decide +kernel
theorem d_M_sent_43 : decode b_M_sent 43 = .ok (.invokevirtual 76, 3) := by decide +kernel
theorem d_M_sent_46 : decode b_M_sent 46 = .ok (.iload 4, 2) := by decide +kernel
theorem d_M_sent_48 : decode b_M_sent 48 = .ok (.ifCond .eq 7, 3) := by decide +kernel
theorem d_M_sent_51 : decode b_M_sent 51 = .ok (.iconst 1, 1) := by decide +kernel
theorem d_M_sent_52 : decode b_M_sent 52 = .ok (.goto 4, 3) := by decide +kernel
theorem d_M_sent_55 : decode b_M_sent 55 = .ok (.iconst 0, 1) := by decide +kernel
theorem d_M_sent_56 : decode b_M_sent 56 = .ok (.iadd, 1) := by decide +kernel
theorem d_M_sent_57 : decode b_M_sent 57 = .ok (.aload_n 0, 1) := by decide +kernel
theorem d_M_sent_58 : decode b_M_sent 58 = .ok (.getfield 16, 3) := by decide +kernel
theorem d_M_sent_61 : decode b_M_sent 61 = .ok (.irem, 1) := by decide +kernel
theorem d_M_sent_62 : decode b_M_sent 62 = .ok (.ireturn, 1) := by decide +kernel
theorem d_M_look_0 : decode b_M_look 0 = .ok (.aload_n 0, 1) := by decide +kernel
theorem d_M_look_1 : decode b_M_look 1 = .ok (.aload_n 0, 1) := by decide +kernel
theorem d_M_look_2 : decode b_M_look 2 = .ok (.iload_n 1, 1) := by decide +kernel
theorem d_M_look_3 : decode b_M_look 3 = .ok (.invokevirtual 96, 3) := by decide +kernel
theorem d_M_look_6 : decode b_M_look 6 = .ok (.putfield 7, 3) := by decide +kernel
theorem d_M_look_9 : decode b_M_look 9 = .ok (.aload_n 0, 1) := by decide +kernel
theorem d_M_look_10 : decode b_M_look 10 = .ok (.getfield 7, 3) := by decide +kernel
theorem d_M_look_13 : decode b_M_look 13 = .ok (.ifCond .eq 5, 3) := by decide +kernel
theorem d_M_look_16 : decode b_M_look 16 = .ok (.iconst 0, 1) := by decide +kernel
theorem d_M_look_17 : decode b_M_look 17 = .ok (.ireturn, 1) := by decide +kernel
theorem d_M_look_18 : decode b_M_look 18 = .ok (.iconst 0, 1) := by decide +kernel
theorem d_M_look_19 : decode b_M_look 19 = .ok (.istore_n 2, 1) := by decide +kernel
theorem d_M_look_20 : decode b_M_look 20 = .ok (.iconst 1, 1) := by decide +kernel
theorem d_M_look_21 : decode b_M_look 21 = .ok (.istore_n 3, 1) := by decide +kernel
theorem d_M_look_22 : decode b_M_look 22 = .ok (.iload_n 3, 1) := by decide +kernel
theorem d_M_look_23 : decode b_M_look 23 = .ok (.bipush 8, 2) := by decide +kernel
theorem d_M_look_25 : decode b_M_look 25 = .ok (.if_icmp .ge 26, 3) := by decide +kernel
theorem d_M_look_28 : decode b_M_look 28 = .ok (.iload_n 2, 1) := by decide +kernel
theorem d_M_look_29 : decode b_M_look 29 = .ok (.aload_n 0, 1) := by decide +kernel
theorem d_M_look_30 : decode b_M_look 30 = .ok (.iload_n 1, 1) := by decide +kernel
theorem d_M_look_31 : decode b_M_look 31 = .ok (.iload_n 3, 1) := by decide +kernel
theorem d_M_look_32 : decode b_M_look 32 = .ok (.invokevirtual 106, 3) := by decide +kernel
theorem d_M_look_35 : decode b_M_look 35 = .ok (.ifCond .eq 7, 3) := by decide +kernel
theorem d_M_look_38 : decode b_M_look 38 = .ok (.iconst 1, 1) := by decide +kernel
theorem d_M_look_39 : decode b_M_look 39 = .ok (.goto 4, 3) := by decide +kernel
theorem d_M_look_42 : decode b_M_look 42 = .ok (.iconst 0, 1) := by decide +kernel
theorem d_M_look_43 : decode b_M_look 43 = .ok (.iadd, 1) := by decide +kernel
theorem d_M_look_44 : decode b_M_look 44 = .ok (.istore_n 2, 1) := by decide +kernel
theorem d_M_look_45 : decode b_M_look 45 = .ok (.iinc 3 1, 3) := by decide +kernel
theorem d_M_look_48 : decode b_M_look 48 = .ok (.goto (-26), 3) := by decide +kernel
theorem d_M_look_51 : decode b_M_look 51 = .ok (.aload_n 0, 1) := by decide +kernel
theorem d_M_look_52 : decode b_M_look 52 = .ok (.getfield 61, 3) := by decide +kernel
theorem d_M_look_55 : decode b_M_look 55 = .ok (.iload_n 2, 1) := by decide +kernel
theorem d_M_look_56 : decode b_M_look 56 = .ok (.iadd, 1) := by decide +kernel
theorem d_M_look_57 : decode b_M_look 57 = .ok (.sipush 250, 3) := by decide +kernel
theorem d_M_look_60 : decode b_M_look 60 = .ok (.if_icmp .le 10, 3) := by decide +kernel
theorem d_M_look_63 : decode b_M_look 63 = .ok (.aload_n 0, 1) := by decide +kernel
theorem d_M_look_64 : decode b_M_look 64 = .ok (.iconst 3, 1) := by decide +kernel
theorem d_M_look_65 : decode b_M_look 65 = .ok (.putfield 7, 3) := by decide +kernel
theorem d_M_look_68 : decode b_M_look 68 = .ok (.iconst 0, 1) := by decide +kernel
theorem d_M_look_69 : decode b_M_look 69 = .ok (.ireturn, 1) := by decide +kernel
theorem d_M_look_70 : decode b_M_look 70 = .ok (.iconst 1, 1) := by decide +kernel
theorem d_M_look_71 : decode b_M_look 71 = .ok (.istore_n 3, 1) := by decide +kernel
theorem d_M_look_72 : decode b_M_look 72 = .ok (.iload_n 3, 1) := by decide +kernel
theorem d_M_look_73 : decode b_M_look 73 = .ok (.bipush 8, 2) := by decide +kernel
theorem d_M_look_75 : decode b_M_look 75 = .ok (.if_icmp .ge 38, 3) := by decide +kernel
theorem d_M_look_78 : decode b_M_look 78 = .ok (.aload_n 0, 1) := by decide +kernel
theorem d_M_look_79 : decode b_M_look 79 = .ok (.iload_n 1, 1) := by decide +kernel
theorem d_M_look_80 : decode b_M_look 80 = .ok (.iload_n 3, 1) := by decide +kernel
theorem d_M_look_81 : decode b_M_look 81 = .ok (.invokevirtual 106, 3) := by decide +kernel
theorem d_M_look_84 : decode b_M_look 84 = .ok (.ifCond .eq 23, 3) := by decide +kernel
theorem d_M_look_87 : decode b_M_look 87 = .ok (.aload_n 0, 1) := by decide +kernel
theorem d_M_look_88 : decode b_M_look 88 = .ok (.iconst 2, 1) := by decide +kernel
theorem d_M_look_89 : decode b_M_look 89 = .ok (.iload_n 1, 1) := by decide +kernel
theorem d_M_look_90 : decode b_M_look 90 = .ok (.iload_n 3, 1) := by decide +kernel
theorem d_M_look_91 : decode b_M_look 91 = .ok (.iconst 0, 1) := by decide +kernel
theorem d_M_look_92 : decode b_M_look 92 = .ok (.invokevirtual 99, 3) := by decide +kernel
theorem d_M_look_95 : decode b_M_look 95 = .ok (.aload_n 0, 1) := by decide +kernel
theorem d_M_look_96 : decode b_M_look 96 = .ok (.getfield 55, 3) := by decide +kernel
theorem d_M_look_99 : decode b_M_look 99 = .ok (.bipush 8, 2) := by decide +kernel
theorem d_M_look_101 : decode b_M_look 101 = .ok (.iload_n 3, 1) := by decide +kernel
theorem d_M_look_102 : decode b_M_look 102 = .ok (.imul, 1) := by decide +kernel
theorem d_M_look_103 : decode b_M_look 103 = .ok (.iload_n 1, 1) := by decide +kernel
theorem d_M_look_104 : decode b_M_look 104 = .ok (.iadd, 1) := by decide +kernel
theorem d_M_look_105 : decode b_M_look 105 = .ok (.iconst 1, 1) := by decide +kernel
theorem d_M_look_106 : decode b_M_look 106 = .ok (.bastore, 1) := by decide +kernel
theorem d_M_look_107 : decode b_M_look 107 = .ok (.iinc 3 1, 3) := by decide +kernel
theorem d_M_look_110 : decode b_M_look 110 = .ok (.goto (-38), 3) := by decide +kernel
theorem d_M_look_113 : decode b_M_look 113 = .ok (.iload_n 2, 1) := by decide +kernel
theorem d_M_look_114 : decode b_M_look 114 = .ok (.ireturn, 1) := by decide +kernel
theorem d_M_complains_0 : decode b_M_complains 0 = .ok (.aload_n 0, 1) := by decide +kernel
theorem d_M_complains_1 : decode b_M_complains 1 = .ok (.iload_n 2, 1) := by decide +kernel
theorem d_M_complains_2 : decode b_M_complains 2 = .ok (.invokevirtual 110, 3) := by decide +kernel
theorem d_M_complains_5 : decode b_M_complains 5 = .ok (.ifCond .eq 51, 3) := by decide +kernel
theorem d_M_complains_8 : decode b_M_complains 8 = .ok (.aload_n 0, 1) := by decide +kernel
theorem d_M_complains_9 : decode b_M_complains 9 = .ok (.getfield 55, 3) := by decide +kernel
theorem d_M_complains_12 : decode b_M_complains 12 = .ok (.bipush 8, 2) := by decide +kernel
theorem d_M_complains_14 : decode b_M_complains 14 = .ok (.iload_n 2, 1) := by decide +kernel
theorem d_M_complains_15 : decode b_M_complains 15 = .ok (.imul, 1) := by decide +kernel
theorem d_M_complains_16 : decode b_M_complains 16 = .ok (.iload_n 1, 1) := by decide +kernel
theorem d_M_complains_17 : decode b_M_complains 17 = .ok (.iadd, 1) := by decide +kernel
theorem d_M_complains_18 : decode b_M_complains 18 = .ok (.baload, 1) := by decide +kernel
theorem d_M_complains_19 : decode b_M_complains 19 = .ok (.ifCond .ne 37, 3) := by decide +kernel
theorem d_M_complains_22 : decode b_M_complains 22 = .ok (.aload_n 0, 1) := by decide +kernel
theorem d_M_complains_23 : decode b_M_complains 23 = .ok (.getfield 40, 3) := by decide +kernel
theorem d_M_complains_26 : decode b_M_complains 26 = .ok (.iload_n 1, 1) := by decide +kernel
theorem d_M_complains_27 : decode b_M_complains 27 = .ok (.iaload, 1) := by decide +kernel
theorem d_M_complains_28 : decode b_M_complains 28 = .ok (.iconst 4, 1) := by decide +kernel
theorem d_M_complains_29 : decode b_M_complains 29 = .ok (.if_icmp .eq 23, 3) := by decide +kernel
theorem d_M_complains_32 : decode b_M_complains 32 = .ok (.aload_n 0, 1) := by decide +kernel
theorem d_M_complains_33 : decode b_M_complains 33 = .ok (.iload_n 2, 1) := by decide +kernel
theorem d_M_complains_34 : decode b_M_complains 34 = .ok (.iload_n 1, 1) := by decide +kernel
theorem d_M_complains_35 : decode b_M_complains 35 = .ok (.aload_n 0, 1) := by decide +kernel
theorem d_M_complains_36 : decode b_M_complains 36 = .ok (.getfield 52, 3) := by decide +kernel
theorem d_M_complains_39 : decode b_M_complains 39 = .ok (.bipush 8, 2) := by decide +kernel
theorem d_M_complains_41 : decode b_M_complains 41 = .ok (.iload_n 2, 1) := by decide +kernel
theorem d_M_complains_42 : decode b_M_complains 42 = .ok (.imul, 1) := by decide +kernel
theorem d_M_complains_43 : decode b_M_complains 43 = .ok (.iload_n 1, 1) := by decide +kernel
theorem d_M_complains_44 : decode b_M_complains 44 = .ok (.iadd, 1) := by decide +kernel
theorem d_M_complains_45 : decode b_M_complains 45 = .ok (.iaload, 1) := by decide +kernel
theorem d_M_complains_46 : decode b_M_complains 46 = .ok (.invokevirtual 113, 3) := by decide +kernel
theorem d_M_complains_49 : decode b_M_complains 49 = .ok (.ifCond .ne 7, 3) := by decide +kernel
theorem d_M_complains_52 : decode b_M_complains 52 = .ok (.iconst 1, 1) := by decide +kernel
theorem d_M_complains_53 : decode b_M_complains 53 = .ok (.goto 4, 3) := by decide +kernel
theorem d_M_complains_56 : decode b_M_complains 56 = .ok (.iconst 0, 1) := by decide +kernel
theorem d_M_complains_57 : decode b_M_complains 57 = .ok (.ireturn, 1) := by decide +kernel
theorem d_M_dealer_0 : decode b_M_dealer 0 = .ok (.aload_n 0, 1) := by decide +kernel
theorem d_M_dealer_1 : decode b_M_dealer 1 = .ok (.getfield 43, 3) := by decide +kernel
theorem d_M_dealer_4 : decode b_M_dealer 4 = .ok (.iload_n 1, 1) := by decide +kernel
theorem d_M_dealer_5 : decode b_M_dealer 5 = .ok (.baload, 1) := by decide +kernel
theorem d_M_dealer_6 : decode b_M_dealer 6 = .ok (.ifCond .eq 17, 3) := by decide +kernel
theorem d_M_dealer_9 : decode b_M_dealer 9 = .ok (.aload_n 0, 1) := by decide +kernel
theorem d_M_dealer_10 : decode b_M_dealer 10 = .ok (.getfield 40, 3) := by decide +kernel
theorem d_M_dealer_13 : decode b_M_dealer 13 = .ok (.iload_n 1, 1) := by decide +kernel
theorem d_M_dealer_14 : decode b_M_dealer 14 = .ok (.iaload, 1) := by decide +kernel
theorem d_M_dealer_15 : decode b_M_dealer 15 = .ok (.iconst 1, 1) := by decide +kernel
theorem d_M_dealer_16 : decode b_M_dealer 16 = .ok (.if_icmp .eq 7, 3) := by decide +kernel
theorem d_M_dealer_19 : decode b_M_dealer 19 = .ok (.iconst 1, 1) := by decide +kernel
theorem d_M_dealer_20 : decode b_M_dealer 20 = .ok (.goto 4, 3) := by decide +kernel
theorem d_M_dealer_23 : decode b_M_dealer 23 = .ok (.iconst 0, 1) := by decide +kernel
theorem d_M_dealer_24 : decode b_M_dealer 24 = .ok (.ireturn, 1) := by decide +kernel
theorem d_M_goodShare_0 : decode b_M_goodShare 0 = .ok (.aload_n 0, 1) := by decide +kernel
theorem d_M_goodShare_1 : decode b_M_goodShare 1 = .ok (.aload_n 0, 1) := by decide +kernel
theorem d_M_goodShare_2 : decode b_M_goodShare 2 = .ok (.getfield 19, 3) := by decide +kernel
theorem d_M_goodShare_5 : decode b_M_goodShare 5 = .ok (.iload_n 3, 1) := by decide +kernel
theorem d_M_goodShare_6 : decode b_M_goodShare 6 = .ok (.invokevirtual 68, 3) := by decide +kernel
theorem d_M_goodShare_9 : decode b_M_goodShare 9 = .ok (.aload_n 0, 1) := by decide +kernel
theorem d_M_goodShare_10 : decode b_M_goodShare 10 = .ok (.aload_n 0, 1) := by decide +kernel
theorem d_M_goodShare_11 : decode b_M_goodShare 11 = .ok (.getfield 49, 3) := by decide +kernel
theorem d_M_goodShare_14 : decode b_M_goodShare 14 = .ok (.iconst 4, 1) := by decide +kernel
theorem d_M_goodShare_15 : decode b_M_goodShare 15 = .ok (.iload_n 1, 1) := by decide +kernel
theorem d_M_goodShare_16 : decode b_M_goodShare 16 = .ok (.imul, 1) := by decide +kernel
theorem d_M_goodShare_17 : decode b_M_goodShare 17 = .ok (.iload_n 2, 1) := by decide +kernel
theorem d_M_goodShare_18 : decode b_M_goodShare 18 = .ok (.invokevirtual 72, 3) := by decide +kernel
theorem d_M_goodShare_21 : decode b_M_goodShare 21 = .ok (.if_icmp .ne 7, 3) := by decide +kernel
theorem d_M_goodShare_24 : decode b_M_goodShare 24 = .ok (.iconst 1, 1) := by decide +kernel
theorem d_M_goodShare_25 : decode b_M_goodShare 25 = .ok (.goto 4, 3) := by decide +kernel
theorem d_M_goodShare_28 : decode b_M_goodShare 28 = .ok (.iconst 0, 1) := by decide +kernel
theorem d_M_goodShare_29 : decode b_M_goodShare 29 = .ok (.ireturn, 1) := by decide +kernel
theorem d_M_timesAt_0 : decode b_M_timesAt 0 = .ok (.lconst 1, 1) := by decide +kernel
theorem d_M_timesAt_1 : decode b_M_timesAt 1 = .ok (.lstore 4, 2) := by decide +kernel
theorem d_M_timesAt_3 : decode b_M_timesAt 3 = .ok (.iconst 1, 1) := by decide +kernel
theorem d_M_timesAt_4 : decode b_M_timesAt 4 = .ok (.istore 6, 2) := by decide +kernel
theorem d_M_timesAt_6 : decode b_M_timesAt 6 = .ok (.iconst 0, 1) := by decide +kernel
theorem d_M_timesAt_7 : decode b_M_timesAt 7 = .ok (.istore 7, 2) := by decide +kernel
theorem d_M_timesAt_9 : decode b_M_timesAt 9 = .ok (.iload 7, 2) := by decide +kernel
theorem d_M_timesAt_11 : decode b_M_timesAt 11 = .ok (.iconst 4, 1) := by decide +kernel
theorem d_M_timesAt_12 : decode b_M_timesAt 12 = .ok (.if_icmp .ge 39, 3) := by decide +kernel
theorem d_M_timesAt_15 : decode b_M_timesAt 15 = .ok (.lload 4, 2) := by decide +kernel
theorem d_M_timesAt_17 : decode b_M_timesAt 17 = .ok (.aload_n 0, 1) := by decide +kernel
theorem d_M_timesAt_18 : decode b_M_timesAt 18 = .ok (.aload_n 1, 1) := by decide +kernel
theorem d_M_timesAt_19 : decode b_M_timesAt 19 = .ok (.iload_n 2, 1) := by decide +kernel
theorem d_M_timesAt_20 : decode b_M_timesAt 20 = .ok (.iload 7, 2) := by decide +kernel
theorem d_M_timesAt_22 : decode b_M_timesAt 22 = .ok (.iadd, 1) := by decide +kernel
theorem d_M_timesAt_23 : decode b_M_timesAt 23 = .ok (.iaload, 1) := by decide +kernel
theorem d_M_timesAt_24 : decode b_M_timesAt 24 = .ok (.iload 6, 2) := by decide +kernel
theorem d_M_timesAt_26 : decode b_M_timesAt 26 = .ok (.invokevirtual 68, 3) := by decide +kernel
theorem d_M_timesAt_29 : decode b_M_timesAt 29 = .ok (.i2l, 1) := by decide +kernel
theorem d_M_timesAt_30 : decode b_M_timesAt 30 = .ok (.lmul, 1) := by decide +kernel
theorem d_M_timesAt_31 : decode b_M_timesAt 31 = .ok (.aload_n 0, 1) := by decide +kernel
theorem d_M_timesAt_32 : decode b_M_timesAt 32 = .ok (.getfield 13, 3) := by decide +kernel
theorem d_M_timesAt_35 : decode b_M_timesAt 35 = .ok (.i2l, 1) := by decide +kernel
theorem d_M_timesAt_36 : decode b_M_timesAt 36 = .ok (.lrem, 1) := by decide +kernel
theorem d_M_timesAt_37 : decode b_M_timesAt 37 = .ok (.lstore 4, 2) := by decide +kernel
theorem d_M_timesAt_39 : decode b_M_timesAt 39 = .ok (.iload 6, 2) := by decide +kernel
theorem d_M_timesAt_41 : decode b_M_timesAt 41 = .ok (.iload_n 3, 1) := by decide +kernel
theorem d_M_timesAt_42 : decode b_M_timesAt 42 = .ok (.imul, 1) := by decide +kernel
theorem d_M_timesAt_43 : decode b_M_timesAt 43 = .ok (.istore 6, 2) := by decide +kernel
theorem d_M_timesAt_45 : decode b_M_timesAt 45 = .ok (.iinc 7 1, 3) := by decide +kernel
theorem d_M_timesAt_48 : decode b_M_timesAt 48 = .ok (.goto (-39), 3) := by decide +kernel
theorem d_M_timesAt_51 : decode b_M_timesAt 51 = .ok (.lload 4, 2) := by decide +kernel
theorem d_M_timesAt_53 : decode b_M_timesAt 53 = .ok (.l2i, 1) := by decide +kernel
theorem d_M_timesAt_54 : decode b_M_timesAt 54 = .ok (.ireturn, 1) := by decide +kernel
theorem d_M_answer_0 : decode b_M_answer 0 = .ok (.aload_n 0, 1) := by decide +kernel
theorem d_M_answer_1 : decode b_M_answer 1 = .ok (.aload_n 0, 1) := by decide +kernel
theorem d_M_answer_2 : decode b_M_answer 2 = .ok (.iload_n 1, 1) := by decide +kernel
theorem d_M_answer_3 : decode b_M_answer 3 = .ok (.invokevirtual 96, 3) := by decide +kernel
theorem d_M_answer_6 : decode b_M_answer 6 = .ok (.putfield 7, 3) := by decide +kernel
theorem d_M_answer_9 : decode b_M_answer 9 = .ok (.aload_n 0, 1) := by decide +kernel
theorem d_M_answer_10 : decode b_M_answer 10 = .ok (.getfield 7, 3) := by decide +kernel
theorem d_M_answer_13 : decode b_M_answer 13 = .ok (.ifCond .ne 12, 3) := by decide +kernel
theorem d_M_answer_16 : decode b_M_answer 16 = .ok (.aload_n 0, 1) := by decide +kernel
theorem d_M_answer_17 : decode b_M_answer 17 = .ok (.aload_n 0, 1) := by decide +kernel
theorem d_M_answer_18 : decode b_M_answer 18 = .ok (.iload_n 2, 1) := by decide +kernel
theorem d_M_answer_19 : decode b_M_answer 19 = .ok (.invokevirtual 96, 3) := by decide +kernel
theorem d_M_answer_22 : decode b_M_answer 22 = .ok (.putfield 7, 3) := by decide +kernel
theorem d_M_answer_25 : decode b_M_answer 25 = .ok (.aload_n 0, 1) := by decide +kernel
theorem d_M_answer_26 : decode b_M_answer 26 = .ok (.getfield 7, 3) := by decide +kernel
theorem d_M_answer_29 : decode b_M_answer 29 = .ok (.ifCond .ne 16, 3) := by decide +kernel
theorem d_M_answer_32 : decode b_M_answer 32 = .ok (.aload_n 0, 1) := by decide +kernel
theorem d_M_answer_33 : decode b_M_answer 33 = .ok (.iload_n 1, 1) := by decide +kernel
theorem d_M_answer_34 : decode b_M_answer 34 = .ok (.invokevirtual 110, 3) := by decide +kernel
theorem d_M_answer_37 : decode b_M_answer 37 = .ok (.ifCond .ne 8, 3) := by decide +kernel
theorem d_M_answer_40 : decode b_M_answer 40 = .ok (.aload_n 0, 1) := by decide +kernel
theorem d_M_answer_41 : decode b_M_answer 41 = .ok (.iconst 3, 1) := by decide +kernel
theorem d_M_answer_42 : decode b_M_answer 42 = .ok (.putfield 7, 3) := by decide +kernel
theorem d_M_answer_45 : decode b_M_answer 45 = .ok (.aload_n 0, 1) := by decide +kernel
theorem d_M_answer_46 : decode b_M_answer 46 = .ok (.getfield 7, 3) := by decide +kernel
theorem d_M_answer_49 : decode b_M_answer 49 = .ok (.ifCond .ne 18, 3) := by decide +kernel
theorem d_M_answer_52 : decode b_M_answer 52 = .ok (.aload_n 0, 1) := by decide +kernel
theorem d_M_answer_53 : decode b_M_answer 53 = .ok (.getfield 61, 3) := by decide +kernel
theorem d_M_answer_56 : decode b_M_answer 56 = .ok (.sipush 250, 3) := by decide +kernel
theorem d_M_answer_59 : decode b_M_answer 59 = .ok (.if_icmp .ne 8, 3) := by decide +kernel
theorem d_M_answer_62 : decode b_M_answer 62 = .ok (.aload_n 0, 1) := by decide +kernel
theorem d_M_answer_63 : decode b_M_answer 63 = .ok (.iconst 4, 1) := by decide +kernel
theorem d_M_answer_64 : decode b_M_answer 64 = .ok (.putfield 7, 3) := by decide +kernel
theorem d_M_answer_67 : decode b_M_answer 67 = .ok (.aload_n 0, 1) := by decide +kernel
theorem d_M_answer_68 : decode b_M_answer 68 = .ok (.getfield 7, 3) := by decide +kernel
theorem d_M_answer_71 : decode b_M_answer 71 = .ok (.ifCond .ne 14, 3) := by decide +kernel
theorem d_M_answer_74 : decode b_M_answer 74 = .ok (.aload_n 0, 1) := by decide +kernel
theorem d_M_answer_75 : decode b_M_answer 75 = .ok (.getfield 40, 3) := by decide +kernel
theorem d_M_answer_78 : decode b_M_answer 78 = .ok (.iload_n 1, 1) := by decide +kernel
theorem d_M_answer_79 : decode b_M_answer 79 = .ok (.iaload, 1) := by decide +kernel
theorem d_M_answer_80 : decode b_M_answer 80 = .ok (.bipush 6, 2) := by decide +kernel
theorem d_M_answer_82 : decode b_M_answer 82 = .ok (.if_icmp .ne 5, 3) := by decide +kernel
theorem d_M_answer_85 : decode b_M_answer 85 = .ok (.iconst 0, 1) := by decide +kernel
theorem d_M_answer_86 : decode b_M_answer 86 = .ok (.ireturn, 1) := by decide +kernel
theorem d_M_answer_87 : decode b_M_answer 87 = .ok (.aload_n 0, 1) := by decide +kernel
theorem d_M_answer_88 : decode b_M_answer 88 = .ok (.getfield 40, 3) := by decide +kernel
theorem d_M_answer_91 : decode b_M_answer 91 = .ok (.iload_n 1, 1) := by decide +kernel
theorem d_M_answer_92 : decode b_M_answer 92 = .ok (.iaload, 1) := by decide +kernel
theorem d_M_answer_93 : decode b_M_answer 93 = .ok (.iconst 5, 1) := by decide +kernel
theorem d_M_answer_94 : decode b_M_answer 94 = .ok (.if_icmp .ne 12, 3) := by decide +kernel
theorem d_M_answer_97 : decode b_M_answer 97 = .ok (.aload_n 0, 1) := by decide +kernel
theorem d_M_answer_98 : decode b_M_answer 98 = .ok (.iload_n 1, 1) := by decide +kernel
theorem d_M_answer_99 : decode b_M_answer 99 = .ok (.iload_n 2, 1) := by decide +kernel
theorem d_M_answer_100 : decode b_M_answer 100 = .ok (.invokevirtual 76, 3) := by decide +kernel
theorem d_M_answer_103 : decode b_M_answer 103 = .ok (.goto 9, 3) := by decide +kernel
theorem d_M_answer_106 : decode b_M_answer 106 = .ok (.aload_n 0, 1) := by decide +kernel
theorem d_M_answer_107 : decode b_M_answer 107 = .ok (.iload_n 1, 1) := by decide +kernel
theorem d_M_answer_108 : decode b_M_answer 108 = .ok (.iload_n 2, 1) := by decide +kernel
theorem d_M_answer_109 : decode b_M_answer 109 = .ok (.invokevirtual 103, 3) := by decide +kernel
theorem d_M_answer_112 : decode b_M_answer 112 = .ok (.istore_n 3, 1) := by decide +kernel
theorem d_M_answer_113 : decode b_M_answer 113 = .ok (.aload_n 0, 1) := by decide +kernel
theorem d_M_answer_114 : decode b_M_answer 114 = .ok (.iconst 3, 1) := by decide +kernel
theorem d_M_answer_115 : decode b_M_answer 115 = .ok (.iload_n 1, 1) := by decide +kernel
theorem d_M_answer_116 : decode b_M_answer 116 = .ok (.iload_n 2, 1) := by decide +kernel
theorem d_M_answer_117 : decode b_M_answer 117 = .ok (.iload_n 3, 1) := by decide +kernel
theorem d_M_answer_118 : decode b_M_answer 118 = .ok (.invokevirtual 99, 3) := by decide +kernel
theorem d_M_answer_121 : decode b_M_answer 121 = .ok (.bipush 8, 2) := by decide +kernel
theorem d_M_answer_123 : decode b_M_answer 123 = .ok (.iload_n 1, 1) := by decide +kernel
theorem d_M_answer_124 : decode b_M_answer 124 = .ok (.imul, 1) := by decide +kernel
theorem d_M_answer_125 : decode b_M_answer 125 = .ok (.iload_n 2, 1) := by decide +kernel
theorem d_M_answer_126 : decode b_M_answer 126 = .ok (.iadd, 1) := by decide +kernel
theorem d_M_answer_127 : decode b_M_answer 127 = .ok (.istore 4, 2) := by decide +kernel
theorem d_M_answer_129 : decode b_M_answer 129 = .ok (.aload_n 0, 1) := by decide +kernel
theorem d_M_answer_130 : decode b_M_answer 130 = .ok (.getfield 55, 3) := by decide +kernel
theorem d_M_answer_133 : decode b_M_answer 133 = .ok (.iload 4, 2) := by decide +kernel
theorem d_M_answer_135 : decode b_M_answer 135 = .ok (.baload, 1) := by decide +kernel
theorem d_M_answer_136 : decode b_M_answer 136 = .ok (.ifCond .eq 23, 3) := by decide +kernel
theorem d_M_answer_139 : decode b_M_answer 139 = .ok (.aload_n 0, 1) := by decide +kernel
theorem d_M_answer_140 : decode b_M_answer 140 = .ok (.getfield 58, 3) := by decide +kernel
theorem d_M_answer_143 : decode b_M_answer 143 = .ok (.iload 4, 2) := by decide +kernel
theorem d_M_answer_145 : decode b_M_answer 145 = .ok (.baload, 1) := by decide +kernel
theorem d_M_answer_146 : decode b_M_answer 146 = .ok (.ifCond .ne 13, 3) := by decide +kernel
theorem d_M_answer_149 : decode b_M_answer 149 = .ok (.aload_n 0, 1) := by decide +kernel
theorem d_M_answer_150 : decode b_M_answer 150 = .ok (.iload_n 1, 1) := by decide +kernel
theorem d_M_answer_151 : decode b_M_answer 151 = .ok (.iload_n 2, 1) := by decide +kernel
theorem d_M_answer_152 : decode b_M_answer 152 = .ok (.iload_n 3, 1) := by decide +kernel
theorem d_M_answer_153 : decode b_M_answer 153 = .ok (.invokevirtual 113, 3) := by decide +kernel
theorem d_M_answer_156 : decode b_M_answer 156 = .ok (.ifCond .ne 5, 3) := by decide +kernel
theorem d_M_answer_159 : decode b_M_answer 159 = .ok (.iconst 0, 1) := by decide +kernel
theorem d_M_answer_160 : decode b_M_answer 160 = .ok (.ireturn, 1) := by decide +kernel
theorem d_M_answer_161 : decode b_M_answer 161 = .ok (.aload_n 0, 1) := by decide +kernel
theorem d_M_answer_162 : decode b_M_answer 162 = .ok (.getfield 58, 3) := by decide +kernel
theorem d_M_answer_165 : decode b_M_answer 165 = .ok (.iload 4, 2) := by decide +kernel
theorem d_M_answer_167 : decode b_M_answer 167 = .ok (.iconst 1, 1) := by decide +kernel
theorem d_M_answer_168 : decode b_M_answer 168 = .ok (.bastore, 1) := by decide +kernel
theorem d_M_answer_169 : decode b_M_answer 169 = .ok (.aload_n 0, 1) := by decide +kernel
theorem d_M_answer_170 : decode b_M_answer 170 = .ok (.getfield 52, 3) := by decide +kernel
theorem d_M_answer_173 : decode b_M_answer 173 = .ok (.iload 4, 2) := by decide +kernel
theorem d_M_answer_175 : decode b_M_answer 175 = .ok (.iload_n 3, 1) := by decide +kernel
theorem d_M_answer_176 : decode b_M_answer 176 = .ok (.iastore, 1) := by decide +kernel
theorem d_M_answer_177 : decode b_M_answer 177 = .ok (.iconst 1, 1) := by decide +kernel
theorem d_M_answer_178 : decode b_M_answer 178 = .ok (.ireturn, 1) := by decide +kernel
theorem d_M_close_0 : decode b_M_close 0 = .ok (.aload_n 0, 1) := by decide +kernel
theorem d_M_close_1 : decode b_M_close 1 = .ok (.aload_n 0, 1) := by decide +kernel
theorem d_M_close_2 : decode b_M_close 2 = .ok (.getfield 22, 3) := by decide +kernel
theorem d_M_close_5 : decode b_M_close 5 = .ok (.ifCond .eq 7, 3) := by decide +kernel
theorem d_M_close_8 : decode b_M_close 8 = .ok (.iconst 0, 1) := by decide +kernel
theorem d_M_close_9 : decode b_M_close 9 = .ok (.goto 4, 3) := by decide +kernel
theorem d_M_close_12 : decode b_M_close 12 = .ok (.iconst 1, 1) := by decide +kernel
theorem d_M_close_13 : decode b_M_close 13 = .ok (.putfield 7, 3) := by decide +kernel
theorem d_M_close_16 : decode b_M_close 16 = .ok (.aload_n 0, 1) := by decide +kernel
theorem d_M_close_17 : decode b_M_close 17 = .ok (.getfield 7, 3) := by decide +kernel
theorem d_M_close_20 : decode b_M_close 20 = .ok (.ifCond .eq 5, 3) := by decide +kernel
theorem d_M_close_23 : decode b_M_close 23 = .ok (.iconst 0, 1) := by decide +kernel
theorem d_M_close_24 : decode b_M_close 24 = .ok (.ireturn, 1) := by decide +kernel
theorem d_M_close_25 : decode b_M_close 25 = .ok (.iconst 0, 1) := by decide +kernel
theorem d_M_close_26 : decode b_M_close 26 = .ok (.istore_n 1, 1) := by decide +kernel
theorem d_M_close_27 : decode b_M_close 27 = .ok (.iconst 1, 1) := by decide +kernel
theorem d_M_close_28 : decode b_M_close 28 = .ok (.istore_n 2, 1) := by decide +kernel
theorem d_M_close_29 : decode b_M_close 29 = .ok (.iload_n 2, 1) := by decide +kernel
theorem d_M_close_30 : decode b_M_close 30 = .ok (.bipush 8, 2) := by decide +kernel
theorem d_M_close_32 : decode b_M_close 32 = .ok (.if_icmp .ge 113, 3) := by decide +kernel
theorem d_M_close_35 : decode b_M_close 35 = .ok (.aload_n 0, 1) := by decide +kernel
theorem d_M_close_36 : decode b_M_close 36 = .ok (.iload_n 2, 1) := by decide +kernel
theorem d_M_close_37 : decode b_M_close 37 = .ok (.invokevirtual 117, 3) := by decide +kernel
theorem d_M_close_40 : decode b_M_close 40 = .ok (.ifCond .eq 99, 3) := by decide +kernel
theorem d_M_close_43 : decode b_M_close 43 = .ok (.iload_n 1, 1) := by decide +kernel
theorem d_M_close_44 : decode b_M_close 44 = .ok (.iconst 1, 1) := by decide +kernel
theorem d_M_close_45 : decode b_M_close 45 = .ok (.iload_n 2, 1) := by decide +kernel
theorem d_M_close_46 : decode b_M_close 46 = .ok (.iconst 1, 1) := by decide +kernel
theorem d_M_close_47 : decode b_M_close 47 = .ok (.isub, 1) := by decide +kernel
theorem d_M_close_48 : decode b_M_close 48 = .ok (.ishl, 1) := by decide +kernel
theorem d_M_close_49 : decode b_M_close 49 = .ok (.ior, 1) := by decide +kernel
theorem d_M_close_50 : decode b_M_close 50 = .ok (.istore_n 1, 1) := by decide +kernel
theorem d_M_close_51 : decode b_M_close 51 = .ok (.iconst 1, 1) := by decide +kernel
theorem d_M_close_52 : decode b_M_close 52 = .ok (.istore_n 3, 1) := by decide +kernel
theorem d_M_close_53 : decode b_M_close 53 = .ok (.iload_n 3, 1) := by decide +kernel
theorem d_M_close_54 : decode b_M_close 54 = .ok (.bipush 8, 2) := by decide +kernel
theorem d_M_close_56 : decode b_M_close 56 = .ok (.if_icmp .ge 38, 3) := by decide +kernel
theorem d_M_close_59 : decode b_M_close 59 = .ok (.aload_n 0, 1) := by decide +kernel
theorem d_M_close_60 : decode b_M_close 60 = .ok (.getfield 29, 3) := by decide +kernel
theorem d_M_close_63 : decode b_M_close 63 = .ok (.iload_n 3, 1) := by decide +kernel
theorem d_M_close_64 : decode b_M_close 64 = .ok (.aload_n 0, 1) := by decide +kernel
theorem d_M_close_65 : decode b_M_close 65 = .ok (.getfield 29, 3) := by decide +kernel
theorem d_M_close_68 : decode b_M_close 68 = .ok (.iload_n 3, 1) := by decide +kernel
theorem d_M_close_69 : decode b_M_close 69 = .ok (.iaload, 1) := by decide +kernel
theorem d_M_close_70 : decode b_M_close 70 = .ok (.aload_n 0, 1) := by decide +kernel
theorem d_M_close_71 : decode b_M_close 71 = .ok (.getfield 52, 3) := by decide +kernel
theorem d_M_close_74 : decode b_M_close 74 = .ok (.bipush 8, 2) := by decide +kernel
theorem d_M_close_76 : decode b_M_close 76 = .ok (.iload_n 2, 1) := by decide +kernel
theorem d_M_close_77 : decode b_M_close 77 = .ok (.imul, 1) := by decide +kernel
theorem d_M_close_78 : decode b_M_close 78 = .ok (.iload_n 3, 1) := by decide +kernel
theorem d_M_close_79 : decode b_M_close 79 = .ok (.iadd, 1) := by decide +kernel
theorem d_M_close_80 : decode b_M_close 80 = .ok (.iaload, 1) := by decide +kernel
theorem d_M_close_81 : decode b_M_close 81 = .ok (.iadd, 1) := by decide +kernel
theorem d_M_close_82 : decode b_M_close 82 = .ok (.aload_n 0, 1) := by decide +kernel
theorem d_M_close_83 : decode b_M_close 83 = .ok (.getfield 16, 3) := by decide +kernel
theorem d_M_close_86 : decode b_M_close 86 = .ok (.irem, 1) := by decide +kernel
theorem d_M_close_87 : decode b_M_close 87 = .ok (.iastore, 1) := by decide +kernel
theorem d_M_close_88 : decode b_M_close 88 = .ok (.iinc 3 1, 3) := by decide +kernel
theorem d_M_close_91 : decode b_M_close 91 = .ok (.goto (-38), 3) := by decide +kernel
theorem d_M_close_94 : decode b_M_close 94 = .ok (.iconst 0, 1) := by decide +kernel
theorem d_M_close_95 : decode b_M_close 95 = .ok (.istore_n 3, 1) := by decide +kernel
theorem d_M_close_96 : decode b_M_close 96 = .ok (.iload_n 3, 1) := by decide +kernel
theorem d_M_close_97 : decode b_M_close 97 = .ok (.iconst 4, 1) := by decide +kernel
theorem d_M_close_98 : decode b_M_close 98 = .ok (.if_icmp .ge 41, 3) := by decide +kernel
theorem d_M_close_101 : decode b_M_close 101 = .ok (.aload_n 0, 1) := by decide +kernel
theorem d_M_close_102 : decode b_M_close 102 = .ok (.getfield 37, 3) := by decide +kernel
theorem d_M_close_105 : decode b_M_close 105 = .ok (.iload_n 3, 1) := by decide +kernel
theorem d_M_close_106 : decode b_M_close 106 = .ok (.aload_n 0, 1) := by decide +kernel
theorem d_M_close_107 : decode b_M_close 107 = .ok (.getfield 37, 3) := by decide +kernel
theorem d_M_close_110 : decode b_M_close 110 = .ok (.iload_n 3, 1) := by decide +kernel
theorem d_M_close_111 : decode b_M_close 111 = .ok (.iaload, 1) := by decide +kernel
theorem d_M_close_112 : decode b_M_close 112 = .ok (.i2l, 1) := by decide +kernel
theorem d_M_close_113 : decode b_M_close 113 = .ok (.aload_n 0, 1) := by decide +kernel
theorem d_M_close_114 : decode b_M_close 114 = .ok (.getfield 49, 3) := by decide +kernel
theorem d_M_close_117 : decode b_M_close 117 = .ok (.iconst 4, 1) := by decide +kernel
theorem d_M_close_118 : decode b_M_close 118 = .ok (.iload_n 2, 1) := by decide +kernel
theorem d_M_close_119 : decode b_M_close 119 = .ok (.imul, 1) := by decide +kernel
theorem d_M_close_120 : decode b_M_close 120 = .ok (.iload_n 3, 1) := by decide +kernel
theorem d_M_close_121 : decode b_M_close 121 = .ok (.iadd, 1) := by decide +kernel
theorem d_M_close_122 : decode b_M_close 122 = .ok (.iaload, 1) := by decide +kernel
theorem d_M_close_123 : decode b_M_close 123 = .ok (.i2l, 1) := by decide +kernel
theorem d_M_close_124 : decode b_M_close 124 = .ok (.lmul, 1) := by decide +kernel
theorem d_M_close_125 : decode b_M_close 125 = .ok (.aload_n 0, 1) := by decide +kernel
end
section
theorem d_M_close_126 : decode b_M_close 126 = .ok (.getfield 13, 3) := by decide +kernel
theorem d_M_close_129 : decode b_M_close 129 = .ok (.i2l, 1) := by decide +kernel
theorem d_M_close_130 : decode b_M_close 130 = .ok (.lrem, 1) := by decide +kernel
theorem d_M_close_131 : decode b_M_close 131 = .ok (.l2i, 1) := by decide +kernel
theorem d_M_close_132 : decode b_M_close 132 = .ok (.iastore, 1) := by decide +kernel
theorem d_M_close_133 : decode b_M_close 133 = .ok (.iinc 3 1, 3) := by decide +kernel
theorem d_M_close_136 : decode b_M_close 136 = .ok (.goto (-40), 3) := by decide +kernel
theorem d_M_close_139 : decode b_M_close 139 = .ok (.iinc 2 1, 3) := by decide +kernel
theorem d_M_close_142 : decode b_M_close 142 = .ok (.goto (-113), 3) := by decide +kernel
theorem d_M_close_145 : decode b_M_close 145 = .ok (.aload_n 0, 1) := by decide +kernel
theorem d_M_close_146 : decode b_M_close 146 = .ok (.invokevirtual 90, 3) := by decide +kernel
theorem d_M_close_149 : decode b_M_close 149 = .ok (.iload_n 1, 1) := by decide +kernel
theorem d_M_close_150 : decode b_M_close 150 = .ok (.ireturn, 1) := by decide +kernel
theorem d_M_accepted_0 : decode b_M_accepted 0 = .ok (.aload_n 0, 1) := by decide +kernel
theorem d_M_accepted_1 : decode b_M_accepted 1 = .ok (.iload_n 1, 1) := by decide +kernel
theorem d_M_accepted_2 : decode b_M_accepted 2 = .ok (.invokevirtual 110, 3) := by decide +kernel
theorem d_M_accepted_5 : decode b_M_accepted 5 = .ok (.ifCond .eq 15, 3) := by decide +kernel
theorem d_M_accepted_8 : decode b_M_accepted 8 = .ok (.aload_n 0, 1) := by decide +kernel
theorem d_M_accepted_9 : decode b_M_accepted 9 = .ok (.getfield 49, 3) := by decide +kernel
theorem d_M_accepted_12 : decode b_M_accepted 12 = .ok (.iconst 4, 1) := by decide +kernel
theorem d_M_accepted_13 : decode b_M_accepted 13 = .ok (.iload_n 1, 1) := by decide +kernel
theorem d_M_accepted_14 : decode b_M_accepted 14 = .ok (.imul, 1) := by decide +kernel
theorem d_M_accepted_15 : decode b_M_accepted 15 = .ok (.iaload, 1) := by decide +kernel
theorem d_M_accepted_16 : decode b_M_accepted 16 = .ok (.iconst 1, 1) := by decide +kernel
theorem d_M_accepted_17 : decode b_M_accepted 17 = .ok (.if_icmp .eq 5, 3) := by decide +kernel
theorem d_M_accepted_20 : decode b_M_accepted 20 = .ok (.iconst 0, 1) := by decide +kernel
theorem d_M_accepted_21 : decode b_M_accepted 21 = .ok (.ireturn, 1) := by decide +kernel
theorem d_M_accepted_22 : decode b_M_accepted 22 = .ok (.iconst 1, 1) := by decide +kernel
theorem d_M_accepted_23 : decode b_M_accepted 23 = .ok (.istore_n 2, 1) := by decide +kernel
theorem d_M_accepted_24 : decode b_M_accepted 24 = .ok (.iload_n 2, 1) := by decide +kernel
theorem d_M_accepted_25 : decode b_M_accepted 25 = .ok (.bipush 8, 2) := by decide +kernel
theorem d_M_accepted_27 : decode b_M_accepted 27 = .ok (.if_icmp .ge 39, 3) := by decide +kernel
theorem d_M_accepted_30 : decode b_M_accepted 30 = .ok (.aload_n 0, 1) := by decide +kernel
theorem d_M_accepted_31 : decode b_M_accepted 31 = .ok (.getfield 55, 3) := by decide +kernel
theorem d_M_accepted_34 : decode b_M_accepted 34 = .ok (.bipush 8, 2) := by decide +kernel
theorem d_M_accepted_36 : decode b_M_accepted 36 = .ok (.iload_n 1, 1) := by decide +kernel
theorem d_M_accepted_37 : decode b_M_accepted 37 = .ok (.imul, 1) := by decide +kernel
theorem d_M_accepted_38 : decode b_M_accepted 38 = .ok (.iload_n 2, 1) := by decide +kernel
theorem d_M_accepted_39 : decode b_M_accepted 39 = .ok (.iadd, 1) := by decide +kernel
theorem d_M_accepted_40 : decode b_M_accepted 40 = .ok (.baload, 1) := by decide +kernel
theorem d_M_accepted_41 : decode b_M_accepted 41 = .ok (.ifCond .eq 19, 3) := by decide +kernel
theorem d_M_accepted_44 : decode b_M_accepted 44 = .ok (.aload_n 0, 1) := by decide +kernel
theorem d_M_accepted_45 : decode b_M_accepted 45 = .ok (.getfield 58, 3) := by decide +kernel
theorem d_M_accepted_48 : decode b_M_accepted 48 = .ok (.bipush 8, 2) := by decide +kernel
theorem d_M_accepted_50 : decode b_M_accepted 50 = .ok (.iload_n 1, 1) := by decide +kernel
theorem d_M_accepted_51 : decode b_M_accepted 51 = .ok (.imul, 1) := by decide +kernel
theorem d_M_accepted_52 : decode b_M_accepted 52 = .ok (.iload_n 2, 1) := by decide +kernel
theorem d_M_accepted_53 : decode b_M_accepted 53 = .ok (.iadd, 1) := by decide +kernel
theorem d_M_accepted_54 : decode b_M_accepted 54 = .ok (.baload, 1) := by decide +kernel
theorem d_M_accepted_55 : decode b_M_accepted 55 = .ok (.ifCond .ne 5, 3) := by decide +kernel
theorem d_M_accepted_58 : decode b_M_accepted 58 = .ok (.iconst 0, 1) := by decide +kernel
theorem d_M_accepted_59 : decode b_M_accepted 59 = .ok (.ireturn, 1) := by decide +kernel
theorem d_M_accepted_60 : decode b_M_accepted 60 = .ok (.iinc 2 1, 3) := by decide +kernel
theorem d_M_accepted_63 : decode b_M_accepted 63 = .ok (.goto (-39), 3) := by decide +kernel
theorem d_M_accepted_66 : decode b_M_accepted 66 = .ok (.iconst 1, 1) := by decide +kernel
theorem d_M_accepted_67 : decode b_M_accepted 67 = .ok (.ireturn, 1) := by decide +kernel
theorem d_M_wipe_0 : decode b_M_wipe 0 = .ok (.aload_n 0, 1) := by decide +kernel
theorem d_M_wipe_1 : decode b_M_wipe 1 = .ok (.aload_n 0, 1) := by decide +kernel
theorem d_M_wipe_2 : decode b_M_wipe 2 = .ok (.iload_n 1, 1) := by decide +kernel
theorem d_M_wipe_3 : decode b_M_wipe 3 = .ok (.invokevirtual 96, 3) := by decide +kernel
theorem d_M_wipe_6 : decode b_M_wipe 6 = .ok (.putfield 7, 3) := by decide +kernel
theorem d_M_wipe_9 : decode b_M_wipe 9 = .ok (.aload_n 0, 1) := by decide +kernel
theorem d_M_wipe_10 : decode b_M_wipe 10 = .ok (.getfield 7, 3) := by decide +kernel
theorem d_M_wipe_13 : decode b_M_wipe 13 = .ok (.ifCond .ne 17, 3) := by decide +kernel
theorem d_M_wipe_16 : decode b_M_wipe 16 = .ok (.aload_n 0, 1) := by decide +kernel
theorem d_M_wipe_17 : decode b_M_wipe 17 = .ok (.getfield 33, 3) := by decide +kernel
theorem d_M_wipe_20 : decode b_M_wipe 20 = .ok (.iload_n 1, 1) := by decide +kernel
theorem d_M_wipe_21 : decode b_M_wipe 21 = .ok (.baload, 1) := by decide +kernel
theorem d_M_wipe_22 : decode b_M_wipe 22 = .ok (.ifCond .eq 8, 3) := by decide +kernel
theorem d_M_wipe_25 : decode b_M_wipe 25 = .ok (.aload_n 0, 1) := by decide +kernel
theorem d_M_wipe_26 : decode b_M_wipe 26 = .ok (.iconst 3, 1) := by decide +kernel
theorem d_M_wipe_27 : decode b_M_wipe 27 = .ok (.putfield 7, 3) := by decide +kernel
theorem d_M_wipe_30 : decode b_M_wipe 30 = .ok (.aload_n 0, 1) := by decide +kernel
theorem d_M_wipe_31 : decode b_M_wipe 31 = .ok (.getfield 7, 3) := by decide +kernel
theorem d_M_wipe_34 : decode b_M_wipe 34 = .ok (.ifCond .ne 10, 3) := by decide +kernel
theorem d_M_wipe_37 : decode b_M_wipe 37 = .ok (.aload_n 0, 1) := by decide +kernel
theorem d_M_wipe_38 : decode b_M_wipe 38 = .ok (.getfield 33, 3) := by decide +kernel
theorem d_M_wipe_41 : decode b_M_wipe 41 = .ok (.iload_n 1, 1) := by decide +kernel
theorem d_M_wipe_42 : decode b_M_wipe 42 = .ok (.iconst 1, 1) := by decide +kernel
theorem d_M_wipe_43 : decode b_M_wipe 43 = .ok (.bastore, 1) := by decide +kernel
theorem d_M_wipe_44 : decode b_M_wipe 44 = .ok (.return_, 1) := by decide +kernel
theorem d_M_recover_0 : decode b_M_recover 0 = .ok (.aload_n 0, 1) := by decide +kernel
theorem d_M_recover_1 : decode b_M_recover 1 = .ok (.aload_n 0, 1) := by decide +kernel
theorem d_M_recover_2 : decode b_M_recover 2 = .ok (.iload_n 1, 1) := by decide +kernel
theorem d_M_recover_3 : decode b_M_recover 3 = .ok (.invokevirtual 96, 3) := by decide +kernel
theorem d_M_recover_6 : decode b_M_recover 6 = .ok (.putfield 7, 3) := by decide +kernel
theorem d_M_recover_9 : decode b_M_recover 9 = .ok (.aload_n 0, 1) := by decide +kernel
theorem d_M_recover_10 : decode b_M_recover 10 = .ok (.getfield 7, 3) := by decide +kernel
theorem d_M_recover_13 : decode b_M_recover 13 = .ok (.ifCond .eq 5, 3) := by decide +kernel
theorem d_M_recover_16 : decode b_M_recover 16 = .ok (.iconst 0, 1) := by decide +kernel
theorem d_M_recover_17 : decode b_M_recover 17 = .ok (.ireturn, 1) := by decide +kernel
theorem d_M_recover_18 : decode b_M_recover 18 = .ok (.iconst 0, 1) := by decide +kernel
theorem d_M_recover_19 : decode b_M_recover 19 = .ok (.istore_n 2, 1) := by decide +kernel
theorem d_M_recover_20 : decode b_M_recover 20 = .ok (.iconst 1, 1) := by decide +kernel
theorem d_M_recover_21 : decode b_M_recover 21 = .ok (.istore_n 3, 1) := by decide +kernel
theorem d_M_recover_22 : decode b_M_recover 22 = .ok (.iload_n 3, 1) := by decide +kernel
theorem d_M_recover_23 : decode b_M_recover 23 = .ok (.bipush 8, 2) := by decide +kernel
theorem d_M_recover_25 : decode b_M_recover 25 = .ok (.if_icmp .ge 30, 3) := by decide +kernel
theorem d_M_recover_28 : decode b_M_recover 28 = .ok (.iload_n 3, 1) := by decide +kernel
theorem d_M_recover_29 : decode b_M_recover 29 = .ok (.iload_n 1, 1) := by decide +kernel
theorem d_M_recover_30 : decode b_M_recover 30 = .ok (.if_icmp .eq 19, 3) := by decide +kernel
theorem d_M_recover_33 : decode b_M_recover 33 = .ok (.aload_n 0, 1) := by decide +kernel
theorem d_M_recover_34 : decode b_M_recover 34 = .ok (.iload_n 3, 1) := by decide +kernel
theorem d_M_recover_35 : decode b_M_recover 35 = .ok (.invokevirtual 120, 3) := by decide +kernel
theorem d_M_recover_38 : decode b_M_recover 38 = .ok (.ifCond .eq 11, 3) := by decide +kernel
theorem d_M_recover_41 : decode b_M_recover 41 = .ok (.iload_n 2, 1) := by decide +kernel
theorem d_M_recover_42 : decode b_M_recover 42 = .ok (.iconst 1, 1) := by decide +kernel
theorem d_M_recover_43 : decode b_M_recover 43 = .ok (.iload_n 3, 1) := by decide +kernel
theorem d_M_recover_44 : decode b_M_recover 44 = .ok (.iconst 1, 1) := by decide +kernel
theorem d_M_recover_45 : decode b_M_recover 45 = .ok (.isub, 1) := by decide +kernel
theorem d_M_recover_46 : decode b_M_recover 46 = .ok (.ishl, 1) := by decide +kernel
theorem d_M_recover_47 : decode b_M_recover 47 = .ok (.ior, 1) := by decide +kernel
theorem d_M_recover_48 : decode b_M_recover 48 = .ok (.istore_n 2, 1) := by decide +kernel
theorem d_M_recover_49 : decode b_M_recover 49 = .ok (.iinc 3 1, 3) := by decide +kernel
theorem d_M_recover_52 : decode b_M_recover 52 = .ok (.goto (-30), 3) := by decide +kernel
theorem d_M_recover_55 : decode b_M_recover 55 = .ok (.iload_n 2, 1) := by decide +kernel
theorem d_M_recover_56 : decode b_M_recover 56 = .ok (.invokestatic 123, 3) := by decide +kernel
theorem d_M_recover_59 : decode b_M_recover 59 = .ok (.istore_n 3, 1) := by decide +kernel
theorem d_M_recover_60 : decode b_M_recover 60 = .ok (.aload_n 0, 1) := by decide +kernel
theorem d_M_recover_61 : decode b_M_recover 61 = .ok (.getfield 33, 3) := by decide +kernel
theorem d_M_recover_64 : decode b_M_recover 64 = .ok (.iload_n 1, 1) := by decide +kernel
theorem d_M_recover_65 : decode b_M_recover 65 = .ok (.baload, 1) := by decide +kernel
theorem d_M_recover_66 : decode b_M_recover 66 = .ok (.ifCond .eq 7, 3) := by decide +kernel
theorem d_M_recover_69 : decode b_M_recover 69 = .ok (.iload_n 3, 1) := by decide +kernel
theorem d_M_recover_70 : decode b_M_recover 70 = .ok (.ifCond .ne 10, 3) := by decide +kernel
theorem d_M_recover_73 : decode b_M_recover 73 = .ok (.aload_n 0, 1) := by decide +kernel
theorem d_M_recover_74 : decode b_M_recover 74 = .ok (.iconst 3, 1) := by decide +kernel
theorem d_M_recover_75 : decode b_M_recover 75 = .ok (.putfield 7, 3) := by decide +kernel
theorem d_M_recover_78 : decode b_M_recover 78 = .ok (.iconst 0, 1) := by decide +kernel
theorem d_M_recover_79 : decode b_M_recover 79 = .ok (.ireturn, 1) := by decide +kernel
theorem d_M_recover_80 : decode b_M_recover 80 = .ok (.aload_n 0, 1) := by decide +kernel
theorem d_M_recover_81 : decode b_M_recover 81 = .ok (.getfield 29, 3) := by decide +kernel
theorem d_M_recover_84 : decode b_M_recover 84 = .ok (.iload_n 1, 1) := by decide +kernel
theorem d_M_recover_85 : decode b_M_recover 85 = .ok (.aload_n 0, 1) := by decide +kernel
theorem d_M_recover_86 : decode b_M_recover 86 = .ok (.iload_n 3, 1) := by decide +kernel
theorem d_M_recover_87 : decode b_M_recover 87 = .ok (.iload_n 1, 1) := by decide +kernel
theorem d_M_recover_88 : decode b_M_recover 88 = .ok (.invokevirtual 126, 3) := by decide +kernel
theorem d_M_recover_91 : decode b_M_recover 91 = .ok (.iastore, 1) := by decide +kernel
theorem d_M_recover_92 : decode b_M_recover 92 = .ok (.aload_n 0, 1) := by decide +kernel
theorem d_M_recover_93 : decode b_M_recover 93 = .ok (.getfield 33, 3) := by decide +kernel
theorem d_M_recover_96 : decode b_M_recover 96 = .ok (.iload_n 1, 1) := by decide +kernel
theorem d_M_recover_97 : decode b_M_recover 97 = .ok (.iconst 0, 1) := by decide +kernel
theorem d_M_recover_98 : decode b_M_recover 98 = .ok (.bastore, 1) := by decide +kernel
theorem d_M_recover_99 : decode b_M_recover 99 = .ok (.iload_n 3, 1) := by decide +kernel
theorem d_M_recover_100 : decode b_M_recover 100 = .ok (.ireturn, 1) := by decide +kernel
theorem d_M_fitsSums_0 : decode b_M_fitsSums 0 = .ok (.aload_n 0, 1) := by decide +kernel
theorem d_M_fitsSums_1 : decode b_M_fitsSums 1 = .ok (.getfield 33, 3) := by decide +kernel
theorem d_M_fitsSums_4 : decode b_M_fitsSums 4 = .ok (.iload_n 1, 1) := by decide +kernel
theorem d_M_fitsSums_5 : decode b_M_fitsSums 5 = .ok (.baload, 1) := by decide +kernel
theorem d_M_fitsSums_6 : decode b_M_fitsSums 6 = .ok (.ifCond .ne 34, 3) := by decide +kernel
theorem d_M_fitsSums_9 : decode b_M_fitsSums 9 = .ok (.aload_n 0, 1) := by decide +kernel
theorem d_M_fitsSums_10 : decode b_M_fitsSums 10 = .ok (.aload_n 0, 1) := by decide +kernel
theorem d_M_fitsSums_11 : decode b_M_fitsSums 11 = .ok (.getfield 19, 3) := by decide +kernel
theorem d_M_fitsSums_14 : decode b_M_fitsSums 14 = .ok (.aload_n 0, 1) := by decide +kernel
theorem d_M_fitsSums_15 : decode b_M_fitsSums 15 = .ok (.getfield 29, 3) := by decide +kernel
theorem d_M_fitsSums_18 : decode b_M_fitsSums 18 = .ok (.iload_n 1, 1) := by decide +kernel
theorem d_M_fitsSums_19 : decode b_M_fitsSums 19 = .ok (.iaload, 1) := by decide +kernel
theorem d_M_fitsSums_20 : decode b_M_fitsSums 20 = .ok (.invokevirtual 68, 3) := by decide +kernel
theorem d_M_fitsSums_23 : decode b_M_fitsSums 23 = .ok (.aload_n 0, 1) := by decide +kernel
theorem d_M_fitsSums_24 : decode b_M_fitsSums 24 = .ok (.aload_n 0, 1) := by decide +kernel
theorem d_M_fitsSums_25 : decode b_M_fitsSums 25 = .ok (.getfield 37, 3) := by decide +kernel
theorem d_M_fitsSums_28 : decode b_M_fitsSums 28 = .ok (.iconst 0, 1) := by decide +kernel
theorem d_M_fitsSums_29 : decode b_M_fitsSums 29 = .ok (.iload_n 1, 1) := by decide +kernel
theorem d_M_fitsSums_30 : decode b_M_fitsSums 30 = .ok (.invokevirtual 72, 3) := by decide +kernel
theorem d_M_fitsSums_33 : decode b_M_fitsSums 33 = .ok (.if_icmp .ne 7, 3) := by decide +kernel
theorem d_M_fitsSums_36 : decode b_M_fitsSums 36 = .ok (.iconst 1, 1) := by decide +kernel
theorem d_M_fitsSums_37 : decode b_M_fitsSums 37 = .ok (.goto 4, 3) := by decide +kernel
theorem d_M_fitsSums_40 : decode b_M_fitsSums 40 = .ok (.iconst 0, 1) := by decide +kernel
theorem d_M_fitsSums_41 : decode b_M_fitsSums 41 = .ok (.ireturn, 1) := by decide +kernel
theorem d_M_four_0 : decode b_M_four 0 = .ok (.iconst 0, 1) := by decide +kernel
theorem d_M_four_1 : decode b_M_four 1 = .ok (.istore_n 1, 1) := by decide +kernel
theorem d_M_four_2 : decode b_M_four 2 = .ok (.iconst 0, 1) := by decide +kernel
theorem d_M_four_3 : decode b_M_four 3 = .ok (.istore_n 2, 1) := by decide +kernel
theorem d_M_four_4 : decode b_M_four 4 = .ok (.iconst 1, 1) := by decide +kernel
theorem d_M_four_5 : decode b_M_four 5 = .ok (.istore_n 3, 1) := by decide +kernel
theorem d_M_four_6 : decode b_M_four 6 = .ok (.iload_n 3, 1) := by decide +kernel
theorem d_M_four_7 : decode b_M_four 7 = .ok (.bipush 8, 2) := by decide +kernel
theorem d_M_four_9 : decode b_M_four 9 = .ok (.if_icmp .ge 36, 3) := by decide +kernel
theorem d_M_four_12 : decode b_M_four 12 = .ok (.iload_n 0, 1) := by decide +kernel
theorem d_M_four_13 : decode b_M_four 13 = .ok (.iload_n 3, 1) := by decide +kernel
theorem d_M_four_14 : decode b_M_four 14 = .ok (.iconst 1, 1) := by decide +kernel
theorem d_M_four_15 : decode b_M_four 15 = .ok (.isub, 1) := by decide +kernel
theorem d_M_four_16 : decode b_M_four 16 = .ok (.ishr, 1) := by decide +kernel
theorem d_M_four_17 : decode b_M_four 17 = .ok (.iconst 1, 1) := by decide +kernel
theorem d_M_four_18 : decode b_M_four 18 = .ok (.iand, 1) := by decide +kernel
theorem d_M_four_19 : decode b_M_four 19 = .ok (.iconst 1, 1) := by decide +kernel
theorem d_M_four_20 : decode b_M_four 20 = .ok (.if_icmp .ne 19, 3) := by decide +kernel
theorem d_M_four_23 : decode b_M_four 23 = .ok (.iload_n 2, 1) := by decide +kernel
theorem d_M_four_24 : decode b_M_four 24 = .ok (.iconst 4, 1) := by decide +kernel
theorem d_M_four_25 : decode b_M_four 25 = .ok (.if_icmp .ge 14, 3) := by decide +kernel
theorem d_M_four_28 : decode b_M_four 28 = .ok (.iload_n 1, 1) := by decide +kernel
theorem d_M_four_29 : decode b_M_four 29 = .ok (.iconst 1, 1) := by decide +kernel
theorem d_M_four_30 : decode b_M_four 30 = .ok (.iload_n 3, 1) := by decide +kernel
theorem d_M_four_31 : decode b_M_four 31 = .ok (.iconst 1, 1) := by decide +kernel
theorem d_M_four_32 : decode b_M_four 32 = .ok (.isub, 1) := by decide +kernel
theorem d_M_four_33 : decode b_M_four 33 = .ok (.ishl, 1) := by decide +kernel
theorem d_M_four_34 : decode b_M_four 34 = .ok (.ior, 1) := by decide +kernel
theorem d_M_four_35 : decode b_M_four 35 = .ok (.istore_n 1, 1) := by decide +kernel
theorem d_M_four_36 : decode b_M_four 36 = .ok (.iinc 2 1, 3) := by decide +kernel
theorem d_M_four_39 : decode b_M_four 39 = .ok (.iinc 3 1, 3) := by decide +kernel
theorem d_M_four_42 : decode b_M_four 42 = .ok (.goto (-36), 3) := by decide +kernel
theorem d_M_four_45 : decode b_M_four 45 = .ok (.iload_n 2, 1) := by decide +kernel
theorem d_M_four_46 : decode b_M_four 46 = .ok (.iconst 4, 1) := by decide +kernel
theorem d_M_four_47 : decode b_M_four 47 = .ok (.if_icmp .ne 7, 3) := by decide +kernel
theorem d_M_four_50 : decode b_M_four 50 = .ok (.iload_n 1, 1) := by decide +kernel
theorem d_M_four_51 : decode b_M_four 51 = .ok (.goto 4, 3) := by decide +kernel
theorem d_M_four_54 : decode b_M_four 54 = .ok (.iconst 0, 1) := by decide +kernel
theorem d_M_four_55 : decode b_M_four 55 = .ok (.ireturn, 1) := by decide +kernel
theorem d_M_interpolate_0 : decode b_M_interpolate 0 = .ok (.iconst 0, 1) := by decide +kernel
theorem d_M_interpolate_1 : decode b_M_interpolate 1 = .ok (.istore_n 3, 1) := by decide +kernel
theorem d_M_interpolate_2 : decode b_M_interpolate 2 = .ok (.iconst 1, 1) := by decide +kernel
theorem d_M_interpolate_3 : decode b_M_interpolate 3 = .ok (.istore 4, 2) := by decide +kernel
theorem d_M_interpolate_5 : decode b_M_interpolate 5 = .ok (.iload 4, 2) := by decide +kernel
theorem d_M_interpolate_7 : decode b_M_interpolate 7 = .ok (.bipush 8, 2) := by decide +kernel
theorem d_M_interpolate_9 : decode b_M_interpolate 9 = .ok (.if_icmp .ge 119, 3) := by decide +kernel
theorem d_M_interpolate_12 : decode b_M_interpolate 12 = .ok (.iload_n 1, 1) := by decide +kernel
theorem d_M_interpolate_13 : decode b_M_interpolate 13 = .ok (.iload 4, 2) := by decide +kernel
theorem d_M_interpolate_15 : decode b_M_interpolate 15 = .ok (.iconst 1, 1) := by decide +kernel
theorem d_M_interpolate_16 : decode b_M_interpolate 16 = .ok (.isub, 1) := by decide +kernel
theorem d_M_interpolate_17 : decode b_M_interpolate 17 = .ok (.ishr, 1) := by decide +kernel
theorem d_M_interpolate_18 : decode b_M_interpolate 18 = .ok (.iconst 1, 1) := by decide +kernel
theorem d_M_interpolate_19 : decode b_M_interpolate 19 = .ok (.iand, 1) := by decide +kernel
theorem d_M_interpolate_20 : decode b_M_interpolate 20 = .ok (.iconst 1, 1) := by decide +kernel
theorem d_M_interpolate_21 : decode b_M_interpolate 21 = .ok (.if_icmp .ne 101, 3) := by decide +kernel
theorem d_M_interpolate_24 : decode b_M_interpolate 24 = .ok (.aload_n 0, 1) := by decide +kernel
theorem d_M_interpolate_25 : decode b_M_interpolate 25 = .ok (.getfield 29, 3) := by decide +kernel
theorem d_M_interpolate_28 : decode b_M_interpolate 28 = .ok (.iload 4, 2) := by decide +kernel
theorem d_M_interpolate_30 : decode b_M_interpolate 30 = .ok (.iaload, 1) := by decide +kernel
theorem d_M_interpolate_31 : decode b_M_interpolate 31 = .ok (.istore 5, 2) := by decide +kernel
theorem d_M_interpolate_33 : decode b_M_interpolate 33 = .ok (.iconst 1, 1) := by decide +kernel
theorem d_M_interpolate_34 : decode b_M_interpolate 34 = .ok (.istore 6, 2) := by decide +kernel
theorem d_M_interpolate_36 : decode b_M_interpolate 36 = .ok (.iload 6, 2) := by decide +kernel
theorem d_M_interpolate_38 : decode b_M_interpolate 38 = .ok (.bipush 8, 2) := by decide +kernel
theorem d_M_interpolate_40 : decode b_M_interpolate 40 = .ok (.if_icmp .ge 72, 3) := by decide +kernel
theorem d_M_interpolate_43 : decode b_M_interpolate 43 = .ok (.iload 6, 2) := by decide +kernel
theorem d_M_interpolate_45 : decode b_M_interpolate 45 = .ok (.iload 4, 2) := by decide +kernel
theorem d_M_interpolate_47 : decode b_M_interpolate 47 = .ok (.if_icmp .eq 59, 3) := by decide +kernel
theorem d_M_interpolate_50 : decode b_M_interpolate 50 = .ok (.iload_n 1, 1) := by decide +kernel
theorem d_M_interpolate_51 : decode b_M_interpolate 51 = .ok (.iload 6, 2) := by decide +kernel
theorem d_M_interpolate_53 : decode b_M_interpolate 53 = .ok (.iconst 1, 1) := by decide +kernel
theorem d_M_interpolate_54 : decode b_M_interpolate 54 = .ok (.isub, 1) := by decide +kernel
theorem d_M_interpolate_55 : decode b_M_interpolate 55 = .ok (.ishr, 1) := by decide +kernel
theorem d_M_interpolate_56 : decode b_M_interpolate 56 = .ok (.iconst 1, 1) := by decide +kernel
theorem d_M_interpolate_57 : decode b_M_interpolate 57 = .ok (.iand, 1) := by decide +kernel
theorem d_M_interpolate_58 : decode b_M_interpolate 58 = .ok (.iconst 1, 1) := by decide +kernel
theorem d_M_interpolate_59 : decode b_M_interpolate 59 = .ok (.if_icmp .ne 47, 3) := by decide +kernel
theorem d_M_interpolate_62 : decode b_M_interpolate 62 = .ok (.iload 5, 2) := by decide +kernel
theorem d_M_interpolate_64 : decode b_M_interpolate 64 = .ok (.iload_n 2, 1) := by decide +kernel
theorem d_M_interpolate_65 : decode b_M_interpolate 65 = .ok (.iload 6, 2) := by decide +kernel
theorem d_M_interpolate_67 : decode b_M_interpolate 67 = .ok (.isub, 1) := by decide +kernel
theorem d_M_interpolate_68 : decode b_M_interpolate 68 = .ok (.aload_n 0, 1) := by decide +kernel
theorem d_M_interpolate_69 : decode b_M_interpolate 69 = .ok (.getfield 16, 3) := by decide +kernel
theorem d_M_interpolate_72 : decode b_M_interpolate 72 = .ok (.irem, 1) := by decide +kernel
theorem d_M_interpolate_73 : decode b_M_interpolate 73 = .ok (.aload_n 0, 1) := by decide +kernel
theorem d_M_interpolate_74 : decode b_M_interpolate 74 = .ok (.getfield 16, 3) := by decide +kernel
theorem d_M_interpolate_77 : decode b_M_interpolate 77 = .ok (.iadd, 1) := by decide +kernel
theorem d_M_interpolate_78 : decode b_M_interpolate 78 = .ok (.aload_n 0, 1) := by decide +kernel
theorem d_M_interpolate_79 : decode b_M_interpolate 79 = .ok (.getfield 16, 3) := by decide +kernel
theorem d_M_interpolate_82 : decode b_M_interpolate 82 = .ok (.irem, 1) := by decide +kernel
theorem d_M_interpolate_83 : decode b_M_interpolate 83 = .ok (.imul, 1) := by decide +kernel
theorem d_M_interpolate_84 : decode b_M_interpolate 84 = .ok (.aload_n 0, 1) := by decide +kernel
theorem d_M_interpolate_85 : decode b_M_interpolate 85 = .ok (.getfield 16, 3) := by decide +kernel
theorem d_M_interpolate_88 : decode b_M_interpolate 88 = .ok (.irem, 1) := by decide +kernel
theorem d_M_interpolate_89 : decode b_M_interpolate 89 = .ok (.aload_n 0, 1) := by decide +kernel
theorem d_M_interpolate_90 : decode b_M_interpolate 90 = .ok (.iload 4, 2) := by decide +kernel
theorem d_M_interpolate_92 : decode b_M_interpolate 92 = .ok (.iload 6, 2) := by decide +kernel
theorem d_M_interpolate_94 : decode b_M_interpolate 94 = .ok (.isub, 1) := by decide +kernel
theorem d_M_interpolate_95 : decode b_M_interpolate 95 = .ok (.invokevirtual 79, 3) := by decide +kernel
theorem d_M_interpolate_98 : decode b_M_interpolate 98 = .ok (.imul, 1) := by decide +kernel
theorem d_M_interpolate_99 : decode b_M_interpolate 99 = .ok (.aload_n 0, 1) := by decide +kernel
theorem d_M_interpolate_100 : decode b_M_interpolate 100 = .ok (.getfield 16, 3) := by decide +kernel
theorem d_M_interpolate_103 : decode b_M_interpolate 103 = .ok (.irem, 1) := by decide +kernel
theorem d_M_interpolate_104 : decode b_M_interpolate 104 = .ok (.istore 5, 2) := by decide +kernel
theorem d_M_interpolate_106 : decode b_M_interpolate 106 = .ok (.iinc 6 1, 3) := by decide +kernel
theorem d_M_interpolate_109 : decode b_M_interpolate 109 = .ok (.goto (-73), 3) := by decide +kernel
theorem d_M_interpolate_112 : decode b_M_interpolate 112 = .ok (.iload_n 3, 1) := by decide +kernel
theorem d_M_interpolate_113 : decode b_M_interpolate 113 = .ok (.iload 5, 2) := by decide +kernel
theorem d_M_interpolate_115 : decode b_M_interpolate 115 = .ok (.iadd, 1) := by decide +kernel
theorem d_M_interpolate_116 : decode b_M_interpolate 116 = .ok (.aload_n 0, 1) := by decide +kernel
theorem d_M_interpolate_117 : decode b_M_interpolate 117 = .ok (.getfield 16, 3) := by decide +kernel
theorem d_M_interpolate_120 : decode b_M_interpolate 120 = .ok (.irem, 1) := by decide +kernel
theorem d_M_interpolate_121 : decode b_M_interpolate 121 = .ok (.istore_n 3, 1) := by decide +kernel
theorem d_M_interpolate_122 : decode b_M_interpolate 122 = .ok (.iinc 4 1, 3) := by decide +kernel
theorem d_M_interpolate_125 : decode b_M_interpolate 125 = .ok (.goto (-120), 3) := by decide +kernel
theorem d_M_interpolate_128 : decode b_M_interpolate 128 = .ok (.iload_n 3, 1) := by decide +kernel
theorem d_M_interpolate_129 : decode b_M_interpolate 129 = .ok (.ireturn, 1) := by decide +kernel
theorem d_M_inverse_0 : decode b_M_inverse 0 = .ok (.iconst 1, 1) := by decide +kernel
theorem d_M_inverse_1 : decode b_M_inverse 1 = .ok (.istore_n 2, 1) := by decide +kernel
theorem d_M_inverse_2 : decode b_M_inverse 2 = .ok (.iload_n 1, 1) := by decide +kernel
theorem d_M_inverse_3 : decode b_M_inverse 3 = .ok (.aload_n 0, 1) := by decide +kernel
theorem d_M_inverse_4 : decode b_M_inverse 4 = .ok (.getfield 16, 3) := by decide +kernel
theorem d_M_inverse_7 : decode b_M_inverse 7 = .ok (.irem, 1) := by decide +kernel
theorem d_M_inverse_8 : decode b_M_inverse 8 = .ok (.aload_n 0, 1) := by decide +kernel
theorem d_M_inverse_9 : decode b_M_inverse 9 = .ok (.getfield 16, 3) := by decide +kernel
theorem d_M_inverse_12 : decode b_M_inverse 12 = .ok (.iadd, 1) := by decide +kernel
theorem d_M_inverse_13 : decode b_M_inverse 13 = .ok (.aload_n 0, 1) := by decide +kernel
theorem d_M_inverse_14 : decode b_M_inverse 14 = .ok (.getfield 16, 3) := by decide +kernel
theorem d_M_inverse_17 : decode b_M_inverse 17 = .ok (.irem, 1) := by decide +kernel
theorem d_M_inverse_18 : decode b_M_inverse 18 = .ok (.istore_n 3, 1) := by decide +kernel
theorem d_M_inverse_19 : decode b_M_inverse 19 = .ok (.aload_n 0, 1) := by decide +kernel
theorem d_M_inverse_20 : decode b_M_inverse 20 = .ok (.getfield 16, 3) := by decide +kernel
theorem d_M_inverse_23 : decode b_M_inverse 23 = .ok (.iconst 2, 1) := by decide +kernel
theorem d_M_inverse_24 : decode b_M_inverse 24 = .ok (.isub, 1) := by decide +kernel
theorem d_M_inverse_25 : decode b_M_inverse 25 = .ok (.istore 4, 2) := by decide +kernel
theorem d_M_inverse_27 : decode b_M_inverse 27 = .ok (.iload 4, 2) := by decide +kernel
theorem d_M_inverse_29 : decode b_M_inverse 29 = .ok (.ifCond .le 38, 3) := by decide +kernel
theorem d_M_inverse_32 : decode b_M_inverse 32 = .ok (.iload 4, 2) := by decide +kernel
theorem d_M_inverse_34 : decode b_M_inverse 34 = .ok (.iconst 1, 1) := by decide +kernel
theorem d_M_inverse_35 : decode b_M_inverse 35 = .ok (.iand, 1) := by decide +kernel
theorem d_M_inverse_36 : decode b_M_inverse 36 = .ok (.iconst 1, 1) := by decide +kernel
theorem d_M_inverse_37 : decode b_M_inverse 37 = .ok (.if_icmp .ne 12, 3) := by decide +kernel
theorem d_M_inverse_40 : decode b_M_inverse 40 = .ok (.iload_n 2, 1) := by decide +kernel
theorem d_M_inverse_41 : decode b_M_inverse 41 = .ok (.iload_n 3, 1) := by decide +kernel
theorem d_M_inverse_42 : decode b_M_inverse 42 = .ok (.imul, 1) := by decide +kernel
theorem d_M_inverse_43 : decode b_M_inverse 43 = .ok (.aload_n 0, 1) := by decide +kernel
theorem d_M_inverse_44 : decode b_M_inverse 44 = .ok (.getfield 16, 3) := by decide +kernel
theorem d_M_inverse_47 : decode b_M_inverse 47 = .ok (.irem, 1) := by decide +kernel
theorem d_M_inverse_48 : decode b_M_inverse 48 = .ok (.istore_n 2, 1) := by decide +kernel
theorem d_M_inverse_49 : decode b_M_inverse 49 = .ok (.iload_n 3, 1) := by decide +kernel
theorem d_M_inverse_50 : decode b_M_inverse 50 = .ok (.iload_n 3, 1) := by decide +kernel
theorem d_M_inverse_51 : decode b_M_inverse 51 = .ok (.imul, 1) := by decide +kernel
theorem d_M_inverse_52 : decode b_M_inverse 52 = .ok (.aload_n 0, 1) := by decide +kernel
theorem d_M_inverse_53 : decode b_M_inverse 53 = .ok (.getfield 16, 3) := by decide +kernel
theorem d_M_inverse_56 : decode b_M_inverse 56 = .ok (.irem, 1) := by decide +kernel
theorem d_M_inverse_57 : decode b_M_inverse 57 = .ok (.istore_n 3, 1) := by decide +kernel
theorem d_M_inverse_58 : decode b_M_inverse 58 = .ok (.iload 4, 2) := by decide +kernel
theorem d_M_inverse_60 : decode b_M_inverse 60 = .ok (.iconst 1, 1) := by decide +kernel
theorem d_M_inverse_61 : decode b_M_inverse 61 = .ok (.ishr, 1) := by decide +kernel
theorem d_M_inverse_62 : decode b_M_inverse 62 = .ok (.istore 4, 2) := by decide +kernel
theorem d_M_inverse_64 : decode b_M_inverse 64 = .ok (.goto (-37), 3) := by decide +kernel
theorem d_M_inverse_67 : decode b_M_inverse 67 = .ok (.iload_n 2, 1) := by decide +kernel
theorem d_M_inverse_68 : decode b_M_inverse 68 = .ok (.ireturn, 1) := by decide +kernel
theorem d_M_share_0 : decode b_M_share 0 = .ok (.aload_n 0, 1) := by decide +kernel
theorem d_M_share_1 : decode b_M_share 1 = .ok (.aload_n 0, 1) := by decide +kernel
theorem d_M_share_2 : decode b_M_share 2 = .ok (.iload_n 1, 1) := by decide +kernel
theorem d_M_share_3 : decode b_M_share 3 = .ok (.invokevirtual 96, 3) := by decide +kernel
theorem d_M_share_6 : decode b_M_share 6 = .ok (.putfield 7, 3) := by decide +kernel
theorem d_M_share_9 : decode b_M_share 9 = .ok (.aload_n 0, 1) := by decide +kernel
theorem d_M_share_10 : decode b_M_share 10 = .ok (.getfield 7, 3) := by decide +kernel
theorem d_M_share_13 : decode b_M_share 13 = .ok (.ifCond .eq 7, 3) := by decide +kernel
theorem d_M_share_16 : decode b_M_share 16 = .ok (.iconst 0, 1) := by decide +kernel
theorem d_M_share_17 : decode b_M_share 17 = .ok (.goto 22, 3) := by decide +kernel
theorem d_M_share_20 : decode b_M_share 20 = .ok (.aload_n 0, 1) := by decide +kernel
theorem d_M_share_21 : decode b_M_share 21 = .ok (.getfield 33, 3) := by decide +kernel
theorem d_M_share_24 : decode b_M_share 24 = .ok (.iload_n 1, 1) := by decide +kernel
theorem d_M_share_25 : decode b_M_share 25 = .ok (.baload, 1) := by decide +kernel
theorem d_M_share_26 : decode b_M_share 26 = .ok (.ifCond .eq 7, 3) := by decide +kernel
theorem d_M_share_29 : decode b_M_share 29 = .ok (.iconst (-1), 1) := by decide +kernel
theorem d_M_share_30 : decode b_M_share 30 = .ok (.goto 9, 3) := by decide +kernel
theorem d_M_share_33 : decode b_M_share 33 = .ok (.aload_n 0, 1) := by decide +kernel
theorem d_M_share_34 : decode b_M_share 34 = .ok (.getfield 29, 3) := by decide +kernel
theorem d_M_share_37 : decode b_M_share 37 = .ok (.iload_n 1, 1) := by decide +kernel
theorem d_M_share_38 : decode b_M_share 38 = .ok (.iaload, 1) := by decide +kernel
theorem d_M_share_39 : decode b_M_share 39 = .ok (.ireturn, 1) := by decide +kernel
theorem d_M_fits_0 : decode b_M_fits 0 = .ok (.aload_n 0, 1) := by decide +kernel
theorem d_M_fits_1 : decode b_M_fits 1 = .ok (.aload_n 0, 1) := by decide +kernel
theorem d_M_fits_2 : decode b_M_fits 2 = .ok (.iload_n 1, 1) := by decide +kernel
theorem d_M_fits_3 : decode b_M_fits 3 = .ok (.invokevirtual 96, 3) := by decide +kernel
theorem d_M_fits_6 : decode b_M_fits 6 = .ok (.putfield 7, 3) := by decide +kernel
theorem d_M_fits_9 : decode b_M_fits 9 = .ok (.aload_n 0, 1) := by decide +kernel
theorem d_M_fits_10 : decode b_M_fits 10 = .ok (.getfield 7, 3) := by decide +kernel
theorem d_M_fits_13 : decode b_M_fits 13 = .ok (.ifCond .ne 15, 3) := by decide +kernel
theorem d_M_fits_16 : decode b_M_fits 16 = .ok (.aload_n 0, 1) := by decide +kernel
theorem d_M_fits_17 : decode b_M_fits 17 = .ok (.iload_n 1, 1) := by decide +kernel
theorem d_M_fits_18 : decode b_M_fits 18 = .ok (.invokevirtual 120, 3) := by decide +kernel
theorem d_M_fits_21 : decode b_M_fits 21 = .ok (.ifCond .eq 7, 3) := by decide +kernel
theorem d_M_fits_24 : decode b_M_fits 24 = .ok (.iconst 1, 1) := by decide +kernel
theorem d_M_fits_25 : decode b_M_fits 25 = .ok (.goto 4, 3) := by decide +kernel
theorem d_M_fits_28 : decode b_M_fits 28 = .ok (.iconst 0, 1) := by decide +kernel
theorem d_M_fits_29 : decode b_M_fits 29 = .ok (.ireturn, 1) := by decide +kernel
theorem d_M_sum_0 : decode b_M_sum 0 = .ok (.aload_n 0, 1) := by decide +kernel
theorem d_M_sum_1 : decode b_M_sum 1 = .ok (.aload_n 0, 1) := by decide +kernel
theorem d_M_sum_2 : decode b_M_sum 2 = .ok (.getfield 22, 3) := by decide +kernel
theorem d_M_sum_5 : decode b_M_sum 5 = .ok (.ifCond .ne 7, 3) := by decide +kernel
theorem d_M_sum_8 : decode b_M_sum 8 = .ok (.iconst 1, 1) := by decide +kernel
theorem d_M_sum_9 : decode b_M_sum 9 = .ok (.goto 17, 3) := by decide +kernel
theorem d_M_sum_12 : decode b_M_sum 12 = .ok (.iload_n 1, 1) := by decide +kernel
theorem d_M_sum_13 : decode b_M_sum 13 = .ok (.ifCond .lt 8, 3) := by decide +kernel
theorem d_M_sum_16 : decode b_M_sum 16 = .ok (.iload_n 1, 1) := by decide +kernel
theorem d_M_sum_17 : decode b_M_sum 17 = .ok (.iconst 3, 1) := by decide +kernel
theorem d_M_sum_18 : decode b_M_sum 18 = .ok (.if_icmp .le 7, 3) := by decide +kernel
theorem d_M_sum_21 : decode b_M_sum 21 = .ok (.iconst 2, 1) := by decide +kernel
theorem d_M_sum_22 : decode b_M_sum 22 = .ok (.goto 4, 3) := by decide +kernel
theorem d_M_sum_25 : decode b_M_sum 25 = .ok (.iconst 0, 1) := by decide +kernel
theorem d_M_sum_26 : decode b_M_sum 26 = .ok (.putfield 7, 3) := by decide +kernel
theorem d_M_sum_29 : decode b_M_sum 29 = .ok (.aload_n 0, 1) := by decide +kernel
theorem d_M_sum_30 : decode b_M_sum 30 = .ok (.getfield 7, 3) := by decide +kernel
theorem d_M_sum_33 : decode b_M_sum 33 = .ok (.ifCond .eq 7, 3) := by decide +kernel
theorem d_M_sum_36 : decode b_M_sum 36 = .ok (.iconst 0, 1) := by decide +kernel
theorem d_M_sum_37 : decode b_M_sum 37 = .ok (.goto 9, 3) := by decide +kernel
theorem d_M_sum_40 : decode b_M_sum 40 = .ok (.aload_n 0, 1) := by decide +kernel
theorem d_M_sum_41 : decode b_M_sum 41 = .ok (.getfield 37, 3) := by decide +kernel
theorem d_M_sum_44 : decode b_M_sum 44 = .ok (.iload_n 1, 1) := by decide +kernel
theorem d_M_sum_45 : decode b_M_sum 45 = .ok (.iaload, 1) := by decide +kernel
theorem d_M_sum_46 : decode b_M_sum 46 = .ok (.ireturn, 1) := by decide +kernel
theorem d_M_element_0 : decode b_M_element 0 = .ok (.aload_n 0, 1) := by decide +kernel
theorem d_M_element_1 : decode b_M_element 1 = .ok (.aload_n 0, 1) := by decide +kernel
theorem d_M_element_2 : decode b_M_element 2 = .ok (.iload_n 1, 1) := by decide +kernel
theorem d_M_element_3 : decode b_M_element 3 = .ok (.invokevirtual 96, 3) := by decide +kernel
theorem d_M_element_6 : decode b_M_element 6 = .ok (.putfield 7, 3) := by decide +kernel
theorem d_M_element_9 : decode b_M_element 9 = .ok (.aload_n 0, 1) := by decide +kernel
theorem d_M_element_10 : decode b_M_element 10 = .ok (.getfield 7, 3) := by decide +kernel
theorem d_M_element_13 : decode b_M_element 13 = .ok (.ifCond .eq 7, 3) := by decide +kernel
theorem d_M_element_16 : decode b_M_element 16 = .ok (.iconst 0, 1) := by decide +kernel
theorem d_M_element_17 : decode b_M_element 17 = .ok (.goto 13, 3) := by decide +kernel
theorem d_M_element_20 : decode b_M_element 20 = .ok (.aload_n 0, 1) := by decide +kernel
theorem d_M_element_21 : decode b_M_element 21 = .ok (.aload_n 0, 1) := by decide +kernel
theorem d_M_element_22 : decode b_M_element 22 = .ok (.getfield 37, 3) := by decide +kernel
theorem d_M_element_25 : decode b_M_element 25 = .ok (.iconst 0, 1) := by decide +kernel
theorem d_M_element_26 : decode b_M_element 26 = .ok (.iload_n 1, 1) := by decide +kernel
theorem d_M_element_27 : decode b_M_element 27 = .ok (.invokevirtual 72, 3) := by decide +kernel
theorem d_M_element_30 : decode b_M_element 30 = .ok (.ireturn, 1) := by decide +kernel
theorem d_M_reconstruct_0 : decode b_M_reconstruct 0 = .ok (.aload_n 0, 1) := by decide +kernel
theorem d_M_reconstruct_1 : decode b_M_reconstruct 1 = .ok (.aload_n 0, 1) := by decide +kernel
theorem d_M_reconstruct_2 : decode b_M_reconstruct 2 = .ok (.getfield 22, 3) := by decide +kernel
theorem d_M_reconstruct_5 : decode b_M_reconstruct 5 = .ok (.ifCond .ne 7, 3) := by decide +kernel
theorem d_M_reconstruct_8 : decode b_M_reconstruct 8 = .ok (.iconst 1, 1) := by decide +kernel
theorem d_M_reconstruct_9 : decode b_M_reconstruct 9 = .ok (.goto 25, 3) := by decide +kernel
theorem d_M_reconstruct_12 : decode b_M_reconstruct 12 = .ok (.iload_n 1, 1) := by decide +kernel
theorem d_M_reconstruct_13 : decode b_M_reconstruct 13 = .ok (.ifCond .lt 16, 3) := by decide +kernel
theorem d_M_reconstruct_16 : decode b_M_reconstruct 16 = .ok (.iload_n 1, 1) := by decide +kernel
theorem d_M_reconstruct_17 : decode b_M_reconstruct 17 = .ok (.bipush 127, 2) := by decide +kernel
theorem d_M_reconstruct_19 : decode b_M_reconstruct 19 = .ok (.if_icmp .gt 10, 3) := by decide +kernel
theorem d_M_reconstruct_22 : decode b_M_reconstruct 22 = .ok (.iload_n 1, 1) := by decide +kernel
theorem d_M_reconstruct_23 : decode b_M_reconstruct 23 = .ok (.invokestatic 123, 3) := by decide +kernel
theorem d_M_reconstruct_26 : decode b_M_reconstruct 26 = .ok (.ifCond .ne 7, 3) := by decide +kernel
theorem d_M_reconstruct_29 : decode b_M_reconstruct 29 = .ok (.iconst 2, 1) := by decide +kernel
theorem d_M_reconstruct_30 : decode b_M_reconstruct 30 = .ok (.goto 4, 3) := by decide +kernel
theorem d_M_reconstruct_33 : decode b_M_reconstruct 33 = .ok (.iconst 0, 1) := by decide +kernel
theorem d_M_reconstruct_34 : decode b_M_reconstruct 34 = .ok (.putfield 7, 3) := by decide +kernel
theorem d_M_reconstruct_37 : decode b_M_reconstruct 37 = .ok (.aload_n 0, 1) := by decide +kernel
theorem d_M_reconstruct_38 : decode b_M_reconstruct 38 = .ok (.getfield 7, 3) := by decide +kernel
theorem d_M_reconstruct_41 : decode b_M_reconstruct 41 = .ok (.ifCond .eq 5, 3) := by decide +kernel
theorem d_M_reconstruct_44 : decode b_M_reconstruct 44 = .ok (.iconst 0, 1) := by decide +kernel
theorem d_M_reconstruct_45 : decode b_M_reconstruct 45 = .ok (.ireturn, 1) := by decide +kernel
theorem d_M_reconstruct_46 : decode b_M_reconstruct 46 = .ok (.iconst 1, 1) := by decide +kernel
theorem d_M_reconstruct_47 : decode b_M_reconstruct 47 = .ok (.istore_n 2, 1) := by decide +kernel
theorem d_M_reconstruct_48 : decode b_M_reconstruct 48 = .ok (.iload_n 2, 1) := by decide +kernel
theorem d_M_reconstruct_49 : decode b_M_reconstruct 49 = .ok (.bipush 8, 2) := by decide +kernel
theorem d_M_reconstruct_51 : decode b_M_reconstruct 51 = .ok (.if_icmp .ge 34, 3) := by decide +kernel
theorem d_M_reconstruct_54 : decode b_M_reconstruct 54 = .ok (.iload_n 1, 1) := by decide +kernel
theorem d_M_reconstruct_55 : decode b_M_reconstruct 55 = .ok (.iload_n 2, 1) := by decide +kernel
theorem d_M_reconstruct_56 : decode b_M_reconstruct 56 = .ok (.iconst 1, 1) := by decide +kernel
theorem d_M_reconstruct_57 : decode b_M_reconstruct 57 = .ok (.isub, 1) := by decide +kernel
theorem d_M_reconstruct_58 : decode b_M_reconstruct 58 = .ok (.ishr, 1) := by decide +kernel
theorem d_M_reconstruct_59 : decode b_M_reconstruct 59 = .ok (.iconst 1, 1) := by decide +kernel
theorem d_M_reconstruct_60 : decode b_M_reconstruct 60 = .ok (.iand, 1) := by decide +kernel
theorem d_M_reconstruct_61 : decode b_M_reconstruct 61 = .ok (.iconst 1, 1) := by decide +kernel
theorem d_M_reconstruct_62 : decode b_M_reconstruct 62 = .ok (.if_icmp .ne 17, 3) := by decide +kernel
theorem d_M_reconstruct_65 : decode b_M_reconstruct 65 = .ok (.aload_n 0, 1) := by decide +kernel
end
section
theorem d_M_reconstruct_66 : decode b_M_reconstruct 66 = .ok (.getfield 33, 3) := by decide +kernel
theorem d_M_reconstruct_69 : decode b_M_reconstruct 69 = .ok (.iload_n 2, 1) := by decide +kernel
theorem d_M_reconstruct_70 : decode b_M_reconstruct 70 = .ok (.baload, 1) := by decide +kernel
theorem d_M_reconstruct_71 : decode b_M_reconstruct 71 = .ok (.ifCond .eq 8, 3) := by decide +kernel
theorem d_M_reconstruct_74 : decode b_M_reconstruct 74 = .ok (.aload_n 0, 1) := by decide +kernel
theorem d_M_reconstruct_75 : decode b_M_reconstruct 75 = .ok (.iconst 2, 1) := by decide +kernel
theorem d_M_reconstruct_76 : decode b_M_reconstruct 76 = .ok (.putfield 7, 3) := by decide +kernel
theorem d_M_reconstruct_79 : decode b_M_reconstruct 79 = .ok (.iinc 2 1, 3) := by decide +kernel
theorem d_M_reconstruct_82 : decode b_M_reconstruct 82 = .ok (.goto (-34), 3) := by decide +kernel
theorem d_M_reconstruct_85 : decode b_M_reconstruct 85 = .ok (.aload_n 0, 1) := by decide +kernel
theorem d_M_reconstruct_86 : decode b_M_reconstruct 86 = .ok (.getfield 7, 3) := by decide +kernel
theorem d_M_reconstruct_89 : decode b_M_reconstruct 89 = .ok (.ifCond .eq 7, 3) := by decide +kernel
theorem d_M_reconstruct_92 : decode b_M_reconstruct 92 = .ok (.iconst 0, 1) := by decide +kernel
theorem d_M_reconstruct_93 : decode b_M_reconstruct 93 = .ok (.goto 12, 3) := by decide +kernel
theorem d_M_reconstruct_96 : decode b_M_reconstruct 96 = .ok (.aload_n 0, 1) := by decide +kernel
theorem d_M_reconstruct_97 : decode b_M_reconstruct 97 = .ok (.iload_n 1, 1) := by decide +kernel
theorem d_M_reconstruct_98 : decode b_M_reconstruct 98 = .ok (.invokestatic 123, 3) := by decide +kernel
theorem d_M_reconstruct_101 : decode b_M_reconstruct 101 = .ok (.iconst 0, 1) := by decide +kernel
theorem d_M_reconstruct_102 : decode b_M_reconstruct 102 = .ok (.invokevirtual 126, 3) := by decide +kernel
theorem d_M_reconstruct_105 : decode b_M_reconstruct 105 = .ok (.ireturn, 1) := by decide +kernel
theorem d_M_post_0 : decode b_M_post 0 = .ok (.aload_n 0, 1) := by decide +kernel
theorem d_M_post_1 : decode b_M_post 1 = .ok (.aload_n 0, 1) := by decide +kernel
theorem d_M_post_2 : decode b_M_post 2 = .ok (.getfield 22, 3) := by decide +kernel
theorem d_M_post_5 : decode b_M_post 5 = .ok (.ifCond .ne 7, 3) := by decide +kernel
theorem d_M_post_8 : decode b_M_post 8 = .ok (.iconst 1, 1) := by decide +kernel
theorem d_M_post_9 : decode b_M_post 9 = .ok (.goto 34, 3) := by decide +kernel
theorem d_M_post_12 : decode b_M_post 12 = .ok (.iload_n 1, 1) := by decide +kernel
theorem d_M_post_13 : decode b_M_post 13 = .ok (.ifCond .lt 11, 3) := by decide +kernel
theorem d_M_post_16 : decode b_M_post 16 = .ok (.iload_n 1, 1) := by decide +kernel
theorem d_M_post_17 : decode b_M_post 17 = .ok (.aload_n 0, 1) := by decide +kernel
theorem d_M_post_18 : decode b_M_post 18 = .ok (.getfield 61, 3) := by decide +kernel
theorem d_M_post_21 : decode b_M_post 21 = .ok (.if_icmp .lt 7, 3) := by decide +kernel
theorem d_M_post_24 : decode b_M_post 24 = .ok (.iconst 2, 1) := by decide +kernel
theorem d_M_post_25 : decode b_M_post 25 = .ok (.goto 18, 3) := by decide +kernel
theorem d_M_post_28 : decode b_M_post 28 = .ok (.iload_n 2, 1) := by decide +kernel
theorem d_M_post_29 : decode b_M_post 29 = .ok (.ifCond .lt 9, 3) := by decide +kernel
theorem d_M_post_32 : decode b_M_post 32 = .ok (.iload_n 2, 1) := by decide +kernel
theorem d_M_post_33 : decode b_M_post 33 = .ok (.bipush 8, 2) := by decide +kernel
theorem d_M_post_35 : decode b_M_post 35 = .ok (.if_icmp .le 7, 3) := by decide +kernel
theorem d_M_post_38 : decode b_M_post 38 = .ok (.iconst 3, 1) := by decide +kernel
theorem d_M_post_39 : decode b_M_post 39 = .ok (.goto 4, 3) := by decide +kernel
theorem d_M_post_42 : decode b_M_post 42 = .ok (.iconst 0, 1) := by decide +kernel
theorem d_M_post_43 : decode b_M_post 43 = .ok (.putfield 7, 3) := by decide +kernel
theorem d_M_post_46 : decode b_M_post 46 = .ok (.aload_n 0, 1) := by decide +kernel
theorem d_M_post_47 : decode b_M_post 47 = .ok (.getfield 7, 3) := by decide +kernel
theorem d_M_post_50 : decode b_M_post 50 = .ok (.ifCond .eq 7, 3) := by decide +kernel
theorem d_M_post_53 : decode b_M_post 53 = .ok (.iconst 0, 1) := by decide +kernel
theorem d_M_post_54 : decode b_M_post 54 = .ok (.goto 14, 3) := by decide +kernel
theorem d_M_post_57 : decode b_M_post 57 = .ok (.aload_n 0, 1) := by decide +kernel
theorem d_M_post_58 : decode b_M_post 58 = .ok (.getfield 64, 3) := by decide +kernel
theorem d_M_post_61 : decode b_M_post 61 = .ok (.bipush 9, 2) := by decide +kernel
theorem d_M_post_63 : decode b_M_post 63 = .ok (.iload_n 1, 1) := by decide +kernel
theorem d_M_post_64 : decode b_M_post 64 = .ok (.imul, 1) := by decide +kernel
theorem d_M_post_65 : decode b_M_post 65 = .ok (.iload_n 2, 1) := by decide +kernel
theorem d_M_post_66 : decode b_M_post 66 = .ok (.iadd, 1) := by decide +kernel
theorem d_M_post_67 : decode b_M_post 67 = .ok (.iaload, 1) := by decide +kernel
theorem d_M_post_68 : decode b_M_post 68 = .ok (.ireturn, 1) := by decide +kernel
theorem d_M_about_0 : decode b_M_about 0 = .ok (.aload_n 0, 1) := by decide +kernel
theorem d_M_about_1 : decode b_M_about 1 = .ok (.iload_n 1, 1) := by decide +kernel
theorem d_M_about_2 : decode b_M_about 2 = .ok (.ifCond .lt 9, 3) := by decide +kernel
theorem d_M_about_5 : decode b_M_about 5 = .ok (.iload_n 1, 1) := by decide +kernel
theorem d_M_about_6 : decode b_M_about 6 = .ok (.bipush 6, 2) := by decide +kernel
theorem d_M_about_8 : decode b_M_about 8 = .ok (.if_icmp .le 7, 3) := by decide +kernel
theorem d_M_about_11 : decode b_M_about 11 = .ok (.iconst 1, 1) := by decide +kernel
theorem d_M_about_12 : decode b_M_about 12 = .ok (.goto 4, 3) := by decide +kernel
theorem d_M_about_15 : decode b_M_about 15 = .ok (.iconst 0, 1) := by decide +kernel
theorem d_M_about_16 : decode b_M_about 16 = .ok (.putfield 7, 3) := by decide +kernel
theorem d_M_about_19 : decode b_M_about 19 = .ok (.aload_n 0, 1) := by decide +kernel
theorem d_M_about_20 : decode b_M_about 20 = .ok (.getfield 7, 3) := by decide +kernel
theorem d_M_about_23 : decode b_M_about 23 = .ok (.ifCond .ne 10, 3) := by decide +kernel
theorem d_M_about_26 : decode b_M_about 26 = .ok (.aload_n 0, 1) := by decide +kernel
theorem d_M_about_27 : decode b_M_about 27 = .ok (.getfield 22, 3) := by decide +kernel
theorem d_M_about_30 : decode b_M_about 30 = .ok (.ifCond .ne 5, 3) := by decide +kernel
theorem d_M_about_33 : decode b_M_about 33 = .ok (.iconst 0, 1) := by decide +kernel
theorem d_M_about_34 : decode b_M_about 34 = .ok (.ireturn, 1) := by decide +kernel
theorem d_M_about_35 : decode b_M_about 35 = .ok (.iload_n 1, 1) := by decide +kernel
theorem d_M_about_36 : decode b_M_about 36 = .ok (.ifCond .ne 8, 3) := by decide +kernel
theorem d_M_about_39 : decode b_M_about 39 = .ok (.aload_n 0, 1) := by decide +kernel
theorem d_M_about_40 : decode b_M_about 40 = .ok (.getfield 26, 3) := by decide +kernel
theorem d_M_about_43 : decode b_M_about 43 = .ok (.ireturn, 1) := by decide +kernel
theorem d_M_about_44 : decode b_M_about 44 = .ok (.iload_n 1, 1) := by decide +kernel
theorem d_M_about_45 : decode b_M_about 45 = .ok (.iconst 1, 1) := by decide +kernel
theorem d_M_about_46 : decode b_M_about 46 = .ok (.if_icmp .ne 8, 3) := by decide +kernel
theorem d_M_about_49 : decode b_M_about 49 = .ok (.aload_n 0, 1) := by decide +kernel
theorem d_M_about_50 : decode b_M_about 50 = .ok (.getfield 61, 3) := by decide +kernel
theorem d_M_about_53 : decode b_M_about 53 = .ok (.ireturn, 1) := by decide +kernel
theorem d_M_about_54 : decode b_M_about 54 = .ok (.iconst 0, 1) := by decide +kernel
theorem d_M_about_55 : decode b_M_about 55 = .ok (.istore_n 2, 1) := by decide +kernel
theorem d_M_about_56 : decode b_M_about 56 = .ok (.iload_n 1, 1) := by decide +kernel
theorem d_M_about_57 : decode b_M_about 57 = .ok (.iconst 4, 1) := by decide +kernel
theorem d_M_about_58 : decode b_M_about 58 = .ok (.if_icmp .ge 53, 3) := by decide +kernel
theorem d_M_about_61 : decode b_M_about 61 = .ok (.iconst 0, 1) := by decide +kernel
theorem d_M_about_62 : decode b_M_about 62 = .ok (.istore_n 3, 1) := by decide +kernel
theorem d_M_about_63 : decode b_M_about 63 = .ok (.iload_n 3, 1) := by decide +kernel
theorem d_M_about_64 : decode b_M_about 64 = .ok (.bipush 64, 2) := by decide +kernel
theorem d_M_about_66 : decode b_M_about 66 = .ok (.if_icmp .ge 43, 3) := by decide +kernel
theorem d_M_about_69 : decode b_M_about 69 = .ok (.iload_n 2, 1) := by decide +kernel
theorem d_M_about_70 : decode b_M_about 70 = .ok (.iload_n 1, 1) := by decide +kernel
theorem d_M_about_71 : decode b_M_about 71 = .ok (.iconst 2, 1) := by decide +kernel
theorem d_M_about_72 : decode b_M_about 72 = .ok (.if_icmp .ne 15, 3) := by decide +kernel
theorem d_M_about_75 : decode b_M_about 75 = .ok (.aload_n 0, 1) := by decide +kernel
theorem d_M_about_76 : decode b_M_about 76 = .ok (.getfield 55, 3) := by decide +kernel
theorem d_M_about_79 : decode b_M_about 79 = .ok (.iload_n 3, 1) := by decide +kernel
theorem d_M_about_80 : decode b_M_about 80 = .ok (.baload, 1) := by decide +kernel
theorem d_M_about_81 : decode b_M_about 81 = .ok (.ifCond .eq 19, 3) := by decide +kernel
theorem d_M_about_84 : decode b_M_about 84 = .ok (.goto 12, 3) := by decide +kernel
theorem d_M_about_87 : decode b_M_about 87 = .ok (.aload_n 0, 1) := by decide +kernel
theorem d_M_about_88 : decode b_M_about 88 = .ok (.getfield 58, 3) := by decide +kernel
theorem d_M_about_91 : decode b_M_about 91 = .ok (.iload_n 3, 1) := by decide +kernel
theorem d_M_about_92 : decode b_M_about 92 = .ok (.baload, 1) := by decide +kernel
theorem d_M_about_93 : decode b_M_about 93 = .ok (.ifCond .eq 7, 3) := by decide +kernel
theorem d_M_about_96 : decode b_M_about 96 = .ok (.iconst 1, 1) := by decide +kernel
theorem d_M_about_97 : decode b_M_about 97 = .ok (.goto 4, 3) := by decide +kernel
theorem d_M_about_100 : decode b_M_about 100 = .ok (.iconst 0, 1) := by decide +kernel
theorem d_M_about_101 : decode b_M_about 101 = .ok (.iadd, 1) := by decide +kernel
theorem d_M_about_102 : decode b_M_about 102 = .ok (.istore_n 2, 1) := by decide +kernel
theorem d_M_about_103 : decode b_M_about 103 = .ok (.iinc 3 1, 3) := by decide +kernel
theorem d_M_about_106 : decode b_M_about 106 = .ok (.goto (-43), 3) := by decide +kernel
theorem d_M_about_109 : decode b_M_about 109 = .ok (.iload_n 2, 1) := by decide +kernel
theorem d_M_about_110 : decode b_M_about 110 = .ok (.ireturn, 1) := by decide +kernel
theorem d_M_about_111 : decode b_M_about 111 = .ok (.iconst 1, 1) := by decide +kernel
theorem d_M_about_112 : decode b_M_about 112 = .ok (.istore_n 3, 1) := by decide +kernel
theorem d_M_about_113 : decode b_M_about 113 = .ok (.iload_n 3, 1) := by decide +kernel
theorem d_M_about_114 : decode b_M_about 114 = .ok (.bipush 8, 2) := by decide +kernel
theorem d_M_about_116 : decode b_M_about 116 = .ok (.if_icmp .ge 65, 3) := by decide +kernel
theorem d_M_about_119 : decode b_M_about 119 = .ok (.iload_n 1, 1) := by decide +kernel
theorem d_M_about_120 : decode b_M_about 120 = .ok (.iconst 4, 1) := by decide +kernel
theorem d_M_about_121 : decode b_M_about 121 = .ok (.if_icmp .ne 11, 3) := by decide +kernel
theorem d_M_about_124 : decode b_M_about 124 = .ok (.aload_n 0, 1) := by decide +kernel
theorem d_M_about_125 : decode b_M_about 125 = .ok (.iload_n 3, 1) := by decide +kernel
theorem d_M_about_126 : decode b_M_about 126 = .ok (.invokevirtual 110, 3) := by decide +kernel
theorem d_M_about_129 : decode b_M_about 129 = .ok (.goto 31, 3) := by decide +kernel
theorem d_M_about_132 : decode b_M_about 132 = .ok (.iload_n 1, 1) := by decide +kernel
theorem d_M_about_133 : decode b_M_about 133 = .ok (.iconst 5, 1) := by decide +kernel
theorem d_M_about_134 : decode b_M_about 134 = .ok (.if_icmp .ne 12, 3) := by decide +kernel
theorem d_M_about_137 : decode b_M_about 137 = .ok (.aload_n 0, 1) := by decide +kernel
theorem d_M_about_138 : decode b_M_about 138 = .ok (.getfield 33, 3) := by decide +kernel
theorem d_M_about_141 : decode b_M_about 141 = .ok (.iload_n 3, 1) := by decide +kernel
theorem d_M_about_142 : decode b_M_about 142 = .ok (.baload, 1) := by decide +kernel
theorem d_M_about_143 : decode b_M_about 143 = .ok (.goto 17, 3) := by decide +kernel
theorem d_M_about_146 : decode b_M_about 146 = .ok (.aload_n 0, 1) := by decide +kernel
theorem d_M_about_147 : decode b_M_about 147 = .ok (.getfield 40, 3) := by decide +kernel
theorem d_M_about_150 : decode b_M_about 150 = .ok (.iload_n 3, 1) := by decide +kernel
theorem d_M_about_151 : decode b_M_about 151 = .ok (.iaload, 1) := by decide +kernel
theorem d_M_about_152 : decode b_M_about 152 = .ok (.ifCond .le 7, 3) := by decide +kernel
theorem d_M_about_155 : decode b_M_about 155 = .ok (.iconst 1, 1) := by decide +kernel
theorem d_M_about_156 : decode b_M_about 156 = .ok (.goto 4, 3) := by decide +kernel
theorem d_M_about_159 : decode b_M_about 159 = .ok (.iconst 0, 1) := by decide +kernel
theorem d_M_about_160 : decode b_M_about 160 = .ok (.istore 4, 2) := by decide +kernel
theorem d_M_about_162 : decode b_M_about 162 = .ok (.iload 4, 2) := by decide +kernel
theorem d_M_about_164 : decode b_M_about 164 = .ok (.ifCond .eq 11, 3) := by decide +kernel
theorem d_M_about_167 : decode b_M_about 167 = .ok (.iload_n 2, 1) := by decide +kernel
theorem d_M_about_168 : decode b_M_about 168 = .ok (.iconst 1, 1) := by decide +kernel
theorem d_M_about_169 : decode b_M_about 169 = .ok (.iload_n 3, 1) := by decide +kernel
theorem d_M_about_170 : decode b_M_about 170 = .ok (.iconst 1, 1) := by decide +kernel
theorem d_M_about_171 : decode b_M_about 171 = .ok (.isub, 1) := by decide +kernel
theorem d_M_about_172 : decode b_M_about 172 = .ok (.ishl, 1) := by decide +kernel
theorem d_M_about_173 : decode b_M_about 173 = .ok (.ior, 1) := by decide +kernel
theorem d_M_about_174 : decode b_M_about 174 = .ok (.istore_n 2, 1) := by decide +kernel
theorem d_M_about_175 : decode b_M_about 175 = .ok (.iinc 3 1, 3) := by decide +kernel
theorem d_M_about_178 : decode b_M_about 178 = .ok (.goto (-65), 3) := by decide +kernel
theorem d_M_about_181 : decode b_M_about 181 = .ok (.iload_n 2, 1) := by decide +kernel
theorem d_M_about_182 : decode b_M_about 182 = .ok (.ireturn, 1) := by decide +kernel
theorem d_L_law_0 : decode code 0 = .ok (.new 8, 3) := by decide +kernel
theorem d_L_law_3 : decode code 3 = .ok (.dup, 1) := by decide +kernel
theorem d_L_law_4 : decode code 4 = .ok (.invokespecial 76, 3) := by decide +kernel
theorem d_L_law_7 : decode code 7 = .ok (.astore_n 1, 1) := by decide +kernel
theorem d_L_law_8 : decode code 8 = .ok (.new 77, 3) := by decide +kernel
theorem d_L_law_11 : decode code 11 = .ok (.dup, 1) := by decide +kernel
theorem d_L_law_12 : decode code 12 = .ok (.invokespecial 79, 3) := by decide +kernel
theorem d_L_law_15 : decode code 15 = .ok (.astore_n 2, 1) := by decide +kernel
theorem d_L_law_16 : decode code 16 = .ok (.iconst 1, 1) := by decide +kernel
theorem d_L_law_17 : decode code 17 = .ok (.newarray .long, 2) := by decide +kernel
theorem d_L_law_19 : decode code 19 = .ok (.astore_n 3, 1) := by decide +kernel
theorem d_L_law_20 : decode code 20 = .ok (.iconst 0, 1) := by decide +kernel
theorem d_L_law_21 : decode code 21 = .ok (.istore 4, 2) := by decide +kernel
theorem d_L_law_23 : decode code 23 = .ok (.iload 4, 2) := by decide +kernel
theorem d_L_law_25 : decode code 25 = .ok (.aload_n 0, 1) := by decide +kernel
theorem d_L_law_26 : decode code 26 = .ok (.arraylength, 1) := by decide +kernel
theorem d_L_law_27 : decode code 27 = .ok (.iconst 5, 1) := by decide +kernel
theorem d_L_law_28 : decode code 28 = .ok (.isub, 1) := by decide +kernel
theorem d_L_law_29 : decode code 29 = .ok (.if_icmp .gt 1023, 3) := by decide +kernel
theorem d_L_law_32 : decode code 32 = .ok (.aload_n 0, 1) := by decide +kernel
theorem d_L_law_33 : decode code 33 = .ok (.iload 4, 2) := by decide +kernel
theorem d_L_law_35 : decode code 35 = .ok (.iaload, 1) := by decide +kernel
theorem d_L_law_36 : decode code 36 = .ok (.bipush 15, 2) := by decide +kernel
theorem d_L_law_38 : decode code 38 = .ok (.iand, 1) := by decide +kernel
theorem d_L_law_39 : decode code 39 = .ok (.tableswitch 1007 0 15 #[77, 137, 209, 257, 329, 385, 460, 504, 540, 596, 652, 715, 771, 827, 883, 951], 77) := by decide +kernel
theorem d_L_law_116 : decode code 116 = .ok (.aload_n 1, 1) := by decide +kernel
theorem d_L_law_117 : decode code 117 = .ok (.aload_n 0, 1) := by decide +kernel
theorem d_L_law_118 : decode code 118 = .ok (.iload 4, 2) := by decide +kernel
theorem d_L_law_120 : decode code 120 = .ok (.iconst 1, 1) := by decide +kernel
theorem d_L_law_121 : decode code 121 = .ok (.iadd, 1) := by decide +kernel
theorem d_L_law_122 : decode code 122 = .ok (.iaload, 1) := by decide +kernel
theorem d_L_law_123 : decode code 123 = .ok (.aload_n 0, 1) := by decide +kernel
theorem d_L_law_124 : decode code 124 = .ok (.iload 4, 2) := by decide +kernel
theorem d_L_law_126 : decode code 126 = .ok (.iconst 2, 1) := by decide +kernel
theorem d_L_law_127 : decode code 127 = .ok (.iadd, 1) := by decide +kernel
theorem d_L_law_128 : decode code 128 = .ok (.iaload, 1) := by decide +kernel
theorem d_L_law_129 : decode code 129 = .ok (.aload_n 0, 1) := by decide +kernel
theorem d_L_law_130 : decode code 130 = .ok (.iload 4, 2) := by decide +kernel
theorem d_L_law_132 : decode code 132 = .ok (.iconst 3, 1) := by decide +kernel
theorem d_L_law_133 : decode code 133 = .ok (.iadd, 1) := by decide +kernel
theorem d_L_law_134 : decode code 134 = .ok (.iaload, 1) := by decide +kernel
theorem d_L_law_135 : decode code 135 = .ok (.invokestatic 80, 3) := by decide +kernel
theorem d_L_law_138 : decode code 138 = .ok (.istore 5, 2) := by decide +kernel
theorem d_L_law_140 : decode code 140 = .ok (.aload_n 2, 1) := by decide +kernel
theorem d_L_law_141 : decode code 141 = .ok (.aload_n 0, 1) := by decide +kernel
theorem d_L_law_142 : decode code 142 = .ok (.iload 4, 2) := by decide +kernel
theorem d_L_law_144 : decode code 144 = .ok (.iconst 1, 1) := by decide +kernel
theorem d_L_law_145 : decode code 145 = .ok (.iadd, 1) := by decide +kernel
theorem d_L_law_146 : decode code 146 = .ok (.iaload, 1) := by decide +kernel
theorem d_L_law_147 : decode code 147 = .ok (.aload_n 0, 1) := by decide +kernel
theorem d_L_law_148 : decode code 148 = .ok (.iload 4, 2) := by decide +kernel
theorem d_L_law_150 : decode code 150 = .ok (.iconst 2, 1) := by decide +kernel
theorem d_L_law_151 : decode code 151 = .ok (.iadd, 1) := by decide +kernel
theorem d_L_law_152 : decode code 152 = .ok (.iaload, 1) := by decide +kernel
theorem d_L_law_153 : decode code 153 = .ok (.aload_n 0, 1) := by decide +kernel
theorem d_L_law_154 : decode code 154 = .ok (.iload 4, 2) := by decide +kernel
theorem d_L_law_156 : decode code 156 = .ok (.iconst 3, 1) := by decide +kernel
theorem d_L_law_157 : decode code 157 = .ok (.iadd, 1) := by decide +kernel
theorem d_L_law_158 : decode code 158 = .ok (.iaload, 1) := by decide +kernel
theorem d_L_law_159 : decode code 159 = .ok (.invokevirtual 85, 3) := by decide +kernel
theorem d_L_law_162 : decode code 162 = .ok (.aload_n 2, 1) := by decide +kernel
theorem d_L_law_163 : decode code 163 = .ok (.invokevirtual 86, 3) := by decide +kernel
theorem d_L_law_166 : decode code 166 = .ok (.iload 5, 2) := by decide +kernel
theorem d_L_law_168 : decode code 168 = .ok (.if_icmp .eq 5, 3) := by decide +kernel
theorem d_L_law_171 : decode code 171 = .ok (.iconst 0, 1) := by decide +kernel
theorem d_L_law_172 : decode code 172 = .ok (.ireturn, 1) := by decide +kernel
theorem d_L_law_173 : decode code 173 = .ok (.goto 873, 3) := by decide +kernel
theorem d_L_law_176 : decode code 176 = .ok (.aload_n 1, 1) := by decide +kernel
theorem d_L_law_177 : decode code 177 = .ok (.aload_n 0, 1) := by decide +kernel
theorem d_L_law_178 : decode code 178 = .ok (.iload 4, 2) := by decide +kernel
theorem d_L_law_180 : decode code 180 = .ok (.iconst 1, 1) := by decide +kernel
theorem d_L_law_181 : decode code 181 = .ok (.iadd, 1) := by decide +kernel
theorem d_L_law_182 : decode code 182 = .ok (.iaload, 1) := by decide +kernel
theorem d_L_law_183 : decode code 183 = .ok (.aload_n 0, 1) := by decide +kernel
theorem d_L_law_184 : decode code 184 = .ok (.iload 4, 2) := by decide +kernel
theorem d_L_law_186 : decode code 186 = .ok (.iconst 2, 1) := by decide +kernel
theorem d_L_law_187 : decode code 187 = .ok (.iadd, 1) := by decide +kernel
theorem d_L_law_188 : decode code 188 = .ok (.iaload, 1) := by decide +kernel
theorem d_L_law_189 : decode code 189 = .ok (.aload_n 0, 1) := by decide +kernel
theorem d_L_law_190 : decode code 190 = .ok (.iload 4, 2) := by decide +kernel
theorem d_L_law_192 : decode code 192 = .ok (.iconst 3, 1) := by decide +kernel
theorem d_L_law_193 : decode code 193 = .ok (.iadd, 1) := by decide +kernel
theorem d_L_law_194 : decode code 194 = .ok (.iaload, 1) := by decide +kernel
theorem d_L_law_195 : decode code 195 = .ok (.aload_n 0, 1) := by decide +kernel
theorem d_L_law_196 : decode code 196 = .ok (.iload 4, 2) := by decide +kernel
theorem d_L_law_198 : decode code 198 = .ok (.iconst 4, 1) := by decide +kernel
theorem d_L_law_199 : decode code 199 = .ok (.iadd, 1) := by decide +kernel
theorem d_L_law_200 : decode code 200 = .ok (.iaload, 1) := by decide +kernel
theorem d_L_law_201 : decode code 201 = .ok (.invokestatic 89, 3) := by decide +kernel
theorem d_L_law_204 : decode code 204 = .ok (.istore 5, 2) := by decide +kernel
theorem d_L_law_206 : decode code 206 = .ok (.aload_n 2, 1) := by decide +kernel
theorem d_L_law_207 : decode code 207 = .ok (.aload_n 0, 1) := by decide +kernel
theorem d_L_law_208 : decode code 208 = .ok (.iload 4, 2) := by decide +kernel
theorem d_L_law_210 : decode code 210 = .ok (.iconst 1, 1) := by decide +kernel
theorem d_L_law_211 : decode code 211 = .ok (.iadd, 1) := by decide +kernel
theorem d_L_law_212 : decode code 212 = .ok (.iaload, 1) := by decide +kernel
theorem d_L_law_213 : decode code 213 = .ok (.aload_n 0, 1) := by decide +kernel
theorem d_L_law_214 : decode code 214 = .ok (.iload 4, 2) := by decide +kernel
theorem d_L_law_216 : decode code 216 = .ok (.iconst 2, 1) := by decide +kernel
theorem d_L_law_217 : decode code 217 = .ok (.iadd, 1) := by decide +kernel
theorem d_L_law_218 : decode code 218 = .ok (.iaload, 1) := by decide +kernel
theorem d_L_law_219 : decode code 219 = .ok (.aload_n 0, 1) := by decide +kernel
theorem d_L_law_220 : decode code 220 = .ok (.iload 4, 2) := by decide +kernel
theorem d_L_law_222 : decode code 222 = .ok (.iconst 3, 1) := by decide +kernel
theorem d_L_law_223 : decode code 223 = .ok (.iadd, 1) := by decide +kernel
theorem d_L_law_224 : decode code 224 = .ok (.iaload, 1) := by decide +kernel
theorem d_L_law_225 : decode code 225 = .ok (.aload_n 0, 1) := by decide +kernel
theorem d_L_law_226 : decode code 226 = .ok (.iload 4, 2) := by decide +kernel
theorem d_L_law_228 : decode code 228 = .ok (.iconst 4, 1) := by decide +kernel
theorem d_L_law_229 : decode code 229 = .ok (.iadd, 1) := by decide +kernel
theorem d_L_law_230 : decode code 230 = .ok (.iaload, 1) := by decide +kernel
theorem d_L_law_231 : decode code 231 = .ok (.invokevirtual 92, 3) := by decide +kernel
theorem d_L_law_234 : decode code 234 = .ok (.aload_n 2, 1) := by decide +kernel
theorem d_L_law_235 : decode code 235 = .ok (.invokevirtual 86, 3) := by decide +kernel
theorem d_L_law_238 : decode code 238 = .ok (.iload 5, 2) := by decide +kernel
theorem d_L_law_240 : decode code 240 = .ok (.if_icmp .eq 5, 3) := by decide +kernel
theorem d_L_law_243 : decode code 243 = .ok (.iconst 0, 1) := by decide +kernel
theorem d_L_law_244 : decode code 244 = .ok (.ireturn, 1) := by decide +kernel
theorem d_L_law_245 : decode code 245 = .ok (.goto 801, 3) := by decide +kernel
theorem d_L_law_248 : decode code 248 = .ok (.aload_n 1, 1) := by decide +kernel
theorem d_L_law_249 : decode code 249 = .ok (.aload_n 0, 1) := by decide +kernel
theorem d_L_law_250 : decode code 250 = .ok (.iload 4, 2) := by decide +kernel
theorem d_L_law_252 : decode code 252 = .ok (.iconst 1, 1) := by decide +kernel
theorem d_L_law_253 : decode code 253 = .ok (.iadd, 1) := by decide +kernel
theorem d_L_law_254 : decode code 254 = .ok (.iaload, 1) := by decide +kernel
theorem d_L_law_255 : decode code 255 = .ok (.aload_n 0, 1) := by decide +kernel
theorem d_L_law_256 : decode code 256 = .ok (.iload 4, 2) := by decide +kernel
theorem d_L_law_258 : decode code 258 = .ok (.iconst 2, 1) := by decide +kernel
theorem d_L_law_259 : decode code 259 = .ok (.iadd, 1) := by decide +kernel
theorem d_L_law_260 : decode code 260 = .ok (.iaload, 1) := by decide +kernel
theorem d_L_law_261 : decode code 261 = .ok (.invokestatic 93, 3) := by decide +kernel
theorem d_L_law_264 : decode code 264 = .ok (.istore 5, 2) := by decide +kernel
theorem d_L_law_266 : decode code 266 = .ok (.aload_n 2, 1) := by decide +kernel
theorem d_L_law_267 : decode code 267 = .ok (.aload_n 0, 1) := by decide +kernel
theorem d_L_law_268 : decode code 268 = .ok (.iload 4, 2) := by decide +kernel
theorem d_L_law_270 : decode code 270 = .ok (.iconst 1, 1) := by decide +kernel
theorem d_L_law_271 : decode code 271 = .ok (.iadd, 1) := by decide +kernel
theorem d_L_law_272 : decode code 272 = .ok (.iaload, 1) := by decide +kernel
theorem d_L_law_273 : decode code 273 = .ok (.aload_n 0, 1) := by decide +kernel
theorem d_L_law_274 : decode code 274 = .ok (.iload 4, 2) := by decide +kernel
theorem d_L_law_276 : decode code 276 = .ok (.iconst 2, 1) := by decide +kernel
theorem d_L_law_277 : decode code 277 = .ok (.iadd, 1) := by decide +kernel
theorem d_L_law_278 : decode code 278 = .ok (.iaload, 1) := by decide +kernel
theorem d_L_law_279 : decode code 279 = .ok (.invokevirtual 96, 3) := by decide +kernel
theorem d_L_law_282 : decode code 282 = .ok (.aload_n 2, 1) := by decide +kernel
theorem d_L_law_283 : decode code 283 = .ok (.invokevirtual 86, 3) := by decide +kernel
theorem d_L_law_286 : decode code 286 = .ok (.iload 5, 2) := by decide +kernel
theorem d_L_law_288 : decode code 288 = .ok (.if_icmp .eq 5, 3) := by decide +kernel
theorem d_L_law_291 : decode code 291 = .ok (.iconst 0, 1) := by decide +kernel
theorem d_L_law_292 : decode code 292 = .ok (.ireturn, 1) := by decide +kernel
theorem d_L_law_293 : decode code 293 = .ok (.goto 753, 3) := by decide +kernel
theorem d_L_law_296 : decode code 296 = .ok (.aload_n 1, 1) := by decide +kernel
theorem d_L_law_297 : decode code 297 = .ok (.aload_n 0, 1) := by decide +kernel
theorem d_L_law_298 : decode code 298 = .ok (.iload 4, 2) := by decide +kernel
theorem d_L_law_300 : decode code 300 = .ok (.iconst 1, 1) := by decide +kernel
theorem d_L_law_301 : decode code 301 = .ok (.iadd, 1) := by decide +kernel
theorem d_L_law_302 : decode code 302 = .ok (.iaload, 1) := by decide +kernel
theorem d_L_law_303 : decode code 303 = .ok (.aload_n 0, 1) := by decide +kernel
theorem d_L_law_304 : decode code 304 = .ok (.iload 4, 2) := by decide +kernel
theorem d_L_law_306 : decode code 306 = .ok (.iconst 2, 1) := by decide +kernel
theorem d_L_law_307 : decode code 307 = .ok (.iadd, 1) := by decide +kernel
theorem d_L_law_308 : decode code 308 = .ok (.iaload, 1) := by decide +kernel
theorem d_L_law_309 : decode code 309 = .ok (.aload_n 0, 1) := by decide +kernel
theorem d_L_law_310 : decode code 310 = .ok (.iload 4, 2) := by decide +kernel
theorem d_L_law_312 : decode code 312 = .ok (.iconst 3, 1) := by decide +kernel
theorem d_L_law_313 : decode code 313 = .ok (.iadd, 1) := by decide +kernel
theorem d_L_law_314 : decode code 314 = .ok (.iaload, 1) := by decide +kernel
theorem d_L_law_315 : decode code 315 = .ok (.aload_n 0, 1) := by decide +kernel
theorem d_L_law_316 : decode code 316 = .ok (.iload 4, 2) := by decide +kernel
theorem d_L_law_318 : decode code 318 = .ok (.iconst 4, 1) := by decide +kernel
theorem d_L_law_319 : decode code 319 = .ok (.iadd, 1) := by decide +kernel
theorem d_L_law_320 : decode code 320 = .ok (.iaload, 1) := by decide +kernel
theorem d_L_law_321 : decode code 321 = .ok (.invokestatic 97, 3) := by decide +kernel
theorem d_L_law_324 : decode code 324 = .ok (.istore 5, 2) := by decide +kernel
theorem d_L_law_326 : decode code 326 = .ok (.aload_n 2, 1) := by decide +kernel
theorem d_L_law_327 : decode code 327 = .ok (.aload_n 0, 1) := by decide +kernel
theorem d_L_law_328 : decode code 328 = .ok (.iload 4, 2) := by decide +kernel
theorem d_L_law_330 : decode code 330 = .ok (.iconst 1, 1) := by decide +kernel
theorem d_L_law_331 : decode code 331 = .ok (.iadd, 1) := by decide +kernel
theorem d_L_law_332 : decode code 332 = .ok (.iaload, 1) := by decide +kernel
theorem d_L_law_333 : decode code 333 = .ok (.aload_n 0, 1) := by decide +kernel
theorem d_L_law_334 : decode code 334 = .ok (.iload 4, 2) := by decide +kernel
theorem d_L_law_336 : decode code 336 = .ok (.iconst 2, 1) := by decide +kernel
theorem d_L_law_337 : decode code 337 = .ok (.iadd, 1) := by decide +kernel
theorem d_L_law_338 : decode code 338 = .ok (.iaload, 1) := by decide +kernel
theorem d_L_law_339 : decode code 339 = .ok (.aload_n 0, 1) := by decide +kernel
theorem d_L_law_340 : decode code 340 = .ok (.iload 4, 2) := by decide +kernel
theorem d_L_law_342 : decode code 342 = .ok (.iconst 3, 1) := by decide +kernel
theorem d_L_law_343 : decode code 343 = .ok (.iadd, 1) := by decide +kernel
theorem d_L_law_344 : decode code 344 = .ok (.iaload, 1) := by decide +kernel
theorem d_L_law_345 : decode code 345 = .ok (.aload_n 0, 1) := by decide +kernel
theorem d_L_law_346 : decode code 346 = .ok (.iload 4, 2) := by decide +kernel
theorem d_L_law_348 : decode code 348 = .ok (.iconst 4, 1) := by decide +kernel
theorem d_L_law_349 : decode code 349 = .ok (.iadd, 1) := by decide +kernel
theorem d_L_law_350 : decode code 350 = .ok (.iaload, 1) := by decide +kernel
theorem d_L_law_351 : decode code 351 = .ok (.invokevirtual 99, 3) := by decide +kernel
theorem d_L_law_354 : decode code 354 = .ok (.aload_n 2, 1) := by decide +kernel
theorem d_L_law_355 : decode code 355 = .ok (.invokevirtual 86, 3) := by decide +kernel
theorem d_L_law_358 : decode code 358 = .ok (.iload 5, 2) := by decide +kernel
theorem d_L_law_360 : decode code 360 = .ok (.if_icmp .eq 5, 3) := by decide +kernel
theorem d_L_law_363 : decode code 363 = .ok (.iconst 0, 1) := by decide +kernel
theorem d_L_law_364 : decode code 364 = .ok (.ireturn, 1) := by decide +kernel
theorem d_L_law_365 : decode code 365 = .ok (.goto 681, 3) := by decide +kernel
theorem d_L_law_368 : decode code 368 = .ok (.aload_n 1, 1) := by decide +kernel
theorem d_L_law_369 : decode code 369 = .ok (.aload_n 0, 1) := by decide +kernel
theorem d_L_law_370 : decode code 370 = .ok (.iload 4, 2) := by decide +kernel
theorem d_L_law_372 : decode code 372 = .ok (.iconst 1, 1) := by decide +kernel
theorem d_L_law_373 : decode code 373 = .ok (.iadd, 1) := by decide +kernel
theorem d_L_law_374 : decode code 374 = .ok (.iaload, 1) := by decide +kernel
theorem d_L_law_375 : decode code 375 = .ok (.aload_n 3, 1) := by decide +kernel
theorem d_L_law_376 : decode code 376 = .ok (.invokestatic 100, 3) := by decide +kernel
theorem d_L_law_379 : decode code 379 = .ok (.istore 5, 2) := by decide +kernel
theorem d_L_law_381 : decode code 381 = .ok (.aload_n 2, 1) := by decide +kernel
theorem d_L_law_382 : decode code 382 = .ok (.aload_n 0, 1) := by decide +kernel
theorem d_L_law_383 : decode code 383 = .ok (.iload 4, 2) := by decide +kernel
theorem d_L_law_385 : decode code 385 = .ok (.iconst 1, 1) := by decide +kernel
theorem d_L_law_386 : decode code 386 = .ok (.iadd, 1) := by decide +kernel
theorem d_L_law_387 : decode code 387 = .ok (.iaload, 1) := by decide +kernel
theorem d_L_law_388 : decode code 388 = .ok (.invokevirtual 103, 3) := by decide +kernel
theorem d_L_law_391 : decode code 391 = .ok (.istore 6, 2) := by decide +kernel
theorem d_L_law_393 : decode code 393 = .ok (.aload_n 2, 1) := by decide +kernel
theorem d_L_law_394 : decode code 394 = .ok (.invokevirtual 86, 3) := by decide +kernel
theorem d_L_law_397 : decode code 397 = .ok (.iload 5, 2) := by decide +kernel
theorem d_L_law_399 : decode code 399 = .ok (.if_icmp .eq 5, 3) := by decide +kernel
theorem d_L_law_402 : decode code 402 = .ok (.iconst 0, 1) := by decide +kernel
theorem d_L_law_403 : decode code 403 = .ok (.ireturn, 1) := by decide +kernel
theorem d_L_law_404 : decode code 404 = .ok (.iload 5, 2) := by decide +kernel
theorem d_L_law_406 : decode code 406 = .ok (.ifCond .ne 15, 3) := by decide +kernel
theorem d_L_law_409 : decode code 409 = .ok (.aload_n 3, 1) := by decide +kernel
theorem d_L_law_410 : decode code 410 = .ok (.iconst 0, 1) := by decide +kernel
theorem d_L_law_411 : decode code 411 = .ok (.laload, 1) := by decide +kernel
theorem d_L_law_412 : decode code 412 = .ok (.iload 6, 2) := by decide +kernel
theorem d_L_law_414 : decode code 414 = .ok (.i2l, 1) := by decide +kernel
theorem d_L_law_415 : decode code 415 = .ok (.lcmp, 1) := by decide +kernel
theorem d_L_law_416 : decode code 416 = .ok (.ifCond .eq 5, 3) := by decide +kernel
theorem d_L_law_419 : decode code 419 = .ok (.iconst 0, 1) := by decide +kernel
theorem d_L_law_420 : decode code 420 = .ok (.ireturn, 1) := by decide +kernel
theorem d_L_law_421 : decode code 421 = .ok (.goto 625, 3) := by decide +kernel
theorem d_L_law_424 : decode code 424 = .ok (.aload_n 1, 1) := by decide +kernel
theorem d_L_law_425 : decode code 425 = .ok (.aload_n 0, 1) := by decide +kernel
theorem d_L_law_426 : decode code 426 = .ok (.iload 4, 2) := by decide +kernel
theorem d_L_law_428 : decode code 428 = .ok (.iconst 1, 1) := by decide +kernel
theorem d_L_law_429 : decode code 429 = .ok (.iadd, 1) := by decide +kernel
theorem d_L_law_430 : decode code 430 = .ok (.iaload, 1) := by decide +kernel
theorem d_L_law_431 : decode code 431 = .ok (.aload_n 0, 1) := by decide +kernel
theorem d_L_law_432 : decode code 432 = .ok (.iload 4, 2) := by decide +kernel
theorem d_L_law_434 : decode code 434 = .ok (.iconst 2, 1) := by decide +kernel
theorem d_L_law_435 : decode code 435 = .ok (.iadd, 1) := by decide +kernel
theorem d_L_law_436 : decode code 436 = .ok (.iaload, 1) := by decide +kernel
theorem d_L_law_437 : decode code 437 = .ok (.aload_n 3, 1) := by decide +kernel
theorem d_L_law_438 : decode code 438 = .ok (.invokestatic 104, 3) := by decide +kernel
theorem d_L_law_441 : decode code 441 = .ok (.istore 5, 2) := by decide +kernel
theorem d_L_law_443 : decode code 443 = .ok (.aload_n 2, 1) := by decide +kernel
theorem d_L_law_444 : decode code 444 = .ok (.aload_n 0, 1) := by decide +kernel
theorem d_L_law_445 : decode code 445 = .ok (.iload 4, 2) := by decide +kernel
theorem d_L_law_447 : decode code 447 = .ok (.iconst 1, 1) := by decide +kernel
theorem d_L_law_448 : decode code 448 = .ok (.iadd, 1) := by decide +kernel
theorem d_L_law_449 : decode code 449 = .ok (.iaload, 1) := by decide +kernel
theorem d_L_law_450 : decode code 450 = .ok (.aload_n 0, 1) := by decide +kernel
theorem d_L_law_451 : decode code 451 = .ok (.iload 4, 2) := by decide +kernel
theorem d_L_law_453 : decode code 453 = .ok (.iconst 2, 1) := by decide +kernel
theorem d_L_law_454 : decode code 454 = .ok (.iadd, 1) := by decide +kernel
theorem d_L_law_455 : decode code 455 = .ok (.iaload, 1) := by decide +kernel
theorem d_L_law_456 : decode code 456 = .ok (.invokevirtual 107, 3) := by decide +kernel
theorem d_L_law_459 : decode code 459 = .ok (.istore 6, 2) := by decide +kernel
theorem d_L_law_461 : decode code 461 = .ok (.aload_n 2, 1) := by decide +kernel
theorem d_L_law_462 : decode code 462 = .ok (.invokevirtual 86, 3) := by decide +kernel
theorem d_L_law_465 : decode code 465 = .ok (.iload 5, 2) := by decide +kernel
theorem d_L_law_467 : decode code 467 = .ok (.if_icmp .eq 5, 3) := by decide +kernel
theorem d_L_law_470 : decode code 470 = .ok (.iconst 0, 1) := by decide +kernel
theorem d_L_law_471 : decode code 471 = .ok (.ireturn, 1) := by decide +kernel
theorem d_L_law_472 : decode code 472 = .ok (.iload 5, 2) := by decide +kernel
theorem d_L_law_474 : decode code 474 = .ok (.ifCond .ne 22, 3) := by decide +kernel
theorem d_L_law_477 : decode code 477 = .ok (.aload_n 3, 1) := by decide +kernel
theorem d_L_law_478 : decode code 478 = .ok (.iconst 0, 1) := by decide +kernel
theorem d_L_law_479 : decode code 479 = .ok (.laload, 1) := by decide +kernel
theorem d_L_law_480 : decode code 480 = .ok (.iload 6, 2) := by decide +kernel
theorem d_L_law_482 : decode code 482 = .ok (.ifCond .eq 7, 3) := by decide +kernel
theorem d_L_law_485 : decode code 485 = .ok (.lconst 1, 1) := by decide +kernel
theorem d_L_law_486 : decode code 486 = .ok (.goto 4, 3) := by decide +kernel
theorem d_L_law_489 : decode code 489 = .ok (.lconst 0, 1) := by decide +kernel
theorem d_L_law_490 : decode code 490 = .ok (.lcmp, 1) := by decide +kernel
theorem d_L_law_491 : decode code 491 = .ok (.ifCond .eq 5, 3) := by decide +kernel
theorem d_L_law_494 : decode code 494 = .ok (.iconst 0, 1) := by decide +kernel
theorem d_L_law_495 : decode code 495 = .ok (.ireturn, 1) := by decide +kernel
theorem d_L_law_496 : decode code 496 = .ok (.goto 550, 3) := by decide +kernel
theorem d_L_law_499 : decode code 499 = .ok (.aload_n 1, 1) := by decide +kernel
end
section
theorem d_L_law_500 : decode code 500 = .ok (.aload_n 3, 1) := by decide +kernel
theorem d_L_law_501 : decode code 501 = .ok (.invokestatic 108, 3) := by decide +kernel
theorem d_L_law_504 : decode code 504 = .ok (.istore 5, 2) := by decide +kernel
theorem d_L_law_506 : decode code 506 = .ok (.aload_n 2, 1) := by decide +kernel
theorem d_L_law_507 : decode code 507 = .ok (.invokevirtual 111, 3) := by decide +kernel
theorem d_L_law_510 : decode code 510 = .ok (.istore 6, 2) := by decide +kernel
theorem d_L_law_512 : decode code 512 = .ok (.aload_n 2, 1) := by decide +kernel
theorem d_L_law_513 : decode code 513 = .ok (.invokevirtual 86, 3) := by decide +kernel
theorem d_L_law_516 : decode code 516 = .ok (.iload 5, 2) := by decide +kernel
theorem d_L_law_518 : decode code 518 = .ok (.if_icmp .eq 5, 3) := by decide +kernel
theorem d_L_law_521 : decode code 521 = .ok (.iconst 0, 1) := by decide +kernel
theorem d_L_law_522 : decode code 522 = .ok (.ireturn, 1) := by decide +kernel
theorem d_L_law_523 : decode code 523 = .ok (.iload 5, 2) := by decide +kernel
theorem d_L_law_525 : decode code 525 = .ok (.ifCond .ne 15, 3) := by decide +kernel
theorem d_L_law_528 : decode code 528 = .ok (.aload_n 3, 1) := by decide +kernel
theorem d_L_law_529 : decode code 529 = .ok (.iconst 0, 1) := by decide +kernel
theorem d_L_law_530 : decode code 530 = .ok (.laload, 1) := by decide +kernel
theorem d_L_law_531 : decode code 531 = .ok (.iload 6, 2) := by decide +kernel
theorem d_L_law_533 : decode code 533 = .ok (.i2l, 1) := by decide +kernel
theorem d_L_law_534 : decode code 534 = .ok (.lcmp, 1) := by decide +kernel
theorem d_L_law_535 : decode code 535 = .ok (.ifCond .eq 5, 3) := by decide +kernel
theorem d_L_law_538 : decode code 538 = .ok (.iconst 0, 1) := by decide +kernel
theorem d_L_law_539 : decode code 539 = .ok (.ireturn, 1) := by decide +kernel
theorem d_L_law_540 : decode code 540 = .ok (.goto 506, 3) := by decide +kernel
theorem d_L_law_543 : decode code 543 = .ok (.aload_n 1, 1) := by decide +kernel
theorem d_L_law_544 : decode code 544 = .ok (.aload_n 0, 1) := by decide +kernel
theorem d_L_law_545 : decode code 545 = .ok (.iload 4, 2) := by decide +kernel
theorem d_L_law_547 : decode code 547 = .ok (.iconst 1, 1) := by decide +kernel
theorem d_L_law_548 : decode code 548 = .ok (.iadd, 1) := by decide +kernel
theorem d_L_law_549 : decode code 549 = .ok (.iaload, 1) := by decide +kernel
theorem d_L_law_550 : decode code 550 = .ok (.invokestatic 112, 3) := by decide +kernel
theorem d_L_law_553 : decode code 553 = .ok (.istore 5, 2) := by decide +kernel
theorem d_L_law_555 : decode code 555 = .ok (.aload_n 2, 1) := by decide +kernel
theorem d_L_law_556 : decode code 556 = .ok (.aload_n 0, 1) := by decide +kernel
theorem d_L_law_557 : decode code 557 = .ok (.iload 4, 2) := by decide +kernel
theorem d_L_law_559 : decode code 559 = .ok (.iconst 1, 1) := by decide +kernel
theorem d_L_law_560 : decode code 560 = .ok (.iadd, 1) := by decide +kernel
theorem d_L_law_561 : decode code 561 = .ok (.iaload, 1) := by decide +kernel
theorem d_L_law_562 : decode code 562 = .ok (.invokevirtual 115, 3) := by decide +kernel
theorem d_L_law_565 : decode code 565 = .ok (.aload_n 2, 1) := by decide +kernel
theorem d_L_law_566 : decode code 566 = .ok (.invokevirtual 86, 3) := by decide +kernel
theorem d_L_law_569 : decode code 569 = .ok (.iload 5, 2) := by decide +kernel
theorem d_L_law_571 : decode code 571 = .ok (.if_icmp .eq 5, 3) := by decide +kernel
theorem d_L_law_574 : decode code 574 = .ok (.iconst 0, 1) := by decide +kernel
theorem d_L_law_575 : decode code 575 = .ok (.ireturn, 1) := by decide +kernel
theorem d_L_law_576 : decode code 576 = .ok (.goto 470, 3) := by decide +kernel
theorem d_L_law_579 : decode code 579 = .ok (.aload_n 1, 1) := by decide +kernel
theorem d_L_law_580 : decode code 580 = .ok (.aload_n 0, 1) := by decide +kernel
theorem d_L_law_581 : decode code 581 = .ok (.iload 4, 2) := by decide +kernel
theorem d_L_law_583 : decode code 583 = .ok (.iconst 1, 1) := by decide +kernel
theorem d_L_law_584 : decode code 584 = .ok (.iadd, 1) := by decide +kernel
theorem d_L_law_585 : decode code 585 = .ok (.iaload, 1) := by decide +kernel
theorem d_L_law_586 : decode code 586 = .ok (.aload_n 3, 1) := by decide +kernel
theorem d_L_law_587 : decode code 587 = .ok (.invokestatic 116, 3) := by decide +kernel
theorem d_L_law_590 : decode code 590 = .ok (.istore 5, 2) := by decide +kernel
theorem d_L_law_592 : decode code 592 = .ok (.aload_n 2, 1) := by decide +kernel
theorem d_L_law_593 : decode code 593 = .ok (.aload_n 0, 1) := by decide +kernel
theorem d_L_law_594 : decode code 594 = .ok (.iload 4, 2) := by decide +kernel
theorem d_L_law_596 : decode code 596 = .ok (.iconst 1, 1) := by decide +kernel
theorem d_L_law_597 : decode code 597 = .ok (.iadd, 1) := by decide +kernel
theorem d_L_law_598 : decode code 598 = .ok (.iaload, 1) := by decide +kernel
theorem d_L_law_599 : decode code 599 = .ok (.invokevirtual 118, 3) := by decide +kernel
theorem d_L_law_602 : decode code 602 = .ok (.istore 6, 2) := by decide +kernel
theorem d_L_law_604 : decode code 604 = .ok (.aload_n 2, 1) := by decide +kernel
theorem d_L_law_605 : decode code 605 = .ok (.invokevirtual 86, 3) := by decide +kernel
theorem d_L_law_608 : decode code 608 = .ok (.iload 5, 2) := by decide +kernel
theorem d_L_law_610 : decode code 610 = .ok (.if_icmp .eq 5, 3) := by decide +kernel
theorem d_L_law_613 : decode code 613 = .ok (.iconst 0, 1) := by decide +kernel
theorem d_L_law_614 : decode code 614 = .ok (.ireturn, 1) := by decide +kernel
theorem d_L_law_615 : decode code 615 = .ok (.iload 5, 2) := by decide +kernel
theorem d_L_law_617 : decode code 617 = .ok (.ifCond .ne 15, 3) := by decide +kernel
theorem d_L_law_620 : decode code 620 = .ok (.aload_n 3, 1) := by decide +kernel
theorem d_L_law_621 : decode code 621 = .ok (.iconst 0, 1) := by decide +kernel
theorem d_L_law_622 : decode code 622 = .ok (.laload, 1) := by decide +kernel
theorem d_L_law_623 : decode code 623 = .ok (.iload 6, 2) := by decide +kernel
theorem d_L_law_625 : decode code 625 = .ok (.i2l, 1) := by decide +kernel
theorem d_L_law_626 : decode code 626 = .ok (.lcmp, 1) := by decide +kernel
theorem d_L_law_627 : decode code 627 = .ok (.ifCond .eq 5, 3) := by decide +kernel
theorem d_L_law_630 : decode code 630 = .ok (.iconst 0, 1) := by decide +kernel
theorem d_L_law_631 : decode code 631 = .ok (.ireturn, 1) := by decide +kernel
theorem d_L_law_632 : decode code 632 = .ok (.goto 414, 3) := by decide +kernel
theorem d_L_law_635 : decode code 635 = .ok (.aload_n 1, 1) := by decide +kernel
theorem d_L_law_636 : decode code 636 = .ok (.aload_n 0, 1) := by decide +kernel
theorem d_L_law_637 : decode code 637 = .ok (.iload 4, 2) := by decide +kernel
theorem d_L_law_639 : decode code 639 = .ok (.iconst 1, 1) := by decide +kernel
theorem d_L_law_640 : decode code 640 = .ok (.iadd, 1) := by decide +kernel
theorem d_L_law_641 : decode code 641 = .ok (.iaload, 1) := by decide +kernel
theorem d_L_law_642 : decode code 642 = .ok (.aload_n 3, 1) := by decide +kernel
theorem d_L_law_643 : decode code 643 = .ok (.invokestatic 119, 3) := by decide +kernel
theorem d_L_law_646 : decode code 646 = .ok (.istore 5, 2) := by decide +kernel
theorem d_L_law_648 : decode code 648 = .ok (.aload_n 2, 1) := by decide +kernel
theorem d_L_law_649 : decode code 649 = .ok (.aload_n 0, 1) := by decide +kernel
theorem d_L_law_650 : decode code 650 = .ok (.iload 4, 2) := by decide +kernel
theorem d_L_law_652 : decode code 652 = .ok (.iconst 1, 1) := by decide +kernel
theorem d_L_law_653 : decode code 653 = .ok (.iadd, 1) := by decide +kernel
theorem d_L_law_654 : decode code 654 = .ok (.iaload, 1) := by decide +kernel
theorem d_L_law_655 : decode code 655 = .ok (.invokevirtual 121, 3) := by decide +kernel
theorem d_L_law_658 : decode code 658 = .ok (.istore 6, 2) := by decide +kernel
theorem d_L_law_660 : decode code 660 = .ok (.aload_n 2, 1) := by decide +kernel
theorem d_L_law_661 : decode code 661 = .ok (.invokevirtual 86, 3) := by decide +kernel
theorem d_L_law_664 : decode code 664 = .ok (.iload 5, 2) := by decide +kernel
theorem d_L_law_666 : decode code 666 = .ok (.if_icmp .eq 5, 3) := by decide +kernel
theorem d_L_law_669 : decode code 669 = .ok (.iconst 0, 1) := by decide +kernel
theorem d_L_law_670 : decode code 670 = .ok (.ireturn, 1) := by decide +kernel
theorem d_L_law_671 : decode code 671 = .ok (.iload 5, 2) := by decide +kernel
theorem d_L_law_673 : decode code 673 = .ok (.ifCond .ne 15, 3) := by decide +kernel
theorem d_L_law_676 : decode code 676 = .ok (.aload_n 3, 1) := by decide +kernel
theorem d_L_law_677 : decode code 677 = .ok (.iconst 0, 1) := by decide +kernel
theorem d_L_law_678 : decode code 678 = .ok (.laload, 1) := by decide +kernel
theorem d_L_law_679 : decode code 679 = .ok (.iload 6, 2) := by decide +kernel
theorem d_L_law_681 : decode code 681 = .ok (.i2l, 1) := by decide +kernel
theorem d_L_law_682 : decode code 682 = .ok (.lcmp, 1) := by decide +kernel
theorem d_L_law_683 : decode code 683 = .ok (.ifCond .eq 5, 3) := by decide +kernel
theorem d_L_law_686 : decode code 686 = .ok (.iconst 0, 1) := by decide +kernel
theorem d_L_law_687 : decode code 687 = .ok (.ireturn, 1) := by decide +kernel
theorem d_L_law_688 : decode code 688 = .ok (.goto 358, 3) := by decide +kernel
theorem d_L_law_691 : decode code 691 = .ok (.aload_n 1, 1) := by decide +kernel
theorem d_L_law_692 : decode code 692 = .ok (.aload_n 0, 1) := by decide +kernel
theorem d_L_law_693 : decode code 693 = .ok (.iload 4, 2) := by decide +kernel
theorem d_L_law_695 : decode code 695 = .ok (.iconst 1, 1) := by decide +kernel
theorem d_L_law_696 : decode code 696 = .ok (.iadd, 1) := by decide +kernel
theorem d_L_law_697 : decode code 697 = .ok (.iaload, 1) := by decide +kernel
theorem d_L_law_698 : decode code 698 = .ok (.aload_n 3, 1) := by decide +kernel
theorem d_L_law_699 : decode code 699 = .ok (.invokestatic 122, 3) := by decide +kernel
theorem d_L_law_702 : decode code 702 = .ok (.istore 5, 2) := by decide +kernel
theorem d_L_law_704 : decode code 704 = .ok (.aload_n 2, 1) := by decide +kernel
theorem d_L_law_705 : decode code 705 = .ok (.aload_n 0, 1) := by decide +kernel
theorem d_L_law_706 : decode code 706 = .ok (.iload 4, 2) := by decide +kernel
theorem d_L_law_708 : decode code 708 = .ok (.iconst 1, 1) := by decide +kernel
theorem d_L_law_709 : decode code 709 = .ok (.iadd, 1) := by decide +kernel
theorem d_L_law_710 : decode code 710 = .ok (.iaload, 1) := by decide +kernel
theorem d_L_law_711 : decode code 711 = .ok (.invokevirtual 124, 3) := by decide +kernel
theorem d_L_law_714 : decode code 714 = .ok (.istore 6, 2) := by decide +kernel
theorem d_L_law_716 : decode code 716 = .ok (.aload_n 2, 1) := by decide +kernel
theorem d_L_law_717 : decode code 717 = .ok (.invokevirtual 86, 3) := by decide +kernel
theorem d_L_law_720 : decode code 720 = .ok (.iload 5, 2) := by decide +kernel
theorem d_L_law_722 : decode code 722 = .ok (.if_icmp .eq 5, 3) := by decide +kernel
theorem d_L_law_725 : decode code 725 = .ok (.iconst 0, 1) := by decide +kernel
theorem d_L_law_726 : decode code 726 = .ok (.ireturn, 1) := by decide +kernel
theorem d_L_law_727 : decode code 727 = .ok (.iload 5, 2) := by decide +kernel
theorem d_L_law_729 : decode code 729 = .ok (.ifCond .ne 22, 3) := by decide +kernel
theorem d_L_law_732 : decode code 732 = .ok (.aload_n 3, 1) := by decide +kernel
theorem d_L_law_733 : decode code 733 = .ok (.iconst 0, 1) := by decide +kernel
theorem d_L_law_734 : decode code 734 = .ok (.laload, 1) := by decide +kernel
theorem d_L_law_735 : decode code 735 = .ok (.iload 6, 2) := by decide +kernel
theorem d_L_law_737 : decode code 737 = .ok (.ifCond .eq 7, 3) := by decide +kernel
theorem d_L_law_740 : decode code 740 = .ok (.lconst 1, 1) := by decide +kernel
theorem d_L_law_741 : decode code 741 = .ok (.goto 4, 3) := by decide +kernel
theorem d_L_law_744 : decode code 744 = .ok (.lconst 0, 1) := by decide +kernel
theorem d_L_law_745 : decode code 745 = .ok (.lcmp, 1) := by decide +kernel
theorem d_L_law_746 : decode code 746 = .ok (.ifCond .eq 5, 3) := by decide +kernel
theorem d_L_law_749 : decode code 749 = .ok (.iconst 0, 1) := by decide +kernel
theorem d_L_law_750 : decode code 750 = .ok (.ireturn, 1) := by decide +kernel
theorem d_L_law_751 : decode code 751 = .ok (.goto 295, 3) := by decide +kernel
theorem d_L_law_754 : decode code 754 = .ok (.aload_n 1, 1) := by decide +kernel
theorem d_L_law_755 : decode code 755 = .ok (.aload_n 0, 1) := by decide +kernel
theorem d_L_law_756 : decode code 756 = .ok (.iload 4, 2) := by decide +kernel
theorem d_L_law_758 : decode code 758 = .ok (.iconst 1, 1) := by decide +kernel
theorem d_L_law_759 : decode code 759 = .ok (.iadd, 1) := by decide +kernel
theorem d_L_law_760 : decode code 760 = .ok (.iaload, 1) := by decide +kernel
theorem d_L_law_761 : decode code 761 = .ok (.aload_n 3, 1) := by decide +kernel
theorem d_L_law_762 : decode code 762 = .ok (.invokestatic 125, 3) := by decide +kernel
theorem d_L_law_765 : decode code 765 = .ok (.istore 5, 2) := by decide +kernel
theorem d_L_law_767 : decode code 767 = .ok (.aload_n 2, 1) := by decide +kernel
theorem d_L_law_768 : decode code 768 = .ok (.aload_n 0, 1) := by decide +kernel
theorem d_L_law_769 : decode code 769 = .ok (.iload 4, 2) := by decide +kernel
theorem d_L_law_771 : decode code 771 = .ok (.iconst 1, 1) := by decide +kernel
theorem d_L_law_772 : decode code 772 = .ok (.iadd, 1) := by decide +kernel
theorem d_L_law_773 : decode code 773 = .ok (.iaload, 1) := by decide +kernel
theorem d_L_law_774 : decode code 774 = .ok (.invokevirtual 127, 3) := by decide +kernel
theorem d_L_law_777 : decode code 777 = .ok (.istore 6, 2) := by decide +kernel
theorem d_L_law_779 : decode code 779 = .ok (.aload_n 2, 1) := by decide +kernel
theorem d_L_law_780 : decode code 780 = .ok (.invokevirtual 86, 3) := by decide +kernel
theorem d_L_law_783 : decode code 783 = .ok (.iload 5, 2) := by decide +kernel
theorem d_L_law_785 : decode code 785 = .ok (.if_icmp .eq 5, 3) := by decide +kernel
theorem d_L_law_788 : decode code 788 = .ok (.iconst 0, 1) := by decide +kernel
theorem d_L_law_789 : decode code 789 = .ok (.ireturn, 1) := by decide +kernel
theorem d_L_law_790 : decode code 790 = .ok (.iload 5, 2) := by decide +kernel
theorem d_L_law_792 : decode code 792 = .ok (.ifCond .ne 15, 3) := by decide +kernel
theorem d_L_law_795 : decode code 795 = .ok (.aload_n 3, 1) := by decide +kernel
theorem d_L_law_796 : decode code 796 = .ok (.iconst 0, 1) := by decide +kernel
theorem d_L_law_797 : decode code 797 = .ok (.laload, 1) := by decide +kernel
theorem d_L_law_798 : decode code 798 = .ok (.iload 6, 2) := by decide +kernel
theorem d_L_law_800 : decode code 800 = .ok (.i2l, 1) := by decide +kernel
theorem d_L_law_801 : decode code 801 = .ok (.lcmp, 1) := by decide +kernel
theorem d_L_law_802 : decode code 802 = .ok (.ifCond .eq 5, 3) := by decide +kernel
theorem d_L_law_805 : decode code 805 = .ok (.iconst 0, 1) := by decide +kernel
theorem d_L_law_806 : decode code 806 = .ok (.ireturn, 1) := by decide +kernel
theorem d_L_law_807 : decode code 807 = .ok (.goto 239, 3) := by decide +kernel
theorem d_L_law_810 : decode code 810 = .ok (.aload_n 1, 1) := by decide +kernel
theorem d_L_law_811 : decode code 811 = .ok (.aload_n 0, 1) := by decide +kernel
theorem d_L_law_812 : decode code 812 = .ok (.iload 4, 2) := by decide +kernel
theorem d_L_law_814 : decode code 814 = .ok (.iconst 1, 1) := by decide +kernel
theorem d_L_law_815 : decode code 815 = .ok (.iadd, 1) := by decide +kernel
theorem d_L_law_816 : decode code 816 = .ok (.iaload, 1) := by decide +kernel
theorem d_L_law_817 : decode code 817 = .ok (.aload_n 3, 1) := by decide +kernel
theorem d_L_law_818 : decode code 818 = .ok (.invokestatic 128, 3) := by decide +kernel
theorem d_L_law_821 : decode code 821 = .ok (.istore 5, 2) := by decide +kernel
theorem d_L_law_823 : decode code 823 = .ok (.aload_n 2, 1) := by decide +kernel
theorem d_L_law_824 : decode code 824 = .ok (.aload_n 0, 1) := by decide +kernel
theorem d_L_law_825 : decode code 825 = .ok (.iload 4, 2) := by decide +kernel
theorem d_L_law_827 : decode code 827 = .ok (.iconst 1, 1) := by decide +kernel
theorem d_L_law_828 : decode code 828 = .ok (.iadd, 1) := by decide +kernel
theorem d_L_law_829 : decode code 829 = .ok (.iaload, 1) := by decide +kernel
theorem d_L_law_830 : decode code 830 = .ok (.invokevirtual 130, 3) := by decide +kernel
theorem d_L_law_833 : decode code 833 = .ok (.istore 6, 2) := by decide +kernel
theorem d_L_law_835 : decode code 835 = .ok (.aload_n 2, 1) := by decide +kernel
theorem d_L_law_836 : decode code 836 = .ok (.invokevirtual 86, 3) := by decide +kernel
theorem d_L_law_839 : decode code 839 = .ok (.iload 5, 2) := by decide +kernel
theorem d_L_law_841 : decode code 841 = .ok (.if_icmp .eq 5, 3) := by decide +kernel
theorem d_L_law_844 : decode code 844 = .ok (.iconst 0, 1) := by decide +kernel
theorem d_L_law_845 : decode code 845 = .ok (.ireturn, 1) := by decide +kernel
theorem d_L_law_846 : decode code 846 = .ok (.iload 5, 2) := by decide +kernel
theorem d_L_law_848 : decode code 848 = .ok (.ifCond .ne 15, 3) := by decide +kernel
theorem d_L_law_851 : decode code 851 = .ok (.aload_n 3, 1) := by decide +kernel
theorem d_L_law_852 : decode code 852 = .ok (.iconst 0, 1) := by decide +kernel
theorem d_L_law_853 : decode code 853 = .ok (.laload, 1) := by decide +kernel
theorem d_L_law_854 : decode code 854 = .ok (.iload 6, 2) := by decide +kernel
theorem d_L_law_856 : decode code 856 = .ok (.i2l, 1) := by decide +kernel
theorem d_L_law_857 : decode code 857 = .ok (.lcmp, 1) := by decide +kernel
theorem d_L_law_858 : decode code 858 = .ok (.ifCond .eq 5, 3) := by decide +kernel
theorem d_L_law_861 : decode code 861 = .ok (.iconst 0, 1) := by decide +kernel
theorem d_L_law_862 : decode code 862 = .ok (.ireturn, 1) := by decide +kernel
theorem d_L_law_863 : decode code 863 = .ok (.goto 183, 3) := by decide +kernel
theorem d_L_law_866 : decode code 866 = .ok (.aload_n 1, 1) := by decide +kernel
theorem d_L_law_867 : decode code 867 = .ok (.aload_n 0, 1) := by decide +kernel
theorem d_L_law_868 : decode code 868 = .ok (.iload 4, 2) := by decide +kernel
theorem d_L_law_870 : decode code 870 = .ok (.iconst 1, 1) := by decide +kernel
theorem d_L_law_871 : decode code 871 = .ok (.iadd, 1) := by decide +kernel
theorem d_L_law_872 : decode code 872 = .ok (.iaload, 1) := by decide +kernel
theorem d_L_law_873 : decode code 873 = .ok (.aload_n 3, 1) := by decide +kernel
theorem d_L_law_874 : decode code 874 = .ok (.invokestatic 131, 3) := by decide +kernel
theorem d_L_law_877 : decode code 877 = .ok (.istore 5, 2) := by decide +kernel
theorem d_L_law_879 : decode code 879 = .ok (.aload_n 2, 1) := by decide +kernel
theorem d_L_law_880 : decode code 880 = .ok (.aload_n 0, 1) := by decide +kernel
theorem d_L_law_881 : decode code 881 = .ok (.iload 4, 2) := by decide +kernel
theorem d_L_law_883 : decode code 883 = .ok (.iconst 1, 1) := by decide +kernel
theorem d_L_law_884 : decode code 884 = .ok (.iadd, 1) := by decide +kernel
theorem d_L_law_885 : decode code 885 = .ok (.iaload, 1) := by decide +kernel
theorem d_L_law_886 : decode code 886 = .ok (.invokevirtual 133, 3) := by decide +kernel
theorem d_L_law_889 : decode code 889 = .ok (.istore 6, 2) := by decide +kernel
theorem d_L_law_891 : decode code 891 = .ok (.aload_n 2, 1) := by decide +kernel
theorem d_L_law_892 : decode code 892 = .ok (.invokevirtual 86, 3) := by decide +kernel
theorem d_L_law_895 : decode code 895 = .ok (.iload 5, 2) := by decide +kernel
theorem d_L_law_897 : decode code 897 = .ok (.if_icmp .eq 5, 3) := by decide +kernel
theorem d_L_law_900 : decode code 900 = .ok (.iconst 0, 1) := by decide +kernel
theorem d_L_law_901 : decode code 901 = .ok (.ireturn, 1) := by decide +kernel
theorem d_L_law_902 : decode code 902 = .ok (.iload 5, 2) := by decide +kernel
theorem d_L_law_904 : decode code 904 = .ok (.ifCond .ne 15, 3) := by decide +kernel
theorem d_L_law_907 : decode code 907 = .ok (.aload_n 3, 1) := by decide +kernel
theorem d_L_law_908 : decode code 908 = .ok (.iconst 0, 1) := by decide +kernel
theorem d_L_law_909 : decode code 909 = .ok (.laload, 1) := by decide +kernel
theorem d_L_law_910 : decode code 910 = .ok (.iload 6, 2) := by decide +kernel
theorem d_L_law_912 : decode code 912 = .ok (.i2l, 1) := by decide +kernel
theorem d_L_law_913 : decode code 913 = .ok (.lcmp, 1) := by decide +kernel
theorem d_L_law_914 : decode code 914 = .ok (.ifCond .eq 5, 3) := by decide +kernel
theorem d_L_law_917 : decode code 917 = .ok (.iconst 0, 1) := by decide +kernel
theorem d_L_law_918 : decode code 918 = .ok (.ireturn, 1) := by decide +kernel
theorem d_L_law_919 : decode code 919 = .ok (.goto 127, 3) := by decide +kernel
theorem d_L_law_922 : decode code 922 = .ok (.aload_n 1, 1) := by decide +kernel
theorem d_L_law_923 : decode code 923 = .ok (.aload_n 0, 1) := by decide +kernel
theorem d_L_law_924 : decode code 924 = .ok (.iload 4, 2) := by decide +kernel
theorem d_L_law_926 : decode code 926 = .ok (.iconst 1, 1) := by decide +kernel
theorem d_L_law_927 : decode code 927 = .ok (.iadd, 1) := by decide +kernel
theorem d_L_law_928 : decode code 928 = .ok (.iaload, 1) := by decide +kernel
theorem d_L_law_929 : decode code 929 = .ok (.aload_n 0, 1) := by decide +kernel
theorem d_L_law_930 : decode code 930 = .ok (.iload 4, 2) := by decide +kernel
theorem d_L_law_932 : decode code 932 = .ok (.iconst 2, 1) := by decide +kernel
theorem d_L_law_933 : decode code 933 = .ok (.iadd, 1) := by decide +kernel
theorem d_L_law_934 : decode code 934 = .ok (.iaload, 1) := by decide +kernel
theorem d_L_law_935 : decode code 935 = .ok (.aload_n 3, 1) := by decide +kernel
theorem d_L_law_936 : decode code 936 = .ok (.invokestatic 134, 3) := by decide +kernel
theorem d_L_law_939 : decode code 939 = .ok (.istore 5, 2) := by decide +kernel
theorem d_L_law_941 : decode code 941 = .ok (.aload_n 2, 1) := by decide +kernel
theorem d_L_law_942 : decode code 942 = .ok (.aload_n 0, 1) := by decide +kernel
theorem d_L_law_943 : decode code 943 = .ok (.iload 4, 2) := by decide +kernel
theorem d_L_law_945 : decode code 945 = .ok (.iconst 1, 1) := by decide +kernel
theorem d_L_law_946 : decode code 946 = .ok (.iadd, 1) := by decide +kernel
theorem d_L_law_947 : decode code 947 = .ok (.iaload, 1) := by decide +kernel
theorem d_L_law_948 : decode code 948 = .ok (.aload_n 0, 1) := by decide +kernel
theorem d_L_law_949 : decode code 949 = .ok (.iload 4, 2) := by decide +kernel
theorem d_L_law_951 : decode code 951 = .ok (.iconst 2, 1) := by decide +kernel
theorem d_L_law_952 : decode code 952 = .ok (.iadd, 1) := by decide +kernel
theorem d_L_law_953 : decode code 953 = .ok (.iaload, 1) := by decide +kernel
theorem d_L_law_954 : decode code 954 = .ok (.invokevirtual 136, 3) := by decide +kernel
theorem d_L_law_957 : decode code 957 = .ok (.istore 6, 2) := by decide +kernel
theorem d_L_law_959 : decode code 959 = .ok (.aload_n 2, 1) := by decide +kernel
theorem d_L_law_960 : decode code 960 = .ok (.invokevirtual 86, 3) := by decide +kernel
theorem d_L_law_963 : decode code 963 = .ok (.iload 5, 2) := by decide +kernel
theorem d_L_law_965 : decode code 965 = .ok (.if_icmp .eq 5, 3) := by decide +kernel
theorem d_L_law_968 : decode code 968 = .ok (.iconst 0, 1) := by decide +kernel
theorem d_L_law_969 : decode code 969 = .ok (.ireturn, 1) := by decide +kernel
theorem d_L_law_970 : decode code 970 = .ok (.iload 5, 2) := by decide +kernel
theorem d_L_law_972 : decode code 972 = .ok (.ifCond .ne 15, 3) := by decide +kernel
theorem d_L_law_975 : decode code 975 = .ok (.aload_n 3, 1) := by decide +kernel
theorem d_L_law_976 : decode code 976 = .ok (.iconst 0, 1) := by decide +kernel
theorem d_L_law_977 : decode code 977 = .ok (.laload, 1) := by decide +kernel
theorem d_L_law_978 : decode code 978 = .ok (.iload 6, 2) := by decide +kernel
theorem d_L_law_980 : decode code 980 = .ok (.i2l, 1) := by decide +kernel
theorem d_L_law_981 : decode code 981 = .ok (.lcmp, 1) := by decide +kernel
theorem d_L_law_982 : decode code 982 = .ok (.ifCond .eq 5, 3) := by decide +kernel
theorem d_L_law_985 : decode code 985 = .ok (.iconst 0, 1) := by decide +kernel
theorem d_L_law_986 : decode code 986 = .ok (.ireturn, 1) := by decide +kernel
theorem d_L_law_987 : decode code 987 = .ok (.goto 59, 3) := by decide +kernel
theorem d_L_law_990 : decode code 990 = .ok (.aload_n 1, 1) := by decide +kernel
theorem d_L_law_991 : decode code 991 = .ok (.aload_n 0, 1) := by decide +kernel
theorem d_L_law_992 : decode code 992 = .ok (.iload 4, 2) := by decide +kernel
theorem d_L_law_994 : decode code 994 = .ok (.iconst 1, 1) := by decide +kernel
theorem d_L_law_995 : decode code 995 = .ok (.iadd, 1) := by decide +kernel
theorem d_L_law_996 : decode code 996 = .ok (.iaload, 1) := by decide +kernel
theorem d_L_law_997 : decode code 997 = .ok (.aload_n 3, 1) := by decide +kernel
theorem d_L_law_998 : decode code 998 = .ok (.invokestatic 137, 3) := by decide +kernel
theorem d_L_law_1001 : decode code 1001 = .ok (.istore 5, 2) := by decide +kernel
theorem d_L_law_1003 : decode code 1003 = .ok (.aload_n 2, 1) := by decide +kernel
theorem d_L_law_1004 : decode code 1004 = .ok (.aload_n 0, 1) := by decide +kernel
theorem d_L_law_1005 : decode code 1005 = .ok (.iload 4, 2) := by decide +kernel
theorem d_L_law_1007 : decode code 1007 = .ok (.iconst 1, 1) := by decide +kernel
theorem d_L_law_1008 : decode code 1008 = .ok (.iadd, 1) := by decide +kernel
theorem d_L_law_1009 : decode code 1009 = .ok (.iaload, 1) := by decide +kernel
theorem d_L_law_1010 : decode code 1010 = .ok (.invokevirtual 139, 3) := by decide +kernel
theorem d_L_law_1013 : decode code 1013 = .ok (.istore 6, 2) := by decide +kernel
theorem d_L_law_1015 : decode code 1015 = .ok (.aload_n 2, 1) := by decide +kernel
theorem d_L_law_1016 : decode code 1016 = .ok (.invokevirtual 86, 3) := by decide +kernel
theorem d_L_law_1019 : decode code 1019 = .ok (.iload 5, 2) := by decide +kernel
theorem d_L_law_1021 : decode code 1021 = .ok (.if_icmp .eq 5, 3) := by decide +kernel
theorem d_L_law_1024 : decode code 1024 = .ok (.iconst 0, 1) := by decide +kernel
theorem d_L_law_1025 : decode code 1025 = .ok (.ireturn, 1) := by decide +kernel
theorem d_L_law_1026 : decode code 1026 = .ok (.iload 5, 2) := by decide +kernel
theorem d_L_law_1028 : decode code 1028 = .ok (.ifCond .ne 15, 3) := by decide +kernel
theorem d_L_law_1031 : decode code 1031 = .ok (.aload_n 3, 1) := by decide +kernel
theorem d_L_law_1032 : decode code 1032 = .ok (.iconst 0, 1) := by decide +kernel
theorem d_L_law_1033 : decode code 1033 = .ok (.laload, 1) := by decide +kernel
theorem d_L_law_1034 : decode code 1034 = .ok (.iload 6, 2) := by decide +kernel
theorem d_L_law_1036 : decode code 1036 = .ok (.i2l, 1) := by decide +kernel
theorem d_L_law_1037 : decode code 1037 = .ok (.lcmp, 1) := by decide +kernel
theorem d_L_law_1038 : decode code 1038 = .ok (.ifCond .eq 5, 3) := by decide +kernel
theorem d_L_law_1041 : decode code 1041 = .ok (.iconst 0, 1) := by decide +kernel
theorem d_L_law_1042 : decode code 1042 = .ok (.ireturn, 1) := by decide +kernel
theorem d_L_law_1043 : decode code 1043 = .ok (.goto 3, 3) := by decide +kernel
theorem d_L_law_1046 : decode code 1046 = .ok (.iinc 4 5, 3) := by decide +kernel
theorem d_L_law_1049 : decode code 1049 = .ok (.goto (-1026), 3) := by decide +kernel
theorem d_L_law_1052 : decode code 1052 = .ok (.iconst 1, 1) := by decide +kernel
theorem d_L_law_1053 : decode code 1053 = .ok (.ireturn, 1) := by decide +kernel
end
section
def lw_good : List Cond := lw_tbl.filter goodWord
theorem tw_mk {i : Nat} {w : Cond} (h : tables_1[i]? = some w) (g : goodWord w = true) : w ∈ lw_good := List.mem_filter.mpr ⟨List.mem_append_right _ (List.mem_of_getElem? h), g⟩
theorem ts_mk {i : Nat} {w : Cond} (h : (k2_sels lw_privs)[i]? = some w) (g : goodWord w = true) : w ∈ lw_good := List.mem_filter.mpr ⟨List.mem_append_left _ (List.mem_of_getElem? h), g⟩
theorem tw_0 : Cond.initialized "KeyCustodyLaw" ∈ lw_good := tw_mk (i := 0) (by decide +kernel) (by decide +kernel)
theorem tw_1 : Cond.initialized "KeyCustody" ∈ lw_good := tw_mk (i := 1) (by decide +kernel) (by decide +kernel)
theorem tw_2 : Cond.initialized "KeyCustody$Group" ∈ lw_good := tw_mk (i := 2) (by decide +kernel) (by decide +kernel)
theorem tw_3 : Cond.initialized "KeyCustody$Board" ∈ lw_good := tw_mk (i := 3) (by decide +kernel) (by decide +kernel)
theorem tw_4 : Cond.initialized "KeyCustody$Week" ∈ lw_good := tw_mk (i := 4) (by decide +kernel) (by decide +kernel)
theorem tw_5 : Cond.initialized "KeyCustodyModel" ∈ lw_good := tw_mk (i := 5) (by decide +kernel) (by decide +kernel)
theorem tw_6 : Cond.initialized "java/lang/Throwable" ∈ lw_good := tw_mk (i := 6) (by decide +kernel) (by decide +kernel)
theorem tw_7 : Cond.initialized "java/lang/Exception" ∈ lw_good := tw_mk (i := 7) (by decide +kernel) (by decide +kernel)
theorem tw_8 : Cond.initialized "java/lang/RuntimeException" ∈ lw_good := tw_mk (i := 8) (by decide +kernel) (by decide +kernel)
theorem tw_9 : Cond.initialized "java/lang/IllegalArgumentException" ∈ lw_good := tw_mk (i := 9) (by decide +kernel) (by decide +kernel)
theorem tw_10 : Cond.initialized "java/util/Arrays" ∈ lw_good := tw_mk (i := 10) (by decide +kernel) (by decide +kernel)
theorem tw_11 : Cond.initialized "java/lang/IllegalStateException" ∈ lw_good := tw_mk (i := 11) (by decide +kernel) (by decide +kernel)
theorem tw_12 : Cond.initialized "java/util/NoSuchElementException" ∈ lw_good := tw_mk (i := 12) (by decide +kernel) (by decide +kernel)
theorem tw_13 : Cond.initialized "java/lang/Integer" ∈ lw_good := tw_mk (i := 13) (by decide +kernel) (by decide +kernel)
theorem tw_14 : Cond.initialized "java/lang/UnsupportedOperationException" ∈ lw_good := tw_mk (i := 14) (by decide +kernel) (by decide +kernel)
theorem tw_15 : Cond.initialized "java/lang/System" ∈ lw_good := tw_mk (i := 15) (by decide +kernel) (by decide +kernel)
theorem tw_16 : Cond.initialized "java/lang/Math" ∈ lw_good := tw_mk (i := 16) (by decide +kernel) (by decide +kernel)
theorem tw_17 : Cond.initialized "java/lang/IndexOutOfBoundsException" ∈ lw_good := tw_mk (i := 17) (by decide +kernel) (by decide +kernel)
theorem tw_18 : Cond.classLink "KeyCustodyLaw" 8 "KeyCustody" ∈ lw_good := tw_mk (i := 18) (by decide +kernel) (by decide +kernel)
theorem tw_19 : Cond.instantiable "KeyCustody" 7 ∈ lw_good := tw_mk (i := 19) (by decide +kernel) (by decide +kernel)
theorem tw_20 : Cond.methodLink "KeyCustodyLaw" 76 y_K_init ∈ lw_good := tw_mk (i := 20) (by decide +kernel) (by decide +kernel)
theorem tw_21 : Cond.instanceMethod y_K_init ∈ lw_good := tw_mk (i := 21) (by decide +kernel) (by decide +kernel)
theorem tw_22 : Cond.code y_K_init b_K_init 1 none ∈ lw_good := tw_mk (i := 22) (by decide +kernel) (by decide +kernel)
theorem tw_23 : Cond.methodLink "KeyCustody" 3 y_JO_init ∈ lw_good := tw_mk (i := 23) (by decide +kernel) (by decide +kernel)
theorem tw_24 : Cond.instanceMethod y_JO_init ∈ lw_good := tw_mk (i := 24) (by decide +kernel) (by decide +kernel)
theorem tw_25 : Cond.code y_JO_init object_method_1_code 1 none ∈ lw_good := tw_mk (i := 25) (by decide +kernel) (by decide +kernel)
theorem tw_26 : Cond.classLink "KeyCustody" 9 "KeyCustody$Group" ∈ lw_good := tw_mk (i := 26) (by decide +kernel) (by decide +kernel)
theorem tw_27 : Cond.instantiable "KeyCustody$Group" 3 ∈ lw_good := tw_mk (i := 27) (by decide +kernel) (by decide +kernel)
theorem tw_29 : Cond.instanceMethod y_G_init ∈ lw_good := tw_mk (i := 29) (by decide +kernel) (by decide +kernel)
theorem tw_30 : Cond.code y_G_init b_G_init 1 none ∈ lw_good := tw_mk (i := 30) (by decide +kernel) (by decide +kernel)
theorem tw_31 : Cond.methodLink "KeyCustody$Group" 3 y_JO_init ∈ lw_good := tw_mk (i := 31) (by decide +kernel) (by decide +kernel)
theorem tw_32 : Cond.fieldLink "KeyCustody$Group" 9 "KeyCustody$Group" "p" "I" ∈ lw_good := tw_mk (i := 32) (by decide +kernel) (by decide +kernel)
theorem tw_33 : Cond.fieldLink "KeyCustody$Group" 15 "KeyCustody$Group" "q" "I" ∈ lw_good := tw_mk (i := 33) (by decide +kernel) (by decide +kernel)
theorem tw_34 : Cond.fieldLink "KeyCustody$Group" 18 "KeyCustody$Group" "g" "I" ∈ lw_good := tw_mk (i := 34) (by decide +kernel) (by decide +kernel)
theorem tw_35 : Cond.lays "KeyCustody$Group" "KeyCustody$Group" "p" "I" ∈ lw_good := tw_mk (i := 35) (by decide +kernel) (by decide +kernel)
theorem tw_36 : Cond.soleField "KeyCustody$Group" "p" ∈ lw_good := tw_mk (i := 36) (by decide +kernel) (by decide +kernel)
theorem tw_37 : Cond.lays "KeyCustody$Group" "KeyCustody$Group" "q" "I" ∈ lw_good := tw_mk (i := 37) (by decide +kernel) (by decide +kernel)
theorem tw_38 : Cond.soleField "KeyCustody$Group" "q" ∈ lw_good := tw_mk (i := 38) (by decide +kernel) (by decide +kernel)
theorem tw_39 : Cond.lays "KeyCustody$Group" "KeyCustody$Group" "g" "I" ∈ lw_good := tw_mk (i := 39) (by decide +kernel) (by decide +kernel)
theorem tw_40 : Cond.soleField "KeyCustody$Group" "g" ∈ lw_good := tw_mk (i := 40) (by decide +kernel) (by decide +kernel)
theorem tw_41 : Cond.superclass "KeyCustody$Group" "java/lang/Object" ∈ lw_good := tw_mk (i := 41) (by decide +kernel) (by decide +kernel)
theorem tw_42 : Cond.classLink "KeyCustody" 16 "KeyCustody$Board" ∈ lw_good := tw_mk (i := 42) (by decide +kernel) (by decide +kernel)
theorem tw_43 : Cond.instantiable "KeyCustody$Board" 2 ∈ lw_good := tw_mk (i := 43) (by decide +kernel) (by decide +kernel)
theorem tw_45 : Cond.instanceMethod y_B_init ∈ lw_good := tw_mk (i := 45) (by decide +kernel) (by decide +kernel)
theorem tw_46 : Cond.code y_B_init b_B_init 1 none ∈ lw_good := tw_mk (i := 46) (by decide +kernel) (by decide +kernel)
theorem tw_47 : Cond.methodLink "KeyCustody$Board" 3 y_JO_init ∈ lw_good := tw_mk (i := 47) (by decide +kernel) (by decide +kernel)
theorem tw_48 : Cond.fieldLink "KeyCustody$Board" 11 "KeyCustody$Board" "cells" "[I" ∈ lw_good := tw_mk (i := 48) (by decide +kernel) (by decide +kernel)
theorem tw_49 : Cond.fieldLink "KeyCustody$Board" 15 "KeyCustody$Board" "size" "I" ∈ lw_good := tw_mk (i := 49) (by decide +kernel) (by decide +kernel)
theorem tw_50 : Cond.laysFinal "KeyCustody$Board" "KeyCustody$Board" "cells" "[I" ∈ lw_good := tw_mk (i := 50) (by decide +kernel) (by decide +kernel)
theorem tw_51 : Cond.soleField "KeyCustody$Board" "cells" ∈ lw_good := tw_mk (i := 51) (by decide +kernel) (by decide +kernel)
theorem tw_52 : Cond.lays "KeyCustody$Board" "KeyCustody$Board" "size" "I" ∈ lw_good := tw_mk (i := 52) (by decide +kernel) (by decide +kernel)
theorem tw_53 : Cond.soleField "KeyCustody$Board" "size" ∈ lw_good := tw_mk (i := 53) (by decide +kernel) (by decide +kernel)
theorem tw_54 : Cond.superclass "KeyCustody$Board" "java/lang/Object" ∈ lw_good := tw_mk (i := 54) (by decide +kernel) (by decide +kernel)
theorem tw_55 : Cond.arrayClass FieldType.int ∈ lw_good := tw_mk (i := 55) (by decide +kernel) (by decide +kernel)
theorem tw_56 : Cond.classLink "KeyCustody" 23 "KeyCustody$Week" ∈ lw_good := tw_mk (i := 56) (by decide +kernel) (by decide +kernel)
theorem tw_57 : Cond.instantiable "KeyCustody$Week" 9 ∈ lw_good := tw_mk (i := 57) (by decide +kernel) (by decide +kernel)
theorem tw_58 : Cond.methodLink "KeyCustody" 25 y_V_init ∈ lw_good := tw_mk (i := 58) (by decide +kernel) (by decide +kernel)
theorem tw_59 : Cond.instanceMethod y_V_init ∈ lw_good := tw_mk (i := 59) (by decide +kernel) (by decide +kernel)
theorem tw_60 : Cond.code y_V_init b_V_init 2 none ∈ lw_good := tw_mk (i := 60) (by decide +kernel) (by decide +kernel)
theorem tw_61 : Cond.methodLink "KeyCustody$Week" 3 y_JO_init ∈ lw_good := tw_mk (i := 61) (by decide +kernel) (by decide +kernel)
theorem tw_62 : Cond.classLink "KeyCustody$Week" 15 "[[I" ∈ lw_good := tw_mk (i := 62) (by decide +kernel) (by decide +kernel)
theorem tw_64 : Cond.fieldLink "KeyCustody$Week" 32 "KeyCustody$Week" "group" "LKeyCustody$Group;" ∈ lw_good := tw_mk (i := 64) (by decide +kernel) (by decide +kernel)
theorem tw_65 : Cond.fieldLink "KeyCustody$Week" 9 "KeyCustody$Week" "kinds" "[I" ∈ lw_good := tw_mk (i := 65) (by decide +kernel) (by decide +kernel)
theorem tw_66 : Cond.fieldLink "KeyCustody$Week" 17 "KeyCustody$Week" "coefficients" "[[I" ∈ lw_good := tw_mk (i := 66) (by decide +kernel) (by decide +kernel)
theorem tw_67 : Cond.fieldLink "KeyCustody$Week" 20 "KeyCustody$Week" "commitments" "[[I" ∈ lw_good := tw_mk (i := 67) (by decide +kernel) (by decide +kernel)
theorem tw_68 : Cond.fieldLink "KeyCustody$Week" 23 "KeyCustody$Week" "had" "[[I" ∈ lw_good := tw_mk (i := 68) (by decide +kernel) (by decide +kernel)
theorem tw_69 : Cond.fieldLink "KeyCustody$Week" 26 "KeyCustody$Week" "complainers" "[I" ∈ lw_good := tw_mk (i := 69) (by decide +kernel) (by decide +kernel)
theorem tw_70 : Cond.fieldLink "KeyCustody$Week" 29 "KeyCustody$Week" "contented" "[I" ∈ lw_good := tw_mk (i := 70) (by decide +kernel) (by decide +kernel)
theorem tw_71 : Cond.fieldLink "KeyCustody$Week" 42 "KeyCustody$Week" "done" "I" ∈ lw_good := tw_mk (i := 71) (by decide +kernel) (by decide +kernel)
theorem tw_72 : Cond.fieldLink "KeyCustody$Week" 46 "KeyCustody$Week" "dealers" "I" ∈ lw_good := tw_mk (i := 72) (by decide +kernel) (by decide +kernel)
theorem tw_73 : Cond.laysFinal "KeyCustody$Week" "KeyCustody$Week" "group" "LKeyCustody$Group;" ∈ lw_good := tw_mk (i := 73) (by decide +kernel) (by decide +kernel)
theorem tw_74 : Cond.soleField "KeyCustody$Week" "group" ∈ lw_good := tw_mk (i := 74) (by decide +kernel) (by decide +kernel)
theorem tw_75 : Cond.laysFinal "KeyCustody$Week" "KeyCustody$Week" "kinds" "[I" ∈ lw_good := tw_mk (i := 75) (by decide +kernel) (by decide +kernel)
theorem tw_76 : Cond.soleField "KeyCustody$Week" "kinds" ∈ lw_good := tw_mk (i := 76) (by decide +kernel) (by decide +kernel)
theorem tw_77 : Cond.laysFinal "KeyCustody$Week" "KeyCustody$Week" "coefficients" "[[I" ∈ lw_good := tw_mk (i := 77) (by decide +kernel) (by decide +kernel)
theorem tw_78 : Cond.soleField "KeyCustody$Week" "coefficients" ∈ lw_good := tw_mk (i := 78) (by decide +kernel) (by decide +kernel)
theorem tw_79 : Cond.laysFinal "KeyCustody$Week" "KeyCustody$Week" "commitments" "[[I" ∈ lw_good := tw_mk (i := 79) (by decide +kernel) (by decide +kernel)
theorem tw_80 : Cond.soleField "KeyCustody$Week" "commitments" ∈ lw_good := tw_mk (i := 80) (by decide +kernel) (by decide +kernel)
theorem tw_81 : Cond.laysFinal "KeyCustody$Week" "KeyCustody$Week" "had" "[[I" ∈ lw_good := tw_mk (i := 81) (by decide +kernel) (by decide +kernel)
theorem tw_82 : Cond.soleField "KeyCustody$Week" "had" ∈ lw_good := tw_mk (i := 82) (by decide +kernel) (by decide +kernel)
theorem tw_83 : Cond.laysFinal "KeyCustody$Week" "KeyCustody$Week" "complainers" "[I" ∈ lw_good := tw_mk (i := 83) (by decide +kernel) (by decide +kernel)
theorem tw_84 : Cond.soleField "KeyCustody$Week" "complainers" ∈ lw_good := tw_mk (i := 84) (by decide +kernel) (by decide +kernel)
theorem tw_85 : Cond.laysFinal "KeyCustody$Week" "KeyCustody$Week" "contented" "[I" ∈ lw_good := tw_mk (i := 85) (by decide +kernel) (by decide +kernel)
theorem tw_86 : Cond.soleField "KeyCustody$Week" "contented" ∈ lw_good := tw_mk (i := 86) (by decide +kernel) (by decide +kernel)
theorem tw_87 : Cond.lays "KeyCustody$Week" "KeyCustody$Week" "done" "I" ∈ lw_good := tw_mk (i := 87) (by decide +kernel) (by decide +kernel)
theorem tw_88 : Cond.soleField "KeyCustody$Week" "done" ∈ lw_good := tw_mk (i := 88) (by decide +kernel) (by decide +kernel)
theorem tw_89 : Cond.lays "KeyCustody$Week" "KeyCustody$Week" "dealers" "I" ∈ lw_good := tw_mk (i := 89) (by decide +kernel) (by decide +kernel)
theorem tw_90 : Cond.soleField "KeyCustody$Week" "dealers" ∈ lw_good := tw_mk (i := 90) (by decide +kernel) (by decide +kernel)
theorem tw_91 : Cond.superclass "KeyCustody$Week" "java/lang/Object" ∈ lw_good := tw_mk (i := 91) (by decide +kernel) (by decide +kernel)
theorem tw_92 : Cond.fieldLink "KeyCustody" 12 "KeyCustody" "group" "LKeyCustody$Group;" ∈ lw_good := tw_mk (i := 92) (by decide +kernel) (by decide +kernel)
theorem tw_93 : Cond.fieldLink "KeyCustody" 19 "KeyCustody" "board" "LKeyCustody$Board;" ∈ lw_good := tw_mk (i := 93) (by decide +kernel) (by decide +kernel)
theorem tw_94 : Cond.fieldLink "KeyCustody" 28 "KeyCustody" "week" "LKeyCustody$Week;" ∈ lw_good := tw_mk (i := 94) (by decide +kernel) (by decide +kernel)
theorem tw_95 : Cond.fieldLink "KeyCustody" 32 "KeyCustody" "shares" "[I" ∈ lw_good := tw_mk (i := 95) (by decide +kernel) (by decide +kernel)
theorem tw_96 : Cond.fieldLink "KeyCustody" 36 "KeyCustody" "sums" "[I" ∈ lw_good := tw_mk (i := 96) (by decide +kernel) (by decide +kernel)
theorem tw_97 : Cond.fieldLink "KeyCustody" 39 "KeyCustody" "founding" "[I" ∈ lw_good := tw_mk (i := 97) (by decide +kernel) (by decide +kernel)
theorem tw_98 : Cond.fieldLink "KeyCustody" 42 "KeyCustody" "weekNumber" "I" ∈ lw_good := tw_mk (i := 98) (by decide +kernel) (by decide +kernel)
theorem tw_99 : Cond.laysFinal "KeyCustody" "KeyCustody" "group" "LKeyCustody$Group;" ∈ lw_good := tw_mk (i := 99) (by decide +kernel) (by decide +kernel)
theorem tw_100 : Cond.soleField "KeyCustody" "group" ∈ lw_good := tw_mk (i := 100) (by decide +kernel) (by decide +kernel)
theorem tw_101 : Cond.laysFinal "KeyCustody" "KeyCustody" "board" "LKeyCustody$Board;" ∈ lw_good := tw_mk (i := 101) (by decide +kernel) (by decide +kernel)
theorem tw_102 : Cond.soleField "KeyCustody" "board" ∈ lw_good := tw_mk (i := 102) (by decide +kernel) (by decide +kernel)
theorem tw_103 : Cond.laysFinal "KeyCustody" "KeyCustody" "week" "LKeyCustody$Week;" ∈ lw_good := tw_mk (i := 103) (by decide +kernel) (by decide +kernel)
theorem tw_104 : Cond.soleField "KeyCustody" "week" ∈ lw_good := tw_mk (i := 104) (by decide +kernel) (by decide +kernel)
theorem tw_105 : Cond.laysFinal "KeyCustody" "KeyCustody" "shares" "[I" ∈ lw_good := tw_mk (i := 105) (by decide +kernel) (by decide +kernel)
theorem tw_106 : Cond.soleField "KeyCustody" "shares" ∈ lw_good := tw_mk (i := 106) (by decide +kernel) (by decide +kernel)
theorem tw_107 : Cond.laysFinal "KeyCustody" "KeyCustody" "sums" "[I" ∈ lw_good := tw_mk (i := 107) (by decide +kernel) (by decide +kernel)
theorem tw_108 : Cond.soleField "KeyCustody" "sums" ∈ lw_good := tw_mk (i := 108) (by decide +kernel) (by decide +kernel)
theorem tw_109 : Cond.laysFinal "KeyCustody" "KeyCustody" "founding" "[I" ∈ lw_good := tw_mk (i := 109) (by decide +kernel) (by decide +kernel)
theorem tw_110 : Cond.soleField "KeyCustody" "founding" ∈ lw_good := tw_mk (i := 110) (by decide +kernel) (by decide +kernel)
theorem tw_111 : Cond.lays "KeyCustody" "KeyCustody" "weekNumber" "I" ∈ lw_good := tw_mk (i := 111) (by decide +kernel) (by decide +kernel)
theorem tw_112 : Cond.soleField "KeyCustody" "weekNumber" ∈ lw_good := tw_mk (i := 112) (by decide +kernel) (by decide +kernel)
theorem tw_113 : Cond.superclass "KeyCustody" "java/lang/Object" ∈ lw_good := tw_mk (i := 113) (by decide +kernel) (by decide +kernel)
theorem tw_114 : Cond.methodLink "KeyCustodyLaw" 80 y_L_group ∈ lw_good := tw_mk (i := 114) (by decide +kernel) (by decide +kernel)
theorem tw_115 : Cond.static y_L_group ∈ lw_good := tw_mk (i := 115) (by decide +kernel) (by decide +kernel)
theorem tw_116 : Cond.codeWith y_L_group b_L_group 5 (some FieldType.int) [(0, 7, 10, 13)] ∈ lw_good := tw_mk (i := 116) (by decide +kernel) (by decide +kernel)
theorem tw_117 : Cond.classLink "KeyCustodyLaw" 13 "java/lang/IllegalArgumentException" ∈ lw_good := tw_mk (i := 117) (by decide +kernel) (by decide +kernel)
theorem tw_118 : Cond.methodLink "KeyCustodyLaw" 7 y_K_group ∈ lw_good := tw_mk (i := 118) (by decide +kernel) (by decide +kernel)
theorem tw_119 : Cond.instanceMethod y_K_group ∈ lw_good := tw_mk (i := 119) (by decide +kernel) (by decide +kernel)
theorem tw_120 : Cond.selects "KeyCustody" y_K_group y_K_group ∈ lw_good := tw_mk (i := 120) (by decide +kernel) (by decide +kernel)
theorem tw_121 : Cond.code y_K_group b_K_group 4 none ∈ lw_good := tw_mk (i := 121) (by decide +kernel) (by decide +kernel)
theorem tw_122 : Cond.methodLink "KeyCustody" 46 y_G_isGroup ∈ lw_good := tw_mk (i := 122) (by decide +kernel) (by decide +kernel)
theorem tw_123 : Cond.static y_G_isGroup ∈ lw_good := tw_mk (i := 123) (by decide +kernel) (by decide +kernel)
theorem tw_124 : Cond.code y_G_isGroup b_G_isGroup 3 (some FieldType.boolean) ∈ lw_good := tw_mk (i := 124) (by decide +kernel) (by decide +kernel)
theorem tw_125 : Cond.methodLink "KeyCustody$Group" 21 y_G_power ∈ lw_good := tw_mk (i := 125) (by decide +kernel) (by decide +kernel)
theorem tw_126 : Cond.static y_G_power ∈ lw_good := tw_mk (i := 126) (by decide +kernel) (by decide +kernel)
theorem tw_127 : Cond.code y_G_power b_G_power 8 (some FieldType.int) ∈ lw_good := tw_mk (i := 127) (by decide +kernel) (by decide +kernel)
theorem tw_128 : Cond.methodLink "KeyCustody$Group" 25 y_G_isPrime ∈ lw_good := tw_mk (i := 128) (by decide +kernel) (by decide +kernel)
theorem tw_129 : Cond.static y_G_isPrime ∈ lw_good := tw_mk (i := 129) (by decide +kernel) (by decide +kernel)
theorem tw_130 : Cond.code y_G_isPrime b_G_isPrime 2 (some FieldType.boolean) ∈ lw_good := tw_mk (i := 130) (by decide +kernel) (by decide +kernel)
theorem tw_131 : Cond.classLink "KeyCustody" 50 "java/lang/IllegalArgumentException" ∈ lw_good := tw_mk (i := 131) (by decide +kernel) (by decide +kernel)
theorem tw_132 : Cond.instantiable "java/lang/IllegalArgumentException" 6 ∈ lw_good := tw_mk (i := 132) (by decide +kernel) (by decide +kernel)
theorem tw_140 : Cond.selects "java/lang/IllegalArgumentException" y_JT_fillInStackTrace_ILT y_JT_fillInStackTrace_ILT ∈ lw_good := tw_mk (i := 140) (by decide +kernel) (by decide +kernel)
theorem tw_141 : Cond.selects "java/lang/IllegalArgumentException" y_JT_fillInStackTrace y_JT_fillInStackTrace ∈ lw_good := tw_mk (i := 141) (by decide +kernel) (by decide +kernel)
theorem tw_142 : Cond.lays "java/lang/IllegalArgumentException" "java/lang/Throwable" "cause" "Ljava/lang/Throwable;" ∈ lw_good := tw_mk (i := 142) (by decide +kernel) (by decide +kernel)
theorem tw_143 : Cond.lays "java/lang/Throwable" "java/lang/Throwable" "cause" "Ljava/lang/Throwable;" ∈ lw_good := tw_mk (i := 143) (by decide +kernel) (by decide +kernel)
theorem tw_144 : Cond.lays "java/lang/IllegalArgumentException" "java/lang/Throwable" "stackTrace" "[Ljava/lang/StackTraceElement;" ∈ lw_good := tw_mk (i := 144) (by decide +kernel) (by decide +kernel)
theorem tw_145 : Cond.lays "java/lang/Throwable" "java/lang/Throwable" "stackTrace" "[Ljava/lang/StackTraceElement;" ∈ lw_good := tw_mk (i := 145) (by decide +kernel) (by decide +kernel)
theorem tw_146 : Cond.lays "java/lang/IllegalArgumentException" "java/lang/Throwable" "suppressedExceptions" "Ljava/util/List;" ∈ lw_good := tw_mk (i := 146) (by decide +kernel) (by decide +kernel)
theorem tw_147 : Cond.lays "java/lang/Throwable" "java/lang/Throwable" "suppressedExceptions" "Ljava/util/List;" ∈ lw_good := tw_mk (i := 147) (by decide +kernel) (by decide +kernel)
theorem tw_148 : Cond.lays "java/lang/IllegalArgumentException" "java/lang/Throwable" "detailMessage" "Ljava/lang/String;" ∈ lw_good := tw_mk (i := 148) (by decide +kernel) (by decide +kernel)
theorem tw_149 : Cond.lays "java/lang/Throwable" "java/lang/Throwable" "detailMessage" "Ljava/lang/String;" ∈ lw_good := tw_mk (i := 149) (by decide +kernel) (by decide +kernel)
theorem tw_150 : Cond.lays "java/lang/IllegalArgumentException" "java/lang/Throwable" "backtrace" "Ljava/lang/Object;" ∈ lw_good := tw_mk (i := 150) (by decide +kernel) (by decide +kernel)
theorem tw_151 : Cond.lays "java/lang/Throwable" "java/lang/Throwable" "backtrace" "Ljava/lang/Object;" ∈ lw_good := tw_mk (i := 151) (by decide +kernel) (by decide +kernel)
theorem tw_152 : Cond.fieldLink "java/lang/Throwable" 198 "java/lang/Throwable" "backtrace" "Ljava/lang/Object;" ∈ lw_good := tw_mk (i := 152) (by decide +kernel) (by decide +kernel)
theorem tw_153 : Cond.superclass "java/lang/Throwable" "java/lang/Object" ∈ lw_good := tw_mk (i := 153) (by decide +kernel) (by decide +kernel)
theorem tw_154 : Cond.instanceMethod y_JT_init ∈ lw_good := tw_mk (i := 154) (by decide +kernel) (by decide +kernel)
theorem tw_155 : Cond.code y_JT_init b_JT_init 1 none ∈ lw_good := tw_mk (i := 155) (by decide +kernel) (by decide +kernel)
theorem tw_156 : Cond.methodLink "java/lang/Throwable" 1 y_JO_init ∈ lw_good := tw_mk (i := 156) (by decide +kernel) (by decide +kernel)
theorem tw_157 : Cond.fieldLink "java/lang/Throwable" 13 "java/lang/Throwable" "UNASSIGNED_STACK" "[Ljava/lang/StackTraceElement;" ∈ lw_good := tw_mk (i := 157) (by decide +kernel) (by decide +kernel)
theorem tw_159 : Cond.fieldLink "java/lang/Throwable" 20 "java/lang/Throwable" "SUPPRESSED_SENTINEL" "Ljava/util/List;" ∈ lw_good := tw_mk (i := 159) (by decide +kernel) (by decide +kernel)
theorem tw_161 : Cond.methodLink "java/lang/Throwable" 27 y_JT_fillInStackTrace ∈ lw_good := tw_mk (i := 161) (by decide +kernel) (by decide +kernel)
theorem tw_162 : Cond.instanceMethod y_JT_fillInStackTrace ∈ lw_good := tw_mk (i := 162) (by decide +kernel) (by decide +kernel)
theorem tw_163 : Cond.sameMethod "java/lang/Throwable" "java/lang/Throwable" "fillInStackTrace" "()Ljava/lang/Throwable;" ∈ lw_good := tw_mk (i := 163) (by decide +kernel) (by decide +kernel)
theorem tw_164 : Cond.selects "java/lang/IllegalStateException" y_JT_fillInStackTrace y_JT_fillInStackTrace ∈ lw_good := tw_mk (i := 164) (by decide +kernel) (by decide +kernel)
theorem tw_165 : Cond.selects "java/lang/IndexOutOfBoundsException" y_JT_fillInStackTrace y_JT_fillInStackTrace ∈ lw_good := tw_mk (i := 165) (by decide +kernel) (by decide +kernel)
theorem tw_166 : Cond.selects "java/lang/UnsupportedOperationException" y_JT_fillInStackTrace y_JT_fillInStackTrace ∈ lw_good := tw_mk (i := 166) (by decide +kernel) (by decide +kernel)
theorem tw_167 : Cond.selects "java/util/NoSuchElementException" y_JT_fillInStackTrace y_JT_fillInStackTrace ∈ lw_good := tw_mk (i := 167) (by decide +kernel) (by decide +kernel)
theorem tw_168 : Cond.codeSync y_JT_fillInStackTrace b_JT_fillInStackTrace 1 (some (FieldType.object "java/lang/Throwable")) ∈ lw_good := tw_mk (i := 168) (by decide +kernel) (by decide +kernel)
theorem tw_169 : Cond.methodLink "java/lang/Throwable" 202 y_JT_fillInStackTrace_ILT ∈ lw_good := tw_mk (i := 169) (by decide +kernel) (by decide +kernel)
theorem tw_171 : Cond.instanceMethod y_JT_fillInStackTrace_ILT ∈ lw_good := tw_mk (i := 171) (by decide +kernel) (by decide +kernel)
theorem tw_172 : Cond.instantiable "java/lang/Throwable" 6 ∈ lw_good := tw_mk (i := 172) (by decide +kernel) (by decide +kernel)
theorem tw_173 : Cond.native y_JT_fillInStackTrace_ILT ∈ lw_good := tw_mk (i := 173) (by decide +kernel) (by decide +kernel)
theorem tw_174 : Cond.methodLink "KeyCustody" 52 y_XA_init ∈ lw_good := tw_mk (i := 174) (by decide +kernel) (by decide +kernel)
theorem tw_175 : Cond.instanceMethod y_XA_init ∈ lw_good := tw_mk (i := 175) (by decide +kernel) (by decide +kernel)
theorem tw_176 : Cond.code y_XA_init b_XA_init 1 none ∈ lw_good := tw_mk (i := 176) (by decide +kernel) (by decide +kernel)
theorem tw_177 : Cond.methodLink "java/lang/IllegalArgumentException" 1 y_JR_init ∈ lw_good := tw_mk (i := 177) (by decide +kernel) (by decide +kernel)
theorem tw_178 : Cond.instanceMethod y_JR_init ∈ lw_good := tw_mk (i := 178) (by decide +kernel) (by decide +kernel)
theorem tw_179 : Cond.code y_JR_init b_JR_init 1 none ∈ lw_good := tw_mk (i := 179) (by decide +kernel) (by decide +kernel)
theorem tw_180 : Cond.methodLink "java/lang/RuntimeException" 1 y_JE_init ∈ lw_good := tw_mk (i := 180) (by decide +kernel) (by decide +kernel)
theorem tw_181 : Cond.instanceMethod y_JE_init ∈ lw_good := tw_mk (i := 181) (by decide +kernel) (by decide +kernel)
theorem tw_182 : Cond.code y_JE_init b_JE_init 1 none ∈ lw_good := tw_mk (i := 182) (by decide +kernel) (by decide +kernel)
theorem tw_183 : Cond.methodLink "java/lang/Exception" 1 y_JT_init ∈ lw_good := tw_mk (i := 183) (by decide +kernel) (by decide +kernel)
theorem tw_184 : Cond.fieldLink "java/lang/Throwable" 198 "java/lang/Throwable" "backtrace" "Ljava/lang/Object;" ∈ lw_good := tw_mk (i := 184) (by decide +kernel) (by decide +kernel)
theorem tw_185 : Cond.fieldLink "java/lang/Throwable" 7 "java/lang/Throwable" "cause" "Ljava/lang/Throwable;" ∈ lw_good := tw_mk (i := 185) (by decide +kernel) (by decide +kernel)
theorem tw_186 : Cond.fieldLink "java/lang/Throwable" 17 "java/lang/Throwable" "stackTrace" "[Ljava/lang/StackTraceElement;" ∈ lw_good := tw_mk (i := 186) (by decide +kernel) (by decide +kernel)
theorem tw_187 : Cond.fieldLink "java/lang/Throwable" 24 "java/lang/Throwable" "suppressedExceptions" "Ljava/util/List;" ∈ lw_good := tw_mk (i := 187) (by decide +kernel) (by decide +kernel)
theorem tw_188 : Cond.soleField "java/lang/Throwable" "backtrace" ∈ lw_good := tw_mk (i := 188) (by decide +kernel) (by decide +kernel)
theorem tw_189 : Cond.soleField "java/lang/Throwable" "detailMessage" ∈ lw_good := tw_mk (i := 189) (by decide +kernel) (by decide +kernel)
theorem tw_190 : Cond.soleField "java/lang/Throwable" "cause" ∈ lw_good := tw_mk (i := 190) (by decide +kernel) (by decide +kernel)
theorem tw_191 : Cond.soleField "java/lang/Throwable" "stackTrace" ∈ lw_good := tw_mk (i := 191) (by decide +kernel) (by decide +kernel)
theorem tw_192 : Cond.lays "java/lang/IllegalArgumentException" "java/lang/Throwable" "depth" "I" ∈ lw_good := tw_mk (i := 192) (by decide +kernel) (by decide +kernel)
theorem tw_193 : Cond.soleField "java/lang/Throwable" "depth" ∈ lw_good := tw_mk (i := 193) (by decide +kernel) (by decide +kernel)
theorem tw_194 : Cond.soleField "java/lang/Throwable" "suppressedExceptions" ∈ lw_good := tw_mk (i := 194) (by decide +kernel) (by decide +kernel)
theorem tw_195 : Cond.superclass "java/lang/IllegalArgumentException" "java/lang/RuntimeException" ∈ lw_good := tw_mk (i := 195) (by decide +kernel) (by decide +kernel)
theorem tw_196 : Cond.methodLink "KeyCustody" 53 y_G_become ∈ lw_good := tw_mk (i := 196) (by decide +kernel) (by decide +kernel)
theorem tw_197 : Cond.instanceMethod y_G_become ∈ lw_good := tw_mk (i := 197) (by decide +kernel) (by decide +kernel)
theorem tw_198 : Cond.selects "KeyCustody$Group" y_G_become y_G_become ∈ lw_good := tw_mk (i := 198) (by decide +kernel) (by decide +kernel)
theorem tw_199 : Cond.code y_G_become b_G_become 4 none ∈ lw_good := tw_mk (i := 199) (by decide +kernel) (by decide +kernel)
theorem tw_200 : Cond.methodLink "KeyCustody" 57 y_B_empty ∈ lw_good := tw_mk (i := 200) (by decide +kernel) (by decide +kernel)
theorem tw_201 : Cond.instanceMethod y_B_empty ∈ lw_good := tw_mk (i := 201) (by decide +kernel) (by decide +kernel)
theorem tw_202 : Cond.selects "KeyCustody$Board" y_B_empty y_B_empty ∈ lw_good := tw_mk (i := 202) (by decide +kernel) (by decide +kernel)
theorem tw_203 : Cond.code y_B_empty b_B_empty 1 none ∈ lw_good := tw_mk (i := 203) (by decide +kernel) (by decide +kernel)
theorem tw_204 : Cond.methodLink "KeyCustody" 60 y_V_begin ∈ lw_good := tw_mk (i := 204) (by decide +kernel) (by decide +kernel)
theorem tw_205 : Cond.instanceMethod y_V_begin ∈ lw_good := tw_mk (i := 205) (by decide +kernel) (by decide +kernel)
theorem tw_206 : Cond.selects "KeyCustody$Week" y_V_begin y_V_begin ∈ lw_good := tw_mk (i := 206) (by decide +kernel) (by decide +kernel)
theorem tw_207 : Cond.code y_V_begin b_V_begin 1 none ∈ lw_good := tw_mk (i := 207) (by decide +kernel) (by decide +kernel)
theorem tw_208 : Cond.methodLink "KeyCustody$Week" 36 y_JA_fill ∈ lw_good := tw_mk (i := 208) (by decide +kernel) (by decide +kernel)
theorem tw_209 : Cond.static y_JA_fill ∈ lw_good := tw_mk (i := 209) (by decide +kernel) (by decide +kernel)
theorem tw_210 : Cond.code y_JA_fill b_JA_fill 4 none ∈ lw_good := tw_mk (i := 210) (by decide +kernel) (by decide +kernel)
theorem tw_211 : Cond.methodLink "KeyCustody" 63 y_JA_fill ∈ lw_good := tw_mk (i := 211) (by decide +kernel) (by decide +kernel)
theorem tw_212 : Cond.methodLink "KeyCustodyLaw" 89 y_L_found ∈ lw_good := tw_mk (i := 212) (by decide +kernel) (by decide +kernel)
theorem tw_213 : Cond.static y_L_found ∈ lw_good := tw_mk (i := 213) (by decide +kernel) (by decide +kernel)
theorem tw_214 : Cond.codeWith y_L_found b_L_found 6 (some FieldType.int) [(0, 9, 12, 19), (0, 9, 16, 13)] ∈ lw_good := tw_mk (i := 214) (by decide +kernel) (by decide +kernel)
theorem tw_215 : Cond.classLink "KeyCustodyLaw" 19 "java/lang/IllegalStateException" ∈ lw_good := tw_mk (i := 215) (by decide +kernel) (by decide +kernel)
theorem tw_216 : Cond.methodLink "KeyCustodyLaw" 15 y_K_found ∈ lw_good := tw_mk (i := 216) (by decide +kernel) (by decide +kernel)
theorem tw_217 : Cond.instanceMethod y_K_found ∈ lw_good := tw_mk (i := 217) (by decide +kernel) (by decide +kernel)
theorem tw_218 : Cond.selects "KeyCustody" y_K_found y_K_found ∈ lw_good := tw_mk (i := 218) (by decide +kernel) (by decide +kernel)
theorem tw_219 : Cond.code y_K_found b_K_found 6 none ∈ lw_good := tw_mk (i := 219) (by decide +kernel) (by decide +kernel)
theorem tw_220 : Cond.methodLink "KeyCustody" 69 y_G_stands ∈ lw_good := tw_mk (i := 220) (by decide +kernel) (by decide +kernel)
theorem tw_221 : Cond.instanceMethod y_G_stands ∈ lw_good := tw_mk (i := 221) (by decide +kernel) (by decide +kernel)
theorem tw_222 : Cond.selects "KeyCustody$Group" y_G_stands y_G_stands ∈ lw_good := tw_mk (i := 222) (by decide +kernel) (by decide +kernel)
theorem tw_223 : Cond.code y_G_stands b_G_stands 1 (some FieldType.boolean) ∈ lw_good := tw_mk (i := 223) (by decide +kernel) (by decide +kernel)
theorem tw_224 : Cond.classLink "KeyCustody" 73 "java/lang/IllegalStateException" ∈ lw_good := tw_mk (i := 224) (by decide +kernel) (by decide +kernel)
theorem tw_225 : Cond.instantiable "java/lang/IllegalStateException" 6 ∈ lw_good := tw_mk (i := 225) (by decide +kernel) (by decide +kernel)
theorem tw_227 : Cond.selects "java/lang/IllegalStateException" y_JT_fillInStackTrace_ILT y_JT_fillInStackTrace_ILT ∈ lw_good := tw_mk (i := 227) (by decide +kernel) (by decide +kernel)
theorem tw_228 : Cond.lays "java/lang/IllegalStateException" "java/lang/Throwable" "cause" "Ljava/lang/Throwable;" ∈ lw_good := tw_mk (i := 228) (by decide +kernel) (by decide +kernel)
theorem tw_229 : Cond.lays "java/lang/IllegalStateException" "java/lang/Throwable" "stackTrace" "[Ljava/lang/StackTraceElement;" ∈ lw_good := tw_mk (i := 229) (by decide +kernel) (by decide +kernel)
theorem tw_230 : Cond.lays "java/lang/IllegalStateException" "java/lang/Throwable" "suppressedExceptions" "Ljava/util/List;" ∈ lw_good := tw_mk (i := 230) (by decide +kernel) (by decide +kernel)
theorem tw_231 : Cond.lays "java/lang/IllegalStateException" "java/lang/Throwable" "detailMessage" "Ljava/lang/String;" ∈ lw_good := tw_mk (i := 231) (by decide +kernel) (by decide +kernel)
theorem tw_232 : Cond.lays "java/lang/IllegalStateException" "java/lang/Throwable" "backtrace" "Ljava/lang/Object;" ∈ lw_good := tw_mk (i := 232) (by decide +kernel) (by decide +kernel)
theorem tw_233 : Cond.methodLink "KeyCustody" 75 y_XS_init ∈ lw_good := tw_mk (i := 233) (by decide +kernel) (by decide +kernel)
theorem tw_234 : Cond.instanceMethod y_XS_init ∈ lw_good := tw_mk (i := 234) (by decide +kernel) (by decide +kernel)
theorem tw_235 : Cond.code y_XS_init b_XS_init 1 none ∈ lw_good := tw_mk (i := 235) (by decide +kernel) (by decide +kernel)
theorem tw_236 : Cond.methodLink "java/lang/IllegalStateException" 1 y_JR_init ∈ lw_good := tw_mk (i := 236) (by decide +kernel) (by decide +kernel)
theorem tw_237 : Cond.lays "java/lang/IllegalStateException" "java/lang/Throwable" "depth" "I" ∈ lw_good := tw_mk (i := 237) (by decide +kernel) (by decide +kernel)
theorem tw_238 : Cond.superclass "java/lang/IllegalStateException" "java/lang/RuntimeException" ∈ lw_good := tw_mk (i := 238) (by decide +kernel) (by decide +kernel)
theorem tw_239 : Cond.methodLink "KeyCustody" 76 y_G_isNumber ∈ lw_good := tw_mk (i := 239) (by decide +kernel) (by decide +kernel)
theorem tw_240 : Cond.instanceMethod y_G_isNumber ∈ lw_good := tw_mk (i := 240) (by decide +kernel) (by decide +kernel)
theorem tw_241 : Cond.selects "KeyCustody$Group" y_G_isNumber y_G_isNumber ∈ lw_good := tw_mk (i := 241) (by decide +kernel) (by decide +kernel)
theorem tw_242 : Cond.code y_G_isNumber b_G_isNumber 2 (some FieldType.boolean) ∈ lw_good := tw_mk (i := 242) (by decide +kernel) (by decide +kernel)
theorem tw_243 : Cond.methodLink "KeyCustody" 80 y_G_areNumbers ∈ lw_good := tw_mk (i := 243) (by decide +kernel) (by decide +kernel)
theorem tw_244 : Cond.instanceMethod y_G_areNumbers ∈ lw_good := tw_mk (i := 244) (by decide +kernel) (by decide +kernel)
theorem tw_245 : Cond.selects "KeyCustody$Group" y_G_areNumbers y_G_areNumbers ∈ lw_good := tw_mk (i := 245) (by decide +kernel) (by decide +kernel)
theorem tw_246 : Cond.code y_G_areNumbers b_G_areNumbers 4 (some FieldType.boolean) ∈ lw_good := tw_mk (i := 246) (by decide +kernel) (by decide +kernel)
theorem tw_247 : Cond.methodLink "KeyCustody$Group" 29 y_G_isNumber ∈ lw_good := tw_mk (i := 247) (by decide +kernel) (by decide +kernel)
theorem tw_248 : Cond.methodLink "KeyCustody" 83 y_K_writeRow ∈ lw_good := tw_mk (i := 248) (by decide +kernel) (by decide +kernel)
theorem tw_249 : Cond.static y_K_writeRow ∈ lw_good := tw_mk (i := 249) (by decide +kernel) (by decide +kernel)
theorem tw_250 : Cond.code y_K_writeRow b_K_writeRow 5 none ∈ lw_good := tw_mk (i := 250) (by decide +kernel) (by decide +kernel)
theorem tw_251 : Cond.methodLink "KeyCustody" 87 y_G_commitTo ∈ lw_good := tw_mk (i := 251) (by decide +kernel) (by decide +kernel)
theorem tw_252 : Cond.instanceMethod y_G_commitTo ∈ lw_good := tw_mk (i := 252) (by decide +kernel) (by decide +kernel)
theorem tw_253 : Cond.selects "KeyCustody$Group" y_G_commitTo y_G_commitTo ∈ lw_good := tw_mk (i := 253) (by decide +kernel) (by decide +kernel)
theorem tw_254 : Cond.code y_G_commitTo b_G_commitTo 4 none ∈ lw_good := tw_mk (i := 254) (by decide +kernel) (by decide +kernel)
theorem tw_255 : Cond.methodLink "KeyCustody" 91 y_G_valueAt ∈ lw_good := tw_mk (i := 255) (by decide +kernel) (by decide +kernel)
theorem tw_256 : Cond.instanceMethod y_G_valueAt ∈ lw_good := tw_mk (i := 256) (by decide +kernel) (by decide +kernel)
theorem tw_257 : Cond.selects "KeyCustody$Group" y_G_valueAt y_G_valueAt ∈ lw_good := tw_mk (i := 257) (by decide +kernel) (by decide +kernel)
theorem tw_258 : Cond.code y_G_valueAt b_G_valueAt 5 (some FieldType.int) ∈ lw_good := tw_mk (i := 258) (by decide +kernel) (by decide +kernel)
theorem tw_259 : Cond.methodLink "KeyCustody$Group" 32 y_G_multiplyNumbers ∈ lw_good := tw_mk (i := 259) (by decide +kernel) (by decide +kernel)
theorem tw_261 : Cond.instanceMethod y_G_multiplyNumbers ∈ lw_good := tw_mk (i := 261) (by decide +kernel) (by decide +kernel)
theorem tw_262 : Cond.code y_G_multiplyNumbers b_G_multiplyNumbers 3 (some FieldType.int) ∈ lw_good := tw_mk (i := 262) (by decide +kernel) (by decide +kernel)
theorem tw_263 : Cond.methodLink "KeyCustody$Group" 36 y_G_addNumbers ∈ lw_good := tw_mk (i := 263) (by decide +kernel) (by decide +kernel)
theorem tw_264 : Cond.instanceMethod y_G_addNumbers ∈ lw_good := tw_mk (i := 264) (by decide +kernel) (by decide +kernel)
theorem tw_265 : Cond.selects "KeyCustody$Group" y_G_addNumbers y_G_addNumbers ∈ lw_good := tw_mk (i := 265) (by decide +kernel) (by decide +kernel)
theorem tw_266 : Cond.code y_G_addNumbers b_G_addNumbers 3 (some FieldType.int) ∈ lw_good := tw_mk (i := 266) (by decide +kernel) (by decide +kernel)
theorem tw_267 : Cond.methodLink "KeyCustodyLaw" 93 y_L_fault ∈ lw_good := tw_mk (i := 267) (by decide +kernel) (by decide +kernel)
theorem tw_268 : Cond.static y_L_fault ∈ lw_good := tw_mk (i := 268) (by decide +kernel) (by decide +kernel)
theorem tw_269 : Cond.codeWith y_L_fault b_L_fault 4 (some FieldType.int) [(0, 6, 9, 19), (0, 6, 12, 25), (0, 6, 15, 13), (0, 6, 18, 27)] ∈ lw_good := tw_mk (i := 269) (by decide +kernel) (by decide +kernel)
theorem tw_270 : Cond.classLink "KeyCustodyLaw" 25 "java/util/NoSuchElementException" ∈ lw_good := tw_mk (i := 270) (by decide +kernel) (by decide +kernel)
theorem tw_271 : Cond.classLink "KeyCustodyLaw" 27 "java/lang/UnsupportedOperationException" ∈ lw_good := tw_mk (i := 271) (by decide +kernel) (by decide +kernel)
theorem tw_272 : Cond.methodLink "KeyCustodyLaw" 21 y_K_fault ∈ lw_good := tw_mk (i := 272) (by decide +kernel) (by decide +kernel)
theorem tw_273 : Cond.instanceMethod y_K_fault ∈ lw_good := tw_mk (i := 273) (by decide +kernel) (by decide +kernel)
theorem tw_274 : Cond.selects "KeyCustody" y_K_fault y_K_fault ∈ lw_good := tw_mk (i := 274) (by decide +kernel) (by decide +kernel)
theorem tw_275 : Cond.code y_K_fault b_K_fault 3 none ∈ lw_good := tw_mk (i := 275) (by decide +kernel) (by decide +kernel)
theorem tw_276 : Cond.methodLink "KeyCustody" 95 y_K_requireFounded ∈ lw_good := tw_mk (i := 276) (by decide +kernel) (by decide +kernel)
theorem tw_278 : Cond.instanceMethod y_K_requireFounded ∈ lw_good := tw_mk (i := 278) (by decide +kernel) (by decide +kernel)
theorem tw_279 : Cond.code y_K_requireFounded b_K_requireFounded 1 none ∈ lw_good := tw_mk (i := 279) (by decide +kernel) (by decide +kernel)
theorem tw_280 : Cond.methodLink "KeyCustody" 98 y_K_requireSeat ∈ lw_good := tw_mk (i := 280) (by decide +kernel) (by decide +kernel)
theorem tw_281 : Cond.static y_K_requireSeat ∈ lw_good := tw_mk (i := 281) (by decide +kernel) (by decide +kernel)
theorem tw_282 : Cond.code y_K_requireSeat b_K_requireSeat 1 none ∈ lw_good := tw_mk (i := 282) (by decide +kernel) (by decide +kernel)
theorem tw_283 : Cond.classLink "KeyCustody" 213 "java/util/NoSuchElementException" ∈ lw_good := tw_mk (i := 283) (by decide +kernel) (by decide +kernel)
theorem tw_284 : Cond.instantiable "java/util/NoSuchElementException" 6 ∈ lw_good := tw_mk (i := 284) (by decide +kernel) (by decide +kernel)
theorem tw_286 : Cond.selects "java/util/NoSuchElementException" y_JT_fillInStackTrace_ILT y_JT_fillInStackTrace_ILT ∈ lw_good := tw_mk (i := 286) (by decide +kernel) (by decide +kernel)
theorem tw_287 : Cond.lays "java/util/NoSuchElementException" "java/lang/Throwable" "cause" "Ljava/lang/Throwable;" ∈ lw_good := tw_mk (i := 287) (by decide +kernel) (by decide +kernel)
theorem tw_288 : Cond.lays "java/util/NoSuchElementException" "java/lang/Throwable" "stackTrace" "[Ljava/lang/StackTraceElement;" ∈ lw_good := tw_mk (i := 288) (by decide +kernel) (by decide +kernel)
theorem tw_289 : Cond.lays "java/util/NoSuchElementException" "java/lang/Throwable" "suppressedExceptions" "Ljava/util/List;" ∈ lw_good := tw_mk (i := 289) (by decide +kernel) (by decide +kernel)
theorem tw_290 : Cond.lays "java/util/NoSuchElementException" "java/lang/Throwable" "detailMessage" "Ljava/lang/String;" ∈ lw_good := tw_mk (i := 290) (by decide +kernel) (by decide +kernel)
theorem tw_291 : Cond.lays "java/util/NoSuchElementException" "java/lang/Throwable" "backtrace" "Ljava/lang/Object;" ∈ lw_good := tw_mk (i := 291) (by decide +kernel) (by decide +kernel)
theorem tw_292 : Cond.methodLink "KeyCustody" 215 y_XN_init ∈ lw_good := tw_mk (i := 292) (by decide +kernel) (by decide +kernel)
theorem tw_293 : Cond.instanceMethod y_XN_init ∈ lw_good := tw_mk (i := 293) (by decide +kernel) (by decide +kernel)
theorem tw_294 : Cond.code y_XN_init b_XN_init 1 none ∈ lw_good := tw_mk (i := 294) (by decide +kernel) (by decide +kernel)
theorem tw_295 : Cond.methodLink "java/util/NoSuchElementException" 1 y_JR_init ∈ lw_good := tw_mk (i := 295) (by decide +kernel) (by decide +kernel)
theorem tw_296 : Cond.lays "java/util/NoSuchElementException" "java/lang/Throwable" "depth" "I" ∈ lw_good := tw_mk (i := 296) (by decide +kernel) (by decide +kernel)
theorem tw_297 : Cond.superclass "java/util/NoSuchElementException" "java/lang/RuntimeException" ∈ lw_good := tw_mk (i := 297) (by decide +kernel) (by decide +kernel)
theorem tw_298 : Cond.methodLink "KeyCustody" 102 y_V_hasDealt ∈ lw_good := tw_mk (i := 298) (by decide +kernel) (by decide +kernel)
theorem tw_299 : Cond.instanceMethod y_V_hasDealt ∈ lw_good := tw_mk (i := 299) (by decide +kernel) (by decide +kernel)
theorem tw_300 : Cond.selects "KeyCustody$Week" y_V_hasDealt y_V_hasDealt ∈ lw_good := tw_mk (i := 300) (by decide +kernel) (by decide +kernel)
theorem tw_301 : Cond.code y_V_hasDealt b_V_hasDealt 2 (some FieldType.boolean) ∈ lw_good := tw_mk (i := 301) (by decide +kernel) (by decide +kernel)
theorem tw_303 : Cond.static y_K_isAmong ∈ lw_good := tw_mk (i := 303) (by decide +kernel) (by decide +kernel)
theorem tw_304 : Cond.code y_K_isAmong b_K_isAmong 2 (some FieldType.boolean) ∈ lw_good := tw_mk (i := 304) (by decide +kernel) (by decide +kernel)
theorem tw_305 : Cond.methodLink "KeyCustody" 229 y_K_bit ∈ lw_good := tw_mk (i := 305) (by decide +kernel) (by decide +kernel)
theorem tw_306 : Cond.static y_K_bit ∈ lw_good := tw_mk (i := 306) (by decide +kernel) (by decide +kernel)
theorem tw_307 : Cond.code y_K_bit b_K_bit 1 (some FieldType.int) ∈ lw_good := tw_mk (i := 307) (by decide +kernel) (by decide +kernel)
theorem tw_308 : Cond.methodLink "KeyCustody" 105 y_V_isOneTooMany ∈ lw_good := tw_mk (i := 308) (by decide +kernel) (by decide +kernel)
theorem tw_309 : Cond.instanceMethod y_V_isOneTooMany ∈ lw_good := tw_mk (i := 309) (by decide +kernel) (by decide +kernel)
theorem tw_310 : Cond.selects "KeyCustody$Week" y_V_isOneTooMany y_V_isOneTooMany ∈ lw_good := tw_mk (i := 310) (by decide +kernel) (by decide +kernel)
theorem tw_311 : Cond.code y_V_isOneTooMany b_V_isOneTooMany 3 (some FieldType.boolean) ∈ lw_good := tw_mk (i := 311) (by decide +kernel) (by decide +kernel)
theorem tw_312 : Cond.methodLink "KeyCustody$Week" 53 y_V_faulty ∈ lw_good := tw_mk (i := 312) (by decide +kernel) (by decide +kernel)
theorem tw_313 : Cond.instanceMethod y_V_faulty ∈ lw_good := tw_mk (i := 313) (by decide +kernel) (by decide +kernel)
theorem tw_314 : Cond.selects "KeyCustody$Week" y_V_faulty y_V_faulty ∈ lw_good := tw_mk (i := 314) (by decide +kernel) (by decide +kernel)
theorem tw_315 : Cond.code y_V_faulty b_V_faulty 3 (some FieldType.int) ∈ lw_good := tw_mk (i := 315) (by decide +kernel) (by decide +kernel)
theorem tw_317 : Cond.methodLink "KeyCustody$Week" 61 y_JI_bitCount ∈ lw_good := tw_mk (i := 317) (by decide +kernel) (by decide +kernel)
theorem tw_318 : Cond.static y_JI_bitCount ∈ lw_good := tw_mk (i := 318) (by decide +kernel) (by decide +kernel)
theorem tw_319 : Cond.code y_JI_bitCount b_JI_bitCount 1 (some FieldType.int) ∈ lw_good := tw_mk (i := 319) (by decide +kernel) (by decide +kernel)
theorem tw_320 : Cond.constant "java/lang/Integer" 265 (1431655765 : Int32) ∈ lw_good := tw_mk (i := 320) (by decide +kernel) (by decide +kernel)
theorem tw_321 : Cond.constant "java/lang/Integer" 266 (858993459 : Int32) ∈ lw_good := tw_mk (i := 321) (by decide +kernel) (by decide +kernel)
theorem tw_322 : Cond.constant "java/lang/Integer" 267 (252645135 : Int32) ∈ lw_good := tw_mk (i := 322) (by decide +kernel) (by decide +kernel)
theorem tw_323 : Cond.classLink "KeyCustody" 109 "java/lang/UnsupportedOperationException" ∈ lw_good := tw_mk (i := 323) (by decide +kernel) (by decide +kernel)
theorem tw_324 : Cond.instantiable "java/lang/UnsupportedOperationException" 6 ∈ lw_good := tw_mk (i := 324) (by decide +kernel) (by decide +kernel)
theorem tw_326 : Cond.selects "java/lang/UnsupportedOperationException" y_JT_fillInStackTrace_ILT y_JT_fillInStackTrace_ILT ∈ lw_good := tw_mk (i := 326) (by decide +kernel) (by decide +kernel)
theorem tw_327 : Cond.lays "java/lang/UnsupportedOperationException" "java/lang/Throwable" "cause" "Ljava/lang/Throwable;" ∈ lw_good := tw_mk (i := 327) (by decide +kernel) (by decide +kernel)
theorem tw_328 : Cond.lays "java/lang/UnsupportedOperationException" "java/lang/Throwable" "stackTrace" "[Ljava/lang/StackTraceElement;" ∈ lw_good := tw_mk (i := 328) (by decide +kernel) (by decide +kernel)
theorem tw_329 : Cond.lays "java/lang/UnsupportedOperationException" "java/lang/Throwable" "suppressedExceptions" "Ljava/util/List;" ∈ lw_good := tw_mk (i := 329) (by decide +kernel) (by decide +kernel)
theorem tw_330 : Cond.lays "java/lang/UnsupportedOperationException" "java/lang/Throwable" "detailMessage" "Ljava/lang/String;" ∈ lw_good := tw_mk (i := 330) (by decide +kernel) (by decide +kernel)
theorem tw_331 : Cond.lays "java/lang/UnsupportedOperationException" "java/lang/Throwable" "backtrace" "Ljava/lang/Object;" ∈ lw_good := tw_mk (i := 331) (by decide +kernel) (by decide +kernel)
theorem tw_332 : Cond.methodLink "KeyCustody" 111 y_XU_init ∈ lw_good := tw_mk (i := 332) (by decide +kernel) (by decide +kernel)
theorem tw_333 : Cond.instanceMethod y_XU_init ∈ lw_good := tw_mk (i := 333) (by decide +kernel) (by decide +kernel)
theorem tw_334 : Cond.code y_XU_init b_XU_init 1 none ∈ lw_good := tw_mk (i := 334) (by decide +kernel) (by decide +kernel)
theorem tw_335 : Cond.methodLink "java/lang/UnsupportedOperationException" 1 y_JR_init ∈ lw_good := tw_mk (i := 335) (by decide +kernel) (by decide +kernel)
theorem tw_336 : Cond.lays "java/lang/UnsupportedOperationException" "java/lang/Throwable" "depth" "I" ∈ lw_good := tw_mk (i := 336) (by decide +kernel) (by decide +kernel)
theorem tw_337 : Cond.superclass "java/lang/UnsupportedOperationException" "java/lang/RuntimeException" ∈ lw_good := tw_mk (i := 337) (by decide +kernel) (by decide +kernel)
theorem tw_338 : Cond.methodLink "KeyCustody" 112 y_V_turn ∈ lw_good := tw_mk (i := 338) (by decide +kernel) (by decide +kernel)
theorem tw_339 : Cond.instanceMethod y_V_turn ∈ lw_good := tw_mk (i := 339) (by decide +kernel) (by decide +kernel)
theorem tw_340 : Cond.selects "KeyCustody$Week" y_V_turn y_V_turn ∈ lw_good := tw_mk (i := 340) (by decide +kernel) (by decide +kernel)
theorem tw_341 : Cond.code y_V_turn b_V_turn 3 none ∈ lw_good := tw_mk (i := 341) (by decide +kernel) (by decide +kernel)
theorem tw_342 : Cond.methodLink "KeyCustodyLaw" 97 y_L_deal ∈ lw_good := tw_mk (i := 342) (by decide +kernel) (by decide +kernel)
theorem tw_343 : Cond.static y_L_deal ∈ lw_good := tw_mk (i := 343) (by decide +kernel) (by decide +kernel)
theorem tw_344 : Cond.codeWith y_L_deal b_L_deal 6 (some FieldType.int) [(0, 9, 12, 19), (0, 9, 16, 25), (0, 9, 20, 13), (0, 9, 24, 27)] ∈ lw_good := tw_mk (i := 344) (by decide +kernel) (by decide +kernel)
theorem tw_345 : Cond.methodLink "KeyCustodyLaw" 29 y_K_deal ∈ lw_good := tw_mk (i := 345) (by decide +kernel) (by decide +kernel)
theorem tw_346 : Cond.instanceMethod y_K_deal ∈ lw_good := tw_mk (i := 346) (by decide +kernel) (by decide +kernel)
theorem tw_347 : Cond.selects "KeyCustody" y_K_deal y_K_deal ∈ lw_good := tw_mk (i := 347) (by decide +kernel) (by decide +kernel)
theorem tw_348 : Cond.code y_K_deal b_K_deal 5 none ∈ lw_good := tw_mk (i := 348) (by decide +kernel) (by decide +kernel)
theorem tw_349 : Cond.methodLink "KeyCustody" 116 y_B_room ∈ lw_good := tw_mk (i := 349) (by decide +kernel) (by decide +kernel)
theorem tw_350 : Cond.instanceMethod y_B_room ∈ lw_good := tw_mk (i := 350) (by decide +kernel) (by decide +kernel)
theorem tw_351 : Cond.selects "KeyCustody$Board" y_B_room y_B_room ∈ lw_good := tw_mk (i := 351) (by decide +kernel) (by decide +kernel)
theorem tw_352 : Cond.code y_B_room b_B_room 1 (some FieldType.int) ∈ lw_good := tw_mk (i := 352) (by decide +kernel) (by decide +kernel)
theorem tw_353 : Cond.methodLink "KeyCustody" 120 y_V_isSilent ∈ lw_good := tw_mk (i := 353) (by decide +kernel) (by decide +kernel)
theorem tw_354 : Cond.instanceMethod y_V_isSilent ∈ lw_good := tw_mk (i := 354) (by decide +kernel) (by decide +kernel)
theorem tw_355 : Cond.selects "KeyCustody$Week" y_V_isSilent y_V_isSilent ∈ lw_good := tw_mk (i := 355) (by decide +kernel) (by decide +kernel)
theorem tw_356 : Cond.code y_V_isSilent b_V_isSilent 2 (some FieldType.boolean) ∈ lw_good := tw_mk (i := 356) (by decide +kernel) (by decide +kernel)
theorem tw_357 : Cond.methodLink "KeyCustody" 123 y_V_passOver ∈ lw_good := tw_mk (i := 357) (by decide +kernel) (by decide +kernel)
theorem tw_358 : Cond.instanceMethod y_V_passOver ∈ lw_good := tw_mk (i := 358) (by decide +kernel) (by decide +kernel)
theorem tw_359 : Cond.selects "KeyCustody$Week" y_V_passOver y_V_passOver ∈ lw_good := tw_mk (i := 359) (by decide +kernel) (by decide +kernel)
theorem tw_360 : Cond.code y_V_passOver b_V_passOver 2 none ∈ lw_good := tw_mk (i := 360) (by decide +kernel) (by decide +kernel)
theorem tw_361 : Cond.methodLink "KeyCustody" 126 y_V_sendOut ∈ lw_good := tw_mk (i := 361) (by decide +kernel) (by decide +kernel)
theorem tw_362 : Cond.instanceMethod y_V_sendOut ∈ lw_good := tw_mk (i := 362) (by decide +kernel) (by decide +kernel)
theorem tw_363 : Cond.selects "KeyCustody$Week" y_V_sendOut y_V_sendOut ∈ lw_good := tw_mk (i := 363) (by decide +kernel) (by decide +kernel)
theorem tw_364 : Cond.code y_V_sendOut b_V_sendOut 7 none ∈ lw_good := tw_mk (i := 364) (by decide +kernel) (by decide +kernel)
theorem tw_366 : Cond.methodLink "KeyCustody$Week" 70 y_G_commitTo ∈ lw_good := tw_mk (i := 366) (by decide +kernel) (by decide +kernel)
theorem tw_367 : Cond.methodLink "KeyCustody$Week" 76 y_V_rightShare ∈ lw_good := tw_mk (i := 367) (by decide +kernel) (by decide +kernel)
theorem tw_369 : Cond.instanceMethod y_V_rightShare ∈ lw_good := tw_mk (i := 369) (by decide +kernel) (by decide +kernel)
theorem tw_370 : Cond.code y_V_rightShare b_V_rightShare 3 (some FieldType.int) ∈ lw_good := tw_mk (i := 370) (by decide +kernel) (by decide +kernel)
theorem tw_371 : Cond.methodLink "KeyCustody$Week" 86 y_G_valueAt ∈ lw_good := tw_mk (i := 371) (by decide +kernel) (by decide +kernel)
theorem tw_372 : Cond.methodLink "KeyCustody$Week" 80 y_V_isCheated ∈ lw_good := tw_mk (i := 372) (by decide +kernel) (by decide +kernel)
theorem tw_374 : Cond.instanceMethod y_V_isCheated ∈ lw_good := tw_mk (i := 374) (by decide +kernel) (by decide +kernel)
theorem tw_375 : Cond.code y_V_isCheated b_V_isCheated 4 (some FieldType.boolean) ∈ lw_good := tw_mk (i := 375) (by decide +kernel) (by decide +kernel)
theorem tw_376 : Cond.methodLink "KeyCustody$Week" 83 y_G_addNumbers ∈ lw_good := tw_mk (i := 376) (by decide +kernel) (by decide +kernel)
theorem tw_377 : Cond.methodLink "KeyCustody" 130 y_V_commitmentsOf ∈ lw_good := tw_mk (i := 377) (by decide +kernel) (by decide +kernel)
theorem tw_378 : Cond.instanceMethod y_V_commitmentsOf ∈ lw_good := tw_mk (i := 378) (by decide +kernel) (by decide +kernel)
theorem tw_379 : Cond.selects "KeyCustody$Week" y_V_commitmentsOf y_V_commitmentsOf ∈ lw_good := tw_mk (i := 379) (by decide +kernel) (by decide +kernel)
theorem tw_380 : Cond.code y_V_commitmentsOf b_V_commitmentsOf 2 (some (FieldType.array FieldType.int)) ∈ lw_good := tw_mk (i := 380) (by decide +kernel) (by decide +kernel)
theorem tw_381 : Cond.methodLink "KeyCustody" 134 y_B_addDealing ∈ lw_good := tw_mk (i := 381) (by decide +kernel) (by decide +kernel)
theorem tw_382 : Cond.instanceMethod y_B_addDealing ∈ lw_good := tw_mk (i := 382) (by decide +kernel) (by decide +kernel)
theorem tw_383 : Cond.selects "KeyCustody$Board" y_B_addDealing y_B_addDealing ∈ lw_good := tw_mk (i := 383) (by decide +kernel) (by decide +kernel)
theorem tw_384 : Cond.code y_B_addDealing b_B_addDealing 5 none ∈ lw_good := tw_mk (i := 384) (by decide +kernel) (by decide +kernel)
theorem tw_385 : Cond.methodLink "KeyCustody$Board" 19 y_B_add ∈ lw_good := tw_mk (i := 385) (by decide +kernel) (by decide +kernel)
theorem tw_386 : Cond.instanceMethod y_B_add ∈ lw_good := tw_mk (i := 386) (by decide +kernel) (by decide +kernel)
theorem tw_387 : Cond.selects "KeyCustody$Board" y_B_add y_B_add ∈ lw_good := tw_mk (i := 387) (by decide +kernel) (by decide +kernel)
theorem tw_388 : Cond.code y_B_add b_B_add 8 none ∈ lw_good := tw_mk (i := 388) (by decide +kernel) (by decide +kernel)
theorem tw_389 : Cond.methodLink "KeyCustody$Board" 23 y_JS_arraycopy ∈ lw_good := tw_mk (i := 389) (by decide +kernel) (by decide +kernel)
theorem tw_390 : Cond.static y_JS_arraycopy ∈ lw_good := tw_mk (i := 390) (by decide +kernel) (by decide +kernel)
theorem tw_391 : Cond.native y_JS_arraycopy ∈ lw_good := tw_mk (i := 391) (by decide +kernel) (by decide +kernel)
theorem tw_392 : Cond.methodLink "KeyCustodyLaw" 100 y_L_look ∈ lw_good := tw_mk (i := 392) (by decide +kernel) (by decide +kernel)
theorem tw_393 : Cond.static y_L_look ∈ lw_good := tw_mk (i := 393) (by decide +kernel) (by decide +kernel)
theorem tw_394 : Cond.codeWith y_L_look b_L_look 4 (some FieldType.int) [(0, 9, 12, 19), (0, 9, 15, 25), (0, 9, 18, 27)] ∈ lw_good := tw_mk (i := 394) (by decide +kernel) (by decide +kernel)
theorem tw_395 : Cond.methodLink "KeyCustodyLaw" 32 y_K_look ∈ lw_good := tw_mk (i := 395) (by decide +kernel) (by decide +kernel)
theorem tw_396 : Cond.instanceMethod y_K_look ∈ lw_good := tw_mk (i := 396) (by decide +kernel) (by decide +kernel)
theorem tw_397 : Cond.selects "KeyCustody" y_K_look y_K_look ∈ lw_good := tw_mk (i := 397) (by decide +kernel) (by decide +kernel)
theorem tw_398 : Cond.code y_K_look b_K_look 5 (some FieldType.int) ∈ lw_good := tw_mk (i := 398) (by decide +kernel) (by decide +kernel)
theorem tw_399 : Cond.methodLink "KeyCustody" 138 y_V_accusedBy ∈ lw_good := tw_mk (i := 399) (by decide +kernel) (by decide +kernel)
theorem tw_400 : Cond.instanceMethod y_V_accusedBy ∈ lw_good := tw_mk (i := 400) (by decide +kernel) (by decide +kernel)
theorem tw_401 : Cond.selects "KeyCustody$Week" y_V_accusedBy y_V_accusedBy ∈ lw_good := tw_mk (i := 401) (by decide +kernel) (by decide +kernel)
theorem tw_402 : Cond.code y_V_accusedBy b_V_accusedBy 4 (some FieldType.int) ∈ lw_good := tw_mk (i := 402) (by decide +kernel) (by decide +kernel)
theorem tw_403 : Cond.methodLink "KeyCustody$Week" 90 y_V_objectsTo ∈ lw_good := tw_mk (i := 403) (by decide +kernel) (by decide +kernel)
theorem tw_405 : Cond.instanceMethod y_V_objectsTo ∈ lw_good := tw_mk (i := 405) (by decide +kernel) (by decide +kernel)
theorem tw_406 : Cond.code y_V_objectsTo b_V_objectsTo 3 (some FieldType.boolean) ∈ lw_good := tw_mk (i := 406) (by decide +kernel) (by decide +kernel)
theorem tw_407 : Cond.methodLink "KeyCustody$Week" 93 y_G_agree ∈ lw_good := tw_mk (i := 407) (by decide +kernel) (by decide +kernel)
theorem tw_408 : Cond.instanceMethod y_G_agree ∈ lw_good := tw_mk (i := 408) (by decide +kernel) (by decide +kernel)
theorem tw_409 : Cond.selects "KeyCustody$Group" y_G_agree y_G_agree ∈ lw_good := tw_mk (i := 409) (by decide +kernel) (by decide +kernel)
theorem tw_410 : Cond.code y_G_agree b_G_agree 4 (some FieldType.boolean) ∈ lw_good := tw_mk (i := 410) (by decide +kernel) (by decide +kernel)
theorem tw_411 : Cond.methodLink "KeyCustody$Group" 42 y_G_elementAt ∈ lw_good := tw_mk (i := 411) (by decide +kernel) (by decide +kernel)
theorem tw_412 : Cond.instanceMethod y_G_elementAt ∈ lw_good := tw_mk (i := 412) (by decide +kernel) (by decide +kernel)
theorem tw_413 : Cond.selects "KeyCustody$Group" y_G_elementAt y_G_elementAt ∈ lw_good := tw_mk (i := 413) (by decide +kernel) (by decide +kernel)
theorem tw_414 : Cond.code y_G_elementAt b_G_elementAt 6 (some FieldType.int) ∈ lw_good := tw_mk (i := 414) (by decide +kernel) (by decide +kernel)
theorem tw_415 : Cond.methodLink "KeyCustody$Group" 39 y_G_multiply ∈ lw_good := tw_mk (i := 415) (by decide +kernel) (by decide +kernel)
theorem tw_416 : Cond.instanceMethod y_G_multiply ∈ lw_good := tw_mk (i := 416) (by decide +kernel) (by decide +kernel)
theorem tw_417 : Cond.selects "KeyCustody$Group" y_G_multiply y_G_multiply ∈ lw_good := tw_mk (i := 417) (by decide +kernel) (by decide +kernel)
theorem tw_418 : Cond.code y_G_multiply b_G_multiply 3 (some FieldType.int) ∈ lw_good := tw_mk (i := 418) (by decide +kernel) (by decide +kernel)
theorem tw_419 : Cond.methodLink "KeyCustody" 142 y_JI_bitCount ∈ lw_good := tw_mk (i := 419) (by decide +kernel) (by decide +kernel)
theorem tw_420 : Cond.methodLink "KeyCustody" 147 y_K_isAmong ∈ lw_good := tw_mk (i := 420) (by decide +kernel) (by decide +kernel)
theorem tw_421 : Cond.methodLink "KeyCustody" 150 y_V_complain ∈ lw_good := tw_mk (i := 421) (by decide +kernel) (by decide +kernel)
theorem tw_422 : Cond.instanceMethod y_V_complain ∈ lw_good := tw_mk (i := 422) (by decide +kernel) (by decide +kernel)
theorem tw_423 : Cond.selects "KeyCustody$Week" y_V_complain y_V_complain ∈ lw_good := tw_mk (i := 423) (by decide +kernel) (by decide +kernel)
theorem tw_424 : Cond.code y_V_complain b_V_complain 3 none ∈ lw_good := tw_mk (i := 424) (by decide +kernel) (by decide +kernel)
theorem tw_425 : Cond.methodLink "KeyCustody" 153 y_B_add ∈ lw_good := tw_mk (i := 425) (by decide +kernel) (by decide +kernel)
theorem tw_426 : Cond.methodLink "KeyCustodyLaw" 104 y_L_answer ∈ lw_good := tw_mk (i := 426) (by decide +kernel) (by decide +kernel)
theorem tw_427 : Cond.static y_L_answer ∈ lw_good := tw_mk (i := 427) (by decide +kernel) (by decide +kernel)
theorem tw_428 : Cond.codeWith y_L_answer b_L_answer 5 (some FieldType.int) [(0, 17, 20, 19), (0, 17, 24, 25), (0, 17, 28, 13), (0, 17, 32, 27)] ∈ lw_good := tw_mk (i := 428) (by decide +kernel) (by decide +kernel)
theorem tw_429 : Cond.methodLink "KeyCustodyLaw" 36 y_K_answer ∈ lw_good := tw_mk (i := 429) (by decide +kernel) (by decide +kernel)
theorem tw_430 : Cond.instanceMethod y_K_answer ∈ lw_good := tw_mk (i := 430) (by decide +kernel) (by decide +kernel)
theorem tw_431 : Cond.selects "KeyCustody" y_K_answer y_K_answer ∈ lw_good := tw_mk (i := 431) (by decide +kernel) (by decide +kernel)
theorem tw_432 : Cond.code y_K_answer b_K_answer 4 (some FieldType.boolean) ∈ lw_good := tw_mk (i := 432) (by decide +kernel) (by decide +kernel)
theorem tw_433 : Cond.methodLink "KeyCustody" 157 y_V_dealers ∈ lw_good := tw_mk (i := 433) (by decide +kernel) (by decide +kernel)
theorem tw_434 : Cond.instanceMethod y_V_dealers ∈ lw_good := tw_mk (i := 434) (by decide +kernel) (by decide +kernel)
theorem tw_435 : Cond.selects "KeyCustody$Week" y_V_dealers y_V_dealers ∈ lw_good := tw_mk (i := 435) (by decide +kernel) (by decide +kernel)
theorem tw_436 : Cond.code y_V_dealers b_V_dealers 1 (some FieldType.int) ∈ lw_good := tw_mk (i := 436) (by decide +kernel) (by decide +kernel)
theorem tw_437 : Cond.methodLink "KeyCustody" 160 y_V_shownBy ∈ lw_good := tw_mk (i := 437) (by decide +kernel) (by decide +kernel)
theorem tw_438 : Cond.instanceMethod y_V_shownBy ∈ lw_good := tw_mk (i := 438) (by decide +kernel) (by decide +kernel)
theorem tw_439 : Cond.selects "KeyCustody$Week" y_V_shownBy y_V_shownBy ∈ lw_good := tw_mk (i := 439) (by decide +kernel) (by decide +kernel)
theorem tw_440 : Cond.code y_V_shownBy b_V_shownBy 5 (some FieldType.int) ∈ lw_good := tw_mk (i := 440) (by decide +kernel) (by decide +kernel)
theorem tw_441 : Cond.methodLink "KeyCustody" 164 y_V_settle ∈ lw_good := tw_mk (i := 441) (by decide +kernel) (by decide +kernel)
theorem tw_442 : Cond.instanceMethod y_V_settle ∈ lw_good := tw_mk (i := 442) (by decide +kernel) (by decide +kernel)
theorem tw_443 : Cond.selects "KeyCustody$Week" y_V_settle y_V_settle ∈ lw_good := tw_mk (i := 443) (by decide +kernel) (by decide +kernel)
theorem tw_444 : Cond.code y_V_settle b_V_settle 5 (some FieldType.boolean) ∈ lw_good := tw_mk (i := 444) (by decide +kernel) (by decide +kernel)
theorem tw_445 : Cond.methodLink "KeyCustodyLaw" 108 y_L_close ∈ lw_good := tw_mk (i := 445) (by decide +kernel) (by decide +kernel)
theorem tw_446 : Cond.static y_L_close ∈ lw_good := tw_mk (i := 446) (by decide +kernel) (by decide +kernel)
theorem tw_447 : Cond.codeWith y_L_close b_L_close 3 (some FieldType.int) [(0, 8, 11, 19)] ∈ lw_good := tw_mk (i := 447) (by decide +kernel) (by decide +kernel)
theorem tw_448 : Cond.methodLink "KeyCustodyLaw" 40 y_K_close ∈ lw_good := tw_mk (i := 448) (by decide +kernel) (by decide +kernel)
theorem tw_449 : Cond.instanceMethod y_K_close ∈ lw_good := tw_mk (i := 449) (by decide +kernel) (by decide +kernel)
theorem tw_450 : Cond.selects "KeyCustody" y_K_close y_K_close ∈ lw_good := tw_mk (i := 450) (by decide +kernel) (by decide +kernel)
theorem tw_451 : Cond.code y_K_close b_K_close 3 (some FieldType.int) ∈ lw_good := tw_mk (i := 451) (by decide +kernel) (by decide +kernel)
theorem tw_452 : Cond.methodLink "KeyCustody" 167 y_V_accepted ∈ lw_good := tw_mk (i := 452) (by decide +kernel) (by decide +kernel)
theorem tw_453 : Cond.instanceMethod y_V_accepted ∈ lw_good := tw_mk (i := 453) (by decide +kernel) (by decide +kernel)
theorem tw_454 : Cond.selects "KeyCustody$Week" y_V_accepted y_V_accepted ∈ lw_good := tw_mk (i := 454) (by decide +kernel) (by decide +kernel)
theorem tw_455 : Cond.code y_V_accepted b_V_accepted 3 (some FieldType.int) ∈ lw_good := tw_mk (i := 455) (by decide +kernel) (by decide +kernel)
theorem tw_456 : Cond.methodLink "KeyCustody" 170 y_K_takeOver ∈ lw_good := tw_mk (i := 456) (by decide +kernel) (by decide +kernel)
theorem tw_458 : Cond.instanceMethod y_K_takeOver ∈ lw_good := tw_mk (i := 458) (by decide +kernel) (by decide +kernel)
theorem tw_459 : Cond.code y_K_takeOver b_K_takeOver 4 none ∈ lw_good := tw_mk (i := 459) (by decide +kernel) (by decide +kernel)
theorem tw_460 : Cond.methodLink "KeyCustody" 173 y_K_isWiped ∈ lw_good := tw_mk (i := 460) (by decide +kernel) (by decide +kernel)
theorem tw_462 : Cond.instanceMethod y_K_isWiped ∈ lw_good := tw_mk (i := 462) (by decide +kernel) (by decide +kernel)
theorem tw_463 : Cond.code y_K_isWiped b_K_isWiped 2 (some FieldType.boolean) ∈ lw_good := tw_mk (i := 463) (by decide +kernel) (by decide +kernel)
theorem tw_464 : Cond.methodLink "KeyCustody" 216 y_V_hadFrom ∈ lw_good := tw_mk (i := 464) (by decide +kernel) (by decide +kernel)
theorem tw_465 : Cond.instanceMethod y_V_hadFrom ∈ lw_good := tw_mk (i := 465) (by decide +kernel) (by decide +kernel)
theorem tw_466 : Cond.selects "KeyCustody$Week" y_V_hadFrom y_V_hadFrom ∈ lw_good := tw_mk (i := 466) (by decide +kernel) (by decide +kernel)
theorem tw_467 : Cond.code y_V_hadFrom b_V_hadFrom 3 (some FieldType.int) ∈ lw_good := tw_mk (i := 467) (by decide +kernel) (by decide +kernel)
theorem tw_468 : Cond.methodLink "KeyCustody" 219 y_G_addNumbers ∈ lw_good := tw_mk (i := 468) (by decide +kernel) (by decide +kernel)
theorem tw_469 : Cond.methodLink "KeyCustody" 222 y_G_multiply ∈ lw_good := tw_mk (i := 469) (by decide +kernel) (by decide +kernel)
theorem tw_470 : Cond.methodLink "KeyCustodyLaw" 112 y_L_wipe ∈ lw_good := tw_mk (i := 470) (by decide +kernel) (by decide +kernel)
theorem tw_471 : Cond.static y_L_wipe ∈ lw_good := tw_mk (i := 471) (by decide +kernel) (by decide +kernel)
theorem tw_472 : Cond.codeWith y_L_wipe b_L_wipe 3 (some FieldType.int) [(0, 5, 8, 19), (0, 5, 11, 25), (0, 5, 14, 27)] ∈ lw_good := tw_mk (i := 472) (by decide +kernel) (by decide +kernel)
theorem tw_473 : Cond.methodLink "KeyCustodyLaw" 44 y_K_wipe ∈ lw_good := tw_mk (i := 473) (by decide +kernel) (by decide +kernel)
theorem tw_474 : Cond.instanceMethod y_K_wipe ∈ lw_good := tw_mk (i := 474) (by decide +kernel) (by decide +kernel)
theorem tw_475 : Cond.selects "KeyCustody" y_K_wipe y_K_wipe ∈ lw_good := tw_mk (i := 475) (by decide +kernel) (by decide +kernel)
theorem tw_476 : Cond.code y_K_wipe b_K_wipe 2 none ∈ lw_good := tw_mk (i := 476) (by decide +kernel) (by decide +kernel)
theorem tw_477 : Cond.methodLink "KeyCustodyLaw" 116 y_L_recover ∈ lw_good := tw_mk (i := 477) (by decide +kernel) (by decide +kernel)
theorem tw_478 : Cond.static y_L_recover ∈ lw_good := tw_mk (i := 478) (by decide +kernel) (by decide +kernel)
theorem tw_479 : Cond.codeWith y_L_recover b_L_recover 4 (some FieldType.int) [(0, 9, 12, 19), (0, 9, 15, 25), (0, 9, 18, 27)] ∈ lw_good := tw_mk (i := 479) (by decide +kernel) (by decide +kernel)
theorem tw_480 : Cond.methodLink "KeyCustodyLaw" 48 y_K_recover ∈ lw_good := tw_mk (i := 480) (by decide +kernel) (by decide +kernel)
theorem tw_481 : Cond.instanceMethod y_K_recover ∈ lw_good := tw_mk (i := 481) (by decide +kernel) (by decide +kernel)
theorem tw_482 : Cond.selects "KeyCustody" y_K_recover y_K_recover ∈ lw_good := tw_mk (i := 482) (by decide +kernel) (by decide +kernel)
theorem tw_483 : Cond.code y_K_recover b_K_recover 4 (some FieldType.int) ∈ lw_good := tw_mk (i := 483) (by decide +kernel) (by decide +kernel)
theorem tw_484 : Cond.methodLink "KeyCustody" 176 y_K_sound ∈ lw_good := tw_mk (i := 484) (by decide +kernel) (by decide +kernel)
theorem tw_486 : Cond.instanceMethod y_K_sound ∈ lw_good := tw_mk (i := 486) (by decide +kernel) (by decide +kernel)
theorem tw_487 : Cond.code y_K_sound b_K_sound 3 (some FieldType.int) ∈ lw_good := tw_mk (i := 487) (by decide +kernel) (by decide +kernel)
theorem tw_488 : Cond.methodLink "KeyCustody" 186 y_K_isSound ∈ lw_good := tw_mk (i := 488) (by decide +kernel) (by decide +kernel)
theorem tw_490 : Cond.instanceMethod y_K_isSound ∈ lw_good := tw_mk (i := 490) (by decide +kernel) (by decide +kernel)
theorem tw_491 : Cond.code y_K_isSound b_K_isSound 2 (some FieldType.boolean) ∈ lw_good := tw_mk (i := 491) (by decide +kernel) (by decide +kernel)
theorem tw_492 : Cond.methodLink "KeyCustody" 225 y_G_agree ∈ lw_good := tw_mk (i := 492) (by decide +kernel) (by decide +kernel)
theorem tw_493 : Cond.methodLink "KeyCustody" 179 y_K_leastFour ∈ lw_good := tw_mk (i := 493) (by decide +kernel) (by decide +kernel)
theorem tw_494 : Cond.static y_K_leastFour ∈ lw_good := tw_mk (i := 494) (by decide +kernel) (by decide +kernel)
theorem tw_495 : Cond.code y_K_leastFour b_K_leastFour 3 (some FieldType.int) ∈ lw_good := tw_mk (i := 495) (by decide +kernel) (by decide +kernel)
theorem tw_496 : Cond.methodLink "KeyCustody" 182 y_G_interpolate ∈ lw_good := tw_mk (i := 496) (by decide +kernel) (by decide +kernel)
theorem tw_497 : Cond.instanceMethod y_G_interpolate ∈ lw_good := tw_mk (i := 497) (by decide +kernel) (by decide +kernel)
theorem tw_498 : Cond.selects "KeyCustody$Group" y_G_interpolate y_G_interpolate ∈ lw_good := tw_mk (i := 498) (by decide +kernel) (by decide +kernel)
theorem tw_499 : Cond.code y_G_interpolate b_G_interpolate 6 (some FieldType.int) ∈ lw_good := tw_mk (i := 499) (by decide +kernel) (by decide +kernel)
theorem tw_501 : Cond.methodLink "KeyCustody$Group" 50 y_G_weight ∈ lw_good := tw_mk (i := 501) (by decide +kernel) (by decide +kernel)
theorem tw_503 : Cond.instanceMethod y_G_weight ∈ lw_good := tw_mk (i := 503) (by decide +kernel) (by decide +kernel)
theorem tw_504 : Cond.code y_G_weight b_G_weight 7 (some FieldType.int) ∈ lw_good := tw_mk (i := 504) (by decide +kernel) (by decide +kernel)
theorem tw_505 : Cond.methodLink "KeyCustody$Group" 53 y_JM_floorMod ∈ lw_good := tw_mk (i := 505) (by decide +kernel) (by decide +kernel)
theorem tw_506 : Cond.static y_JM_floorMod ∈ lw_good := tw_mk (i := 506) (by decide +kernel) (by decide +kernel)
theorem tw_507 : Cond.code y_JM_floorMod b_JM_floorMod 3 (some FieldType.int) ∈ lw_good := tw_mk (i := 507) (by decide +kernel) (by decide +kernel)
theorem tw_508 : Cond.methodLink "KeyCustodyLaw" 119 y_L_share ∈ lw_good := tw_mk (i := 508) (by decide +kernel) (by decide +kernel)
theorem tw_509 : Cond.static y_L_share ∈ lw_good := tw_mk (i := 509) (by decide +kernel) (by decide +kernel)
theorem tw_510 : Cond.codeWith y_L_share b_L_share 4 (some FieldType.int) [(0, 9, 12, 19), (0, 9, 15, 25)] ∈ lw_good := tw_mk (i := 510) (by decide +kernel) (by decide +kernel)
theorem tw_511 : Cond.methodLink "KeyCustodyLaw" 51 y_K_share ∈ lw_good := tw_mk (i := 511) (by decide +kernel) (by decide +kernel)
theorem tw_512 : Cond.instanceMethod y_K_share ∈ lw_good := tw_mk (i := 512) (by decide +kernel) (by decide +kernel)
theorem tw_513 : Cond.selects "KeyCustody" y_K_share y_K_share ∈ lw_good := tw_mk (i := 513) (by decide +kernel) (by decide +kernel)
theorem tw_514 : Cond.code y_K_share b_K_share 2 (some FieldType.int) ∈ lw_good := tw_mk (i := 514) (by decide +kernel) (by decide +kernel)
theorem tw_515 : Cond.methodLink "KeyCustodyLaw" 122 y_L_fits ∈ lw_good := tw_mk (i := 515) (by decide +kernel) (by decide +kernel)
theorem tw_516 : Cond.static y_L_fits ∈ lw_good := tw_mk (i := 516) (by decide +kernel) (by decide +kernel)
theorem tw_517 : Cond.codeWith y_L_fits b_L_fits 4 (some FieldType.int) [(0, 16, 19, 19), (0, 16, 22, 25)] ∈ lw_good := tw_mk (i := 517) (by decide +kernel) (by decide +kernel)
theorem tw_518 : Cond.methodLink "KeyCustodyLaw" 54 y_K_fits ∈ lw_good := tw_mk (i := 518) (by decide +kernel) (by decide +kernel)
theorem tw_519 : Cond.instanceMethod y_K_fits ∈ lw_good := tw_mk (i := 519) (by decide +kernel) (by decide +kernel)
theorem tw_520 : Cond.selects "KeyCustody" y_K_fits y_K_fits ∈ lw_good := tw_mk (i := 520) (by decide +kernel) (by decide +kernel)
theorem tw_521 : Cond.code y_K_fits b_K_fits 2 (some FieldType.boolean) ∈ lw_good := tw_mk (i := 521) (by decide +kernel) (by decide +kernel)
theorem tw_522 : Cond.methodLink "KeyCustodyLaw" 125 y_L_sum ∈ lw_good := tw_mk (i := 522) (by decide +kernel) (by decide +kernel)
theorem tw_523 : Cond.static y_L_sum ∈ lw_good := tw_mk (i := 523) (by decide +kernel) (by decide +kernel)
theorem tw_524 : Cond.codeWith y_L_sum b_L_sum 4 (some FieldType.int) [(0, 9, 12, 19), (0, 9, 15, 61)] ∈ lw_good := tw_mk (i := 524) (by decide +kernel) (by decide +kernel)
theorem tw_525 : Cond.classLink "KeyCustodyLaw" 61 "java/lang/IndexOutOfBoundsException" ∈ lw_good := tw_mk (i := 525) (by decide +kernel) (by decide +kernel)
theorem tw_526 : Cond.methodLink "KeyCustodyLaw" 58 y_K_sum ∈ lw_good := tw_mk (i := 526) (by decide +kernel) (by decide +kernel)
theorem tw_527 : Cond.instanceMethod y_K_sum ∈ lw_good := tw_mk (i := 527) (by decide +kernel) (by decide +kernel)
theorem tw_528 : Cond.selects "KeyCustody" y_K_sum y_K_sum ∈ lw_good := tw_mk (i := 528) (by decide +kernel) (by decide +kernel)
theorem tw_529 : Cond.code y_K_sum b_K_sum 2 (some FieldType.int) ∈ lw_good := tw_mk (i := 529) (by decide +kernel) (by decide +kernel)
theorem tw_530 : Cond.classLink "KeyCustody" 189 "java/lang/IndexOutOfBoundsException" ∈ lw_good := tw_mk (i := 530) (by decide +kernel) (by decide +kernel)
theorem tw_531 : Cond.instantiable "java/lang/IndexOutOfBoundsException" 6 ∈ lw_good := tw_mk (i := 531) (by decide +kernel) (by decide +kernel)
theorem tw_533 : Cond.selects "java/lang/IndexOutOfBoundsException" y_JT_fillInStackTrace_ILT y_JT_fillInStackTrace_ILT ∈ lw_good := tw_mk (i := 533) (by decide +kernel) (by decide +kernel)
theorem tw_534 : Cond.lays "java/lang/IndexOutOfBoundsException" "java/lang/Throwable" "cause" "Ljava/lang/Throwable;" ∈ lw_good := tw_mk (i := 534) (by decide +kernel) (by decide +kernel)
theorem tw_535 : Cond.lays "java/lang/IndexOutOfBoundsException" "java/lang/Throwable" "stackTrace" "[Ljava/lang/StackTraceElement;" ∈ lw_good := tw_mk (i := 535) (by decide +kernel) (by decide +kernel)
theorem tw_536 : Cond.lays "java/lang/IndexOutOfBoundsException" "java/lang/Throwable" "suppressedExceptions" "Ljava/util/List;" ∈ lw_good := tw_mk (i := 536) (by decide +kernel) (by decide +kernel)
theorem tw_537 : Cond.lays "java/lang/IndexOutOfBoundsException" "java/lang/Throwable" "detailMessage" "Ljava/lang/String;" ∈ lw_good := tw_mk (i := 537) (by decide +kernel) (by decide +kernel)
theorem tw_538 : Cond.lays "java/lang/IndexOutOfBoundsException" "java/lang/Throwable" "backtrace" "Ljava/lang/Object;" ∈ lw_good := tw_mk (i := 538) (by decide +kernel) (by decide +kernel)
theorem tw_539 : Cond.methodLink "KeyCustody" 191 y_XI_init ∈ lw_good := tw_mk (i := 539) (by decide +kernel) (by decide +kernel)
theorem tw_540 : Cond.instanceMethod y_XI_init ∈ lw_good := tw_mk (i := 540) (by decide +kernel) (by decide +kernel)
theorem tw_541 : Cond.code y_XI_init b_XI_init 1 none ∈ lw_good := tw_mk (i := 541) (by decide +kernel) (by decide +kernel)
theorem tw_542 : Cond.methodLink "java/lang/IndexOutOfBoundsException" 1 y_JR_init ∈ lw_good := tw_mk (i := 542) (by decide +kernel) (by decide +kernel)
theorem tw_543 : Cond.lays "java/lang/IndexOutOfBoundsException" "java/lang/Throwable" "depth" "I" ∈ lw_good := tw_mk (i := 543) (by decide +kernel) (by decide +kernel)
theorem tw_544 : Cond.superclass "java/lang/IndexOutOfBoundsException" "java/lang/RuntimeException" ∈ lw_good := tw_mk (i := 544) (by decide +kernel) (by decide +kernel)
theorem tw_545 : Cond.methodLink "KeyCustodyLaw" 128 y_L_element ∈ lw_good := tw_mk (i := 545) (by decide +kernel) (by decide +kernel)
theorem tw_546 : Cond.static y_L_element ∈ lw_good := tw_mk (i := 546) (by decide +kernel) (by decide +kernel)
theorem tw_547 : Cond.codeWith y_L_element b_L_element 4 (some FieldType.int) [(0, 9, 12, 19), (0, 9, 15, 25)] ∈ lw_good := tw_mk (i := 547) (by decide +kernel) (by decide +kernel)
theorem tw_548 : Cond.methodLink "KeyCustodyLaw" 63 y_K_element ∈ lw_good := tw_mk (i := 548) (by decide +kernel) (by decide +kernel)
theorem tw_549 : Cond.instanceMethod y_K_element ∈ lw_good := tw_mk (i := 549) (by decide +kernel) (by decide +kernel)
theorem tw_550 : Cond.selects "KeyCustody" y_K_element y_K_element ∈ lw_good := tw_mk (i := 550) (by decide +kernel) (by decide +kernel)
theorem tw_551 : Cond.code y_K_element b_K_element 2 (some FieldType.int) ∈ lw_good := tw_mk (i := 551) (by decide +kernel) (by decide +kernel)
theorem tw_552 : Cond.methodLink "KeyCustody" 192 y_G_elementAt ∈ lw_good := tw_mk (i := 552) (by decide +kernel) (by decide +kernel)
theorem tw_553 : Cond.methodLink "KeyCustodyLaw" 131 y_L_reconstruct ∈ lw_good := tw_mk (i := 553) (by decide +kernel) (by decide +kernel)
theorem tw_554 : Cond.static y_L_reconstruct ∈ lw_good := tw_mk (i := 554) (by decide +kernel) (by decide +kernel)
theorem tw_555 : Cond.codeWith y_L_reconstruct b_L_reconstruct 4 (some FieldType.int) [(0, 9, 12, 19), (0, 9, 15, 13)] ∈ lw_good := tw_mk (i := 555) (by decide +kernel) (by decide +kernel)
theorem tw_556 : Cond.methodLink "KeyCustodyLaw" 66 y_K_reconstruct ∈ lw_good := tw_mk (i := 556) (by decide +kernel) (by decide +kernel)
theorem tw_557 : Cond.instanceMethod y_K_reconstruct ∈ lw_good := tw_mk (i := 557) (by decide +kernel) (by decide +kernel)
theorem tw_558 : Cond.selects "KeyCustody" y_K_reconstruct y_K_reconstruct ∈ lw_good := tw_mk (i := 558) (by decide +kernel) (by decide +kernel)
theorem tw_559 : Cond.code y_K_reconstruct b_K_reconstruct 2 (some FieldType.int) ∈ lw_good := tw_mk (i := 559) (by decide +kernel) (by decide +kernel)
theorem tw_560 : Cond.methodLink "KeyCustody" 195 y_K_wiped ∈ lw_good := tw_mk (i := 560) (by decide +kernel) (by decide +kernel)
theorem tw_562 : Cond.instanceMethod y_K_wiped ∈ lw_good := tw_mk (i := 562) (by decide +kernel) (by decide +kernel)
theorem tw_563 : Cond.code y_K_wiped b_K_wiped 3 (some FieldType.int) ∈ lw_good := tw_mk (i := 563) (by decide +kernel) (by decide +kernel)
theorem tw_564 : Cond.methodLink "KeyCustodyLaw" 134 y_L_post ∈ lw_good := tw_mk (i := 564) (by decide +kernel) (by decide +kernel)
theorem tw_565 : Cond.static y_L_post ∈ lw_good := tw_mk (i := 565) (by decide +kernel) (by decide +kernel)
theorem tw_566 : Cond.codeWith y_L_post b_L_post 5 (some FieldType.int) [(0, 10, 13, 19), (0, 10, 17, 61), (0, 10, 21, 13)] ∈ lw_good := tw_mk (i := 566) (by decide +kernel) (by decide +kernel)
theorem tw_567 : Cond.methodLink "KeyCustodyLaw" 69 y_K_post ∈ lw_good := tw_mk (i := 567) (by decide +kernel) (by decide +kernel)
theorem tw_568 : Cond.instanceMethod y_K_post ∈ lw_good := tw_mk (i := 568) (by decide +kernel) (by decide +kernel)
theorem tw_569 : Cond.selects "KeyCustody" y_K_post y_K_post ∈ lw_good := tw_mk (i := 569) (by decide +kernel) (by decide +kernel)
theorem tw_570 : Cond.code y_K_post b_K_post 3 (some FieldType.int) ∈ lw_good := tw_mk (i := 570) (by decide +kernel) (by decide +kernel)
theorem tw_571 : Cond.methodLink "KeyCustody" 198 y_B_size ∈ lw_good := tw_mk (i := 571) (by decide +kernel) (by decide +kernel)
theorem tw_572 : Cond.instanceMethod y_B_size ∈ lw_good := tw_mk (i := 572) (by decide +kernel) (by decide +kernel)
theorem tw_573 : Cond.selects "KeyCustody$Board" y_B_size y_B_size ∈ lw_good := tw_mk (i := 573) (by decide +kernel) (by decide +kernel)
theorem tw_574 : Cond.code y_B_size b_B_size 1 (some FieldType.int) ∈ lw_good := tw_mk (i := 574) (by decide +kernel) (by decide +kernel)
theorem tw_575 : Cond.methodLink "KeyCustody" 201 y_B_read ∈ lw_good := tw_mk (i := 575) (by decide +kernel) (by decide +kernel)
theorem tw_576 : Cond.instanceMethod y_B_read ∈ lw_good := tw_mk (i := 576) (by decide +kernel) (by decide +kernel)
theorem tw_577 : Cond.selects "KeyCustody$Board" y_B_read y_B_read ∈ lw_good := tw_mk (i := 577) (by decide +kernel) (by decide +kernel)
theorem tw_578 : Cond.code y_B_read b_B_read 3 (some FieldType.int) ∈ lw_good := tw_mk (i := 578) (by decide +kernel) (by decide +kernel)
theorem tw_579 : Cond.methodLink "KeyCustodyLaw" 137 y_L_about ∈ lw_good := tw_mk (i := 579) (by decide +kernel) (by decide +kernel)
theorem tw_580 : Cond.static y_L_about ∈ lw_good := tw_mk (i := 580) (by decide +kernel) (by decide +kernel)
theorem tw_581 : Cond.codeWith y_L_about b_L_about 4 (some FieldType.int) [(0, 9, 12, 13)] ∈ lw_good := tw_mk (i := 581) (by decide +kernel) (by decide +kernel)
theorem tw_582 : Cond.methodLink "KeyCustodyLaw" 73 y_K_about ∈ lw_good := tw_mk (i := 582) (by decide +kernel) (by decide +kernel)
theorem tw_583 : Cond.instanceMethod y_K_about ∈ lw_good := tw_mk (i := 583) (by decide +kernel) (by decide +kernel)
theorem tw_584 : Cond.selects "KeyCustody" y_K_about y_K_about ∈ lw_good := tw_mk (i := 584) (by decide +kernel) (by decide +kernel)
theorem tw_585 : Cond.code y_K_about b_K_about 2 (some FieldType.int) ∈ lw_good := tw_mk (i := 585) (by decide +kernel) (by decide +kernel)
theorem tw_586 : Cond.methodLink "KeyCustody" 204 y_V_complaintCount ∈ lw_good := tw_mk (i := 586) (by decide +kernel) (by decide +kernel)
theorem tw_587 : Cond.instanceMethod y_V_complaintCount ∈ lw_good := tw_mk (i := 587) (by decide +kernel) (by decide +kernel)
theorem tw_588 : Cond.selects "KeyCustody$Week" y_V_complaintCount y_V_complaintCount ∈ lw_good := tw_mk (i := 588) (by decide +kernel) (by decide +kernel)
theorem tw_589 : Cond.code y_V_complaintCount b_V_complaintCount 1 (some FieldType.int) ∈ lw_good := tw_mk (i := 589) (by decide +kernel) (by decide +kernel)
theorem tw_590 : Cond.methodLink "KeyCustody$Week" 97 y_V_countAll ∈ lw_good := tw_mk (i := 590) (by decide +kernel) (by decide +kernel)
theorem tw_591 : Cond.static y_V_countAll ∈ lw_good := tw_mk (i := 591) (by decide +kernel) (by decide +kernel)
theorem tw_592 : Cond.code y_V_countAll b_V_countAll 3 (some FieldType.int) ∈ lw_good := tw_mk (i := 592) (by decide +kernel) (by decide +kernel)
theorem tw_593 : Cond.methodLink "KeyCustody" 207 y_V_settledCount ∈ lw_good := tw_mk (i := 593) (by decide +kernel) (by decide +kernel)
theorem tw_594 : Cond.instanceMethod y_V_settledCount ∈ lw_good := tw_mk (i := 594) (by decide +kernel) (by decide +kernel)
theorem tw_595 : Cond.selects "KeyCustody$Week" y_V_settledCount y_V_settledCount ∈ lw_good := tw_mk (i := 595) (by decide +kernel) (by decide +kernel)
theorem tw_596 : Cond.code y_V_settledCount b_V_settledCount 1 (some FieldType.int) ∈ lw_good := tw_mk (i := 596) (by decide +kernel) (by decide +kernel)
theorem tw_597 : Cond.methodLink "KeyCustody" 210 y_V_faulty ∈ lw_good := tw_mk (i := 597) (by decide +kernel) (by decide +kernel)
theorem tw_598 : Cond.classLink "KeyCustodyLaw" 77 "KeyCustodyModel" ∈ lw_good := tw_mk (i := 598) (by decide +kernel) (by decide +kernel)
theorem tw_599 : Cond.instantiable "KeyCustodyModel" 18 ∈ lw_good := tw_mk (i := 599) (by decide +kernel) (by decide +kernel)
theorem tw_600 : Cond.methodLink "KeyCustodyLaw" 79 y_M_init ∈ lw_good := tw_mk (i := 600) (by decide +kernel) (by decide +kernel)
theorem tw_601 : Cond.instanceMethod y_M_init ∈ lw_good := tw_mk (i := 601) (by decide +kernel) (by decide +kernel)
theorem tw_602 : Cond.code y_M_init b_M_init 1 none ∈ lw_good := tw_mk (i := 602) (by decide +kernel) (by decide +kernel)
theorem tw_603 : Cond.methodLink "KeyCustodyModel" 1 y_JO_init ∈ lw_good := tw_mk (i := 603) (by decide +kernel) (by decide +kernel)
theorem tw_604 : Cond.fieldLink "KeyCustodyModel" 7 "KeyCustodyModel" "thrownCode" "I" ∈ lw_good := tw_mk (i := 604) (by decide +kernel) (by decide +kernel)
theorem tw_605 : Cond.fieldLink "KeyCustodyModel" 13 "KeyCustodyModel" "p" "I" ∈ lw_good := tw_mk (i := 605) (by decide +kernel) (by decide +kernel)
theorem tw_606 : Cond.fieldLink "KeyCustodyModel" 16 "KeyCustodyModel" "q" "I" ∈ lw_good := tw_mk (i := 606) (by decide +kernel) (by decide +kernel)
theorem tw_607 : Cond.fieldLink "KeyCustodyModel" 19 "KeyCustodyModel" "g" "I" ∈ lw_good := tw_mk (i := 607) (by decide +kernel) (by decide +kernel)
theorem tw_608 : Cond.fieldLink "KeyCustodyModel" 22 "KeyCustodyModel" "founded" "Z" ∈ lw_good := tw_mk (i := 608) (by decide +kernel) (by decide +kernel)
theorem tw_609 : Cond.fieldLink "KeyCustodyModel" 26 "KeyCustodyModel" "week" "I" ∈ lw_good := tw_mk (i := 609) (by decide +kernel) (by decide +kernel)
theorem tw_610 : Cond.fieldLink "KeyCustodyModel" 29 "KeyCustodyModel" "share" "[I" ∈ lw_good := tw_mk (i := 610) (by decide +kernel) (by decide +kernel)
theorem tw_611 : Cond.fieldLink "KeyCustodyModel" 33 "KeyCustodyModel" "wiped" "[Z" ∈ lw_good := tw_mk (i := 611) (by decide +kernel) (by decide +kernel)
theorem tw_612 : Cond.fieldLink "KeyCustodyModel" 37 "KeyCustodyModel" "sums" "[I" ∈ lw_good := tw_mk (i := 612) (by decide +kernel) (by decide +kernel)
theorem tw_613 : Cond.fieldLink "KeyCustodyModel" 40 "KeyCustodyModel" "kind" "[I" ∈ lw_good := tw_mk (i := 613) (by decide +kernel) (by decide +kernel)
theorem tw_614 : Cond.fieldLink "KeyCustodyModel" 43 "KeyCustodyModel" "dealt" "[Z" ∈ lw_good := tw_mk (i := 614) (by decide +kernel) (by decide +kernel)
theorem tw_615 : Cond.fieldLink "KeyCustodyModel" 46 "KeyCustodyModel" "coef" "[I" ∈ lw_good := tw_mk (i := 615) (by decide +kernel) (by decide +kernel)
theorem tw_616 : Cond.fieldLink "KeyCustodyModel" 49 "KeyCustodyModel" "commit" "[I" ∈ lw_good := tw_mk (i := 616) (by decide +kernel) (by decide +kernel)
theorem tw_617 : Cond.fieldLink "KeyCustodyModel" 52 "KeyCustodyModel" "had" "[I" ∈ lw_good := tw_mk (i := 617) (by decide +kernel) (by decide +kernel)
theorem tw_618 : Cond.fieldLink "KeyCustodyModel" 55 "KeyCustodyModel" "complained" "[Z" ∈ lw_good := tw_mk (i := 618) (by decide +kernel) (by decide +kernel)
theorem tw_619 : Cond.fieldLink "KeyCustodyModel" 58 "KeyCustodyModel" "settled" "[Z" ∈ lw_good := tw_mk (i := 619) (by decide +kernel) (by decide +kernel)
theorem tw_620 : Cond.fieldLink "KeyCustodyModel" 61 "KeyCustodyModel" "posts" "I" ∈ lw_good := tw_mk (i := 620) (by decide +kernel) (by decide +kernel)
theorem tw_621 : Cond.fieldLink "KeyCustodyModel" 64 "KeyCustodyModel" "post" "[I" ∈ lw_good := tw_mk (i := 621) (by decide +kernel) (by decide +kernel)
theorem tw_622 : Cond.lays "KeyCustodyModel" "KeyCustodyModel" "thrownCode" "I" ∈ lw_good := tw_mk (i := 622) (by decide +kernel) (by decide +kernel)
theorem tw_623 : Cond.soleField "KeyCustodyModel" "thrownCode" ∈ lw_good := tw_mk (i := 623) (by decide +kernel) (by decide +kernel)
theorem tw_624 : Cond.lays "KeyCustodyModel" "KeyCustodyModel" "p" "I" ∈ lw_good := tw_mk (i := 624) (by decide +kernel) (by decide +kernel)
theorem tw_625 : Cond.soleField "KeyCustodyModel" "p" ∈ lw_good := tw_mk (i := 625) (by decide +kernel) (by decide +kernel)
theorem tw_626 : Cond.lays "KeyCustodyModel" "KeyCustodyModel" "q" "I" ∈ lw_good := tw_mk (i := 626) (by decide +kernel) (by decide +kernel)
theorem tw_627 : Cond.soleField "KeyCustodyModel" "q" ∈ lw_good := tw_mk (i := 627) (by decide +kernel) (by decide +kernel)
theorem tw_628 : Cond.lays "KeyCustodyModel" "KeyCustodyModel" "g" "I" ∈ lw_good := tw_mk (i := 628) (by decide +kernel) (by decide +kernel)
theorem tw_629 : Cond.soleField "KeyCustodyModel" "g" ∈ lw_good := tw_mk (i := 629) (by decide +kernel) (by decide +kernel)
theorem tw_630 : Cond.lays "KeyCustodyModel" "KeyCustodyModel" "founded" "Z" ∈ lw_good := tw_mk (i := 630) (by decide +kernel) (by decide +kernel)
theorem tw_631 : Cond.soleField "KeyCustodyModel" "founded" ∈ lw_good := tw_mk (i := 631) (by decide +kernel) (by decide +kernel)
theorem tw_632 : Cond.lays "KeyCustodyModel" "KeyCustodyModel" "week" "I" ∈ lw_good := tw_mk (i := 632) (by decide +kernel) (by decide +kernel)
theorem tw_633 : Cond.soleField "KeyCustodyModel" "week" ∈ lw_good := tw_mk (i := 633) (by decide +kernel) (by decide +kernel)
theorem tw_634 : Cond.laysFinal "KeyCustodyModel" "KeyCustodyModel" "share" "[I" ∈ lw_good := tw_mk (i := 634) (by decide +kernel) (by decide +kernel)
theorem tw_635 : Cond.soleField "KeyCustodyModel" "share" ∈ lw_good := tw_mk (i := 635) (by decide +kernel) (by decide +kernel)
theorem tw_636 : Cond.laysFinal "KeyCustodyModel" "KeyCustodyModel" "wiped" "[Z" ∈ lw_good := tw_mk (i := 636) (by decide +kernel) (by decide +kernel)
theorem tw_637 : Cond.soleField "KeyCustodyModel" "wiped" ∈ lw_good := tw_mk (i := 637) (by decide +kernel) (by decide +kernel)
theorem tw_638 : Cond.laysFinal "KeyCustodyModel" "KeyCustodyModel" "sums" "[I" ∈ lw_good := tw_mk (i := 638) (by decide +kernel) (by decide +kernel)
theorem tw_639 : Cond.soleField "KeyCustodyModel" "sums" ∈ lw_good := tw_mk (i := 639) (by decide +kernel) (by decide +kernel)
theorem tw_640 : Cond.laysFinal "KeyCustodyModel" "KeyCustodyModel" "kind" "[I" ∈ lw_good := tw_mk (i := 640) (by decide +kernel) (by decide +kernel)
theorem tw_641 : Cond.soleField "KeyCustodyModel" "kind" ∈ lw_good := tw_mk (i := 641) (by decide +kernel) (by decide +kernel)
theorem tw_642 : Cond.laysFinal "KeyCustodyModel" "KeyCustodyModel" "dealt" "[Z" ∈ lw_good := tw_mk (i := 642) (by decide +kernel) (by decide +kernel)
theorem tw_643 : Cond.soleField "KeyCustodyModel" "dealt" ∈ lw_good := tw_mk (i := 643) (by decide +kernel) (by decide +kernel)
theorem tw_644 : Cond.laysFinal "KeyCustodyModel" "KeyCustodyModel" "coef" "[I" ∈ lw_good := tw_mk (i := 644) (by decide +kernel) (by decide +kernel)
theorem tw_645 : Cond.soleField "KeyCustodyModel" "coef" ∈ lw_good := tw_mk (i := 645) (by decide +kernel) (by decide +kernel)
theorem tw_646 : Cond.laysFinal "KeyCustodyModel" "KeyCustodyModel" "commit" "[I" ∈ lw_good := tw_mk (i := 646) (by decide +kernel) (by decide +kernel)
theorem tw_647 : Cond.soleField "KeyCustodyModel" "commit" ∈ lw_good := tw_mk (i := 647) (by decide +kernel) (by decide +kernel)
theorem tw_648 : Cond.laysFinal "KeyCustodyModel" "KeyCustodyModel" "had" "[I" ∈ lw_good := tw_mk (i := 648) (by decide +kernel) (by decide +kernel)
theorem tw_649 : Cond.soleField "KeyCustodyModel" "had" ∈ lw_good := tw_mk (i := 649) (by decide +kernel) (by decide +kernel)
theorem tw_650 : Cond.laysFinal "KeyCustodyModel" "KeyCustodyModel" "complained" "[Z" ∈ lw_good := tw_mk (i := 650) (by decide +kernel) (by decide +kernel)
theorem tw_651 : Cond.soleField "KeyCustodyModel" "complained" ∈ lw_good := tw_mk (i := 651) (by decide +kernel) (by decide +kernel)
theorem tw_652 : Cond.laysFinal "KeyCustodyModel" "KeyCustodyModel" "settled" "[Z" ∈ lw_good := tw_mk (i := 652) (by decide +kernel) (by decide +kernel)
theorem tw_653 : Cond.soleField "KeyCustodyModel" "settled" ∈ lw_good := tw_mk (i := 653) (by decide +kernel) (by decide +kernel)
theorem tw_654 : Cond.lays "KeyCustodyModel" "KeyCustodyModel" "posts" "I" ∈ lw_good := tw_mk (i := 654) (by decide +kernel) (by decide +kernel)
theorem tw_655 : Cond.soleField "KeyCustodyModel" "posts" ∈ lw_good := tw_mk (i := 655) (by decide +kernel) (by decide +kernel)
theorem tw_656 : Cond.laysFinal "KeyCustodyModel" "KeyCustodyModel" "post" "[I" ∈ lw_good := tw_mk (i := 656) (by decide +kernel) (by decide +kernel)
theorem tw_657 : Cond.soleField "KeyCustodyModel" "post" ∈ lw_good := tw_mk (i := 657) (by decide +kernel) (by decide +kernel)
theorem tw_658 : Cond.superclass "KeyCustodyModel" "java/lang/Object" ∈ lw_good := tw_mk (i := 658) (by decide +kernel) (by decide +kernel)
theorem tw_659 : Cond.arrayClass FieldType.boolean ∈ lw_good := tw_mk (i := 659) (by decide +kernel) (by decide +kernel)
theorem tw_660 : Cond.methodLink "KeyCustodyLaw" 86 y_M_thrown ∈ lw_good := tw_mk (i := 660) (by decide +kernel) (by decide +kernel)
theorem tw_661 : Cond.instanceMethod y_M_thrown ∈ lw_good := tw_mk (i := 661) (by decide +kernel) (by decide +kernel)
theorem tw_662 : Cond.selects "KeyCustodyModel" y_M_thrown y_M_thrown ∈ lw_good := tw_mk (i := 662) (by decide +kernel) (by decide +kernel)
theorem tw_663 : Cond.code y_M_thrown b_M_thrown 1 (some FieldType.int) ∈ lw_good := tw_mk (i := 663) (by decide +kernel) (by decide +kernel)
theorem tw_664 : Cond.methodLink "KeyCustodyLaw" 85 y_M_group ∈ lw_good := tw_mk (i := 664) (by decide +kernel) (by decide +kernel)
theorem tw_665 : Cond.instanceMethod y_M_group ∈ lw_good := tw_mk (i := 665) (by decide +kernel) (by decide +kernel)
theorem tw_666 : Cond.selects "KeyCustodyModel" y_M_group y_M_group ∈ lw_good := tw_mk (i := 666) (by decide +kernel) (by decide +kernel)
theorem tw_667 : Cond.code y_M_group b_M_group 6 none ∈ lw_good := tw_mk (i := 667) (by decide +kernel) (by decide +kernel)
theorem tw_668 : Cond.methodLink "KeyCustodyModel" 83 y_M_prime ∈ lw_good := tw_mk (i := 668) (by decide +kernel) (by decide +kernel)
theorem tw_669 : Cond.static y_M_prime ∈ lw_good := tw_mk (i := 669) (by decide +kernel) (by decide +kernel)
theorem tw_670 : Cond.code y_M_prime b_M_prime 2 (some FieldType.boolean) ∈ lw_good := tw_mk (i := 670) (by decide +kernel) (by decide +kernel)
theorem tw_671 : Cond.constant "KeyCustodyModel" 67 (46341 : Int32) ∈ lw_good := tw_mk (i := 671) (by decide +kernel) (by decide +kernel)
theorem tw_672 : Cond.methodLink "KeyCustodyModel" 68 y_M_power ∈ lw_good := tw_mk (i := 672) (by decide +kernel) (by decide +kernel)
theorem tw_674 : Cond.instanceMethod y_M_power ∈ lw_good := tw_mk (i := 674) (by decide +kernel) (by decide +kernel)
theorem tw_675 : Cond.code y_M_power b_M_power 8 (some FieldType.int) ∈ lw_good := tw_mk (i := 675) (by decide +kernel) (by decide +kernel)
theorem tw_676 : Cond.methodLink "KeyCustodyLaw" 92 y_M_found ∈ lw_good := tw_mk (i := 676) (by decide +kernel) (by decide +kernel)
theorem tw_677 : Cond.instanceMethod y_M_found ∈ lw_good := tw_mk (i := 677) (by decide +kernel) (by decide +kernel)
theorem tw_678 : Cond.selects "KeyCustodyModel" y_M_found y_M_found ∈ lw_good := tw_mk (i := 678) (by decide +kernel) (by decide +kernel)
theorem tw_679 : Cond.code y_M_found b_M_found 6 none ∈ lw_good := tw_mk (i := 679) (by decide +kernel) (by decide +kernel)
theorem tw_680 : Cond.methodLink "KeyCustodyModel" 87 y_M_noNumber ∈ lw_good := tw_mk (i := 680) (by decide +kernel) (by decide +kernel)
theorem tw_682 : Cond.instanceMethod y_M_noNumber ∈ lw_good := tw_mk (i := 682) (by decide +kernel) (by decide +kernel)
theorem tw_683 : Cond.code y_M_noNumber b_M_noNumber 2 (some FieldType.boolean) ∈ lw_good := tw_mk (i := 683) (by decide +kernel) (by decide +kernel)
theorem tw_684 : Cond.methodLink "KeyCustodyModel" 76 y_M_valueAt ∈ lw_good := tw_mk (i := 684) (by decide +kernel) (by decide +kernel)
theorem tw_686 : Cond.instanceMethod y_M_valueAt ∈ lw_good := tw_mk (i := 686) (by decide +kernel) (by decide +kernel)
theorem tw_687 : Cond.code y_M_valueAt b_M_valueAt 5 (some FieldType.int) ∈ lw_good := tw_mk (i := 687) (by decide +kernel) (by decide +kernel)
theorem tw_688 : Cond.methodLink "KeyCustodyModel" 90 y_M_newWeek ∈ lw_good := tw_mk (i := 688) (by decide +kernel) (by decide +kernel)
theorem tw_690 : Cond.instanceMethod y_M_newWeek ∈ lw_good := tw_mk (i := 690) (by decide +kernel) (by decide +kernel)
theorem tw_691 : Cond.code y_M_newWeek b_M_newWeek 2 none ∈ lw_good := tw_mk (i := 691) (by decide +kernel) (by decide +kernel)
theorem tw_692 : Cond.methodLink "KeyCustodyLaw" 96 y_M_fault ∈ lw_good := tw_mk (i := 692) (by decide +kernel) (by decide +kernel)
theorem tw_693 : Cond.instanceMethod y_M_fault ∈ lw_good := tw_mk (i := 693) (by decide +kernel) (by decide +kernel)
theorem tw_694 : Cond.selects "KeyCustodyModel" y_M_fault y_M_fault ∈ lw_good := tw_mk (i := 694) (by decide +kernel) (by decide +kernel)
theorem tw_695 : Cond.code y_M_fault b_M_fault 5 none ∈ lw_good := tw_mk (i := 695) (by decide +kernel) (by decide +kernel)
theorem tw_696 : Cond.methodLink "KeyCustodyModel" 96 y_M_first ∈ lw_good := tw_mk (i := 696) (by decide +kernel) (by decide +kernel)
theorem tw_698 : Cond.instanceMethod y_M_first ∈ lw_good := tw_mk (i := 698) (by decide +kernel) (by decide +kernel)
theorem tw_699 : Cond.code y_M_first b_M_first 2 (some FieldType.int) ∈ lw_good := tw_mk (i := 699) (by decide +kernel) (by decide +kernel)
theorem tw_700 : Cond.methodLink "KeyCustodyModel" 93 y_M_noSeat ∈ lw_good := tw_mk (i := 700) (by decide +kernel) (by decide +kernel)
theorem tw_701 : Cond.static y_M_noSeat ∈ lw_good := tw_mk (i := 701) (by decide +kernel) (by decide +kernel)
theorem tw_702 : Cond.code y_M_noSeat b_M_noSeat 1 (some FieldType.boolean) ∈ lw_good := tw_mk (i := 702) (by decide +kernel) (by decide +kernel)
theorem tw_703 : Cond.methodLink "KeyCustodyLaw" 99 y_M_deal ∈ lw_good := tw_mk (i := 703) (by decide +kernel) (by decide +kernel)
theorem tw_704 : Cond.instanceMethod y_M_deal ∈ lw_good := tw_mk (i := 704) (by decide +kernel) (by decide +kernel)
theorem tw_705 : Cond.selects "KeyCustodyModel" y_M_deal y_M_deal ∈ lw_good := tw_mk (i := 705) (by decide +kernel) (by decide +kernel)
theorem tw_706 : Cond.code y_M_deal b_M_deal 6 none ∈ lw_good := tw_mk (i := 706) (by decide +kernel) (by decide +kernel)
theorem tw_707 : Cond.methodLink "KeyCustodyModel" 99 y_M_put ∈ lw_good := tw_mk (i := 707) (by decide +kernel) (by decide +kernel)
theorem tw_709 : Cond.instanceMethod y_M_put ∈ lw_good := tw_mk (i := 709) (by decide +kernel) (by decide +kernel)
theorem tw_710 : Cond.code y_M_put b_M_put 6 none ∈ lw_good := tw_mk (i := 710) (by decide +kernel) (by decide +kernel)
theorem tw_711 : Cond.methodLink "KeyCustodyModel" 103 y_M_sent ∈ lw_good := tw_mk (i := 711) (by decide +kernel) (by decide +kernel)
theorem tw_713 : Cond.instanceMethod y_M_sent ∈ lw_good := tw_mk (i := 713) (by decide +kernel) (by decide +kernel)
theorem tw_714 : Cond.code y_M_sent b_M_sent 5 (some FieldType.int) ∈ lw_good := tw_mk (i := 714) (by decide +kernel) (by decide +kernel)
theorem tw_715 : Cond.methodLink "KeyCustodyLaw" 103 y_M_look ∈ lw_good := tw_mk (i := 715) (by decide +kernel) (by decide +kernel)
theorem tw_716 : Cond.instanceMethod y_M_look ∈ lw_good := tw_mk (i := 716) (by decide +kernel) (by decide +kernel)
theorem tw_717 : Cond.selects "KeyCustodyModel" y_M_look y_M_look ∈ lw_good := tw_mk (i := 717) (by decide +kernel) (by decide +kernel)
theorem tw_718 : Cond.code y_M_look b_M_look 4 (some FieldType.int) ∈ lw_good := tw_mk (i := 718) (by decide +kernel) (by decide +kernel)
theorem tw_719 : Cond.methodLink "KeyCustodyModel" 106 y_M_complains ∈ lw_good := tw_mk (i := 719) (by decide +kernel) (by decide +kernel)
theorem tw_721 : Cond.instanceMethod y_M_complains ∈ lw_good := tw_mk (i := 721) (by decide +kernel) (by decide +kernel)
theorem tw_722 : Cond.code y_M_complains b_M_complains 3 (some FieldType.boolean) ∈ lw_good := tw_mk (i := 722) (by decide +kernel) (by decide +kernel)
theorem tw_723 : Cond.methodLink "KeyCustodyModel" 110 y_M_dealer ∈ lw_good := tw_mk (i := 723) (by decide +kernel) (by decide +kernel)
theorem tw_725 : Cond.instanceMethod y_M_dealer ∈ lw_good := tw_mk (i := 725) (by decide +kernel) (by decide +kernel)
theorem tw_726 : Cond.code y_M_dealer b_M_dealer 2 (some FieldType.boolean) ∈ lw_good := tw_mk (i := 726) (by decide +kernel) (by decide +kernel)
theorem tw_727 : Cond.methodLink "KeyCustodyModel" 113 y_M_goodShare ∈ lw_good := tw_mk (i := 727) (by decide +kernel) (by decide +kernel)
theorem tw_729 : Cond.instanceMethod y_M_goodShare ∈ lw_good := tw_mk (i := 729) (by decide +kernel) (by decide +kernel)
theorem tw_730 : Cond.code y_M_goodShare b_M_goodShare 4 (some FieldType.boolean) ∈ lw_good := tw_mk (i := 730) (by decide +kernel) (by decide +kernel)
theorem tw_731 : Cond.methodLink "KeyCustodyModel" 72 y_M_timesAt ∈ lw_good := tw_mk (i := 731) (by decide +kernel) (by decide +kernel)
theorem tw_733 : Cond.instanceMethod y_M_timesAt ∈ lw_good := tw_mk (i := 733) (by decide +kernel) (by decide +kernel)
theorem tw_734 : Cond.code y_M_timesAt b_M_timesAt 8 (some FieldType.int) ∈ lw_good := tw_mk (i := 734) (by decide +kernel) (by decide +kernel)
theorem tw_735 : Cond.methodLink "KeyCustodyLaw" 107 y_M_answer ∈ lw_good := tw_mk (i := 735) (by decide +kernel) (by decide +kernel)
theorem tw_736 : Cond.instanceMethod y_M_answer ∈ lw_good := tw_mk (i := 736) (by decide +kernel) (by decide +kernel)
theorem tw_737 : Cond.selects "KeyCustodyModel" y_M_answer y_M_answer ∈ lw_good := tw_mk (i := 737) (by decide +kernel) (by decide +kernel)
theorem tw_738 : Cond.code y_M_answer b_M_answer 5 (some FieldType.boolean) ∈ lw_good := tw_mk (i := 738) (by decide +kernel) (by decide +kernel)
theorem tw_739 : Cond.methodLink "KeyCustodyLaw" 111 y_M_close ∈ lw_good := tw_mk (i := 739) (by decide +kernel) (by decide +kernel)
theorem tw_740 : Cond.instanceMethod y_M_close ∈ lw_good := tw_mk (i := 740) (by decide +kernel) (by decide +kernel)
theorem tw_741 : Cond.selects "KeyCustodyModel" y_M_close y_M_close ∈ lw_good := tw_mk (i := 741) (by decide +kernel) (by decide +kernel)
theorem tw_742 : Cond.code y_M_close b_M_close 4 (some FieldType.int) ∈ lw_good := tw_mk (i := 742) (by decide +kernel) (by decide +kernel)
theorem tw_743 : Cond.methodLink "KeyCustodyModel" 117 y_M_accepted ∈ lw_good := tw_mk (i := 743) (by decide +kernel) (by decide +kernel)
theorem tw_745 : Cond.instanceMethod y_M_accepted ∈ lw_good := tw_mk (i := 745) (by decide +kernel) (by decide +kernel)
theorem tw_746 : Cond.code y_M_accepted b_M_accepted 3 (some FieldType.boolean) ∈ lw_good := tw_mk (i := 746) (by decide +kernel) (by decide +kernel)
theorem tw_747 : Cond.methodLink "KeyCustodyLaw" 115 y_M_wipe ∈ lw_good := tw_mk (i := 747) (by decide +kernel) (by decide +kernel)
theorem tw_748 : Cond.instanceMethod y_M_wipe ∈ lw_good := tw_mk (i := 748) (by decide +kernel) (by decide +kernel)
theorem tw_749 : Cond.selects "KeyCustodyModel" y_M_wipe y_M_wipe ∈ lw_good := tw_mk (i := 749) (by decide +kernel) (by decide +kernel)
theorem tw_750 : Cond.code y_M_wipe b_M_wipe 2 none ∈ lw_good := tw_mk (i := 750) (by decide +kernel) (by decide +kernel)
theorem tw_751 : Cond.methodLink "KeyCustodyLaw" 118 y_M_recover ∈ lw_good := tw_mk (i := 751) (by decide +kernel) (by decide +kernel)
theorem tw_752 : Cond.instanceMethod y_M_recover ∈ lw_good := tw_mk (i := 752) (by decide +kernel) (by decide +kernel)
theorem tw_753 : Cond.selects "KeyCustodyModel" y_M_recover y_M_recover ∈ lw_good := tw_mk (i := 753) (by decide +kernel) (by decide +kernel)
theorem tw_754 : Cond.code y_M_recover b_M_recover 4 (some FieldType.int) ∈ lw_good := tw_mk (i := 754) (by decide +kernel) (by decide +kernel)
theorem tw_755 : Cond.methodLink "KeyCustodyModel" 120 y_M_fitsSums ∈ lw_good := tw_mk (i := 755) (by decide +kernel) (by decide +kernel)
theorem tw_757 : Cond.instanceMethod y_M_fitsSums ∈ lw_good := tw_mk (i := 757) (by decide +kernel) (by decide +kernel)
theorem tw_758 : Cond.code y_M_fitsSums b_M_fitsSums 2 (some FieldType.boolean) ∈ lw_good := tw_mk (i := 758) (by decide +kernel) (by decide +kernel)
theorem tw_759 : Cond.methodLink "KeyCustodyModel" 123 y_M_four ∈ lw_good := tw_mk (i := 759) (by decide +kernel) (by decide +kernel)
theorem tw_760 : Cond.static y_M_four ∈ lw_good := tw_mk (i := 760) (by decide +kernel) (by decide +kernel)
theorem tw_761 : Cond.code y_M_four b_M_four 4 (some FieldType.int) ∈ lw_good := tw_mk (i := 761) (by decide +kernel) (by decide +kernel)
theorem tw_762 : Cond.methodLink "KeyCustodyModel" 126 y_M_interpolate ∈ lw_good := tw_mk (i := 762) (by decide +kernel) (by decide +kernel)
theorem tw_764 : Cond.instanceMethod y_M_interpolate ∈ lw_good := tw_mk (i := 764) (by decide +kernel) (by decide +kernel)
theorem tw_765 : Cond.code y_M_interpolate b_M_interpolate 7 (some FieldType.int) ∈ lw_good := tw_mk (i := 765) (by decide +kernel) (by decide +kernel)
theorem tw_766 : Cond.methodLink "KeyCustodyModel" 79 y_M_inverse ∈ lw_good := tw_mk (i := 766) (by decide +kernel) (by decide +kernel)
theorem tw_768 : Cond.instanceMethod y_M_inverse ∈ lw_good := tw_mk (i := 768) (by decide +kernel) (by decide +kernel)
theorem tw_769 : Cond.code y_M_inverse b_M_inverse 5 (some FieldType.int) ∈ lw_good := tw_mk (i := 769) (by decide +kernel) (by decide +kernel)
theorem tw_770 : Cond.methodLink "KeyCustodyLaw" 121 y_M_share ∈ lw_good := tw_mk (i := 770) (by decide +kernel) (by decide +kernel)
theorem tw_771 : Cond.instanceMethod y_M_share ∈ lw_good := tw_mk (i := 771) (by decide +kernel) (by decide +kernel)
theorem tw_772 : Cond.selects "KeyCustodyModel" y_M_share y_M_share ∈ lw_good := tw_mk (i := 772) (by decide +kernel) (by decide +kernel)
theorem tw_773 : Cond.code y_M_share b_M_share 2 (some FieldType.int) ∈ lw_good := tw_mk (i := 773) (by decide +kernel) (by decide +kernel)
theorem tw_774 : Cond.methodLink "KeyCustodyLaw" 124 y_M_fits ∈ lw_good := tw_mk (i := 774) (by decide +kernel) (by decide +kernel)
theorem tw_775 : Cond.instanceMethod y_M_fits ∈ lw_good := tw_mk (i := 775) (by decide +kernel) (by decide +kernel)
theorem tw_776 : Cond.selects "KeyCustodyModel" y_M_fits y_M_fits ∈ lw_good := tw_mk (i := 776) (by decide +kernel) (by decide +kernel)
theorem tw_777 : Cond.code y_M_fits b_M_fits 2 (some FieldType.boolean) ∈ lw_good := tw_mk (i := 777) (by decide +kernel) (by decide +kernel)
theorem tw_778 : Cond.methodLink "KeyCustodyLaw" 127 y_M_sum ∈ lw_good := tw_mk (i := 778) (by decide +kernel) (by decide +kernel)
theorem tw_779 : Cond.instanceMethod y_M_sum ∈ lw_good := tw_mk (i := 779) (by decide +kernel) (by decide +kernel)
theorem tw_780 : Cond.selects "KeyCustodyModel" y_M_sum y_M_sum ∈ lw_good := tw_mk (i := 780) (by decide +kernel) (by decide +kernel)
theorem tw_781 : Cond.code y_M_sum b_M_sum 2 (some FieldType.int) ∈ lw_good := tw_mk (i := 781) (by decide +kernel) (by decide +kernel)
theorem tw_782 : Cond.methodLink "KeyCustodyLaw" 130 y_M_element ∈ lw_good := tw_mk (i := 782) (by decide +kernel) (by decide +kernel)
theorem tw_783 : Cond.instanceMethod y_M_element ∈ lw_good := tw_mk (i := 783) (by decide +kernel) (by decide +kernel)
theorem tw_784 : Cond.selects "KeyCustodyModel" y_M_element y_M_element ∈ lw_good := tw_mk (i := 784) (by decide +kernel) (by decide +kernel)
theorem tw_785 : Cond.code y_M_element b_M_element 2 (some FieldType.int) ∈ lw_good := tw_mk (i := 785) (by decide +kernel) (by decide +kernel)
theorem tw_786 : Cond.methodLink "KeyCustodyLaw" 133 y_M_reconstruct ∈ lw_good := tw_mk (i := 786) (by decide +kernel) (by decide +kernel)
theorem tw_787 : Cond.instanceMethod y_M_reconstruct ∈ lw_good := tw_mk (i := 787) (by decide +kernel) (by decide +kernel)
theorem tw_788 : Cond.selects "KeyCustodyModel" y_M_reconstruct y_M_reconstruct ∈ lw_good := tw_mk (i := 788) (by decide +kernel) (by decide +kernel)
theorem tw_789 : Cond.code y_M_reconstruct b_M_reconstruct 3 (some FieldType.int) ∈ lw_good := tw_mk (i := 789) (by decide +kernel) (by decide +kernel)
theorem tw_790 : Cond.methodLink "KeyCustodyLaw" 136 y_M_post ∈ lw_good := tw_mk (i := 790) (by decide +kernel) (by decide +kernel)
theorem tw_791 : Cond.instanceMethod y_M_post ∈ lw_good := tw_mk (i := 791) (by decide +kernel) (by decide +kernel)
theorem tw_792 : Cond.selects "KeyCustodyModel" y_M_post y_M_post ∈ lw_good := tw_mk (i := 792) (by decide +kernel) (by decide +kernel)
theorem tw_793 : Cond.code y_M_post b_M_post 3 (some FieldType.int) ∈ lw_good := tw_mk (i := 793) (by decide +kernel) (by decide +kernel)
theorem tw_794 : Cond.methodLink "KeyCustodyLaw" 139 y_M_about ∈ lw_good := tw_mk (i := 794) (by decide +kernel) (by decide +kernel)
theorem tw_795 : Cond.instanceMethod y_M_about ∈ lw_good := tw_mk (i := 795) (by decide +kernel) (by decide +kernel)
theorem tw_796 : Cond.selects "KeyCustodyModel" y_M_about y_M_about ∈ lw_good := tw_mk (i := 796) (by decide +kernel) (by decide +kernel)
theorem tw_797 : Cond.code y_M_about b_M_about 5 (some FieldType.int) ∈ lw_good := tw_mk (i := 797) (by decide +kernel) (by decide +kernel)
theorem tw_798 : Cond.arrayClass FieldType.long ∈ lw_good := tw_mk (i := 798) (by decide +kernel) (by decide +kernel)
theorem tw_799 : Cond.sameMethod "java/lang/Throwable" "java/lang/Throwable" "fillInStackTrace" "(I)Ljava/lang/Throwable;" ∈ lw_good := tw_mk (i := 799) (by decide +kernel) (by decide +kernel)
-- not good, place 28: Cond.methodLinkNest "KeyCustody" 11 y_G_init "KeyCustody"
-- not good, place 44: Cond.methodLinkNest "KeyCustody" 18 y_B_init "KeyCustody"
-- not good, place 63: Cond.arrayOver (FieldType.array FieldType.int)
-- not good, place 133: Cond.castable "java/lang/IllegalArgumentException" "java/lang/IllegalArgumentException"
-- not good, place 134: Cond.declares y_JR_init
-- not good, place 135: Cond.declares y_JR_init_LSV
-- not good, place 136: Cond.declares y_JE_init
-- not good, place 137: Cond.declares y_JE_init_LSV
-- not good, place 138: Cond.declares y_JT_init
-- not good, place 139: Cond.declares y_JT_init_LSV
-- not good, place 158: Cond.laysStatic "java/lang/Throwable" "UNASSIGNED_STACK" "[Ljava/lang/StackTraceElement;"
-- not good, place 160: Cond.laysStatic "java/lang/Throwable" "SUPPRESSED_SENTINEL" "Ljava/util/List;"
-- not good, place 170: Cond.privateMethod y_JT_fillInStackTrace_ILT
-- not good, place 226: Cond.castable "java/lang/IllegalStateException" "java/lang/IllegalStateException"
-- not good, place 260: Cond.privateMethod y_G_multiplyNumbers
-- not good, place 277: Cond.privateMethod y_K_requireFounded
-- not good, place 285: Cond.castable "java/util/NoSuchElementException" "java/util/NoSuchElementException"
-- not good, place 302: Cond.methodLinkNest "KeyCustody$Week" 49 y_K_isAmong "KeyCustody"
-- not good, place 316: Cond.methodLinkNest "KeyCustody$Week" 57 y_K_bit "KeyCustody"
-- not good, place 325: Cond.castable "java/lang/UnsupportedOperationException" "java/lang/UnsupportedOperationException"
-- not good, place 365: Cond.methodLinkNest "KeyCustody$Week" 66 y_K_writeRow "KeyCustody"
-- not good, place 368: Cond.privateMethod y_V_rightShare
-- not good, place 373: Cond.privateMethod y_V_isCheated
-- not good, place 404: Cond.privateMethod y_V_objectsTo
-- not good, place 457: Cond.privateMethod y_K_takeOver
-- not good, place 461: Cond.privateMethod y_K_isWiped
-- not good, place 485: Cond.privateMethod y_K_sound
-- not good, place 489: Cond.privateMethod y_K_isSound
-- not good, place 500: Cond.methodLinkNest "KeyCustody$Group" 46 y_K_isAmong "KeyCustody"
-- not good, place 502: Cond.privateMethod y_G_weight
-- not good, place 532: Cond.castable "java/lang/IndexOutOfBoundsException" "java/lang/IndexOutOfBoundsException"
-- not good, place 561: Cond.privateMethod y_K_wiped
-- not good, place 673: Cond.privateMethod y_M_power
-- not good, place 681: Cond.privateMethod y_M_noNumber
-- not good, place 685: Cond.privateMethod y_M_valueAt
-- not good, place 689: Cond.privateMethod y_M_newWeek
-- not good, place 697: Cond.privateMethod y_M_first
-- not good, place 708: Cond.privateMethod y_M_put
-- not good, place 712: Cond.privateMethod y_M_sent
-- not good, place 720: Cond.privateMethod y_M_complains
-- not good, place 724: Cond.privateMethod y_M_dealer
-- not good, place 728: Cond.privateMethod y_M_goodShare
-- not good, place 732: Cond.privateMethod y_M_timesAt
-- not good, place 744: Cond.privateMethod y_M_accepted
-- not good, place 756: Cond.privateMethod y_M_fitsSums
-- not good, place 763: Cond.privateMethod y_M_interpolate
-- not good, place 767: Cond.privateMethod y_M_inverse
def kc_nest : List (String × Nat × MethodName × String) := [("KeyCustody", 11, y_G_init, "KeyCustody"), ("KeyCustody", 18, y_B_init, "KeyCustody"), ("KeyCustody$Week", 49, y_K_isAmong, "KeyCustody"), ("KeyCustody$Week", 57, y_K_bit, "KeyCustody"), ("KeyCustody$Week", 66, y_K_writeRow, "KeyCustody"), ("KeyCustody$Group", 46, y_K_isAmong, "KeyCustody")]
theorem kx_K_11 : (("KeyCustody", 11, y_G_init, "KeyCustody") : String × Nat × MethodName × String) ∈ kc_nest := List.mem_of_getElem? (i := 0) rfl
theorem kx_K_18 : (("KeyCustody", 18, y_B_init, "KeyCustody") : String × Nat × MethodName × String) ∈ kc_nest := List.mem_of_getElem? (i := 1) rfl
theorem kx_V_49 : (("KeyCustody$Week", 49, y_K_isAmong, "KeyCustody") : String × Nat × MethodName × String) ∈ kc_nest := List.mem_of_getElem? (i := 2) rfl
theorem kx_V_57 : (("KeyCustody$Week", 57, y_K_bit, "KeyCustody") : String × Nat × MethodName × String) ∈ kc_nest := List.mem_of_getElem? (i := 3) rfl
theorem kx_V_66 : (("KeyCustody$Week", 66, y_K_writeRow, "KeyCustody") : String × Nat × MethodName × String) ∈ kc_nest := List.mem_of_getElem? (i := 4) rfl
theorem kx_G_46 : (("KeyCustody$Group", 46, y_K_isAmong, "KeyCustody") : String × Nat × MethodName × String) ∈ kc_nest := List.mem_of_getElem? (i := 5) rfl
theorem ts_G_multiplyNumbers : Cond.selects "KeyCustody$Group" y_G_multiplyNumbers y_G_multiplyNumbers ∈ lw_good := ts_mk (i := 1) rfl (by decide +kernel)
theorem ts_K_requireFounded : Cond.selects "KeyCustody" y_K_requireFounded y_K_requireFounded ∈ lw_good := ts_mk (i := 2) rfl (by decide +kernel)
theorem ts_V_rightShare : Cond.selects "KeyCustody$Week" y_V_rightShare y_V_rightShare ∈ lw_good := ts_mk (i := 3) rfl (by decide +kernel)
theorem ts_V_isCheated : Cond.selects "KeyCustody$Week" y_V_isCheated y_V_isCheated ∈ lw_good := ts_mk (i := 4) rfl (by decide +kernel)
theorem ts_V_objectsTo : Cond.selects "KeyCustody$Week" y_V_objectsTo y_V_objectsTo ∈ lw_good := ts_mk (i := 5) rfl (by decide +kernel)
theorem ts_K_takeOver : Cond.selects "KeyCustody" y_K_takeOver y_K_takeOver ∈ lw_good := ts_mk (i := 6) rfl (by decide +kernel)
theorem ts_K_isWiped : Cond.selects "KeyCustody" y_K_isWiped y_K_isWiped ∈ lw_good := ts_mk (i := 7) rfl (by decide +kernel)
theorem ts_K_sound : Cond.selects "KeyCustody" y_K_sound y_K_sound ∈ lw_good := ts_mk (i := 8) rfl (by decide +kernel)
theorem ts_K_isSound : Cond.selects "KeyCustody" y_K_isSound y_K_isSound ∈ lw_good := ts_mk (i := 9) rfl (by decide +kernel)
theorem ts_G_weight : Cond.selects "KeyCustody$Group" y_G_weight y_G_weight ∈ lw_good := ts_mk (i := 10) rfl (by decide +kernel)
theorem ts_K_wiped : Cond.selects "KeyCustody" y_K_wiped y_K_wiped ∈ lw_good := ts_mk (i := 11) rfl (by decide +kernel)
theorem ts_M_power : Cond.selects "KeyCustodyModel" y_M_power y_M_power ∈ lw_good := ts_mk (i := 12) rfl (by decide +kernel)
theorem ts_M_noNumber : Cond.selects "KeyCustodyModel" y_M_noNumber y_M_noNumber ∈ lw_good := ts_mk (i := 13) rfl (by decide +kernel)
theorem ts_M_valueAt : Cond.selects "KeyCustodyModel" y_M_valueAt y_M_valueAt ∈ lw_good := ts_mk (i := 14) rfl (by decide +kernel)
theorem ts_M_newWeek : Cond.selects "KeyCustodyModel" y_M_newWeek y_M_newWeek ∈ lw_good := ts_mk (i := 15) rfl (by decide +kernel)
theorem ts_M_first : Cond.selects "KeyCustodyModel" y_M_first y_M_first ∈ lw_good := ts_mk (i := 16) rfl (by decide +kernel)
theorem ts_M_put : Cond.selects "KeyCustodyModel" y_M_put y_M_put ∈ lw_good := ts_mk (i := 17) rfl (by decide +kernel)
theorem ts_M_sent : Cond.selects "KeyCustodyModel" y_M_sent y_M_sent ∈ lw_good := ts_mk (i := 18) rfl (by decide +kernel)
theorem ts_M_complains : Cond.selects "KeyCustodyModel" y_M_complains y_M_complains ∈ lw_good := ts_mk (i := 19) rfl (by decide +kernel)
theorem ts_M_dealer : Cond.selects "KeyCustodyModel" y_M_dealer y_M_dealer ∈ lw_good := ts_mk (i := 20) rfl (by decide +kernel)
theorem ts_M_goodShare : Cond.selects "KeyCustodyModel" y_M_goodShare y_M_goodShare ∈ lw_good := ts_mk (i := 21) rfl (by decide +kernel)
theorem ts_M_timesAt : Cond.selects "KeyCustodyModel" y_M_timesAt y_M_timesAt ∈ lw_good := ts_mk (i := 22) rfl (by decide +kernel)
theorem ts_M_accepted : Cond.selects "KeyCustodyModel" y_M_accepted y_M_accepted ∈ lw_good := ts_mk (i := 23) rfl (by decide +kernel)
theorem ts_M_fitsSums : Cond.selects "KeyCustodyModel" y_M_fitsSums y_M_fitsSums ∈ lw_good := ts_mk (i := 24) rfl (by decide +kernel)
theorem ts_M_interpolate : Cond.selects "KeyCustodyModel" y_M_interpolate y_M_interpolate ∈ lw_good := ts_mk (i := 25) rfl (by decide +kernel)
theorem ts_M_inverse : Cond.selects "KeyCustodyModel" y_M_inverse y_M_inverse ∈ lw_good := ts_mk (i := 26) rfl (by decide +kernel)
end
section
def T_K : u_T := fun k => match k with
  | 0 => ("KeyCustody", "group", "LKeyCustody$Group;", true)
  | 1 => ("KeyCustody", "board", "LKeyCustody$Board;", true)
  | 2 => ("KeyCustody", "week", "LKeyCustody$Week;", true)
  | 3 => ("KeyCustody", "shares", "[I", true)
  | 4 => ("KeyCustody", "sums", "[I", true)
  | 5 => ("KeyCustody", "founding", "[I", true)
  | _ => ("KeyCustody", "weekNumber", "I", false)
def ty_K : Nat → FieldType := fun k => match k with
  | 0 => .object "KeyCustody$Group"
  | 1 => .object "KeyCustody$Board"
  | 2 => .object "KeyCustody$Week"
  | 3 => .array .int
  | 4 => .array .int
  | 5 => .array .int
  | _ => .int
theorem nm_K : ∀ a, a < 7 → ∀ b, b < 7 → a ≠ b → (T_K a).2.1 ≠ (T_K b).2.1 := by decide +kernel
theorem ok_K : ∀ k, k < 7 → parseFieldDescriptor (T_K k).2.2.1 = some (ty_K k) := by decide +kernel
theorem ui_K : ∀ w ∈ u_ws "KeyCustody" T_K 7, w ∈ lw_good := by decide +kernel
def T_M : u_T := fun k => match k with
  | 0 => ("KeyCustodyModel", "thrownCode", "I", false)
  | 1 => ("KeyCustodyModel", "p", "I", false)
  | 2 => ("KeyCustodyModel", "q", "I", false)
  | 3 => ("KeyCustodyModel", "g", "I", false)
  | 4 => ("KeyCustodyModel", "founded", "Z", false)
  | 5 => ("KeyCustodyModel", "week", "I", false)
  | 6 => ("KeyCustodyModel", "share", "[I", true)
  | 7 => ("KeyCustodyModel", "wiped", "[Z", true)
  | 8 => ("KeyCustodyModel", "sums", "[I", true)
  | 9 => ("KeyCustodyModel", "kind", "[I", true)
  | 10 => ("KeyCustodyModel", "dealt", "[Z", true)
  | 11 => ("KeyCustodyModel", "coef", "[I", true)
  | 12 => ("KeyCustodyModel", "commit", "[I", true)
  | 13 => ("KeyCustodyModel", "had", "[I", true)
  | 14 => ("KeyCustodyModel", "complained", "[Z", true)
  | 15 => ("KeyCustodyModel", "settled", "[Z", true)
  | 16 => ("KeyCustodyModel", "posts", "I", false)
  | _ => ("KeyCustodyModel", "post", "[I", true)
def ty_M : Nat → FieldType := fun k => match k with
  | 0 => .int
  | 1 => .int
  | 2 => .int
  | 3 => .int
  | 4 => .boolean
  | 5 => .int
  | 6 => .array .int
  | 7 => .array .boolean
  | 8 => .array .int
  | 9 => .array .int
  | 10 => .array .boolean
  | 11 => .array .int
  | 12 => .array .int
  | 13 => .array .int
  | 14 => .array .boolean
  | 15 => .array .boolean
  | 16 => .int
  | _ => .array .int
theorem nm_M : ∀ a, a < 18 → ∀ b, b < 18 → a ≠ b → (T_M a).2.1 ≠ (T_M b).2.1 := by decide +kernel
theorem ok_M : ∀ k, k < 18 → parseFieldDescriptor (T_M k).2.2.1 = some (ty_M k) := by decide +kernel
theorem ui_M : ∀ w ∈ u_ws "KeyCustodyModel" T_M 18, w ∈ lw_good := by decide +kernel
def T_B : u_T := fun k => match k with
  | 0 => ("KeyCustody$Board", "cells", "[I", true)
  | _ => ("KeyCustody$Board", "size", "I", false)
def ty_B : Nat → FieldType := fun k => match k with
  | 0 => .array .int
  | _ => .int
theorem nm_B : ∀ a, a < 2 → ∀ b, b < 2 → a ≠ b → (T_B a).2.1 ≠ (T_B b).2.1 := by decide +kernel
theorem ok_B : ∀ k, k < 2 → parseFieldDescriptor (T_B k).2.2.1 = some (ty_B k) := by decide +kernel
theorem ui_B : ∀ w ∈ u_ws "KeyCustody$Board" T_B 2, w ∈ lw_good := by decide +kernel
def T_G : u_T := fun k => match k with
  | 0 => ("KeyCustody$Group", "p", "I", false)
  | 1 => ("KeyCustody$Group", "q", "I", false)
  | _ => ("KeyCustody$Group", "g", "I", false)
def ty_G : Nat → FieldType := fun k => match k with
  | 0 => .int
  | 1 => .int
  | _ => .int
theorem nm_G : ∀ a, a < 3 → ∀ b, b < 3 → a ≠ b → (T_G a).2.1 ≠ (T_G b).2.1 := by decide +kernel
theorem ok_G : ∀ k, k < 3 → parseFieldDescriptor (T_G k).2.2.1 = some (ty_G k) := by decide +kernel
theorem ui_G : ∀ w ∈ u_ws "KeyCustody$Group" T_G 3, w ∈ lw_good := by decide +kernel
def T_V : u_T := fun k => match k with
  | 0 => ("KeyCustody$Week", "group", "LKeyCustody$Group;", true)
  | 1 => ("KeyCustody$Week", "kinds", "[I", true)
  | 2 => ("KeyCustody$Week", "coefficients", "[[I", true)
  | 3 => ("KeyCustody$Week", "commitments", "[[I", true)
  | 4 => ("KeyCustody$Week", "had", "[[I", true)
  | 5 => ("KeyCustody$Week", "complainers", "[I", true)
  | 6 => ("KeyCustody$Week", "contented", "[I", true)
  | 7 => ("KeyCustody$Week", "done", "I", false)
  | _ => ("KeyCustody$Week", "dealers", "I", false)
def ty_V : Nat → FieldType := fun k => match k with
  | 0 => .object "KeyCustody$Group"
  | 1 => .array .int
  | 2 => .array (.array .int)
  | 3 => .array (.array .int)
  | 4 => .array (.array .int)
  | 5 => .array .int
  | 6 => .array .int
  | 7 => .int
  | _ => .int
theorem nm_V : ∀ a, a < 9 → ∀ b, b < 9 → a ≠ b → (T_V a).2.1 ≠ (T_V b).2.1 := by decide +kernel
theorem ok_V : ∀ k, k < 9 → parseFieldDescriptor (T_V k).2.2.1 = some (ty_V k) := by decide +kernel
theorem ui_V : ∀ w ∈ u_ws "KeyCustody$Week" T_V 9, w ∈ lw_good := by decide +kernel
abbrev cls_all : List vw_C := [("KeyCustody", T_K, 7), ("KeyCustodyModel", T_M, 18), ("KeyCustody$Board", T_B, 2), ("KeyCustody$Group", T_G, 3), ("KeyCustody$Week", T_V, 9)]
end
section
/-! own layer: a world of one shape; its contents are numbers by cell and place -/
abbrev kc_Sh : Type := (ClassId × Nat) ⊕ ((ClassId × Nat × Nat) ⊕ ((Nat × List (Option Nat)) ⊕ (ClassId × Nat)))
abbrev kc_Sg : Type := Nat → Nat → Int32
def kc_fv (ad : Nat → Nat) (f : Nat → Int32) : Nat → List (Option Nat) → List Value
  | _, [] => []
  | j, none :: t => .int (f j) :: kc_fv ad f (j + 1) t
  | j, some r :: t => .ref (ad r) :: kc_fv ad f (j + 1) t
def kc_ce (sh : Nat → kc_Sh) (ad : Nat → Nat) (σ : kc_Sg) (k : Nat) : va_E := match sh k with
  | .inl a => .inl (a.1, a.2, .inl (σ k))
  | .inr (.inl a) => .inl (a.1, a.2.1, .inr (.inr (.inr (.inr (fun i => some (ad (a.2.2 + i)))))))
  | .inr (.inr (.inl b)) => .inr (b.1, kc_fv ad (σ k) 0 b.2)
  | .inr (.inr (.inr a)) => .inl (a.1, a.2, .inr (.inl (fun i => (σ k i).toInt64)))
def kc_wo (sh : Nat → kc_Sh) (N : Nat) (ad : Nat → Nat) (σ : kc_Sg) : va_W := (List.range N).map (fun k => (ad k, kc_ce sh ad σ k))
section KCW
variable {sh : Nat → kc_Sh} {N : Nat} {ad : Nat → Nat} {σ σ' : kc_Sg} {k j i n r ci : Nat} {v : va_E} {f g : Nat → Int32} {x : Int32} {fds : List (Option Nat)} {cA : ClassId}
theorem kc_wo_at (h : k < N) : (kc_wo sh N ad σ)[k]? = some (ad k, kc_ce sh ad σ k) := by
  unfold kc_wo
  rw [List.getElem?_map, List.getElem?_range h]
  rfl
theorem kc_wo_in {q : Nat × va_E} (h : (kc_wo sh N ad σ)[k]? = some q) : k < N ∧ q = (ad k, kc_ce sh ad σ k) := by
  have hk : k < N := by
    have := (List.getElem?_eq_some_iff.mp h).1
    unfold kc_wo at this
    simpa using this
  exact ⟨hk, (Option.some.inj ((kc_wo_at hk).symm.trans h)).symm⟩
theorem kc_wo_set (h : k < N) (he : kc_ce sh ad σ' k = v) (ho : ∀ j, j ≠ k → kc_ce sh ad σ' j = kc_ce sh ad σ j) : (kc_wo sh N ad σ).set k (ad k, v) = kc_wo sh N ad σ' := by
  apply List.ext_getElem?
  intro j
  by_cases hj : k = j
  · subst hj
    rw [List.getElem?_set_self (by unfold kc_wo; simpa using h), kc_wo_at h, he]
  · rw [List.getElem?_set_ne hj]
    by_cases hN : j < N
    · rw [kc_wo_at hN, kc_wo_at hN, ho j (fun q => hj q.symm)]
    · rw [List.getElem?_eq_none (by unfold kc_wo; simpa using hN), List.getElem?_eq_none (by unfold kc_wo; simpa using hN)]
theorem kc_ce_eq (h : σ' k = σ k) : kc_ce sh ad σ' k = kc_ce sh ad σ k := by
  unfold kc_ce
  rw [h]
def kc_up (σ : kc_Sg) (k i : Nat) (x : Int32) : kc_Sg := fun j => if j = k then upd (σ k) i x else σ j
def kc_pu (σ : kc_Sg) (k : Nat) (f : Nat → Int32) : kc_Sg := fun j => if j = k then f else σ j
theorem kc_up_ne (h : j ≠ k) : kc_up σ k i x j = σ j := if_neg h
theorem kc_up_eq : kc_up σ k i x k = upd (σ k) i x := if_pos rfl
theorem kc_pu_ne (h : j ≠ k) : kc_pu σ k f j = σ j := if_neg h
theorem kc_pu_eq : kc_pu σ k f k = f := if_pos rfl
theorem kc_up_pu : kc_up σ k i x = kc_pu σ k (upd (σ k) i x) := rfl
theorem kc_ce_a (hs : sh k = .inl (cA, n)) : kc_ce sh ad σ k = .inl (cA, n, .inl (σ k)) := by
  unfold kc_ce
  rw [hs]
theorem kc_ce_r (hs : sh k = .inr (.inl (cA, n, r))) : kc_ce sh ad σ k = .inl (cA, n, .inr (.inr (.inr (.inr (fun i => some (ad (r + i))))))) := by
  unfold kc_ce
  rw [hs]
theorem kc_ce_o (hs : sh k = .inr (.inr (.inl (ci, fds)))) : kc_ce sh ad σ k = .inr (ci, kc_fv ad (σ k) 0 fds) := by
  unfold kc_ce
  rw [hs]
theorem kc_ce_l (hs : sh k = .inr (.inr (.inr (cA, n)))) : kc_ce sh ad σ k = .inl (cA, n, .inr (.inl (fun i => (σ k i).toInt64))) := by
  unfold kc_ce
  rw [hs]
theorem kc_fv_int : ∀ (fds : List (Option Nat)) (b j : Nat), fds[j]? = some none → (kc_fv ad f b fds)[j]? = some (.int (f (b + j)))
  | [], _, _, h => by cases h
  | none :: t, b, 0, _ => rfl
  | some r :: t, b, 0, h => by cases h
  | none :: t, b, j + 1, h => by
    show (kc_fv ad f (b + 1) t)[j]? = _
    rw [kc_fv_int t (b + 1) j h, show b + 1 + j = b + (j + 1) by omega]
  | some r :: t, b, j + 1, h => by
    show (kc_fv ad f (b + 1) t)[j]? = _
    rw [kc_fv_int t (b + 1) j h, show b + 1 + j = b + (j + 1) by omega]
theorem kc_fv_ref : ∀ (fds : List (Option Nat)) (b j : Nat), fds[j]? = some (some r) → (kc_fv ad f b fds)[j]? = some (.ref (ad r))
  | [], _, _, h => by cases h
  | none :: t, b, 0, h => by cases h
  | some q :: t, b, 0, h => by
    cases h
    rfl
  | none :: t, b, j + 1, h => kc_fv_ref t (b + 1) j h
  | some q :: t, b, j + 1, h => kc_fv_ref t (b + 1) j h
theorem kc_fv_len : ∀ (fds : List (Option Nat)) (b : Nat), (kc_fv ad f b fds).length = fds.length
  | [], _ => rfl
  | none :: t, b => congrArg (· + 1) (kc_fv_len t (b + 1))
  | some _ :: t, b => congrArg (· + 1) (kc_fv_len t (b + 1))
theorem kc_fv_congr : ∀ (fds : List (Option Nat)) (b : Nat), (∀ i, b ≤ i → f i = g i) → kc_fv ad f b fds = kc_fv ad g b fds
  | [], _, _ => rfl
  | none :: t, b, h => by
    show Value.int (f b) :: kc_fv ad f (b + 1) t = Value.int (g b) :: kc_fv ad g (b + 1) t
    rw [h b (Nat.le_refl _), kc_fv_congr t (b + 1) (fun i hi => h i (by omega))]
  | some r :: t, b, h => by
    show Value.ref (ad r) :: kc_fv ad f (b + 1) t = Value.ref (ad r) :: kc_fv ad g (b + 1) t
    rw [kc_fv_congr t (b + 1) (fun i hi => h i (by omega))]
theorem kc_fv_set : ∀ (fds : List (Option Nat)) (b j : Nat), fds[j]? = some none → (kc_fv ad f b fds).set j (.int x) = kc_fv ad (upd f (b + j) x) b fds
  | [], _, _, h => by cases h
  | none :: t, b, 0, _ => by
    show Value.int x :: kc_fv ad f (b + 1) t = Value.int (upd f (b + 0) x b) :: kc_fv ad (upd f (b + 0) x) (b + 1) t
    rw [kc_fv_congr (g := upd f (b + 0) x) t (b + 1) (fun i hi => by unfold upd; rw [if_neg (by omega)])]
    unfold upd
    rw [if_pos (by omega)]
  | some r :: t, b, 0, h => by cases h
  | none :: t, b, j + 1, h => by
    show Value.int (f b) :: (kc_fv ad f (b + 1) t).set j (.int x) = Value.int (upd f (b + (j + 1)) x b) :: kc_fv ad (upd f (b + (j + 1)) x) (b + 1) t
    rw [kc_fv_set t (b + 1) j h, show b + 1 + j = b + (j + 1) by omega]
    congr 2
    unfold upd
    rw [if_neg (by omega)]
  | some r :: t, b, j + 1, h => by
    show Value.ref (ad r) :: (kc_fv ad f (b + 1) t).set j (.int x) = Value.ref (ad r) :: kc_fv ad (upd f (b + (j + 1)) x) (b + 1) t
    rw [kc_fv_set t (b + 1) j h, show b + 1 + j = b + (j + 1) by omega]
end KCW
/-! what stands round a walk: program, launch, .. as one value; the world: tables, kinds, which cells may change, shape, how many, where -/
abbrev kc_C : Type := Program × Launch × Env × Room × State × MethodId × Array Value × List Frame × Method × Code
abbrev kc_p (C : kc_C) : Program := C.1
abbrev kc_l (C : kc_C) : Launch := C.2.1
abbrev kc_e (C : kc_C) : Env := C.2.2.1
abbrev kc_R (C : kc_C) : Room := C.2.2.2.1
abbrev kc_s (C : kc_C) : State := C.2.2.2.2.1
abbrev kc_m (C : kc_C) : MethodId := C.2.2.2.2.2.1
abbrev kc_args (C : kc_C) : Array Value := C.2.2.2.2.2.2.1
abbrev kc_below (C : kc_C) : List Frame := C.2.2.2.2.2.2.2.1
abbrev kc_meth (C : kc_C) : Method := C.2.2.2.2.2.2.2.2.1
abbrev kc_c (C : kc_C) : Code := C.2.2.2.2.2.2.2.2.2
abbrev kc_V : Type := va_G × List (ClassId × FieldType) × (Nat → Prop) × (Nat → kc_Sh) × Nat × (Nat → Nat)
abbrev kc_D (V : kc_V) : va_G := V.1
abbrev kc_ty (V : kc_V) : List (ClassId × FieldType) := V.2.1
abbrev kc_A (V : kc_V) : Nat → Prop := V.2.2.1
abbrev kc_sh (V : kc_V) : Nat → kc_Sh := V.2.2.2.1
abbrev kc_N (V : kc_V) : Nat := V.2.2.2.2.1
abbrev kc_ad (V : kc_V) : Nat → Nat := V.2.2.2.2.2
abbrev kc_w (V : kc_V) (σ : kc_Sg) : va_W := kc_wo (kc_sh V) (kc_N V) (kc_ad V) σ
def kc_ok (V : kc_V) : Prop := (∀ i j, i < kc_N V → j < kc_N V → kc_ad V i = kc_ad V j → i = j) ∧ ∀ i, i < kc_N V → kc_A V (kc_ad V i)
theorem kc_dis {V : kc_V} (h : kc_ok V) (σ : kc_Sg) : va_D (kc_A V) (kc_w V σ) := by
  refine ⟨fun i j p q hi hj hpq => ?_, fun k q hk => ?_⟩
  · obtain ⟨h1, rfl⟩ := kc_wo_in hi
    obtain ⟨h2, rfl⟩ := kc_wo_in hj
    exact h.1 i j h1 h2 hpq
  · obtain ⟨h1, rfl⟩ := kc_wo_in hk
    exact h.2 k h1
def kc_nx (U : State) : Prop := ∀ q ∈ kc_nest, va_Nw (.methodLinkNest q.1 q.2.1 q.2.2.1 q.2.2.2) U
theorem kc_nx.warm {s U : State} (hW : s.WarmedH U.vm) (h : kc_nx s) : kc_nx U := fun q hq => (h q hq).warmM hW
theorem kc_nx.same {s U : State} (e : s.vm = U.vm) (h : kc_nx s) : kc_nx U := fun q hq => (h q hq).same rfl e
/-- what a walk knows of what stands round it -/
def kc_F (C : kc_C) (V : kc_V) (cc : ByteArray) (nL : Nat) (own : String) (w0 : Cond) (rm : Room) (ret : Option FieldType) : Prop :=
  CallFix (kc_p C) (kc_m C) (kc_c C) cc nL (kc_s C) (kc_args C) (w0 :: lw_good) own ∧ va_K (kc_D V) cls_all (kc_ty V) (kc_s C) ∧ kc_R C = rm ∧ kc_nx (kc_s C) ∧ (kc_meth C).locks = false ∧ (kc_meth C).sig.returnType = ret ∧ kc_ok V
/-- the judgement: from pc with these locals and this stack, over every heap that holds the world with contents σ -/
def kc_Go (C : kc_C) (V : kc_V) (nL : Nat) (z : Nat × Nat) (Q : State → Prop) (σ : kc_Sg) (pc : Nat) (L : List (Nat × Value)) (st : List Value) : Prop :=
  ∀ (ls : Array Slot) (H : Heap) (locs : List Loc), lv_has ls nL L → va_P (kc_D V) cls_all (kc_w V σ) H → va_S (kc_A V) (kc_s C).heap H locs →
    W (kc_p C) (kc_l C) (kc_e C) (kc_R C) (kc_s C) (kc_m C) (kc_args C) (kc_below C) (kc_meth C) (kc_c C) H locs z.1 z.2 Q (F0 (kc_m C) pc ls st)
def kc_Pz (V : kc_V) (av : List Value) (σ : kc_Sg) : Array Value → State → Prop := fun v U => v = av.toArray ∧ va_P (kc_D V) cls_all (kc_w V σ) U.heap ∧ va_K (kc_D V) cls_all (kc_ty V) U ∧ kc_nx U
def kc_Qz (V : kc_V) (rv : Option Value) (σ : kc_Sg) : Array Value → State → Outcome → State → Prop := fun _ st oc t => oc = .returned rv ∧ va_P (kc_D V) cls_all (kc_w V σ) t.heap ∧ va_F (kc_A V) st t
/-- a contract: with these arguments and contents it returns this value, and the contents are these -/
def kc_Met (l : Launch) (y : MethodName) (cc : ByteArray) (nL : Nat) (ret : Option FieldType) (rm : Room) (V : kc_V) (av : List Value) (σ : kc_Sg) (rv : Option Value) (σ' : kc_Sg) : Prop :=
  Met l y (Cond.code y cc nL ret :: lw_good) rm (kc_Pz V av σ) (kc_Qz V rv σ') 0 0 (kc_A V)
abbrev kc_E (C : kc_C) (V : kc_V) (rv : Option Value) (σ : kc_Sg) : State → Prop := MQ (kc_below C) (kc_Qz V rv σ) (kc_args C) (kc_s C) 0 0 (kc_A V)
theorem kc_of {l : Launch} {y : MethodName} {cc : ByteArray} {nL : Nat} {ret : Option FieldType} {rm : Room} {V : kc_V} {av : List Value} {σ : kc_Sg} {rv : Option Value} {σ' : kc_Sg} (hy : plainName y.cls = true) (hlen : (lg_sl av).length ≤ nL) (hV : kc_ok V)
    (body : ∀ C : kc_C, kc_l C = l → kc_F C V cc nL y.cls (Cond.code y cc nL ret) rm ret → kc_Go C V nL (0, 0) (kc_E C V rv σ') σ 0 (lv_args 0 av) []) : kc_Met l y cc nL ret rm V av σ rv σ' := by
  refine Met.ofW (cc := cc) (maxL := nL) (ret := ret) hy rfl ?_
  intro p e s m args below meth c s₁ B hml hv
  obtain ⟨rfl, hP, hK, hN⟩ := hv
  rw [lg_entry_eq]
  exact body (p, l, e, rm, s, m, av.toArray, below, meth, c) rfl ⟨⟨B.exec, B.bytes, hml, findClass_of_methodNamed B.named, atoms_spec B.pre⟩, hK, rfl, hN, B.notSynchronized, B.returns, hV⟩ _ s.heap [] (lv_entry av hlen) hP va_S.rf
section KG
variable {C : kc_C} {V : kc_V} {cc : ByteArray} {nL : Nat} {own : String} {w0 : Cond} {rm : Room} {ret : Option FieldType} {z : Nat × Nat} {Q : State → Prop} {σ σ' : kc_Sg} {pc : Nat} {L : List (Nat × Value)} {st : List Value}
theorem kc_F.x (h : kc_F C V cc nL own w0 rm ret) : (kc_p C).tables.exec = Jvm.exec := h.1.1
theorem kc_F.b (h : kc_F C V cc nL own w0 rm ret) : (kc_c C).code = cc := h.1.2.1
theorem kc_F.ml (h : kc_F C V cc nL own w0 rm ret) : (kc_c C).maxLocals = nL := h.1.2.2.1
theorem kc_F.ow (h : kc_F C V cc nL own w0 rm ret) : (kc_s C).vm.findClass own = some (kc_m C).cls := h.1.2.2.2.1
theorem kc_F.ts (h : kc_F C V cc nL own w0 rm ret) : ∀ w ∈ (w0 :: lw_good), w.before (kc_args C) (kc_s C) = true := h.1.2.2.2.2
theorem kc_F.wd (h : kc_F C V cc nL own w0 rm ret) {w : Cond} (hw : w ∈ lw_good) : w.before (kc_args C) (kc_s C) = true := h.ts w (List.mem_cons_of_mem _ hw)
theorem kc_F.K (h : kc_F C V cc nL own w0 rm ret) : va_K (kc_D V) cls_all (kc_ty V) (kc_s C) := h.2.1
theorem kc_F.R (h : kc_F C V cc nL own w0 rm ret) : kc_R C = rm := h.2.2.1
theorem kc_F.nx (h : kc_F C V cc nL own w0 rm ret) : kc_nx (kc_s C) := h.2.2.2.1
theorem kc_F.lk (h : kc_F C V cc nL own w0 rm ret) : (kc_meth C).locks = false := h.2.2.2.2.1
theorem kc_F.rt (h : kc_F C V cc nL own w0 rm ret) : (kc_meth C).sig.returnType = ret := h.2.2.2.2.2.1
theorem kc_F.ok (h : kc_F C V cc nL own w0 rm ret) : kc_ok V := h.2.2.2.2.2.2
def kc_rem (x y : Int32) : Int32 := x - x / y * y
def kc_lrem (x y : Int64) : Int64 := x - x / y * y
def kc_shl (x y : Int32) : Int32 := x <<< (y &&& 31)
def kc_shr (x y : Int32) : Int32 := x >>> (y &&& 31)
def kc_ushr (x y : Int32) : Int32 := (x.toUInt32 >>> (y.toUInt32 &&& Int32.toUInt32 31)).toInt32
theorem kg_iconst (h : kc_F C V cc nL own w0 rm ret) {n : Int} {v : Int32} (d : decode cc pc = .ok (.iconst n, 1)) (hv : Int32.ofInt n = v) (k : kc_Go C V nL z Q σ (pc + 1) L (.int v :: st)) : kc_Go C V nL z Q σ pc L st := fun ls H locs hl hP hS => lv_iconst h.x h.b d hv (k ls H locs hl hP hS)
theorem kg_bipush (h : kc_F C V cc nL own w0 rm ret) {n : Int} {v : Int32} (d : decode cc pc = .ok (.bipush n, 2)) (hv : (Int8.ofInt n).toInt32 = v) (k : kc_Go C V nL z Q σ (pc + 2) L (.int v :: st)) : kc_Go C V nL z Q σ pc L st := fun ls H locs hl hP hS => lv_bipush h.x h.b d hv (k ls H locs hl hP hS)
theorem kg_sipush (h : kc_F C V cc nL own w0 rm ret) {n : Int} {v : Int32} (d : decode cc pc = .ok (.sipush n, 3)) (hv : (Int16.ofInt n).toInt32 = v) (k : kc_Go C V nL z Q σ (pc + 3) L (.int v :: st)) : kc_Go C V nL z Q σ pc L st := fun ls H locs hl hP hS => lv_sipush h.x h.b d hv (k ls H locs hl hP hS)
theorem kg_lconst (h : kc_F C V cc nL own w0 rm ret) {n : Fin 2} {v : Int64} (d : decode cc pc = .ok (.lconst n, 1)) (hv : Int64.ofNat (n : Nat) = v) (k : kc_Go C V nL z Q σ (pc + 1) L (.long v :: st)) : kc_Go C V nL z Q σ pc L st := fun ls H locs hl hP hS => lv_lconst h.x h.b d hv (k ls H locs hl hP hS)
theorem kg_ldc_w (h : kc_F C V cc nL own w0 rm ret) {index : Nat} {v : Int32} (d : decode cc pc = .ok (.ldc_w index, 3)) (hw : Cond.constant own index v ∈ lw_good) (k : kc_Go C V nL z Q σ (pc + 3) L (.int v :: st)) : kc_Go C V nL z Q σ pc L st := fun ls H locs hl hP hS => lv_ldcw h.x h.b h.ow (h.wd hw) d (k ls H locs hl hP hS)
theorem kg_ldc (h : kc_F C V cc nL own w0 rm ret) {index : Nat} {v : Int32} (d : decode cc pc = .ok (.ldc index, 2)) (hw : Cond.constant own index v ∈ lw_good) (k : kc_Go C V nL z Q σ (pc + 2) L (.int v :: st)) : kc_Go C V nL z Q σ pc L st := fun ls H locs hl hP hS => W.ldc h.x h.b h.ow (h.wd hw) rfl d (k ls H locs hl hP hS)
theorem kg_iload_n (h : kc_F C V cc nL own w0 rm ret) {j : Fin 4} {x : Int32} (d : decode cc pc = .ok (.iload_n j, 1)) (q : Nat) (hq : L[q]? = some ((j : Nat), .int x)) (k : kc_Go C V nL z Q σ (pc + 1) L (.int x :: st)) : kc_Go C V nL z Q σ pc L st := fun ls H locs hl hP hS => lv_iload_n h.x h.b d rfl (lv_at hl q hq) (k ls H locs hl hP hS)
theorem kg_iload (h : kc_F C V cc nL own w0 rm ret) {j : Nat} {x : Int32} (d : decode cc pc = .ok (.iload j, 2)) (q : Nat) (hq : L[q]? = some (j, .int x)) (k : kc_Go C V nL z Q σ (pc + 2) L (.int x :: st)) : kc_Go C V nL z Q σ pc L st := fun ls H locs hl hP hS => lv_iload h.x h.b d (lv_at hl q hq) (k ls H locs hl hP hS)
theorem kg_lload_n (h : kc_F C V cc nL own w0 rm ret) {j : Fin 4} {x : Int64} (d : decode cc pc = .ok (.lload_n j, 1)) (q : Nat) (hq : L[q]? = some ((j : Nat), .long x)) (k : kc_Go C V nL z Q σ (pc + 1) L (.long x :: st)) : kc_Go C V nL z Q σ pc L st := fun ls H locs hl hP hS => lv_lload_n h.x h.b d rfl (lv_at hl q hq) (k ls H locs hl hP hS)
theorem kg_lload (h : kc_F C V cc nL own w0 rm ret) {j : Nat} {x : Int64} (d : decode cc pc = .ok (.lload j, 2)) (q : Nat) (hq : L[q]? = some (j, .long x)) (k : kc_Go C V nL z Q σ (pc + 2) L (.long x :: st)) : kc_Go C V nL z Q σ pc L st := fun ls H locs hl hP hS => lv_lload h.x h.b d (lv_at hl q hq) (k ls H locs hl hP hS)
theorem kg_aload_n (h : kc_F C V cc nL own w0 rm ret) {j : Fin 4} {x : Nat} (d : decode cc pc = .ok (.aload_n j, 1)) (q : Nat) (hq : L[q]? = some ((j : Nat), .ref x)) (k : kc_Go C V nL z Q σ (pc + 1) L (.ref x :: st)) : kc_Go C V nL z Q σ pc L st := fun ls H locs hl hP hS => lv_aload_n h.x h.b d rfl (lv_at hl q hq) (k ls H locs hl hP hS)
theorem kg_aload (h : kc_F C V cc nL own w0 rm ret) {j : Nat} {x : Nat} (d : decode cc pc = .ok (.aload j, 2)) (q : Nat) (hq : L[q]? = some (j, .ref x)) (k : kc_Go C V nL z Q σ (pc + 2) L (.ref x :: st)) : kc_Go C V nL z Q σ pc L st := fun ls H locs hl hP hS => lv_aload h.x h.b d (lv_at hl q hq) (k ls H locs hl hP hS)
theorem kg_istore_n (h : kc_F C V cc nL own w0 rm ret) {j : Fin 4} {x : Int32} (d : decode cc pc = .ok (.istore_n j, 1)) (L' : List (Nat × Value)) (hL : ((j : Nat), Value.int x) :: L.filter (fun q => !(q.1 == (j : Nat)) && !(q.1 + 1 == (j : Nat) && q.2.category == 2)) = L') (hn : (j : Nat) < nL) (k : kc_Go C V nL z Q σ (pc + 1) L' st) : kc_Go C V nL z Q σ pc L (Value.int x :: st) := fun ls H locs hl hP hS => lv_istore_n h.x h.b d rfl hl hn hL (fun ls' hl' => k ls' H locs hl' hP hS)
theorem kg_istore (h : kc_F C V cc nL own w0 rm ret) {j : Nat} {x : Int32} (d : decode cc pc = .ok (.istore j, 2)) (L' : List (Nat × Value)) (hL : (j, Value.int x) :: L.filter (fun q => !(q.1 == j) && !(q.1 + 1 == j && q.2.category == 2)) = L') (hn : j < nL) (k : kc_Go C V nL z Q σ (pc + 2) L' st) : kc_Go C V nL z Q σ pc L (Value.int x :: st) := fun ls H locs hl hP hS => lv_istore h.x h.b d hl hn hL (fun ls' hl' => k ls' H locs hl' hP hS)
theorem kg_lstore_n (h : kc_F C V cc nL own w0 rm ret) {j : Fin 4} {x : Int64} (d : decode cc pc = .ok (.lstore_n j, 1)) (L' : List (Nat × Value)) (hL : ((j : Nat), Value.long x) :: L.filter (fun q => !(q.1 == (j : Nat)) && (!(q.1 == (j : Nat) + 1) && !(q.1 + 1 == (j : Nat) && q.2.category == 2))) = L') (hn : (j : Nat) + 1 < nL) (k : kc_Go C V nL z Q σ (pc + 1) L' st) : kc_Go C V nL z Q σ pc L (Value.long x :: st) := fun ls H locs hl hP hS => lv_lstore_n h.x h.b d rfl hl hn hL (fun ls' hl' => k ls' H locs hl' hP hS)
theorem kg_lstore (h : kc_F C V cc nL own w0 rm ret) {j : Nat} {x : Int64} (d : decode cc pc = .ok (.lstore j, 2)) (L' : List (Nat × Value)) (hL : (j, Value.long x) :: L.filter (fun q => !(q.1 == j) && (!(q.1 == j + 1) && !(q.1 + 1 == j && q.2.category == 2))) = L') (hn : j + 1 < nL) (k : kc_Go C V nL z Q σ (pc + 2) L' st) : kc_Go C V nL z Q σ pc L (Value.long x :: st) := fun ls H locs hl hP hS => lv_lstore h.x h.b d hl hn hL (fun ls' hl' => k ls' H locs hl' hP hS)
theorem kg_astore_n (h : kc_F C V cc nL own w0 rm ret) {j : Fin 4} {x : Nat} (d : decode cc pc = .ok (.astore_n j, 1)) (L' : List (Nat × Value)) (hL : ((j : Nat), Value.ref x) :: L.filter (fun q => !(q.1 == (j : Nat)) && !(q.1 + 1 == (j : Nat) && q.2.category == 2)) = L') (hn : (j : Nat) < nL) (k : kc_Go C V nL z Q σ (pc + 1) L' st) : kc_Go C V nL z Q σ pc L (Value.ref x :: st) := fun ls H locs hl hP hS => lv_astore_n h.x h.b d rfl hl hn hL (fun ls' hl' => k ls' H locs hl' hP hS)
theorem kg_astore (h : kc_F C V cc nL own w0 rm ret) {j : Nat} {x : Nat} (d : decode cc pc = .ok (.astore j, 2)) (L' : List (Nat × Value)) (hL : (j, Value.ref x) :: L.filter (fun q => !(q.1 == j) && !(q.1 + 1 == j && q.2.category == 2)) = L') (hn : j < nL) (k : kc_Go C V nL z Q σ (pc + 2) L' st) : kc_Go C V nL z Q σ pc L (Value.ref x :: st) := fun ls H locs hl hP hS => lv_astore h.x h.b d hl hn hL (fun ls' hl' => k ls' H locs hl' hP hS)
theorem kg_iinc (h : kc_F C V cc nL own w0 rm ret) {j : Nat} {n : Int} {x v : Int32} (d : decode cc pc = .ok (.iinc j n, 3)) (q : Nat) (hq : L[q]? = some (j, .int x)) (hv : x + Int32.ofInt n = v) (L' : List (Nat × Value)) (hL : (j, Value.int v) :: L.filter (fun q => !(q.1 == j) && !(q.1 + 1 == j && q.2.category == 2)) = L') (hn : j < nL) (k : kc_Go C V nL z Q σ (pc + 3) L' st) : kc_Go C V nL z Q σ pc L st := fun ls H locs hl hP hS => lv_iinc h.x h.b d hl hq hv hn hL (fun ls' hl' => k ls' H locs hl' hP hS)
theorem kg_iadd (h : kc_F C V cc nL own w0 rm ret) {x y : Int32} (d : decode cc pc = .ok (.iadd, 1)) (k : kc_Go C V nL z Q σ (pc + 1) L (.int (x + y) :: st)) : kc_Go C V nL z Q σ pc L (.int y :: .int x :: st) := fun ls H locs hl hP hS => lv_iadd h.x h.b d (k ls H locs hl hP hS)
theorem kg_isub (h : kc_F C V cc nL own w0 rm ret) {x y : Int32} (d : decode cc pc = .ok (.isub, 1)) (k : kc_Go C V nL z Q σ (pc + 1) L (.int (x - y) :: st)) : kc_Go C V nL z Q σ pc L (.int y :: .int x :: st) := fun ls H locs hl hP hS => lv_isub h.x h.b d (k ls H locs hl hP hS)
theorem kg_imul (h : kc_F C V cc nL own w0 rm ret) {x y : Int32} (d : decode cc pc = .ok (.imul, 1)) (k : kc_Go C V nL z Q σ (pc + 1) L (.int (x * y) :: st)) : kc_Go C V nL z Q σ pc L (.int y :: .int x :: st) := fun ls H locs hl hP hS => lv_imul h.x h.b d (k ls H locs hl hP hS)
theorem kg_iand (h : kc_F C V cc nL own w0 rm ret) {x y : Int32} (d : decode cc pc = .ok (.iand, 1)) (k : kc_Go C V nL z Q σ (pc + 1) L (.int (x &&& y) :: st)) : kc_Go C V nL z Q σ pc L (.int y :: .int x :: st) := fun ls H locs hl hP hS => lv_iand h.x h.b d (k ls H locs hl hP hS)
theorem kg_ior (h : kc_F C V cc nL own w0 rm ret) {x y : Int32} (d : decode cc pc = .ok (.ior, 1)) (k : kc_Go C V nL z Q σ (pc + 1) L (.int (x ||| y) :: st)) : kc_Go C V nL z Q σ pc L (.int y :: .int x :: st) := fun ls H locs hl hP hS => lv_ior h.x h.b d (k ls H locs hl hP hS)
theorem kg_ixor (h : kc_F C V cc nL own w0 rm ret) {x y : Int32} (d : decode cc pc = .ok (.ixor, 1)) (k : kc_Go C V nL z Q σ (pc + 1) L (.int (x ^^^ y) :: st)) : kc_Go C V nL z Q σ pc L (.int y :: .int x :: st) := fun ls H locs hl hP hS => lv_ixor h.x h.b d (k ls H locs hl hP hS)
theorem kg_ishl (h : kc_F C V cc nL own w0 rm ret) {x y : Int32} (d : decode cc pc = .ok (.ishl, 1)) (k : kc_Go C V nL z Q σ (pc + 1) L (.int (kc_shl x y) :: st)) : kc_Go C V nL z Q σ pc L (.int y :: .int x :: st) := fun ls H locs hl hP hS => lv_ishl h.x h.b d (k ls H locs hl hP hS)
theorem kg_ishr (h : kc_F C V cc nL own w0 rm ret) {x y : Int32} (d : decode cc pc = .ok (.ishr, 1)) (k : kc_Go C V nL z Q σ (pc + 1) L (.int (kc_shr x y) :: st)) : kc_Go C V nL z Q σ pc L (.int y :: .int x :: st) := fun ls H locs hl hP hS => lv_ishr h.x h.b d (k ls H locs hl hP hS)
theorem kg_iushr (h : kc_F C V cc nL own w0 rm ret) {x y : Int32} (d : decode cc pc = .ok (.iushr, 1)) (k : kc_Go C V nL z Q σ (pc + 1) L (.int (kc_ushr x y) :: st)) : kc_Go C V nL z Q σ pc L (.int y :: .int x :: st) := fun ls H locs hl hP hS => lv_iushr h.x h.b d rfl (k ls H locs hl hP hS)
theorem kg_ladd (h : kc_F C V cc nL own w0 rm ret) {x y : Int64} (d : decode cc pc = .ok (.ladd, 1)) (k : kc_Go C V nL z Q σ (pc + 1) L (.long (x + y) :: st)) : kc_Go C V nL z Q σ pc L (.long y :: .long x :: st) := fun ls H locs hl hP hS => lv_ladd h.x h.b d (k ls H locs hl hP hS)
theorem kg_lsub (h : kc_F C V cc nL own w0 rm ret) {x y : Int64} (d : decode cc pc = .ok (.lsub, 1)) (k : kc_Go C V nL z Q σ (pc + 1) L (.long (x - y) :: st)) : kc_Go C V nL z Q σ pc L (.long y :: .long x :: st) := fun ls H locs hl hP hS => lv_lsub h.x h.b d (k ls H locs hl hP hS)
theorem kg_lmul (h : kc_F C V cc nL own w0 rm ret) {x y : Int64} (d : decode cc pc = .ok (.lmul, 1)) (k : kc_Go C V nL z Q σ (pc + 1) L (.long (x * y) :: st)) : kc_Go C V nL z Q σ pc L (.long y :: .long x :: st) := fun ls H locs hl hP hS => lv_lmul h.x h.b d (k ls H locs hl hP hS)
theorem kg_irem (h : kc_F C V cc nL own w0 rm ret) {x y : Int32} (d : decode cc pc = .ok (.irem, 1)) (hne : ¬ y = 0) (k : kc_Go C V nL z Q σ (pc + 1) L (.int (kc_rem x y) :: st)) : kc_Go C V nL z Q σ pc L (.int y :: .int x :: st) := fun ls H locs hl hP hS => lv_irem h.x h.b d hne (k ls H locs hl hP hS)
theorem kg_idiv (h : kc_F C V cc nL own w0 rm ret) {x y : Int32} (d : decode cc pc = .ok (.idiv, 1)) (hne : ¬ y = 0) (k : kc_Go C V nL z Q σ (pc + 1) L (.int (x / y) :: st)) : kc_Go C V nL z Q σ pc L (.int y :: .int x :: st) := fun ls H locs hl hP hS => lv_idiv h.x h.b d hne (k ls H locs hl hP hS)
theorem kg_lrem (h : kc_F C V cc nL own w0 rm ret) {x y : Int64} (d : decode cc pc = .ok (.lrem, 1)) (hne : ¬ y = 0) (k : kc_Go C V nL z Q σ (pc + 1) L (.long (kc_lrem x y) :: st)) : kc_Go C V nL z Q σ pc L (.long y :: .long x :: st) := fun ls H locs hl hP hS => lv_lrem h.x h.b d hne (k ls H locs hl hP hS)
theorem kg_ineg (h : kc_F C V cc nL own w0 rm ret) {x : Int32} (d : decode cc pc = .ok (.ineg, 1)) (k : kc_Go C V nL z Q σ (pc + 1) L (.int (-x) :: st)) : kc_Go C V nL z Q σ pc L (.int x :: st) := fun ls H locs hl hP hS => lv_ineg h.x h.b d (k ls H locs hl hP hS)
theorem kg_i2l (h : kc_F C V cc nL own w0 rm ret) {x : Int32} (d : decode cc pc = .ok (.i2l, 1)) (k : kc_Go C V nL z Q σ (pc + 1) L (.long x.toInt64 :: st)) : kc_Go C V nL z Q σ pc L (.int x :: st) := fun ls H locs hl hP hS => lv_i2l h.x h.b d rfl (k ls H locs hl hP hS)
theorem kg_l2i (h : kc_F C V cc nL own w0 rm ret) {x : Int64} (d : decode cc pc = .ok (.l2i, 1)) (k : kc_Go C V nL z Q σ (pc + 1) L (.int x.toInt32 :: st)) : kc_Go C V nL z Q σ pc L (.long x :: st) := fun ls H locs hl hP hS => lv_l2i h.x h.b d rfl (k ls H locs hl hP hS)
theorem kg_dup (h : kc_F C V cc nL own w0 rm ret) {va : Value} (d : decode cc pc = .ok (.dup, 1)) (hva : va.category = 1) (k : kc_Go C V nL z Q σ (pc + 1) L (va :: va :: st)) : kc_Go C V nL z Q σ pc L (va :: st) := fun ls H locs hl hP hS => lv_dup h.x h.b d hva (k ls H locs hl hP hS)
theorem kg_pop (h : kc_F C V cc nL own w0 rm ret) {va : Value} (d : decode cc pc = .ok (.pop, 1)) (hva : va.category = 1) (k : kc_Go C V nL z Q σ (pc + 1) L st) : kc_Go C V nL z Q σ pc L (va :: st) := fun ls H locs hl hP hS => lv_pop h.x h.b d hva (k ls H locs hl hP hS)
theorem kg_dup_x1 (h : kc_F C V cc nL own w0 rm ret) {va vb : Value} (d : decode cc pc = .ok (.dup_x1, 1)) (hva : va.category = 1) (hvb : vb.category = 1) (k : kc_Go C V nL z Q σ (pc + 1) L (va :: vb :: va :: st)) : kc_Go C V nL z Q σ pc L (va :: vb :: st) := fun ls H locs hl hP hS => lv_dup_x1 h.x h.b d hva hvb (k ls H locs hl hP hS)
theorem kg_dup_x2 (h : kc_F C V cc nL own w0 rm ret) {va vb vd : Value} (d : decode cc pc = .ok (.dup_x2, 1)) (hva : va.category = 1) (hvb : vb.category = 1) (hvd : vd.category = 1) (k : kc_Go C V nL z Q σ (pc + 1) L (va :: vb :: vd :: va :: st)) : kc_Go C V nL z Q σ pc L (va :: vb :: vd :: st) := fun ls H locs hl hP hS => lv_dup_x2 h.x h.b d hva hvb hvd (k ls H locs hl hP hS)
theorem kg_dup2 (h : kc_F C V cc nL own w0 rm ret) {va vb : Value} (d : decode cc pc = .ok (.dup2, 1)) (hva : va.category = 1) (hvb : vb.category = 1) (k : kc_Go C V nL z Q σ (pc + 1) L (va :: vb :: va :: vb :: st)) : kc_Go C V nL z Q σ pc L (va :: vb :: st) := fun ls H locs hl hP hS => lv_dup2_11 h.x h.b d hva hvb (k ls H locs hl hP hS)
theorem kg_if_eq (h : kc_F C V cc nL own w0 rm ret) {x : Int32} {off : Int} {tgt : Nat} (d : decode cc pc = .ok (.ifCond .eq off, 3)) (ht : (pc : Int) + off = (tgt : Int)) (kt : x = 0 → kc_Go C V nL z Q σ tgt L st) (kf : ¬ (x = 0) → kc_Go C V nL z Q σ (pc + 3) L st) : kc_Go C V nL z Q σ pc L (.int x :: st) := fun ls H locs hl hP hS => lv_if_eq h.x h.b d ht (fun q => kt q ls H locs hl hP hS) (fun q => kf q ls H locs hl hP hS)
theorem kg_icmp_eq (h : kc_F C V cc nL own w0 rm ret) {x y : Int32} {off : Int} {tgt : Nat} (d : decode cc pc = .ok (.if_icmp .eq off, 3)) (ht : (pc : Int) + off = (tgt : Int)) (kt : x = y → kc_Go C V nL z Q σ tgt L st) (kf : ¬ (x = y) → kc_Go C V nL z Q σ (pc + 3) L st) : kc_Go C V nL z Q σ pc L (.int y :: .int x :: st) := fun ls H locs hl hP hS => lv_icmp_eq h.x h.b d ht (fun q => kt q ls H locs hl hP hS) (fun q => kf q ls H locs hl hP hS)
theorem kg_if_ne (h : kc_F C V cc nL own w0 rm ret) {x : Int32} {off : Int} {tgt : Nat} (d : decode cc pc = .ok (.ifCond .ne off, 3)) (ht : (pc : Int) + off = (tgt : Int)) (kt : ¬ x = 0 → kc_Go C V nL z Q σ tgt L st) (kf : x = 0 → kc_Go C V nL z Q σ (pc + 3) L st) : kc_Go C V nL z Q σ pc L (.int x :: st) := fun ls H locs hl hP hS => lv_if_ne h.x h.b d ht (fun q => kt q ls H locs hl hP hS) (fun q => kf q ls H locs hl hP hS)
theorem kg_icmp_ne (h : kc_F C V cc nL own w0 rm ret) {x y : Int32} {off : Int} {tgt : Nat} (d : decode cc pc = .ok (.if_icmp .ne off, 3)) (ht : (pc : Int) + off = (tgt : Int)) (kt : ¬ x = y → kc_Go C V nL z Q σ tgt L st) (kf : x = y → kc_Go C V nL z Q σ (pc + 3) L st) : kc_Go C V nL z Q σ pc L (.int y :: .int x :: st) := fun ls H locs hl hP hS => lv_icmp_ne h.x h.b d ht (fun q => kt q ls H locs hl hP hS) (fun q => kf q ls H locs hl hP hS)
theorem kg_if_lt (h : kc_F C V cc nL own w0 rm ret) {x : Int32} {off : Int} {tgt : Nat} (d : decode cc pc = .ok (.ifCond .lt off, 3)) (ht : (pc : Int) + off = (tgt : Int)) (kt : x < 0 → kc_Go C V nL z Q σ tgt L st) (kf : ¬ (x < 0) → kc_Go C V nL z Q σ (pc + 3) L st) : kc_Go C V nL z Q σ pc L (.int x :: st) := fun ls H locs hl hP hS => lv_if_lt h.x h.b d ht (fun q => kt q ls H locs hl hP hS) (fun q => kf q ls H locs hl hP hS)
theorem kg_icmp_lt (h : kc_F C V cc nL own w0 rm ret) {x y : Int32} {off : Int} {tgt : Nat} (d : decode cc pc = .ok (.if_icmp .lt off, 3)) (ht : (pc : Int) + off = (tgt : Int)) (kt : x < y → kc_Go C V nL z Q σ tgt L st) (kf : ¬ (x < y) → kc_Go C V nL z Q σ (pc + 3) L st) : kc_Go C V nL z Q σ pc L (.int y :: .int x :: st) := fun ls H locs hl hP hS => lv_icmp_lt h.x h.b d ht (fun q => kt q ls H locs hl hP hS) (fun q => kf q ls H locs hl hP hS)
theorem kg_if_ge (h : kc_F C V cc nL own w0 rm ret) {x : Int32} {off : Int} {tgt : Nat} (d : decode cc pc = .ok (.ifCond .ge off, 3)) (ht : (pc : Int) + off = (tgt : Int)) (kt : 0 ≤ x → kc_Go C V nL z Q σ tgt L st) (kf : ¬ (0 ≤ x) → kc_Go C V nL z Q σ (pc + 3) L st) : kc_Go C V nL z Q σ pc L (.int x :: st) := fun ls H locs hl hP hS => lv_if_ge h.x h.b d ht (fun q => kt q ls H locs hl hP hS) (fun q => kf q ls H locs hl hP hS)
theorem kg_icmp_ge (h : kc_F C V cc nL own w0 rm ret) {x y : Int32} {off : Int} {tgt : Nat} (d : decode cc pc = .ok (.if_icmp .ge off, 3)) (ht : (pc : Int) + off = (tgt : Int)) (kt : y ≤ x → kc_Go C V nL z Q σ tgt L st) (kf : ¬ (y ≤ x) → kc_Go C V nL z Q σ (pc + 3) L st) : kc_Go C V nL z Q σ pc L (.int y :: .int x :: st) := fun ls H locs hl hP hS => lv_icmp_ge h.x h.b d ht (fun q => kt q ls H locs hl hP hS) (fun q => kf q ls H locs hl hP hS)
theorem kg_if_gt (h : kc_F C V cc nL own w0 rm ret) {x : Int32} {off : Int} {tgt : Nat} (d : decode cc pc = .ok (.ifCond .gt off, 3)) (ht : (pc : Int) + off = (tgt : Int)) (kt : 0 < x → kc_Go C V nL z Q σ tgt L st) (kf : ¬ (0 < x) → kc_Go C V nL z Q σ (pc + 3) L st) : kc_Go C V nL z Q σ pc L (.int x :: st) := fun ls H locs hl hP hS => lv_if_gt h.x h.b d ht (fun q => kt q ls H locs hl hP hS) (fun q => kf q ls H locs hl hP hS)
theorem kg_icmp_gt (h : kc_F C V cc nL own w0 rm ret) {x y : Int32} {off : Int} {tgt : Nat} (d : decode cc pc = .ok (.if_icmp .gt off, 3)) (ht : (pc : Int) + off = (tgt : Int)) (kt : y < x → kc_Go C V nL z Q σ tgt L st) (kf : ¬ (y < x) → kc_Go C V nL z Q σ (pc + 3) L st) : kc_Go C V nL z Q σ pc L (.int y :: .int x :: st) := fun ls H locs hl hP hS => lv_icmp_gt h.x h.b d ht (fun q => kt q ls H locs hl hP hS) (fun q => kf q ls H locs hl hP hS)
theorem kg_if_le (h : kc_F C V cc nL own w0 rm ret) {x : Int32} {off : Int} {tgt : Nat} (d : decode cc pc = .ok (.ifCond .le off, 3)) (ht : (pc : Int) + off = (tgt : Int)) (kt : x ≤ 0 → kc_Go C V nL z Q σ tgt L st) (kf : ¬ (x ≤ 0) → kc_Go C V nL z Q σ (pc + 3) L st) : kc_Go C V nL z Q σ pc L (.int x :: st) := fun ls H locs hl hP hS => lv_if_le h.x h.b d ht (fun q => kt q ls H locs hl hP hS) (fun q => kf q ls H locs hl hP hS)
theorem kg_icmp_le (h : kc_F C V cc nL own w0 rm ret) {x y : Int32} {off : Int} {tgt : Nat} (d : decode cc pc = .ok (.if_icmp .le off, 3)) (ht : (pc : Int) + off = (tgt : Int)) (kt : x ≤ y → kc_Go C V nL z Q σ tgt L st) (kf : ¬ (x ≤ y) → kc_Go C V nL z Q σ (pc + 3) L st) : kc_Go C V nL z Q σ pc L (.int y :: .int x :: st) := fun ls H locs hl hP hS => lv_icmp_le h.x h.b d ht (fun q => kt q ls H locs hl hP hS) (fun q => kf q ls H locs hl hP hS)
theorem kg_goto (h : kc_F C V cc nL own w0 rm ret) {off : Int} {tgt : Nat} (d : decode cc pc = .ok (.goto off, 3)) (ht : (pc : Int) + off = (tgt : Int)) (k : kc_Go C V nL z Q σ tgt L st) : kc_Go C V nL z Q σ pc L st := fun ls H locs hl hP hS => lv_goto h.x h.b d ht (k ls H locs hl hP hS)
theorem kg_at {pc' : Nat} (e : pc = pc') (k : kc_Go C V nL z Q σ pc' L st) : kc_Go C V nL z Q σ pc L st := by
  subst e
  exact k
theorem kg_loc (ks : List Nat) {L' : List (Nat × Value)} (hL : lv_pick L ks = L') (k : kc_Go C V nL z Q σ pc L' st) : kc_Go C V nL z Q σ pc L st := fun ls H locs hl hP hS => k ls H locs (lv_sub hl ks hL) hP hS
theorem kg_to {α : Sort _} {P : α → Prop} {a b : α} (e : a = b) (h : P a) : P b := e ▸ h
theorem kg_top {x x' : Int32} (e : x = x') (k : kc_Go C V nL z Q σ pc L (.int x' :: st)) : kc_Go C V nL z Q σ pc L (.int x :: st) := by
  subst e
  exact k
theorem kg_topl {x x' : Int64} (e : x = x') (k : kc_Go C V nL z Q σ pc L (.long x' :: st)) : kc_Go C V nL z Q σ pc L (.long x :: st) := by
  subst e
  exact k
theorem kg_sig (e : σ = σ') (k : kc_Go C V nL z Q σ' pc L st) : kc_Go C V nL z Q σ pc L st := by
  subst e
  exact k
def kc_ai (V : kc_V) (k n : Nat) : Prop := ∃ (cA : ClassId) (t : Nat), k < kc_N V ∧ kc_sh V k = .inl (cA, n) ∧ (kc_ty V)[t]? = some (cA, .int) ∧ n < 2 ^ 31
def kc_az (V : kc_V) (k n : Nat) : Prop := ∃ (cA : ClassId) (t : Nat), k < kc_N V ∧ kc_sh V k = .inl (cA, n) ∧ (kc_ty V)[t]? = some (cA, .boolean) ∧ n < 2 ^ 31
def kc_al (V : kc_V) (k n : Nat) : Prop := ∃ (cA : ClassId) (t : Nat), k < kc_N V ∧ kc_sh V k = .inr (.inr (.inr (cA, n))) ∧ (kc_ty V)[t]? = some (cA, .long) ∧ n < 2 ^ 31
def kc_ar (V : kc_V) (k n r : Nat) : Prop := ∃ (cA : ClassId) (t : Nat), k < kc_N V ∧ kc_sh V k = .inr (.inl (cA, n, r)) ∧ (kc_ty V)[t]? = some (cA, .array .int) ∧ n < 2 ^ 31
def kc_ob (V : kc_V) (k ci : Nat) (fds : List (Option Nat)) : Prop := k < kc_N V ∧ kc_sh V k = .inr (.inr (.inl (ci, fds)))
theorem kc_at_a {k n : Nat} {cA : ClassId} (hk : k < kc_N V) (hs : kc_sh V k = .inl (cA, n)) : (kc_w V σ)[k]? = some (kc_ad V k, .inl (cA, n, .inl (σ k))) := by rw [kc_wo_at hk, kc_ce_a hs]
theorem kc_at_o {k ci : Nat} {fds : List (Option Nat)} (ho : kc_ob V k ci fds) : (kc_w V σ)[k]? = some (kc_ad V k, .inr (ci, kc_fv (kc_ad V) (σ k) 0 fds)) := by rw [kc_wo_at ho.1, kc_ce_o ho.2]
theorem kc_set_a {k n : Nat} {cA : ClassId} {f : Nat → Int32} (hk : k < kc_N V) (hs : kc_sh V k = .inl (cA, n)) : (kc_w V σ).set k (kc_ad V k, .inl (cA, n, .inl f)) = kc_w V (kc_pu σ k f) :=
  kc_wo_set hk (by rw [kc_ce_a hs, kc_pu_eq]) (fun j hj => kc_ce_eq (kc_pu_ne hj))
theorem kc_set_o {k ci j : Nat} {fds : List (Option Nat)} {x : Int32} (ho : kc_ob V k ci fds) (hj : fds[j]? = some none) : (kc_w V σ).set k (kc_ad V k, .inr (ci, (kc_fv (kc_ad V) (σ k) 0 fds).set j (.int x))) = kc_w V (kc_up σ k j x) :=
  kc_wo_set ho.1 (by rw [kc_ce_o ho.2, kc_up_eq, kc_fv_set fds 0 j hj, Nat.zero_add]) (fun i hi => kc_ce_eq (kc_up_ne hi))
theorem kg_geti (h : kc_F C V cc nL own w0 rm ret) {k ci j M index : Nat} {fds : List (Option Nat)} {Cn : String} {Tb : u_T} (ho : kc_ob V k ci fds) (hc : cls_all[ci]? = some (Cn, Tb, M)) (hui : ∀ w ∈ u_ws Cn Tb M, w ∈ lw_good) (hj : j < M) (hlk : Cond.fieldLink own index Cn (Tb j).2.1 (Tb j).2.2.1 ∈ lw_good) (hcl : (Tb j).1 = Cn) (d : decode cc pc = .ok (.getfield index, 3)) (hf : fds[j]? = some none) (kk : kc_Go C V nL z Q σ (pc + 3) L (.int (σ k j) :: st)) : kc_Go C V nL z Q σ pc L (.ref (kc_ad V k) :: st) := fun ls H locs hl hP hS => va_get h.x h.b h.ts (fun w hw => List.mem_cons_of_mem _ (hui w hw)) h.ow h.K hP k (kc_at_o ho) hc j hj (h.wd hlk) (fun x hx => by rw [← hcl]; exact hcl ▸ hx) (by rw [kc_fv_int fds 0 j hf, Nat.zero_add]) d (kk ls H locs hl hP hS)
theorem kg_getr (h : kc_F C V cc nL own w0 rm ret) {k ci j r M index : Nat} {fds : List (Option Nat)} {Cn : String} {Tb : u_T} (ho : kc_ob V k ci fds) (hc : cls_all[ci]? = some (Cn, Tb, M)) (hui : ∀ w ∈ u_ws Cn Tb M, w ∈ lw_good) (hj : j < M) (hlk : Cond.fieldLink own index Cn (Tb j).2.1 (Tb j).2.2.1 ∈ lw_good) (hcl : (Tb j).1 = Cn) (d : decode cc pc = .ok (.getfield index, 3)) (hf : fds[j]? = some (some r)) (kk : kc_Go C V nL z Q σ (pc + 3) L (.ref (kc_ad V r) :: st)) : kc_Go C V nL z Q σ pc L (.ref (kc_ad V k) :: st) := fun ls H locs hl hP hS => va_get h.x h.b h.ts (fun w hw => List.mem_cons_of_mem _ (hui w hw)) h.ow h.K hP k (kc_at_o ho) hc j hj (h.wd hlk) (fun x hx => by rw [← hcl]; exact hcl ▸ hx) (kc_fv_ref fds 0 j hf) d (kk ls H locs hl hP hS)
theorem kg_puti (h : kc_F C V cc nL own w0 rm ret) {k ci j M index : Nat} {fds : List (Option Nat)} {Cn : String} {Tb : u_T} {x : Int32} (ho : kc_ob V k ci fds) (hc : cls_all[ci]? = some (Cn, Tb, M)) (hui : ∀ w ∈ u_ws Cn Tb M, w ∈ lw_good) {ty0 : Nat → FieldType} (hty : ∀ k, k < M → parseFieldDescriptor (Tb k).2.2.1 = some (ty0 k)) (hnm : ∀ a, a < M → ∀ b, b < M → a ≠ b → (Tb a).2.1 ≠ (Tb b).2.1) (hj : j < M) (hlk : Cond.fieldLink own index Cn (Tb j).2.1 (Tb j).2.2.1 ∈ lw_good) (hcl : (Tb j).1 = Cn) (hfin : (Tb j).2.2.2 = false) (hn : narrow (ty0 j) (.int x) = .int x) (hfit : fits (ty0 j) (.int x) = true) (d : decode cc pc = .ok (.putfield index, 3)) (hf : fds[j]? = some none) (kk : kc_Go C V nL z Q (kc_up σ k j x) (pc + 3) L st) : kc_Go C V nL z Q σ pc L (.int x :: .ref (kc_ad V k) :: st) := by
  intro ls H locs hl hP hS
  refine va_put h.x h.b h.ts (fun w hw => List.mem_cons_of_mem _ (hui w hw)) ty0 hty hnm h.ow h.K hP (kc_dis h.ok σ) hS k (kc_at_o ho) hc j hj (h.wd hlk) (fun x hx => by rw [← hcl]; exact hcl ▸ hx) hfin (hty j hj) hn hfit (by rw [kc_fv_len]; exact (List.getElem?_eq_some_iff.mp hf).1) d (fun H1 locs1 hP1 _ hS1 => ?_)
  rw [kc_set_o ho hf] at hP1
  exact kk ls H1 locs1 hl hP1 hS1
theorem kg_iald (h : kc_F C V cc nL own w0 rm ret) {k n i : Nat} {x : Int32} (ha : kc_ai V k n) (hx : x = nI i) (hi : i < n) (d : decode cc pc = .ok (.iaload, 1)) (kk : kc_Go C V nL z Q σ (pc + 1) L (.int (σ k i) :: st)) : kc_Go C V nL z Q σ pc L (.int x :: .ref (kc_ad V k) :: st) := by
  obtain ⟨cA, t, h1, h2, h3, h4⟩ := ha
  subst hx
  intro ls H locs hl hP hS
  refine va_iald h.x h.b h.K hP k t (kc_at_a h1 h2) h3 (vp_in_nI hi h4) d ?_
  rw [nI_clamp (Nat.lt_trans hi h4)]
  exact kk ls H locs hl hP hS
theorem kg_zald (h : kc_F C V cc nL own w0 rm ret) {k n i : Nat} {x : Int32} (ha : kc_az V k n) (hx : x = nI i) (hi : i < n) (d : decode cc pc = .ok (.baload, 1)) (kk : kc_Go C V nL z Q σ (pc + 1) L (.int (σ k i) :: st)) : kc_Go C V nL z Q σ pc L (.int x :: .ref (kc_ad V k) :: st) := by
  obtain ⟨cA, t, h1, h2, h3, h4⟩ := ha
  subst hx
  intro ls H locs hl hP hS
  refine va_zald h.x h.b h.K hP k t (kc_at_a h1 h2) h3 (vp_in_nI hi h4) d ?_
  rw [nI_clamp (Nat.lt_trans hi h4)]
  exact kk ls H locs hl hP hS
theorem kg_iast (h : kc_F C V cc nL own w0 rm ret) {k n i : Nat} {x y : Int32} (ha : kc_ai V k n) (hx : x = nI i) (hi : i < n) (d : decode cc pc = .ok (.iastore, 1)) (kk : kc_Go C V nL z Q (kc_up σ k i y) (pc + 1) L st) : kc_Go C V nL z Q σ pc L (.int y :: .int x :: .ref (kc_ad V k) :: st) := by
  obtain ⟨cA, t, h1, h2, h3, h4⟩ := ha
  subst hx
  intro ls H locs hl hP hS
  refine va_iast h.x h.b h.K hP (kc_dis h.ok σ) hS k t (kc_at_a h1 h2) h3 (vp_in_nI hi h4) d (fun H1 locs1 hP1 _ hS1 => ?_)
  rw [nI_clamp (Nat.lt_trans hi h4), kc_set_a h1 h2] at hP1
  exact kk ls H1 locs1 hl hP1 hS1
theorem kg_zast (h : kc_F C V cc nL own w0 rm ret) {k n i : Nat} {x y : Int32} (ha : kc_az V k n) (hx : x = nI i) (hi : i < n) (hy : vp_nar .boolean y = y) (d : decode cc pc = .ok (.bastore, 1)) (kk : kc_Go C V nL z Q (kc_up σ k i y) (pc + 1) L st) : kc_Go C V nL z Q σ pc L (.int y :: .int x :: .ref (kc_ad V k) :: st) := by
  obtain ⟨cA, t, h1, h2, h3, h4⟩ := ha
  subst hx
  intro ls H locs hl hP hS
  refine va_zast h.x h.b h.K hP (kc_dis h.ok σ) hS k t (kc_at_a h1 h2) h3 (vp_in_nI hi h4) d (fun H1 locs1 hP1 _ hS1 => ?_)
  rw [nI_clamp (Nat.lt_trans hi h4), hy, kc_set_a h1 h2] at hP1
  exact kk ls H1 locs1 hl hP1 hS1
theorem kg_aald (h : kc_F C V cc nL own w0 rm ret) {k n r i : Nat} {x : Int32} (ha : kc_ar V k n r) (hx : x = nI i) (hi : i < n) (d : decode cc pc = .ok (.aaload, 1)) (kk : kc_Go C V nL z Q σ (pc + 1) L (.ref (kc_ad V (r + i)) :: st)) : kc_Go C V nL z Q σ pc L (.int x :: .ref (kc_ad V k) :: st) := by
  obtain ⟨cA, t, h1, h2, h3, h4⟩ := ha
  subst hx
  intro ls H locs hl hP hS
  have hc : (kc_w V σ)[k]? = some (kc_ad V k, .inl (cA, n, .inr (.inr (.inr (.inr (fun i => some (kc_ad V (r + i)))))))) := by rw [kc_wo_at h1, kc_ce_r h2]
  have hcl : (nI i).toNatClampNeg = i := nI_clamp (Nat.lt_trans hi h4)
  refine W.aald (v := .ref (kc_ad V (r + i))) h.x h.b (hP k _ hc) ((h.K.2 t _ h3).1 n (fun j => va_rf (some (kc_ad V (r + j))))) rfl (fun q => by cases q) ?_ ?_ rfl rfl d (kk ls H locs hl hP hS)
  · show ¬ (nI i < 0 ∨ (arrV _ _ _).slots.size ≤ _)
    rw [arrV_size]
    exact vp_in_nI hi h4
  · show (arrV _ _ _).slots[_]? = _
    rw [hcl, arrV_read _ _ hi]
    rfl
theorem kg_alen (h : kc_F C V cc nL own w0 rm ret) {k n : Nat} (ha : kc_ai V k n) (d : decode cc pc = .ok (.arraylength, 1)) (kk : kc_Go C V nL z Q σ (pc + 1) L (.int (nI n) :: st)) : kc_Go C V nL z Q σ pc L (.ref (kc_ad V k) :: st) := by
  obtain ⟨cA, t, h1, h2, h3, h4⟩ := ha
  intro ls H locs hl hP hS
  exact va_alen h.x h.b h.K hP k t (kc_at_a h1 h2) h3 rfl d (kk ls H locs hl hP hS)
theorem kg_copy (h : kc_F C V cc nL own w0 rm ret) {k0 k1 n0 n1 a b n index : Nat} (h0 : kc_ai V k0 n0) (h1 : kc_ai V k1 n1) (ha : a + n ≤ n0) (hb : b + n ≤ n1) (hlk : Cond.methodLink own index arraycopyName ∈ lw_good) (hnat : Cond.native arraycopyName ∈ lw_good) (hst : Cond.static arraycopyName ∈ lw_good) (hini : Cond.initialized "java/lang/System" ∈ lw_good) (hR : 1 ≤ rm.frames ∧ 8 + (nativeFrameWords "java/lang/System" "arraycopy" 5 + 11) ≤ rm.locals) (hW : (st.map fun v => v.category).sum ≤ 8) (d : decode cc pc = .ok (.invokestatic index, 3)) (kk : kc_Go C V nL z Q (kc_pu σ k1 (va_cpy (σ k0) (σ k1) a b n)) (pc + 3) L st) : kc_Go C V nL z Q σ pc L (.int (nI n) :: .int (nI b) :: .ref (kc_ad V k1) :: .int (nI a) :: .ref (kc_ad V k0) :: st) := by
  obtain ⟨cA, t, p1, p2, p3, p4⟩ := h0
  obtain ⟨cB, u, q1, q2, q3, q4⟩ := h1
  intro ls H locs hl hP hS
  have hRR := h.R
  have e1 : (nI a).toNatClampNeg = a := nI_clamp (by omega)
  have e2 : (nI b).toNatClampNeg = b := nI_clamp (by omega)
  have e3 : (nI n).toNatClampNeg = n := nI_clamp (by omega)
  refine va_copyi h.x h.b (h.ml.trans hl.1.symm) h.ow (h.wd hlk) (h.wd hnat) (h.wd hst) (h.wd hini) h.K hP (kc_dis h.ok σ) hS k0 k1 t u (kc_at_a p1 p2) (kc_at_a q1 q2) p3 q3 rfl (nI_pos (by omega)) (nI_pos (by omega)) (nI_pos (by omega)) (by rw [e1, e3]; exact ha) (by rw [e2, e3]; exact hb) (fun _ _ => rfl) (by rw [hRR]; exact hR.1) (by rw [hRR]; omega) d (fun H1 locs1 hP1 _ hS1 => ?_)
  rw [e1, e2, e3, kc_set_a q1 q2] at hP1
  exact kk ls H1 locs1 hl hP1 hS1
theorem kc_end (h : kc_F C V cc nL own w0 rm ret) {rv : Option Value} {H : Heap} {locs : List Loc} (hP : va_P (kc_D V) cls_all (kc_w V σ) H) (hS : va_S (kc_A V) (kc_s C).heap H locs) : ∀ t : State, t.heap = H → (kc_s C).WarmedH t.vm → kc_Qz V rv σ (kc_args C) (kc_s C) (.returned rv) t :=
  fun t ht _ => ⟨rfl, by rw [ht]; exact hP, hS.F ht⟩
theorem kg_iret (h : kc_F C V cc nL own w0 rm (some .int)) {v v' : Int32} (d : decode cc pc = .ok (.ireturn, 1)) (e : v = v') (es : σ = σ') : kc_Go C V nL (0, 0) (kc_E C V (some (.int v')) σ') σ pc L [.int v] := by
  subst e
  subst es
  intro ls H locs hl hP hS
  exact W.iret h.x h.b h.rt (kc_end h hP hS) hS.2.2 d h.lk
theorem kg_zret (h : kc_F C V cc nL own w0 rm (some .boolean)) {v v' : Int32} (d : decode cc pc = .ok (.ireturn, 1)) (hn : narrow .boolean (.int v) = .int v) (e : v = v') (es : σ = σ') : kc_Go C V nL (0, 0) (kc_E C V (some (.int v')) σ') σ pc L [.int v] := by
  subst e
  subst es
  intro ls H locs hl hP hS
  exact W.zret h.x h.b h.rt hn (kc_end h hP hS) hS.2.2 d h.lk
theorem kg_vret (h : kc_F C V cc nL own w0 rm none) (d : decode cc pc = .ok (.return_, 1)) (es : σ = σ') : kc_Go C V nL (0, 0) (kc_E C V none σ') σ pc L [] := by
  subst es
  intro ls H locs hl hP hS
  exact W.vret h.x h.b h.rt (kc_end h hP hS) hS.2.2 d h.lk
theorem kg_aret {rt : FieldType} (h : kc_F C V cc nL own w0 rm (some rt)) (hrt : (∃ n, rt = .object n) ∨ ∃ t, rt = .array t) {a a' : Nat} (d : decode cc pc = .ok (.areturn, 1)) (e : a = a') (es : σ = σ') : kc_Go C V nL (0, 0) (kc_E C V (some (.ref a')) σ') σ pc L [.ref a] := by
  subst e
  subst es
  intro ls H locs hl hP hS
  exact W.aret h.x h.b h.rt hrt (Or.inr ⟨a, rfl⟩) (kc_end h hP hS) hS.2.2 d h.lk
theorem kc_good {w : Cond} (h : w ∈ lw_good) : (w.onTables && w.keeps) = true ∨ ∃ ty, w = .arrayClass ty := good_of_word (List.mem_filter.mp h).2
theorem kc_goodIn {w0 w1 : Cond} (h : w1 ∈ lw_good) : GoodIn (w0 :: lw_good) (w1 :: lw_good) := by
  intro w hw
  rcases List.mem_cons.mp hw with rfl | hw
  · exact ⟨List.mem_cons_of_mem _ h, kc_good h⟩
  · exact ⟨List.mem_cons_of_mem _ hw, kc_good hw⟩
theorem kc_blind {V : kc_V} {av : List Value} {σ : kc_Sg} : FrameBlind (kc_Pz V av σ) := fun a U g mk q => ⟨q.1, q.2.1, va_K.moved (u := U) (U := U.calling g mk a) (Vm.Alike.refl U.vm) q.2.2.1, q.2.2.2.same rfl⟩
/-- what a caller must know of a callee: its code, that its class is ready, its name and how many arguments -/
def kc_cal (y : MethodName) (cz : ByteArray) (nz : Nat) (rz : Option FieldType) (n : Nat) : Prop := Cond.code y cz nz rz ∈ lw_good ∧ Cond.initialized y.cls ∈ lw_good ∧ (y.cls ≠ "java/lang/invoke/MethodHandle" ∧ y.cls ≠ "java/lang/invoke/VarHandle" ∧ (parseMethodDescriptor y.desc).map (fun d => d.parameters.length) = some n)
abbrev kc_room (rmz rm : Room) (nz : Nat) : Prop := (rmz.cells = 0 ∧ rmz.slots = 0) ∧ rmz.frames + 1 ≤ rm.frames ∧ 8 + (nz + 11) + rmz.locals ≤ rm.locals
theorem kc_back {H H1 : Heap} {locs locs1 : List Loc} {A : Nat → Prop} {s t T : State} (hS : va_S A s.heap H locs) (h0 : T.heap = H) (hF : va_F A T t) (e : H1 = t.heap) (hl : ∀ q ∈ locs1, A q.base) : va_S A s.heap H1 (locs ++ locs1) := by
  subst h0
  subst e
  refine ⟨Nat.le_trans hS.1 hF.1, fun q h1 h2 => ?_, fun q hq => ?_⟩
  · rw [hF.2 q (Nat.lt_of_lt_of_le h1 hS.1) h2]
    exact hS.2.1 q h1 h2
  · rcases List.mem_append.mp hq with h | h
    · exact hS.2.2 q h
    · exact hl q h
theorem kc_ran {rest : List Value} {rv : Option Value} {a : Array Value} {st0 : List Value} {ls : Array Slot} {H : Heap} {locs : List Loc}
    (hr : va_Run (kc_p C) (kc_l C) (kc_e C) (kc_R C) (kc_s C) (kc_m C) (kc_args C) (kc_below C) (kc_meth C) (kc_c C) H locs z.1 z.2 0 0 (F0 (kc_m C) pc ls st0) rest (kc_Qz V rv σ' a) (kc_A V)) (hl : lv_has ls nL L) (hS : va_S (kc_A V) (kc_s C).heap H locs)
    (k : kc_Go C V nL z Q σ' (pc + 3) L (rv.toList ++ rest)) : W (kc_p C) (kc_l C) (kc_e C) (kc_R C) (kc_s C) (kc_m C) (kc_args C) (kc_below C) (kc_meth C) (kc_c C) H locs z.1 z.2 Q (F0 (kc_m C) pc ls st0) := by
  intro T hT X
  obtain ⟨v, st₀, t, T', Lc, h0, X', hL, e1, e2, ⟨hv, hp, hF⟩, go⟩ := hr T hT X
  cases hv
  obtain ⟨t2, a1, b1⟩ := k ls T'.heap (locs ++ Lc) hl (by rw [e1]; exact hp) (kc_back hS h0 hF e1 hL) T' rfl X'
  exact ⟨t2, go t2 a1, b1⟩
theorem kg_static (h : kc_F C V cc nL own w0 rm ret) {y : MethodName} {cz : ByteArray} {nz n index : Nat} {rz : Option FieldType} {rmz : Room} {As rest : List Value} {rv : Option Value}
    (hM : kc_Met (kc_l C) y cz nz rz rmz V As σ rv σ') (hc : kc_cal y cz nz rz n) (hst : Cond.static y ∈ lw_good) (hlk : Cond.methodLink own index y ∈ lw_good) (hn : As.length = n) (hR : kc_room rmz rm nz) (hs : st = As.reverse ++ rest) (hW : (rest.map fun v => v.category).sum ≤ 8) (d : decode cc pc = .ok (.invokestatic index, 3))
    (k : kc_Go C V nL z Q σ' (pc + 3) L (rv.toList ++ rest)) (hz : z.1 + 0 ≤ rm.cells ∧ z.2 + 0 ≤ rm.slots) : kc_Go C V nL z Q σ pc L st := by
  subst hs
  intro ls H locs hl hP hS
  have hRR := h.R
  exact kc_ran (va_runS h.1 hM ⟨callB_of n h.ts (kc_goodIn hc.1) rfl hR.1.1 hR.1.2 (h.wd hc.2.1) (h.wd hlk) hc.2.2 (by rw [hRR]; exact hR.2), h.wd hst⟩ ⟨kc_blind, fun U hU hWm => ⟨rfl, by rw [hU]; exact hP, va_K.moved hWm.alike h.K, h.nx.warm hWm⟩⟩ rfl hn hl.1 rfl (by show 2 * 0 + _ ≤ 8; omega) d (by rw [hRR]; exact hz)) hl hS k
theorem kg_virtual (h : kc_F C V cc nL own w0 rm ret) {y : MethodName} {cz : ByteArray} {nz n index k0 ci : Nat} {fds : List (Option Nat)} {Tb : u_T} {M : Nat} {rz : Option FieldType} {rmz : Room} {As rest : List Value} {rv : Option Value}
    (hM : kc_Met (kc_l C) y cz nz rz rmz V (.ref (kc_ad V k0) :: As) σ rv σ') (hc : kc_cal y cz nz rz n) (hst : Cond.instanceMethod y ∈ lw_good) (hse : Cond.selects y.cls y y ∈ lw_good) (hlk : Cond.methodLink own index y ∈ lw_good) (ho : kc_ob V k0 ci fds) (hcl : cls_all[ci]? = some (y.cls, Tb, M)) (hn : As.length = n) (hR : kc_room rmz rm nz) (hs : st = As.reverse ++ .ref (kc_ad V k0) :: rest) (hW : (rest.map fun v => v.category).sum ≤ 8) (d : decode cc pc = .ok (.invokevirtual index, 3))
    (k : kc_Go C V nL z Q σ' (pc + 3) L (rv.toList ++ rest)) (hz : z.1 + 0 ≤ rm.cells ∧ z.2 + 0 ≤ rm.slots) : kc_Go C V nL z Q σ pc L st := by
  subst hs
  intro ls H locs hl hP hS
  have hRR := h.R
  exact kc_ran (va_runV (C := y.cls) h.1 hM ⟨callB_of n h.ts (kc_goodIn hc.1) rfl hR.1.1 hR.1.2 (h.wd hc.2.1) (h.wd hlk) hc.2.2 (by rw [hRR]; exact hR.2), h.wd hst, h.wd hse⟩ ⟨kc_blind, va_recv (q := (y.cls, Tb, M)) h.K hP hcl (kc_at_o ho), fun U hU hWm => ⟨rfl, by rw [hU]; exact hP, va_K.moved hWm.alike h.K, h.nx.warm hWm⟩⟩ rfl hn hl.1 rfl (by show 2 * 0 + _ ≤ 8; omega) d (by rw [hRR]; exact hz)) hl hS k
theorem kg_staticN (h : kc_F C V cc nL own w0 rm ret) {y : MethodName} {cz : ByteArray} {nz n index : Nat} {host : String} {rz : Option FieldType} {rmz : Room} {As rest : List Value} {rv : Option Value}
    (hM : kc_Met (kc_l C) y cz nz rz rmz V As σ rv σ') (hc : kc_cal y cz nz rz n) (hst : Cond.static y ∈ lw_good) (hlk : (own, index, y, host) ∈ kc_nest) (hn : As.length = n) (hR : kc_room rmz rm nz) (hs : st = As.reverse ++ rest) (hW : (rest.map fun v => v.category).sum ≤ 8) (d : decode cc pc = .ok (.invokestatic index, 3))
    (k : kc_Go C V nL z Q σ' (pc + 3) L (rv.toList ++ rest)) (hz : z.1 + 0 ≤ rm.cells ∧ z.2 + 0 ≤ rm.slots) : kc_Go C V nL z Q σ pc L st := by
  subst hs
  intro ls H locs hl hP hS
  have hRR := h.R
  exact kc_ran (va_runSN h.1 hM ⟨va_cnB n h.ts (kc_goodIn hc.1) rfl hR.1.1 hR.1.2 (h.nx _ hlk) (h.wd hc.2.1) hc.2.2 (by rw [hRR]; exact hR.2), h.wd hst, trivial⟩ ⟨kc_blind, fun U hU hWm => ⟨rfl, by rw [hU]; exact hP, va_K.moved hWm.alike h.K, h.nx.warm hWm⟩⟩ rfl hn hl.1 rfl (by show 2 * 0 + _ ≤ 8; omega) d (by rw [hRR]; exact hz)) hl hS k
theorem kg_staticI (h : kc_F C V cc nL own w0 rm ret) {y : MethodName} {cz : ByteArray} {nz n index : Nat} {rz : Option FieldType} {rmz : Room} {As rest : List Value} {v : Value}
    (hM : kc_Met (kc_l C) y cz nz rz rmz V As σ (some v) σ') (hc : kc_cal y cz nz rz n) (hst : Cond.static y ∈ lw_good) (hlk : Cond.methodLink own index y ∈ lw_good) (hn : As.length = n) (hR : kc_room rmz rm nz) (hs : st = As.reverse ++ rest) (hW : (rest.map fun v => v.category).sum ≤ 8) (d : decode cc pc = .ok (.invokestatic index, 3))
    (k : kc_Go C V nL z Q σ' (pc + 3) L (v :: rest)) (hz : z.1 + 0 ≤ rm.cells ∧ z.2 + 0 ≤ rm.slots) : kc_Go C V nL z Q σ pc L st := kg_static h hM hc hst hlk hn hR hs hW d k hz
theorem kg_staticV (h : kc_F C V cc nL own w0 rm ret) {y : MethodName} {cz : ByteArray} {nz n index : Nat} {rz : Option FieldType} {rmz : Room} {As rest : List Value} 
    (hM : kc_Met (kc_l C) y cz nz rz rmz V As σ none σ') (hc : kc_cal y cz nz rz n) (hst : Cond.static y ∈ lw_good) (hlk : Cond.methodLink own index y ∈ lw_good) (hn : As.length = n) (hR : kc_room rmz rm nz) (hs : st = As.reverse ++ rest) (hW : (rest.map fun v => v.category).sum ≤ 8) (d : decode cc pc = .ok (.invokestatic index, 3))
    (k : kc_Go C V nL z Q σ' (pc + 3) L rest) (hz : z.1 + 0 ≤ rm.cells ∧ z.2 + 0 ≤ rm.slots) : kc_Go C V nL z Q σ pc L st := kg_static h hM hc hst hlk hn hR hs hW d k hz
theorem kg_virtualI (h : kc_F C V cc nL own w0 rm ret) {y : MethodName} {cz : ByteArray} {nz n index k0 ci : Nat} {fds : List (Option Nat)} {Tb : u_T} {M : Nat} {rz : Option FieldType} {rmz : Room} {As rest : List Value} {v : Value}
    (hM : kc_Met (kc_l C) y cz nz rz rmz V (.ref (kc_ad V k0) :: As) σ (some v) σ') (hc : kc_cal y cz nz rz n) (hst : Cond.instanceMethod y ∈ lw_good) (hse : Cond.selects y.cls y y ∈ lw_good) (hlk : Cond.methodLink own index y ∈ lw_good) (ho : kc_ob V k0 ci fds) (hcl : cls_all[ci]? = some (y.cls, Tb, M)) (hn : As.length = n) (hR : kc_room rmz rm nz) (hs : st = As.reverse ++ .ref (kc_ad V k0) :: rest) (hW : (rest.map fun v => v.category).sum ≤ 8) (d : decode cc pc = .ok (.invokevirtual index, 3))
    (k : kc_Go C V nL z Q σ' (pc + 3) L (v :: rest)) (hz : z.1 + 0 ≤ rm.cells ∧ z.2 + 0 ≤ rm.slots) : kc_Go C V nL z Q σ pc L st := kg_virtual h hM hc hst hse hlk ho hcl hn hR hs hW d k hz
theorem kg_virtualV (h : kc_F C V cc nL own w0 rm ret) {y : MethodName} {cz : ByteArray} {nz n index k0 ci : Nat} {fds : List (Option Nat)} {Tb : u_T} {M : Nat} {rz : Option FieldType} {rmz : Room} {As rest : List Value} 
    (hM : kc_Met (kc_l C) y cz nz rz rmz V (.ref (kc_ad V k0) :: As) σ none σ') (hc : kc_cal y cz nz rz n) (hst : Cond.instanceMethod y ∈ lw_good) (hse : Cond.selects y.cls y y ∈ lw_good) (hlk : Cond.methodLink own index y ∈ lw_good) (ho : kc_ob V k0 ci fds) (hcl : cls_all[ci]? = some (y.cls, Tb, M)) (hn : As.length = n) (hR : kc_room rmz rm nz) (hs : st = As.reverse ++ .ref (kc_ad V k0) :: rest) (hW : (rest.map fun v => v.category).sum ≤ 8) (d : decode cc pc = .ok (.invokevirtual index, 3))
    (k : kc_Go C V nL z Q σ' (pc + 3) L rest) (hz : z.1 + 0 ≤ rm.cells ∧ z.2 + 0 ≤ rm.slots) : kc_Go C V nL z Q σ pc L st := kg_virtual h hM hc hst hse hlk ho hcl hn hR hs hW d k hz
theorem kg_staticNI (h : kc_F C V cc nL own w0 rm ret) {y : MethodName} {cz : ByteArray} {nz n index : Nat} {host : String} {rz : Option FieldType} {rmz : Room} {As rest : List Value} {v : Value}
    (hM : kc_Met (kc_l C) y cz nz rz rmz V As σ (some v) σ') (hc : kc_cal y cz nz rz n) (hst : Cond.static y ∈ lw_good) (hlk : (own, index, y, host) ∈ kc_nest) (hn : As.length = n) (hR : kc_room rmz rm nz) (hs : st = As.reverse ++ rest) (hW : (rest.map fun v => v.category).sum ≤ 8) (d : decode cc pc = .ok (.invokestatic index, 3))
    (k : kc_Go C V nL z Q σ' (pc + 3) L (v :: rest)) (hz : z.1 + 0 ≤ rm.cells ∧ z.2 + 0 ≤ rm.slots) : kc_Go C V nL z Q σ pc L st := kg_staticN h hM hc hst hlk hn hR hs hW d k hz
theorem kg_staticNV (h : kc_F C V cc nL own w0 rm ret) {y : MethodName} {cz : ByteArray} {nz n index : Nat} {host : String} {rz : Option FieldType} {rmz : Room} {As rest : List Value} 
    (hM : kc_Met (kc_l C) y cz nz rz rmz V As σ none σ') (hc : kc_cal y cz nz rz n) (hst : Cond.static y ∈ lw_good) (hlk : (own, index, y, host) ∈ kc_nest) (hn : As.length = n) (hR : kc_room rmz rm nz) (hs : st = As.reverse ++ rest) (hW : (rest.map fun v => v.category).sum ≤ 8) (d : decode cc pc = .ok (.invokestatic index, 3))
    (k : kc_Go C V nL z Q σ' (pc + 3) L rest) (hz : z.1 + 0 ≤ rm.cells ∧ z.2 + 0 ≤ rm.slots) : kc_Go C V nL z Q σ pc L st := kg_staticN h hM hc hst hlk hn hR hs hW d k hz
end KG
/-- for i from i0, n times -/
def kc_it {α : Type} (f : Nat → α → α) : Nat → Nat → α → α
  | 0, _, a => a
  | n + 1, i, a => kc_it f n (i + 1) (f i a)
theorem kc_loop {α : Type} (P : Nat → α → Prop) (f : Nat → α → α) (i0 e : Nat) (hs : ∀ i a, i0 ≤ i → i < e → P (i + 1) (f i a) → P i a) : ∀ n i a, i0 ≤ i → i + n = e → P e (kc_it f n i a) → P i a
  | 0, i, a, _, h, hp => by
    have : i = e := h
    subst this
    exact hp
  | n + 1, i, a, h0, h, hp => hs i a h0 (by omega) (kc_loop P f i0 e hs n (i + 1) (f i a) (by omega) (by omega) hp)
end
section
def kc_shp (cI cII cZ cJ : ClassId) : Nat → kc_Sh := fun k => match k with
  | 0 => .inr (.inr (.inl (0, [some 1, some 2, some 3, some 4, some 5, some 6, none])))
  | 1 => .inr (.inr (.inl (3, [none, none, none])))
  | 2 => .inr (.inr (.inl (2, [some 7, none])))
  | 3 => .inr (.inr (.inl (4, [some 1, some 8, some 9, some 10, some 11, some 12, some 13, none, none])))
  | 4 => .inl (cI, 8)
  | 5 => .inl (cI, 4)
  | 6 => .inl (cI, 4)
  | 7 => .inl (cI, 2250)
  | 8 => .inl (cI, 8)
  | 9 => .inr (.inl (cII, 8, 14))
  | 10 => .inr (.inl (cII, 8, 22))
  | 11 => .inr (.inl (cII, 8, 30))
  | 12 => .inl (cI, 8)
  | 13 => .inl (cI, 8)
  | 14 => .inl (cI, 4)
  | 15 => .inl (cI, 4)
  | 16 => .inl (cI, 4)
  | 17 => .inl (cI, 4)
  | 18 => .inl (cI, 4)
  | 19 => .inl (cI, 4)
  | 20 => .inl (cI, 4)
  | 21 => .inl (cI, 4)
  | 22 => .inl (cI, 4)
  | 23 => .inl (cI, 4)
  | 24 => .inl (cI, 4)
  | 25 => .inl (cI, 4)
  | 26 => .inl (cI, 4)
  | 27 => .inl (cI, 4)
  | 28 => .inl (cI, 4)
  | 29 => .inl (cI, 4)
  | 30 => .inl (cI, 8)
  | 31 => .inl (cI, 8)
  | 32 => .inl (cI, 8)
  | 33 => .inl (cI, 8)
  | 34 => .inl (cI, 8)
  | 35 => .inl (cI, 8)
  | 36 => .inl (cI, 8)
  | 37 => .inl (cI, 8)
  | 38 => .inr (.inr (.inl (1, [none, none, none, none, none, none, some 39, some 40, some 41, some 42, some 43, some 44, some 45, some 46, some 47, some 48, none, some 49])))
  | 39 => .inl (cI, 8)
  | 40 => .inl (cZ, 8)
  | 41 => .inl (cI, 4)
  | 42 => .inl (cI, 8)
  | 43 => .inl (cZ, 8)
  | 44 => .inl (cI, 32)
  | 45 => .inl (cI, 32)
  | 46 => .inl (cI, 64)
  | 47 => .inl (cZ, 64)
  | 48 => .inl (cZ, 64)
  | 49 => .inl (cI, 2250)
  | _ => .inr (.inr (.inr (cJ, 1)))
def kc_G (V : kc_V) : Prop := ∃ cI cII cZ cJ : ClassId, kc_N V = 51 ∧ kc_sh V = kc_shp cI cII cZ cJ ∧ kc_ty V = [(cI, .int), (cII, .array .int), (cZ, .boolean), (cJ, .long)] ∧ kc_ok V
theorem kc_G.ok {V : kc_V} (hV : kc_G V) : kc_ok V := by
  obtain ⟨cI, cII, cZ, cJ, h1, h2, h3, h4⟩ := hV
  exact h4
theorem ko_0 {V : kc_V} (hV : kc_G V) : kc_ob V 0 0 [some 1, some 2, some 3, some 4, some 5, some 6, none] := by
  obtain ⟨cI, cII, cZ, cJ, h1, h2, h3, h4⟩ := hV
  exact ⟨by rw [h1]; decide, by rw [h2]; rfl⟩
theorem ko_1 {V : kc_V} (hV : kc_G V) : kc_ob V 1 3 [none, none, none] := by
  obtain ⟨cI, cII, cZ, cJ, h1, h2, h3, h4⟩ := hV
  exact ⟨by rw [h1]; decide, by rw [h2]; rfl⟩
theorem ko_2 {V : kc_V} (hV : kc_G V) : kc_ob V 2 2 [some 7, none] := by
  obtain ⟨cI, cII, cZ, cJ, h1, h2, h3, h4⟩ := hV
  exact ⟨by rw [h1]; decide, by rw [h2]; rfl⟩
theorem ko_3 {V : kc_V} (hV : kc_G V) : kc_ob V 3 4 [some 1, some 8, some 9, some 10, some 11, some 12, some 13, none, none] := by
  obtain ⟨cI, cII, cZ, cJ, h1, h2, h3, h4⟩ := hV
  exact ⟨by rw [h1]; decide, by rw [h2]; rfl⟩
theorem ko_38 {V : kc_V} (hV : kc_G V) : kc_ob V 38 1 [none, none, none, none, none, none, some 39, some 40, some 41, some 42, some 43, some 44, some 45, some 46, some 47, some 48, none, some 49] := by
  obtain ⟨cI, cII, cZ, cJ, h1, h2, h3, h4⟩ := hV
  exact ⟨by rw [h1]; decide, by rw [h2]; rfl⟩
theorem ka_4 {V : kc_V} (hV : kc_G V) : kc_ai V 4 8 := by
  obtain ⟨cI, cII, cZ, cJ, h1, h2, h3, h4⟩ := hV
  exact ⟨cI, 0, by rw [h1]; decide, by rw [h2]; rfl, by rw [h3]; rfl, by decide⟩
theorem ka_5 {V : kc_V} (hV : kc_G V) : kc_ai V 5 4 := by
  obtain ⟨cI, cII, cZ, cJ, h1, h2, h3, h4⟩ := hV
  exact ⟨cI, 0, by rw [h1]; decide, by rw [h2]; rfl, by rw [h3]; rfl, by decide⟩
theorem ka_6 {V : kc_V} (hV : kc_G V) : kc_ai V 6 4 := by
  obtain ⟨cI, cII, cZ, cJ, h1, h2, h3, h4⟩ := hV
  exact ⟨cI, 0, by rw [h1]; decide, by rw [h2]; rfl, by rw [h3]; rfl, by decide⟩
theorem ka_7 {V : kc_V} (hV : kc_G V) : kc_ai V 7 2250 := by
  obtain ⟨cI, cII, cZ, cJ, h1, h2, h3, h4⟩ := hV
  exact ⟨cI, 0, by rw [h1]; decide, by rw [h2]; rfl, by rw [h3]; rfl, by decide⟩
theorem ka_8 {V : kc_V} (hV : kc_G V) : kc_ai V 8 8 := by
  obtain ⟨cI, cII, cZ, cJ, h1, h2, h3, h4⟩ := hV
  exact ⟨cI, 0, by rw [h1]; decide, by rw [h2]; rfl, by rw [h3]; rfl, by decide⟩
theorem ka_12 {V : kc_V} (hV : kc_G V) : kc_ai V 12 8 := by
  obtain ⟨cI, cII, cZ, cJ, h1, h2, h3, h4⟩ := hV
  exact ⟨cI, 0, by rw [h1]; decide, by rw [h2]; rfl, by rw [h3]; rfl, by decide⟩
theorem ka_13 {V : kc_V} (hV : kc_G V) : kc_ai V 13 8 := by
  obtain ⟨cI, cII, cZ, cJ, h1, h2, h3, h4⟩ := hV
  exact ⟨cI, 0, by rw [h1]; decide, by rw [h2]; rfl, by rw [h3]; rfl, by decide⟩
theorem ka_39 {V : kc_V} (hV : kc_G V) : kc_ai V 39 8 := by
  obtain ⟨cI, cII, cZ, cJ, h1, h2, h3, h4⟩ := hV
  exact ⟨cI, 0, by rw [h1]; decide, by rw [h2]; rfl, by rw [h3]; rfl, by decide⟩
theorem ka_41 {V : kc_V} (hV : kc_G V) : kc_ai V 41 4 := by
  obtain ⟨cI, cII, cZ, cJ, h1, h2, h3, h4⟩ := hV
  exact ⟨cI, 0, by rw [h1]; decide, by rw [h2]; rfl, by rw [h3]; rfl, by decide⟩
theorem ka_42 {V : kc_V} (hV : kc_G V) : kc_ai V 42 8 := by
  obtain ⟨cI, cII, cZ, cJ, h1, h2, h3, h4⟩ := hV
  exact ⟨cI, 0, by rw [h1]; decide, by rw [h2]; rfl, by rw [h3]; rfl, by decide⟩
theorem ka_44 {V : kc_V} (hV : kc_G V) : kc_ai V 44 32 := by
  obtain ⟨cI, cII, cZ, cJ, h1, h2, h3, h4⟩ := hV
  exact ⟨cI, 0, by rw [h1]; decide, by rw [h2]; rfl, by rw [h3]; rfl, by decide⟩
theorem ka_45 {V : kc_V} (hV : kc_G V) : kc_ai V 45 32 := by
  obtain ⟨cI, cII, cZ, cJ, h1, h2, h3, h4⟩ := hV
  exact ⟨cI, 0, by rw [h1]; decide, by rw [h2]; rfl, by rw [h3]; rfl, by decide⟩
theorem ka_46 {V : kc_V} (hV : kc_G V) : kc_ai V 46 64 := by
  obtain ⟨cI, cII, cZ, cJ, h1, h2, h3, h4⟩ := hV
  exact ⟨cI, 0, by rw [h1]; decide, by rw [h2]; rfl, by rw [h3]; rfl, by decide⟩
theorem ka_49 {V : kc_V} (hV : kc_G V) : kc_ai V 49 2250 := by
  obtain ⟨cI, cII, cZ, cJ, h1, h2, h3, h4⟩ := hV
  exact ⟨cI, 0, by rw [h1]; decide, by rw [h2]; rfl, by rw [h3]; rfl, by decide⟩
theorem ka_40 {V : kc_V} (hV : kc_G V) : kc_az V 40 8 := by
  obtain ⟨cI, cII, cZ, cJ, h1, h2, h3, h4⟩ := hV
  exact ⟨cZ, 2, by rw [h1]; decide, by rw [h2]; rfl, by rw [h3]; rfl, by decide⟩
theorem ka_43 {V : kc_V} (hV : kc_G V) : kc_az V 43 8 := by
  obtain ⟨cI, cII, cZ, cJ, h1, h2, h3, h4⟩ := hV
  exact ⟨cZ, 2, by rw [h1]; decide, by rw [h2]; rfl, by rw [h3]; rfl, by decide⟩
theorem ka_47 {V : kc_V} (hV : kc_G V) : kc_az V 47 64 := by
  obtain ⟨cI, cII, cZ, cJ, h1, h2, h3, h4⟩ := hV
  exact ⟨cZ, 2, by rw [h1]; decide, by rw [h2]; rfl, by rw [h3]; rfl, by decide⟩
theorem ka_48 {V : kc_V} (hV : kc_G V) : kc_az V 48 64 := by
  obtain ⟨cI, cII, cZ, cJ, h1, h2, h3, h4⟩ := hV
  exact ⟨cZ, 2, by rw [h1]; decide, by rw [h2]; rfl, by rw [h3]; rfl, by decide⟩
theorem ka_50 {V : kc_V} (hV : kc_G V) : kc_al V 50 1 := by
  obtain ⟨cI, cII, cZ, cJ, h1, h2, h3, h4⟩ := hV
  exact ⟨cJ, 3, by rw [h1]; decide, by rw [h2]; rfl, by rw [h3]; rfl, by decide⟩
theorem ka_9 {V : kc_V} (hV : kc_G V) : kc_ar V 9 8 14 := by
  obtain ⟨cI, cII, cZ, cJ, h1, h2, h3, h4⟩ := hV
  exact ⟨cII, 1, by rw [h1]; decide, by rw [h2]; rfl, by rw [h3]; rfl, by decide⟩
theorem ka_14 {V : kc_V} (hV : kc_G V) {d : Nat} (hd : d < 8) : kc_ai V (14 + d) 4 := by
  obtain ⟨cI, cII, cZ, cJ, h1, h2, h3, h4⟩ := hV
  refine ⟨cI, 0, by rw [h1]; omega, ?_, by rw [h3]; rfl, by decide⟩
  rw [h2]
  rcases (show d = 0 ∨ d = 1 ∨ d = 2 ∨ d = 3 ∨ d = 4 ∨ d = 5 ∨ d = 6 ∨ d = 7 by omega) with rfl | rfl | rfl | rfl | rfl | rfl | rfl | rfl <;> rfl
theorem ka_10 {V : kc_V} (hV : kc_G V) : kc_ar V 10 8 22 := by
  obtain ⟨cI, cII, cZ, cJ, h1, h2, h3, h4⟩ := hV
  exact ⟨cII, 1, by rw [h1]; decide, by rw [h2]; rfl, by rw [h3]; rfl, by decide⟩
theorem ka_22 {V : kc_V} (hV : kc_G V) {d : Nat} (hd : d < 8) : kc_ai V (22 + d) 4 := by
  obtain ⟨cI, cII, cZ, cJ, h1, h2, h3, h4⟩ := hV
  refine ⟨cI, 0, by rw [h1]; omega, ?_, by rw [h3]; rfl, by decide⟩
  rw [h2]
  rcases (show d = 0 ∨ d = 1 ∨ d = 2 ∨ d = 3 ∨ d = 4 ∨ d = 5 ∨ d = 6 ∨ d = 7 by omega) with rfl | rfl | rfl | rfl | rfl | rfl | rfl | rfl <;> rfl
theorem ka_11 {V : kc_V} (hV : kc_G V) : kc_ar V 11 8 30 := by
  obtain ⟨cI, cII, cZ, cJ, h1, h2, h3, h4⟩ := hV
  exact ⟨cII, 1, by rw [h1]; decide, by rw [h2]; rfl, by rw [h3]; rfl, by decide⟩
theorem ka_30 {V : kc_V} (hV : kc_G V) {d : Nat} (hd : d < 8) : kc_ai V (30 + d) 8 := by
  obtain ⟨cI, cII, cZ, cJ, h1, h2, h3, h4⟩ := hV
  refine ⟨cI, 0, by rw [h1]; omega, ?_, by rw [h3]; rfl, by decide⟩
  rw [h2]
  rcases (show d = 0 ∨ d = 1 ∨ d = 2 ∨ d = 3 ∨ d = 4 ∨ d = 5 ∨ d = 6 ∨ d = 7 by omega) with rfl | rfl | rfl | rfl | rfl | rfl | rfl | rfl <;> rfl
abbrev kc_rm (d : Nat) : Room := { frames := d, cells := 0, slots := 0, locals := 36 * d }
end
section
theorem kn_inc1 (i : Nat) : nI i + Int32.ofInt 1 = nI (i + 1) := by
  rw [show Int32.ofInt 1 = (1 : Int32) by decide +kernel, ← nI_succ]
theorem kn_inc6 (i : Nat) : nI i + Int32.ofInt 6 = nI (i + 6) := by
  rw [show Int32.ofInt 6 = nI 6 by decide +kernel, nI_add]
theorem kn_z0 : narrow .boolean (.int (nI 0)) = .int (nI 0) := rfl
theorem kn_z1 : narrow .boolean (.int (nI 1)) = .int (nI 1) := rfl
theorem kn_zb {x : Int32} (h : x = nI 0 ∨ x = nI 1) : narrow .boolean (.int x) = .int x := by
  rcases h with rfl | rfl
  · exact kn_z0
  · exact kn_z1
theorem kn_l_0 : Int64.ofNat ((0 : Fin 2) : Nat) = lN 0 := rfl
theorem kn_l_1 : Int64.ofNat ((1 : Fin 2) : Nat) = lN 1 := rfl
theorem kn_l0 {x : Int32} (h : ¬ x = 0) : ¬ x.toInt64 = 0 := by
  intro q
  apply h
  have h1 := congrArg Int64.toInt q
  rw [Int32.toInt_toInt64] at h1
  exact Int32.toInt_inj.mp h1
theorem kn_ne0 {a : Nat} {x : Int32} (h0 : 0 < a) (ha : a < 2 ^ 31) (h : ¬ x < nI a) : ¬ x = 0 := by
  intro q
  subst q
  apply h
  rw [← nI_0]
  exact nI_lt h0 ha
theorem kn_le0 {x : Int32} (h : x.toInt < 2 ^ 0) : x ≤ 0 := by
  rw [Int32.le_iff_toInt_le, Int32.toInt_zero]
  omega
theorem kn_shr1 {x : Int32} {n : Nat} (h : x.toInt < 2 ^ (n + 1)) : (kc_shr x (nI 1)).toInt < 2 ^ n := by
  unfold kc_shr
  rw [pk_shr x (nI 1 &&& 31) 1 (by decide +kernel), Int.shiftRight_eq_div_pow]
  rw [Int.pow_succ] at h
  omega
theorem kn_top {x : Int32} : x.toInt < 2 ^ 32 := by
  have := Int32.toInt_lt x
  omega
theorem kn_gt0 {p q : Int32} (h : ¬ q < nI 11) (h2 : ¬ p ≤ q) : ¬ p = 0 := by
  intro z
  subst z
  rw [Int32.lt_iff_toInt_lt, nI_toInt (by decide)] at h
  rw [Int32.le_iff_toInt_le, Int32.toInt_zero] at h2
  omega
theorem kn_dec {i : Nat} (h : i < 4) : nI 3 - nI i + Int32.ofInt (-1) = nI 3 - nI (i + 1) := by
  rcases (show i = 0 ∨ i = 1 ∨ i = 2 ∨ i = 3 by omega) with rfl | rfl | rfl | rfl <;> decide +kernel
theorem kn_dn {i : Nat} (h : i < 4) : ¬ (nI 3 - nI i < 0) := by
  rcases (show i = 0 ∨ i = 1 ∨ i = 2 ∨ i = 3 by omega) with rfl | rfl | rfl | rfl <;> decide +kernel
theorem kn_incx (x : Int32) : x + Int32.ofInt 1 = x + nI 1 := by
  rw [show Int32.ofInt 1 = nI 1 by decide +kernel]
theorem kn_b_6 : (Int8.ofInt (6)).toInt32 = nI 6 := by decide +kernel
theorem kn_b_7 : (Int8.ofInt (7)).toInt32 = nI 7 := by decide +kernel
theorem kn_b_8 : (Int8.ofInt (8)).toInt32 = nI 8 := by decide +kernel
theorem kn_b_9 : (Int8.ofInt (9)).toInt32 = nI 9 := by decide +kernel
theorem kn_b_11 : (Int8.ofInt (11)).toInt32 = nI 11 := by decide +kernel
theorem kn_b_16 : (Int8.ofInt (16)).toInt32 = nI 16 := by decide +kernel
theorem kn_b_63 : (Int8.ofInt (63)).toInt32 = nI 63 := by decide +kernel
theorem kn_b_64 : (Int8.ofInt (64)).toInt32 = nI 64 := by decide +kernel
theorem kn_b_127 : (Int8.ofInt (127)).toInt32 = nI 127 := by decide +kernel
theorem kn_i_m1 : Int32.ofInt (-1) = (-1 : Int32) := by decide +kernel
theorem kn_i_0 : Int32.ofInt (0) = nI 0 := by decide +kernel
theorem kn_i_1 : Int32.ofInt (1) = nI 1 := by decide +kernel
theorem kn_i_2 : Int32.ofInt (2) = nI 2 := by decide +kernel
theorem kn_i_3 : Int32.ofInt (3) = nI 3 := by decide +kernel
theorem kn_i_4 : Int32.ofInt (4) = nI 4 := by decide +kernel
theorem kn_i_5 : Int32.ofInt (5) = nI 5 := by decide +kernel
theorem kn_s_250 : (Int16.ofInt (250)).toInt32 = nI 250 := by decide +kernel
theorem kn_s_32749 : (Int16.ofInt (32749)).toInt32 = nI 32749 := by decide +kernel
theorem cal_G_isGroup : kc_cal y_G_isGroup b_G_isGroup 3 ((some FieldType.boolean)) 3 := ⟨tw_124, tw_2, by decide +kernel⟩
theorem cal_G_power : kc_cal y_G_power b_G_power 8 ((some FieldType.int)) 3 := ⟨tw_127, tw_2, by decide +kernel⟩
theorem cal_G_isPrime : kc_cal y_G_isPrime b_G_isPrime 2 ((some FieldType.boolean)) 1 := ⟨tw_130, tw_2, by decide +kernel⟩
theorem cal_G_become : kc_cal y_G_become b_G_become 4 none 3 := ⟨tw_199, tw_2, by decide +kernel⟩
theorem cal_B_empty : kc_cal y_B_empty b_B_empty 1 none 0 := ⟨tw_203, tw_3, by decide +kernel⟩
theorem cal_V_begin : kc_cal y_V_begin b_V_begin 1 none 0 := ⟨tw_207, tw_4, by decide +kernel⟩
theorem cal_JA_fill : kc_cal y_JA_fill b_JA_fill 4 none 2 := ⟨tw_210, tw_10, by decide +kernel⟩
theorem cal_G_stands : kc_cal y_G_stands b_G_stands 1 ((some FieldType.boolean)) 0 := ⟨tw_223, tw_2, by decide +kernel⟩
theorem cal_G_isNumber : kc_cal y_G_isNumber b_G_isNumber 2 ((some FieldType.boolean)) 1 := ⟨tw_242, tw_2, by decide +kernel⟩
theorem cal_G_areNumbers : kc_cal y_G_areNumbers b_G_areNumbers 4 ((some FieldType.boolean)) 3 := ⟨tw_246, tw_2, by decide +kernel⟩
theorem cal_K_writeRow : kc_cal y_K_writeRow b_K_writeRow 5 none 5 := ⟨tw_250, tw_1, by decide +kernel⟩
theorem cal_G_commitTo : kc_cal y_G_commitTo b_G_commitTo 4 none 2 := ⟨tw_254, tw_2, by decide +kernel⟩
theorem cal_G_valueAt : kc_cal y_G_valueAt b_G_valueAt 5 ((some FieldType.int)) 2 := ⟨tw_258, tw_2, by decide +kernel⟩
theorem cal_G_multiplyNumbers : kc_cal y_G_multiplyNumbers b_G_multiplyNumbers 3 ((some FieldType.int)) 2 := ⟨tw_262, tw_2, by decide +kernel⟩
theorem cal_G_addNumbers : kc_cal y_G_addNumbers b_G_addNumbers 3 ((some FieldType.int)) 2 := ⟨tw_266, tw_2, by decide +kernel⟩
theorem cal_V_hasDealt : kc_cal y_V_hasDealt b_V_hasDealt 2 ((some FieldType.boolean)) 1 := ⟨tw_301, tw_4, by decide +kernel⟩
theorem cal_K_isAmong : kc_cal y_K_isAmong b_K_isAmong 2 ((some FieldType.boolean)) 2 := ⟨tw_304, tw_1, by decide +kernel⟩
theorem cal_K_bit : kc_cal y_K_bit b_K_bit 1 ((some FieldType.int)) 1 := ⟨tw_307, tw_1, by decide +kernel⟩
theorem cal_V_isOneTooMany : kc_cal y_V_isOneTooMany b_V_isOneTooMany 3 ((some FieldType.boolean)) 2 := ⟨tw_311, tw_4, by decide +kernel⟩
theorem cal_V_faulty : kc_cal y_V_faulty b_V_faulty 3 ((some FieldType.int)) 0 := ⟨tw_315, tw_4, by decide +kernel⟩
theorem cal_JI_bitCount : kc_cal y_JI_bitCount b_JI_bitCount 1 ((some FieldType.int)) 1 := ⟨tw_319, tw_13, by decide +kernel⟩
theorem cal_V_turn : kc_cal y_V_turn b_V_turn 3 none 2 := ⟨tw_341, tw_4, by decide +kernel⟩
theorem cal_B_room : kc_cal y_B_room b_B_room 1 ((some FieldType.int)) 0 := ⟨tw_352, tw_3, by decide +kernel⟩
theorem cal_V_isSilent : kc_cal y_V_isSilent b_V_isSilent 2 ((some FieldType.boolean)) 1 := ⟨tw_356, tw_4, by decide +kernel⟩
theorem cal_V_passOver : kc_cal y_V_passOver b_V_passOver 2 none 1 := ⟨tw_360, tw_4, by decide +kernel⟩
theorem cal_V_sendOut : kc_cal y_V_sendOut b_V_sendOut 7 none 4 := ⟨tw_364, tw_4, by decide +kernel⟩
theorem cal_V_rightShare : kc_cal y_V_rightShare b_V_rightShare 3 ((some FieldType.int)) 2 := ⟨tw_370, tw_4, by decide +kernel⟩
theorem cal_V_isCheated : kc_cal y_V_isCheated b_V_isCheated 4 ((some FieldType.boolean)) 2 := ⟨tw_375, tw_4, by decide +kernel⟩
theorem cal_V_commitmentsOf : kc_cal y_V_commitmentsOf b_V_commitmentsOf 2 ((some (FieldType.array FieldType.int))) 1 := ⟨tw_380, tw_4, by decide +kernel⟩
theorem cal_B_addDealing : kc_cal y_B_addDealing b_B_addDealing 5 none 3 := ⟨tw_384, tw_3, by decide +kernel⟩
theorem cal_B_add : kc_cal y_B_add b_B_add 8 none 5 := ⟨tw_388, tw_3, by decide +kernel⟩
theorem cal_V_accusedBy : kc_cal y_V_accusedBy b_V_accusedBy 4 ((some FieldType.int)) 1 := ⟨tw_402, tw_4, by decide +kernel⟩
theorem cal_V_objectsTo : kc_cal y_V_objectsTo b_V_objectsTo 3 ((some FieldType.boolean)) 2 := ⟨tw_406, tw_4, by decide +kernel⟩
theorem cal_G_agree : kc_cal y_G_agree b_G_agree 4 ((some FieldType.boolean)) 3 := ⟨tw_410, tw_2, by decide +kernel⟩
theorem cal_G_elementAt : kc_cal y_G_elementAt b_G_elementAt 6 ((some FieldType.int)) 2 := ⟨tw_414, tw_2, by decide +kernel⟩
theorem cal_G_multiply : kc_cal y_G_multiply b_G_multiply 3 ((some FieldType.int)) 2 := ⟨tw_418, tw_2, by decide +kernel⟩
theorem cal_V_complain : kc_cal y_V_complain b_V_complain 3 none 2 := ⟨tw_424, tw_4, by decide +kernel⟩
theorem cal_V_dealers : kc_cal y_V_dealers b_V_dealers 1 ((some FieldType.int)) 0 := ⟨tw_436, tw_4, by decide +kernel⟩
theorem cal_V_shownBy : kc_cal y_V_shownBy b_V_shownBy 5 ((some FieldType.int)) 2 := ⟨tw_440, tw_4, by decide +kernel⟩
theorem cal_V_settle : kc_cal y_V_settle b_V_settle 5 ((some FieldType.boolean)) 3 := ⟨tw_444, tw_4, by decide +kernel⟩
theorem cal_V_accepted : kc_cal y_V_accepted b_V_accepted 3 ((some FieldType.int)) 0 := ⟨tw_455, tw_4, by decide +kernel⟩
theorem cal_K_takeOver : kc_cal y_K_takeOver b_K_takeOver 4 none 1 := ⟨tw_459, tw_1, by decide +kernel⟩
theorem cal_K_isWiped : kc_cal y_K_isWiped b_K_isWiped 2 ((some FieldType.boolean)) 1 := ⟨tw_463, tw_1, by decide +kernel⟩
theorem cal_V_hadFrom : kc_cal y_V_hadFrom b_V_hadFrom 3 ((some FieldType.int)) 2 := ⟨tw_467, tw_4, by decide +kernel⟩
theorem cal_K_sound : kc_cal y_K_sound b_K_sound 3 ((some FieldType.int)) 0 := ⟨tw_487, tw_1, by decide +kernel⟩
theorem cal_K_isSound : kc_cal y_K_isSound b_K_isSound 2 ((some FieldType.boolean)) 1 := ⟨tw_491, tw_1, by decide +kernel⟩
theorem cal_K_leastFour : kc_cal y_K_leastFour b_K_leastFour 3 ((some FieldType.int)) 1 := ⟨tw_495, tw_1, by decide +kernel⟩
theorem cal_G_interpolate : kc_cal y_G_interpolate b_G_interpolate 6 ((some FieldType.int)) 3 := ⟨tw_499, tw_2, by decide +kernel⟩
theorem cal_G_weight : kc_cal y_G_weight b_G_weight 7 ((some FieldType.int)) 3 := ⟨tw_504, tw_2, by decide +kernel⟩
theorem cal_JM_floorMod : kc_cal y_JM_floorMod b_JM_floorMod 3 ((some FieldType.int)) 2 := ⟨tw_507, tw_16, by decide +kernel⟩
theorem cal_K_wiped : kc_cal y_K_wiped b_K_wiped 3 ((some FieldType.int)) 0 := ⟨tw_563, tw_1, by decide +kernel⟩
theorem cal_B_size : kc_cal y_B_size b_B_size 1 ((some FieldType.int)) 0 := ⟨tw_574, tw_3, by decide +kernel⟩
theorem cal_B_read : kc_cal y_B_read b_B_read 3 ((some FieldType.int)) 2 := ⟨tw_578, tw_3, by decide +kernel⟩
theorem cal_V_complaintCount : kc_cal y_V_complaintCount b_V_complaintCount 1 ((some FieldType.int)) 0 := ⟨tw_589, tw_4, by decide +kernel⟩
theorem cal_V_countAll : kc_cal y_V_countAll b_V_countAll 3 ((some FieldType.int)) 1 := ⟨tw_592, tw_4, by decide +kernel⟩
theorem cal_V_settledCount : kc_cal y_V_settledCount b_V_settledCount 1 ((some FieldType.int)) 0 := ⟨tw_596, tw_4, by decide +kernel⟩
theorem cal_M_thrown : kc_cal y_M_thrown b_M_thrown 1 ((some FieldType.int)) 0 := ⟨tw_663, tw_5, by decide +kernel⟩
theorem cal_M_group : kc_cal y_M_group b_M_group 6 none 3 := ⟨tw_667, tw_5, by decide +kernel⟩
theorem cal_M_prime : kc_cal y_M_prime b_M_prime 2 ((some FieldType.boolean)) 1 := ⟨tw_670, tw_5, by decide +kernel⟩
theorem cal_M_power : kc_cal y_M_power b_M_power 8 ((some FieldType.int)) 2 := ⟨tw_675, tw_5, by decide +kernel⟩
theorem cal_M_found : kc_cal y_M_found b_M_found 6 none 4 := ⟨tw_679, tw_5, by decide +kernel⟩
theorem cal_M_noNumber : kc_cal y_M_noNumber b_M_noNumber 2 ((some FieldType.boolean)) 1 := ⟨tw_683, tw_5, by decide +kernel⟩
theorem cal_M_valueAt : kc_cal y_M_valueAt b_M_valueAt 5 ((some FieldType.int)) 2 := ⟨tw_687, tw_5, by decide +kernel⟩
theorem cal_M_newWeek : kc_cal y_M_newWeek b_M_newWeek 2 none 0 := ⟨tw_691, tw_5, by decide +kernel⟩
theorem cal_M_fault : kc_cal y_M_fault b_M_fault 5 none 2 := ⟨tw_695, tw_5, by decide +kernel⟩
theorem cal_M_first : kc_cal y_M_first b_M_first 2 ((some FieldType.int)) 1 := ⟨tw_699, tw_5, by decide +kernel⟩
theorem cal_M_noSeat : kc_cal y_M_noSeat b_M_noSeat 1 ((some FieldType.boolean)) 1 := ⟨tw_702, tw_5, by decide +kernel⟩
theorem cal_M_deal : kc_cal y_M_deal b_M_deal 6 none 4 := ⟨tw_706, tw_5, by decide +kernel⟩
theorem cal_M_put : kc_cal y_M_put b_M_put 6 none 4 := ⟨tw_710, tw_5, by decide +kernel⟩
theorem cal_M_sent : kc_cal y_M_sent b_M_sent 5 ((some FieldType.int)) 2 := ⟨tw_714, tw_5, by decide +kernel⟩
theorem cal_M_complains : kc_cal y_M_complains b_M_complains 3 ((some FieldType.boolean)) 2 := ⟨tw_722, tw_5, by decide +kernel⟩
theorem cal_M_dealer : kc_cal y_M_dealer b_M_dealer 2 ((some FieldType.boolean)) 1 := ⟨tw_726, tw_5, by decide +kernel⟩
theorem cal_M_goodShare : kc_cal y_M_goodShare b_M_goodShare 4 ((some FieldType.boolean)) 3 := ⟨tw_730, tw_5, by decide +kernel⟩
theorem cal_M_timesAt : kc_cal y_M_timesAt b_M_timesAt 8 ((some FieldType.int)) 3 := ⟨tw_734, tw_5, by decide +kernel⟩
theorem cal_M_accepted : kc_cal y_M_accepted b_M_accepted 3 ((some FieldType.boolean)) 1 := ⟨tw_746, tw_5, by decide +kernel⟩
theorem cal_M_wipe : kc_cal y_M_wipe b_M_wipe 2 none 1 := ⟨tw_750, tw_5, by decide +kernel⟩
theorem cal_M_recover : kc_cal y_M_recover b_M_recover 4 ((some FieldType.int)) 1 := ⟨tw_754, tw_5, by decide +kernel⟩
theorem cal_M_fitsSums : kc_cal y_M_fitsSums b_M_fitsSums 2 ((some FieldType.boolean)) 1 := ⟨tw_758, tw_5, by decide +kernel⟩
theorem cal_M_four : kc_cal y_M_four b_M_four 4 ((some FieldType.int)) 1 := ⟨tw_761, tw_5, by decide +kernel⟩
theorem cal_M_interpolate : kc_cal y_M_interpolate b_M_interpolate 7 ((some FieldType.int)) 2 := ⟨tw_765, tw_5, by decide +kernel⟩
theorem cal_M_inverse : kc_cal y_M_inverse b_M_inverse 5 ((some FieldType.int)) 1 := ⟨tw_769, tw_5, by decide +kernel⟩
theorem cal_M_share : kc_cal y_M_share b_M_share 2 ((some FieldType.int)) 1 := ⟨tw_773, tw_5, by decide +kernel⟩
theorem cal_M_fits : kc_cal y_M_fits b_M_fits 2 ((some FieldType.boolean)) 1 := ⟨tw_777, tw_5, by decide +kernel⟩
theorem cal_M_sum : kc_cal y_M_sum b_M_sum 2 ((some FieldType.int)) 1 := ⟨tw_781, tw_5, by decide +kernel⟩
theorem cal_M_element : kc_cal y_M_element b_M_element 2 ((some FieldType.int)) 1 := ⟨tw_785, tw_5, by decide +kernel⟩
theorem cal_M_reconstruct : kc_cal y_M_reconstruct b_M_reconstruct 3 ((some FieldType.int)) 1 := ⟨tw_789, tw_5, by decide +kernel⟩
theorem cal_M_post : kc_cal y_M_post b_M_post 3 ((some FieldType.int)) 2 := ⟨tw_793, tw_5, by decide +kernel⟩
theorem cal_M_about : kc_cal y_M_about b_M_about 5 ((some FieldType.int)) 1 := ⟨tw_797, tw_5, by decide +kernel⟩
end
section
theorem kc_ofF {l : Launch} {y : MethodName} {cc : ByteArray} {nL : Nat} {ret : Option FieldType} {rm : Room} {V : kc_V} {av : List Value} {σ : kc_Sg} {rv : Option Value} {σ' : kc_Sg} (hy : plainFor y = true) (hlen : (lg_sl av).length ≤ nL) (hV : kc_ok V)
    (body : ∀ C : kc_C, kc_l C = l → kc_F C V cc nL y.cls (Cond.code y cc nL ret) rm ret → kc_Go C V nL (0, 0) (kc_E C V rv σ') σ 0 (lv_args 0 av) []) : kc_Met l y cc nL ret rm V av σ rv σ' := by
  refine va_MetF (cc := cc) (maxL := nL) (ret := ret) hy rfl ?_
  intro p e s m args below meth c s₁ B hml hv
  obtain ⟨rfl, hP, hK, hN⟩ := hv
  rw [lg_entry_eq]
  exact body (p, l, e, rm, s, m, av.toArray, below, meth, c) rfl ⟨⟨B.exec, B.bytes, hml, findClass_of_methodNamed B.named, atoms_spec B.pre⟩, hK, rfl, hN, B.notSynchronized, B.returns, hV⟩ _ s.heap [] (lv_entry av hlen) hP va_S.rf
theorem kc_up_nk {σ : kc_Sg} {k k2 i j : Nat} {x : Int32} (h : k ≠ k2) : kc_up σ k2 i x k j = σ k j := congrFun (kc_up_ne h) j
theorem kc_up_nj {σ : kc_Sg} {k i j : Nat} {x : Int32} (h : j ≠ i) : kc_up σ k i x k j = σ k j := by
  unfold kc_up
  rw [if_pos rfl]
  unfold upd
  rw [if_neg h]
theorem kc_up_jj {σ : kc_Sg} {k i : Nat} {x : Int32} : kc_up σ k i x k i = x := by
  unfold kc_up
  rw [if_pos rfl]
  unfold upd
  rw [if_pos rfl]
end
section
def kp_K_bit (x : Int32) : Int32 := (kc_shl (nI 1) (x - (nI 1)))
set_option maxHeartbeats 4000000 in
set_option maxRecDepth 100000 in
theorem kk_K_bit (l : Launch) {V : kc_V} (hV : kc_G V) (σ : kc_Sg) (x : Int32) : kc_Met l y_K_bit b_K_bit 1 (some .int) (kc_rm 1) V [.int x] σ (some (.int (kp_K_bit x))) σ := by
  refine kc_of (by decide) (Nat.le_of_ble_eq_true rfl) hV.ok (fun C _ hC => ?_)
  show kc_Go C V 1 (0, 0) (kc_E C V (some (.int (kp_K_bit x))) σ) σ 0 [(0, .int x)] []
  refine kg_iconst hC d_K_bit_0 kn_i_1 ?_
  refine kg_iload_n hC d_K_bit_1 0 rfl ?_
  refine kg_iconst hC d_K_bit_2 kn_i_1 ?_
  refine kg_isub hC d_K_bit_3 ?_
  refine kg_ishl hC d_K_bit_4 ?_
  exact kg_iret hC d_K_bit_5 (by rw [kp_K_bit]) rfl
def kp_K_isAmong (m : Int32) (x : Int32) : Int32 := if (m &&& (kp_K_bit x)) = 0 then (nI 0) else (nI 1)
set_option maxHeartbeats 4000000 in
set_option maxRecDepth 100000 in
theorem kk_K_isAmong (l : Launch) {V : kc_V} (hV : kc_G V) (σ : kc_Sg) (m : Int32) (x : Int32) : kc_Met l y_K_isAmong b_K_isAmong 2 (some .boolean) (kc_rm 2) V [.int m, .int x] σ (some (.int (kp_K_isAmong m x))) σ := by
  refine kc_of (by decide) (Nat.le_of_ble_eq_true rfl) hV.ok (fun C _ hC => ?_)
  show kc_Go C V 2 (0, 0) (kc_E C V (some (.int (kp_K_isAmong m x))) σ) σ 0 [(0, .int m), (1, .int x)] []
  refine kg_iload_n hC d_K_isAmong_0 0 rfl ?_
  refine kg_iload_n hC d_K_isAmong_1 1 rfl ?_
  refine kg_staticI hC (kk_K_bit (kc_l C) hV σ x) cal_K_bit tw_306 tw_305 rfl (by decide) (rest := [.int m]) rfl (Nat.le_of_ble_eq_true rfl) d_K_isAmong_2 ?_ (by decide)
  refine kg_iand hC d_K_isAmong_5 ?_
  refine kg_if_eq hC d_K_isAmong_6 (tgt := 13) rfl (fun h6 => ?_) (fun h6 => ?_)
  · refine kg_iconst hC d_K_isAmong_13 kn_i_0 ?_
    exact kg_zret hC d_K_isAmong_14 kn_z0 (by rw [kp_K_isAmong, if_pos h6]) rfl
  · refine kg_iconst hC d_K_isAmong_9 kn_i_1 ?_
    refine kg_goto hC d_K_isAmong_10 (tgt := 14) rfl ?_
    exact kg_zret hC d_K_isAmong_14 kn_z1 (by rw [kp_K_isAmong, if_neg h6]) rfl
theorem kz_K_isAmong (m : Int32) (x : Int32) : kp_K_isAmong m x = nI 0 ∨ kp_K_isAmong m x = nI 1 := by
  unfold kp_K_isAmong
  (repeat' split) <;> first | exact Or.inl rfl | exact Or.inr rfl
def kq_K_writeRow (σ : kc_Sg) (k : Nat) (a : Int32) (b : Int32) (c : Int32) (d : Int32) : kc_Sg := (kc_up (kc_up (kc_up (kc_up σ k 0 a) k 1 b) k 2 c) k 3 d)
set_option maxHeartbeats 4000000 in
set_option maxRecDepth 100000 in
theorem kk_K_writeRow (l : Launch) {V : kc_V} (hV : kc_G V) (σ : kc_Sg) (k : Nat) (a : Int32) (b : Int32) (c : Int32) (d : Int32) (ha : kc_ai V k 4) : kc_Met l y_K_writeRow b_K_writeRow 5 none (kc_rm 1) V [.ref (kc_ad V k), .int a, .int b, .int c, .int d] σ none (kq_K_writeRow σ k a b c d) := by
  refine kc_of (by decide) (Nat.le_of_ble_eq_true rfl) hV.ok (fun C _ hC => ?_)
  show kc_Go C V 5 (0, 0) (kc_E C V none (kq_K_writeRow σ k a b c d)) σ 0 [(0, .ref (kc_ad V k)), (1, .int a), (2, .int b), (3, .int c), (4, .int d)] []
  refine kg_aload_n hC d_K_writeRow_0 0 rfl ?_
  refine kg_iconst hC d_K_writeRow_1 kn_i_0 ?_
  refine kg_iload_n hC d_K_writeRow_2 1 rfl ?_
  refine kg_iast hC ha (i := 0) rfl (by decide) d_K_writeRow_3 ?_
  refine kg_aload_n hC d_K_writeRow_4 0 rfl ?_
  refine kg_iconst hC d_K_writeRow_5 kn_i_1 ?_
  refine kg_iload_n hC d_K_writeRow_6 2 rfl ?_
  refine kg_iast hC ha (i := 1) rfl (by decide) d_K_writeRow_7 ?_
  refine kg_at (pc' := 8) rfl ?_
  refine kg_aload_n hC d_K_writeRow_8 0 rfl ?_
  refine kg_iconst hC d_K_writeRow_9 kn_i_2 ?_
  refine kg_iload_n hC d_K_writeRow_10 3 rfl ?_
  refine kg_iast hC ha (i := 2) rfl (by decide) d_K_writeRow_11 ?_
  refine kg_aload_n hC d_K_writeRow_12 0 rfl ?_
  refine kg_iconst hC d_K_writeRow_13 kn_i_3 ?_
  refine kg_iload hC d_K_writeRow_14 4 rfl ?_
  refine kg_iast hC ha (i := 3) rfl (by decide) d_K_writeRow_16 ?_
  refine kg_at (pc' := 17) rfl ?_
  exact kg_vret hC d_K_writeRow_17 (by rw [kq_K_writeRow])
def kp_JI_bitCount (x : Int32) : Int32 := ((((((((x - ((kc_ushr x (nI 1)) &&& (1431655765 : Int32))) &&& (858993459 : Int32)) + ((kc_ushr (x - ((kc_ushr x (nI 1)) &&& (1431655765 : Int32))) (nI 2)) &&& (858993459 : Int32))) + (kc_ushr (((x - ((kc_ushr x (nI 1)) &&& (1431655765 : Int32))) &&& (858993459 : Int32)) + ((kc_ushr (x - ((kc_ushr x (nI 1)) &&& (1431655765 : Int32))) (nI 2)) &&& (858993459 : Int32))) (nI 4))) &&& (252645135 : Int32)) + (kc_ushr (((((x - ((kc_ushr x (nI 1)) &&& (1431655765 : Int32))) &&& (858993459 : Int32)) + ((kc_ushr (x - ((kc_ushr x (nI 1)) &&& (1431655765 : Int32))) (nI 2)) &&& (858993459 : Int32))) + (kc_ushr (((x - ((kc_ushr x (nI 1)) &&& (1431655765 : Int32))) &&& (858993459 : Int32)) + ((kc_ushr (x - ((kc_ushr x (nI 1)) &&& (1431655765 : Int32))) (nI 2)) &&& (858993459 : Int32))) (nI 4))) &&& (252645135 : Int32)) (nI 8))) + (kc_ushr ((((((x - ((kc_ushr x (nI 1)) &&& (1431655765 : Int32))) &&& (858993459 : Int32)) + ((kc_ushr (x - ((kc_ushr x (nI 1)) &&& (1431655765 : Int32))) (nI 2)) &&& (858993459 : Int32))) + (kc_ushr (((x - ((kc_ushr x (nI 1)) &&& (1431655765 : Int32))) &&& (858993459 : Int32)) + ((kc_ushr (x - ((kc_ushr x (nI 1)) &&& (1431655765 : Int32))) (nI 2)) &&& (858993459 : Int32))) (nI 4))) &&& (252645135 : Int32)) + (kc_ushr (((((x - ((kc_ushr x (nI 1)) &&& (1431655765 : Int32))) &&& (858993459 : Int32)) + ((kc_ushr (x - ((kc_ushr x (nI 1)) &&& (1431655765 : Int32))) (nI 2)) &&& (858993459 : Int32))) + (kc_ushr (((x - ((kc_ushr x (nI 1)) &&& (1431655765 : Int32))) &&& (858993459 : Int32)) + ((kc_ushr (x - ((kc_ushr x (nI 1)) &&& (1431655765 : Int32))) (nI 2)) &&& (858993459 : Int32))) (nI 4))) &&& (252645135 : Int32)) (nI 8))) (nI 16))) &&& (nI 63))
set_option maxHeartbeats 4000000 in
set_option maxRecDepth 100000 in
theorem kk_JI_bitCount (l : Launch) {V : kc_V} (hV : kc_G V) (σ : kc_Sg) (x : Int32) : kc_Met l y_JI_bitCount b_JI_bitCount 1 (some .int) (kc_rm 1) V [.int x] σ (some (.int (kp_JI_bitCount x))) σ := by
  refine kc_of (by decide) (Nat.le_of_ble_eq_true rfl) hV.ok (fun C _ hC => ?_)
  show kc_Go C V 1 (0, 0) (kc_E C V (some (.int (kp_JI_bitCount x))) σ) σ 0 [(0, .int x)] []
  refine kg_iload_n hC d_JI_bitCount_0 0 rfl ?_
  refine kg_iload_n hC d_JI_bitCount_1 0 rfl ?_
  refine kg_iconst hC d_JI_bitCount_2 kn_i_1 ?_
  refine kg_iushr hC d_JI_bitCount_3 ?_
  refine kg_ldc_w hC d_JI_bitCount_4 tw_320 ?_
  refine kg_iand hC d_JI_bitCount_7 ?_
  refine kg_isub hC d_JI_bitCount_8 ?_
  refine kg_istore_n hC d_JI_bitCount_9 [(0, .int (x - ((kc_ushr x (nI 1)) &&& (1431655765 : Int32))))] rfl (by decide) ?_
  refine kg_at (pc' := 10) rfl ?_
  refine kg_iload_n hC d_JI_bitCount_10 0 rfl ?_
  refine kg_ldc_w hC d_JI_bitCount_11 tw_321 ?_
  refine kg_iand hC d_JI_bitCount_14 ?_
  refine kg_iload_n hC d_JI_bitCount_15 0 rfl ?_
  refine kg_iconst hC d_JI_bitCount_16 kn_i_2 ?_
  refine kg_iushr hC d_JI_bitCount_17 ?_
  refine kg_ldc_w hC d_JI_bitCount_18 tw_321 ?_
  refine kg_iand hC d_JI_bitCount_21 ?_
  refine kg_at (pc' := 22) rfl ?_
  refine kg_iadd hC d_JI_bitCount_22 ?_
  refine kg_istore_n hC d_JI_bitCount_23 [(0, .int (((x - ((kc_ushr x (nI 1)) &&& (1431655765 : Int32))) &&& (858993459 : Int32)) + ((kc_ushr (x - ((kc_ushr x (nI 1)) &&& (1431655765 : Int32))) (nI 2)) &&& (858993459 : Int32))))] rfl (by decide) ?_
  refine kg_iload_n hC d_JI_bitCount_24 0 rfl ?_
  refine kg_iload_n hC d_JI_bitCount_25 0 rfl ?_
  refine kg_iconst hC d_JI_bitCount_26 kn_i_4 ?_
  refine kg_iushr hC d_JI_bitCount_27 ?_
  refine kg_iadd hC d_JI_bitCount_28 ?_
  refine kg_ldc_w hC d_JI_bitCount_29 tw_322 ?_
  refine kg_at (pc' := 32) rfl ?_
  refine kg_iand hC d_JI_bitCount_32 ?_
  refine kg_istore_n hC d_JI_bitCount_33 [(0, .int (((((x - ((kc_ushr x (nI 1)) &&& (1431655765 : Int32))) &&& (858993459 : Int32)) + ((kc_ushr (x - ((kc_ushr x (nI 1)) &&& (1431655765 : Int32))) (nI 2)) &&& (858993459 : Int32))) + (kc_ushr (((x - ((kc_ushr x (nI 1)) &&& (1431655765 : Int32))) &&& (858993459 : Int32)) + ((kc_ushr (x - ((kc_ushr x (nI 1)) &&& (1431655765 : Int32))) (nI 2)) &&& (858993459 : Int32))) (nI 4))) &&& (252645135 : Int32)))] rfl (by decide) ?_
  refine kg_iload_n hC d_JI_bitCount_34 0 rfl ?_
  refine kg_iload_n hC d_JI_bitCount_35 0 rfl ?_
  refine kg_bipush hC d_JI_bitCount_36 kn_b_8 ?_
  refine kg_iushr hC d_JI_bitCount_38 ?_
  refine kg_iadd hC d_JI_bitCount_39 ?_
  refine kg_istore_n hC d_JI_bitCount_40 [(0, .int ((((((x - ((kc_ushr x (nI 1)) &&& (1431655765 : Int32))) &&& (858993459 : Int32)) + ((kc_ushr (x - ((kc_ushr x (nI 1)) &&& (1431655765 : Int32))) (nI 2)) &&& (858993459 : Int32))) + (kc_ushr (((x - ((kc_ushr x (nI 1)) &&& (1431655765 : Int32))) &&& (858993459 : Int32)) + ((kc_ushr (x - ((kc_ushr x (nI 1)) &&& (1431655765 : Int32))) (nI 2)) &&& (858993459 : Int32))) (nI 4))) &&& (252645135 : Int32)) + (kc_ushr (((((x - ((kc_ushr x (nI 1)) &&& (1431655765 : Int32))) &&& (858993459 : Int32)) + ((kc_ushr (x - ((kc_ushr x (nI 1)) &&& (1431655765 : Int32))) (nI 2)) &&& (858993459 : Int32))) + (kc_ushr (((x - ((kc_ushr x (nI 1)) &&& (1431655765 : Int32))) &&& (858993459 : Int32)) + ((kc_ushr (x - ((kc_ushr x (nI 1)) &&& (1431655765 : Int32))) (nI 2)) &&& (858993459 : Int32))) (nI 4))) &&& (252645135 : Int32)) (nI 8))))] rfl (by decide) ?_
  refine kg_at (pc' := 41) rfl ?_
  refine kg_iload_n hC d_JI_bitCount_41 0 rfl ?_
  refine kg_iload_n hC d_JI_bitCount_42 0 rfl ?_
  refine kg_bipush hC d_JI_bitCount_43 kn_b_16 ?_
  refine kg_iushr hC d_JI_bitCount_45 ?_
  refine kg_iadd hC d_JI_bitCount_46 ?_
  refine kg_istore_n hC d_JI_bitCount_47 [(0, .int (((((((x - ((kc_ushr x (nI 1)) &&& (1431655765 : Int32))) &&& (858993459 : Int32)) + ((kc_ushr (x - ((kc_ushr x (nI 1)) &&& (1431655765 : Int32))) (nI 2)) &&& (858993459 : Int32))) + (kc_ushr (((x - ((kc_ushr x (nI 1)) &&& (1431655765 : Int32))) &&& (858993459 : Int32)) + ((kc_ushr (x - ((kc_ushr x (nI 1)) &&& (1431655765 : Int32))) (nI 2)) &&& (858993459 : Int32))) (nI 4))) &&& (252645135 : Int32)) + (kc_ushr (((((x - ((kc_ushr x (nI 1)) &&& (1431655765 : Int32))) &&& (858993459 : Int32)) + ((kc_ushr (x - ((kc_ushr x (nI 1)) &&& (1431655765 : Int32))) (nI 2)) &&& (858993459 : Int32))) + (kc_ushr (((x - ((kc_ushr x (nI 1)) &&& (1431655765 : Int32))) &&& (858993459 : Int32)) + ((kc_ushr (x - ((kc_ushr x (nI 1)) &&& (1431655765 : Int32))) (nI 2)) &&& (858993459 : Int32))) (nI 4))) &&& (252645135 : Int32)) (nI 8))) + (kc_ushr ((((((x - ((kc_ushr x (nI 1)) &&& (1431655765 : Int32))) &&& (858993459 : Int32)) + ((kc_ushr (x - ((kc_ushr x (nI 1)) &&& (1431655765 : Int32))) (nI 2)) &&& (858993459 : Int32))) + (kc_ushr (((x - ((kc_ushr x (nI 1)) &&& (1431655765 : Int32))) &&& (858993459 : Int32)) + ((kc_ushr (x - ((kc_ushr x (nI 1)) &&& (1431655765 : Int32))) (nI 2)) &&& (858993459 : Int32))) (nI 4))) &&& (252645135 : Int32)) + (kc_ushr (((((x - ((kc_ushr x (nI 1)) &&& (1431655765 : Int32))) &&& (858993459 : Int32)) + ((kc_ushr (x - ((kc_ushr x (nI 1)) &&& (1431655765 : Int32))) (nI 2)) &&& (858993459 : Int32))) + (kc_ushr (((x - ((kc_ushr x (nI 1)) &&& (1431655765 : Int32))) &&& (858993459 : Int32)) + ((kc_ushr (x - ((kc_ushr x (nI 1)) &&& (1431655765 : Int32))) (nI 2)) &&& (858993459 : Int32))) (nI 4))) &&& (252645135 : Int32)) (nI 8))) (nI 16))))] rfl (by decide) ?_
  refine kg_iload_n hC d_JI_bitCount_48 0 rfl ?_
  refine kg_bipush hC d_JI_bitCount_49 kn_b_63 ?_
  refine kg_at (pc' := 51) rfl ?_
  refine kg_iand hC d_JI_bitCount_51 ?_
  exact kg_iret hC d_JI_bitCount_52 (by rw [kp_JI_bitCount]) rfl
def kp_JM_floorMod (x : Int32) (y : Int32) : Int32 := if 0 ≤ (x ^^^ y) then (kc_rem x y) else (if (kc_rem x y) = 0 then (kc_rem x y) else ((kc_rem x y) + y))
set_option maxHeartbeats 4000000 in
set_option maxRecDepth 100000 in
theorem kk_JM_floorMod (l : Launch) {V : kc_V} (hV : kc_G V) (σ : kc_Sg) (x : Int32) (y : Int32) (hy : ¬ y = 0) : kc_Met l y_JM_floorMod b_JM_floorMod 3 (some .int) (kc_rm 1) V [.int x, .int y] σ (some (.int (kp_JM_floorMod x y))) σ := by
  refine kc_ofF (by decide +kernel) (Nat.le_of_ble_eq_true rfl) hV.ok (fun C _ hC => ?_)
  show kc_Go C V 3 (0, 0) (kc_E C V (some (.int (kp_JM_floorMod x y))) σ) σ 0 [(0, .int x), (1, .int y)] []
  refine kg_iload_n hC d_JM_floorMod_0 0 rfl ?_
  refine kg_iload_n hC d_JM_floorMod_1 1 rfl ?_
  refine kg_irem hC d_JM_floorMod_2 hy ?_
  refine kg_istore_n hC d_JM_floorMod_3 [(2, .int (kc_rem x y)), (0, .int x), (1, .int y)] rfl (by decide) ?_
  refine kg_iload_n hC d_JM_floorMod_4 1 rfl ?_
  refine kg_iload_n hC d_JM_floorMod_5 2 rfl ?_
  refine kg_ixor hC d_JM_floorMod_6 ?_
  refine kg_if_ge hC d_JM_floorMod_7 (tgt := 18) rfl (fun h7 => ?_) (fun h7 => ?_)
  · refine kg_iload_n hC d_JM_floorMod_18 0 rfl ?_
    exact kg_iret hC d_JM_floorMod_19 (by rw [kp_JM_floorMod, if_pos h7]) rfl
  · refine kg_iload_n hC d_JM_floorMod_10 0 rfl ?_
    refine kg_if_eq hC d_JM_floorMod_11 (tgt := 18) rfl (fun h11 => ?_) (fun h11 => ?_)
    · refine kg_iload_n hC d_JM_floorMod_18 0 rfl ?_
      exact kg_iret hC d_JM_floorMod_19 (by rw [kp_JM_floorMod, if_neg h7, if_pos h11]) rfl
    · refine kg_iload_n hC d_JM_floorMod_14 0 rfl ?_
      refine kg_iload_n hC d_JM_floorMod_15 2 rfl ?_
      refine kg_iadd hC d_JM_floorMod_16 ?_
      exact kg_iret hC d_JM_floorMod_17 (by rw [kp_JM_floorMod, if_neg h7, if_neg h11]) rfl
def kp_pow (m : Int64) : Nat → Int32 → Int64 → Int64 → Int64
  | 0, _, r, _ => r
  | n + 1, k, r, q => if k ≤ 0 then r else kp_pow m n (kc_shr k (nI 1)) (if k &&& nI 1 = 0 then r else kc_lrem (r * q) m) (kc_lrem (q * q) m)
def kp_G_power (b e m : Int32) : Int32 := Int64.toInt32 (kp_pow (Int32.toInt64 m) 32 e (Int32.toInt64 (kc_rem (nI 1) m)) (Int32.toInt64 (kc_rem b m)))
set_option maxHeartbeats 4000000 in
set_option maxRecDepth 100000 in
theorem kk_G_power (l : Launch) {V : kc_V} (hV : kc_G V) (σ : kc_Sg) (b : Int32) (e : Int32) (m : Int32) (hm : ¬ m = 0) : kc_Met l y_G_power b_G_power 8 (some .int) (kc_rm 1) V [.int b, .int e, .int m] σ (some (.int (kp_G_power b e m))) σ := by
  refine kc_of (by decide) (Nat.le_of_ble_eq_true rfl) hV.ok (fun C _ hC => ?_)
  have hl := kn_l0 hm
  have key : ∀ (n : Nat) (k : Int32) (r q : Int64), k.toInt < 2 ^ n → Int64.toInt32 (kp_pow (Int32.toInt64 m) n k r q) = kp_G_power b e m → kc_Go C V 8 (0, 0) (kc_E C V (some (.int (kp_G_power b e m))) σ) σ 14 [(7, .int k), (5, .long q), (3, .long r), (0, .int b), (1, .int e), (2, .int m)] [] := by
    intro n
    induction n with
    | zero =>
      intro k r q hk hr
      refine kg_iload hC d_G_power_14 0 rfl ?_
      refine kg_if_le hC d_G_power_16 (tgt := 53) rfl (fun _ => ?_) (fun q => absurd (kn_le0 hk) q)
      refine kg_lload_n hC d_G_power_53 2 rfl ?_
      refine kg_l2i hC d_G_power_54 ?_
      exact kg_iret hC d_G_power_55 hr rfl
    | succ n ih =>
      intro k r q hk hr
      refine kg_iload hC d_G_power_14 0 rfl ?_
      refine kg_if_le hC d_G_power_16 (tgt := 53) rfl (fun h16 => ?_) (fun h16 => ?_)
      · refine kg_lload_n hC d_G_power_53 2 rfl ?_
        refine kg_l2i hC d_G_power_54 ?_
        exact kg_iret hC d_G_power_55 (by rw [kp_pow, if_pos h16] at hr; exact hr) rfl
      · refine kg_iload hC d_G_power_19 0 rfl ?_
        refine kg_iconst hC d_G_power_21 kn_i_1 ?_
        refine kg_iand hC d_G_power_22 ?_
        refine kg_if_eq hC d_G_power_23 (tgt := 34) rfl (fun h23 => ?_) (fun h23 => ?_)
        · refine kg_lload hC d_G_power_34 1 rfl ?_
          refine kg_lload hC d_G_power_36 1 rfl ?_
          refine kg_lmul hC d_G_power_38 ?_
          refine kg_iload_n hC d_G_power_39 5 rfl ?_
          refine kg_i2l hC d_G_power_40 ?_
          refine kg_lrem hC d_G_power_41 hl ?_
          refine kg_lstore hC d_G_power_42 [(5, .long (kc_lrem (q * q) (Int32.toInt64 m))), (7, .int k), (3, .long r), (0, .int b), (1, .int e), (2, .int m)] rfl (by decide) ?_
          refine kg_iload hC d_G_power_44 1 rfl ?_
          refine kg_at (pc' := 46) rfl ?_
          refine kg_iconst hC d_G_power_46 kn_i_1 ?_
          refine kg_ishr hC d_G_power_47 ?_
          refine kg_istore hC d_G_power_48 [(7, .int (kc_shr k (nI 1))), (5, .long (kc_lrem (q * q) (Int32.toInt64 m))), (3, .long r), (0, .int b), (1, .int e), (2, .int m)] rfl (by decide) ?_
          refine kg_goto hC d_G_power_50 (tgt := 14) rfl ?_
          exact ih _ _ _ (kn_shr1 hk) (by rw [kp_pow, if_neg h16, if_pos h23] at hr; exact hr)
        · refine kg_lload_n hC d_G_power_26 2 rfl ?_
          refine kg_lload hC d_G_power_27 1 rfl ?_
          refine kg_lmul hC d_G_power_29 ?_
          refine kg_iload_n hC d_G_power_30 5 rfl ?_
          refine kg_i2l hC d_G_power_31 ?_
          refine kg_lrem hC d_G_power_32 hl ?_
          refine kg_lstore_n hC d_G_power_33 [(3, .long (kc_lrem (r * q) (Int32.toInt64 m))), (7, .int k), (5, .long q), (0, .int b), (1, .int e), (2, .int m)] rfl (by decide) ?_
          refine kg_lload hC d_G_power_34 2 rfl ?_
          refine kg_at (pc' := 36) rfl ?_
          refine kg_lload hC d_G_power_36 2 rfl ?_
          refine kg_lmul hC d_G_power_38 ?_
          refine kg_iload_n hC d_G_power_39 5 rfl ?_
          refine kg_i2l hC d_G_power_40 ?_
          refine kg_lrem hC d_G_power_41 hl ?_
          refine kg_lstore hC d_G_power_42 [(5, .long (kc_lrem (q * q) (Int32.toInt64 m))), (3, .long (kc_lrem (r * q) (Int32.toInt64 m))), (7, .int k), (0, .int b), (1, .int e), (2, .int m)] rfl (by decide) ?_
          refine kg_iload hC d_G_power_44 2 rfl ?_
          refine kg_iconst hC d_G_power_46 kn_i_1 ?_
          refine kg_at (pc' := 47) rfl ?_
          refine kg_ishr hC d_G_power_47 ?_
          refine kg_istore hC d_G_power_48 [(7, .int (kc_shr k (nI 1))), (5, .long (kc_lrem (q * q) (Int32.toInt64 m))), (3, .long (kc_lrem (r * q) (Int32.toInt64 m))), (0, .int b), (1, .int e), (2, .int m)] rfl (by decide) ?_
          refine kg_goto hC d_G_power_50 (tgt := 14) rfl ?_
          exact ih _ _ _ (kn_shr1 hk) (by rw [kp_pow, if_neg h16, if_neg h23] at hr; exact hr)
  show kc_Go C V 8 (0, 0) (kc_E C V (some (.int (kp_G_power b e m))) σ) σ 0 [(0, .int b), (1, .int e), (2, .int m)] []
  refine kg_iconst hC d_G_power_0 kn_i_1 ?_
  refine kg_iload_n hC d_G_power_1 2 rfl ?_
  refine kg_irem hC d_G_power_2 hm ?_
  refine kg_i2l hC d_G_power_3 ?_
  refine kg_lstore_n hC d_G_power_4 [(3, .long (Int32.toInt64 (kc_rem (nI 1) m))), (0, .int b), (1, .int e), (2, .int m)] rfl (by decide) ?_
  refine kg_iload_n hC d_G_power_5 1 rfl ?_
  refine kg_iload_n hC d_G_power_6 3 rfl ?_
  refine kg_irem hC d_G_power_7 hm ?_
  refine kg_at (pc' := 8) rfl ?_
  refine kg_i2l hC d_G_power_8 ?_
  refine kg_lstore hC d_G_power_9 [(5, .long (Int32.toInt64 (kc_rem b m))), (3, .long (Int32.toInt64 (kc_rem (nI 1) m))), (0, .int b), (1, .int e), (2, .int m)] rfl (by decide) ?_
  refine kg_iload_n hC d_G_power_11 3 rfl ?_
  refine kg_istore hC d_G_power_12 [(7, .int e), (5, .long (Int32.toInt64 (kc_rem b m))), (3, .long (Int32.toInt64 (kc_rem (nI 1) m))), (0, .int b), (1, .int e), (2, .int m)] rfl (by decide) ?_
  exact key 32 _ _ _ kn_top rfl
end
section
def kp_P (n : Nat) : Prop := 2 ≤ n ∧ ∀ t, 2 ≤ t → t < n → ¬ n % t = 0
noncomputable def kp_prime (x : Int32) : Int32 := @ite Int32 (kp_P x.toInt.toNat) (Classical.propDecidable _) (nI 1) (nI 0)
theorem kp_prime_t {N : Nat} (hN : N < 2 ^ 31) (h : kp_P N) : nI 1 = kp_prime (nI N) := by
  unfold kp_prime
  rw [nI_toInt hN, Int.toNat_natCast, if_pos h]
theorem kp_prime_f {N : Nat} (hN : N < 2 ^ 31) (h : ¬ kp_P N) : nI 0 = kp_prime (nI N) := by
  unfold kp_prime
  rw [nI_toInt hN, Int.toNat_natCast, if_neg h]
theorem kp_prime_lo {x : Int32} (h : ¬ nI 5 ≤ x) (h2 : ¬ x = nI 2) (h3 : ¬ x = nI 3) : nI 0 = kp_prime x := by
  unfold kp_prime
  rw [if_neg]
  rintro ⟨q1, q2⟩
  rw [Int32.le_iff_toInt_le, nI_toInt (by decide)] at h
  have a2 : x.toInt ≠ 2 := fun q => h2 (Int32.toInt_inj.mp (by rw [nI_toInt (by decide)]; exact q))
  have a3 : x.toInt ≠ 3 := fun q => h3 (Int32.toInt_inj.mp (by rw [nI_toInt (by decide)]; exact q))
  have a4 : x.toInt = 4 := by omega
  rw [a4] at q2
  exact q2 2 (by decide) (by decide) (by decide)
theorem kp_P2 : kp_P 2 := ⟨by decide, fun t h1 h2 => by omega⟩
theorem kp_P3 : kp_P 3 := ⟨by decide, fun t h1 h2 => by
  have : t = 2 := by omega
  subst this
  decide⟩
theorem kp_P_div {N t : Nat} (h1 : 2 ≤ t) (h2 : t < N) (h : N % t = 0) : ¬ kp_P N := fun q => q.2 t h1 h2 h
/-- no divisor below d, and N < d * d -/
theorem kp_P_of {N d : Nat} (h2 : 2 ≤ N) (hd : ∀ t, 2 ≤ t → t < d → ¬ N % t = 0) (h : N < d * d) : kp_P N := by
  refine ⟨h2, fun t h1 h3 h4 => ?_⟩
  by_cases ht : t < d
  · exact hd t h1 ht h4
  · have e : t * (N / t) = N := by
      have := Nat.div_add_mod N t
      omega
    have hk : N / t < d := by
      apply Nat.lt_of_not_le
      intro q
      have := Nat.mul_le_mul (Nat.le_of_not_lt ht) q
      omega
    have hk2 : 2 ≤ N / t := by
      apply Nat.le_of_not_lt
      intro q
      rcases Nat.le_one_iff_eq_zero_or_eq_one.mp (Nat.le_of_lt_succ q) with z | z
      · rw [z] at e; omega
      · rw [z] at e; omega
    refine hd (N / t) hk2 hk ?_
    exact Nat.mod_eq_zero_of_dvd ⟨t, by rw [Nat.mul_comm]; exact e.symm⟩
theorem kp_nI0 {a : Nat} (ha : a < 2 ^ 31) (h : nI a = 0) : a = 0 := by
  rw [← nI_0] at h
  exact (nI_eq ha (by decide)).mp h
theorem kp_nI0' {a : Nat} (h : ¬ nI a = 0) : ¬ a = 0 := fun q => h (by rw [q, nI_0])
theorem kp_remN {a b : Nat} (ha : a < 2 ^ 31) (h0 : 0 < b) (hb : b < 2 ^ 31) : kc_rem (nI a) (nI b) = nI (a % b) := pk_rem ha h0 hb
theorem kp_step6 {N d : Nat} (h6 : d % 6 = 5) (h2 : ¬ N % 2 = 0) (h3 : ¬ N % 3 = 0) (hd : ∀ t, 2 ≤ t → t < d → ¬ N % t = 0) (a : ¬ N % d = 0) (b : ¬ N % (d + 2) = 0) : ∀ t, 2 ≤ t → t < d + 6 → ¬ N % t = 0 := by
  intro t h1 h7 h8
  by_cases ht : t < d
  · exact hd t h1 ht h8
  · have dv : t ∣ N := Nat.dvd_of_mod_eq_zero h8
    have even : t % 2 = 0 → False := fun q => h2 (Nat.mod_eq_zero_of_dvd (Nat.dvd_trans (Nat.dvd_of_mod_eq_zero q) dv))
    have three : t % 3 = 0 → False := fun q => h3 (Nat.mod_eq_zero_of_dvd (Nat.dvd_trans (Nat.dvd_of_mod_eq_zero q) dv))
    rcases (show t = d ∨ t = d + 2 ∨ t % 2 = 0 ∨ t % 3 = 0 by omega) with q | q | q | q
    · subst q; exact a h8
    · subst q; exact b h8
    · exact even q
    · exact three q
theorem kp_ge5 {x : Int32} (h : nI 5 ≤ x) : ∃ N : Nat, 5 ≤ N ∧ N < 2 ^ 31 ∧ x = nI N := by
  rw [Int32.le_iff_toInt_le, nI_toInt (by decide)] at h
  obtain ⟨N, h1, h2⟩ := nI_of (x := x) (by rw [Int32.lt_iff_toInt_lt, Int32.toInt_zero]; omega)
  subst h2
  rw [nI_toInt h1] at h
  exact ⟨N, by omega, h1, rfl⟩
theorem kp_sq {N d : Nat} (h0 : 0 < d) (h : N / d < d) : N < d * d := by
  have := Nat.div_add_mod N d
  have := Nat.mod_lt N h0
  have h3 : d * (N / d) ≤ d * (d - 1) := Nat.mul_le_mul (Nat.le_refl _) (by omega)
  have h4 : d * (d - 1) + d = d * d := by
    obtain ⟨k, rfl⟩ : ∃ k, d = k + 1 := ⟨d - 1, by omega⟩
    simp only [Nat.add_sub_cancel]
    rw [Nat.mul_succ]
  omega
theorem kp_sqle {N d : Nat} (h : d ≤ N / d) : d * d ≤ N := by
  have := Nat.div_mul_le_self N d
  have := Nat.mul_le_mul h (Nat.le_refl d)
  omega
theorem kp_small {N d : Nat} (hN : N < 2 ^ 31) (h : d * d ≤ N) : d < 46341 := by
  apply Nat.lt_of_not_le
  intro q
  have := Nat.mul_le_mul q q
  omega
set_option maxHeartbeats 4000000 in
set_option maxRecDepth 100000 in
theorem kk_G_isPrime_lo (l : Launch) {V : kc_V} (hV : kc_G V) (σ : kc_Sg) (n : Int32) (h5 : ¬ nI 5 ≤ n) : kc_Met l y_G_isPrime b_G_isPrime 2 (some .boolean) (kc_rm 1) V [.int n] σ (some (.int (kp_prime n))) σ := by
  refine kc_of (by decide) (Nat.le_of_ble_eq_true rfl) hV.ok (fun C _ hC => ?_)
  show kc_Go C V 2 (0, 0) (kc_E C V (some (.int (kp_prime n))) σ) σ 0 [(0, .int n)] []
  refine kg_iload_n hC d_G_isPrime_0 0 rfl ?_
  refine kg_iconst hC d_G_isPrime_1 kn_i_5 ?_
  refine kg_icmp_ge hC d_G_isPrime_2 (tgt := 21) rfl (fun q => absurd q (h5)) (fun _ => ?_)
  refine kg_iload_n hC d_G_isPrime_5 0 rfl ?_
  refine kg_iconst hC d_G_isPrime_6 kn_i_2 ?_
  refine kg_icmp_eq hC d_G_isPrime_7 (tgt := 15) rfl (fun h7 => ?_) (fun h7 => ?_)
  · refine kg_iconst hC d_G_isPrime_15 kn_i_1 ?_
    refine kg_goto hC d_G_isPrime_16 (tgt := 20) rfl ?_
    exact kg_zret hC d_G_isPrime_20 kn_z1 (by rw [h7]; exact kp_prime_t (by decide) kp_P2) rfl
  · refine kg_iload_n hC d_G_isPrime_10 0 rfl ?_
    refine kg_iconst hC d_G_isPrime_11 kn_i_3 ?_
    refine kg_icmp_ne hC d_G_isPrime_12 (tgt := 19) rfl (fun h12 => ?_) (fun h12 => ?_)
    · refine kg_iconst hC d_G_isPrime_19 kn_i_0 ?_
      exact kg_zret hC d_G_isPrime_20 kn_z0 (kp_prime_lo h5 h7 h12) rfl
    · refine kg_iconst hC d_G_isPrime_15 kn_i_1 ?_
      refine kg_goto hC d_G_isPrime_16 (tgt := 20) rfl ?_
      exact kg_zret hC d_G_isPrime_20 kn_z1 (by rw [h12]; exact kp_prime_t (by decide) kp_P3) rfl
set_option maxHeartbeats 4000000 in
set_option maxRecDepth 100000 in
theorem kk_G_isPrime_hi (l : Launch) {V : kc_V} (hV : kc_G V) (σ : kc_Sg) (N : Nat) (h5 : 5 ≤ N) (hN : N < 2 ^ 31) : kc_Met l y_G_isPrime b_G_isPrime 2 (some .boolean) (kc_rm 1) V [.int (nI N)] σ (some (.int (kp_prime (nI N)))) σ := by
  refine kc_of (by decide) (Nat.le_of_ble_eq_true rfl) hV.ok (fun C _ hC => ?_)
  have key : N % 2 ≠ 0 → N % 3 ≠ 0 → ∀ (f d : Nat), N + 6 < d + 6 * f → d % 6 = 5 → d < 46347 → (∀ t, 2 ≤ t → t < d → ¬ N % t = 0) → kc_Go C V 2 (0, 0) (kc_E C V (some (.int (kp_prime (nI N)))) σ) σ 37 [(1, .int (nI d)), (0, .int (nI N))] [] := by
    intro e2 e3 f
    induction f with
    | zero =>
      intro d hf h6 hd hi
      refine kg_iload_n hC d_G_isPrime_37 0 rfl ?_
      refine kg_iload_n hC d_G_isPrime_38 1 rfl ?_
      refine kg_iload_n hC d_G_isPrime_39 0 rfl ?_
      refine kg_idiv hC d_G_isPrime_40 (nI_ne0 (by omega) (by omega)) ?_
      refine kg_top (x' := (nI (N / d))) (pk_div hN (by omega) (by omega)) ?_
      refine kg_icmp_gt hC d_G_isPrime_41 (tgt := 66) rfl (fun _ => ?_) (fun q => absurd (nI_lt (show N / d < d by have h9 := Nat.div_le_self N d; omega) (by omega)) q)
      refine kg_iconst hC d_G_isPrime_66 kn_i_1 ?_
      exact kg_zret hC d_G_isPrime_67 kn_z1 (kp_prime_t hN (kp_P_of (by omega) hi (kp_sq (by omega) (by have h9 := Nat.div_le_self N d; omega)))) rfl
    | succ f ih =>
      intro d hf h6 hd hi
      refine kg_iload_n hC d_G_isPrime_37 0 rfl ?_
      refine kg_iload_n hC d_G_isPrime_38 1 rfl ?_
      refine kg_iload_n hC d_G_isPrime_39 0 rfl ?_
      refine kg_idiv hC d_G_isPrime_40 (nI_ne0 (by omega) (by omega)) ?_
      refine kg_top (x' := (nI (N / d))) (pk_div hN (by omega) (by omega)) ?_
      refine kg_icmp_gt hC d_G_isPrime_41 (tgt := 66) rfl (fun h41 => ?_) (fun h41 => ?_)
      · have g9 : N / d < d := (nI_ltI (by have h9 := Nat.div_le_self N d; omega) (by omega)).mp h41
        refine kg_iconst hC d_G_isPrime_66 kn_i_1 ?_
        exact kg_zret hC d_G_isPrime_67 kn_z1 (kp_prime_t hN (kp_P_of (by omega) hi (kp_sq (by omega) g9))) rfl
      · have g9 : d ≤ N / d := Nat.le_of_not_lt (fun q => h41 (nI_lt q (by omega)))
        have g8 := kp_sqle g9
        have g7 := kp_small hN g8
        have g6 : d < N := by have g5 : 5 * d ≤ d * d := Nat.mul_le_mul (by omega) (Nat.le_refl _); omega
        have g4 : d + 2 < N := by have g5 : 5 * d ≤ d * d := Nat.mul_le_mul (by omega) (Nat.le_refl _); omega
        refine kg_iload_n hC d_G_isPrime_44 1 rfl ?_
        refine kg_iload_n hC d_G_isPrime_45 0 rfl ?_
        refine kg_irem hC d_G_isPrime_46 (nI_ne0 (by omega) (by omega)) ?_
        refine kg_top (x' := (nI (N % d))) (kp_remN hN (by omega) (by omega)) ?_
        refine kg_if_eq hC d_G_isPrime_47 (tgt := 58) rfl (fun h47 => ?_) (fun h47 => ?_)
        · refine kg_iconst hC d_G_isPrime_58 kn_i_0 ?_
          exact kg_zret hC d_G_isPrime_59 kn_z0 (kp_prime_f hN (kp_P_div (t := d) (by omega) (by omega) (kp_nI0 (by have g3 := Nat.mod_le N d; omega) h47))) rfl
        · refine kg_iload_n hC d_G_isPrime_50 1 rfl ?_
          refine kg_iload_n hC d_G_isPrime_51 0 rfl ?_
          refine kg_iconst hC d_G_isPrime_52 kn_i_2 ?_
          refine kg_iadd hC d_G_isPrime_53 ?_
          refine kg_top (x' := (nI (d + 2))) (nI_add d 2) ?_
          refine kg_irem hC d_G_isPrime_54 (nI_ne0 (by omega) (by omega)) ?_
          refine kg_top (x' := (nI (N % (d + 2)))) (kp_remN hN (by omega) (by omega)) ?_
          refine kg_if_ne hC d_G_isPrime_55 (tgt := 60) rfl (fun h55 => ?_) (fun h55 => ?_)
          · refine kg_iinc hC d_G_isPrime_60 0 rfl (kn_inc6 d) [(1, .int (nI (d + 6))), (0, .int (nI N))] rfl (by decide) ?_
            refine kg_goto hC d_G_isPrime_63 (tgt := 37) rfl ?_
            exact ih (d + 6) (by omega) (by omega) (by omega) (kp_step6 h6 e2 e3 hi (kp_nI0' h47) (kp_nI0' h55))
          · refine kg_iconst hC d_G_isPrime_58 kn_i_0 ?_
            exact kg_zret hC d_G_isPrime_59 kn_z0 (kp_prime_f hN (kp_P_div (t := d + 2) (by omega) (by omega) (kp_nI0 (by have g3 := Nat.mod_le N (d + 2); omega) h55))) rfl
  show kc_Go C V 2 (0, 0) (kc_E C V (some (.int (kp_prime (nI N)))) σ) σ 0 [(0, .int (nI N))] []
  refine kg_iload_n hC d_G_isPrime_0 0 rfl ?_
  refine kg_iconst hC d_G_isPrime_1 kn_i_5 ?_
  refine kg_icmp_ge hC d_G_isPrime_2 (tgt := 21) rfl (fun _ => ?_) (fun q => absurd (nI_le h5 hN) q)
  refine kg_iload_n hC d_G_isPrime_21 0 rfl ?_
  refine kg_iconst hC d_G_isPrime_22 kn_i_2 ?_
  refine kg_irem hC d_G_isPrime_23 (by decide) ?_
  refine kg_top (x' := (nI (N % 2))) (kp_remN hN (by omega) (by decide)) ?_
  refine kg_if_eq hC d_G_isPrime_24 (tgt := 33) rfl (fun h24 => ?_) (fun h24 => ?_)
  · refine kg_iconst hC d_G_isPrime_33 kn_i_0 ?_
    exact kg_zret hC d_G_isPrime_34 kn_z0 (kp_prime_f hN (kp_P_div (t := 2) (by omega) (by omega) (kp_nI0 (by have g3 := Nat.mod_le N 2; omega) h24))) rfl
  · refine kg_iload_n hC d_G_isPrime_27 0 rfl ?_
    refine kg_iconst hC d_G_isPrime_28 kn_i_3 ?_
    refine kg_irem hC d_G_isPrime_29 (by decide) ?_
    refine kg_top (x' := (nI (N % 3))) (kp_remN hN (by omega) (by decide)) ?_
    refine kg_if_ne hC d_G_isPrime_30 (tgt := 35) rfl (fun h30 => ?_) (fun h30 => ?_)
    · refine kg_iconst hC d_G_isPrime_35 kn_i_5 ?_
      refine kg_istore_n hC d_G_isPrime_36 [(1, .int (nI 5)), (0, .int (nI N))] rfl (by decide) ?_
      exact key (kp_nI0' h24) (kp_nI0' h30) (N + 7) 5 (by omega) (by decide) (by decide) (fun t h1 h2 h3 => by
        rcases (show t = 2 ∨ t = 3 ∨ t = 4 by omega) with q | q | q
        · subst q; exact kp_nI0' h24 h3
        · subst q; exact kp_nI0' h30 h3
        · subst q; exact kp_nI0' h24 (by omega))
    · refine kg_iconst hC d_G_isPrime_33 kn_i_0 ?_
      exact kg_zret hC d_G_isPrime_34 kn_z0 (kp_prime_f hN (kp_P_div (t := 3) (by omega) (by omega) (kp_nI0 (by have g3 := Nat.mod_le N 3; omega) h30))) rfl
theorem kk_G_isPrime (l : Launch) {V : kc_V} (hV : kc_G V) (σ : kc_Sg) (n : Int32) : kc_Met l y_G_isPrime b_G_isPrime 2 (some .boolean) (kc_rm 1) V [.int n] σ (some (.int (kp_prime n))) σ := by
  by_cases h : nI 5 ≤ n
  · obtain ⟨N, h5, hN, rfl⟩ := kp_ge5 h
    exact kk_G_isPrime_hi l hV σ N h5 hN
  · exact kk_G_isPrime_lo l hV σ n h
theorem kz_prime (n : Int32) : kp_prime n = nI 0 ∨ kp_prime n = nI 1 := by
  unfold kp_prime
  by_cases h : kp_P n.toInt.toNat
  · rw [if_pos h]
    exact Or.inr rfl
  · rw [if_neg h]
    exact Or.inl rfl
end
section
noncomputable def kp_G_isGroup (p : Int32) (q : Int32) (g : Int32) : Int32 := if q < (nI 11) then (nI 0) else (if (nI 32749) < q then (nI 0) else (if p ≤ q then (nI 0) else (if (kc_rem (p - (nI 1)) q) = 0 then (if g < (nI 2) then (nI 0) else (if p ≤ g then (nI 0) else (if (kp_G_power g q p) = (nI 1) then (if (kp_prime q) = 0 then (nI 0) else (if (kp_prime p) = 0 then (nI 0) else (nI 1))) else (nI 0)))) else (nI 0))))
set_option maxHeartbeats 4000000 in
set_option maxRecDepth 100000 in
theorem kk_G_isGroup (l : Launch) {V : kc_V} (hV : kc_G V) (σ : kc_Sg) (p : Int32) (q : Int32) (g : Int32) : kc_Met l y_G_isGroup b_G_isGroup 3 (some .boolean) (kc_rm 2) V [.int p, .int q, .int g] σ (some (.int (kp_G_isGroup p q g))) σ := by
  refine kc_of (by decide) (Nat.le_of_ble_eq_true rfl) hV.ok (fun C _ hC => ?_)
  show kc_Go C V 3 (0, 0) (kc_E C V (some (.int (kp_G_isGroup p q g))) σ) σ 0 [(0, .int p), (1, .int q), (2, .int g)] []
  refine kg_iload_n hC d_G_isGroup_0 1 rfl ?_
  refine kg_bipush hC d_G_isGroup_1 kn_b_11 ?_
  refine kg_icmp_lt hC d_G_isGroup_3 (tgt := 26) rfl (fun h3 => ?_) (fun h3 => ?_)
  · refine kg_iconst hC d_G_isGroup_26 kn_i_0 ?_
    exact kg_zret hC d_G_isGroup_27 kn_z0 (by rw [kp_G_isGroup, if_pos h3]) rfl
  · refine kg_iload_n hC d_G_isGroup_6 1 rfl ?_
    refine kg_sipush hC d_G_isGroup_7 kn_s_32749 ?_
    refine kg_icmp_gt hC d_G_isGroup_10 (tgt := 26) rfl (fun h10 => ?_) (fun h10 => ?_)
    · refine kg_iconst hC d_G_isGroup_26 kn_i_0 ?_
      exact kg_zret hC d_G_isGroup_27 kn_z0 (by rw [kp_G_isGroup, if_neg h3, if_pos h10]) rfl
    · refine kg_iload_n hC d_G_isGroup_13 0 rfl ?_
      refine kg_iload_n hC d_G_isGroup_14 1 rfl ?_
      refine kg_icmp_le hC d_G_isGroup_15 (tgt := 26) rfl (fun h15 => ?_) (fun h15 => ?_)
      · refine kg_iconst hC d_G_isGroup_26 kn_i_0 ?_
        exact kg_zret hC d_G_isGroup_27 kn_z0 (by rw [kp_G_isGroup, if_neg h3, if_neg h10, if_pos h15]) rfl
      · refine kg_iload_n hC d_G_isGroup_18 0 rfl ?_
        refine kg_iconst hC d_G_isGroup_19 kn_i_1 ?_
        refine kg_isub hC d_G_isGroup_20 ?_
        refine kg_iload_n hC d_G_isGroup_21 1 rfl ?_
        refine kg_irem hC d_G_isGroup_22 (kn_ne0 (by decide) (by decide) h3) ?_
        refine kg_if_eq hC d_G_isGroup_23 (tgt := 28) rfl (fun h23 => ?_) (fun h23 => ?_)
        · refine kg_iload_n hC d_G_isGroup_28 2 rfl ?_
          refine kg_iconst hC d_G_isGroup_29 kn_i_2 ?_
          refine kg_icmp_lt hC d_G_isGroup_30 (tgt := 48) rfl (fun h30 => ?_) (fun h30 => ?_)
          · refine kg_iconst hC d_G_isGroup_48 kn_i_0 ?_
            exact kg_zret hC d_G_isGroup_49 kn_z0 (by rw [kp_G_isGroup, if_neg h3, if_neg h10, if_neg h15, if_pos h23, if_pos h30]) rfl
          · refine kg_iload_n hC d_G_isGroup_33 2 rfl ?_
            refine kg_iload_n hC d_G_isGroup_34 0 rfl ?_
            refine kg_icmp_ge hC d_G_isGroup_35 (tgt := 48) rfl (fun h35 => ?_) (fun h35 => ?_)
            · refine kg_iconst hC d_G_isGroup_48 kn_i_0 ?_
              exact kg_zret hC d_G_isGroup_49 kn_z0 (by rw [kp_G_isGroup, if_neg h3, if_neg h10, if_neg h15, if_pos h23, if_neg h30, if_pos h35]) rfl
            · refine kg_iload_n hC d_G_isGroup_38 2 rfl ?_
              refine kg_iload_n hC d_G_isGroup_39 1 rfl ?_
              refine kg_iload_n hC d_G_isGroup_40 0 rfl ?_
              refine kg_staticI hC (kk_G_power (kc_l C) hV σ g q p (kn_gt0 h3 h15)) cal_G_power tw_126 tw_125 rfl (by decide) (rest := []) rfl (Nat.le_of_ble_eq_true rfl) d_G_isGroup_41 ?_ (by decide)
              refine kg_iconst hC d_G_isGroup_44 kn_i_1 ?_
              refine kg_icmp_eq hC d_G_isGroup_45 (tgt := 50) rfl (fun h45 => ?_) (fun h45 => ?_)
              · refine kg_iload_n hC d_G_isGroup_50 1 rfl ?_
                refine kg_staticI hC (kk_G_isPrime (kc_l C) hV σ q) cal_G_isPrime tw_129 tw_128 rfl (by decide) (rest := []) rfl (Nat.le_of_ble_eq_true rfl) d_G_isGroup_51 ?_ (by decide)
                refine kg_if_eq hC d_G_isGroup_54 (tgt := 68) rfl (fun h54 => ?_) (fun h54 => ?_)
                · refine kg_iconst hC d_G_isGroup_68 kn_i_0 ?_
                  exact kg_zret hC d_G_isGroup_69 kn_z0 (by rw [kp_G_isGroup, if_neg h3, if_neg h10, if_neg h15, if_pos h23, if_neg h30, if_neg h35, if_pos h45, if_pos h54]) rfl
                · refine kg_iload_n hC d_G_isGroup_57 0 rfl ?_
                  refine kg_staticI hC (kk_G_isPrime (kc_l C) hV σ p) cal_G_isPrime tw_129 tw_128 rfl (by decide) (rest := []) rfl (Nat.le_of_ble_eq_true rfl) d_G_isGroup_58 ?_ (by decide)
                  refine kg_if_eq hC d_G_isGroup_61 (tgt := 68) rfl (fun h61 => ?_) (fun h61 => ?_)
                  · refine kg_iconst hC d_G_isGroup_68 kn_i_0 ?_
                    exact kg_zret hC d_G_isGroup_69 kn_z0 (by rw [kp_G_isGroup, if_neg h3, if_neg h10, if_neg h15, if_pos h23, if_neg h30, if_neg h35, if_pos h45, if_neg h54, if_pos h61]) rfl
                  · refine kg_iconst hC d_G_isGroup_64 kn_i_1 ?_
                    refine kg_goto hC d_G_isGroup_65 (tgt := 69) rfl ?_
                    exact kg_zret hC d_G_isGroup_69 kn_z1 (by rw [kp_G_isGroup, if_neg h3, if_neg h10, if_neg h15, if_pos h23, if_neg h30, if_neg h35, if_pos h45, if_neg h54, if_neg h61]) rfl
              · refine kg_iconst hC d_G_isGroup_48 kn_i_0 ?_
                exact kg_zret hC d_G_isGroup_49 kn_z0 (by rw [kp_G_isGroup, if_neg h3, if_neg h10, if_neg h15, if_pos h23, if_neg h30, if_neg h35, if_neg h45]) rfl
        · refine kg_iconst hC d_G_isGroup_26 kn_i_0 ?_
          exact kg_zret hC d_G_isGroup_27 kn_z0 (by rw [kp_G_isGroup, if_neg h3, if_neg h10, if_neg h15, if_neg h23]) rfl
theorem kz_G_isGroup (p : Int32) (q : Int32) (g : Int32) : kp_G_isGroup p q g = nI 0 ∨ kp_G_isGroup p q g = nI 1 := by
  unfold kp_G_isGroup
  (repeat' split) <;> first | exact Or.inl rfl | exact Or.inr rfl
def kq_G_become (σ : kc_Sg) (p : Int32) (q : Int32) (g : Int32) : kc_Sg := (kc_up (kc_up (kc_up σ 1 0 p) 1 1 q) 1 2 g)
set_option maxHeartbeats 4000000 in
set_option maxRecDepth 100000 in
theorem kk_G_become (l : Launch) {V : kc_V} (hV : kc_G V) (σ : kc_Sg) (p : Int32) (q : Int32) (g : Int32) : kc_Met l y_G_become b_G_become 4 none (kc_rm 1) V [.ref (kc_ad V 1), .int p, .int q, .int g] σ none (kq_G_become σ p q g) := by
  refine kc_of (by decide) (Nat.le_of_ble_eq_true rfl) hV.ok (fun C _ hC => ?_)
  show kc_Go C V 4 (0, 0) (kc_E C V none (kq_G_become σ p q g)) σ 0 [(0, .ref (kc_ad V 1)), (1, .int p), (2, .int q), (3, .int g)] []
  refine kg_aload_n hC d_G_become_0 0 rfl ?_
  refine kg_iload_n hC d_G_become_1 1 rfl ?_
  refine kg_puti hC (ko_1 hV) rfl ui_G ok_G nm_G (j := 0) (by decide) tw_32 rfl rfl rfl rfl d_G_become_2 rfl ?_
  refine kg_aload_n hC d_G_become_5 0 rfl ?_
  refine kg_iload_n hC d_G_become_6 2 rfl ?_
  refine kg_puti hC (ko_1 hV) rfl ui_G ok_G nm_G (j := 1) (by decide) tw_33 rfl rfl rfl rfl d_G_become_7 rfl ?_
  refine kg_aload_n hC d_G_become_10 0 rfl ?_
  refine kg_iload_n hC d_G_become_11 3 rfl ?_
  refine kg_at (pc' := 12) rfl ?_
  refine kg_puti hC (ko_1 hV) rfl ui_G ok_G nm_G (j := 2) (by decide) tw_34 rfl rfl rfl rfl d_G_become_12 rfl ?_
  exact kg_vret hC d_G_become_15 (by rw [kq_G_become])
def kp_G_stands (σ : kc_Sg) : Int32 := if (σ 1 1) ≤ (nI 1) then (nI 0) else (nI 1)
set_option maxHeartbeats 4000000 in
set_option maxRecDepth 100000 in
theorem kk_G_stands (l : Launch) {V : kc_V} (hV : kc_G V) (σ : kc_Sg) : kc_Met l y_G_stands b_G_stands 1 (some .boolean) (kc_rm 1) V [.ref (kc_ad V 1)] σ (some (.int (kp_G_stands σ))) σ := by
  refine kc_of (by decide) (Nat.le_of_ble_eq_true rfl) hV.ok (fun C _ hC => ?_)
  show kc_Go C V 1 (0, 0) (kc_E C V (some (.int (kp_G_stands σ))) σ) σ 0 [(0, .ref (kc_ad V 1))] []
  refine kg_aload_n hC d_G_stands_0 0 rfl ?_
  refine kg_geti hC (ko_1 hV) rfl ui_G (j := 1) (by decide) tw_33 rfl d_G_stands_1 rfl ?_
  refine kg_iconst hC d_G_stands_4 kn_i_1 ?_
  refine kg_icmp_le hC d_G_stands_5 (tgt := 12) rfl (fun h5 => ?_) (fun h5 => ?_)
  · refine kg_iconst hC d_G_stands_12 kn_i_0 ?_
    exact kg_zret hC d_G_stands_13 kn_z0 (by rw [kp_G_stands, if_pos h5]) rfl
  · refine kg_iconst hC d_G_stands_8 kn_i_1 ?_
    refine kg_goto hC d_G_stands_9 (tgt := 13) rfl ?_
    exact kg_zret hC d_G_stands_13 kn_z1 (by rw [kp_G_stands, if_neg h5]) rfl
theorem kz_G_stands (σ : kc_Sg) : kp_G_stands σ = nI 0 ∨ kp_G_stands σ = nI 1 := by
  unfold kp_G_stands
  (repeat' split) <;> first | exact Or.inl rfl | exact Or.inr rfl
def kp_G_isNumber (σ : kc_Sg) (a : Int32) : Int32 := if a < 0 then (nI 0) else (if (σ 1 1) ≤ a then (nI 0) else (nI 1))
set_option maxHeartbeats 4000000 in
set_option maxRecDepth 100000 in
theorem kk_G_isNumber (l : Launch) {V : kc_V} (hV : kc_G V) (σ : kc_Sg) (a : Int32) : kc_Met l y_G_isNumber b_G_isNumber 2 (some .boolean) (kc_rm 1) V [.ref (kc_ad V 1), .int a] σ (some (.int (kp_G_isNumber σ a))) σ := by
  refine kc_of (by decide) (Nat.le_of_ble_eq_true rfl) hV.ok (fun C _ hC => ?_)
  show kc_Go C V 2 (0, 0) (kc_E C V (some (.int (kp_G_isNumber σ a))) σ) σ 0 [(0, .ref (kc_ad V 1)), (1, .int a)] []
  refine kg_iload_n hC d_G_isNumber_0 1 rfl ?_
  refine kg_if_lt hC d_G_isNumber_1 (tgt := 16) rfl (fun h1 => ?_) (fun h1 => ?_)
  · refine kg_iconst hC d_G_isNumber_16 kn_i_0 ?_
    exact kg_zret hC d_G_isNumber_17 kn_z0 (by rw [kp_G_isNumber, if_pos h1]) rfl
  · refine kg_iload_n hC d_G_isNumber_4 1 rfl ?_
    refine kg_aload_n hC d_G_isNumber_5 0 rfl ?_
    refine kg_geti hC (ko_1 hV) rfl ui_G (j := 1) (by decide) tw_33 rfl d_G_isNumber_6 rfl ?_
    refine kg_icmp_ge hC d_G_isNumber_9 (tgt := 16) rfl (fun h9 => ?_) (fun h9 => ?_)
    · refine kg_iconst hC d_G_isNumber_16 kn_i_0 ?_
      exact kg_zret hC d_G_isNumber_17 kn_z0 (by rw [kp_G_isNumber, if_neg h1, if_pos h9]) rfl
    · refine kg_iconst hC d_G_isNumber_12 kn_i_1 ?_
      refine kg_goto hC d_G_isNumber_13 (tgt := 17) rfl ?_
      exact kg_zret hC d_G_isNumber_17 kn_z1 (by rw [kp_G_isNumber, if_neg h1, if_neg h9]) rfl
theorem kz_G_isNumber (σ : kc_Sg) (a : Int32) : kp_G_isNumber σ a = nI 0 ∨ kp_G_isNumber σ a = nI 1 := by
  unfold kp_G_isNumber
  (repeat' split) <;> first | exact Or.inl rfl | exact Or.inr rfl
def kp_G_areNumbers (σ : kc_Sg) (b : Int32) (c : Int32) (d : Int32) : Int32 := if (kp_G_isNumber σ b) = 0 then (nI 0) else (if (kp_G_isNumber σ c) = 0 then (nI 0) else (if (kp_G_isNumber σ d) = 0 then (nI 0) else (nI 1)))
set_option maxHeartbeats 4000000 in
set_option maxRecDepth 100000 in
theorem kk_G_areNumbers (l : Launch) {V : kc_V} (hV : kc_G V) (σ : kc_Sg) (b : Int32) (c : Int32) (d : Int32) : kc_Met l y_G_areNumbers b_G_areNumbers 4 (some .boolean) (kc_rm 2) V [.ref (kc_ad V 1), .int b, .int c, .int d] σ (some (.int (kp_G_areNumbers σ b c d))) σ := by
  refine kc_of (by decide) (Nat.le_of_ble_eq_true rfl) hV.ok (fun C _ hC => ?_)
  show kc_Go C V 4 (0, 0) (kc_E C V (some (.int (kp_G_areNumbers σ b c d))) σ) σ 0 [(0, .ref (kc_ad V 1)), (1, .int b), (2, .int c), (3, .int d)] []
  refine kg_aload_n hC d_G_areNumbers_0 0 rfl ?_
  refine kg_iload_n hC d_G_areNumbers_1 1 rfl ?_
  refine kg_virtualI hC (kk_G_isNumber (kc_l C) hV σ b) cal_G_isNumber tw_240 tw_241 tw_247 (ko_1 hV) rfl rfl (by decide) (rest := []) rfl (Nat.le_of_ble_eq_true rfl) d_G_areNumbers_2 ?_ (by decide)
  refine kg_if_eq hC d_G_areNumbers_5 (tgt := 28) rfl (fun h5 => ?_) (fun h5 => ?_)
  · refine kg_iconst hC d_G_areNumbers_28 kn_i_0 ?_
    exact kg_zret hC d_G_areNumbers_29 kn_z0 (by rw [kp_G_areNumbers, if_pos h5]) rfl
  · refine kg_aload_n hC d_G_areNumbers_8 0 rfl ?_
    refine kg_iload_n hC d_G_areNumbers_9 2 rfl ?_
    refine kg_virtualI hC (kk_G_isNumber (kc_l C) hV σ c) cal_G_isNumber tw_240 tw_241 tw_247 (ko_1 hV) rfl rfl (by decide) (rest := []) rfl (Nat.le_of_ble_eq_true rfl) d_G_areNumbers_10 ?_ (by decide)
    refine kg_if_eq hC d_G_areNumbers_13 (tgt := 28) rfl (fun h13 => ?_) (fun h13 => ?_)
    · refine kg_iconst hC d_G_areNumbers_28 kn_i_0 ?_
      exact kg_zret hC d_G_areNumbers_29 kn_z0 (by rw [kp_G_areNumbers, if_neg h5, if_pos h13]) rfl
    · refine kg_aload_n hC d_G_areNumbers_16 0 rfl ?_
      refine kg_iload_n hC d_G_areNumbers_17 3 rfl ?_
      refine kg_virtualI hC (kk_G_isNumber (kc_l C) hV σ d) cal_G_isNumber tw_240 tw_241 tw_247 (ko_1 hV) rfl rfl (by decide) (rest := []) rfl (Nat.le_of_ble_eq_true rfl) d_G_areNumbers_18 ?_ (by decide)
      refine kg_if_eq hC d_G_areNumbers_21 (tgt := 28) rfl (fun h21 => ?_) (fun h21 => ?_)
      · refine kg_iconst hC d_G_areNumbers_28 kn_i_0 ?_
        exact kg_zret hC d_G_areNumbers_29 kn_z0 (by rw [kp_G_areNumbers, if_neg h5, if_neg h13, if_pos h21]) rfl
      · refine kg_iconst hC d_G_areNumbers_24 kn_i_1 ?_
        refine kg_goto hC d_G_areNumbers_25 (tgt := 29) rfl ?_
        exact kg_zret hC d_G_areNumbers_29 kn_z1 (by rw [kp_G_areNumbers, if_neg h5, if_neg h13, if_neg h21]) rfl
theorem kz_G_areNumbers (σ : kc_Sg) (b : Int32) (c : Int32) (d : Int32) : kp_G_areNumbers σ b c d = nI 0 ∨ kp_G_areNumbers σ b c d = nI 1 := by
  unfold kp_G_areNumbers
  (repeat' split) <;> first | exact Or.inl rfl | exact Or.inr rfl
def kp_G_addNumbers (σ : kc_Sg) (a : Int32) (b : Int32) : Int32 := (kc_rem (a + b) (σ 1 1))
set_option maxHeartbeats 4000000 in
set_option maxRecDepth 100000 in
theorem kk_G_addNumbers (l : Launch) {V : kc_V} (hV : kc_G V) (σ : kc_Sg) (a : Int32) (b : Int32) (hq : ¬ σ 1 1 = 0) : kc_Met l y_G_addNumbers b_G_addNumbers 3 (some .int) (kc_rm 1) V [.ref (kc_ad V 1), .int a, .int b] σ (some (.int (kp_G_addNumbers σ a b))) σ := by
  refine kc_of (by decide) (Nat.le_of_ble_eq_true rfl) hV.ok (fun C _ hC => ?_)
  show kc_Go C V 3 (0, 0) (kc_E C V (some (.int (kp_G_addNumbers σ a b))) σ) σ 0 [(0, .ref (kc_ad V 1)), (1, .int a), (2, .int b)] []
  refine kg_iload_n hC d_G_addNumbers_0 1 rfl ?_
  refine kg_iload_n hC d_G_addNumbers_1 2 rfl ?_
  refine kg_iadd hC d_G_addNumbers_2 ?_
  refine kg_aload_n hC d_G_addNumbers_3 0 rfl ?_
  refine kg_geti hC (ko_1 hV) rfl ui_G (j := 1) (by decide) tw_33 rfl d_G_addNumbers_4 rfl ?_
  refine kg_irem hC d_G_addNumbers_7 hq ?_
  exact kg_iret hC d_G_addNumbers_8 (by rw [kp_G_addNumbers]) rfl
def kp_G_multiplyNumbers (σ : kc_Sg) (a : Int32) (b : Int32) : Int32 := (Int64.toInt32 (kc_lrem ((Int32.toInt64 a) * (Int32.toInt64 b)) (Int32.toInt64 (σ 1 1))))
set_option maxHeartbeats 4000000 in
set_option maxRecDepth 100000 in
theorem kk_G_multiplyNumbers (l : Launch) {V : kc_V} (hV : kc_G V) (σ : kc_Sg) (a : Int32) (b : Int32) (hq : ¬ σ 1 1 = 0) : kc_Met l y_G_multiplyNumbers b_G_multiplyNumbers 3 (some .int) (kc_rm 1) V [.ref (kc_ad V 1), .int a, .int b] σ (some (.int (kp_G_multiplyNumbers σ a b))) σ := by
  refine kc_of (by decide) (Nat.le_of_ble_eq_true rfl) hV.ok (fun C _ hC => ?_)
  show kc_Go C V 3 (0, 0) (kc_E C V (some (.int (kp_G_multiplyNumbers σ a b))) σ) σ 0 [(0, .ref (kc_ad V 1)), (1, .int a), (2, .int b)] []
  refine kg_iload_n hC d_G_multiplyNumbers_0 1 rfl ?_
  refine kg_i2l hC d_G_multiplyNumbers_1 ?_
  refine kg_iload_n hC d_G_multiplyNumbers_2 2 rfl ?_
  refine kg_i2l hC d_G_multiplyNumbers_3 ?_
  refine kg_lmul hC d_G_multiplyNumbers_4 ?_
  refine kg_aload_n hC d_G_multiplyNumbers_5 0 rfl ?_
  refine kg_geti hC (ko_1 hV) rfl ui_G (j := 1) (by decide) tw_33 rfl d_G_multiplyNumbers_6 rfl ?_
  refine kg_i2l hC d_G_multiplyNumbers_9 ?_
  refine kg_at (pc' := 10) rfl ?_
  refine kg_lrem hC d_G_multiplyNumbers_10 (kn_l0 hq) ?_
  refine kg_l2i hC d_G_multiplyNumbers_11 ?_
  exact kg_iret hC d_G_multiplyNumbers_12 (by rw [kp_G_multiplyNumbers]) rfl
def kp_G_multiply (σ : kc_Sg) (a : Int32) (b : Int32) : Int32 := (Int64.toInt32 (kc_lrem ((Int32.toInt64 a) * (Int32.toInt64 b)) (Int32.toInt64 (σ 1 0))))
set_option maxHeartbeats 4000000 in
set_option maxRecDepth 100000 in
theorem kk_G_multiply (l : Launch) {V : kc_V} (hV : kc_G V) (σ : kc_Sg) (a : Int32) (b : Int32) (hp : ¬ σ 1 0 = 0) : kc_Met l y_G_multiply b_G_multiply 3 (some .int) (kc_rm 1) V [.ref (kc_ad V 1), .int a, .int b] σ (some (.int (kp_G_multiply σ a b))) σ := by
  refine kc_of (by decide) (Nat.le_of_ble_eq_true rfl) hV.ok (fun C _ hC => ?_)
  show kc_Go C V 3 (0, 0) (kc_E C V (some (.int (kp_G_multiply σ a b))) σ) σ 0 [(0, .ref (kc_ad V 1)), (1, .int a), (2, .int b)] []
  refine kg_iload_n hC d_G_multiply_0 1 rfl ?_
  refine kg_i2l hC d_G_multiply_1 ?_
  refine kg_iload_n hC d_G_multiply_2 2 rfl ?_
  refine kg_i2l hC d_G_multiply_3 ?_
  refine kg_lmul hC d_G_multiply_4 ?_
  refine kg_aload_n hC d_G_multiply_5 0 rfl ?_
  refine kg_geti hC (ko_1 hV) rfl ui_G (j := 0) (by decide) tw_32 rfl d_G_multiply_6 rfl ?_
  refine kg_i2l hC d_G_multiply_9 ?_
  refine kg_at (pc' := 10) rfl ?_
  refine kg_lrem hC d_G_multiply_10 (kn_l0 hp) ?_
  refine kg_l2i hC d_G_multiply_11 ?_
  exact kg_iret hC d_G_multiply_12 (by rw [kp_G_multiply]) rfl
def kf_G_valueAt_1 (σ : kc_Sg) (x : Int32) (k : Nat) (i1 : Nat) (a1 : Int32) : Int32 := (kp_G_addNumbers σ (kp_G_multiplyNumbers σ a1 x) (σ k (3 - i1)))
def kp_G_valueAt (σ : kc_Sg) (x : Int32) (k : Nat) : Int32 := (kc_it (kf_G_valueAt_1 σ x k) 4 0 (nI 0))
set_option maxHeartbeats 4000000 in
set_option maxRecDepth 100000 in
theorem kk_G_valueAt (l : Launch) {V : kc_V} (hV : kc_G V) (σ : kc_Sg) (x : Int32) (k : Nat) (hq : ¬ σ 1 1 = 0) (ha : kc_ai V k 4) : kc_Met l y_G_valueAt b_G_valueAt 5 (some .int) (kc_rm 2) V [.ref (kc_ad V 1), .int x, .ref (kc_ad V k)] σ (some (.int (kp_G_valueAt σ x k))) σ := by
  refine kc_of (by decide) (Nat.le_of_ble_eq_true rfl) hV.ok (fun C _ hC => ?_)
  show kc_Go C V 5 (0, 0) (kc_E C V (some (.int (kp_G_valueAt σ x k))) σ) σ 0 [(0, .ref (kc_ad V 1)), (1, .int x), (2, .ref (kc_ad V k))] []
  refine kg_iconst hC d_G_valueAt_0 kn_i_0 ?_
  refine kg_istore_n hC d_G_valueAt_1 [(3, .int (nI 0)), (0, .ref (kc_ad V 1)), (1, .int x), (2, .ref (kc_ad V k))] rfl (by decide) ?_
  refine kg_iconst hC d_G_valueAt_2 kn_i_3 ?_
  refine kg_istore hC d_G_valueAt_3 [(4, .int (nI 3)), (3, .int (nI 0)), (0, .ref (kc_ad V 1)), (1, .int x), (2, .ref (kc_ad V k))] rfl (by decide) ?_
  refine kc_loop (fun i1 a1 => kc_Go C V 5 (0, 0) (kc_E C V (some (.int (kp_G_valueAt σ x k))) σ) σ 5 [(4, .int (nI 3 - nI i1)), (3, .int a1), (0, .ref (kc_ad V 1)), (1, .int x), (2, .ref (kc_ad V k))] []) (kf_G_valueAt_1 σ x k) 0 4 (fun i1 a1 ho1 hi1 hk1 => ?_) 4 0 (nI 0) (Nat.le_refl _) rfl ?_
  · refine kg_iload hC d_G_valueAt_5 0 rfl ?_
    refine kg_if_lt hC d_G_valueAt_7 (tgt := 31) rfl (fun q => absurd q (kn_dn (by omega))) (fun _ => ?_)
    refine kg_aload_n hC d_G_valueAt_10 2 rfl ?_
    refine kg_aload_n hC d_G_valueAt_11 2 rfl ?_
    refine kg_iload_n hC d_G_valueAt_12 1 rfl ?_
    refine kg_iload_n hC d_G_valueAt_13 3 rfl ?_
    refine kg_virtualI hC (kk_G_multiplyNumbers (kc_l C) hV σ a1 x hq) cal_G_multiplyNumbers tw_261 ts_G_multiplyNumbers tw_259 (ko_1 hV) rfl rfl (by decide) (rest := [.ref (kc_ad V 1)]) rfl (Nat.le_of_ble_eq_true rfl) d_G_valueAt_14 ?_ (by decide)
    refine kg_aload_n hC d_G_valueAt_17 4 rfl ?_
    refine kg_at (pc' := 18) rfl ?_
    refine kg_iload hC d_G_valueAt_18 0 rfl ?_
    refine kg_iald hC ha (i := (3 - i1)) (pk_sub (by omega)) (by omega) d_G_valueAt_20 ?_
    refine kg_virtualI hC (kk_G_addNumbers (kc_l C) hV σ (kp_G_multiplyNumbers σ a1 x) (σ k (3 - i1)) hq) cal_G_addNumbers tw_264 tw_265 tw_263 (ko_1 hV) rfl rfl (by decide) (rest := []) rfl (Nat.le_of_ble_eq_true rfl) d_G_valueAt_21 ?_ (by decide)
    refine kg_istore_n hC d_G_valueAt_24 [(3, .int (kp_G_addNumbers σ (kp_G_multiplyNumbers σ a1 x) (σ k (3 - i1)))), (4, .int (nI 3 - nI i1)), (0, .ref (kc_ad V 1)), (1, .int x), (2, .ref (kc_ad V k))] rfl (by decide) ?_
    refine kg_iinc hC d_G_valueAt_25 1 rfl (kn_dec (by omega)) [(4, .int (nI 3 - nI (i1 + 1))), (3, .int (kp_G_addNumbers σ (kp_G_multiplyNumbers σ a1 x) (σ k (3 - i1)))), (0, .ref (kc_ad V 1)), (1, .int x), (2, .ref (kc_ad V k))] rfl (by decide) ?_
    refine kg_goto hC d_G_valueAt_28 (tgt := 5) rfl ?_
    exact kg_to (P := fun zz => kc_Go C V 5 (0, 0) (kc_E C V (some (.int (kp_G_valueAt σ x k))) σ) σ 5 [(4, .int (nI 3 - nI (i1 + 1))), (3, .int zz), (0, .ref (kc_ad V 1)), (1, .int x), (2, .ref (kc_ad V k))] []) (b := (kp_G_addNumbers σ (kp_G_multiplyNumbers σ a1 x) (σ k (3 - i1)))) (a := (kf_G_valueAt_1 σ x k) i1 a1) (by rw [kf_G_valueAt_1]) hk1
  generalize hg1 : (kc_it (kf_G_valueAt_1 σ x k) 4 0 (nI 0)) = τ1
  refine kg_iload hC d_G_valueAt_5 0 rfl ?_
  refine kg_if_lt hC d_G_valueAt_7 (tgt := 31) rfl (fun _ => ?_) (fun q => absurd (by decide +kernel) q)
  refine kg_iload_n hC d_G_valueAt_31 1 rfl ?_
  exact kg_iret hC d_G_valueAt_32 (by rw [kp_G_valueAt, hg1]) rfl
def kf_G_commitTo_1 (k : Nat) (k2 : Nat) (i1 : Nat) (a1 : kc_Sg) : kc_Sg := (kc_up a1 k2 i1 (kp_G_power (a1 1 2) (a1 k i1) (a1 1 0)))
def kq_G_commitTo (σ : kc_Sg) (k : Nat) (k2 : Nat) : kc_Sg := (kc_it (kf_G_commitTo_1 k k2) 4 0 σ)
set_option maxHeartbeats 4000000 in
set_option maxRecDepth 100000 in
theorem kk_G_commitTo (l : Launch) {V : kc_V} (hV : kc_G V) (σ : kc_Sg) (k : Nat) (k2 : Nat) (hp : ¬ σ 1 0 = 0) (ha : kc_ai V k 4) (hb : kc_ai V k2 4) (h1 : k2 ≠ 1) : kc_Met l y_G_commitTo b_G_commitTo 4 none (kc_rm 2) V [.ref (kc_ad V 1), .ref (kc_ad V k), .ref (kc_ad V k2)] σ none (kq_G_commitTo σ k k2) := by
  refine kc_of (by decide) (Nat.le_of_ble_eq_true rfl) hV.ok (fun C _ hC => ?_)
  show kc_Go C V 4 (0, 0) (kc_E C V none (kq_G_commitTo σ k k2)) σ 0 [(0, .ref (kc_ad V 1)), (1, .ref (kc_ad V k)), (2, .ref (kc_ad V k2))] []
  refine kg_iconst hC d_G_commitTo_0 kn_i_0 ?_
  refine kg_istore_n hC d_G_commitTo_1 [(3, .int (nI 0)), (0, .ref (kc_ad V 1)), (1, .ref (kc_ad V k)), (2, .ref (kc_ad V k2))] rfl (by decide) ?_
  refine kc_loop (fun i1 a1 => a1 1 = σ 1 → kc_Go C V 4 (0, 0) (kc_E C V none (kq_G_commitTo σ k k2)) a1 2 [(3, .int (nI i1)), (0, .ref (kc_ad V 1)), (1, .ref (kc_ad V k)), (2, .ref (kc_ad V k2))] []) (kf_G_commitTo_1 k k2) 0 4 (fun i1 a1 ho1 hi1 hk1 hv1 => ?_) 4 0 σ (Nat.le_refl _) rfl (fun hw1 => ?_) rfl
  · refine kg_iload_n hC d_G_commitTo_2 0 rfl ?_
    refine kg_iconst hC d_G_commitTo_3 kn_i_4 ?_
    refine kg_icmp_ge hC d_G_commitTo_4 (tgt := 30) rfl (fun q => absurd q (nI_ge (by omega) (by decide))) (fun _ => ?_)
    refine kg_aload_n hC d_G_commitTo_7 3 rfl ?_
    refine kg_iload_n hC d_G_commitTo_8 0 rfl ?_
    refine kg_aload_n hC d_G_commitTo_9 1 rfl ?_
    refine kg_geti hC (ko_1 hV) rfl ui_G (j := 2) (by decide) tw_34 rfl d_G_commitTo_10 rfl ?_
    refine kg_aload_n hC d_G_commitTo_13 2 rfl ?_
    refine kg_at (pc' := 14) rfl ?_
    refine kg_iload_n hC d_G_commitTo_14 0 rfl ?_
    refine kg_iald hC ha (i := i1) rfl (by omega) d_G_commitTo_15 ?_
    refine kg_aload_n hC d_G_commitTo_16 1 rfl ?_
    refine kg_geti hC (ko_1 hV) rfl ui_G (j := 0) (by decide) tw_32 rfl d_G_commitTo_17 rfl ?_
    refine kg_staticI hC (kk_G_power (kc_l C) hV a1 (a1 1 2) (a1 k i1) (a1 1 0) (by rw [hv1]; exact hp)) cal_G_power tw_126 tw_125 rfl (by decide) (rest := [.int (nI i1), .ref (kc_ad V k2)]) rfl (Nat.le_of_ble_eq_true rfl) d_G_commitTo_20 ?_ (by decide)
    refine kg_iast hC hb (i := i1) rfl (by omega) d_G_commitTo_23 ?_
    refine kg_iinc hC d_G_commitTo_24 0 rfl (kn_inc1 i1) [(3, .int (nI (i1 + 1))), (0, .ref (kc_ad V 1)), (1, .ref (kc_ad V k)), (2, .ref (kc_ad V k2))] rfl (by decide) ?_
    refine kg_goto hC d_G_commitTo_27 (tgt := 2) rfl ?_
    exact kg_to (P := fun zz => zz 1 = σ 1 → kc_Go C V 4 (0, 0) (kc_E C V none (kq_G_commitTo σ k k2)) zz 2 [(3, .int (nI (i1 + 1))), (0, .ref (kc_ad V 1)), (1, .ref (kc_ad V k)), (2, .ref (kc_ad V k2))] []) (b := (kc_up a1 k2 i1 (kp_G_power (a1 1 2) (a1 k i1) (a1 1 0)))) (a := (kf_G_commitTo_1 k k2) i1 a1) (by rw [kf_G_commitTo_1]) hk1 (by rw [kc_up_ne (by omega)]; exact hv1)
  generalize hg1 : (kc_it (kf_G_commitTo_1 k k2) 4 0 σ) = τ1 at hw1 ⊢
  refine kg_iload_n hC d_G_commitTo_2 0 rfl ?_
  refine kg_iconst hC d_G_commitTo_3 kn_i_4 ?_
  refine kg_icmp_ge hC d_G_commitTo_4 (tgt := 30) rfl (fun _ => ?_) (fun q => absurd (nI_le (by decide) (by decide)) q)
  exact kg_vret hC d_G_commitTo_30 (by rw [kq_G_commitTo, hg1])
def kf_G_elementAt_1 (σ : kc_Sg) (x : Int32) (k : Nat) (i1 : Nat) (a1 : Int32 × Int32) : Int32 × Int32 := ((kp_G_multiply σ (a1.1) (kp_G_power (σ k i1) (a1.2) (σ 1 0))), ((a1.2) * x))
def kp_G_elementAt (σ : kc_Sg) (x : Int32) (k : Nat) : Int32 := ((kc_it (kf_G_elementAt_1 σ x k) 4 0 ((nI 1), (nI 1))).1)
set_option maxHeartbeats 4000000 in
set_option maxRecDepth 100000 in
theorem kk_G_elementAt (l : Launch) {V : kc_V} (hV : kc_G V) (σ : kc_Sg) (x : Int32) (k : Nat) (hp : ¬ σ 1 0 = 0) (ha : kc_ai V k 4) : kc_Met l y_G_elementAt b_G_elementAt 6 (some .int) (kc_rm 2) V [.ref (kc_ad V 1), .int x, .ref (kc_ad V k)] σ (some (.int (kp_G_elementAt σ x k))) σ := by
  refine kc_of (by decide) (Nat.le_of_ble_eq_true rfl) hV.ok (fun C _ hC => ?_)
  show kc_Go C V 6 (0, 0) (kc_E C V (some (.int (kp_G_elementAt σ x k))) σ) σ 0 [(0, .ref (kc_ad V 1)), (1, .int x), (2, .ref (kc_ad V k))] []
  refine kg_iconst hC d_G_elementAt_0 kn_i_1 ?_
  refine kg_istore_n hC d_G_elementAt_1 [(3, .int (nI 1)), (0, .ref (kc_ad V 1)), (1, .int x), (2, .ref (kc_ad V k))] rfl (by decide) ?_
  refine kg_iconst hC d_G_elementAt_2 kn_i_1 ?_
  refine kg_istore hC d_G_elementAt_3 [(4, .int (nI 1)), (3, .int (nI 1)), (0, .ref (kc_ad V 1)), (1, .int x), (2, .ref (kc_ad V k))] rfl (by decide) ?_
  refine kg_iconst hC d_G_elementAt_5 kn_i_0 ?_
  refine kg_istore hC d_G_elementAt_6 [(5, .int (nI 0)), (4, .int (nI 1)), (3, .int (nI 1)), (0, .ref (kc_ad V 1)), (1, .int x), (2, .ref (kc_ad V k))] rfl (by decide) ?_
  refine kg_loc [0, 2, 1, 3, 4, 5] (L' := [(5, .int (nI 0)), (3, .int (nI 1)), (4, .int (nI 1)), (0, .ref (kc_ad V 1)), (1, .int x), (2, .ref (kc_ad V k))]) rfl ?_
  refine kc_loop (fun i1 a1 => kc_Go C V 6 (0, 0) (kc_E C V (some (.int (kp_G_elementAt σ x k))) σ) σ 8 [(5, .int (nI i1)), (3, .int (a1.1)), (4, .int (a1.2)), (0, .ref (kc_ad V 1)), (1, .int x), (2, .ref (kc_ad V k))] []) (kf_G_elementAt_1 σ x k) 0 4 (fun i1 a1 ho1 hi1 hk1 => ?_) 4 0 ((nI 1), (nI 1)) (Nat.le_refl _) rfl ?_
  · refine kg_iload hC d_G_elementAt_8 0 rfl ?_
    refine kg_iconst hC d_G_elementAt_10 kn_i_4 ?_
    refine kg_icmp_ge hC d_G_elementAt_11 (tgt := 45) rfl (fun q => absurd q (nI_ge (by omega) (by decide))) (fun _ => ?_)
    refine kg_aload_n hC d_G_elementAt_14 3 rfl ?_
    refine kg_iload_n hC d_G_elementAt_15 1 rfl ?_
    refine kg_aload_n hC d_G_elementAt_16 5 rfl ?_
    refine kg_iload hC d_G_elementAt_17 0 rfl ?_
    refine kg_iald hC ha (i := i1) rfl (by omega) d_G_elementAt_19 ?_
    refine kg_at (pc' := 20) rfl ?_
    refine kg_iload hC d_G_elementAt_20 2 rfl ?_
    refine kg_aload_n hC d_G_elementAt_22 3 rfl ?_
    refine kg_geti hC (ko_1 hV) rfl ui_G (j := 0) (by decide) tw_32 rfl d_G_elementAt_23 rfl ?_
    refine kg_staticI hC (kk_G_power (kc_l C) hV σ (σ k i1) (a1.2) (σ 1 0) hp) cal_G_power tw_126 tw_125 rfl (by decide) (rest := [.int (a1.1), .ref (kc_ad V 1)]) rfl (Nat.le_of_ble_eq_true rfl) d_G_elementAt_26 ?_ (by decide)
    refine kg_virtualI hC (kk_G_multiply (kc_l C) hV σ (a1.1) (kp_G_power (σ k i1) (a1.2) (σ 1 0)) hp) cal_G_multiply tw_416 tw_417 tw_415 (ko_1 hV) rfl rfl (by decide) (rest := []) rfl (Nat.le_of_ble_eq_true rfl) d_G_elementAt_29 ?_ (by decide)
    refine kg_istore_n hC d_G_elementAt_32 [(3, .int (kp_G_multiply σ (a1.1) (kp_G_power (σ k i1) (a1.2) (σ 1 0)))), (5, .int (nI i1)), (4, .int (a1.2)), (0, .ref (kc_ad V 1)), (1, .int x), (2, .ref (kc_ad V k))] rfl (by decide) ?_
    refine kg_iload hC d_G_elementAt_33 2 rfl ?_
    refine kg_iload_n hC d_G_elementAt_35 4 rfl ?_
    refine kg_at (pc' := 36) rfl ?_
    refine kg_imul hC d_G_elementAt_36 ?_
    refine kg_istore hC d_G_elementAt_37 [(4, .int ((a1.2) * x)), (3, .int (kp_G_multiply σ (a1.1) (kp_G_power (σ k i1) (a1.2) (σ 1 0)))), (5, .int (nI i1)), (0, .ref (kc_ad V 1)), (1, .int x), (2, .ref (kc_ad V k))] rfl (by decide) ?_
    refine kg_iinc hC d_G_elementAt_39 2 rfl (kn_inc1 i1) [(5, .int (nI (i1 + 1))), (4, .int ((a1.2) * x)), (3, .int (kp_G_multiply σ (a1.1) (kp_G_power (σ k i1) (a1.2) (σ 1 0)))), (0, .ref (kc_ad V 1)), (1, .int x), (2, .ref (kc_ad V k))] rfl (by decide) ?_
    refine kg_goto hC d_G_elementAt_42 (tgt := 8) rfl ?_
    refine kg_loc [0, 2, 1, 3, 4, 5] (L' := [(5, .int (nI (i1 + 1))), (3, .int (kp_G_multiply σ (a1.1) (kp_G_power (σ k i1) (a1.2) (σ 1 0)))), (4, .int ((a1.2) * x)), (0, .ref (kc_ad V 1)), (1, .int x), (2, .ref (kc_ad V k))]) rfl ?_
    exact kg_to (P := fun zz => kc_Go C V 6 (0, 0) (kc_E C V (some (.int (kp_G_elementAt σ x k))) σ) σ 8 [(5, .int (nI (i1 + 1))), (3, .int (zz.1)), (4, .int (zz.2)), (0, .ref (kc_ad V 1)), (1, .int x), (2, .ref (kc_ad V k))] []) (b := ((kp_G_multiply σ (a1.1) (kp_G_power (σ k i1) (a1.2) (σ 1 0))), ((a1.2) * x))) (a := (kf_G_elementAt_1 σ x k) i1 a1) (by rw [kf_G_elementAt_1]) hk1
  generalize hg1 : (kc_it (kf_G_elementAt_1 σ x k) 4 0 ((nI 1), (nI 1))) = τ1
  refine kg_iload hC d_G_elementAt_8 0 rfl ?_
  refine kg_iconst hC d_G_elementAt_10 kn_i_4 ?_
  refine kg_icmp_ge hC d_G_elementAt_11 (tgt := 45) rfl (fun _ => ?_) (fun q => absurd (nI_le (by decide) (by decide)) q)
  refine kg_iload_n hC d_G_elementAt_45 1 rfl ?_
  exact kg_iret hC d_G_elementAt_46 (by rw [kp_G_elementAt, hg1]) rfl
def kp_G_agree (σ : kc_Sg) (x : Int32) (k : Nat) (v : Int32) : Int32 := if (kp_G_power (σ 1 2) v (σ 1 0)) = (kp_G_elementAt σ x k) then (nI 1) else (nI 0)
set_option maxHeartbeats 4000000 in
set_option maxRecDepth 100000 in
theorem kk_G_agree (l : Launch) {V : kc_V} (hV : kc_G V) (σ : kc_Sg) (x : Int32) (k : Nat) (v : Int32) (hp : ¬ σ 1 0 = 0) (ha : kc_ai V k 4) : kc_Met l y_G_agree b_G_agree 4 (some .boolean) (kc_rm 3) V [.ref (kc_ad V 1), .int x, .ref (kc_ad V k), .int v] σ (some (.int (kp_G_agree σ x k v))) σ := by
  refine kc_of (by decide) (Nat.le_of_ble_eq_true rfl) hV.ok (fun C _ hC => ?_)
  show kc_Go C V 4 (0, 0) (kc_E C V (some (.int (kp_G_agree σ x k v))) σ) σ 0 [(0, .ref (kc_ad V 1)), (1, .int x), (2, .ref (kc_ad V k)), (3, .int v)] []
  refine kg_aload_n hC d_G_agree_0 0 rfl ?_
  refine kg_geti hC (ko_1 hV) rfl ui_G (j := 2) (by decide) tw_34 rfl d_G_agree_1 rfl ?_
  refine kg_iload_n hC d_G_agree_4 3 rfl ?_
  refine kg_aload_n hC d_G_agree_5 0 rfl ?_
  refine kg_geti hC (ko_1 hV) rfl ui_G (j := 0) (by decide) tw_32 rfl d_G_agree_6 rfl ?_
  refine kg_staticI hC (kk_G_power (kc_l C) hV σ (σ 1 2) v (σ 1 0) hp) cal_G_power tw_126 tw_125 rfl (by decide) (rest := []) rfl (Nat.le_of_ble_eq_true rfl) d_G_agree_9 ?_ (by decide)
  refine kg_aload_n hC d_G_agree_12 0 rfl ?_
  refine kg_iload_n hC d_G_agree_13 1 rfl ?_
  refine kg_at (pc' := 14) rfl ?_
  refine kg_aload_n hC d_G_agree_14 2 rfl ?_
  refine kg_virtualI hC (kk_G_elementAt (kc_l C) hV σ x k hp ha) cal_G_elementAt tw_412 tw_413 tw_411 (ko_1 hV) rfl rfl (by decide) (rest := [.int (kp_G_power (σ 1 2) v (σ 1 0))]) rfl (Nat.le_of_ble_eq_true rfl) d_G_agree_15 ?_ (by decide)
  refine kg_icmp_ne hC d_G_agree_18 (tgt := 25) rfl (fun h18 => ?_) (fun h18 => ?_)
  · refine kg_iconst hC d_G_agree_25 kn_i_0 ?_
    exact kg_zret hC d_G_agree_26 kn_z0 (by rw [kp_G_agree, if_neg h18]) rfl
  · refine kg_iconst hC d_G_agree_21 kn_i_1 ?_
    refine kg_goto hC d_G_agree_22 (tgt := 26) rfl ?_
    exact kg_zret hC d_G_agree_26 kn_z1 (by rw [kp_G_agree, if_pos h18]) rfl
theorem kz_G_agree (σ : kc_Sg) (x : Int32) (k : Nat) (v : Int32) : kp_G_agree σ x k v = nI 0 ∨ kp_G_agree σ x k v = nI 1 := by
  unfold kp_G_agree
  (repeat' split) <;> first | exact Or.inl rfl | exact Or.inr rfl
def kf_G_weight_1 (σ : kc_Sg) (x : Int32) (c : Int32) (s : Int32) (i1 : Nat) (a1 : Int32 × Int32) : Int32 × Int32 := if (nI i1) = s then ((a1.1), (a1.2)) else (if (kp_K_isAmong c (nI i1)) = 0 then ((a1.1), (a1.2)) else ((kp_G_multiplyNumbers σ (a1.1) (kp_JM_floorMod (x - (nI i1)) (σ 1 1))), (kp_G_multiplyNumbers σ (a1.2) (kp_JM_floorMod (s - (nI i1)) (σ 1 1)))))
def kp_G_weight (σ : kc_Sg) (x : Int32) (c : Int32) (s : Int32) : Int32 := (kp_G_multiplyNumbers σ ((kc_it (kf_G_weight_1 σ x c s) 7 1 ((nI 1), (nI 1))).1) (kp_G_power ((kc_it (kf_G_weight_1 σ x c s) 7 1 ((nI 1), (nI 1))).2) ((σ 1 1) - (nI 2)) (σ 1 1)))
set_option maxHeartbeats 4000000 in
set_option maxRecDepth 100000 in
theorem kk_G_weight (l : Launch) {V : kc_V} (hV : kc_G V) (σ : kc_Sg) (x : Int32) (c : Int32) (s : Int32) (hq : ¬ σ 1 1 = 0) : kc_Met l y_G_weight b_G_weight 7 (some .int) (kc_rm 3) V [.ref (kc_ad V 1), .int x, .int c, .int s] σ (some (.int (kp_G_weight σ x c s))) σ := by
  refine kc_of (by decide) (Nat.le_of_ble_eq_true rfl) hV.ok (fun C _ hC => ?_)
  show kc_Go C V 7 (0, 0) (kc_E C V (some (.int (kp_G_weight σ x c s))) σ) σ 0 [(0, .ref (kc_ad V 1)), (1, .int x), (2, .int c), (3, .int s)] []
  refine kg_iconst hC d_G_weight_0 kn_i_1 ?_
  refine kg_istore hC d_G_weight_1 [(4, .int (nI 1)), (0, .ref (kc_ad V 1)), (1, .int x), (2, .int c), (3, .int s)] rfl (by decide) ?_
  refine kg_iconst hC d_G_weight_3 kn_i_1 ?_
  refine kg_istore hC d_G_weight_4 [(5, .int (nI 1)), (4, .int (nI 1)), (0, .ref (kc_ad V 1)), (1, .int x), (2, .int c), (3, .int s)] rfl (by decide) ?_
  refine kg_iconst hC d_G_weight_6 kn_i_1 ?_
  refine kg_istore hC d_G_weight_7 [(6, .int (nI 1)), (5, .int (nI 1)), (4, .int (nI 1)), (0, .ref (kc_ad V 1)), (1, .int x), (2, .int c), (3, .int s)] rfl (by decide) ?_
  refine kg_loc [0, 2, 1, 3, 4, 5, 6] (L' := [(6, .int (nI 1)), (4, .int (nI 1)), (5, .int (nI 1)), (0, .ref (kc_ad V 1)), (1, .int x), (2, .int c), (3, .int s)]) rfl ?_
  refine kc_loop (fun i1 a1 => kc_Go C V 7 (0, 0) (kc_E C V (some (.int (kp_G_weight σ x c s))) σ) σ 9 [(6, .int (nI i1)), (4, .int (a1.1)), (5, .int (a1.2)), (0, .ref (kc_ad V 1)), (1, .int x), (2, .int c), (3, .int s)] []) (kf_G_weight_1 σ x c s) 1 8 (fun i1 a1 ho1 hi1 hk1 => ?_) 7 1 ((nI 1), (nI 1)) (Nat.le_refl _) rfl ?_
  · refine kg_iload hC d_G_weight_9 0 rfl ?_
    refine kg_bipush hC d_G_weight_11 kn_b_7 ?_
    refine kg_icmp_gt hC d_G_weight_13 (tgt := 75) rfl (fun q => absurd q (nI_nlt (by omega) (by decide))) (fun _ => ?_)
    refine kg_iload hC d_G_weight_16 0 rfl ?_
    refine kg_iload_n hC d_G_weight_18 6 rfl ?_
    refine kg_icmp_eq hC d_G_weight_19 (tgt := 69) rfl (fun h19 => ?_) (fun h19 => ?_)
    · refine kg_iinc hC d_G_weight_69 0 rfl (kn_inc1 i1) [(6, .int (nI (i1 + 1))), (4, .int (a1.1)), (5, .int (a1.2)), (0, .ref (kc_ad V 1)), (1, .int x), (2, .int c), (3, .int s)] rfl (by decide) ?_
      refine kg_goto hC d_G_weight_72 (tgt := 9) rfl ?_
      exact kg_to (P := fun zz => kc_Go C V 7 (0, 0) (kc_E C V (some (.int (kp_G_weight σ x c s))) σ) σ 9 [(6, .int (nI (i1 + 1))), (4, .int (zz.1)), (5, .int (zz.2)), (0, .ref (kc_ad V 1)), (1, .int x), (2, .int c), (3, .int s)] []) (b := ((a1.1), (a1.2))) (a := (kf_G_weight_1 σ x c s) i1 a1) (by rw [kf_G_weight_1, if_pos h19]) hk1
    · refine kg_iload_n hC d_G_weight_22 5 rfl ?_
      refine kg_iload hC d_G_weight_23 0 rfl ?_
      refine kg_staticNI hC (kk_K_isAmong (kc_l C) hV σ c (nI i1)) cal_K_isAmong tw_303 kx_G_46 rfl (by decide) (rest := []) rfl (Nat.le_of_ble_eq_true rfl) d_G_weight_25 ?_ (by decide)
      refine kg_if_eq hC d_G_weight_28 (tgt := 69) rfl (fun h28 => ?_) (fun h28 => ?_)
      · refine kg_iinc hC d_G_weight_69 0 rfl (kn_inc1 i1) [(6, .int (nI (i1 + 1))), (4, .int (a1.1)), (5, .int (a1.2)), (0, .ref (kc_ad V 1)), (1, .int x), (2, .int c), (3, .int s)] rfl (by decide) ?_
        refine kg_goto hC d_G_weight_72 (tgt := 9) rfl ?_
        exact kg_to (P := fun zz => kc_Go C V 7 (0, 0) (kc_E C V (some (.int (kp_G_weight σ x c s))) σ) σ 9 [(6, .int (nI (i1 + 1))), (4, .int (zz.1)), (5, .int (zz.2)), (0, .ref (kc_ad V 1)), (1, .int x), (2, .int c), (3, .int s)] []) (b := ((a1.1), (a1.2))) (a := (kf_G_weight_1 σ x c s) i1 a1) (by rw [kf_G_weight_1, if_neg h19, if_pos h28]) hk1
      · refine kg_aload_n hC d_G_weight_31 3 rfl ?_
        refine kg_iload hC d_G_weight_32 1 rfl ?_
        refine kg_iload_n hC d_G_weight_34 4 rfl ?_
        refine kg_iload hC d_G_weight_35 0 rfl ?_
        refine kg_isub hC d_G_weight_37 ?_
        refine kg_aload_n hC d_G_weight_38 3 rfl ?_
        refine kg_geti hC (ko_1 hV) rfl ui_G (j := 1) (by decide) tw_33 rfl d_G_weight_39 rfl ?_
        refine kg_staticI hC (kk_JM_floorMod (kc_l C) hV σ (x - (nI i1)) (σ 1 1) hq) cal_JM_floorMod tw_506 tw_505 rfl (by decide) (rest := [.int (a1.1), .ref (kc_ad V 1)]) rfl (Nat.le_of_ble_eq_true rfl) d_G_weight_42 ?_ (by decide)
        refine kg_at (pc' := 45) rfl ?_
        refine kg_virtualI hC (kk_G_multiplyNumbers (kc_l C) hV σ (a1.1) (kp_JM_floorMod (x - (nI i1)) (σ 1 1)) hq) cal_G_multiplyNumbers tw_261 ts_G_multiplyNumbers tw_259 (ko_1 hV) rfl rfl (by decide) (rest := []) rfl (Nat.le_of_ble_eq_true rfl) d_G_weight_45 ?_ (by decide)
        refine kg_istore hC d_G_weight_48 [(4, .int (kp_G_multiplyNumbers σ (a1.1) (kp_JM_floorMod (x - (nI i1)) (σ 1 1)))), (6, .int (nI i1)), (5, .int (a1.2)), (0, .ref (kc_ad V 1)), (1, .int x), (2, .int c), (3, .int s)] rfl (by decide) ?_
        refine kg_aload_n hC d_G_weight_50 3 rfl ?_
        refine kg_iload hC d_G_weight_51 2 rfl ?_
        refine kg_iload_n hC d_G_weight_53 6 rfl ?_
        refine kg_iload hC d_G_weight_54 1 rfl ?_
        refine kg_isub hC d_G_weight_56 ?_
        refine kg_aload_n hC d_G_weight_57 3 rfl ?_
        refine kg_at (pc' := 58) rfl ?_
        refine kg_geti hC (ko_1 hV) rfl ui_G (j := 1) (by decide) tw_33 rfl d_G_weight_58 rfl ?_
        refine kg_staticI hC (kk_JM_floorMod (kc_l C) hV σ (s - (nI i1)) (σ 1 1) hq) cal_JM_floorMod tw_506 tw_505 rfl (by decide) (rest := [.int (a1.2), .ref (kc_ad V 1)]) rfl (Nat.le_of_ble_eq_true rfl) d_G_weight_61 ?_ (by decide)
        refine kg_virtualI hC (kk_G_multiplyNumbers (kc_l C) hV σ (a1.2) (kp_JM_floorMod (s - (nI i1)) (σ 1 1)) hq) cal_G_multiplyNumbers tw_261 ts_G_multiplyNumbers tw_259 (ko_1 hV) rfl rfl (by decide) (rest := []) rfl (Nat.le_of_ble_eq_true rfl) d_G_weight_64 ?_ (by decide)
        refine kg_istore hC d_G_weight_67 [(5, .int (kp_G_multiplyNumbers σ (a1.2) (kp_JM_floorMod (s - (nI i1)) (σ 1 1)))), (4, .int (kp_G_multiplyNumbers σ (a1.1) (kp_JM_floorMod (x - (nI i1)) (σ 1 1)))), (6, .int (nI i1)), (0, .ref (kc_ad V 1)), (1, .int x), (2, .int c), (3, .int s)] rfl (by decide) ?_
        refine kg_iinc hC d_G_weight_69 2 rfl (kn_inc1 i1) [(6, .int (nI (i1 + 1))), (5, .int (kp_G_multiplyNumbers σ (a1.2) (kp_JM_floorMod (s - (nI i1)) (σ 1 1)))), (4, .int (kp_G_multiplyNumbers σ (a1.1) (kp_JM_floorMod (x - (nI i1)) (σ 1 1)))), (0, .ref (kc_ad V 1)), (1, .int x), (2, .int c), (3, .int s)] rfl (by decide) ?_
        refine kg_goto hC d_G_weight_72 (tgt := 9) rfl ?_
        refine kg_loc [0, 2, 1, 3, 4, 5, 6] (L' := [(6, .int (nI (i1 + 1))), (4, .int (kp_G_multiplyNumbers σ (a1.1) (kp_JM_floorMod (x - (nI i1)) (σ 1 1)))), (5, .int (kp_G_multiplyNumbers σ (a1.2) (kp_JM_floorMod (s - (nI i1)) (σ 1 1)))), (0, .ref (kc_ad V 1)), (1, .int x), (2, .int c), (3, .int s)]) rfl ?_
        exact kg_to (P := fun zz => kc_Go C V 7 (0, 0) (kc_E C V (some (.int (kp_G_weight σ x c s))) σ) σ 9 [(6, .int (nI (i1 + 1))), (4, .int (zz.1)), (5, .int (zz.2)), (0, .ref (kc_ad V 1)), (1, .int x), (2, .int c), (3, .int s)] []) (b := ((kp_G_multiplyNumbers σ (a1.1) (kp_JM_floorMod (x - (nI i1)) (σ 1 1))), (kp_G_multiplyNumbers σ (a1.2) (kp_JM_floorMod (s - (nI i1)) (σ 1 1))))) (a := (kf_G_weight_1 σ x c s) i1 a1) (by rw [kf_G_weight_1, if_neg h19, if_neg h28]) hk1
  generalize hg1 : (kc_it (kf_G_weight_1 σ x c s) 7 1 ((nI 1), (nI 1))) = τ1
  refine kg_iload hC d_G_weight_9 0 rfl ?_
  refine kg_bipush hC d_G_weight_11 kn_b_7 ?_
  refine kg_icmp_gt hC d_G_weight_13 (tgt := 75) rfl (fun _ => ?_) (fun q => absurd (nI_lt (by decide) (by decide)) q)
  refine kg_aload_n hC d_G_weight_75 3 rfl ?_
  refine kg_iload hC d_G_weight_76 1 rfl ?_
  refine kg_iload hC d_G_weight_78 2 rfl ?_
  refine kg_aload_n hC d_G_weight_80 3 rfl ?_
  refine kg_geti hC (ko_1 hV) rfl ui_G (j := 1) (by decide) tw_33 rfl d_G_weight_81 rfl ?_
  refine kg_at (pc' := 84) rfl ?_
  refine kg_iconst hC d_G_weight_84 kn_i_2 ?_
  refine kg_isub hC d_G_weight_85 ?_
  refine kg_aload_n hC d_G_weight_86 3 rfl ?_
  refine kg_geti hC (ko_1 hV) rfl ui_G (j := 1) (by decide) tw_33 rfl d_G_weight_87 rfl ?_
  refine kg_staticI hC (kk_G_power (kc_l C) hV σ (τ1.2) ((σ 1 1) - (nI 2)) (σ 1 1) hq) cal_G_power tw_126 tw_125 rfl (by decide) (rest := [.int (τ1.1), .ref (kc_ad V 1)]) rfl (Nat.le_of_ble_eq_true rfl) d_G_weight_90 ?_ (by decide)
  refine kg_virtualI hC (kk_G_multiplyNumbers (kc_l C) hV σ (τ1.1) (kp_G_power (τ1.2) ((σ 1 1) - (nI 2)) (σ 1 1)) hq) cal_G_multiplyNumbers tw_261 ts_G_multiplyNumbers tw_259 (ko_1 hV) rfl rfl (by decide) (rest := []) rfl (Nat.le_of_ble_eq_true rfl) d_G_weight_93 ?_ (by decide)
  exact kg_iret hC d_G_weight_96 (by rw [kp_G_weight, hg1]) rfl
def kf_G_interpolate_1 (σ : kc_Sg) (x : Int32) (c : Int32) (k : Nat) (i1 : Nat) (a1 : Int32) : Int32 := if (kp_K_isAmong c (nI i1)) = 0 then a1 else (kp_G_addNumbers σ a1 (kp_G_multiplyNumbers σ (σ k i1) (kp_G_weight σ x c (nI i1))))
def kp_G_interpolate (σ : kc_Sg) (x : Int32) (c : Int32) (k : Nat) : Int32 := (kc_it (kf_G_interpolate_1 σ x c k) 7 1 (nI 0))
set_option maxHeartbeats 4000000 in
set_option maxRecDepth 100000 in
theorem kk_G_interpolate (l : Launch) {V : kc_V} (hV : kc_G V) (σ : kc_Sg) (x : Int32) (c : Int32) (k : Nat) (hq : ¬ σ 1 1 = 0) (ha : kc_ai V k 8) : kc_Met l y_G_interpolate b_G_interpolate 6 (some .int) (kc_rm 4) V [.ref (kc_ad V 1), .int x, .int c, .ref (kc_ad V k)] σ (some (.int (kp_G_interpolate σ x c k))) σ := by
  refine kc_of (by decide) (Nat.le_of_ble_eq_true rfl) hV.ok (fun C _ hC => ?_)
  show kc_Go C V 6 (0, 0) (kc_E C V (some (.int (kp_G_interpolate σ x c k))) σ) σ 0 [(0, .ref (kc_ad V 1)), (1, .int x), (2, .int c), (3, .ref (kc_ad V k))] []
  refine kg_iconst hC d_G_interpolate_0 kn_i_0 ?_
  refine kg_istore hC d_G_interpolate_1 [(4, .int (nI 0)), (0, .ref (kc_ad V 1)), (1, .int x), (2, .int c), (3, .ref (kc_ad V k))] rfl (by decide) ?_
  refine kg_iconst hC d_G_interpolate_3 kn_i_1 ?_
  refine kg_istore hC d_G_interpolate_4 [(5, .int (nI 1)), (4, .int (nI 0)), (0, .ref (kc_ad V 1)), (1, .int x), (2, .int c), (3, .ref (kc_ad V k))] rfl (by decide) ?_
  refine kc_loop (fun i1 a1 => kc_Go C V 6 (0, 0) (kc_E C V (some (.int (kp_G_interpolate σ x c k))) σ) σ 6 [(5, .int (nI i1)), (4, .int a1), (0, .ref (kc_ad V 1)), (1, .int x), (2, .int c), (3, .ref (kc_ad V k))] []) (kf_G_interpolate_1 σ x c k) 1 8 (fun i1 a1 ho1 hi1 hk1 => ?_) 7 1 (nI 0) (Nat.le_refl _) rfl ?_
  · refine kg_iload hC d_G_interpolate_6 0 rfl ?_
    refine kg_bipush hC d_G_interpolate_8 kn_b_7 ?_
    refine kg_icmp_gt hC d_G_interpolate_10 (tgt := 52) rfl (fun q => absurd q (nI_nlt (by omega) (by decide))) (fun _ => ?_)
    refine kg_iload_n hC d_G_interpolate_13 4 rfl ?_
    refine kg_iload hC d_G_interpolate_14 0 rfl ?_
    refine kg_staticNI hC (kk_K_isAmong (kc_l C) hV σ c (nI i1)) cal_K_isAmong tw_303 kx_G_46 rfl (by decide) (rest := []) rfl (Nat.le_of_ble_eq_true rfl) d_G_interpolate_16 ?_ (by decide)
    refine kg_if_eq hC d_G_interpolate_19 (tgt := 46) rfl (fun h19 => ?_) (fun h19 => ?_)
    · refine kg_iinc hC d_G_interpolate_46 0 rfl (kn_inc1 i1) [(5, .int (nI (i1 + 1))), (4, .int a1), (0, .ref (kc_ad V 1)), (1, .int x), (2, .int c), (3, .ref (kc_ad V k))] rfl (by decide) ?_
      refine kg_goto hC d_G_interpolate_49 (tgt := 6) rfl ?_
      exact kg_to (P := fun zz => kc_Go C V 6 (0, 0) (kc_E C V (some (.int (kp_G_interpolate σ x c k))) σ) σ 6 [(5, .int (nI (i1 + 1))), (4, .int zz), (0, .ref (kc_ad V 1)), (1, .int x), (2, .int c), (3, .ref (kc_ad V k))] []) (b := a1) (a := (kf_G_interpolate_1 σ x c k) i1 a1) (by rw [kf_G_interpolate_1, if_pos h19]) hk1
    · refine kg_aload_n hC d_G_interpolate_22 2 rfl ?_
      refine kg_iload hC d_G_interpolate_23 1 rfl ?_
      refine kg_aload_n hC d_G_interpolate_25 2 rfl ?_
      refine kg_aload_n hC d_G_interpolate_26 5 rfl ?_
      refine kg_iload hC d_G_interpolate_27 0 rfl ?_
      refine kg_iald hC ha (i := i1) rfl (by omega) d_G_interpolate_29 ?_
      refine kg_aload_n hC d_G_interpolate_30 2 rfl ?_
      refine kg_iload_n hC d_G_interpolate_31 3 rfl ?_
      refine kg_at (pc' := 32) rfl ?_
      refine kg_iload_n hC d_G_interpolate_32 4 rfl ?_
      refine kg_iload hC d_G_interpolate_33 0 rfl ?_
      refine kg_virtualI hC (kk_G_weight (kc_l C) hV σ x c (nI i1) hq) cal_G_weight tw_503 ts_G_weight tw_501 (ko_1 hV) rfl rfl (by decide) (rest := [.int (σ k i1), .ref (kc_ad V 1), .int a1, .ref (kc_ad V 1)]) rfl (Nat.le_of_ble_eq_true rfl) d_G_interpolate_35 ?_ (by decide)
      refine kg_virtualI hC (kk_G_multiplyNumbers (kc_l C) hV σ (σ k i1) (kp_G_weight σ x c (nI i1)) hq) cal_G_multiplyNumbers tw_261 ts_G_multiplyNumbers tw_259 (ko_1 hV) rfl rfl (by decide) (rest := [.int a1, .ref (kc_ad V 1)]) rfl (Nat.le_of_ble_eq_true rfl) d_G_interpolate_38 ?_ (by decide)
      refine kg_virtualI hC (kk_G_addNumbers (kc_l C) hV σ a1 (kp_G_multiplyNumbers σ (σ k i1) (kp_G_weight σ x c (nI i1))) hq) cal_G_addNumbers tw_264 tw_265 tw_263 (ko_1 hV) rfl rfl (by decide) (rest := []) rfl (Nat.le_of_ble_eq_true rfl) d_G_interpolate_41 ?_ (by decide)
      refine kg_istore hC d_G_interpolate_44 [(4, .int (kp_G_addNumbers σ a1 (kp_G_multiplyNumbers σ (σ k i1) (kp_G_weight σ x c (nI i1))))), (5, .int (nI i1)), (0, .ref (kc_ad V 1)), (1, .int x), (2, .int c), (3, .ref (kc_ad V k))] rfl (by decide) ?_
      refine kg_iinc hC d_G_interpolate_46 1 rfl (kn_inc1 i1) [(5, .int (nI (i1 + 1))), (4, .int (kp_G_addNumbers σ a1 (kp_G_multiplyNumbers σ (σ k i1) (kp_G_weight σ x c (nI i1))))), (0, .ref (kc_ad V 1)), (1, .int x), (2, .int c), (3, .ref (kc_ad V k))] rfl (by decide) ?_
      refine kg_goto hC d_G_interpolate_49 (tgt := 6) rfl ?_
      exact kg_to (P := fun zz => kc_Go C V 6 (0, 0) (kc_E C V (some (.int (kp_G_interpolate σ x c k))) σ) σ 6 [(5, .int (nI (i1 + 1))), (4, .int zz), (0, .ref (kc_ad V 1)), (1, .int x), (2, .int c), (3, .ref (kc_ad V k))] []) (b := (kp_G_addNumbers σ a1 (kp_G_multiplyNumbers σ (σ k i1) (kp_G_weight σ x c (nI i1))))) (a := (kf_G_interpolate_1 σ x c k) i1 a1) (by rw [kf_G_interpolate_1, if_neg h19]) hk1
  generalize hg1 : (kc_it (kf_G_interpolate_1 σ x c k) 7 1 (nI 0)) = τ1
  refine kg_iload hC d_G_interpolate_6 0 rfl ?_
  refine kg_bipush hC d_G_interpolate_8 kn_b_7 ?_
  refine kg_icmp_gt hC d_G_interpolate_10 (tgt := 52) rfl (fun _ => ?_) (fun q => absurd (nI_lt (by decide) (by decide)) q)
  refine kg_iload hC d_G_interpolate_52 1 rfl ?_
  exact kg_iret hC d_G_interpolate_54 (by rw [kp_G_interpolate, hg1]) rfl
end
section
def kb (σ : kc_Sg) : Nat := (σ 2 1).toNatClampNeg
def kc_bd (σ : kc_Sg) : Prop := σ 2 1 = nI (kb σ) ∧ kb σ ≤ 250
def kf_JA_fill_1 (k : Nat) (v : Int32) (i1 : Nat) (a1 : kc_Sg) : kc_Sg := (kc_up a1 k i1 v)
def kq_JA_fill (σ : kc_Sg) (k : Nat) (v : Int32) (n : Nat) : kc_Sg := (kc_it (kf_JA_fill_1 k v) n 0 σ)
set_option maxHeartbeats 4000000 in
set_option maxRecDepth 100000 in
theorem kk_JA_fill (l : Launch) {V : kc_V} (hV : kc_G V) (σ : kc_Sg) (k : Nat) (v : Int32) (n : Nat) (ha : kc_ai V k n) : kc_Met l y_JA_fill b_JA_fill 4 none (kc_rm 1) V [.ref (kc_ad V k), .int v] σ none (kq_JA_fill σ k v n) := by
  refine kc_of (by decide) (Nat.le_of_ble_eq_true rfl) hV.ok (fun C _ hC => ?_)
  have hn : n < 2 ^ 31 := by
    obtain ⟨_, _, _, _, _, q⟩ := ha
    exact q
  show kc_Go C V 4 (0, 0) (kc_E C V none (kq_JA_fill σ k v n)) σ 0 [(0, .ref (kc_ad V k)), (1, .int v)] []
  refine kg_iconst hC d_JA_fill_0 kn_i_0 ?_
  refine kg_istore_n hC d_JA_fill_1 [(2, .int (nI 0)), (0, .ref (kc_ad V k)), (1, .int v)] rfl (by decide) ?_
  refine kg_aload_n hC d_JA_fill_2 1 rfl ?_
  refine kg_alen hC ha d_JA_fill_3 ?_
  refine kg_istore_n hC d_JA_fill_4 [(3, .int (nI n)), (2, .int (nI 0)), (0, .ref (kc_ad V k)), (1, .int v)] rfl (by decide) ?_
  refine kg_loc [1, 0, 2, 3] (L' := [(2, .int (nI 0)), (3, .int (nI n)), (0, .ref (kc_ad V k)), (1, .int v)]) rfl ?_
  refine kc_loop (fun i1 a1 => kc_Go C V 4 (0, 0) (kc_E C V none (kq_JA_fill σ k v n)) a1 5 [(2, .int (nI i1)), (3, .int (nI n)), (0, .ref (kc_ad V k)), (1, .int v)] []) (kf_JA_fill_1 k v) 0 n (fun i1 a1 ho1 hi1 hk1 => ?_) n 0 σ (Nat.le_refl _) (Nat.zero_add _) ?_
  · refine kg_iload_n hC d_JA_fill_5 0 rfl ?_
    refine kg_iload_n hC d_JA_fill_6 1 rfl ?_
    refine kg_icmp_ge hC d_JA_fill_7 (tgt := 20) rfl (fun q => absurd q (nI_ge (by omega) hn)) (fun _ => ?_)
    refine kg_aload_n hC d_JA_fill_10 2 rfl ?_
    refine kg_iload_n hC d_JA_fill_11 0 rfl ?_
    refine kg_iload_n hC d_JA_fill_12 3 rfl ?_
    refine kg_iast hC ha (i := i1) rfl (by omega) d_JA_fill_13 ?_
    refine kg_iinc hC d_JA_fill_14 0 rfl (kn_inc1 i1) [(2, .int (nI (i1 + 1))), (3, .int (nI n)), (0, .ref (kc_ad V k)), (1, .int v)] rfl (by decide) ?_
    refine kg_at (pc' := 17) rfl ?_
    refine kg_goto hC d_JA_fill_17 (tgt := 5) rfl ?_
    exact kg_to (P := fun zz => kc_Go C V 4 (0, 0) (kc_E C V none (kq_JA_fill σ k v n)) zz 5 [(2, .int (nI (i1 + 1))), (3, .int (nI n)), (0, .ref (kc_ad V k)), (1, .int v)] []) (b := (kc_up a1 k i1 v)) (a := (kf_JA_fill_1 k v) i1 a1) (by rw [kf_JA_fill_1]) hk1
  generalize hg1 : (kc_it (kf_JA_fill_1 k v) n 0 σ) = τ1
  refine kg_iload_n hC d_JA_fill_5 0 rfl ?_
  refine kg_iload_n hC d_JA_fill_6 1 rfl ?_
  refine kg_icmp_ge hC d_JA_fill_7 (tgt := 20) rfl (fun _ => ?_) (fun q => absurd (nI_le (Nat.le_refl _) hn) q)
  exact kg_vret hC d_JA_fill_20 (by rw [kq_JA_fill, hg1])
def kq_B_empty (σ : kc_Sg) : kc_Sg := (kc_up σ 2 1 (nI 0))
set_option maxHeartbeats 4000000 in
set_option maxRecDepth 100000 in
theorem kk_B_empty (l : Launch) {V : kc_V} (hV : kc_G V) (σ : kc_Sg) : kc_Met l y_B_empty b_B_empty 1 none (kc_rm 1) V [.ref (kc_ad V 2)] σ none (kq_B_empty σ) := by
  refine kc_of (by decide) (Nat.le_of_ble_eq_true rfl) hV.ok (fun C _ hC => ?_)
  show kc_Go C V 1 (0, 0) (kc_E C V none (kq_B_empty σ)) σ 0 [(0, .ref (kc_ad V 2))] []
  refine kg_aload_n hC d_B_empty_0 0 rfl ?_
  refine kg_iconst hC d_B_empty_1 kn_i_0 ?_
  refine kg_puti hC (ko_2 hV) rfl ui_B ok_B nm_B (j := 1) (by decide) tw_49 rfl rfl rfl rfl d_B_empty_2 rfl ?_
  exact kg_vret hC d_B_empty_5 (by rw [kq_B_empty])
def kp_B_size (σ : kc_Sg) : Int32 := (σ 2 1)
set_option maxHeartbeats 4000000 in
set_option maxRecDepth 100000 in
theorem kk_B_size (l : Launch) {V : kc_V} (hV : kc_G V) (σ : kc_Sg) : kc_Met l y_B_size b_B_size 1 (some .int) (kc_rm 1) V [.ref (kc_ad V 2)] σ (some (.int (kp_B_size σ))) σ := by
  refine kc_of (by decide) (Nat.le_of_ble_eq_true rfl) hV.ok (fun C _ hC => ?_)
  show kc_Go C V 1 (0, 0) (kc_E C V (some (.int (kp_B_size σ))) σ) σ 0 [(0, .ref (kc_ad V 2))] []
  refine kg_aload_n hC d_B_size_0 0 rfl ?_
  refine kg_geti hC (ko_2 hV) rfl ui_B (j := 1) (by decide) tw_49 rfl d_B_size_1 rfl ?_
  exact kg_iret hC d_B_size_4 (by rw [kp_B_size]) rfl
def kp_B_room (σ : kc_Sg) : Int32 := ((nI 250) - (σ 2 1))
set_option maxHeartbeats 4000000 in
set_option maxRecDepth 100000 in
theorem kk_B_room (l : Launch) {V : kc_V} (hV : kc_G V) (σ : kc_Sg) : kc_Met l y_B_room b_B_room 1 (some .int) (kc_rm 1) V [.ref (kc_ad V 2)] σ (some (.int (kp_B_room σ))) σ := by
  refine kc_of (by decide) (Nat.le_of_ble_eq_true rfl) hV.ok (fun C _ hC => ?_)
  show kc_Go C V 1 (0, 0) (kc_E C V (some (.int (kp_B_room σ))) σ) σ 0 [(0, .ref (kc_ad V 2))] []
  refine kg_sipush hC d_B_room_0 kn_s_250 ?_
  refine kg_aload_n hC d_B_room_3 0 rfl ?_
  refine kg_geti hC (ko_2 hV) rfl ui_B (j := 1) (by decide) tw_49 rfl d_B_room_4 rfl ?_
  refine kg_isub hC d_B_room_7 ?_
  exact kg_iret hC d_B_room_8 (by rw [kp_B_room]) rfl
def kp_B_read (σ : kc_Sg) (a : Nat) (b : Nat) : Int32 := (σ 7 ((a * 9) + b))
set_option maxHeartbeats 4000000 in
set_option maxRecDepth 100000 in
theorem kk_B_read (l : Launch) {V : kc_V} (hV : kc_G V) (σ : kc_Sg) (a : Nat) (b : Nat) (hi : a * 9 + b < 2250) : kc_Met l y_B_read b_B_read 3 (some .int) (kc_rm 1) V [.ref (kc_ad V 2), .int (nI a), .int (nI b)] σ (some (.int (kp_B_read σ a b))) σ := by
  refine kc_of (by decide) (Nat.le_of_ble_eq_true rfl) hV.ok (fun C _ hC => ?_)
  show kc_Go C V 3 (0, 0) (kc_E C V (some (.int (kp_B_read σ a b))) σ) σ 0 [(0, .ref (kc_ad V 2)), (1, .int (nI a)), (2, .int (nI b))] []
  refine kg_aload_n hC d_B_read_0 0 rfl ?_
  refine kg_getr hC (ko_2 hV) rfl ui_B (j := 0) (by decide) tw_48 rfl d_B_read_1 rfl ?_
  refine kg_iload_n hC d_B_read_4 1 rfl ?_
  refine kg_bipush hC d_B_read_5 kn_b_9 ?_
  refine kg_imul hC d_B_read_7 ?_
  refine kg_top (x' := (nI (a * 9))) (pk_mul _ _) ?_
  refine kg_iload_n hC d_B_read_8 2 rfl ?_
  refine kg_iadd hC d_B_read_9 ?_
  refine kg_top (x' := (nI ((a * 9) + b))) (nI_add _ _) ?_
  refine kg_iald hC (ka_7 hV) (i := ((a * 9) + b)) rfl (by omega) d_B_read_10 ?_
  refine kg_at (pc' := 11) rfl ?_
  exact kg_iret hC d_B_read_11 (by rw [kp_B_read]) rfl
def kf_B_add_1 (σ : kc_Sg) (i1 : Nat) (a1 : kc_Sg) : kc_Sg := (kc_up a1 7 (((kb σ) * 9) + i1) (nI 0))
def kq_B_add (σ : kc_Sg) (t : Int32) (b : Int32) (w : Int32) (v : Int32) (u : Int32) : kc_Sg := if (nI (kb σ)) < (nI 250) then (kc_up (kc_it (kf_B_add_1 σ) 4 5 (kc_up (kc_up (kc_up (kc_up (kc_up σ 7 ((kb σ) * 9) t) 7 (((kb σ) * 9) + 1) b) 7 (((kb σ) * 9) + 2) w) 7 (((kb σ) * 9) + 3) v) 7 (((kb σ) * 9) + 4) u)) 2 1 (((kc_it (kf_B_add_1 σ) 4 5 (kc_up (kc_up (kc_up (kc_up (kc_up σ 7 ((kb σ) * 9) t) 7 (((kb σ) * 9) + 1) b) 7 (((kb σ) * 9) + 2) w) 7 (((kb σ) * 9) + 3) v) 7 (((kb σ) * 9) + 4) u)) 2 1) + (nI 1))) else σ
set_option maxHeartbeats 4000000 in
set_option maxRecDepth 100000 in
theorem kk_B_add (l : Launch) {V : kc_V} (hV : kc_G V) (σ : kc_Sg) (t : Int32) (b : Int32) (w : Int32) (v : Int32) (u : Int32) (hb : kc_bd σ) : kc_Met l y_B_add b_B_add 8 none (kc_rm 1) V [.ref (kc_ad V 2), .int t, .int b, .int w, .int v, .int u] σ none (kq_B_add σ t b w v u) := by
  refine kc_of (by decide) (Nat.le_of_ble_eq_true rfl) hV.ok (fun C _ hC => ?_)
  show kc_Go C V 8 (0, 0) (kc_E C V none (kq_B_add σ t b w v u)) σ 0 [(0, .ref (kc_ad V 2)), (1, .int t), (2, .int b), (3, .int w), (4, .int v), (5, .int u)] []
  refine kg_aload_n hC d_B_add_0 0 rfl ?_
  refine kg_geti hC (ko_2 hV) rfl ui_B (j := 1) (by decide) tw_49 rfl d_B_add_1 rfl ?_
  refine kg_top (x' := (nI (kb σ))) hb.1 ?_
  refine kg_sipush hC d_B_add_4 kn_s_250 ?_
  refine kg_icmp_lt hC d_B_add_7 (tgt := 11) rfl (fun h7 => ?_) (fun h7 => ?_)
  · have hs : kb σ < 250 := (nI_ltI (by have := hb.2; omega) (by decide)).mp h7
    refine kg_aload_n hC d_B_add_11 0 rfl ?_
    refine kg_geti hC (ko_2 hV) rfl ui_B (j := 1) (by decide) tw_49 rfl d_B_add_12 rfl ?_
    refine kg_top (x' := (nI (kb σ))) hb.1 ?_
    refine kg_bipush hC d_B_add_15 kn_b_9 ?_
    refine kg_imul hC d_B_add_17 ?_
    refine kg_top (x' := (nI ((kb σ) * 9))) (pk_mul _ _) ?_
    refine kg_istore hC d_B_add_18 [(6, .int (nI ((kb σ) * 9))), (0, .ref (kc_ad V 2)), (1, .int t), (2, .int b), (3, .int w), (4, .int v), (5, .int u)] rfl (by decide) ?_
    refine kg_aload_n hC d_B_add_20 1 rfl ?_
    refine kg_getr hC (ko_2 hV) rfl ui_B (j := 0) (by decide) tw_48 rfl d_B_add_21 rfl ?_
    refine kg_iload hC d_B_add_24 0 rfl ?_
    refine kg_at (pc' := 26) rfl ?_
    refine kg_iload_n hC d_B_add_26 2 rfl ?_
    refine kg_iast hC (ka_7 hV) (i := ((kb σ) * 9)) rfl (by omega) d_B_add_27 ?_
    refine kg_aload_n hC d_B_add_28 1 rfl ?_
    refine kg_getr hC (ko_2 hV) rfl ui_B (j := 0) (by decide) tw_48 rfl d_B_add_29 rfl ?_
    refine kg_iload hC d_B_add_32 0 rfl ?_
    refine kg_iconst hC d_B_add_34 kn_i_1 ?_
    refine kg_iadd hC d_B_add_35 ?_
    refine kg_top (x' := (nI (((kb σ) * 9) + 1))) (nI_add _ _) ?_
    refine kg_iload_n hC d_B_add_36 3 rfl ?_
    refine kg_at (pc' := 37) rfl ?_
    refine kg_iast hC (ka_7 hV) (i := (((kb σ) * 9) + 1)) rfl (by omega) d_B_add_37 ?_
    refine kg_aload_n hC d_B_add_38 1 rfl ?_
    refine kg_getr hC (ko_2 hV) rfl ui_B (j := 0) (by decide) tw_48 rfl d_B_add_39 rfl ?_
    refine kg_iload hC d_B_add_42 0 rfl ?_
    refine kg_iconst hC d_B_add_44 kn_i_2 ?_
    refine kg_iadd hC d_B_add_45 ?_
    refine kg_top (x' := (nI (((kb σ) * 9) + 2))) (nI_add _ _) ?_
    refine kg_iload_n hC d_B_add_46 4 rfl ?_
    refine kg_iast hC (ka_7 hV) (i := (((kb σ) * 9) + 2)) rfl (by omega) d_B_add_47 ?_
    refine kg_at (pc' := 48) rfl ?_
    refine kg_aload_n hC d_B_add_48 1 rfl ?_
    refine kg_getr hC (ko_2 hV) rfl ui_B (j := 0) (by decide) tw_48 rfl d_B_add_49 rfl ?_
    refine kg_iload hC d_B_add_52 0 rfl ?_
    refine kg_iconst hC d_B_add_54 kn_i_3 ?_
    refine kg_iadd hC d_B_add_55 ?_
    refine kg_top (x' := (nI (((kb σ) * 9) + 3))) (nI_add _ _) ?_
    refine kg_iload hC d_B_add_56 5 rfl ?_
    refine kg_iast hC (ka_7 hV) (i := (((kb σ) * 9) + 3)) rfl (by omega) d_B_add_58 ?_
    refine kg_aload_n hC d_B_add_59 1 rfl ?_
    refine kg_at (pc' := 60) rfl ?_
    refine kg_getr hC (ko_2 hV) rfl ui_B (j := 0) (by decide) tw_48 rfl d_B_add_60 rfl ?_
    refine kg_iload hC d_B_add_63 0 rfl ?_
    refine kg_iconst hC d_B_add_65 kn_i_4 ?_
    refine kg_iadd hC d_B_add_66 ?_
    refine kg_top (x' := (nI (((kb σ) * 9) + 4))) (nI_add _ _) ?_
    refine kg_iload hC d_B_add_67 6 rfl ?_
    refine kg_iast hC (ka_7 hV) (i := (((kb σ) * 9) + 4)) rfl (by omega) d_B_add_69 ?_
    refine kg_iconst hC d_B_add_70 kn_i_5 ?_
    refine kg_istore hC d_B_add_71 [(7, .int (nI 5)), (6, .int (nI ((kb σ) * 9))), (0, .ref (kc_ad V 2)), (1, .int t), (2, .int b), (3, .int w), (4, .int v), (5, .int u)] rfl (by decide) ?_
    refine kc_loop (fun i1 a1 => kc_Go C V 8 (0, 0) (kc_E C V none (kq_B_add σ t b w v u)) a1 73 [(7, .int (nI i1)), (6, .int (nI ((kb σ) * 9))), (0, .ref (kc_ad V 2)), (1, .int t), (2, .int b), (3, .int w), (4, .int v), (5, .int u)] []) (kf_B_add_1 σ) 5 9 (fun i1 a1 ho1 hi1 hk1 => ?_) 4 5 (kc_up (kc_up (kc_up (kc_up (kc_up σ 7 ((kb σ) * 9) t) 7 (((kb σ) * 9) + 1) b) 7 (((kb σ) * 9) + 2) w) 7 (((kb σ) * 9) + 3) v) 7 (((kb σ) * 9) + 4) u) (Nat.le_refl _) rfl ?_
    · refine kg_iload hC d_B_add_73 0 rfl ?_
      refine kg_bipush hC d_B_add_75 kn_b_9 ?_
      refine kg_icmp_ge hC d_B_add_77 (tgt := 97) rfl (fun q => absurd q (nI_ge (by omega) (by decide))) (fun _ => ?_)
      refine kg_aload_n hC d_B_add_80 2 rfl ?_
      refine kg_getr hC (ko_2 hV) rfl ui_B (j := 0) (by decide) tw_48 rfl d_B_add_81 rfl ?_
      refine kg_iload hC d_B_add_84 1 rfl ?_
      refine kg_iload hC d_B_add_86 0 rfl ?_
      refine kg_iadd hC d_B_add_88 ?_
      refine kg_top (x' := (nI (((kb σ) * 9) + i1))) (nI_add _ _) ?_
      refine kg_at (pc' := 89) rfl ?_
      refine kg_iconst hC d_B_add_89 kn_i_0 ?_
      refine kg_iast hC (ka_7 hV) (i := (((kb σ) * 9) + i1)) rfl (by omega) d_B_add_90 ?_
      refine kg_iinc hC d_B_add_91 0 rfl (kn_inc1 i1) [(7, .int (nI (i1 + 1))), (6, .int (nI ((kb σ) * 9))), (0, .ref (kc_ad V 2)), (1, .int t), (2, .int b), (3, .int w), (4, .int v), (5, .int u)] rfl (by decide) ?_
      refine kg_goto hC d_B_add_94 (tgt := 73) rfl ?_
      exact kg_to (P := fun zz => kc_Go C V 8 (0, 0) (kc_E C V none (kq_B_add σ t b w v u)) zz 73 [(7, .int (nI (i1 + 1))), (6, .int (nI ((kb σ) * 9))), (0, .ref (kc_ad V 2)), (1, .int t), (2, .int b), (3, .int w), (4, .int v), (5, .int u)] []) (b := (kc_up a1 7 (((kb σ) * 9) + i1) (nI 0))) (a := (kf_B_add_1 σ) i1 a1) (by rw [kf_B_add_1]) hk1
    generalize hg1 : (kc_it (kf_B_add_1 σ) 4 5 (kc_up (kc_up (kc_up (kc_up (kc_up σ 7 ((kb σ) * 9) t) 7 (((kb σ) * 9) + 1) b) 7 (((kb σ) * 9) + 2) w) 7 (((kb σ) * 9) + 3) v) 7 (((kb σ) * 9) + 4) u)) = τ1
    refine kg_iload hC d_B_add_73 0 rfl ?_
    refine kg_bipush hC d_B_add_75 kn_b_9 ?_
    refine kg_icmp_ge hC d_B_add_77 (tgt := 97) rfl (fun _ => ?_) (fun q => absurd (nI_le (by decide) (by decide)) q)
    refine kg_aload_n hC d_B_add_97 2 rfl ?_
    refine kg_dup hC d_B_add_98 rfl ?_
    refine kg_geti hC (ko_2 hV) rfl ui_B (j := 1) (by decide) tw_49 rfl d_B_add_99 rfl ?_
    refine kg_iconst hC d_B_add_102 kn_i_1 ?_
    refine kg_iadd hC d_B_add_103 ?_
    refine kg_at (pc' := 104) rfl ?_
    refine kg_puti hC (ko_2 hV) rfl ui_B ok_B nm_B (j := 1) (by decide) tw_49 rfl rfl rfl rfl d_B_add_104 rfl ?_
    exact kg_vret hC d_B_add_107 (by rw [kq_B_add, if_pos h7, hg1])
  · exact kg_vret hC d_B_add_10 (by rw [kq_B_add, if_neg h7])
def kq_B_addDealing (σ : kc_Sg) (b : Int32) (u : Int32) (k : Nat) : kc_Sg := if (nI (kb σ)) < (nI 250) then (kc_pu (kq_B_add σ (nI 1) b (nI 0) (nI 0) u) 7 (va_cpy ((kq_B_add σ (nI 1) b (nI 0) (nI 0) u) k) ((kq_B_add σ (nI 1) b (nI 0) (nI 0) u) 7) 0 (((kb σ) * 9) + 5) 4)) else σ
set_option maxHeartbeats 4000000 in
set_option maxRecDepth 100000 in
theorem kk_B_addDealing (l : Launch) {V : kc_V} (hV : kc_G V) (σ : kc_Sg) (b : Int32) (u : Int32) (k : Nat) (hb : kc_bd σ) (ha : kc_ai V k 4) : kc_Met l y_B_addDealing b_B_addDealing 5 none (kc_rm 2) V [.ref (kc_ad V 2), .int b, .int u, .ref (kc_ad V k)] σ none (kq_B_addDealing σ b u k) := by
  refine kc_of (by decide) (Nat.le_of_ble_eq_true rfl) hV.ok (fun C _ hC => ?_)
  show kc_Go C V 5 (0, 0) (kc_E C V none (kq_B_addDealing σ b u k)) σ 0 [(0, .ref (kc_ad V 2)), (1, .int b), (2, .int u), (3, .ref (kc_ad V k))] []
  refine kg_aload_n hC d_B_addDealing_0 0 rfl ?_
  refine kg_geti hC (ko_2 hV) rfl ui_B (j := 1) (by decide) tw_49 rfl d_B_addDealing_1 rfl ?_
  refine kg_top (x' := (nI (kb σ))) hb.1 ?_
  refine kg_sipush hC d_B_addDealing_4 kn_s_250 ?_
  refine kg_icmp_lt hC d_B_addDealing_7 (tgt := 11) rfl (fun h7 => ?_) (fun h7 => ?_)
  · have hs : kb σ < 250 := (nI_ltI (by have := hb.2; omega) (by decide)).mp h7
    refine kg_aload_n hC d_B_addDealing_11 0 rfl ?_
    refine kg_geti hC (ko_2 hV) rfl ui_B (j := 1) (by decide) tw_49 rfl d_B_addDealing_12 rfl ?_
    refine kg_top (x' := (nI (kb σ))) hb.1 ?_
    refine kg_bipush hC d_B_addDealing_15 kn_b_9 ?_
    refine kg_imul hC d_B_addDealing_17 ?_
    refine kg_top (x' := (nI ((kb σ) * 9))) (pk_mul _ _) ?_
    refine kg_iconst hC d_B_addDealing_18 kn_i_5 ?_
    refine kg_iadd hC d_B_addDealing_19 ?_
    refine kg_top (x' := (nI (((kb σ) * 9) + 5))) (nI_add _ _) ?_
    refine kg_istore hC d_B_addDealing_20 [(4, .int (nI (((kb σ) * 9) + 5))), (0, .ref (kc_ad V 2)), (1, .int b), (2, .int u), (3, .ref (kc_ad V k))] rfl (by decide) ?_
    refine kg_aload_n hC d_B_addDealing_22 1 rfl ?_
    refine kg_at (pc' := 23) rfl ?_
    refine kg_iconst hC d_B_addDealing_23 kn_i_1 ?_
    refine kg_iload_n hC d_B_addDealing_24 2 rfl ?_
    refine kg_iconst hC d_B_addDealing_25 kn_i_0 ?_
    refine kg_iconst hC d_B_addDealing_26 kn_i_0 ?_
    refine kg_iload_n hC d_B_addDealing_27 3 rfl ?_
    refine kg_virtualV hC (kk_B_add (kc_l C) hV σ (nI 1) b (nI 0) (nI 0) u hb) cal_B_add tw_386 tw_387 tw_385 (ko_2 hV) rfl rfl (by decide) (rest := []) rfl (Nat.le_of_ble_eq_true rfl) d_B_addDealing_28 ?_ (by decide)
    refine kg_aload_n hC d_B_addDealing_31 4 rfl ?_
    refine kg_iconst hC d_B_addDealing_32 kn_i_0 ?_
    refine kg_at (pc' := 33) rfl ?_
    refine kg_aload_n hC d_B_addDealing_33 1 rfl ?_
    refine kg_getr hC (ko_2 hV) rfl ui_B (j := 0) (by decide) tw_48 rfl d_B_addDealing_34 rfl ?_
    refine kg_iload hC d_B_addDealing_37 0 rfl ?_
    refine kg_iconst hC d_B_addDealing_39 kn_i_4 ?_
    refine kg_copy hC ha (ka_7 hV) (a := 0) (b := (((kb σ) * 9) + 5)) (n := 4) (by omega) (by omega) tw_389 tw_391 tw_390 tw_15 (by decide) (Nat.le_of_ble_eq_true rfl) d_B_addDealing_40 ?_
    exact kg_vret hC d_B_addDealing_43 (by rw [kq_B_addDealing, if_pos h7])
  · exact kg_vret hC d_B_addDealing_10 (by rw [kq_B_addDealing, if_neg h7])
end
section
theorem ke_writeRow {σ : kc_Sg} {k j : Nat} {a b c d : Int32} (h : j ≠ k) : kq_K_writeRow σ k a b c d j = σ j := by
  unfold kq_K_writeRow
  rw [kc_up_ne h, kc_up_ne h, kc_up_ne h, kc_up_ne h]
theorem ke_it {f : Nat → kc_Sg → kc_Sg} {j : Nat} (h : ∀ i a, f i a j = a j) : ∀ n i a, kc_it f n i a j = a j
  | 0, _, _ => rfl
  | n + 1, i, a => (ke_it h n (i + 1) (f i a)).trans (h i a)
theorem ke_commitTo {σ : kc_Sg} {k k2 j : Nat} (h : j ≠ k2) : kq_G_commitTo σ k k2 j = σ j := by
  unfold kq_G_commitTo
  exact ke_it (fun i a => by rw [kf_G_commitTo_1, kc_up_ne h]) _ _ _
def kq_V_begin (σ : kc_Sg) : kc_Sg := (kc_up (kc_up (kq_JA_fill (kq_JA_fill (kq_JA_fill σ 8 (nI 0) 8) 12 (nI 0) 8) 13 (nI 0) 8) 3 7 (nI 0)) 3 8 (nI 0))
set_option maxHeartbeats 4000000 in
set_option maxRecDepth 100000 in
theorem kk_V_begin (l : Launch) {V : kc_V} (hV : kc_G V) (σ : kc_Sg) : kc_Met l y_V_begin b_V_begin 1 none (kc_rm 2) V [.ref (kc_ad V 3)] σ none (kq_V_begin σ) := by
  refine kc_of (by decide) (Nat.le_of_ble_eq_true rfl) hV.ok (fun C _ hC => ?_)
  show kc_Go C V 1 (0, 0) (kc_E C V none (kq_V_begin σ)) σ 0 [(0, .ref (kc_ad V 3))] []
  refine kg_aload_n hC d_V_begin_0 0 rfl ?_
  refine kg_getr hC (ko_3 hV) rfl ui_V (j := 1) (by decide) tw_65 rfl d_V_begin_1 rfl ?_
  refine kg_iconst hC d_V_begin_4 kn_i_0 ?_
  refine kg_staticV hC (kk_JA_fill (kc_l C) hV σ 8 (nI 0) 8 (ka_8 hV)) cal_JA_fill tw_209 tw_208 rfl (by decide) (rest := []) rfl (Nat.le_of_ble_eq_true rfl) d_V_begin_5 ?_ (by decide)
  refine kg_aload_n hC d_V_begin_8 0 rfl ?_
  refine kg_getr hC (ko_3 hV) rfl ui_V (j := 5) (by decide) tw_69 rfl d_V_begin_9 rfl ?_
  refine kg_iconst hC d_V_begin_12 kn_i_0 ?_
  refine kg_staticV hC (kk_JA_fill (kc_l C) hV (kq_JA_fill σ 8 (nI 0) 8) 12 (nI 0) 8 (ka_12 hV)) cal_JA_fill tw_209 tw_208 rfl (by decide) (rest := []) rfl (Nat.le_of_ble_eq_true rfl) d_V_begin_13 ?_ (by decide)
  refine kg_at (pc' := 16) rfl ?_
  refine kg_aload_n hC d_V_begin_16 0 rfl ?_
  refine kg_getr hC (ko_3 hV) rfl ui_V (j := 6) (by decide) tw_70 rfl d_V_begin_17 rfl ?_
  refine kg_iconst hC d_V_begin_20 kn_i_0 ?_
  refine kg_staticV hC (kk_JA_fill (kc_l C) hV (kq_JA_fill (kq_JA_fill σ 8 (nI 0) 8) 12 (nI 0) 8) 13 (nI 0) 8 (ka_13 hV)) cal_JA_fill tw_209 tw_208 rfl (by decide) (rest := []) rfl (Nat.le_of_ble_eq_true rfl) d_V_begin_21 ?_ (by decide)
  refine kg_aload_n hC d_V_begin_24 0 rfl ?_
  refine kg_iconst hC d_V_begin_25 kn_i_0 ?_
  refine kg_puti hC (ko_3 hV) rfl ui_V ok_V nm_V (j := 7) (by decide) tw_71 rfl rfl rfl rfl d_V_begin_26 rfl ?_
  refine kg_aload_n hC d_V_begin_29 0 rfl ?_
  refine kg_at (pc' := 30) rfl ?_
  refine kg_iconst hC d_V_begin_30 kn_i_0 ?_
  refine kg_puti hC (ko_3 hV) rfl ui_V ok_V nm_V (j := 8) (by decide) tw_72 rfl rfl rfl rfl d_V_begin_31 rfl ?_
  exact kg_vret hC d_V_begin_34 (by rw [kq_V_begin])
def kp_V_hasDealt (σ : kc_Sg) (d : Nat) : Int32 := (kp_K_isAmong (σ 3 7) (nI d))
set_option maxHeartbeats 4000000 in
set_option maxRecDepth 100000 in
theorem kk_V_hasDealt (l : Launch) {V : kc_V} (hV : kc_G V) (σ : kc_Sg) (d : Nat) : kc_Met l y_V_hasDealt b_V_hasDealt 2 (some .boolean) (kc_rm 3) V [.ref (kc_ad V 3), .int (nI d)] σ (some (.int (kp_V_hasDealt σ d))) σ := by
  refine kc_of (by decide) (Nat.le_of_ble_eq_true rfl) hV.ok (fun C _ hC => ?_)
  show kc_Go C V 2 (0, 0) (kc_E C V (some (.int (kp_V_hasDealt σ d))) σ) σ 0 [(0, .ref (kc_ad V 3)), (1, .int (nI d))] []
  refine kg_aload_n hC d_V_hasDealt_0 0 rfl ?_
  refine kg_geti hC (ko_3 hV) rfl ui_V (j := 7) (by decide) tw_71 rfl d_V_hasDealt_1 rfl ?_
  refine kg_iload_n hC d_V_hasDealt_4 1 rfl ?_
  refine kg_staticNI hC (kk_K_isAmong (kc_l C) hV σ (σ 3 7) (nI d)) cal_K_isAmong tw_303 kx_V_49 rfl (by decide) (rest := []) rfl (Nat.le_of_ble_eq_true rfl) d_V_hasDealt_5 ?_ (by decide)
  exact kg_zret hC d_V_hasDealt_8 (kn_zb (kz_K_isAmong _ _)) (by rw [kp_V_hasDealt]) rfl
theorem kz_V_hasDealt (σ : kc_Sg) (d : Nat) : kp_V_hasDealt σ d = nI 0 ∨ kp_V_hasDealt σ d = nI 1 := by
  unfold kp_V_hasDealt
  (repeat' split) <;> first | exact Or.inl rfl | exact Or.inr rfl | exact kz_K_isAmong _ _
def kf_V_faulty_1 (σ : kc_Sg) (i1 : Nat) (a1 : Int32) : Int32 := if (σ 8 i1) = 0 then a1 else (a1 ||| (kp_K_bit (nI i1)))
def kp_V_faulty (σ : kc_Sg) : Int32 := (kc_it (kf_V_faulty_1 σ) 7 1 (nI 0))
set_option maxHeartbeats 4000000 in
set_option maxRecDepth 100000 in
theorem kk_V_faulty (l : Launch) {V : kc_V} (hV : kc_G V) (σ : kc_Sg) : kc_Met l y_V_faulty b_V_faulty 3 (some .int) (kc_rm 2) V [.ref (kc_ad V 3)] σ (some (.int (kp_V_faulty σ))) σ := by
  refine kc_of (by decide) (Nat.le_of_ble_eq_true rfl) hV.ok (fun C _ hC => ?_)
  show kc_Go C V 3 (0, 0) (kc_E C V (some (.int (kp_V_faulty σ))) σ) σ 0 [(0, .ref (kc_ad V 3))] []
  refine kg_iconst hC d_V_faulty_0 kn_i_0 ?_
  refine kg_istore_n hC d_V_faulty_1 [(1, .int (nI 0)), (0, .ref (kc_ad V 3))] rfl (by decide) ?_
  refine kg_iconst hC d_V_faulty_2 kn_i_1 ?_
  refine kg_istore_n hC d_V_faulty_3 [(2, .int (nI 1)), (1, .int (nI 0)), (0, .ref (kc_ad V 3))] rfl (by decide) ?_
  refine kc_loop (fun i1 a1 => kc_Go C V 3 (0, 0) (kc_E C V (some (.int (kp_V_faulty σ))) σ) σ 4 [(2, .int (nI i1)), (1, .int a1), (0, .ref (kc_ad V 3))] []) (kf_V_faulty_1 σ) 1 8 (fun i1 a1 ho1 hi1 hk1 => ?_) 7 1 (nI 0) (Nat.le_refl _) rfl ?_
  · refine kg_iload_n hC d_V_faulty_4 0 rfl ?_
    refine kg_bipush hC d_V_faulty_5 kn_b_7 ?_
    refine kg_icmp_gt hC d_V_faulty_7 (tgt := 32) rfl (fun q => absurd q (nI_nlt (by omega) (by decide))) (fun _ => ?_)
    refine kg_aload_n hC d_V_faulty_10 2 rfl ?_
    refine kg_getr hC (ko_3 hV) rfl ui_V (j := 1) (by decide) tw_65 rfl d_V_faulty_11 rfl ?_
    refine kg_iload_n hC d_V_faulty_14 0 rfl ?_
    refine kg_iald hC (ka_8 hV) (i := i1) rfl (by omega) d_V_faulty_15 ?_
    refine kg_if_eq hC d_V_faulty_16 (tgt := 26) rfl (fun h16 => ?_) (fun h16 => ?_)
    · refine kg_iinc hC d_V_faulty_26 0 rfl (kn_inc1 i1) [(2, .int (nI (i1 + 1))), (1, .int a1), (0, .ref (kc_ad V 3))] rfl (by decide) ?_
      refine kg_goto hC d_V_faulty_29 (tgt := 4) rfl ?_
      exact kg_to (P := fun zz => kc_Go C V 3 (0, 0) (kc_E C V (some (.int (kp_V_faulty σ))) σ) σ 4 [(2, .int (nI (i1 + 1))), (1, .int zz), (0, .ref (kc_ad V 3))] []) (b := a1) (a := (kf_V_faulty_1 σ) i1 a1) (by rw [kf_V_faulty_1, if_pos h16]) hk1
    · refine kg_iload_n hC d_V_faulty_19 1 rfl ?_
      refine kg_iload_n hC d_V_faulty_20 0 rfl ?_
      refine kg_staticNI hC (kk_K_bit (kc_l C) hV σ (nI i1)) cal_K_bit tw_306 kx_V_57 rfl (by decide) (rest := [.int a1]) rfl (Nat.le_of_ble_eq_true rfl) d_V_faulty_21 ?_ (by decide)
      refine kg_ior hC d_V_faulty_24 ?_
      refine kg_istore_n hC d_V_faulty_25 [(1, .int (a1 ||| (kp_K_bit (nI i1)))), (2, .int (nI i1)), (0, .ref (kc_ad V 3))] rfl (by decide) ?_
      refine kg_iinc hC d_V_faulty_26 1 rfl (kn_inc1 i1) [(2, .int (nI (i1 + 1))), (1, .int (a1 ||| (kp_K_bit (nI i1)))), (0, .ref (kc_ad V 3))] rfl (by decide) ?_
      refine kg_goto hC d_V_faulty_29 (tgt := 4) rfl ?_
      exact kg_to (P := fun zz => kc_Go C V 3 (0, 0) (kc_E C V (some (.int (kp_V_faulty σ))) σ) σ 4 [(2, .int (nI (i1 + 1))), (1, .int zz), (0, .ref (kc_ad V 3))] []) (b := (a1 ||| (kp_K_bit (nI i1)))) (a := (kf_V_faulty_1 σ) i1 a1) (by rw [kf_V_faulty_1, if_neg h16]) hk1
  generalize hg1 : (kc_it (kf_V_faulty_1 σ) 7 1 (nI 0)) = τ1
  refine kg_iload_n hC d_V_faulty_4 0 rfl ?_
  refine kg_bipush hC d_V_faulty_5 kn_b_7 ?_
  refine kg_icmp_gt hC d_V_faulty_7 (tgt := 32) rfl (fun _ => ?_) (fun q => absurd (nI_lt (by decide) (by decide)) q)
  refine kg_iload_n hC d_V_faulty_32 1 rfl ?_
  exact kg_iret hC d_V_faulty_33 (by rw [kp_V_faulty, hg1]) rfl
def kp_V_isOneTooMany (σ : kc_Sg) (d : Nat) (x : Int32) : Int32 := if x = 0 then (nI 0) else (if (kp_JI_bitCount ((kp_V_faulty σ) ||| (kp_K_bit (nI d)))) ≤ (nI 3) then (nI 0) else (nI 1))
set_option maxHeartbeats 4000000 in
set_option maxRecDepth 100000 in
theorem kk_V_isOneTooMany (l : Launch) {V : kc_V} (hV : kc_G V) (σ : kc_Sg) (d : Nat) (x : Int32) : kc_Met l y_V_isOneTooMany b_V_isOneTooMany 3 (some .boolean) (kc_rm 3) V [.ref (kc_ad V 3), .int (nI d), .int x] σ (some (.int (kp_V_isOneTooMany σ d x))) σ := by
  refine kc_of (by decide) (Nat.le_of_ble_eq_true rfl) hV.ok (fun C _ hC => ?_)
  show kc_Go C V 3 (0, 0) (kc_E C V (some (.int (kp_V_isOneTooMany σ d x))) σ) σ 0 [(0, .ref (kc_ad V 3)), (1, .int (nI d)), (2, .int x)] []
  refine kg_iload_n hC d_V_isOneTooMany_0 2 rfl ?_
  refine kg_if_eq hC d_V_isOneTooMany_1 (tgt := 24) rfl (fun h1 => ?_) (fun h1 => ?_)
  · refine kg_iconst hC d_V_isOneTooMany_24 kn_i_0 ?_
    exact kg_zret hC d_V_isOneTooMany_25 kn_z0 (by rw [kp_V_isOneTooMany, if_pos h1]) rfl
  · refine kg_aload_n hC d_V_isOneTooMany_4 0 rfl ?_
    refine kg_virtualI hC (kk_V_faulty (kc_l C) hV σ) cal_V_faulty tw_313 tw_314 tw_312 (ko_3 hV) rfl rfl (by decide) (rest := []) rfl (Nat.le_of_ble_eq_true rfl) d_V_isOneTooMany_5 ?_ (by decide)
    refine kg_iload_n hC d_V_isOneTooMany_8 1 rfl ?_
    refine kg_staticNI hC (kk_K_bit (kc_l C) hV σ (nI d)) cal_K_bit tw_306 kx_V_57 rfl (by decide) (rest := [.int (kp_V_faulty σ)]) rfl (Nat.le_of_ble_eq_true rfl) d_V_isOneTooMany_9 ?_ (by decide)
    refine kg_ior hC d_V_isOneTooMany_12 ?_
    refine kg_staticI hC (kk_JI_bitCount (kc_l C) hV σ ((kp_V_faulty σ) ||| (kp_K_bit (nI d)))) cal_JI_bitCount tw_318 tw_317 rfl (by decide) (rest := []) rfl (Nat.le_of_ble_eq_true rfl) d_V_isOneTooMany_13 ?_ (by decide)
    refine kg_iconst hC d_V_isOneTooMany_16 kn_i_3 ?_
    refine kg_icmp_le hC d_V_isOneTooMany_17 (tgt := 24) rfl (fun h17 => ?_) (fun h17 => ?_)
    · refine kg_iconst hC d_V_isOneTooMany_24 kn_i_0 ?_
      exact kg_zret hC d_V_isOneTooMany_25 kn_z0 (by rw [kp_V_isOneTooMany, if_neg h1, if_pos h17]) rfl
    · refine kg_iconst hC d_V_isOneTooMany_20 kn_i_1 ?_
      refine kg_goto hC d_V_isOneTooMany_21 (tgt := 25) rfl ?_
      exact kg_zret hC d_V_isOneTooMany_25 kn_z1 (by rw [kp_V_isOneTooMany, if_neg h1, if_neg h17]) rfl
theorem kz_V_isOneTooMany (σ : kc_Sg) (d : Nat) (x : Int32) : kp_V_isOneTooMany σ d x = nI 0 ∨ kp_V_isOneTooMany σ d x = nI 1 := by
  unfold kp_V_isOneTooMany
  (repeat' split) <;> first | exact Or.inl rfl | exact Or.inr rfl
def kq_V_turn (σ : kc_Sg) (d : Nat) (x : Int32) : kc_Sg := (kc_up σ 8 d x)
set_option maxHeartbeats 4000000 in
set_option maxRecDepth 100000 in
theorem kk_V_turn (l : Launch) {V : kc_V} (hV : kc_G V) (σ : kc_Sg) (d : Nat) (x : Int32) (hd : d < 8) : kc_Met l y_V_turn b_V_turn 3 none (kc_rm 1) V [.ref (kc_ad V 3), .int (nI d), .int x] σ none (kq_V_turn σ d x) := by
  refine kc_of (by decide) (Nat.le_of_ble_eq_true rfl) hV.ok (fun C _ hC => ?_)
  show kc_Go C V 3 (0, 0) (kc_E C V none (kq_V_turn σ d x)) σ 0 [(0, .ref (kc_ad V 3)), (1, .int (nI d)), (2, .int x)] []
  refine kg_aload_n hC d_V_turn_0 0 rfl ?_
  refine kg_getr hC (ko_3 hV) rfl ui_V (j := 1) (by decide) tw_65 rfl d_V_turn_1 rfl ?_
  refine kg_iload_n hC d_V_turn_4 1 rfl ?_
  refine kg_iload_n hC d_V_turn_5 2 rfl ?_
  refine kg_iast hC (ka_8 hV) (i := d) rfl hd d_V_turn_6 ?_
  exact kg_vret hC d_V_turn_7 (by rw [kq_V_turn])
def kp_V_isSilent (σ : kc_Sg) (d : Nat) : Int32 := if (σ 8 d) = (nI 1) then (nI 1) else (nI 0)
set_option maxHeartbeats 4000000 in
set_option maxRecDepth 100000 in
theorem kk_V_isSilent (l : Launch) {V : kc_V} (hV : kc_G V) (σ : kc_Sg) (d : Nat) (hd : d < 8) : kc_Met l y_V_isSilent b_V_isSilent 2 (some .boolean) (kc_rm 1) V [.ref (kc_ad V 3), .int (nI d)] σ (some (.int (kp_V_isSilent σ d))) σ := by
  refine kc_of (by decide) (Nat.le_of_ble_eq_true rfl) hV.ok (fun C _ hC => ?_)
  show kc_Go C V 2 (0, 0) (kc_E C V (some (.int (kp_V_isSilent σ d))) σ) σ 0 [(0, .ref (kc_ad V 3)), (1, .int (nI d))] []
  refine kg_aload_n hC d_V_isSilent_0 0 rfl ?_
  refine kg_getr hC (ko_3 hV) rfl ui_V (j := 1) (by decide) tw_65 rfl d_V_isSilent_1 rfl ?_
  refine kg_iload_n hC d_V_isSilent_4 1 rfl ?_
  refine kg_iald hC (ka_8 hV) (i := d) rfl hd d_V_isSilent_5 ?_
  refine kg_iconst hC d_V_isSilent_6 kn_i_1 ?_
  refine kg_icmp_ne hC d_V_isSilent_7 (tgt := 14) rfl (fun h7 => ?_) (fun h7 => ?_)
  · refine kg_iconst hC d_V_isSilent_14 kn_i_0 ?_
    exact kg_zret hC d_V_isSilent_15 kn_z0 (by rw [kp_V_isSilent, if_neg h7]) rfl
  · refine kg_iconst hC d_V_isSilent_10 kn_i_1 ?_
    refine kg_goto hC d_V_isSilent_11 (tgt := 15) rfl ?_
    exact kg_zret hC d_V_isSilent_15 kn_z1 (by rw [kp_V_isSilent, if_pos h7]) rfl
theorem kz_V_isSilent (σ : kc_Sg) (d : Nat) : kp_V_isSilent σ d = nI 0 ∨ kp_V_isSilent σ d = nI 1 := by
  unfold kp_V_isSilent
  (repeat' split) <;> first | exact Or.inl rfl | exact Or.inr rfl
def kq_V_passOver (σ : kc_Sg) (d : Nat) : kc_Sg := (kc_up σ 3 7 ((σ 3 7) ||| (kp_K_bit (nI d))))
set_option maxHeartbeats 4000000 in
set_option maxRecDepth 100000 in
theorem kk_V_passOver (l : Launch) {V : kc_V} (hV : kc_G V) (σ : kc_Sg) (d : Nat) : kc_Met l y_V_passOver b_V_passOver 2 none (kc_rm 2) V [.ref (kc_ad V 3), .int (nI d)] σ none (kq_V_passOver σ d) := by
  refine kc_of (by decide) (Nat.le_of_ble_eq_true rfl) hV.ok (fun C _ hC => ?_)
  show kc_Go C V 2 (0, 0) (kc_E C V none (kq_V_passOver σ d)) σ 0 [(0, .ref (kc_ad V 3)), (1, .int (nI d))] []
  refine kg_aload_n hC d_V_passOver_0 0 rfl ?_
  refine kg_dup hC d_V_passOver_1 rfl ?_
  refine kg_geti hC (ko_3 hV) rfl ui_V (j := 7) (by decide) tw_71 rfl d_V_passOver_2 rfl ?_
  refine kg_iload_n hC d_V_passOver_5 1 rfl ?_
  refine kg_staticNI hC (kk_K_bit (kc_l C) hV σ (nI d)) cal_K_bit tw_306 kx_V_57 rfl (by decide) (rest := [.int (σ 3 7), .ref (kc_ad V 3)]) rfl (Nat.le_of_ble_eq_true rfl) d_V_passOver_6 ?_ (by decide)
  refine kg_ior hC d_V_passOver_9 ?_
  refine kg_puti hC (ko_3 hV) rfl ui_V ok_V nm_V (j := 7) (by decide) tw_71 rfl rfl rfl rfl d_V_passOver_10 rfl ?_
  exact kg_vret hC d_V_passOver_13 (by rw [kq_V_passOver])
def kp_V_rightShare (σ : kc_Sg) (d : Nat) (k : Nat) : Int32 := (kp_G_valueAt σ (nI k) (14 + d))
set_option maxHeartbeats 4000000 in
set_option maxRecDepth 100000 in
theorem kk_V_rightShare (l : Launch) {V : kc_V} (hV : kc_G V) (σ : kc_Sg) (d : Nat) (k : Nat) (hq : ¬ σ 1 1 = 0) (hd : d < 8) : kc_Met l y_V_rightShare b_V_rightShare 3 (some .int) (kc_rm 3) V [.ref (kc_ad V 3), .int (nI d), .int (nI k)] σ (some (.int (kp_V_rightShare σ d k))) σ := by
  refine kc_of (by decide) (Nat.le_of_ble_eq_true rfl) hV.ok (fun C _ hC => ?_)
  show kc_Go C V 3 (0, 0) (kc_E C V (some (.int (kp_V_rightShare σ d k))) σ) σ 0 [(0, .ref (kc_ad V 3)), (1, .int (nI d)), (2, .int (nI k))] []
  refine kg_aload_n hC d_V_rightShare_0 0 rfl ?_
  refine kg_getr hC (ko_3 hV) rfl ui_V (j := 0) (by decide) tw_64 rfl d_V_rightShare_1 rfl ?_
  refine kg_iload_n hC d_V_rightShare_4 2 rfl ?_
  refine kg_aload_n hC d_V_rightShare_5 0 rfl ?_
  refine kg_getr hC (ko_3 hV) rfl ui_V (j := 2) (by decide) tw_66 rfl d_V_rightShare_6 rfl ?_
  refine kg_iload_n hC d_V_rightShare_9 1 rfl ?_
  refine kg_aald hC (ka_9 hV) (i := d) rfl hd d_V_rightShare_10 ?_
  refine kg_virtualI hC (kk_G_valueAt (kc_l C) hV σ (nI k) (14 + d) hq (ka_14 hV hd)) cal_G_valueAt tw_256 tw_257 tw_371 (ko_1 hV) rfl rfl (by decide) (rest := []) rfl (Nat.le_of_ble_eq_true rfl) d_V_rightShare_11 ?_ (by decide)
  refine kg_at (pc' := 14) rfl ?_
  exact kg_iret hC d_V_rightShare_14 (by rw [kp_V_rightShare]) rfl
def kp_V_isCheated (σ : kc_Sg) (d : Nat) (k : Nat) : Int32 := if (nI k) = ((kc_rem (nI d) (nI 7)) + (nI 1)) then (if (σ 8 d) = (nI 2) then (nI 1) else (if (σ 8 d) = (nI 5) then (nI 1) else (if (σ 8 d) = (nI 6) then (nI 1) else (nI 0)))) else (nI 0)
set_option maxHeartbeats 4000000 in
set_option maxRecDepth 100000 in
theorem kk_V_isCheated (l : Launch) {V : kc_V} (hV : kc_G V) (σ : kc_Sg) (d : Nat) (k : Nat) (hd : d < 8) : kc_Met l y_V_isCheated b_V_isCheated 4 (some .boolean) (kc_rm 1) V [.ref (kc_ad V 3), .int (nI d), .int (nI k)] σ (some (.int (kp_V_isCheated σ d k))) σ := by
  refine kc_of (by decide) (Nat.le_of_ble_eq_true rfl) hV.ok (fun C _ hC => ?_)
  show kc_Go C V 4 (0, 0) (kc_E C V (some (.int (kp_V_isCheated σ d k))) σ) σ 0 [(0, .ref (kc_ad V 3)), (1, .int (nI d)), (2, .int (nI k))] []
  refine kg_aload_n hC d_V_isCheated_0 0 rfl ?_
  refine kg_getr hC (ko_3 hV) rfl ui_V (j := 1) (by decide) tw_65 rfl d_V_isCheated_1 rfl ?_
  refine kg_iload_n hC d_V_isCheated_4 1 rfl ?_
  refine kg_iald hC (ka_8 hV) (i := d) rfl hd d_V_isCheated_5 ?_
  refine kg_istore_n hC d_V_isCheated_6 [(3, .int (σ 8 d)), (0, .ref (kc_ad V 3)), (1, .int (nI d)), (2, .int (nI k))] rfl (by decide) ?_
  refine kg_iload_n hC d_V_isCheated_7 3 rfl ?_
  refine kg_iload_n hC d_V_isCheated_8 2 rfl ?_
  refine kg_bipush hC d_V_isCheated_9 kn_b_7 ?_
  refine kg_at (pc' := 11) rfl ?_
  refine kg_irem hC d_V_isCheated_11 (by decide) ?_
  refine kg_iconst hC d_V_isCheated_12 kn_i_1 ?_
  refine kg_iadd hC d_V_isCheated_13 ?_
  refine kg_icmp_ne hC d_V_isCheated_14 (tgt := 37) rfl (fun h14 => ?_) (fun h14 => ?_)
  · refine kg_iconst hC d_V_isCheated_37 kn_i_0 ?_
    exact kg_zret hC d_V_isCheated_38 kn_z0 (by rw [kp_V_isCheated, if_neg h14]) rfl
  · refine kg_iload_n hC d_V_isCheated_17 0 rfl ?_
    refine kg_iconst hC d_V_isCheated_18 kn_i_2 ?_
    refine kg_icmp_eq hC d_V_isCheated_19 (tgt := 33) rfl (fun h19 => ?_) (fun h19 => ?_)
    · refine kg_iconst hC d_V_isCheated_33 kn_i_1 ?_
      refine kg_goto hC d_V_isCheated_34 (tgt := 38) rfl ?_
      exact kg_zret hC d_V_isCheated_38 kn_z1 (by rw [kp_V_isCheated, if_pos h14, if_pos h19]) rfl
    · refine kg_iload_n hC d_V_isCheated_22 0 rfl ?_
      refine kg_iconst hC d_V_isCheated_23 kn_i_5 ?_
      refine kg_icmp_eq hC d_V_isCheated_24 (tgt := 33) rfl (fun h24 => ?_) (fun h24 => ?_)
      · refine kg_iconst hC d_V_isCheated_33 kn_i_1 ?_
        refine kg_goto hC d_V_isCheated_34 (tgt := 38) rfl ?_
        exact kg_zret hC d_V_isCheated_38 kn_z1 (by rw [kp_V_isCheated, if_pos h14, if_neg h19, if_pos h24]) rfl
      · refine kg_iload_n hC d_V_isCheated_27 0 rfl ?_
        refine kg_bipush hC d_V_isCheated_28 kn_b_6 ?_
        refine kg_icmp_ne hC d_V_isCheated_30 (tgt := 37) rfl (fun h30 => ?_) (fun h30 => ?_)
        · refine kg_iconst hC d_V_isCheated_37 kn_i_0 ?_
          exact kg_zret hC d_V_isCheated_38 kn_z0 (by rw [kp_V_isCheated, if_pos h14, if_neg h19, if_neg h24, if_neg h30]) rfl
        · refine kg_iconst hC d_V_isCheated_33 kn_i_1 ?_
          refine kg_goto hC d_V_isCheated_34 (tgt := 38) rfl ?_
          exact kg_zret hC d_V_isCheated_38 kn_z1 (by rw [kp_V_isCheated, if_pos h14, if_neg h19, if_neg h24, if_pos h30]) rfl
theorem kz_V_isCheated (σ : kc_Sg) (d : Nat) (k : Nat) : kp_V_isCheated σ d k = nI 0 ∨ kp_V_isCheated σ d k = nI 1 := by
  unfold kp_V_isCheated
  (repeat' split) <;> first | exact Or.inl rfl | exact Or.inr rfl
def kp_V_dealers (σ : kc_Sg) : Int32 := (σ 3 8)
set_option maxHeartbeats 4000000 in
set_option maxRecDepth 100000 in
theorem kk_V_dealers (l : Launch) {V : kc_V} (hV : kc_G V) (σ : kc_Sg) : kc_Met l y_V_dealers b_V_dealers 1 (some .int) (kc_rm 1) V [.ref (kc_ad V 3)] σ (some (.int (kp_V_dealers σ))) σ := by
  refine kc_of (by decide) (Nat.le_of_ble_eq_true rfl) hV.ok (fun C _ hC => ?_)
  show kc_Go C V 1 (0, 0) (kc_E C V (some (.int (kp_V_dealers σ))) σ) σ 0 [(0, .ref (kc_ad V 3))] []
  refine kg_aload_n hC d_V_dealers_0 0 rfl ?_
  refine kg_geti hC (ko_3 hV) rfl ui_V (j := 8) (by decide) tw_72 rfl d_V_dealers_1 rfl ?_
  exact kg_iret hC d_V_dealers_4 (by rw [kp_V_dealers]) rfl
set_option maxHeartbeats 4000000 in
set_option maxRecDepth 100000 in
theorem kk_V_commitmentsOf (l : Launch) {V : kc_V} (hV : kc_G V) (σ : kc_Sg) (d : Nat) (hd : d < 8) : kc_Met l y_V_commitmentsOf b_V_commitmentsOf 2 (some (.array .int)) (kc_rm 1) V [.ref (kc_ad V 3), .int (nI d)] σ (some (.ref (kc_ad V (22 + d)))) σ := by
  refine kc_of (by decide) (Nat.le_of_ble_eq_true rfl) hV.ok (fun C _ hC => ?_)
  show kc_Go C V 2 (0, 0) (kc_E C V (some (.ref (kc_ad V (22 + d)))) σ) σ 0 [(0, .ref (kc_ad V 3)), (1, .int (nI d))] []
  refine kg_aload_n hC d_V_commitmentsOf_0 0 rfl ?_
  refine kg_getr hC (ko_3 hV) rfl ui_V (j := 3) (by decide) tw_67 rfl d_V_commitmentsOf_1 rfl ?_
  refine kg_iload_n hC d_V_commitmentsOf_4 1 rfl ?_
  refine kg_aald hC (ka_10 hV) (i := d) rfl hd d_V_commitmentsOf_5 ?_
  exact kg_aret hC (Or.inr ⟨_, rfl⟩) d_V_commitmentsOf_6 rfl rfl
def kp_V_hadFrom (σ : kc_Sg) (d : Nat) (k : Nat) : Int32 := (σ (30 + d) k)
set_option maxHeartbeats 4000000 in
set_option maxRecDepth 100000 in
theorem kk_V_hadFrom (l : Launch) {V : kc_V} (hV : kc_G V) (σ : kc_Sg) (d : Nat) (k : Nat) (hd : d < 8) (hk : k < 8) : kc_Met l y_V_hadFrom b_V_hadFrom 3 (some .int) (kc_rm 1) V [.ref (kc_ad V 3), .int (nI d), .int (nI k)] σ (some (.int (kp_V_hadFrom σ d k))) σ := by
  refine kc_of (by decide) (Nat.le_of_ble_eq_true rfl) hV.ok (fun C _ hC => ?_)
  show kc_Go C V 3 (0, 0) (kc_E C V (some (.int (kp_V_hadFrom σ d k))) σ) σ 0 [(0, .ref (kc_ad V 3)), (1, .int (nI d)), (2, .int (nI k))] []
  refine kg_aload_n hC d_V_hadFrom_0 0 rfl ?_
  refine kg_getr hC (ko_3 hV) rfl ui_V (j := 4) (by decide) tw_68 rfl d_V_hadFrom_1 rfl ?_
  refine kg_iload_n hC d_V_hadFrom_4 1 rfl ?_
  refine kg_aald hC (ka_11 hV) (i := d) rfl hd d_V_hadFrom_5 ?_
  refine kg_iload_n hC d_V_hadFrom_6 2 rfl ?_
  refine kg_iald hC (ka_30 hV hd) (i := k) rfl hk d_V_hadFrom_7 ?_
  exact kg_iret hC d_V_hadFrom_8 (by rw [kp_V_hadFrom]) rfl
def kp_V_objectsTo (σ : kc_Sg) (k : Nat) (d : Nat) : Int32 := if (σ 8 k) = (nI 4) then (nI 1) else (if (kp_G_agree σ (nI k) (22 + d) (σ (30 + d) k)) = 0 then (nI 1) else (nI 0))
set_option maxHeartbeats 4000000 in
set_option maxRecDepth 100000 in
theorem kk_V_objectsTo (l : Launch) {V : kc_V} (hV : kc_G V) (σ : kc_Sg) (k : Nat) (d : Nat) (hp : ¬ σ 1 0 = 0) (hk : k < 8) (hd : d < 8) : kc_Met l y_V_objectsTo b_V_objectsTo 3 (some .boolean) (kc_rm 4) V [.ref (kc_ad V 3), .int (nI k), .int (nI d)] σ (some (.int (kp_V_objectsTo σ k d))) σ := by
  refine kc_of (by decide) (Nat.le_of_ble_eq_true rfl) hV.ok (fun C _ hC => ?_)
  show kc_Go C V 3 (0, 0) (kc_E C V (some (.int (kp_V_objectsTo σ k d))) σ) σ 0 [(0, .ref (kc_ad V 3)), (1, .int (nI k)), (2, .int (nI d))] []
  refine kg_aload_n hC d_V_objectsTo_0 0 rfl ?_
  refine kg_getr hC (ko_3 hV) rfl ui_V (j := 1) (by decide) tw_65 rfl d_V_objectsTo_1 rfl ?_
  refine kg_iload_n hC d_V_objectsTo_4 1 rfl ?_
  refine kg_iald hC (ka_8 hV) (i := k) rfl hk d_V_objectsTo_5 ?_
  refine kg_iconst hC d_V_objectsTo_6 kn_i_4 ?_
  refine kg_icmp_eq hC d_V_objectsTo_7 (tgt := 35) rfl (fun h7 => ?_) (fun h7 => ?_)
  · refine kg_iconst hC d_V_objectsTo_35 kn_i_1 ?_
    refine kg_goto hC d_V_objectsTo_36 (tgt := 40) rfl ?_
    exact kg_zret hC d_V_objectsTo_40 kn_z1 (by rw [kp_V_objectsTo, if_pos h7]) rfl
  · refine kg_aload_n hC d_V_objectsTo_10 0 rfl ?_
    refine kg_getr hC (ko_3 hV) rfl ui_V (j := 0) (by decide) tw_64 rfl d_V_objectsTo_11 rfl ?_
    refine kg_iload_n hC d_V_objectsTo_14 1 rfl ?_
    refine kg_aload_n hC d_V_objectsTo_15 0 rfl ?_
    refine kg_getr hC (ko_3 hV) rfl ui_V (j := 3) (by decide) tw_67 rfl d_V_objectsTo_16 rfl ?_
    refine kg_iload_n hC d_V_objectsTo_19 2 rfl ?_
    refine kg_aald hC (ka_10 hV) (i := d) rfl hd d_V_objectsTo_20 ?_
    refine kg_aload_n hC d_V_objectsTo_21 0 rfl ?_
    refine kg_at (pc' := 22) rfl ?_
    refine kg_getr hC (ko_3 hV) rfl ui_V (j := 4) (by decide) tw_68 rfl d_V_objectsTo_22 rfl ?_
    refine kg_iload_n hC d_V_objectsTo_25 2 rfl ?_
    refine kg_aald hC (ka_11 hV) (i := d) rfl hd d_V_objectsTo_26 ?_
    refine kg_iload_n hC d_V_objectsTo_27 1 rfl ?_
    refine kg_iald hC (ka_30 hV hd) (i := k) rfl hk d_V_objectsTo_28 ?_
    refine kg_virtualI hC (kk_G_agree (kc_l C) hV σ (nI k) (22 + d) (σ (30 + d) k) hp (ka_22 hV hd)) cal_G_agree tw_408 tw_409 tw_407 (ko_1 hV) rfl rfl (by decide) (rest := []) rfl (Nat.le_of_ble_eq_true rfl) d_V_objectsTo_29 ?_ (by decide)
    refine kg_if_ne hC d_V_objectsTo_32 (tgt := 39) rfl (fun h32 => ?_) (fun h32 => ?_)
    · refine kg_iconst hC d_V_objectsTo_39 kn_i_0 ?_
      exact kg_zret hC d_V_objectsTo_40 kn_z0 (by rw [kp_V_objectsTo, if_neg h7, if_neg h32]) rfl
    · refine kg_iconst hC d_V_objectsTo_35 kn_i_1 ?_
      refine kg_goto hC d_V_objectsTo_36 (tgt := 40) rfl ?_
      exact kg_zret hC d_V_objectsTo_40 kn_z1 (by rw [kp_V_objectsTo, if_neg h7, if_pos h32]) rfl
theorem kz_V_objectsTo (σ : kc_Sg) (k : Nat) (d : Nat) : kp_V_objectsTo σ k d = nI 0 ∨ kp_V_objectsTo σ k d = nI 1 := by
  unfold kp_V_objectsTo
  (repeat' split) <;> first | exact Or.inl rfl | exact Or.inr rfl
def kf_V_accusedBy_1 (σ : kc_Sg) (k : Nat) (i1 : Nat) (a1 : Int32) : Int32 := if (kp_K_isAmong (σ 3 8) (nI i1)) = 0 then a1 else (if (kp_K_isAmong (σ 12 i1) (nI k)) = 0 then (if (kp_V_objectsTo σ k i1) = 0 then a1 else (a1 ||| (kp_K_bit (nI i1)))) else a1)
def kp_V_accusedBy (σ : kc_Sg) (k : Nat) : Int32 := (kc_it (kf_V_accusedBy_1 σ k) 7 1 (nI 0))
set_option maxHeartbeats 4000000 in
set_option maxRecDepth 100000 in
theorem kk_V_accusedBy (l : Launch) {V : kc_V} (hV : kc_G V) (σ : kc_Sg) (k : Nat) (hp : ¬ σ 1 0 = 0) (hk : k < 8) : kc_Met l y_V_accusedBy b_V_accusedBy 4 (some .int) (kc_rm 5) V [.ref (kc_ad V 3), .int (nI k)] σ (some (.int (kp_V_accusedBy σ k))) σ := by
  refine kc_of (by decide) (Nat.le_of_ble_eq_true rfl) hV.ok (fun C _ hC => ?_)
  show kc_Go C V 4 (0, 0) (kc_E C V (some (.int (kp_V_accusedBy σ k))) σ) σ 0 [(0, .ref (kc_ad V 3)), (1, .int (nI k))] []
  refine kg_iconst hC d_V_accusedBy_0 kn_i_0 ?_
  refine kg_istore_n hC d_V_accusedBy_1 [(2, .int (nI 0)), (0, .ref (kc_ad V 3)), (1, .int (nI k))] rfl (by decide) ?_
  refine kg_iconst hC d_V_accusedBy_2 kn_i_1 ?_
  refine kg_istore_n hC d_V_accusedBy_3 [(3, .int (nI 1)), (2, .int (nI 0)), (0, .ref (kc_ad V 3)), (1, .int (nI k))] rfl (by decide) ?_
  refine kc_loop (fun i1 a1 => kc_Go C V 4 (0, 0) (kc_E C V (some (.int (kp_V_accusedBy σ k))) σ) σ 4 [(3, .int (nI i1)), (2, .int a1), (0, .ref (kc_ad V 3)), (1, .int (nI k))] []) (kf_V_accusedBy_1 σ k) 1 8 (fun i1 a1 ho1 hi1 hk1 => ?_) 7 1 (nI 0) (Nat.le_refl _) rfl ?_
  · refine kg_iload_n hC d_V_accusedBy_4 0 rfl ?_
    refine kg_bipush hC d_V_accusedBy_5 kn_b_7 ?_
    refine kg_icmp_gt hC d_V_accusedBy_7 (tgt := 56) rfl (fun q => absurd q (nI_nlt (by omega) (by decide))) (fun _ => ?_)
    refine kg_aload_n hC d_V_accusedBy_10 2 rfl ?_
    refine kg_geti hC (ko_3 hV) rfl ui_V (j := 8) (by decide) tw_72 rfl d_V_accusedBy_11 rfl ?_
    refine kg_iload_n hC d_V_accusedBy_14 0 rfl ?_
    refine kg_staticNI hC (kk_K_isAmong (kc_l C) hV σ (σ 3 8) (nI i1)) cal_K_isAmong tw_303 kx_V_49 rfl (by decide) (rest := []) rfl (Nat.le_of_ble_eq_true rfl) d_V_accusedBy_15 ?_ (by decide)
    refine kg_if_eq hC d_V_accusedBy_18 (tgt := 50) rfl (fun h18 => ?_) (fun h18 => ?_)
    · refine kg_iinc hC d_V_accusedBy_50 0 rfl (kn_inc1 i1) [(3, .int (nI (i1 + 1))), (2, .int a1), (0, .ref (kc_ad V 3)), (1, .int (nI k))] rfl (by decide) ?_
      refine kg_goto hC d_V_accusedBy_53 (tgt := 4) rfl ?_
      exact kg_to (P := fun zz => kc_Go C V 4 (0, 0) (kc_E C V (some (.int (kp_V_accusedBy σ k))) σ) σ 4 [(3, .int (nI (i1 + 1))), (2, .int zz), (0, .ref (kc_ad V 3)), (1, .int (nI k))] []) (b := a1) (a := (kf_V_accusedBy_1 σ k) i1 a1) (by rw [kf_V_accusedBy_1, if_pos h18]) hk1
    · refine kg_aload_n hC d_V_accusedBy_21 2 rfl ?_
      refine kg_getr hC (ko_3 hV) rfl ui_V (j := 5) (by decide) tw_69 rfl d_V_accusedBy_22 rfl ?_
      refine kg_iload_n hC d_V_accusedBy_25 0 rfl ?_
      refine kg_iald hC (ka_12 hV) (i := i1) rfl (by omega) d_V_accusedBy_26 ?_
      refine kg_iload_n hC d_V_accusedBy_27 3 rfl ?_
      refine kg_staticNI hC (kk_K_isAmong (kc_l C) hV σ (σ 12 i1) (nI k)) cal_K_isAmong tw_303 kx_V_49 rfl (by decide) (rest := []) rfl (Nat.le_of_ble_eq_true rfl) d_V_accusedBy_28 ?_ (by decide)
      refine kg_if_ne hC d_V_accusedBy_31 (tgt := 50) rfl (fun h31 => ?_) (fun h31 => ?_)
      · refine kg_iinc hC d_V_accusedBy_50 0 rfl (kn_inc1 i1) [(3, .int (nI (i1 + 1))), (2, .int a1), (0, .ref (kc_ad V 3)), (1, .int (nI k))] rfl (by decide) ?_
        refine kg_goto hC d_V_accusedBy_53 (tgt := 4) rfl ?_
        exact kg_to (P := fun zz => kc_Go C V 4 (0, 0) (kc_E C V (some (.int (kp_V_accusedBy σ k))) σ) σ 4 [(3, .int (nI (i1 + 1))), (2, .int zz), (0, .ref (kc_ad V 3)), (1, .int (nI k))] []) (b := a1) (a := (kf_V_accusedBy_1 σ k) i1 a1) (by rw [kf_V_accusedBy_1, if_neg h18, if_neg h31]) hk1
      · refine kg_aload_n hC d_V_accusedBy_34 2 rfl ?_
        refine kg_iload_n hC d_V_accusedBy_35 3 rfl ?_
        refine kg_iload_n hC d_V_accusedBy_36 0 rfl ?_
        refine kg_virtualI hC (kk_V_objectsTo (kc_l C) hV σ k i1 hp hk (by omega)) cal_V_objectsTo tw_405 ts_V_objectsTo tw_403 (ko_3 hV) rfl rfl (by decide) (rest := []) rfl (Nat.le_of_ble_eq_true rfl) d_V_accusedBy_37 ?_ (by decide)
        refine kg_if_eq hC d_V_accusedBy_40 (tgt := 50) rfl (fun h40 => ?_) (fun h40 => ?_)
        · refine kg_iinc hC d_V_accusedBy_50 0 rfl (kn_inc1 i1) [(3, .int (nI (i1 + 1))), (2, .int a1), (0, .ref (kc_ad V 3)), (1, .int (nI k))] rfl (by decide) ?_
          refine kg_goto hC d_V_accusedBy_53 (tgt := 4) rfl ?_
          exact kg_to (P := fun zz => kc_Go C V 4 (0, 0) (kc_E C V (some (.int (kp_V_accusedBy σ k))) σ) σ 4 [(3, .int (nI (i1 + 1))), (2, .int zz), (0, .ref (kc_ad V 3)), (1, .int (nI k))] []) (b := a1) (a := (kf_V_accusedBy_1 σ k) i1 a1) (by rw [kf_V_accusedBy_1, if_neg h18, if_pos h31, if_pos h40]) hk1
        · refine kg_iload_n hC d_V_accusedBy_43 1 rfl ?_
          refine kg_iload_n hC d_V_accusedBy_44 0 rfl ?_
          refine kg_staticNI hC (kk_K_bit (kc_l C) hV σ (nI i1)) cal_K_bit tw_306 kx_V_57 rfl (by decide) (rest := [.int a1]) rfl (Nat.le_of_ble_eq_true rfl) d_V_accusedBy_45 ?_ (by decide)
          refine kg_ior hC d_V_accusedBy_48 ?_
          refine kg_istore_n hC d_V_accusedBy_49 [(2, .int (a1 ||| (kp_K_bit (nI i1)))), (3, .int (nI i1)), (0, .ref (kc_ad V 3)), (1, .int (nI k))] rfl (by decide) ?_
          refine kg_iinc hC d_V_accusedBy_50 1 rfl (kn_inc1 i1) [(3, .int (nI (i1 + 1))), (2, .int (a1 ||| (kp_K_bit (nI i1)))), (0, .ref (kc_ad V 3)), (1, .int (nI k))] rfl (by decide) ?_
          refine kg_goto hC d_V_accusedBy_53 (tgt := 4) rfl ?_
          exact kg_to (P := fun zz => kc_Go C V 4 (0, 0) (kc_E C V (some (.int (kp_V_accusedBy σ k))) σ) σ 4 [(3, .int (nI (i1 + 1))), (2, .int zz), (0, .ref (kc_ad V 3)), (1, .int (nI k))] []) (b := (a1 ||| (kp_K_bit (nI i1)))) (a := (kf_V_accusedBy_1 σ k) i1 a1) (by rw [kf_V_accusedBy_1, if_neg h18, if_pos h31, if_neg h40]) hk1
  generalize hg1 : (kc_it (kf_V_accusedBy_1 σ k) 7 1 (nI 0)) = τ1
  refine kg_iload_n hC d_V_accusedBy_4 0 rfl ?_
  refine kg_bipush hC d_V_accusedBy_5 kn_b_7 ?_
  refine kg_icmp_gt hC d_V_accusedBy_7 (tgt := 56) rfl (fun _ => ?_) (fun q => absurd (nI_lt (by decide) (by decide)) q)
  refine kg_iload_n hC d_V_accusedBy_56 1 rfl ?_
  exact kg_iret hC d_V_accusedBy_57 (by rw [kp_V_accusedBy, hg1]) rfl
def kq_V_complain (σ : kc_Sg) (k : Nat) (d : Nat) : kc_Sg := (kc_up σ 12 d ((σ 12 d) ||| (kp_K_bit (nI k))))
set_option maxHeartbeats 4000000 in
set_option maxRecDepth 100000 in
theorem kk_V_complain (l : Launch) {V : kc_V} (hV : kc_G V) (σ : kc_Sg) (k : Nat) (d : Nat) (hd : d < 8) : kc_Met l y_V_complain b_V_complain 3 none (kc_rm 2) V [.ref (kc_ad V 3), .int (nI k), .int (nI d)] σ none (kq_V_complain σ k d) := by
  refine kc_of (by decide) (Nat.le_of_ble_eq_true rfl) hV.ok (fun C _ hC => ?_)
  show kc_Go C V 3 (0, 0) (kc_E C V none (kq_V_complain σ k d)) σ 0 [(0, .ref (kc_ad V 3)), (1, .int (nI k)), (2, .int (nI d))] []
  refine kg_aload_n hC d_V_complain_0 0 rfl ?_
  refine kg_getr hC (ko_3 hV) rfl ui_V (j := 5) (by decide) tw_69 rfl d_V_complain_1 rfl ?_
  refine kg_iload_n hC d_V_complain_4 2 rfl ?_
  refine kg_dup2 hC d_V_complain_5 rfl rfl ?_
  refine kg_iald hC (ka_12 hV) (i := d) rfl hd d_V_complain_6 ?_
  refine kg_iload_n hC d_V_complain_7 1 rfl ?_
  refine kg_staticNI hC (kk_K_bit (kc_l C) hV σ (nI k)) cal_K_bit tw_306 kx_V_57 rfl (by decide) (rest := [.int (σ 12 d), .int (nI d), .ref (kc_ad V 12)]) rfl (Nat.le_of_ble_eq_true rfl) d_V_complain_8 ?_ (by decide)
  refine kg_ior hC d_V_complain_11 ?_
  refine kg_at (pc' := 12) rfl ?_
  refine kg_iast hC (ka_12 hV) (i := d) rfl hd d_V_complain_12 ?_
  exact kg_vret hC d_V_complain_13 (by rw [kq_V_complain])
def kp_V_shownBy (σ : kc_Sg) (d : Nat) (k : Nat) : Int32 := if (σ 8 d) = (nI 6) then (-1) else (if (σ 8 d) = (nI 2) then (if (kp_V_isCheated σ d k) = 0 then (kp_V_rightShare σ d k) else (kp_G_addNumbers σ (kp_V_rightShare σ d k) (nI 1))) else (kp_V_rightShare σ d k))
set_option maxHeartbeats 4000000 in
set_option maxRecDepth 100000 in
theorem kk_V_shownBy (l : Launch) {V : kc_V} (hV : kc_G V) (σ : kc_Sg) (d : Nat) (k : Nat) (hq : ¬ σ 1 1 = 0) (hd : d < 8) : kc_Met l y_V_shownBy b_V_shownBy 5 (some .int) (kc_rm 4) V [.ref (kc_ad V 3), .int (nI d), .int (nI k)] σ (some (.int (kp_V_shownBy σ d k))) σ := by
  refine kc_of (by decide) (Nat.le_of_ble_eq_true rfl) hV.ok (fun C _ hC => ?_)
  show kc_Go C V 5 (0, 0) (kc_E C V (some (.int (kp_V_shownBy σ d k))) σ) σ 0 [(0, .ref (kc_ad V 3)), (1, .int (nI d)), (2, .int (nI k))] []
  refine kg_aload_n hC d_V_shownBy_0 0 rfl ?_
  refine kg_getr hC (ko_3 hV) rfl ui_V (j := 1) (by decide) tw_65 rfl d_V_shownBy_1 rfl ?_
  refine kg_iload_n hC d_V_shownBy_4 1 rfl ?_
  refine kg_iald hC (ka_8 hV) (i := d) rfl hd d_V_shownBy_5 ?_
  refine kg_bipush hC d_V_shownBy_6 kn_b_6 ?_
  refine kg_icmp_ne hC d_V_shownBy_8 (tgt := 13) rfl (fun h8 => ?_) (fun h8 => ?_)
  · refine kg_aload_n hC d_V_shownBy_13 0 rfl ?_
    refine kg_iload_n hC d_V_shownBy_14 1 rfl ?_
    refine kg_iload_n hC d_V_shownBy_15 2 rfl ?_
    refine kg_virtualI hC (kk_V_rightShare (kc_l C) hV σ d k hq hd) cal_V_rightShare tw_369 ts_V_rightShare tw_367 (ko_3 hV) rfl rfl (by decide) (rest := []) rfl (Nat.le_of_ble_eq_true rfl) d_V_shownBy_16 ?_ (by decide)
    refine kg_istore_n hC d_V_shownBy_19 [(3, .int (kp_V_rightShare σ d k)), (0, .ref (kc_ad V 3)), (1, .int (nI d)), (2, .int (nI k))] rfl (by decide) ?_
    refine kg_aload_n hC d_V_shownBy_20 1 rfl ?_
    refine kg_getr hC (ko_3 hV) rfl ui_V (j := 1) (by decide) tw_65 rfl d_V_shownBy_21 rfl ?_
    refine kg_iload_n hC d_V_shownBy_24 2 rfl ?_
    refine kg_at (pc' := 25) rfl ?_
    refine kg_iald hC (ka_8 hV) (i := d) rfl hd d_V_shownBy_25 ?_
    refine kg_iconst hC d_V_shownBy_26 kn_i_2 ?_
    refine kg_icmp_ne hC d_V_shownBy_27 (tgt := 43) rfl (fun h27 => ?_) (fun h27 => ?_)
    · refine kg_iconst hC d_V_shownBy_43 kn_i_0 ?_
      refine kg_istore hC d_V_shownBy_44 [(4, .int (nI 0)), (3, .int (kp_V_rightShare σ d k)), (0, .ref (kc_ad V 3)), (1, .int (nI d)), (2, .int (nI k))] rfl (by decide) ?_
      refine kg_iload hC d_V_shownBy_46 0 rfl ?_
      refine kg_if_eq hC d_V_shownBy_48 (tgt := 63) rfl (fun _ => ?_) (fun q => absurd (by decide) q)
      refine kg_iload_n hC d_V_shownBy_63 1 rfl ?_
      exact kg_iret hC d_V_shownBy_64 (by rw [kp_V_shownBy, if_neg h8, if_neg h27]) rfl
    · refine kg_aload_n hC d_V_shownBy_30 1 rfl ?_
      refine kg_iload_n hC d_V_shownBy_31 2 rfl ?_
      refine kg_iload_n hC d_V_shownBy_32 3 rfl ?_
      refine kg_virtualI hC (kk_V_isCheated (kc_l C) hV σ d k hd) cal_V_isCheated tw_374 ts_V_isCheated tw_372 (ko_3 hV) rfl rfl (by decide) (rest := []) rfl (Nat.le_of_ble_eq_true rfl) d_V_shownBy_33 ?_ (by decide)
      refine kg_if_eq hC d_V_shownBy_36 (tgt := 43) rfl (fun h36 => ?_) (fun h36 => ?_)
      · refine kg_iconst hC d_V_shownBy_43 kn_i_0 ?_
        refine kg_istore hC d_V_shownBy_44 [(4, .int (nI 0)), (3, .int (kp_V_rightShare σ d k)), (0, .ref (kc_ad V 3)), (1, .int (nI d)), (2, .int (nI k))] rfl (by decide) ?_
        refine kg_iload hC d_V_shownBy_46 0 rfl ?_
        refine kg_if_eq hC d_V_shownBy_48 (tgt := 63) rfl (fun _ => ?_) (fun q => absurd (by decide) q)
        refine kg_iload_n hC d_V_shownBy_63 1 rfl ?_
        exact kg_iret hC d_V_shownBy_64 (by rw [kp_V_shownBy, if_neg h8, if_pos h27, if_pos h36]) rfl
      · refine kg_iconst hC d_V_shownBy_39 kn_i_1 ?_
        refine kg_goto hC d_V_shownBy_40 (tgt := 44) rfl ?_
        refine kg_istore hC d_V_shownBy_44 [(4, .int (nI 1)), (3, .int (kp_V_rightShare σ d k)), (0, .ref (kc_ad V 3)), (1, .int (nI d)), (2, .int (nI k))] rfl (by decide) ?_
        refine kg_iload hC d_V_shownBy_46 0 rfl ?_
        refine kg_if_eq hC d_V_shownBy_48 (tgt := 63) rfl (fun q => absurd q (by decide)) (fun _ => ?_)
        refine kg_aload_n hC d_V_shownBy_51 2 rfl ?_
        refine kg_getr hC (ko_3 hV) rfl ui_V (j := 0) (by decide) tw_64 rfl d_V_shownBy_52 rfl ?_
        refine kg_iload_n hC d_V_shownBy_55 1 rfl ?_
        refine kg_at (pc' := 56) rfl ?_
        refine kg_iconst hC d_V_shownBy_56 kn_i_1 ?_
        refine kg_virtualI hC (kk_G_addNumbers (kc_l C) hV σ (kp_V_rightShare σ d k) (nI 1) hq) cal_G_addNumbers tw_264 tw_265 tw_376 (ko_1 hV) rfl rfl (by decide) (rest := []) rfl (Nat.le_of_ble_eq_true rfl) d_V_shownBy_57 ?_ (by decide)
        refine kg_goto hC d_V_shownBy_60 (tgt := 64) rfl ?_
        exact kg_iret hC d_V_shownBy_64 (by rw [kp_V_shownBy, if_neg h8, if_pos h27, if_neg h36]) rfl
  · refine kg_iconst hC d_V_shownBy_11 kn_i_m1 ?_
    exact kg_iret hC d_V_shownBy_12 (by rw [kp_V_shownBy, if_pos h8]) rfl
def kp_V_settle (σ : kc_Sg) (d : Nat) (k : Nat) (v : Int32) : Int32 := if (kp_K_isAmong ((σ 12 d) &&& ((σ 13 d) ^^^ (-1))) (nI k)) = 0 then (nI 0) else (if (kp_G_agree σ (nI k) (22 + d) v) = 0 then (nI 0) else (nI 1))
def kq_V_settle (σ : kc_Sg) (d : Nat) (k : Nat) (v : Int32) : kc_Sg := if (kp_K_isAmong ((σ 12 d) &&& ((σ 13 d) ^^^ (-1))) (nI k)) = 0 then σ else (if (kp_G_agree σ (nI k) (22 + d) v) = 0 then σ else (kc_up (kc_up σ 13 d ((σ 13 d) ||| (kp_K_bit (nI k)))) (30 + d) k v))
set_option maxHeartbeats 4000000 in
set_option maxRecDepth 100000 in
theorem kk_V_settle (l : Launch) {V : kc_V} (hV : kc_G V) (σ : kc_Sg) (d : Nat) (k : Nat) (v : Int32) (hp : ¬ σ 1 0 = 0) (hd : d < 8) (hk : k < 8) : kc_Met l y_V_settle b_V_settle 5 (some .boolean) (kc_rm 4) V [.ref (kc_ad V 3), .int (nI d), .int (nI k), .int v] σ (some (.int (kp_V_settle σ d k v))) (kq_V_settle σ d k v) := by
  refine kc_of (by decide) (Nat.le_of_ble_eq_true rfl) hV.ok (fun C _ hC => ?_)
  show kc_Go C V 5 (0, 0) (kc_E C V (some (.int (kp_V_settle σ d k v))) (kq_V_settle σ d k v)) σ 0 [(0, .ref (kc_ad V 3)), (1, .int (nI d)), (2, .int (nI k)), (3, .int v)] []
  refine kg_aload_n hC d_V_settle_0 0 rfl ?_
  refine kg_getr hC (ko_3 hV) rfl ui_V (j := 5) (by decide) tw_69 rfl d_V_settle_1 rfl ?_
  refine kg_iload_n hC d_V_settle_4 1 rfl ?_
  refine kg_iald hC (ka_12 hV) (i := d) rfl hd d_V_settle_5 ?_
  refine kg_aload_n hC d_V_settle_6 0 rfl ?_
  refine kg_getr hC (ko_3 hV) rfl ui_V (j := 6) (by decide) tw_70 rfl d_V_settle_7 rfl ?_
  refine kg_iload_n hC d_V_settle_10 1 rfl ?_
  refine kg_iald hC (ka_13 hV) (i := d) rfl hd d_V_settle_11 ?_
  refine kg_at (pc' := 12) rfl ?_
  refine kg_iconst hC d_V_settle_12 kn_i_m1 ?_
  refine kg_ixor hC d_V_settle_13 ?_
  refine kg_iand hC d_V_settle_14 ?_
  refine kg_iload_n hC d_V_settle_15 2 rfl ?_
  refine kg_staticNI hC (kk_K_isAmong (kc_l C) hV σ ((σ 12 d) &&& ((σ 13 d) ^^^ (-1))) (nI k)) cal_K_isAmong tw_303 kx_V_49 rfl (by decide) (rest := []) rfl (Nat.le_of_ble_eq_true rfl) d_V_settle_16 ?_ (by decide)
  refine kg_istore hC d_V_settle_19 [(4, .int (kp_K_isAmong ((σ 12 d) &&& ((σ 13 d) ^^^ (-1))) (nI k))), (0, .ref (kc_ad V 3)), (1, .int (nI d)), (2, .int (nI k)), (3, .int v)] rfl (by decide) ?_
  refine kg_iload hC d_V_settle_21 0 rfl ?_
  refine kg_if_eq hC d_V_settle_23 (tgt := 44) rfl (fun h23 => ?_) (fun h23 => ?_)
  · refine kg_iconst hC d_V_settle_44 kn_i_0 ?_
    exact kg_zret hC d_V_settle_45 kn_z0 (by rw [kp_V_settle, if_pos h23]) (by rw [kq_V_settle, if_pos h23])
  · refine kg_aload_n hC d_V_settle_26 1 rfl ?_
    refine kg_getr hC (ko_3 hV) rfl ui_V (j := 0) (by decide) tw_64 rfl d_V_settle_27 rfl ?_
    refine kg_iload_n hC d_V_settle_30 3 rfl ?_
    refine kg_aload_n hC d_V_settle_31 1 rfl ?_
    refine kg_getr hC (ko_3 hV) rfl ui_V (j := 3) (by decide) tw_67 rfl d_V_settle_32 rfl ?_
    refine kg_iload_n hC d_V_settle_35 2 rfl ?_
    refine kg_aald hC (ka_10 hV) (i := d) rfl hd d_V_settle_36 ?_
    refine kg_iload_n hC d_V_settle_37 4 rfl ?_
    refine kg_at (pc' := 38) rfl ?_
    refine kg_virtualI hC (kk_G_agree (kc_l C) hV σ (nI k) (22 + d) v hp (ka_22 hV hd)) cal_G_agree tw_408 tw_409 tw_407 (ko_1 hV) rfl rfl (by decide) (rest := []) rfl (Nat.le_of_ble_eq_true rfl) d_V_settle_38 ?_ (by decide)
    refine kg_if_ne hC d_V_settle_41 (tgt := 46) rfl (fun h41 => ?_) (fun h41 => ?_)
    · refine kg_aload_n hC d_V_settle_46 1 rfl ?_
      refine kg_getr hC (ko_3 hV) rfl ui_V (j := 6) (by decide) tw_70 rfl d_V_settle_47 rfl ?_
      refine kg_iload_n hC d_V_settle_50 2 rfl ?_
      refine kg_dup2 hC d_V_settle_51 rfl rfl ?_
      refine kg_iald hC (ka_13 hV) (i := d) rfl hd d_V_settle_52 ?_
      refine kg_iload_n hC d_V_settle_53 3 rfl ?_
      refine kg_staticNI hC (kk_K_bit (kc_l C) hV σ (nI k)) cal_K_bit tw_306 kx_V_57 rfl (by decide) (rest := [.int (σ 13 d), .int (nI d), .ref (kc_ad V 13)]) rfl (Nat.le_of_ble_eq_true rfl) d_V_settle_54 ?_ (by decide)
      refine kg_ior hC d_V_settle_57 ?_
      refine kg_at (pc' := 58) rfl ?_
      refine kg_iast hC (ka_13 hV) (i := d) rfl hd d_V_settle_58 ?_
      refine kg_aload_n hC d_V_settle_59 1 rfl ?_
      refine kg_getr hC (ko_3 hV) rfl ui_V (j := 4) (by decide) tw_68 rfl d_V_settle_60 rfl ?_
      refine kg_iload_n hC d_V_settle_63 2 rfl ?_
      refine kg_aald hC (ka_11 hV) (i := d) rfl hd d_V_settle_64 ?_
      refine kg_iload_n hC d_V_settle_65 3 rfl ?_
      refine kg_iload_n hC d_V_settle_66 4 rfl ?_
      refine kg_iast hC (ka_30 hV hd) (i := k) rfl hk d_V_settle_67 ?_
      refine kg_at (pc' := 68) rfl ?_
      refine kg_iconst hC d_V_settle_68 kn_i_1 ?_
      exact kg_zret hC d_V_settle_69 kn_z1 (by rw [kp_V_settle, if_neg h23, if_neg h41]) (by rw [kq_V_settle, if_neg h23, if_neg h41])
    · refine kg_iconst hC d_V_settle_44 kn_i_0 ?_
      exact kg_zret hC d_V_settle_45 kn_z0 (by rw [kp_V_settle, if_neg h23, if_pos h41]) (by rw [kq_V_settle, if_neg h23, if_pos h41])
theorem kz_V_settle (σ : kc_Sg) (d : Nat) (k : Nat) (v : Int32) : kp_V_settle σ d k v = nI 0 ∨ kp_V_settle σ d k v = nI 1 := by
  unfold kp_V_settle
  (repeat' split) <;> first | exact Or.inl rfl | exact Or.inr rfl
def kf_V_accepted_1 (σ : kc_Sg) (i1 : Nat) (a1 : Int32) : Int32 := if (kp_K_isAmong (σ 3 8) (nI i1)) = 0 then a1 else (if (σ (22 + i1) 0) = (nI 1) then (if (σ 12 i1) = (σ 13 i1) then (a1 ||| (kp_K_bit (nI i1))) else a1) else a1)
def kp_V_accepted (σ : kc_Sg) : Int32 := (kc_it (kf_V_accepted_1 σ) 7 1 (nI 0))
set_option maxHeartbeats 4000000 in
set_option maxRecDepth 100000 in
theorem kk_V_accepted (l : Launch) {V : kc_V} (hV : kc_G V) (σ : kc_Sg) : kc_Met l y_V_accepted b_V_accepted 3 (some .int) (kc_rm 3) V [.ref (kc_ad V 3)] σ (some (.int (kp_V_accepted σ))) σ := by
  refine kc_of (by decide) (Nat.le_of_ble_eq_true rfl) hV.ok (fun C _ hC => ?_)
  show kc_Go C V 3 (0, 0) (kc_E C V (some (.int (kp_V_accepted σ))) σ) σ 0 [(0, .ref (kc_ad V 3))] []
  refine kg_iconst hC d_V_accepted_0 kn_i_0 ?_
  refine kg_istore_n hC d_V_accepted_1 [(1, .int (nI 0)), (0, .ref (kc_ad V 3))] rfl (by decide) ?_
  refine kg_iconst hC d_V_accepted_2 kn_i_1 ?_
  refine kg_istore_n hC d_V_accepted_3 [(2, .int (nI 1)), (1, .int (nI 0)), (0, .ref (kc_ad V 3))] rfl (by decide) ?_
  refine kc_loop (fun i1 a1 => kc_Go C V 3 (0, 0) (kc_E C V (some (.int (kp_V_accepted σ))) σ) σ 4 [(2, .int (nI i1)), (1, .int a1), (0, .ref (kc_ad V 3))] []) (kf_V_accepted_1 σ) 1 8 (fun i1 a1 ho1 hi1 hk1 => ?_) 7 1 (nI 0) (Nat.le_refl _) rfl ?_
  · refine kg_iload_n hC d_V_accepted_4 0 rfl ?_
    refine kg_bipush hC d_V_accepted_5 kn_b_7 ?_
    refine kg_icmp_gt hC d_V_accepted_7 (tgt := 61) rfl (fun q => absurd q (nI_nlt (by omega) (by decide))) (fun _ => ?_)
    refine kg_aload_n hC d_V_accepted_10 2 rfl ?_
    refine kg_geti hC (ko_3 hV) rfl ui_V (j := 8) (by decide) tw_72 rfl d_V_accepted_11 rfl ?_
    refine kg_iload_n hC d_V_accepted_14 0 rfl ?_
    refine kg_staticNI hC (kk_K_isAmong (kc_l C) hV σ (σ 3 8) (nI i1)) cal_K_isAmong tw_303 kx_V_49 rfl (by decide) (rest := []) rfl (Nat.le_of_ble_eq_true rfl) d_V_accepted_15 ?_ (by decide)
    refine kg_if_eq hC d_V_accepted_18 (tgt := 55) rfl (fun h18 => ?_) (fun h18 => ?_)
    · refine kg_iinc hC d_V_accepted_55 0 rfl (kn_inc1 i1) [(2, .int (nI (i1 + 1))), (1, .int a1), (0, .ref (kc_ad V 3))] rfl (by decide) ?_
      refine kg_goto hC d_V_accepted_58 (tgt := 4) rfl ?_
      exact kg_to (P := fun zz => kc_Go C V 3 (0, 0) (kc_E C V (some (.int (kp_V_accepted σ))) σ) σ 4 [(2, .int (nI (i1 + 1))), (1, .int zz), (0, .ref (kc_ad V 3))] []) (b := a1) (a := (kf_V_accepted_1 σ) i1 a1) (by rw [kf_V_accepted_1, if_pos h18]) hk1
    · refine kg_aload_n hC d_V_accepted_21 2 rfl ?_
      refine kg_getr hC (ko_3 hV) rfl ui_V (j := 3) (by decide) tw_67 rfl d_V_accepted_22 rfl ?_
      refine kg_iload_n hC d_V_accepted_25 0 rfl ?_
      refine kg_aald hC (ka_10 hV) (i := i1) rfl (by omega) d_V_accepted_26 ?_
      refine kg_iconst hC d_V_accepted_27 kn_i_0 ?_
      refine kg_iald hC (ka_22 hV (by omega)) (i := 0) rfl (by decide) d_V_accepted_28 ?_
      refine kg_iconst hC d_V_accepted_29 kn_i_1 ?_
      refine kg_icmp_ne hC d_V_accepted_30 (tgt := 55) rfl (fun h30 => ?_) (fun h30 => ?_)
      · refine kg_iinc hC d_V_accepted_55 0 rfl (kn_inc1 i1) [(2, .int (nI (i1 + 1))), (1, .int a1), (0, .ref (kc_ad V 3))] rfl (by decide) ?_
        refine kg_goto hC d_V_accepted_58 (tgt := 4) rfl ?_
        exact kg_to (P := fun zz => kc_Go C V 3 (0, 0) (kc_E C V (some (.int (kp_V_accepted σ))) σ) σ 4 [(2, .int (nI (i1 + 1))), (1, .int zz), (0, .ref (kc_ad V 3))] []) (b := a1) (a := (kf_V_accepted_1 σ) i1 a1) (by rw [kf_V_accepted_1, if_neg h18, if_neg h30]) hk1
      · refine kg_aload_n hC d_V_accepted_33 2 rfl ?_
        refine kg_getr hC (ko_3 hV) rfl ui_V (j := 5) (by decide) tw_69 rfl d_V_accepted_34 rfl ?_
        refine kg_iload_n hC d_V_accepted_37 0 rfl ?_
        refine kg_iald hC (ka_12 hV) (i := i1) rfl (by omega) d_V_accepted_38 ?_
        refine kg_aload_n hC d_V_accepted_39 2 rfl ?_
        refine kg_getr hC (ko_3 hV) rfl ui_V (j := 6) (by decide) tw_70 rfl d_V_accepted_40 rfl ?_
        refine kg_iload_n hC d_V_accepted_43 0 rfl ?_
        refine kg_iald hC (ka_13 hV) (i := i1) rfl (by omega) d_V_accepted_44 ?_
        refine kg_at (pc' := 45) rfl ?_
        refine kg_icmp_ne hC d_V_accepted_45 (tgt := 55) rfl (fun h45 => ?_) (fun h45 => ?_)
        · refine kg_iinc hC d_V_accepted_55 0 rfl (kn_inc1 i1) [(2, .int (nI (i1 + 1))), (1, .int a1), (0, .ref (kc_ad V 3))] rfl (by decide) ?_
          refine kg_goto hC d_V_accepted_58 (tgt := 4) rfl ?_
          exact kg_to (P := fun zz => kc_Go C V 3 (0, 0) (kc_E C V (some (.int (kp_V_accepted σ))) σ) σ 4 [(2, .int (nI (i1 + 1))), (1, .int zz), (0, .ref (kc_ad V 3))] []) (b := a1) (a := (kf_V_accepted_1 σ) i1 a1) (by rw [kf_V_accepted_1, if_neg h18, if_pos h30, if_neg h45]) hk1
        · refine kg_iload_n hC d_V_accepted_48 1 rfl ?_
          refine kg_iload_n hC d_V_accepted_49 0 rfl ?_
          refine kg_staticNI hC (kk_K_bit (kc_l C) hV σ (nI i1)) cal_K_bit tw_306 kx_V_57 rfl (by decide) (rest := [.int a1]) rfl (Nat.le_of_ble_eq_true rfl) d_V_accepted_50 ?_ (by decide)
          refine kg_ior hC d_V_accepted_53 ?_
          refine kg_istore_n hC d_V_accepted_54 [(1, .int (a1 ||| (kp_K_bit (nI i1)))), (2, .int (nI i1)), (0, .ref (kc_ad V 3))] rfl (by decide) ?_
          refine kg_iinc hC d_V_accepted_55 1 rfl (kn_inc1 i1) [(2, .int (nI (i1 + 1))), (1, .int (a1 ||| (kp_K_bit (nI i1)))), (0, .ref (kc_ad V 3))] rfl (by decide) ?_
          refine kg_goto hC d_V_accepted_58 (tgt := 4) rfl ?_
          exact kg_to (P := fun zz => kc_Go C V 3 (0, 0) (kc_E C V (some (.int (kp_V_accepted σ))) σ) σ 4 [(2, .int (nI (i1 + 1))), (1, .int zz), (0, .ref (kc_ad V 3))] []) (b := (a1 ||| (kp_K_bit (nI i1)))) (a := (kf_V_accepted_1 σ) i1 a1) (by rw [kf_V_accepted_1, if_neg h18, if_pos h30, if_pos h45]) hk1
  generalize hg1 : (kc_it (kf_V_accepted_1 σ) 7 1 (nI 0)) = τ1
  refine kg_iload_n hC d_V_accepted_4 0 rfl ?_
  refine kg_bipush hC d_V_accepted_5 kn_b_7 ?_
  refine kg_icmp_gt hC d_V_accepted_7 (tgt := 61) rfl (fun _ => ?_) (fun q => absurd (nI_lt (by decide) (by decide)) q)
  refine kg_iload_n hC d_V_accepted_61 1 rfl ?_
  exact kg_iret hC d_V_accepted_62 (by rw [kp_V_accepted, hg1]) rfl
def kf_V_countAll_1 (σ : kc_Sg) (k : Nat) (i1 : Nat) (a1 : Int32) : Int32 := (a1 + (kp_JI_bitCount (σ k i1)))
def kp_V_countAll (σ : kc_Sg) (k : Nat) : Int32 := (kc_it (kf_V_countAll_1 σ k) 7 1 (nI 0))
set_option maxHeartbeats 4000000 in
set_option maxRecDepth 100000 in
theorem kk_V_countAll (l : Launch) {V : kc_V} (hV : kc_G V) (σ : kc_Sg) (k : Nat) (ha : kc_ai V k 8) : kc_Met l y_V_countAll b_V_countAll 3 (some .int) (kc_rm 2) V [.ref (kc_ad V k)] σ (some (.int (kp_V_countAll σ k))) σ := by
  refine kc_of (by decide) (Nat.le_of_ble_eq_true rfl) hV.ok (fun C _ hC => ?_)
  show kc_Go C V 3 (0, 0) (kc_E C V (some (.int (kp_V_countAll σ k))) σ) σ 0 [(0, .ref (kc_ad V k))] []
  refine kg_iconst hC d_V_countAll_0 kn_i_0 ?_
  refine kg_istore_n hC d_V_countAll_1 [(1, .int (nI 0)), (0, .ref (kc_ad V k))] rfl (by decide) ?_
  refine kg_iconst hC d_V_countAll_2 kn_i_1 ?_
  refine kg_istore_n hC d_V_countAll_3 [(2, .int (nI 1)), (1, .int (nI 0)), (0, .ref (kc_ad V k))] rfl (by decide) ?_
  refine kc_loop (fun i1 a1 => kc_Go C V 3 (0, 0) (kc_E C V (some (.int (kp_V_countAll σ k))) σ) σ 4 [(2, .int (nI i1)), (1, .int a1), (0, .ref (kc_ad V k))] []) (kf_V_countAll_1 σ k) 1 8 (fun i1 a1 ho1 hi1 hk1 => ?_) 7 1 (nI 0) (Nat.le_refl _) rfl ?_
  · refine kg_iload_n hC d_V_countAll_4 0 rfl ?_
    refine kg_bipush hC d_V_countAll_5 kn_b_7 ?_
    refine kg_icmp_gt hC d_V_countAll_7 (tgt := 25) rfl (fun q => absurd q (nI_nlt (by omega) (by decide))) (fun _ => ?_)
    refine kg_iload_n hC d_V_countAll_10 1 rfl ?_
    refine kg_aload_n hC d_V_countAll_11 2 rfl ?_
    refine kg_iload_n hC d_V_countAll_12 0 rfl ?_
    refine kg_iald hC ha (i := i1) rfl (by omega) d_V_countAll_13 ?_
    refine kg_staticI hC (kk_JI_bitCount (kc_l C) hV σ (σ k i1)) cal_JI_bitCount tw_318 tw_317 rfl (by decide) (rest := [.int a1]) rfl (Nat.le_of_ble_eq_true rfl) d_V_countAll_14 ?_ (by decide)
    refine kg_at (pc' := 17) rfl ?_
    refine kg_iadd hC d_V_countAll_17 ?_
    refine kg_istore_n hC d_V_countAll_18 [(1, .int (a1 + (kp_JI_bitCount (σ k i1)))), (2, .int (nI i1)), (0, .ref (kc_ad V k))] rfl (by decide) ?_
    refine kg_iinc hC d_V_countAll_19 1 rfl (kn_inc1 i1) [(2, .int (nI (i1 + 1))), (1, .int (a1 + (kp_JI_bitCount (σ k i1)))), (0, .ref (kc_ad V k))] rfl (by decide) ?_
    refine kg_goto hC d_V_countAll_22 (tgt := 4) rfl ?_
    exact kg_to (P := fun zz => kc_Go C V 3 (0, 0) (kc_E C V (some (.int (kp_V_countAll σ k))) σ) σ 4 [(2, .int (nI (i1 + 1))), (1, .int zz), (0, .ref (kc_ad V k))] []) (b := (a1 + (kp_JI_bitCount (σ k i1)))) (a := (kf_V_countAll_1 σ k) i1 a1) (by rw [kf_V_countAll_1]) hk1
  generalize hg1 : (kc_it (kf_V_countAll_1 σ k) 7 1 (nI 0)) = τ1
  refine kg_iload_n hC d_V_countAll_4 0 rfl ?_
  refine kg_bipush hC d_V_countAll_5 kn_b_7 ?_
  refine kg_icmp_gt hC d_V_countAll_7 (tgt := 25) rfl (fun _ => ?_) (fun q => absurd (nI_lt (by decide) (by decide)) q)
  refine kg_iload_n hC d_V_countAll_25 1 rfl ?_
  exact kg_iret hC d_V_countAll_26 (by rw [kp_V_countAll, hg1]) rfl
def kp_V_complaintCount (σ : kc_Sg) : Int32 := (kp_V_countAll σ 12)
set_option maxHeartbeats 4000000 in
set_option maxRecDepth 100000 in
theorem kk_V_complaintCount (l : Launch) {V : kc_V} (hV : kc_G V) (σ : kc_Sg) : kc_Met l y_V_complaintCount b_V_complaintCount 1 (some .int) (kc_rm 3) V [.ref (kc_ad V 3)] σ (some (.int (kp_V_complaintCount σ))) σ := by
  refine kc_of (by decide) (Nat.le_of_ble_eq_true rfl) hV.ok (fun C _ hC => ?_)
  show kc_Go C V 1 (0, 0) (kc_E C V (some (.int (kp_V_complaintCount σ))) σ) σ 0 [(0, .ref (kc_ad V 3))] []
  refine kg_aload_n hC d_V_complaintCount_0 0 rfl ?_
  refine kg_getr hC (ko_3 hV) rfl ui_V (j := 5) (by decide) tw_69 rfl d_V_complaintCount_1 rfl ?_
  refine kg_staticI hC (kk_V_countAll (kc_l C) hV σ 12 (ka_12 hV)) cal_V_countAll tw_591 tw_590 rfl (by decide) (rest := []) rfl (Nat.le_of_ble_eq_true rfl) d_V_complaintCount_4 ?_ (by decide)
  exact kg_iret hC d_V_complaintCount_7 (by rw [kp_V_complaintCount]) rfl
def kp_V_settledCount (σ : kc_Sg) : Int32 := (kp_V_countAll σ 13)
set_option maxHeartbeats 4000000 in
set_option maxRecDepth 100000 in
theorem kk_V_settledCount (l : Launch) {V : kc_V} (hV : kc_G V) (σ : kc_Sg) : kc_Met l y_V_settledCount b_V_settledCount 1 (some .int) (kc_rm 3) V [.ref (kc_ad V 3)] σ (some (.int (kp_V_settledCount σ))) σ := by
  refine kc_of (by decide) (Nat.le_of_ble_eq_true rfl) hV.ok (fun C _ hC => ?_)
  show kc_Go C V 1 (0, 0) (kc_E C V (some (.int (kp_V_settledCount σ))) σ) σ 0 [(0, .ref (kc_ad V 3))] []
  refine kg_aload_n hC d_V_settledCount_0 0 rfl ?_
  refine kg_getr hC (ko_3 hV) rfl ui_V (j := 6) (by decide) tw_70 rfl d_V_settledCount_1 rfl ?_
  refine kg_staticI hC (kk_V_countAll (kc_l C) hV σ 13 (ka_13 hV)) cal_V_countAll tw_591 tw_590 rfl (by decide) (rest := []) rfl (Nat.le_of_ble_eq_true rfl) d_V_settledCount_4 ?_ (by decide)
  exact kg_iret hC d_V_settledCount_7 (by rw [kp_V_settledCount]) rfl
end
section
def kp_K_isWiped (σ : kc_Sg) (k : Nat) : Int32 := if (σ 4 k) = (-1) then (nI 1) else (nI 0)
set_option maxHeartbeats 4000000 in
set_option maxRecDepth 100000 in
theorem kk_K_isWiped (l : Launch) {V : kc_V} (hV : kc_G V) (σ : kc_Sg) (k : Nat) (hk : k < 8) : kc_Met l y_K_isWiped b_K_isWiped 2 (some .boolean) (kc_rm 1) V [.ref (kc_ad V 0), .int (nI k)] σ (some (.int (kp_K_isWiped σ k))) σ := by
  refine kc_of (by decide) (Nat.le_of_ble_eq_true rfl) hV.ok (fun C _ hC => ?_)
  show kc_Go C V 2 (0, 0) (kc_E C V (some (.int (kp_K_isWiped σ k))) σ) σ 0 [(0, .ref (kc_ad V 0)), (1, .int (nI k))] []
  refine kg_aload_n hC d_K_isWiped_0 0 rfl ?_
  refine kg_getr hC (ko_0 hV) rfl ui_K (j := 3) (by decide) tw_95 rfl d_K_isWiped_1 rfl ?_
  refine kg_iload_n hC d_K_isWiped_4 1 rfl ?_
  refine kg_iald hC (ka_4 hV) (i := k) rfl hk d_K_isWiped_5 ?_
  refine kg_iconst hC d_K_isWiped_6 kn_i_m1 ?_
  refine kg_icmp_ne hC d_K_isWiped_7 (tgt := 14) rfl (fun h7 => ?_) (fun h7 => ?_)
  · refine kg_iconst hC d_K_isWiped_14 kn_i_0 ?_
    exact kg_zret hC d_K_isWiped_15 kn_z0 (by rw [kp_K_isWiped, if_neg h7]) rfl
  · refine kg_iconst hC d_K_isWiped_10 kn_i_1 ?_
    refine kg_goto hC d_K_isWiped_11 (tgt := 15) rfl ?_
    exact kg_zret hC d_K_isWiped_15 kn_z1 (by rw [kp_K_isWiped, if_pos h7]) rfl
theorem kz_K_isWiped (σ : kc_Sg) (k : Nat) : kp_K_isWiped σ k = nI 0 ∨ kp_K_isWiped σ k = nI 1 := by
  unfold kp_K_isWiped
  (repeat' split) <;> first | exact Or.inl rfl | exact Or.inr rfl
def kp_K_isSound (σ : kc_Sg) (k : Nat) : Int32 := if (kp_K_isWiped σ k) = 0 then (if (kp_G_agree σ (nI k) 5 (σ 4 k)) = 0 then (nI 0) else (nI 1)) else (nI 0)
set_option maxHeartbeats 4000000 in
set_option maxRecDepth 100000 in
theorem kk_K_isSound (l : Launch) {V : kc_V} (hV : kc_G V) (σ : kc_Sg) (k : Nat) (hp : ¬ σ 1 0 = 0) (hk : k < 8) : kc_Met l y_K_isSound b_K_isSound 2 (some .boolean) (kc_rm 4) V [.ref (kc_ad V 0), .int (nI k)] σ (some (.int (kp_K_isSound σ k))) σ := by
  refine kc_of (by decide) (Nat.le_of_ble_eq_true rfl) hV.ok (fun C _ hC => ?_)
  show kc_Go C V 2 (0, 0) (kc_E C V (some (.int (kp_K_isSound σ k))) σ) σ 0 [(0, .ref (kc_ad V 0)), (1, .int (nI k))] []
  refine kg_aload_n hC d_K_isSound_0 0 rfl ?_
  refine kg_iload_n hC d_K_isSound_1 1 rfl ?_
  refine kg_virtualI hC (kk_K_isWiped (kc_l C) hV σ k hk) cal_K_isWiped tw_462 ts_K_isWiped tw_460 (ko_0 hV) rfl rfl (by decide) (rest := []) rfl (Nat.le_of_ble_eq_true rfl) d_K_isSound_2 ?_ (by decide)
  refine kg_if_ne hC d_K_isSound_5 (tgt := 33) rfl (fun h5 => ?_) (fun h5 => ?_)
  · refine kg_iconst hC d_K_isSound_33 kn_i_0 ?_
    exact kg_zret hC d_K_isSound_34 kn_z0 (by rw [kp_K_isSound, if_neg h5]) rfl
  · refine kg_aload_n hC d_K_isSound_8 0 rfl ?_
    refine kg_getr hC (ko_0 hV) rfl ui_K (j := 0) (by decide) tw_92 rfl d_K_isSound_9 rfl ?_
    refine kg_iload_n hC d_K_isSound_12 1 rfl ?_
    refine kg_aload_n hC d_K_isSound_13 0 rfl ?_
    refine kg_getr hC (ko_0 hV) rfl ui_K (j := 4) (by decide) tw_96 rfl d_K_isSound_14 rfl ?_
    refine kg_aload_n hC d_K_isSound_17 0 rfl ?_
    refine kg_getr hC (ko_0 hV) rfl ui_K (j := 3) (by decide) tw_95 rfl d_K_isSound_18 rfl ?_
    refine kg_iload_n hC d_K_isSound_21 1 rfl ?_
    refine kg_at (pc' := 22) rfl ?_
    refine kg_iald hC (ka_4 hV) (i := k) rfl hk d_K_isSound_22 ?_
    refine kg_virtualI hC (kk_G_agree (kc_l C) hV σ (nI k) 5 (σ 4 k) hp (ka_5 hV)) cal_G_agree tw_408 tw_409 tw_492 (ko_1 hV) rfl rfl (by decide) (rest := []) rfl (Nat.le_of_ble_eq_true rfl) d_K_isSound_23 ?_ (by decide)
    refine kg_if_eq hC d_K_isSound_26 (tgt := 33) rfl (fun h26 => ?_) (fun h26 => ?_)
    · refine kg_iconst hC d_K_isSound_33 kn_i_0 ?_
      exact kg_zret hC d_K_isSound_34 kn_z0 (by rw [kp_K_isSound, if_pos h5, if_pos h26]) rfl
    · refine kg_iconst hC d_K_isSound_29 kn_i_1 ?_
      refine kg_goto hC d_K_isSound_30 (tgt := 34) rfl ?_
      exact kg_zret hC d_K_isSound_34 kn_z1 (by rw [kp_K_isSound, if_pos h5, if_neg h26]) rfl
theorem kz_K_isSound (σ : kc_Sg) (k : Nat) : kp_K_isSound σ k = nI 0 ∨ kp_K_isSound σ k = nI 1 := by
  unfold kp_K_isSound
  (repeat' split) <;> first | exact Or.inl rfl | exact Or.inr rfl
def kf_K_wiped_1 (σ : kc_Sg) (i1 : Nat) (a1 : Int32) : Int32 := if (kp_K_isWiped σ i1) = 0 then a1 else (a1 ||| (kp_K_bit (nI i1)))
def kp_K_wiped (σ : kc_Sg) : Int32 := (kc_it (kf_K_wiped_1 σ) 7 1 (nI 0))
set_option maxHeartbeats 4000000 in
set_option maxRecDepth 100000 in
theorem kk_K_wiped (l : Launch) {V : kc_V} (hV : kc_G V) (σ : kc_Sg) : kc_Met l y_K_wiped b_K_wiped 3 (some .int) (kc_rm 2) V [.ref (kc_ad V 0)] σ (some (.int (kp_K_wiped σ))) σ := by
  refine kc_of (by decide) (Nat.le_of_ble_eq_true rfl) hV.ok (fun C _ hC => ?_)
  show kc_Go C V 3 (0, 0) (kc_E C V (some (.int (kp_K_wiped σ))) σ) σ 0 [(0, .ref (kc_ad V 0))] []
  refine kg_iconst hC d_K_wiped_0 kn_i_0 ?_
  refine kg_istore_n hC d_K_wiped_1 [(1, .int (nI 0)), (0, .ref (kc_ad V 0))] rfl (by decide) ?_
  refine kg_iconst hC d_K_wiped_2 kn_i_1 ?_
  refine kg_istore_n hC d_K_wiped_3 [(2, .int (nI 1)), (1, .int (nI 0)), (0, .ref (kc_ad V 0))] rfl (by decide) ?_
  refine kc_loop (fun i1 a1 => kc_Go C V 3 (0, 0) (kc_E C V (some (.int (kp_K_wiped σ))) σ) σ 4 [(2, .int (nI i1)), (1, .int a1), (0, .ref (kc_ad V 0))] []) (kf_K_wiped_1 σ) 1 8 (fun i1 a1 ho1 hi1 hk1 => ?_) 7 1 (nI 0) (Nat.le_refl _) rfl ?_
  · refine kg_iload_n hC d_K_wiped_4 0 rfl ?_
    refine kg_bipush hC d_K_wiped_5 kn_b_7 ?_
    refine kg_icmp_gt hC d_K_wiped_7 (tgt := 31) rfl (fun q => absurd q (nI_nlt (by omega) (by decide))) (fun _ => ?_)
    refine kg_aload_n hC d_K_wiped_10 2 rfl ?_
    refine kg_iload_n hC d_K_wiped_11 0 rfl ?_
    refine kg_virtualI hC (kk_K_isWiped (kc_l C) hV σ i1 (by omega)) cal_K_isWiped tw_462 ts_K_isWiped tw_460 (ko_0 hV) rfl rfl (by decide) (rest := []) rfl (Nat.le_of_ble_eq_true rfl) d_K_wiped_12 ?_ (by decide)
    refine kg_if_eq hC d_K_wiped_15 (tgt := 25) rfl (fun h15 => ?_) (fun h15 => ?_)
    · refine kg_iinc hC d_K_wiped_25 0 rfl (kn_inc1 i1) [(2, .int (nI (i1 + 1))), (1, .int a1), (0, .ref (kc_ad V 0))] rfl (by decide) ?_
      refine kg_goto hC d_K_wiped_28 (tgt := 4) rfl ?_
      exact kg_to (P := fun zz => kc_Go C V 3 (0, 0) (kc_E C V (some (.int (kp_K_wiped σ))) σ) σ 4 [(2, .int (nI (i1 + 1))), (1, .int zz), (0, .ref (kc_ad V 0))] []) (b := a1) (a := (kf_K_wiped_1 σ) i1 a1) (by rw [kf_K_wiped_1, if_pos h15]) hk1
    · refine kg_iload_n hC d_K_wiped_18 1 rfl ?_
      refine kg_iload_n hC d_K_wiped_19 0 rfl ?_
      refine kg_staticI hC (kk_K_bit (kc_l C) hV σ (nI i1)) cal_K_bit tw_306 tw_305 rfl (by decide) (rest := [.int a1]) rfl (Nat.le_of_ble_eq_true rfl) d_K_wiped_20 ?_ (by decide)
      refine kg_ior hC d_K_wiped_23 ?_
      refine kg_istore_n hC d_K_wiped_24 [(1, .int (a1 ||| (kp_K_bit (nI i1)))), (2, .int (nI i1)), (0, .ref (kc_ad V 0))] rfl (by decide) ?_
      refine kg_iinc hC d_K_wiped_25 1 rfl (kn_inc1 i1) [(2, .int (nI (i1 + 1))), (1, .int (a1 ||| (kp_K_bit (nI i1)))), (0, .ref (kc_ad V 0))] rfl (by decide) ?_
      refine kg_goto hC d_K_wiped_28 (tgt := 4) rfl ?_
      exact kg_to (P := fun zz => kc_Go C V 3 (0, 0) (kc_E C V (some (.int (kp_K_wiped σ))) σ) σ 4 [(2, .int (nI (i1 + 1))), (1, .int zz), (0, .ref (kc_ad V 0))] []) (b := (a1 ||| (kp_K_bit (nI i1)))) (a := (kf_K_wiped_1 σ) i1 a1) (by rw [kf_K_wiped_1, if_neg h15]) hk1
  generalize hg1 : (kc_it (kf_K_wiped_1 σ) 7 1 (nI 0)) = τ1
  refine kg_iload_n hC d_K_wiped_4 0 rfl ?_
  refine kg_bipush hC d_K_wiped_5 kn_b_7 ?_
  refine kg_icmp_gt hC d_K_wiped_7 (tgt := 31) rfl (fun _ => ?_) (fun q => absurd (nI_lt (by decide) (by decide)) q)
  refine kg_iload_n hC d_K_wiped_31 1 rfl ?_
  exact kg_iret hC d_K_wiped_32 (by rw [kp_K_wiped, hg1]) rfl
def kf_K_sound_1 (σ : kc_Sg) (i1 : Nat) (a1 : Int32) : Int32 := if (kp_K_isSound σ i1) = 0 then a1 else (a1 ||| (kp_K_bit (nI i1)))
def kp_K_sound (σ : kc_Sg) : Int32 := (kc_it (kf_K_sound_1 σ) 7 1 (nI 0))
set_option maxHeartbeats 4000000 in
set_option maxRecDepth 100000 in
theorem kk_K_sound (l : Launch) {V : kc_V} (hV : kc_G V) (σ : kc_Sg) (hp : ¬ σ 1 0 = 0) : kc_Met l y_K_sound b_K_sound 3 (some .int) (kc_rm 5) V [.ref (kc_ad V 0)] σ (some (.int (kp_K_sound σ))) σ := by
  refine kc_of (by decide) (Nat.le_of_ble_eq_true rfl) hV.ok (fun C _ hC => ?_)
  show kc_Go C V 3 (0, 0) (kc_E C V (some (.int (kp_K_sound σ))) σ) σ 0 [(0, .ref (kc_ad V 0))] []
  refine kg_iconst hC d_K_sound_0 kn_i_0 ?_
  refine kg_istore_n hC d_K_sound_1 [(1, .int (nI 0)), (0, .ref (kc_ad V 0))] rfl (by decide) ?_
  refine kg_iconst hC d_K_sound_2 kn_i_1 ?_
  refine kg_istore_n hC d_K_sound_3 [(2, .int (nI 1)), (1, .int (nI 0)), (0, .ref (kc_ad V 0))] rfl (by decide) ?_
  refine kc_loop (fun i1 a1 => kc_Go C V 3 (0, 0) (kc_E C V (some (.int (kp_K_sound σ))) σ) σ 4 [(2, .int (nI i1)), (1, .int a1), (0, .ref (kc_ad V 0))] []) (kf_K_sound_1 σ) 1 8 (fun i1 a1 ho1 hi1 hk1 => ?_) 7 1 (nI 0) (Nat.le_refl _) rfl ?_
  · refine kg_iload_n hC d_K_sound_4 0 rfl ?_
    refine kg_bipush hC d_K_sound_5 kn_b_7 ?_
    refine kg_icmp_gt hC d_K_sound_7 (tgt := 31) rfl (fun q => absurd q (nI_nlt (by omega) (by decide))) (fun _ => ?_)
    refine kg_aload_n hC d_K_sound_10 2 rfl ?_
    refine kg_iload_n hC d_K_sound_11 0 rfl ?_
    refine kg_virtualI hC (kk_K_isSound (kc_l C) hV σ i1 hp (by omega)) cal_K_isSound tw_490 ts_K_isSound tw_488 (ko_0 hV) rfl rfl (by decide) (rest := []) rfl (Nat.le_of_ble_eq_true rfl) d_K_sound_12 ?_ (by decide)
    refine kg_if_eq hC d_K_sound_15 (tgt := 25) rfl (fun h15 => ?_) (fun h15 => ?_)
    · refine kg_iinc hC d_K_sound_25 0 rfl (kn_inc1 i1) [(2, .int (nI (i1 + 1))), (1, .int a1), (0, .ref (kc_ad V 0))] rfl (by decide) ?_
      refine kg_goto hC d_K_sound_28 (tgt := 4) rfl ?_
      exact kg_to (P := fun zz => kc_Go C V 3 (0, 0) (kc_E C V (some (.int (kp_K_sound σ))) σ) σ 4 [(2, .int (nI (i1 + 1))), (1, .int zz), (0, .ref (kc_ad V 0))] []) (b := a1) (a := (kf_K_sound_1 σ) i1 a1) (by rw [kf_K_sound_1, if_pos h15]) hk1
    · refine kg_iload_n hC d_K_sound_18 1 rfl ?_
      refine kg_iload_n hC d_K_sound_19 0 rfl ?_
      refine kg_staticI hC (kk_K_bit (kc_l C) hV σ (nI i1)) cal_K_bit tw_306 tw_305 rfl (by decide) (rest := [.int a1]) rfl (Nat.le_of_ble_eq_true rfl) d_K_sound_20 ?_ (by decide)
      refine kg_ior hC d_K_sound_23 ?_
      refine kg_istore_n hC d_K_sound_24 [(1, .int (a1 ||| (kp_K_bit (nI i1)))), (2, .int (nI i1)), (0, .ref (kc_ad V 0))] rfl (by decide) ?_
      refine kg_iinc hC d_K_sound_25 1 rfl (kn_inc1 i1) [(2, .int (nI (i1 + 1))), (1, .int (a1 ||| (kp_K_bit (nI i1)))), (0, .ref (kc_ad V 0))] rfl (by decide) ?_
      refine kg_goto hC d_K_sound_28 (tgt := 4) rfl ?_
      exact kg_to (P := fun zz => kc_Go C V 3 (0, 0) (kc_E C V (some (.int (kp_K_sound σ))) σ) σ 4 [(2, .int (nI (i1 + 1))), (1, .int zz), (0, .ref (kc_ad V 0))] []) (b := (a1 ||| (kp_K_bit (nI i1)))) (a := (kf_K_sound_1 σ) i1 a1) (by rw [kf_K_sound_1, if_neg h15]) hk1
  generalize hg1 : (kc_it (kf_K_sound_1 σ) 7 1 (nI 0)) = τ1
  refine kg_iload_n hC d_K_sound_4 0 rfl ?_
  refine kg_bipush hC d_K_sound_5 kn_b_7 ?_
  refine kg_icmp_gt hC d_K_sound_7 (tgt := 31) rfl (fun _ => ?_) (fun q => absurd (nI_lt (by decide) (by decide)) q)
  refine kg_iload_n hC d_K_sound_31 1 rfl ?_
  exact kg_iret hC d_K_sound_32 (by rw [kp_K_sound, hg1]) rfl
def kf_K_leastFour_1 (c : Int32) (i1 : Nat) (a1 : Int32) : Int32 := if (kp_K_isAmong c (nI i1)) = 0 then a1 else (if (nI 4) ≤ (kp_JI_bitCount a1) then a1 else (a1 ||| (kp_K_bit (nI i1))))
def kp_K_leastFour (c : Int32) : Int32 := (kc_it (kf_K_leastFour_1 c) 7 1 (nI 0))
set_option maxHeartbeats 4000000 in
set_option maxRecDepth 100000 in
theorem kk_K_leastFour (l : Launch) {V : kc_V} (hV : kc_G V) (σ : kc_Sg) (c : Int32) : kc_Met l y_K_leastFour b_K_leastFour 3 (some .int) (kc_rm 3) V [.int c] σ (some (.int (kp_K_leastFour c))) σ := by
  refine kc_of (by decide) (Nat.le_of_ble_eq_true rfl) hV.ok (fun C _ hC => ?_)
  show kc_Go C V 3 (0, 0) (kc_E C V (some (.int (kp_K_leastFour c))) σ) σ 0 [(0, .int c)] []
  refine kg_iconst hC d_K_leastFour_0 kn_i_0 ?_
  refine kg_istore_n hC d_K_leastFour_1 [(1, .int (nI 0)), (0, .int c)] rfl (by decide) ?_
  refine kg_iconst hC d_K_leastFour_2 kn_i_1 ?_
  refine kg_istore_n hC d_K_leastFour_3 [(2, .int (nI 1)), (1, .int (nI 0)), (0, .int c)] rfl (by decide) ?_
  refine kc_loop (fun i1 a1 => kc_Go C V 3 (0, 0) (kc_E C V (some (.int (kp_K_leastFour c))) σ) σ 4 [(2, .int (nI i1)), (1, .int a1), (0, .int c)] []) (kf_K_leastFour_1 c) 1 8 (fun i1 a1 ho1 hi1 hk1 => ?_) 7 1 (nI 0) (Nat.le_refl _) rfl ?_
  · refine kg_iload_n hC d_K_leastFour_4 0 rfl ?_
    refine kg_bipush hC d_K_leastFour_5 kn_b_7 ?_
    refine kg_icmp_gt hC d_K_leastFour_7 (tgt := 39) rfl (fun q => absurd q (nI_nlt (by omega) (by decide))) (fun _ => ?_)
    refine kg_iload_n hC d_K_leastFour_10 2 rfl ?_
    refine kg_iload_n hC d_K_leastFour_11 0 rfl ?_
    refine kg_staticI hC (kk_K_isAmong (kc_l C) hV σ c (nI i1)) cal_K_isAmong tw_303 tw_420 rfl (by decide) (rest := []) rfl (Nat.le_of_ble_eq_true rfl) d_K_leastFour_12 ?_ (by decide)
    refine kg_if_eq hC d_K_leastFour_15 (tgt := 33) rfl (fun h15 => ?_) (fun h15 => ?_)
    · refine kg_iinc hC d_K_leastFour_33 0 rfl (kn_inc1 i1) [(2, .int (nI (i1 + 1))), (1, .int a1), (0, .int c)] rfl (by decide) ?_
      refine kg_goto hC d_K_leastFour_36 (tgt := 4) rfl ?_
      exact kg_to (P := fun zz => kc_Go C V 3 (0, 0) (kc_E C V (some (.int (kp_K_leastFour c))) σ) σ 4 [(2, .int (nI (i1 + 1))), (1, .int zz), (0, .int c)] []) (b := a1) (a := (kf_K_leastFour_1 c) i1 a1) (by rw [kf_K_leastFour_1, if_pos h15]) hk1
    · refine kg_iload_n hC d_K_leastFour_18 1 rfl ?_
      refine kg_staticI hC (kk_JI_bitCount (kc_l C) hV σ a1) cal_JI_bitCount tw_318 tw_419 rfl (by decide) (rest := []) rfl (Nat.le_of_ble_eq_true rfl) d_K_leastFour_19 ?_ (by decide)
      refine kg_iconst hC d_K_leastFour_22 kn_i_4 ?_
      refine kg_icmp_ge hC d_K_leastFour_23 (tgt := 33) rfl (fun h23 => ?_) (fun h23 => ?_)
      · refine kg_iinc hC d_K_leastFour_33 0 rfl (kn_inc1 i1) [(2, .int (nI (i1 + 1))), (1, .int a1), (0, .int c)] rfl (by decide) ?_
        refine kg_goto hC d_K_leastFour_36 (tgt := 4) rfl ?_
        exact kg_to (P := fun zz => kc_Go C V 3 (0, 0) (kc_E C V (some (.int (kp_K_leastFour c))) σ) σ 4 [(2, .int (nI (i1 + 1))), (1, .int zz), (0, .int c)] []) (b := a1) (a := (kf_K_leastFour_1 c) i1 a1) (by rw [kf_K_leastFour_1, if_neg h15, if_pos h23]) hk1
      · refine kg_iload_n hC d_K_leastFour_26 1 rfl ?_
        refine kg_iload_n hC d_K_leastFour_27 0 rfl ?_
        refine kg_staticI hC (kk_K_bit (kc_l C) hV σ (nI i1)) cal_K_bit tw_306 tw_305 rfl (by decide) (rest := [.int a1]) rfl (Nat.le_of_ble_eq_true rfl) d_K_leastFour_28 ?_ (by decide)
        refine kg_ior hC d_K_leastFour_31 ?_
        refine kg_istore_n hC d_K_leastFour_32 [(1, .int (a1 ||| (kp_K_bit (nI i1)))), (2, .int (nI i1)), (0, .int c)] rfl (by decide) ?_
        refine kg_iinc hC d_K_leastFour_33 1 rfl (kn_inc1 i1) [(2, .int (nI (i1 + 1))), (1, .int (a1 ||| (kp_K_bit (nI i1)))), (0, .int c)] rfl (by decide) ?_
        refine kg_goto hC d_K_leastFour_36 (tgt := 4) rfl ?_
        exact kg_to (P := fun zz => kc_Go C V 3 (0, 0) (kc_E C V (some (.int (kp_K_leastFour c))) σ) σ 4 [(2, .int (nI (i1 + 1))), (1, .int zz), (0, .int c)] []) (b := (a1 ||| (kp_K_bit (nI i1)))) (a := (kf_K_leastFour_1 c) i1 a1) (by rw [kf_K_leastFour_1, if_neg h15, if_neg h23]) hk1
  generalize hg1 : (kc_it (kf_K_leastFour_1 c) 7 1 (nI 0)) = τ1
  refine kg_iload_n hC d_K_leastFour_4 0 rfl ?_
  refine kg_bipush hC d_K_leastFour_5 kn_b_7 ?_
  refine kg_icmp_gt hC d_K_leastFour_7 (tgt := 39) rfl (fun _ => ?_) (fun q => absurd (nI_lt (by decide) (by decide)) q)
  refine kg_iload_n hC d_K_leastFour_39 1 rfl ?_
  exact kg_iret hC d_K_leastFour_40 (by rw [kp_K_leastFour, hg1]) rfl
def kf_K_takeOver_1 (d : Nat) (i1 : Nat) (a1 : kc_Sg) : kc_Sg := if (kp_K_isWiped a1 i1) = 0 then (kc_up a1 4 i1 (kp_G_addNumbers a1 (a1 4 i1) (kp_V_hadFrom a1 d i1))) else a1
def kf_K_takeOver_2 (d : Nat) (i2 : Nat) (a2 : kc_Sg) : kc_Sg := (kc_up a2 5 i2 (kp_G_multiply a2 (a2 5 i2) (a2 (22 + d) i2)))
def kq_K_takeOver (σ : kc_Sg) (d : Nat) : kc_Sg := (kc_it (kf_K_takeOver_2 d) 4 0 (kc_it (kf_K_takeOver_1 d) 7 1 σ))
set_option maxHeartbeats 4000000 in
set_option maxRecDepth 100000 in
theorem kk_K_takeOver (l : Launch) {V : kc_V} (hV : kc_G V) (σ : kc_Sg) (d : Nat) (hp : ¬ σ 1 0 = 0) (hq : ¬ σ 1 1 = 0) (hd : d < 8) : kc_Met l y_K_takeOver b_K_takeOver 4 none (kc_rm 2) V [.ref (kc_ad V 0), .int (nI d)] σ none (kq_K_takeOver σ d) := by
  refine kc_of (by decide) (Nat.le_of_ble_eq_true rfl) hV.ok (fun C _ hC => ?_)
  show kc_Go C V 4 (0, 0) (kc_E C V none (kq_K_takeOver σ d)) σ 0 [(0, .ref (kc_ad V 0)), (1, .int (nI d))] []
  refine kg_iconst hC d_K_takeOver_0 kn_i_1 ?_
  refine kg_istore_n hC d_K_takeOver_1 [(2, .int (nI 1)), (0, .ref (kc_ad V 0)), (1, .int (nI d))] rfl (by decide) ?_
  refine kc_loop (fun i1 a1 => a1 1 = σ 1 → kc_Go C V 4 (0, 0) (kc_E C V none (kq_K_takeOver σ d)) a1 2 [(2, .int (nI i1)), (0, .ref (kc_ad V 0)), (1, .int (nI d))] []) (kf_K_takeOver_1 d) 1 8 (fun i1 a1 ho1 hi1 hk1 hv1 => ?_) 7 1 σ (Nat.le_refl _) rfl (fun hw1 => ?_) rfl
  · refine kg_iload_n hC d_K_takeOver_2 0 rfl ?_
    refine kg_bipush hC d_K_takeOver_3 kn_b_7 ?_
    refine kg_icmp_gt hC d_K_takeOver_5 (tgt := 50) rfl (fun q => absurd q (nI_nlt (by omega) (by decide))) (fun _ => ?_)
    refine kg_aload_n hC d_K_takeOver_8 1 rfl ?_
    refine kg_iload_n hC d_K_takeOver_9 0 rfl ?_
    refine kg_virtualI hC (kk_K_isWiped (kc_l C) hV a1 i1 (by omega)) cal_K_isWiped tw_462 ts_K_isWiped tw_460 (ko_0 hV) rfl rfl (by decide) (rest := []) rfl (Nat.le_of_ble_eq_true rfl) d_K_takeOver_10 ?_ (by decide)
    refine kg_if_ne hC d_K_takeOver_13 (tgt := 44) rfl (fun h13 => ?_) (fun h13 => ?_)
    · refine kg_iinc hC d_K_takeOver_44 0 rfl (kn_inc1 i1) [(2, .int (nI (i1 + 1))), (0, .ref (kc_ad V 0)), (1, .int (nI d))] rfl (by decide) ?_
      refine kg_goto hC d_K_takeOver_47 (tgt := 2) rfl ?_
      exact kg_to (P := fun zz => zz 1 = σ 1 → kc_Go C V 4 (0, 0) (kc_E C V none (kq_K_takeOver σ d)) zz 2 [(2, .int (nI (i1 + 1))), (0, .ref (kc_ad V 0)), (1, .int (nI d))] []) (b := a1) (a := (kf_K_takeOver_1 d) i1 a1) (by rw [kf_K_takeOver_1, if_neg h13]) hk1 hv1
    · refine kg_aload_n hC d_K_takeOver_16 1 rfl ?_
      refine kg_getr hC (ko_0 hV) rfl ui_K (j := 3) (by decide) tw_95 rfl d_K_takeOver_17 rfl ?_
      refine kg_iload_n hC d_K_takeOver_20 0 rfl ?_
      refine kg_aload_n hC d_K_takeOver_21 1 rfl ?_
      refine kg_getr hC (ko_0 hV) rfl ui_K (j := 0) (by decide) tw_92 rfl d_K_takeOver_22 rfl ?_
      refine kg_aload_n hC d_K_takeOver_25 1 rfl ?_
      refine kg_getr hC (ko_0 hV) rfl ui_K (j := 3) (by decide) tw_95 rfl d_K_takeOver_26 rfl ?_
      refine kg_iload_n hC d_K_takeOver_29 0 rfl ?_
      refine kg_at (pc' := 30) rfl ?_
      refine kg_iald hC (ka_4 hV) (i := i1) rfl (by omega) d_K_takeOver_30 ?_
      refine kg_aload_n hC d_K_takeOver_31 1 rfl ?_
      refine kg_getr hC (ko_0 hV) rfl ui_K (j := 2) (by decide) tw_94 rfl d_K_takeOver_32 rfl ?_
      refine kg_iload_n hC d_K_takeOver_35 2 rfl ?_
      refine kg_iload_n hC d_K_takeOver_36 0 rfl ?_
      refine kg_virtualI hC (kk_V_hadFrom (kc_l C) hV a1 d i1 hd (by omega)) cal_V_hadFrom tw_465 tw_466 tw_464 (ko_3 hV) rfl rfl (by decide) (rest := [.int (a1 4 i1), .ref (kc_ad V 1), .int (nI i1), .ref (kc_ad V 4)]) rfl (Nat.le_of_ble_eq_true rfl) d_K_takeOver_37 ?_ (by decide)
      refine kg_virtualI hC (kk_G_addNumbers (kc_l C) hV a1 (a1 4 i1) (kp_V_hadFrom a1 d i1) (by rw [hv1]; exact hq)) cal_G_addNumbers tw_264 tw_265 tw_468 (ko_1 hV) rfl rfl (by decide) (rest := [.int (nI i1), .ref (kc_ad V 4)]) rfl (Nat.le_of_ble_eq_true rfl) d_K_takeOver_40 ?_ (by decide)
      refine kg_iast hC (ka_4 hV) (i := i1) rfl (by omega) d_K_takeOver_43 ?_
      refine kg_at (pc' := 44) rfl ?_
      refine kg_iinc hC d_K_takeOver_44 0 rfl (kn_inc1 i1) [(2, .int (nI (i1 + 1))), (0, .ref (kc_ad V 0)), (1, .int (nI d))] rfl (by decide) ?_
      refine kg_goto hC d_K_takeOver_47 (tgt := 2) rfl ?_
      exact kg_to (P := fun zz => zz 1 = σ 1 → kc_Go C V 4 (0, 0) (kc_E C V none (kq_K_takeOver σ d)) zz 2 [(2, .int (nI (i1 + 1))), (0, .ref (kc_ad V 0)), (1, .int (nI d))] []) (b := (kc_up a1 4 i1 (kp_G_addNumbers a1 (a1 4 i1) (kp_V_hadFrom a1 d i1)))) (a := (kf_K_takeOver_1 d) i1 a1) (by rw [kf_K_takeOver_1, if_pos h13]) hk1 (by rw [kc_up_ne (by omega)]; exact hv1)
  generalize hg1 : (kc_it (kf_K_takeOver_1 d) 7 1 σ) = τ1 at hw1 ⊢
  refine kg_iload_n hC d_K_takeOver_2 0 rfl ?_
  refine kg_bipush hC d_K_takeOver_3 kn_b_7 ?_
  refine kg_icmp_gt hC d_K_takeOver_5 (tgt := 50) rfl (fun _ => ?_) (fun q => absurd (nI_lt (by decide) (by decide)) q)
  refine kg_aload_n hC d_K_takeOver_50 1 rfl ?_
  refine kg_getr hC (ko_0 hV) rfl ui_K (j := 2) (by decide) tw_94 rfl d_K_takeOver_51 rfl ?_
  refine kg_iload_n hC d_K_takeOver_54 2 rfl ?_
  refine kg_virtualI hC (kk_V_commitmentsOf (kc_l C) hV τ1 d hd) cal_V_commitmentsOf tw_378 tw_379 tw_377 (ko_3 hV) rfl rfl (by decide) (rest := []) rfl (Nat.le_of_ble_eq_true rfl) d_K_takeOver_55 ?_ (by decide)
  refine kg_astore_n hC d_K_takeOver_58 [(2, .ref (kc_ad V (22 + d))), (0, .ref (kc_ad V 0)), (1, .int (nI d))] rfl (by decide) ?_
  refine kg_at (pc' := 59) rfl ?_
  refine kg_iconst hC d_K_takeOver_59 kn_i_0 ?_
  refine kg_istore_n hC d_K_takeOver_60 [(3, .int (nI 0)), (2, .ref (kc_ad V (22 + d))), (0, .ref (kc_ad V 0)), (1, .int (nI d))] rfl (by decide) ?_
  refine kc_loop (fun i2 a2 => a2 1 = σ 1 → kc_Go C V 4 (0, 0) (kc_E C V none (kq_K_takeOver σ d)) a2 61 [(3, .int (nI i2)), (2, .ref (kc_ad V (22 + d))), (0, .ref (kc_ad V 0)), (1, .int (nI d))] []) (kf_K_takeOver_2 d) 0 4 (fun i2 a2 ho2 hi2 hk2 hv2 => ?_) 4 0 τ1 (Nat.le_refl _) rfl (fun hw2 => ?_) hw1
  · refine kg_iload_n hC d_K_takeOver_61 0 rfl ?_
    refine kg_iconst hC d_K_takeOver_62 kn_i_4 ?_
    refine kg_icmp_ge hC d_K_takeOver_63 (tgt := 94) rfl (fun q => absurd q (nI_ge (by omega) (by decide))) (fun _ => ?_)
    refine kg_aload_n hC d_K_takeOver_66 2 rfl ?_
    refine kg_getr hC (ko_0 hV) rfl ui_K (j := 4) (by decide) tw_96 rfl d_K_takeOver_67 rfl ?_
    refine kg_iload_n hC d_K_takeOver_70 0 rfl ?_
    refine kg_aload_n hC d_K_takeOver_71 2 rfl ?_
    refine kg_getr hC (ko_0 hV) rfl ui_K (j := 0) (by decide) tw_92 rfl d_K_takeOver_72 rfl ?_
    refine kg_at (pc' := 75) rfl ?_
    refine kg_aload_n hC d_K_takeOver_75 2 rfl ?_
    refine kg_getr hC (ko_0 hV) rfl ui_K (j := 4) (by decide) tw_96 rfl d_K_takeOver_76 rfl ?_
    refine kg_iload_n hC d_K_takeOver_79 0 rfl ?_
    refine kg_iald hC (ka_5 hV) (i := i2) rfl (by omega) d_K_takeOver_80 ?_
    refine kg_aload_n hC d_K_takeOver_81 1 rfl ?_
    refine kg_iload_n hC d_K_takeOver_82 0 rfl ?_
    refine kg_iald hC (ka_22 hV hd) (i := i2) rfl (by omega) d_K_takeOver_83 ?_
    refine kg_virtualI hC (kk_G_multiply (kc_l C) hV a2 (a2 5 i2) (a2 (22 + d) i2) (by rw [hv2]; exact hp)) cal_G_multiply tw_416 tw_417 tw_469 (ko_1 hV) rfl rfl (by decide) (rest := [.int (nI i2), .ref (kc_ad V 5)]) rfl (Nat.le_of_ble_eq_true rfl) d_K_takeOver_84 ?_ (by decide)
    refine kg_at (pc' := 87) rfl ?_
    refine kg_iast hC (ka_5 hV) (i := i2) rfl (by omega) d_K_takeOver_87 ?_
    refine kg_iinc hC d_K_takeOver_88 0 rfl (kn_inc1 i2) [(3, .int (nI (i2 + 1))), (2, .ref (kc_ad V (22 + d))), (0, .ref (kc_ad V 0)), (1, .int (nI d))] rfl (by decide) ?_
    refine kg_goto hC d_K_takeOver_91 (tgt := 61) rfl ?_
    exact kg_to (P := fun zz => zz 1 = σ 1 → kc_Go C V 4 (0, 0) (kc_E C V none (kq_K_takeOver σ d)) zz 61 [(3, .int (nI (i2 + 1))), (2, .ref (kc_ad V (22 + d))), (0, .ref (kc_ad V 0)), (1, .int (nI d))] []) (b := (kc_up a2 5 i2 (kp_G_multiply a2 (a2 5 i2) (a2 (22 + d) i2)))) (a := (kf_K_takeOver_2 d) i2 a2) (by rw [kf_K_takeOver_2]) hk2 (by rw [kc_up_ne (by omega)]; exact hv2)
  generalize hg2 : (kc_it (kf_K_takeOver_2 d) 4 0 τ1) = τ2 at hw2 ⊢
  refine kg_iload_n hC d_K_takeOver_61 0 rfl ?_
  refine kg_iconst hC d_K_takeOver_62 kn_i_4 ?_
  refine kg_icmp_ge hC d_K_takeOver_63 (tgt := 94) rfl (fun _ => ?_) (fun q => absurd (nI_le (by decide) (by decide)) q)
  exact kg_vret hC d_K_takeOver_94 (by rw [kq_K_takeOver, hg1, hg2])
end
section
def kf_V_sendOut_1 (d : Nat) (i1 : Nat) (a1 : kc_Sg) : kc_Sg := (kc_up a1 (30 + d) i1 (if (kp_V_isCheated a1 d i1) = 0 then (kp_V_rightShare a1 d i1) else (kp_G_addNumbers a1 (kp_V_rightShare a1 d i1) (nI 1))))
def kq_V_sendOut (σ : kc_Sg) (d : Nat) (b : Int32) (c : Int32) (e : Int32) : kc_Sg := (kc_up (kc_up (kc_it (kf_V_sendOut_1 d) 7 1 (kq_G_commitTo (kq_K_writeRow σ (14 + d) (if (σ 8 d) = (nI 3) then (nI 1) else (nI 0)) b c e) (14 + d) (22 + d))) 3 7 (((kc_it (kf_V_sendOut_1 d) 7 1 (kq_G_commitTo (kq_K_writeRow σ (14 + d) (if (σ 8 d) = (nI 3) then (nI 1) else (nI 0)) b c e) (14 + d) (22 + d))) 3 7) ||| (kp_K_bit (nI d)))) 3 8 (((kc_it (kf_V_sendOut_1 d) 7 1 (kq_G_commitTo (kq_K_writeRow σ (14 + d) (if (σ 8 d) = (nI 3) then (nI 1) else (nI 0)) b c e) (14 + d) (22 + d))) 3 8) ||| (kp_K_bit (nI d))))
set_option maxHeartbeats 4000000 in
set_option maxRecDepth 100000 in
theorem kk_V_sendOut (l : Launch) {V : kc_V} (hV : kc_G V) (σ : kc_Sg) (d : Nat) (b : Int32) (c : Int32) (e : Int32) (hp : ¬ σ 1 0 = 0) (hq : ¬ σ 1 1 = 0) (hd : d < 8) : kc_Met l y_V_sendOut b_V_sendOut 7 none (kc_rm 4) V [.ref (kc_ad V 3), .int (nI d), .int b, .int c, .int e] σ none (kq_V_sendOut σ d b c e) := by
  refine kc_of (by decide) (Nat.le_of_ble_eq_true rfl) hV.ok (fun C _ hC => ?_)
  show kc_Go C V 7 (0, 0) (kc_E C V none (kq_V_sendOut σ d b c e)) σ 0 [(0, .ref (kc_ad V 3)), (1, .int (nI d)), (2, .int b), (3, .int c), (4, .int e)] []
  refine kg_aload_n hC d_V_sendOut_0 0 rfl ?_
  refine kg_getr hC (ko_3 hV) rfl ui_V (j := 2) (by decide) tw_66 rfl d_V_sendOut_1 rfl ?_
  refine kg_iload_n hC d_V_sendOut_4 1 rfl ?_
  refine kg_aald hC (ka_9 hV) (i := d) rfl hd d_V_sendOut_5 ?_
  refine kg_aload_n hC d_V_sendOut_6 0 rfl ?_
  refine kg_getr hC (ko_3 hV) rfl ui_V (j := 1) (by decide) tw_65 rfl d_V_sendOut_7 rfl ?_
  refine kg_iload_n hC d_V_sendOut_10 1 rfl ?_
  refine kg_iald hC (ka_8 hV) (i := d) rfl hd d_V_sendOut_11 ?_
  refine kg_at (pc' := 12) rfl ?_
  refine kg_iconst hC d_V_sendOut_12 kn_i_3 ?_
  have j13 : kc_Go C V 7 (0, 0) (kc_E C V none (kq_V_sendOut σ d b c e)) σ 21 [(0, .ref (kc_ad V 3)), (1, .int (nI d)), (2, .int b), (3, .int c), (4, .int e)] [.int (if (σ 8 d) = (nI 3) then (nI 1) else (nI 0)), .ref (kc_ad V (14 + d))] := by
    refine kg_iload_n hC d_V_sendOut_21 2 rfl ?_
    refine kg_iload_n hC d_V_sendOut_22 3 rfl ?_
    refine kg_iload hC d_V_sendOut_23 4 rfl ?_
    refine kg_staticNV hC (kk_K_writeRow (kc_l C) hV σ (14 + d) (if (σ 8 d) = (nI 3) then (nI 1) else (nI 0)) b c e (ka_14 hV hd)) cal_K_writeRow tw_249 kx_V_66 rfl (by decide) (rest := []) rfl (Nat.le_of_ble_eq_true rfl) d_V_sendOut_25 ?_ (by decide)
    refine kg_aload_n hC d_V_sendOut_28 0 rfl ?_
    refine kg_getr hC (ko_3 hV) rfl ui_V (j := 0) (by decide) tw_64 rfl d_V_sendOut_29 rfl ?_
    refine kg_aload_n hC d_V_sendOut_32 0 rfl ?_
    refine kg_getr hC (ko_3 hV) rfl ui_V (j := 2) (by decide) tw_66 rfl d_V_sendOut_33 rfl ?_
    refine kg_at (pc' := 36) rfl ?_
    refine kg_iload_n hC d_V_sendOut_36 1 rfl ?_
    refine kg_aald hC (ka_9 hV) (i := d) rfl hd d_V_sendOut_37 ?_
    refine kg_aload_n hC d_V_sendOut_38 0 rfl ?_
    refine kg_getr hC (ko_3 hV) rfl ui_V (j := 3) (by decide) tw_67 rfl d_V_sendOut_39 rfl ?_
    refine kg_iload_n hC d_V_sendOut_42 1 rfl ?_
    refine kg_aald hC (ka_10 hV) (i := d) rfl hd d_V_sendOut_43 ?_
    refine kg_virtualV hC (kk_G_commitTo (kc_l C) hV (kq_K_writeRow σ (14 + d) (if (σ 8 d) = (nI 3) then (nI 1) else (nI 0)) b c e) (14 + d) (22 + d) (by rw [ke_writeRow (by omega)]; exact hp) (ka_14 hV hd) (ka_22 hV hd) (by omega)) cal_G_commitTo tw_252 tw_253 tw_366 (ko_1 hV) rfl rfl (by decide) (rest := []) rfl (Nat.le_of_ble_eq_true rfl) d_V_sendOut_44 ?_ (by decide)
    refine kg_iconst hC d_V_sendOut_47 kn_i_1 ?_
    refine kg_at (pc' := 48) rfl ?_
    refine kg_istore hC d_V_sendOut_48 [(5, .int (nI 1)), (0, .ref (kc_ad V 3)), (1, .int (nI d)), (2, .int b), (3, .int c), (4, .int e)] rfl (by decide) ?_
    refine kc_loop (fun i1 a1 => a1 1 = σ 1 → kc_Go C V 7 (0, 0) (kc_E C V none (kq_V_sendOut σ d b c e)) a1 50 [(5, .int (nI i1)), (0, .ref (kc_ad V 3)), (1, .int (nI d)), (2, .int b), (3, .int c), (4, .int e)] []) (kf_V_sendOut_1 d) 1 8 (fun i1 a1 ho1 hi1 hk1 hv1 => ?_) 7 1 (kq_G_commitTo (kq_K_writeRow σ (14 + d) (if (σ 8 d) = (nI 3) then (nI 1) else (nI 0)) b c e) (14 + d) (22 + d)) (Nat.le_refl _) rfl (fun hw1 => ?_) (by rw [ke_commitTo (by omega), ke_writeRow (by omega)])
    · refine kg_iload hC d_V_sendOut_50 0 rfl ?_
      refine kg_bipush hC d_V_sendOut_52 kn_b_7 ?_
      refine kg_icmp_gt hC d_V_sendOut_54 (tgt := 106) rfl (fun q => absurd q (nI_nlt (by omega) (by decide))) (fun _ => ?_)
      refine kg_aload_n hC d_V_sendOut_57 1 rfl ?_
      refine kg_iload_n hC d_V_sendOut_58 2 rfl ?_
      refine kg_iload hC d_V_sendOut_59 0 rfl ?_
      refine kg_virtualI hC (kk_V_rightShare (kc_l C) hV a1 d i1 (by rw [hv1]; exact hq) hd) cal_V_rightShare tw_369 ts_V_rightShare tw_367 (ko_3 hV) rfl rfl (by decide) (rest := []) rfl (Nat.le_of_ble_eq_true rfl) d_V_sendOut_61 ?_ (by decide)
      refine kg_istore hC d_V_sendOut_64 [(6, .int (kp_V_rightShare a1 d i1)), (5, .int (nI i1)), (0, .ref (kc_ad V 3)), (1, .int (nI d)), (2, .int b), (3, .int c), (4, .int e)] rfl (by decide) ?_
      refine kg_at (pc' := 66) rfl ?_
      refine kg_aload_n hC d_V_sendOut_66 2 rfl ?_
      refine kg_getr hC (ko_3 hV) rfl ui_V (j := 4) (by decide) tw_68 rfl d_V_sendOut_67 rfl ?_
      refine kg_iload_n hC d_V_sendOut_70 3 rfl ?_
      refine kg_aald hC (ka_11 hV) (i := d) rfl hd d_V_sendOut_71 ?_
      refine kg_iload hC d_V_sendOut_72 1 rfl ?_
      refine kg_aload_n hC d_V_sendOut_74 2 rfl ?_
      refine kg_iload_n hC d_V_sendOut_75 3 rfl ?_
      refine kg_iload hC d_V_sendOut_76 1 rfl ?_
      refine kg_at (pc' := 78) rfl ?_
      refine kg_virtualI hC (kk_V_isCheated (kc_l C) hV a1 d i1 hd) cal_V_isCheated tw_374 ts_V_isCheated tw_372 (ko_3 hV) rfl rfl (by decide) (rest := [.int (nI i1), .ref (kc_ad V (30 + d))]) rfl (Nat.le_of_ble_eq_true rfl) d_V_sendOut_78 ?_ (by decide)
      have j81 : kc_Go C V 7 (0, 0) (kc_E C V none (kq_V_sendOut σ d b c e)) a1 99 [(6, .int (kp_V_rightShare a1 d i1)), (5, .int (nI i1)), (0, .ref (kc_ad V 3)), (1, .int (nI d)), (2, .int b), (3, .int c), (4, .int e)] [.int (if (kp_V_isCheated a1 d i1) = 0 then (kp_V_rightShare a1 d i1) else (kp_G_addNumbers a1 (kp_V_rightShare a1 d i1) (nI 1))), .int (nI i1), .ref (kc_ad V (30 + d))] := by
        refine kg_iast hC (ka_30 hV hd) (i := i1) rfl (by omega) d_V_sendOut_99 ?_
        refine kg_iinc hC d_V_sendOut_100 1 rfl (kn_inc1 i1) [(5, .int (nI (i1 + 1))), (6, .int (kp_V_rightShare a1 d i1)), (0, .ref (kc_ad V 3)), (1, .int (nI d)), (2, .int b), (3, .int c), (4, .int e)] rfl (by decide) ?_
        refine kg_goto hC d_V_sendOut_103 (tgt := 50) rfl ?_
        refine kg_loc [0, 2, 3, 4, 5, 6] (L' := [(5, .int (nI (i1 + 1))), (0, .ref (kc_ad V 3)), (1, .int (nI d)), (2, .int b), (3, .int c), (4, .int e)]) rfl ?_
        exact kg_to (P := fun zz => zz 1 = σ 1 → kc_Go C V 7 (0, 0) (kc_E C V none (kq_V_sendOut σ d b c e)) zz 50 [(5, .int (nI (i1 + 1))), (0, .ref (kc_ad V 3)), (1, .int (nI d)), (2, .int b), (3, .int c), (4, .int e)] []) (b := (kc_up a1 (30 + d) i1 (if (kp_V_isCheated a1 d i1) = 0 then (kp_V_rightShare a1 d i1) else (kp_G_addNumbers a1 (kp_V_rightShare a1 d i1) (nI 1))))) (a := (kf_V_sendOut_1 d) i1 a1) (by rw [kf_V_sendOut_1]) hk1 (by rw [kc_up_ne (by omega)]; exact hv1)
      refine kg_if_eq hC d_V_sendOut_81 (tgt := 97) rfl (fun h81 => ?_) (fun h81 => ?_)
      · refine kg_iload hC d_V_sendOut_97 0 rfl ?_
        exact kg_to (P := fun zz => kc_Go C V 7 (0, 0) (kc_E C V none (kq_V_sendOut σ d b c e)) a1 99 [(6, .int (kp_V_rightShare a1 d i1)), (5, .int (nI i1)), (0, .ref (kc_ad V 3)), (1, .int (nI d)), (2, .int b), (3, .int c), (4, .int e)] (.int zz :: [.int (nI i1), .ref (kc_ad V (30 + d))])) (b := (kp_V_rightShare a1 d i1)) (if_pos h81) j81
      · refine kg_aload_n hC d_V_sendOut_84 2 rfl ?_
        refine kg_getr hC (ko_3 hV) rfl ui_V (j := 0) (by decide) tw_64 rfl d_V_sendOut_85 rfl ?_
        refine kg_iload hC d_V_sendOut_88 0 rfl ?_
        refine kg_iconst hC d_V_sendOut_90 kn_i_1 ?_
        refine kg_virtualI hC (kk_G_addNumbers (kc_l C) hV a1 (kp_V_rightShare a1 d i1) (nI 1) (by rw [hv1]; exact hq)) cal_G_addNumbers tw_264 tw_265 tw_376 (ko_1 hV) rfl rfl (by decide) (rest := [.int (nI i1), .ref (kc_ad V (30 + d))]) rfl (Nat.le_of_ble_eq_true rfl) d_V_sendOut_91 ?_ (by decide)
        refine kg_goto hC d_V_sendOut_94 (tgt := 99) rfl ?_
        exact kg_to (P := fun zz => kc_Go C V 7 (0, 0) (kc_E C V none (kq_V_sendOut σ d b c e)) a1 99 [(6, .int (kp_V_rightShare a1 d i1)), (5, .int (nI i1)), (0, .ref (kc_ad V 3)), (1, .int (nI d)), (2, .int b), (3, .int c), (4, .int e)] (.int zz :: [.int (nI i1), .ref (kc_ad V (30 + d))])) (b := (kp_G_addNumbers a1 (kp_V_rightShare a1 d i1) (nI 1))) (if_neg h81) j81
    generalize hg1 : (kc_it (kf_V_sendOut_1 d) 7 1 (kq_G_commitTo (kq_K_writeRow σ (14 + d) (if (σ 8 d) = (nI 3) then (nI 1) else (nI 0)) b c e) (14 + d) (22 + d))) = τ1 at hw1 ⊢
    refine kg_iload hC d_V_sendOut_50 0 rfl ?_
    refine kg_bipush hC d_V_sendOut_52 kn_b_7 ?_
    refine kg_icmp_gt hC d_V_sendOut_54 (tgt := 106) rfl (fun _ => ?_) (fun q => absurd (nI_lt (by decide) (by decide)) q)
    refine kg_aload_n hC d_V_sendOut_106 1 rfl ?_
    refine kg_dup hC d_V_sendOut_107 rfl ?_
    refine kg_geti hC (ko_3 hV) rfl ui_V (j := 7) (by decide) tw_71 rfl d_V_sendOut_108 rfl ?_
    refine kg_iload_n hC d_V_sendOut_111 2 rfl ?_
    refine kg_staticNI hC (kk_K_bit (kc_l C) hV τ1 (nI d)) cal_K_bit tw_306 kx_V_57 rfl (by decide) (rest := [.int (τ1 3 7), .ref (kc_ad V 3)]) rfl (Nat.le_of_ble_eq_true rfl) d_V_sendOut_112 ?_ (by decide)
    refine kg_at (pc' := 115) rfl ?_
    refine kg_ior hC d_V_sendOut_115 ?_
    refine kg_puti hC (ko_3 hV) rfl ui_V ok_V nm_V (j := 7) (by decide) tw_71 rfl rfl rfl rfl d_V_sendOut_116 rfl ?_
    refine kg_aload_n hC d_V_sendOut_119 1 rfl ?_
    refine kg_dup hC d_V_sendOut_120 rfl ?_
    refine kg_geti hC (ko_3 hV) rfl ui_V (j := 8) (by decide) tw_72 rfl d_V_sendOut_121 rfl ?_
    refine kg_top (x' := (τ1 3 8)) (kc_up_nj (by decide)) ?_
    refine kg_iload_n hC d_V_sendOut_124 2 rfl ?_
    refine kg_staticNI hC (kk_K_bit (kc_l C) hV (kc_up τ1 3 7 ((τ1 3 7) ||| (kp_K_bit (nI d)))) (nI d)) cal_K_bit tw_306 kx_V_57 rfl (by decide) (rest := [.int (τ1 3 8), .ref (kc_ad V 3)]) rfl (Nat.le_of_ble_eq_true rfl) d_V_sendOut_125 ?_ (by decide)
    refine kg_ior hC d_V_sendOut_128 ?_
    refine kg_at (pc' := 129) rfl ?_
    refine kg_puti hC (ko_3 hV) rfl ui_V ok_V nm_V (j := 8) (by decide) tw_72 rfl rfl rfl rfl d_V_sendOut_129 rfl ?_
    exact kg_vret hC d_V_sendOut_132 (by rw [kq_V_sendOut, hg1])
  refine kg_icmp_ne hC d_V_sendOut_13 (tgt := 20) rfl (fun h13 => ?_) (fun h13 => ?_)
  · refine kg_iconst hC d_V_sendOut_20 kn_i_0 ?_
    exact kg_to (P := fun zz => kc_Go C V 7 (0, 0) (kc_E C V none (kq_V_sendOut σ d b c e)) σ 21 [(0, .ref (kc_ad V 3)), (1, .int (nI d)), (2, .int b), (3, .int c), (4, .int e)] (.int zz :: [.ref (kc_ad V (14 + d))])) (b := (nI 0)) (if_neg h13) j13
  · refine kg_iconst hC d_V_sendOut_16 kn_i_1 ?_
    refine kg_goto hC d_V_sendOut_17 (tgt := 21) rfl ?_
    exact kg_to (P := fun zz => kc_Go C V 7 (0, 0) (kc_E C V none (kq_V_sendOut σ d b c e)) σ 21 [(0, .ref (kc_ad V 3)), (1, .int (nI d)), (2, .int b), (3, .int c), (4, .int e)] (.int zz :: [.ref (kc_ad V (14 + d))])) (b := (nI 1)) (if_pos h13) j13
end
