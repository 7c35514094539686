-- ===== PART A: goes FIRST, ahead of the names: the tables' words, and 'selects' of the private methods out of them =====
/-- a private method of a class that the tables say can be made, by its rows of tables_1 -/
def lw_okq (q : MethodName × Nat) : Prop := (q.1.cls ≠ "java/lang/invoke/MethodHandle" ∧ q.1.cls ≠ "java/lang/invoke/VarHandle") ∧ Cond.instantiable q.1.cls q.2 ∈ tables_1 ∧ Cond.privateMethod q.1 ∈ tables_1 ∧ Cond.instanceMethod q.1 ∈ tables_1
theorem lw_p0 : lw_okq (⟨"LoafWed", "bad", "()I"⟩, 10) := ⟨⟨by decide +kernel, by decide +kernel⟩, List.mem_of_getElem? (i := 20) (by decide +kernel), List.mem_of_getElem? (i := 288) (by decide +kernel), List.mem_of_getElem? (i := 289) (by decide +kernel)⟩
theorem lw_p1 : lw_okq (⟨"LoafWed", "full", "()I"⟩, 10) := ⟨⟨by decide +kernel, by decide +kernel⟩, List.mem_of_getElem? (i := 20) (by decide +kernel), List.mem_of_getElem? (i := 304) (by decide +kernel), List.mem_of_getElem? (i := 305) (by decide +kernel)⟩
theorem lw_p2 : lw_okq (⟨"LoafWed$Reader", "takeToken", "()V"⟩, 7) := ⟨⟨by decide +kernel, by decide +kernel⟩, List.mem_of_getElem? (i := 138) (by decide +kernel), List.mem_of_getElem? (i := 341) (by decide +kernel), List.mem_of_getElem? (i := 342) (by decide +kernel)⟩
theorem lw_p3 : lw_okq (⟨"LoafWed$Reader", "takeRun", "(II)V"⟩, 7) := ⟨⟨by decide +kernel, by decide +kernel⟩, List.mem_of_getElem? (i := 138) (by decide +kernel), List.mem_of_getElem? (i := 345) (by decide +kernel), List.mem_of_getElem? (i := 346) (by decide +kernel)⟩
theorem lw_p4 : lw_okq (⟨"LoafWed$Reader", "setNumber", "()V"⟩, 7) := ⟨⟨by decide +kernel, by decide +kernel⟩, List.mem_of_getElem? (i := 138) (by decide +kernel), List.mem_of_getElem? (i := 350) (by decide +kernel), List.mem_of_getElem? (i := 351) (by decide +kernel)⟩
theorem lw_p5 : lw_okq (⟨"LoafWed$Reader", "readItem", "(Z)Z"⟩, 7) := ⟨⟨by decide +kernel, by decide +kernel⟩, List.mem_of_getElem? (i := 138) (by decide +kernel), List.mem_of_getElem? (i := 366) (by decide +kernel), List.mem_of_getElem? (i := 367) (by decide +kernel)⟩
theorem lw_p6 : lw_okq (⟨"LoafWed$Reader", "isWord", "(Ljava/lang/String;)Z"⟩, 7) := ⟨⟨by decide +kernel, by decide +kernel⟩, List.mem_of_getElem? (i := 138) (by decide +kernel), List.mem_of_getElem? (i := 371) (by decide +kernel), List.mem_of_getElem? (i := 372) (by decide +kernel)⟩
theorem lw_p7 : lw_okq (⟨"LoafWed$Reader", "takeSemicolon", "()Z"⟩, 7) := ⟨⟨by decide +kernel, by decide +kernel⟩, List.mem_of_getElem? (i := 138) (by decide +kernel), List.mem_of_getElem? (i := 423) (by decide +kernel), List.mem_of_getElem? (i := 424) (by decide +kernel)⟩
theorem lw_p8 : lw_okq (⟨"LoafWed$Reader", "readDamp", "()Z"⟩, 7) := ⟨⟨by decide +kernel, by decide +kernel⟩, List.mem_of_getElem? (i := 138) (by decide +kernel), List.mem_of_getElem? (i := 428) (by decide +kernel), List.mem_of_getElem? (i := 429) (by decide +kernel)⟩
theorem lw_p9 : lw_okq (⟨"LoafWed$Reader", "takeYears", "()I"⟩, 7) := ⟨⟨by decide +kernel, by decide +kernel⟩, List.mem_of_getElem? (i := 138) (by decide +kernel), List.mem_of_getElem? (i := 432) (by decide +kernel), List.mem_of_getElem? (i := 433) (by decide +kernel)⟩
theorem lw_p10 : lw_okq (⟨"LoafWed$Reader", "readDry", "()Z"⟩, 7) := ⟨⟨by decide +kernel, by decide +kernel⟩, List.mem_of_getElem? (i := 138) (by decide +kernel), List.mem_of_getElem? (i := 437) (by decide +kernel), List.mem_of_getElem? (i := 438) (by decide +kernel)⟩
theorem lw_p11 : lw_okq (⟨"LoafWed$Reader", "readPair", "()Z"⟩, 7) := ⟨⟨by decide +kernel, by decide +kernel⟩, List.mem_of_getElem? (i := 138) (by decide +kernel), List.mem_of_getElem? (i := 442) (by decide +kernel), List.mem_of_getElem? (i := 443) (by decide +kernel)⟩
theorem lw_p12 : lw_okq (⟨"LoafWed$Reader", "takeNumber", "(II)Z"⟩, 7) := ⟨⟨by decide +kernel, by decide +kernel⟩, List.mem_of_getElem? (i := 138) (by decide +kernel), List.mem_of_getElem? (i := 446) (by decide +kernel), List.mem_of_getElem? (i := 447) (by decide +kernel)⟩
theorem lw_p13 : lw_okq (⟨"LoafWed$Reader", "readKin", "()Z"⟩, 7) := ⟨⟨by decide +kernel, by decide +kernel⟩, List.mem_of_getElem? (i := 138) (by decide +kernel), List.mem_of_getElem? (i := 452) (by decide +kernel), List.mem_of_getElem? (i := 453) (by decide +kernel)⟩
theorem lw_p14 : lw_okq (⟨"LoafWed", "badTen", "()I"⟩, 10) := ⟨⟨by decide +kernel, by decide +kernel⟩, List.mem_of_getElem? (i := 20) (by decide +kernel), List.mem_of_getElem? (i := 489) (by decide +kernel), List.mem_of_getElem? (i := 490) (by decide +kernel)⟩
theorem lw_p15 : lw_okq (⟨"LoafWed", "no", "()I"⟩, 10) := ⟨⟨by decide +kernel, by decide +kernel⟩, List.mem_of_getElem? (i := 20) (by decide +kernel), List.mem_of_getElem? (i := 493) (by decide +kernel), List.mem_of_getElem? (i := 494) (by decide +kernel)⟩
def lw_privs_1 : List (MethodName × Nat) := [(⟨"LoafWed", "bad", "()I"⟩, 10), (⟨"LoafWed", "full", "()I"⟩, 10), (⟨"LoafWed$Reader", "takeToken", "()V"⟩, 7), (⟨"LoafWed$Reader", "takeRun", "(II)V"⟩, 7), (⟨"LoafWed$Reader", "setNumber", "()V"⟩, 7), (⟨"LoafWed$Reader", "readItem", "(Z)Z"⟩, 7), (⟨"LoafWed$Reader", "isWord", "(Ljava/lang/String;)Z"⟩, 7), (⟨"LoafWed$Reader", "takeSemicolon", "()Z"⟩, 7), (⟨"LoafWed$Reader", "readDamp", "()Z"⟩, 7), (⟨"LoafWed$Reader", "takeYears", "()I"⟩, 7), (⟨"LoafWed$Reader", "readDry", "()Z"⟩, 7), (⟨"LoafWed$Reader", "readPair", "()Z"⟩, 7), (⟨"LoafWed$Reader", "takeNumber", "(II)Z"⟩, 7), (⟨"LoafWed$Reader", "readKin", "()Z"⟩, 7), (⟨"LoafWed", "badTen", "()I"⟩, 10), (⟨"LoafWed", "no", "()I"⟩, 10)]
theorem lw_r1 : ∀ q ∈ lw_privs_1, lw_okq q := List.forall_mem_cons.mpr ⟨lw_p0, List.forall_mem_cons.mpr ⟨lw_p1, List.forall_mem_cons.mpr ⟨lw_p2, List.forall_mem_cons.mpr ⟨lw_p3, List.forall_mem_cons.mpr ⟨lw_p4, List.forall_mem_cons.mpr ⟨lw_p5, List.forall_mem_cons.mpr ⟨lw_p6, List.forall_mem_cons.mpr ⟨lw_p7, List.forall_mem_cons.mpr ⟨lw_p8, List.forall_mem_cons.mpr ⟨lw_p9, List.forall_mem_cons.mpr ⟨lw_p10, List.forall_mem_cons.mpr ⟨lw_p11, List.forall_mem_cons.mpr ⟨lw_p12, List.forall_mem_cons.mpr ⟨lw_p13, List.forall_mem_cons.mpr ⟨lw_p14, List.forall_mem_cons.mpr ⟨lw_p15, fun _ h => absurd h List.not_mem_nil⟩⟩⟩⟩⟩⟩⟩⟩⟩⟩⟩⟩⟩⟩⟩⟩
theorem lw_p16 : lw_okq (⟨"LoafWed$Foresight", "endingInYear", "(LLoafWed$Valley;I)I"⟩, 4) := ⟨⟨by decide +kernel, by decide +kernel⟩, List.mem_of_getElem? (i := 170) (by decide +kernel), List.mem_of_getElem? (i := 547) (by decide +kernel), List.mem_of_getElem? (i := 548) (by decide +kernel)⟩
theorem lw_p17 : lw_okq (⟨"LoafWed$Strings", "mostAlike", "(I)I"⟩, 1) := ⟨⟨by decide +kernel, by decide +kernel⟩, List.mem_of_getElem? (i := 217) (by decide +kernel), List.mem_of_getElem? (i := 616) (by decide +kernel), List.mem_of_getElem? (i := 617) (by decide +kernel)⟩
theorem lw_p18 : lw_okq (⟨"LoafWed$Strings", "howManyHave", "(II)I"⟩, 1) := ⟨⟨by decide +kernel, by decide +kernel⟩, List.mem_of_getElem? (i := 217) (by decide +kernel), List.mem_of_getElem? (i := 620) (by decide +kernel), List.mem_of_getElem? (i := 621) (by decide +kernel)⟩
theorem lw_p19 : lw_okq (⟨"LoafWed$Strings", "passYearByKind", "(LLoafWed$Valley;I)V"⟩, 1) := ⟨⟨by decide +kernel, by decide +kernel⟩, List.mem_of_getElem? (i := 217) (by decide +kernel), List.mem_of_getElem? (i := 625) (by decide +kernel), List.mem_of_getElem? (i := 626) (by decide +kernel)⟩
theorem lw_p20 : lw_okq (⟨"LoafWed$Foresight", "miceEat", "(LLoafWed$Valley;III)V"⟩, 4) := ⟨⟨by decide +kernel, by decide +kernel⟩, List.mem_of_getElem? (i := 170) (by decide +kernel), List.mem_of_getElem? (i := 673) (by decide +kernel), List.mem_of_getElem? (i := 674) (by decide +kernel)⟩
theorem lw_p21 : lw_okq (⟨"LoafWedModel", "refuse", "(I)I"⟩, 23) := ⟨⟨by decide +kernel, by decide +kernel⟩, List.mem_of_getElem? (i := 736) (by decide +kernel), List.mem_of_getElem? (i := 827) (by decide +kernel), List.mem_of_getElem? (i := 828) (by decide +kernel)⟩
theorem lw_p22 : lw_okq (⟨"LoafWedModel", "nextToken", "()V"⟩, 23) := ⟨⟨by decide +kernel, by decide +kernel⟩, List.mem_of_getElem? (i := 736) (by decide +kernel), List.mem_of_getElem? (i := 861) (by decide +kernel), List.mem_of_getElem? (i := 862) (by decide +kernel)⟩
theorem lw_p23 : lw_okq (⟨"LoafWedModel", "letterAt", "(I)I"⟩, 23) := ⟨⟨by decide +kernel, by decide +kernel⟩, List.mem_of_getElem? (i := 736) (by decide +kernel), List.mem_of_getElem? (i := 865) (by decide +kernel), List.mem_of_getElem? (i := 866) (by decide +kernel)⟩
theorem lw_p24 : lw_okq (⟨"LoafWedModel", "isItem", "()Z"⟩, 23) := ⟨⟨by decide +kernel, by decide +kernel⟩, List.mem_of_getElem? (i := 736) (by decide +kernel), List.mem_of_getElem? (i := 872) (by decide +kernel), List.mem_of_getElem? (i := 873) (by decide +kernel)⟩
theorem lw_p25 : lw_okq (⟨"LoafWedModel", "isEnd", "()Z"⟩, 23) := ⟨⟨by decide +kernel, by decide +kernel⟩, List.mem_of_getElem? (i := 736) (by decide +kernel), List.mem_of_getElem? (i := 879) (by decide +kernel), List.mem_of_getElem? (i := 880) (by decide +kernel)⟩
theorem lw_p26 : lw_okq (⟨"LoafWedModel", "yearsTold", "()I"⟩, 23) := ⟨⟨by decide +kernel, by decide +kernel⟩, List.mem_of_getElem? (i := 736) (by decide +kernel), List.mem_of_getElem? (i := 883) (by decide +kernel), List.mem_of_getElem? (i := 884) (by decide +kernel)⟩
theorem lw_p27 : lw_okq (⟨"LoafWedModel", "isNumber", "(II)Z"⟩, 23) := ⟨⟨by decide +kernel, by decide +kernel⟩, List.mem_of_getElem? (i := 736) (by decide +kernel), List.mem_of_getElem? (i := 887) (by decide +kernel), List.mem_of_getElem? (i := 888) (by decide +kernel)⟩
theorem lw_p28 : lw_okq (⟨"LoafWedModel", "note", "()V"⟩, 23) := ⟨⟨by decide +kernel, by decide +kernel⟩, List.mem_of_getElem? (i := 736) (by decide +kernel), List.mem_of_getElem? (i := 898) (by decide +kernel), List.mem_of_getElem? (i := 899) (by decide +kernel)⟩
theorem lw_p29 : lw_okq (⟨"LoafWedModel", "leftBy", "(II)I"⟩, 23) := ⟨⟨by decide +kernel, by decide +kernel⟩, List.mem_of_getElem? (i := 736) (by decide +kernel), List.mem_of_getElem? (i := 902) (by decide +kernel), List.mem_of_getElem? (i := 903) (by decide +kernel)⟩
theorem lw_p30 : lw_okq (⟨"LoafWedModel", "leftOf", "(IIII)I"⟩, 23) := ⟨⟨by decide +kernel, by decide +kernel⟩, List.mem_of_getElem? (i := 736) (by decide +kernel), List.mem_of_getElem? (i := 906) (by decide +kernel), List.mem_of_getElem? (i := 907) (by decide +kernel)⟩
theorem lw_p31 : lw_okq (⟨"LoafWedModel", "goes", "(III)I"⟩, 23) := ⟨⟨by decide +kernel, by decide +kernel⟩, List.mem_of_getElem? (i := 736) (by decide +kernel), List.mem_of_getElem? (i := 910) (by decide +kernel), List.mem_of_getElem? (i := 911) (by decide +kernel)⟩
def lw_privs_2 : List (MethodName × Nat) := [(⟨"LoafWed$Foresight", "endingInYear", "(LLoafWed$Valley;I)I"⟩, 4), (⟨"LoafWed$Strings", "mostAlike", "(I)I"⟩, 1), (⟨"LoafWed$Strings", "howManyHave", "(II)I"⟩, 1), (⟨"LoafWed$Strings", "passYearByKind", "(LLoafWed$Valley;I)V"⟩, 1), (⟨"LoafWed$Foresight", "miceEat", "(LLoafWed$Valley;III)V"⟩, 4), (⟨"LoafWedModel", "refuse", "(I)I"⟩, 23), (⟨"LoafWedModel", "nextToken", "()V"⟩, 23), (⟨"LoafWedModel", "letterAt", "(I)I"⟩, 23), (⟨"LoafWedModel", "isItem", "()Z"⟩, 23), (⟨"LoafWedModel", "isEnd", "()Z"⟩, 23), (⟨"LoafWedModel", "yearsTold", "()I"⟩, 23), (⟨"LoafWedModel", "isNumber", "(II)Z"⟩, 23), (⟨"LoafWedModel", "note", "()V"⟩, 23), (⟨"LoafWedModel", "leftBy", "(II)I"⟩, 23), (⟨"LoafWedModel", "leftOf", "(IIII)I"⟩, 23), (⟨"LoafWedModel", "goes", "(III)I"⟩, 23)]
theorem lw_r2 : ∀ q ∈ lw_privs_2, lw_okq q := List.forall_mem_cons.mpr ⟨lw_p16, List.forall_mem_cons.mpr ⟨lw_p17, List.forall_mem_cons.mpr ⟨lw_p18, List.forall_mem_cons.mpr ⟨lw_p19, List.forall_mem_cons.mpr ⟨lw_p20, List.forall_mem_cons.mpr ⟨lw_p21, List.forall_mem_cons.mpr ⟨lw_p22, List.forall_mem_cons.mpr ⟨lw_p23, List.forall_mem_cons.mpr ⟨lw_p24, List.forall_mem_cons.mpr ⟨lw_p25, List.forall_mem_cons.mpr ⟨lw_p26, List.forall_mem_cons.mpr ⟨lw_p27, List.forall_mem_cons.mpr ⟨lw_p28, List.forall_mem_cons.mpr ⟨lw_p29, List.forall_mem_cons.mpr ⟨lw_p30, List.forall_mem_cons.mpr ⟨lw_p31, fun _ h => absurd h List.not_mem_nil⟩⟩⟩⟩⟩⟩⟩⟩⟩⟩⟩⟩⟩⟩⟩⟩
theorem lw_p32 : lw_okq (⟨"LoafWedModel", "isPair", "(I)Z"⟩, 23) := ⟨⟨by decide +kernel, by decide +kernel⟩, List.mem_of_getElem? (i := 736) (by decide +kernel), List.mem_of_getElem? (i := 921) (by decide +kernel), List.mem_of_getElem? (i := 922) (by decide +kernel)⟩
theorem lw_p33 : lw_okq (⟨"LoafWedModel", "endOf", "(I)I"⟩, 23) := ⟨⟨by decide +kernel, by decide +kernel⟩, List.mem_of_getElem? (i := 736) (by decide +kernel), List.mem_of_getElem? (i := 941) (by decide +kernel), List.mem_of_getElem? (i := 942) (by decide +kernel)⟩
theorem lw_p34 : lw_okq (⟨"LoafWedModel", "layGifts", "(III)V"⟩, 23) := ⟨⟨by decide +kernel, by decide +kernel⟩, List.mem_of_getElem? (i := 736) (by decide +kernel), List.mem_of_getElem? (i := 953) (by decide +kernel), List.mem_of_getElem? (i := 954) (by decide +kernel)⟩
theorem lw_p35 : lw_okq (⟨"LoafWedModel", "kindsOf", "(I)I"⟩, 23) := ⟨⟨by decide +kernel, by decide +kernel⟩, List.mem_of_getElem? (i := 736) (by decide +kernel), List.mem_of_getElem? (i := 973) (by decide +kernel), List.mem_of_getElem? (i := 974) (by decide +kernel)⟩
theorem lw_p36 : lw_okq (⟨"LoafWedModel", "layLoaves", "()V"⟩, 23) := ⟨⟨by decide +kernel, by decide +kernel⟩, List.mem_of_getElem? (i := 736) (by decide +kernel), List.mem_of_getElem? (i := 985) (by decide +kernel), List.mem_of_getElem? (i := 986) (by decide +kernel)⟩
theorem lw_p37 : lw_okq (⟨"LoafWedModel", "isSo", "(I)Z"⟩, 23) := ⟨⟨by decide +kernel, by decide +kernel⟩, List.mem_of_getElem? (i := 736) (by decide +kernel), List.mem_of_getElem? (i := 989) (by decide +kernel), List.mem_of_getElem? (i := 990) (by decide +kernel)⟩
theorem lw_p38 : lw_okq (⟨"LoafWedModel", "tell", "(JJ)V"⟩, 23) := ⟨⟨by decide +kernel, by decide +kernel⟩, List.mem_of_getElem? (i := 736) (by decide +kernel), List.mem_of_getElem? (i := 1006) (by decide +kernel), List.mem_of_getElem? (i := 1007) (by decide +kernel)⟩
theorem lw_p39 : lw_okq (⟨"LoafWedModel", "countOf", "(I)I"⟩, 23) := ⟨⟨by decide +kernel, by decide +kernel⟩, List.mem_of_getElem? (i := 736) (by decide +kernel), List.mem_of_getElem? (i := 1040) (by decide +kernel), List.mem_of_getElem? (i := 1041) (by decide +kernel)⟩
theorem lw_p40 : lw_okq (⟨"LoafWedModel", "add", "(J)V"⟩, 23) := ⟨⟨by decide +kernel, by decide +kernel⟩, List.mem_of_getElem? (i := 736) (by decide +kernel), List.mem_of_getElem? (i := 1049) (by decide +kernel), List.mem_of_getElem? (i := 1050) (by decide +kernel)⟩
def lw_privs_3 : List (MethodName × Nat) := [(⟨"LoafWedModel", "isPair", "(I)Z"⟩, 23), (⟨"LoafWedModel", "endOf", "(I)I"⟩, 23), (⟨"LoafWedModel", "layGifts", "(III)V"⟩, 23), (⟨"LoafWedModel", "kindsOf", "(I)I"⟩, 23), (⟨"LoafWedModel", "layLoaves", "()V"⟩, 23), (⟨"LoafWedModel", "isSo", "(I)Z"⟩, 23), (⟨"LoafWedModel", "tell", "(JJ)V"⟩, 23), (⟨"LoafWedModel", "countOf", "(I)I"⟩, 23), (⟨"LoafWedModel", "add", "(J)V"⟩, 23)]
theorem lw_r3 : ∀ q ∈ lw_privs_3, lw_okq q := List.forall_mem_cons.mpr ⟨lw_p32, List.forall_mem_cons.mpr ⟨lw_p33, List.forall_mem_cons.mpr ⟨lw_p34, List.forall_mem_cons.mpr ⟨lw_p35, List.forall_mem_cons.mpr ⟨lw_p36, List.forall_mem_cons.mpr ⟨lw_p37, List.forall_mem_cons.mpr ⟨lw_p38, List.forall_mem_cons.mpr ⟨lw_p39, List.forall_mem_cons.mpr ⟨lw_p40, fun _ h => absurd h List.not_mem_nil⟩⟩⟩⟩⟩⟩⟩⟩⟩
def lw_privs : List (MethodName × Nat) := lw_privs_1 ++ (lw_privs_2 ++ (lw_privs_3))
def lw_tbl : List Cond := k2_sels lw_privs ++ tables_1
theorem lw_privs_ok : ∀ q ∈ lw_privs, lw_okq q := by
  show ∀ q ∈ lw_privs_1 ++ (lw_privs_2 ++ (lw_privs_3)), lw_okq q
  exact List.forall_mem_append.mpr ⟨lw_r1, List.forall_mem_append.mpr ⟨lw_r2, lw_r3⟩⟩

-- ===== end of PART A =====
def RX0 : String := "LoafWed$Crusts"
def TX0 : u_T := fun k => match k with
  | _ => ("", "", "", false)
def tyX0 : Nat → FieldType := fun k => match k with
  | _ => .int
abbrev wsX00 : List Cond := u_ws RX0 TX0 0
theorem nmX0 : ∀ a, a < 0 → ∀ b, b < 0 → a ≠ b → (TX0 a).2.1 ≠ (TX0 b).2.1 := by decide +kernel
theorem tyX0_ok : ∀ k, k < 0 → parseFieldDescriptor (TX0 k).2.2.1 = some (tyX0 k) := by decide +kernel
abbrev cX0_beginnerWins : ByteArray := prog_2_method_2_code
def yX0_beginnerWins : MethodName := ⟨RX0, "beginnerWins", "(I)I"⟩
abbrev cX0_firstBroken : ByteArray := prog_2_method_3_code
def yX0_firstBroken : MethodName := ⟨RX0, "firstBroken", "(I)I"⟩
def RX1 : String := "LoafWed$Foresight"
def TX1 : u_T := fun k => match k with
  | 0 => ("LoafWed$Foresight", "have", "[I", true)
  | 1 => ("LoafWed$Foresight", "chance", "[J", true)
  | 2 => ("LoafWed$Foresight", "endYear", "I", false)
  | _ => ("LoafWed$Foresight", "endPairs", "I", false)
def tyX1 : Nat → FieldType := fun k => match k with
  | 0 => .array .int
  | 1 => .array .long
  | 2 => .int
  | _ => .int
abbrev wsX10 : List Cond := u_ws RX1 TX1 4
theorem nmX1 : ∀ a, a < 4 → ∀ b, b < 4 → a ≠ b → (TX1 a).2.1 ≠ (TX1 b).2.1 := by decide +kernel
theorem tyX1_ok : ∀ k, k < 4 → parseFieldDescriptor (TX1 k).2.2.1 = some (tyX1 k) := by decide +kernel
abbrev cX1_init : ByteArray := prog_3_method_1_code
def yX1_init : MethodName := ⟨RX1, "<init>", "()V"⟩
abbrev cX1_endOf : ByteArray := prog_3_method_2_code
def yX1_endOf : MethodName := ⟨RX1, "endOf", "(LLoafWed$Valley;I)I"⟩
abbrev cX1_lookForEnds : ByteArray := prog_3_method_3_code
def yX1_lookForEnds : MethodName := ⟨RX1, "lookForEnds", "(LLoafWed$Valley;)V"⟩
abbrev cX1_endingInYear : ByteArray := prog_3_method_4_code
def yX1_endingInYear : MethodName := ⟨RX1, "endingInYear", "(LLoafWed$Valley;I)I"⟩
abbrev cX1_worstDrought : ByteArray := prog_3_method_5_code
def yX1_worstDrought : MethodName := ⟨RX1, "worstDrought", "(LLoafWed$Valley;I)I"⟩
abbrev cX1_loavesBehind : ByteArray := prog_3_method_6_code
def yX1_loavesBehind : MethodName := ⟨RX1, "loavesBehind", "(LLoafWed$Valley;II)I"⟩
abbrev cX1_loavesBySeed : ByteArray := prog_3_method_7_code
def yX1_loavesBySeed : MethodName := ⟨RX1, "loavesBySeed", "(LLoafWed$Valley;III)I"⟩
abbrev cX1_chanceWithMice : ByteArray := prog_3_method_8_code
def yX1_chanceWithMice : MethodName := ⟨RX1, "chanceWithMice", "(LLoafWed$Valley;IIILLoafWed$Fraction;)V"⟩
abbrev cX1_miceEat : ByteArray := prog_3_method_9_code
def yX1_miceEat : MethodName := ⟨RX1, "miceEat", "(LLoafWed$Valley;III)V"⟩
def RX2 : String := "LoafWed$Fraction"
def TX2 : u_T := fun k => match k with
  | 0 => ("LoafWed$Fraction", "above", "J", false)
  | _ => ("LoafWed$Fraction", "below", "J", false)
def tyX2 : Nat → FieldType := fun k => match k with
  | 0 => .long
  | _ => .long
abbrev wsX20 : List Cond := u_ws RX2 TX2 2
theorem nmX2 : ∀ a, a < 2 → ∀ b, b < 2 → a ≠ b → (TX2 a).2.1 ≠ (TX2 b).2.1 := by decide +kernel
theorem tyX2_ok : ∀ k, k < 2 → parseFieldDescriptor (TX2 k).2.2.1 = some (tyX2 k) := by decide +kernel
abbrev cX2_init : ByteArray := prog_4_method_1_code
def yX2_init : MethodName := ⟨RX2, "<init>", "()V"⟩
abbrev cX2_set : ByteArray := prog_4_method_2_code
def yX2_set : MethodName := ⟨RX2, "set", "(JJ)V"⟩
abbrev cX2_commonDivisor : ByteArray := prog_4_method_3_code
def yX2_commonDivisor : MethodName := ⟨RX2, "commonDivisor", "(JJ)J"⟩
def RX3 : String := "LoafWed$Gifts"
def TX3 : u_T := fun k => match k with
  | 0 => ("LoafWed$Gifts", "needA", "I", false)
  | 1 => ("LoafWed$Gifts", "needB", "I", false)
  | 2 => ("LoafWed$Gifts", "least", "I", false)
  | 3 => ("LoafWed$Gifts", "leastToA", "I", false)
  | _ => ("LoafWed$Gifts", "leastToB", "I", false)
def tyX3 : Nat → FieldType := fun k => match k with
  | 0 => .int
  | 1 => .int
  | 2 => .int
  | 3 => .int
  | _ => .int
abbrev wsX30 : List Cond := u_ws RX3 TX3 5
theorem nmX3 : ∀ a, a < 5 → ∀ b, b < 5 → a ≠ b → (TX3 a).2.1 ≠ (TX3 b).2.1 := by decide +kernel
theorem tyX3_ok : ∀ k, k < 5 → parseFieldDescriptor (TX3 k).2.2.1 = some (tyX3 k) := by decide +kernel
abbrev cX3_init : ByteArray := prog_5_method_1_code
def yX3_init : MethodName := ⟨RX3, "<init>", "()V"⟩
abbrev cX3_search : ByteArray := prog_5_method_2_code
def yX3_search : MethodName := ⟨RX3, "search", "(LLoafWed$Valley;III)V"⟩
abbrev cX3_flourNeeded : ByteArray := prog_5_method_3_code
def yX3_flourNeeded : MethodName := ⟨RX3, "flourNeeded", "(LLoafWed$Valley;II)I"⟩
abbrev cX3_share : ByteArray := prog_5_method_4_code
def yX3_share : MethodName := ⟨RX3, "share", "(LLoafWed$Gifts;LLoafWed$Valley;IIIII)V"⟩
def RX4 : String := "LoafWed$Kinds"
def TX4 : u_T := fun k => match k with
  | _ => ("", "", "", false)
def tyX4 : Nat → FieldType := fun k => match k with
  | _ => .int
abbrev wsX40 : List Cond := u_ws RX4 TX4 0
theorem nmX4 : ∀ a, a < 0 → ∀ b, b < 0 → a ≠ b → (TX4 a).2.1 ≠ (TX4 b).2.1 := by decide +kernel
theorem tyX4_ok : ∀ k, k < 0 → parseFieldDescriptor (TX4 k).2.2.1 = some (tyX4 k) := by decide +kernel
abbrev cX4_goes : ByteArray := prog_6_method_2_code
def yX4_goes : MethodName := ⟨RX4, "goes", "(IIII)I"⟩
abbrev cX4_leftAfter : ByteArray := prog_6_method_3_code
def yX4_leftAfter : MethodName := ⟨RX4, "leftAfter", "(IIIII)I"⟩
def RX5 : String := "LoafWed$Past"
def TX5 : u_T := fun k => match k with
  | 0 => ("LoafWed$Past", "rows", "[I", true)
  | 1 => ("LoafWed$Past", "free", "I", false)
  | _ => ("LoafWed$Past", "size", "I", false)
def tyX5 : Nat → FieldType := fun k => match k with
  | 0 => .array .int
  | 1 => .int
  | _ => .int
abbrev wsX50 : List Cond := u_ws RX5 TX5 3
theorem nmX5 : ∀ a, a < 3 → ∀ b, b < 3 → a ≠ b → (TX5 a).2.1 ≠ (TX5 b).2.1 := by decide +kernel
theorem tyX5_ok : ∀ k, k < 3 → parseFieldDescriptor (TX5 k).2.2.1 = some (tyX5 k) := by decide +kernel
abbrev cX5_init : ByteArray := prog_7_method_1_code
def yX5_init : MethodName := ⟨RX5, "<init>", "()V"⟩
abbrev cX5_copy : ByteArray := prog_7_method_2_code
def yX5_copy : MethodName := ⟨RX5, "copy", "(LLoafWed$Past;)V"⟩
abbrev cX5_push : ByteArray := prog_7_method_3_code
def yX5_push : MethodName := ⟨RX5, "push", "(I[I[I)V"⟩
abbrev cX5_pop : ByteArray := prog_7_method_4_code
def yX5_pop : MethodName := ⟨RX5, "pop", "([I[I)I"⟩
def RX6 : String := "LoafWed$Reader"
def TX6 : u_T := fun k => match k with
  | 0 => ("LoafWed$Reader", "signs", "[B", true)
  | 1 => ("LoafWed$Reader", "length", "I", false)
  | 2 => ("LoafWed$Reader", "told", "LLoafWed$Valley;", true)
  | 3 => ("LoafWed$Reader", "token", "I", false)
  | 4 => ("LoafWed$Reader", "first", "I", false)
  | 5 => ("LoafWed$Reader", "behind", "I", false)
  | _ => ("LoafWed$Reader", "number", "I", false)
def tyX6 : Nat → FieldType := fun k => match k with
  | 0 => .array .byte
  | 1 => .int
  | 2 => .object "LoafWed$Valley"
  | 3 => .int
  | 4 => .int
  | 5 => .int
  | _ => .int
abbrev wsX60 : List Cond := u_ws RX6 TX6 7
theorem nmX6 : ∀ a, a < 7 → ∀ b, b < 7 → a ≠ b → (TX6 a).2.1 ≠ (TX6 b).2.1 := by decide +kernel
theorem tyX6_ok : ∀ k, k < 7 → parseFieldDescriptor (TX6 k).2.2.1 = some (tyX6 k) := by decide +kernel
abbrev cX6_init : ByteArray := prog_8_method_1_code
def yX6_init : MethodName := ⟨RX6, "<init>", "()V"⟩
abbrev cX6_addSign : ByteArray := prog_8_method_2_code
def yX6_addSign : MethodName := ⟨RX6, "addSign", "(I)I"⟩
abbrev cX6_empty : ByteArray := prog_8_method_3_code
def yX6_empty : MethodName := ⟨RX6, "empty", "()I"⟩
abbrev cX6_readInto : ByteArray := prog_8_method_4_code
def yX6_readInto : MethodName := ⟨RX6, "readInto", "(LLoafWed$Valley;)I"⟩
abbrev cX6_readItem : ByteArray := prog_8_method_5_code
def yX6_readItem : MethodName := ⟨RX6, "readItem", "(Z)Z"⟩
abbrev cX6_readDamp : ByteArray := prog_8_method_6_code
def yX6_readDamp : MethodName := ⟨RX6, "readDamp", "()Z"⟩
abbrev cX6_readDry : ByteArray := prog_8_method_7_code
def yX6_readDry : MethodName := ⟨RX6, "readDry", "()Z"⟩
abbrev cX6_readPair : ByteArray := prog_8_method_8_code
def yX6_readPair : MethodName := ⟨RX6, "readPair", "()Z"⟩
abbrev cX6_readKin : ByteArray := prog_8_method_9_code
def yX6_readKin : MethodName := ⟨RX6, "readKin", "()Z"⟩
abbrev cX6_takeYears : ByteArray := prog_8_method_10_code
def yX6_takeYears : MethodName := ⟨RX6, "takeYears", "()I"⟩
abbrev cX6_takeNumber : ByteArray := prog_8_method_11_code
def yX6_takeNumber : MethodName := ⟨RX6, "takeNumber", "(II)Z"⟩
abbrev cX6_takeSemicolon : ByteArray := prog_8_method_12_code
def yX6_takeSemicolon : MethodName := ⟨RX6, "takeSemicolon", "()Z"⟩
abbrev cX6_takeToken : ByteArray := prog_8_method_13_code
def yX6_takeToken : MethodName := ⟨RX6, "takeToken", "()V"⟩
abbrev cX6_setNumber : ByteArray := prog_8_method_14_code
def yX6_setNumber : MethodName := ⟨RX6, "setNumber", "()V"⟩
abbrev cX6_takeRun : ByteArray := prog_8_method_15_code
def yX6_takeRun : MethodName := ⟨RX6, "takeRun", "(II)V"⟩
abbrev cX6_isWord : ByteArray := prog_8_method_16_code
def yX6_isWord : MethodName := ⟨RX6, "isWord", "(Ljava/lang/String;)Z"⟩
def RX7 : String := "LoafWed$Strings"
def TX7 : u_T := fun k => match k with
  | _ => ("LoafWed$Strings", "have", "[I", true)
def tyX7 : Nat → FieldType := fun k => match k with
  | _ => .array .int
abbrev wsX70 : List Cond := u_ws RX7 TX7 1
theorem nmX7 : ∀ a, a < 1 → ∀ b, b < 1 → a ≠ b → (TX7 a).2.1 ≠ (TX7 b).2.1 := by decide +kernel
theorem tyX7_ok : ∀ k, k < 1 → parseFieldDescriptor (TX7 k).2.2.1 = some (tyX7 k) := by decide +kernel
abbrev cX7_init : ByteArray := prog_9_method_1_code
def yX7_init : MethodName := ⟨RX7, "<init>", "()V"⟩
abbrev cX7_kindsThatFit : ByteArray := prog_9_method_2_code
def yX7_kindsThatFit : MethodName := ⟨RX7, "kindsThatFit", "(LLoafWed$Valley;I)I"⟩
abbrev cX7_fits : ByteArray := prog_9_method_3_code
def yX7_fits : MethodName := ⟨RX7, "fits", "(LLoafWed$Valley;II)Z"⟩
abbrev cX7_countNext : ByteArray := prog_9_method_4_code
def yX7_countNext : MethodName := ⟨RX7, "countNext", "(LLoafWed$Valley;I)I"⟩
abbrev cX7_passYearByKind : ByteArray := prog_9_method_5_code
def yX7_passYearByKind : MethodName := ⟨RX7, "passYearByKind", "(LLoafWed$Valley;I)V"⟩
abbrev cX7_mostAlike : ByteArray := prog_9_method_6_code
def yX7_mostAlike : MethodName := ⟨RX7, "mostAlike", "(I)I"⟩
abbrev cX7_howManyHave : ByteArray := prog_9_method_7_code
def yX7_howManyHave : MethodName := ⟨RX7, "howManyHave", "(II)I"⟩
abbrev cX7_swaps : ByteArray := prog_9_method_8_code
def yX7_swaps : MethodName := ⟨RX7, "swaps", "(LLoafWed$Valley;I)I"⟩
abbrev cX7_fitsSwapped : ByteArray := prog_9_method_9_code
def yX7_fitsSwapped : MethodName := ⟨RX7, "fitsSwapped", "(LLoafWed$Valley;II)Z"⟩
abbrev cX7_pairsPutBack : ByteArray := prog_9_method_10_code
def yX7_pairsPutBack : MethodName := ⟨RX7, "pairsPutBack", "(LLoafWed$Valley;)I"⟩
abbrev cX7_fitsPutBack : ByteArray := prog_9_method_11_code
def yX7_fitsPutBack : MethodName := ⟨RX7, "fitsPutBack", "(LLoafWed$Valley;I)Z"⟩
abbrev cX7_leftWithMore : ByteArray := prog_9_method_12_code
def yX7_leftWithMore : MethodName := ⟨RX7, "leftWithMore", "(LLoafWed$Valley;III)I"⟩
def RX8 : String := "LoafWed$Valley"
def TX8 : u_T := fun k => match k with
  | 0 => ("LoafWed$Valley", "year", "I", false)
  | 1 => ("LoafWed$Valley", "damp", "I", false)
  | 2 => ("LoafWed$Valley", "dry", "I", false)
  | 3 => ("LoafWed$Valley", "pairs", "I", false)
  | 4 => ("LoafWed$Valley", "kin", "I", false)
  | 5 => ("LoafWed$Valley", "counted", "I", false)
  | 6 => ("LoafWed$Valley", "kind", "[I", true)
  | 7 => ("LoafWed$Valley", "loaves", "[I", true)
  | 8 => ("LoafWed$Valley", "since", "[I", true)
  | 9 => ("LoafWed$Valley", "ended", "[I", true)
  | 10 => ("LoafWed$Valley", "flour", "[I", true)
  | 11 => ("LoafWed$Valley", "countedPair", "[I", true)
  | 12 => ("LoafWed$Valley", "countedYears", "[I", true)
  | 13 => ("LoafWed$Valley", "countedLoaves", "[I", true)
  | _ => ("LoafWed$Valley", "past", "LLoafWed$Past;", true)
def tyX8 : Nat → FieldType := fun k => match k with
  | 0 => .int
  | 1 => .int
  | 2 => .int
  | 3 => .int
  | 4 => .int
  | 5 => .int
  | 6 => .array .int
  | 7 => .array .int
  | 8 => .array .int
  | 9 => .array .int
  | 10 => .array .int
  | 11 => .array .int
  | 12 => .array .int
  | 13 => .array .int
  | _ => .object "LoafWed$Past"
abbrev wsX80 : List Cond := u_ws RX8 TX8 15
theorem nmX8 : ∀ a, a < 15 → ∀ b, b < 15 → a ≠ b → (TX8 a).2.1 ≠ (TX8 b).2.1 := by decide +kernel
theorem tyX8_ok : ∀ k, k < 15 → parseFieldDescriptor (TX8 k).2.2.1 = some (tyX8 k) := by decide +kernel
abbrev cX8_init : ByteArray := prog_10_method_1_code
def yX8_init : MethodName := ⟨RX8, "<init>", "()V"⟩
abbrev cX8_begin : ByteArray := prog_10_method_2_code
def yX8_begin : MethodName := ⟨RX8, "begin", "()V"⟩
abbrev cX8_copy : ByteArray := prog_10_method_3_code
def yX8_copy : MethodName := ⟨RX8, "copy", "(LLoafWed$Valley;)V"⟩
abbrev cX8_hasPair : ByteArray := prog_10_method_4_code
def yX8_hasPair : MethodName := ⟨RX8, "hasPair", "(I)Z"⟩
abbrev cX8_addPair : ByteArray := prog_10_method_5_code
def yX8_addPair : MethodName := ⟨RX8, "addPair", "(II)I"⟩
abbrev cX8_addKin : ByteArray := prog_10_method_6_code
def yX8_addKin : MethodName := ⟨RX8, "addKin", "(I)I"⟩
abbrev cX8_addCounted : ByteArray := prog_10_method_7_code
def yX8_addCounted : MethodName := ⟨RX8, "addCounted", "(III)I"⟩
abbrev cX8_passYear : ByteArray := prog_10_method_8_code
def yX8_passYear : MethodName := ⟨RX8, "passYear", "()I"⟩
abbrev cX8_setLoaves : ByteArray := prog_10_method_9_code
def yX8_setLoaves : MethodName := ⟨RX8, "setLoaves", "(II)V"⟩
abbrev cX8_goBack : ByteArray := prog_10_method_10_code
def yX8_goBack : MethodName := ⟨RX8, "goBack", "()V"⟩
abbrev cX8_leftAs : ByteArray := prog_10_method_11_code
def yX8_leftAs : MethodName := ⟨RX8, "leftAs", "(IIII)I"⟩
abbrev cX8_leftInYear : ByteArray := prog_10_method_12_code
def yX8_leftInYear : MethodName := ⟨RX8, "leftInYear", "(III)I"⟩
abbrev cX8_allLoaves : ByteArray := prog_10_method_13_code
def yX8_allLoaves : MethodName := ⟨RX8, "allLoaves", "()I"⟩
abbrev cX8_digestOn : ByteArray := prog_10_method_14_code
def yX8_digestOn : MethodName := ⟨RX8, "digestOn", "(J)J"⟩
def RX9 : String := "LoafWed"
def TX9 : u_T := fun k => match k with
  | 0 => ("LoafWed", "now", "LLoafWed$Valley;", true)
  | 1 => ("LoafWed", "images", "[LLoafWed$Valley;", true)
  | 2 => ("LoafWed", "reader", "LLoafWed$Reader;", true)
  | 3 => ("LoafWed", "foresight", "LLoafWed$Foresight;", true)
  | 4 => ("LoafWed", "giving", "LLoafWed$Gifts;", true)
  | 5 => ("LoafWed", "strings", "LLoafWed$Strings;", true)
  | 6 => ("LoafWed", "fraction", "LLoafWed$Fraction;", true)
  | 7 => ("LoafWed", "refusedBad", "I", false)
  | 8 => ("LoafWed", "refusedNo", "I", false)
  | _ => ("LoafWed", "refusedFull", "I", false)
def tyX9 : Nat → FieldType := fun k => match k with
  | 0 => .object "LoafWed$Valley"
  | 1 => .array (.object "LoafWed$Valley")
  | 2 => .object "LoafWed$Reader"
  | 3 => .object "LoafWed$Foresight"
  | 4 => .object "LoafWed$Gifts"
  | 5 => .object "LoafWed$Strings"
  | 6 => .object "LoafWed$Fraction"
  | 7 => .int
  | 8 => .int
  | _ => .int
abbrev wsX90 : List Cond := u_ws RX9 TX9 10
theorem nmX9 : ∀ a, a < 10 → ∀ b, b < 10 → a ≠ b → (TX9 a).2.1 ≠ (TX9 b).2.1 := by decide +kernel
theorem tyX9_ok : ∀ k, k < 10 → parseFieldDescriptor (TX9 k).2.2.1 = some (tyX9 k) := by decide +kernel
abbrev cX9_init : ByteArray := prog_1_method_1_code
def yX9_init : MethodName := ⟨RX9, "<init>", "()V"⟩
abbrev cX9_valley : ByteArray := prog_1_method_2_code
def yX9_valley : MethodName := ⟨RX9, "valley", "()I"⟩
abbrev cX9_damp : ByteArray := prog_1_method_3_code
def yX9_damp : MethodName := ⟨RX9, "damp", "(I)I"⟩
abbrev cX9_dry : ByteArray := prog_1_method_4_code
def yX9_dry : MethodName := ⟨RX9, "dry", "(I)I"⟩
abbrev cX9_pair : ByteArray := prog_1_method_5_code
def yX9_pair : MethodName := ⟨RX9, "pair", "(II)I"⟩
abbrev cX9_kin : ByteArray := prog_1_method_6_code
def yX9_kin : MethodName := ⟨RX9, "kin", "(I)I"⟩
abbrev cX9_type : ByteArray := prog_1_method_7_code
def yX9_type : MethodName := ⟨RX9, "type", "(I)I"⟩
abbrev cX9_clear : ByteArray := prog_1_method_8_code
def yX9_clear : MethodName := ⟨RX9, "clear", "()I"⟩
abbrev cX9_read : ByteArray := prog_1_method_9_code
def yX9_read : MethodName := ⟨RX9, "read", "()I"⟩
abbrev cX9_year : ByteArray := prog_1_method_10_code
def yX9_year : MethodName := ⟨RX9, "year", "(I)I"⟩
abbrev cX9_give : ByteArray := prog_1_method_11_code
def yX9_give : MethodName := ⟨RX9, "give", "(II)I"⟩
abbrev cX9_undo : ByteArray := prog_1_method_12_code
def yX9_undo : MethodName := ⟨RX9, "undo", "()I"⟩
abbrev cX9_of : ByteArray := prog_1_method_13_code
def yX9_of : MethodName := ⟨RX9, "of", "(II)I"⟩
abbrev cX9_left : ByteArray := prog_1_method_14_code
def yX9_left : MethodName := ⟨RX9, "left", "(II)I"⟩
abbrev cX9_till : ByteArray := prog_1_method_15_code
def yX9_till : MethodName := ⟨RX9, "till", "(I)I"⟩
abbrev cX9_together : ByteArray := prog_1_method_16_code
def yX9_together : MethodName := ⟨RX9, "together", "(I)I"⟩
abbrev cX9_gifts : ByteArray := prog_1_method_17_code
def yX9_gifts : MethodName := ⟨RX9, "gifts", "(IIII)I"⟩
abbrev cX9_drought : ByteArray := prog_1_method_18_code
def yX9_drought : MethodName := ⟨RX9, "drought", "(I)I"⟩
abbrev cX9_counted : ByteArray := prog_1_method_19_code
def yX9_counted : MethodName := ⟨RX9, "counted", "(III)I"⟩
abbrev cX9_forget : ByteArray := prog_1_method_20_code
def yX9_forget : MethodName := ⟨RX9, "forget", "()I"⟩
abbrev cX9_is : ByteArray := prog_1_method_21_code
def yX9_is : MethodName := ⟨RX9, "is", "(I)I"⟩
abbrev cX9_next : ByteArray := prog_1_method_22_code
def yX9_next : MethodName := ⟨RX9, "next", "(I)I"⟩
abbrev cX9_swapped : ByteArray := prog_1_method_23_code
def yX9_swapped : MethodName := ⟨RX9, "swapped", "(I)I"⟩
abbrev cX9_back : ByteArray := prog_1_method_24_code
def yX9_back : MethodName := ⟨RX9, "back", "()I"⟩
abbrev cX9_crusts : ByteArray := prog_1_method_25_code
def yX9_crusts : MethodName := ⟨RX9, "crusts", "(II)I"⟩
abbrev cX9_mice : ByteArray := prog_1_method_26_code
def yX9_mice : MethodName := ⟨RX9, "mice", "(III)I"⟩
abbrev cX9_years : ByteArray := prog_1_method_27_code
def yX9_years : MethodName := ⟨RX9, "years", "(III)I"⟩
abbrev cX9_part : ByteArray := prog_1_method_28_code
def yX9_part : MethodName := ⟨RX9, "part", "(I)J"⟩
abbrev cX9_image : ByteArray := prog_1_method_29_code
def yX9_image : MethodName := ⟨RX9, "image", "(I)I"⟩
abbrev cX9_from : ByteArray := prog_1_method_30_code
def yX9_from : MethodName := ⟨RX9, "from", "(I)I"⟩
abbrev cX9_status : ByteArray := prog_1_method_31_code
def yX9_status : MethodName := ⟨RX9, "status", "(I)I"⟩
abbrev cX9_count : ByteArray := prog_1_method_32_code
def yX9_count : MethodName := ⟨RX9, "count", "(I)I"⟩
abbrev cX9_digest : ByteArray := prog_1_method_33_code
def yX9_digest : MethodName := ⟨RX9, "digest", "()J"⟩
abbrev cX9_bad : ByteArray := prog_1_method_34_code
def yX9_bad : MethodName := ⟨RX9, "bad", "()I"⟩
abbrev cX9_badTen : ByteArray := prog_1_method_35_code
def yX9_badTen : MethodName := ⟨RX9, "badTen", "()I"⟩
abbrev cX9_no : ByteArray := prog_1_method_36_code
def yX9_no : MethodName := ⟨RX9, "no", "()I"⟩
abbrev cX9_full : ByteArray := prog_1_method_37_code
def yX9_full : MethodName := ⟨RX9, "full", "()I"⟩
abbrev cX9_within : ByteArray := prog_1_method_38_code
def yX9_within : MethodName := ⟨RX9, "within", "(III)Z"⟩
def RX10 : String := "LoafWedModel"
def TX10 : u_T := fun k => match k with
  | 0 => ("LoafWedModel", "now", "[I", true)
  | 1 => ("LoafWedModel", "told", "[I", true)
  | 2 => ("LoafWedModel", "image", "[I", true)
  | 3 => ("LoafWedModel", "isKept", "[Z", true)
  | 4 => ("LoafWedModel", "letters", "I", false)
  | 5 => ("LoafWedModel", "text", "[I", true)
  | 6 => ("LoafWedModel", "position", "I", false)
  | 7 => ("LoafWedModel", "tokenAt", "I", false)
  | 8 => ("LoafWedModel", "token", "I", false)
  | 9 => ("LoafWedModel", "word", "J", false)
  | 10 => ("LoafWedModel", "number", "I", false)
  | 11 => ("LoafWedModel", "items", "I", false)
  | 12 => ("LoafWedModel", "upper", "J", false)
  | 13 => ("LoafWedModel", "lower", "J", false)
  | 14 => ("LoafWedModel", "status", "[I", true)
  | 15 => ("LoafWedModel", "loaves", "[I", true)
  | 16 => ("LoafWedModel", "swaps", "[I", true)
  | 17 => ("LoafWedModel", "giftLeast", "I", false)
  | 18 => ("LoafWedModel", "giftA", "I", false)
  | 19 => ("LoafWedModel", "giftB", "I", false)
  | 20 => ("LoafWedModel", "odds", "[J", true)
  | 21 => ("LoafWedModel", "more", "[J", true)
  | _ => ("LoafWedModel", "mix", "J", false)
def tyX10 : Nat → FieldType := fun k => match k with
  | 0 => .array .int
  | 1 => .array .int
  | 2 => .array .int
  | 3 => .array .boolean
  | 4 => .int
  | 5 => .array .int
  | 6 => .int
  | 7 => .int
  | 8 => .int
  | 9 => .long
  | 10 => .int
  | 11 => .int
  | 12 => .long
  | 13 => .long
  | 14 => .array .int
  | 15 => .array .int
  | 16 => .array .int
  | 17 => .int
  | 18 => .int
  | 19 => .int
  | 20 => .array .long
  | 21 => .array .long
  | _ => .long
abbrev wsX100 : List Cond := u_ws RX10 TX10 23
theorem nmX10 : ∀ a, a < 23 → ∀ b, b < 23 → a ≠ b → (TX10 a).2.1 ≠ (TX10 b).2.1 := by decide +kernel
theorem tyX10_ok : ∀ k, k < 23 → parseFieldDescriptor (TX10 k).2.2.1 = some (tyX10 k) := by decide +kernel
abbrev cX10_init : ByteArray := prog_12_method_1_code
def yX10_init : MethodName := ⟨RX10, "<init>", "()V"⟩
abbrev cX10_layFirst : ByteArray := prog_12_method_2_code
def yX10_layFirst : MethodName := ⟨RX10, "layFirst", "([I)V"⟩
abbrev cX10_in : ByteArray := prog_12_method_3_code
def yX10_in : MethodName := ⟨RX10, "in", "(III)Z"⟩
abbrev cX10_has : ByteArray := prog_12_method_4_code
def yX10_has : MethodName := ⟨RX10, "has", "(II)Z"⟩
abbrev cX10_refuse : ByteArray := prog_12_method_5_code
def yX10_refuse : MethodName := ⟨RX10, "refuse", "(I)I"⟩
abbrev cX10_isPair : ByteArray := prog_12_method_6_code
def yX10_isPair : MethodName := ⟨RX10, "isPair", "(I)Z"⟩
abbrev cX10_valley : ByteArray := prog_12_method_7_code
def yX10_valley : MethodName := ⟨RX10, "valley", "()I"⟩
abbrev cX10_damp : ByteArray := prog_12_method_8_code
def yX10_damp : MethodName := ⟨RX10, "damp", "(I)I"⟩
abbrev cX10_dry : ByteArray := prog_12_method_9_code
def yX10_dry : MethodName := ⟨RX10, "dry", "(I)I"⟩
abbrev cX10_addPair : ByteArray := prog_12_method_10_code
def yX10_addPair : MethodName := ⟨RX10, "addPair", "([III)I"⟩
abbrev cX10_addKin : ByteArray := prog_12_method_11_code
def yX10_addKin : MethodName := ⟨RX10, "addKin", "([II)I"⟩
abbrev cX10_pair : ByteArray := prog_12_method_12_code
def yX10_pair : MethodName := ⟨RX10, "pair", "(II)I"⟩
abbrev cX10_kin : ByteArray := prog_12_method_13_code
def yX10_kin : MethodName := ⟨RX10, "kin", "(I)I"⟩
abbrev cX10_type : ByteArray := prog_12_method_14_code
def yX10_type : MethodName := ⟨RX10, "type", "(I)I"⟩
abbrev cX10_clear : ByteArray := prog_12_method_15_code
def yX10_clear : MethodName := ⟨RX10, "clear", "()I"⟩
abbrev cX10_letterAt : ByteArray := prog_12_method_16_code
def yX10_letterAt : MethodName := ⟨RX10, "letterAt", "(I)I"⟩
abbrev cX10_nextToken : ByteArray := prog_12_method_17_code
def yX10_nextToken : MethodName := ⟨RX10, "nextToken", "()V"⟩
abbrev cX10_wordOf : ByteArray := prog_12_method_18_code
def yX10_wordOf : MethodName := ⟨RX10, "wordOf", "(IIIIII)J"⟩
abbrev cX10_isNumber : ByteArray := prog_12_method_19_code
def yX10_isNumber : MethodName := ⟨RX10, "isNumber", "(II)Z"⟩
abbrev cX10_isEnd : ByteArray := prog_12_method_20_code
def yX10_isEnd : MethodName := ⟨RX10, "isEnd", "()Z"⟩
abbrev cX10_yearsTold : ByteArray := prog_12_method_21_code
def yX10_yearsTold : MethodName := ⟨RX10, "yearsTold", "()I"⟩
abbrev cX10_isItem : ByteArray := prog_12_method_22_code
def yX10_isItem : MethodName := ⟨RX10, "isItem", "()Z"⟩
abbrev cX10_read : ByteArray := prog_12_method_23_code
def yX10_read : MethodName := ⟨RX10, "read", "()I"⟩
abbrev cX10_copy : ByteArray := prog_12_method_24_code
def yX10_copy : MethodName := ⟨RX10, "copy", "([II[II)V"⟩
abbrev cX10_goes : ByteArray := prog_12_method_25_code
def yX10_goes : MethodName := ⟨RX10, "goes", "(III)I"⟩
abbrev cX10_leftOf : ByteArray := prog_12_method_26_code
def yX10_leftOf : MethodName := ⟨RX10, "leftOf", "(IIII)I"⟩
abbrev cX10_leftBy : ByteArray := prog_12_method_27_code
def yX10_leftBy : MethodName := ⟨RX10, "leftBy", "(II)I"⟩
abbrev cX10_note : ByteArray := prog_12_method_28_code
def yX10_note : MethodName := ⟨RX10, "note", "()V"⟩
abbrev cX10_year : ByteArray := prog_12_method_29_code
def yX10_year : MethodName := ⟨RX10, "year", "(I)I"⟩
abbrev cX10_give : ByteArray := prog_12_method_30_code
def yX10_give : MethodName := ⟨RX10, "give", "(II)I"⟩
abbrev cX10_undo : ByteArray := prog_12_method_31_code
def yX10_undo : MethodName := ⟨RX10, "undo", "()I"⟩
abbrev cX10_of : ByteArray := prog_12_method_32_code
def yX10_of : MethodName := ⟨RX10, "of", "(II)I"⟩
abbrev cX10_left : ByteArray := prog_12_method_33_code
def yX10_left : MethodName := ⟨RX10, "left", "(II)I"⟩
abbrev cX10_endOf : ByteArray := prog_12_method_34_code
def yX10_endOf : MethodName := ⟨RX10, "endOf", "(I)I"⟩
abbrev cX10_till : ByteArray := prog_12_method_35_code
def yX10_till : MethodName := ⟨RX10, "till", "(I)I"⟩
abbrev cX10_together : ByteArray := prog_12_method_36_code
def yX10_together : MethodName := ⟨RX10, "together", "(I)I"⟩
abbrev cX10_layGifts : ByteArray := prog_12_method_37_code
def yX10_layGifts : MethodName := ⟨RX10, "layGifts", "(III)V"⟩
abbrev cX10_gifts : ByteArray := prog_12_method_38_code
def yX10_gifts : MethodName := ⟨RX10, "gifts", "(IIII)I"⟩
abbrev cX10_drought : ByteArray := prog_12_method_39_code
def yX10_drought : MethodName := ⟨RX10, "drought", "(I)I"⟩
abbrev cX10_counted : ByteArray := prog_12_method_40_code
def yX10_counted : MethodName := ⟨RX10, "counted", "(III)I"⟩
abbrev cX10_forget : ByteArray := prog_12_method_41_code
def yX10_forget : MethodName := ⟨RX10, "forget", "()I"⟩
abbrev cX10_kindsOf : ByteArray := prog_12_method_42_code
def yX10_kindsOf : MethodName := ⟨RX10, "kindsOf", "(I)I"⟩
abbrev cX10_is : ByteArray := prog_12_method_43_code
def yX10_is : MethodName := ⟨RX10, "is", "(I)I"⟩
abbrev cX10_next : ByteArray := prog_12_method_44_code
def yX10_next : MethodName := ⟨RX10, "next", "(I)I"⟩
abbrev cX10_isSo : ByteArray := prog_12_method_45_code
def yX10_isSo : MethodName := ⟨RX10, "isSo", "(I)Z"⟩
abbrev cX10_layLoaves : ByteArray := prog_12_method_46_code
def yX10_layLoaves : MethodName := ⟨RX10, "layLoaves", "()V"⟩
abbrev cX10_swapped : ByteArray := prog_12_method_47_code
def yX10_swapped : MethodName := ⟨RX10, "swapped", "(I)I"⟩
abbrev cX10_back : ByteArray := prog_12_method_48_code
def yX10_back : MethodName := ⟨RX10, "back", "()I"⟩
abbrev cX10_crusts : ByteArray := prog_12_method_49_code
def yX10_crusts : MethodName := ⟨RX10, "crusts", "(II)I"⟩
abbrev cX10_tell : ByteArray := prog_12_method_50_code
def yX10_tell : MethodName := ⟨RX10, "tell", "(JJ)V"⟩
abbrev cX10_mice : ByteArray := prog_12_method_51_code
def yX10_mice : MethodName := ⟨RX10, "mice", "(III)I"⟩
abbrev cX10_years : ByteArray := prog_12_method_52_code
def yX10_years : MethodName := ⟨RX10, "years", "(III)I"⟩
abbrev cX10_part : ByteArray := prog_12_method_53_code
def yX10_part : MethodName := ⟨RX10, "part", "(I)J"⟩
abbrev cX10_image : ByteArray := prog_12_method_54_code
def yX10_image : MethodName := ⟨RX10, "image", "(I)I"⟩
abbrev cX10_from : ByteArray := prog_12_method_55_code
def yX10_from : MethodName := ⟨RX10, "from", "(I)I"⟩
abbrev cX10_status : ByteArray := prog_12_method_56_code
def yX10_status : MethodName := ⟨RX10, "status", "(I)I"⟩
abbrev cX10_countOf : ByteArray := prog_12_method_57_code
def yX10_countOf : MethodName := ⟨RX10, "countOf", "(I)I"⟩
abbrev cX10_count : ByteArray := prog_12_method_58_code
def yX10_count : MethodName := ⟨RX10, "count", "(I)I"⟩
abbrev cX10_add : ByteArray := prog_12_method_59_code
def yX10_add : MethodName := ⟨RX10, "add", "(J)V"⟩
abbrev cX10_digest : ByteArray := prog_12_method_60_code
def yX10_digest : MethodName := ⟨RX10, "digest", "()J"⟩
def RJ6 : String := "java/lang/Integer"
abbrev cJ6_bitCount_0f7a4 : ByteArray := prog_13_method_49_code
def yJ6_bitCount_0f7a4 : MethodName := ⟨RJ6, "bitCount", "(I)I"⟩
def RJ9 : String := "java/lang/Math"
abbrev cJ9_max_7cf53 : ByteArray := prog_14_method_65_code
def yJ9_max_7cf53 : MethodName := ⟨RJ9, "max", "(II)I"⟩
abbrev cJ9_min_7cf53 : ByteArray := prog_14_method_69_code
def yJ9_min_7cf53 : MethodName := ⟨RJ9, "min", "(II)I"⟩
def RJ0 : String := "java/lang/String"
abbrev cJ0_length_8abf5 : ByteArray := prog_15_method_54_code
def yJ0_length_8abf5 : MethodName := ⟨RJ0, "length", "()I"⟩
abbrev cJ0_charAt_5068e : ByteArray := prog_15_method_56_code
def yJ0_charAt_5068e : MethodName := ⟨RJ0, "charAt", "(I)C"⟩
abbrev cJ0_coder_7d493 : ByteArray := prog_15_method_152_code
def yJ0_coder_7d493 : MethodName := ⟨RJ0, "coder", "()B"⟩
abbrev cJ0_isLatin1_aae02 : ByteArray := prog_15_method_154_code
def yJ0_isLatin1_aae02 : MethodName := ⟨RJ0, "isLatin1", "()Z"⟩
abbrev cJ0_checkIndex_df160 : ByteArray := prog_15_method_155_code
def yJ0_checkIndex_df160 : MethodName := ⟨RJ0, "checkIndex", "(II)V"⟩
def RJ1 : String := "java/lang/StringLatin1"
abbrev cJ1_charAt_3b067 : ByteArray := prog_16_method_2_code
def yJ1_charAt_3b067 : MethodName := ⟨RJ1, "charAt", "([BI)C"⟩
def RJ2 : String := "java/lang/StringUTF16"
abbrev cJ2_getChar_3b067 : ByteArray := prog_17_method_5_code
def yJ2_getChar_3b067 : MethodName := ⟨RJ2, "getChar", "([BI)C"⟩
abbrev cJ2_length_9d52b : ByteArray := prog_17_method_6_code
def yJ2_length_9d52b : MethodName := ⟨RJ2, "length", "([B)I"⟩
abbrev cJ2_charAt_3b067 : ByteArray := prog_17_method_83_code
def yJ2_charAt_3b067 : MethodName := ⟨RJ2, "charAt", "([BI)C"⟩
abbrev cJ2_checkIndex_2214a : ByteArray := prog_17_method_91_code
def yJ2_checkIndex_2214a : MethodName := ⟨RJ2, "checkIndex", "(I[B)V"⟩
def RJ10 : String := "java/lang/System"
def RJ3 : String := "jdk/internal/util/Preconditions"
abbrev cJ3_checkIndex_8e157 : ByteArray := prog_19_method_11_code
def yJ3_checkIndex_8e157 : MethodName := ⟨RJ3, "checkIndex", "(IILjava/util/function/BiFunction;)I"⟩
def RL : String := "LoafWedLaw"
abbrev cL_law : ByteArray := code
def yL_law : MethodName := ⟨RL, "law", "([I)Z"⟩
abbrev vwCl : List vw_C := [(RX1, TX1, 4), (RX2, TX2, 2), (RX3, TX3, 5), (RX5, TX5, 3), (RX6, TX6, 7), (RX7, TX7, 1), (RX8, TX8, 15), (RX9, TX9, 10), (RX10, TX10, 23)]
abbrev MD : Type := MethodName × ByteArray × Nat × Option FieldType
abbrev mX0_beginnerWins : MD := (yX0_beginnerWins, prog_2_method_2_code, 1, (some .int))
abbrev mX0_firstBroken : MD := (yX0_firstBroken, prog_2_method_3_code, 1, (some .int))
abbrev mX1_init : MD := (yX1_init, prog_3_method_1_code, 1, none)
abbrev mX1_endOf : MD := (yX1_endOf, prog_3_method_2_code, 4, (some .int))
abbrev mX1_lookForEnds : MD := (yX1_lookForEnds, prog_3_method_3_code, 5, none)
abbrev mX1_endingInYear : MD := (yX1_endingInYear, prog_3_method_4_code, 5, (some .int))
abbrev mX1_worstDrought : MD := (yX1_worstDrought, prog_3_method_5_code, 6, (some .int))
abbrev mX1_loavesBehind : MD := (yX1_loavesBehind, prog_3_method_6_code, 5, (some .int))
abbrev mX1_loavesBySeed : MD := (yX1_loavesBySeed, prog_3_method_7_code, 9, (some .int))
abbrev mX1_chanceWithMice : MD := (yX1_chanceWithMice, prog_3_method_8_code, 9, none)
abbrev mX1_miceEat : MD := (yX1_miceEat, prog_3_method_9_code, 9, none)
abbrev mX2_init : MD := (yX2_init, prog_4_method_1_code, 1, none)
abbrev mX2_set : MD := (yX2_set, prog_4_method_2_code, 7, none)
abbrev mX2_commonDivisor : MD := (yX2_commonDivisor, prog_4_method_3_code, 11, (some .long))
abbrev mX3_init : MD := (yX3_init, prog_5_method_1_code, 1, none)
abbrev mX3_search : MD := (yX3_search, prog_5_method_2_code, 5, none)
abbrev mX3_flourNeeded : MD := (yX3_flourNeeded, prog_5_method_3_code, 5, (some .int))
abbrev mX3_share : MD := (yX3_share, prog_5_method_4_code, 8, none)
abbrev mX4_goes : MD := (yX4_goes, prog_6_method_2_code, 9, (some .int))
abbrev mX4_leftAfter : MD := (yX4_leftAfter, prog_6_method_3_code, 5, (some .int))
abbrev mX5_init : MD := (yX5_init, prog_7_method_1_code, 1, none)
abbrev mX5_copy : MD := (yX5_copy, prog_7_method_2_code, 2, none)
abbrev mX5_push : MD := (yX5_push, prog_7_method_3_code, 5, none)
abbrev mX5_pop : MD := (yX5_pop, prog_7_method_4_code, 4, (some .int))
abbrev mX6_init : MD := (yX6_init, prog_8_method_1_code, 1, none)
abbrev mX6_addSign : MD := (yX6_addSign, prog_8_method_2_code, 2, (some .int))
abbrev mX6_empty : MD := (yX6_empty, prog_8_method_3_code, 2, (some .int))
abbrev mX6_readInto : MD := (yX6_readInto, prog_8_method_4_code, 3, (some .int))
abbrev mX6_readItem : MD := (yX6_readItem, prog_8_method_5_code, 2, (some .boolean))
abbrev mX6_readDamp : MD := (yX6_readDamp, prog_8_method_6_code, 2, (some .boolean))
abbrev mX6_readDry : MD := (yX6_readDry, prog_8_method_7_code, 2, (some .boolean))
abbrev mX6_readPair : MD := (yX6_readPair, prog_8_method_8_code, 2, (some .boolean))
abbrev mX6_readKin : MD := (yX6_readKin, prog_8_method_9_code, 1, (some .boolean))
abbrev mX6_takeYears : MD := (yX6_takeYears, prog_8_method_10_code, 3, (some .int))
abbrev mX6_takeNumber : MD := (yX6_takeNumber, prog_8_method_11_code, 3, (some .boolean))
abbrev mX6_takeSemicolon : MD := (yX6_takeSemicolon, prog_8_method_12_code, 1, (some .boolean))
abbrev mX6_takeToken : MD := (yX6_takeToken, prog_8_method_13_code, 1, none)
abbrev mX6_setNumber : MD := (yX6_setNumber, prog_8_method_14_code, 2, none)
abbrev mX6_takeRun : MD := (yX6_takeRun, prog_8_method_15_code, 3, none)
abbrev mX6_isWord : MD := (yX6_isWord, prog_8_method_16_code, 3, (some .boolean))
abbrev mX7_init : MD := (yX7_init, prog_9_method_1_code, 1, none)
abbrev mX7_kindsThatFit : MD := (yX7_kindsThatFit, prog_9_method_2_code, 4, (some .int))
abbrev mX7_fits : MD := (yX7_fits, prog_9_method_3_code, 5, (some .boolean))
abbrev mX7_countNext : MD := (yX7_countNext, prog_9_method_4_code, 8, (some .int))
abbrev mX7_passYearByKind : MD := (yX7_passYearByKind, prog_9_method_5_code, 4, none)
abbrev mX7_mostAlike : MD := (yX7_mostAlike, prog_9_method_6_code, 4, (some .int))
abbrev mX7_howManyHave : MD := (yX7_howManyHave, prog_9_method_7_code, 5, (some .int))
abbrev mX7_swaps : MD := (yX7_swaps, prog_9_method_8_code, 5, (some .int))
abbrev mX7_fitsSwapped : MD := (yX7_fitsSwapped, prog_9_method_9_code, 7, (some .boolean))
abbrev mX7_pairsPutBack : MD := (yX7_pairsPutBack, prog_9_method_10_code, 3, (some .int))
abbrev mX7_fitsPutBack : MD := (yX7_fitsPutBack, prog_9_method_11_code, 5, (some .boolean))
abbrev mX7_leftWithMore : MD := (yX7_leftWithMore, prog_9_method_12_code, 6, (some .int))
abbrev mX8_init : MD := (yX8_init, prog_10_method_1_code, 1, none)
abbrev mX8_begin : MD := (yX8_begin, prog_10_method_2_code, 1, none)
abbrev mX8_copy : MD := (yX8_copy, prog_10_method_3_code, 2, none)
abbrev mX8_hasPair : MD := (yX8_hasPair, prog_10_method_4_code, 2, (some .boolean))
abbrev mX8_addPair : MD := (yX8_addPair, prog_10_method_5_code, 3, (some .int))
abbrev mX8_addKin : MD := (yX8_addKin, prog_10_method_6_code, 2, (some .int))
abbrev mX8_addCounted : MD := (yX8_addCounted, prog_10_method_7_code, 4, (some .int))
abbrev mX8_passYear : MD := (yX8_passYear, prog_10_method_8_code, 3, (some .int))
abbrev mX8_setLoaves : MD := (yX8_setLoaves, prog_10_method_9_code, 3, none)
abbrev mX8_goBack : MD := (yX8_goBack, prog_10_method_10_code, 1, none)
abbrev mX8_leftAs : MD := (yX8_leftAs, prog_10_method_11_code, 7, (some .int))
abbrev mX8_leftInYear : MD := (yX8_leftInYear, prog_10_method_12_code, 4, (some .int))
abbrev mX8_allLoaves : MD := (yX8_allLoaves, prog_10_method_13_code, 3, (some .int))
abbrev mX8_digestOn : MD := (yX8_digestOn, prog_10_method_14_code, 6, (some .long))
abbrev mX9_init : MD := (yX9_init, prog_1_method_1_code, 1, none)
abbrev mX9_valley : MD := (yX9_valley, prog_1_method_2_code, 2, (some .int))
abbrev mX9_damp : MD := (yX9_damp, prog_1_method_3_code, 3, (some .int))
abbrev mX9_dry : MD := (yX9_dry, prog_1_method_4_code, 3, (some .int))
abbrev mX9_pair : MD := (yX9_pair, prog_1_method_5_code, 4, (some .int))
abbrev mX9_kin : MD := (yX9_kin, prog_1_method_6_code, 3, (some .int))
abbrev mX9_type : MD := (yX9_type, prog_1_method_7_code, 3, (some .int))
abbrev mX9_clear : MD := (yX9_clear, prog_1_method_8_code, 1, (some .int))
abbrev mX9_read : MD := (yX9_read, prog_1_method_9_code, 1, (some .int))
abbrev mX9_year : MD := (yX9_year, prog_1_method_10_code, 4, (some .int))
abbrev mX9_give : MD := (yX9_give, prog_1_method_11_code, 4, (some .int))
abbrev mX9_undo : MD := (yX9_undo, prog_1_method_12_code, 1, (some .int))
abbrev mX9_of : MD := (yX9_of, prog_1_method_13_code, 3, (some .int))
abbrev mX9_left : MD := (yX9_left, prog_1_method_14_code, 3, (some .int))
abbrev mX9_till : MD := (yX9_till, prog_1_method_15_code, 2, (some .int))
abbrev mX9_together : MD := (yX9_together, prog_1_method_16_code, 2, (some .int))
abbrev mX9_gifts : MD := (yX9_gifts, prog_1_method_17_code, 5, (some .int))
abbrev mX9_drought : MD := (yX9_drought, prog_1_method_18_code, 2, (some .int))
abbrev mX9_counted : MD := (yX9_counted, prog_1_method_19_code, 5, (some .int))
abbrev mX9_forget : MD := (yX9_forget, prog_1_method_20_code, 2, (some .int))
abbrev mX9_is : MD := (yX9_is, prog_1_method_21_code, 2, (some .int))
abbrev mX9_next : MD := (yX9_next, prog_1_method_22_code, 2, (some .int))
abbrev mX9_swapped : MD := (yX9_swapped, prog_1_method_23_code, 2, (some .int))
abbrev mX9_back : MD := (yX9_back, prog_1_method_24_code, 1, (some .int))
abbrev mX9_crusts : MD := (yX9_crusts, prog_1_method_25_code, 4, (some .int))
abbrev mX9_mice : MD := (yX9_mice, prog_1_method_26_code, 4, (some .int))
abbrev mX9_years : MD := (yX9_years, prog_1_method_27_code, 4, (some .int))
abbrev mX9_part : MD := (yX9_part, prog_1_method_28_code, 2, (some .long))
abbrev mX9_image : MD := (yX9_image, prog_1_method_29_code, 3, (some .int))
abbrev mX9_from : MD := (yX9_from, prog_1_method_30_code, 3, (some .int))
abbrev mX9_status : MD := (yX9_status, prog_1_method_31_code, 2, (some .int))
abbrev mX9_count : MD := (yX9_count, prog_1_method_32_code, 2, (some .int))
abbrev mX9_digest : MD := (yX9_digest, prog_1_method_33_code, 4, (some .long))
abbrev mX9_bad : MD := (yX9_bad, prog_1_method_34_code, 1, (some .int))
abbrev mX9_badTen : MD := (yX9_badTen, prog_1_method_35_code, 1, (some .int))
abbrev mX9_no : MD := (yX9_no, prog_1_method_36_code, 1, (some .int))
abbrev mX9_full : MD := (yX9_full, prog_1_method_37_code, 1, (some .int))
abbrev mX9_within : MD := (yX9_within, prog_1_method_38_code, 3, (some .boolean))
abbrev mX10_init : MD := (yX10_init, prog_12_method_1_code, 1, none)
abbrev mX10_layFirst : MD := (yX10_layFirst, prog_12_method_2_code, 2, none)
abbrev mX10_in : MD := (yX10_in, prog_12_method_3_code, 3, (some .boolean))
abbrev mX10_has : MD := (yX10_has, prog_12_method_4_code, 2, (some .boolean))
abbrev mX10_refuse : MD := (yX10_refuse, prog_12_method_5_code, 2, (some .int))
abbrev mX10_isPair : MD := (yX10_isPair, prog_12_method_6_code, 2, (some .boolean))
abbrev mX10_valley : MD := (yX10_valley, prog_12_method_7_code, 2, (some .int))
abbrev mX10_damp : MD := (yX10_damp, prog_12_method_8_code, 3, (some .int))
abbrev mX10_dry : MD := (yX10_dry, prog_12_method_9_code, 3, (some .int))
abbrev mX10_addPair : MD := (yX10_addPair, prog_12_method_10_code, 4, (some .int))
abbrev mX10_addKin : MD := (yX10_addKin, prog_12_method_11_code, 3, (some .int))
abbrev mX10_pair : MD := (yX10_pair, prog_12_method_12_code, 3, (some .int))
abbrev mX10_kin : MD := (yX10_kin, prog_12_method_13_code, 2, (some .int))
abbrev mX10_type : MD := (yX10_type, prog_12_method_14_code, 2, (some .int))
abbrev mX10_clear : MD := (yX10_clear, prog_12_method_15_code, 2, (some .int))
abbrev mX10_letterAt : MD := (yX10_letterAt, prog_12_method_16_code, 2, (some .int))
abbrev mX10_nextToken : MD := (yX10_nextToken, prog_12_method_17_code, 2, none)
abbrev mX10_wordOf : MD := (yX10_wordOf, prog_12_method_18_code, 8, (some .long))
abbrev mX10_isNumber : MD := (yX10_isNumber, prog_12_method_19_code, 3, (some .boolean))
abbrev mX10_isEnd : MD := (yX10_isEnd, prog_12_method_20_code, 1, (some .boolean))
abbrev mX10_yearsTold : MD := (yX10_yearsTold, prog_12_method_21_code, 2, (some .int))
abbrev mX10_isItem : MD := (yX10_isItem, prog_12_method_22_code, 4, (some .boolean))
abbrev mX10_read : MD := (yX10_read, prog_12_method_23_code, 1, (some .int))
abbrev mX10_copy : MD := (yX10_copy, prog_12_method_24_code, 5, none)
abbrev mX10_goes : MD := (yX10_goes, prog_12_method_25_code, 7, (some .int))
abbrev mX10_leftOf : MD := (yX10_leftOf, prog_12_method_26_code, 8, (some .int))
abbrev mX10_leftBy : MD := (yX10_leftBy, prog_12_method_27_code, 3, (some .int))
abbrev mX10_note : MD := (yX10_note, prog_12_method_28_code, 3, none)
abbrev mX10_year : MD := (yX10_year, prog_12_method_29_code, 6, (some .int))
abbrev mX10_give : MD := (yX10_give, prog_12_method_30_code, 4, (some .int))
abbrev mX10_undo : MD := (yX10_undo, prog_12_method_31_code, 3, (some .int))
abbrev mX10_of : MD := (yX10_of, prog_12_method_32_code, 3, (some .int))
abbrev mX10_left : MD := (yX10_left, prog_12_method_33_code, 3, (some .int))
abbrev mX10_endOf : MD := (yX10_endOf, prog_12_method_34_code, 3, (some .int))
abbrev mX10_till : MD := (yX10_till, prog_12_method_35_code, 2, (some .int))
abbrev mX10_together : MD := (yX10_together, prog_12_method_36_code, 10, (some .int))
abbrev mX10_layGifts : MD := (yX10_layGifts, prog_12_method_37_code, 13, none)
abbrev mX10_gifts : MD := (yX10_gifts, prog_12_method_38_code, 5, (some .int))
abbrev mX10_drought : MD := (yX10_drought, prog_12_method_39_code, 7, (some .int))
abbrev mX10_counted : MD := (yX10_counted, prog_12_method_40_code, 5, (some .int))
abbrev mX10_forget : MD := (yX10_forget, prog_12_method_41_code, 2, (some .int))
abbrev mX10_kindsOf : MD := (yX10_kindsOf, prog_12_method_42_code, 7, (some .int))
abbrev mX10_is : MD := (yX10_is, prog_12_method_43_code, 2, (some .int))
abbrev mX10_next : MD := (yX10_next, prog_12_method_44_code, 11, (some .int))
abbrev mX10_isSo : MD := (yX10_isSo, prog_12_method_45_code, 9, (some .boolean))
abbrev mX10_layLoaves : MD := (yX10_layLoaves, prog_12_method_46_code, 2, none)
abbrev mX10_swapped : MD := (yX10_swapped, prog_12_method_47_code, 5, (some .int))
abbrev mX10_back : MD := (yX10_back, prog_12_method_48_code, 3, (some .int))
abbrev mX10_crusts : MD := (yX10_crusts, prog_12_method_49_code, 5, (some .int))
abbrev mX10_tell : MD := (yX10_tell, prog_12_method_50_code, 11, none)
abbrev mX10_mice : MD := (yX10_mice, prog_12_method_51_code, 10, (some .int))
abbrev mX10_years : MD := (yX10_years, prog_12_method_52_code, 9, (some .int))
abbrev mX10_part : MD := (yX10_part, prog_12_method_53_code, 2, (some .long))
abbrev mX10_image : MD := (yX10_image, prog_12_method_54_code, 2, (some .int))
abbrev mX10_from : MD := (yX10_from, prog_12_method_55_code, 2, (some .int))
abbrev mX10_status : MD := (yX10_status, prog_12_method_56_code, 2, (some .int))
abbrev mX10_countOf : MD := (yX10_countOf, prog_12_method_57_code, 4, (some .int))
abbrev mX10_count : MD := (yX10_count, prog_12_method_58_code, 2, (some .int))
abbrev mX10_add : MD := (yX10_add, prog_12_method_59_code, 3, none)
abbrev mX10_digest : MD := (yX10_digest, prog_12_method_60_code, 3, (some .long))
abbrev mJ6_bitCount_0f7a4 : MD := (yJ6_bitCount_0f7a4, prog_13_method_49_code, 1, (some .int))
abbrev mJ9_max_7cf53 : MD := (yJ9_max_7cf53, prog_14_method_65_code, 2, (some .int))
abbrev mJ9_min_7cf53 : MD := (yJ9_min_7cf53, prog_14_method_69_code, 2, (some .int))
abbrev mJ0_length_8abf5 : MD := (yJ0_length_8abf5, prog_15_method_54_code, 1, (some .int))
abbrev mJ0_charAt_5068e : MD := (yJ0_charAt_5068e, prog_15_method_56_code, 2, (some .char))
abbrev mJ0_coder_7d493 : MD := (yJ0_coder_7d493, prog_15_method_152_code, 1, (some .byte))
abbrev mJ0_isLatin1_aae02 : MD := (yJ0_isLatin1_aae02, prog_15_method_154_code, 1, (some .boolean))
abbrev mJ0_checkIndex_df160 : MD := (yJ0_checkIndex_df160, prog_15_method_155_code, 2, none)
abbrev mJ1_charAt_3b067 : MD := (yJ1_charAt_3b067, prog_16_method_2_code, 2, (some .char))
abbrev mJ2_getChar_3b067 : MD := (yJ2_getChar_3b067, prog_17_method_5_code, 2, (some .char))
abbrev mJ2_length_9d52b : MD := (yJ2_length_9d52b, prog_17_method_6_code, 1, (some .int))
abbrev mJ2_charAt_3b067 : MD := (yJ2_charAt_3b067, prog_17_method_83_code, 2, (some .char))
abbrev mJ2_checkIndex_2214a : MD := (yJ2_checkIndex_2214a, prog_17_method_91_code, 2, none)
abbrev mJ3_checkIndex_8e157 : MD := (yJ3_checkIndex_8e157, prog_19_method_11_code, 3, (some .int))
-- no code word: L_law ('LoafWedLaw', 'law', '([I)Z')
abbrev mL_law : MD := (x, code, maxLocals, ret)
def jC : Nat → String := fun ci => match ci with
  | 0 => RX1
  | 1 => RX2
  | 2 => RX3
  | 3 => RX5
  | 4 => RX6
  | 5 => RX7
  | 6 => RX8
  | 7 => RX9
  | _ => RX10
def jT : Nat → u_T := fun ci => match ci with
  | 0 => TX1
  | 1 => TX2
  | 2 => TX3
  | 3 => TX5
  | 4 => TX6
  | 5 => TX7
  | 6 => TX8
  | 7 => TX9
  | _ => TX10
def jty : Nat → Nat → FieldType := fun ci => match ci with
  | 0 => tyX1
  | 1 => tyX2
  | 2 => tyX3
  | 3 => tyX5
  | 4 => tyX6
  | 5 => tyX7
  | 6 => tyX8
  | 7 => tyX9
  | _ => tyX10
def fnm : Nat → Nat := fun ci => match ci with
  | 0 => 4
  | 1 => 2
  | 2 => 5
  | 3 => 3
  | 4 => 7
  | 5 => 1
  | 6 => 15
  | 7 => 10
  | _ => 23
def jNc : Nat := 9
