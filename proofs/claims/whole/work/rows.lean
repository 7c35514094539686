section
-- ===== PART A: goes FIRST, ahead of the names: the tables' words, and 'selects' of the private methods out of them =====
/-- a private method of a class that the tables say can be made, by its rows of tables_1 -/
def lw_okq (q : MethodName × Nat) : Prop := (q.1.cls ≠ "java/lang/invoke/MethodHandle" ∧ q.1.cls ≠ "java/lang/invoke/VarHandle") ∧ Cond.instantiable q.1.cls q.2 ∈ tables_1 ∧ Cond.privateMethod q.1 ∈ tables_1 ∧ Cond.instanceMethod q.1 ∈ tables_1
theorem lw_p0 : lw_okq (⟨"LoafWed", "bad", "()I"⟩, 10) := ⟨⟨by decide +kernel, by decide +kernel⟩, List.mem_of_getElem? (i := 20) (by decide +kernel), List.mem_of_getElem? (i := 288) (by decide +kernel), List.mem_of_getElem? (i := 289) (by decide +kernel)⟩
theorem lw_p1 : lw_okq (⟨"LoafWed", "full", "()I"⟩, 10) := ⟨⟨by decide +kernel, by decide +kernel⟩, List.mem_of_getElem? (i := 20) (by decide +kernel), List.mem_of_getElem? (i := 304) (by decide +kernel), List.mem_of_getElem? (i := 305) (by decide +kernel)⟩
theorem lw_p2 : lw_okq (⟨"LoafWed$Reader", "takeToken", "()V"⟩, 7) := ⟨⟨by decide +kernel, by decide +kernel⟩, List.mem_of_getElem? (i := 138) (by decide +kernel), List.mem_of_getElem? (i := 341) (by decide +kernel), List.mem_of_getElem? (i := 342) (by decide +kernel)⟩
theorem lw_p3 : lw_okq (⟨"LoafWed$Reader", "takeRun", "(II)V"⟩, 7) := ⟨⟨by decide +kernel, by decide +kernel⟩, List.mem_of_getElem? (i := 138) (by decide +kernel), List.mem_of_getElem? (i := 345) (by decide +kernel), List.mem_of_getElem? (i := 346) (by decide +kernel)⟩
theorem lw_p4 : lw_okq (⟨"LoafWed$Reader", "setNumber", "()V"⟩, 7) := ⟨⟨by decide +kernel, by decide +kernel⟩, List.mem_of_getElem? (i := 138) (by decide +kernel), List.mem_of_getElem? (i := 350) (by decide +kernel), List.mem_of_getElem? (i := 351) (by decide +kernel)⟩
theorem lw_p5 : lw_okq (⟨"LoafWed$Reader", "readItem", "(Z)Z"⟩, 7) := ⟨⟨by decide +kernel, by decide +kernel⟩, List.mem_of_getElem? (i := 138) (by decide +kernel), List.mem_of_getElem? (i := 366) (by decide +kernel), List.mem_of_getElem? (i := 367) (by decide +kernel)⟩
theorem lw_p6 : lw_okq (⟨"LoafWed$Reader", "isWord", "(Ljava/lang/String;)Z"⟩, 7) := ⟨⟨by decide +kernel, by decide +kernel⟩, List.mem_of_getElem? (i := 138) (by decide +kernel), List.mem_of_getElem? (i := 371) (by decide +kernel), List.mem_of_getElem? (i := 372) (by decide +kernel)⟩
theorem lw_p7 : lw_okq (⟨"LoafWed$Reader", "takeSemicolon", "()Z"⟩, 7) := ⟨⟨by decide +kernel, by decide +kernel⟩, List.mem_of_getElem? (i := 138) (by decide +kernel), List.mem_of_getElem? (i := 423) (by decide +kernel), List.mem_of_getElem? (i := 424) (by decide +kernel)⟩
theorem lw_p8 : lw_okq (⟨"LoafWed$Reader", "readDamp", "()Z"⟩, 7) := ⟨⟨by decide +kernel, by decide +kernel⟩, List.mem_of_getElem? (i := 138) (by decide +kernel), List.mem_of_getElem? (i := 428) (by decide +kernel), List.mem_of_getElem? (i := 429) (by decide +kernel)⟩
theorem lw_p9 : lw_okq (⟨"LoafWed$Reader", "takeYears", "()I"⟩, 7) := ⟨⟨by decide +kernel, by decide +kernel⟩, List.mem_of_getElem? (i := 138) (by decide +kernel), List.mem_of_getElem? (i := 432) (by decide +kernel), List.mem_of_getElem? (i := 433) (by decide +kernel)⟩
theorem lw_p10 : lw_okq (⟨"LoafWed$Reader", "readDry", "()Z"⟩, 7) := ⟨⟨by decide +kernel, by decide +kernel⟩, List.mem_of_getElem? (i := 138) (by decide +kernel), List.mem_of_getElem? (i := 437) (by decide +kernel), List.mem_of_getElem? (i := 438) (by decide +kernel)⟩
theorem lw_p11 : lw_okq (⟨"LoafWed$Reader", "readPair", "()Z"⟩, 7) := ⟨⟨by decide +kernel, by decide +kernel⟩, List.mem_of_getElem? (i := 138) (by decide +kernel), List.mem_of_getElem? (i := 442) (by decide +kernel), List.mem_of_getElem? (i := 443) (by decide +kernel)⟩
theorem lw_p12 : lw_okq (⟨"LoafWed$Reader", "takeNumber", "(II)Z"⟩, 7) := ⟨⟨by decide +kernel, by decide +kernel⟩, List.mem_of_getElem? (i := 138) (by decide +kernel), List.mem_of_getElem? (i := 446) (by decide +kernel), List.mem_of_getElem? (i := 447) (by decide +kernel)⟩
theorem lw_p13 : lw_okq (⟨"LoafWed$Reader", "readKin", "()Z"⟩, 7) := ⟨⟨by decide +kernel, by decide +kernel⟩, List.mem_of_getElem? (i := 138) (by decide +kernel), List.mem_of_getElem? (i := 452) (by decide +kernel), List.mem_of_getElem? (i := 453) (by decide +kernel)⟩
theorem lw_p14 : lw_okq (⟨"LoafWed", "badTen", "()I"⟩, 10) := ⟨⟨by decide +kernel, by decide +kernel⟩, List.mem_of_getElem? (i := 20) (by decide +kernel), List.mem_of_getElem? (i := 489) (by decide +kernel), List.mem_of_getElem? (i := 490) (by decide +kernel)⟩
theorem lw_p15 : lw_okq (⟨"LoafWed", "no", "()I"⟩, 10) := ⟨⟨by decide +kernel, by decide +kernel⟩, List.mem_of_getElem? (i := 20) (by decide +kernel), List.mem_of_getElem? (i := 493) (by decide +kernel), List.mem_of_getElem? (i := 494) (by decide +kernel)⟩
def lw_privs_1 : List (MethodName × Nat) := [(⟨"LoafWed", "bad", "()I"⟩, 10), (⟨"LoafWed", "full", "()I"⟩, 10), (⟨"LoafWed$Reader", "takeToken", "()V"⟩, 7), (⟨"LoafWed$Reader", "takeRun", "(II)V"⟩, 7), (⟨"LoafWed$Reader", "setNumber", "()V"⟩, 7), (⟨"LoafWed$Reader", "readItem", "(Z)Z"⟩, 7), (⟨"LoafWed$Reader", "isWord", "(Ljava/lang/String;)Z"⟩, 7), (⟨"LoafWed$Reader", "takeSemicolon", "()Z"⟩, 7), (⟨"LoafWed$Reader", "readDamp", "()Z"⟩, 7), (⟨"LoafWed$Reader", "takeYears", "()I"⟩, 7), (⟨"LoafWed$Reader", "readDry", "()Z"⟩, 7), (⟨"LoafWed$Reader", "readPair", "()Z"⟩, 7), (⟨"LoafWed$Reader", "takeNumber", "(II)Z"⟩, 7), (⟨"LoafWed$Reader", "readKin", "()Z"⟩, 7), (⟨"LoafWed", "badTen", "()I"⟩, 10), (⟨"LoafWed", "no", "()I"⟩, 10)]
theorem lw_r1 : ∀ q ∈ lw_privs_1, lw_okq q := List.forall_mem_cons.mpr ⟨lw_p0, List.forall_mem_cons.mpr ⟨lw_p1, List.forall_mem_cons.mpr ⟨lw_p2, List.forall_mem_cons.mpr ⟨lw_p3, List.forall_mem_cons.mpr ⟨lw_p4, List.forall_mem_cons.mpr ⟨lw_p5, List.forall_mem_cons.mpr ⟨lw_p6, List.forall_mem_cons.mpr ⟨lw_p7, List.forall_mem_cons.mpr ⟨lw_p8, List.forall_mem_cons.mpr ⟨lw_p9, List.forall_mem_cons.mpr ⟨lw_p10, List.forall_mem_cons.mpr ⟨lw_p11, List.forall_mem_cons.mpr ⟨lw_p12, List.forall_mem_cons.mpr ⟨lw_p13, List.forall_mem_cons.mpr ⟨lw_p14, List.forall_mem_cons.mpr ⟨lw_p15, fun _ h => absurd h List.not_mem_nil⟩⟩⟩⟩⟩⟩⟩⟩⟩⟩⟩⟩⟩⟩⟩⟩
theorem lw_p16 : lw_okq (⟨"LoafWed$Foresight", "endingInYear", "(LLoafWed$Valley;I)I"⟩, 4) := ⟨⟨by decide +kernel, by decide +kernel⟩, List.mem_of_getElem? (i := 170) (by decide +kernel), List.mem_of_getElem? (i := 547) (by decide +kernel), List.mem_of_getElem? (i := 548) (by decide +kernel)⟩
theorem lw_p17 : lw_okq (⟨"LoafWed$Strings", "mostAlike", "(I)I"⟩, 1) := ⟨⟨by decide +kernel, by decide +kernel⟩, List.mem_of_getElem? (i := 217) (by decide +kernel), List.mem_of_getElem? (i := 616) (by decide +kernel), List.mem_of_getElem? (i := 617) (by decide +kernel)⟩
theorem lw_p18 : lw_okq (⟨"LoafWed$Strings", "howManyHave", "(II)I"⟩, 1) := ⟨⟨by decide +kernel, by decide +kernel⟩, List.mem_of_getElem? (i := 217) (by decide +kernel), List.mem_of_getElem? (i := 620) (by decide +kernel), List.mem_of_getElem? (i := 621) (by decide +kernel)⟩
theorem lw_p19 : lw_okq (⟨"LoafWed$Strings", "passYearByKind", "(LLoafWed$Valley;I)V"⟩, 1) := ⟨⟨by decide +kernel, by decide +kernel⟩, List.mem_of_getElem? (i := 217) (by decide +kernel), List.mem_of_getElem? (i := 625) (by decide +kernel), List.mem_of_getElem? (i := 626) (by decide +kernel)⟩
theorem lw_p20 : lw_okq (⟨"LoafWed$Foresight", "miceEat", "(LLoafWed$Valley;III)V"⟩, 4) := ⟨⟨by decide +kernel, by decide +kernel⟩, List.mem_of_getElem? (i := 170) (by decide +kernel), List.mem_of_getElem? (i := 673) (by decide +kernel), List.mem_of_getElem? (i := 674) (by decide +kernel)⟩
theorem lw_p21 : lw_okq (⟨"LoafWedModel", "refuse", "(I)I"⟩, 23) := ⟨⟨by decide +kernel, by decide +kernel⟩, List.mem_of_getElem? (i := 736) (by decide +kernel), List.mem_of_getElem? (i := 827) (by decide +kernel), List.mem_of_getElem? (i := 828) (by decide +kernel)⟩
theorem lw_p22 : lw_okq (⟨"LoafWedModel", "nextToken", "()V"⟩, 23) := ⟨⟨by decide +kernel, by decide +kernel⟩, List.mem_of_getElem? (i := 736) (by decide +kernel), List.mem_of_getElem? (i := 861) (by decide +kernel), List.mem_of_getElem? (i := 862) (by decide +kernel)⟩
theorem lw_p23 : lw_okq (⟨"LoafWedModel", "letterAt", "(I)I"⟩, 23) := ⟨⟨by decide +kernel, by decide +kernel⟩, List.mem_of_getElem? (i := 736) (by decide +kernel), List.mem_of_getElem? (i := 865) (by decide +kernel), List.mem_of_getElem? (i := 866) (by decide +kernel)⟩
theorem lw_p24 : lw_okq (⟨"LoafWedModel", "isItem", "()Z"⟩, 23) := ⟨⟨by decide +kernel, by decide +kernel⟩, List.mem_of_getElem? (i := 736) (by decide +kernel), List.mem_of_getElem? (i := 872) (by decide +kernel), List.mem_of_getElem? (i := 873) (by decide +kernel)⟩
theorem lw_p25 : lw_okq (⟨"LoafWedModel", "isEnd", "()Z"⟩, 23) := ⟨⟨by decide +kernel, by decide +kernel⟩, List.mem_of_getElem? (i := 736) (by decide +kernel), List.mem_of_getElem? (i := 879) (by decide +kernel), List.mem_of_getElem? (i := 880) (by decide +kernel)⟩
theorem lw_p26 : lw_okq (⟨"LoafWedModel", "yearsTold", "()I"⟩, 23) := ⟨⟨by decide +kernel, by decide +kernel⟩, List.mem_of_getElem? (i := 736) (by decide +kernel), List.mem_of_getElem? (i := 883) (by decide +kernel), List.mem_of_getElem? (i := 884) (by decide +kernel)⟩
theorem lw_p27 : lw_okq (⟨"LoafWedModel", "isNumber", "(II)Z"⟩, 23) := ⟨⟨by decide +kernel, by decide +kernel⟩, List.mem_of_getElem? (i := 736) (by decide +kernel), List.mem_of_getElem? (i := 887) (by decide +kernel), List.mem_of_getElem? (i := 888) (by decide +kernel)⟩
theorem lw_p28 : lw_okq (⟨"LoafWedModel", "note", "()V"⟩, 23) := ⟨⟨by decide +kernel, by decide +kernel⟩, List.mem_of_getElem? (i := 736) (by decide +kernel), List.mem_of_getElem? (i := 898) (by decide +kernel), List.mem_of_getElem? (i := 899) (by decide +kernel)⟩
theorem lw_p29 : lw_okq (⟨"LoafWedModel", "leftBy", "(II)I"⟩, 23) := ⟨⟨by decide +kernel, by decide +kernel⟩, List.mem_of_getElem? (i := 736) (by decide +kernel), List.mem_of_getElem? (i := 902) (by decide +kernel), List.mem_of_getElem? (i := 903) (by decide +kernel)⟩
theorem lw_p30 : lw_okq (⟨"LoafWedModel", "leftOf", "(IIII)I"⟩, 23) := ⟨⟨by decide +kernel, by decide +kernel⟩, List.mem_of_getElem? (i := 736) (by decide +kernel), List.mem_of_getElem? (i := 906) (by decide +kernel), List.mem_of_getElem? (i := 907) (by decide +kernel)⟩
theorem lw_p31 : lw_okq (⟨"LoafWedModel", "goes", "(III)I"⟩, 23) := ⟨⟨by decide +kernel, by decide +kernel⟩, List.mem_of_getElem? (i := 736) (by decide +kernel), List.mem_of_getElem? (i := 910) (by decide +kernel), List.mem_of_getElem? (i := 911) (by decide +kernel)⟩
def lw_privs_2 : List (MethodName × Nat) := [(⟨"LoafWed$Foresight", "endingInYear", "(LLoafWed$Valley;I)I"⟩, 4), (⟨"LoafWed$Strings", "mostAlike", "(I)I"⟩, 1), (⟨"LoafWed$Strings", "howManyHave", "(II)I"⟩, 1), (⟨"LoafWed$Strings", "passYearByKind", "(LLoafWed$Valley;I)V"⟩, 1), (⟨"LoafWed$Foresight", "miceEat", "(LLoafWed$Valley;III)V"⟩, 4), (⟨"LoafWedModel", "refuse", "(I)I"⟩, 23), (⟨"LoafWedModel", "nextToken", "()V"⟩, 23), (⟨"LoafWedModel", "letterAt", "(I)I"⟩, 23), (⟨"LoafWedModel", "isItem", "()Z"⟩, 23), (⟨"LoafWedModel", "isEnd", "()Z"⟩, 23), (⟨"LoafWedModel", "yearsTold", "()I"⟩, 23), (⟨"LoafWedModel", "isNumber", "(II)Z"⟩, 23), (⟨"LoafWedModel", "note", "()V"⟩, 23), (⟨"LoafWedModel", "leftBy", "(II)I"⟩, 23), (⟨"LoafWedModel", "leftOf", "(IIII)I"⟩, 23), (⟨"LoafWedModel", "goes", "(III)I"⟩, 23)]
theorem lw_r2 : ∀ q ∈ lw_privs_2, lw_okq q := List.forall_mem_cons.mpr ⟨lw_p16, List.forall_mem_cons.mpr ⟨lw_p17, List.forall_mem_cons.mpr ⟨lw_p18, List.forall_mem_cons.mpr ⟨lw_p19, List.forall_mem_cons.mpr ⟨lw_p20, List.forall_mem_cons.mpr ⟨lw_p21, List.forall_mem_cons.mpr ⟨lw_p22, List.forall_mem_cons.mpr ⟨lw_p23, List.forall_mem_cons.mpr ⟨lw_p24, List.forall_mem_cons.mpr ⟨lw_p25, List.forall_mem_cons.mpr ⟨lw_p26, List.forall_mem_cons.mpr ⟨lw_p27, List.forall_mem_cons.mpr ⟨lw_p28, List.forall_mem_cons.mpr ⟨lw_p29, List.forall_mem_cons.mpr ⟨lw_p30, List.forall_mem_cons.mpr ⟨lw_p31, fun _ h => absurd h List.not_mem_nil⟩⟩⟩⟩⟩⟩⟩⟩⟩⟩⟩⟩⟩⟩⟩⟩
theorem lw_p32 : lw_okq (⟨"LoafWedModel", "isPair", "(I)Z"⟩, 23) := ⟨⟨by decide +kernel, by decide +kernel⟩, List.mem_of_getElem? (i := 736) (by decide +kernel), List.mem_of_getElem? (i := 921) (by decide +kernel), List.mem_of_getElem? (i := 922) (by decide +kernel)⟩
theorem lw_p33 : lw_okq (⟨"LoafWedModel", "endOf", "(I)I"⟩, 23) := ⟨⟨by decide +kernel, by decide +kernel⟩, List.mem_of_getElem? (i := 736) (by decide +kernel), List.mem_of_getElem? (i := 941) (by decide +kernel), List.mem_of_getElem? (i := 942) (by decide +kernel)⟩
theorem lw_p34 : lw_okq (⟨"LoafWedModel", "layGifts", "(III)V"⟩, 23) := ⟨⟨by decide +kernel, by decide +kernel⟩, List.mem_of_getElem? (i := 736) (by decide +kernel), List.mem_of_getElem? (i := 953) (by decide +kernel), List.mem_of_getElem? (i := 954) (by decide +kernel)⟩
theorem lw_p35 : lw_okq (⟨"LoafWedModel", "kindsOf", "(I)I"⟩, 23) := ⟨⟨by decide +kernel, by decide +kernel⟩, List.mem_of_getElem? (i := 736) (by decide +kernel), List.mem_of_getElem? (i := 973) (by decide +kernel), List.mem_of_getElem? (i := 974) (by decide +kernel)⟩
theorem lw_p36 : lw_okq (⟨"LoafWedModel", "layLoaves", "()V"⟩, 23) := ⟨⟨by decide +kernel, by decide +kernel⟩, List.mem_of_getElem? (i := 736) (by decide +kernel), List.mem_of_getElem? (i := 985) (by decide +kernel), List.mem_of_getElem? (i := 986) (by decide +kernel)⟩
theorem lw_p37 : lw_okq (⟨"LoafWedModel", "isSo", "(I)Z"⟩, 23) := ⟨⟨by decide +kernel, by decide +kernel⟩, List.mem_of_getElem? (i := 736) (by decide +kernel), List.mem_of_getElem? (i := 989) (by decide +kernel), List.mem_of_getElem? (i := 990) (by decide +kernel)⟩
theorem lw_p38 : lw_okq (⟨"LoafWedModel", "tell", "(JJ)V"⟩, 23) := ⟨⟨by decide +kernel, by decide +kernel⟩, List.mem_of_getElem? (i := 736) (by decide +kernel), List.mem_of_getElem? (i := 1006) (by decide +kernel), List.mem_of_getElem? (i := 1007) (by decide +kernel)⟩
theorem lw_p39 : lw_okq (⟨"LoafWedModel", "countOf", "(I)I"⟩, 23) := ⟨⟨by decide +kernel, by decide +kernel⟩, List.mem_of_getElem? (i := 736) (by decide +kernel), List.mem_of_getElem? (i := 1040) (by decide +kernel), List.mem_of_getElem? (i := 1041) (by decide +kernel)⟩
theorem lw_p40 : lw_okq (⟨"LoafWedModel", "add", "(J)V"⟩, 23) := ⟨⟨by decide +kernel, by decide +kernel⟩, List.mem_of_getElem? (i := 736) (by decide +kernel), List.mem_of_getElem? (i := 1049) (by decide +kernel), List.mem_of_getElem? (i := 1050) (by decide +kernel)⟩
def lw_privs_3 : List (MethodName × Nat) := [(⟨"LoafWedModel", "isPair", "(I)Z"⟩, 23), (⟨"LoafWedModel", "endOf", "(I)I"⟩, 23), (⟨"LoafWedModel", "layGifts", "(III)V"⟩, 23), (⟨"LoafWedModel", "kindsOf", "(I)I"⟩, 23), (⟨"LoafWedModel", "layLoaves", "()V"⟩, 23), (⟨"LoafWedModel", "isSo", "(I)Z"⟩, 23), (⟨"LoafWedModel", "tell", "(JJ)V"⟩, 23), (⟨"LoafWedModel", "countOf", "(I)I"⟩, 23), (⟨"LoafWedModel", "add", "(J)V"⟩, 23)]
theorem lw_r3 : ∀ q ∈ lw_privs_3, lw_okq q := List.forall_mem_cons.mpr ⟨lw_p32, List.forall_mem_cons.mpr ⟨lw_p33, List.forall_mem_cons.mpr ⟨lw_p34, List.forall_mem_cons.mpr ⟨lw_p35, List.forall_mem_cons.mpr ⟨lw_p36, List.forall_mem_cons.mpr ⟨lw_p37, List.forall_mem_cons.mpr ⟨lw_p38, List.forall_mem_cons.mpr ⟨lw_p39, List.forall_mem_cons.mpr ⟨lw_p40, fun _ h => absurd h List.not_mem_nil⟩⟩⟩⟩⟩⟩⟩⟩⟩
def lw_privs : List (MethodName × Nat) := lw_privs_1 ++ (lw_privs_2 ++ (lw_privs_3))
def lw_tbl : List Cond := k2_sels lw_privs ++ tables_1
theorem lw_privs_ok : ∀ q ∈ lw_privs, lw_okq q := by
  show ∀ q ∈ lw_privs_1 ++ (lw_privs_2 ++ (lw_privs_3)), lw_okq q
  exact List.forall_mem_append.mpr ⟨lw_r1, List.forall_mem_append.mpr ⟨lw_r2, lw_r3⟩⟩

-- ===== end of PART A =====
def RX0 : String := "LoafWed$Crusts"
def TX0 : u_T := fun k => match k with
  | _ => ("", "", "", false)
def tyX0 : Nat → FieldType := fun k => match k with
  | _ => .int
abbrev wsX00 : List Cond := u_ws RX0 TX0 0
theorem nmX0 : ∀ a, a < 0 → ∀ b, b < 0 → a ≠ b → (TX0 a).2.1 ≠ (TX0 b).2.1 := by decide +kernel
theorem tyX0_ok : ∀ k, k < 0 → parseFieldDescriptor (TX0 k).2.2.1 = some (tyX0 k) := by decide +kernel
abbrev cX0_beginnerWins : ByteArray := prog_2_method_2_code
def yX0_beginnerWins : MethodName := ⟨RX0, "beginnerWins", "(I)I"⟩
abbrev cX0_firstBroken : ByteArray := prog_2_method_3_code
def yX0_firstBroken : MethodName := ⟨RX0, "firstBroken", "(I)I"⟩
def RX1 : String := "LoafWed$Foresight"
def TX1 : u_T := fun k => match k with
  | 0 => ("LoafWed$Foresight", "have", "[I", true)
  | 1 => ("LoafWed$Foresight", "chance", "[J", true)
  | 2 => ("LoafWed$Foresight", "endYear", "I", false)
  | _ => ("LoafWed$Foresight", "endPairs", "I", false)
def tyX1 : Nat → FieldType := fun k => match k with
  | 0 => .array .int
  | 1 => .array .long
  | 2 => .int
  | _ => .int
abbrev wsX10 : List Cond := u_ws RX1 TX1 4
theorem nmX1 : ∀ a, a < 4 → ∀ b, b < 4 → a ≠ b → (TX1 a).2.1 ≠ (TX1 b).2.1 := by decide +kernel
theorem tyX1_ok : ∀ k, k < 4 → parseFieldDescriptor (TX1 k).2.2.1 = some (tyX1 k) := by decide +kernel
abbrev cX1_init : ByteArray := prog_3_method_1_code
def yX1_init : MethodName := ⟨RX1, "<init>", "()V"⟩
abbrev cX1_endOf : ByteArray := prog_3_method_2_code
def yX1_endOf : MethodName := ⟨RX1, "endOf", "(LLoafWed$Valley;I)I"⟩
abbrev cX1_lookForEnds : ByteArray := prog_3_method_3_code
def yX1_lookForEnds : MethodName := ⟨RX1, "lookForEnds", "(LLoafWed$Valley;)V"⟩
abbrev cX1_endingInYear : ByteArray := prog_3_method_4_code
def yX1_endingInYear : MethodName := ⟨RX1, "endingInYear", "(LLoafWed$Valley;I)I"⟩
abbrev cX1_worstDrought : ByteArray := prog_3_method_5_code
def yX1_worstDrought : MethodName := ⟨RX1, "worstDrought", "(LLoafWed$Valley;I)I"⟩
abbrev cX1_loavesBehind : ByteArray := prog_3_method_6_code
def yX1_loavesBehind : MethodName := ⟨RX1, "loavesBehind", "(LLoafWed$Valley;II)I"⟩
abbrev cX1_loavesBySeed : ByteArray := prog_3_method_7_code
def yX1_loavesBySeed : MethodName := ⟨RX1, "loavesBySeed", "(LLoafWed$Valley;III)I"⟩
abbrev cX1_chanceWithMice : ByteArray := prog_3_method_8_code
def yX1_chanceWithMice : MethodName := ⟨RX1, "chanceWithMice", "(LLoafWed$Valley;IIILLoafWed$Fraction;)V"⟩
abbrev cX1_miceEat : ByteArray := prog_3_method_9_code
def yX1_miceEat : MethodName := ⟨RX1, "miceEat", "(LLoafWed$Valley;III)V"⟩
def RX2 : String := "LoafWed$Fraction"
def TX2 : u_T := fun k => match k with
  | 0 => ("LoafWed$Fraction", "above", "J", false)
  | _ => ("LoafWed$Fraction", "below", "J", false)
def tyX2 : Nat → FieldType := fun k => match k with
  | 0 => .long
  | _ => .long
abbrev wsX20 : List Cond := u_ws RX2 TX2 2
theorem nmX2 : ∀ a, a < 2 → ∀ b, b < 2 → a ≠ b → (TX2 a).2.1 ≠ (TX2 b).2.1 := by decide +kernel
theorem tyX2_ok : ∀ k, k < 2 → parseFieldDescriptor (TX2 k).2.2.1 = some (tyX2 k) := by decide +kernel
abbrev cX2_init : ByteArray := prog_4_method_1_code
def yX2_init : MethodName := ⟨RX2, "<init>", "()V"⟩
abbrev cX2_set : ByteArray := prog_4_method_2_code
def yX2_set : MethodName := ⟨RX2, "set", "(JJ)V"⟩
abbrev cX2_commonDivisor : ByteArray := prog_4_method_3_code
def yX2_commonDivisor : MethodName := ⟨RX2, "commonDivisor", "(JJ)J"⟩
def RX3 : String := "LoafWed$Gifts"
def TX3 : u_T := fun k => match k with
  | 0 => ("LoafWed$Gifts", "needA", "I", false)
  | 1 => ("LoafWed$Gifts", "needB", "I", false)
  | 2 => ("LoafWed$Gifts", "least", "I", false)
  | 3 => ("LoafWed$Gifts", "leastToA", "I", false)
  | _ => ("LoafWed$Gifts", "leastToB", "I", false)
def tyX3 : Nat → FieldType := fun k => match k with
  | 0 => .int
  | 1 => .int
  | 2 => .int
  | 3 => .int
  | _ => .int
abbrev wsX30 : List Cond := u_ws RX3 TX3 5
theorem nmX3 : ∀ a, a < 5 → ∀ b, b < 5 → a ≠ b → (TX3 a).2.1 ≠ (TX3 b).2.1 := by decide +kernel
theorem tyX3_ok : ∀ k, k < 5 → parseFieldDescriptor (TX3 k).2.2.1 = some (tyX3 k) := by decide +kernel
abbrev cX3_init : ByteArray := prog_5_method_1_code
def yX3_init : MethodName := ⟨RX3, "<init>", "()V"⟩
abbrev cX3_search : ByteArray := prog_5_method_2_code
def yX3_search : MethodName := ⟨RX3, "search", "(LLoafWed$Valley;III)V"⟩
abbrev cX3_flourNeeded : ByteArray := prog_5_method_3_code
def yX3_flourNeeded : MethodName := ⟨RX3, "flourNeeded", "(LLoafWed$Valley;II)I"⟩
abbrev cX3_share : ByteArray := prog_5_method_4_code
def yX3_share : MethodName := ⟨RX3, "share", "(LLoafWed$Gifts;LLoafWed$Valley;IIIII)V"⟩
def RX4 : String := "LoafWed$Kinds"
def TX4 : u_T := fun k => match k with
  | _ => ("", "", "", false)
def tyX4 : Nat → FieldType := fun k => match k with
  | _ => .int
abbrev wsX40 : List Cond := u_ws RX4 TX4 0
theorem nmX4 : ∀ a, a < 0 → ∀ b, b < 0 → a ≠ b → (TX4 a).2.1 ≠ (TX4 b).2.1 := by decide +kernel
theorem tyX4_ok : ∀ k, k < 0 → parseFieldDescriptor (TX4 k).2.2.1 = some (tyX4 k) := by decide +kernel
abbrev cX4_goes : ByteArray := prog_6_method_2_code
def yX4_goes : MethodName := ⟨RX4, "goes", "(IIII)I"⟩
abbrev cX4_leftAfter : ByteArray := prog_6_method_3_code
def yX4_leftAfter : MethodName := ⟨RX4, "leftAfter", "(IIIII)I"⟩
def RX5 : String := "LoafWed$Past"
def TX5 : u_T := fun k => match k with
  | 0 => ("LoafWed$Past", "rows", "[I", true)
  | 1 => ("LoafWed$Past", "free", "I", false)
  | _ => ("LoafWed$Past", "size", "I", false)
def tyX5 : Nat → FieldType := fun k => match k with
  | 0 => .array .int
  | 1 => .int
  | _ => .int
abbrev wsX50 : List Cond := u_ws RX5 TX5 3
theorem nmX5 : ∀ a, a < 3 → ∀ b, b < 3 → a ≠ b → (TX5 a).2.1 ≠ (TX5 b).2.1 := by decide +kernel
theorem tyX5_ok : ∀ k, k < 3 → parseFieldDescriptor (TX5 k).2.2.1 = some (tyX5 k) := by decide +kernel
abbrev cX5_init : ByteArray := prog_7_method_1_code
def yX5_init : MethodName := ⟨RX5, "<init>", "()V"⟩
abbrev cX5_copy : ByteArray := prog_7_method_2_code
def yX5_copy : MethodName := ⟨RX5, "copy", "(LLoafWed$Past;)V"⟩
abbrev cX5_push : ByteArray := prog_7_method_3_code
def yX5_push : MethodName := ⟨RX5, "push", "(I[I[I)V"⟩
abbrev cX5_pop : ByteArray := prog_7_method_4_code
def yX5_pop : MethodName := ⟨RX5, "pop", "([I[I)I"⟩
def RX6 : String := "LoafWed$Reader"
def TX6 : u_T := fun k => match k with
  | 0 => ("LoafWed$Reader", "signs", "[B", true)
  | 1 => ("LoafWed$Reader", "length", "I", false)
  | 2 => ("LoafWed$Reader", "told", "LLoafWed$Valley;", true)
  | 3 => ("LoafWed$Reader", "token", "I", false)
  | 4 => ("LoafWed$Reader", "first", "I", false)
  | 5 => ("LoafWed$Reader", "behind", "I", false)
  | _ => ("LoafWed$Reader", "number", "I", false)
def tyX6 : Nat → FieldType := fun k => match k with
  | 0 => .array .byte
  | 1 => .int
  | 2 => .object "LoafWed$Valley"
  | 3 => .int
  | 4 => .int
  | 5 => .int
  | _ => .int
abbrev wsX60 : List Cond := u_ws RX6 TX6 7
theorem nmX6 : ∀ a, a < 7 → ∀ b, b < 7 → a ≠ b → (TX6 a).2.1 ≠ (TX6 b).2.1 := by decide +kernel
theorem tyX6_ok : ∀ k, k < 7 → parseFieldDescriptor (TX6 k).2.2.1 = some (tyX6 k) := by decide +kernel
abbrev cX6_init : ByteArray := prog_8_method_1_code
def yX6_init : MethodName := ⟨RX6, "<init>", "()V"⟩
abbrev cX6_addSign : ByteArray := prog_8_method_2_code
def yX6_addSign : MethodName := ⟨RX6, "addSign", "(I)I"⟩
abbrev cX6_empty : ByteArray := prog_8_method_3_code
def yX6_empty : MethodName := ⟨RX6, "empty", "()I"⟩
abbrev cX6_readInto : ByteArray := prog_8_method_4_code
def yX6_readInto : MethodName := ⟨RX6, "readInto", "(LLoafWed$Valley;)I"⟩
abbrev cX6_readItem : ByteArray := prog_8_method_5_code
def yX6_readItem : MethodName := ⟨RX6, "readItem", "(Z)Z"⟩
abbrev cX6_readDamp : ByteArray := prog_8_method_6_code
def yX6_readDamp : MethodName := ⟨RX6, "readDamp", "()Z"⟩
abbrev cX6_readDry : ByteArray := prog_8_method_7_code
def yX6_readDry : MethodName := ⟨RX6, "readDry", "()Z"⟩
abbrev cX6_readPair : ByteArray := prog_8_method_8_code
def yX6_readPair : MethodName := ⟨RX6, "readPair", "()Z"⟩
abbrev cX6_readKin : ByteArray := prog_8_method_9_code
def yX6_readKin : MethodName := ⟨RX6, "readKin", "()Z"⟩
abbrev cX6_takeYears : ByteArray := prog_8_method_10_code
def yX6_takeYears : MethodName := ⟨RX6, "takeYears", "()I"⟩
abbrev cX6_takeNumber : ByteArray := prog_8_method_11_code
def yX6_takeNumber : MethodName := ⟨RX6, "takeNumber", "(II)Z"⟩
abbrev cX6_takeSemicolon : ByteArray := prog_8_method_12_code
def yX6_takeSemicolon : MethodName := ⟨RX6, "takeSemicolon", "()Z"⟩
abbrev cX6_takeToken : ByteArray := prog_8_method_13_code
def yX6_takeToken : MethodName := ⟨RX6, "takeToken", "()V"⟩
abbrev cX6_setNumber : ByteArray := prog_8_method_14_code
def yX6_setNumber : MethodName := ⟨RX6, "setNumber", "()V"⟩
abbrev cX6_takeRun : ByteArray := prog_8_method_15_code
def yX6_takeRun : MethodName := ⟨RX6, "takeRun", "(II)V"⟩
abbrev cX6_isWord : ByteArray := prog_8_method_16_code
def yX6_isWord : MethodName := ⟨RX6, "isWord", "(Ljava/lang/String;)Z"⟩
def RX7 : String := "LoafWed$Strings"
def TX7 : u_T := fun k => match k with
  | _ => ("LoafWed$Strings", "have", "[I", true)
def tyX7 : Nat → FieldType := fun k => match k with
  | _ => .array .int
abbrev wsX70 : List Cond := u_ws RX7 TX7 1
theorem nmX7 : ∀ a, a < 1 → ∀ b, b < 1 → a ≠ b → (TX7 a).2.1 ≠ (TX7 b).2.1 := by decide +kernel
theorem tyX7_ok : ∀ k, k < 1 → parseFieldDescriptor (TX7 k).2.2.1 = some (tyX7 k) := by decide +kernel
abbrev cX7_init : ByteArray := prog_9_method_1_code
def yX7_init : MethodName := ⟨RX7, "<init>", "()V"⟩
abbrev cX7_kindsThatFit : ByteArray := prog_9_method_2_code
def yX7_kindsThatFit : MethodName := ⟨RX7, "kindsThatFit", "(LLoafWed$Valley;I)I"⟩
abbrev cX7_fits : ByteArray := prog_9_method_3_code
def yX7_fits : MethodName := ⟨RX7, "fits", "(LLoafWed$Valley;II)Z"⟩
abbrev cX7_countNext : ByteArray := prog_9_method_4_code
def yX7_countNext : MethodName := ⟨RX7, "countNext", "(LLoafWed$Valley;I)I"⟩
abbrev cX7_passYearByKind : ByteArray := prog_9_method_5_code
def yX7_passYearByKind : MethodName := ⟨RX7, "passYearByKind", "(LLoafWed$Valley;I)V"⟩
abbrev cX7_mostAlike : ByteArray := prog_9_method_6_code
def yX7_mostAlike : MethodName := ⟨RX7, "mostAlike", "(I)I"⟩
abbrev cX7_howManyHave : ByteArray := prog_9_method_7_code
def yX7_howManyHave : MethodName := ⟨RX7, "howManyHave", "(II)I"⟩
abbrev cX7_swaps : ByteArray := prog_9_method_8_code
def yX7_swaps : MethodName := ⟨RX7, "swaps", "(LLoafWed$Valley;I)I"⟩
abbrev cX7_fitsSwapped : ByteArray := prog_9_method_9_code
def yX7_fitsSwapped : MethodName := ⟨RX7, "fitsSwapped", "(LLoafWed$Valley;II)Z"⟩
abbrev cX7_pairsPutBack : ByteArray := prog_9_method_10_code
def yX7_pairsPutBack : MethodName := ⟨RX7, "pairsPutBack", "(LLoafWed$Valley;)I"⟩
abbrev cX7_fitsPutBack : ByteArray := prog_9_method_11_code
def yX7_fitsPutBack : MethodName := ⟨RX7, "fitsPutBack", "(LLoafWed$Valley;I)Z"⟩
abbrev cX7_leftWithMore : ByteArray := prog_9_method_12_code
def yX7_leftWithMore : MethodName := ⟨RX7, "leftWithMore", "(LLoafWed$Valley;III)I"⟩
def RX8 : String := "LoafWed$Valley"
def TX8 : u_T := fun k => match k with
  | 0 => ("LoafWed$Valley", "year", "I", false)
  | 1 => ("LoafWed$Valley", "damp", "I", false)
  | 2 => ("LoafWed$Valley", "dry", "I", false)
  | 3 => ("LoafWed$Valley", "pairs", "I", false)
  | 4 => ("LoafWed$Valley", "kin", "I", false)
  | 5 => ("LoafWed$Valley", "counted", "I", false)
  | 6 => ("LoafWed$Valley", "kind", "[I", true)
  | 7 => ("LoafWed$Valley", "loaves", "[I", true)
  | 8 => ("LoafWed$Valley", "since", "[I", true)
  | 9 => ("LoafWed$Valley", "ended", "[I", true)
  | 10 => ("LoafWed$Valley", "flour", "[I", true)
  | 11 => ("LoafWed$Valley", "countedPair", "[I", true)
  | 12 => ("LoafWed$Valley", "countedYears", "[I", true)
  | 13 => ("LoafWed$Valley", "countedLoaves", "[I", true)
  | _ => ("LoafWed$Valley", "past", "LLoafWed$Past;", true)
def tyX8 : Nat → FieldType := fun k => match k with
  | 0 => .int
  | 1 => .int
  | 2 => .int
  | 3 => .int
  | 4 => .int
  | 5 => .int
  | 6 => .array .int
  | 7 => .array .int
  | 8 => .array .int
  | 9 => .array .int
  | 10 => .array .int
  | 11 => .array .int
  | 12 => .array .int
  | 13 => .array .int
  | _ => .object "LoafWed$Past"
abbrev wsX80 : List Cond := u_ws RX8 TX8 15
theorem nmX8 : ∀ a, a < 15 → ∀ b, b < 15 → a ≠ b → (TX8 a).2.1 ≠ (TX8 b).2.1 := by decide +kernel
theorem tyX8_ok : ∀ k, k < 15 → parseFieldDescriptor (TX8 k).2.2.1 = some (tyX8 k) := by decide +kernel
abbrev cX8_init : ByteArray := prog_10_method_1_code
def yX8_init : MethodName := ⟨RX8, "<init>", "()V"⟩
abbrev cX8_begin : ByteArray := prog_10_method_2_code
def yX8_begin : MethodName := ⟨RX8, "begin", "()V"⟩
abbrev cX8_copy : ByteArray := prog_10_method_3_code
def yX8_copy : MethodName := ⟨RX8, "copy", "(LLoafWed$Valley;)V"⟩
abbrev cX8_hasPair : ByteArray := prog_10_method_4_code
def yX8_hasPair : MethodName := ⟨RX8, "hasPair", "(I)Z"⟩
abbrev cX8_addPair : ByteArray := prog_10_method_5_code
def yX8_addPair : MethodName := ⟨RX8, "addPair", "(II)I"⟩
abbrev cX8_addKin : ByteArray := prog_10_method_6_code
def yX8_addKin : MethodName := ⟨RX8, "addKin", "(I)I"⟩
abbrev cX8_addCounted : ByteArray := prog_10_method_7_code
def yX8_addCounted : MethodName := ⟨RX8, "addCounted", "(III)I"⟩
abbrev cX8_passYear : ByteArray := prog_10_method_8_code
def yX8_passYear : MethodName := ⟨RX8, "passYear", "()I"⟩
abbrev cX8_setLoaves : ByteArray := prog_10_method_9_code
def yX8_setLoaves : MethodName := ⟨RX8, "setLoaves", "(II)V"⟩
abbrev cX8_goBack : ByteArray := prog_10_method_10_code
def yX8_goBack : MethodName := ⟨RX8, "goBack", "()V"⟩
abbrev cX8_leftAs : ByteArray := prog_10_method_11_code
def yX8_leftAs : MethodName := ⟨RX8, "leftAs", "(IIII)I"⟩
abbrev cX8_leftInYear : ByteArray := prog_10_method_12_code
def yX8_leftInYear : MethodName := ⟨RX8, "leftInYear", "(III)I"⟩
abbrev cX8_allLoaves : ByteArray := prog_10_method_13_code
def yX8_allLoaves : MethodName := ⟨RX8, "allLoaves", "()I"⟩
abbrev cX8_digestOn : ByteArray := prog_10_method_14_code
def yX8_digestOn : MethodName := ⟨RX8, "digestOn", "(J)J"⟩
def RX9 : String := "LoafWed"
def TX9 : u_T := fun k => match k with
  | 0 => ("LoafWed", "now", "LLoafWed$Valley;", true)
  | 1 => ("LoafWed", "images", "[LLoafWed$Valley;", true)
  | 2 => ("LoafWed", "reader", "LLoafWed$Reader;", true)
  | 3 => ("LoafWed", "foresight", "LLoafWed$Foresight;", true)
  | 4 => ("LoafWed", "giving", "LLoafWed$Gifts;", true)
  | 5 => ("LoafWed", "strings", "LLoafWed$Strings;", true)
  | 6 => ("LoafWed", "fraction", "LLoafWed$Fraction;", true)
  | 7 => ("LoafWed", "refusedBad", "I", false)
  | 8 => ("LoafWed", "refusedNo", "I", false)
  | _ => ("LoafWed", "refusedFull", "I", false)
def tyX9 : Nat → FieldType := fun k => match k with
  | 0 => .object "LoafWed$Valley"
  | 1 => .array (.object "LoafWed$Valley")
  | 2 => .object "LoafWed$Reader"
  | 3 => .object "LoafWed$Foresight"
  | 4 => .object "LoafWed$Gifts"
  | 5 => .object "LoafWed$Strings"
  | 6 => .object "LoafWed$Fraction"
  | 7 => .int
  | 8 => .int
  | _ => .int
abbrev wsX90 : List Cond := u_ws RX9 TX9 10
theorem nmX9 : ∀ a, a < 10 → ∀ b, b < 10 → a ≠ b → (TX9 a).2.1 ≠ (TX9 b).2.1 := by decide +kernel
theorem tyX9_ok : ∀ k, k < 10 → parseFieldDescriptor (TX9 k).2.2.1 = some (tyX9 k) := by decide +kernel
abbrev cX9_init : ByteArray := prog_1_method_1_code
def yX9_init : MethodName := ⟨RX9, "<init>", "()V"⟩
abbrev cX9_valley : ByteArray := prog_1_method_2_code
def yX9_valley : MethodName := ⟨RX9, "valley", "()I"⟩
abbrev cX9_damp : ByteArray := prog_1_method_3_code
def yX9_damp : MethodName := ⟨RX9, "damp", "(I)I"⟩
abbrev cX9_dry : ByteArray := prog_1_method_4_code
def yX9_dry : MethodName := ⟨RX9, "dry", "(I)I"⟩
abbrev cX9_pair : ByteArray := prog_1_method_5_code
def yX9_pair : MethodName := ⟨RX9, "pair", "(II)I"⟩
abbrev cX9_kin : ByteArray := prog_1_method_6_code
def yX9_kin : MethodName := ⟨RX9, "kin", "(I)I"⟩
abbrev cX9_type : ByteArray := prog_1_method_7_code
def yX9_type : MethodName := ⟨RX9, "type", "(I)I"⟩
abbrev cX9_clear : ByteArray := prog_1_method_8_code
def yX9_clear : MethodName := ⟨RX9, "clear", "()I"⟩
abbrev cX9_read : ByteArray := prog_1_method_9_code
def yX9_read : MethodName := ⟨RX9, "read", "()I"⟩
abbrev cX9_year : ByteArray := prog_1_method_10_code
def yX9_year : MethodName := ⟨RX9, "year", "(I)I"⟩
abbrev cX9_give : ByteArray := prog_1_method_11_code
def yX9_give : MethodName := ⟨RX9, "give", "(II)I"⟩
abbrev cX9_undo : ByteArray := prog_1_method_12_code
def yX9_undo : MethodName := ⟨RX9, "undo", "()I"⟩
abbrev cX9_of : ByteArray := prog_1_method_13_code
def yX9_of : MethodName := ⟨RX9, "of", "(II)I"⟩
abbrev cX9_left : ByteArray := prog_1_method_14_code
def yX9_left : MethodName := ⟨RX9, "left", "(II)I"⟩
abbrev cX9_till : ByteArray := prog_1_method_15_code
def yX9_till : MethodName := ⟨RX9, "till", "(I)I"⟩
abbrev cX9_together : ByteArray := prog_1_method_16_code
def yX9_together : MethodName := ⟨RX9, "together", "(I)I"⟩
abbrev cX9_gifts : ByteArray := prog_1_method_17_code
def yX9_gifts : MethodName := ⟨RX9, "gifts", "(IIII)I"⟩
abbrev cX9_drought : ByteArray := prog_1_method_18_code
def yX9_drought : MethodName := ⟨RX9, "drought", "(I)I"⟩
abbrev cX9_counted : ByteArray := prog_1_method_19_code
def yX9_counted : MethodName := ⟨RX9, "counted", "(III)I"⟩
abbrev cX9_forget : ByteArray := prog_1_method_20_code
def yX9_forget : MethodName := ⟨RX9, "forget", "()I"⟩
abbrev cX9_is : ByteArray := prog_1_method_21_code
def yX9_is : MethodName := ⟨RX9, "is", "(I)I"⟩
abbrev cX9_next : ByteArray := prog_1_method_22_code
def yX9_next : MethodName := ⟨RX9, "next", "(I)I"⟩
abbrev cX9_swapped : ByteArray := prog_1_method_23_code
def yX9_swapped : MethodName := ⟨RX9, "swapped", "(I)I"⟩
abbrev cX9_back : ByteArray := prog_1_method_24_code
def yX9_back : MethodName := ⟨RX9, "back", "()I"⟩
abbrev cX9_crusts : ByteArray := prog_1_method_25_code
def yX9_crusts : MethodName := ⟨RX9, "crusts", "(II)I"⟩
abbrev cX9_mice : ByteArray := prog_1_method_26_code
def yX9_mice : MethodName := ⟨RX9, "mice", "(III)I"⟩
abbrev cX9_years : ByteArray := prog_1_method_27_code
def yX9_years : MethodName := ⟨RX9, "years", "(III)I"⟩
abbrev cX9_part : ByteArray := prog_1_method_28_code
def yX9_part : MethodName := ⟨RX9, "part", "(I)J"⟩
abbrev cX9_image : ByteArray := prog_1_method_29_code
def yX9_image : MethodName := ⟨RX9, "image", "(I)I"⟩
abbrev cX9_from : ByteArray := prog_1_method_30_code
def yX9_from : MethodName := ⟨RX9, "from", "(I)I"⟩
abbrev cX9_status : ByteArray := prog_1_method_31_code
def yX9_status : MethodName := ⟨RX9, "status", "(I)I"⟩
abbrev cX9_count : ByteArray := prog_1_method_32_code
def yX9_count : MethodName := ⟨RX9, "count", "(I)I"⟩
abbrev cX9_digest : ByteArray := prog_1_method_33_code
def yX9_digest : MethodName := ⟨RX9, "digest", "()J"⟩
abbrev cX9_bad : ByteArray := prog_1_method_34_code
def yX9_bad : MethodName := ⟨RX9, "bad", "()I"⟩
abbrev cX9_badTen : ByteArray := prog_1_method_35_code
def yX9_badTen : MethodName := ⟨RX9, "badTen", "()I"⟩
abbrev cX9_no : ByteArray := prog_1_method_36_code
def yX9_no : MethodName := ⟨RX9, "no", "()I"⟩
abbrev cX9_full : ByteArray := prog_1_method_37_code
def yX9_full : MethodName := ⟨RX9, "full", "()I"⟩
abbrev cX9_within : ByteArray := prog_1_method_38_code
def yX9_within : MethodName := ⟨RX9, "within", "(III)Z"⟩
def RX10 : String := "LoafWedModel"
def TX10 : u_T := fun k => match k with
  | 0 => ("LoafWedModel", "now", "[I", true)
  | 1 => ("LoafWedModel", "told", "[I", true)
  | 2 => ("LoafWedModel", "image", "[I", true)
  | 3 => ("LoafWedModel", "isKept", "[Z", true)
  | 4 => ("LoafWedModel", "letters", "I", false)
  | 5 => ("LoafWedModel", "text", "[I", true)
  | 6 => ("LoafWedModel", "position", "I", false)
  | 7 => ("LoafWedModel", "tokenAt", "I", false)
  | 8 => ("LoafWedModel", "token", "I", false)
  | 9 => ("LoafWedModel", "word", "J", false)
  | 10 => ("LoafWedModel", "number", "I", false)
  | 11 => ("LoafWedModel", "items", "I", false)
  | 12 => ("LoafWedModel", "upper", "J", false)
  | 13 => ("LoafWedModel", "lower", "J", false)
  | 14 => ("LoafWedModel", "status", "[I", true)
  | 15 => ("LoafWedModel", "loaves", "[I", true)
  | 16 => ("LoafWedModel", "swaps", "[I", true)
  | 17 => ("LoafWedModel", "giftLeast", "I", false)
  | 18 => ("LoafWedModel", "giftA", "I", false)
  | 19 => ("LoafWedModel", "giftB", "I", false)
  | 20 => ("LoafWedModel", "odds", "[J", true)
  | 21 => ("LoafWedModel", "more", "[J", true)
  | _ => ("LoafWedModel", "mix", "J", false)
def tyX10 : Nat → FieldType := fun k => match k with
  | 0 => .array .int
  | 1 => .array .int
  | 2 => .array .int
  | 3 => .array .boolean
  | 4 => .int
  | 5 => .array .int
  | 6 => .int
  | 7 => .int
  | 8 => .int
  | 9 => .long
  | 10 => .int
  | 11 => .int
  | 12 => .long
  | 13 => .long
  | 14 => .array .int
  | 15 => .array .int
  | 16 => .array .int
  | 17 => .int
  | 18 => .int
  | 19 => .int
  | 20 => .array .long
  | 21 => .array .long
  | _ => .long
abbrev wsX100 : List Cond := u_ws RX10 TX10 23
theorem nmX10 : ∀ a, a < 23 → ∀ b, b < 23 → a ≠ b → (TX10 a).2.1 ≠ (TX10 b).2.1 := by decide +kernel
theorem tyX10_ok : ∀ k, k < 23 → parseFieldDescriptor (TX10 k).2.2.1 = some (tyX10 k) := by decide +kernel
abbrev cX10_init : ByteArray := prog_12_method_1_code
def yX10_init : MethodName := ⟨RX10, "<init>", "()V"⟩
abbrev cX10_layFirst : ByteArray := prog_12_method_2_code
def yX10_layFirst : MethodName := ⟨RX10, "layFirst", "([I)V"⟩
abbrev cX10_in : ByteArray := prog_12_method_3_code
def yX10_in : MethodName := ⟨RX10, "in", "(III)Z"⟩
abbrev cX10_has : ByteArray := prog_12_method_4_code
def yX10_has : MethodName := ⟨RX10, "has", "(II)Z"⟩
abbrev cX10_refuse : ByteArray := prog_12_method_5_code
def yX10_refuse : MethodName := ⟨RX10, "refuse", "(I)I"⟩
abbrev cX10_isPair : ByteArray := prog_12_method_6_code
def yX10_isPair : MethodName := ⟨RX10, "isPair", "(I)Z"⟩
abbrev cX10_valley : ByteArray := prog_12_method_7_code
def yX10_valley : MethodName := ⟨RX10, "valley", "()I"⟩
abbrev cX10_damp : ByteArray := prog_12_method_8_code
def yX10_damp : MethodName := ⟨RX10, "damp", "(I)I"⟩
abbrev cX10_dry : ByteArray := prog_12_method_9_code
def yX10_dry : MethodName := ⟨RX10, "dry", "(I)I"⟩
abbrev cX10_addPair : ByteArray := prog_12_method_10_code
def yX10_addPair : MethodName := ⟨RX10, "addPair", "([III)I"⟩
abbrev cX10_addKin : ByteArray := prog_12_method_11_code
def yX10_addKin : MethodName := ⟨RX10, "addKin", "([II)I"⟩
abbrev cX10_pair : ByteArray := prog_12_method_12_code
def yX10_pair : MethodName := ⟨RX10, "pair", "(II)I"⟩
abbrev cX10_kin : ByteArray := prog_12_method_13_code
def yX10_kin : MethodName := ⟨RX10, "kin", "(I)I"⟩
abbrev cX10_type : ByteArray := prog_12_method_14_code
def yX10_type : MethodName := ⟨RX10, "type", "(I)I"⟩
abbrev cX10_clear : ByteArray := prog_12_method_15_code
def yX10_clear : MethodName := ⟨RX10, "clear", "()I"⟩
abbrev cX10_letterAt : ByteArray := prog_12_method_16_code
def yX10_letterAt : MethodName := ⟨RX10, "letterAt", "(I)I"⟩
abbrev cX10_nextToken : ByteArray := prog_12_method_17_code
def yX10_nextToken : MethodName := ⟨RX10, "nextToken", "()V"⟩
abbrev cX10_wordOf : ByteArray := prog_12_method_18_code
def yX10_wordOf : MethodName := ⟨RX10, "wordOf", "(IIIIII)J"⟩
abbrev cX10_isNumber : ByteArray := prog_12_method_19_code
def yX10_isNumber : MethodName := ⟨RX10, "isNumber", "(II)Z"⟩
abbrev cX10_isEnd : ByteArray := prog_12_method_20_code
def yX10_isEnd : MethodName := ⟨RX10, "isEnd", "()Z"⟩
abbrev cX10_yearsTold : ByteArray := prog_12_method_21_code
def yX10_yearsTold : MethodName := ⟨RX10, "yearsTold", "()I"⟩
abbrev cX10_isItem : ByteArray := prog_12_method_22_code
def yX10_isItem : MethodName := ⟨RX10, "isItem", "()Z"⟩
abbrev cX10_read : ByteArray := prog_12_method_23_code
def yX10_read : MethodName := ⟨RX10, "read", "()I"⟩
abbrev cX10_copy : ByteArray := prog_12_method_24_code
def yX10_copy : MethodName := ⟨RX10, "copy", "([II[II)V"⟩
abbrev cX10_goes : ByteArray := prog_12_method_25_code
def yX10_goes : MethodName := ⟨RX10, "goes", "(III)I"⟩
abbrev cX10_leftOf : ByteArray := prog_12_method_26_code
def yX10_leftOf : MethodName := ⟨RX10, "leftOf", "(IIII)I"⟩
abbrev cX10_leftBy : ByteArray := prog_12_method_27_code
def yX10_leftBy : MethodName := ⟨RX10, "leftBy", "(II)I"⟩
abbrev cX10_note : ByteArray := prog_12_method_28_code
def yX10_note : MethodName := ⟨RX10, "note", "()V"⟩
abbrev cX10_year : ByteArray := prog_12_method_29_code
def yX10_year : MethodName := ⟨RX10, "year", "(I)I"⟩
abbrev cX10_give : ByteArray := prog_12_method_30_code
def yX10_give : MethodName := ⟨RX10, "give", "(II)I"⟩
abbrev cX10_undo : ByteArray := prog_12_method_31_code
def yX10_undo : MethodName := ⟨RX10, "undo", "()I"⟩
abbrev cX10_of : ByteArray := prog_12_method_32_code
def yX10_of : MethodName := ⟨RX10, "of", "(II)I"⟩
abbrev cX10_left : ByteArray := prog_12_method_33_code
def yX10_left : MethodName := ⟨RX10, "left", "(II)I"⟩
abbrev cX10_endOf : ByteArray := prog_12_method_34_code
def yX10_endOf : MethodName := ⟨RX10, "endOf", "(I)I"⟩
abbrev cX10_till : ByteArray := prog_12_method_35_code
def yX10_till : MethodName := ⟨RX10, "till", "(I)I"⟩
abbrev cX10_together : ByteArray := prog_12_method_36_code
def yX10_together : MethodName := ⟨RX10, "together", "(I)I"⟩
abbrev cX10_layGifts : ByteArray := prog_12_method_37_code
def yX10_layGifts : MethodName := ⟨RX10, "layGifts", "(III)V"⟩
abbrev cX10_gifts : ByteArray := prog_12_method_38_code
def yX10_gifts : MethodName := ⟨RX10, "gifts", "(IIII)I"⟩
abbrev cX10_drought : ByteArray := prog_12_method_39_code
def yX10_drought : MethodName := ⟨RX10, "drought", "(I)I"⟩
abbrev cX10_counted : ByteArray := prog_12_method_40_code
def yX10_counted : MethodName := ⟨RX10, "counted", "(III)I"⟩
abbrev cX10_forget : ByteArray := prog_12_method_41_code
def yX10_forget : MethodName := ⟨RX10, "forget", "()I"⟩
abbrev cX10_kindsOf : ByteArray := prog_12_method_42_code
def yX10_kindsOf : MethodName := ⟨RX10, "kindsOf", "(I)I"⟩
abbrev cX10_is : ByteArray := prog_12_method_43_code
def yX10_is : MethodName := ⟨RX10, "is", "(I)I"⟩
abbrev cX10_next : ByteArray := prog_12_method_44_code
def yX10_next : MethodName := ⟨RX10, "next", "(I)I"⟩
abbrev cX10_isSo : ByteArray := prog_12_method_45_code
def yX10_isSo : MethodName := ⟨RX10, "isSo", "(I)Z"⟩
abbrev cX10_layLoaves : ByteArray := prog_12_method_46_code
def yX10_layLoaves : MethodName := ⟨RX10, "layLoaves", "()V"⟩
abbrev cX10_swapped : ByteArray := prog_12_method_47_code
def yX10_swapped : MethodName := ⟨RX10, "swapped", "(I)I"⟩
abbrev cX10_back : ByteArray := prog_12_method_48_code
def yX10_back : MethodName := ⟨RX10, "back", "()I"⟩
abbrev cX10_crusts : ByteArray := prog_12_method_49_code
def yX10_crusts : MethodName := ⟨RX10, "crusts", "(II)I"⟩
abbrev cX10_tell : ByteArray := prog_12_method_50_code
def yX10_tell : MethodName := ⟨RX10, "tell", "(JJ)V"⟩
abbrev cX10_mice : ByteArray := prog_12_method_51_code
def yX10_mice : MethodName := ⟨RX10, "mice", "(III)I"⟩
abbrev cX10_years : ByteArray := prog_12_method_52_code
def yX10_years : MethodName := ⟨RX10, "years", "(III)I"⟩
abbrev cX10_part : ByteArray := prog_12_method_53_code
def yX10_part : MethodName := ⟨RX10, "part", "(I)J"⟩
abbrev cX10_image : ByteArray := prog_12_method_54_code
def yX10_image : MethodName := ⟨RX10, "image", "(I)I"⟩
abbrev cX10_from : ByteArray := prog_12_method_55_code
def yX10_from : MethodName := ⟨RX10, "from", "(I)I"⟩
abbrev cX10_status : ByteArray := prog_12_method_56_code
def yX10_status : MethodName := ⟨RX10, "status", "(I)I"⟩
abbrev cX10_countOf : ByteArray := prog_12_method_57_code
def yX10_countOf : MethodName := ⟨RX10, "countOf", "(I)I"⟩
abbrev cX10_count : ByteArray := prog_12_method_58_code
def yX10_count : MethodName := ⟨RX10, "count", "(I)I"⟩
abbrev cX10_add : ByteArray := prog_12_method_59_code
def yX10_add : MethodName := ⟨RX10, "add", "(J)V"⟩
abbrev cX10_digest : ByteArray := prog_12_method_60_code
def yX10_digest : MethodName := ⟨RX10, "digest", "()J"⟩
def RJ6 : String := "java/lang/Integer"
abbrev cJ6_bitCount_0f7a4 : ByteArray := prog_13_method_49_code
def yJ6_bitCount_0f7a4 : MethodName := ⟨RJ6, "bitCount", "(I)I"⟩
def RJ9 : String := "java/lang/Math"
abbrev cJ9_max_7cf53 : ByteArray := prog_14_method_65_code
def yJ9_max_7cf53 : MethodName := ⟨RJ9, "max", "(II)I"⟩
abbrev cJ9_min_7cf53 : ByteArray := prog_14_method_69_code
def yJ9_min_7cf53 : MethodName := ⟨RJ9, "min", "(II)I"⟩
def RJ0 : String := "java/lang/String"
abbrev cJ0_length_8abf5 : ByteArray := prog_15_method_54_code
def yJ0_length_8abf5 : MethodName := ⟨RJ0, "length", "()I"⟩
abbrev cJ0_charAt_5068e : ByteArray := prog_15_method_56_code
def yJ0_charAt_5068e : MethodName := ⟨RJ0, "charAt", "(I)C"⟩
abbrev cJ0_coder_7d493 : ByteArray := prog_15_method_152_code
def yJ0_coder_7d493 : MethodName := ⟨RJ0, "coder", "()B"⟩
abbrev cJ0_isLatin1_aae02 : ByteArray := prog_15_method_154_code
def yJ0_isLatin1_aae02 : MethodName := ⟨RJ0, "isLatin1", "()Z"⟩
abbrev cJ0_checkIndex_df160 : ByteArray := prog_15_method_155_code
def yJ0_checkIndex_df160 : MethodName := ⟨RJ0, "checkIndex", "(II)V"⟩
def RJ1 : String := "java/lang/StringLatin1"
abbrev cJ1_charAt_3b067 : ByteArray := prog_16_method_2_code
def yJ1_charAt_3b067 : MethodName := ⟨RJ1, "charAt", "([BI)C"⟩
def RJ2 : String := "java/lang/StringUTF16"
abbrev cJ2_getChar_3b067 : ByteArray := prog_17_method_5_code
def yJ2_getChar_3b067 : MethodName := ⟨RJ2, "getChar", "([BI)C"⟩
abbrev cJ2_length_9d52b : ByteArray := prog_17_method_6_code
def yJ2_length_9d52b : MethodName := ⟨RJ2, "length", "([B)I"⟩
abbrev cJ2_charAt_3b067 : ByteArray := prog_17_method_83_code
def yJ2_charAt_3b067 : MethodName := ⟨RJ2, "charAt", "([BI)C"⟩
abbrev cJ2_checkIndex_2214a : ByteArray := prog_17_method_91_code
def yJ2_checkIndex_2214a : MethodName := ⟨RJ2, "checkIndex", "(I[B)V"⟩
def RJ10 : String := "java/lang/System"
def RJ3 : String := "jdk/internal/util/Preconditions"
abbrev cJ3_checkIndex_8e157 : ByteArray := prog_19_method_11_code
def yJ3_checkIndex_8e157 : MethodName := ⟨RJ3, "checkIndex", "(IILjava/util/function/BiFunction;)I"⟩
def RL : String := "LoafWedLaw"
abbrev cL_law : ByteArray := code
def yL_law : MethodName := ⟨RL, "law", "([I)Z"⟩
abbrev vwCl : List vw_C := [(RX1, TX1, 4), (RX2, TX2, 2), (RX3, TX3, 5), (RX5, TX5, 3), (RX6, TX6, 7), (RX7, TX7, 1), (RX8, TX8, 15), (RX9, TX9, 10), (RX10, TX10, 23)]
abbrev MD : Type := MethodName × ByteArray × Nat × Option FieldType
abbrev mX0_beginnerWins : MD := (yX0_beginnerWins, prog_2_method_2_code, 1, (some .int))
abbrev mX0_firstBroken : MD := (yX0_firstBroken, prog_2_method_3_code, 1, (some .int))
abbrev mX1_init : MD := (yX1_init, prog_3_method_1_code, 1, none)
abbrev mX1_endOf : MD := (yX1_endOf, prog_3_method_2_code, 4, (some .int))
abbrev mX1_lookForEnds : MD := (yX1_lookForEnds, prog_3_method_3_code, 5, none)
abbrev mX1_endingInYear : MD := (yX1_endingInYear, prog_3_method_4_code, 5, (some .int))
abbrev mX1_worstDrought : MD := (yX1_worstDrought, prog_3_method_5_code, 6, (some .int))
abbrev mX1_loavesBehind : MD := (yX1_loavesBehind, prog_3_method_6_code, 5, (some .int))
abbrev mX1_loavesBySeed : MD := (yX1_loavesBySeed, prog_3_method_7_code, 9, (some .int))
abbrev mX1_chanceWithMice : MD := (yX1_chanceWithMice, prog_3_method_8_code, 9, none)
abbrev mX1_miceEat : MD := (yX1_miceEat, prog_3_method_9_code, 9, none)
abbrev mX2_init : MD := (yX2_init, prog_4_method_1_code, 1, none)
abbrev mX2_set : MD := (yX2_set, prog_4_method_2_code, 7, none)
abbrev mX2_commonDivisor : MD := (yX2_commonDivisor, prog_4_method_3_code, 11, (some .long))
abbrev mX3_init : MD := (yX3_init, prog_5_method_1_code, 1, none)
abbrev mX3_search : MD := (yX3_search, prog_5_method_2_code, 5, none)
abbrev mX3_flourNeeded : MD := (yX3_flourNeeded, prog_5_method_3_code, 5, (some .int))
abbrev mX3_share : MD := (yX3_share, prog_5_method_4_code, 8, none)
abbrev mX4_goes : MD := (yX4_goes, prog_6_method_2_code, 9, (some .int))
abbrev mX4_leftAfter : MD := (yX4_leftAfter, prog_6_method_3_code, 5, (some .int))
abbrev mX5_init : MD := (yX5_init, prog_7_method_1_code, 1, none)
abbrev mX5_copy : MD := (yX5_copy, prog_7_method_2_code, 2, none)
abbrev mX5_push : MD := (yX5_push, prog_7_method_3_code, 5, none)
abbrev mX5_pop : MD := (yX5_pop, prog_7_method_4_code, 4, (some .int))
abbrev mX6_init : MD := (yX6_init, prog_8_method_1_code, 1, none)
abbrev mX6_addSign : MD := (yX6_addSign, prog_8_method_2_code, 2, (some .int))
abbrev mX6_empty : MD := (yX6_empty, prog_8_method_3_code, 2, (some .int))
abbrev mX6_readInto : MD := (yX6_readInto, prog_8_method_4_code, 3, (some .int))
abbrev mX6_readItem : MD := (yX6_readItem, prog_8_method_5_code, 2, (some .boolean))
abbrev mX6_readDamp : MD := (yX6_readDamp, prog_8_method_6_code, 2, (some .boolean))
abbrev mX6_readDry : MD := (yX6_readDry, prog_8_method_7_code, 2, (some .boolean))
abbrev mX6_readPair : MD := (yX6_readPair, prog_8_method_8_code, 2, (some .boolean))
abbrev mX6_readKin : MD := (yX6_readKin, prog_8_method_9_code, 1, (some .boolean))
abbrev mX6_takeYears : MD := (yX6_takeYears, prog_8_method_10_code, 3, (some .int))
abbrev mX6_takeNumber : MD := (yX6_takeNumber, prog_8_method_11_code, 3, (some .boolean))
abbrev mX6_takeSemicolon : MD := (yX6_takeSemicolon, prog_8_method_12_code, 1, (some .boolean))
abbrev mX6_takeToken : MD := (yX6_takeToken, prog_8_method_13_code, 1, none)
abbrev mX6_setNumber : MD := (yX6_setNumber, prog_8_method_14_code, 2, none)
abbrev mX6_takeRun : MD := (yX6_takeRun, prog_8_method_15_code, 3, none)
abbrev mX6_isWord : MD := (yX6_isWord, prog_8_method_16_code, 3, (some .boolean))
abbrev mX7_init : MD := (yX7_init, prog_9_method_1_code, 1, none)
abbrev mX7_kindsThatFit : MD := (yX7_kindsThatFit, prog_9_method_2_code, 4, (some .int))
abbrev mX7_fits : MD := (yX7_fits, prog_9_method_3_code, 5, (some .boolean))
abbrev mX7_countNext : MD := (yX7_countNext, prog_9_method_4_code, 8, (some .int))
abbrev mX7_passYearByKind : MD := (yX7_passYearByKind, prog_9_method_5_code, 4, none)
abbrev mX7_mostAlike : MD := (yX7_mostAlike, prog_9_method_6_code, 4, (some .int))
abbrev mX7_howManyHave : MD := (yX7_howManyHave, prog_9_method_7_code, 5, (some .int))
abbrev mX7_swaps : MD := (yX7_swaps, prog_9_method_8_code, 5, (some .int))
abbrev mX7_fitsSwapped : MD := (yX7_fitsSwapped, prog_9_method_9_code, 7, (some .boolean))
abbrev mX7_pairsPutBack : MD := (yX7_pairsPutBack, prog_9_method_10_code, 3, (some .int))
abbrev mX7_fitsPutBack : MD := (yX7_fitsPutBack, prog_9_method_11_code, 5, (some .boolean))
abbrev mX7_leftWithMore : MD := (yX7_leftWithMore, prog_9_method_12_code, 6, (some .int))
abbrev mX8_init : MD := (yX8_init, prog_10_method_1_code, 1, none)
abbrev mX8_begin : MD := (yX8_begin, prog_10_method_2_code, 1, none)
abbrev mX8_copy : MD := (yX8_copy, prog_10_method_3_code, 2, none)
abbrev mX8_hasPair : MD := (yX8_hasPair, prog_10_method_4_code, 2, (some .boolean))
abbrev mX8_addPair : MD := (yX8_addPair, prog_10_method_5_code, 3, (some .int))
abbrev mX8_addKin : MD := (yX8_addKin, prog_10_method_6_code, 2, (some .int))
abbrev mX8_addCounted : MD := (yX8_addCounted, prog_10_method_7_code, 4, (some .int))
abbrev mX8_passYear : MD := (yX8_passYear, prog_10_method_8_code, 3, (some .int))
abbrev mX8_setLoaves : MD := (yX8_setLoaves, prog_10_method_9_code, 3, none)
abbrev mX8_goBack : MD := (yX8_goBack, prog_10_method_10_code, 1, none)
abbrev mX8_leftAs : MD := (yX8_leftAs, prog_10_method_11_code, 7, (some .int))
abbrev mX8_leftInYear : MD := (yX8_leftInYear, prog_10_method_12_code, 4, (some .int))
abbrev mX8_allLoaves : MD := (yX8_allLoaves, prog_10_method_13_code, 3, (some .int))
abbrev mX8_digestOn : MD := (yX8_digestOn, prog_10_method_14_code, 6, (some .long))
abbrev mX9_init : MD := (yX9_init, prog_1_method_1_code, 1, none)
abbrev mX9_valley : MD := (yX9_valley, prog_1_method_2_code, 2, (some .int))
abbrev mX9_damp : MD := (yX9_damp, prog_1_method_3_code, 3, (some .int))
abbrev mX9_dry : MD := (yX9_dry, prog_1_method_4_code, 3, (some .int))
abbrev mX9_pair : MD := (yX9_pair, prog_1_method_5_code, 4, (some .int))
abbrev mX9_kin : MD := (yX9_kin, prog_1_method_6_code, 3, (some .int))
abbrev mX9_type : MD := (yX9_type, prog_1_method_7_code, 3, (some .int))
abbrev mX9_clear : MD := (yX9_clear, prog_1_method_8_code, 1, (some .int))
abbrev mX9_read : MD := (yX9_read, prog_1_method_9_code, 1, (some .int))
abbrev mX9_year : MD := (yX9_year, prog_1_method_10_code, 4, (some .int))
abbrev mX9_give : MD := (yX9_give, prog_1_method_11_code, 4, (some .int))
abbrev mX9_undo : MD := (yX9_undo, prog_1_method_12_code, 1, (some .int))
abbrev mX9_of : MD := (yX9_of, prog_1_method_13_code, 3, (some .int))
abbrev mX9_left : MD := (yX9_left, prog_1_method_14_code, 3, (some .int))
abbrev mX9_till : MD := (yX9_till, prog_1_method_15_code, 2, (some .int))
abbrev mX9_together : MD := (yX9_together, prog_1_method_16_code, 2, (some .int))
abbrev mX9_gifts : MD := (yX9_gifts, prog_1_method_17_code, 5, (some .int))
abbrev mX9_drought : MD := (yX9_drought, prog_1_method_18_code, 2, (some .int))
abbrev mX9_counted : MD := (yX9_counted, prog_1_method_19_code, 5, (some .int))
abbrev mX9_forget : MD := (yX9_forget, prog_1_method_20_code, 2, (some .int))
abbrev mX9_is : MD := (yX9_is, prog_1_method_21_code, 2, (some .int))
abbrev mX9_next : MD := (yX9_next, prog_1_method_22_code, 2, (some .int))
abbrev mX9_swapped : MD := (yX9_swapped, prog_1_method_23_code, 2, (some .int))
abbrev mX9_back : MD := (yX9_back, prog_1_method_24_code, 1, (some .int))
abbrev mX9_crusts : MD := (yX9_crusts, prog_1_method_25_code, 4, (some .int))
abbrev mX9_mice : MD := (yX9_mice, prog_1_method_26_code, 4, (some .int))
abbrev mX9_years : MD := (yX9_years, prog_1_method_27_code, 4, (some .int))
abbrev mX9_part : MD := (yX9_part, prog_1_method_28_code, 2, (some .long))
abbrev mX9_image : MD := (yX9_image, prog_1_method_29_code, 3, (some .int))
abbrev mX9_from : MD := (yX9_from, prog_1_method_30_code, 3, (some .int))
abbrev mX9_status : MD := (yX9_status, prog_1_method_31_code, 2, (some .int))
abbrev mX9_count : MD := (yX9_count, prog_1_method_32_code, 2, (some .int))
abbrev mX9_digest : MD := (yX9_digest, prog_1_method_33_code, 4, (some .long))
abbrev mX9_bad : MD := (yX9_bad, prog_1_method_34_code, 1, (some .int))
abbrev mX9_badTen : MD := (yX9_badTen, prog_1_method_35_code, 1, (some .int))
abbrev mX9_no : MD := (yX9_no, prog_1_method_36_code, 1, (some .int))
abbrev mX9_full : MD := (yX9_full, prog_1_method_37_code, 1, (some .int))
abbrev mX9_within : MD := (yX9_within, prog_1_method_38_code, 3, (some .boolean))
abbrev mX10_init : MD := (yX10_init, prog_12_method_1_code, 1, none)
abbrev mX10_layFirst : MD := (yX10_layFirst, prog_12_method_2_code, 2, none)
abbrev mX10_in : MD := (yX10_in, prog_12_method_3_code, 3, (some .boolean))
abbrev mX10_has : MD := (yX10_has, prog_12_method_4_code, 2, (some .boolean))
abbrev mX10_refuse : MD := (yX10_refuse, prog_12_method_5_code, 2, (some .int))
abbrev mX10_isPair : MD := (yX10_isPair, prog_12_method_6_code, 2, (some .boolean))
abbrev mX10_valley : MD := (yX10_valley, prog_12_method_7_code, 2, (some .int))
abbrev mX10_damp : MD := (yX10_damp, prog_12_method_8_code, 3, (some .int))
abbrev mX10_dry : MD := (yX10_dry, prog_12_method_9_code, 3, (some .int))
abbrev mX10_addPair : MD := (yX10_addPair, prog_12_method_10_code, 4, (some .int))
abbrev mX10_addKin : MD := (yX10_addKin, prog_12_method_11_code, 3, (some .int))
abbrev mX10_pair : MD := (yX10_pair, prog_12_method_12_code, 3, (some .int))
abbrev mX10_kin : MD := (yX10_kin, prog_12_method_13_code, 2, (some .int))
abbrev mX10_type : MD := (yX10_type, prog_12_method_14_code, 2, (some .int))
abbrev mX10_clear : MD := (yX10_clear, prog_12_method_15_code, 2, (some .int))
abbrev mX10_letterAt : MD := (yX10_letterAt, prog_12_method_16_code, 2, (some .int))
abbrev mX10_nextToken : MD := (yX10_nextToken, prog_12_method_17_code, 2, none)
abbrev mX10_wordOf : MD := (yX10_wordOf, prog_12_method_18_code, 8, (some .long))
abbrev mX10_isNumber : MD := (yX10_isNumber, prog_12_method_19_code, 3, (some .boolean))
abbrev mX10_isEnd : MD := (yX10_isEnd, prog_12_method_20_code, 1, (some .boolean))
abbrev mX10_yearsTold : MD := (yX10_yearsTold, prog_12_method_21_code, 2, (some .int))
abbrev mX10_isItem : MD := (yX10_isItem, prog_12_method_22_code, 4, (some .boolean))
abbrev mX10_read : MD := (yX10_read, prog_12_method_23_code, 1, (some .int))
abbrev mX10_copy : MD := (yX10_copy, prog_12_method_24_code, 5, none)
abbrev mX10_goes : MD := (yX10_goes, prog_12_method_25_code, 7, (some .int))
abbrev mX10_leftOf : MD := (yX10_leftOf, prog_12_method_26_code, 8, (some .int))
abbrev mX10_leftBy : MD := (yX10_leftBy, prog_12_method_27_code, 3, (some .int))
abbrev mX10_note : MD := (yX10_note, prog_12_method_28_code, 3, none)
abbrev mX10_year : MD := (yX10_year, prog_12_method_29_code, 6, (some .int))
abbrev mX10_give : MD := (yX10_give, prog_12_method_30_code, 4, (some .int))
abbrev mX10_undo : MD := (yX10_undo, prog_12_method_31_code, 3, (some .int))
abbrev mX10_of : MD := (yX10_of, prog_12_method_32_code, 3, (some .int))
abbrev mX10_left : MD := (yX10_left, prog_12_method_33_code, 3, (some .int))
abbrev mX10_endOf : MD := (yX10_endOf, prog_12_method_34_code, 3, (some .int))
abbrev mX10_till : MD := (yX10_till, prog_12_method_35_code, 2, (some .int))
abbrev mX10_together : MD := (yX10_together, prog_12_method_36_code, 10, (some .int))
abbrev mX10_layGifts : MD := (yX10_layGifts, prog_12_method_37_code, 13, none)
abbrev mX10_gifts : MD := (yX10_gifts, prog_12_method_38_code, 5, (some .int))
abbrev mX10_drought : MD := (yX10_drought, prog_12_method_39_code, 7, (some .int))
abbrev mX10_counted : MD := (yX10_counted, prog_12_method_40_code, 5, (some .int))
abbrev mX10_forget : MD := (yX10_forget, prog_12_method_41_code, 2, (some .int))
abbrev mX10_kindsOf : MD := (yX10_kindsOf, prog_12_method_42_code, 7, (some .int))
abbrev mX10_is : MD := (yX10_is, prog_12_method_43_code, 2, (some .int))
abbrev mX10_next : MD := (yX10_next, prog_12_method_44_code, 11, (some .int))
abbrev mX10_isSo : MD := (yX10_isSo, prog_12_method_45_code, 9, (some .boolean))
abbrev mX10_layLoaves : MD := (yX10_layLoaves, prog_12_method_46_code, 2, none)
abbrev mX10_swapped : MD := (yX10_swapped, prog_12_method_47_code, 5, (some .int))
abbrev mX10_back : MD := (yX10_back, prog_12_method_48_code, 3, (some .int))
abbrev mX10_crusts : MD := (yX10_crusts, prog_12_method_49_code, 5, (some .int))
abbrev mX10_tell : MD := (yX10_tell, prog_12_method_50_code, 11, none)
abbrev mX10_mice : MD := (yX10_mice, prog_12_method_51_code, 10, (some .int))
abbrev mX10_years : MD := (yX10_years, prog_12_method_52_code, 9, (some .int))
abbrev mX10_part : MD := (yX10_part, prog_12_method_53_code, 2, (some .long))
abbrev mX10_image : MD := (yX10_image, prog_12_method_54_code, 2, (some .int))
abbrev mX10_from : MD := (yX10_from, prog_12_method_55_code, 2, (some .int))
abbrev mX10_status : MD := (yX10_status, prog_12_method_56_code, 2, (some .int))
abbrev mX10_countOf : MD := (yX10_countOf, prog_12_method_57_code, 4, (some .int))
abbrev mX10_count : MD := (yX10_count, prog_12_method_58_code, 2, (some .int))
abbrev mX10_add : MD := (yX10_add, prog_12_method_59_code, 3, none)
abbrev mX10_digest : MD := (yX10_digest, prog_12_method_60_code, 3, (some .long))
abbrev mJ6_bitCount_0f7a4 : MD := (yJ6_bitCount_0f7a4, prog_13_method_49_code, 1, (some .int))
abbrev mJ9_max_7cf53 : MD := (yJ9_max_7cf53, prog_14_method_65_code, 2, (some .int))
abbrev mJ9_min_7cf53 : MD := (yJ9_min_7cf53, prog_14_method_69_code, 2, (some .int))
abbrev mJ0_length_8abf5 : MD := (yJ0_length_8abf5, prog_15_method_54_code, 1, (some .int))
abbrev mJ0_charAt_5068e : MD := (yJ0_charAt_5068e, prog_15_method_56_code, 2, (some .char))
abbrev mJ0_coder_7d493 : MD := (yJ0_coder_7d493, prog_15_method_152_code, 1, (some .byte))
abbrev mJ0_isLatin1_aae02 : MD := (yJ0_isLatin1_aae02, prog_15_method_154_code, 1, (some .boolean))
abbrev mJ0_checkIndex_df160 : MD := (yJ0_checkIndex_df160, prog_15_method_155_code, 2, none)
abbrev mJ1_charAt_3b067 : MD := (yJ1_charAt_3b067, prog_16_method_2_code, 2, (some .char))
abbrev mJ2_getChar_3b067 : MD := (yJ2_getChar_3b067, prog_17_method_5_code, 2, (some .char))
abbrev mJ2_length_9d52b : MD := (yJ2_length_9d52b, prog_17_method_6_code, 1, (some .int))
abbrev mJ2_charAt_3b067 : MD := (yJ2_charAt_3b067, prog_17_method_83_code, 2, (some .char))
abbrev mJ2_checkIndex_2214a : MD := (yJ2_checkIndex_2214a, prog_17_method_91_code, 2, none)
abbrev mJ3_checkIndex_8e157 : MD := (yJ3_checkIndex_8e157, prog_19_method_11_code, 3, (some .int))
-- no code word: L_law ('LoafWedLaw', 'law', '([I)Z')
abbrev mL_law : MD := (x, code, maxLocals, ret)
def jC : Nat → String := fun ci => match ci with
  | 0 => RX1
  | 1 => RX2
  | 2 => RX3
  | 3 => RX5
  | 4 => RX6
  | 5 => RX7
  | 6 => RX8
  | 7 => RX9
  | _ => RX10
def jT : Nat → u_T := fun ci => match ci with
  | 0 => TX1
  | 1 => TX2
  | 2 => TX3
  | 3 => TX5
  | 4 => TX6
  | 5 => TX7
  | 6 => TX8
  | 7 => TX9
  | _ => TX10
def jty : Nat → Nat → FieldType := fun ci => match ci with
  | 0 => tyX1
  | 1 => tyX2
  | 2 => tyX3
  | 3 => tyX5
  | 4 => tyX6
  | 5 => tyX7
  | 6 => tyX8
  | 7 => tyX9
  | _ => tyX10
def fnm : Nat → Nat := fun ci => match ci with
  | 0 => 4
  | 1 => 2
  | 2 => 5
  | 3 => 3
  | 4 => 7
  | 5 => 1
  | 6 => 15
  | 7 => 10
  | _ => 23
def jNc : Nat := 9
end
section
theorem dX0_beginnerWins_0 : decode cX0_beginnerWins 0 = .ok (.iload_n 0, 1) := by decide +kernel
theorem dX0_beginnerWins_1 : decode cX0_beginnerWins 1 = .ok (.iconst 4, 1) := by decide +kernel
theorem dX0_beginnerWins_2 : decode cX0_beginnerWins 2 = .ok (.irem, 1) := by decide +kernel
theorem dX0_beginnerWins_3 : decode cX0_beginnerWins 3 = .ok (.iconst 1, 1) := by decide +kernel
theorem dX0_beginnerWins_4 : decode cX0_beginnerWins 4 = .ok (.if_icmp .ne 7, 3) := by decide +kernel
theorem dX0_beginnerWins_7 : decode cX0_beginnerWins 7 = .ok (.iconst 0, 1) := by decide +kernel
theorem dX0_beginnerWins_8 : decode cX0_beginnerWins 8 = .ok (.goto 4, 3) := by decide +kernel
theorem dX0_beginnerWins_11 : decode cX0_beginnerWins 11 = .ok (.iconst 1, 1) := by decide +kernel
theorem dX0_beginnerWins_12 : decode cX0_beginnerWins 12 = .ok (.ireturn, 1) := by decide +kernel
theorem dX0_firstBroken_0 : decode cX0_firstBroken 0 = .ok (.iload_n 0, 1) := by decide +kernel
theorem dX0_firstBroken_1 : decode cX0_firstBroken 1 = .ok (.ifCond .ne 7, 3) := by decide +kernel
theorem dX0_firstBroken_4 : decode cX0_firstBroken 4 = .ok (.iconst 0, 1) := by decide +kernel
theorem dX0_firstBroken_5 : decode cX0_firstBroken 5 = .ok (.goto 8, 3) := by decide +kernel
theorem dX0_firstBroken_8 : decode cX0_firstBroken 8 = .ok (.iload_n 0, 1) := by decide +kernel
theorem dX0_firstBroken_9 : decode cX0_firstBroken 9 = .ok (.iconst 1, 1) := by decide +kernel
theorem dX0_firstBroken_10 : decode cX0_firstBroken 10 = .ok (.isub, 1) := by decide +kernel
theorem dX0_firstBroken_11 : decode cX0_firstBroken 11 = .ok (.iconst 4, 1) := by decide +kernel
theorem dX0_firstBroken_12 : decode cX0_firstBroken 12 = .ok (.irem, 1) := by decide +kernel
theorem dX0_firstBroken_13 : decode cX0_firstBroken 13 = .ok (.ireturn, 1) := by decide +kernel
theorem dX1_init_0 : decode cX1_init 0 = .ok (.aload_n 0, 1) := by decide +kernel
theorem dX1_init_1 : decode cX1_init 1 = .ok (.invokespecial 3, 3) := by decide +kernel
theorem dX1_init_4 : decode cX1_init 4 = .ok (.aload_n 0, 1) := by decide +kernel
theorem dX1_init_5 : decode cX1_init 5 = .ok (.bipush 6, 2) := by decide +kernel
theorem dX1_init_7 : decode cX1_init 7 = .ok (.newarray .int, 2) := by decide +kernel
theorem dX1_init_9 : decode cX1_init 9 = .ok (.putfield 9, 3) := by decide +kernel
theorem dX1_init_12 : decode cX1_init 12 = .ok (.aload_n 0, 1) := by decide +kernel
theorem dX1_init_13 : decode cX1_init 13 = .ok (.bipush 61, 2) := by decide +kernel
theorem dX1_init_15 : decode cX1_init 15 = .ok (.newarray .long, 2) := by decide +kernel
theorem dX1_init_17 : decode cX1_init 17 = .ok (.putfield 15, 3) := by decide +kernel
theorem dX1_init_20 : decode cX1_init 20 = .ok (.aload_n 0, 1) := by decide +kernel
theorem dX1_init_21 : decode cX1_init 21 = .ok (.iconst (-1), 1) := by decide +kernel
theorem dX1_init_22 : decode cX1_init 22 = .ok (.putfield 19, 3) := by decide +kernel
theorem dX1_init_25 : decode cX1_init 25 = .ok (.aload_n 0, 1) := by decide +kernel
theorem dX1_init_26 : decode cX1_init 26 = .ok (.iconst (-1), 1) := by decide +kernel
theorem dX1_init_27 : decode cX1_init 27 = .ok (.putfield 23, 3) := by decide +kernel
theorem dX1_init_30 : decode cX1_init 30 = .ok (.return_, 1) := by decide +kernel
theorem dX1_endOf_0 : decode cX1_endOf 0 = .ok (.aload_n 0, 1) := by decide +kernel
theorem dX1_endOf_1 : decode cX1_endOf 1 = .ok (.getfield 26, 3) := by decide +kernel
theorem dX1_endOf_4 : decode cX1_endOf 4 = .ok (.iload_n 1, 1) := by decide +kernel
theorem dX1_endOf_5 : decode cX1_endOf 5 = .ok (.iaload, 1) := by decide +kernel
theorem dX1_endOf_6 : decode cX1_endOf 6 = .ok (.iconst (-1), 1) := by decide +kernel
theorem dX1_endOf_7 : decode cX1_endOf 7 = .ok (.if_icmp .eq 10, 3) := by decide +kernel
theorem dX1_endOf_10 : decode cX1_endOf 10 = .ok (.aload_n 0, 1) := by decide +kernel
theorem dX1_endOf_11 : decode cX1_endOf 11 = .ok (.getfield 26, 3) := by decide +kernel
theorem dX1_endOf_14 : decode cX1_endOf 14 = .ok (.iload_n 1, 1) := by decide +kernel
theorem dX1_endOf_15 : decode cX1_endOf 15 = .ok (.iaload, 1) := by decide +kernel
theorem dX1_endOf_16 : decode cX1_endOf 16 = .ok (.ireturn, 1) := by decide +kernel
theorem dX1_endOf_17 : decode cX1_endOf 17 = .ok (.aload_n 0, 1) := by decide +kernel
theorem dX1_endOf_18 : decode cX1_endOf 18 = .ok (.getfield 31, 3) := by decide +kernel
theorem dX1_endOf_21 : decode cX1_endOf 21 = .ok (.iload_n 1, 1) := by decide +kernel
theorem dX1_endOf_22 : decode cX1_endOf 22 = .ok (.iaload, 1) := by decide +kernel
theorem dX1_endOf_23 : decode cX1_endOf 23 = .ok (.istore_n 2, 1) := by decide +kernel
theorem dX1_endOf_24 : decode cX1_endOf 24 = .ok (.iconst 0, 1) := by decide +kernel
theorem dX1_endOf_25 : decode cX1_endOf 25 = .ok (.istore_n 3, 1) := by decide +kernel
theorem dX1_endOf_26 : decode cX1_endOf 26 = .ok (.iload_n 3, 1) := by decide +kernel
theorem dX1_endOf_27 : decode cX1_endOf 27 = .ok (.bipush 99, 2) := by decide +kernel
theorem dX1_endOf_29 : decode cX1_endOf 29 = .ok (.if_icmp .ge 32, 3) := by decide +kernel
theorem dX1_endOf_32 : decode cX1_endOf 32 = .ok (.iload_n 2, 1) := by decide +kernel
theorem dX1_endOf_33 : decode cX1_endOf 33 = .ok (.ifCond .le 28, 3) := by decide +kernel
theorem dX1_endOf_36 : decode cX1_endOf 36 = .ok (.aload_n 0, 1) := by decide +kernel
theorem dX1_endOf_37 : decode cX1_endOf 37 = .ok (.iload_n 2, 1) := by decide +kernel
theorem dX1_endOf_38 : decode cX1_endOf 38 = .ok (.iload_n 1, 1) := by decide +kernel
theorem dX1_endOf_39 : decode cX1_endOf 39 = .ok (.iload_n 3, 1) := by decide +kernel
theorem dX1_endOf_40 : decode cX1_endOf 40 = .ok (.invokevirtual 34, 3) := by decide +kernel
theorem dX1_endOf_43 : decode cX1_endOf 43 = .ok (.istore_n 2, 1) := by decide +kernel
theorem dX1_endOf_44 : decode cX1_endOf 44 = .ok (.iload_n 2, 1) := by decide +kernel
theorem dX1_endOf_45 : decode cX1_endOf 45 = .ok (.ifCond .ne 10, 3) := by decide +kernel
theorem dX1_endOf_48 : decode cX1_endOf 48 = .ok (.aload_n 0, 1) := by decide +kernel
theorem dX1_endOf_49 : decode cX1_endOf 49 = .ok (.getfield 38, 3) := by decide +kernel
theorem dX1_endOf_52 : decode cX1_endOf 52 = .ok (.iload_n 3, 1) := by decide +kernel
theorem dX1_endOf_53 : decode cX1_endOf 53 = .ok (.iadd, 1) := by decide +kernel
theorem dX1_endOf_54 : decode cX1_endOf 54 = .ok (.ireturn, 1) := by decide +kernel
theorem dX1_endOf_55 : decode cX1_endOf 55 = .ok (.iinc 3 1, 3) := by decide +kernel
theorem dX1_endOf_58 : decode cX1_endOf 58 = .ok (.goto (-32), 3) := by decide +kernel
theorem dX1_endOf_61 : decode cX1_endOf 61 = .ok (.iconst (-1), 1) := by decide +kernel
theorem dX1_endOf_62 : decode cX1_endOf 62 = .ok (.ireturn, 1) := by decide +kernel
theorem dX1_lookForEnds_0 : decode cX1_lookForEnds 0 = .ok (.aload_n 0, 1) := by decide +kernel
theorem dX1_lookForEnds_1 : decode cX1_lookForEnds 1 = .ok (.iconst (-1), 1) := by decide +kernel
theorem dX1_lookForEnds_2 : decode cX1_lookForEnds 2 = .ok (.putfield 19, 3) := by decide +kernel
theorem dX1_lookForEnds_5 : decode cX1_lookForEnds 5 = .ok (.aload_n 0, 1) := by decide +kernel
theorem dX1_lookForEnds_6 : decode cX1_lookForEnds 6 = .ok (.iconst (-1), 1) := by decide +kernel
theorem dX1_lookForEnds_7 : decode cX1_lookForEnds 7 = .ok (.putfield 23, 3) := by decide +kernel
theorem dX1_lookForEnds_10 : decode cX1_lookForEnds 10 = .ok (.iconst 1, 1) := by decide +kernel
theorem dX1_lookForEnds_11 : decode cX1_lookForEnds 11 = .ok (.istore_n 2, 1) := by decide +kernel
theorem dX1_lookForEnds_12 : decode cX1_lookForEnds 12 = .ok (.aload_n 1, 1) := by decide +kernel
theorem dX1_lookForEnds_13 : decode cX1_lookForEnds 13 = .ok (.getfield 31, 3) := by decide +kernel
theorem dX1_lookForEnds_16 : decode cX1_lookForEnds 16 = .ok (.iconst 0, 1) := by decide +kernel
theorem dX1_lookForEnds_17 : decode cX1_lookForEnds 17 = .ok (.aload_n 0, 1) := by decide +kernel
theorem dX1_lookForEnds_18 : decode cX1_lookForEnds 18 = .ok (.getfield 9, 3) := by decide +kernel
theorem dX1_lookForEnds_21 : decode cX1_lookForEnds 21 = .ok (.iconst 0, 1) := by decide +kernel
theorem dX1_lookForEnds_22 : decode cX1_lookForEnds 22 = .ok (.bipush 6, 2) := by decide +kernel
theorem dX1_lookForEnds_24 : decode cX1_lookForEnds 24 = .ok (.invokestatic 41, 3) := by decide +kernel
theorem dX1_lookForEnds_27 : decode cX1_lookForEnds 27 = .ok (.iconst 0, 1) := by decide +kernel
theorem dX1_lookForEnds_28 : decode cX1_lookForEnds 28 = .ok (.istore_n 3, 1) := by decide +kernel
theorem dX1_lookForEnds_29 : decode cX1_lookForEnds 29 = .ok (.iload_n 3, 1) := by decide +kernel
theorem dX1_lookForEnds_30 : decode cX1_lookForEnds 30 = .ok (.bipush 99, 2) := by decide +kernel
theorem dX1_lookForEnds_32 : decode cX1_lookForEnds 32 = .ok (.if_icmp .ge 48, 3) := by decide +kernel
theorem dX1_lookForEnds_35 : decode cX1_lookForEnds 35 = .ok (.aload_n 0, 1) := by decide +kernel
theorem dX1_lookForEnds_36 : decode cX1_lookForEnds 36 = .ok (.aload_n 1, 1) := by decide +kernel
theorem dX1_lookForEnds_37 : decode cX1_lookForEnds 37 = .ok (.iload_n 3, 1) := by decide +kernel
theorem dX1_lookForEnds_38 : decode cX1_lookForEnds 38 = .ok (.invokevirtual 47, 3) := by decide +kernel
theorem dX1_lookForEnds_41 : decode cX1_lookForEnds 41 = .ok (.istore 4, 2) := by decide +kernel
theorem dX1_lookForEnds_43 : decode cX1_lookForEnds 43 = .ok (.iload 4, 2) := by decide +kernel
theorem dX1_lookForEnds_45 : decode cX1_lookForEnds 45 = .ok (.invokestatic 51, 3) := by decide +kernel
theorem dX1_lookForEnds_48 : decode cX1_lookForEnds 48 = .ok (.iload_n 2, 1) := by decide +kernel
theorem dX1_lookForEnds_49 : decode cX1_lookForEnds 49 = .ok (.if_icmp .le 25, 3) := by decide +kernel
theorem dX1_lookForEnds_52 : decode cX1_lookForEnds 52 = .ok (.iload 4, 2) := by decide +kernel
theorem dX1_lookForEnds_54 : decode cX1_lookForEnds 54 = .ok (.invokestatic 51, 3) := by decide +kernel
theorem dX1_lookForEnds_57 : decode cX1_lookForEnds 57 = .ok (.istore_n 2, 1) := by decide +kernel
theorem dX1_lookForEnds_58 : decode cX1_lookForEnds 58 = .ok (.aload_n 0, 1) := by decide +kernel
theorem dX1_lookForEnds_59 : decode cX1_lookForEnds 59 = .ok (.aload_n 1, 1) := by decide +kernel
theorem dX1_lookForEnds_60 : decode cX1_lookForEnds 60 = .ok (.getfield 38, 3) := by decide +kernel
theorem dX1_lookForEnds_63 : decode cX1_lookForEnds 63 = .ok (.iload_n 3, 1) := by decide +kernel
theorem dX1_lookForEnds_64 : decode cX1_lookForEnds 64 = .ok (.iadd, 1) := by decide +kernel
theorem dX1_lookForEnds_65 : decode cX1_lookForEnds 65 = .ok (.putfield 19, 3) := by decide +kernel
theorem dX1_lookForEnds_68 : decode cX1_lookForEnds 68 = .ok (.aload_n 0, 1) := by decide +kernel
theorem dX1_lookForEnds_69 : decode cX1_lookForEnds 69 = .ok (.iload 4, 2) := by decide +kernel
theorem dX1_lookForEnds_71 : decode cX1_lookForEnds 71 = .ok (.putfield 23, 3) := by decide +kernel
theorem dX1_lookForEnds_74 : decode cX1_lookForEnds 74 = .ok (.iinc 3 1, 3) := by decide +kernel
theorem dX1_lookForEnds_77 : decode cX1_lookForEnds 77 = .ok (.goto (-48), 3) := by decide +kernel
theorem dX1_lookForEnds_80 : decode cX1_lookForEnds 80 = .ok (.return_, 1) := by decide +kernel
theorem dX1_endingInYear_0 : decode cX1_endingInYear 0 = .ok (.iconst 0, 1) := by decide +kernel
theorem dX1_endingInYear_1 : decode cX1_endingInYear 1 = .ok (.istore_n 3, 1) := by decide +kernel
theorem dX1_endingInYear_2 : decode cX1_endingInYear 2 = .ok (.iconst 0, 1) := by decide +kernel
theorem dX1_endingInYear_3 : decode cX1_endingInYear 3 = .ok (.istore 4, 2) := by decide +kernel
theorem dX1_endingInYear_5 : decode cX1_endingInYear 5 = .ok (.iload 4, 2) := by decide +kernel
theorem dX1_endingInYear_7 : decode cX1_endingInYear 7 = .ok (.aload_n 1, 1) := by decide +kernel
theorem dX1_endingInYear_8 : decode cX1_endingInYear 8 = .ok (.getfield 57, 3) := by decide +kernel
theorem dX1_endingInYear_11 : decode cX1_endingInYear 11 = .ok (.if_icmp .ge 57, 3) := by decide +kernel
theorem dX1_endingInYear_14 : decode cX1_endingInYear 14 = .ok (.aload_n 0, 1) := by decide +kernel
theorem dX1_endingInYear_15 : decode cX1_endingInYear 15 = .ok (.getfield 9, 3) := by decide +kernel
theorem dX1_endingInYear_18 : decode cX1_endingInYear 18 = .ok (.iload 4, 2) := by decide +kernel
theorem dX1_endingInYear_20 : decode cX1_endingInYear 20 = .ok (.iaload, 1) := by decide +kernel
theorem dX1_endingInYear_21 : decode cX1_endingInYear 21 = .ok (.ifCond .le 41, 3) := by decide +kernel
theorem dX1_endingInYear_24 : decode cX1_endingInYear 24 = .ok (.aload_n 0, 1) := by decide +kernel
theorem dX1_endingInYear_25 : decode cX1_endingInYear 25 = .ok (.getfield 9, 3) := by decide +kernel
theorem dX1_endingInYear_28 : decode cX1_endingInYear 28 = .ok (.iload 4, 2) := by decide +kernel
theorem dX1_endingInYear_30 : decode cX1_endingInYear 30 = .ok (.aload_n 1, 1) := by decide +kernel
theorem dX1_endingInYear_31 : decode cX1_endingInYear 31 = .ok (.aload_n 0, 1) := by decide +kernel
theorem dX1_endingInYear_32 : decode cX1_endingInYear 32 = .ok (.getfield 9, 3) := by decide +kernel
theorem dX1_endingInYear_35 : decode cX1_endingInYear 35 = .ok (.iload 4, 2) := by decide +kernel
theorem dX1_endingInYear_37 : decode cX1_endingInYear 37 = .ok (.iaload, 1) := by decide +kernel
theorem dX1_endingInYear_38 : decode cX1_endingInYear 38 = .ok (.iload 4, 2) := by decide +kernel
theorem dX1_endingInYear_40 : decode cX1_endingInYear 40 = .ok (.iload_n 2, 1) := by decide +kernel
theorem dX1_endingInYear_41 : decode cX1_endingInYear 41 = .ok (.invokevirtual 34, 3) := by decide +kernel
theorem dX1_endingInYear_44 : decode cX1_endingInYear 44 = .ok (.iastore, 1) := by decide +kernel
theorem dX1_endingInYear_45 : decode cX1_endingInYear 45 = .ok (.aload_n 0, 1) := by decide +kernel
theorem dX1_endingInYear_46 : decode cX1_endingInYear 46 = .ok (.getfield 9, 3) := by decide +kernel
theorem dX1_endingInYear_49 : decode cX1_endingInYear 49 = .ok (.iload 4, 2) := by decide +kernel
theorem dX1_endingInYear_51 : decode cX1_endingInYear 51 = .ok (.iaload, 1) := by decide +kernel
theorem dX1_endingInYear_52 : decode cX1_endingInYear 52 = .ok (.ifCond .ne 10, 3) := by decide +kernel
theorem dX1_endingInYear_55 : decode cX1_endingInYear 55 = .ok (.iload_n 3, 1) := by decide +kernel
theorem dX1_endingInYear_56 : decode cX1_endingInYear 56 = .ok (.iconst 1, 1) := by decide +kernel
theorem dX1_endingInYear_57 : decode cX1_endingInYear 57 = .ok (.iload 4, 2) := by decide +kernel
theorem dX1_endingInYear_59 : decode cX1_endingInYear 59 = .ok (.ishl, 1) := by decide +kernel
theorem dX1_endingInYear_60 : decode cX1_endingInYear 60 = .ok (.ior, 1) := by decide +kernel
theorem dX1_endingInYear_61 : decode cX1_endingInYear 61 = .ok (.istore_n 3, 1) := by decide +kernel
theorem dX1_endingInYear_62 : decode cX1_endingInYear 62 = .ok (.iinc 4 1, 3) := by decide +kernel
theorem dX1_endingInYear_65 : decode cX1_endingInYear 65 = .ok (.goto (-60), 3) := by decide +kernel
theorem dX1_endingInYear_68 : decode cX1_endingInYear 68 = .ok (.iload_n 3, 1) := by decide +kernel
theorem dX1_endingInYear_69 : decode cX1_endingInYear 69 = .ok (.ireturn, 1) := by decide +kernel
theorem dX1_worstDrought_0 : decode cX1_worstDrought 0 = .ok (.iconst (-1), 1) := by decide +kernel
theorem dX1_worstDrought_1 : decode cX1_worstDrought 1 = .ok (.istore_n 2, 1) := by decide +kernel
theorem dX1_worstDrought_2 : decode cX1_worstDrought 2 = .ok (.iconst 0, 1) := by decide +kernel
theorem dX1_worstDrought_3 : decode cX1_worstDrought 3 = .ok (.istore_n 3, 1) := by decide +kernel
theorem dX1_worstDrought_4 : decode cX1_worstDrought 4 = .ok (.iconst 0, 1) := by decide +kernel
theorem dX1_worstDrought_5 : decode cX1_worstDrought 5 = .ok (.istore 4, 2) := by decide +kernel
theorem dX1_worstDrought_7 : decode cX1_worstDrought 7 = .ok (.iload 4, 2) := by decide +kernel
theorem dX1_worstDrought_9 : decode cX1_worstDrought 9 = .ok (.bipush 12, 2) := by decide +kernel
theorem dX1_worstDrought_11 : decode cX1_worstDrought 11 = .ok (.if_icmp .ge 54, 3) := by decide +kernel
theorem dX1_worstDrought_14 : decode cX1_worstDrought 14 = .ok (.aload_n 0, 1) := by decide +kernel
theorem dX1_worstDrought_15 : decode cX1_worstDrought 15 = .ok (.getfield 60, 3) := by decide +kernel
theorem dX1_worstDrought_18 : decode cX1_worstDrought 18 = .ok (.iload 4, 2) := by decide +kernel
theorem dX1_worstDrought_20 : decode cX1_worstDrought 20 = .ok (.ishr, 1) := by decide +kernel
theorem dX1_worstDrought_21 : decode cX1_worstDrought 21 = .ok (.iconst 1, 1) := by decide +kernel
theorem dX1_worstDrought_22 : decode cX1_worstDrought 22 = .ok (.iand, 1) := by decide +kernel
theorem dX1_worstDrought_23 : decode cX1_worstDrought 23 = .ok (.ifCond .ne 36, 3) := by decide +kernel
theorem dX1_worstDrought_26 : decode cX1_worstDrought 26 = .ok (.aload_n 0, 1) := by decide +kernel
theorem dX1_worstDrought_27 : decode cX1_worstDrought 27 = .ok (.iload_n 1, 1) := by decide +kernel
theorem dX1_worstDrought_28 : decode cX1_worstDrought 28 = .ok (.aload_n 0, 1) := by decide +kernel
theorem dX1_worstDrought_29 : decode cX1_worstDrought 29 = .ok (.getfield 60, 3) := by decide +kernel
theorem dX1_worstDrought_32 : decode cX1_worstDrought 32 = .ok (.iconst 1, 1) := by decide +kernel
theorem dX1_worstDrought_33 : decode cX1_worstDrought 33 = .ok (.iload 4, 2) := by decide +kernel
theorem dX1_worstDrought_35 : decode cX1_worstDrought 35 = .ok (.ishl, 1) := by decide +kernel
theorem dX1_worstDrought_36 : decode cX1_worstDrought 36 = .ok (.ior, 1) := by decide +kernel
theorem dX1_worstDrought_37 : decode cX1_worstDrought 37 = .ok (.invokestatic 63, 3) := by decide +kernel
theorem dX1_worstDrought_40 : decode cX1_worstDrought 40 = .ok (.istore 5, 2) := by decide +kernel
theorem dX1_worstDrought_42 : decode cX1_worstDrought 42 = .ok (.iload_n 2, 1) := by decide +kernel
theorem dX1_worstDrought_43 : decode cX1_worstDrought 43 = .ok (.iconst (-1), 1) := by decide +kernel
theorem dX1_worstDrought_44 : decode cX1_worstDrought 44 = .ok (.if_icmp .eq 9, 3) := by decide +kernel
theorem dX1_worstDrought_47 : decode cX1_worstDrought 47 = .ok (.iload 5, 2) := by decide +kernel
theorem dX1_worstDrought_49 : decode cX1_worstDrought 49 = .ok (.iload_n 3, 1) := by decide +kernel
theorem dX1_worstDrought_50 : decode cX1_worstDrought 50 = .ok (.if_icmp .ge 9, 3) := by decide +kernel
theorem dX1_worstDrought_53 : decode cX1_worstDrought 53 = .ok (.iload 4, 2) := by decide +kernel
theorem dX1_worstDrought_55 : decode cX1_worstDrought 55 = .ok (.istore_n 2, 1) := by decide +kernel
theorem dX1_worstDrought_56 : decode cX1_worstDrought 56 = .ok (.iload 5, 2) := by decide +kernel
theorem dX1_worstDrought_58 : decode cX1_worstDrought 58 = .ok (.istore_n 3, 1) := by decide +kernel
theorem dX1_worstDrought_59 : decode cX1_worstDrought 59 = .ok (.iinc 4 1, 3) := by decide +kernel
theorem dX1_worstDrought_62 : decode cX1_worstDrought 62 = .ok (.goto (-55), 3) := by decide +kernel
theorem dX1_worstDrought_65 : decode cX1_worstDrought 65 = .ok (.iload_n 2, 1) := by decide +kernel
theorem dX1_worstDrought_66 : decode cX1_worstDrought 66 = .ok (.ireturn, 1) := by decide +kernel
theorem dX1_loavesBehind_0 : decode cX1_loavesBehind 0 = .ok (.iconst 0, 1) := by decide +kernel
theorem dX1_loavesBehind_1 : decode cX1_loavesBehind 1 = .ok (.istore_n 3, 1) := by decide +kernel
theorem dX1_loavesBehind_2 : decode cX1_loavesBehind 2 = .ok (.iconst 0, 1) := by decide +kernel
theorem dX1_loavesBehind_3 : decode cX1_loavesBehind 3 = .ok (.istore 4, 2) := by decide +kernel
theorem dX1_loavesBehind_5 : decode cX1_loavesBehind 5 = .ok (.iload 4, 2) := by decide +kernel
theorem dX1_loavesBehind_7 : decode cX1_loavesBehind 7 = .ok (.aload_n 0, 1) := by decide +kernel
theorem dX1_loavesBehind_8 : decode cX1_loavesBehind 8 = .ok (.getfield 57, 3) := by decide +kernel
theorem dX1_loavesBehind_11 : decode cX1_loavesBehind 11 = .ok (.if_icmp .ge 32, 3) := by decide +kernel
theorem dX1_loavesBehind_14 : decode cX1_loavesBehind 14 = .ok (.iload_n 3, 1) := by decide +kernel
theorem dX1_loavesBehind_15 : decode cX1_loavesBehind 15 = .ok (.aload_n 0, 1) := by decide +kernel
theorem dX1_loavesBehind_16 : decode cX1_loavesBehind 16 = .ok (.aload_n 0, 1) := by decide +kernel
theorem dX1_loavesBehind_17 : decode cX1_loavesBehind 17 = .ok (.getfield 67, 3) := by decide +kernel
theorem dX1_loavesBehind_20 : decode cX1_loavesBehind 20 = .ok (.iload 4, 2) := by decide +kernel
theorem dX1_loavesBehind_22 : decode cX1_loavesBehind 22 = .ok (.iaload, 1) := by decide +kernel
theorem dX1_loavesBehind_23 : decode cX1_loavesBehind 23 = .ok (.aload_n 0, 1) := by decide +kernel
theorem dX1_loavesBehind_24 : decode cX1_loavesBehind 24 = .ok (.getfield 31, 3) := by decide +kernel
theorem dX1_loavesBehind_27 : decode cX1_loavesBehind 27 = .ok (.iload 4, 2) := by decide +kernel
theorem dX1_loavesBehind_29 : decode cX1_loavesBehind 29 = .ok (.iaload, 1) := by decide +kernel
theorem dX1_loavesBehind_30 : decode cX1_loavesBehind 30 = .ok (.iload_n 1, 1) := by decide +kernel
theorem dX1_loavesBehind_31 : decode cX1_loavesBehind 31 = .ok (.iload_n 2, 1) := by decide +kernel
theorem dX1_loavesBehind_32 : decode cX1_loavesBehind 32 = .ok (.invokevirtual 70, 3) := by decide +kernel
theorem dX1_loavesBehind_35 : decode cX1_loavesBehind 35 = .ok (.iadd, 1) := by decide +kernel
theorem dX1_loavesBehind_36 : decode cX1_loavesBehind 36 = .ok (.istore_n 3, 1) := by decide +kernel
theorem dX1_loavesBehind_37 : decode cX1_loavesBehind 37 = .ok (.iinc 4 1, 3) := by decide +kernel
theorem dX1_loavesBehind_40 : decode cX1_loavesBehind 40 = .ok (.goto (-35), 3) := by decide +kernel
theorem dX1_loavesBehind_43 : decode cX1_loavesBehind 43 = .ok (.iload_n 3, 1) := by decide +kernel
theorem dX1_loavesBehind_44 : decode cX1_loavesBehind 44 = .ok (.ireturn, 1) := by decide +kernel
theorem dX1_loavesBySeed_0 : decode cX1_loavesBySeed 0 = .ok (.aload_n 1, 1) := by decide +kernel
theorem dX1_loavesBySeed_1 : decode cX1_loavesBySeed 1 = .ok (.getfield 31, 3) := by decide +kernel
theorem dX1_loavesBySeed_4 : decode cX1_loavesBySeed 4 = .ok (.iconst 0, 1) := by decide +kernel
theorem dX1_loavesBySeed_5 : decode cX1_loavesBySeed 5 = .ok (.aload_n 0, 1) := by decide +kernel
theorem dX1_loavesBySeed_6 : decode cX1_loavesBySeed 6 = .ok (.getfield 9, 3) := by decide +kernel
theorem dX1_loavesBySeed_9 : decode cX1_loavesBySeed 9 = .ok (.iconst 0, 1) := by decide +kernel
theorem dX1_loavesBySeed_10 : decode cX1_loavesBySeed 10 = .ok (.bipush 6, 2) := by decide +kernel
theorem dX1_loavesBySeed_12 : decode cX1_loavesBySeed 12 = .ok (.invokestatic 41, 3) := by decide +kernel
theorem dX1_loavesBySeed_15 : decode cX1_loavesBySeed 15 = .ok (.iload_n 2, 1) := by decide +kernel
theorem dX1_loavesBySeed_16 : decode cX1_loavesBySeed 16 = .ok (.i2l, 1) := by decide +kernel
theorem dX1_loavesBySeed_17 : decode cX1_loavesBySeed 17 = .ok (.lstore 5, 2) := by decide +kernel
theorem dX1_loavesBySeed_19 : decode cX1_loavesBySeed 19 = .ok (.iconst 0, 1) := by decide +kernel
theorem dX1_loavesBySeed_20 : decode cX1_loavesBySeed 20 = .ok (.istore 7, 2) := by decide +kernel
theorem dX1_loavesBySeed_22 : decode cX1_loavesBySeed 22 = .ok (.iload 7, 2) := by decide +kernel
theorem dX1_loavesBySeed_24 : decode cX1_loavesBySeed 24 = .ok (.iload_n 3, 1) := by decide +kernel
theorem dX1_loavesBySeed_25 : decode cX1_loavesBySeed 25 = .ok (.if_icmp .ge 103, 3) := by decide +kernel
theorem dX1_loavesBySeed_28 : decode cX1_loavesBySeed 28 = .ok (.iconst 0, 1) := by decide +kernel
theorem dX1_loavesBySeed_29 : decode cX1_loavesBySeed 29 = .ok (.istore 8, 2) := by decide +kernel
theorem dX1_loavesBySeed_31 : decode cX1_loavesBySeed 31 = .ok (.iload 8, 2) := by decide +kernel
theorem dX1_loavesBySeed_33 : decode cX1_loavesBySeed 33 = .ok (.aload_n 1, 1) := by decide +kernel
theorem dX1_loavesBySeed_34 : decode cX1_loavesBySeed 34 = .ok (.getfield 57, 3) := by decide +kernel
theorem dX1_loavesBySeed_37 : decode cX1_loavesBySeed 37 = .ok (.if_icmp .ge 85, 3) := by decide +kernel
theorem dX1_loavesBySeed_40 : decode cX1_loavesBySeed 40 = .ok (.lload 5, 2) := by decide +kernel
theorem dX1_loavesBySeed_42 : decode cX1_loavesBySeed 42 = .ok (.ldc2_w 74, 3) := by decide +kernel
theorem dX1_loavesBySeed_45 : decode cX1_loavesBySeed 45 = .ok (.lmul, 1) := by decide +kernel
theorem dX1_loavesBySeed_46 : decode cX1_loavesBySeed 46 = .ok (.ldc2_w 76, 3) := by decide +kernel
theorem dX1_loavesBySeed_49 : decode cX1_loavesBySeed 49 = .ok (.ladd, 1) := by decide +kernel
theorem dX1_loavesBySeed_50 : decode cX1_loavesBySeed 50 = .ok (.ldc2_w 78, 3) := by decide +kernel
theorem dX1_loavesBySeed_53 : decode cX1_loavesBySeed 53 = .ok (.lrem, 1) := by decide +kernel
theorem dX1_loavesBySeed_54 : decode cX1_loavesBySeed 54 = .ok (.lstore 5, 2) := by decide +kernel
theorem dX1_loavesBySeed_56 : decode cX1_loavesBySeed 56 = .ok (.aload_n 0, 1) := by decide +kernel
theorem dX1_loavesBySeed_57 : decode cX1_loavesBySeed 57 = .ok (.getfield 9, 3) := by decide +kernel
theorem dX1_loavesBySeed_60 : decode cX1_loavesBySeed 60 = .ok (.iload 8, 2) := by decide +kernel
theorem dX1_loavesBySeed_62 : decode cX1_loavesBySeed 62 = .ok (.aload_n 1, 1) := by decide +kernel
theorem dX1_loavesBySeed_63 : decode cX1_loavesBySeed 63 = .ok (.aload_n 0, 1) := by decide +kernel
theorem dX1_loavesBySeed_64 : decode cX1_loavesBySeed 64 = .ok (.getfield 9, 3) := by decide +kernel
theorem dX1_loavesBySeed_67 : decode cX1_loavesBySeed 67 = .ok (.iload 8, 2) := by decide +kernel
theorem dX1_loavesBySeed_69 : decode cX1_loavesBySeed 69 = .ok (.iaload, 1) := by decide +kernel
theorem dX1_loavesBySeed_70 : decode cX1_loavesBySeed 70 = .ok (.iload 8, 2) := by decide +kernel
theorem dX1_loavesBySeed_72 : decode cX1_loavesBySeed 72 = .ok (.iload 7, 2) := by decide +kernel
theorem dX1_loavesBySeed_74 : decode cX1_loavesBySeed 74 = .ok (.invokevirtual 34, 3) := by decide +kernel
theorem dX1_loavesBySeed_77 : decode cX1_loavesBySeed 77 = .ok (.iastore, 1) := by decide +kernel
theorem dX1_loavesBySeed_78 : decode cX1_loavesBySeed 78 = .ok (.lload 5, 2) := by decide +kernel
theorem dX1_loavesBySeed_80 : decode cX1_loavesBySeed 80 = .ok (.ldc2_w 80, 3) := by decide +kernel
theorem dX1_loavesBySeed_83 : decode cX1_loavesBySeed 83 = .ok (.ldiv, 1) := by decide +kernel
theorem dX1_loavesBySeed_84 : decode cX1_loavesBySeed 84 = .ok (.ldc2_w 82, 3) := by decide +kernel
theorem dX1_loavesBySeed_87 : decode cX1_loavesBySeed 87 = .ok (.lrem, 1) := by decide +kernel
theorem dX1_loavesBySeed_88 : decode cX1_loavesBySeed 88 = .ok (.iload 4, 2) := by decide +kernel
theorem dX1_loavesBySeed_90 : decode cX1_loavesBySeed 90 = .ok (.i2l, 1) := by decide +kernel
theorem dX1_loavesBySeed_91 : decode cX1_loavesBySeed 91 = .ok (.lcmp, 1) := by decide +kernel
theorem dX1_loavesBySeed_92 : decode cX1_loavesBySeed 92 = .ok (.ifCond .ge 24, 3) := by decide +kernel
theorem dX1_loavesBySeed_95 : decode cX1_loavesBySeed 95 = .ok (.aload_n 0, 1) := by decide +kernel
theorem dX1_loavesBySeed_96 : decode cX1_loavesBySeed 96 = .ok (.getfield 9, 3) := by decide +kernel
theorem dX1_loavesBySeed_99 : decode cX1_loavesBySeed 99 = .ok (.iload 8, 2) := by decide +kernel
theorem dX1_loavesBySeed_101 : decode cX1_loavesBySeed 101 = .ok (.iaload, 1) := by decide +kernel
theorem dX1_loavesBySeed_102 : decode cX1_loavesBySeed 102 = .ok (.ifCond .le 14, 3) := by decide +kernel
theorem dX1_loavesBySeed_105 : decode cX1_loavesBySeed 105 = .ok (.aload_n 0, 1) := by decide +kernel
theorem dX1_loavesBySeed_106 : decode cX1_loavesBySeed 106 = .ok (.getfield 9, 3) := by decide +kernel
theorem dX1_loavesBySeed_109 : decode cX1_loavesBySeed 109 = .ok (.iload 8, 2) := by decide +kernel
theorem dX1_loavesBySeed_111 : decode cX1_loavesBySeed 111 = .ok (.dup2, 1) := by decide +kernel
theorem dX1_loavesBySeed_112 : decode cX1_loavesBySeed 112 = .ok (.iaload, 1) := by decide +kernel
theorem dX1_loavesBySeed_113 : decode cX1_loavesBySeed 113 = .ok (.iconst 1, 1) := by decide +kernel
theorem dX1_loavesBySeed_114 : decode cX1_loavesBySeed 114 = .ok (.isub, 1) := by decide +kernel
theorem dX1_loavesBySeed_115 : decode cX1_loavesBySeed 115 = .ok (.iastore, 1) := by decide +kernel
theorem dX1_loavesBySeed_116 : decode cX1_loavesBySeed 116 = .ok (.iinc 8 1, 3) := by decide +kernel
theorem dX1_loavesBySeed_119 : decode cX1_loavesBySeed 119 = .ok (.goto (-88), 3) := by decide +kernel
theorem dX1_loavesBySeed_122 : decode cX1_loavesBySeed 122 = .ok (.iinc 7 1, 3) := by decide +kernel
theorem dX1_loavesBySeed_125 : decode cX1_loavesBySeed 125 = .ok (.goto (-103), 3) := by decide +kernel
theorem dX1_loavesBySeed_128 : decode cX1_loavesBySeed 128 = .ok (.iconst 0, 1) := by decide +kernel
theorem dX1_loavesBySeed_129 : decode cX1_loavesBySeed 129 = .ok (.istore 7, 2) := by decide +kernel
theorem dX1_loavesBySeed_131 : decode cX1_loavesBySeed 131 = .ok (.iconst 0, 1) := by decide +kernel
theorem dX1_loavesBySeed_132 : decode cX1_loavesBySeed 132 = .ok (.istore 8, 2) := by decide +kernel
theorem dX1_loavesBySeed_134 : decode cX1_loavesBySeed 134 = .ok (.iload 8, 2) := by decide +kernel
theorem dX1_loavesBySeed_136 : decode cX1_loavesBySeed 136 = .ok (.aload_n 1, 1) := by decide +kernel
theorem dX1_loavesBySeed_137 : decode cX1_loavesBySeed 137 = .ok (.getfield 57, 3) := by decide +kernel
theorem dX1_loavesBySeed_140 : decode cX1_loavesBySeed 140 = .ok (.if_icmp .ge 21, 3) := by decide +kernel
theorem dX1_loavesBySeed_143 : decode cX1_loavesBySeed 143 = .ok (.iload 7, 2) := by decide +kernel
theorem dX1_loavesBySeed_145 : decode cX1_loavesBySeed 145 = .ok (.aload_n 0, 1) := by decide +kernel
theorem dX1_loavesBySeed_146 : decode cX1_loavesBySeed 146 = .ok (.getfield 9, 3) := by decide +kernel
theorem dX1_loavesBySeed_149 : decode cX1_loavesBySeed 149 = .ok (.iload 8, 2) := by decide +kernel
theorem dX1_loavesBySeed_151 : decode cX1_loavesBySeed 151 = .ok (.iaload, 1) := by decide +kernel
theorem dX1_loavesBySeed_152 : decode cX1_loavesBySeed 152 = .ok (.iadd, 1) := by decide +kernel
theorem dX1_loavesBySeed_153 : decode cX1_loavesBySeed 153 = .ok (.istore 7, 2) := by decide +kernel
theorem dX1_loavesBySeed_155 : decode cX1_loavesBySeed 155 = .ok (.iinc 8 1, 3) := by decide +kernel
theorem dX1_loavesBySeed_158 : decode cX1_loavesBySeed 158 = .ok (.goto (-24), 3) := by decide +kernel
theorem dX1_loavesBySeed_161 : decode cX1_loavesBySeed 161 = .ok (.iload 7, 2) := by decide +kernel
theorem dX1_loavesBySeed_163 : decode cX1_loavesBySeed 163 = .ok (.ireturn, 1) := by decide +kernel
theorem dX1_chanceWithMice_0 : decode cX1_chanceWithMice 0 = .ok (.iconst 0, 1) := by decide +kernel
theorem dX1_chanceWithMice_1 : decode cX1_chanceWithMice 1 = .ok (.istore 6, 2) := by decide +kernel
theorem dX1_chanceWithMice_3 : decode cX1_chanceWithMice 3 = .ok (.iload 6, 2) := by decide +kernel
theorem dX1_chanceWithMice_5 : decode cX1_chanceWithMice 5 = .ok (.bipush 60, 2) := by decide +kernel
theorem dX1_chanceWithMice_7 : decode cX1_chanceWithMice 7 = .ok (.if_icmp .gt 32, 3) := by decide +kernel
theorem dX1_chanceWithMice_10 : decode cX1_chanceWithMice 10 = .ok (.aload_n 0, 1) := by decide +kernel
theorem dX1_chanceWithMice_11 : decode cX1_chanceWithMice 11 = .ok (.getfield 15, 3) := by decide +kernel
theorem dX1_chanceWithMice_14 : decode cX1_chanceWithMice 14 = .ok (.iload 6, 2) := by decide +kernel
theorem dX1_chanceWithMice_16 : decode cX1_chanceWithMice 16 = .ok (.iload 6, 2) := by decide +kernel
theorem dX1_chanceWithMice_18 : decode cX1_chanceWithMice 18 = .ok (.aload_n 1, 1) := by decide +kernel
theorem dX1_chanceWithMice_19 : decode cX1_chanceWithMice 19 = .ok (.getfield 31, 3) := by decide +kernel
theorem dX1_chanceWithMice_22 : decode cX1_chanceWithMice 22 = .ok (.iload_n 2, 1) := by decide +kernel
theorem dX1_chanceWithMice_23 : decode cX1_chanceWithMice 23 = .ok (.iaload, 1) := by decide +kernel
theorem dX1_chanceWithMice_24 : decode cX1_chanceWithMice 24 = .ok (.if_icmp .ne 7, 3) := by decide +kernel
theorem dX1_chanceWithMice_27 : decode cX1_chanceWithMice 27 = .ok (.lconst 1, 1) := by decide +kernel
theorem dX1_chanceWithMice_28 : decode cX1_chanceWithMice 28 = .ok (.goto 4, 3) := by decide +kernel
theorem dX1_chanceWithMice_31 : decode cX1_chanceWithMice 31 = .ok (.lconst 0, 1) := by decide +kernel
theorem dX1_chanceWithMice_32 : decode cX1_chanceWithMice 32 = .ok (.lastore, 1) := by decide +kernel
theorem dX1_chanceWithMice_33 : decode cX1_chanceWithMice 33 = .ok (.iinc 6 1, 3) := by decide +kernel
theorem dX1_chanceWithMice_36 : decode cX1_chanceWithMice 36 = .ok (.goto (-33), 3) := by decide +kernel
theorem dX1_chanceWithMice_39 : decode cX1_chanceWithMice 39 = .ok (.lconst 1, 1) := by decide +kernel
theorem dX1_chanceWithMice_40 : decode cX1_chanceWithMice 40 = .ok (.lstore 6, 2) := by decide +kernel
theorem dX1_chanceWithMice_42 : decode cX1_chanceWithMice 42 = .ok (.iconst 0, 1) := by decide +kernel
theorem dX1_chanceWithMice_43 : decode cX1_chanceWithMice 43 = .ok (.istore 8, 2) := by decide +kernel
theorem dX1_chanceWithMice_45 : decode cX1_chanceWithMice 45 = .ok (.iload 8, 2) := by decide +kernel
theorem dX1_chanceWithMice_47 : decode cX1_chanceWithMice 47 = .ok (.iload_n 3, 1) := by decide +kernel
theorem dX1_chanceWithMice_48 : decode cX1_chanceWithMice 48 = .ok (.if_icmp .ge 27, 3) := by decide +kernel
theorem dX1_chanceWithMice_51 : decode cX1_chanceWithMice 51 = .ok (.aload_n 0, 1) := by decide +kernel
theorem dX1_chanceWithMice_52 : decode cX1_chanceWithMice 52 = .ok (.aload_n 1, 1) := by decide +kernel
theorem dX1_chanceWithMice_53 : decode cX1_chanceWithMice 53 = .ok (.iload_n 2, 1) := by decide +kernel
theorem dX1_chanceWithMice_54 : decode cX1_chanceWithMice 54 = .ok (.iload 8, 2) := by decide +kernel
theorem dX1_chanceWithMice_56 : decode cX1_chanceWithMice 56 = .ok (.iload 4, 2) := by decide +kernel
theorem dX1_chanceWithMice_58 : decode cX1_chanceWithMice 58 = .ok (.invokevirtual 84, 3) := by decide +kernel
theorem dX1_chanceWithMice_61 : decode cX1_chanceWithMice 61 = .ok (.lload 6, 2) := by decide +kernel
theorem dX1_chanceWithMice_63 : decode cX1_chanceWithMice 63 = .ok (.ldc2_w 88, 3) := by decide +kernel
theorem dX1_chanceWithMice_66 : decode cX1_chanceWithMice 66 = .ok (.lmul, 1) := by decide +kernel
theorem dX1_chanceWithMice_67 : decode cX1_chanceWithMice 67 = .ok (.lstore 6, 2) := by decide +kernel
theorem dX1_chanceWithMice_69 : decode cX1_chanceWithMice 69 = .ok (.iinc 8 1, 3) := by decide +kernel
theorem dX1_chanceWithMice_72 : decode cX1_chanceWithMice 72 = .ok (.goto (-27), 3) := by decide +kernel
theorem dX1_chanceWithMice_75 : decode cX1_chanceWithMice 75 = .ok (.aload 5, 2) := by decide +kernel
theorem dX1_chanceWithMice_77 : decode cX1_chanceWithMice 77 = .ok (.lload 6, 2) := by decide +kernel
theorem dX1_chanceWithMice_79 : decode cX1_chanceWithMice 79 = .ok (.aload_n 0, 1) := by decide +kernel
theorem dX1_chanceWithMice_80 : decode cX1_chanceWithMice 80 = .ok (.getfield 15, 3) := by decide +kernel
theorem dX1_chanceWithMice_83 : decode cX1_chanceWithMice 83 = .ok (.iconst 0, 1) := by decide +kernel
theorem dX1_chanceWithMice_84 : decode cX1_chanceWithMice 84 = .ok (.laload, 1) := by decide +kernel
theorem dX1_chanceWithMice_85 : decode cX1_chanceWithMice 85 = .ok (.lsub, 1) := by decide +kernel
theorem dX1_chanceWithMice_86 : decode cX1_chanceWithMice 86 = .ok (.lload 6, 2) := by decide +kernel
theorem dX1_chanceWithMice_88 : decode cX1_chanceWithMice 88 = .ok (.invokevirtual 90, 3) := by decide +kernel
theorem dX1_chanceWithMice_91 : decode cX1_chanceWithMice 91 = .ok (.return_, 1) := by decide +kernel
theorem dX1_miceEat_0 : decode cX1_miceEat 0 = .ok (.iconst 0, 1) := by decide +kernel
theorem dX1_miceEat_1 : decode cX1_miceEat 1 = .ok (.istore 5, 2) := by decide +kernel
theorem dX1_miceEat_3 : decode cX1_miceEat 3 = .ok (.iload 5, 2) := by decide +kernel
theorem dX1_miceEat_5 : decode cX1_miceEat 5 = .ok (.bipush 60, 2) := by decide +kernel
theorem dX1_miceEat_7 : decode cX1_miceEat 7 = .ok (.if_icmp .gt 96, 3) := by decide +kernel
theorem dX1_miceEat_10 : decode cX1_miceEat 10 = .ok (.aload_n 0, 1) := by decide +kernel
theorem dX1_miceEat_11 : decode cX1_miceEat 11 = .ok (.getfield 15, 3) := by decide +kernel
theorem dX1_miceEat_14 : decode cX1_miceEat 14 = .ok (.iload 5, 2) := by decide +kernel
theorem dX1_miceEat_16 : decode cX1_miceEat 16 = .ok (.laload, 1) := by decide +kernel
theorem dX1_miceEat_17 : decode cX1_miceEat 17 = .ok (.lstore 6, 2) := by decide +kernel
theorem dX1_miceEat_19 : decode cX1_miceEat 19 = .ok (.aload_n 0, 1) := by decide +kernel
theorem dX1_miceEat_20 : decode cX1_miceEat 20 = .ok (.getfield 15, 3) := by decide +kernel
theorem dX1_miceEat_23 : decode cX1_miceEat 23 = .ok (.iload 5, 2) := by decide +kernel
theorem dX1_miceEat_25 : decode cX1_miceEat 25 = .ok (.lconst 0, 1) := by decide +kernel
theorem dX1_miceEat_26 : decode cX1_miceEat 26 = .ok (.lastore, 1) := by decide +kernel
theorem dX1_miceEat_27 : decode cX1_miceEat 27 = .ok (.aload_n 1, 1) := by decide +kernel
theorem dX1_miceEat_28 : decode cX1_miceEat 28 = .ok (.iload 5, 2) := by decide +kernel
theorem dX1_miceEat_30 : decode cX1_miceEat 30 = .ok (.iload_n 2, 1) := by decide +kernel
theorem dX1_miceEat_31 : decode cX1_miceEat 31 = .ok (.iload_n 3, 1) := by decide +kernel
theorem dX1_miceEat_32 : decode cX1_miceEat 32 = .ok (.invokevirtual 34, 3) := by decide +kernel
theorem dX1_miceEat_35 : decode cX1_miceEat 35 = .ok (.istore 8, 2) := by decide +kernel
theorem dX1_miceEat_37 : decode cX1_miceEat 37 = .ok (.iload 8, 2) := by decide +kernel
theorem dX1_miceEat_39 : decode cX1_miceEat 39 = .ok (.ifCond .ne 21, 3) := by decide +kernel
theorem dX1_miceEat_42 : decode cX1_miceEat 42 = .ok (.aload_n 0, 1) := by decide +kernel
theorem dX1_miceEat_43 : decode cX1_miceEat 43 = .ok (.getfield 15, 3) := by decide +kernel
theorem dX1_miceEat_46 : decode cX1_miceEat 46 = .ok (.iconst 0, 1) := by decide +kernel
theorem dX1_miceEat_47 : decode cX1_miceEat 47 = .ok (.dup2, 1) := by decide +kernel
theorem dX1_miceEat_48 : decode cX1_miceEat 48 = .ok (.laload, 1) := by decide +kernel
theorem dX1_miceEat_49 : decode cX1_miceEat 49 = .ok (.lload 6, 2) := by decide +kernel
theorem dX1_miceEat_51 : decode cX1_miceEat 51 = .ok (.ldc2_w 88, 3) := by decide +kernel
theorem dX1_miceEat_54 : decode cX1_miceEat 54 = .ok (.lmul, 1) := by decide +kernel
theorem dX1_miceEat_55 : decode cX1_miceEat 55 = .ok (.ladd, 1) := by decide +kernel
theorem dX1_miceEat_56 : decode cX1_miceEat 56 = .ok (.lastore, 1) := by decide +kernel
theorem dX1_miceEat_57 : decode cX1_miceEat 57 = .ok (.goto 40, 3) := by decide +kernel
theorem dX1_miceEat_60 : decode cX1_miceEat 60 = .ok (.aload_n 0, 1) := by decide +kernel
theorem dX1_miceEat_61 : decode cX1_miceEat 61 = .ok (.getfield 15, 3) := by decide +kernel
theorem dX1_miceEat_64 : decode cX1_miceEat 64 = .ok (.iload 8, 2) := by decide +kernel
theorem dX1_miceEat_66 : decode cX1_miceEat 66 = .ok (.dup2, 1) := by decide +kernel
theorem dX1_miceEat_67 : decode cX1_miceEat 67 = .ok (.laload, 1) := by decide +kernel
theorem dX1_miceEat_68 : decode cX1_miceEat 68 = .ok (.lload 6, 2) := by decide +kernel
theorem dX1_miceEat_70 : decode cX1_miceEat 70 = .ok (.bipush 10, 2) := by decide +kernel
theorem dX1_miceEat_72 : decode cX1_miceEat 72 = .ok (.iload 4, 2) := by decide +kernel
theorem dX1_miceEat_74 : decode cX1_miceEat 74 = .ok (.isub, 1) := by decide +kernel
theorem dX1_miceEat_75 : decode cX1_miceEat 75 = .ok (.i2l, 1) := by decide +kernel
theorem dX1_miceEat_76 : decode cX1_miceEat 76 = .ok (.lmul, 1) := by decide +kernel
theorem dX1_miceEat_77 : decode cX1_miceEat 77 = .ok (.ladd, 1) := by decide +kernel
theorem dX1_miceEat_78 : decode cX1_miceEat 78 = .ok (.lastore, 1) := by decide +kernel
theorem dX1_miceEat_79 : decode cX1_miceEat 79 = .ok (.aload_n 0, 1) := by decide +kernel
theorem dX1_miceEat_80 : decode cX1_miceEat 80 = .ok (.getfield 15, 3) := by decide +kernel
theorem dX1_miceEat_83 : decode cX1_miceEat 83 = .ok (.iload 8, 2) := by decide +kernel
theorem dX1_miceEat_85 : decode cX1_miceEat 85 = .ok (.iconst 1, 1) := by decide +kernel
theorem dX1_miceEat_86 : decode cX1_miceEat 86 = .ok (.isub, 1) := by decide +kernel
theorem dX1_miceEat_87 : decode cX1_miceEat 87 = .ok (.dup2, 1) := by decide +kernel
theorem dX1_miceEat_88 : decode cX1_miceEat 88 = .ok (.laload, 1) := by decide +kernel
theorem dX1_miceEat_89 : decode cX1_miceEat 89 = .ok (.lload 6, 2) := by decide +kernel
theorem dX1_miceEat_91 : decode cX1_miceEat 91 = .ok (.iload 4, 2) := by decide +kernel
theorem dX1_miceEat_93 : decode cX1_miceEat 93 = .ok (.i2l, 1) := by decide +kernel
theorem dX1_miceEat_94 : decode cX1_miceEat 94 = .ok (.lmul, 1) := by decide +kernel
theorem dX1_miceEat_95 : decode cX1_miceEat 95 = .ok (.ladd, 1) := by decide +kernel
theorem dX1_miceEat_96 : decode cX1_miceEat 96 = .ok (.lastore, 1) := by decide +kernel
theorem dX1_miceEat_97 : decode cX1_miceEat 97 = .ok (.iinc 5 1, 3) := by decide +kernel
theorem dX1_miceEat_100 : decode cX1_miceEat 100 = .ok (.goto (-97), 3) := by decide +kernel
theorem dX1_miceEat_103 : decode cX1_miceEat 103 = .ok (.return_, 1) := by decide +kernel
theorem dX2_init_0 : decode cX2_init 0 = .ok (.aload_n 0, 1) := by decide +kernel
theorem dX2_init_1 : decode cX2_init 1 = .ok (.invokespecial 1, 3) := by decide +kernel
theorem dX2_init_4 : decode cX2_init 4 = .ok (.aload_n 0, 1) := by decide +kernel
theorem dX2_init_5 : decode cX2_init 5 = .ok (.lconst 0, 1) := by decide +kernel
theorem dX2_init_6 : decode cX2_init 6 = .ok (.putfield 7, 3) := by decide +kernel
theorem dX2_init_9 : decode cX2_init 9 = .ok (.aload_n 0, 1) := by decide +kernel
theorem dX2_init_10 : decode cX2_init 10 = .ok (.lconst 1, 1) := by decide +kernel
theorem dX2_init_11 : decode cX2_init 11 = .ok (.putfield 13, 3) := by decide +kernel
theorem dX2_init_14 : decode cX2_init 14 = .ok (.return_, 1) := by decide +kernel
theorem dX2_set_0 : decode cX2_set 0 = .ok (.lload_n 1, 1) := by decide +kernel
theorem dX2_set_1 : decode cX2_set 1 = .ok (.lload_n 3, 1) := by decide +kernel
theorem dX2_set_2 : decode cX2_set 2 = .ok (.invokestatic 16, 3) := by decide +kernel
theorem dX2_set_5 : decode cX2_set 5 = .ok (.lstore 5, 2) := by decide +kernel
theorem dX2_set_7 : decode cX2_set 7 = .ok (.lload 5, 2) := by decide +kernel
theorem dX2_set_9 : decode cX2_set 9 = .ok (.lconst 0, 1) := by decide +kernel
theorem dX2_set_10 : decode cX2_set 10 = .ok (.lcmp, 1) := by decide +kernel
theorem dX2_set_11 : decode cX2_set 11 = .ok (.ifCond .le 19, 3) := by decide +kernel
theorem dX2_set_14 : decode cX2_set 14 = .ok (.aload_n 0, 1) := by decide +kernel
theorem dX2_set_15 : decode cX2_set 15 = .ok (.lload_n 1, 1) := by decide +kernel
theorem dX2_set_16 : decode cX2_set 16 = .ok (.lload 5, 2) := by decide +kernel
theorem dX2_set_18 : decode cX2_set 18 = .ok (.ldiv, 1) := by decide +kernel
theorem dX2_set_19 : decode cX2_set 19 = .ok (.putfield 7, 3) := by decide +kernel
theorem dX2_set_22 : decode cX2_set 22 = .ok (.aload_n 0, 1) := by decide +kernel
theorem dX2_set_23 : decode cX2_set 23 = .ok (.lload_n 3, 1) := by decide +kernel
theorem dX2_set_24 : decode cX2_set 24 = .ok (.lload 5, 2) := by decide +kernel
theorem dX2_set_26 : decode cX2_set 26 = .ok (.ldiv, 1) := by decide +kernel
theorem dX2_set_27 : decode cX2_set 27 = .ok (.putfield 13, 3) := by decide +kernel
theorem dX2_set_30 : decode cX2_set 30 = .ok (.return_, 1) := by decide +kernel
theorem dX2_commonDivisor_0 : decode cX2_commonDivisor 0 = .ok (.lload_n 0, 1) := by decide +kernel
theorem dX2_commonDivisor_1 : decode cX2_commonDivisor 1 = .ok (.lstore 4, 2) := by decide +kernel
theorem dX2_commonDivisor_3 : decode cX2_commonDivisor 3 = .ok (.lload_n 2, 1) := by decide +kernel
theorem dX2_commonDivisor_4 : decode cX2_commonDivisor 4 = .ok (.lstore 6, 2) := by decide +kernel
theorem dX2_commonDivisor_6 : decode cX2_commonDivisor 6 = .ok (.iconst 0, 1) := by decide +kernel
theorem dX2_commonDivisor_7 : decode cX2_commonDivisor 7 = .ok (.istore 8, 2) := by decide +kernel
theorem dX2_commonDivisor_9 : decode cX2_commonDivisor 9 = .ok (.iload 8, 2) := by decide +kernel
theorem dX2_commonDivisor_11 : decode cX2_commonDivisor 11 = .ok (.bipush 100, 2) := by decide +kernel
theorem dX2_commonDivisor_13 : decode cX2_commonDivisor 13 = .ok (.if_icmp .ge 31, 3) := by decide +kernel
theorem dX2_commonDivisor_16 : decode cX2_commonDivisor 16 = .ok (.lload 6, 2) := by decide +kernel
theorem dX2_commonDivisor_18 : decode cX2_commonDivisor 18 = .ok (.lconst 0, 1) := by decide +kernel
theorem dX2_commonDivisor_19 : decode cX2_commonDivisor 19 = .ok (.lcmp, 1) := by decide +kernel
theorem dX2_commonDivisor_20 : decode cX2_commonDivisor 20 = .ok (.ifCond .eq 24, 3) := by decide +kernel
theorem dX2_commonDivisor_23 : decode cX2_commonDivisor 23 = .ok (.lload 4, 2) := by decide +kernel
theorem dX2_commonDivisor_25 : decode cX2_commonDivisor 25 = .ok (.lload 6, 2) := by decide +kernel
theorem dX2_commonDivisor_27 : decode cX2_commonDivisor 27 = .ok (.lrem, 1) := by decide +kernel
theorem dX2_commonDivisor_28 : decode cX2_commonDivisor 28 = .ok (.lstore 9, 2) := by decide +kernel
theorem dX2_commonDivisor_30 : decode cX2_commonDivisor 30 = .ok (.lload 6, 2) := by decide +kernel
theorem dX2_commonDivisor_32 : decode cX2_commonDivisor 32 = .ok (.lstore 4, 2) := by decide +kernel
theorem dX2_commonDivisor_34 : decode cX2_commonDivisor 34 = .ok (.lload 9, 2) := by decide +kernel
theorem dX2_commonDivisor_36 : decode cX2_commonDivisor 36 = .ok (.lstore 6, 2) := by decide +kernel
theorem dX2_commonDivisor_38 : decode cX2_commonDivisor 38 = .ok (.iinc 8 1, 3) := by decide +kernel
theorem dX2_commonDivisor_41 : decode cX2_commonDivisor 41 = .ok (.goto (-32), 3) := by decide +kernel
theorem dX2_commonDivisor_44 : decode cX2_commonDivisor 44 = .ok (.lload 4, 2) := by decide +kernel
theorem dX2_commonDivisor_46 : decode cX2_commonDivisor 46 = .ok (.lreturn, 1) := by decide +kernel
theorem dX3_init_0 : decode cX3_init 0 = .ok (.aload_n 0, 1) := by decide +kernel
theorem dX3_init_1 : decode cX3_init 1 = .ok (.invokespecial 3, 3) := by decide +kernel
theorem dX3_init_4 : decode cX3_init 4 = .ok (.aload_n 0, 1) := by decide +kernel
theorem dX3_init_5 : decode cX3_init 5 = .ok (.iconst 0, 1) := by decide +kernel
theorem dX3_init_6 : decode cX3_init 6 = .ok (.putfield 9, 3) := by decide +kernel
theorem dX3_init_9 : decode cX3_init 9 = .ok (.aload_n 0, 1) := by decide +kernel
theorem dX3_init_10 : decode cX3_init 10 = .ok (.iconst 0, 1) := by decide +kernel
theorem dX3_init_11 : decode cX3_init 11 = .ok (.putfield 15, 3) := by decide +kernel
theorem dX3_init_14 : decode cX3_init 14 = .ok (.aload_n 0, 1) := by decide +kernel
theorem dX3_init_15 : decode cX3_init 15 = .ok (.iconst (-1), 1) := by decide +kernel
theorem dX3_init_16 : decode cX3_init 16 = .ok (.putfield 18, 3) := by decide +kernel
theorem dX3_init_19 : decode cX3_init 19 = .ok (.aload_n 0, 1) := by decide +kernel
theorem dX3_init_20 : decode cX3_init 20 = .ok (.iconst (-1), 1) := by decide +kernel
theorem dX3_init_21 : decode cX3_init 21 = .ok (.putfield 21, 3) := by decide +kernel
theorem dX3_init_24 : decode cX3_init 24 = .ok (.aload_n 0, 1) := by decide +kernel
theorem dX3_init_25 : decode cX3_init 25 = .ok (.iconst (-1), 1) := by decide +kernel
theorem dX3_init_26 : decode cX3_init 26 = .ok (.putfield 24, 3) := by decide +kernel
theorem dX3_init_29 : decode cX3_init 29 = .ok (.return_, 1) := by decide +kernel
theorem dX3_search_0 : decode cX3_search 0 = .ok (.aload_n 0, 1) := by decide +kernel
theorem dX3_search_1 : decode cX3_search 1 = .ok (.aload_n 1, 1) := by decide +kernel
theorem dX3_search_2 : decode cX3_search 2 = .ok (.iload_n 2, 1) := by decide +kernel
theorem dX3_search_3 : decode cX3_search 3 = .ok (.iload 4, 2) := by decide +kernel
theorem dX3_search_5 : decode cX3_search 5 = .ok (.invokestatic 27, 3) := by decide +kernel
theorem dX3_search_8 : decode cX3_search 8 = .ok (.putfield 9, 3) := by decide +kernel
theorem dX3_search_11 : decode cX3_search 11 = .ok (.aload_n 0, 1) := by decide +kernel
theorem dX3_search_12 : decode cX3_search 12 = .ok (.aload_n 1, 1) := by decide +kernel
theorem dX3_search_13 : decode cX3_search 13 = .ok (.iload_n 3, 1) := by decide +kernel
theorem dX3_search_14 : decode cX3_search 14 = .ok (.iload 4, 2) := by decide +kernel
theorem dX3_search_16 : decode cX3_search 16 = .ok (.invokestatic 27, 3) := by decide +kernel
theorem dX3_search_19 : decode cX3_search 19 = .ok (.putfield 15, 3) := by decide +kernel
theorem dX3_search_22 : decode cX3_search 22 = .ok (.aload_n 0, 1) := by decide +kernel
theorem dX3_search_23 : decode cX3_search 23 = .ok (.iconst (-1), 1) := by decide +kernel
theorem dX3_search_24 : decode cX3_search 24 = .ok (.putfield 18, 3) := by decide +kernel
theorem dX3_search_27 : decode cX3_search 27 = .ok (.aload_n 0, 1) := by decide +kernel
theorem dX3_search_28 : decode cX3_search 28 = .ok (.iconst (-1), 1) := by decide +kernel
theorem dX3_search_29 : decode cX3_search 29 = .ok (.putfield 21, 3) := by decide +kernel
theorem dX3_search_32 : decode cX3_search 32 = .ok (.aload_n 0, 1) := by decide +kernel
theorem dX3_search_33 : decode cX3_search 33 = .ok (.iconst (-1), 1) := by decide +kernel
theorem dX3_search_34 : decode cX3_search 34 = .ok (.putfield 24, 3) := by decide +kernel
theorem dX3_search_37 : decode cX3_search 37 = .ok (.aload_n 0, 1) := by decide +kernel
theorem dX3_search_38 : decode cX3_search 38 = .ok (.aload_n 1, 1) := by decide +kernel
theorem dX3_search_39 : decode cX3_search 39 = .ok (.iconst 0, 1) := by decide +kernel
theorem dX3_search_40 : decode cX3_search 40 = .ok (.iconst 0, 1) := by decide +kernel
theorem dX3_search_41 : decode cX3_search 41 = .ok (.iconst 0, 1) := by decide +kernel
theorem dX3_search_42 : decode cX3_search 42 = .ok (.iconst 0, 1) := by decide +kernel
theorem dX3_search_43 : decode cX3_search 43 = .ok (.iconst 0, 1) := by decide +kernel
theorem dX3_search_44 : decode cX3_search 44 = .ok (.invokestatic 31, 3) := by decide +kernel
theorem dX3_search_47 : decode cX3_search 47 = .ok (.return_, 1) := by decide +kernel
theorem dX3_flourNeeded_0 : decode cX3_flourNeeded 0 = .ok (.iconst 0, 1) := by decide +kernel
theorem dX3_flourNeeded_1 : decode cX3_flourNeeded 1 = .ok (.istore_n 3, 1) := by decide +kernel
theorem dX3_flourNeeded_2 : decode cX3_flourNeeded 2 = .ok (.iconst 0, 1) := by decide +kernel
theorem dX3_flourNeeded_3 : decode cX3_flourNeeded 3 = .ok (.istore 4, 2) := by decide +kernel
theorem dX3_flourNeeded_5 : decode cX3_flourNeeded 5 = .ok (.iload 4, 2) := by decide +kernel
theorem dX3_flourNeeded_7 : decode cX3_flourNeeded 7 = .ok (.iload_n 2, 1) := by decide +kernel
theorem dX3_flourNeeded_8 : decode cX3_flourNeeded 8 = .ok (.if_icmp .ge 36, 3) := by decide +kernel
theorem dX3_flourNeeded_11 : decode cX3_flourNeeded 11 = .ok (.iload_n 3, 1) := by decide +kernel
theorem dX3_flourNeeded_12 : decode cX3_flourNeeded 12 = .ok (.aload_n 0, 1) := by decide +kernel
theorem dX3_flourNeeded_13 : decode cX3_flourNeeded 13 = .ok (.getfield 35, 3) := by decide +kernel
theorem dX3_flourNeeded_16 : decode cX3_flourNeeded 16 = .ok (.iload_n 1, 1) := by decide +kernel
theorem dX3_flourNeeded_17 : decode cX3_flourNeeded 17 = .ok (.iaload, 1) := by decide +kernel
theorem dX3_flourNeeded_18 : decode cX3_flourNeeded 18 = .ok (.aload_n 0, 1) := by decide +kernel
theorem dX3_flourNeeded_19 : decode cX3_flourNeeded 19 = .ok (.getfield 41, 3) := by decide +kernel
theorem dX3_flourNeeded_22 : decode cX3_flourNeeded 22 = .ok (.iload 4, 2) := by decide +kernel
theorem dX3_flourNeeded_24 : decode cX3_flourNeeded 24 = .ok (.iadd, 1) := by decide +kernel
theorem dX3_flourNeeded_25 : decode cX3_flourNeeded 25 = .ok (.aload_n 0, 1) := by decide +kernel
theorem dX3_flourNeeded_26 : decode cX3_flourNeeded 26 = .ok (.getfield 44, 3) := by decide +kernel
theorem dX3_flourNeeded_29 : decode cX3_flourNeeded 29 = .ok (.aload_n 0, 1) := by decide +kernel
theorem dX3_flourNeeded_30 : decode cX3_flourNeeded 30 = .ok (.getfield 47, 3) := by decide +kernel
theorem dX3_flourNeeded_33 : decode cX3_flourNeeded 33 = .ok (.invokestatic 50, 3) := by decide +kernel
theorem dX3_flourNeeded_36 : decode cX3_flourNeeded 36 = .ok (.iadd, 1) := by decide +kernel
theorem dX3_flourNeeded_37 : decode cX3_flourNeeded 37 = .ok (.istore_n 3, 1) := by decide +kernel
theorem dX3_flourNeeded_38 : decode cX3_flourNeeded 38 = .ok (.iinc 4 1, 3) := by decide +kernel
theorem dX3_flourNeeded_41 : decode cX3_flourNeeded 41 = .ok (.goto (-36), 3) := by decide +kernel
theorem dX3_flourNeeded_44 : decode cX3_flourNeeded 44 = .ok (.iconst 0, 1) := by decide +kernel
theorem dX3_flourNeeded_45 : decode cX3_flourNeeded 45 = .ok (.iload_n 3, 1) := by decide +kernel
theorem dX3_flourNeeded_46 : decode cX3_flourNeeded 46 = .ok (.iconst 1, 1) := by decide +kernel
theorem dX3_flourNeeded_47 : decode cX3_flourNeeded 47 = .ok (.iadd, 1) := by decide +kernel
theorem dX3_flourNeeded_48 : decode cX3_flourNeeded 48 = .ok (.aload_n 0, 1) := by decide +kernel
theorem dX3_flourNeeded_49 : decode cX3_flourNeeded 49 = .ok (.getfield 56, 3) := by decide +kernel
theorem dX3_flourNeeded_52 : decode cX3_flourNeeded 52 = .ok (.iload_n 1, 1) := by decide +kernel
theorem dX3_flourNeeded_53 : decode cX3_flourNeeded 53 = .ok (.iaload, 1) := by decide +kernel
theorem dX3_flourNeeded_54 : decode cX3_flourNeeded 54 = .ok (.isub, 1) := by decide +kernel
theorem dX3_flourNeeded_55 : decode cX3_flourNeeded 55 = .ok (.invokestatic 59, 3) := by decide +kernel
theorem dX3_flourNeeded_58 : decode cX3_flourNeeded 58 = .ok (.ireturn, 1) := by decide +kernel
theorem dX3_share_0 : decode cX3_share 0 = .ok (.aload_n 0, 1) := by decide +kernel
theorem dX3_share_1 : decode cX3_share 1 = .ok (.getfield 18, 3) := by decide +kernel
theorem dX3_share_4 : decode cX3_share 4 = .ok (.iconst (-1), 1) := by decide +kernel
theorem dX3_share_5 : decode cX3_share 5 = .ok (.if_icmp .eq 15, 3) := by decide +kernel
theorem dX3_share_8 : decode cX3_share 8 = .ok (.iload_n 3, 1) := by decide +kernel
theorem dX3_share_9 : decode cX3_share 9 = .ok (.iload 4, 2) := by decide +kernel
theorem dX3_share_11 : decode cX3_share 11 = .ok (.iadd, 1) := by decide +kernel
theorem dX3_share_12 : decode cX3_share 12 = .ok (.aload_n 0, 1) := by decide +kernel
theorem dX3_share_13 : decode cX3_share 13 = .ok (.getfield 18, 3) := by decide +kernel
theorem dX3_share_16 : decode cX3_share 16 = .ok (.if_icmp .lt 4, 3) := by decide +kernel
theorem dX3_share_19 : decode cX3_share 19 = .ok (.return_, 1) := by decide +kernel
theorem dX3_share_20 : decode cX3_share 20 = .ok (.iload_n 3, 1) := by decide +kernel
theorem dX3_share_21 : decode cX3_share 21 = .ok (.aload_n 0, 1) := by decide +kernel
theorem dX3_share_22 : decode cX3_share 22 = .ok (.getfield 9, 3) := by decide +kernel
theorem dX3_share_25 : decode cX3_share 25 = .ok (.if_icmp .lt 33, 3) := by decide +kernel
theorem dX3_share_28 : decode cX3_share 28 = .ok (.iload 4, 2) := by decide +kernel
theorem dX3_share_30 : decode cX3_share 30 = .ok (.aload_n 0, 1) := by decide +kernel
theorem dX3_share_31 : decode cX3_share 31 = .ok (.getfield 15, 3) := by decide +kernel
theorem dX3_share_34 : decode cX3_share 34 = .ok (.if_icmp .lt 24, 3) := by decide +kernel
theorem dX3_share_37 : decode cX3_share 37 = .ok (.aload_n 0, 1) := by decide +kernel
theorem dX3_share_38 : decode cX3_share 38 = .ok (.iload_n 3, 1) := by decide +kernel
theorem dX3_share_39 : decode cX3_share 39 = .ok (.iload 4, 2) := by decide +kernel
theorem dX3_share_41 : decode cX3_share 41 = .ok (.iadd, 1) := by decide +kernel
theorem dX3_share_42 : decode cX3_share 42 = .ok (.putfield 18, 3) := by decide +kernel
theorem dX3_share_45 : decode cX3_share 45 = .ok (.aload_n 0, 1) := by decide +kernel
theorem dX3_share_46 : decode cX3_share 46 = .ok (.iload 5, 2) := by decide +kernel
theorem dX3_share_48 : decode cX3_share 48 = .ok (.putfield 21, 3) := by decide +kernel
theorem dX3_share_51 : decode cX3_share 51 = .ok (.aload_n 0, 1) := by decide +kernel
theorem dX3_share_52 : decode cX3_share 52 = .ok (.iload 6, 2) := by decide +kernel
theorem dX3_share_54 : decode cX3_share 54 = .ok (.putfield 24, 3) := by decide +kernel
theorem dX3_share_57 : decode cX3_share 57 = .ok (.return_, 1) := by decide +kernel
theorem dX3_share_58 : decode cX3_share 58 = .ok (.iload_n 2, 1) := by decide +kernel
theorem dX3_share_59 : decode cX3_share 59 = .ok (.ifCond .lt 17, 3) := by decide +kernel
theorem dX3_share_62 : decode cX3_share 62 = .ok (.iload_n 2, 1) := by decide +kernel
theorem dX3_share_63 : decode cX3_share 63 = .ok (.aload_n 1, 1) := by decide +kernel
theorem dX3_share_64 : decode cX3_share 64 = .ok (.getfield 65, 3) := by decide +kernel
theorem dX3_share_67 : decode cX3_share 67 = .ok (.if_icmp .ge 9, 3) := by decide +kernel
theorem dX3_share_70 : decode cX3_share 70 = .ok (.iload_n 2, 1) := by decide +kernel
theorem dX3_share_71 : decode cX3_share 71 = .ok (.bipush 8, 2) := by decide +kernel
theorem dX3_share_73 : decode cX3_share 73 = .ok (.if_icmp .lt 4, 3) := by decide +kernel
theorem dX3_share_76 : decode cX3_share 76 = .ok (.return_, 1) := by decide +kernel
theorem dX3_share_77 : decode cX3_share 77 = .ok (.aload_n 1, 1) := by decide +kernel
theorem dX3_share_78 : decode cX3_share 78 = .ok (.getfield 68, 3) := by decide +kernel
theorem dX3_share_81 : decode cX3_share 81 = .ok (.iload_n 2, 1) := by decide +kernel
theorem dX3_share_82 : decode cX3_share 82 = .ok (.iaload, 1) := by decide +kernel
theorem dX3_share_83 : decode cX3_share 83 = .ok (.istore 7, 2) := by decide +kernel
theorem dX3_share_85 : decode cX3_share 85 = .ok (.aload_n 0, 1) := by decide +kernel
theorem dX3_share_86 : decode cX3_share 86 = .ok (.aload_n 1, 1) := by decide +kernel
theorem dX3_share_87 : decode cX3_share 87 = .ok (.iload_n 2, 1) := by decide +kernel
theorem dX3_share_88 : decode cX3_share 88 = .ok (.iconst 1, 1) := by decide +kernel
theorem dX3_share_89 : decode cX3_share 89 = .ok (.iadd, 1) := by decide +kernel
theorem dX3_share_90 : decode cX3_share 90 = .ok (.iload_n 3, 1) := by decide +kernel
theorem dX3_share_91 : decode cX3_share 91 = .ok (.iload 4, 2) := by decide +kernel
theorem dX3_share_93 : decode cX3_share 93 = .ok (.iload 5, 2) := by decide +kernel
theorem dX3_share_95 : decode cX3_share 95 = .ok (.iload 6, 2) := by decide +kernel
theorem dX3_share_97 : decode cX3_share 97 = .ok (.invokestatic 31, 3) := by decide +kernel
theorem dX3_share_100 : decode cX3_share 100 = .ok (.aload_n 0, 1) := by decide +kernel
theorem dX3_share_101 : decode cX3_share 101 = .ok (.aload_n 1, 1) := by decide +kernel
theorem dX3_share_102 : decode cX3_share 102 = .ok (.iload_n 2, 1) := by decide +kernel
theorem dX3_share_103 : decode cX3_share 103 = .ok (.iconst 1, 1) := by decide +kernel
theorem dX3_share_104 : decode cX3_share 104 = .ok (.iadd, 1) := by decide +kernel
theorem dX3_share_105 : decode cX3_share 105 = .ok (.iload_n 3, 1) := by decide +kernel
theorem dX3_share_106 : decode cX3_share 106 = .ok (.iload 7, 2) := by decide +kernel
theorem dX3_share_108 : decode cX3_share 108 = .ok (.iadd, 1) := by decide +kernel
theorem dX3_share_109 : decode cX3_share 109 = .ok (.iload 4, 2) := by decide +kernel
theorem dX3_share_111 : decode cX3_share 111 = .ok (.iload 5, 2) := by decide +kernel
theorem dX3_share_113 : decode cX3_share 113 = .ok (.iconst 1, 1) := by decide +kernel
theorem dX3_share_114 : decode cX3_share 114 = .ok (.iload_n 2, 1) := by decide +kernel
theorem dX3_share_115 : decode cX3_share 115 = .ok (.ishl, 1) := by decide +kernel
theorem dX3_share_116 : decode cX3_share 116 = .ok (.ior, 1) := by decide +kernel
theorem dX3_share_117 : decode cX3_share 117 = .ok (.iload 6, 2) := by decide +kernel
theorem dX3_share_119 : decode cX3_share 119 = .ok (.invokestatic 31, 3) := by decide +kernel
theorem dX3_share_122 : decode cX3_share 122 = .ok (.aload_n 0, 1) := by decide +kernel
theorem dX3_share_123 : decode cX3_share 123 = .ok (.aload_n 1, 1) := by decide +kernel
theorem dX3_share_124 : decode cX3_share 124 = .ok (.iload_n 2, 1) := by decide +kernel
theorem dX3_share_125 : decode cX3_share 125 = .ok (.iconst 1, 1) := by decide +kernel
theorem dX3_share_126 : decode cX3_share 126 = .ok (.iadd, 1) := by decide +kernel
theorem dX3_share_127 : decode cX3_share 127 = .ok (.iload_n 3, 1) := by decide +kernel
theorem dX3_share_128 : decode cX3_share 128 = .ok (.iload 4, 2) := by decide +kernel
theorem dX3_share_130 : decode cX3_share 130 = .ok (.iload 7, 2) := by decide +kernel
theorem dX3_share_132 : decode cX3_share 132 = .ok (.iadd, 1) := by decide +kernel
theorem dX3_share_133 : decode cX3_share 133 = .ok (.iload 5, 2) := by decide +kernel
theorem dX3_share_135 : decode cX3_share 135 = .ok (.iload 6, 2) := by decide +kernel
theorem dX3_share_137 : decode cX3_share 137 = .ok (.iconst 1, 1) := by decide +kernel
theorem dX3_share_138 : decode cX3_share 138 = .ok (.iload_n 2, 1) := by decide +kernel
theorem dX3_share_139 : decode cX3_share 139 = .ok (.ishl, 1) := by decide +kernel
theorem dX3_share_140 : decode cX3_share 140 = .ok (.ior, 1) := by decide +kernel
theorem dX3_share_141 : decode cX3_share 141 = .ok (.invokestatic 31, 3) := by decide +kernel
theorem dX3_share_144 : decode cX3_share 144 = .ok (.return_, 1) := by decide +kernel
theorem dX4_goes_0 : decode cX4_goes 0 = .ok (.iload_n 1, 1) := by decide +kernel
theorem dX4_goes_1 : decode cX4_goes 1 = .ok (.bipush 12, 2) := by decide +kernel
theorem dX4_goes_3 : decode cX4_goes 3 = .ok (.irem, 1) := by decide +kernel
theorem dX4_goes_4 : decode cX4_goes 4 = .ok (.istore 4, 2) := by decide +kernel
theorem dX4_goes_6 : decode cX4_goes 6 = .ok (.iload_n 1, 1) := by decide +kernel
theorem dX4_goes_7 : decode cX4_goes 7 = .ok (.iconst 5, 1) := by decide +kernel
theorem dX4_goes_8 : decode cX4_goes 8 = .ok (.irem, 1) := by decide +kernel
theorem dX4_goes_9 : decode cX4_goes 9 = .ok (.iconst 4, 1) := by decide +kernel
theorem dX4_goes_10 : decode cX4_goes 10 = .ok (.if_icmp .ne 7, 3) := by decide +kernel
theorem dX4_goes_13 : decode cX4_goes 13 = .ok (.iconst 1, 1) := by decide +kernel
theorem dX4_goes_14 : decode cX4_goes 14 = .ok (.goto 4, 3) := by decide +kernel
theorem dX4_goes_17 : decode cX4_goes 17 = .ok (.iconst 0, 1) := by decide +kernel
theorem dX4_goes_18 : decode cX4_goes 18 = .ok (.istore 5, 2) := by decide +kernel
theorem dX4_goes_20 : decode cX4_goes 20 = .ok (.iload_n 3, 1) := by decide +kernel
theorem dX4_goes_21 : decode cX4_goes 21 = .ok (.iload 4, 2) := by decide +kernel
theorem dX4_goes_23 : decode cX4_goes 23 = .ok (.ishr, 1) := by decide +kernel
theorem dX4_goes_24 : decode cX4_goes 24 = .ok (.iconst 1, 1) := by decide +kernel
theorem dX4_goes_25 : decode cX4_goes 25 = .ok (.iand, 1) := by decide +kernel
theorem dX4_goes_26 : decode cX4_goes 26 = .ok (.iconst 1, 1) := by decide +kernel
theorem dX4_goes_27 : decode cX4_goes 27 = .ok (.if_icmp .ne 7, 3) := by decide +kernel
theorem dX4_goes_30 : decode cX4_goes 30 = .ok (.iconst 2, 1) := by decide +kernel
theorem dX4_goes_31 : decode cX4_goes 31 = .ok (.goto 4, 3) := by decide +kernel
theorem dX4_goes_34 : decode cX4_goes 34 = .ok (.iconst 1, 1) := by decide +kernel
theorem dX4_goes_35 : decode cX4_goes 35 = .ok (.istore 6, 2) := by decide +kernel
theorem dX4_goes_37 : decode cX4_goes 37 = .ok (.iload_n 1, 1) := by decide +kernel
theorem dX4_goes_38 : decode cX4_goes 38 = .ok (.iconst 2, 1) := by decide +kernel
theorem dX4_goes_39 : decode cX4_goes 39 = .ok (.irem, 1) := by decide +kernel
theorem dX4_goes_40 : decode cX4_goes 40 = .ok (.ifCond .ne 8, 3) := by decide +kernel
theorem dX4_goes_43 : decode cX4_goes 43 = .ok (.iload 6, 2) := by decide +kernel
theorem dX4_goes_45 : decode cX4_goes 45 = .ok (.goto 4, 3) := by decide +kernel
theorem dX4_goes_48 : decode cX4_goes 48 = .ok (.iconst 0, 1) := by decide +kernel
theorem dX4_goes_49 : decode cX4_goes 49 = .ok (.istore 7, 2) := by decide +kernel
theorem dX4_goes_51 : decode cX4_goes 51 = .ok (.iload 5, 2) := by decide +kernel
theorem dX4_goes_53 : decode cX4_goes 53 = .ok (.ifCond .eq 10, 3) := by decide +kernel
theorem dX4_goes_56 : decode cX4_goes 56 = .ok (.iload 6, 2) := by decide +kernel
theorem dX4_goes_58 : decode cX4_goes 58 = .ok (.iconst 2, 1) := by decide +kernel
theorem dX4_goes_59 : decode cX4_goes 59 = .ok (.iadd, 1) := by decide +kernel
theorem dX4_goes_60 : decode cX4_goes 60 = .ok (.goto 5, 3) := by decide +kernel
theorem dX4_goes_63 : decode cX4_goes 63 = .ok (.iload 6, 2) := by decide +kernel
theorem dX4_goes_65 : decode cX4_goes 65 = .ok (.istore 8, 2) := by decide +kernel
theorem dX4_goes_67 : decode cX4_goes 67 = .ok (.iload_n 0, 1) := by decide +kernel
theorem dX4_goes_68 : decode cX4_goes 68 = .ok (.tableswitch 99 1 5 #[36, 39, 42, 62, 79], 36) := by decide +kernel
theorem dX4_goes_104 : decode cX4_goes 104 = .ok (.iload 7, 2) := by decide +kernel
theorem dX4_goes_106 : decode cX4_goes 106 = .ok (.ireturn, 1) := by decide +kernel
theorem dX4_goes_107 : decode cX4_goes 107 = .ok (.iload 8, 2) := by decide +kernel
theorem dX4_goes_109 : decode cX4_goes 109 = .ok (.ireturn, 1) := by decide +kernel
theorem dX4_goes_110 : decode cX4_goes 110 = .ok (.iload_n 2, 1) := by decide +kernel
theorem dX4_goes_111 : decode cX4_goes 111 = .ok (.iload 4, 2) := by decide +kernel
theorem dX4_goes_113 : decode cX4_goes 113 = .ok (.ishr, 1) := by decide +kernel
theorem dX4_goes_114 : decode cX4_goes 114 = .ok (.iconst 1, 1) := by decide +kernel
theorem dX4_goes_115 : decode cX4_goes 115 = .ok (.iand, 1) := by decide +kernel
theorem dX4_goes_116 : decode cX4_goes 116 = .ok (.iconst 1, 1) := by decide +kernel
theorem dX4_goes_117 : decode cX4_goes 117 = .ok (.if_icmp .ne 10, 3) := by decide +kernel
theorem dX4_goes_120 : decode cX4_goes 120 = .ok (.iconst 2, 1) := by decide +kernel
theorem dX4_goes_121 : decode cX4_goes 121 = .ok (.iload 6, 2) := by decide +kernel
theorem dX4_goes_123 : decode cX4_goes 123 = .ok (.imul, 1) := by decide +kernel
theorem dX4_goes_124 : decode cX4_goes 124 = .ok (.goto 5, 3) := by decide +kernel
theorem dX4_goes_127 : decode cX4_goes 127 = .ok (.iload 6, 2) := by decide +kernel
theorem dX4_goes_129 : decode cX4_goes 129 = .ok (.ireturn, 1) := by decide +kernel
theorem dX4_goes_130 : decode cX4_goes 130 = .ok (.iload_n 1, 1) := by decide +kernel
theorem dX4_goes_131 : decode cX4_goes 131 = .ok (.iconst 3, 1) := by decide +kernel
theorem dX4_goes_132 : decode cX4_goes 132 = .ok (.irem, 1) := by decide +kernel
theorem dX4_goes_133 : decode cX4_goes 133 = .ok (.iconst 2, 1) := by decide +kernel
theorem dX4_goes_134 : decode cX4_goes 134 = .ok (.if_icmp .ne 10, 3) := by decide +kernel
theorem dX4_goes_137 : decode cX4_goes 137 = .ok (.iload 8, 2) := by decide +kernel
theorem dX4_goes_139 : decode cX4_goes 139 = .ok (.iconst 1, 1) := by decide +kernel
theorem dX4_goes_140 : decode cX4_goes 140 = .ok (.iadd, 1) := by decide +kernel
theorem dX4_goes_141 : decode cX4_goes 141 = .ok (.goto 5, 3) := by decide +kernel
theorem dX4_goes_144 : decode cX4_goes 144 = .ok (.iload 8, 2) := by decide +kernel
theorem dX4_goes_146 : decode cX4_goes 146 = .ok (.ireturn, 1) := by decide +kernel
theorem dX4_goes_147 : decode cX4_goes 147 = .ok (.iload 5, 2) := by decide +kernel
theorem dX4_goes_149 : decode cX4_goes 149 = .ok (.ifCond .ne 8, 3) := by decide +kernel
theorem dX4_goes_152 : decode cX4_goes 152 = .ok (.iload 7, 2) := by decide +kernel
theorem dX4_goes_154 : decode cX4_goes 154 = .ok (.ifCond .ne 8, 3) := by decide +kernel
theorem dX4_goes_157 : decode cX4_goes 157 = .ok (.iload 7, 2) := by decide +kernel
theorem dX4_goes_159 : decode cX4_goes 159 = .ok (.goto 7, 3) := by decide +kernel
theorem dX4_goes_162 : decode cX4_goes 162 = .ok (.iload 7, 2) := by decide +kernel
theorem dX4_goes_164 : decode cX4_goes 164 = .ok (.iconst 1, 1) := by decide +kernel
theorem dX4_goes_165 : decode cX4_goes 165 = .ok (.isub, 1) := by decide +kernel
theorem dX4_goes_166 : decode cX4_goes 166 = .ok (.ireturn, 1) := by decide +kernel
theorem dX4_goes_167 : decode cX4_goes 167 = .ok (.iload 6, 2) := by decide +kernel
theorem dX4_goes_169 : decode cX4_goes 169 = .ok (.ireturn, 1) := by decide +kernel
theorem dX4_leftAfter_0 : decode cX4_leftAfter 0 = .ok (.iconst 0, 1) := by decide +kernel
theorem dX4_leftAfter_1 : decode cX4_leftAfter 1 = .ok (.iload_n 0, 1) := by decide +kernel
theorem dX4_leftAfter_2 : decode cX4_leftAfter 2 = .ok (.iload_n 1, 1) := by decide +kernel
theorem dX4_leftAfter_3 : decode cX4_leftAfter 3 = .ok (.iload_n 2, 1) := by decide +kernel
theorem dX4_leftAfter_4 : decode cX4_leftAfter 4 = .ok (.iload_n 3, 1) := by decide +kernel
theorem dX4_leftAfter_5 : decode cX4_leftAfter 5 = .ok (.iload 4, 2) := by decide +kernel
theorem dX4_leftAfter_7 : decode cX4_leftAfter 7 = .ok (.invokestatic 9, 3) := by decide +kernel
theorem dX4_leftAfter_10 : decode cX4_leftAfter 10 = .ok (.isub, 1) := by decide +kernel
theorem dX4_leftAfter_11 : decode cX4_leftAfter 11 = .ok (.invokestatic 15, 3) := by decide +kernel
theorem dX4_leftAfter_14 : decode cX4_leftAfter 14 = .ok (.ireturn, 1) := by decide +kernel
theorem dX5_init_0 : decode cX5_init 0 = .ok (.aload_n 0, 1) := by decide +kernel
theorem dX5_init_1 : decode cX5_init 1 = .ok (.invokespecial 3, 3) := by decide +kernel
theorem dX5_init_4 : decode cX5_init 4 = .ok (.aload_n 0, 1) := by decide +kernel
theorem dX5_init_5 : decode cX5_init 5 = .ok (.bipush 104, 2) := by decide +kernel
theorem dX5_init_7 : decode cX5_init 7 = .ok (.newarray .int, 2) := by decide +kernel
theorem dX5_init_9 : decode cX5_init 9 = .ok (.putfield 11, 3) := by decide +kernel
theorem dX5_init_12 : decode cX5_init 12 = .ok (.aload_n 0, 1) := by decide +kernel
theorem dX5_init_13 : decode cX5_init 13 = .ok (.iconst 0, 1) := by decide +kernel
theorem dX5_init_14 : decode cX5_init 14 = .ok (.putfield 15, 3) := by decide +kernel
theorem dX5_init_17 : decode cX5_init 17 = .ok (.aload_n 0, 1) := by decide +kernel
theorem dX5_init_18 : decode cX5_init 18 = .ok (.iconst 0, 1) := by decide +kernel
theorem dX5_init_19 : decode cX5_init 19 = .ok (.putfield 19, 3) := by decide +kernel
theorem dX5_init_22 : decode cX5_init 22 = .ok (.return_, 1) := by decide +kernel
theorem dX5_copy_0 : decode cX5_copy 0 = .ok (.aload_n 1, 1) := by decide +kernel
theorem dX5_copy_1 : decode cX5_copy 1 = .ok (.getfield 11, 3) := by decide +kernel
theorem dX5_copy_4 : decode cX5_copy 4 = .ok (.iconst 0, 1) := by decide +kernel
theorem dX5_copy_5 : decode cX5_copy 5 = .ok (.aload_n 0, 1) := by decide +kernel
theorem dX5_copy_6 : decode cX5_copy 6 = .ok (.getfield 11, 3) := by decide +kernel
theorem dX5_copy_9 : decode cX5_copy 9 = .ok (.iconst 0, 1) := by decide +kernel
theorem dX5_copy_10 : decode cX5_copy 10 = .ok (.bipush 104, 2) := by decide +kernel
theorem dX5_copy_12 : decode cX5_copy 12 = .ok (.invokestatic 22, 3) := by decide +kernel
theorem dX5_copy_15 : decode cX5_copy 15 = .ok (.aload_n 0, 1) := by decide +kernel
theorem dX5_copy_16 : decode cX5_copy 16 = .ok (.aload_n 1, 1) := by decide +kernel
theorem dX5_copy_17 : decode cX5_copy 17 = .ok (.getfield 15, 3) := by decide +kernel
theorem dX5_copy_20 : decode cX5_copy 20 = .ok (.putfield 15, 3) := by decide +kernel
theorem dX5_copy_23 : decode cX5_copy 23 = .ok (.aload_n 0, 1) := by decide +kernel
theorem dX5_copy_24 : decode cX5_copy 24 = .ok (.aload_n 1, 1) := by decide +kernel
theorem dX5_copy_25 : decode cX5_copy 25 = .ok (.getfield 19, 3) := by decide +kernel
theorem dX5_copy_28 : decode cX5_copy 28 = .ok (.putfield 19, 3) := by decide +kernel
theorem dX5_copy_31 : decode cX5_copy 31 = .ok (.return_, 1) := by decide +kernel
theorem dX5_push_0 : decode cX5_push 0 = .ok (.aload_n 0, 1) := by decide +kernel
theorem dX5_push_1 : decode cX5_push 1 = .ok (.getfield 15, 3) := by decide +kernel
theorem dX5_push_4 : decode cX5_push 4 = .ok (.bipush 13, 2) := by decide +kernel
theorem dX5_push_6 : decode cX5_push 6 = .ok (.imul, 1) := by decide +kernel
theorem dX5_push_7 : decode cX5_push 7 = .ok (.istore 4, 2) := by decide +kernel
theorem dX5_push_9 : decode cX5_push 9 = .ok (.aload_n 0, 1) := by decide +kernel
theorem dX5_push_10 : decode cX5_push 10 = .ok (.getfield 11, 3) := by decide +kernel
theorem dX5_push_13 : decode cX5_push 13 = .ok (.iload 4, 2) := by decide +kernel
theorem dX5_push_15 : decode cX5_push 15 = .ok (.iload_n 1, 1) := by decide +kernel
theorem dX5_push_16 : decode cX5_push 16 = .ok (.iastore, 1) := by decide +kernel
theorem dX5_push_17 : decode cX5_push 17 = .ok (.aload_n 2, 1) := by decide +kernel
theorem dX5_push_18 : decode cX5_push 18 = .ok (.iconst 0, 1) := by decide +kernel
theorem dX5_push_19 : decode cX5_push 19 = .ok (.aload_n 0, 1) := by decide +kernel
theorem dX5_push_20 : decode cX5_push 20 = .ok (.getfield 11, 3) := by decide +kernel
theorem dX5_push_23 : decode cX5_push 23 = .ok (.iload 4, 2) := by decide +kernel
theorem dX5_push_25 : decode cX5_push 25 = .ok (.iconst 1, 1) := by decide +kernel
theorem dX5_push_26 : decode cX5_push 26 = .ok (.iadd, 1) := by decide +kernel
theorem dX5_push_27 : decode cX5_push 27 = .ok (.bipush 6, 2) := by decide +kernel
theorem dX5_push_29 : decode cX5_push 29 = .ok (.invokestatic 22, 3) := by decide +kernel
theorem dX5_push_32 : decode cX5_push 32 = .ok (.aload_n 3, 1) := by decide +kernel
theorem dX5_push_33 : decode cX5_push 33 = .ok (.iconst 0, 1) := by decide +kernel
theorem dX5_push_34 : decode cX5_push 34 = .ok (.aload_n 0, 1) := by decide +kernel
theorem dX5_push_35 : decode cX5_push 35 = .ok (.getfield 11, 3) := by decide +kernel
theorem dX5_push_38 : decode cX5_push 38 = .ok (.iload 4, 2) := by decide +kernel
theorem dX5_push_40 : decode cX5_push 40 = .ok (.iconst 1, 1) := by decide +kernel
theorem dX5_push_41 : decode cX5_push 41 = .ok (.iadd, 1) := by decide +kernel
theorem dX5_push_42 : decode cX5_push 42 = .ok (.bipush 6, 2) := by decide +kernel
theorem dX5_push_44 : decode cX5_push 44 = .ok (.iadd, 1) := by decide +kernel
theorem dX5_push_45 : decode cX5_push 45 = .ok (.bipush 6, 2) := by decide +kernel
theorem dX5_push_47 : decode cX5_push 47 = .ok (.invokestatic 22, 3) := by decide +kernel
theorem dX5_push_50 : decode cX5_push 50 = .ok (.aload_n 0, 1) := by decide +kernel
theorem dX5_push_51 : decode cX5_push 51 = .ok (.aload_n 0, 1) := by decide +kernel
theorem dX5_push_52 : decode cX5_push 52 = .ok (.getfield 15, 3) := by decide +kernel
theorem dX5_push_55 : decode cX5_push 55 = .ok (.iconst 1, 1) := by decide +kernel
theorem dX5_push_56 : decode cX5_push 56 = .ok (.iadd, 1) := by decide +kernel
theorem dX5_push_57 : decode cX5_push 57 = .ok (.bipush 8, 2) := by decide +kernel
theorem dX5_push_59 : decode cX5_push 59 = .ok (.irem, 1) := by decide +kernel
theorem dX5_push_60 : decode cX5_push 60 = .ok (.putfield 15, 3) := by decide +kernel
theorem dX5_push_63 : decode cX5_push 63 = .ok (.aload_n 0, 1) := by decide +kernel
theorem dX5_push_64 : decode cX5_push 64 = .ok (.bipush 8, 2) := by decide +kernel
theorem dX5_push_66 : decode cX5_push 66 = .ok (.aload_n 0, 1) := by decide +kernel
theorem dX5_push_67 : decode cX5_push 67 = .ok (.getfield 19, 3) := by decide +kernel
theorem dX5_push_70 : decode cX5_push 70 = .ok (.iconst 1, 1) := by decide +kernel
theorem dX5_push_71 : decode cX5_push 71 = .ok (.iadd, 1) := by decide +kernel
theorem dX5_push_72 : decode cX5_push 72 = .ok (.invokestatic 28, 3) := by decide +kernel
theorem dX5_push_75 : decode cX5_push 75 = .ok (.putfield 19, 3) := by decide +kernel
theorem dX5_push_78 : decode cX5_push 78 = .ok (.return_, 1) := by decide +kernel
theorem dX5_pop_0 : decode cX5_pop 0 = .ok (.aload_n 0, 1) := by decide +kernel
theorem dX5_pop_1 : decode cX5_pop 1 = .ok (.aload_n 0, 1) := by decide +kernel
theorem dX5_pop_2 : decode cX5_pop 2 = .ok (.getfield 15, 3) := by decide +kernel
theorem dX5_pop_5 : decode cX5_pop 5 = .ok (.bipush 8, 2) := by decide +kernel
theorem dX5_pop_7 : decode cX5_pop 7 = .ok (.iadd, 1) := by decide +kernel
theorem dX5_pop_8 : decode cX5_pop 8 = .ok (.iconst 1, 1) := by decide +kernel
theorem dX5_pop_9 : decode cX5_pop 9 = .ok (.isub, 1) := by decide +kernel
theorem dX5_pop_10 : decode cX5_pop 10 = .ok (.bipush 8, 2) := by decide +kernel
theorem dX5_pop_12 : decode cX5_pop 12 = .ok (.irem, 1) := by decide +kernel
theorem dX5_pop_13 : decode cX5_pop 13 = .ok (.putfield 15, 3) := by decide +kernel
theorem dX5_pop_16 : decode cX5_pop 16 = .ok (.aload_n 0, 1) := by decide +kernel
theorem dX5_pop_17 : decode cX5_pop 17 = .ok (.iconst 0, 1) := by decide +kernel
theorem dX5_pop_18 : decode cX5_pop 18 = .ok (.aload_n 0, 1) := by decide +kernel
theorem dX5_pop_19 : decode cX5_pop 19 = .ok (.getfield 19, 3) := by decide +kernel
theorem dX5_pop_22 : decode cX5_pop 22 = .ok (.iconst 1, 1) := by decide +kernel
theorem dX5_pop_23 : decode cX5_pop 23 = .ok (.isub, 1) := by decide +kernel
theorem dX5_pop_24 : decode cX5_pop 24 = .ok (.invokestatic 34, 3) := by decide +kernel
theorem dX5_pop_27 : decode cX5_pop 27 = .ok (.putfield 19, 3) := by decide +kernel
theorem dX5_pop_30 : decode cX5_pop 30 = .ok (.aload_n 0, 1) := by decide +kernel
theorem dX5_pop_31 : decode cX5_pop 31 = .ok (.getfield 15, 3) := by decide +kernel
theorem dX5_pop_34 : decode cX5_pop 34 = .ok (.bipush 13, 2) := by decide +kernel
theorem dX5_pop_36 : decode cX5_pop 36 = .ok (.imul, 1) := by decide +kernel
theorem dX5_pop_37 : decode cX5_pop 37 = .ok (.istore_n 3, 1) := by decide +kernel
theorem dX5_pop_38 : decode cX5_pop 38 = .ok (.aload_n 0, 1) := by decide +kernel
theorem dX5_pop_39 : decode cX5_pop 39 = .ok (.getfield 11, 3) := by decide +kernel
theorem dX5_pop_42 : decode cX5_pop 42 = .ok (.iload_n 3, 1) := by decide +kernel
theorem dX5_pop_43 : decode cX5_pop 43 = .ok (.iconst 1, 1) := by decide +kernel
theorem dX5_pop_44 : decode cX5_pop 44 = .ok (.iadd, 1) := by decide +kernel
theorem dX5_pop_45 : decode cX5_pop 45 = .ok (.aload_n 1, 1) := by decide +kernel
theorem dX5_pop_46 : decode cX5_pop 46 = .ok (.iconst 0, 1) := by decide +kernel
theorem dX5_pop_47 : decode cX5_pop 47 = .ok (.bipush 6, 2) := by decide +kernel
theorem dX5_pop_49 : decode cX5_pop 49 = .ok (.invokestatic 22, 3) := by decide +kernel
theorem dX5_pop_52 : decode cX5_pop 52 = .ok (.aload_n 0, 1) := by decide +kernel
theorem dX5_pop_53 : decode cX5_pop 53 = .ok (.getfield 11, 3) := by decide +kernel
theorem dX5_pop_56 : decode cX5_pop 56 = .ok (.iload_n 3, 1) := by decide +kernel
theorem dX5_pop_57 : decode cX5_pop 57 = .ok (.iconst 1, 1) := by decide +kernel
theorem dX5_pop_58 : decode cX5_pop 58 = .ok (.iadd, 1) := by decide +kernel
theorem dX5_pop_59 : decode cX5_pop 59 = .ok (.bipush 6, 2) := by decide +kernel
theorem dX5_pop_61 : decode cX5_pop 61 = .ok (.iadd, 1) := by decide +kernel
theorem dX5_pop_62 : decode cX5_pop 62 = .ok (.aload_n 2, 1) := by decide +kernel
theorem dX5_pop_63 : decode cX5_pop 63 = .ok (.iconst 0, 1) := by decide +kernel
theorem dX5_pop_64 : decode cX5_pop 64 = .ok (.bipush 6, 2) := by decide +kernel
theorem dX5_pop_66 : decode cX5_pop 66 = .ok (.invokestatic 22, 3) := by decide +kernel
theorem dX5_pop_69 : decode cX5_pop 69 = .ok (.aload_n 0, 1) := by decide +kernel
theorem dX5_pop_70 : decode cX5_pop 70 = .ok (.getfield 11, 3) := by decide +kernel
theorem dX5_pop_73 : decode cX5_pop 73 = .ok (.iload_n 3, 1) := by decide +kernel
theorem dX5_pop_74 : decode cX5_pop 74 = .ok (.iaload, 1) := by decide +kernel
theorem dX5_pop_75 : decode cX5_pop 75 = .ok (.ireturn, 1) := by decide +kernel
theorem dX6_init_0 : decode cX6_init 0 = .ok (.aload_n 0, 1) := by decide +kernel
theorem dX6_init_1 : decode cX6_init 1 = .ok (.invokespecial 3, 3) := by decide +kernel
theorem dX6_init_4 : decode cX6_init 4 = .ok (.aload_n 0, 1) := by decide +kernel
theorem dX6_init_5 : decode cX6_init 5 = .ok (.sipush 150, 3) := by decide +kernel
theorem dX6_init_8 : decode cX6_init 8 = .ok (.newarray .byte, 2) := by decide +kernel
theorem dX6_init_10 : decode cX6_init 10 = .ok (.putfield 9, 3) := by decide +kernel
theorem dX6_init_13 : decode cX6_init 13 = .ok (.aload_n 0, 1) := by decide +kernel
theorem dX6_init_14 : decode cX6_init 14 = .ok (.iconst 0, 1) := by decide +kernel
theorem dX6_init_15 : decode cX6_init 15 = .ok (.putfield 15, 3) := by decide +kernel
theorem dX6_init_18 : decode cX6_init 18 = .ok (.aload_n 0, 1) := by decide +kernel
theorem dX6_init_19 : decode cX6_init 19 = .ok (.new 19, 3) := by decide +kernel
theorem dX6_init_22 : decode cX6_init 22 = .ok (.dup, 1) := by decide +kernel
theorem dX6_init_23 : decode cX6_init 23 = .ok (.invokespecial 21, 3) := by decide +kernel
theorem dX6_init_26 : decode cX6_init 26 = .ok (.putfield 22, 3) := by decide +kernel
theorem dX6_init_29 : decode cX6_init 29 = .ok (.aload_n 0, 1) := by decide +kernel
theorem dX6_init_30 : decode cX6_init 30 = .ok (.iconst 0, 1) := by decide +kernel
theorem dX6_init_31 : decode cX6_init 31 = .ok (.putfield 26, 3) := by decide +kernel
theorem dX6_init_34 : decode cX6_init 34 = .ok (.aload_n 0, 1) := by decide +kernel
theorem dX6_init_35 : decode cX6_init 35 = .ok (.iconst 0, 1) := by decide +kernel
theorem dX6_init_36 : decode cX6_init 36 = .ok (.putfield 29, 3) := by decide +kernel
theorem dX6_init_39 : decode cX6_init 39 = .ok (.aload_n 0, 1) := by decide +kernel
theorem dX6_init_40 : decode cX6_init 40 = .ok (.iconst 0, 1) := by decide +kernel
theorem dX6_init_41 : decode cX6_init 41 = .ok (.putfield 32, 3) := by decide +kernel
theorem dX6_init_44 : decode cX6_init 44 = .ok (.aload_n 0, 1) := by decide +kernel
theorem dX6_init_45 : decode cX6_init 45 = .ok (.iconst 0, 1) := by decide +kernel
theorem dX6_init_46 : decode cX6_init 46 = .ok (.putfield 35, 3) := by decide +kernel
theorem dX6_init_49 : decode cX6_init 49 = .ok (.return_, 1) := by decide +kernel
theorem dX6_addSign_0 : decode cX6_addSign 0 = .ok (.aload_n 0, 1) := by decide +kernel
theorem dX6_addSign_1 : decode cX6_addSign 1 = .ok (.getfield 15, 3) := by decide +kernel
theorem dX6_addSign_4 : decode cX6_addSign 4 = .ok (.sipush 150, 3) := by decide +kernel
theorem dX6_addSign_7 : decode cX6_addSign 7 = .ok (.if_icmp .lt 6, 3) := by decide +kernel
theorem dX6_addSign_10 : decode cX6_addSign 10 = .ok (.bipush (-4), 2) := by decide +kernel
theorem dX6_addSign_12 : decode cX6_addSign 12 = .ok (.ireturn, 1) := by decide +kernel
theorem dX6_addSign_13 : decode cX6_addSign 13 = .ok (.aload_n 0, 1) := by decide +kernel
theorem dX6_addSign_14 : decode cX6_addSign 14 = .ok (.getfield 9, 3) := by decide +kernel
theorem dX6_addSign_17 : decode cX6_addSign 17 = .ok (.aload_n 0, 1) := by decide +kernel
theorem dX6_addSign_18 : decode cX6_addSign 18 = .ok (.getfield 15, 3) := by decide +kernel
theorem dX6_addSign_21 : decode cX6_addSign 21 = .ok (.iload_n 1, 1) := by decide +kernel
theorem dX6_addSign_22 : decode cX6_addSign 22 = .ok (.i2b, 1) := by decide +kernel
theorem dX6_addSign_23 : decode cX6_addSign 23 = .ok (.bastore, 1) := by decide +kernel
theorem dX6_addSign_24 : decode cX6_addSign 24 = .ok (.aload_n 0, 1) := by decide +kernel
theorem dX6_addSign_25 : decode cX6_addSign 25 = .ok (.dup, 1) := by decide +kernel
theorem dX6_addSign_26 : decode cX6_addSign 26 = .ok (.getfield 15, 3) := by decide +kernel
theorem dX6_addSign_29 : decode cX6_addSign 29 = .ok (.iconst 1, 1) := by decide +kernel
theorem dX6_addSign_30 : decode cX6_addSign 30 = .ok (.iadd, 1) := by decide +kernel
theorem dX6_addSign_31 : decode cX6_addSign 31 = .ok (.dup_x1, 1) := by decide +kernel
theorem dX6_addSign_32 : decode cX6_addSign 32 = .ok (.putfield 15, 3) := by decide +kernel
theorem dX6_addSign_35 : decode cX6_addSign 35 = .ok (.ireturn, 1) := by decide +kernel
theorem dX6_empty_0 : decode cX6_empty 0 = .ok (.aload_n 0, 1) := by decide +kernel
theorem dX6_empty_1 : decode cX6_empty 1 = .ok (.getfield 15, 3) := by decide +kernel
theorem dX6_empty_4 : decode cX6_empty 4 = .ok (.istore_n 1, 1) := by decide +kernel
theorem dX6_empty_5 : decode cX6_empty 5 = .ok (.aload_n 0, 1) := by decide +kernel
theorem dX6_empty_6 : decode cX6_empty 6 = .ok (.iconst 0, 1) := by decide +kernel
theorem dX6_empty_7 : decode cX6_empty 7 = .ok (.putfield 15, 3) := by decide +kernel
theorem dX6_empty_10 : decode cX6_empty 10 = .ok (.iload_n 1, 1) := by decide +kernel
theorem dX6_empty_11 : decode cX6_empty 11 = .ok (.ireturn, 1) := by decide +kernel
theorem dX6_readInto_0 : decode cX6_readInto 0 = .ok (.aload_n 0, 1) := by decide +kernel
theorem dX6_readInto_1 : decode cX6_readInto 1 = .ok (.getfield 22, 3) := by decide +kernel
theorem dX6_readInto_4 : decode cX6_readInto 4 = .ok (.invokevirtual 38, 3) := by decide +kernel
theorem dX6_readInto_7 : decode cX6_readInto 7 = .ok (.aload_n 0, 1) := by decide +kernel
theorem dX6_readInto_8 : decode cX6_readInto 8 = .ok (.iconst 0, 1) := by decide +kernel
theorem dX6_readInto_9 : decode cX6_readInto 9 = .ok (.putfield 32, 3) := by decide +kernel
theorem dX6_readInto_12 : decode cX6_readInto 12 = .ok (.iconst 0, 1) := by decide +kernel
theorem dX6_readInto_13 : decode cX6_readInto 13 = .ok (.istore_n 2, 1) := by decide +kernel
theorem dX6_readInto_14 : decode cX6_readInto 14 = .ok (.iload_n 2, 1) := by decide +kernel
theorem dX6_readInto_15 : decode cX6_readInto 15 = .ok (.sipush 150, 3) := by decide +kernel
theorem dX6_readInto_18 : decode cX6_readInto 18 = .ok (.if_icmp .gt 53, 3) := by decide +kernel
theorem dX6_readInto_21 : decode cX6_readInto 21 = .ok (.aload_n 0, 1) := by decide +kernel
theorem dX6_readInto_22 : decode cX6_readInto 22 = .ok (.invokevirtual 41, 3) := by decide +kernel
theorem dX6_readInto_25 : decode cX6_readInto 25 = .ok (.aload_n 0, 1) := by decide +kernel
theorem dX6_readInto_26 : decode cX6_readInto 26 = .ok (.getfield 26, 3) := by decide +kernel
theorem dX6_readInto_29 : decode cX6_readInto 29 = .ok (.ifCond .ne 17, 3) := by decide +kernel
theorem dX6_readInto_32 : decode cX6_readInto 32 = .ok (.iload_n 2, 1) := by decide +kernel
theorem dX6_readInto_33 : decode cX6_readInto 33 = .ok (.ifCond .le 13, 3) := by decide +kernel
theorem dX6_readInto_36 : decode cX6_readInto 36 = .ok (.aload_n 1, 1) := by decide +kernel
theorem dX6_readInto_37 : decode cX6_readInto 37 = .ok (.aload_n 0, 1) := by decide +kernel
theorem dX6_readInto_38 : decode cX6_readInto 38 = .ok (.getfield 22, 3) := by decide +kernel
theorem dX6_readInto_41 : decode cX6_readInto 41 = .ok (.invokevirtual 44, 3) := by decide +kernel
theorem dX6_readInto_44 : decode cX6_readInto 44 = .ok (.iload_n 2, 1) := by decide +kernel
theorem dX6_readInto_45 : decode cX6_readInto 45 = .ok (.ireturn, 1) := by decide +kernel
theorem dX6_readInto_46 : decode cX6_readInto 46 = .ok (.aload_n 0, 1) := by decide +kernel
theorem dX6_readInto_47 : decode cX6_readInto 47 = .ok (.iload_n 2, 1) := by decide +kernel
theorem dX6_readInto_48 : decode cX6_readInto 48 = .ok (.ifCond .ne 7, 3) := by decide +kernel
theorem dX6_readInto_51 : decode cX6_readInto 51 = .ok (.iconst 1, 1) := by decide +kernel
theorem dX6_readInto_52 : decode cX6_readInto 52 = .ok (.goto 4, 3) := by decide +kernel
theorem dX6_readInto_55 : decode cX6_readInto 55 = .ok (.iconst 0, 1) := by decide +kernel
theorem dX6_readInto_56 : decode cX6_readInto 56 = .ok (.invokevirtual 48, 3) := by decide +kernel
theorem dX6_readInto_59 : decode cX6_readInto 59 = .ok (.ifCond .ne 6, 3) := by decide +kernel
theorem dX6_readInto_62 : decode cX6_readInto 62 = .ok (.goto 9, 3) := by decide +kernel
theorem dX6_readInto_65 : decode cX6_readInto 65 = .ok (.iinc 2 1, 3) := by decide +kernel
theorem dX6_readInto_68 : decode cX6_readInto 68 = .ok (.goto (-54), 3) := by decide +kernel
theorem dX6_readInto_71 : decode cX6_readInto 71 = .ok (.bipush (-10), 2) := by decide +kernel
theorem dX6_readInto_73 : decode cX6_readInto 73 = .ok (.aload_n 0, 1) := by decide +kernel
theorem dX6_readInto_74 : decode cX6_readInto 74 = .ok (.getfield 29, 3) := by decide +kernel
theorem dX6_readInto_77 : decode cX6_readInto 77 = .ok (.isub, 1) := by decide +kernel
theorem dX6_readInto_78 : decode cX6_readInto 78 = .ok (.ireturn, 1) := by decide +kernel
theorem dX6_readItem_0 : decode cX6_readItem 0 = .ok (.aload_n 0, 1) := by decide +kernel
theorem dX6_readItem_1 : decode cX6_readItem 1 = .ok (.getfield 26, 3) := by decide +kernel
theorem dX6_readItem_4 : decode cX6_readItem 4 = .ok (.iconst 1, 1) := by decide +kernel
theorem dX6_readItem_5 : decode cX6_readItem 5 = .ok (.if_icmp .eq 5, 3) := by decide +kernel
theorem dX6_readItem_8 : decode cX6_readItem 8 = .ok (.iconst 0, 1) := by decide +kernel
theorem dX6_readItem_9 : decode cX6_readItem 9 = .ok (.ireturn, 1) := by decide +kernel
theorem dX6_readItem_10 : decode cX6_readItem 10 = .ok (.iload_n 1, 1) := by decide +kernel
theorem dX6_readItem_11 : decode cX6_readItem 11 = .ok (.ifCond .eq 25, 3) := by decide +kernel
theorem dX6_readItem_14 : decode cX6_readItem 14 = .ok (.aload_n 0, 1) := by decide +kernel
theorem dX6_readItem_15 : decode cX6_readItem 15 = .ok (.ldc 52, 2) := by decide +kernel
theorem dX6_readItem_17 : decode cX6_readItem 17 = .ok (.invokevirtual 54, 3) := by decide +kernel
theorem dX6_readItem_20 : decode cX6_readItem 20 = .ok (.ifCond .eq 14, 3) := by decide +kernel
theorem dX6_readItem_23 : decode cX6_readItem 23 = .ok (.aload_n 0, 1) := by decide +kernel
theorem dX6_readItem_24 : decode cX6_readItem 24 = .ok (.invokevirtual 58, 3) := by decide +kernel
theorem dX6_readItem_27 : decode cX6_readItem 27 = .ok (.ifCond .eq 7, 3) := by decide +kernel
theorem dX6_readItem_30 : decode cX6_readItem 30 = .ok (.iconst 1, 1) := by decide +kernel
theorem dX6_readItem_31 : decode cX6_readItem 31 = .ok (.goto 4, 3) := by decide +kernel
theorem dX6_readItem_34 : decode cX6_readItem 34 = .ok (.iconst 0, 1) := by decide +kernel
theorem dX6_readItem_35 : decode cX6_readItem 35 = .ok (.ireturn, 1) := by decide +kernel
theorem dX6_readItem_36 : decode cX6_readItem 36 = .ok (.aload_n 0, 1) := by decide +kernel
theorem dX6_readItem_37 : decode cX6_readItem 37 = .ok (.ldc 62, 2) := by decide +kernel
theorem dX6_readItem_39 : decode cX6_readItem 39 = .ok (.invokevirtual 54, 3) := by decide +kernel
theorem dX6_readItem_42 : decode cX6_readItem 42 = .ok (.ifCond .eq 8, 3) := by decide +kernel
theorem dX6_readItem_45 : decode cX6_readItem 45 = .ok (.aload_n 0, 1) := by decide +kernel
theorem dX6_readItem_46 : decode cX6_readItem 46 = .ok (.invokevirtual 64, 3) := by decide +kernel
theorem dX6_readItem_49 : decode cX6_readItem 49 = .ok (.ireturn, 1) := by decide +kernel
theorem dX6_readItem_50 : decode cX6_readItem 50 = .ok (.aload_n 0, 1) := by decide +kernel
theorem dX6_readItem_51 : decode cX6_readItem 51 = .ok (.ldc 67, 2) := by decide +kernel
theorem dX6_readItem_53 : decode cX6_readItem 53 = .ok (.invokevirtual 54, 3) := by decide +kernel
theorem dX6_readItem_56 : decode cX6_readItem 56 = .ok (.ifCond .eq 8, 3) := by decide +kernel
theorem dX6_readItem_59 : decode cX6_readItem 59 = .ok (.aload_n 0, 1) := by decide +kernel
theorem dX6_readItem_60 : decode cX6_readItem 60 = .ok (.invokevirtual 69, 3) := by decide +kernel
theorem dX6_readItem_63 : decode cX6_readItem 63 = .ok (.ireturn, 1) := by decide +kernel
theorem dX6_readItem_64 : decode cX6_readItem 64 = .ok (.aload_n 0, 1) := by decide +kernel
theorem dX6_readItem_65 : decode cX6_readItem 65 = .ok (.ldc 72, 2) := by decide +kernel
theorem dX6_readItem_67 : decode cX6_readItem 67 = .ok (.invokevirtual 54, 3) := by decide +kernel
theorem dX6_readItem_70 : decode cX6_readItem 70 = .ok (.ifCond .eq 8, 3) := by decide +kernel
theorem dX6_readItem_73 : decode cX6_readItem 73 = .ok (.aload_n 0, 1) := by decide +kernel
theorem dX6_readItem_74 : decode cX6_readItem 74 = .ok (.invokevirtual 74, 3) := by decide +kernel
theorem dX6_readItem_77 : decode cX6_readItem 77 = .ok (.ireturn, 1) := by decide +kernel
theorem dX6_readItem_78 : decode cX6_readItem 78 = .ok (.aload_n 0, 1) := by decide +kernel
theorem dX6_readItem_79 : decode cX6_readItem 79 = .ok (.ldc 77, 2) := by decide +kernel
theorem dX6_readItem_81 : decode cX6_readItem 81 = .ok (.invokevirtual 54, 3) := by decide +kernel
theorem dX6_readItem_84 : decode cX6_readItem 84 = .ok (.ifCond .eq 14, 3) := by decide +kernel
theorem dX6_readItem_87 : decode cX6_readItem 87 = .ok (.aload_n 0, 1) := by decide +kernel
theorem dX6_readItem_88 : decode cX6_readItem 88 = .ok (.invokevirtual 79, 3) := by decide +kernel
theorem dX6_readItem_91 : decode cX6_readItem 91 = .ok (.ifCond .eq 7, 3) := by decide +kernel
theorem dX6_readItem_94 : decode cX6_readItem 94 = .ok (.iconst 1, 1) := by decide +kernel
theorem dX6_readItem_95 : decode cX6_readItem 95 = .ok (.goto 4, 3) := by decide +kernel
theorem dX6_readItem_98 : decode cX6_readItem 98 = .ok (.iconst 0, 1) := by decide +kernel
theorem dX6_readItem_99 : decode cX6_readItem 99 = .ok (.ireturn, 1) := by decide +kernel
theorem dX6_readDamp_0 : decode cX6_readDamp 0 = .ok (.aload_n 0, 1) := by decide +kernel
theorem dX6_readDamp_1 : decode cX6_readDamp 1 = .ok (.invokevirtual 82, 3) := by decide +kernel
theorem dX6_readDamp_4 : decode cX6_readDamp 4 = .ok (.istore_n 1, 1) := by decide +kernel
theorem dX6_readDamp_5 : decode cX6_readDamp 5 = .ok (.iload_n 1, 1) := by decide +kernel
theorem dX6_readDamp_6 : decode cX6_readDamp 6 = .ok (.iconst (-1), 1) := by decide +kernel
theorem dX6_readDamp_7 : decode cX6_readDamp 7 = .ok (.if_icmp .ne 5, 3) := by decide +kernel
theorem dX6_readDamp_10 : decode cX6_readDamp 10 = .ok (.iconst 0, 1) := by decide +kernel
theorem dX6_readDamp_11 : decode cX6_readDamp 11 = .ok (.ireturn, 1) := by decide +kernel
theorem dX6_readDamp_12 : decode cX6_readDamp 12 = .ok (.aload_n 0, 1) := by decide +kernel
theorem dX6_readDamp_13 : decode cX6_readDamp 13 = .ok (.getfield 22, 3) := by decide +kernel
theorem dX6_readDamp_16 : decode cX6_readDamp 16 = .ok (.dup, 1) := by decide +kernel
theorem dX6_readDamp_17 : decode cX6_readDamp 17 = .ok (.getfield 86, 3) := by decide +kernel
theorem dX6_readDamp_20 : decode cX6_readDamp 20 = .ok (.iload_n 1, 1) := by decide +kernel
theorem dX6_readDamp_21 : decode cX6_readDamp 21 = .ok (.ior, 1) := by decide +kernel
theorem dX6_readDamp_22 : decode cX6_readDamp 22 = .ok (.putfield 86, 3) := by decide +kernel
theorem dX6_readDamp_25 : decode cX6_readDamp 25 = .ok (.iconst 1, 1) := by decide +kernel
theorem dX6_readDamp_26 : decode cX6_readDamp 26 = .ok (.ireturn, 1) := by decide +kernel
theorem dX6_readDry_0 : decode cX6_readDry 0 = .ok (.aload_n 0, 1) := by decide +kernel
theorem dX6_readDry_1 : decode cX6_readDry 1 = .ok (.invokevirtual 82, 3) := by decide +kernel
theorem dX6_readDry_4 : decode cX6_readDry 4 = .ok (.istore_n 1, 1) := by decide +kernel
theorem dX6_readDry_5 : decode cX6_readDry 5 = .ok (.iload_n 1, 1) := by decide +kernel
theorem dX6_readDry_6 : decode cX6_readDry 6 = .ok (.iconst (-1), 1) := by decide +kernel
theorem dX6_readDry_7 : decode cX6_readDry 7 = .ok (.if_icmp .ne 5, 3) := by decide +kernel
theorem dX6_readDry_10 : decode cX6_readDry 10 = .ok (.iconst 0, 1) := by decide +kernel
theorem dX6_readDry_11 : decode cX6_readDry 11 = .ok (.ireturn, 1) := by decide +kernel
theorem dX6_readDry_12 : decode cX6_readDry 12 = .ok (.aload_n 0, 1) := by decide +kernel
theorem dX6_readDry_13 : decode cX6_readDry 13 = .ok (.getfield 22, 3) := by decide +kernel
theorem dX6_readDry_16 : decode cX6_readDry 16 = .ok (.dup, 1) := by decide +kernel
theorem dX6_readDry_17 : decode cX6_readDry 17 = .ok (.getfield 88, 3) := by decide +kernel
theorem dX6_readDry_20 : decode cX6_readDry 20 = .ok (.iload_n 1, 1) := by decide +kernel
theorem dX6_readDry_21 : decode cX6_readDry 21 = .ok (.ior, 1) := by decide +kernel
theorem dX6_readDry_22 : decode cX6_readDry 22 = .ok (.putfield 88, 3) := by decide +kernel
theorem dX6_readDry_25 : decode cX6_readDry 25 = .ok (.iconst 1, 1) := by decide +kernel
theorem dX6_readDry_26 : decode cX6_readDry 26 = .ok (.ireturn, 1) := by decide +kernel
theorem dX6_readPair_0 : decode cX6_readPair 0 = .ok (.aload_n 0, 1) := by decide +kernel
theorem dX6_readPair_1 : decode cX6_readPair 1 = .ok (.getfield 22, 3) := by decide +kernel
theorem dX6_readPair_4 : decode cX6_readPair 4 = .ok (.getfield 90, 3) := by decide +kernel
theorem dX6_readPair_7 : decode cX6_readPair 7 = .ok (.bipush 6, 2) := by decide +kernel
theorem dX6_readPair_9 : decode cX6_readPair 9 = .ok (.if_icmp .ge 12, 3) := by decide +kernel
theorem dX6_readPair_12 : decode cX6_readPair 12 = .ok (.aload_n 0, 1) := by decide +kernel
theorem dX6_readPair_13 : decode cX6_readPair 13 = .ok (.iconst 0, 1) := by decide +kernel
theorem dX6_readPair_14 : decode cX6_readPair 14 = .ok (.iconst 5, 1) := by decide +kernel
theorem dX6_readPair_15 : decode cX6_readPair 15 = .ok (.invokevirtual 93, 3) := by decide +kernel
theorem dX6_readPair_18 : decode cX6_readPair 18 = .ok (.ifCond .ne 5, 3) := by decide +kernel
theorem dX6_readPair_21 : decode cX6_readPair 21 = .ok (.iconst 0, 1) := by decide +kernel
theorem dX6_readPair_22 : decode cX6_readPair 22 = .ok (.ireturn, 1) := by decide +kernel
theorem dX6_readPair_23 : decode cX6_readPair 23 = .ok (.aload_n 0, 1) := by decide +kernel
theorem dX6_readPair_24 : decode cX6_readPair 24 = .ok (.getfield 35, 3) := by decide +kernel
theorem dX6_readPair_27 : decode cX6_readPair 27 = .ok (.istore_n 1, 1) := by decide +kernel
theorem dX6_readPair_28 : decode cX6_readPair 28 = .ok (.aload_n 0, 1) := by decide +kernel
theorem dX6_readPair_29 : decode cX6_readPair 29 = .ok (.iconst 0, 1) := by decide +kernel
theorem dX6_readPair_30 : decode cX6_readPair 30 = .ok (.bipush 60, 2) := by decide +kernel
theorem dX6_readPair_32 : decode cX6_readPair 32 = .ok (.invokevirtual 93, 3) := by decide +kernel
theorem dX6_readPair_35 : decode cX6_readPair 35 = .ok (.ifCond .ne 5, 3) := by decide +kernel
theorem dX6_readPair_38 : decode cX6_readPair 38 = .ok (.iconst 0, 1) := by decide +kernel
theorem dX6_readPair_39 : decode cX6_readPair 39 = .ok (.ireturn, 1) := by decide +kernel
theorem dX6_readPair_40 : decode cX6_readPair 40 = .ok (.aload_n 0, 1) := by decide +kernel
theorem dX6_readPair_41 : decode cX6_readPair 41 = .ok (.getfield 22, 3) := by decide +kernel
theorem dX6_readPair_44 : decode cX6_readPair 44 = .ok (.iload_n 1, 1) := by decide +kernel
theorem dX6_readPair_45 : decode cX6_readPair 45 = .ok (.aload_n 0, 1) := by decide +kernel
theorem dX6_readPair_46 : decode cX6_readPair 46 = .ok (.getfield 35, 3) := by decide +kernel
theorem dX6_readPair_49 : decode cX6_readPair 49 = .ok (.invokevirtual 97, 3) := by decide +kernel
theorem dX6_readPair_52 : decode cX6_readPair 52 = .ok (.pop, 1) := by decide +kernel
theorem dX6_readPair_53 : decode cX6_readPair 53 = .ok (.aload_n 0, 1) := by decide +kernel
theorem dX6_readPair_54 : decode cX6_readPair 54 = .ok (.invokevirtual 58, 3) := by decide +kernel
theorem dX6_readPair_57 : decode cX6_readPair 57 = .ok (.ireturn, 1) := by decide +kernel
theorem dX6_readKin_0 : decode cX6_readKin 0 = .ok (.aload_n 0, 1) := by decide +kernel
theorem dX6_readKin_1 : decode cX6_readKin 1 = .ok (.getfield 22, 3) := by decide +kernel
theorem dX6_readKin_4 : decode cX6_readKin 4 = .ok (.getfield 101, 3) := by decide +kernel
theorem dX6_readKin_7 : decode cX6_readKin 7 = .ok (.bipush 8, 2) := by decide +kernel
theorem dX6_readKin_9 : decode cX6_readKin 9 = .ok (.if_icmp .ge 13, 3) := by decide +kernel
theorem dX6_readKin_12 : decode cX6_readKin 12 = .ok (.aload_n 0, 1) := by decide +kernel
theorem dX6_readKin_13 : decode cX6_readKin 13 = .ok (.iconst 1, 1) := by decide +kernel
theorem dX6_readKin_14 : decode cX6_readKin 14 = .ok (.bipush 20, 2) := by decide +kernel
theorem dX6_readKin_16 : decode cX6_readKin 16 = .ok (.invokevirtual 93, 3) := by decide +kernel
theorem dX6_readKin_19 : decode cX6_readKin 19 = .ok (.ifCond .ne 5, 3) := by decide +kernel
theorem dX6_readKin_22 : decode cX6_readKin 22 = .ok (.iconst 0, 1) := by decide +kernel
theorem dX6_readKin_23 : decode cX6_readKin 23 = .ok (.ireturn, 1) := by decide +kernel
theorem dX6_readKin_24 : decode cX6_readKin 24 = .ok (.aload_n 0, 1) := by decide +kernel
theorem dX6_readKin_25 : decode cX6_readKin 25 = .ok (.getfield 22, 3) := by decide +kernel
theorem dX6_readKin_28 : decode cX6_readKin 28 = .ok (.aload_n 0, 1) := by decide +kernel
theorem dX6_readKin_29 : decode cX6_readKin 29 = .ok (.getfield 35, 3) := by decide +kernel
theorem dX6_readKin_32 : decode cX6_readKin 32 = .ok (.invokevirtual 103, 3) := by decide +kernel
theorem dX6_readKin_35 : decode cX6_readKin 35 = .ok (.pop, 1) := by decide +kernel
theorem dX6_readKin_36 : decode cX6_readKin 36 = .ok (.aload_n 0, 1) := by decide +kernel
theorem dX6_readKin_37 : decode cX6_readKin 37 = .ok (.invokevirtual 58, 3) := by decide +kernel
theorem dX6_readKin_40 : decode cX6_readKin 40 = .ok (.ireturn, 1) := by decide +kernel
theorem dX6_takeYears_0 : decode cX6_takeYears 0 = .ok (.iconst 0, 1) := by decide +kernel
theorem dX6_takeYears_1 : decode cX6_takeYears 1 = .ok (.istore_n 1, 1) := by decide +kernel
theorem dX6_takeYears_2 : decode cX6_takeYears 2 = .ok (.iconst 0, 1) := by decide +kernel
theorem dX6_takeYears_3 : decode cX6_takeYears 3 = .ok (.istore_n 2, 1) := by decide +kernel
theorem dX6_takeYears_4 : decode cX6_takeYears 4 = .ok (.iload_n 2, 1) := by decide +kernel
theorem dX6_takeYears_5 : decode cX6_takeYears 5 = .ok (.sipush 150, 3) := by decide +kernel
theorem dX6_takeYears_8 : decode cX6_takeYears 8 = .ok (.if_icmp .gt 51, 3) := by decide +kernel
theorem dX6_takeYears_11 : decode cX6_takeYears 11 = .ok (.aload_n 0, 1) := by decide +kernel
theorem dX6_takeYears_12 : decode cX6_takeYears 12 = .ok (.invokevirtual 41, 3) := by decide +kernel
theorem dX6_takeYears_15 : decode cX6_takeYears 15 = .ok (.aload_n 0, 1) := by decide +kernel
theorem dX6_takeYears_16 : decode cX6_takeYears 16 = .ok (.getfield 26, 3) := by decide +kernel
theorem dX6_takeYears_19 : decode cX6_takeYears 19 = .ok (.iconst 3, 1) := by decide +kernel
theorem dX6_takeYears_20 : decode cX6_takeYears 20 = .ok (.if_icmp .ne 5, 3) := by decide +kernel
theorem dX6_takeYears_23 : decode cX6_takeYears 23 = .ok (.iload_n 1, 1) := by decide +kernel
theorem dX6_takeYears_24 : decode cX6_takeYears 24 = .ok (.ireturn, 1) := by decide +kernel
theorem dX6_takeYears_25 : decode cX6_takeYears 25 = .ok (.aload_n 0, 1) := by decide +kernel
theorem dX6_takeYears_26 : decode cX6_takeYears 26 = .ok (.getfield 26, 3) := by decide +kernel
theorem dX6_takeYears_29 : decode cX6_takeYears 29 = .ok (.iconst 2, 1) := by decide +kernel
theorem dX6_takeYears_30 : decode cX6_takeYears 30 = .ok (.if_icmp .ne 12, 3) := by decide +kernel
theorem dX6_takeYears_33 : decode cX6_takeYears 33 = .ok (.aload_n 0, 1) := by decide +kernel
theorem dX6_takeYears_34 : decode cX6_takeYears 34 = .ok (.getfield 35, 3) := by decide +kernel
theorem dX6_takeYears_37 : decode cX6_takeYears 37 = .ok (.bipush 12, 2) := by decide +kernel
theorem dX6_takeYears_39 : decode cX6_takeYears 39 = .ok (.if_icmp .lt 5, 3) := by decide +kernel
theorem dX6_takeYears_42 : decode cX6_takeYears 42 = .ok (.iconst (-1), 1) := by decide +kernel
theorem dX6_takeYears_43 : decode cX6_takeYears 43 = .ok (.ireturn, 1) := by decide +kernel
theorem dX6_takeYears_44 : decode cX6_takeYears 44 = .ok (.iload_n 1, 1) := by decide +kernel
theorem dX6_takeYears_45 : decode cX6_takeYears 45 = .ok (.iconst 1, 1) := by decide +kernel
theorem dX6_takeYears_46 : decode cX6_takeYears 46 = .ok (.aload_n 0, 1) := by decide +kernel
theorem dX6_takeYears_47 : decode cX6_takeYears 47 = .ok (.getfield 35, 3) := by decide +kernel
theorem dX6_takeYears_50 : decode cX6_takeYears 50 = .ok (.ishl, 1) := by decide +kernel
theorem dX6_takeYears_51 : decode cX6_takeYears 51 = .ok (.ior, 1) := by decide +kernel
theorem dX6_takeYears_52 : decode cX6_takeYears 52 = .ok (.istore_n 1, 1) := by decide +kernel
theorem dX6_takeYears_53 : decode cX6_takeYears 53 = .ok (.iinc 2 1, 3) := by decide +kernel
theorem dX6_takeYears_56 : decode cX6_takeYears 56 = .ok (.goto (-52), 3) := by decide +kernel
theorem dX6_takeYears_59 : decode cX6_takeYears 59 = .ok (.iconst (-1), 1) := by decide +kernel
theorem dX6_takeYears_60 : decode cX6_takeYears 60 = .ok (.ireturn, 1) := by decide +kernel
theorem dX6_takeNumber_0 : decode cX6_takeNumber 0 = .ok (.aload_n 0, 1) := by decide +kernel
theorem dX6_takeNumber_1 : decode cX6_takeNumber 1 = .ok (.invokevirtual 41, 3) := by decide +kernel
theorem dX6_takeNumber_4 : decode cX6_takeNumber 4 = .ok (.aload_n 0, 1) := by decide +kernel
theorem dX6_takeNumber_5 : decode cX6_takeNumber 5 = .ok (.getfield 26, 3) := by decide +kernel
theorem dX6_takeNumber_8 : decode cX6_takeNumber 8 = .ok (.iconst 2, 1) := by decide +kernel
theorem dX6_takeNumber_9 : decode cX6_takeNumber 9 = .ok (.if_icmp .ne 19, 3) := by decide +kernel
theorem dX6_takeNumber_12 : decode cX6_takeNumber 12 = .ok (.aload_n 0, 1) := by decide +kernel
theorem dX6_takeNumber_13 : decode cX6_takeNumber 13 = .ok (.getfield 35, 3) := by decide +kernel
theorem dX6_takeNumber_16 : decode cX6_takeNumber 16 = .ok (.iload_n 1, 1) := by decide +kernel
theorem dX6_takeNumber_17 : decode cX6_takeNumber 17 = .ok (.iload_n 2, 1) := by decide +kernel
theorem dX6_takeNumber_18 : decode cX6_takeNumber 18 = .ok (.invokestatic 107, 3) := by decide +kernel
theorem dX6_takeNumber_21 : decode cX6_takeNumber 21 = .ok (.ifCond .eq 7, 3) := by decide +kernel
theorem dX6_takeNumber_24 : decode cX6_takeNumber 24 = .ok (.iconst 1, 1) := by decide +kernel
theorem dX6_takeNumber_25 : decode cX6_takeNumber 25 = .ok (.goto 4, 3) := by decide +kernel
theorem dX6_takeNumber_28 : decode cX6_takeNumber 28 = .ok (.iconst 0, 1) := by decide +kernel
theorem dX6_takeNumber_29 : decode cX6_takeNumber 29 = .ok (.ireturn, 1) := by decide +kernel
theorem dX6_takeSemicolon_0 : decode cX6_takeSemicolon 0 = .ok (.aload_n 0, 1) := by decide +kernel
theorem dX6_takeSemicolon_1 : decode cX6_takeSemicolon 1 = .ok (.invokevirtual 41, 3) := by decide +kernel
theorem dX6_takeSemicolon_4 : decode cX6_takeSemicolon 4 = .ok (.aload_n 0, 1) := by decide +kernel
theorem dX6_takeSemicolon_5 : decode cX6_takeSemicolon 5 = .ok (.getfield 26, 3) := by decide +kernel
theorem dX6_takeSemicolon_8 : decode cX6_takeSemicolon 8 = .ok (.iconst 3, 1) := by decide +kernel
theorem dX6_takeSemicolon_9 : decode cX6_takeSemicolon 9 = .ok (.if_icmp .ne 7, 3) := by decide +kernel
theorem dX6_takeSemicolon_12 : decode cX6_takeSemicolon 12 = .ok (.iconst 1, 1) := by decide +kernel
theorem dX6_takeSemicolon_13 : decode cX6_takeSemicolon 13 = .ok (.goto 4, 3) := by decide +kernel
theorem dX6_takeSemicolon_16 : decode cX6_takeSemicolon 16 = .ok (.iconst 0, 1) := by decide +kernel
theorem dX6_takeSemicolon_17 : decode cX6_takeSemicolon 17 = .ok (.ireturn, 1) := by decide +kernel
theorem dX6_takeToken_0 : decode cX6_takeToken 0 = .ok (.aload_n 0, 1) := by decide +kernel
theorem dX6_takeToken_1 : decode cX6_takeToken 1 = .ok (.bipush 32, 2) := by decide +kernel
theorem dX6_takeToken_3 : decode cX6_takeToken 3 = .ok (.bipush 32, 2) := by decide +kernel
theorem dX6_takeToken_5 : decode cX6_takeToken 5 = .ok (.invokevirtual 111, 3) := by decide +kernel
theorem dX6_takeToken_8 : decode cX6_takeToken 8 = .ok (.aload_n 0, 1) := by decide +kernel
theorem dX6_takeToken_9 : decode cX6_takeToken 9 = .ok (.aload_n 0, 1) := by decide +kernel
theorem dX6_takeToken_10 : decode cX6_takeToken 10 = .ok (.getfield 32, 3) := by decide +kernel
theorem dX6_takeToken_13 : decode cX6_takeToken 13 = .ok (.putfield 29, 3) := by decide +kernel
theorem dX6_takeToken_16 : decode cX6_takeToken 16 = .ok (.aload_n 0, 1) := by decide +kernel
theorem dX6_takeToken_17 : decode cX6_takeToken 17 = .ok (.getfield 32, 3) := by decide +kernel
theorem dX6_takeToken_20 : decode cX6_takeToken 20 = .ok (.aload_n 0, 1) := by decide +kernel
theorem dX6_takeToken_21 : decode cX6_takeToken 21 = .ok (.getfield 15, 3) := by decide +kernel
theorem dX6_takeToken_24 : decode cX6_takeToken 24 = .ok (.if_icmp .lt 11, 3) := by decide +kernel
theorem dX6_takeToken_27 : decode cX6_takeToken 27 = .ok (.aload_n 0, 1) := by decide +kernel
theorem dX6_takeToken_28 : decode cX6_takeToken 28 = .ok (.iconst 0, 1) := by decide +kernel
theorem dX6_takeToken_29 : decode cX6_takeToken 29 = .ok (.putfield 26, 3) := by decide +kernel
theorem dX6_takeToken_32 : decode cX6_takeToken 32 = .ok (.goto 105, 3) := by decide +kernel
theorem dX6_takeToken_35 : decode cX6_takeToken 35 = .ok (.aload_n 0, 1) := by decide +kernel
theorem dX6_takeToken_36 : decode cX6_takeToken 36 = .ok (.getfield 9, 3) := by decide +kernel
theorem dX6_takeToken_39 : decode cX6_takeToken 39 = .ok (.aload_n 0, 1) := by decide +kernel
theorem dX6_takeToken_40 : decode cX6_takeToken 40 = .ok (.getfield 32, 3) := by decide +kernel
theorem dX6_takeToken_43 : decode cX6_takeToken 43 = .ok (.baload, 1) := by decide +kernel
theorem dX6_takeToken_44 : decode cX6_takeToken 44 = .ok (.bipush 97, 2) := by decide +kernel
theorem dX6_takeToken_46 : decode cX6_takeToken 46 = .ok (.bipush 122, 2) := by decide +kernel
theorem dX6_takeToken_48 : decode cX6_takeToken 48 = .ok (.invokestatic 107, 3) := by decide +kernel
theorem dX6_takeToken_51 : decode cX6_takeToken 51 = .ok (.ifCond .eq 19, 3) := by decide +kernel
theorem dX6_takeToken_54 : decode cX6_takeToken 54 = .ok (.aload_n 0, 1) := by decide +kernel
theorem dX6_takeToken_55 : decode cX6_takeToken 55 = .ok (.bipush 97, 2) := by decide +kernel
theorem dX6_takeToken_57 : decode cX6_takeToken 57 = .ok (.bipush 122, 2) := by decide +kernel
theorem dX6_takeToken_59 : decode cX6_takeToken 59 = .ok (.invokevirtual 111, 3) := by decide +kernel
theorem dX6_takeToken_62 : decode cX6_takeToken 62 = .ok (.aload_n 0, 1) := by decide +kernel
theorem dX6_takeToken_63 : decode cX6_takeToken 63 = .ok (.iconst 1, 1) := by decide +kernel
theorem dX6_takeToken_64 : decode cX6_takeToken 64 = .ok (.putfield 26, 3) := by decide +kernel
theorem dX6_takeToken_67 : decode cX6_takeToken 67 = .ok (.goto 70, 3) := by decide +kernel
theorem dX6_takeToken_70 : decode cX6_takeToken 70 = .ok (.aload_n 0, 1) := by decide +kernel
theorem dX6_takeToken_71 : decode cX6_takeToken 71 = .ok (.getfield 9, 3) := by decide +kernel
theorem dX6_takeToken_74 : decode cX6_takeToken 74 = .ok (.aload_n 0, 1) := by decide +kernel
theorem dX6_takeToken_75 : decode cX6_takeToken 75 = .ok (.getfield 32, 3) := by decide +kernel
theorem dX6_takeToken_78 : decode cX6_takeToken 78 = .ok (.baload, 1) := by decide +kernel
theorem dX6_takeToken_79 : decode cX6_takeToken 79 = .ok (.bipush 48, 2) := by decide +kernel
theorem dX6_takeToken_81 : decode cX6_takeToken 81 = .ok (.bipush 57, 2) := by decide +kernel
theorem dX6_takeToken_83 : decode cX6_takeToken 83 = .ok (.invokestatic 107, 3) := by decide +kernel
theorem dX6_takeToken_86 : decode cX6_takeToken 86 = .ok (.ifCond .eq 18, 3) := by decide +kernel
theorem dX6_takeToken_89 : decode cX6_takeToken 89 = .ok (.aload_n 0, 1) := by decide +kernel
theorem dX6_takeToken_90 : decode cX6_takeToken 90 = .ok (.bipush 48, 2) := by decide +kernel
theorem dX6_takeToken_92 : decode cX6_takeToken 92 = .ok (.bipush 57, 2) := by decide +kernel
theorem dX6_takeToken_94 : decode cX6_takeToken 94 = .ok (.invokevirtual 111, 3) := by decide +kernel
theorem dX6_takeToken_97 : decode cX6_takeToken 97 = .ok (.aload_n 0, 1) := by decide +kernel
theorem dX6_takeToken_98 : decode cX6_takeToken 98 = .ok (.invokevirtual 115, 3) := by decide +kernel
theorem dX6_takeToken_101 : decode cX6_takeToken 101 = .ok (.goto 36, 3) := by decide +kernel
theorem dX6_takeToken_104 : decode cX6_takeToken 104 = .ok (.aload_n 0, 1) := by decide +kernel
theorem dX6_takeToken_105 : decode cX6_takeToken 105 = .ok (.aload_n 0, 1) := by decide +kernel
theorem dX6_takeToken_106 : decode cX6_takeToken 106 = .ok (.getfield 9, 3) := by decide +kernel
theorem dX6_takeToken_109 : decode cX6_takeToken 109 = .ok (.aload_n 0, 1) := by decide +kernel
theorem dX6_takeToken_110 : decode cX6_takeToken 110 = .ok (.getfield 32, 3) := by decide +kernel
theorem dX6_takeToken_113 : decode cX6_takeToken 113 = .ok (.baload, 1) := by decide +kernel
theorem dX6_takeToken_114 : decode cX6_takeToken 114 = .ok (.bipush 59, 2) := by decide +kernel
theorem dX6_takeToken_116 : decode cX6_takeToken 116 = .ok (.if_icmp .ne 7, 3) := by decide +kernel
theorem dX6_takeToken_119 : decode cX6_takeToken 119 = .ok (.iconst 3, 1) := by decide +kernel
theorem dX6_takeToken_120 : decode cX6_takeToken 120 = .ok (.goto 4, 3) := by decide +kernel
theorem dX6_takeToken_123 : decode cX6_takeToken 123 = .ok (.iconst 4, 1) := by decide +kernel
theorem dX6_takeToken_124 : decode cX6_takeToken 124 = .ok (.putfield 26, 3) := by decide +kernel
theorem dX6_takeToken_127 : decode cX6_takeToken 127 = .ok (.aload_n 0, 1) := by decide +kernel
theorem dX6_takeToken_128 : decode cX6_takeToken 128 = .ok (.dup, 1) := by decide +kernel
theorem dX6_takeToken_129 : decode cX6_takeToken 129 = .ok (.getfield 32, 3) := by decide +kernel
theorem dX6_takeToken_132 : decode cX6_takeToken 132 = .ok (.iconst 1, 1) := by decide +kernel
theorem dX6_takeToken_133 : decode cX6_takeToken 133 = .ok (.iadd, 1) := by decide +kernel
theorem dX6_takeToken_134 : decode cX6_takeToken 134 = .ok (.putfield 32, 3) := by decide +kernel
theorem dX6_takeToken_137 : decode cX6_takeToken 137 = .ok (.return_, 1) := by decide +kernel
theorem dX6_setNumber_0 : decode cX6_setNumber 0 = .ok (.aload_n 0, 1) := by decide +kernel
theorem dX6_setNumber_1 : decode cX6_setNumber 1 = .ok (.aload_n 0, 1) := by decide +kernel
theorem dX6_setNumber_2 : decode cX6_setNumber 2 = .ok (.getfield 32, 3) := by decide +kernel
theorem dX6_setNumber_5 : decode cX6_setNumber 5 = .ok (.aload_n 0, 1) := by decide +kernel
theorem dX6_setNumber_6 : decode cX6_setNumber 6 = .ok (.getfield 29, 3) := by decide +kernel
theorem dX6_setNumber_9 : decode cX6_setNumber 9 = .ok (.isub, 1) := by decide +kernel
theorem dX6_setNumber_10 : decode cX6_setNumber 10 = .ok (.iconst 2, 1) := by decide +kernel
theorem dX6_setNumber_11 : decode cX6_setNumber 11 = .ok (.if_icmp .gt 7, 3) := by decide +kernel
theorem dX6_setNumber_14 : decode cX6_setNumber 14 = .ok (.iconst 2, 1) := by decide +kernel
theorem dX6_setNumber_15 : decode cX6_setNumber 15 = .ok (.goto 4, 3) := by decide +kernel
theorem dX6_setNumber_18 : decode cX6_setNumber 18 = .ok (.iconst 4, 1) := by decide +kernel
theorem dX6_setNumber_19 : decode cX6_setNumber 19 = .ok (.putfield 26, 3) := by decide +kernel
theorem dX6_setNumber_22 : decode cX6_setNumber 22 = .ok (.aload_n 0, 1) := by decide +kernel
theorem dX6_setNumber_23 : decode cX6_setNumber 23 = .ok (.iconst 0, 1) := by decide +kernel
theorem dX6_setNumber_24 : decode cX6_setNumber 24 = .ok (.putfield 35, 3) := by decide +kernel
theorem dX6_setNumber_27 : decode cX6_setNumber 27 = .ok (.aload_n 0, 1) := by decide +kernel
theorem dX6_setNumber_28 : decode cX6_setNumber 28 = .ok (.getfield 29, 3) := by decide +kernel
theorem dX6_setNumber_31 : decode cX6_setNumber 31 = .ok (.istore_n 1, 1) := by decide +kernel
theorem dX6_setNumber_32 : decode cX6_setNumber 32 = .ok (.iload_n 1, 1) := by decide +kernel
theorem dX6_setNumber_33 : decode cX6_setNumber 33 = .ok (.aload_n 0, 1) := by decide +kernel
theorem dX6_setNumber_34 : decode cX6_setNumber 34 = .ok (.getfield 32, 3) := by decide +kernel
theorem dX6_setNumber_37 : decode cX6_setNumber 37 = .ok (.if_icmp .ge 38, 3) := by decide +kernel
theorem dX6_setNumber_40 : decode cX6_setNumber 40 = .ok (.aload_n 0, 1) := by decide +kernel
theorem dX6_setNumber_41 : decode cX6_setNumber 41 = .ok (.getfield 26, 3) := by decide +kernel
theorem dX6_setNumber_44 : decode cX6_setNumber 44 = .ok (.iconst 2, 1) := by decide +kernel
theorem dX6_setNumber_45 : decode cX6_setNumber 45 = .ok (.if_icmp .ne 30, 3) := by decide +kernel
theorem dX6_setNumber_48 : decode cX6_setNumber 48 = .ok (.aload_n 0, 1) := by decide +kernel
theorem dX6_setNumber_49 : decode cX6_setNumber 49 = .ok (.bipush 10, 2) := by decide +kernel
theorem dX6_setNumber_51 : decode cX6_setNumber 51 = .ok (.aload_n 0, 1) := by decide +kernel
theorem dX6_setNumber_52 : decode cX6_setNumber 52 = .ok (.getfield 35, 3) := by decide +kernel
theorem dX6_setNumber_55 : decode cX6_setNumber 55 = .ok (.imul, 1) := by decide +kernel
theorem dX6_setNumber_56 : decode cX6_setNumber 56 = .ok (.aload_n 0, 1) := by decide +kernel
theorem dX6_setNumber_57 : decode cX6_setNumber 57 = .ok (.getfield 9, 3) := by decide +kernel
theorem dX6_setNumber_60 : decode cX6_setNumber 60 = .ok (.iload_n 1, 1) := by decide +kernel
theorem dX6_setNumber_61 : decode cX6_setNumber 61 = .ok (.baload, 1) := by decide +kernel
theorem dX6_setNumber_62 : decode cX6_setNumber 62 = .ok (.iadd, 1) := by decide +kernel
theorem dX6_setNumber_63 : decode cX6_setNumber 63 = .ok (.bipush 48, 2) := by decide +kernel
theorem dX6_setNumber_65 : decode cX6_setNumber 65 = .ok (.isub, 1) := by decide +kernel
theorem dX6_setNumber_66 : decode cX6_setNumber 66 = .ok (.putfield 35, 3) := by decide +kernel
theorem dX6_setNumber_69 : decode cX6_setNumber 69 = .ok (.iinc 1 1, 3) := by decide +kernel
theorem dX6_setNumber_72 : decode cX6_setNumber 72 = .ok (.goto (-40), 3) := by decide +kernel
theorem dX6_setNumber_75 : decode cX6_setNumber 75 = .ok (.return_, 1) := by decide +kernel
theorem dX6_takeRun_0 : decode cX6_takeRun 0 = .ok (.aload_n 0, 1) := by decide +kernel
theorem dX6_takeRun_1 : decode cX6_takeRun 1 = .ok (.getfield 32, 3) := by decide +kernel
theorem dX6_takeRun_4 : decode cX6_takeRun 4 = .ok (.aload_n 0, 1) := by decide +kernel
theorem dX6_takeRun_5 : decode cX6_takeRun 5 = .ok (.getfield 15, 3) := by decide +kernel
theorem dX6_takeRun_8 : decode cX6_takeRun 8 = .ok (.if_icmp .ge 42, 3) := by decide +kernel
theorem dX6_takeRun_11 : decode cX6_takeRun 11 = .ok (.aload_n 0, 1) := by decide +kernel
theorem dX6_takeRun_12 : decode cX6_takeRun 12 = .ok (.getfield 9, 3) := by decide +kernel
theorem dX6_takeRun_15 : decode cX6_takeRun 15 = .ok (.aload_n 0, 1) := by decide +kernel
theorem dX6_takeRun_16 : decode cX6_takeRun 16 = .ok (.getfield 32, 3) := by decide +kernel
theorem dX6_takeRun_19 : decode cX6_takeRun 19 = .ok (.baload, 1) := by decide +kernel
theorem dX6_takeRun_20 : decode cX6_takeRun 20 = .ok (.iload_n 1, 1) := by decide +kernel
theorem dX6_takeRun_21 : decode cX6_takeRun 21 = .ok (.if_icmp .lt 29, 3) := by decide +kernel
theorem dX6_takeRun_24 : decode cX6_takeRun 24 = .ok (.aload_n 0, 1) := by decide +kernel
theorem dX6_takeRun_25 : decode cX6_takeRun 25 = .ok (.getfield 9, 3) := by decide +kernel
theorem dX6_takeRun_28 : decode cX6_takeRun 28 = .ok (.aload_n 0, 1) := by decide +kernel
theorem dX6_takeRun_29 : decode cX6_takeRun 29 = .ok (.getfield 32, 3) := by decide +kernel
theorem dX6_takeRun_32 : decode cX6_takeRun 32 = .ok (.baload, 1) := by decide +kernel
theorem dX6_takeRun_33 : decode cX6_takeRun 33 = .ok (.iload_n 2, 1) := by decide +kernel
theorem dX6_takeRun_34 : decode cX6_takeRun 34 = .ok (.if_icmp .gt 16, 3) := by decide +kernel
theorem dX6_takeRun_37 : decode cX6_takeRun 37 = .ok (.aload_n 0, 1) := by decide +kernel
theorem dX6_takeRun_38 : decode cX6_takeRun 38 = .ok (.dup, 1) := by decide +kernel
theorem dX6_takeRun_39 : decode cX6_takeRun 39 = .ok (.getfield 32, 3) := by decide +kernel
theorem dX6_takeRun_42 : decode cX6_takeRun 42 = .ok (.iconst 1, 1) := by decide +kernel
theorem dX6_takeRun_43 : decode cX6_takeRun 43 = .ok (.iadd, 1) := by decide +kernel
theorem dX6_takeRun_44 : decode cX6_takeRun 44 = .ok (.putfield 32, 3) := by decide +kernel
theorem dX6_takeRun_47 : decode cX6_takeRun 47 = .ok (.goto (-47), 3) := by decide +kernel
theorem dX6_takeRun_50 : decode cX6_takeRun 50 = .ok (.return_, 1) := by decide +kernel
theorem dX6_isWord_0 : decode cX6_isWord 0 = .ok (.aload_n 0, 1) := by decide +kernel
theorem dX6_isWord_1 : decode cX6_isWord 1 = .ok (.getfield 32, 3) := by decide +kernel
theorem dX6_isWord_4 : decode cX6_isWord 4 = .ok (.aload_n 0, 1) := by decide +kernel
theorem dX6_isWord_5 : decode cX6_isWord 5 = .ok (.getfield 29, 3) := by decide +kernel
theorem dX6_isWord_8 : decode cX6_isWord 8 = .ok (.isub, 1) := by decide +kernel
theorem dX6_isWord_9 : decode cX6_isWord 9 = .ok (.aload_n 1, 1) := by decide +kernel
theorem dX6_isWord_10 : decode cX6_isWord 10 = .ok (.invokevirtual 118, 3) := by decide +kernel
theorem dX6_isWord_13 : decode cX6_isWord 13 = .ok (.if_icmp .eq 5, 3) := by decide +kernel
theorem dX6_isWord_16 : decode cX6_isWord 16 = .ok (.iconst 0, 1) := by decide +kernel
theorem dX6_isWord_17 : decode cX6_isWord 17 = .ok (.ireturn, 1) := by decide +kernel
theorem dX6_isWord_18 : decode cX6_isWord 18 = .ok (.iconst 0, 1) := by decide +kernel
theorem dX6_isWord_19 : decode cX6_isWord 19 = .ok (.istore_n 2, 1) := by decide +kernel
theorem dX6_isWord_20 : decode cX6_isWord 20 = .ok (.iload_n 2, 1) := by decide +kernel
theorem dX6_isWord_21 : decode cX6_isWord 21 = .ok (.aload_n 1, 1) := by decide +kernel
theorem dX6_isWord_22 : decode cX6_isWord 22 = .ok (.invokevirtual 118, 3) := by decide +kernel
theorem dX6_isWord_25 : decode cX6_isWord 25 = .ok (.if_icmp .ge 30, 3) := by decide +kernel
theorem dX6_isWord_28 : decode cX6_isWord 28 = .ok (.aload_n 0, 1) := by decide +kernel
theorem dX6_isWord_29 : decode cX6_isWord 29 = .ok (.getfield 9, 3) := by decide +kernel
theorem dX6_isWord_32 : decode cX6_isWord 32 = .ok (.aload_n 0, 1) := by decide +kernel
theorem dX6_isWord_33 : decode cX6_isWord 33 = .ok (.getfield 29, 3) := by decide +kernel
theorem dX6_isWord_36 : decode cX6_isWord 36 = .ok (.iload_n 2, 1) := by decide +kernel
theorem dX6_isWord_37 : decode cX6_isWord 37 = .ok (.iadd, 1) := by decide +kernel
theorem dX6_isWord_38 : decode cX6_isWord 38 = .ok (.baload, 1) := by decide +kernel
theorem dX6_isWord_39 : decode cX6_isWord 39 = .ok (.aload_n 1, 1) := by decide +kernel
theorem dX6_isWord_40 : decode cX6_isWord 40 = .ok (.iload_n 2, 1) := by decide +kernel
theorem dX6_isWord_41 : decode cX6_isWord 41 = .ok (.invokevirtual 122, 3) := by decide +kernel
theorem dX6_isWord_44 : decode cX6_isWord 44 = .ok (.if_icmp .eq 5, 3) := by decide +kernel
theorem dX6_isWord_47 : decode cX6_isWord 47 = .ok (.iconst 0, 1) := by decide +kernel
theorem dX6_isWord_48 : decode cX6_isWord 48 = .ok (.ireturn, 1) := by decide +kernel
theorem dX6_isWord_49 : decode cX6_isWord 49 = .ok (.iinc 2 1, 3) := by decide +kernel
theorem dX6_isWord_52 : decode cX6_isWord 52 = .ok (.goto (-32), 3) := by decide +kernel
theorem dX6_isWord_55 : decode cX6_isWord 55 = .ok (.iconst 1, 1) := by decide +kernel
theorem dX6_isWord_56 : decode cX6_isWord 56 = .ok (.ireturn, 1) := by decide +kernel
theorem dX7_init_0 : decode cX7_init 0 = .ok (.aload_n 0, 1) := by decide +kernel
theorem dX7_init_1 : decode cX7_init 1 = .ok (.invokespecial 3, 3) := by decide +kernel
theorem dX7_init_4 : decode cX7_init 4 = .ok (.aload_n 0, 1) := by decide +kernel
theorem dX7_init_5 : decode cX7_init 5 = .ok (.bipush 6, 2) := by decide +kernel
theorem dX7_init_7 : decode cX7_init 7 = .ok (.newarray .int, 2) := by decide +kernel
theorem dX7_init_9 : decode cX7_init 9 = .ok (.putfield 9, 3) := by decide +kernel
theorem dX7_init_12 : decode cX7_init 12 = .ok (.return_, 1) := by decide +kernel
theorem dX7_kindsThatFit_0 : decode cX7_kindsThatFit 0 = .ok (.iconst 0, 1) := by decide +kernel
theorem dX7_kindsThatFit_1 : decode cX7_kindsThatFit 1 = .ok (.istore_n 2, 1) := by decide +kernel
theorem dX7_kindsThatFit_2 : decode cX7_kindsThatFit 2 = .ok (.iconst 0, 1) := by decide +kernel
theorem dX7_kindsThatFit_3 : decode cX7_kindsThatFit 3 = .ok (.istore_n 3, 1) := by decide +kernel
theorem dX7_kindsThatFit_4 : decode cX7_kindsThatFit 4 = .ok (.iload_n 3, 1) := by decide +kernel
theorem dX7_kindsThatFit_5 : decode cX7_kindsThatFit 5 = .ok (.bipush 6, 2) := by decide +kernel
theorem dX7_kindsThatFit_7 : decode cX7_kindsThatFit 7 = .ok (.if_icmp .ge 24, 3) := by decide +kernel
theorem dX7_kindsThatFit_10 : decode cX7_kindsThatFit 10 = .ok (.aload_n 0, 1) := by decide +kernel
theorem dX7_kindsThatFit_11 : decode cX7_kindsThatFit 11 = .ok (.iload_n 1, 1) := by decide +kernel
theorem dX7_kindsThatFit_12 : decode cX7_kindsThatFit 12 = .ok (.iload_n 3, 1) := by decide +kernel
theorem dX7_kindsThatFit_13 : decode cX7_kindsThatFit 13 = .ok (.invokestatic 15, 3) := by decide +kernel
theorem dX7_kindsThatFit_16 : decode cX7_kindsThatFit 16 = .ok (.ifCond .eq 9, 3) := by decide +kernel
theorem dX7_kindsThatFit_19 : decode cX7_kindsThatFit 19 = .ok (.iload_n 2, 1) := by decide +kernel
theorem dX7_kindsThatFit_20 : decode cX7_kindsThatFit 20 = .ok (.iconst 1, 1) := by decide +kernel
theorem dX7_kindsThatFit_21 : decode cX7_kindsThatFit 21 = .ok (.iload_n 3, 1) := by decide +kernel
theorem dX7_kindsThatFit_22 : decode cX7_kindsThatFit 22 = .ok (.ishl, 1) := by decide +kernel
theorem dX7_kindsThatFit_23 : decode cX7_kindsThatFit 23 = .ok (.ior, 1) := by decide +kernel
theorem dX7_kindsThatFit_24 : decode cX7_kindsThatFit 24 = .ok (.istore_n 2, 1) := by decide +kernel
theorem dX7_kindsThatFit_25 : decode cX7_kindsThatFit 25 = .ok (.iinc 3 1, 3) := by decide +kernel
theorem dX7_kindsThatFit_28 : decode cX7_kindsThatFit 28 = .ok (.goto (-24), 3) := by decide +kernel
theorem dX7_kindsThatFit_31 : decode cX7_kindsThatFit 31 = .ok (.iload_n 2, 1) := by decide +kernel
theorem dX7_kindsThatFit_32 : decode cX7_kindsThatFit 32 = .ok (.ireturn, 1) := by decide +kernel
theorem dX7_fits_0 : decode cX7_fits 0 = .ok (.iconst 0, 1) := by decide +kernel
theorem dX7_fits_1 : decode cX7_fits 1 = .ok (.istore_n 3, 1) := by decide +kernel
theorem dX7_fits_2 : decode cX7_fits 2 = .ok (.iload_n 3, 1) := by decide +kernel
theorem dX7_fits_3 : decode cX7_fits 3 = .ok (.aload_n 0, 1) := by decide +kernel
theorem dX7_fits_4 : decode cX7_fits 4 = .ok (.getfield 19, 3) := by decide +kernel
theorem dX7_fits_7 : decode cX7_fits 7 = .ok (.if_icmp .ge 55, 3) := by decide +kernel
theorem dX7_fits_10 : decode cX7_fits 10 = .ok (.aload_n 0, 1) := by decide +kernel
theorem dX7_fits_11 : decode cX7_fits 11 = .ok (.getfield 25, 3) := by decide +kernel
theorem dX7_fits_14 : decode cX7_fits 14 = .ok (.iload_n 3, 1) := by decide +kernel
theorem dX7_fits_15 : decode cX7_fits 15 = .ok (.iaload, 1) := by decide +kernel
theorem dX7_fits_16 : decode cX7_fits 16 = .ok (.iload_n 1, 1) := by decide +kernel
theorem dX7_fits_17 : decode cX7_fits 17 = .ok (.if_icmp .ne 39, 3) := by decide +kernel
theorem dX7_fits_20 : decode cX7_fits 20 = .ok (.aload_n 0, 1) := by decide +kernel
theorem dX7_fits_21 : decode cX7_fits 21 = .ok (.iload_n 2, 1) := by decide +kernel
theorem dX7_fits_22 : decode cX7_fits 22 = .ok (.aload_n 0, 1) := by decide +kernel
theorem dX7_fits_23 : decode cX7_fits 23 = .ok (.getfield 28, 3) := by decide +kernel
theorem dX7_fits_26 : decode cX7_fits 26 = .ok (.iload_n 1, 1) := by decide +kernel
theorem dX7_fits_27 : decode cX7_fits 27 = .ok (.iaload, 1) := by decide +kernel
theorem dX7_fits_28 : decode cX7_fits 28 = .ok (.aload_n 0, 1) := by decide +kernel
theorem dX7_fits_29 : decode cX7_fits 29 = .ok (.getfield 31, 3) := by decide +kernel
theorem dX7_fits_32 : decode cX7_fits 32 = .ok (.iload_n 3, 1) := by decide +kernel
theorem dX7_fits_33 : decode cX7_fits 33 = .ok (.iaload, 1) := by decide +kernel
theorem dX7_fits_34 : decode cX7_fits 34 = .ok (.aload_n 0, 1) := by decide +kernel
theorem dX7_fits_35 : decode cX7_fits 35 = .ok (.getfield 34, 3) := by decide +kernel
theorem dX7_fits_38 : decode cX7_fits 38 = .ok (.invokevirtual 37, 3) := by decide +kernel
theorem dX7_fits_41 : decode cX7_fits 41 = .ok (.istore 4, 2) := by decide +kernel
theorem dX7_fits_43 : decode cX7_fits 43 = .ok (.iload 4, 2) := by decide +kernel
theorem dX7_fits_45 : decode cX7_fits 45 = .ok (.aload_n 0, 1) := by decide +kernel
theorem dX7_fits_46 : decode cX7_fits 46 = .ok (.getfield 41, 3) := by decide +kernel
theorem dX7_fits_49 : decode cX7_fits 49 = .ok (.iload_n 3, 1) := by decide +kernel
theorem dX7_fits_50 : decode cX7_fits 50 = .ok (.iaload, 1) := by decide +kernel
theorem dX7_fits_51 : decode cX7_fits 51 = .ok (.if_icmp .eq 5, 3) := by decide +kernel
theorem dX7_fits_54 : decode cX7_fits 54 = .ok (.iconst 0, 1) := by decide +kernel
theorem dX7_fits_55 : decode cX7_fits 55 = .ok (.ireturn, 1) := by decide +kernel
theorem dX7_fits_56 : decode cX7_fits 56 = .ok (.iinc 3 1, 3) := by decide +kernel
theorem dX7_fits_59 : decode cX7_fits 59 = .ok (.goto (-57), 3) := by decide +kernel
theorem dX7_fits_62 : decode cX7_fits 62 = .ok (.iconst 1, 1) := by decide +kernel
theorem dX7_fits_63 : decode cX7_fits 63 = .ok (.ireturn, 1) := by decide +kernel
theorem dX7_countNext_0 : decode cX7_countNext 0 = .ok (.aload_n 1, 1) := by decide +kernel
theorem dX7_countNext_1 : decode cX7_countNext 1 = .ok (.iload_n 2, 1) := by decide +kernel
theorem dX7_countNext_2 : decode cX7_countNext 2 = .ok (.invokestatic 44, 3) := by decide +kernel
theorem dX7_countNext_5 : decode cX7_countNext 5 = .ok (.istore_n 3, 1) := by decide +kernel
theorem dX7_countNext_6 : decode cX7_countNext 6 = .ok (.iload_n 3, 1) := by decide +kernel
theorem dX7_countNext_7 : decode cX7_countNext 7 = .ok (.ifCond .ne 5, 3) := by decide +kernel
theorem dX7_countNext_10 : decode cX7_countNext 10 = .ok (.iconst (-1), 1) := by decide +kernel
theorem dX7_countNext_11 : decode cX7_countNext 11 = .ok (.ireturn, 1) := by decide +kernel
theorem dX7_countNext_12 : decode cX7_countNext 12 = .ok (.iconst 0, 1) := by decide +kernel
theorem dX7_countNext_13 : decode cX7_countNext 13 = .ok (.istore 4, 2) := by decide +kernel
theorem dX7_countNext_15 : decode cX7_countNext 15 = .ok (.iload 4, 2) := by decide +kernel
theorem dX7_countNext_17 : decode cX7_countNext 17 = .ok (.bipush 6, 2) := by decide +kernel
theorem dX7_countNext_19 : decode cX7_countNext 19 = .ok (.if_icmp .ge 22, 3) := by decide +kernel
theorem dX7_countNext_22 : decode cX7_countNext 22 = .ok (.aload_n 0, 1) := by decide +kernel
theorem dX7_countNext_23 : decode cX7_countNext 23 = .ok (.getfield 9, 3) := by decide +kernel
theorem dX7_countNext_26 : decode cX7_countNext 26 = .ok (.iload 4, 2) := by decide +kernel
theorem dX7_countNext_28 : decode cX7_countNext 28 = .ok (.aload_n 1, 1) := by decide +kernel
theorem dX7_countNext_29 : decode cX7_countNext 29 = .ok (.getfield 28, 3) := by decide +kernel
theorem dX7_countNext_32 : decode cX7_countNext 32 = .ok (.iload_n 2, 1) := by decide +kernel
theorem dX7_countNext_33 : decode cX7_countNext 33 = .ok (.iaload, 1) := by decide +kernel
theorem dX7_countNext_34 : decode cX7_countNext 34 = .ok (.iastore, 1) := by decide +kernel
theorem dX7_countNext_35 : decode cX7_countNext 35 = .ok (.iinc 4 1, 3) := by decide +kernel
theorem dX7_countNext_38 : decode cX7_countNext 38 = .ok (.goto (-23), 3) := by decide +kernel
theorem dX7_countNext_41 : decode cX7_countNext 41 = .ok (.iconst 0, 1) := by decide +kernel
theorem dX7_countNext_42 : decode cX7_countNext 42 = .ok (.istore 4, 2) := by decide +kernel
theorem dX7_countNext_44 : decode cX7_countNext 44 = .ok (.aload_n 0, 1) := by decide +kernel
theorem dX7_countNext_45 : decode cX7_countNext 45 = .ok (.iload_n 3, 1) := by decide +kernel
theorem dX7_countNext_46 : decode cX7_countNext 46 = .ok (.invokevirtual 48, 3) := by decide +kernel
theorem dX7_countNext_49 : decode cX7_countNext 49 = .ok (.istore 5, 2) := by decide +kernel
theorem dX7_countNext_51 : decode cX7_countNext 51 = .ok (.iconst 1, 1) := by decide +kernel
theorem dX7_countNext_52 : decode cX7_countNext 52 = .ok (.istore 6, 2) := by decide +kernel
theorem dX7_countNext_54 : decode cX7_countNext 54 = .ok (.iload 6, 2) := by decide +kernel
theorem dX7_countNext_56 : decode cX7_countNext 56 = .ok (.bipush 60, 2) := by decide +kernel
theorem dX7_countNext_58 : decode cX7_countNext 58 = .ok (.if_icmp .gt 40, 3) := by decide +kernel
theorem dX7_countNext_61 : decode cX7_countNext 61 = .ok (.aload_n 0, 1) := by decide +kernel
theorem dX7_countNext_62 : decode cX7_countNext 62 = .ok (.aload_n 1, 1) := by decide +kernel
theorem dX7_countNext_63 : decode cX7_countNext 63 = .ok (.iload 6, 2) := by decide +kernel
theorem dX7_countNext_65 : decode cX7_countNext 65 = .ok (.iconst 1, 1) := by decide +kernel
theorem dX7_countNext_66 : decode cX7_countNext 66 = .ok (.isub, 1) := by decide +kernel
theorem dX7_countNext_67 : decode cX7_countNext 67 = .ok (.invokevirtual 52, 3) := by decide +kernel
theorem dX7_countNext_70 : decode cX7_countNext 70 = .ok (.aload_n 0, 1) := by decide +kernel
theorem dX7_countNext_71 : decode cX7_countNext 71 = .ok (.iload_n 3, 1) := by decide +kernel
theorem dX7_countNext_72 : decode cX7_countNext 72 = .ok (.invokevirtual 48, 3) := by decide +kernel
theorem dX7_countNext_75 : decode cX7_countNext 75 = .ok (.istore 7, 2) := by decide +kernel
theorem dX7_countNext_77 : decode cX7_countNext 77 = .ok (.iload 7, 2) := by decide +kernel
theorem dX7_countNext_79 : decode cX7_countNext 79 = .ok (.iload 5, 2) := by decide +kernel
theorem dX7_countNext_81 : decode cX7_countNext 81 = .ok (.if_icmp .ge 11, 3) := by decide +kernel
theorem dX7_countNext_84 : decode cX7_countNext 84 = .ok (.iload 6, 2) := by decide +kernel
theorem dX7_countNext_86 : decode cX7_countNext 86 = .ok (.istore 4, 2) := by decide +kernel
theorem dX7_countNext_88 : decode cX7_countNext 88 = .ok (.iload 7, 2) := by decide +kernel
theorem dX7_countNext_90 : decode cX7_countNext 90 = .ok (.istore 5, 2) := by decide +kernel
theorem dX7_countNext_92 : decode cX7_countNext 92 = .ok (.iinc 6 1, 3) := by decide +kernel
theorem dX7_countNext_95 : decode cX7_countNext 95 = .ok (.goto (-41), 3) := by decide +kernel
theorem dX7_countNext_98 : decode cX7_countNext 98 = .ok (.iload 4, 2) := by decide +kernel
theorem dX7_countNext_100 : decode cX7_countNext 100 = .ok (.ireturn, 1) := by decide +kernel
theorem dX7_passYearByKind_0 : decode cX7_passYearByKind 0 = .ok (.iconst 0, 1) := by decide +kernel
theorem dX7_passYearByKind_1 : decode cX7_passYearByKind 1 = .ok (.istore_n 3, 1) := by decide +kernel
theorem dX7_passYearByKind_2 : decode cX7_passYearByKind 2 = .ok (.iload_n 3, 1) := by decide +kernel
theorem dX7_passYearByKind_3 : decode cX7_passYearByKind 3 = .ok (.bipush 6, 2) := by decide +kernel
theorem dX7_passYearByKind_5 : decode cX7_passYearByKind 5 = .ok (.if_icmp .ge 39, 3) := by decide +kernel
theorem dX7_passYearByKind_8 : decode cX7_passYearByKind 8 = .ok (.aload_n 0, 1) := by decide +kernel
theorem dX7_passYearByKind_9 : decode cX7_passYearByKind 9 = .ok (.getfield 9, 3) := by decide +kernel
theorem dX7_passYearByKind_12 : decode cX7_passYearByKind 12 = .ok (.iload_n 3, 1) := by decide +kernel
theorem dX7_passYearByKind_13 : decode cX7_passYearByKind 13 = .ok (.aload_n 0, 1) := by decide +kernel
theorem dX7_passYearByKind_14 : decode cX7_passYearByKind 14 = .ok (.getfield 9, 3) := by decide +kernel
theorem dX7_passYearByKind_17 : decode cX7_passYearByKind 17 = .ok (.iload_n 3, 1) := by decide +kernel
theorem dX7_passYearByKind_18 : decode cX7_passYearByKind 18 = .ok (.iaload, 1) := by decide +kernel
theorem dX7_passYearByKind_19 : decode cX7_passYearByKind 19 = .ok (.iload_n 3, 1) := by decide +kernel
theorem dX7_passYearByKind_20 : decode cX7_passYearByKind 20 = .ok (.aload_n 1, 1) := by decide +kernel
theorem dX7_passYearByKind_21 : decode cX7_passYearByKind 21 = .ok (.getfield 56, 3) := by decide +kernel
theorem dX7_passYearByKind_24 : decode cX7_passYearByKind 24 = .ok (.iload_n 2, 1) := by decide +kernel
theorem dX7_passYearByKind_25 : decode cX7_passYearByKind 25 = .ok (.iadd, 1) := by decide +kernel
theorem dX7_passYearByKind_26 : decode cX7_passYearByKind 26 = .ok (.aload_n 1, 1) := by decide +kernel
theorem dX7_passYearByKind_27 : decode cX7_passYearByKind 27 = .ok (.getfield 59, 3) := by decide +kernel
theorem dX7_passYearByKind_30 : decode cX7_passYearByKind 30 = .ok (.aload_n 1, 1) := by decide +kernel
theorem dX7_passYearByKind_31 : decode cX7_passYearByKind 31 = .ok (.getfield 34, 3) := by decide +kernel
theorem dX7_passYearByKind_34 : decode cX7_passYearByKind 34 = .ok (.invokestatic 62, 3) := by decide +kernel
theorem dX7_passYearByKind_37 : decode cX7_passYearByKind 37 = .ok (.iastore, 1) := by decide +kernel
theorem dX7_passYearByKind_38 : decode cX7_passYearByKind 38 = .ok (.iinc 3 1, 3) := by decide +kernel
theorem dX7_passYearByKind_41 : decode cX7_passYearByKind 41 = .ok (.goto (-39), 3) := by decide +kernel
theorem dX7_passYearByKind_44 : decode cX7_passYearByKind 44 = .ok (.return_, 1) := by decide +kernel
theorem dX7_mostAlike_0 : decode cX7_mostAlike 0 = .ok (.iconst 0, 1) := by decide +kernel
theorem dX7_mostAlike_1 : decode cX7_mostAlike 1 = .ok (.istore_n 2, 1) := by decide +kernel
theorem dX7_mostAlike_2 : decode cX7_mostAlike 2 = .ok (.iconst 0, 1) := by decide +kernel
theorem dX7_mostAlike_3 : decode cX7_mostAlike 3 = .ok (.istore_n 3, 1) := by decide +kernel
theorem dX7_mostAlike_4 : decode cX7_mostAlike 4 = .ok (.iload_n 3, 1) := by decide +kernel
theorem dX7_mostAlike_5 : decode cX7_mostAlike 5 = .ok (.bipush 6, 2) := by decide +kernel
theorem dX7_mostAlike_7 : decode cX7_mostAlike 7 = .ok (.if_icmp .ge 34, 3) := by decide +kernel
theorem dX7_mostAlike_10 : decode cX7_mostAlike 10 = .ok (.iload_n 1, 1) := by decide +kernel
theorem dX7_mostAlike_11 : decode cX7_mostAlike 11 = .ok (.iload_n 3, 1) := by decide +kernel
theorem dX7_mostAlike_12 : decode cX7_mostAlike 12 = .ok (.ishr, 1) := by decide +kernel
theorem dX7_mostAlike_13 : decode cX7_mostAlike 13 = .ok (.iconst 1, 1) := by decide +kernel
theorem dX7_mostAlike_14 : decode cX7_mostAlike 14 = .ok (.iand, 1) := by decide +kernel
theorem dX7_mostAlike_15 : decode cX7_mostAlike 15 = .ok (.iconst 1, 1) := by decide +kernel
theorem dX7_mostAlike_16 : decode cX7_mostAlike 16 = .ok (.if_icmp .ne 19, 3) := by decide +kernel
theorem dX7_mostAlike_19 : decode cX7_mostAlike 19 = .ok (.iload_n 2, 1) := by decide +kernel
theorem dX7_mostAlike_20 : decode cX7_mostAlike 20 = .ok (.aload_n 0, 1) := by decide +kernel
theorem dX7_mostAlike_21 : decode cX7_mostAlike 21 = .ok (.aload_n 0, 1) := by decide +kernel
theorem dX7_mostAlike_22 : decode cX7_mostAlike 22 = .ok (.getfield 9, 3) := by decide +kernel
theorem dX7_mostAlike_25 : decode cX7_mostAlike 25 = .ok (.iload_n 3, 1) := by decide +kernel
theorem dX7_mostAlike_26 : decode cX7_mostAlike 26 = .ok (.iaload, 1) := by decide +kernel
theorem dX7_mostAlike_27 : decode cX7_mostAlike 27 = .ok (.iload_n 1, 1) := by decide +kernel
theorem dX7_mostAlike_28 : decode cX7_mostAlike 28 = .ok (.invokevirtual 68, 3) := by decide +kernel
theorem dX7_mostAlike_31 : decode cX7_mostAlike 31 = .ok (.invokestatic 72, 3) := by decide +kernel
theorem dX7_mostAlike_34 : decode cX7_mostAlike 34 = .ok (.istore_n 2, 1) := by decide +kernel
theorem dX7_mostAlike_35 : decode cX7_mostAlike 35 = .ok (.iinc 3 1, 3) := by decide +kernel
theorem dX7_mostAlike_38 : decode cX7_mostAlike 38 = .ok (.goto (-34), 3) := by decide +kernel
theorem dX7_mostAlike_41 : decode cX7_mostAlike 41 = .ok (.iload_n 2, 1) := by decide +kernel
theorem dX7_mostAlike_42 : decode cX7_mostAlike 42 = .ok (.ireturn, 1) := by decide +kernel
theorem dX7_howManyHave_0 : decode cX7_howManyHave 0 = .ok (.iconst 0, 1) := by decide +kernel
theorem dX7_howManyHave_1 : decode cX7_howManyHave 1 = .ok (.istore_n 3, 1) := by decide +kernel
theorem dX7_howManyHave_2 : decode cX7_howManyHave 2 = .ok (.iconst 0, 1) := by decide +kernel
theorem dX7_howManyHave_3 : decode cX7_howManyHave 3 = .ok (.istore 4, 2) := by decide +kernel
theorem dX7_howManyHave_5 : decode cX7_howManyHave 5 = .ok (.iload 4, 2) := by decide +kernel
theorem dX7_howManyHave_7 : decode cX7_howManyHave 7 = .ok (.bipush 6, 2) := by decide +kernel
theorem dX7_howManyHave_9 : decode cX7_howManyHave 9 = .ok (.if_icmp .ge 33, 3) := by decide +kernel
theorem dX7_howManyHave_12 : decode cX7_howManyHave 12 = .ok (.iload_n 2, 1) := by decide +kernel
theorem dX7_howManyHave_13 : decode cX7_howManyHave 13 = .ok (.iload 4, 2) := by decide +kernel
theorem dX7_howManyHave_15 : decode cX7_howManyHave 15 = .ok (.ishr, 1) := by decide +kernel
theorem dX7_howManyHave_16 : decode cX7_howManyHave 16 = .ok (.iconst 1, 1) := by decide +kernel
theorem dX7_howManyHave_17 : decode cX7_howManyHave 17 = .ok (.iand, 1) := by decide +kernel
theorem dX7_howManyHave_18 : decode cX7_howManyHave 18 = .ok (.iconst 1, 1) := by decide +kernel
theorem dX7_howManyHave_19 : decode cX7_howManyHave 19 = .ok (.if_icmp .ne 17, 3) := by decide +kernel
theorem dX7_howManyHave_22 : decode cX7_howManyHave 22 = .ok (.aload_n 0, 1) := by decide +kernel
theorem dX7_howManyHave_23 : decode cX7_howManyHave 23 = .ok (.getfield 9, 3) := by decide +kernel
theorem dX7_howManyHave_26 : decode cX7_howManyHave 26 = .ok (.iload 4, 2) := by decide +kernel
theorem dX7_howManyHave_28 : decode cX7_howManyHave 28 = .ok (.iaload, 1) := by decide +kernel
theorem dX7_howManyHave_29 : decode cX7_howManyHave 29 = .ok (.iload_n 1, 1) := by decide +kernel
theorem dX7_howManyHave_30 : decode cX7_howManyHave 30 = .ok (.if_icmp .ne 6, 3) := by decide +kernel
theorem dX7_howManyHave_33 : decode cX7_howManyHave 33 = .ok (.iinc 3 1, 3) := by decide +kernel
theorem dX7_howManyHave_36 : decode cX7_howManyHave 36 = .ok (.iinc 4 1, 3) := by decide +kernel
theorem dX7_howManyHave_39 : decode cX7_howManyHave 39 = .ok (.goto (-34), 3) := by decide +kernel
theorem dX7_howManyHave_42 : decode cX7_howManyHave 42 = .ok (.iload_n 3, 1) := by decide +kernel
theorem dX7_howManyHave_43 : decode cX7_howManyHave 43 = .ok (.ireturn, 1) := by decide +kernel
theorem dX7_swaps_0 : decode cX7_swaps 0 = .ok (.iconst 0, 1) := by decide +kernel
theorem dX7_swaps_1 : decode cX7_swaps 1 = .ok (.istore_n 2, 1) := by decide +kernel
theorem dX7_swaps_2 : decode cX7_swaps 2 = .ok (.iconst 0, 1) := by decide +kernel
theorem dX7_swaps_3 : decode cX7_swaps 3 = .ok (.istore_n 3, 1) := by decide +kernel
theorem dX7_swaps_4 : decode cX7_swaps 4 = .ok (.iload_n 3, 1) := by decide +kernel
theorem dX7_swaps_5 : decode cX7_swaps 5 = .ok (.aload_n 0, 1) := by decide +kernel
theorem dX7_swaps_6 : decode cX7_swaps 6 = .ok (.getfield 77, 3) := by decide +kernel
theorem dX7_swaps_9 : decode cX7_swaps 9 = .ok (.if_icmp .ge 55, 3) := by decide +kernel
theorem dX7_swaps_12 : decode cX7_swaps 12 = .ok (.iload_n 3, 1) := by decide +kernel
theorem dX7_swaps_13 : decode cX7_swaps 13 = .ok (.iconst 1, 1) := by decide +kernel
theorem dX7_swaps_14 : decode cX7_swaps 14 = .ok (.iadd, 1) := by decide +kernel
theorem dX7_swaps_15 : decode cX7_swaps 15 = .ok (.istore 4, 2) := by decide +kernel
theorem dX7_swaps_17 : decode cX7_swaps 17 = .ok (.iload 4, 2) := by decide +kernel
theorem dX7_swaps_19 : decode cX7_swaps 19 = .ok (.aload_n 0, 1) := by decide +kernel
theorem dX7_swaps_20 : decode cX7_swaps 20 = .ok (.getfield 77, 3) := by decide +kernel
theorem dX7_swaps_23 : decode cX7_swaps 23 = .ok (.if_icmp .ge 35, 3) := by decide +kernel
theorem dX7_swaps_26 : decode cX7_swaps 26 = .ok (.aload_n 0, 1) := by decide +kernel
theorem dX7_swaps_27 : decode cX7_swaps 27 = .ok (.iload_n 3, 1) := by decide +kernel
theorem dX7_swaps_28 : decode cX7_swaps 28 = .ok (.iload 4, 2) := by decide +kernel
theorem dX7_swaps_30 : decode cX7_swaps 30 = .ok (.invokestatic 80, 3) := by decide +kernel
theorem dX7_swaps_33 : decode cX7_swaps 33 = .ok (.ifCond .eq 19, 3) := by decide +kernel
theorem dX7_swaps_36 : decode cX7_swaps 36 = .ok (.iload_n 2, 1) := by decide +kernel
theorem dX7_swaps_37 : decode cX7_swaps 37 = .ok (.iload_n 1, 1) := by decide +kernel
theorem dX7_swaps_38 : decode cX7_swaps 38 = .ok (.if_icmp .ne 11, 3) := by decide +kernel
theorem dX7_swaps_41 : decode cX7_swaps 41 = .ok (.bipush 10, 2) := by decide +kernel
theorem dX7_swaps_43 : decode cX7_swaps 43 = .ok (.iload_n 3, 1) := by decide +kernel
theorem dX7_swaps_44 : decode cX7_swaps 44 = .ok (.imul, 1) := by decide +kernel
theorem dX7_swaps_45 : decode cX7_swaps 45 = .ok (.iload 4, 2) := by decide +kernel
theorem dX7_swaps_47 : decode cX7_swaps 47 = .ok (.iadd, 1) := by decide +kernel
theorem dX7_swaps_48 : decode cX7_swaps 48 = .ok (.ireturn, 1) := by decide +kernel
theorem dX7_swaps_49 : decode cX7_swaps 49 = .ok (.iinc 2 1, 3) := by decide +kernel
theorem dX7_swaps_52 : decode cX7_swaps 52 = .ok (.iinc 4 1, 3) := by decide +kernel
theorem dX7_swaps_55 : decode cX7_swaps 55 = .ok (.goto (-38), 3) := by decide +kernel
theorem dX7_swaps_58 : decode cX7_swaps 58 = .ok (.iinc 3 1, 3) := by decide +kernel
theorem dX7_swaps_61 : decode cX7_swaps 61 = .ok (.goto (-57), 3) := by decide +kernel
theorem dX7_swaps_64 : decode cX7_swaps 64 = .ok (.iload_n 1, 1) := by decide +kernel
theorem dX7_swaps_65 : decode cX7_swaps 65 = .ok (.iconst (-1), 1) := by decide +kernel
theorem dX7_swaps_66 : decode cX7_swaps 66 = .ok (.if_icmp .ne 7, 3) := by decide +kernel
theorem dX7_swaps_69 : decode cX7_swaps 69 = .ok (.iload_n 2, 1) := by decide +kernel
theorem dX7_swaps_70 : decode cX7_swaps 70 = .ok (.goto 5, 3) := by decide +kernel
theorem dX7_swaps_73 : decode cX7_swaps 73 = .ok (.bipush (-5), 2) := by decide +kernel
theorem dX7_swaps_75 : decode cX7_swaps 75 = .ok (.ireturn, 1) := by decide +kernel
theorem dX7_fitsSwapped_0 : decode cX7_fitsSwapped 0 = .ok (.iconst 0, 1) := by decide +kernel
theorem dX7_fitsSwapped_1 : decode cX7_fitsSwapped 1 = .ok (.istore_n 3, 1) := by decide +kernel
theorem dX7_fitsSwapped_2 : decode cX7_fitsSwapped 2 = .ok (.iload_n 3, 1) := by decide +kernel
theorem dX7_fitsSwapped_3 : decode cX7_fitsSwapped 3 = .ok (.aload_n 0, 1) := by decide +kernel
theorem dX7_fitsSwapped_4 : decode cX7_fitsSwapped 4 = .ok (.getfield 19, 3) := by decide +kernel
theorem dX7_fitsSwapped_7 : decode cX7_fitsSwapped 7 = .ok (.if_icmp .ge 84, 3) := by decide +kernel
theorem dX7_fitsSwapped_10 : decode cX7_fitsSwapped 10 = .ok (.aload_n 0, 1) := by decide +kernel
theorem dX7_fitsSwapped_11 : decode cX7_fitsSwapped 11 = .ok (.getfield 25, 3) := by decide +kernel
theorem dX7_fitsSwapped_14 : decode cX7_fitsSwapped 14 = .ok (.iload_n 3, 1) := by decide +kernel
theorem dX7_fitsSwapped_15 : decode cX7_fitsSwapped 15 = .ok (.iaload, 1) := by decide +kernel
theorem dX7_fitsSwapped_16 : decode cX7_fitsSwapped 16 = .ok (.istore 4, 2) := by decide +kernel
theorem dX7_fitsSwapped_18 : decode cX7_fitsSwapped 18 = .ok (.iload 4, 2) := by decide +kernel
theorem dX7_fitsSwapped_20 : decode cX7_fitsSwapped 20 = .ok (.iload_n 1, 1) := by decide +kernel
theorem dX7_fitsSwapped_21 : decode cX7_fitsSwapped 21 = .ok (.if_icmp .ne 7, 3) := by decide +kernel
theorem dX7_fitsSwapped_24 : decode cX7_fitsSwapped 24 = .ok (.iload_n 2, 1) := by decide +kernel
theorem dX7_fitsSwapped_25 : decode cX7_fitsSwapped 25 = .ok (.goto 15, 3) := by decide +kernel
theorem dX7_fitsSwapped_28 : decode cX7_fitsSwapped 28 = .ok (.iload 4, 2) := by decide +kernel
theorem dX7_fitsSwapped_30 : decode cX7_fitsSwapped 30 = .ok (.iload_n 2, 1) := by decide +kernel
theorem dX7_fitsSwapped_31 : decode cX7_fitsSwapped 31 = .ok (.if_icmp .ne 7, 3) := by decide +kernel
theorem dX7_fitsSwapped_34 : decode cX7_fitsSwapped 34 = .ok (.iload_n 1, 1) := by decide +kernel
theorem dX7_fitsSwapped_35 : decode cX7_fitsSwapped 35 = .ok (.goto 5, 3) := by decide +kernel
theorem dX7_fitsSwapped_38 : decode cX7_fitsSwapped 38 = .ok (.iload 4, 2) := by decide +kernel
theorem dX7_fitsSwapped_40 : decode cX7_fitsSwapped 40 = .ok (.istore 5, 2) := by decide +kernel
theorem dX7_fitsSwapped_42 : decode cX7_fitsSwapped 42 = .ok (.aload_n 0, 1) := by decide +kernel
theorem dX7_fitsSwapped_43 : decode cX7_fitsSwapped 43 = .ok (.aload_n 0, 1) := by decide +kernel
theorem dX7_fitsSwapped_44 : decode cX7_fitsSwapped 44 = .ok (.getfield 83, 3) := by decide +kernel
theorem dX7_fitsSwapped_47 : decode cX7_fitsSwapped 47 = .ok (.iload 4, 2) := by decide +kernel
theorem dX7_fitsSwapped_49 : decode cX7_fitsSwapped 49 = .ok (.iaload, 1) := by decide +kernel
theorem dX7_fitsSwapped_50 : decode cX7_fitsSwapped 50 = .ok (.aload_n 0, 1) := by decide +kernel
theorem dX7_fitsSwapped_51 : decode cX7_fitsSwapped 51 = .ok (.getfield 28, 3) := by decide +kernel
theorem dX7_fitsSwapped_54 : decode cX7_fitsSwapped 54 = .ok (.iload 5, 2) := by decide +kernel
theorem dX7_fitsSwapped_56 : decode cX7_fitsSwapped 56 = .ok (.iaload, 1) := by decide +kernel
theorem dX7_fitsSwapped_57 : decode cX7_fitsSwapped 57 = .ok (.aload_n 0, 1) := by decide +kernel
theorem dX7_fitsSwapped_58 : decode cX7_fitsSwapped 58 = .ok (.getfield 31, 3) := by decide +kernel
theorem dX7_fitsSwapped_61 : decode cX7_fitsSwapped 61 = .ok (.iload_n 3, 1) := by decide +kernel
theorem dX7_fitsSwapped_62 : decode cX7_fitsSwapped 62 = .ok (.iaload, 1) := by decide +kernel
theorem dX7_fitsSwapped_63 : decode cX7_fitsSwapped 63 = .ok (.aload_n 0, 1) := by decide +kernel
theorem dX7_fitsSwapped_64 : decode cX7_fitsSwapped 64 = .ok (.getfield 34, 3) := by decide +kernel
theorem dX7_fitsSwapped_67 : decode cX7_fitsSwapped 67 = .ok (.invokevirtual 37, 3) := by decide +kernel
theorem dX7_fitsSwapped_70 : decode cX7_fitsSwapped 70 = .ok (.istore 6, 2) := by decide +kernel
theorem dX7_fitsSwapped_72 : decode cX7_fitsSwapped 72 = .ok (.iload 6, 2) := by decide +kernel
theorem dX7_fitsSwapped_74 : decode cX7_fitsSwapped 74 = .ok (.aload_n 0, 1) := by decide +kernel
theorem dX7_fitsSwapped_75 : decode cX7_fitsSwapped 75 = .ok (.getfield 41, 3) := by decide +kernel
theorem dX7_fitsSwapped_78 : decode cX7_fitsSwapped 78 = .ok (.iload_n 3, 1) := by decide +kernel
theorem dX7_fitsSwapped_79 : decode cX7_fitsSwapped 79 = .ok (.iaload, 1) := by decide +kernel
theorem dX7_fitsSwapped_80 : decode cX7_fitsSwapped 80 = .ok (.if_icmp .eq 5, 3) := by decide +kernel
theorem dX7_fitsSwapped_83 : decode cX7_fitsSwapped 83 = .ok (.iconst 0, 1) := by decide +kernel
theorem dX7_fitsSwapped_84 : decode cX7_fitsSwapped 84 = .ok (.ireturn, 1) := by decide +kernel
theorem dX7_fitsSwapped_85 : decode cX7_fitsSwapped 85 = .ok (.iinc 3 1, 3) := by decide +kernel
theorem dX7_fitsSwapped_88 : decode cX7_fitsSwapped 88 = .ok (.goto (-86), 3) := by decide +kernel
theorem dX7_fitsSwapped_91 : decode cX7_fitsSwapped 91 = .ok (.iconst 1, 1) := by decide +kernel
theorem dX7_fitsSwapped_92 : decode cX7_fitsSwapped 92 = .ok (.ireturn, 1) := by decide +kernel
theorem dX7_pairsPutBack_0 : decode cX7_pairsPutBack 0 = .ok (.iconst 0, 1) := by decide +kernel
theorem dX7_pairsPutBack_1 : decode cX7_pairsPutBack 1 = .ok (.istore_n 1, 1) := by decide +kernel
theorem dX7_pairsPutBack_2 : decode cX7_pairsPutBack 2 = .ok (.iconst 0, 1) := by decide +kernel
theorem dX7_pairsPutBack_3 : decode cX7_pairsPutBack 3 = .ok (.istore_n 2, 1) := by decide +kernel
theorem dX7_pairsPutBack_4 : decode cX7_pairsPutBack 4 = .ok (.iload_n 2, 1) := by decide +kernel
theorem dX7_pairsPutBack_5 : decode cX7_pairsPutBack 5 = .ok (.aload_n 0, 1) := by decide +kernel
theorem dX7_pairsPutBack_6 : decode cX7_pairsPutBack 6 = .ok (.getfield 77, 3) := by decide +kernel
theorem dX7_pairsPutBack_9 : decode cX7_pairsPutBack 9 = .ok (.if_icmp .ge 23, 3) := by decide +kernel
theorem dX7_pairsPutBack_12 : decode cX7_pairsPutBack 12 = .ok (.aload_n 0, 1) := by decide +kernel
theorem dX7_pairsPutBack_13 : decode cX7_pairsPutBack 13 = .ok (.iload_n 2, 1) := by decide +kernel
theorem dX7_pairsPutBack_14 : decode cX7_pairsPutBack 14 = .ok (.invokestatic 86, 3) := by decide +kernel
theorem dX7_pairsPutBack_17 : decode cX7_pairsPutBack 17 = .ok (.ifCond .eq 9, 3) := by decide +kernel
theorem dX7_pairsPutBack_20 : decode cX7_pairsPutBack 20 = .ok (.iload_n 1, 1) := by decide +kernel
theorem dX7_pairsPutBack_21 : decode cX7_pairsPutBack 21 = .ok (.iconst 1, 1) := by decide +kernel
theorem dX7_pairsPutBack_22 : decode cX7_pairsPutBack 22 = .ok (.iload_n 2, 1) := by decide +kernel
theorem dX7_pairsPutBack_23 : decode cX7_pairsPutBack 23 = .ok (.ishl, 1) := by decide +kernel
theorem dX7_pairsPutBack_24 : decode cX7_pairsPutBack 24 = .ok (.ior, 1) := by decide +kernel
theorem dX7_pairsPutBack_25 : decode cX7_pairsPutBack 25 = .ok (.istore_n 1, 1) := by decide +kernel
theorem dX7_pairsPutBack_26 : decode cX7_pairsPutBack 26 = .ok (.iinc 2 1, 3) := by decide +kernel
theorem dX7_pairsPutBack_29 : decode cX7_pairsPutBack 29 = .ok (.goto (-25), 3) := by decide +kernel
theorem dX7_pairsPutBack_32 : decode cX7_pairsPutBack 32 = .ok (.iload_n 1, 1) := by decide +kernel
theorem dX7_pairsPutBack_33 : decode cX7_pairsPutBack 33 = .ok (.ireturn, 1) := by decide +kernel
theorem dX7_fitsPutBack_0 : decode cX7_fitsPutBack 0 = .ok (.iconst 0, 1) := by decide +kernel
theorem dX7_fitsPutBack_1 : decode cX7_fitsPutBack 1 = .ok (.istore_n 2, 1) := by decide +kernel
theorem dX7_fitsPutBack_2 : decode cX7_fitsPutBack 2 = .ok (.iload_n 2, 1) := by decide +kernel
theorem dX7_fitsPutBack_3 : decode cX7_fitsPutBack 3 = .ok (.aload_n 0, 1) := by decide +kernel
theorem dX7_fitsPutBack_4 : decode cX7_fitsPutBack 4 = .ok (.getfield 19, 3) := by decide +kernel
theorem dX7_fitsPutBack_7 : decode cX7_fitsPutBack 7 = .ok (.if_icmp .ge 52, 3) := by decide +kernel
theorem dX7_fitsPutBack_10 : decode cX7_fitsPutBack 10 = .ok (.aload_n 0, 1) := by decide +kernel
theorem dX7_fitsPutBack_11 : decode cX7_fitsPutBack 11 = .ok (.getfield 25, 3) := by decide +kernel
theorem dX7_fitsPutBack_14 : decode cX7_fitsPutBack 14 = .ok (.iload_n 2, 1) := by decide +kernel
theorem dX7_fitsPutBack_15 : decode cX7_fitsPutBack 15 = .ok (.iaload, 1) := by decide +kernel
theorem dX7_fitsPutBack_16 : decode cX7_fitsPutBack 16 = .ok (.istore_n 3, 1) := by decide +kernel
theorem dX7_fitsPutBack_17 : decode cX7_fitsPutBack 17 = .ok (.iload_n 3, 1) := by decide +kernel
theorem dX7_fitsPutBack_18 : decode cX7_fitsPutBack 18 = .ok (.iload_n 1, 1) := by decide +kernel
theorem dX7_fitsPutBack_19 : decode cX7_fitsPutBack 19 = .ok (.if_icmp .ne 7, 3) := by decide +kernel
theorem dX7_fitsPutBack_22 : decode cX7_fitsPutBack 22 = .ok (.iconst 1, 1) := by decide +kernel
theorem dX7_fitsPutBack_23 : decode cX7_fitsPutBack 23 = .ok (.goto 4, 3) := by decide +kernel
theorem dX7_fitsPutBack_26 : decode cX7_fitsPutBack 26 = .ok (.iconst 0, 1) := by decide +kernel
theorem dX7_fitsPutBack_27 : decode cX7_fitsPutBack 27 = .ok (.istore 4, 2) := by decide +kernel
theorem dX7_fitsPutBack_29 : decode cX7_fitsPutBack 29 = .ok (.aload_n 0, 1) := by decide +kernel
theorem dX7_fitsPutBack_30 : decode cX7_fitsPutBack 30 = .ok (.iload_n 3, 1) := by decide +kernel
theorem dX7_fitsPutBack_31 : decode cX7_fitsPutBack 31 = .ok (.aload_n 0, 1) := by decide +kernel
theorem dX7_fitsPutBack_32 : decode cX7_fitsPutBack 32 = .ok (.getfield 31, 3) := by decide +kernel
theorem dX7_fitsPutBack_35 : decode cX7_fitsPutBack 35 = .ok (.iload_n 2, 1) := by decide +kernel
theorem dX7_fitsPutBack_36 : decode cX7_fitsPutBack 36 = .ok (.iaload, 1) := by decide +kernel
theorem dX7_fitsPutBack_37 : decode cX7_fitsPutBack 37 = .ok (.iload 4, 2) := by decide +kernel
theorem dX7_fitsPutBack_39 : decode cX7_fitsPutBack 39 = .ok (.invokestatic 90, 3) := by decide +kernel
theorem dX7_fitsPutBack_42 : decode cX7_fitsPutBack 42 = .ok (.aload_n 0, 1) := by decide +kernel
theorem dX7_fitsPutBack_43 : decode cX7_fitsPutBack 43 = .ok (.getfield 41, 3) := by decide +kernel
theorem dX7_fitsPutBack_46 : decode cX7_fitsPutBack 46 = .ok (.iload_n 2, 1) := by decide +kernel
theorem dX7_fitsPutBack_47 : decode cX7_fitsPutBack 47 = .ok (.iaload, 1) := by decide +kernel
theorem dX7_fitsPutBack_48 : decode cX7_fitsPutBack 48 = .ok (.if_icmp .eq 5, 3) := by decide +kernel
theorem dX7_fitsPutBack_51 : decode cX7_fitsPutBack 51 = .ok (.iconst 0, 1) := by decide +kernel
theorem dX7_fitsPutBack_52 : decode cX7_fitsPutBack 52 = .ok (.ireturn, 1) := by decide +kernel
theorem dX7_fitsPutBack_53 : decode cX7_fitsPutBack 53 = .ok (.iinc 2 1, 3) := by decide +kernel
theorem dX7_fitsPutBack_56 : decode cX7_fitsPutBack 56 = .ok (.goto (-54), 3) := by decide +kernel
theorem dX7_fitsPutBack_59 : decode cX7_fitsPutBack 59 = .ok (.iconst 1, 1) := by decide +kernel
theorem dX7_fitsPutBack_60 : decode cX7_fitsPutBack 60 = .ok (.ireturn, 1) := by decide +kernel
theorem dX7_leftWithMore_0 : decode cX7_leftWithMore 0 = .ok (.aload_n 0, 1) := by decide +kernel
theorem dX7_leftWithMore_1 : decode cX7_leftWithMore 1 = .ok (.getfield 28, 3) := by decide +kernel
theorem dX7_leftWithMore_4 : decode cX7_leftWithMore 4 = .ok (.iload_n 1, 1) := by decide +kernel
theorem dX7_leftWithMore_5 : decode cX7_leftWithMore 5 = .ok (.iaload, 1) := by decide +kernel
theorem dX7_leftWithMore_6 : decode cX7_leftWithMore 6 = .ok (.istore 4, 2) := by decide +kernel
theorem dX7_leftWithMore_8 : decode cX7_leftWithMore 8 = .ok (.iconst 0, 1) := by decide +kernel
theorem dX7_leftWithMore_9 : decode cX7_leftWithMore 9 = .ok (.istore 5, 2) := by decide +kernel
theorem dX7_leftWithMore_11 : decode cX7_leftWithMore 11 = .ok (.iload 5, 2) := by decide +kernel
theorem dX7_leftWithMore_13 : decode cX7_leftWithMore 13 = .ok (.iload_n 2, 1) := by decide +kernel
theorem dX7_leftWithMore_14 : decode cX7_leftWithMore 14 = .ok (.if_icmp .ge 32, 3) := by decide +kernel
theorem dX7_leftWithMore_17 : decode cX7_leftWithMore 17 = .ok (.iload 4, 2) := by decide +kernel
theorem dX7_leftWithMore_19 : decode cX7_leftWithMore 19 = .ok (.ifCond .le 27, 3) := by decide +kernel
theorem dX7_leftWithMore_22 : decode cX7_leftWithMore 22 = .ok (.aload_n 0, 1) := by decide +kernel
theorem dX7_leftWithMore_23 : decode cX7_leftWithMore 23 = .ok (.bipush 60, 2) := by decide +kernel
theorem dX7_leftWithMore_25 : decode cX7_leftWithMore 25 = .ok (.iload 4, 2) := by decide +kernel
theorem dX7_leftWithMore_27 : decode cX7_leftWithMore 27 = .ok (.iload_n 3, 1) := by decide +kernel
theorem dX7_leftWithMore_28 : decode cX7_leftWithMore 28 = .ok (.iadd, 1) := by decide +kernel
theorem dX7_leftWithMore_29 : decode cX7_leftWithMore 29 = .ok (.invokestatic 94, 3) := by decide +kernel
theorem dX7_leftWithMore_32 : decode cX7_leftWithMore 32 = .ok (.iload_n 1, 1) := by decide +kernel
theorem dX7_leftWithMore_33 : decode cX7_leftWithMore 33 = .ok (.iload 5, 2) := by decide +kernel
theorem dX7_leftWithMore_35 : decode cX7_leftWithMore 35 = .ok (.invokevirtual 97, 3) := by decide +kernel
theorem dX7_leftWithMore_38 : decode cX7_leftWithMore 38 = .ok (.istore 4, 2) := by decide +kernel
theorem dX7_leftWithMore_40 : decode cX7_leftWithMore 40 = .ok (.iinc 5 1, 3) := by decide +kernel
theorem dX7_leftWithMore_43 : decode cX7_leftWithMore 43 = .ok (.goto (-32), 3) := by decide +kernel
theorem dX7_leftWithMore_46 : decode cX7_leftWithMore 46 = .ok (.iload 4, 2) := by decide +kernel
theorem dX7_leftWithMore_48 : decode cX7_leftWithMore 48 = .ok (.ireturn, 1) := by decide +kernel
theorem dX8_init_0 : decode cX8_init 0 = .ok (.aload_n 0, 1) := by decide +kernel
theorem dX8_init_1 : decode cX8_init 1 = .ok (.invokespecial 3, 3) := by decide +kernel
theorem dX8_init_4 : decode cX8_init 4 = .ok (.aload_n 0, 1) := by decide +kernel
theorem dX8_init_5 : decode cX8_init 5 = .ok (.iconst 0, 1) := by decide +kernel
theorem dX8_init_6 : decode cX8_init 6 = .ok (.putfield 9, 3) := by decide +kernel
theorem dX8_init_9 : decode cX8_init 9 = .ok (.aload_n 0, 1) := by decide +kernel
theorem dX8_init_10 : decode cX8_init 10 = .ok (.iconst 0, 1) := by decide +kernel
theorem dX8_init_11 : decode cX8_init 11 = .ok (.putfield 15, 3) := by decide +kernel
theorem dX8_init_14 : decode cX8_init 14 = .ok (.aload_n 0, 1) := by decide +kernel
theorem dX8_init_15 : decode cX8_init 15 = .ok (.iconst 0, 1) := by decide +kernel
theorem dX8_init_16 : decode cX8_init 16 = .ok (.putfield 18, 3) := by decide +kernel
theorem dX8_init_19 : decode cX8_init 19 = .ok (.aload_n 0, 1) := by decide +kernel
theorem dX8_init_20 : decode cX8_init 20 = .ok (.iconst 0, 1) := by decide +kernel
theorem dX8_init_21 : decode cX8_init 21 = .ok (.putfield 21, 3) := by decide +kernel
theorem dX8_init_24 : decode cX8_init 24 = .ok (.aload_n 0, 1) := by decide +kernel
theorem dX8_init_25 : decode cX8_init 25 = .ok (.iconst 0, 1) := by decide +kernel
theorem dX8_init_26 : decode cX8_init 26 = .ok (.putfield 24, 3) := by decide +kernel
theorem dX8_init_29 : decode cX8_init 29 = .ok (.aload_n 0, 1) := by decide +kernel
theorem dX8_init_30 : decode cX8_init 30 = .ok (.iconst 0, 1) := by decide +kernel
theorem dX8_init_31 : decode cX8_init 31 = .ok (.putfield 27, 3) := by decide +kernel
theorem dX8_init_34 : decode cX8_init 34 = .ok (.aload_n 0, 1) := by decide +kernel
theorem dX8_init_35 : decode cX8_init 35 = .ok (.bipush 6, 2) := by decide +kernel
theorem dX8_init_37 : decode cX8_init 37 = .ok (.newarray .int, 2) := by decide +kernel
theorem dX8_init_39 : decode cX8_init 39 = .ok (.putfield 30, 3) := by decide +kernel
theorem dX8_init_42 : decode cX8_init 42 = .ok (.aload_n 0, 1) := by decide +kernel
theorem dX8_init_43 : decode cX8_init 43 = .ok (.bipush 6, 2) := by decide +kernel
theorem dX8_init_45 : decode cX8_init 45 = .ok (.newarray .int, 2) := by decide +kernel
theorem dX8_init_47 : decode cX8_init 47 = .ok (.putfield 34, 3) := by decide +kernel
theorem dX8_init_50 : decode cX8_init 50 = .ok (.aload_n 0, 1) := by decide +kernel
theorem dX8_init_51 : decode cX8_init 51 = .ok (.bipush 6, 2) := by decide +kernel
theorem dX8_init_53 : decode cX8_init 53 = .ok (.newarray .int, 2) := by decide +kernel
theorem dX8_init_55 : decode cX8_init 55 = .ok (.putfield 37, 3) := by decide +kernel
theorem dX8_init_58 : decode cX8_init 58 = .ok (.aload_n 0, 1) := by decide +kernel
theorem dX8_init_59 : decode cX8_init 59 = .ok (.bipush 6, 2) := by decide +kernel
theorem dX8_init_61 : decode cX8_init 61 = .ok (.newarray .int, 2) := by decide +kernel
theorem dX8_init_63 : decode cX8_init 63 = .ok (.putfield 40, 3) := by decide +kernel
theorem dX8_init_66 : decode cX8_init 66 = .ok (.aload_n 0, 1) := by decide +kernel
theorem dX8_init_67 : decode cX8_init 67 = .ok (.bipush 8, 2) := by decide +kernel
theorem dX8_init_69 : decode cX8_init 69 = .ok (.newarray .int, 2) := by decide +kernel
theorem dX8_init_71 : decode cX8_init 71 = .ok (.putfield 43, 3) := by decide +kernel
theorem dX8_init_74 : decode cX8_init 74 = .ok (.aload_n 0, 1) := by decide +kernel
theorem dX8_init_75 : decode cX8_init 75 = .ok (.bipush 8, 2) := by decide +kernel
theorem dX8_init_77 : decode cX8_init 77 = .ok (.newarray .int, 2) := by decide +kernel
theorem dX8_init_79 : decode cX8_init 79 = .ok (.putfield 46, 3) := by decide +kernel
theorem dX8_init_82 : decode cX8_init 82 = .ok (.aload_n 0, 1) := by decide +kernel
theorem dX8_init_83 : decode cX8_init 83 = .ok (.bipush 8, 2) := by decide +kernel
theorem dX8_init_85 : decode cX8_init 85 = .ok (.newarray .int, 2) := by decide +kernel
theorem dX8_init_87 : decode cX8_init 87 = .ok (.putfield 49, 3) := by decide +kernel
theorem dX8_init_90 : decode cX8_init 90 = .ok (.aload_n 0, 1) := by decide +kernel
theorem dX8_init_91 : decode cX8_init 91 = .ok (.bipush 8, 2) := by decide +kernel
theorem dX8_init_93 : decode cX8_init 93 = .ok (.newarray .int, 2) := by decide +kernel
theorem dX8_init_95 : decode cX8_init 95 = .ok (.putfield 52, 3) := by decide +kernel
theorem dX8_init_98 : decode cX8_init 98 = .ok (.aload_n 0, 1) := by decide +kernel
theorem dX8_init_99 : decode cX8_init 99 = .ok (.new 55, 3) := by decide +kernel
theorem dX8_init_102 : decode cX8_init 102 = .ok (.dup, 1) := by decide +kernel
theorem dX8_init_103 : decode cX8_init 103 = .ok (.invokespecial 57, 3) := by decide +kernel
theorem dX8_init_106 : decode cX8_init 106 = .ok (.putfield 58, 3) := by decide +kernel
theorem dX8_init_109 : decode cX8_init 109 = .ok (.return_, 1) := by decide +kernel
theorem dX8_begin_0 : decode cX8_begin 0 = .ok (.aload_n 0, 1) := by decide +kernel
theorem dX8_begin_1 : decode cX8_begin 1 = .ok (.iconst 0, 1) := by decide +kernel
theorem dX8_begin_2 : decode cX8_begin 2 = .ok (.putfield 9, 3) := by decide +kernel
theorem dX8_begin_5 : decode cX8_begin 5 = .ok (.aload_n 0, 1) := by decide +kernel
theorem dX8_begin_6 : decode cX8_begin 6 = .ok (.iconst 0, 1) := by decide +kernel
theorem dX8_begin_7 : decode cX8_begin 7 = .ok (.putfield 15, 3) := by decide +kernel
theorem dX8_begin_10 : decode cX8_begin 10 = .ok (.aload_n 0, 1) := by decide +kernel
theorem dX8_begin_11 : decode cX8_begin 11 = .ok (.iconst 0, 1) := by decide +kernel
theorem dX8_begin_12 : decode cX8_begin 12 = .ok (.putfield 18, 3) := by decide +kernel
theorem dX8_begin_15 : decode cX8_begin 15 = .ok (.aload_n 0, 1) := by decide +kernel
theorem dX8_begin_16 : decode cX8_begin 16 = .ok (.iconst 0, 1) := by decide +kernel
theorem dX8_begin_17 : decode cX8_begin 17 = .ok (.putfield 21, 3) := by decide +kernel
theorem dX8_begin_20 : decode cX8_begin 20 = .ok (.aload_n 0, 1) := by decide +kernel
theorem dX8_begin_21 : decode cX8_begin 21 = .ok (.iconst 0, 1) := by decide +kernel
theorem dX8_begin_22 : decode cX8_begin 22 = .ok (.putfield 24, 3) := by decide +kernel
theorem dX8_begin_25 : decode cX8_begin 25 = .ok (.aload_n 0, 1) := by decide +kernel
theorem dX8_begin_26 : decode cX8_begin 26 = .ok (.iconst 0, 1) := by decide +kernel
theorem dX8_begin_27 : decode cX8_begin 27 = .ok (.putfield 27, 3) := by decide +kernel
theorem dX8_begin_30 : decode cX8_begin 30 = .ok (.aload_n 0, 1) := by decide +kernel
theorem dX8_begin_31 : decode cX8_begin 31 = .ok (.getfield 58, 3) := by decide +kernel
theorem dX8_begin_34 : decode cX8_begin 34 = .ok (.iconst 0, 1) := by decide +kernel
theorem dX8_begin_35 : decode cX8_begin 35 = .ok (.putfield 62, 3) := by decide +kernel
theorem dX8_begin_38 : decode cX8_begin 38 = .ok (.return_, 1) := by decide +kernel
theorem dX8_copy_0 : decode cX8_copy 0 = .ok (.aload_n 0, 1) := by decide +kernel
theorem dX8_copy_1 : decode cX8_copy 1 = .ok (.aload_n 1, 1) := by decide +kernel
theorem dX8_copy_2 : decode cX8_copy 2 = .ok (.getfield 9, 3) := by decide +kernel
theorem dX8_copy_5 : decode cX8_copy 5 = .ok (.putfield 9, 3) := by decide +kernel
theorem dX8_copy_8 : decode cX8_copy 8 = .ok (.aload_n 0, 1) := by decide +kernel
theorem dX8_copy_9 : decode cX8_copy 9 = .ok (.aload_n 1, 1) := by decide +kernel
theorem dX8_copy_10 : decode cX8_copy 10 = .ok (.getfield 15, 3) := by decide +kernel
theorem dX8_copy_13 : decode cX8_copy 13 = .ok (.putfield 15, 3) := by decide +kernel
theorem dX8_copy_16 : decode cX8_copy 16 = .ok (.aload_n 0, 1) := by decide +kernel
theorem dX8_copy_17 : decode cX8_copy 17 = .ok (.aload_n 1, 1) := by decide +kernel
theorem dX8_copy_18 : decode cX8_copy 18 = .ok (.getfield 18, 3) := by decide +kernel
theorem dX8_copy_21 : decode cX8_copy 21 = .ok (.putfield 18, 3) := by decide +kernel
theorem dX8_copy_24 : decode cX8_copy 24 = .ok (.aload_n 0, 1) := by decide +kernel
theorem dX8_copy_25 : decode cX8_copy 25 = .ok (.aload_n 1, 1) := by decide +kernel
theorem dX8_copy_26 : decode cX8_copy 26 = .ok (.getfield 21, 3) := by decide +kernel
theorem dX8_copy_29 : decode cX8_copy 29 = .ok (.putfield 21, 3) := by decide +kernel
theorem dX8_copy_32 : decode cX8_copy 32 = .ok (.aload_n 0, 1) := by decide +kernel
theorem dX8_copy_33 : decode cX8_copy 33 = .ok (.aload_n 1, 1) := by decide +kernel
theorem dX8_copy_34 : decode cX8_copy 34 = .ok (.getfield 24, 3) := by decide +kernel
theorem dX8_copy_37 : decode cX8_copy 37 = .ok (.putfield 24, 3) := by decide +kernel
theorem dX8_copy_40 : decode cX8_copy 40 = .ok (.aload_n 0, 1) := by decide +kernel
theorem dX8_copy_41 : decode cX8_copy 41 = .ok (.aload_n 1, 1) := by decide +kernel
theorem dX8_copy_42 : decode cX8_copy 42 = .ok (.getfield 27, 3) := by decide +kernel
theorem dX8_copy_45 : decode cX8_copy 45 = .ok (.putfield 27, 3) := by decide +kernel
theorem dX8_copy_48 : decode cX8_copy 48 = .ok (.aload_n 1, 1) := by decide +kernel
theorem dX8_copy_49 : decode cX8_copy 49 = .ok (.getfield 30, 3) := by decide +kernel
theorem dX8_copy_52 : decode cX8_copy 52 = .ok (.iconst 0, 1) := by decide +kernel
theorem dX8_copy_53 : decode cX8_copy 53 = .ok (.aload_n 0, 1) := by decide +kernel
theorem dX8_copy_54 : decode cX8_copy 54 = .ok (.getfield 30, 3) := by decide +kernel
theorem dX8_copy_57 : decode cX8_copy 57 = .ok (.iconst 0, 1) := by decide +kernel
theorem dX8_copy_58 : decode cX8_copy 58 = .ok (.bipush 6, 2) := by decide +kernel
theorem dX8_copy_60 : decode cX8_copy 60 = .ok (.invokestatic 65, 3) := by decide +kernel
theorem dX8_copy_63 : decode cX8_copy 63 = .ok (.aload_n 1, 1) := by decide +kernel
theorem dX8_copy_64 : decode cX8_copy 64 = .ok (.getfield 34, 3) := by decide +kernel
theorem dX8_copy_67 : decode cX8_copy 67 = .ok (.iconst 0, 1) := by decide +kernel
theorem dX8_copy_68 : decode cX8_copy 68 = .ok (.aload_n 0, 1) := by decide +kernel
theorem dX8_copy_69 : decode cX8_copy 69 = .ok (.getfield 34, 3) := by decide +kernel
theorem dX8_copy_72 : decode cX8_copy 72 = .ok (.iconst 0, 1) := by decide +kernel
theorem dX8_copy_73 : decode cX8_copy 73 = .ok (.bipush 6, 2) := by decide +kernel
theorem dX8_copy_75 : decode cX8_copy 75 = .ok (.invokestatic 65, 3) := by decide +kernel
theorem dX8_copy_78 : decode cX8_copy 78 = .ok (.aload_n 1, 1) := by decide +kernel
theorem dX8_copy_79 : decode cX8_copy 79 = .ok (.getfield 37, 3) := by decide +kernel
theorem dX8_copy_82 : decode cX8_copy 82 = .ok (.iconst 0, 1) := by decide +kernel
theorem dX8_copy_83 : decode cX8_copy 83 = .ok (.aload_n 0, 1) := by decide +kernel
theorem dX8_copy_84 : decode cX8_copy 84 = .ok (.getfield 37, 3) := by decide +kernel
theorem dX8_copy_87 : decode cX8_copy 87 = .ok (.iconst 0, 1) := by decide +kernel
theorem dX8_copy_88 : decode cX8_copy 88 = .ok (.bipush 6, 2) := by decide +kernel
theorem dX8_copy_90 : decode cX8_copy 90 = .ok (.invokestatic 65, 3) := by decide +kernel
theorem dX8_copy_93 : decode cX8_copy 93 = .ok (.aload_n 1, 1) := by decide +kernel
theorem dX8_copy_94 : decode cX8_copy 94 = .ok (.getfield 40, 3) := by decide +kernel
theorem dX8_copy_97 : decode cX8_copy 97 = .ok (.iconst 0, 1) := by decide +kernel
theorem dX8_copy_98 : decode cX8_copy 98 = .ok (.aload_n 0, 1) := by decide +kernel
theorem dX8_copy_99 : decode cX8_copy 99 = .ok (.getfield 40, 3) := by decide +kernel
theorem dX8_copy_102 : decode cX8_copy 102 = .ok (.iconst 0, 1) := by decide +kernel
theorem dX8_copy_103 : decode cX8_copy 103 = .ok (.bipush 6, 2) := by decide +kernel
theorem dX8_copy_105 : decode cX8_copy 105 = .ok (.invokestatic 65, 3) := by decide +kernel
theorem dX8_copy_108 : decode cX8_copy 108 = .ok (.aload_n 1, 1) := by decide +kernel
theorem dX8_copy_109 : decode cX8_copy 109 = .ok (.getfield 43, 3) := by decide +kernel
theorem dX8_copy_112 : decode cX8_copy 112 = .ok (.iconst 0, 1) := by decide +kernel
theorem dX8_copy_113 : decode cX8_copy 113 = .ok (.aload_n 0, 1) := by decide +kernel
theorem dX8_copy_114 : decode cX8_copy 114 = .ok (.getfield 43, 3) := by decide +kernel
theorem dX8_copy_117 : decode cX8_copy 117 = .ok (.iconst 0, 1) := by decide +kernel
theorem dX8_copy_118 : decode cX8_copy 118 = .ok (.bipush 8, 2) := by decide +kernel
theorem dX8_copy_120 : decode cX8_copy 120 = .ok (.invokestatic 65, 3) := by decide +kernel
theorem dX8_copy_123 : decode cX8_copy 123 = .ok (.aload_n 1, 1) := by decide +kernel
theorem dX8_copy_124 : decode cX8_copy 124 = .ok (.getfield 46, 3) := by decide +kernel
theorem dX8_copy_127 : decode cX8_copy 127 = .ok (.iconst 0, 1) := by decide +kernel
theorem dX8_copy_128 : decode cX8_copy 128 = .ok (.aload_n 0, 1) := by decide +kernel
theorem dX8_copy_129 : decode cX8_copy 129 = .ok (.getfield 46, 3) := by decide +kernel
theorem dX8_copy_132 : decode cX8_copy 132 = .ok (.iconst 0, 1) := by decide +kernel
theorem dX8_copy_133 : decode cX8_copy 133 = .ok (.bipush 8, 2) := by decide +kernel
theorem dX8_copy_135 : decode cX8_copy 135 = .ok (.invokestatic 65, 3) := by decide +kernel
theorem dX8_copy_138 : decode cX8_copy 138 = .ok (.aload_n 1, 1) := by decide +kernel
theorem dX8_copy_139 : decode cX8_copy 139 = .ok (.getfield 49, 3) := by decide +kernel
theorem dX8_copy_142 : decode cX8_copy 142 = .ok (.iconst 0, 1) := by decide +kernel
theorem dX8_copy_143 : decode cX8_copy 143 = .ok (.aload_n 0, 1) := by decide +kernel
theorem dX8_copy_144 : decode cX8_copy 144 = .ok (.getfield 49, 3) := by decide +kernel
theorem dX8_copy_147 : decode cX8_copy 147 = .ok (.iconst 0, 1) := by decide +kernel
theorem dX8_copy_148 : decode cX8_copy 148 = .ok (.bipush 8, 2) := by decide +kernel
theorem dX8_copy_150 : decode cX8_copy 150 = .ok (.invokestatic 65, 3) := by decide +kernel
theorem dX8_copy_153 : decode cX8_copy 153 = .ok (.aload_n 1, 1) := by decide +kernel
theorem dX8_copy_154 : decode cX8_copy 154 = .ok (.getfield 52, 3) := by decide +kernel
theorem dX8_copy_157 : decode cX8_copy 157 = .ok (.iconst 0, 1) := by decide +kernel
theorem dX8_copy_158 : decode cX8_copy 158 = .ok (.aload_n 0, 1) := by decide +kernel
theorem dX8_copy_159 : decode cX8_copy 159 = .ok (.getfield 52, 3) := by decide +kernel
theorem dX8_copy_162 : decode cX8_copy 162 = .ok (.iconst 0, 1) := by decide +kernel
theorem dX8_copy_163 : decode cX8_copy 163 = .ok (.bipush 8, 2) := by decide +kernel
theorem dX8_copy_165 : decode cX8_copy 165 = .ok (.invokestatic 65, 3) := by decide +kernel
theorem dX8_copy_168 : decode cX8_copy 168 = .ok (.aload_n 0, 1) := by decide +kernel
theorem dX8_copy_169 : decode cX8_copy 169 = .ok (.getfield 58, 3) := by decide +kernel
theorem dX8_copy_172 : decode cX8_copy 172 = .ok (.aload_n 1, 1) := by decide +kernel
theorem dX8_copy_173 : decode cX8_copy 173 = .ok (.getfield 58, 3) := by decide +kernel
theorem dX8_copy_176 : decode cX8_copy 176 = .ok (.invokevirtual 71, 3) := by decide +kernel
theorem dX8_copy_179 : decode cX8_copy 179 = .ok (.return_, 1) := by decide +kernel
theorem dX8_hasPair_0 : decode cX8_hasPair 0 = .ok (.iload_n 1, 1) := by decide +kernel
theorem dX8_hasPair_1 : decode cX8_hasPair 1 = .ok (.ifCond .lt 15, 3) := by decide +kernel
theorem dX8_hasPair_4 : decode cX8_hasPair 4 = .ok (.iload_n 1, 1) := by decide +kernel
theorem dX8_hasPair_5 : decode cX8_hasPair 5 = .ok (.aload_n 0, 1) := by decide +kernel
theorem dX8_hasPair_6 : decode cX8_hasPair 6 = .ok (.getfield 21, 3) := by decide +kernel
theorem dX8_hasPair_9 : decode cX8_hasPair 9 = .ok (.if_icmp .ge 7, 3) := by decide +kernel
theorem dX8_hasPair_12 : decode cX8_hasPair 12 = .ok (.iconst 1, 1) := by decide +kernel
theorem dX8_hasPair_13 : decode cX8_hasPair 13 = .ok (.goto 4, 3) := by decide +kernel
theorem dX8_hasPair_16 : decode cX8_hasPair 16 = .ok (.iconst 0, 1) := by decide +kernel
theorem dX8_hasPair_17 : decode cX8_hasPair 17 = .ok (.ireturn, 1) := by decide +kernel
theorem dX8_addPair_0 : decode cX8_addPair 0 = .ok (.aload_n 0, 1) := by decide +kernel
theorem dX8_addPair_1 : decode cX8_addPair 1 = .ok (.getfield 21, 3) := by decide +kernel
theorem dX8_addPair_4 : decode cX8_addPair 4 = .ok (.bipush 6, 2) := by decide +kernel
theorem dX8_addPair_6 : decode cX8_addPair 6 = .ok (.if_icmp .lt 6, 3) := by decide +kernel
theorem dX8_addPair_9 : decode cX8_addPair 9 = .ok (.bipush (-4), 2) := by decide +kernel
theorem dX8_addPair_11 : decode cX8_addPair 11 = .ok (.ireturn, 1) := by decide +kernel
theorem dX8_addPair_12 : decode cX8_addPair 12 = .ok (.aload_n 0, 1) := by decide +kernel
theorem dX8_addPair_13 : decode cX8_addPair 13 = .ok (.getfield 30, 3) := by decide +kernel
theorem dX8_addPair_16 : decode cX8_addPair 16 = .ok (.aload_n 0, 1) := by decide +kernel
theorem dX8_addPair_17 : decode cX8_addPair 17 = .ok (.getfield 21, 3) := by decide +kernel
theorem dX8_addPair_20 : decode cX8_addPair 20 = .ok (.iload_n 1, 1) := by decide +kernel
theorem dX8_addPair_21 : decode cX8_addPair 21 = .ok (.iastore, 1) := by decide +kernel
theorem dX8_addPair_22 : decode cX8_addPair 22 = .ok (.aload_n 0, 1) := by decide +kernel
theorem dX8_addPair_23 : decode cX8_addPair 23 = .ok (.getfield 34, 3) := by decide +kernel
theorem dX8_addPair_26 : decode cX8_addPair 26 = .ok (.aload_n 0, 1) := by decide +kernel
theorem dX8_addPair_27 : decode cX8_addPair 27 = .ok (.getfield 21, 3) := by decide +kernel
theorem dX8_addPair_30 : decode cX8_addPair 30 = .ok (.iload_n 2, 1) := by decide +kernel
theorem dX8_addPair_31 : decode cX8_addPair 31 = .ok (.iastore, 1) := by decide +kernel
theorem dX8_addPair_32 : decode cX8_addPair 32 = .ok (.aload_n 0, 1) := by decide +kernel
theorem dX8_addPair_33 : decode cX8_addPair 33 = .ok (.getfield 37, 3) := by decide +kernel
theorem dX8_addPair_36 : decode cX8_addPair 36 = .ok (.aload_n 0, 1) := by decide +kernel
theorem dX8_addPair_37 : decode cX8_addPair 37 = .ok (.getfield 21, 3) := by decide +kernel
theorem dX8_addPair_40 : decode cX8_addPair 40 = .ok (.aload_n 0, 1) := by decide +kernel
theorem dX8_addPair_41 : decode cX8_addPair 41 = .ok (.getfield 9, 3) := by decide +kernel
theorem dX8_addPair_44 : decode cX8_addPair 44 = .ok (.iastore, 1) := by decide +kernel
theorem dX8_addPair_45 : decode cX8_addPair 45 = .ok (.aload_n 0, 1) := by decide +kernel
theorem dX8_addPair_46 : decode cX8_addPair 46 = .ok (.getfield 40, 3) := by decide +kernel
theorem dX8_addPair_49 : decode cX8_addPair 49 = .ok (.aload_n 0, 1) := by decide +kernel
theorem dX8_addPair_50 : decode cX8_addPair 50 = .ok (.getfield 21, 3) := by decide +kernel
theorem dX8_addPair_53 : decode cX8_addPair 53 = .ok (.iconst (-1), 1) := by decide +kernel
theorem dX8_addPair_54 : decode cX8_addPair 54 = .ok (.iastore, 1) := by decide +kernel
theorem dX8_addPair_55 : decode cX8_addPair 55 = .ok (.aload_n 0, 1) := by decide +kernel
theorem dX8_addPair_56 : decode cX8_addPair 56 = .ok (.getfield 58, 3) := by decide +kernel
theorem dX8_addPair_59 : decode cX8_addPair 59 = .ok (.iconst 0, 1) := by decide +kernel
theorem dX8_addPair_60 : decode cX8_addPair 60 = .ok (.putfield 62, 3) := by decide +kernel
theorem dX8_addPair_63 : decode cX8_addPair 63 = .ok (.aload_n 0, 1) := by decide +kernel
theorem dX8_addPair_64 : decode cX8_addPair 64 = .ok (.dup, 1) := by decide +kernel
theorem dX8_addPair_65 : decode cX8_addPair 65 = .ok (.getfield 21, 3) := by decide +kernel
theorem dX8_addPair_68 : decode cX8_addPair 68 = .ok (.dup_x1, 1) := by decide +kernel
theorem dX8_addPair_69 : decode cX8_addPair 69 = .ok (.iconst 1, 1) := by decide +kernel
theorem dX8_addPair_70 : decode cX8_addPair 70 = .ok (.iadd, 1) := by decide +kernel
theorem dX8_addPair_71 : decode cX8_addPair 71 = .ok (.putfield 21, 3) := by decide +kernel
theorem dX8_addPair_74 : decode cX8_addPair 74 = .ok (.ireturn, 1) := by decide +kernel
theorem dX8_addKin_0 : decode cX8_addKin 0 = .ok (.aload_n 0, 1) := by decide +kernel
theorem dX8_addKin_1 : decode cX8_addKin 1 = .ok (.getfield 24, 3) := by decide +kernel
theorem dX8_addKin_4 : decode cX8_addKin 4 = .ok (.bipush 8, 2) := by decide +kernel
theorem dX8_addKin_6 : decode cX8_addKin 6 = .ok (.if_icmp .lt 6, 3) := by decide +kernel
theorem dX8_addKin_9 : decode cX8_addKin 9 = .ok (.bipush (-4), 2) := by decide +kernel
theorem dX8_addKin_11 : decode cX8_addKin 11 = .ok (.ireturn, 1) := by decide +kernel
theorem dX8_addKin_12 : decode cX8_addKin 12 = .ok (.aload_n 0, 1) := by decide +kernel
theorem dX8_addKin_13 : decode cX8_addKin 13 = .ok (.getfield 43, 3) := by decide +kernel
theorem dX8_addKin_16 : decode cX8_addKin 16 = .ok (.aload_n 0, 1) := by decide +kernel
theorem dX8_addKin_17 : decode cX8_addKin 17 = .ok (.getfield 24, 3) := by decide +kernel
theorem dX8_addKin_20 : decode cX8_addKin 20 = .ok (.iload_n 1, 1) := by decide +kernel
theorem dX8_addKin_21 : decode cX8_addKin 21 = .ok (.iastore, 1) := by decide +kernel
theorem dX8_addKin_22 : decode cX8_addKin 22 = .ok (.aload_n 0, 1) := by decide +kernel
theorem dX8_addKin_23 : decode cX8_addKin 23 = .ok (.dup, 1) := by decide +kernel
theorem dX8_addKin_24 : decode cX8_addKin 24 = .ok (.getfield 24, 3) := by decide +kernel
theorem dX8_addKin_27 : decode cX8_addKin 27 = .ok (.dup_x1, 1) := by decide +kernel
theorem dX8_addKin_28 : decode cX8_addKin 28 = .ok (.iconst 1, 1) := by decide +kernel
theorem dX8_addKin_29 : decode cX8_addKin 29 = .ok (.iadd, 1) := by decide +kernel
theorem dX8_addKin_30 : decode cX8_addKin 30 = .ok (.putfield 24, 3) := by decide +kernel
theorem dX8_addKin_33 : decode cX8_addKin 33 = .ok (.ireturn, 1) := by decide +kernel
theorem dX8_addCounted_0 : decode cX8_addCounted 0 = .ok (.aload_n 0, 1) := by decide +kernel
theorem dX8_addCounted_1 : decode cX8_addCounted 1 = .ok (.getfield 27, 3) := by decide +kernel
theorem dX8_addCounted_4 : decode cX8_addCounted 4 = .ok (.bipush 8, 2) := by decide +kernel
theorem dX8_addCounted_6 : decode cX8_addCounted 6 = .ok (.if_icmp .lt 6, 3) := by decide +kernel
theorem dX8_addCounted_9 : decode cX8_addCounted 9 = .ok (.bipush (-4), 2) := by decide +kernel
theorem dX8_addCounted_11 : decode cX8_addCounted 11 = .ok (.ireturn, 1) := by decide +kernel
theorem dX8_addCounted_12 : decode cX8_addCounted 12 = .ok (.aload_n 0, 1) := by decide +kernel
theorem dX8_addCounted_13 : decode cX8_addCounted 13 = .ok (.getfield 46, 3) := by decide +kernel
theorem dX8_addCounted_16 : decode cX8_addCounted 16 = .ok (.aload_n 0, 1) := by decide +kernel
theorem dX8_addCounted_17 : decode cX8_addCounted 17 = .ok (.getfield 27, 3) := by decide +kernel
theorem dX8_addCounted_20 : decode cX8_addCounted 20 = .ok (.iload_n 1, 1) := by decide +kernel
theorem dX8_addCounted_21 : decode cX8_addCounted 21 = .ok (.iastore, 1) := by decide +kernel
theorem dX8_addCounted_22 : decode cX8_addCounted 22 = .ok (.aload_n 0, 1) := by decide +kernel
theorem dX8_addCounted_23 : decode cX8_addCounted 23 = .ok (.getfield 49, 3) := by decide +kernel
theorem dX8_addCounted_26 : decode cX8_addCounted 26 = .ok (.aload_n 0, 1) := by decide +kernel
theorem dX8_addCounted_27 : decode cX8_addCounted 27 = .ok (.getfield 27, 3) := by decide +kernel
theorem dX8_addCounted_30 : decode cX8_addCounted 30 = .ok (.iload_n 2, 1) := by decide +kernel
theorem dX8_addCounted_31 : decode cX8_addCounted 31 = .ok (.iastore, 1) := by decide +kernel
theorem dX8_addCounted_32 : decode cX8_addCounted 32 = .ok (.aload_n 0, 1) := by decide +kernel
theorem dX8_addCounted_33 : decode cX8_addCounted 33 = .ok (.getfield 52, 3) := by decide +kernel
theorem dX8_addCounted_36 : decode cX8_addCounted 36 = .ok (.aload_n 0, 1) := by decide +kernel
theorem dX8_addCounted_37 : decode cX8_addCounted 37 = .ok (.getfield 27, 3) := by decide +kernel
theorem dX8_addCounted_40 : decode cX8_addCounted 40 = .ok (.iload_n 3, 1) := by decide +kernel
theorem dX8_addCounted_41 : decode cX8_addCounted 41 = .ok (.iastore, 1) := by decide +kernel
theorem dX8_addCounted_42 : decode cX8_addCounted 42 = .ok (.aload_n 0, 1) := by decide +kernel
theorem dX8_addCounted_43 : decode cX8_addCounted 43 = .ok (.dup, 1) := by decide +kernel
theorem dX8_addCounted_44 : decode cX8_addCounted 44 = .ok (.getfield 27, 3) := by decide +kernel
theorem dX8_addCounted_47 : decode cX8_addCounted 47 = .ok (.iconst 1, 1) := by decide +kernel
theorem dX8_addCounted_48 : decode cX8_addCounted 48 = .ok (.iadd, 1) := by decide +kernel
theorem dX8_addCounted_49 : decode cX8_addCounted 49 = .ok (.dup_x1, 1) := by decide +kernel
theorem dX8_addCounted_50 : decode cX8_addCounted 50 = .ok (.putfield 27, 3) := by decide +kernel
theorem dX8_addCounted_53 : decode cX8_addCounted 53 = .ok (.ireturn, 1) := by decide +kernel
theorem dX8_passYear_0 : decode cX8_passYear 0 = .ok (.aload_n 0, 1) := by decide +kernel
theorem dX8_passYear_1 : decode cX8_passYear 1 = .ok (.getfield 58, 3) := by decide +kernel
theorem dX8_passYear_4 : decode cX8_passYear 4 = .ok (.aload_n 0, 1) := by decide +kernel
theorem dX8_passYear_5 : decode cX8_passYear 5 = .ok (.getfield 9, 3) := by decide +kernel
theorem dX8_passYear_8 : decode cX8_passYear 8 = .ok (.aload_n 0, 1) := by decide +kernel
theorem dX8_passYear_9 : decode cX8_passYear 9 = .ok (.getfield 34, 3) := by decide +kernel
theorem dX8_passYear_12 : decode cX8_passYear 12 = .ok (.aload_n 0, 1) := by decide +kernel
theorem dX8_passYear_13 : decode cX8_passYear 13 = .ok (.getfield 40, 3) := by decide +kernel
theorem dX8_passYear_16 : decode cX8_passYear 16 = .ok (.invokevirtual 75, 3) := by decide +kernel
theorem dX8_passYear_19 : decode cX8_passYear 19 = .ok (.iconst 0, 1) := by decide +kernel
theorem dX8_passYear_20 : decode cX8_passYear 20 = .ok (.istore_n 1, 1) := by decide +kernel
theorem dX8_passYear_21 : decode cX8_passYear 21 = .ok (.iconst 0, 1) := by decide +kernel
theorem dX8_passYear_22 : decode cX8_passYear 22 = .ok (.istore_n 2, 1) := by decide +kernel
theorem dX8_passYear_23 : decode cX8_passYear 23 = .ok (.iload_n 2, 1) := by decide +kernel
theorem dX8_passYear_24 : decode cX8_passYear 24 = .ok (.aload_n 0, 1) := by decide +kernel
theorem dX8_passYear_25 : decode cX8_passYear 25 = .ok (.getfield 21, 3) := by decide +kernel
theorem dX8_passYear_28 : decode cX8_passYear 28 = .ok (.if_icmp .ge 76, 3) := by decide +kernel
theorem dX8_passYear_31 : decode cX8_passYear 31 = .ok (.aload_n 0, 1) := by decide +kernel
theorem dX8_passYear_32 : decode cX8_passYear 32 = .ok (.getfield 34, 3) := by decide +kernel
theorem dX8_passYear_35 : decode cX8_passYear 35 = .ok (.iload_n 2, 1) := by decide +kernel
theorem dX8_passYear_36 : decode cX8_passYear 36 = .ok (.iaload, 1) := by decide +kernel
theorem dX8_passYear_37 : decode cX8_passYear 37 = .ok (.ifCond .le 61, 3) := by decide +kernel
theorem dX8_passYear_40 : decode cX8_passYear 40 = .ok (.aload_n 0, 1) := by decide +kernel
theorem dX8_passYear_41 : decode cX8_passYear 41 = .ok (.getfield 34, 3) := by decide +kernel
theorem dX8_passYear_44 : decode cX8_passYear 44 = .ok (.iload_n 2, 1) := by decide +kernel
theorem dX8_passYear_45 : decode cX8_passYear 45 = .ok (.aload_n 0, 1) := by decide +kernel
theorem dX8_passYear_46 : decode cX8_passYear 46 = .ok (.getfield 34, 3) := by decide +kernel
theorem dX8_passYear_49 : decode cX8_passYear 49 = .ok (.iload_n 2, 1) := by decide +kernel
theorem dX8_passYear_50 : decode cX8_passYear 50 = .ok (.iaload, 1) := by decide +kernel
theorem dX8_passYear_51 : decode cX8_passYear 51 = .ok (.aload_n 0, 1) := by decide +kernel
theorem dX8_passYear_52 : decode cX8_passYear 52 = .ok (.getfield 30, 3) := by decide +kernel
theorem dX8_passYear_55 : decode cX8_passYear 55 = .ok (.iload_n 2, 1) := by decide +kernel
theorem dX8_passYear_56 : decode cX8_passYear 56 = .ok (.iaload, 1) := by decide +kernel
theorem dX8_passYear_57 : decode cX8_passYear 57 = .ok (.aload_n 0, 1) := by decide +kernel
theorem dX8_passYear_58 : decode cX8_passYear 58 = .ok (.getfield 9, 3) := by decide +kernel
theorem dX8_passYear_61 : decode cX8_passYear 61 = .ok (.aload_n 0, 1) := by decide +kernel
theorem dX8_passYear_62 : decode cX8_passYear 62 = .ok (.getfield 15, 3) := by decide +kernel
theorem dX8_passYear_65 : decode cX8_passYear 65 = .ok (.aload_n 0, 1) := by decide +kernel
theorem dX8_passYear_66 : decode cX8_passYear 66 = .ok (.getfield 18, 3) := by decide +kernel
theorem dX8_passYear_69 : decode cX8_passYear 69 = .ok (.invokestatic 79, 3) := by decide +kernel
theorem dX8_passYear_72 : decode cX8_passYear 72 = .ok (.iastore, 1) := by decide +kernel
theorem dX8_passYear_73 : decode cX8_passYear 73 = .ok (.aload_n 0, 1) := by decide +kernel
theorem dX8_passYear_74 : decode cX8_passYear 74 = .ok (.getfield 34, 3) := by decide +kernel
theorem dX8_passYear_77 : decode cX8_passYear 77 = .ok (.iload_n 2, 1) := by decide +kernel
theorem dX8_passYear_78 : decode cX8_passYear 78 = .ok (.iaload, 1) := by decide +kernel
theorem dX8_passYear_79 : decode cX8_passYear 79 = .ok (.ifCond .ne 19, 3) := by decide +kernel
theorem dX8_passYear_82 : decode cX8_passYear 82 = .ok (.aload_n 0, 1) := by decide +kernel
theorem dX8_passYear_83 : decode cX8_passYear 83 = .ok (.getfield 40, 3) := by decide +kernel
theorem dX8_passYear_86 : decode cX8_passYear 86 = .ok (.iload_n 2, 1) := by decide +kernel
theorem dX8_passYear_87 : decode cX8_passYear 87 = .ok (.aload_n 0, 1) := by decide +kernel
theorem dX8_passYear_88 : decode cX8_passYear 88 = .ok (.getfield 9, 3) := by decide +kernel
theorem dX8_passYear_91 : decode cX8_passYear 91 = .ok (.iastore, 1) := by decide +kernel
theorem dX8_passYear_92 : decode cX8_passYear 92 = .ok (.iload_n 1, 1) := by decide +kernel
theorem dX8_passYear_93 : decode cX8_passYear 93 = .ok (.iconst 1, 1) := by decide +kernel
theorem dX8_passYear_94 : decode cX8_passYear 94 = .ok (.iload_n 2, 1) := by decide +kernel
theorem dX8_passYear_95 : decode cX8_passYear 95 = .ok (.ishl, 1) := by decide +kernel
theorem dX8_passYear_96 : decode cX8_passYear 96 = .ok (.ior, 1) := by decide +kernel
theorem dX8_passYear_97 : decode cX8_passYear 97 = .ok (.istore_n 1, 1) := by decide +kernel
theorem dX8_passYear_98 : decode cX8_passYear 98 = .ok (.iinc 2 1, 3) := by decide +kernel
theorem dX8_passYear_101 : decode cX8_passYear 101 = .ok (.goto (-78), 3) := by decide +kernel
theorem dX8_passYear_104 : decode cX8_passYear 104 = .ok (.aload_n 0, 1) := by decide +kernel
theorem dX8_passYear_105 : decode cX8_passYear 105 = .ok (.dup, 1) := by decide +kernel
theorem dX8_passYear_106 : decode cX8_passYear 106 = .ok (.getfield 9, 3) := by decide +kernel
theorem dX8_passYear_109 : decode cX8_passYear 109 = .ok (.iconst 1, 1) := by decide +kernel
theorem dX8_passYear_110 : decode cX8_passYear 110 = .ok (.iadd, 1) := by decide +kernel
theorem dX8_passYear_111 : decode cX8_passYear 111 = .ok (.putfield 9, 3) := by decide +kernel
theorem dX8_passYear_114 : decode cX8_passYear 114 = .ok (.iload_n 1, 1) := by decide +kernel
theorem dX8_passYear_115 : decode cX8_passYear 115 = .ok (.ireturn, 1) := by decide +kernel
theorem dX8_setLoaves_0 : decode cX8_setLoaves 0 = .ok (.aload_n 0, 1) := by decide +kernel
theorem dX8_setLoaves_1 : decode cX8_setLoaves 1 = .ok (.getfield 58, 3) := by decide +kernel
theorem dX8_setLoaves_4 : decode cX8_setLoaves 4 = .ok (.aload_n 0, 1) := by decide +kernel
theorem dX8_setLoaves_5 : decode cX8_setLoaves 5 = .ok (.getfield 9, 3) := by decide +kernel
theorem dX8_setLoaves_8 : decode cX8_setLoaves 8 = .ok (.aload_n 0, 1) := by decide +kernel
theorem dX8_setLoaves_9 : decode cX8_setLoaves 9 = .ok (.getfield 34, 3) := by decide +kernel
theorem dX8_setLoaves_12 : decode cX8_setLoaves 12 = .ok (.aload_n 0, 1) := by decide +kernel
theorem dX8_setLoaves_13 : decode cX8_setLoaves 13 = .ok (.getfield 40, 3) := by decide +kernel
theorem dX8_setLoaves_16 : decode cX8_setLoaves 16 = .ok (.invokevirtual 75, 3) := by decide +kernel
theorem dX8_setLoaves_19 : decode cX8_setLoaves 19 = .ok (.aload_n 0, 1) := by decide +kernel
theorem dX8_setLoaves_20 : decode cX8_setLoaves 20 = .ok (.getfield 34, 3) := by decide +kernel
theorem dX8_setLoaves_23 : decode cX8_setLoaves 23 = .ok (.iload_n 1, 1) := by decide +kernel
theorem dX8_setLoaves_24 : decode cX8_setLoaves 24 = .ok (.iload_n 2, 1) := by decide +kernel
theorem dX8_setLoaves_25 : decode cX8_setLoaves 25 = .ok (.iastore, 1) := by decide +kernel
theorem dX8_setLoaves_26 : decode cX8_setLoaves 26 = .ok (.return_, 1) := by decide +kernel
theorem dX8_goBack_0 : decode cX8_goBack 0 = .ok (.aload_n 0, 1) := by decide +kernel
theorem dX8_goBack_1 : decode cX8_goBack 1 = .ok (.getfield 58, 3) := by decide +kernel
theorem dX8_goBack_4 : decode cX8_goBack 4 = .ok (.getfield 62, 3) := by decide +kernel
theorem dX8_goBack_7 : decode cX8_goBack 7 = .ok (.ifCond .le 22, 3) := by decide +kernel
theorem dX8_goBack_10 : decode cX8_goBack 10 = .ok (.aload_n 0, 1) := by decide +kernel
theorem dX8_goBack_11 : decode cX8_goBack 11 = .ok (.aload_n 0, 1) := by decide +kernel
theorem dX8_goBack_12 : decode cX8_goBack 12 = .ok (.getfield 58, 3) := by decide +kernel
theorem dX8_goBack_15 : decode cX8_goBack 15 = .ok (.aload_n 0, 1) := by decide +kernel
theorem dX8_goBack_16 : decode cX8_goBack 16 = .ok (.getfield 34, 3) := by decide +kernel
theorem dX8_goBack_19 : decode cX8_goBack 19 = .ok (.aload_n 0, 1) := by decide +kernel
theorem dX8_goBack_20 : decode cX8_goBack 20 = .ok (.getfield 40, 3) := by decide +kernel
theorem dX8_goBack_23 : decode cX8_goBack 23 = .ok (.invokevirtual 85, 3) := by decide +kernel
theorem dX8_goBack_26 : decode cX8_goBack 26 = .ok (.putfield 9, 3) := by decide +kernel
theorem dX8_goBack_29 : decode cX8_goBack 29 = .ok (.return_, 1) := by decide +kernel
theorem dX8_leftAs_0 : decode cX8_leftAs 0 = .ok (.iload_n 2, 1) := by decide +kernel
theorem dX8_leftAs_1 : decode cX8_leftAs 1 = .ok (.istore 5, 2) := by decide +kernel
theorem dX8_leftAs_3 : decode cX8_leftAs 3 = .ok (.iconst 0, 1) := by decide +kernel
theorem dX8_leftAs_4 : decode cX8_leftAs 4 = .ok (.istore 6, 2) := by decide +kernel
theorem dX8_leftAs_6 : decode cX8_leftAs 6 = .ok (.iload 6, 2) := by decide +kernel
theorem dX8_leftAs_8 : decode cX8_leftAs 8 = .ok (.iload_n 3, 1) := by decide +kernel
theorem dX8_leftAs_9 : decode cX8_leftAs 9 = .ok (.if_icmp .ge 35, 3) := by decide +kernel
theorem dX8_leftAs_12 : decode cX8_leftAs 12 = .ok (.iload 5, 2) := by decide +kernel
theorem dX8_leftAs_14 : decode cX8_leftAs 14 = .ok (.ifCond .le 30, 3) := by decide +kernel
theorem dX8_leftAs_17 : decode cX8_leftAs 17 = .ok (.iload 5, 2) := by decide +kernel
theorem dX8_leftAs_19 : decode cX8_leftAs 19 = .ok (.iload_n 1, 1) := by decide +kernel
theorem dX8_leftAs_20 : decode cX8_leftAs 20 = .ok (.aload_n 0, 1) := by decide +kernel
theorem dX8_leftAs_21 : decode cX8_leftAs 21 = .ok (.getfield 9, 3) := by decide +kernel
theorem dX8_leftAs_24 : decode cX8_leftAs 24 = .ok (.iload 6, 2) := by decide +kernel
theorem dX8_leftAs_26 : decode cX8_leftAs 26 = .ok (.iadd, 1) := by decide +kernel
theorem dX8_leftAs_27 : decode cX8_leftAs 27 = .ok (.aload_n 0, 1) := by decide +kernel
theorem dX8_leftAs_28 : decode cX8_leftAs 28 = .ok (.getfield 15, 3) := by decide +kernel
theorem dX8_leftAs_31 : decode cX8_leftAs 31 = .ok (.iload 4, 2) := by decide +kernel
theorem dX8_leftAs_33 : decode cX8_leftAs 33 = .ok (.invokestatic 79, 3) := by decide +kernel
theorem dX8_leftAs_36 : decode cX8_leftAs 36 = .ok (.istore 5, 2) := by decide +kernel
theorem dX8_leftAs_38 : decode cX8_leftAs 38 = .ok (.iinc 6 1, 3) := by decide +kernel
theorem dX8_leftAs_41 : decode cX8_leftAs 41 = .ok (.goto (-35), 3) := by decide +kernel
theorem dX8_leftAs_44 : decode cX8_leftAs 44 = .ok (.iload 5, 2) := by decide +kernel
theorem dX8_leftAs_46 : decode cX8_leftAs 46 = .ok (.ireturn, 1) := by decide +kernel
theorem dX8_leftInYear_0 : decode cX8_leftInYear 0 = .ok (.iload_n 1, 1) := by decide +kernel
theorem dX8_leftInYear_1 : decode cX8_leftInYear 1 = .ok (.aload_n 0, 1) := by decide +kernel
theorem dX8_leftInYear_2 : decode cX8_leftInYear 2 = .ok (.getfield 30, 3) := by decide +kernel
theorem dX8_leftInYear_5 : decode cX8_leftInYear 5 = .ok (.iload_n 2, 1) := by decide +kernel
theorem dX8_leftInYear_6 : decode cX8_leftInYear 6 = .ok (.iaload, 1) := by decide +kernel
theorem dX8_leftInYear_7 : decode cX8_leftInYear 7 = .ok (.aload_n 0, 1) := by decide +kernel
theorem dX8_leftInYear_8 : decode cX8_leftInYear 8 = .ok (.getfield 9, 3) := by decide +kernel
theorem dX8_leftInYear_11 : decode cX8_leftInYear 11 = .ok (.iload_n 3, 1) := by decide +kernel
theorem dX8_leftInYear_12 : decode cX8_leftInYear 12 = .ok (.iadd, 1) := by decide +kernel
theorem dX8_leftInYear_13 : decode cX8_leftInYear 13 = .ok (.aload_n 0, 1) := by decide +kernel
theorem dX8_leftInYear_14 : decode cX8_leftInYear 14 = .ok (.getfield 15, 3) := by decide +kernel
theorem dX8_leftInYear_17 : decode cX8_leftInYear 17 = .ok (.aload_n 0, 1) := by decide +kernel
theorem dX8_leftInYear_18 : decode cX8_leftInYear 18 = .ok (.getfield 18, 3) := by decide +kernel
theorem dX8_leftInYear_21 : decode cX8_leftInYear 21 = .ok (.invokestatic 79, 3) := by decide +kernel
theorem dX8_leftInYear_24 : decode cX8_leftInYear 24 = .ok (.ireturn, 1) := by decide +kernel
theorem dX8_allLoaves_0 : decode cX8_allLoaves 0 = .ok (.iconst 0, 1) := by decide +kernel
theorem dX8_allLoaves_1 : decode cX8_allLoaves 1 = .ok (.istore_n 1, 1) := by decide +kernel
theorem dX8_allLoaves_2 : decode cX8_allLoaves 2 = .ok (.iconst 0, 1) := by decide +kernel
theorem dX8_allLoaves_3 : decode cX8_allLoaves 3 = .ok (.istore_n 2, 1) := by decide +kernel
theorem dX8_allLoaves_4 : decode cX8_allLoaves 4 = .ok (.iload_n 2, 1) := by decide +kernel
theorem dX8_allLoaves_5 : decode cX8_allLoaves 5 = .ok (.aload_n 0, 1) := by decide +kernel
theorem dX8_allLoaves_6 : decode cX8_allLoaves 6 = .ok (.getfield 21, 3) := by decide +kernel
theorem dX8_allLoaves_9 : decode cX8_allLoaves 9 = .ok (.if_icmp .ge 18, 3) := by decide +kernel
theorem dX8_allLoaves_12 : decode cX8_allLoaves 12 = .ok (.iload_n 1, 1) := by decide +kernel
theorem dX8_allLoaves_13 : decode cX8_allLoaves 13 = .ok (.aload_n 0, 1) := by decide +kernel
theorem dX8_allLoaves_14 : decode cX8_allLoaves 14 = .ok (.getfield 34, 3) := by decide +kernel
theorem dX8_allLoaves_17 : decode cX8_allLoaves 17 = .ok (.iload_n 2, 1) := by decide +kernel
theorem dX8_allLoaves_18 : decode cX8_allLoaves 18 = .ok (.iaload, 1) := by decide +kernel
theorem dX8_allLoaves_19 : decode cX8_allLoaves 19 = .ok (.iadd, 1) := by decide +kernel
theorem dX8_allLoaves_20 : decode cX8_allLoaves 20 = .ok (.istore_n 1, 1) := by decide +kernel
theorem dX8_allLoaves_21 : decode cX8_allLoaves 21 = .ok (.iinc 2 1, 3) := by decide +kernel
theorem dX8_allLoaves_24 : decode cX8_allLoaves 24 = .ok (.goto (-20), 3) := by decide +kernel
theorem dX8_allLoaves_27 : decode cX8_allLoaves 27 = .ok (.iload_n 1, 1) := by decide +kernel
theorem dX8_allLoaves_28 : decode cX8_allLoaves 28 = .ok (.ireturn, 1) := by decide +kernel
theorem dX8_digestOn_0 : decode cX8_digestOn 0 = .ok (.ldc2_w 89, 3) := by decide +kernel
theorem dX8_digestOn_3 : decode cX8_digestOn 3 = .ok (.lload_n 1, 1) := by decide +kernel
theorem dX8_digestOn_4 : decode cX8_digestOn 4 = .ok (.lmul, 1) := by decide +kernel
theorem dX8_digestOn_5 : decode cX8_digestOn 5 = .ok (.aload_n 0, 1) := by decide +kernel
theorem dX8_digestOn_6 : decode cX8_digestOn 6 = .ok (.getfield 15, 3) := by decide +kernel
theorem dX8_digestOn_9 : decode cX8_digestOn 9 = .ok (.i2l, 1) := by decide +kernel
theorem dX8_digestOn_10 : decode cX8_digestOn 10 = .ok (.ladd, 1) := by decide +kernel
theorem dX8_digestOn_11 : decode cX8_digestOn 11 = .ok (.lstore_n 3, 1) := by decide +kernel
theorem dX8_digestOn_12 : decode cX8_digestOn 12 = .ok (.ldc2_w 89, 3) := by decide +kernel
theorem dX8_digestOn_15 : decode cX8_digestOn 15 = .ok (.lload_n 3, 1) := by decide +kernel
theorem dX8_digestOn_16 : decode cX8_digestOn 16 = .ok (.lmul, 1) := by decide +kernel
theorem dX8_digestOn_17 : decode cX8_digestOn 17 = .ok (.aload_n 0, 1) := by decide +kernel
theorem dX8_digestOn_18 : decode cX8_digestOn 18 = .ok (.getfield 18, 3) := by decide +kernel
theorem dX8_digestOn_21 : decode cX8_digestOn 21 = .ok (.i2l, 1) := by decide +kernel
theorem dX8_digestOn_22 : decode cX8_digestOn 22 = .ok (.ladd, 1) := by decide +kernel
theorem dX8_digestOn_23 : decode cX8_digestOn 23 = .ok (.lstore_n 3, 1) := by decide +kernel
theorem dX8_digestOn_24 : decode cX8_digestOn 24 = .ok (.iconst 0, 1) := by decide +kernel
theorem dX8_digestOn_25 : decode cX8_digestOn 25 = .ok (.istore 5, 2) := by decide +kernel
theorem dX8_digestOn_27 : decode cX8_digestOn 27 = .ok (.iload 5, 2) := by decide +kernel
theorem dX8_digestOn_29 : decode cX8_digestOn 29 = .ok (.aload_n 0, 1) := by decide +kernel
theorem dX8_digestOn_30 : decode cX8_digestOn 30 = .ok (.getfield 21, 3) := by decide +kernel
theorem dX8_digestOn_33 : decode cX8_digestOn 33 = .ok (.if_icmp .ge 69, 3) := by decide +kernel
theorem dX8_digestOn_36 : decode cX8_digestOn 36 = .ok (.ldc2_w 89, 3) := by decide +kernel
theorem dX8_digestOn_39 : decode cX8_digestOn 39 = .ok (.lload_n 3, 1) := by decide +kernel
theorem dX8_digestOn_40 : decode cX8_digestOn 40 = .ok (.lmul, 1) := by decide +kernel
theorem dX8_digestOn_41 : decode cX8_digestOn 41 = .ok (.aload_n 0, 1) := by decide +kernel
theorem dX8_digestOn_42 : decode cX8_digestOn 42 = .ok (.getfield 30, 3) := by decide +kernel
theorem dX8_digestOn_45 : decode cX8_digestOn 45 = .ok (.iload 5, 2) := by decide +kernel
theorem dX8_digestOn_47 : decode cX8_digestOn 47 = .ok (.iaload, 1) := by decide +kernel
theorem dX8_digestOn_48 : decode cX8_digestOn 48 = .ok (.i2l, 1) := by decide +kernel
theorem dX8_digestOn_49 : decode cX8_digestOn 49 = .ok (.ladd, 1) := by decide +kernel
theorem dX8_digestOn_50 : decode cX8_digestOn 50 = .ok (.lstore_n 3, 1) := by decide +kernel
theorem dX8_digestOn_51 : decode cX8_digestOn 51 = .ok (.ldc2_w 89, 3) := by decide +kernel
theorem dX8_digestOn_54 : decode cX8_digestOn 54 = .ok (.lload_n 3, 1) := by decide +kernel
theorem dX8_digestOn_55 : decode cX8_digestOn 55 = .ok (.lmul, 1) := by decide +kernel
theorem dX8_digestOn_56 : decode cX8_digestOn 56 = .ok (.aload_n 0, 1) := by decide +kernel
theorem dX8_digestOn_57 : decode cX8_digestOn 57 = .ok (.getfield 34, 3) := by decide +kernel
theorem dX8_digestOn_60 : decode cX8_digestOn 60 = .ok (.iload 5, 2) := by decide +kernel
theorem dX8_digestOn_62 : decode cX8_digestOn 62 = .ok (.iaload, 1) := by decide +kernel
theorem dX8_digestOn_63 : decode cX8_digestOn 63 = .ok (.i2l, 1) := by decide +kernel
theorem dX8_digestOn_64 : decode cX8_digestOn 64 = .ok (.ladd, 1) := by decide +kernel
theorem dX8_digestOn_65 : decode cX8_digestOn 65 = .ok (.lstore_n 3, 1) := by decide +kernel
theorem dX8_digestOn_66 : decode cX8_digestOn 66 = .ok (.ldc2_w 89, 3) := by decide +kernel
theorem dX8_digestOn_69 : decode cX8_digestOn 69 = .ok (.lload_n 3, 1) := by decide +kernel
theorem dX8_digestOn_70 : decode cX8_digestOn 70 = .ok (.lmul, 1) := by decide +kernel
theorem dX8_digestOn_71 : decode cX8_digestOn 71 = .ok (.aload_n 0, 1) := by decide +kernel
theorem dX8_digestOn_72 : decode cX8_digestOn 72 = .ok (.getfield 37, 3) := by decide +kernel
theorem dX8_digestOn_75 : decode cX8_digestOn 75 = .ok (.iload 5, 2) := by decide +kernel
theorem dX8_digestOn_77 : decode cX8_digestOn 77 = .ok (.iaload, 1) := by decide +kernel
theorem dX8_digestOn_78 : decode cX8_digestOn 78 = .ok (.i2l, 1) := by decide +kernel
theorem dX8_digestOn_79 : decode cX8_digestOn 79 = .ok (.ladd, 1) := by decide +kernel
theorem dX8_digestOn_80 : decode cX8_digestOn 80 = .ok (.lstore_n 3, 1) := by decide +kernel
theorem dX8_digestOn_81 : decode cX8_digestOn 81 = .ok (.ldc2_w 89, 3) := by decide +kernel
theorem dX8_digestOn_84 : decode cX8_digestOn 84 = .ok (.lload_n 3, 1) := by decide +kernel
theorem dX8_digestOn_85 : decode cX8_digestOn 85 = .ok (.lmul, 1) := by decide +kernel
theorem dX8_digestOn_86 : decode cX8_digestOn 86 = .ok (.aload_n 0, 1) := by decide +kernel
theorem dX8_digestOn_87 : decode cX8_digestOn 87 = .ok (.getfield 40, 3) := by decide +kernel
theorem dX8_digestOn_90 : decode cX8_digestOn 90 = .ok (.iload 5, 2) := by decide +kernel
theorem dX8_digestOn_92 : decode cX8_digestOn 92 = .ok (.iaload, 1) := by decide +kernel
theorem dX8_digestOn_93 : decode cX8_digestOn 93 = .ok (.i2l, 1) := by decide +kernel
theorem dX8_digestOn_94 : decode cX8_digestOn 94 = .ok (.ladd, 1) := by decide +kernel
theorem dX8_digestOn_95 : decode cX8_digestOn 95 = .ok (.lstore_n 3, 1) := by decide +kernel
theorem dX8_digestOn_96 : decode cX8_digestOn 96 = .ok (.iinc 5 1, 3) := by decide +kernel
theorem dX8_digestOn_99 : decode cX8_digestOn 99 = .ok (.goto (-72), 3) := by decide +kernel
theorem dX8_digestOn_102 : decode cX8_digestOn 102 = .ok (.iconst 0, 1) := by decide +kernel
theorem dX8_digestOn_103 : decode cX8_digestOn 103 = .ok (.istore 5, 2) := by decide +kernel
theorem dX8_digestOn_105 : decode cX8_digestOn 105 = .ok (.iload 5, 2) := by decide +kernel
theorem dX8_digestOn_107 : decode cX8_digestOn 107 = .ok (.aload_n 0, 1) := by decide +kernel
theorem dX8_digestOn_108 : decode cX8_digestOn 108 = .ok (.getfield 24, 3) := by decide +kernel
theorem dX8_digestOn_111 : decode cX8_digestOn 111 = .ok (.if_icmp .ge 24, 3) := by decide +kernel
theorem dX8_digestOn_114 : decode cX8_digestOn 114 = .ok (.ldc2_w 89, 3) := by decide +kernel
theorem dX8_digestOn_117 : decode cX8_digestOn 117 = .ok (.lload_n 3, 1) := by decide +kernel
theorem dX8_digestOn_118 : decode cX8_digestOn 118 = .ok (.lmul, 1) := by decide +kernel
theorem dX8_digestOn_119 : decode cX8_digestOn 119 = .ok (.aload_n 0, 1) := by decide +kernel
theorem dX8_digestOn_120 : decode cX8_digestOn 120 = .ok (.getfield 43, 3) := by decide +kernel
theorem dX8_digestOn_123 : decode cX8_digestOn 123 = .ok (.iload 5, 2) := by decide +kernel
theorem dX8_digestOn_125 : decode cX8_digestOn 125 = .ok (.iaload, 1) := by decide +kernel
theorem dX8_digestOn_126 : decode cX8_digestOn 126 = .ok (.i2l, 1) := by decide +kernel
theorem dX8_digestOn_127 : decode cX8_digestOn 127 = .ok (.ladd, 1) := by decide +kernel
theorem dX8_digestOn_128 : decode cX8_digestOn 128 = .ok (.lstore_n 3, 1) := by decide +kernel
theorem dX8_digestOn_129 : decode cX8_digestOn 129 = .ok (.iinc 5 1, 3) := by decide +kernel
theorem dX8_digestOn_132 : decode cX8_digestOn 132 = .ok (.goto (-27), 3) := by decide +kernel
theorem dX8_digestOn_135 : decode cX8_digestOn 135 = .ok (.iconst 0, 1) := by decide +kernel
theorem dX8_digestOn_136 : decode cX8_digestOn 136 = .ok (.istore 5, 2) := by decide +kernel
theorem dX8_digestOn_138 : decode cX8_digestOn 138 = .ok (.iload 5, 2) := by decide +kernel
theorem dX8_digestOn_140 : decode cX8_digestOn 140 = .ok (.aload_n 0, 1) := by decide +kernel
theorem dX8_digestOn_141 : decode cX8_digestOn 141 = .ok (.getfield 27, 3) := by decide +kernel
theorem dX8_digestOn_144 : decode cX8_digestOn 144 = .ok (.if_icmp .ge 54, 3) := by decide +kernel
theorem dX8_digestOn_147 : decode cX8_digestOn 147 = .ok (.ldc2_w 89, 3) := by decide +kernel
theorem dX8_digestOn_150 : decode cX8_digestOn 150 = .ok (.lload_n 3, 1) := by decide +kernel
theorem dX8_digestOn_151 : decode cX8_digestOn 151 = .ok (.lmul, 1) := by decide +kernel
theorem dX8_digestOn_152 : decode cX8_digestOn 152 = .ok (.aload_n 0, 1) := by decide +kernel
theorem dX8_digestOn_153 : decode cX8_digestOn 153 = .ok (.getfield 46, 3) := by decide +kernel
theorem dX8_digestOn_156 : decode cX8_digestOn 156 = .ok (.iload 5, 2) := by decide +kernel
theorem dX8_digestOn_158 : decode cX8_digestOn 158 = .ok (.iaload, 1) := by decide +kernel
theorem dX8_digestOn_159 : decode cX8_digestOn 159 = .ok (.i2l, 1) := by decide +kernel
theorem dX8_digestOn_160 : decode cX8_digestOn 160 = .ok (.ladd, 1) := by decide +kernel
theorem dX8_digestOn_161 : decode cX8_digestOn 161 = .ok (.lstore_n 3, 1) := by decide +kernel
theorem dX8_digestOn_162 : decode cX8_digestOn 162 = .ok (.ldc2_w 89, 3) := by decide +kernel
theorem dX8_digestOn_165 : decode cX8_digestOn 165 = .ok (.lload_n 3, 1) := by decide +kernel
theorem dX8_digestOn_166 : decode cX8_digestOn 166 = .ok (.lmul, 1) := by decide +kernel
theorem dX8_digestOn_167 : decode cX8_digestOn 167 = .ok (.aload_n 0, 1) := by decide +kernel
theorem dX8_digestOn_168 : decode cX8_digestOn 168 = .ok (.getfield 49, 3) := by decide +kernel
theorem dX8_digestOn_171 : decode cX8_digestOn 171 = .ok (.iload 5, 2) := by decide +kernel
theorem dX8_digestOn_173 : decode cX8_digestOn 173 = .ok (.iaload, 1) := by decide +kernel
theorem dX8_digestOn_174 : decode cX8_digestOn 174 = .ok (.i2l, 1) := by decide +kernel
theorem dX8_digestOn_175 : decode cX8_digestOn 175 = .ok (.ladd, 1) := by decide +kernel
theorem dX8_digestOn_176 : decode cX8_digestOn 176 = .ok (.lstore_n 3, 1) := by decide +kernel
theorem dX8_digestOn_177 : decode cX8_digestOn 177 = .ok (.ldc2_w 89, 3) := by decide +kernel
theorem dX8_digestOn_180 : decode cX8_digestOn 180 = .ok (.lload_n 3, 1) := by decide +kernel
theorem dX8_digestOn_181 : decode cX8_digestOn 181 = .ok (.lmul, 1) := by decide +kernel
theorem dX8_digestOn_182 : decode cX8_digestOn 182 = .ok (.aload_n 0, 1) := by decide +kernel
theorem dX8_digestOn_183 : decode cX8_digestOn 183 = .ok (.getfield 52, 3) := by decide +kernel
theorem dX8_digestOn_186 : decode cX8_digestOn 186 = .ok (.iload 5, 2) := by decide +kernel
theorem dX8_digestOn_188 : decode cX8_digestOn 188 = .ok (.iaload, 1) := by decide +kernel
theorem dX8_digestOn_189 : decode cX8_digestOn 189 = .ok (.i2l, 1) := by decide +kernel
theorem dX8_digestOn_190 : decode cX8_digestOn 190 = .ok (.ladd, 1) := by decide +kernel
theorem dX8_digestOn_191 : decode cX8_digestOn 191 = .ok (.lstore_n 3, 1) := by decide +kernel
theorem dX8_digestOn_192 : decode cX8_digestOn 192 = .ok (.iinc 5 1, 3) := by decide +kernel
theorem dX8_digestOn_195 : decode cX8_digestOn 195 = .ok (.goto (-57), 3) := by decide +kernel
theorem dX8_digestOn_198 : decode cX8_digestOn 198 = .ok (.lload_n 3, 1) := by decide +kernel
theorem dX8_digestOn_199 : decode cX8_digestOn 199 = .ok (.lreturn, 1) := by decide +kernel
theorem dX9_init_0 : decode cX9_init 0 = .ok (.aload_n 0, 1) := by decide +kernel
theorem dX9_init_1 : decode cX9_init 1 = .ok (.invokespecial 1, 3) := by decide +kernel
theorem dX9_init_4 : decode cX9_init 4 = .ok (.aload_n 0, 1) := by decide +kernel
theorem dX9_init_5 : decode cX9_init 5 = .ok (.new 7, 3) := by decide +kernel
theorem dX9_init_8 : decode cX9_init 8 = .ok (.dup, 1) := by decide +kernel
theorem dX9_init_9 : decode cX9_init 9 = .ok (.invokespecial 9, 3) := by decide +kernel
theorem dX9_init_12 : decode cX9_init 12 = .ok (.putfield 10, 3) := by decide +kernel
theorem dX9_init_15 : decode cX9_init 15 = .ok (.aload_n 0, 1) := by decide +kernel
theorem dX9_init_16 : decode cX9_init 16 = .ok (.iconst 2, 1) := by decide +kernel
theorem dX9_init_17 : decode cX9_init 17 = .ok (.anewarray 7, 3) := by decide +kernel
theorem dX9_init_20 : decode cX9_init 20 = .ok (.putfield 16, 3) := by decide +kernel
theorem dX9_init_23 : decode cX9_init 23 = .ok (.aload_n 0, 1) := by decide +kernel
theorem dX9_init_24 : decode cX9_init 24 = .ok (.new 20, 3) := by decide +kernel
theorem dX9_init_27 : decode cX9_init 27 = .ok (.dup, 1) := by decide +kernel
theorem dX9_init_28 : decode cX9_init 28 = .ok (.invokespecial 22, 3) := by decide +kernel
theorem dX9_init_31 : decode cX9_init 31 = .ok (.putfield 23, 3) := by decide +kernel
theorem dX9_init_34 : decode cX9_init 34 = .ok (.aload_n 0, 1) := by decide +kernel
theorem dX9_init_35 : decode cX9_init 35 = .ok (.new 27, 3) := by decide +kernel
theorem dX9_init_38 : decode cX9_init 38 = .ok (.dup, 1) := by decide +kernel
theorem dX9_init_39 : decode cX9_init 39 = .ok (.invokespecial 29, 3) := by decide +kernel
theorem dX9_init_42 : decode cX9_init 42 = .ok (.putfield 30, 3) := by decide +kernel
theorem dX9_init_45 : decode cX9_init 45 = .ok (.aload_n 0, 1) := by decide +kernel
theorem dX9_init_46 : decode cX9_init 46 = .ok (.new 34, 3) := by decide +kernel
theorem dX9_init_49 : decode cX9_init 49 = .ok (.dup, 1) := by decide +kernel
theorem dX9_init_50 : decode cX9_init 50 = .ok (.invokespecial 36, 3) := by decide +kernel
theorem dX9_init_53 : decode cX9_init 53 = .ok (.putfield 37, 3) := by decide +kernel
theorem dX9_init_56 : decode cX9_init 56 = .ok (.aload_n 0, 1) := by decide +kernel
theorem dX9_init_57 : decode cX9_init 57 = .ok (.new 41, 3) := by decide +kernel
theorem dX9_init_60 : decode cX9_init 60 = .ok (.dup, 1) := by decide +kernel
theorem dX9_init_61 : decode cX9_init 61 = .ok (.invokespecial 43, 3) := by decide +kernel
theorem dX9_init_64 : decode cX9_init 64 = .ok (.putfield 44, 3) := by decide +kernel
theorem dX9_init_67 : decode cX9_init 67 = .ok (.aload_n 0, 1) := by decide +kernel
theorem dX9_init_68 : decode cX9_init 68 = .ok (.new 48, 3) := by decide +kernel
theorem dX9_init_71 : decode cX9_init 71 = .ok (.dup, 1) := by decide +kernel
theorem dX9_init_72 : decode cX9_init 72 = .ok (.invokespecial 50, 3) := by decide +kernel
theorem dX9_init_75 : decode cX9_init 75 = .ok (.putfield 51, 3) := by decide +kernel
theorem dX9_init_78 : decode cX9_init 78 = .ok (.aload_n 0, 1) := by decide +kernel
theorem dX9_init_79 : decode cX9_init 79 = .ok (.iconst 0, 1) := by decide +kernel
theorem dX9_init_80 : decode cX9_init 80 = .ok (.putfield 55, 3) := by decide +kernel
theorem dX9_init_83 : decode cX9_init 83 = .ok (.aload_n 0, 1) := by decide +kernel
theorem dX9_init_84 : decode cX9_init 84 = .ok (.iconst 0, 1) := by decide +kernel
theorem dX9_init_85 : decode cX9_init 85 = .ok (.putfield 59, 3) := by decide +kernel
theorem dX9_init_88 : decode cX9_init 88 = .ok (.aload_n 0, 1) := by decide +kernel
theorem dX9_init_89 : decode cX9_init 89 = .ok (.iconst 0, 1) := by decide +kernel
theorem dX9_init_90 : decode cX9_init 90 = .ok (.putfield 62, 3) := by decide +kernel
theorem dX9_init_93 : decode cX9_init 93 = .ok (.return_, 1) := by decide +kernel
theorem dX9_valley_0 : decode cX9_valley 0 = .ok (.aload_n 0, 1) := by decide +kernel
theorem dX9_valley_1 : decode cX9_valley 1 = .ok (.getfield 10, 3) := by decide +kernel
theorem dX9_valley_4 : decode cX9_valley 4 = .ok (.getfield 65, 3) := by decide +kernel
theorem dX9_valley_7 : decode cX9_valley 7 = .ok (.istore_n 1, 1) := by decide +kernel
theorem dX9_valley_8 : decode cX9_valley 8 = .ok (.aload_n 0, 1) := by decide +kernel
theorem dX9_valley_9 : decode cX9_valley 9 = .ok (.getfield 10, 3) := by decide +kernel
theorem dX9_valley_12 : decode cX9_valley 12 = .ok (.invokevirtual 68, 3) := by decide +kernel
theorem dX9_valley_15 : decode cX9_valley 15 = .ok (.iload_n 1, 1) := by decide +kernel
theorem dX9_valley_16 : decode cX9_valley 16 = .ok (.ireturn, 1) := by decide +kernel
theorem dX9_damp_0 : decode cX9_damp 0 = .ok (.iload_n 1, 1) := by decide +kernel
theorem dX9_damp_1 : decode cX9_damp 1 = .ok (.iconst 0, 1) := by decide +kernel
theorem dX9_damp_2 : decode cX9_damp 2 = .ok (.sipush 4095, 3) := by decide +kernel
theorem dX9_damp_5 : decode cX9_damp 5 = .ok (.invokestatic 71, 3) := by decide +kernel
theorem dX9_damp_8 : decode cX9_damp 8 = .ok (.ifCond .ne 8, 3) := by decide +kernel
theorem dX9_damp_11 : decode cX9_damp 11 = .ok (.aload_n 0, 1) := by decide +kernel
theorem dX9_damp_12 : decode cX9_damp 12 = .ok (.invokevirtual 75, 3) := by decide +kernel
theorem dX9_damp_15 : decode cX9_damp 15 = .ok (.ireturn, 1) := by decide +kernel
theorem dX9_damp_16 : decode cX9_damp 16 = .ok (.aload_n 0, 1) := by decide +kernel
theorem dX9_damp_17 : decode cX9_damp 17 = .ok (.getfield 10, 3) := by decide +kernel
theorem dX9_damp_20 : decode cX9_damp 20 = .ok (.getfield 79, 3) := by decide +kernel
theorem dX9_damp_23 : decode cX9_damp 23 = .ok (.istore_n 2, 1) := by decide +kernel
theorem dX9_damp_24 : decode cX9_damp 24 = .ok (.aload_n 0, 1) := by decide +kernel
theorem dX9_damp_25 : decode cX9_damp 25 = .ok (.getfield 10, 3) := by decide +kernel
theorem dX9_damp_28 : decode cX9_damp 28 = .ok (.iload_n 1, 1) := by decide +kernel
theorem dX9_damp_29 : decode cX9_damp 29 = .ok (.putfield 79, 3) := by decide +kernel
theorem dX9_damp_32 : decode cX9_damp 32 = .ok (.iload_n 2, 1) := by decide +kernel
theorem dX9_damp_33 : decode cX9_damp 33 = .ok (.ireturn, 1) := by decide +kernel
theorem dX9_dry_0 : decode cX9_dry 0 = .ok (.iload_n 1, 1) := by decide +kernel
theorem dX9_dry_1 : decode cX9_dry 1 = .ok (.iconst 0, 1) := by decide +kernel
theorem dX9_dry_2 : decode cX9_dry 2 = .ok (.sipush 4095, 3) := by decide +kernel
theorem dX9_dry_5 : decode cX9_dry 5 = .ok (.invokestatic 71, 3) := by decide +kernel
theorem dX9_dry_8 : decode cX9_dry 8 = .ok (.ifCond .ne 8, 3) := by decide +kernel
theorem dX9_dry_11 : decode cX9_dry 11 = .ok (.aload_n 0, 1) := by decide +kernel
theorem dX9_dry_12 : decode cX9_dry 12 = .ok (.invokevirtual 75, 3) := by decide +kernel
theorem dX9_dry_15 : decode cX9_dry 15 = .ok (.ireturn, 1) := by decide +kernel
theorem dX9_dry_16 : decode cX9_dry 16 = .ok (.aload_n 0, 1) := by decide +kernel
theorem dX9_dry_17 : decode cX9_dry 17 = .ok (.getfield 10, 3) := by decide +kernel
theorem dX9_dry_20 : decode cX9_dry 20 = .ok (.getfield 82, 3) := by decide +kernel
theorem dX9_dry_23 : decode cX9_dry 23 = .ok (.istore_n 2, 1) := by decide +kernel
theorem dX9_dry_24 : decode cX9_dry 24 = .ok (.aload_n 0, 1) := by decide +kernel
theorem dX9_dry_25 : decode cX9_dry 25 = .ok (.getfield 10, 3) := by decide +kernel
theorem dX9_dry_28 : decode cX9_dry 28 = .ok (.iload_n 1, 1) := by decide +kernel
theorem dX9_dry_29 : decode cX9_dry 29 = .ok (.putfield 82, 3) := by decide +kernel
theorem dX9_dry_32 : decode cX9_dry 32 = .ok (.iload_n 2, 1) := by decide +kernel
theorem dX9_dry_33 : decode cX9_dry 33 = .ok (.ireturn, 1) := by decide +kernel
theorem dX9_pair_0 : decode cX9_pair 0 = .ok (.iload_n 1, 1) := by decide +kernel
theorem dX9_pair_1 : decode cX9_pair 1 = .ok (.iconst 0, 1) := by decide +kernel
theorem dX9_pair_2 : decode cX9_pair 2 = .ok (.iconst 5, 1) := by decide +kernel
theorem dX9_pair_3 : decode cX9_pair 3 = .ok (.invokestatic 71, 3) := by decide +kernel
theorem dX9_pair_6 : decode cX9_pair 6 = .ok (.ifCond .eq 13, 3) := by decide +kernel
theorem dX9_pair_9 : decode cX9_pair 9 = .ok (.iload_n 2, 1) := by decide +kernel
theorem dX9_pair_10 : decode cX9_pair 10 = .ok (.iconst 0, 1) := by decide +kernel
theorem dX9_pair_11 : decode cX9_pair 11 = .ok (.bipush 60, 2) := by decide +kernel
theorem dX9_pair_13 : decode cX9_pair 13 = .ok (.invokestatic 71, 3) := by decide +kernel
theorem dX9_pair_16 : decode cX9_pair 16 = .ok (.ifCond .ne 8, 3) := by decide +kernel
theorem dX9_pair_19 : decode cX9_pair 19 = .ok (.aload_n 0, 1) := by decide +kernel
theorem dX9_pair_20 : decode cX9_pair 20 = .ok (.invokevirtual 75, 3) := by decide +kernel
theorem dX9_pair_23 : decode cX9_pair 23 = .ok (.ireturn, 1) := by decide +kernel
theorem dX9_pair_24 : decode cX9_pair 24 = .ok (.aload_n 0, 1) := by decide +kernel
theorem dX9_pair_25 : decode cX9_pair 25 = .ok (.getfield 10, 3) := by decide +kernel
theorem dX9_pair_28 : decode cX9_pair 28 = .ok (.iload_n 1, 1) := by decide +kernel
theorem dX9_pair_29 : decode cX9_pair 29 = .ok (.iload_n 2, 1) := by decide +kernel
theorem dX9_pair_30 : decode cX9_pair 30 = .ok (.invokevirtual 85, 3) := by decide +kernel
theorem dX9_pair_33 : decode cX9_pair 33 = .ok (.istore_n 3, 1) := by decide +kernel
theorem dX9_pair_34 : decode cX9_pair 34 = .ok (.iload_n 3, 1) := by decide +kernel
theorem dX9_pair_35 : decode cX9_pair 35 = .ok (.bipush (-4), 2) := by decide +kernel
theorem dX9_pair_37 : decode cX9_pair 37 = .ok (.if_icmp .ne 10, 3) := by decide +kernel
theorem dX9_pair_40 : decode cX9_pair 40 = .ok (.aload_n 0, 1) := by decide +kernel
theorem dX9_pair_41 : decode cX9_pair 41 = .ok (.invokevirtual 89, 3) := by decide +kernel
theorem dX9_pair_44 : decode cX9_pair 44 = .ok (.goto 4, 3) := by decide +kernel
theorem dX9_pair_47 : decode cX9_pair 47 = .ok (.iload_n 3, 1) := by decide +kernel
theorem dX9_pair_48 : decode cX9_pair 48 = .ok (.ireturn, 1) := by decide +kernel
theorem dX9_kin_0 : decode cX9_kin 0 = .ok (.iload_n 1, 1) := by decide +kernel
theorem dX9_kin_1 : decode cX9_kin 1 = .ok (.iconst 1, 1) := by decide +kernel
theorem dX9_kin_2 : decode cX9_kin 2 = .ok (.bipush 20, 2) := by decide +kernel
theorem dX9_kin_4 : decode cX9_kin 4 = .ok (.invokestatic 71, 3) := by decide +kernel
theorem dX9_kin_7 : decode cX9_kin 7 = .ok (.ifCond .ne 8, 3) := by decide +kernel
theorem dX9_kin_10 : decode cX9_kin 10 = .ok (.aload_n 0, 1) := by decide +kernel
theorem dX9_kin_11 : decode cX9_kin 11 = .ok (.invokevirtual 75, 3) := by decide +kernel
theorem dX9_kin_14 : decode cX9_kin 14 = .ok (.ireturn, 1) := by decide +kernel
theorem dX9_kin_15 : decode cX9_kin 15 = .ok (.aload_n 0, 1) := by decide +kernel
theorem dX9_kin_16 : decode cX9_kin 16 = .ok (.getfield 10, 3) := by decide +kernel
theorem dX9_kin_19 : decode cX9_kin 19 = .ok (.iload_n 1, 1) := by decide +kernel
theorem dX9_kin_20 : decode cX9_kin 20 = .ok (.invokevirtual 92, 3) := by decide +kernel
theorem dX9_kin_23 : decode cX9_kin 23 = .ok (.istore_n 2, 1) := by decide +kernel
theorem dX9_kin_24 : decode cX9_kin 24 = .ok (.iload_n 2, 1) := by decide +kernel
theorem dX9_kin_25 : decode cX9_kin 25 = .ok (.bipush (-4), 2) := by decide +kernel
theorem dX9_kin_27 : decode cX9_kin 27 = .ok (.if_icmp .ne 10, 3) := by decide +kernel
theorem dX9_kin_30 : decode cX9_kin 30 = .ok (.aload_n 0, 1) := by decide +kernel
theorem dX9_kin_31 : decode cX9_kin 31 = .ok (.invokevirtual 89, 3) := by decide +kernel
theorem dX9_kin_34 : decode cX9_kin 34 = .ok (.goto 4, 3) := by decide +kernel
theorem dX9_kin_37 : decode cX9_kin 37 = .ok (.iload_n 2, 1) := by decide +kernel
theorem dX9_kin_38 : decode cX9_kin 38 = .ok (.ireturn, 1) := by decide +kernel
theorem dX9_type_0 : decode cX9_type 0 = .ok (.iload_n 1, 1) := by decide +kernel
theorem dX9_type_1 : decode cX9_type 1 = .ok (.iconst 0, 1) := by decide +kernel
theorem dX9_type_2 : decode cX9_type 2 = .ok (.bipush 127, 2) := by decide +kernel
theorem dX9_type_4 : decode cX9_type 4 = .ok (.invokestatic 71, 3) := by decide +kernel
theorem dX9_type_7 : decode cX9_type 7 = .ok (.ifCond .ne 8, 3) := by decide +kernel
theorem dX9_type_10 : decode cX9_type 10 = .ok (.aload_n 0, 1) := by decide +kernel
theorem dX9_type_11 : decode cX9_type 11 = .ok (.invokevirtual 75, 3) := by decide +kernel
theorem dX9_type_14 : decode cX9_type 14 = .ok (.ireturn, 1) := by decide +kernel
theorem dX9_type_15 : decode cX9_type 15 = .ok (.aload_n 0, 1) := by decide +kernel
theorem dX9_type_16 : decode cX9_type 16 = .ok (.getfield 23, 3) := by decide +kernel
theorem dX9_type_19 : decode cX9_type 19 = .ok (.iload_n 1, 1) := by decide +kernel
theorem dX9_type_20 : decode cX9_type 20 = .ok (.invokevirtual 96, 3) := by decide +kernel
theorem dX9_type_23 : decode cX9_type 23 = .ok (.istore_n 2, 1) := by decide +kernel
theorem dX9_type_24 : decode cX9_type 24 = .ok (.iload_n 2, 1) := by decide +kernel
theorem dX9_type_25 : decode cX9_type 25 = .ok (.bipush (-4), 2) := by decide +kernel
theorem dX9_type_27 : decode cX9_type 27 = .ok (.if_icmp .ne 10, 3) := by decide +kernel
theorem dX9_type_30 : decode cX9_type 30 = .ok (.aload_n 0, 1) := by decide +kernel
theorem dX9_type_31 : decode cX9_type 31 = .ok (.invokevirtual 89, 3) := by decide +kernel
theorem dX9_type_34 : decode cX9_type 34 = .ok (.goto 4, 3) := by decide +kernel
theorem dX9_type_37 : decode cX9_type 37 = .ok (.iload_n 2, 1) := by decide +kernel
theorem dX9_type_38 : decode cX9_type 38 = .ok (.ireturn, 1) := by decide +kernel
theorem dX9_clear_0 : decode cX9_clear 0 = .ok (.aload_n 0, 1) := by decide +kernel
theorem dX9_clear_1 : decode cX9_clear 1 = .ok (.getfield 23, 3) := by decide +kernel
theorem dX9_clear_4 : decode cX9_clear 4 = .ok (.invokevirtual 99, 3) := by decide +kernel
theorem dX9_clear_7 : decode cX9_clear 7 = .ok (.ireturn, 1) := by decide +kernel
theorem dX9_read_0 : decode cX9_read 0 = .ok (.aload_n 0, 1) := by decide +kernel
theorem dX9_read_1 : decode cX9_read 1 = .ok (.getfield 23, 3) := by decide +kernel
theorem dX9_read_4 : decode cX9_read 4 = .ok (.aload_n 0, 1) := by decide +kernel
theorem dX9_read_5 : decode cX9_read 5 = .ok (.getfield 10, 3) := by decide +kernel
theorem dX9_read_8 : decode cX9_read 8 = .ok (.invokevirtual 102, 3) := by decide +kernel
theorem dX9_read_11 : decode cX9_read 11 = .ok (.ireturn, 1) := by decide +kernel
theorem dX9_year_0 : decode cX9_year 0 = .ok (.iload_n 1, 1) := by decide +kernel
theorem dX9_year_1 : decode cX9_year 1 = .ok (.iconst 1, 1) := by decide +kernel
theorem dX9_year_2 : decode cX9_year 2 = .ok (.bipush 60, 2) := by decide +kernel
theorem dX9_year_4 : decode cX9_year 4 = .ok (.invokestatic 71, 3) := by decide +kernel
theorem dX9_year_7 : decode cX9_year 7 = .ok (.ifCond .ne 8, 3) := by decide +kernel
theorem dX9_year_10 : decode cX9_year 10 = .ok (.aload_n 0, 1) := by decide +kernel
theorem dX9_year_11 : decode cX9_year 11 = .ok (.invokevirtual 75, 3) := by decide +kernel
theorem dX9_year_14 : decode cX9_year 14 = .ok (.ireturn, 1) := by decide +kernel
theorem dX9_year_15 : decode cX9_year 15 = .ok (.iconst 0, 1) := by decide +kernel
theorem dX9_year_16 : decode cX9_year 16 = .ok (.istore_n 2, 1) := by decide +kernel
theorem dX9_year_17 : decode cX9_year 17 = .ok (.iconst 0, 1) := by decide +kernel
theorem dX9_year_18 : decode cX9_year 18 = .ok (.istore_n 3, 1) := by decide +kernel
theorem dX9_year_19 : decode cX9_year 19 = .ok (.iload_n 3, 1) := by decide +kernel
theorem dX9_year_20 : decode cX9_year 20 = .ok (.iload_n 1, 1) := by decide +kernel
theorem dX9_year_21 : decode cX9_year 21 = .ok (.if_icmp .ge 19, 3) := by decide +kernel
theorem dX9_year_24 : decode cX9_year 24 = .ok (.iload_n 2, 1) := by decide +kernel
theorem dX9_year_25 : decode cX9_year 25 = .ok (.aload_n 0, 1) := by decide +kernel
theorem dX9_year_26 : decode cX9_year 26 = .ok (.getfield 10, 3) := by decide +kernel
theorem dX9_year_29 : decode cX9_year 29 = .ok (.invokevirtual 106, 3) := by decide +kernel
theorem dX9_year_32 : decode cX9_year 32 = .ok (.ior, 1) := by decide +kernel
theorem dX9_year_33 : decode cX9_year 33 = .ok (.istore_n 2, 1) := by decide +kernel
theorem dX9_year_34 : decode cX9_year 34 = .ok (.iinc 3 1, 3) := by decide +kernel
theorem dX9_year_37 : decode cX9_year 37 = .ok (.goto (-18), 3) := by decide +kernel
theorem dX9_year_40 : decode cX9_year 40 = .ok (.iload_n 2, 1) := by decide +kernel
theorem dX9_year_41 : decode cX9_year 41 = .ok (.ireturn, 1) := by decide +kernel
theorem dX9_give_0 : decode cX9_give 0 = .ok (.aload_n 0, 1) := by decide +kernel
theorem dX9_give_1 : decode cX9_give 1 = .ok (.getfield 10, 3) := by decide +kernel
theorem dX9_give_4 : decode cX9_give 4 = .ok (.iload_n 1, 1) := by decide +kernel
theorem dX9_give_5 : decode cX9_give 5 = .ok (.invokevirtual 109, 3) := by decide +kernel
theorem dX9_give_8 : decode cX9_give 8 = .ok (.ifCond .eq 14, 3) := by decide +kernel
theorem dX9_give_11 : decode cX9_give 11 = .ok (.iload_n 2, 1) := by decide +kernel
theorem dX9_give_12 : decode cX9_give 12 = .ok (.bipush (-60), 2) := by decide +kernel
theorem dX9_give_14 : decode cX9_give 14 = .ok (.bipush 60, 2) := by decide +kernel
theorem dX9_give_16 : decode cX9_give 16 = .ok (.invokestatic 71, 3) := by decide +kernel
theorem dX9_give_19 : decode cX9_give 19 = .ok (.ifCond .ne 8, 3) := by decide +kernel
theorem dX9_give_22 : decode cX9_give 22 = .ok (.aload_n 0, 1) := by decide +kernel
theorem dX9_give_23 : decode cX9_give 23 = .ok (.invokevirtual 113, 3) := by decide +kernel
theorem dX9_give_26 : decode cX9_give 26 = .ok (.ireturn, 1) := by decide +kernel
theorem dX9_give_27 : decode cX9_give 27 = .ok (.aload_n 0, 1) := by decide +kernel
theorem dX9_give_28 : decode cX9_give 28 = .ok (.getfield 10, 3) := by decide +kernel
theorem dX9_give_31 : decode cX9_give 31 = .ok (.getfield 116, 3) := by decide +kernel
theorem dX9_give_34 : decode cX9_give 34 = .ok (.iload_n 1, 1) := by decide +kernel
theorem dX9_give_35 : decode cX9_give 35 = .ok (.iaload, 1) := by decide +kernel
theorem dX9_give_36 : decode cX9_give 36 = .ok (.istore_n 3, 1) := by decide +kernel
theorem dX9_give_37 : decode cX9_give 37 = .ok (.iload_n 3, 1) := by decide +kernel
theorem dX9_give_38 : decode cX9_give 38 = .ok (.ifCond .eq 15, 3) := by decide +kernel
theorem dX9_give_41 : decode cX9_give 41 = .ok (.iload_n 3, 1) := by decide +kernel
theorem dX9_give_42 : decode cX9_give 42 = .ok (.iload_n 2, 1) := by decide +kernel
theorem dX9_give_43 : decode cX9_give 43 = .ok (.iadd, 1) := by decide +kernel
theorem dX9_give_44 : decode cX9_give 44 = .ok (.iconst 1, 1) := by decide +kernel
theorem dX9_give_45 : decode cX9_give 45 = .ok (.bipush 60, 2) := by decide +kernel
theorem dX9_give_47 : decode cX9_give 47 = .ok (.invokestatic 71, 3) := by decide +kernel
theorem dX9_give_50 : decode cX9_give 50 = .ok (.ifCond .ne 8, 3) := by decide +kernel
theorem dX9_give_53 : decode cX9_give 53 = .ok (.aload_n 0, 1) := by decide +kernel
theorem dX9_give_54 : decode cX9_give 54 = .ok (.invokevirtual 120, 3) := by decide +kernel
theorem dX9_give_57 : decode cX9_give 57 = .ok (.ireturn, 1) := by decide +kernel
theorem dX9_give_58 : decode cX9_give 58 = .ok (.aload_n 0, 1) := by decide +kernel
theorem dX9_give_59 : decode cX9_give 59 = .ok (.getfield 10, 3) := by decide +kernel
theorem dX9_give_62 : decode cX9_give 62 = .ok (.iload_n 1, 1) := by decide +kernel
theorem dX9_give_63 : decode cX9_give 63 = .ok (.iload_n 3, 1) := by decide +kernel
theorem dX9_give_64 : decode cX9_give 64 = .ok (.iload_n 2, 1) := by decide +kernel
theorem dX9_give_65 : decode cX9_give 65 = .ok (.iadd, 1) := by decide +kernel
theorem dX9_give_66 : decode cX9_give 66 = .ok (.invokevirtual 123, 3) := by decide +kernel
theorem dX9_give_69 : decode cX9_give 69 = .ok (.iload_n 3, 1) := by decide +kernel
theorem dX9_give_70 : decode cX9_give 70 = .ok (.iload_n 2, 1) := by decide +kernel
theorem dX9_give_71 : decode cX9_give 71 = .ok (.iadd, 1) := by decide +kernel
theorem dX9_give_72 : decode cX9_give 72 = .ok (.ireturn, 1) := by decide +kernel
theorem dX9_undo_0 : decode cX9_undo 0 = .ok (.aload_n 0, 1) := by decide +kernel
theorem dX9_undo_1 : decode cX9_undo 1 = .ok (.getfield 10, 3) := by decide +kernel
theorem dX9_undo_4 : decode cX9_undo 4 = .ok (.getfield 127, 3) := by decide +kernel
theorem dX9_undo_7 : decode cX9_undo 7 = .ok (.getfield 131, 3) := by decide +kernel
theorem dX9_undo_10 : decode cX9_undo 10 = .ok (.ifCond .ne 8, 3) := by decide +kernel
theorem dX9_undo_13 : decode cX9_undo 13 = .ok (.aload_n 0, 1) := by decide +kernel
theorem dX9_undo_14 : decode cX9_undo 14 = .ok (.invokevirtual 120, 3) := by decide +kernel
theorem dX9_undo_17 : decode cX9_undo 17 = .ok (.ireturn, 1) := by decide +kernel
theorem dX9_undo_18 : decode cX9_undo 18 = .ok (.aload_n 0, 1) := by decide +kernel
theorem dX9_undo_19 : decode cX9_undo 19 = .ok (.getfield 10, 3) := by decide +kernel
theorem dX9_undo_22 : decode cX9_undo 22 = .ok (.invokevirtual 136, 3) := by decide +kernel
theorem dX9_undo_25 : decode cX9_undo 25 = .ok (.aload_n 0, 1) := by decide +kernel
theorem dX9_undo_26 : decode cX9_undo 26 = .ok (.getfield 10, 3) := by decide +kernel
theorem dX9_undo_29 : decode cX9_undo 29 = .ok (.getfield 139, 3) := by decide +kernel
theorem dX9_undo_32 : decode cX9_undo 32 = .ok (.ireturn, 1) := by decide +kernel
theorem dX9_of_0 : decode cX9_of 0 = .ok (.aload_n 0, 1) := by decide +kernel
theorem dX9_of_1 : decode cX9_of 1 = .ok (.getfield 10, 3) := by decide +kernel
theorem dX9_of_4 : decode cX9_of 4 = .ok (.iload_n 1, 1) := by decide +kernel
theorem dX9_of_5 : decode cX9_of 5 = .ok (.invokevirtual 109, 3) := by decide +kernel
theorem dX9_of_8 : decode cX9_of 8 = .ok (.ifCond .ne 8, 3) := by decide +kernel
theorem dX9_of_11 : decode cX9_of 11 = .ok (.aload_n 0, 1) := by decide +kernel
theorem dX9_of_12 : decode cX9_of 12 = .ok (.invokevirtual 113, 3) := by decide +kernel
theorem dX9_of_15 : decode cX9_of 15 = .ok (.ireturn, 1) := by decide +kernel
theorem dX9_of_16 : decode cX9_of 16 = .ok (.iload_n 2, 1) := by decide +kernel
theorem dX9_of_17 : decode cX9_of 17 = .ok (.tableswitch 109 0 4 #[35, 45, 55, 65, 75], 35) := by decide +kernel
theorem dX9_of_52 : decode cX9_of 52 = .ok (.aload_n 0, 1) := by decide +kernel
theorem dX9_of_53 : decode cX9_of 53 = .ok (.getfield 10, 3) := by decide +kernel
theorem dX9_of_56 : decode cX9_of 56 = .ok (.getfield 142, 3) := by decide +kernel
theorem dX9_of_59 : decode cX9_of 59 = .ok (.iload_n 1, 1) := by decide +kernel
theorem dX9_of_60 : decode cX9_of 60 = .ok (.iaload, 1) := by decide +kernel
theorem dX9_of_61 : decode cX9_of 61 = .ok (.ireturn, 1) := by decide +kernel
theorem dX9_of_62 : decode cX9_of 62 = .ok (.aload_n 0, 1) := by decide +kernel
theorem dX9_of_63 : decode cX9_of 63 = .ok (.getfield 10, 3) := by decide +kernel
theorem dX9_of_66 : decode cX9_of 66 = .ok (.getfield 116, 3) := by decide +kernel
theorem dX9_of_69 : decode cX9_of 69 = .ok (.iload_n 1, 1) := by decide +kernel
theorem dX9_of_70 : decode cX9_of 70 = .ok (.iaload, 1) := by decide +kernel
theorem dX9_of_71 : decode cX9_of 71 = .ok (.ireturn, 1) := by decide +kernel
theorem dX9_of_72 : decode cX9_of 72 = .ok (.aload_n 0, 1) := by decide +kernel
theorem dX9_of_73 : decode cX9_of 73 = .ok (.getfield 10, 3) := by decide +kernel
theorem dX9_of_76 : decode cX9_of 76 = .ok (.getfield 145, 3) := by decide +kernel
theorem dX9_of_79 : decode cX9_of 79 = .ok (.iload_n 1, 1) := by decide +kernel
theorem dX9_of_80 : decode cX9_of 80 = .ok (.iaload, 1) := by decide +kernel
theorem dX9_of_81 : decode cX9_of 81 = .ok (.ireturn, 1) := by decide +kernel
theorem dX9_of_82 : decode cX9_of 82 = .ok (.aload_n 0, 1) := by decide +kernel
theorem dX9_of_83 : decode cX9_of 83 = .ok (.getfield 10, 3) := by decide +kernel
theorem dX9_of_86 : decode cX9_of 86 = .ok (.getfield 148, 3) := by decide +kernel
theorem dX9_of_89 : decode cX9_of 89 = .ok (.iload_n 1, 1) := by decide +kernel
theorem dX9_of_90 : decode cX9_of 90 = .ok (.iaload, 1) := by decide +kernel
theorem dX9_of_91 : decode cX9_of 91 = .ok (.ireturn, 1) := by decide +kernel
theorem dX9_of_92 : decode cX9_of 92 = .ok (.aload_n 0, 1) := by decide +kernel
theorem dX9_of_93 : decode cX9_of 93 = .ok (.getfield 10, 3) := by decide +kernel
theorem dX9_of_96 : decode cX9_of 96 = .ok (.getfield 142, 3) := by decide +kernel
theorem dX9_of_99 : decode cX9_of 99 = .ok (.iload_n 1, 1) := by decide +kernel
theorem dX9_of_100 : decode cX9_of 100 = .ok (.iaload, 1) := by decide +kernel
theorem dX9_of_101 : decode cX9_of 101 = .ok (.aload_n 0, 1) := by decide +kernel
theorem dX9_of_102 : decode cX9_of 102 = .ok (.getfield 10, 3) := by decide +kernel
theorem dX9_of_105 : decode cX9_of 105 = .ok (.getfield 139, 3) := by decide +kernel
theorem dX9_of_108 : decode cX9_of 108 = .ok (.aload_n 0, 1) := by decide +kernel
theorem dX9_of_109 : decode cX9_of 109 = .ok (.getfield 10, 3) := by decide +kernel
theorem dX9_of_112 : decode cX9_of 112 = .ok (.getfield 79, 3) := by decide +kernel
theorem dX9_of_115 : decode cX9_of 115 = .ok (.aload_n 0, 1) := by decide +kernel
theorem dX9_of_116 : decode cX9_of 116 = .ok (.getfield 10, 3) := by decide +kernel
theorem dX9_of_119 : decode cX9_of 119 = .ok (.getfield 82, 3) := by decide +kernel
theorem dX9_of_122 : decode cX9_of 122 = .ok (.invokestatic 151, 3) := by decide +kernel
theorem dX9_of_125 : decode cX9_of 125 = .ok (.ireturn, 1) := by decide +kernel
theorem dX9_of_126 : decode cX9_of 126 = .ok (.aload_n 0, 1) := by decide +kernel
theorem dX9_of_127 : decode cX9_of 127 = .ok (.invokevirtual 113, 3) := by decide +kernel
theorem dX9_of_130 : decode cX9_of 130 = .ok (.ireturn, 1) := by decide +kernel
theorem dX9_left_0 : decode cX9_left 0 = .ok (.aload_n 0, 1) := by decide +kernel
theorem dX9_left_1 : decode cX9_left 1 = .ok (.getfield 10, 3) := by decide +kernel
theorem dX9_left_4 : decode cX9_left 4 = .ok (.iload_n 1, 1) := by decide +kernel
theorem dX9_left_5 : decode cX9_left 5 = .ok (.invokevirtual 109, 3) := by decide +kernel
theorem dX9_left_8 : decode cX9_left 8 = .ok (.ifCond .eq 13, 3) := by decide +kernel
theorem dX9_left_11 : decode cX9_left 11 = .ok (.iload_n 2, 1) := by decide +kernel
theorem dX9_left_12 : decode cX9_left 12 = .ok (.iconst 0, 1) := by decide +kernel
theorem dX9_left_13 : decode cX9_left 13 = .ok (.bipush 99, 2) := by decide +kernel
theorem dX9_left_15 : decode cX9_left 15 = .ok (.invokestatic 71, 3) := by decide +kernel
theorem dX9_left_18 : decode cX9_left 18 = .ok (.ifCond .ne 8, 3) := by decide +kernel
theorem dX9_left_21 : decode cX9_left 21 = .ok (.aload_n 0, 1) := by decide +kernel
theorem dX9_left_22 : decode cX9_left 22 = .ok (.invokevirtual 75, 3) := by decide +kernel
theorem dX9_left_25 : decode cX9_left 25 = .ok (.ireturn, 1) := by decide +kernel
theorem dX9_left_26 : decode cX9_left 26 = .ok (.aload_n 0, 1) := by decide +kernel
theorem dX9_left_27 : decode cX9_left 27 = .ok (.getfield 10, 3) := by decide +kernel
theorem dX9_left_30 : decode cX9_left 30 = .ok (.aload_n 0, 1) := by decide +kernel
theorem dX9_left_31 : decode cX9_left 31 = .ok (.getfield 10, 3) := by decide +kernel
theorem dX9_left_34 : decode cX9_left 34 = .ok (.getfield 142, 3) := by decide +kernel
theorem dX9_left_37 : decode cX9_left 37 = .ok (.iload_n 1, 1) := by decide +kernel
theorem dX9_left_38 : decode cX9_left 38 = .ok (.iaload, 1) := by decide +kernel
theorem dX9_left_39 : decode cX9_left 39 = .ok (.aload_n 0, 1) := by decide +kernel
theorem dX9_left_40 : decode cX9_left 40 = .ok (.getfield 10, 3) := by decide +kernel
theorem dX9_left_43 : decode cX9_left 43 = .ok (.getfield 116, 3) := by decide +kernel
theorem dX9_left_46 : decode cX9_left 46 = .ok (.iload_n 1, 1) := by decide +kernel
theorem dX9_left_47 : decode cX9_left 47 = .ok (.iaload, 1) := by decide +kernel
theorem dX9_left_48 : decode cX9_left 48 = .ok (.iload_n 2, 1) := by decide +kernel
theorem dX9_left_49 : decode cX9_left 49 = .ok (.aload_n 0, 1) := by decide +kernel
theorem dX9_left_50 : decode cX9_left 50 = .ok (.getfield 10, 3) := by decide +kernel
theorem dX9_left_53 : decode cX9_left 53 = .ok (.getfield 82, 3) := by decide +kernel
theorem dX9_left_56 : decode cX9_left 56 = .ok (.invokevirtual 157, 3) := by decide +kernel
theorem dX9_left_59 : decode cX9_left 59 = .ok (.ireturn, 1) := by decide +kernel
theorem dX9_till_0 : decode cX9_till 0 = .ok (.aload_n 0, 1) := by decide +kernel
theorem dX9_till_1 : decode cX9_till 1 = .ok (.getfield 10, 3) := by decide +kernel
theorem dX9_till_4 : decode cX9_till 4 = .ok (.iload_n 1, 1) := by decide +kernel
theorem dX9_till_5 : decode cX9_till 5 = .ok (.invokevirtual 109, 3) := by decide +kernel
theorem dX9_till_8 : decode cX9_till 8 = .ok (.ifCond .ne 8, 3) := by decide +kernel
theorem dX9_till_11 : decode cX9_till 11 = .ok (.aload_n 0, 1) := by decide +kernel
theorem dX9_till_12 : decode cX9_till 12 = .ok (.invokevirtual 75, 3) := by decide +kernel
theorem dX9_till_15 : decode cX9_till 15 = .ok (.ireturn, 1) := by decide +kernel
theorem dX9_till_16 : decode cX9_till 16 = .ok (.aload_n 0, 1) := by decide +kernel
theorem dX9_till_17 : decode cX9_till 17 = .ok (.getfield 10, 3) := by decide +kernel
theorem dX9_till_20 : decode cX9_till 20 = .ok (.iload_n 1, 1) := by decide +kernel
theorem dX9_till_21 : decode cX9_till 21 = .ok (.invokestatic 160, 3) := by decide +kernel
theorem dX9_till_24 : decode cX9_till 24 = .ok (.ireturn, 1) := by decide +kernel
theorem dX9_together_0 : decode cX9_together 0 = .ok (.iload_n 1, 1) := by decide +kernel
theorem dX9_together_1 : decode cX9_together 1 = .ok (.iconst 0, 1) := by decide +kernel
theorem dX9_together_2 : decode cX9_together 2 = .ok (.iconst 1, 1) := by decide +kernel
theorem dX9_together_3 : decode cX9_together 3 = .ok (.invokestatic 71, 3) := by decide +kernel
theorem dX9_together_6 : decode cX9_together 6 = .ok (.ifCond .ne 8, 3) := by decide +kernel
theorem dX9_together_9 : decode cX9_together 9 = .ok (.aload_n 0, 1) := by decide +kernel
theorem dX9_together_10 : decode cX9_together 10 = .ok (.invokevirtual 75, 3) := by decide +kernel
theorem dX9_together_13 : decode cX9_together 13 = .ok (.ireturn, 1) := by decide +kernel
theorem dX9_together_14 : decode cX9_together 14 = .ok (.aload_n 0, 1) := by decide +kernel
theorem dX9_together_15 : decode cX9_together 15 = .ok (.getfield 30, 3) := by decide +kernel
theorem dX9_together_18 : decode cX9_together 18 = .ok (.aload_n 0, 1) := by decide +kernel
theorem dX9_together_19 : decode cX9_together 19 = .ok (.getfield 10, 3) := by decide +kernel
theorem dX9_together_22 : decode cX9_together 22 = .ok (.invokevirtual 164, 3) := by decide +kernel
theorem dX9_together_25 : decode cX9_together 25 = .ok (.iload_n 1, 1) := by decide +kernel
theorem dX9_together_26 : decode cX9_together 26 = .ok (.ifCond .ne 13, 3) := by decide +kernel
theorem dX9_together_29 : decode cX9_together 29 = .ok (.aload_n 0, 1) := by decide +kernel
theorem dX9_together_30 : decode cX9_together 30 = .ok (.getfield 30, 3) := by decide +kernel
theorem dX9_together_33 : decode cX9_together 33 = .ok (.getfield 168, 3) := by decide +kernel
theorem dX9_together_36 : decode cX9_together 36 = .ok (.goto 10, 3) := by decide +kernel
theorem dX9_together_39 : decode cX9_together 39 = .ok (.aload_n 0, 1) := by decide +kernel
theorem dX9_together_40 : decode cX9_together 40 = .ok (.getfield 30, 3) := by decide +kernel
theorem dX9_together_43 : decode cX9_together 43 = .ok (.getfield 171, 3) := by decide +kernel
theorem dX9_together_46 : decode cX9_together 46 = .ok (.ireturn, 1) := by decide +kernel
theorem dX9_gifts_0 : decode cX9_gifts 0 = .ok (.aload_n 0, 1) := by decide +kernel
theorem dX9_gifts_1 : decode cX9_gifts 1 = .ok (.getfield 10, 3) := by decide +kernel
theorem dX9_gifts_4 : decode cX9_gifts 4 = .ok (.iload_n 1, 1) := by decide +kernel
theorem dX9_gifts_5 : decode cX9_gifts 5 = .ok (.invokevirtual 109, 3) := by decide +kernel
theorem dX9_gifts_8 : decode cX9_gifts 8 = .ok (.ifCond .eq 19, 3) := by decide +kernel
theorem dX9_gifts_11 : decode cX9_gifts 11 = .ok (.aload_n 0, 1) := by decide +kernel
theorem dX9_gifts_12 : decode cX9_gifts 12 = .ok (.getfield 10, 3) := by decide +kernel
theorem dX9_gifts_15 : decode cX9_gifts 15 = .ok (.iload_n 2, 1) := by decide +kernel
theorem dX9_gifts_16 : decode cX9_gifts 16 = .ok (.invokevirtual 109, 3) := by decide +kernel
theorem dX9_gifts_19 : decode cX9_gifts 19 = .ok (.ifCond .eq 8, 3) := by decide +kernel
theorem dX9_gifts_22 : decode cX9_gifts 22 = .ok (.iload_n 1, 1) := by decide +kernel
theorem dX9_gifts_23 : decode cX9_gifts 23 = .ok (.iload_n 2, 1) := by decide +kernel
theorem dX9_gifts_24 : decode cX9_gifts 24 = .ok (.if_icmp .ne 8, 3) := by decide +kernel
theorem dX9_gifts_27 : decode cX9_gifts 27 = .ok (.aload_n 0, 1) := by decide +kernel
theorem dX9_gifts_28 : decode cX9_gifts 28 = .ok (.invokevirtual 75, 3) := by decide +kernel
theorem dX9_gifts_31 : decode cX9_gifts 31 = .ok (.ireturn, 1) := by decide +kernel
theorem dX9_gifts_32 : decode cX9_gifts 32 = .ok (.iload_n 3, 1) := by decide +kernel
theorem dX9_gifts_33 : decode cX9_gifts 33 = .ok (.iconst 1, 1) := by decide +kernel
theorem dX9_gifts_34 : decode cX9_gifts 34 = .ok (.bipush 60, 2) := by decide +kernel
theorem dX9_gifts_36 : decode cX9_gifts 36 = .ok (.invokestatic 71, 3) := by decide +kernel
theorem dX9_gifts_39 : decode cX9_gifts 39 = .ok (.ifCond .eq 13, 3) := by decide +kernel
theorem dX9_gifts_42 : decode cX9_gifts 42 = .ok (.iload 4, 2) := by decide +kernel
theorem dX9_gifts_44 : decode cX9_gifts 44 = .ok (.iconst 0, 1) := by decide +kernel
theorem dX9_gifts_45 : decode cX9_gifts 45 = .ok (.iconst 2, 1) := by decide +kernel
theorem dX9_gifts_46 : decode cX9_gifts 46 = .ok (.invokestatic 71, 3) := by decide +kernel
theorem dX9_gifts_49 : decode cX9_gifts 49 = .ok (.ifCond .ne 8, 3) := by decide +kernel
theorem dX9_gifts_52 : decode cX9_gifts 52 = .ok (.aload_n 0, 1) := by decide +kernel
theorem dX9_gifts_53 : decode cX9_gifts 53 = .ok (.invokevirtual 75, 3) := by decide +kernel
theorem dX9_gifts_56 : decode cX9_gifts 56 = .ok (.ireturn, 1) := by decide +kernel
theorem dX9_gifts_57 : decode cX9_gifts 57 = .ok (.aload_n 0, 1) := by decide +kernel
theorem dX9_gifts_58 : decode cX9_gifts 58 = .ok (.getfield 37, 3) := by decide +kernel
theorem dX9_gifts_61 : decode cX9_gifts 61 = .ok (.aload_n 0, 1) := by decide +kernel
theorem dX9_gifts_62 : decode cX9_gifts 62 = .ok (.getfield 10, 3) := by decide +kernel
theorem dX9_gifts_65 : decode cX9_gifts 65 = .ok (.iload_n 1, 1) := by decide +kernel
theorem dX9_gifts_66 : decode cX9_gifts 66 = .ok (.iload_n 2, 1) := by decide +kernel
theorem dX9_gifts_67 : decode cX9_gifts 67 = .ok (.iload_n 3, 1) := by decide +kernel
theorem dX9_gifts_68 : decode cX9_gifts 68 = .ok (.invokevirtual 174, 3) := by decide +kernel
theorem dX9_gifts_71 : decode cX9_gifts 71 = .ok (.iload 4, 2) := by decide +kernel
theorem dX9_gifts_73 : decode cX9_gifts 73 = .ok (.ifCond .ne 11, 3) := by decide +kernel
theorem dX9_gifts_76 : decode cX9_gifts 76 = .ok (.aload_n 0, 1) := by decide +kernel
theorem dX9_gifts_77 : decode cX9_gifts 77 = .ok (.getfield 37, 3) := by decide +kernel
theorem dX9_gifts_80 : decode cX9_gifts 80 = .ok (.getfield 178, 3) := by decide +kernel
theorem dX9_gifts_83 : decode cX9_gifts 83 = .ok (.ireturn, 1) := by decide +kernel
theorem dX9_gifts_84 : decode cX9_gifts 84 = .ok (.iload 4, 2) := by decide +kernel
theorem dX9_gifts_86 : decode cX9_gifts 86 = .ok (.iconst 1, 1) := by decide +kernel
theorem dX9_gifts_87 : decode cX9_gifts 87 = .ok (.if_icmp .ne 13, 3) := by decide +kernel
theorem dX9_gifts_90 : decode cX9_gifts 90 = .ok (.aload_n 0, 1) := by decide +kernel
theorem dX9_gifts_91 : decode cX9_gifts 91 = .ok (.getfield 37, 3) := by decide +kernel
theorem dX9_gifts_94 : decode cX9_gifts 94 = .ok (.getfield 181, 3) := by decide +kernel
theorem dX9_gifts_97 : decode cX9_gifts 97 = .ok (.goto 10, 3) := by decide +kernel
theorem dX9_gifts_100 : decode cX9_gifts 100 = .ok (.aload_n 0, 1) := by decide +kernel
theorem dX9_gifts_101 : decode cX9_gifts 101 = .ok (.getfield 37, 3) := by decide +kernel
theorem dX9_gifts_104 : decode cX9_gifts 104 = .ok (.getfield 184, 3) := by decide +kernel
theorem dX9_gifts_107 : decode cX9_gifts 107 = .ok (.ireturn, 1) := by decide +kernel
theorem dX9_drought_0 : decode cX9_drought 0 = .ok (.iload_n 1, 1) := by decide +kernel
theorem dX9_drought_1 : decode cX9_drought 1 = .ok (.iconst 0, 1) := by decide +kernel
theorem dX9_drought_2 : decode cX9_drought 2 = .ok (.bipush 60, 2) := by decide +kernel
theorem dX9_drought_4 : decode cX9_drought 4 = .ok (.invokestatic 71, 3) := by decide +kernel
theorem dX9_drought_7 : decode cX9_drought 7 = .ok (.ifCond .ne 8, 3) := by decide +kernel
theorem dX9_drought_10 : decode cX9_drought 10 = .ok (.aload_n 0, 1) := by decide +kernel
theorem dX9_drought_11 : decode cX9_drought 11 = .ok (.invokevirtual 75, 3) := by decide +kernel
theorem dX9_drought_14 : decode cX9_drought 14 = .ok (.ireturn, 1) := by decide +kernel
theorem dX9_drought_15 : decode cX9_drought 15 = .ok (.aload_n 0, 1) := by decide +kernel
theorem dX9_drought_16 : decode cX9_drought 16 = .ok (.getfield 10, 3) := by decide +kernel
theorem dX9_drought_19 : decode cX9_drought 19 = .ok (.iload_n 1, 1) := by decide +kernel
theorem dX9_drought_20 : decode cX9_drought 20 = .ok (.invokestatic 187, 3) := by decide +kernel
theorem dX9_drought_23 : decode cX9_drought 23 = .ok (.ireturn, 1) := by decide +kernel
theorem dX9_counted_0 : decode cX9_counted 0 = .ok (.aload_n 0, 1) := by decide +kernel
theorem dX9_counted_1 : decode cX9_counted 1 = .ok (.getfield 10, 3) := by decide +kernel
theorem dX9_counted_4 : decode cX9_counted 4 = .ok (.iload_n 1, 1) := by decide +kernel
theorem dX9_counted_5 : decode cX9_counted 5 = .ok (.invokevirtual 109, 3) := by decide +kernel
theorem dX9_counted_8 : decode cX9_counted 8 = .ok (.ifCond .eq 23, 3) := by decide +kernel
theorem dX9_counted_11 : decode cX9_counted 11 = .ok (.iload_n 2, 1) := by decide +kernel
theorem dX9_counted_12 : decode cX9_counted 12 = .ok (.iconst 0, 1) := by decide +kernel
theorem dX9_counted_13 : decode cX9_counted 13 = .ok (.bipush 60, 2) := by decide +kernel
theorem dX9_counted_15 : decode cX9_counted 15 = .ok (.invokestatic 71, 3) := by decide +kernel
theorem dX9_counted_18 : decode cX9_counted 18 = .ok (.ifCond .eq 13, 3) := by decide +kernel
theorem dX9_counted_21 : decode cX9_counted 21 = .ok (.iload_n 3, 1) := by decide +kernel
theorem dX9_counted_22 : decode cX9_counted 22 = .ok (.iconst 0, 1) := by decide +kernel
theorem dX9_counted_23 : decode cX9_counted 23 = .ok (.bipush 60, 2) := by decide +kernel
theorem dX9_counted_25 : decode cX9_counted 25 = .ok (.invokestatic 71, 3) := by decide +kernel
theorem dX9_counted_28 : decode cX9_counted 28 = .ok (.ifCond .ne 8, 3) := by decide +kernel
theorem dX9_counted_31 : decode cX9_counted 31 = .ok (.aload_n 0, 1) := by decide +kernel
theorem dX9_counted_32 : decode cX9_counted 32 = .ok (.invokevirtual 75, 3) := by decide +kernel
theorem dX9_counted_35 : decode cX9_counted 35 = .ok (.ireturn, 1) := by decide +kernel
theorem dX9_counted_36 : decode cX9_counted 36 = .ok (.aload_n 0, 1) := by decide +kernel
theorem dX9_counted_37 : decode cX9_counted 37 = .ok (.getfield 10, 3) := by decide +kernel
theorem dX9_counted_40 : decode cX9_counted 40 = .ok (.iload_n 1, 1) := by decide +kernel
theorem dX9_counted_41 : decode cX9_counted 41 = .ok (.iload_n 2, 1) := by decide +kernel
theorem dX9_counted_42 : decode cX9_counted 42 = .ok (.iload_n 3, 1) := by decide +kernel
theorem dX9_counted_43 : decode cX9_counted 43 = .ok (.invokevirtual 190, 3) := by decide +kernel
theorem dX9_counted_46 : decode cX9_counted 46 = .ok (.istore 4, 2) := by decide +kernel
theorem dX9_counted_48 : decode cX9_counted 48 = .ok (.iload 4, 2) := by decide +kernel
theorem dX9_counted_50 : decode cX9_counted 50 = .ok (.bipush (-4), 2) := by decide +kernel
theorem dX9_counted_52 : decode cX9_counted 52 = .ok (.if_icmp .ne 10, 3) := by decide +kernel
theorem dX9_counted_55 : decode cX9_counted 55 = .ok (.aload_n 0, 1) := by decide +kernel
theorem dX9_counted_56 : decode cX9_counted 56 = .ok (.invokevirtual 89, 3) := by decide +kernel
theorem dX9_counted_59 : decode cX9_counted 59 = .ok (.goto 5, 3) := by decide +kernel
theorem dX9_counted_62 : decode cX9_counted 62 = .ok (.iload 4, 2) := by decide +kernel
theorem dX9_counted_64 : decode cX9_counted 64 = .ok (.ireturn, 1) := by decide +kernel
theorem dX9_forget_0 : decode cX9_forget 0 = .ok (.aload_n 0, 1) := by decide +kernel
theorem dX9_forget_1 : decode cX9_forget 1 = .ok (.getfield 10, 3) := by decide +kernel
theorem dX9_forget_4 : decode cX9_forget 4 = .ok (.getfield 194, 3) := by decide +kernel
theorem dX9_forget_7 : decode cX9_forget 7 = .ok (.istore_n 1, 1) := by decide +kernel
theorem dX9_forget_8 : decode cX9_forget 8 = .ok (.aload_n 0, 1) := by decide +kernel
theorem dX9_forget_9 : decode cX9_forget 9 = .ok (.getfield 10, 3) := by decide +kernel
theorem dX9_forget_12 : decode cX9_forget 12 = .ok (.iconst 0, 1) := by decide +kernel
theorem dX9_forget_13 : decode cX9_forget 13 = .ok (.putfield 194, 3) := by decide +kernel
theorem dX9_forget_16 : decode cX9_forget 16 = .ok (.iload_n 1, 1) := by decide +kernel
theorem dX9_forget_17 : decode cX9_forget 17 = .ok (.ireturn, 1) := by decide +kernel
theorem dX9_is_0 : decode cX9_is 0 = .ok (.aload_n 0, 1) := by decide +kernel
theorem dX9_is_1 : decode cX9_is 1 = .ok (.getfield 10, 3) := by decide +kernel
theorem dX9_is_4 : decode cX9_is 4 = .ok (.iload_n 1, 1) := by decide +kernel
theorem dX9_is_5 : decode cX9_is 5 = .ok (.invokevirtual 109, 3) := by decide +kernel
theorem dX9_is_8 : decode cX9_is 8 = .ok (.ifCond .ne 8, 3) := by decide +kernel
theorem dX9_is_11 : decode cX9_is 11 = .ok (.aload_n 0, 1) := by decide +kernel
theorem dX9_is_12 : decode cX9_is 12 = .ok (.invokevirtual 75, 3) := by decide +kernel
theorem dX9_is_15 : decode cX9_is 15 = .ok (.ireturn, 1) := by decide +kernel
theorem dX9_is_16 : decode cX9_is 16 = .ok (.aload_n 0, 1) := by decide +kernel
theorem dX9_is_17 : decode cX9_is 17 = .ok (.getfield 10, 3) := by decide +kernel
theorem dX9_is_20 : decode cX9_is 20 = .ok (.iload_n 1, 1) := by decide +kernel
theorem dX9_is_21 : decode cX9_is 21 = .ok (.invokestatic 197, 3) := by decide +kernel
theorem dX9_is_24 : decode cX9_is 24 = .ok (.ireturn, 1) := by decide +kernel
theorem dX9_next_0 : decode cX9_next 0 = .ok (.aload_n 0, 1) := by decide +kernel
theorem dX9_next_1 : decode cX9_next 1 = .ok (.getfield 10, 3) := by decide +kernel
theorem dX9_next_4 : decode cX9_next 4 = .ok (.iload_n 1, 1) := by decide +kernel
theorem dX9_next_5 : decode cX9_next 5 = .ok (.invokevirtual 109, 3) := by decide +kernel
theorem dX9_next_8 : decode cX9_next 8 = .ok (.ifCond .ne 8, 3) := by decide +kernel
theorem dX9_next_11 : decode cX9_next 11 = .ok (.aload_n 0, 1) := by decide +kernel
theorem dX9_next_12 : decode cX9_next 12 = .ok (.invokevirtual 75, 3) := by decide +kernel
theorem dX9_next_15 : decode cX9_next 15 = .ok (.ireturn, 1) := by decide +kernel
theorem dX9_next_16 : decode cX9_next 16 = .ok (.aload_n 0, 1) := by decide +kernel
theorem dX9_next_17 : decode cX9_next 17 = .ok (.getfield 44, 3) := by decide +kernel
theorem dX9_next_20 : decode cX9_next 20 = .ok (.aload_n 0, 1) := by decide +kernel
theorem dX9_next_21 : decode cX9_next 21 = .ok (.getfield 10, 3) := by decide +kernel
theorem dX9_next_24 : decode cX9_next 24 = .ok (.iload_n 1, 1) := by decide +kernel
theorem dX9_next_25 : decode cX9_next 25 = .ok (.invokevirtual 200, 3) := by decide +kernel
theorem dX9_next_28 : decode cX9_next 28 = .ok (.ireturn, 1) := by decide +kernel
theorem dX9_swapped_0 : decode cX9_swapped 0 = .ok (.iload_n 1, 1) := by decide +kernel
theorem dX9_swapped_1 : decode cX9_swapped 1 = .ok (.iconst (-1), 1) := by decide +kernel
theorem dX9_swapped_2 : decode cX9_swapped 2 = .ok (.if_icmp .ge 8, 3) := by decide +kernel
theorem dX9_swapped_5 : decode cX9_swapped 5 = .ok (.aload_n 0, 1) := by decide +kernel
theorem dX9_swapped_6 : decode cX9_swapped 6 = .ok (.invokevirtual 113, 3) := by decide +kernel
theorem dX9_swapped_9 : decode cX9_swapped 9 = .ok (.ireturn, 1) := by decide +kernel
theorem dX9_swapped_10 : decode cX9_swapped 10 = .ok (.aload_n 0, 1) := by decide +kernel
theorem dX9_swapped_11 : decode cX9_swapped 11 = .ok (.getfield 10, 3) := by decide +kernel
theorem dX9_swapped_14 : decode cX9_swapped 14 = .ok (.iload_n 1, 1) := by decide +kernel
theorem dX9_swapped_15 : decode cX9_swapped 15 = .ok (.invokestatic 203, 3) := by decide +kernel
theorem dX9_swapped_18 : decode cX9_swapped 18 = .ok (.ireturn, 1) := by decide +kernel
theorem dX9_back_0 : decode cX9_back 0 = .ok (.aload_n 0, 1) := by decide +kernel
theorem dX9_back_1 : decode cX9_back 1 = .ok (.getfield 10, 3) := by decide +kernel
theorem dX9_back_4 : decode cX9_back 4 = .ok (.invokestatic 206, 3) := by decide +kernel
theorem dX9_back_7 : decode cX9_back 7 = .ok (.ireturn, 1) := by decide +kernel
theorem dX9_crusts_0 : decode cX9_crusts 0 = .ok (.aload_n 0, 1) := by decide +kernel
theorem dX9_crusts_1 : decode cX9_crusts 1 = .ok (.getfield 10, 3) := by decide +kernel
theorem dX9_crusts_4 : decode cX9_crusts 4 = .ok (.iload_n 1, 1) := by decide +kernel
theorem dX9_crusts_5 : decode cX9_crusts 5 = .ok (.invokevirtual 109, 3) := by decide +kernel
theorem dX9_crusts_8 : decode cX9_crusts 8 = .ok (.ifCond .eq 12, 3) := by decide +kernel
theorem dX9_crusts_11 : decode cX9_crusts 11 = .ok (.iload_n 2, 1) := by decide +kernel
theorem dX9_crusts_12 : decode cX9_crusts 12 = .ok (.iconst 0, 1) := by decide +kernel
theorem dX9_crusts_13 : decode cX9_crusts 13 = .ok (.iconst 1, 1) := by decide +kernel
theorem dX9_crusts_14 : decode cX9_crusts 14 = .ok (.invokestatic 71, 3) := by decide +kernel
theorem dX9_crusts_17 : decode cX9_crusts 17 = .ok (.ifCond .ne 8, 3) := by decide +kernel
theorem dX9_crusts_20 : decode cX9_crusts 20 = .ok (.aload_n 0, 1) := by decide +kernel
theorem dX9_crusts_21 : decode cX9_crusts 21 = .ok (.invokevirtual 75, 3) := by decide +kernel
theorem dX9_crusts_24 : decode cX9_crusts 24 = .ok (.ireturn, 1) := by decide +kernel
theorem dX9_crusts_25 : decode cX9_crusts 25 = .ok (.aload_n 0, 1) := by decide +kernel
theorem dX9_crusts_26 : decode cX9_crusts 26 = .ok (.getfield 10, 3) := by decide +kernel
theorem dX9_crusts_29 : decode cX9_crusts 29 = .ok (.getfield 116, 3) := by decide +kernel
theorem dX9_crusts_32 : decode cX9_crusts 32 = .ok (.iload_n 1, 1) := by decide +kernel
theorem dX9_crusts_33 : decode cX9_crusts 33 = .ok (.iaload, 1) := by decide +kernel
theorem dX9_crusts_34 : decode cX9_crusts 34 = .ok (.istore_n 3, 1) := by decide +kernel
theorem dX9_crusts_35 : decode cX9_crusts 35 = .ok (.iload_n 2, 1) := by decide +kernel
theorem dX9_crusts_36 : decode cX9_crusts 36 = .ok (.ifCond .ne 10, 3) := by decide +kernel
theorem dX9_crusts_39 : decode cX9_crusts 39 = .ok (.iload_n 3, 1) := by decide +kernel
theorem dX9_crusts_40 : decode cX9_crusts 40 = .ok (.invokestatic 209, 3) := by decide +kernel
theorem dX9_crusts_43 : decode cX9_crusts 43 = .ok (.goto 7, 3) := by decide +kernel
theorem dX9_crusts_46 : decode cX9_crusts 46 = .ok (.iload_n 3, 1) := by decide +kernel
theorem dX9_crusts_47 : decode cX9_crusts 47 = .ok (.invokestatic 214, 3) := by decide +kernel
theorem dX9_crusts_50 : decode cX9_crusts 50 = .ok (.ireturn, 1) := by decide +kernel
theorem dX9_mice_0 : decode cX9_mice 0 = .ok (.aload_n 0, 1) := by decide +kernel
theorem dX9_mice_1 : decode cX9_mice 1 = .ok (.getfield 10, 3) := by decide +kernel
theorem dX9_mice_4 : decode cX9_mice 4 = .ok (.iload_n 1, 1) := by decide +kernel
theorem dX9_mice_5 : decode cX9_mice 5 = .ok (.invokevirtual 109, 3) := by decide +kernel
theorem dX9_mice_8 : decode cX9_mice 8 = .ok (.ifCond .eq 23, 3) := by decide +kernel
theorem dX9_mice_11 : decode cX9_mice 11 = .ok (.iload_n 2, 1) := by decide +kernel
theorem dX9_mice_12 : decode cX9_mice 12 = .ok (.iconst 0, 1) := by decide +kernel
theorem dX9_mice_13 : decode cX9_mice 13 = .ok (.bipush 12, 2) := by decide +kernel
theorem dX9_mice_15 : decode cX9_mice 15 = .ok (.invokestatic 71, 3) := by decide +kernel
theorem dX9_mice_18 : decode cX9_mice 18 = .ok (.ifCond .eq 13, 3) := by decide +kernel
theorem dX9_mice_21 : decode cX9_mice 21 = .ok (.iload_n 3, 1) := by decide +kernel
theorem dX9_mice_22 : decode cX9_mice 22 = .ok (.iconst 0, 1) := by decide +kernel
theorem dX9_mice_23 : decode cX9_mice 23 = .ok (.bipush 10, 2) := by decide +kernel
theorem dX9_mice_25 : decode cX9_mice 25 = .ok (.invokestatic 71, 3) := by decide +kernel
theorem dX9_mice_28 : decode cX9_mice 28 = .ok (.ifCond .ne 8, 3) := by decide +kernel
theorem dX9_mice_31 : decode cX9_mice 31 = .ok (.aload_n 0, 1) := by decide +kernel
theorem dX9_mice_32 : decode cX9_mice 32 = .ok (.invokevirtual 75, 3) := by decide +kernel
theorem dX9_mice_35 : decode cX9_mice 35 = .ok (.ireturn, 1) := by decide +kernel
theorem dX9_mice_36 : decode cX9_mice 36 = .ok (.aload_n 0, 1) := by decide +kernel
theorem dX9_mice_37 : decode cX9_mice 37 = .ok (.getfield 30, 3) := by decide +kernel
theorem dX9_mice_40 : decode cX9_mice 40 = .ok (.aload_n 0, 1) := by decide +kernel
theorem dX9_mice_41 : decode cX9_mice 41 = .ok (.getfield 10, 3) := by decide +kernel
theorem dX9_mice_44 : decode cX9_mice 44 = .ok (.iload_n 1, 1) := by decide +kernel
theorem dX9_mice_45 : decode cX9_mice 45 = .ok (.iload_n 2, 1) := by decide +kernel
theorem dX9_mice_46 : decode cX9_mice 46 = .ok (.iload_n 3, 1) := by decide +kernel
theorem dX9_mice_47 : decode cX9_mice 47 = .ok (.aload_n 0, 1) := by decide +kernel
theorem dX9_mice_48 : decode cX9_mice 48 = .ok (.getfield 51, 3) := by decide +kernel
theorem dX9_mice_51 : decode cX9_mice 51 = .ok (.invokevirtual 217, 3) := by decide +kernel
theorem dX9_mice_54 : decode cX9_mice 54 = .ok (.iconst 1, 1) := by decide +kernel
theorem dX9_mice_55 : decode cX9_mice 55 = .ok (.ireturn, 1) := by decide +kernel
theorem dX9_years_0 : decode cX9_years 0 = .ok (.iload_n 1, 1) := by decide +kernel
theorem dX9_years_1 : decode cX9_years 1 = .ok (.iconst 0, 1) := by decide +kernel
theorem dX9_years_2 : decode cX9_years 2 = .ok (.ldc 221, 2) := by decide +kernel
theorem dX9_years_4 : decode cX9_years 4 = .ok (.invokestatic 71, 3) := by decide +kernel
theorem dX9_years_7 : decode cX9_years 7 = .ok (.ifCond .eq 23, 3) := by decide +kernel
theorem dX9_years_10 : decode cX9_years 10 = .ok (.iload_n 2, 1) := by decide +kernel
theorem dX9_years_11 : decode cX9_years 11 = .ok (.iconst 0, 1) := by decide +kernel
theorem dX9_years_12 : decode cX9_years 12 = .ok (.bipush 60, 2) := by decide +kernel
theorem dX9_years_14 : decode cX9_years 14 = .ok (.invokestatic 71, 3) := by decide +kernel
theorem dX9_years_17 : decode cX9_years 17 = .ok (.ifCond .eq 13, 3) := by decide +kernel
theorem dX9_years_20 : decode cX9_years 20 = .ok (.iload_n 3, 1) := by decide +kernel
theorem dX9_years_21 : decode cX9_years 21 = .ok (.iconst 0, 1) := by decide +kernel
theorem dX9_years_22 : decode cX9_years 22 = .ok (.bipush 100, 2) := by decide +kernel
theorem dX9_years_24 : decode cX9_years 24 = .ok (.invokestatic 71, 3) := by decide +kernel
theorem dX9_years_27 : decode cX9_years 27 = .ok (.ifCond .ne 8, 3) := by decide +kernel
theorem dX9_years_30 : decode cX9_years 30 = .ok (.aload_n 0, 1) := by decide +kernel
theorem dX9_years_31 : decode cX9_years 31 = .ok (.invokevirtual 75, 3) := by decide +kernel
theorem dX9_years_34 : decode cX9_years 34 = .ok (.ireturn, 1) := by decide +kernel
theorem dX9_years_35 : decode cX9_years 35 = .ok (.aload_n 0, 1) := by decide +kernel
theorem dX9_years_36 : decode cX9_years 36 = .ok (.getfield 30, 3) := by decide +kernel
theorem dX9_years_39 : decode cX9_years 39 = .ok (.aload_n 0, 1) := by decide +kernel
theorem dX9_years_40 : decode cX9_years 40 = .ok (.getfield 10, 3) := by decide +kernel
theorem dX9_years_43 : decode cX9_years 43 = .ok (.iload_n 1, 1) := by decide +kernel
theorem dX9_years_44 : decode cX9_years 44 = .ok (.iload_n 2, 1) := by decide +kernel
theorem dX9_years_45 : decode cX9_years 45 = .ok (.iload_n 3, 1) := by decide +kernel
theorem dX9_years_46 : decode cX9_years 46 = .ok (.invokevirtual 222, 3) := by decide +kernel
theorem dX9_years_49 : decode cX9_years 49 = .ok (.ireturn, 1) := by decide +kernel
theorem dX9_part_0 : decode cX9_part 0 = .ok (.iload_n 1, 1) := by decide +kernel
theorem dX9_part_1 : decode cX9_part 1 = .ok (.iconst 0, 1) := by decide +kernel
theorem dX9_part_2 : decode cX9_part 2 = .ok (.iconst 1, 1) := by decide +kernel
theorem dX9_part_3 : decode cX9_part 3 = .ok (.invokestatic 71, 3) := by decide +kernel
theorem dX9_part_6 : decode cX9_part 6 = .ok (.ifCond .ne 9, 3) := by decide +kernel
theorem dX9_part_9 : decode cX9_part 9 = .ok (.aload_n 0, 1) := by decide +kernel
theorem dX9_part_10 : decode cX9_part 10 = .ok (.invokevirtual 75, 3) := by decide +kernel
theorem dX9_part_13 : decode cX9_part 13 = .ok (.i2l, 1) := by decide +kernel
theorem dX9_part_14 : decode cX9_part 14 = .ok (.lreturn, 1) := by decide +kernel
theorem dX9_part_15 : decode cX9_part 15 = .ok (.iload_n 1, 1) := by decide +kernel
theorem dX9_part_16 : decode cX9_part 16 = .ok (.ifCond .ne 13, 3) := by decide +kernel
theorem dX9_part_19 : decode cX9_part 19 = .ok (.aload_n 0, 1) := by decide +kernel
theorem dX9_part_20 : decode cX9_part 20 = .ok (.getfield 51, 3) := by decide +kernel
theorem dX9_part_23 : decode cX9_part 23 = .ok (.getfield 226, 3) := by decide +kernel
theorem dX9_part_26 : decode cX9_part 26 = .ok (.goto 10, 3) := by decide +kernel
theorem dX9_part_29 : decode cX9_part 29 = .ok (.aload_n 0, 1) := by decide +kernel
theorem dX9_part_30 : decode cX9_part 30 = .ok (.getfield 51, 3) := by decide +kernel
theorem dX9_part_33 : decode cX9_part 33 = .ok (.getfield 230, 3) := by decide +kernel
theorem dX9_part_36 : decode cX9_part 36 = .ok (.lreturn, 1) := by decide +kernel
theorem dX9_image_0 : decode cX9_image 0 = .ok (.iload_n 1, 1) := by decide +kernel
theorem dX9_image_1 : decode cX9_image 1 = .ok (.iconst 0, 1) := by decide +kernel
theorem dX9_image_2 : decode cX9_image 2 = .ok (.iconst 1, 1) := by decide +kernel
theorem dX9_image_3 : decode cX9_image 3 = .ok (.invokestatic 71, 3) := by decide +kernel
theorem dX9_image_6 : decode cX9_image 6 = .ok (.ifCond .ne 8, 3) := by decide +kernel
theorem dX9_image_9 : decode cX9_image 9 = .ok (.aload_n 0, 1) := by decide +kernel
theorem dX9_image_10 : decode cX9_image 10 = .ok (.invokevirtual 75, 3) := by decide +kernel
theorem dX9_image_13 : decode cX9_image 13 = .ok (.ireturn, 1) := by decide +kernel
theorem dX9_image_14 : decode cX9_image 14 = .ok (.aload_n 0, 1) := by decide +kernel
theorem dX9_image_15 : decode cX9_image 15 = .ok (.getfield 16, 3) := by decide +kernel
theorem dX9_image_18 : decode cX9_image 18 = .ok (.iload_n 1, 1) := by decide +kernel
theorem dX9_image_19 : decode cX9_image 19 = .ok (.aaload, 1) := by decide +kernel
theorem dX9_image_20 : decode cX9_image 20 = .ok (.astore_n 2, 1) := by decide +kernel
theorem dX9_image_21 : decode cX9_image 21 = .ok (.aload_n 2, 1) := by decide +kernel
theorem dX9_image_22 : decode cX9_image 22 = .ok (.ifnonnull 18, 3) := by decide +kernel
theorem dX9_image_25 : decode cX9_image 25 = .ok (.new 7, 3) := by decide +kernel
theorem dX9_image_28 : decode cX9_image 28 = .ok (.dup, 1) := by decide +kernel
theorem dX9_image_29 : decode cX9_image 29 = .ok (.invokespecial 9, 3) := by decide +kernel
theorem dX9_image_32 : decode cX9_image 32 = .ok (.astore_n 2, 1) := by decide +kernel
theorem dX9_image_33 : decode cX9_image 33 = .ok (.aload_n 0, 1) := by decide +kernel
theorem dX9_image_34 : decode cX9_image 34 = .ok (.getfield 16, 3) := by decide +kernel
theorem dX9_image_37 : decode cX9_image 37 = .ok (.iload_n 1, 1) := by decide +kernel
theorem dX9_image_38 : decode cX9_image 38 = .ok (.aload_n 2, 1) := by decide +kernel
theorem dX9_image_39 : decode cX9_image 39 = .ok (.aastore, 1) := by decide +kernel
theorem dX9_image_40 : decode cX9_image 40 = .ok (.aload_n 2, 1) := by decide +kernel
theorem dX9_image_41 : decode cX9_image 41 = .ok (.aload_n 0, 1) := by decide +kernel
theorem dX9_image_42 : decode cX9_image 42 = .ok (.getfield 10, 3) := by decide +kernel
theorem dX9_image_45 : decode cX9_image 45 = .ok (.invokevirtual 233, 3) := by decide +kernel
theorem dX9_image_48 : decode cX9_image 48 = .ok (.iconst 1, 1) := by decide +kernel
theorem dX9_image_49 : decode cX9_image 49 = .ok (.ireturn, 1) := by decide +kernel
theorem dX9_from_0 : decode cX9_from 0 = .ok (.iload_n 1, 1) := by decide +kernel
theorem dX9_from_1 : decode cX9_from 1 = .ok (.iconst 0, 1) := by decide +kernel
theorem dX9_from_2 : decode cX9_from 2 = .ok (.iconst 1, 1) := by decide +kernel
theorem dX9_from_3 : decode cX9_from 3 = .ok (.invokestatic 71, 3) := by decide +kernel
theorem dX9_from_6 : decode cX9_from 6 = .ok (.ifCond .ne 8, 3) := by decide +kernel
theorem dX9_from_9 : decode cX9_from 9 = .ok (.aload_n 0, 1) := by decide +kernel
theorem dX9_from_10 : decode cX9_from 10 = .ok (.invokevirtual 75, 3) := by decide +kernel
theorem dX9_from_13 : decode cX9_from 13 = .ok (.ireturn, 1) := by decide +kernel
theorem dX9_from_14 : decode cX9_from 14 = .ok (.aload_n 0, 1) := by decide +kernel
theorem dX9_from_15 : decode cX9_from 15 = .ok (.getfield 16, 3) := by decide +kernel
theorem dX9_from_18 : decode cX9_from 18 = .ok (.iload_n 1, 1) := by decide +kernel
theorem dX9_from_19 : decode cX9_from 19 = .ok (.aaload, 1) := by decide +kernel
theorem dX9_from_20 : decode cX9_from 20 = .ok (.astore_n 2, 1) := by decide +kernel
theorem dX9_from_21 : decode cX9_from 21 = .ok (.aload_n 2, 1) := by decide +kernel
theorem dX9_from_22 : decode cX9_from 22 = .ok (.ifnonnull 8, 3) := by decide +kernel
theorem dX9_from_25 : decode cX9_from 25 = .ok (.aload_n 0, 1) := by decide +kernel
theorem dX9_from_26 : decode cX9_from 26 = .ok (.invokevirtual 120, 3) := by decide +kernel
theorem dX9_from_29 : decode cX9_from 29 = .ok (.ireturn, 1) := by decide +kernel
theorem dX9_from_30 : decode cX9_from 30 = .ok (.aload_n 0, 1) := by decide +kernel
theorem dX9_from_31 : decode cX9_from 31 = .ok (.getfield 10, 3) := by decide +kernel
theorem dX9_from_34 : decode cX9_from 34 = .ok (.aload_n 2, 1) := by decide +kernel
theorem dX9_from_35 : decode cX9_from 35 = .ok (.invokevirtual 233, 3) := by decide +kernel
theorem dX9_from_38 : decode cX9_from 38 = .ok (.iconst 1, 1) := by decide +kernel
theorem dX9_from_39 : decode cX9_from 39 = .ok (.ireturn, 1) := by decide +kernel
theorem dX9_status_0 : decode cX9_status 0 = .ok (.iload_n 1, 1) := by decide +kernel
theorem dX9_status_1 : decode cX9_status 1 = .ok (.tableswitch 42 0 2 #[27, 32, 37], 27) := by decide +kernel
theorem dX9_status_28 : decode cX9_status 28 = .ok (.aload_n 0, 1) := by decide +kernel
theorem dX9_status_29 : decode cX9_status 29 = .ok (.getfield 55, 3) := by decide +kernel
theorem dX9_status_32 : decode cX9_status 32 = .ok (.ireturn, 1) := by decide +kernel
theorem dX9_status_33 : decode cX9_status 33 = .ok (.aload_n 0, 1) := by decide +kernel
theorem dX9_status_34 : decode cX9_status 34 = .ok (.getfield 59, 3) := by decide +kernel
theorem dX9_status_37 : decode cX9_status 37 = .ok (.ireturn, 1) := by decide +kernel
theorem dX9_status_38 : decode cX9_status 38 = .ok (.aload_n 0, 1) := by decide +kernel
theorem dX9_status_39 : decode cX9_status 39 = .ok (.getfield 62, 3) := by decide +kernel
theorem dX9_status_42 : decode cX9_status 42 = .ok (.ireturn, 1) := by decide +kernel
theorem dX9_status_43 : decode cX9_status 43 = .ok (.aload_n 0, 1) := by decide +kernel
theorem dX9_status_44 : decode cX9_status 44 = .ok (.dup, 1) := by decide +kernel
theorem dX9_status_45 : decode cX9_status 45 = .ok (.getfield 55, 3) := by decide +kernel
theorem dX9_status_48 : decode cX9_status 48 = .ok (.iconst 1, 1) := by decide +kernel
theorem dX9_status_49 : decode cX9_status 49 = .ok (.iadd, 1) := by decide +kernel
theorem dX9_status_50 : decode cX9_status 50 = .ok (.putfield 55, 3) := by decide +kernel
theorem dX9_status_53 : decode cX9_status 53 = .ok (.iconst (-1), 1) := by decide +kernel
theorem dX9_status_54 : decode cX9_status 54 = .ok (.ireturn, 1) := by decide +kernel
theorem dX9_count_0 : decode cX9_count 0 = .ok (.iload_n 1, 1) := by decide +kernel
theorem dX9_count_1 : decode cX9_count 1 = .ok (.tableswitch 102 0 6 #[43, 51, 59, 67, 75, 83, 94], 43) := by decide +kernel
theorem dX9_count_44 : decode cX9_count 44 = .ok (.aload_n 0, 1) := by decide +kernel
theorem dX9_count_45 : decode cX9_count 45 = .ok (.getfield 10, 3) := by decide +kernel
theorem dX9_count_48 : decode cX9_count 48 = .ok (.getfield 65, 3) := by decide +kernel
theorem dX9_count_51 : decode cX9_count 51 = .ok (.ireturn, 1) := by decide +kernel
theorem dX9_count_52 : decode cX9_count 52 = .ok (.aload_n 0, 1) := by decide +kernel
theorem dX9_count_53 : decode cX9_count 53 = .ok (.getfield 10, 3) := by decide +kernel
theorem dX9_count_56 : decode cX9_count 56 = .ok (.getfield 236, 3) := by decide +kernel
theorem dX9_count_59 : decode cX9_count 59 = .ok (.ireturn, 1) := by decide +kernel
theorem dX9_count_60 : decode cX9_count 60 = .ok (.aload_n 0, 1) := by decide +kernel
theorem dX9_count_61 : decode cX9_count 61 = .ok (.getfield 10, 3) := by decide +kernel
theorem dX9_count_64 : decode cX9_count 64 = .ok (.getfield 139, 3) := by decide +kernel
theorem dX9_count_67 : decode cX9_count 67 = .ok (.ireturn, 1) := by decide +kernel
theorem dX9_count_68 : decode cX9_count 68 = .ok (.aload_n 0, 1) := by decide +kernel
theorem dX9_count_69 : decode cX9_count 69 = .ok (.getfield 10, 3) := by decide +kernel
theorem dX9_count_72 : decode cX9_count 72 = .ok (.invokevirtual 239, 3) := by decide +kernel
theorem dX9_count_75 : decode cX9_count 75 = .ok (.ireturn, 1) := by decide +kernel
theorem dX9_count_76 : decode cX9_count 76 = .ok (.aload_n 0, 1) := by decide +kernel
theorem dX9_count_77 : decode cX9_count 77 = .ok (.getfield 10, 3) := by decide +kernel
theorem dX9_count_80 : decode cX9_count 80 = .ok (.getfield 194, 3) := by decide +kernel
theorem dX9_count_83 : decode cX9_count 83 = .ok (.ireturn, 1) := by decide +kernel
theorem dX9_count_84 : decode cX9_count 84 = .ok (.aload_n 0, 1) := by decide +kernel
theorem dX9_count_85 : decode cX9_count 85 = .ok (.getfield 10, 3) := by decide +kernel
theorem dX9_count_88 : decode cX9_count 88 = .ok (.getfield 127, 3) := by decide +kernel
theorem dX9_count_91 : decode cX9_count 91 = .ok (.getfield 131, 3) := by decide +kernel
theorem dX9_count_94 : decode cX9_count 94 = .ok (.ireturn, 1) := by decide +kernel
theorem dX9_count_95 : decode cX9_count 95 = .ok (.aload_n 0, 1) := by decide +kernel
theorem dX9_count_96 : decode cX9_count 96 = .ok (.getfield 23, 3) := by decide +kernel
theorem dX9_count_99 : decode cX9_count 99 = .ok (.getfield 242, 3) := by decide +kernel
theorem dX9_count_102 : decode cX9_count 102 = .ok (.ireturn, 1) := by decide +kernel
theorem dX9_count_103 : decode cX9_count 103 = .ok (.aload_n 0, 1) := by decide +kernel
theorem dX9_count_104 : decode cX9_count 104 = .ok (.invokevirtual 75, 3) := by decide +kernel
theorem dX9_count_107 : decode cX9_count 107 = .ok (.ireturn, 1) := by decide +kernel
theorem dX9_digest_0 : decode cX9_digest 0 = .ok (.ldc2_w 245, 3) := by decide +kernel
theorem dX9_digest_3 : decode cX9_digest 3 = .ok (.lstore_n 1, 1) := by decide +kernel
theorem dX9_digest_4 : decode cX9_digest 4 = .ok (.iconst 0, 1) := by decide +kernel
theorem dX9_digest_5 : decode cX9_digest 5 = .ok (.istore_n 3, 1) := by decide +kernel
theorem dX9_digest_6 : decode cX9_digest 6 = .ok (.iload_n 3, 1) := by decide +kernel
theorem dX9_digest_7 : decode cX9_digest 7 = .ok (.bipush 6, 2) := by decide +kernel
theorem dX9_digest_9 : decode cX9_digest 9 = .ok (.if_icmp .gt 22, 3) := by decide +kernel
theorem dX9_digest_12 : decode cX9_digest 12 = .ok (.ldc2_w 247, 3) := by decide +kernel
theorem dX9_digest_15 : decode cX9_digest 15 = .ok (.lload_n 1, 1) := by decide +kernel
theorem dX9_digest_16 : decode cX9_digest 16 = .ok (.lmul, 1) := by decide +kernel
theorem dX9_digest_17 : decode cX9_digest 17 = .ok (.aload_n 0, 1) := by decide +kernel
theorem dX9_digest_18 : decode cX9_digest 18 = .ok (.iload_n 3, 1) := by decide +kernel
theorem dX9_digest_19 : decode cX9_digest 19 = .ok (.invokevirtual 249, 3) := by decide +kernel
theorem dX9_digest_22 : decode cX9_digest 22 = .ok (.i2l, 1) := by decide +kernel
theorem dX9_digest_23 : decode cX9_digest 23 = .ok (.ladd, 1) := by decide +kernel
theorem dX9_digest_24 : decode cX9_digest 24 = .ok (.lstore_n 1, 1) := by decide +kernel
theorem dX9_digest_25 : decode cX9_digest 25 = .ok (.iinc 3 1, 3) := by decide +kernel
theorem dX9_digest_28 : decode cX9_digest 28 = .ok (.goto (-22), 3) := by decide +kernel
theorem dX9_digest_31 : decode cX9_digest 31 = .ok (.aload_n 0, 1) := by decide +kernel
theorem dX9_digest_32 : decode cX9_digest 32 = .ok (.getfield 10, 3) := by decide +kernel
theorem dX9_digest_35 : decode cX9_digest 35 = .ok (.lload_n 1, 1) := by decide +kernel
theorem dX9_digest_36 : decode cX9_digest 36 = .ok (.invokevirtual 252, 3) := by decide +kernel
theorem dX9_digest_39 : decode cX9_digest 39 = .ok (.lstore_n 1, 1) := by decide +kernel
theorem dX9_digest_40 : decode cX9_digest 40 = .ok (.ldc2_w 247, 3) := by decide +kernel
theorem dX9_digest_43 : decode cX9_digest 43 = .ok (.lload_n 1, 1) := by decide +kernel
theorem dX9_digest_44 : decode cX9_digest 44 = .ok (.lmul, 1) := by decide +kernel
theorem dX9_digest_45 : decode cX9_digest 45 = .ok (.aload_n 0, 1) := by decide +kernel
theorem dX9_digest_46 : decode cX9_digest 46 = .ok (.getfield 51, 3) := by decide +kernel
theorem dX9_digest_49 : decode cX9_digest 49 = .ok (.getfield 226, 3) := by decide +kernel
theorem dX9_digest_52 : decode cX9_digest 52 = .ok (.ladd, 1) := by decide +kernel
theorem dX9_digest_53 : decode cX9_digest 53 = .ok (.lstore_n 1, 1) := by decide +kernel
theorem dX9_digest_54 : decode cX9_digest 54 = .ok (.ldc2_w 247, 3) := by decide +kernel
theorem dX9_digest_57 : decode cX9_digest 57 = .ok (.lload_n 1, 1) := by decide +kernel
theorem dX9_digest_58 : decode cX9_digest 58 = .ok (.lmul, 1) := by decide +kernel
theorem dX9_digest_59 : decode cX9_digest 59 = .ok (.aload_n 0, 1) := by decide +kernel
theorem dX9_digest_60 : decode cX9_digest 60 = .ok (.getfield 51, 3) := by decide +kernel
theorem dX9_digest_63 : decode cX9_digest 63 = .ok (.getfield 230, 3) := by decide +kernel
theorem dX9_digest_66 : decode cX9_digest 66 = .ok (.ladd, 1) := by decide +kernel
theorem dX9_digest_67 : decode cX9_digest 67 = .ok (.lreturn, 1) := by decide +kernel
theorem dX9_bad_0 : decode cX9_bad 0 = .ok (.aload_n 0, 1) := by decide +kernel
theorem dX9_bad_1 : decode cX9_bad 1 = .ok (.dup, 1) := by decide +kernel
theorem dX9_bad_2 : decode cX9_bad 2 = .ok (.getfield 55, 3) := by decide +kernel
theorem dX9_bad_5 : decode cX9_bad 5 = .ok (.iconst 1, 1) := by decide +kernel
theorem dX9_bad_6 : decode cX9_bad 6 = .ok (.iadd, 1) := by decide +kernel
theorem dX9_bad_7 : decode cX9_bad 7 = .ok (.putfield 55, 3) := by decide +kernel
theorem dX9_bad_10 : decode cX9_bad 10 = .ok (.bipush (-2), 2) := by decide +kernel
theorem dX9_bad_12 : decode cX9_bad 12 = .ok (.ireturn, 1) := by decide +kernel
theorem dX9_badTen_0 : decode cX9_badTen 0 = .ok (.aload_n 0, 1) := by decide +kernel
theorem dX9_badTen_1 : decode cX9_badTen 1 = .ok (.dup, 1) := by decide +kernel
theorem dX9_badTen_2 : decode cX9_badTen 2 = .ok (.getfield 55, 3) := by decide +kernel
theorem dX9_badTen_5 : decode cX9_badTen 5 = .ok (.iconst 1, 1) := by decide +kernel
theorem dX9_badTen_6 : decode cX9_badTen 6 = .ok (.iadd, 1) := by decide +kernel
theorem dX9_badTen_7 : decode cX9_badTen 7 = .ok (.putfield 55, 3) := by decide +kernel
theorem dX9_badTen_10 : decode cX9_badTen 10 = .ok (.bipush (-10), 2) := by decide +kernel
theorem dX9_badTen_12 : decode cX9_badTen 12 = .ok (.ireturn, 1) := by decide +kernel
theorem dX9_no_0 : decode cX9_no 0 = .ok (.aload_n 0, 1) := by decide +kernel
theorem dX9_no_1 : decode cX9_no 1 = .ok (.dup, 1) := by decide +kernel
theorem dX9_no_2 : decode cX9_no 2 = .ok (.getfield 59, 3) := by decide +kernel
theorem dX9_no_5 : decode cX9_no 5 = .ok (.iconst 1, 1) := by decide +kernel
theorem dX9_no_6 : decode cX9_no 6 = .ok (.iadd, 1) := by decide +kernel
theorem dX9_no_7 : decode cX9_no 7 = .ok (.putfield 59, 3) := by decide +kernel
theorem dX9_no_10 : decode cX9_no 10 = .ok (.bipush (-3), 2) := by decide +kernel
theorem dX9_no_12 : decode cX9_no 12 = .ok (.ireturn, 1) := by decide +kernel
theorem dX9_full_0 : decode cX9_full 0 = .ok (.aload_n 0, 1) := by decide +kernel
theorem dX9_full_1 : decode cX9_full 1 = .ok (.dup, 1) := by decide +kernel
theorem dX9_full_2 : decode cX9_full 2 = .ok (.getfield 62, 3) := by decide +kernel
theorem dX9_full_5 : decode cX9_full 5 = .ok (.iconst 1, 1) := by decide +kernel
theorem dX9_full_6 : decode cX9_full 6 = .ok (.iadd, 1) := by decide +kernel
theorem dX9_full_7 : decode cX9_full 7 = .ok (.putfield 62, 3) := by decide +kernel
theorem dX9_full_10 : decode cX9_full 10 = .ok (.bipush (-4), 2) := by decide +kernel
theorem dX9_full_12 : decode cX9_full 12 = .ok (.ireturn, 1) := by decide +kernel
theorem dX9_within_0 : decode cX9_within 0 = .ok (.iload_n 0, 1) := by decide +kernel
theorem dX9_within_1 : decode cX9_within 1 = .ok (.iload_n 1, 1) := by decide +kernel
theorem dX9_within_2 : decode cX9_within 2 = .ok (.if_icmp .lt 12, 3) := by decide +kernel
theorem dX9_within_5 : decode cX9_within 5 = .ok (.iload_n 0, 1) := by decide +kernel
theorem dX9_within_6 : decode cX9_within 6 = .ok (.iload_n 2, 1) := by decide +kernel
theorem dX9_within_7 : decode cX9_within 7 = .ok (.if_icmp .gt 7, 3) := by decide +kernel
theorem dX9_within_10 : decode cX9_within 10 = .ok (.iconst 1, 1) := by decide +kernel
theorem dX9_within_11 : decode cX9_within 11 = .ok (.goto 4, 3) := by decide +kernel
theorem dX9_within_14 : decode cX9_within 14 = .ok (.iconst 0, 1) := by decide +kernel
theorem dX9_within_15 : decode cX9_within 15 = .ok (.ireturn, 1) := by decide +kernel
theorem dJ6_bitCount_0f7a4_0 : decode cJ6_bitCount_0f7a4 0 = .ok (.iload_n 0, 1) := by decide +kernel
theorem dJ6_bitCount_0f7a4_1 : decode cJ6_bitCount_0f7a4 1 = .ok (.iload_n 0, 1) := by decide +kernel
theorem dJ6_bitCount_0f7a4_2 : decode cJ6_bitCount_0f7a4 2 = .ok (.iconst 1, 1) := by decide +kernel
theorem dJ6_bitCount_0f7a4_3 : decode cJ6_bitCount_0f7a4 3 = .ok (.iushr, 1) := by decide +kernel
theorem dJ6_bitCount_0f7a4_4 : decode cJ6_bitCount_0f7a4 4 = .ok (.ldc_w 265, 3) := by decide +kernel
theorem dJ6_bitCount_0f7a4_7 : decode cJ6_bitCount_0f7a4 7 = .ok (.iand, 1) := by decide +kernel
theorem dJ6_bitCount_0f7a4_8 : decode cJ6_bitCount_0f7a4 8 = .ok (.isub, 1) := by decide +kernel
theorem dJ6_bitCount_0f7a4_9 : decode cJ6_bitCount_0f7a4 9 = .ok (.istore_n 0, 1) := by decide +kernel
theorem dJ6_bitCount_0f7a4_10 : decode cJ6_bitCount_0f7a4 10 = .ok (.iload_n 0, 1) := by decide +kernel
theorem dJ6_bitCount_0f7a4_11 : decode cJ6_bitCount_0f7a4 11 = .ok (.ldc_w 266, 3) := by decide +kernel
theorem dJ6_bitCount_0f7a4_14 : decode cJ6_bitCount_0f7a4 14 = .ok (.iand, 1) := by decide +kernel
theorem dJ6_bitCount_0f7a4_15 : decode cJ6_bitCount_0f7a4 15 = .ok (.iload_n 0, 1) := by decide +kernel
theorem dJ6_bitCount_0f7a4_16 : decode cJ6_bitCount_0f7a4 16 = .ok (.iconst 2, 1) := by decide +kernel
theorem dJ6_bitCount_0f7a4_17 : decode cJ6_bitCount_0f7a4 17 = .ok (.iushr, 1) := by decide +kernel
theorem dJ6_bitCount_0f7a4_18 : decode cJ6_bitCount_0f7a4 18 = .ok (.ldc_w 266, 3) := by decide +kernel
theorem dJ6_bitCount_0f7a4_21 : decode cJ6_bitCount_0f7a4 21 = .ok (.iand, 1) := by decide +kernel
theorem dJ6_bitCount_0f7a4_22 : decode cJ6_bitCount_0f7a4 22 = .ok (.iadd, 1) := by decide +kernel
theorem dJ6_bitCount_0f7a4_23 : decode cJ6_bitCount_0f7a4 23 = .ok (.istore_n 0, 1) := by decide +kernel
theorem dJ6_bitCount_0f7a4_24 : decode cJ6_bitCount_0f7a4 24 = .ok (.iload_n 0, 1) := by decide +kernel
theorem dJ6_bitCount_0f7a4_25 : decode cJ6_bitCount_0f7a4 25 = .ok (.iload_n 0, 1) := by decide +kernel
theorem dJ6_bitCount_0f7a4_26 : decode cJ6_bitCount_0f7a4 26 = .ok (.iconst 4, 1) := by decide +kernel
theorem dJ6_bitCount_0f7a4_27 : decode cJ6_bitCount_0f7a4 27 = .ok (.iushr, 1) := by decide +kernel
theorem dJ6_bitCount_0f7a4_28 : decode cJ6_bitCount_0f7a4 28 = .ok (.iadd, 1) := by decide +kernel
theorem dJ6_bitCount_0f7a4_29 : decode cJ6_bitCount_0f7a4 29 = .ok (.ldc_w 267, 3) := by decide +kernel
theorem dJ6_bitCount_0f7a4_32 : decode cJ6_bitCount_0f7a4 32 = .ok (.iand, 1) := by decide +kernel
theorem dJ6_bitCount_0f7a4_33 : decode cJ6_bitCount_0f7a4 33 = .ok (.istore_n 0, 1) := by decide +kernel
theorem dJ6_bitCount_0f7a4_34 : decode cJ6_bitCount_0f7a4 34 = .ok (.iload_n 0, 1) := by decide +kernel
theorem dJ6_bitCount_0f7a4_35 : decode cJ6_bitCount_0f7a4 35 = .ok (.iload_n 0, 1) := by decide +kernel
theorem dJ6_bitCount_0f7a4_36 : decode cJ6_bitCount_0f7a4 36 = .ok (.bipush 8, 2) := by decide +kernel
theorem dJ6_bitCount_0f7a4_38 : decode cJ6_bitCount_0f7a4 38 = .ok (.iushr, 1) := by decide +kernel
theorem dJ6_bitCount_0f7a4_39 : decode cJ6_bitCount_0f7a4 39 = .ok (.iadd, 1) := by decide +kernel
theorem dJ6_bitCount_0f7a4_40 : decode cJ6_bitCount_0f7a4 40 = .ok (.istore_n 0, 1) := by decide +kernel
theorem dJ6_bitCount_0f7a4_41 : decode cJ6_bitCount_0f7a4 41 = .ok (.iload_n 0, 1) := by decide +kernel
theorem dJ6_bitCount_0f7a4_42 : decode cJ6_bitCount_0f7a4 42 = .ok (.iload_n 0, 1) := by decide +kernel
theorem dJ6_bitCount_0f7a4_43 : decode cJ6_bitCount_0f7a4 43 = .ok (.bipush 16, 2) := by decide +kernel
theorem dJ6_bitCount_0f7a4_45 : decode cJ6_bitCount_0f7a4 45 = .ok (.iushr, 1) := by decide +kernel
theorem dJ6_bitCount_0f7a4_46 : decode cJ6_bitCount_0f7a4 46 = .ok (.iadd, 1) := by decide +kernel
theorem dJ6_bitCount_0f7a4_47 : decode cJ6_bitCount_0f7a4 47 = .ok (.istore_n 0, 1) := by decide +kernel
theorem dJ6_bitCount_0f7a4_48 : decode cJ6_bitCount_0f7a4 48 = .ok (.iload_n 0, 1) := by decide +kernel
theorem dJ6_bitCount_0f7a4_49 : decode cJ6_bitCount_0f7a4 49 = .ok (.bipush 63, 2) := by decide +kernel
theorem dJ6_bitCount_0f7a4_51 : decode cJ6_bitCount_0f7a4 51 = .ok (.iand, 1) := by decide +kernel
theorem dJ6_bitCount_0f7a4_52 : decode cJ6_bitCount_0f7a4 52 = .ok (.ireturn, 1) := by decide +kernel
theorem dJ9_max_7cf53_0 : decode cJ9_max_7cf53 0 = .ok (.iload_n 0, 1) := by decide +kernel
theorem dJ9_max_7cf53_1 : decode cJ9_max_7cf53 1 = .ok (.iload_n 1, 1) := by decide +kernel
theorem dJ9_max_7cf53_2 : decode cJ9_max_7cf53 2 = .ok (.if_icmp .lt 7, 3) := by decide +kernel
theorem dJ9_max_7cf53_5 : decode cJ9_max_7cf53 5 = .ok (.iload_n 0, 1) := by decide +kernel
theorem dJ9_max_7cf53_6 : decode cJ9_max_7cf53 6 = .ok (.goto 4, 3) := by decide +kernel
theorem dJ9_max_7cf53_9 : decode cJ9_max_7cf53 9 = .ok (.iload_n 1, 1) := by decide +kernel
theorem dJ9_max_7cf53_10 : decode cJ9_max_7cf53 10 = .ok (.ireturn, 1) := by decide +kernel
theorem dJ9_min_7cf53_0 : decode cJ9_min_7cf53 0 = .ok (.iload_n 0, 1) := by decide +kernel
theorem dJ9_min_7cf53_1 : decode cJ9_min_7cf53 1 = .ok (.iload_n 1, 1) := by decide +kernel
theorem dJ9_min_7cf53_2 : decode cJ9_min_7cf53 2 = .ok (.if_icmp .gt 7, 3) := by decide +kernel
theorem dJ9_min_7cf53_5 : decode cJ9_min_7cf53 5 = .ok (.iload_n 0, 1) := by decide +kernel
theorem dJ9_min_7cf53_6 : decode cJ9_min_7cf53 6 = .ok (.goto 4, 3) := by decide +kernel
theorem dJ9_min_7cf53_9 : decode cJ9_min_7cf53 9 = .ok (.iload_n 1, 1) := by decide +kernel
theorem dJ9_min_7cf53_10 : decode cJ9_min_7cf53 10 = .ok (.ireturn, 1) := by decide +kernel
theorem dJ0_length_8abf5_0 : decode cJ0_length_8abf5 0 = .ok (.aload_n 0, 1) := by decide +kernel
theorem dJ0_length_8abf5_1 : decode cJ0_length_8abf5 1 = .ok (.getfield 9, 3) := by decide +kernel
theorem dJ0_length_8abf5_4 : decode cJ0_length_8abf5 4 = .ok (.arraylength, 1) := by decide +kernel
theorem dJ0_length_8abf5_5 : decode cJ0_length_8abf5 5 = .ok (.aload_n 0, 1) := by decide +kernel
theorem dJ0_length_8abf5_6 : decode cJ0_length_8abf5 6 = .ok (.invokevirtual 335, 3) := by decide +kernel
theorem dJ0_length_8abf5_9 : decode cJ0_length_8abf5 9 = .ok (.ishr, 1) := by decide +kernel
theorem dJ0_length_8abf5_10 : decode cJ0_length_8abf5 10 = .ok (.ireturn, 1) := by decide +kernel
theorem dJ0_charAt_5068e_0 : decode cJ0_charAt_5068e 0 = .ok (.aload_n 0, 1) := by decide +kernel
theorem dJ0_charAt_5068e_1 : decode cJ0_charAt_5068e 1 = .ok (.invokevirtual 492, 3) := by decide +kernel
theorem dJ0_charAt_5068e_4 : decode cJ0_charAt_5068e 4 = .ok (.ifCond .eq 12, 3) := by decide +kernel
theorem dJ0_charAt_5068e_7 : decode cJ0_charAt_5068e 7 = .ok (.aload_n 0, 1) := by decide +kernel
theorem dJ0_charAt_5068e_8 : decode cJ0_charAt_5068e 8 = .ok (.getfield 9, 3) := by decide +kernel
theorem dJ0_charAt_5068e_11 : decode cJ0_charAt_5068e 11 = .ok (.iload_n 1, 1) := by decide +kernel
theorem dJ0_charAt_5068e_12 : decode cJ0_charAt_5068e 12 = .ok (.invokestatic 495, 3) := by decide +kernel
theorem dJ0_charAt_5068e_15 : decode cJ0_charAt_5068e 15 = .ok (.ireturn, 1) := by decide +kernel
theorem dJ0_charAt_5068e_16 : decode cJ0_charAt_5068e 16 = .ok (.aload_n 0, 1) := by decide +kernel
theorem dJ0_charAt_5068e_17 : decode cJ0_charAt_5068e 17 = .ok (.getfield 9, 3) := by decide +kernel
theorem dJ0_charAt_5068e_20 : decode cJ0_charAt_5068e 20 = .ok (.iload_n 1, 1) := by decide +kernel
theorem dJ0_charAt_5068e_21 : decode cJ0_charAt_5068e 21 = .ok (.invokestatic 498, 3) := by decide +kernel
theorem dJ0_charAt_5068e_24 : decode cJ0_charAt_5068e 24 = .ok (.ireturn, 1) := by decide +kernel
theorem dJ0_coder_7d493_0 : decode cJ0_coder_7d493 0 = .ok (.getstatic 38, 3) := by decide +kernel
theorem dJ0_coder_7d493_3 : decode cJ0_coder_7d493 3 = .ok (.ifCond .eq 10, 3) := by decide +kernel
theorem dJ0_coder_7d493_6 : decode cJ0_coder_7d493 6 = .ok (.aload_n 0, 1) := by decide +kernel
theorem dJ0_coder_7d493_7 : decode cJ0_coder_7d493 7 = .ok (.getfield 15, 3) := by decide +kernel
theorem dJ0_coder_7d493_10 : decode cJ0_coder_7d493 10 = .ok (.goto 4, 3) := by decide +kernel
theorem dJ0_coder_7d493_13 : decode cJ0_coder_7d493 13 = .ok (.iconst 1, 1) := by decide +kernel
theorem dJ0_coder_7d493_14 : decode cJ0_coder_7d493 14 = .ok (.ireturn, 1) := by decide +kernel
theorem dJ0_isLatin1_aae02_0 : decode cJ0_isLatin1_aae02 0 = .ok (.getstatic 38, 3) := by decide +kernel
theorem dJ0_isLatin1_aae02_3 : decode cJ0_isLatin1_aae02 3 = .ok (.ifCond .eq 14, 3) := by decide +kernel
theorem dJ0_isLatin1_aae02_6 : decode cJ0_isLatin1_aae02 6 = .ok (.aload_n 0, 1) := by decide +kernel
theorem dJ0_isLatin1_aae02_7 : decode cJ0_isLatin1_aae02 7 = .ok (.getfield 15, 3) := by decide +kernel
theorem dJ0_isLatin1_aae02_10 : decode cJ0_isLatin1_aae02 10 = .ok (.ifCond .ne 7, 3) := by decide +kernel
theorem dJ0_isLatin1_aae02_13 : decode cJ0_isLatin1_aae02 13 = .ok (.iconst 1, 1) := by decide +kernel
theorem dJ0_isLatin1_aae02_14 : decode cJ0_isLatin1_aae02 14 = .ok (.goto 4, 3) := by decide +kernel
theorem dJ0_isLatin1_aae02_17 : decode cJ0_isLatin1_aae02 17 = .ok (.iconst 0, 1) := by decide +kernel
theorem dJ0_isLatin1_aae02_18 : decode cJ0_isLatin1_aae02 18 = .ok (.ireturn, 1) := by decide +kernel
theorem dJ0_checkIndex_df160_0 : decode cJ0_checkIndex_df160 0 = .ok (.iload_n 0, 1) := by decide +kernel
theorem dJ0_checkIndex_df160_1 : decode cJ0_checkIndex_df160 1 = .ok (.iload_n 1, 1) := by decide +kernel
theorem dJ0_checkIndex_df160_2 : decode cJ0_checkIndex_df160 2 = .ok (.getstatic 1053, 3) := by decide +kernel
theorem dJ0_checkIndex_df160_5 : decode cJ0_checkIndex_df160 5 = .ok (.invokestatic 1059, 3) := by decide +kernel
theorem dJ0_checkIndex_df160_8 : decode cJ0_checkIndex_df160 8 = .ok (.pop, 1) := by decide +kernel
theorem dJ0_checkIndex_df160_9 : decode cJ0_checkIndex_df160 9 = .ok (.return_, 1) := by decide +kernel
theorem dJ1_charAt_3b067_0 : decode cJ1_charAt_3b067 0 = .ok (.iload_n 1, 1) := by decide +kernel
theorem dJ1_charAt_3b067_1 : decode cJ1_charAt_3b067 1 = .ok (.aload_n 0, 1) := by decide +kernel
theorem dJ1_charAt_3b067_2 : decode cJ1_charAt_3b067 2 = .ok (.arraylength, 1) := by decide +kernel
theorem dJ1_charAt_3b067_3 : decode cJ1_charAt_3b067 3 = .ok (.invokestatic 9, 3) := by decide +kernel
theorem dJ1_charAt_3b067_6 : decode cJ1_charAt_3b067 6 = .ok (.aload_n 0, 1) := by decide +kernel
theorem dJ1_charAt_3b067_7 : decode cJ1_charAt_3b067 7 = .ok (.iload_n 1, 1) := by decide +kernel
theorem dJ1_charAt_3b067_8 : decode cJ1_charAt_3b067 8 = .ok (.baload, 1) := by decide +kernel
theorem dJ1_charAt_3b067_9 : decode cJ1_charAt_3b067 9 = .ok (.sipush 255, 3) := by decide +kernel
theorem dJ1_charAt_3b067_12 : decode cJ1_charAt_3b067 12 = .ok (.iand, 1) := by decide +kernel
theorem dJ1_charAt_3b067_13 : decode cJ1_charAt_3b067 13 = .ok (.i2c, 1) := by decide +kernel
theorem dJ1_charAt_3b067_14 : decode cJ1_charAt_3b067 14 = .ok (.ireturn, 1) := by decide +kernel
theorem dJ2_getChar_3b067_0 : decode cJ2_getChar_3b067 0 = .ok (.getstatic 44, 3) := by decide +kernel
theorem dJ2_getChar_3b067_3 : decode cJ2_getChar_3b067 3 = .ok (.ifCond .ne 25, 3) := by decide +kernel
theorem dJ2_getChar_3b067_6 : decode cJ2_getChar_3b067 6 = .ok (.iload_n 1, 1) := by decide +kernel
theorem dJ2_getChar_3b067_7 : decode cJ2_getChar_3b067 7 = .ok (.ifCond .lt 11, 3) := by decide +kernel
theorem dJ2_getChar_3b067_10 : decode cJ2_getChar_3b067 10 = .ok (.iload_n 1, 1) := by decide +kernel
theorem dJ2_getChar_3b067_11 : decode cJ2_getChar_3b067 11 = .ok (.aload_n 0, 1) := by decide +kernel
theorem dJ2_getChar_3b067_12 : decode cJ2_getChar_3b067 12 = .ok (.invokestatic 48, 3) := by decide +kernel
theorem dJ2_getChar_3b067_15 : decode cJ2_getChar_3b067 15 = .ok (.if_icmp .lt 13, 3) := by decide +kernel
theorem dJ2_getChar_3b067_18 : decode cJ2_getChar_3b067 18 = .ok (.new 52, 3) := by decide +kernel
theorem dJ2_getChar_3b067_21 : decode cJ2_getChar_3b067 21 = .ok (.dup, 1) := by decide +kernel
theorem dJ2_getChar_3b067_22 : decode cJ2_getChar_3b067 22 = .ok (.ldc 54, 2) := by decide +kernel
theorem dJ2_getChar_3b067_24 : decode cJ2_getChar_3b067 24 = .ok (.invokespecial 56, 3) := by decide +kernel
theorem dJ2_getChar_3b067_27 : decode cJ2_getChar_3b067 27 = .ok (.athrow, 1) := by decide +kernel
theorem dJ2_getChar_3b067_28 : decode cJ2_getChar_3b067 28 = .ok (.iload_n 1, 1) := by decide +kernel
theorem dJ2_getChar_3b067_29 : decode cJ2_getChar_3b067 29 = .ok (.iconst 1, 1) := by decide +kernel
theorem dJ2_getChar_3b067_30 : decode cJ2_getChar_3b067 30 = .ok (.ishl, 1) := by decide +kernel
theorem dJ2_getChar_3b067_31 : decode cJ2_getChar_3b067 31 = .ok (.istore_n 1, 1) := by decide +kernel
theorem dJ2_getChar_3b067_32 : decode cJ2_getChar_3b067 32 = .ok (.aload_n 0, 1) := by decide +kernel
theorem dJ2_getChar_3b067_33 : decode cJ2_getChar_3b067 33 = .ok (.iload_n 1, 1) := by decide +kernel
theorem dJ2_getChar_3b067_34 : decode cJ2_getChar_3b067 34 = .ok (.iinc 1 1, 3) := by decide +kernel
theorem dJ2_getChar_3b067_37 : decode cJ2_getChar_3b067 37 = .ok (.baload, 1) := by decide +kernel
theorem dJ2_getChar_3b067_38 : decode cJ2_getChar_3b067 38 = .ok (.sipush 255, 3) := by decide +kernel
theorem dJ2_getChar_3b067_41 : decode cJ2_getChar_3b067 41 = .ok (.iand, 1) := by decide +kernel
theorem dJ2_getChar_3b067_42 : decode cJ2_getChar_3b067 42 = .ok (.getstatic 59, 3) := by decide +kernel
theorem dJ2_getChar_3b067_45 : decode cJ2_getChar_3b067 45 = .ok (.ishl, 1) := by decide +kernel
theorem dJ2_getChar_3b067_46 : decode cJ2_getChar_3b067 46 = .ok (.aload_n 0, 1) := by decide +kernel
theorem dJ2_getChar_3b067_47 : decode cJ2_getChar_3b067 47 = .ok (.iload_n 1, 1) := by decide +kernel
theorem dJ2_getChar_3b067_48 : decode cJ2_getChar_3b067 48 = .ok (.baload, 1) := by decide +kernel
theorem dJ2_getChar_3b067_49 : decode cJ2_getChar_3b067 49 = .ok (.sipush 255, 3) := by decide +kernel
theorem dJ2_getChar_3b067_52 : decode cJ2_getChar_3b067 52 = .ok (.iand, 1) := by decide +kernel
theorem dJ2_getChar_3b067_53 : decode cJ2_getChar_3b067 53 = .ok (.getstatic 63, 3) := by decide +kernel
theorem dJ2_getChar_3b067_56 : decode cJ2_getChar_3b067 56 = .ok (.ishl, 1) := by decide +kernel
theorem dJ2_getChar_3b067_57 : decode cJ2_getChar_3b067 57 = .ok (.ior, 1) := by decide +kernel
theorem dJ2_getChar_3b067_58 : decode cJ2_getChar_3b067 58 = .ok (.i2c, 1) := by decide +kernel
theorem dJ2_getChar_3b067_59 : decode cJ2_getChar_3b067 59 = .ok (.ireturn, 1) := by decide +kernel
theorem dJ2_length_9d52b_0 : decode cJ2_length_9d52b 0 = .ok (.aload_n 0, 1) := by decide +kernel
theorem dJ2_length_9d52b_1 : decode cJ2_length_9d52b 1 = .ok (.arraylength, 1) := by decide +kernel
theorem dJ2_length_9d52b_2 : decode cJ2_length_9d52b 2 = .ok (.iconst 1, 1) := by decide +kernel
theorem dJ2_length_9d52b_3 : decode cJ2_length_9d52b 3 = .ok (.ishr, 1) := by decide +kernel
theorem dJ2_length_9d52b_4 : decode cJ2_length_9d52b 4 = .ok (.ireturn, 1) := by decide +kernel
theorem dJ2_charAt_3b067_0 : decode cJ2_charAt_3b067 0 = .ok (.iload_n 1, 1) := by decide +kernel
theorem dJ2_charAt_3b067_1 : decode cJ2_charAt_3b067 1 = .ok (.aload_n 0, 1) := by decide +kernel
theorem dJ2_charAt_3b067_2 : decode cJ2_charAt_3b067 2 = .ok (.invokestatic 67, 3) := by decide +kernel
theorem dJ2_charAt_3b067_5 : decode cJ2_charAt_3b067 5 = .ok (.aload_n 0, 1) := by decide +kernel
theorem dJ2_charAt_3b067_6 : decode cJ2_charAt_3b067 6 = .ok (.iload_n 1, 1) := by decide +kernel
theorem dJ2_charAt_3b067_7 : decode cJ2_charAt_3b067 7 = .ok (.invokestatic 71, 3) := by decide +kernel
theorem dJ2_charAt_3b067_10 : decode cJ2_charAt_3b067 10 = .ok (.ireturn, 1) := by decide +kernel
theorem dJ2_checkIndex_2214a_0 : decode cJ2_checkIndex_2214a 0 = .ok (.iload_n 0, 1) := by decide +kernel
theorem dJ2_checkIndex_2214a_1 : decode cJ2_checkIndex_2214a 1 = .ok (.aload_n 1, 1) := by decide +kernel
theorem dJ2_checkIndex_2214a_2 : decode cJ2_checkIndex_2214a 2 = .ok (.invokestatic 48, 3) := by decide +kernel
theorem dJ2_checkIndex_2214a_5 : decode cJ2_checkIndex_2214a 5 = .ok (.invokestatic 414, 3) := by decide +kernel
theorem dJ2_checkIndex_2214a_8 : decode cJ2_checkIndex_2214a 8 = .ok (.return_, 1) := by decide +kernel
theorem dJ3_checkIndex_8e157_0 : decode cJ3_checkIndex_8e157 0 = .ok (.iload_n 0, 1) := by decide +kernel
theorem dJ3_checkIndex_8e157_1 : decode cJ3_checkIndex_8e157 1 = .ok (.ifCond .lt 8, 3) := by decide +kernel
theorem dJ3_checkIndex_8e157_4 : decode cJ3_checkIndex_8e157 4 = .ok (.iload_n 0, 1) := by decide +kernel
theorem dJ3_checkIndex_8e157_5 : decode cJ3_checkIndex_8e157 5 = .ok (.iload_n 1, 1) := by decide +kernel
theorem dJ3_checkIndex_8e157_6 : decode cJ3_checkIndex_8e157 6 = .ok (.if_icmp .lt 10, 3) := by decide +kernel
theorem dJ3_checkIndex_8e157_9 : decode cJ3_checkIndex_8e157 9 = .ok (.aload_n 2, 1) := by decide +kernel
theorem dJ3_checkIndex_8e157_10 : decode cJ3_checkIndex_8e157 10 = .ok (.iload_n 0, 1) := by decide +kernel
theorem dJ3_checkIndex_8e157_11 : decode cJ3_checkIndex_8e157 11 = .ok (.iload_n 1, 1) := by decide +kernel
theorem dJ3_checkIndex_8e157_12 : decode cJ3_checkIndex_8e157 12 = .ok (.invokestatic 95, 3) := by decide +kernel
theorem dJ3_checkIndex_8e157_15 : decode cJ3_checkIndex_8e157 15 = .ok (.athrow, 1) := by decide +kernel
theorem dJ3_checkIndex_8e157_16 : decode cJ3_checkIndex_8e157 16 = .ok (.iload_n 0, 1) := by decide +kernel
theorem dJ3_checkIndex_8e157_17 : decode cJ3_checkIndex_8e157 17 = .ok (.ireturn, 1) := by decide +kernel
end
section
theorem dX10_init_0 : decode cX10_init 0 = .ok (.aload_n 0, 1) := by decide +kernel
theorem dX10_init_1 : decode cX10_init 1 = .ok (.invokespecial 1, 3) := by decide +kernel
theorem dX10_init_4 : decode cX10_init 4 = .ok (.aload_n 0, 1) := by decide +kernel
theorem dX10_init_5 : decode cX10_init 5 = .ok (.sipush 167, 3) := by decide +kernel
theorem dX10_init_8 : decode cX10_init 8 = .ok (.newarray .int, 2) := by decide +kernel
theorem dX10_init_10 : decode cX10_init 10 = .ok (.putfield 7, 3) := by decide +kernel
theorem dX10_init_13 : decode cX10_init 13 = .ok (.aload_n 0, 1) := by decide +kernel
theorem dX10_init_14 : decode cX10_init 14 = .ok (.sipush 167, 3) := by decide +kernel
theorem dX10_init_17 : decode cX10_init 17 = .ok (.newarray .int, 2) := by decide +kernel
theorem dX10_init_19 : decode cX10_init 19 = .ok (.putfield 13, 3) := by decide +kernel
theorem dX10_init_22 : decode cX10_init 22 = .ok (.aload_n 0, 1) := by decide +kernel
theorem dX10_init_23 : decode cX10_init 23 = .ok (.sipush 334, 3) := by decide +kernel
theorem dX10_init_26 : decode cX10_init 26 = .ok (.newarray .int, 2) := by decide +kernel
theorem dX10_init_28 : decode cX10_init 28 = .ok (.putfield 16, 3) := by decide +kernel
theorem dX10_init_31 : decode cX10_init 31 = .ok (.aload_n 0, 1) := by decide +kernel
theorem dX10_init_32 : decode cX10_init 32 = .ok (.iconst 2, 1) := by decide +kernel
theorem dX10_init_33 : decode cX10_init 33 = .ok (.newarray .boolean, 2) := by decide +kernel
theorem dX10_init_35 : decode cX10_init 35 = .ok (.putfield 19, 3) := by decide +kernel
theorem dX10_init_38 : decode cX10_init 38 = .ok (.aload_n 0, 1) := by decide +kernel
theorem dX10_init_39 : decode cX10_init 39 = .ok (.sipush 150, 3) := by decide +kernel
theorem dX10_init_42 : decode cX10_init 42 = .ok (.newarray .int, 2) := by decide +kernel
theorem dX10_init_44 : decode cX10_init 44 = .ok (.putfield 23, 3) := by decide +kernel
theorem dX10_init_47 : decode cX10_init 47 = .ok (.aload_n 0, 1) := by decide +kernel
theorem dX10_init_48 : decode cX10_init 48 = .ok (.lconst 1, 1) := by decide +kernel
theorem dX10_init_49 : decode cX10_init 49 = .ok (.putfield 26, 3) := by decide +kernel
theorem dX10_init_52 : decode cX10_init 52 = .ok (.aload_n 0, 1) := by decide +kernel
theorem dX10_init_53 : decode cX10_init 53 = .ok (.iconst 3, 1) := by decide +kernel
theorem dX10_init_54 : decode cX10_init 54 = .ok (.newarray .int, 2) := by decide +kernel
theorem dX10_init_56 : decode cX10_init 56 = .ok (.putfield 30, 3) := by decide +kernel
theorem dX10_init_59 : decode cX10_init 59 = .ok (.aload_n 0, 1) := by decide +kernel
theorem dX10_init_60 : decode cX10_init 60 = .ok (.bipush 6, 2) := by decide +kernel
theorem dX10_init_62 : decode cX10_init 62 = .ok (.newarray .int, 2) := by decide +kernel
theorem dX10_init_64 : decode cX10_init 64 = .ok (.putfield 33, 3) := by decide +kernel
theorem dX10_init_67 : decode cX10_init 67 = .ok (.aload_n 0, 1) := by decide +kernel
theorem dX10_init_68 : decode cX10_init 68 = .ok (.bipush 15, 2) := by decide +kernel
theorem dX10_init_70 : decode cX10_init 70 = .ok (.newarray .int, 2) := by decide +kernel
theorem dX10_init_72 : decode cX10_init 72 = .ok (.putfield 36, 3) := by decide +kernel
theorem dX10_init_75 : decode cX10_init 75 = .ok (.aload_n 0, 1) := by decide +kernel
theorem dX10_init_76 : decode cX10_init 76 = .ok (.bipush 61, 2) := by decide +kernel
theorem dX10_init_78 : decode cX10_init 78 = .ok (.newarray .long, 2) := by decide +kernel
theorem dX10_init_80 : decode cX10_init 80 = .ok (.putfield 39, 3) := by decide +kernel
theorem dX10_init_83 : decode cX10_init 83 = .ok (.aload_n 0, 1) := by decide +kernel
theorem dX10_init_84 : decode cX10_init 84 = .ok (.bipush 61, 2) := by decide +kernel
theorem dX10_init_86 : decode cX10_init 86 = .ok (.newarray .long, 2) := by decide +kernel
theorem dX10_init_88 : decode cX10_init 88 = .ok (.putfield 43, 3) := by decide +kernel
theorem dX10_init_91 : decode cX10_init 91 = .ok (.aload_n 0, 1) := by decide +kernel
theorem dX10_init_92 : decode cX10_init 92 = .ok (.getfield 7, 3) := by decide +kernel
theorem dX10_init_95 : decode cX10_init 95 = .ok (.invokestatic 46, 3) := by decide +kernel
theorem dX10_init_98 : decode cX10_init 98 = .ok (.return_, 1) := by decide +kernel
theorem dX10_layFirst_0 : decode cX10_layFirst 0 = .ok (.iconst 0, 1) := by decide +kernel
theorem dX10_layFirst_1 : decode cX10_layFirst 1 = .ok (.istore_n 1, 1) := by decide +kernel
theorem dX10_layFirst_2 : decode cX10_layFirst 2 = .ok (.iload_n 1, 1) := by decide +kernel
theorem dX10_layFirst_3 : decode cX10_layFirst 3 = .ok (.sipush 167, 3) := by decide +kernel
theorem dX10_layFirst_6 : decode cX10_layFirst 6 = .ok (.if_icmp .ge 13, 3) := by decide +kernel
theorem dX10_layFirst_9 : decode cX10_layFirst 9 = .ok (.aload_n 0, 1) := by decide +kernel
theorem dX10_layFirst_10 : decode cX10_layFirst 10 = .ok (.iload_n 1, 1) := by decide +kernel
theorem dX10_layFirst_11 : decode cX10_layFirst 11 = .ok (.iconst 0, 1) := by decide +kernel
theorem dX10_layFirst_12 : decode cX10_layFirst 12 = .ok (.iastore, 1) := by decide +kernel
theorem dX10_layFirst_13 : decode cX10_layFirst 13 = .ok (.iinc 1 1, 3) := by decide +kernel
theorem dX10_layFirst_16 : decode cX10_layFirst 16 = .ok (.goto (-14), 3) := by decide +kernel
theorem dX10_layFirst_19 : decode cX10_layFirst 19 = .ok (.return_, 1) := by decide +kernel
theorem dX10_in_0 : decode cX10_in 0 = .ok (.iload_n 0, 1) := by decide +kernel
theorem dX10_in_1 : decode cX10_in 1 = .ok (.iload_n 1, 1) := by decide +kernel
theorem dX10_in_2 : decode cX10_in 2 = .ok (.if_icmp .lt 12, 3) := by decide +kernel
theorem dX10_in_5 : decode cX10_in 5 = .ok (.iload_n 0, 1) := by decide +kernel
theorem dX10_in_6 : decode cX10_in 6 = .ok (.iload_n 2, 1) := by decide +kernel
theorem dX10_in_7 : decode cX10_in 7 = .ok (.if_icmp .gt 7, 3) := by decide +kernel
theorem dX10_in_10 : decode cX10_in 10 = .ok (.iconst 1, 1) := by decide +kernel
theorem dX10_in_11 : decode cX10_in 11 = .ok (.goto 4, 3) := by decide +kernel
theorem dX10_in_14 : decode cX10_in 14 = .ok (.iconst 0, 1) := by decide +kernel
theorem dX10_in_15 : decode cX10_in 15 = .ok (.ireturn, 1) := by decide +kernel
theorem dX10_has_0 : decode cX10_has 0 = .ok (.iload_n 0, 1) := by decide +kernel
theorem dX10_has_1 : decode cX10_has 1 = .ok (.iload_n 1, 1) := by decide +kernel
theorem dX10_has_2 : decode cX10_has 2 = .ok (.ishr, 1) := by decide +kernel
theorem dX10_has_3 : decode cX10_has 3 = .ok (.iconst 1, 1) := by decide +kernel
theorem dX10_has_4 : decode cX10_has 4 = .ok (.iand, 1) := by decide +kernel
theorem dX10_has_5 : decode cX10_has 5 = .ok (.iconst 1, 1) := by decide +kernel
theorem dX10_has_6 : decode cX10_has 6 = .ok (.if_icmp .ne 7, 3) := by decide +kernel
theorem dX10_has_9 : decode cX10_has 9 = .ok (.iconst 1, 1) := by decide +kernel
theorem dX10_has_10 : decode cX10_has 10 = .ok (.goto 4, 3) := by decide +kernel
theorem dX10_has_13 : decode cX10_has 13 = .ok (.iconst 0, 1) := by decide +kernel
theorem dX10_has_14 : decode cX10_has 14 = .ok (.ireturn, 1) := by decide +kernel
theorem dX10_refuse_0 : decode cX10_refuse 0 = .ok (.aload_n 0, 1) := by decide +kernel
theorem dX10_refuse_1 : decode cX10_refuse 1 = .ok (.getfield 30, 3) := by decide +kernel
theorem dX10_refuse_4 : decode cX10_refuse 4 = .ok (.iload_n 1, 1) := by decide +kernel
theorem dX10_refuse_5 : decode cX10_refuse 5 = .ok (.bipush (-3), 2) := by decide +kernel
theorem dX10_refuse_7 : decode cX10_refuse 7 = .ok (.if_icmp .ne 7, 3) := by decide +kernel
theorem dX10_refuse_10 : decode cX10_refuse 10 = .ok (.iconst 1, 1) := by decide +kernel
theorem dX10_refuse_11 : decode cX10_refuse 11 = .ok (.goto 14, 3) := by decide +kernel
theorem dX10_refuse_14 : decode cX10_refuse 14 = .ok (.iload_n 1, 1) := by decide +kernel
theorem dX10_refuse_15 : decode cX10_refuse 15 = .ok (.bipush (-4), 2) := by decide +kernel
theorem dX10_refuse_17 : decode cX10_refuse 17 = .ok (.if_icmp .ne 7, 3) := by decide +kernel
theorem dX10_refuse_20 : decode cX10_refuse 20 = .ok (.iconst 2, 1) := by decide +kernel
theorem dX10_refuse_21 : decode cX10_refuse 21 = .ok (.goto 4, 3) := by decide +kernel
theorem dX10_refuse_24 : decode cX10_refuse 24 = .ok (.iconst 0, 1) := by decide +kernel
theorem dX10_refuse_25 : decode cX10_refuse 25 = .ok (.dup2, 1) := by decide +kernel
theorem dX10_refuse_26 : decode cX10_refuse 26 = .ok (.iaload, 1) := by decide +kernel
theorem dX10_refuse_27 : decode cX10_refuse 27 = .ok (.iconst 1, 1) := by decide +kernel
theorem dX10_refuse_28 : decode cX10_refuse 28 = .ok (.iadd, 1) := by decide +kernel
theorem dX10_refuse_29 : decode cX10_refuse 29 = .ok (.iastore, 1) := by decide +kernel
theorem dX10_refuse_30 : decode cX10_refuse 30 = .ok (.iload_n 1, 1) := by decide +kernel
theorem dX10_refuse_31 : decode cX10_refuse 31 = .ok (.ireturn, 1) := by decide +kernel
theorem dX10_isPair_0 : decode cX10_isPair 0 = .ok (.iload_n 1, 1) := by decide +kernel
theorem dX10_isPair_1 : decode cX10_isPair 1 = .ok (.iconst 0, 1) := by decide +kernel
theorem dX10_isPair_2 : decode cX10_isPair 2 = .ok (.aload_n 0, 1) := by decide +kernel
theorem dX10_isPair_3 : decode cX10_isPair 3 = .ok (.getfield 7, 3) := by decide +kernel
theorem dX10_isPair_6 : decode cX10_isPair 6 = .ok (.iconst 0, 1) := by decide +kernel
theorem dX10_isPair_7 : decode cX10_isPair 7 = .ok (.iaload, 1) := by decide +kernel
theorem dX10_isPair_8 : decode cX10_isPair 8 = .ok (.iconst 1, 1) := by decide +kernel
theorem dX10_isPair_9 : decode cX10_isPair 9 = .ok (.isub, 1) := by decide +kernel
theorem dX10_isPair_10 : decode cX10_isPair 10 = .ok (.invokestatic 50, 3) := by decide +kernel
theorem dX10_isPair_13 : decode cX10_isPair 13 = .ok (.ireturn, 1) := by decide +kernel
theorem dX10_valley_0 : decode cX10_valley 0 = .ok (.aload_n 0, 1) := by decide +kernel
theorem dX10_valley_1 : decode cX10_valley 1 = .ok (.getfield 7, 3) := by decide +kernel
theorem dX10_valley_4 : decode cX10_valley 4 = .ok (.iconst 0, 1) := by decide +kernel
theorem dX10_valley_5 : decode cX10_valley 5 = .ok (.iaload, 1) := by decide +kernel
theorem dX10_valley_6 : decode cX10_valley 6 = .ok (.istore_n 1, 1) := by decide +kernel
theorem dX10_valley_7 : decode cX10_valley 7 = .ok (.aload_n 0, 1) := by decide +kernel
theorem dX10_valley_8 : decode cX10_valley 8 = .ok (.getfield 7, 3) := by decide +kernel
theorem dX10_valley_11 : decode cX10_valley 11 = .ok (.invokestatic 46, 3) := by decide +kernel
theorem dX10_valley_14 : decode cX10_valley 14 = .ok (.iload_n 1, 1) := by decide +kernel
theorem dX10_valley_15 : decode cX10_valley 15 = .ok (.ireturn, 1) := by decide +kernel
theorem dX10_damp_0 : decode cX10_damp 0 = .ok (.iload_n 1, 1) := by decide +kernel
theorem dX10_damp_1 : decode cX10_damp 1 = .ok (.iconst 0, 1) := by decide +kernel
theorem dX10_damp_2 : decode cX10_damp 2 = .ok (.sipush 4095, 3) := by decide +kernel
theorem dX10_damp_5 : decode cX10_damp 5 = .ok (.invokestatic 50, 3) := by decide +kernel
theorem dX10_damp_8 : decode cX10_damp 8 = .ok (.ifCond .ne 10, 3) := by decide +kernel
theorem dX10_damp_11 : decode cX10_damp 11 = .ok (.aload_n 0, 1) := by decide +kernel
theorem dX10_damp_12 : decode cX10_damp 12 = .ok (.bipush (-2), 2) := by decide +kernel
theorem dX10_damp_14 : decode cX10_damp 14 = .ok (.invokevirtual 54, 3) := by decide +kernel
theorem dX10_damp_17 : decode cX10_damp 17 = .ok (.ireturn, 1) := by decide +kernel
theorem dX10_damp_18 : decode cX10_damp 18 = .ok (.aload_n 0, 1) := by decide +kernel
theorem dX10_damp_19 : decode cX10_damp 19 = .ok (.getfield 7, 3) := by decide +kernel
theorem dX10_damp_22 : decode cX10_damp 22 = .ok (.iconst 3, 1) := by decide +kernel
theorem dX10_damp_23 : decode cX10_damp 23 = .ok (.iaload, 1) := by decide +kernel
theorem dX10_damp_24 : decode cX10_damp 24 = .ok (.istore_n 2, 1) := by decide +kernel
theorem dX10_damp_25 : decode cX10_damp 25 = .ok (.aload_n 0, 1) := by decide +kernel
theorem dX10_damp_26 : decode cX10_damp 26 = .ok (.getfield 7, 3) := by decide +kernel
theorem dX10_damp_29 : decode cX10_damp 29 = .ok (.iconst 3, 1) := by decide +kernel
theorem dX10_damp_30 : decode cX10_damp 30 = .ok (.iload_n 1, 1) := by decide +kernel
theorem dX10_damp_31 : decode cX10_damp 31 = .ok (.iastore, 1) := by decide +kernel
theorem dX10_damp_32 : decode cX10_damp 32 = .ok (.iload_n 2, 1) := by decide +kernel
theorem dX10_damp_33 : decode cX10_damp 33 = .ok (.ireturn, 1) := by decide +kernel
theorem dX10_dry_0 : decode cX10_dry 0 = .ok (.iload_n 1, 1) := by decide +kernel
theorem dX10_dry_1 : decode cX10_dry 1 = .ok (.iconst 0, 1) := by decide +kernel
theorem dX10_dry_2 : decode cX10_dry 2 = .ok (.sipush 4095, 3) := by decide +kernel
theorem dX10_dry_5 : decode cX10_dry 5 = .ok (.invokestatic 50, 3) := by decide +kernel
theorem dX10_dry_8 : decode cX10_dry 8 = .ok (.ifCond .ne 10, 3) := by decide +kernel
theorem dX10_dry_11 : decode cX10_dry 11 = .ok (.aload_n 0, 1) := by decide +kernel
theorem dX10_dry_12 : decode cX10_dry 12 = .ok (.bipush (-2), 2) := by decide +kernel
theorem dX10_dry_14 : decode cX10_dry 14 = .ok (.invokevirtual 54, 3) := by decide +kernel
theorem dX10_dry_17 : decode cX10_dry 17 = .ok (.ireturn, 1) := by decide +kernel
theorem dX10_dry_18 : decode cX10_dry 18 = .ok (.aload_n 0, 1) := by decide +kernel
theorem dX10_dry_19 : decode cX10_dry 19 = .ok (.getfield 7, 3) := by decide +kernel
theorem dX10_dry_22 : decode cX10_dry 22 = .ok (.iconst 4, 1) := by decide +kernel
theorem dX10_dry_23 : decode cX10_dry 23 = .ok (.iaload, 1) := by decide +kernel
theorem dX10_dry_24 : decode cX10_dry 24 = .ok (.istore_n 2, 1) := by decide +kernel
theorem dX10_dry_25 : decode cX10_dry 25 = .ok (.aload_n 0, 1) := by decide +kernel
theorem dX10_dry_26 : decode cX10_dry 26 = .ok (.getfield 7, 3) := by decide +kernel
theorem dX10_dry_29 : decode cX10_dry 29 = .ok (.iconst 4, 1) := by decide +kernel
theorem dX10_dry_30 : decode cX10_dry 30 = .ok (.iload_n 1, 1) := by decide +kernel
theorem dX10_dry_31 : decode cX10_dry 31 = .ok (.iastore, 1) := by decide +kernel
theorem dX10_dry_32 : decode cX10_dry 32 = .ok (.iload_n 2, 1) := by decide +kernel
theorem dX10_dry_33 : decode cX10_dry 33 = .ok (.ireturn, 1) := by decide +kernel
theorem dX10_addPair_0 : decode cX10_addPair 0 = .ok (.aload_n 0, 1) := by decide +kernel
theorem dX10_addPair_1 : decode cX10_addPair 1 = .ok (.iconst 0, 1) := by decide +kernel
theorem dX10_addPair_2 : decode cX10_addPair 2 = .ok (.iaload, 1) := by decide +kernel
theorem dX10_addPair_3 : decode cX10_addPair 3 = .ok (.istore_n 3, 1) := by decide +kernel
theorem dX10_addPair_4 : decode cX10_addPair 4 = .ok (.aload_n 0, 1) := by decide +kernel
theorem dX10_addPair_5 : decode cX10_addPair 5 = .ok (.bipush 7, 2) := by decide +kernel
theorem dX10_addPair_7 : decode cX10_addPair 7 = .ok (.iload_n 3, 1) := by decide +kernel
theorem dX10_addPair_8 : decode cX10_addPair 8 = .ok (.iadd, 1) := by decide +kernel
theorem dX10_addPair_9 : decode cX10_addPair 9 = .ok (.iload_n 1, 1) := by decide +kernel
theorem dX10_addPair_10 : decode cX10_addPair 10 = .ok (.iastore, 1) := by decide +kernel
theorem dX10_addPair_11 : decode cX10_addPair 11 = .ok (.aload_n 0, 1) := by decide +kernel
theorem dX10_addPair_12 : decode cX10_addPair 12 = .ok (.bipush 13, 2) := by decide +kernel
theorem dX10_addPair_14 : decode cX10_addPair 14 = .ok (.iload_n 3, 1) := by decide +kernel
theorem dX10_addPair_15 : decode cX10_addPair 15 = .ok (.iadd, 1) := by decide +kernel
theorem dX10_addPair_16 : decode cX10_addPair 16 = .ok (.iload_n 2, 1) := by decide +kernel
theorem dX10_addPair_17 : decode cX10_addPair 17 = .ok (.iastore, 1) := by decide +kernel
theorem dX10_addPair_18 : decode cX10_addPair 18 = .ok (.aload_n 0, 1) := by decide +kernel
theorem dX10_addPair_19 : decode cX10_addPair 19 = .ok (.bipush 19, 2) := by decide +kernel
theorem dX10_addPair_21 : decode cX10_addPair 21 = .ok (.iload_n 3, 1) := by decide +kernel
theorem dX10_addPair_22 : decode cX10_addPair 22 = .ok (.iadd, 1) := by decide +kernel
theorem dX10_addPair_23 : decode cX10_addPair 23 = .ok (.aload_n 0, 1) := by decide +kernel
theorem dX10_addPair_24 : decode cX10_addPair 24 = .ok (.iconst 2, 1) := by decide +kernel
theorem dX10_addPair_25 : decode cX10_addPair 25 = .ok (.iaload, 1) := by decide +kernel
theorem dX10_addPair_26 : decode cX10_addPair 26 = .ok (.iastore, 1) := by decide +kernel
theorem dX10_addPair_27 : decode cX10_addPair 27 = .ok (.aload_n 0, 1) := by decide +kernel
theorem dX10_addPair_28 : decode cX10_addPair 28 = .ok (.bipush 25, 2) := by decide +kernel
theorem dX10_addPair_30 : decode cX10_addPair 30 = .ok (.iload_n 3, 1) := by decide +kernel
theorem dX10_addPair_31 : decode cX10_addPair 31 = .ok (.iadd, 1) := by decide +kernel
theorem dX10_addPair_32 : decode cX10_addPair 32 = .ok (.iconst (-1), 1) := by decide +kernel
theorem dX10_addPair_33 : decode cX10_addPair 33 = .ok (.iastore, 1) := by decide +kernel
theorem dX10_addPair_34 : decode cX10_addPair 34 = .ok (.aload_n 0, 1) := by decide +kernel
theorem dX10_addPair_35 : decode cX10_addPair 35 = .ok (.iconst 0, 1) := by decide +kernel
theorem dX10_addPair_36 : decode cX10_addPair 36 = .ok (.dup2, 1) := by decide +kernel
theorem dX10_addPair_37 : decode cX10_addPair 37 = .ok (.iaload, 1) := by decide +kernel
theorem dX10_addPair_38 : decode cX10_addPair 38 = .ok (.iconst 1, 1) := by decide +kernel
theorem dX10_addPair_39 : decode cX10_addPair 39 = .ok (.iadd, 1) := by decide +kernel
theorem dX10_addPair_40 : decode cX10_addPair 40 = .ok (.iastore, 1) := by decide +kernel
theorem dX10_addPair_41 : decode cX10_addPair 41 = .ok (.aload_n 0, 1) := by decide +kernel
theorem dX10_addPair_42 : decode cX10_addPair 42 = .ok (.bipush 6, 2) := by decide +kernel
theorem dX10_addPair_44 : decode cX10_addPair 44 = .ok (.iconst 0, 1) := by decide +kernel
theorem dX10_addPair_45 : decode cX10_addPair 45 = .ok (.iastore, 1) := by decide +kernel
theorem dX10_addPair_46 : decode cX10_addPair 46 = .ok (.iload_n 3, 1) := by decide +kernel
theorem dX10_addPair_47 : decode cX10_addPair 47 = .ok (.ireturn, 1) := by decide +kernel
theorem dX10_addKin_0 : decode cX10_addKin 0 = .ok (.aload_n 0, 1) := by decide +kernel
theorem dX10_addKin_1 : decode cX10_addKin 1 = .ok (.iconst 1, 1) := by decide +kernel
theorem dX10_addKin_2 : decode cX10_addKin 2 = .ok (.iaload, 1) := by decide +kernel
theorem dX10_addKin_3 : decode cX10_addKin 3 = .ok (.istore_n 2, 1) := by decide +kernel
theorem dX10_addKin_4 : decode cX10_addKin 4 = .ok (.aload_n 0, 1) := by decide +kernel
theorem dX10_addKin_5 : decode cX10_addKin 5 = .ok (.bipush 31, 2) := by decide +kernel
theorem dX10_addKin_7 : decode cX10_addKin 7 = .ok (.iload_n 2, 1) := by decide +kernel
theorem dX10_addKin_8 : decode cX10_addKin 8 = .ok (.iadd, 1) := by decide +kernel
theorem dX10_addKin_9 : decode cX10_addKin 9 = .ok (.iload_n 1, 1) := by decide +kernel
theorem dX10_addKin_10 : decode cX10_addKin 10 = .ok (.iastore, 1) := by decide +kernel
theorem dX10_addKin_11 : decode cX10_addKin 11 = .ok (.aload_n 0, 1) := by decide +kernel
theorem dX10_addKin_12 : decode cX10_addKin 12 = .ok (.iconst 1, 1) := by decide +kernel
theorem dX10_addKin_13 : decode cX10_addKin 13 = .ok (.dup2, 1) := by decide +kernel
theorem dX10_addKin_14 : decode cX10_addKin 14 = .ok (.iaload, 1) := by decide +kernel
theorem dX10_addKin_15 : decode cX10_addKin 15 = .ok (.iconst 1, 1) := by decide +kernel
theorem dX10_addKin_16 : decode cX10_addKin 16 = .ok (.iadd, 1) := by decide +kernel
theorem dX10_addKin_17 : decode cX10_addKin 17 = .ok (.iastore, 1) := by decide +kernel
theorem dX10_addKin_18 : decode cX10_addKin 18 = .ok (.iload_n 2, 1) := by decide +kernel
theorem dX10_addKin_19 : decode cX10_addKin 19 = .ok (.ireturn, 1) := by decide +kernel
theorem dX10_pair_0 : decode cX10_pair 0 = .ok (.iload_n 1, 1) := by decide +kernel
theorem dX10_pair_1 : decode cX10_pair 1 = .ok (.iconst 0, 1) := by decide +kernel
theorem dX10_pair_2 : decode cX10_pair 2 = .ok (.iconst 5, 1) := by decide +kernel
theorem dX10_pair_3 : decode cX10_pair 3 = .ok (.invokestatic 50, 3) := by decide +kernel
theorem dX10_pair_6 : decode cX10_pair 6 = .ok (.ifCond .eq 13, 3) := by decide +kernel
theorem dX10_pair_9 : decode cX10_pair 9 = .ok (.iload_n 2, 1) := by decide +kernel
theorem dX10_pair_10 : decode cX10_pair 10 = .ok (.iconst 0, 1) := by decide +kernel
theorem dX10_pair_11 : decode cX10_pair 11 = .ok (.bipush 60, 2) := by decide +kernel
theorem dX10_pair_13 : decode cX10_pair 13 = .ok (.invokestatic 50, 3) := by decide +kernel
theorem dX10_pair_16 : decode cX10_pair 16 = .ok (.ifCond .ne 10, 3) := by decide +kernel
theorem dX10_pair_19 : decode cX10_pair 19 = .ok (.aload_n 0, 1) := by decide +kernel
theorem dX10_pair_20 : decode cX10_pair 20 = .ok (.bipush (-2), 2) := by decide +kernel
theorem dX10_pair_22 : decode cX10_pair 22 = .ok (.invokevirtual 54, 3) := by decide +kernel
theorem dX10_pair_25 : decode cX10_pair 25 = .ok (.ireturn, 1) := by decide +kernel
theorem dX10_pair_26 : decode cX10_pair 26 = .ok (.aload_n 0, 1) := by decide +kernel
theorem dX10_pair_27 : decode cX10_pair 27 = .ok (.getfield 7, 3) := by decide +kernel
theorem dX10_pair_30 : decode cX10_pair 30 = .ok (.iconst 0, 1) := by decide +kernel
theorem dX10_pair_31 : decode cX10_pair 31 = .ok (.iaload, 1) := by decide +kernel
theorem dX10_pair_32 : decode cX10_pair 32 = .ok (.bipush 6, 2) := by decide +kernel
theorem dX10_pair_34 : decode cX10_pair 34 = .ok (.if_icmp .ne 12, 3) := by decide +kernel
theorem dX10_pair_37 : decode cX10_pair 37 = .ok (.aload_n 0, 1) := by decide +kernel
theorem dX10_pair_38 : decode cX10_pair 38 = .ok (.bipush (-4), 2) := by decide +kernel
theorem dX10_pair_40 : decode cX10_pair 40 = .ok (.invokevirtual 54, 3) := by decide +kernel
theorem dX10_pair_43 : decode cX10_pair 43 = .ok (.goto 12, 3) := by decide +kernel
theorem dX10_pair_46 : decode cX10_pair 46 = .ok (.aload_n 0, 1) := by decide +kernel
theorem dX10_pair_47 : decode cX10_pair 47 = .ok (.getfield 7, 3) := by decide +kernel
theorem dX10_pair_50 : decode cX10_pair 50 = .ok (.iload_n 1, 1) := by decide +kernel
theorem dX10_pair_51 : decode cX10_pair 51 = .ok (.iload_n 2, 1) := by decide +kernel
theorem dX10_pair_52 : decode cX10_pair 52 = .ok (.invokestatic 58, 3) := by decide +kernel
theorem dX10_pair_55 : decode cX10_pair 55 = .ok (.ireturn, 1) := by decide +kernel
theorem dX10_kin_0 : decode cX10_kin 0 = .ok (.iload_n 1, 1) := by decide +kernel
theorem dX10_kin_1 : decode cX10_kin 1 = .ok (.iconst 1, 1) := by decide +kernel
theorem dX10_kin_2 : decode cX10_kin 2 = .ok (.bipush 20, 2) := by decide +kernel
theorem dX10_kin_4 : decode cX10_kin 4 = .ok (.invokestatic 50, 3) := by decide +kernel
theorem dX10_kin_7 : decode cX10_kin 7 = .ok (.ifCond .ne 10, 3) := by decide +kernel
theorem dX10_kin_10 : decode cX10_kin 10 = .ok (.aload_n 0, 1) := by decide +kernel
theorem dX10_kin_11 : decode cX10_kin 11 = .ok (.bipush (-2), 2) := by decide +kernel
theorem dX10_kin_13 : decode cX10_kin 13 = .ok (.invokevirtual 54, 3) := by decide +kernel
theorem dX10_kin_16 : decode cX10_kin 16 = .ok (.ireturn, 1) := by decide +kernel
theorem dX10_kin_17 : decode cX10_kin 17 = .ok (.aload_n 0, 1) := by decide +kernel
theorem dX10_kin_18 : decode cX10_kin 18 = .ok (.getfield 7, 3) := by decide +kernel
theorem dX10_kin_21 : decode cX10_kin 21 = .ok (.iconst 1, 1) := by decide +kernel
theorem dX10_kin_22 : decode cX10_kin 22 = .ok (.iaload, 1) := by decide +kernel
theorem dX10_kin_23 : decode cX10_kin 23 = .ok (.bipush 8, 2) := by decide +kernel
theorem dX10_kin_25 : decode cX10_kin 25 = .ok (.if_icmp .ne 12, 3) := by decide +kernel
theorem dX10_kin_28 : decode cX10_kin 28 = .ok (.aload_n 0, 1) := by decide +kernel
theorem dX10_kin_29 : decode cX10_kin 29 = .ok (.bipush (-4), 2) := by decide +kernel
theorem dX10_kin_31 : decode cX10_kin 31 = .ok (.invokevirtual 54, 3) := by decide +kernel
theorem dX10_kin_34 : decode cX10_kin 34 = .ok (.goto 11, 3) := by decide +kernel
theorem dX10_kin_37 : decode cX10_kin 37 = .ok (.aload_n 0, 1) := by decide +kernel
theorem dX10_kin_38 : decode cX10_kin 38 = .ok (.getfield 7, 3) := by decide +kernel
theorem dX10_kin_41 : decode cX10_kin 41 = .ok (.iload_n 1, 1) := by decide +kernel
theorem dX10_kin_42 : decode cX10_kin 42 = .ok (.invokestatic 62, 3) := by decide +kernel
theorem dX10_kin_45 : decode cX10_kin 45 = .ok (.ireturn, 1) := by decide +kernel
theorem dX10_type_0 : decode cX10_type 0 = .ok (.iload_n 1, 1) := by decide +kernel
theorem dX10_type_1 : decode cX10_type 1 = .ok (.iconst 0, 1) := by decide +kernel
theorem dX10_type_2 : decode cX10_type 2 = .ok (.bipush 127, 2) := by decide +kernel
theorem dX10_type_4 : decode cX10_type 4 = .ok (.invokestatic 50, 3) := by decide +kernel
theorem dX10_type_7 : decode cX10_type 7 = .ok (.ifCond .ne 10, 3) := by decide +kernel
theorem dX10_type_10 : decode cX10_type 10 = .ok (.aload_n 0, 1) := by decide +kernel
theorem dX10_type_11 : decode cX10_type 11 = .ok (.bipush (-2), 2) := by decide +kernel
theorem dX10_type_13 : decode cX10_type 13 = .ok (.invokevirtual 54, 3) := by decide +kernel
theorem dX10_type_16 : decode cX10_type 16 = .ok (.ireturn, 1) := by decide +kernel
theorem dX10_type_17 : decode cX10_type 17 = .ok (.aload_n 0, 1) := by decide +kernel
theorem dX10_type_18 : decode cX10_type 18 = .ok (.getfield 66, 3) := by decide +kernel
theorem dX10_type_21 : decode cX10_type 21 = .ok (.sipush 150, 3) := by decide +kernel
theorem dX10_type_24 : decode cX10_type 24 = .ok (.if_icmp .ne 10, 3) := by decide +kernel
theorem dX10_type_27 : decode cX10_type 27 = .ok (.aload_n 0, 1) := by decide +kernel
theorem dX10_type_28 : decode cX10_type 28 = .ok (.bipush (-4), 2) := by decide +kernel
theorem dX10_type_30 : decode cX10_type 30 = .ok (.invokevirtual 54, 3) := by decide +kernel
theorem dX10_type_33 : decode cX10_type 33 = .ok (.ireturn, 1) := by decide +kernel
theorem dX10_type_34 : decode cX10_type 34 = .ok (.aload_n 0, 1) := by decide +kernel
theorem dX10_type_35 : decode cX10_type 35 = .ok (.getfield 23, 3) := by decide +kernel
theorem dX10_type_38 : decode cX10_type 38 = .ok (.aload_n 0, 1) := by decide +kernel
theorem dX10_type_39 : decode cX10_type 39 = .ok (.getfield 66, 3) := by decide +kernel
theorem dX10_type_42 : decode cX10_type 42 = .ok (.iload_n 1, 1) := by decide +kernel
theorem dX10_type_43 : decode cX10_type 43 = .ok (.iastore, 1) := by decide +kernel
theorem dX10_type_44 : decode cX10_type 44 = .ok (.aload_n 0, 1) := by decide +kernel
theorem dX10_type_45 : decode cX10_type 45 = .ok (.dup, 1) := by decide +kernel
theorem dX10_type_46 : decode cX10_type 46 = .ok (.getfield 66, 3) := by decide +kernel
theorem dX10_type_49 : decode cX10_type 49 = .ok (.iconst 1, 1) := by decide +kernel
theorem dX10_type_50 : decode cX10_type 50 = .ok (.iadd, 1) := by decide +kernel
theorem dX10_type_51 : decode cX10_type 51 = .ok (.putfield 66, 3) := by decide +kernel
theorem dX10_type_54 : decode cX10_type 54 = .ok (.aload_n 0, 1) := by decide +kernel
theorem dX10_type_55 : decode cX10_type 55 = .ok (.getfield 66, 3) := by decide +kernel
theorem dX10_type_58 : decode cX10_type 58 = .ok (.ireturn, 1) := by decide +kernel
theorem dX10_clear_0 : decode cX10_clear 0 = .ok (.aload_n 0, 1) := by decide +kernel
theorem dX10_clear_1 : decode cX10_clear 1 = .ok (.getfield 66, 3) := by decide +kernel
theorem dX10_clear_4 : decode cX10_clear 4 = .ok (.istore_n 1, 1) := by decide +kernel
theorem dX10_clear_5 : decode cX10_clear 5 = .ok (.aload_n 0, 1) := by decide +kernel
theorem dX10_clear_6 : decode cX10_clear 6 = .ok (.iconst 0, 1) := by decide +kernel
theorem dX10_clear_7 : decode cX10_clear 7 = .ok (.putfield 66, 3) := by decide +kernel
theorem dX10_clear_10 : decode cX10_clear 10 = .ok (.iload_n 1, 1) := by decide +kernel
theorem dX10_clear_11 : decode cX10_clear 11 = .ok (.ireturn, 1) := by decide +kernel
theorem dX10_letterAt_0 : decode cX10_letterAt 0 = .ok (.iload_n 1, 1) := by decide +kernel
theorem dX10_letterAt_1 : decode cX10_letterAt 1 = .ok (.aload_n 0, 1) := by decide +kernel
theorem dX10_letterAt_2 : decode cX10_letterAt 2 = .ok (.getfield 66, 3) := by decide +kernel
theorem dX10_letterAt_5 : decode cX10_letterAt 5 = .ok (.if_icmp .ge 12, 3) := by decide +kernel
theorem dX10_letterAt_8 : decode cX10_letterAt 8 = .ok (.aload_n 0, 1) := by decide +kernel
theorem dX10_letterAt_9 : decode cX10_letterAt 9 = .ok (.getfield 23, 3) := by decide +kernel
theorem dX10_letterAt_12 : decode cX10_letterAt 12 = .ok (.iload_n 1, 1) := by decide +kernel
theorem dX10_letterAt_13 : decode cX10_letterAt 13 = .ok (.iaload, 1) := by decide +kernel
theorem dX10_letterAt_14 : decode cX10_letterAt 14 = .ok (.goto 4, 3) := by decide +kernel
theorem dX10_letterAt_17 : decode cX10_letterAt 17 = .ok (.iconst (-1), 1) := by decide +kernel
theorem dX10_letterAt_18 : decode cX10_letterAt 18 = .ok (.ireturn, 1) := by decide +kernel
theorem dX10_nextToken_0 : decode cX10_nextToken 0 = .ok (.aload_n 0, 1) := by decide +kernel
theorem dX10_nextToken_1 : decode cX10_nextToken 1 = .ok (.aload_n 0, 1) := by decide +kernel
theorem dX10_nextToken_2 : decode cX10_nextToken 2 = .ok (.getfield 70, 3) := by decide +kernel
theorem dX10_nextToken_5 : decode cX10_nextToken 5 = .ok (.invokevirtual 73, 3) := by decide +kernel
theorem dX10_nextToken_8 : decode cX10_nextToken 8 = .ok (.bipush 32, 2) := by decide +kernel
theorem dX10_nextToken_10 : decode cX10_nextToken 10 = .ok (.if_icmp .ne 16, 3) := by decide +kernel
theorem dX10_nextToken_13 : decode cX10_nextToken 13 = .ok (.aload_n 0, 1) := by decide +kernel
theorem dX10_nextToken_14 : decode cX10_nextToken 14 = .ok (.dup, 1) := by decide +kernel
theorem dX10_nextToken_15 : decode cX10_nextToken 15 = .ok (.getfield 70, 3) := by decide +kernel
theorem dX10_nextToken_18 : decode cX10_nextToken 18 = .ok (.iconst 1, 1) := by decide +kernel
theorem dX10_nextToken_19 : decode cX10_nextToken 19 = .ok (.iadd, 1) := by decide +kernel
theorem dX10_nextToken_20 : decode cX10_nextToken 20 = .ok (.putfield 70, 3) := by decide +kernel
theorem dX10_nextToken_23 : decode cX10_nextToken 23 = .ok (.goto (-23), 3) := by decide +kernel
theorem dX10_nextToken_26 : decode cX10_nextToken 26 = .ok (.aload_n 0, 1) := by decide +kernel
theorem dX10_nextToken_27 : decode cX10_nextToken 27 = .ok (.aload_n 0, 1) := by decide +kernel
theorem dX10_nextToken_28 : decode cX10_nextToken 28 = .ok (.getfield 70, 3) := by decide +kernel
theorem dX10_nextToken_31 : decode cX10_nextToken 31 = .ok (.putfield 76, 3) := by decide +kernel
theorem dX10_nextToken_34 : decode cX10_nextToken 34 = .ok (.aload_n 0, 1) := by decide +kernel
theorem dX10_nextToken_35 : decode cX10_nextToken 35 = .ok (.aload_n 0, 1) := by decide +kernel
theorem dX10_nextToken_36 : decode cX10_nextToken 36 = .ok (.getfield 70, 3) := by decide +kernel
theorem dX10_nextToken_39 : decode cX10_nextToken 39 = .ok (.invokevirtual 73, 3) := by decide +kernel
theorem dX10_nextToken_42 : decode cX10_nextToken 42 = .ok (.istore_n 1, 1) := by decide +kernel
theorem dX10_nextToken_43 : decode cX10_nextToken 43 = .ok (.iload_n 1, 1) := by decide +kernel
theorem dX10_nextToken_44 : decode cX10_nextToken 44 = .ok (.ifCond .ge 11, 3) := by decide +kernel
theorem dX10_nextToken_47 : decode cX10_nextToken 47 = .ok (.aload_n 0, 1) := by decide +kernel
theorem dX10_nextToken_48 : decode cX10_nextToken 48 = .ok (.iconst 4, 1) := by decide +kernel
theorem dX10_nextToken_49 : decode cX10_nextToken 49 = .ok (.putfield 79, 3) := by decide +kernel
theorem dX10_nextToken_52 : decode cX10_nextToken 52 = .ok (.goto 244, 3) := by decide +kernel
theorem dX10_nextToken_55 : decode cX10_nextToken 55 = .ok (.iload_n 1, 1) := by decide +kernel
theorem dX10_nextToken_56 : decode cX10_nextToken 56 = .ok (.bipush 97, 2) := by decide +kernel
theorem dX10_nextToken_58 : decode cX10_nextToken 58 = .ok (.bipush 122, 2) := by decide +kernel
theorem dX10_nextToken_60 : decode cX10_nextToken 60 = .ok (.invokestatic 50, 3) := by decide +kernel
theorem dX10_nextToken_63 : decode cX10_nextToken 63 = .ok (.ifCond .eq 93, 3) := by decide +kernel
theorem dX10_nextToken_66 : decode cX10_nextToken 66 = .ok (.aload_n 0, 1) := by decide +kernel
theorem dX10_nextToken_67 : decode cX10_nextToken 67 = .ok (.lconst 0, 1) := by decide +kernel
theorem dX10_nextToken_68 : decode cX10_nextToken 68 = .ok (.putfield 82, 3) := by decide +kernel
theorem dX10_nextToken_71 : decode cX10_nextToken 71 = .ok (.aload_n 0, 1) := by decide +kernel
theorem dX10_nextToken_72 : decode cX10_nextToken 72 = .ok (.aload_n 0, 1) := by decide +kernel
theorem dX10_nextToken_73 : decode cX10_nextToken 73 = .ok (.getfield 70, 3) := by decide +kernel
theorem dX10_nextToken_76 : decode cX10_nextToken 76 = .ok (.invokevirtual 73, 3) := by decide +kernel
theorem dX10_nextToken_79 : decode cX10_nextToken 79 = .ok (.bipush 97, 2) := by decide +kernel
theorem dX10_nextToken_81 : decode cX10_nextToken 81 = .ok (.bipush 122, 2) := by decide +kernel
theorem dX10_nextToken_83 : decode cX10_nextToken 83 = .ok (.invokestatic 50, 3) := by decide +kernel
theorem dX10_nextToken_86 : decode cX10_nextToken 86 = .ok (.ifCond .eq 62, 3) := by decide +kernel
theorem dX10_nextToken_89 : decode cX10_nextToken 89 = .ok (.aload_n 0, 1) := by decide +kernel
theorem dX10_nextToken_90 : decode cX10_nextToken 90 = .ok (.aload_n 0, 1) := by decide +kernel
theorem dX10_nextToken_91 : decode cX10_nextToken 91 = .ok (.getfield 70, 3) := by decide +kernel
theorem dX10_nextToken_94 : decode cX10_nextToken 94 = .ok (.aload_n 0, 1) := by decide +kernel
theorem dX10_nextToken_95 : decode cX10_nextToken 95 = .ok (.getfield 76, 3) := by decide +kernel
theorem dX10_nextToken_98 : decode cX10_nextToken 98 = .ok (.isub, 1) := by decide +kernel
theorem dX10_nextToken_99 : decode cX10_nextToken 99 = .ok (.bipush 7, 2) := by decide +kernel
theorem dX10_nextToken_101 : decode cX10_nextToken 101 = .ok (.if_icmp .ge 28, 3) := by decide +kernel
theorem dX10_nextToken_104 : decode cX10_nextToken 104 = .ok (.aload_n 0, 1) := by decide +kernel
theorem dX10_nextToken_105 : decode cX10_nextToken 105 = .ok (.getfield 82, 3) := by decide +kernel
theorem dX10_nextToken_108 : decode cX10_nextToken 108 = .ok (.ldc2_w 85, 3) := by decide +kernel
theorem dX10_nextToken_111 : decode cX10_nextToken 111 = .ok (.lmul, 1) := by decide +kernel
theorem dX10_nextToken_112 : decode cX10_nextToken 112 = .ok (.aload_n 0, 1) := by decide +kernel
theorem dX10_nextToken_113 : decode cX10_nextToken 113 = .ok (.aload_n 0, 1) := by decide +kernel
theorem dX10_nextToken_114 : decode cX10_nextToken 114 = .ok (.getfield 70, 3) := by decide +kernel
theorem dX10_nextToken_117 : decode cX10_nextToken 117 = .ok (.invokevirtual 73, 3) := by decide +kernel
theorem dX10_nextToken_120 : decode cX10_nextToken 120 = .ok (.i2l, 1) := by decide +kernel
theorem dX10_nextToken_121 : decode cX10_nextToken 121 = .ok (.ladd, 1) := by decide +kernel
theorem dX10_nextToken_122 : decode cX10_nextToken 122 = .ok (.ldc2_w 87, 3) := by decide +kernel
theorem dX10_nextToken_125 : decode cX10_nextToken 125 = .ok (.lsub, 1) := by decide +kernel
theorem dX10_nextToken_126 : decode cX10_nextToken 126 = .ok (.goto 6, 3) := by decide +kernel
theorem dX10_nextToken_129 : decode cX10_nextToken 129 = .ok (.ldc2_w 89, 3) := by decide +kernel
theorem dX10_nextToken_132 : decode cX10_nextToken 132 = .ok (.putfield 82, 3) := by decide +kernel
theorem dX10_nextToken_135 : decode cX10_nextToken 135 = .ok (.aload_n 0, 1) := by decide +kernel
theorem dX10_nextToken_136 : decode cX10_nextToken 136 = .ok (.dup, 1) := by decide +kernel
theorem dX10_nextToken_137 : decode cX10_nextToken 137 = .ok (.getfield 70, 3) := by decide +kernel
theorem dX10_nextToken_140 : decode cX10_nextToken 140 = .ok (.iconst 1, 1) := by decide +kernel
theorem dX10_nextToken_141 : decode cX10_nextToken 141 = .ok (.iadd, 1) := by decide +kernel
theorem dX10_nextToken_142 : decode cX10_nextToken 142 = .ok (.putfield 70, 3) := by decide +kernel
theorem dX10_nextToken_145 : decode cX10_nextToken 145 = .ok (.goto (-74), 3) := by decide +kernel
theorem dX10_nextToken_148 : decode cX10_nextToken 148 = .ok (.aload_n 0, 1) := by decide +kernel
theorem dX10_nextToken_149 : decode cX10_nextToken 149 = .ok (.iconst 1, 1) := by decide +kernel
theorem dX10_nextToken_150 : decode cX10_nextToken 150 = .ok (.putfield 79, 3) := by decide +kernel
theorem dX10_nextToken_153 : decode cX10_nextToken 153 = .ok (.goto 143, 3) := by decide +kernel
theorem dX10_nextToken_156 : decode cX10_nextToken 156 = .ok (.iload_n 1, 1) := by decide +kernel
theorem dX10_nextToken_157 : decode cX10_nextToken 157 = .ok (.bipush 48, 2) := by decide +kernel
theorem dX10_nextToken_159 : decode cX10_nextToken 159 = .ok (.bipush 57, 2) := by decide +kernel
theorem dX10_nextToken_161 : decode cX10_nextToken 161 = .ok (.invokestatic 50, 3) := by decide +kernel
theorem dX10_nextToken_164 : decode cX10_nextToken 164 = .ok (.ifCond .eq 107, 3) := by decide +kernel
theorem dX10_nextToken_167 : decode cX10_nextToken 167 = .ok (.aload_n 0, 1) := by decide +kernel
theorem dX10_nextToken_168 : decode cX10_nextToken 168 = .ok (.iconst 0, 1) := by decide +kernel
theorem dX10_nextToken_169 : decode cX10_nextToken 169 = .ok (.putfield 91, 3) := by decide +kernel
theorem dX10_nextToken_172 : decode cX10_nextToken 172 = .ok (.aload_n 0, 1) := by decide +kernel
theorem dX10_nextToken_173 : decode cX10_nextToken 173 = .ok (.aload_n 0, 1) := by decide +kernel
theorem dX10_nextToken_174 : decode cX10_nextToken 174 = .ok (.getfield 70, 3) := by decide +kernel
theorem dX10_nextToken_177 : decode cX10_nextToken 177 = .ok (.invokevirtual 73, 3) := by decide +kernel
theorem dX10_nextToken_180 : decode cX10_nextToken 180 = .ok (.bipush 48, 2) := by decide +kernel
theorem dX10_nextToken_182 : decode cX10_nextToken 182 = .ok (.bipush 57, 2) := by decide +kernel
theorem dX10_nextToken_184 : decode cX10_nextToken 184 = .ok (.invokestatic 50, 3) := by decide +kernel
theorem dX10_nextToken_187 : decode cX10_nextToken 187 = .ok (.ifCond .eq 59, 3) := by decide +kernel
theorem dX10_nextToken_190 : decode cX10_nextToken 190 = .ok (.aload_n 0, 1) := by decide +kernel
theorem dX10_nextToken_191 : decode cX10_nextToken 191 = .ok (.aload_n 0, 1) := by decide +kernel
theorem dX10_nextToken_192 : decode cX10_nextToken 192 = .ok (.getfield 70, 3) := by decide +kernel
theorem dX10_nextToken_195 : decode cX10_nextToken 195 = .ok (.aload_n 0, 1) := by decide +kernel
theorem dX10_nextToken_196 : decode cX10_nextToken 196 = .ok (.getfield 76, 3) := by decide +kernel
theorem dX10_nextToken_199 : decode cX10_nextToken 199 = .ok (.isub, 1) := by decide +kernel
theorem dX10_nextToken_200 : decode cX10_nextToken 200 = .ok (.iconst 2, 1) := by decide +kernel
theorem dX10_nextToken_201 : decode cX10_nextToken 201 = .ok (.if_icmp .ge 25, 3) := by decide +kernel
theorem dX10_nextToken_204 : decode cX10_nextToken 204 = .ok (.bipush 10, 2) := by decide +kernel
theorem dX10_nextToken_206 : decode cX10_nextToken 206 = .ok (.aload_n 0, 1) := by decide +kernel
theorem dX10_nextToken_207 : decode cX10_nextToken 207 = .ok (.getfield 91, 3) := by decide +kernel
theorem dX10_nextToken_210 : decode cX10_nextToken 210 = .ok (.imul, 1) := by decide +kernel
theorem dX10_nextToken_211 : decode cX10_nextToken 211 = .ok (.aload_n 0, 1) := by decide +kernel
theorem dX10_nextToken_212 : decode cX10_nextToken 212 = .ok (.aload_n 0, 1) := by decide +kernel
theorem dX10_nextToken_213 : decode cX10_nextToken 213 = .ok (.getfield 70, 3) := by decide +kernel
theorem dX10_nextToken_216 : decode cX10_nextToken 216 = .ok (.invokevirtual 73, 3) := by decide +kernel
theorem dX10_nextToken_219 : decode cX10_nextToken 219 = .ok (.iadd, 1) := by decide +kernel
theorem dX10_nextToken_220 : decode cX10_nextToken 220 = .ok (.bipush 48, 2) := by decide +kernel
theorem dX10_nextToken_222 : decode cX10_nextToken 222 = .ok (.isub, 1) := by decide +kernel
theorem dX10_nextToken_223 : decode cX10_nextToken 223 = .ok (.goto 7, 3) := by decide +kernel
theorem dX10_nextToken_226 : decode cX10_nextToken 226 = .ok (.aload_n 0, 1) := by decide +kernel
theorem dX10_nextToken_227 : decode cX10_nextToken 227 = .ok (.getfield 91, 3) := by decide +kernel
theorem dX10_nextToken_230 : decode cX10_nextToken 230 = .ok (.putfield 91, 3) := by decide +kernel
theorem dX10_nextToken_233 : decode cX10_nextToken 233 = .ok (.aload_n 0, 1) := by decide +kernel
theorem dX10_nextToken_234 : decode cX10_nextToken 234 = .ok (.dup, 1) := by decide +kernel
theorem dX10_nextToken_235 : decode cX10_nextToken 235 = .ok (.getfield 70, 3) := by decide +kernel
theorem dX10_nextToken_238 : decode cX10_nextToken 238 = .ok (.iconst 1, 1) := by decide +kernel
theorem dX10_nextToken_239 : decode cX10_nextToken 239 = .ok (.iadd, 1) := by decide +kernel
theorem dX10_nextToken_240 : decode cX10_nextToken 240 = .ok (.putfield 70, 3) := by decide +kernel
theorem dX10_nextToken_243 : decode cX10_nextToken 243 = .ok (.goto (-71), 3) := by decide +kernel
theorem dX10_nextToken_246 : decode cX10_nextToken 246 = .ok (.aload_n 0, 1) := by decide +kernel
theorem dX10_nextToken_247 : decode cX10_nextToken 247 = .ok (.aload_n 0, 1) := by decide +kernel
theorem dX10_nextToken_248 : decode cX10_nextToken 248 = .ok (.getfield 70, 3) := by decide +kernel
theorem dX10_nextToken_251 : decode cX10_nextToken 251 = .ok (.aload_n 0, 1) := by decide +kernel
theorem dX10_nextToken_252 : decode cX10_nextToken 252 = .ok (.getfield 76, 3) := by decide +kernel
theorem dX10_nextToken_255 : decode cX10_nextToken 255 = .ok (.isub, 1) := by decide +kernel
theorem dX10_nextToken_256 : decode cX10_nextToken 256 = .ok (.iconst 2, 1) := by decide +kernel
theorem dX10_nextToken_257 : decode cX10_nextToken 257 = .ok (.if_icmp .le 7, 3) := by decide +kernel
theorem dX10_nextToken_260 : decode cX10_nextToken 260 = .ok (.iconst 5, 1) := by decide +kernel
theorem dX10_nextToken_261 : decode cX10_nextToken 261 = .ok (.goto 4, 3) := by decide +kernel
theorem dX10_nextToken_264 : decode cX10_nextToken 264 = .ok (.iconst 2, 1) := by decide +kernel
theorem dX10_nextToken_265 : decode cX10_nextToken 265 = .ok (.putfield 79, 3) := by decide +kernel
theorem dX10_nextToken_268 : decode cX10_nextToken 268 = .ok (.goto 28, 3) := by decide +kernel
theorem dX10_nextToken_271 : decode cX10_nextToken 271 = .ok (.aload_n 0, 1) := by decide +kernel
theorem dX10_nextToken_272 : decode cX10_nextToken 272 = .ok (.iload_n 1, 1) := by decide +kernel
theorem dX10_nextToken_273 : decode cX10_nextToken 273 = .ok (.bipush 59, 2) := by decide +kernel
theorem dX10_nextToken_275 : decode cX10_nextToken 275 = .ok (.if_icmp .ne 7, 3) := by decide +kernel
theorem dX10_nextToken_278 : decode cX10_nextToken 278 = .ok (.iconst 3, 1) := by decide +kernel
theorem dX10_nextToken_279 : decode cX10_nextToken 279 = .ok (.goto 4, 3) := by decide +kernel
theorem dX10_nextToken_282 : decode cX10_nextToken 282 = .ok (.iconst 5, 1) := by decide +kernel
theorem dX10_nextToken_283 : decode cX10_nextToken 283 = .ok (.putfield 79, 3) := by decide +kernel
theorem dX10_nextToken_286 : decode cX10_nextToken 286 = .ok (.aload_n 0, 1) := by decide +kernel
theorem dX10_nextToken_287 : decode cX10_nextToken 287 = .ok (.dup, 1) := by decide +kernel
theorem dX10_nextToken_288 : decode cX10_nextToken 288 = .ok (.getfield 70, 3) := by decide +kernel
theorem dX10_nextToken_291 : decode cX10_nextToken 291 = .ok (.iconst 1, 1) := by decide +kernel
theorem dX10_nextToken_292 : decode cX10_nextToken 292 = .ok (.iadd, 1) := by decide +kernel
theorem dX10_nextToken_293 : decode cX10_nextToken 293 = .ok (.putfield 70, 3) := by decide +kernel
theorem dX10_nextToken_296 : decode cX10_nextToken 296 = .ok (.return_, 1) := by decide +kernel
theorem dX10_wordOf_0 : decode cX10_wordOf 0 = .ok (.lconst 0, 1) := by decide +kernel
theorem dX10_wordOf_1 : decode cX10_wordOf 1 = .ok (.lstore 6, 2) := by decide +kernel
theorem dX10_wordOf_3 : decode cX10_wordOf 3 = .ok (.iload_n 0, 1) := by decide +kernel
theorem dX10_wordOf_4 : decode cX10_wordOf 4 = .ok (.ifCond .le 15, 3) := by decide +kernel
theorem dX10_wordOf_7 : decode cX10_wordOf 7 = .ok (.lload 6, 2) := by decide +kernel
theorem dX10_wordOf_9 : decode cX10_wordOf 9 = .ok (.ldc2_w 85, 3) := by decide +kernel
theorem dX10_wordOf_12 : decode cX10_wordOf 12 = .ok (.lmul, 1) := by decide +kernel
theorem dX10_wordOf_13 : decode cX10_wordOf 13 = .ok (.iload_n 0, 1) := by decide +kernel
theorem dX10_wordOf_14 : decode cX10_wordOf 14 = .ok (.i2l, 1) := by decide +kernel
theorem dX10_wordOf_15 : decode cX10_wordOf 15 = .ok (.ladd, 1) := by decide +kernel
theorem dX10_wordOf_16 : decode cX10_wordOf 16 = .ok (.goto 5, 3) := by decide +kernel
theorem dX10_wordOf_19 : decode cX10_wordOf 19 = .ok (.lload 6, 2) := by decide +kernel
theorem dX10_wordOf_21 : decode cX10_wordOf 21 = .ok (.lstore 6, 2) := by decide +kernel
theorem dX10_wordOf_23 : decode cX10_wordOf 23 = .ok (.iload_n 1, 1) := by decide +kernel
theorem dX10_wordOf_24 : decode cX10_wordOf 24 = .ok (.ifCond .le 15, 3) := by decide +kernel
theorem dX10_wordOf_27 : decode cX10_wordOf 27 = .ok (.lload 6, 2) := by decide +kernel
theorem dX10_wordOf_29 : decode cX10_wordOf 29 = .ok (.ldc2_w 85, 3) := by decide +kernel
theorem dX10_wordOf_32 : decode cX10_wordOf 32 = .ok (.lmul, 1) := by decide +kernel
theorem dX10_wordOf_33 : decode cX10_wordOf 33 = .ok (.iload_n 1, 1) := by decide +kernel
theorem dX10_wordOf_34 : decode cX10_wordOf 34 = .ok (.i2l, 1) := by decide +kernel
theorem dX10_wordOf_35 : decode cX10_wordOf 35 = .ok (.ladd, 1) := by decide +kernel
theorem dX10_wordOf_36 : decode cX10_wordOf 36 = .ok (.goto 5, 3) := by decide +kernel
theorem dX10_wordOf_39 : decode cX10_wordOf 39 = .ok (.lload 6, 2) := by decide +kernel
theorem dX10_wordOf_41 : decode cX10_wordOf 41 = .ok (.lstore 6, 2) := by decide +kernel
theorem dX10_wordOf_43 : decode cX10_wordOf 43 = .ok (.iload_n 2, 1) := by decide +kernel
theorem dX10_wordOf_44 : decode cX10_wordOf 44 = .ok (.ifCond .le 15, 3) := by decide +kernel
theorem dX10_wordOf_47 : decode cX10_wordOf 47 = .ok (.lload 6, 2) := by decide +kernel
theorem dX10_wordOf_49 : decode cX10_wordOf 49 = .ok (.ldc2_w 85, 3) := by decide +kernel
theorem dX10_wordOf_52 : decode cX10_wordOf 52 = .ok (.lmul, 1) := by decide +kernel
theorem dX10_wordOf_53 : decode cX10_wordOf 53 = .ok (.iload_n 2, 1) := by decide +kernel
theorem dX10_wordOf_54 : decode cX10_wordOf 54 = .ok (.i2l, 1) := by decide +kernel
theorem dX10_wordOf_55 : decode cX10_wordOf 55 = .ok (.ladd, 1) := by decide +kernel
theorem dX10_wordOf_56 : decode cX10_wordOf 56 = .ok (.goto 5, 3) := by decide +kernel
theorem dX10_wordOf_59 : decode cX10_wordOf 59 = .ok (.lload 6, 2) := by decide +kernel
theorem dX10_wordOf_61 : decode cX10_wordOf 61 = .ok (.lstore 6, 2) := by decide +kernel
theorem dX10_wordOf_63 : decode cX10_wordOf 63 = .ok (.iload_n 3, 1) := by decide +kernel
theorem dX10_wordOf_64 : decode cX10_wordOf 64 = .ok (.ifCond .le 15, 3) := by decide +kernel
theorem dX10_wordOf_67 : decode cX10_wordOf 67 = .ok (.lload 6, 2) := by decide +kernel
theorem dX10_wordOf_69 : decode cX10_wordOf 69 = .ok (.ldc2_w 85, 3) := by decide +kernel
theorem dX10_wordOf_72 : decode cX10_wordOf 72 = .ok (.lmul, 1) := by decide +kernel
theorem dX10_wordOf_73 : decode cX10_wordOf 73 = .ok (.iload_n 3, 1) := by decide +kernel
theorem dX10_wordOf_74 : decode cX10_wordOf 74 = .ok (.i2l, 1) := by decide +kernel
theorem dX10_wordOf_75 : decode cX10_wordOf 75 = .ok (.ladd, 1) := by decide +kernel
theorem dX10_wordOf_76 : decode cX10_wordOf 76 = .ok (.goto 5, 3) := by decide +kernel
theorem dX10_wordOf_79 : decode cX10_wordOf 79 = .ok (.lload 6, 2) := by decide +kernel
theorem dX10_wordOf_81 : decode cX10_wordOf 81 = .ok (.lstore 6, 2) := by decide +kernel
theorem dX10_wordOf_83 : decode cX10_wordOf 83 = .ok (.iload 4, 2) := by decide +kernel
theorem dX10_wordOf_85 : decode cX10_wordOf 85 = .ok (.ifCond .le 16, 3) := by decide +kernel
theorem dX10_wordOf_88 : decode cX10_wordOf 88 = .ok (.lload 6, 2) := by decide +kernel
theorem dX10_wordOf_90 : decode cX10_wordOf 90 = .ok (.ldc2_w 85, 3) := by decide +kernel
theorem dX10_wordOf_93 : decode cX10_wordOf 93 = .ok (.lmul, 1) := by decide +kernel
theorem dX10_wordOf_94 : decode cX10_wordOf 94 = .ok (.iload 4, 2) := by decide +kernel
theorem dX10_wordOf_96 : decode cX10_wordOf 96 = .ok (.i2l, 1) := by decide +kernel
theorem dX10_wordOf_97 : decode cX10_wordOf 97 = .ok (.ladd, 1) := by decide +kernel
theorem dX10_wordOf_98 : decode cX10_wordOf 98 = .ok (.goto 5, 3) := by decide +kernel
theorem dX10_wordOf_101 : decode cX10_wordOf 101 = .ok (.lload 6, 2) := by decide +kernel
theorem dX10_wordOf_103 : decode cX10_wordOf 103 = .ok (.lstore 6, 2) := by decide +kernel
theorem dX10_wordOf_105 : decode cX10_wordOf 105 = .ok (.iload 5, 2) := by decide +kernel
theorem dX10_wordOf_107 : decode cX10_wordOf 107 = .ok (.ifCond .le 16, 3) := by decide +kernel
theorem dX10_wordOf_110 : decode cX10_wordOf 110 = .ok (.lload 6, 2) := by decide +kernel
theorem dX10_wordOf_112 : decode cX10_wordOf 112 = .ok (.ldc2_w 85, 3) := by decide +kernel
theorem dX10_wordOf_115 : decode cX10_wordOf 115 = .ok (.lmul, 1) := by decide +kernel
theorem dX10_wordOf_116 : decode cX10_wordOf 116 = .ok (.iload 5, 2) := by decide +kernel
theorem dX10_wordOf_118 : decode cX10_wordOf 118 = .ok (.i2l, 1) := by decide +kernel
theorem dX10_wordOf_119 : decode cX10_wordOf 119 = .ok (.ladd, 1) := by decide +kernel
theorem dX10_wordOf_120 : decode cX10_wordOf 120 = .ok (.goto 5, 3) := by decide +kernel
theorem dX10_wordOf_123 : decode cX10_wordOf 123 = .ok (.lload 6, 2) := by decide +kernel
theorem dX10_wordOf_125 : decode cX10_wordOf 125 = .ok (.lreturn, 1) := by decide +kernel
theorem dX10_isNumber_0 : decode cX10_isNumber 0 = .ok (.aload_n 0, 1) := by decide +kernel
theorem dX10_isNumber_1 : decode cX10_isNumber 1 = .ok (.getfield 79, 3) := by decide +kernel
theorem dX10_isNumber_4 : decode cX10_isNumber 4 = .ok (.iconst 2, 1) := by decide +kernel
theorem dX10_isNumber_5 : decode cX10_isNumber 5 = .ok (.if_icmp .ne 19, 3) := by decide +kernel
theorem dX10_isNumber_8 : decode cX10_isNumber 8 = .ok (.aload_n 0, 1) := by decide +kernel
theorem dX10_isNumber_9 : decode cX10_isNumber 9 = .ok (.getfield 91, 3) := by decide +kernel
theorem dX10_isNumber_12 : decode cX10_isNumber 12 = .ok (.iload_n 1, 1) := by decide +kernel
theorem dX10_isNumber_13 : decode cX10_isNumber 13 = .ok (.iload_n 2, 1) := by decide +kernel
theorem dX10_isNumber_14 : decode cX10_isNumber 14 = .ok (.invokestatic 50, 3) := by decide +kernel
theorem dX10_isNumber_17 : decode cX10_isNumber 17 = .ok (.ifCond .eq 7, 3) := by decide +kernel
theorem dX10_isNumber_20 : decode cX10_isNumber 20 = .ok (.iconst 1, 1) := by decide +kernel
theorem dX10_isNumber_21 : decode cX10_isNumber 21 = .ok (.goto 4, 3) := by decide +kernel
theorem dX10_isNumber_24 : decode cX10_isNumber 24 = .ok (.iconst 0, 1) := by decide +kernel
theorem dX10_isNumber_25 : decode cX10_isNumber 25 = .ok (.ireturn, 1) := by decide +kernel
theorem dX10_isEnd_0 : decode cX10_isEnd 0 = .ok (.aload_n 0, 1) := by decide +kernel
theorem dX10_isEnd_1 : decode cX10_isEnd 1 = .ok (.invokevirtual 94, 3) := by decide +kernel
theorem dX10_isEnd_4 : decode cX10_isEnd 4 = .ok (.aload_n 0, 1) := by decide +kernel
theorem dX10_isEnd_5 : decode cX10_isEnd 5 = .ok (.getfield 79, 3) := by decide +kernel
theorem dX10_isEnd_8 : decode cX10_isEnd 8 = .ok (.iconst 3, 1) := by decide +kernel
theorem dX10_isEnd_9 : decode cX10_isEnd 9 = .ok (.if_icmp .ne 7, 3) := by decide +kernel
theorem dX10_isEnd_12 : decode cX10_isEnd 12 = .ok (.iconst 1, 1) := by decide +kernel
theorem dX10_isEnd_13 : decode cX10_isEnd 13 = .ok (.goto 4, 3) := by decide +kernel
theorem dX10_isEnd_16 : decode cX10_isEnd 16 = .ok (.iconst 0, 1) := by decide +kernel
theorem dX10_isEnd_17 : decode cX10_isEnd 17 = .ok (.ireturn, 1) := by decide +kernel
theorem dX10_yearsTold_0 : decode cX10_yearsTold 0 = .ok (.iconst 0, 1) := by decide +kernel
theorem dX10_yearsTold_1 : decode cX10_yearsTold 1 = .ok (.istore_n 1, 1) := by decide +kernel
theorem dX10_yearsTold_2 : decode cX10_yearsTold 2 = .ok (.aload_n 0, 1) := by decide +kernel
theorem dX10_yearsTold_3 : decode cX10_yearsTold 3 = .ok (.invokevirtual 94, 3) := by decide +kernel
theorem dX10_yearsTold_6 : decode cX10_yearsTold 6 = .ok (.aload_n 0, 1) := by decide +kernel
theorem dX10_yearsTold_7 : decode cX10_yearsTold 7 = .ok (.getfield 79, 3) := by decide +kernel
theorem dX10_yearsTold_10 : decode cX10_yearsTold 10 = .ok (.iconst 3, 1) := by decide +kernel
theorem dX10_yearsTold_11 : decode cX10_yearsTold 11 = .ok (.if_icmp .eq 31, 3) := by decide +kernel
theorem dX10_yearsTold_14 : decode cX10_yearsTold 14 = .ok (.aload_n 0, 1) := by decide +kernel
theorem dX10_yearsTold_15 : decode cX10_yearsTold 15 = .ok (.iconst 0, 1) := by decide +kernel
theorem dX10_yearsTold_16 : decode cX10_yearsTold 16 = .ok (.bipush 11, 2) := by decide +kernel
theorem dX10_yearsTold_18 : decode cX10_yearsTold 18 = .ok (.invokevirtual 97, 3) := by decide +kernel
theorem dX10_yearsTold_21 : decode cX10_yearsTold 21 = .ok (.ifCond .ne 5, 3) := by decide +kernel
theorem dX10_yearsTold_24 : decode cX10_yearsTold 24 = .ok (.iconst (-1), 1) := by decide +kernel
theorem dX10_yearsTold_25 : decode cX10_yearsTold 25 = .ok (.ireturn, 1) := by decide +kernel
theorem dX10_yearsTold_26 : decode cX10_yearsTold 26 = .ok (.iload_n 1, 1) := by decide +kernel
theorem dX10_yearsTold_27 : decode cX10_yearsTold 27 = .ok (.iconst 1, 1) := by decide +kernel
theorem dX10_yearsTold_28 : decode cX10_yearsTold 28 = .ok (.aload_n 0, 1) := by decide +kernel
theorem dX10_yearsTold_29 : decode cX10_yearsTold 29 = .ok (.getfield 91, 3) := by decide +kernel
theorem dX10_yearsTold_32 : decode cX10_yearsTold 32 = .ok (.ishl, 1) := by decide +kernel
theorem dX10_yearsTold_33 : decode cX10_yearsTold 33 = .ok (.ior, 1) := by decide +kernel
theorem dX10_yearsTold_34 : decode cX10_yearsTold 34 = .ok (.istore_n 1, 1) := by decide +kernel
theorem dX10_yearsTold_35 : decode cX10_yearsTold 35 = .ok (.aload_n 0, 1) := by decide +kernel
theorem dX10_yearsTold_36 : decode cX10_yearsTold 36 = .ok (.invokevirtual 94, 3) := by decide +kernel
theorem dX10_yearsTold_39 : decode cX10_yearsTold 39 = .ok (.goto (-33), 3) := by decide +kernel
theorem dX10_yearsTold_42 : decode cX10_yearsTold 42 = .ok (.iload_n 1, 1) := by decide +kernel
theorem dX10_yearsTold_43 : decode cX10_yearsTold 43 = .ok (.ireturn, 1) := by decide +kernel
theorem dX10_isItem_0 : decode cX10_isItem 0 = .ok (.aload_n 0, 1) := by decide +kernel
theorem dX10_isItem_1 : decode cX10_isItem 1 = .ok (.getfield 79, 3) := by decide +kernel
theorem dX10_isItem_4 : decode cX10_isItem 4 = .ok (.iconst 1, 1) := by decide +kernel
theorem dX10_isItem_5 : decode cX10_isItem 5 = .ok (.if_icmp .eq 5, 3) := by decide +kernel
theorem dX10_isItem_8 : decode cX10_isItem 8 = .ok (.iconst 0, 1) := by decide +kernel
theorem dX10_isItem_9 : decode cX10_isItem 9 = .ok (.ireturn, 1) := by decide +kernel
theorem dX10_isItem_10 : decode cX10_isItem 10 = .ok (.aload_n 0, 1) := by decide +kernel
theorem dX10_isItem_11 : decode cX10_isItem 11 = .ok (.getfield 101, 3) := by decide +kernel
theorem dX10_isItem_14 : decode cX10_isItem 14 = .ok (.ifCond .ne 7, 3) := by decide +kernel
theorem dX10_isItem_17 : decode cX10_isItem 17 = .ok (.iconst 1, 1) := by decide +kernel
theorem dX10_isItem_18 : decode cX10_isItem 18 = .ok (.goto 4, 3) := by decide +kernel
theorem dX10_isItem_21 : decode cX10_isItem 21 = .ok (.iconst 0, 1) := by decide +kernel
theorem dX10_isItem_22 : decode cX10_isItem 22 = .ok (.istore_n 1, 1) := by decide +kernel
theorem dX10_isItem_23 : decode cX10_isItem 23 = .ok (.aload_n 0, 1) := by decide +kernel
theorem dX10_isItem_24 : decode cX10_isItem 24 = .ok (.getfield 82, 3) := by decide +kernel
theorem dX10_isItem_27 : decode cX10_isItem 27 = .ok (.bipush 22, 2) := by decide +kernel
theorem dX10_isItem_29 : decode cX10_isItem 29 = .ok (.iconst 1, 1) := by decide +kernel
theorem dX10_isItem_30 : decode cX10_isItem 30 = .ok (.bipush 12, 2) := by decide +kernel
theorem dX10_isItem_32 : decode cX10_isItem 32 = .ok (.bipush 12, 2) := by decide +kernel
theorem dX10_isItem_34 : decode cX10_isItem 34 = .ok (.iconst 5, 1) := by decide +kernel
theorem dX10_isItem_35 : decode cX10_isItem 35 = .ok (.bipush 25, 2) := by decide +kernel
theorem dX10_isItem_37 : decode cX10_isItem 37 = .ok (.invokestatic 104, 3) := by decide +kernel
theorem dX10_isItem_40 : decode cX10_isItem 40 = .ok (.lcmp, 1) := by decide +kernel
theorem dX10_isItem_41 : decode cX10_isItem 41 = .ok (.ifCond .ne 20, 3) := by decide +kernel
theorem dX10_isItem_44 : decode cX10_isItem 44 = .ok (.iload_n 1, 1) := by decide +kernel
theorem dX10_isItem_45 : decode cX10_isItem 45 = .ok (.ifCond .eq 14, 3) := by decide +kernel
theorem dX10_isItem_48 : decode cX10_isItem 48 = .ok (.aload_n 0, 1) := by decide +kernel
theorem dX10_isItem_49 : decode cX10_isItem 49 = .ok (.invokevirtual 108, 3) := by decide +kernel
theorem dX10_isItem_52 : decode cX10_isItem 52 = .ok (.ifCond .eq 7, 3) := by decide +kernel
theorem dX10_isItem_55 : decode cX10_isItem 55 = .ok (.iconst 1, 1) := by decide +kernel
theorem dX10_isItem_56 : decode cX10_isItem 56 = .ok (.goto 4, 3) := by decide +kernel
theorem dX10_isItem_59 : decode cX10_isItem 59 = .ok (.iconst 0, 1) := by decide +kernel
theorem dX10_isItem_60 : decode cX10_isItem 60 = .ok (.ireturn, 1) := by decide +kernel
theorem dX10_isItem_61 : decode cX10_isItem 61 = .ok (.iload_n 1, 1) := by decide +kernel
theorem dX10_isItem_62 : decode cX10_isItem 62 = .ok (.ifCond .eq 5, 3) := by decide +kernel
theorem dX10_isItem_65 : decode cX10_isItem 65 = .ok (.iconst 0, 1) := by decide +kernel
theorem dX10_isItem_66 : decode cX10_isItem 66 = .ok (.ireturn, 1) := by decide +kernel
theorem dX10_isItem_67 : decode cX10_isItem 67 = .ok (.aload_n 0, 1) := by decide +kernel
theorem dX10_isItem_68 : decode cX10_isItem 68 = .ok (.getfield 82, 3) := by decide +kernel
theorem dX10_isItem_71 : decode cX10_isItem 71 = .ok (.iconst 4, 1) := by decide +kernel
theorem dX10_isItem_72 : decode cX10_isItem 72 = .ok (.iconst 1, 1) := by decide +kernel
theorem dX10_isItem_73 : decode cX10_isItem 73 = .ok (.bipush 13, 2) := by decide +kernel
theorem dX10_isItem_75 : decode cX10_isItem 75 = .ok (.bipush 16, 2) := by decide +kernel
theorem dX10_isItem_77 : decode cX10_isItem 77 = .ok (.iconst 0, 1) := by decide +kernel
theorem dX10_isItem_78 : decode cX10_isItem 78 = .ok (.iconst 0, 1) := by decide +kernel
theorem dX10_isItem_79 : decode cX10_isItem 79 = .ok (.invokestatic 104, 3) := by decide +kernel
theorem dX10_isItem_82 : decode cX10_isItem 82 = .ok (.lcmp, 1) := by decide +kernel
theorem dX10_isItem_83 : decode cX10_isItem 83 = .ok (.ifCond .ne 7, 3) := by decide +kernel
theorem dX10_isItem_86 : decode cX10_isItem 86 = .ok (.iconst 1, 1) := by decide +kernel
theorem dX10_isItem_87 : decode cX10_isItem 87 = .ok (.goto 4, 3) := by decide +kernel
theorem dX10_isItem_90 : decode cX10_isItem 90 = .ok (.iconst 0, 1) := by decide +kernel
theorem dX10_isItem_91 : decode cX10_isItem 91 = .ok (.istore_n 2, 1) := by decide +kernel
theorem dX10_isItem_92 : decode cX10_isItem 92 = .ok (.iload_n 2, 1) := by decide +kernel
theorem dX10_isItem_93 : decode cX10_isItem 93 = .ok (.ifCond .ne 22, 3) := by decide +kernel
theorem dX10_isItem_96 : decode cX10_isItem 96 = .ok (.aload_n 0, 1) := by decide +kernel
theorem dX10_isItem_97 : decode cX10_isItem 97 = .ok (.getfield 82, 3) := by decide +kernel
theorem dX10_isItem_100 : decode cX10_isItem 100 = .ok (.iconst 4, 1) := by decide +kernel
theorem dX10_isItem_101 : decode cX10_isItem 101 = .ok (.bipush 18, 2) := by decide +kernel
theorem dX10_isItem_103 : decode cX10_isItem 103 = .ok (.bipush 25, 2) := by decide +kernel
theorem dX10_isItem_105 : decode cX10_isItem 105 = .ok (.iconst 0, 1) := by decide +kernel
theorem dX10_isItem_106 : decode cX10_isItem 106 = .ok (.iconst 0, 1) := by decide +kernel
theorem dX10_isItem_107 : decode cX10_isItem 107 = .ok (.iconst 0, 1) := by decide +kernel
theorem dX10_isItem_108 : decode cX10_isItem 108 = .ok (.invokestatic 104, 3) := by decide +kernel
theorem dX10_isItem_111 : decode cX10_isItem 111 = .ok (.lcmp, 1) := by decide +kernel
theorem dX10_isItem_112 : decode cX10_isItem 112 = .ok (.ifCond .ne 46, 3) := by decide +kernel
theorem dX10_isItem_115 : decode cX10_isItem 115 = .ok (.aload_n 0, 1) := by decide +kernel
theorem dX10_isItem_116 : decode cX10_isItem 116 = .ok (.invokevirtual 112, 3) := by decide +kernel
theorem dX10_isItem_119 : decode cX10_isItem 119 = .ok (.istore_n 3, 1) := by decide +kernel
theorem dX10_isItem_120 : decode cX10_isItem 120 = .ok (.iload_n 3, 1) := by decide +kernel
theorem dX10_isItem_121 : decode cX10_isItem 121 = .ok (.ifCond .ge 5, 3) := by decide +kernel
theorem dX10_isItem_124 : decode cX10_isItem 124 = .ok (.iconst 0, 1) := by decide +kernel
theorem dX10_isItem_125 : decode cX10_isItem 125 = .ok (.ireturn, 1) := by decide +kernel
theorem dX10_isItem_126 : decode cX10_isItem 126 = .ok (.aload_n 0, 1) := by decide +kernel
theorem dX10_isItem_127 : decode cX10_isItem 127 = .ok (.getfield 13, 3) := by decide +kernel
theorem dX10_isItem_130 : decode cX10_isItem 130 = .ok (.iload_n 2, 1) := by decide +kernel
theorem dX10_isItem_131 : decode cX10_isItem 131 = .ok (.ifCond .eq 7, 3) := by decide +kernel
theorem dX10_isItem_134 : decode cX10_isItem 134 = .ok (.iconst 3, 1) := by decide +kernel
theorem dX10_isItem_135 : decode cX10_isItem 135 = .ok (.goto 4, 3) := by decide +kernel
theorem dX10_isItem_138 : decode cX10_isItem 138 = .ok (.iconst 4, 1) := by decide +kernel
theorem dX10_isItem_139 : decode cX10_isItem 139 = .ok (.aload_n 0, 1) := by decide +kernel
theorem dX10_isItem_140 : decode cX10_isItem 140 = .ok (.getfield 13, 3) := by decide +kernel
theorem dX10_isItem_143 : decode cX10_isItem 143 = .ok (.iload_n 2, 1) := by decide +kernel
theorem dX10_isItem_144 : decode cX10_isItem 144 = .ok (.ifCond .eq 7, 3) := by decide +kernel
theorem dX10_isItem_147 : decode cX10_isItem 147 = .ok (.iconst 3, 1) := by decide +kernel
theorem dX10_isItem_148 : decode cX10_isItem 148 = .ok (.goto 4, 3) := by decide +kernel
theorem dX10_isItem_151 : decode cX10_isItem 151 = .ok (.iconst 4, 1) := by decide +kernel
theorem dX10_isItem_152 : decode cX10_isItem 152 = .ok (.iaload, 1) := by decide +kernel
theorem dX10_isItem_153 : decode cX10_isItem 153 = .ok (.iload_n 3, 1) := by decide +kernel
theorem dX10_isItem_154 : decode cX10_isItem 154 = .ok (.ior, 1) := by decide +kernel
theorem dX10_isItem_155 : decode cX10_isItem 155 = .ok (.iastore, 1) := by decide +kernel
theorem dX10_isItem_156 : decode cX10_isItem 156 = .ok (.iconst 1, 1) := by decide +kernel
theorem dX10_isItem_157 : decode cX10_isItem 157 = .ok (.ireturn, 1) := by decide +kernel
theorem dX10_isItem_158 : decode cX10_isItem 158 = .ok (.aload_n 0, 1) := by decide +kernel
theorem dX10_isItem_159 : decode cX10_isItem 159 = .ok (.getfield 82, 3) := by decide +kernel
theorem dX10_isItem_162 : decode cX10_isItem 162 = .ok (.bipush 16, 2) := by decide +kernel
theorem dX10_isItem_164 : decode cX10_isItem 164 = .ok (.iconst 1, 1) := by decide +kernel
theorem dX10_isItem_165 : decode cX10_isItem 165 = .ok (.bipush 9, 2) := by decide +kernel
theorem dX10_isItem_167 : decode cX10_isItem 167 = .ok (.bipush 18, 2) := by decide +kernel
theorem dX10_isItem_169 : decode cX10_isItem 169 = .ok (.iconst 0, 1) := by decide +kernel
theorem dX10_isItem_170 : decode cX10_isItem 170 = .ok (.iconst 0, 1) := by decide +kernel
theorem dX10_isItem_171 : decode cX10_isItem 171 = .ok (.invokestatic 104, 3) := by decide +kernel
theorem dX10_isItem_174 : decode cX10_isItem 174 = .ok (.lcmp, 1) := by decide +kernel
theorem dX10_isItem_175 : decode cX10_isItem 175 = .ok (.ifCond .ne 70, 3) := by decide +kernel
theorem dX10_isItem_178 : decode cX10_isItem 178 = .ok (.aload_n 0, 1) := by decide +kernel
theorem dX10_isItem_179 : decode cX10_isItem 179 = .ok (.getfield 13, 3) := by decide +kernel
theorem dX10_isItem_182 : decode cX10_isItem 182 = .ok (.iconst 0, 1) := by decide +kernel
theorem dX10_isItem_183 : decode cX10_isItem 183 = .ok (.iaload, 1) := by decide +kernel
theorem dX10_isItem_184 : decode cX10_isItem 184 = .ok (.bipush 6, 2) := by decide +kernel
theorem dX10_isItem_186 : decode cX10_isItem 186 = .ok (.if_icmp .ne 5, 3) := by decide +kernel
theorem dX10_isItem_189 : decode cX10_isItem 189 = .ok (.iconst 0, 1) := by decide +kernel
theorem dX10_isItem_190 : decode cX10_isItem 190 = .ok (.ireturn, 1) := by decide +kernel
theorem dX10_isItem_191 : decode cX10_isItem 191 = .ok (.aload_n 0, 1) := by decide +kernel
theorem dX10_isItem_192 : decode cX10_isItem 192 = .ok (.invokevirtual 94, 3) := by decide +kernel
theorem dX10_isItem_195 : decode cX10_isItem 195 = .ok (.aload_n 0, 1) := by decide +kernel
theorem dX10_isItem_196 : decode cX10_isItem 196 = .ok (.iconst 0, 1) := by decide +kernel
theorem dX10_isItem_197 : decode cX10_isItem 197 = .ok (.iconst 5, 1) := by decide +kernel
theorem dX10_isItem_198 : decode cX10_isItem 198 = .ok (.invokevirtual 97, 3) := by decide +kernel
theorem dX10_isItem_201 : decode cX10_isItem 201 = .ok (.ifCond .ne 5, 3) := by decide +kernel
theorem dX10_isItem_204 : decode cX10_isItem 204 = .ok (.iconst 0, 1) := by decide +kernel
theorem dX10_isItem_205 : decode cX10_isItem 205 = .ok (.ireturn, 1) := by decide +kernel
theorem dX10_isItem_206 : decode cX10_isItem 206 = .ok (.aload_n 0, 1) := by decide +kernel
theorem dX10_isItem_207 : decode cX10_isItem 207 = .ok (.getfield 91, 3) := by decide +kernel
theorem dX10_isItem_210 : decode cX10_isItem 210 = .ok (.istore_n 3, 1) := by decide +kernel
theorem dX10_isItem_211 : decode cX10_isItem 211 = .ok (.aload_n 0, 1) := by decide +kernel
theorem dX10_isItem_212 : decode cX10_isItem 212 = .ok (.invokevirtual 94, 3) := by decide +kernel
theorem dX10_isItem_215 : decode cX10_isItem 215 = .ok (.aload_n 0, 1) := by decide +kernel
theorem dX10_isItem_216 : decode cX10_isItem 216 = .ok (.iconst 0, 1) := by decide +kernel
theorem dX10_isItem_217 : decode cX10_isItem 217 = .ok (.bipush 60, 2) := by decide +kernel
theorem dX10_isItem_219 : decode cX10_isItem 219 = .ok (.invokevirtual 97, 3) := by decide +kernel
theorem dX10_isItem_222 : decode cX10_isItem 222 = .ok (.ifCond .ne 5, 3) := by decide +kernel
theorem dX10_isItem_225 : decode cX10_isItem 225 = .ok (.iconst 0, 1) := by decide +kernel
theorem dX10_isItem_226 : decode cX10_isItem 226 = .ok (.ireturn, 1) := by decide +kernel
theorem dX10_isItem_227 : decode cX10_isItem 227 = .ok (.aload_n 0, 1) := by decide +kernel
theorem dX10_isItem_228 : decode cX10_isItem 228 = .ok (.getfield 13, 3) := by decide +kernel
theorem dX10_isItem_231 : decode cX10_isItem 231 = .ok (.iload_n 3, 1) := by decide +kernel
theorem dX10_isItem_232 : decode cX10_isItem 232 = .ok (.aload_n 0, 1) := by decide +kernel
theorem dX10_isItem_233 : decode cX10_isItem 233 = .ok (.getfield 91, 3) := by decide +kernel
theorem dX10_isItem_236 : decode cX10_isItem 236 = .ok (.invokestatic 58, 3) := by decide +kernel
theorem dX10_isItem_239 : decode cX10_isItem 239 = .ok (.pop, 1) := by decide +kernel
theorem dX10_isItem_240 : decode cX10_isItem 240 = .ok (.aload_n 0, 1) := by decide +kernel
theorem dX10_isItem_241 : decode cX10_isItem 241 = .ok (.invokevirtual 108, 3) := by decide +kernel
theorem dX10_isItem_244 : decode cX10_isItem 244 = .ok (.ireturn, 1) := by decide +kernel
theorem dX10_isItem_245 : decode cX10_isItem 245 = .ok (.aload_n 0, 1) := by decide +kernel
theorem dX10_isItem_246 : decode cX10_isItem 246 = .ok (.getfield 82, 3) := by decide +kernel
theorem dX10_isItem_249 : decode cX10_isItem 249 = .ok (.bipush 11, 2) := by decide +kernel
theorem dX10_isItem_251 : decode cX10_isItem 251 = .ok (.bipush 9, 2) := by decide +kernel
theorem dX10_isItem_253 : decode cX10_isItem 253 = .ok (.bipush 14, 2) := by decide +kernel
theorem dX10_isItem_255 : decode cX10_isItem 255 = .ok (.iconst 0, 1) := by decide +kernel
theorem dX10_isItem_256 : decode cX10_isItem 256 = .ok (.iconst 0, 1) := by decide +kernel
theorem dX10_isItem_257 : decode cX10_isItem 257 = .ok (.iconst 0, 1) := by decide +kernel
theorem dX10_isItem_258 : decode cX10_isItem 258 = .ok (.invokestatic 104, 3) := by decide +kernel
theorem dX10_isItem_261 : decode cX10_isItem 261 = .ok (.lcmp, 1) := by decide +kernel
theorem dX10_isItem_262 : decode cX10_isItem 262 = .ok (.ifCond .ne 14, 3) := by decide +kernel
theorem dX10_isItem_265 : decode cX10_isItem 265 = .ok (.aload_n 0, 1) := by decide +kernel
theorem dX10_isItem_266 : decode cX10_isItem 266 = .ok (.getfield 13, 3) := by decide +kernel
theorem dX10_isItem_269 : decode cX10_isItem 269 = .ok (.iconst 1, 1) := by decide +kernel
theorem dX10_isItem_270 : decode cX10_isItem 270 = .ok (.iaload, 1) := by decide +kernel
theorem dX10_isItem_271 : decode cX10_isItem 271 = .ok (.bipush 8, 2) := by decide +kernel
theorem dX10_isItem_273 : decode cX10_isItem 273 = .ok (.if_icmp .ne 5, 3) := by decide +kernel
theorem dX10_isItem_276 : decode cX10_isItem 276 = .ok (.iconst 0, 1) := by decide +kernel
theorem dX10_isItem_277 : decode cX10_isItem 277 = .ok (.ireturn, 1) := by decide +kernel
theorem dX10_isItem_278 : decode cX10_isItem 278 = .ok (.aload_n 0, 1) := by decide +kernel
theorem dX10_isItem_279 : decode cX10_isItem 279 = .ok (.invokevirtual 94, 3) := by decide +kernel
theorem dX10_isItem_282 : decode cX10_isItem 282 = .ok (.aload_n 0, 1) := by decide +kernel
theorem dX10_isItem_283 : decode cX10_isItem 283 = .ok (.iconst 1, 1) := by decide +kernel
theorem dX10_isItem_284 : decode cX10_isItem 284 = .ok (.bipush 20, 2) := by decide +kernel
theorem dX10_isItem_286 : decode cX10_isItem 286 = .ok (.invokevirtual 97, 3) := by decide +kernel
theorem dX10_isItem_289 : decode cX10_isItem 289 = .ok (.ifCond .ne 5, 3) := by decide +kernel
theorem dX10_isItem_292 : decode cX10_isItem 292 = .ok (.iconst 0, 1) := by decide +kernel
theorem dX10_isItem_293 : decode cX10_isItem 293 = .ok (.ireturn, 1) := by decide +kernel
theorem dX10_isItem_294 : decode cX10_isItem 294 = .ok (.aload_n 0, 1) := by decide +kernel
theorem dX10_isItem_295 : decode cX10_isItem 295 = .ok (.getfield 13, 3) := by decide +kernel
theorem dX10_isItem_298 : decode cX10_isItem 298 = .ok (.aload_n 0, 1) := by decide +kernel
theorem dX10_isItem_299 : decode cX10_isItem 299 = .ok (.getfield 91, 3) := by decide +kernel
theorem dX10_isItem_302 : decode cX10_isItem 302 = .ok (.invokestatic 62, 3) := by decide +kernel
theorem dX10_isItem_305 : decode cX10_isItem 305 = .ok (.pop, 1) := by decide +kernel
theorem dX10_isItem_306 : decode cX10_isItem 306 = .ok (.aload_n 0, 1) := by decide +kernel
theorem dX10_isItem_307 : decode cX10_isItem 307 = .ok (.invokevirtual 108, 3) := by decide +kernel
theorem dX10_isItem_310 : decode cX10_isItem 310 = .ok (.ireturn, 1) := by decide +kernel
theorem dX10_read_0 : decode cX10_read 0 = .ok (.aload_n 0, 1) := by decide +kernel
theorem dX10_read_1 : decode cX10_read 1 = .ok (.getfield 13, 3) := by decide +kernel
theorem dX10_read_4 : decode cX10_read 4 = .ok (.invokestatic 46, 3) := by decide +kernel
theorem dX10_read_7 : decode cX10_read 7 = .ok (.aload_n 0, 1) := by decide +kernel
theorem dX10_read_8 : decode cX10_read 8 = .ok (.iconst 0, 1) := by decide +kernel
theorem dX10_read_9 : decode cX10_read 9 = .ok (.putfield 70, 3) := by decide +kernel
theorem dX10_read_12 : decode cX10_read 12 = .ok (.aload_n 0, 1) := by decide +kernel
theorem dX10_read_13 : decode cX10_read 13 = .ok (.iconst 0, 1) := by decide +kernel
theorem dX10_read_14 : decode cX10_read 14 = .ok (.putfield 101, 3) := by decide +kernel
theorem dX10_read_17 : decode cX10_read 17 = .ok (.aload_n 0, 1) := by decide +kernel
theorem dX10_read_18 : decode cX10_read 18 = .ok (.invokevirtual 94, 3) := by decide +kernel
theorem dX10_read_21 : decode cX10_read 21 = .ok (.aload_n 0, 1) := by decide +kernel
theorem dX10_read_22 : decode cX10_read 22 = .ok (.getfield 79, 3) := by decide +kernel
theorem dX10_read_25 : decode cX10_read 25 = .ok (.iconst 4, 1) := by decide +kernel
theorem dX10_read_26 : decode cX10_read 26 = .ok (.if_icmp .ne 10, 3) := by decide +kernel
theorem dX10_read_29 : decode cX10_read 29 = .ok (.aload_n 0, 1) := by decide +kernel
theorem dX10_read_30 : decode cX10_read 30 = .ok (.getfield 101, 3) := by decide +kernel
theorem dX10_read_33 : decode cX10_read 33 = .ok (.ifCond .ne 35, 3) := by decide +kernel
theorem dX10_read_36 : decode cX10_read 36 = .ok (.aload_n 0, 1) := by decide +kernel
theorem dX10_read_37 : decode cX10_read 37 = .ok (.invokevirtual 116, 3) := by decide +kernel
theorem dX10_read_40 : decode cX10_read 40 = .ok (.ifCond .ne 11, 3) := by decide +kernel
theorem dX10_read_43 : decode cX10_read 43 = .ok (.bipush (-10), 2) := by decide +kernel
theorem dX10_read_45 : decode cX10_read 45 = .ok (.aload_n 0, 1) := by decide +kernel
theorem dX10_read_46 : decode cX10_read 46 = .ok (.getfield 76, 3) := by decide +kernel
theorem dX10_read_49 : decode cX10_read 49 = .ok (.isub, 1) := by decide +kernel
theorem dX10_read_50 : decode cX10_read 50 = .ok (.ireturn, 1) := by decide +kernel
theorem dX10_read_51 : decode cX10_read 51 = .ok (.aload_n 0, 1) := by decide +kernel
theorem dX10_read_52 : decode cX10_read 52 = .ok (.dup, 1) := by decide +kernel
theorem dX10_read_53 : decode cX10_read 53 = .ok (.getfield 101, 3) := by decide +kernel
theorem dX10_read_56 : decode cX10_read 56 = .ok (.iconst 1, 1) := by decide +kernel
theorem dX10_read_57 : decode cX10_read 57 = .ok (.iadd, 1) := by decide +kernel
theorem dX10_read_58 : decode cX10_read 58 = .ok (.putfield 101, 3) := by decide +kernel
theorem dX10_read_61 : decode cX10_read 61 = .ok (.aload_n 0, 1) := by decide +kernel
theorem dX10_read_62 : decode cX10_read 62 = .ok (.invokevirtual 94, 3) := by decide +kernel
theorem dX10_read_65 : decode cX10_read 65 = .ok (.goto (-44), 3) := by decide +kernel
theorem dX10_read_68 : decode cX10_read 68 = .ok (.aload_n 0, 1) := by decide +kernel
theorem dX10_read_69 : decode cX10_read 69 = .ok (.getfield 13, 3) := by decide +kernel
theorem dX10_read_72 : decode cX10_read 72 = .ok (.iconst 0, 1) := by decide +kernel
theorem dX10_read_73 : decode cX10_read 73 = .ok (.aload_n 0, 1) := by decide +kernel
theorem dX10_read_74 : decode cX10_read 74 = .ok (.getfield 7, 3) := by decide +kernel
theorem dX10_read_77 : decode cX10_read 77 = .ok (.iconst 0, 1) := by decide +kernel
theorem dX10_read_78 : decode cX10_read 78 = .ok (.invokestatic 119, 3) := by decide +kernel
theorem dX10_read_81 : decode cX10_read 81 = .ok (.aload_n 0, 1) := by decide +kernel
theorem dX10_read_82 : decode cX10_read 82 = .ok (.getfield 101, 3) := by decide +kernel
theorem dX10_read_85 : decode cX10_read 85 = .ok (.ireturn, 1) := by decide +kernel
theorem dX10_copy_0 : decode cX10_copy 0 = .ok (.iconst 0, 1) := by decide +kernel
theorem dX10_copy_1 : decode cX10_copy 1 = .ok (.istore 4, 2) := by decide +kernel
theorem dX10_copy_3 : decode cX10_copy 3 = .ok (.iload 4, 2) := by decide +kernel
theorem dX10_copy_5 : decode cX10_copy 5 = .ok (.sipush 167, 3) := by decide +kernel
theorem dX10_copy_8 : decode cX10_copy 8 = .ok (.if_icmp .ge 21, 3) := by decide +kernel
theorem dX10_copy_11 : decode cX10_copy 11 = .ok (.aload_n 2, 1) := by decide +kernel
theorem dX10_copy_12 : decode cX10_copy 12 = .ok (.iload_n 3, 1) := by decide +kernel
theorem dX10_copy_13 : decode cX10_copy 13 = .ok (.iload 4, 2) := by decide +kernel
theorem dX10_copy_15 : decode cX10_copy 15 = .ok (.iadd, 1) := by decide +kernel
theorem dX10_copy_16 : decode cX10_copy 16 = .ok (.aload_n 0, 1) := by decide +kernel
theorem dX10_copy_17 : decode cX10_copy 17 = .ok (.iload_n 1, 1) := by decide +kernel
theorem dX10_copy_18 : decode cX10_copy 18 = .ok (.iload 4, 2) := by decide +kernel
theorem dX10_copy_20 : decode cX10_copy 20 = .ok (.iadd, 1) := by decide +kernel
theorem dX10_copy_21 : decode cX10_copy 21 = .ok (.iaload, 1) := by decide +kernel
theorem dX10_copy_22 : decode cX10_copy 22 = .ok (.iastore, 1) := by decide +kernel
theorem dX10_copy_23 : decode cX10_copy 23 = .ok (.iinc 4 1, 3) := by decide +kernel
theorem dX10_copy_26 : decode cX10_copy 26 = .ok (.goto (-23), 3) := by decide +kernel
theorem dX10_copy_29 : decode cX10_copy 29 = .ok (.return_, 1) := by decide +kernel
theorem dX10_goes_0 : decode cX10_goes 0 = .ok (.iload_n 3, 1) := by decide +kernel
theorem dX10_goes_1 : decode cX10_goes 1 = .ok (.iload_n 2, 1) := by decide +kernel
theorem dX10_goes_2 : decode cX10_goes 2 = .ok (.bipush 12, 2) := by decide +kernel
theorem dX10_goes_4 : decode cX10_goes 4 = .ok (.irem, 1) := by decide +kernel
theorem dX10_goes_5 : decode cX10_goes 5 = .ok (.invokestatic 123, 3) := by decide +kernel
theorem dX10_goes_8 : decode cX10_goes 8 = .ok (.ifCond .eq 7, 3) := by decide +kernel
theorem dX10_goes_11 : decode cX10_goes 11 = .ok (.iconst 2, 1) := by decide +kernel
theorem dX10_goes_12 : decode cX10_goes 12 = .ok (.goto 4, 3) := by decide +kernel
theorem dX10_goes_15 : decode cX10_goes 15 = .ok (.iconst 1, 1) := by decide +kernel
theorem dX10_goes_16 : decode cX10_goes 16 = .ok (.istore 4, 2) := by decide +kernel
theorem dX10_goes_18 : decode cX10_goes 18 = .ok (.iload_n 2, 1) := by decide +kernel
theorem dX10_goes_19 : decode cX10_goes 19 = .ok (.iconst 5, 1) := by decide +kernel
theorem dX10_goes_20 : decode cX10_goes 20 = .ok (.irem, 1) := by decide +kernel
theorem dX10_goes_21 : decode cX10_goes 21 = .ok (.iconst 4, 1) := by decide +kernel
theorem dX10_goes_22 : decode cX10_goes 22 = .ok (.if_icmp .ne 7, 3) := by decide +kernel
theorem dX10_goes_25 : decode cX10_goes 25 = .ok (.iconst 2, 1) := by decide +kernel
theorem dX10_goes_26 : decode cX10_goes 26 = .ok (.goto 4, 3) := by decide +kernel
theorem dX10_goes_29 : decode cX10_goes 29 = .ok (.iconst 0, 1) := by decide +kernel
theorem dX10_goes_30 : decode cX10_goes 30 = .ok (.istore 5, 2) := by decide +kernel
theorem dX10_goes_32 : decode cX10_goes 32 = .ok (.iload_n 2, 1) := by decide +kernel
theorem dX10_goes_33 : decode cX10_goes 33 = .ok (.iconst 2, 1) := by decide +kernel
theorem dX10_goes_34 : decode cX10_goes 34 = .ok (.irem, 1) := by decide +kernel
theorem dX10_goes_35 : decode cX10_goes 35 = .ok (.ifCond .ne 8, 3) := by decide +kernel
theorem dX10_goes_38 : decode cX10_goes 38 = .ok (.iload 4, 2) := by decide +kernel
theorem dX10_goes_40 : decode cX10_goes 40 = .ok (.goto 4, 3) := by decide +kernel
theorem dX10_goes_43 : decode cX10_goes 43 = .ok (.iconst 0, 1) := by decide +kernel
theorem dX10_goes_44 : decode cX10_goes 44 = .ok (.istore 6, 2) := by decide +kernel
theorem dX10_goes_46 : decode cX10_goes 46 = .ok (.iload_n 1, 1) := by decide +kernel
theorem dX10_goes_47 : decode cX10_goes 47 = .ok (.tableswitch 107 1 5 #[33, 36, 42, 68, 87], 33) := by decide +kernel
theorem dX10_goes_80 : decode cX10_goes 80 = .ok (.iload 6, 2) := by decide +kernel
theorem dX10_goes_82 : decode cX10_goes 82 = .ok (.ireturn, 1) := by decide +kernel
theorem dX10_goes_83 : decode cX10_goes 83 = .ok (.iload 4, 2) := by decide +kernel
theorem dX10_goes_85 : decode cX10_goes 85 = .ok (.iload 5, 2) := by decide +kernel
theorem dX10_goes_87 : decode cX10_goes 87 = .ok (.iadd, 1) := by decide +kernel
theorem dX10_goes_88 : decode cX10_goes 88 = .ok (.ireturn, 1) := by decide +kernel
theorem dX10_goes_89 : decode cX10_goes 89 = .ok (.aload_n 0, 1) := by decide +kernel
theorem dX10_goes_90 : decode cX10_goes 90 = .ok (.getfield 7, 3) := by decide +kernel
theorem dX10_goes_93 : decode cX10_goes 93 = .ok (.iconst 3, 1) := by decide +kernel
theorem dX10_goes_94 : decode cX10_goes 94 = .ok (.iaload, 1) := by decide +kernel
theorem dX10_goes_95 : decode cX10_goes 95 = .ok (.iload_n 2, 1) := by decide +kernel
theorem dX10_goes_96 : decode cX10_goes 96 = .ok (.bipush 12, 2) := by decide +kernel
theorem dX10_goes_98 : decode cX10_goes 98 = .ok (.irem, 1) := by decide +kernel
theorem dX10_goes_99 : decode cX10_goes 99 = .ok (.invokestatic 123, 3) := by decide +kernel
theorem dX10_goes_102 : decode cX10_goes 102 = .ok (.ifCond .eq 10, 3) := by decide +kernel
theorem dX10_goes_105 : decode cX10_goes 105 = .ok (.iconst 2, 1) := by decide +kernel
theorem dX10_goes_106 : decode cX10_goes 106 = .ok (.iload 4, 2) := by decide +kernel
theorem dX10_goes_108 : decode cX10_goes 108 = .ok (.imul, 1) := by decide +kernel
theorem dX10_goes_109 : decode cX10_goes 109 = .ok (.goto 5, 3) := by decide +kernel
theorem dX10_goes_112 : decode cX10_goes 112 = .ok (.iload 4, 2) := by decide +kernel
theorem dX10_goes_114 : decode cX10_goes 114 = .ok (.ireturn, 1) := by decide +kernel
theorem dX10_goes_115 : decode cX10_goes 115 = .ok (.iload 4, 2) := by decide +kernel
theorem dX10_goes_117 : decode cX10_goes 117 = .ok (.iload 5, 2) := by decide +kernel
theorem dX10_goes_119 : decode cX10_goes 119 = .ok (.iadd, 1) := by decide +kernel
theorem dX10_goes_120 : decode cX10_goes 120 = .ok (.iload_n 2, 1) := by decide +kernel
theorem dX10_goes_121 : decode cX10_goes 121 = .ok (.iconst 3, 1) := by decide +kernel
theorem dX10_goes_122 : decode cX10_goes 122 = .ok (.irem, 1) := by decide +kernel
theorem dX10_goes_123 : decode cX10_goes 123 = .ok (.iconst 2, 1) := by decide +kernel
theorem dX10_goes_124 : decode cX10_goes 124 = .ok (.if_icmp .ne 7, 3) := by decide +kernel
theorem dX10_goes_127 : decode cX10_goes 127 = .ok (.iconst 1, 1) := by decide +kernel
theorem dX10_goes_128 : decode cX10_goes 128 = .ok (.goto 4, 3) := by decide +kernel
theorem dX10_goes_131 : decode cX10_goes 131 = .ok (.iconst 0, 1) := by decide +kernel
theorem dX10_goes_132 : decode cX10_goes 132 = .ok (.iadd, 1) := by decide +kernel
theorem dX10_goes_133 : decode cX10_goes 133 = .ok (.ireturn, 1) := by decide +kernel
theorem dX10_goes_134 : decode cX10_goes 134 = .ok (.iload 5, 2) := by decide +kernel
theorem dX10_goes_136 : decode cX10_goes 136 = .ok (.ifCond .gt 8, 3) := by decide +kernel
theorem dX10_goes_139 : decode cX10_goes 139 = .ok (.iload 6, 2) := by decide +kernel
theorem dX10_goes_141 : decode cX10_goes 141 = .ok (.ifCond .ne 8, 3) := by decide +kernel
theorem dX10_goes_144 : decode cX10_goes 144 = .ok (.iload 6, 2) := by decide +kernel
theorem dX10_goes_146 : decode cX10_goes 146 = .ok (.goto 7, 3) := by decide +kernel
theorem dX10_goes_149 : decode cX10_goes 149 = .ok (.iload 6, 2) := by decide +kernel
theorem dX10_goes_151 : decode cX10_goes 151 = .ok (.iconst 1, 1) := by decide +kernel
theorem dX10_goes_152 : decode cX10_goes 152 = .ok (.isub, 1) := by decide +kernel
theorem dX10_goes_153 : decode cX10_goes 153 = .ok (.ireturn, 1) := by decide +kernel
theorem dX10_goes_154 : decode cX10_goes 154 = .ok (.iload 4, 2) := by decide +kernel
theorem dX10_goes_156 : decode cX10_goes 156 = .ok (.ireturn, 1) := by decide +kernel
theorem dX10_leftOf_0 : decode cX10_leftOf 0 = .ok (.iload_n 2, 1) := by decide +kernel
theorem dX10_leftOf_1 : decode cX10_leftOf 1 = .ok (.istore 5, 2) := by decide +kernel
theorem dX10_leftOf_3 : decode cX10_leftOf 3 = .ok (.iconst 0, 1) := by decide +kernel
theorem dX10_leftOf_4 : decode cX10_leftOf 4 = .ok (.istore 6, 2) := by decide +kernel
theorem dX10_leftOf_6 : decode cX10_leftOf 6 = .ok (.iload 6, 2) := by decide +kernel
theorem dX10_leftOf_8 : decode cX10_leftOf 8 = .ok (.iload_n 3, 1) := by decide +kernel
theorem dX10_leftOf_9 : decode cX10_leftOf 9 = .ok (.if_icmp .ge 45, 3) := by decide +kernel
theorem dX10_leftOf_12 : decode cX10_leftOf 12 = .ok (.aload_n 0, 1) := by decide +kernel
theorem dX10_leftOf_13 : decode cX10_leftOf 13 = .ok (.iload_n 1, 1) := by decide +kernel
theorem dX10_leftOf_14 : decode cX10_leftOf 14 = .ok (.aload_n 0, 1) := by decide +kernel
theorem dX10_leftOf_15 : decode cX10_leftOf 15 = .ok (.getfield 7, 3) := by decide +kernel
theorem dX10_leftOf_18 : decode cX10_leftOf 18 = .ok (.iconst 2, 1) := by decide +kernel
theorem dX10_leftOf_19 : decode cX10_leftOf 19 = .ok (.iaload, 1) := by decide +kernel
theorem dX10_leftOf_20 : decode cX10_leftOf 20 = .ok (.iload 6, 2) := by decide +kernel
theorem dX10_leftOf_22 : decode cX10_leftOf 22 = .ok (.iadd, 1) := by decide +kernel
theorem dX10_leftOf_23 : decode cX10_leftOf 23 = .ok (.iload 4, 2) := by decide +kernel
theorem dX10_leftOf_25 : decode cX10_leftOf 25 = .ok (.invokevirtual 126, 3) := by decide +kernel
theorem dX10_leftOf_28 : decode cX10_leftOf 28 = .ok (.istore 7, 2) := by decide +kernel
theorem dX10_leftOf_30 : decode cX10_leftOf 30 = .ok (.iload 5, 2) := by decide +kernel
theorem dX10_leftOf_32 : decode cX10_leftOf 32 = .ok (.iload 7, 2) := by decide +kernel
theorem dX10_leftOf_34 : decode cX10_leftOf 34 = .ok (.if_icmp .le 11, 3) := by decide +kernel
theorem dX10_leftOf_37 : decode cX10_leftOf 37 = .ok (.iload 5, 2) := by decide +kernel
theorem dX10_leftOf_39 : decode cX10_leftOf 39 = .ok (.iload 7, 2) := by decide +kernel
theorem dX10_leftOf_41 : decode cX10_leftOf 41 = .ok (.isub, 1) := by decide +kernel
theorem dX10_leftOf_42 : decode cX10_leftOf 42 = .ok (.goto 4, 3) := by decide +kernel
theorem dX10_leftOf_45 : decode cX10_leftOf 45 = .ok (.iconst 0, 1) := by decide +kernel
theorem dX10_leftOf_46 : decode cX10_leftOf 46 = .ok (.istore 5, 2) := by decide +kernel
theorem dX10_leftOf_48 : decode cX10_leftOf 48 = .ok (.iinc 6 1, 3) := by decide +kernel
theorem dX10_leftOf_51 : decode cX10_leftOf 51 = .ok (.goto (-45), 3) := by decide +kernel
theorem dX10_leftOf_54 : decode cX10_leftOf 54 = .ok (.iload 5, 2) := by decide +kernel
theorem dX10_leftOf_56 : decode cX10_leftOf 56 = .ok (.ireturn, 1) := by decide +kernel
theorem dX10_leftBy_0 : decode cX10_leftBy 0 = .ok (.aload_n 0, 1) := by decide +kernel
theorem dX10_leftBy_1 : decode cX10_leftBy 1 = .ok (.aload_n 0, 1) := by decide +kernel
theorem dX10_leftBy_2 : decode cX10_leftBy 2 = .ok (.getfield 7, 3) := by decide +kernel
theorem dX10_leftBy_5 : decode cX10_leftBy 5 = .ok (.bipush 7, 2) := by decide +kernel
theorem dX10_leftBy_7 : decode cX10_leftBy 7 = .ok (.iload_n 1, 1) := by decide +kernel
theorem dX10_leftBy_8 : decode cX10_leftBy 8 = .ok (.iadd, 1) := by decide +kernel
theorem dX10_leftBy_9 : decode cX10_leftBy 9 = .ok (.iaload, 1) := by decide +kernel
theorem dX10_leftBy_10 : decode cX10_leftBy 10 = .ok (.aload_n 0, 1) := by decide +kernel
theorem dX10_leftBy_11 : decode cX10_leftBy 11 = .ok (.getfield 7, 3) := by decide +kernel
theorem dX10_leftBy_14 : decode cX10_leftBy 14 = .ok (.bipush 13, 2) := by decide +kernel
theorem dX10_leftBy_16 : decode cX10_leftBy 16 = .ok (.iload_n 1, 1) := by decide +kernel
theorem dX10_leftBy_17 : decode cX10_leftBy 17 = .ok (.iadd, 1) := by decide +kernel
theorem dX10_leftBy_18 : decode cX10_leftBy 18 = .ok (.iaload, 1) := by decide +kernel
theorem dX10_leftBy_19 : decode cX10_leftBy 19 = .ok (.iload_n 2, 1) := by decide +kernel
theorem dX10_leftBy_20 : decode cX10_leftBy 20 = .ok (.aload_n 0, 1) := by decide +kernel
theorem dX10_leftBy_21 : decode cX10_leftBy 21 = .ok (.getfield 7, 3) := by decide +kernel
theorem dX10_leftBy_24 : decode cX10_leftBy 24 = .ok (.iconst 4, 1) := by decide +kernel
theorem dX10_leftBy_25 : decode cX10_leftBy 25 = .ok (.iaload, 1) := by decide +kernel
theorem dX10_leftBy_26 : decode cX10_leftBy 26 = .ok (.invokevirtual 130, 3) := by decide +kernel
theorem dX10_leftBy_29 : decode cX10_leftBy 29 = .ok (.ireturn, 1) := by decide +kernel
theorem dX10_note_0 : decode cX10_note 0 = .ok (.aload_n 0, 1) := by decide +kernel
theorem dX10_note_1 : decode cX10_note 1 = .ok (.getfield 7, 3) := by decide +kernel
theorem dX10_note_4 : decode cX10_note 4 = .ok (.bipush 6, 2) := by decide +kernel
theorem dX10_note_6 : decode cX10_note 6 = .ok (.iaload, 1) := by decide +kernel
theorem dX10_note_7 : decode cX10_note 7 = .ok (.bipush 8, 2) := by decide +kernel
theorem dX10_note_9 : decode cX10_note 9 = .ok (.if_icmp .ne 45, 3) := by decide +kernel
theorem dX10_note_12 : decode cX10_note 12 = .ok (.bipush 63, 2) := by decide +kernel
theorem dX10_note_14 : decode cX10_note 14 = .ok (.istore_n 1, 1) := by decide +kernel
theorem dX10_note_15 : decode cX10_note 15 = .ok (.iload_n 1, 1) := by decide +kernel
theorem dX10_note_16 : decode cX10_note 16 = .ok (.sipush 154, 3) := by decide +kernel
theorem dX10_note_19 : decode cX10_note 19 = .ok (.if_icmp .ge 24, 3) := by decide +kernel
theorem dX10_note_22 : decode cX10_note 22 = .ok (.aload_n 0, 1) := by decide +kernel
theorem dX10_note_23 : decode cX10_note 23 = .ok (.getfield 7, 3) := by decide +kernel
theorem dX10_note_26 : decode cX10_note 26 = .ok (.iload_n 1, 1) := by decide +kernel
theorem dX10_note_27 : decode cX10_note 27 = .ok (.aload_n 0, 1) := by decide +kernel
theorem dX10_note_28 : decode cX10_note 28 = .ok (.getfield 7, 3) := by decide +kernel
theorem dX10_note_31 : decode cX10_note 31 = .ok (.iload_n 1, 1) := by decide +kernel
theorem dX10_note_32 : decode cX10_note 32 = .ok (.bipush 13, 2) := by decide +kernel
theorem dX10_note_34 : decode cX10_note 34 = .ok (.iadd, 1) := by decide +kernel
theorem dX10_note_35 : decode cX10_note 35 = .ok (.iaload, 1) := by decide +kernel
theorem dX10_note_36 : decode cX10_note 36 = .ok (.iastore, 1) := by decide +kernel
theorem dX10_note_37 : decode cX10_note 37 = .ok (.iinc 1 1, 3) := by decide +kernel
theorem dX10_note_40 : decode cX10_note 40 = .ok (.goto (-25), 3) := by decide +kernel
theorem dX10_note_43 : decode cX10_note 43 = .ok (.aload_n 0, 1) := by decide +kernel
theorem dX10_note_44 : decode cX10_note 44 = .ok (.getfield 7, 3) := by decide +kernel
theorem dX10_note_47 : decode cX10_note 47 = .ok (.bipush 6, 2) := by decide +kernel
theorem dX10_note_49 : decode cX10_note 49 = .ok (.dup2, 1) := by decide +kernel
theorem dX10_note_50 : decode cX10_note 50 = .ok (.iaload, 1) := by decide +kernel
theorem dX10_note_51 : decode cX10_note 51 = .ok (.iconst 1, 1) := by decide +kernel
theorem dX10_note_52 : decode cX10_note 52 = .ok (.isub, 1) := by decide +kernel
theorem dX10_note_53 : decode cX10_note 53 = .ok (.iastore, 1) := by decide +kernel
theorem dX10_note_54 : decode cX10_note 54 = .ok (.bipush 63, 2) := by decide +kernel
theorem dX10_note_56 : decode cX10_note 56 = .ok (.bipush 13, 2) := by decide +kernel
theorem dX10_note_58 : decode cX10_note 58 = .ok (.aload_n 0, 1) := by decide +kernel
theorem dX10_note_59 : decode cX10_note 59 = .ok (.getfield 7, 3) := by decide +kernel
theorem dX10_note_62 : decode cX10_note 62 = .ok (.bipush 6, 2) := by decide +kernel
theorem dX10_note_64 : decode cX10_note 64 = .ok (.iaload, 1) := by decide +kernel
theorem dX10_note_65 : decode cX10_note 65 = .ok (.imul, 1) := by decide +kernel
theorem dX10_note_66 : decode cX10_note 66 = .ok (.iadd, 1) := by decide +kernel
theorem dX10_note_67 : decode cX10_note 67 = .ok (.istore_n 1, 1) := by decide +kernel
theorem dX10_note_68 : decode cX10_note 68 = .ok (.aload_n 0, 1) := by decide +kernel
theorem dX10_note_69 : decode cX10_note 69 = .ok (.getfield 7, 3) := by decide +kernel
theorem dX10_note_72 : decode cX10_note 72 = .ok (.iload_n 1, 1) := by decide +kernel
theorem dX10_note_73 : decode cX10_note 73 = .ok (.aload_n 0, 1) := by decide +kernel
theorem dX10_note_74 : decode cX10_note 74 = .ok (.getfield 7, 3) := by decide +kernel
theorem dX10_note_77 : decode cX10_note 77 = .ok (.iconst 2, 1) := by decide +kernel
theorem dX10_note_78 : decode cX10_note 78 = .ok (.iaload, 1) := by decide +kernel
theorem dX10_note_79 : decode cX10_note 79 = .ok (.iastore, 1) := by decide +kernel
theorem dX10_note_80 : decode cX10_note 80 = .ok (.iconst 0, 1) := by decide +kernel
theorem dX10_note_81 : decode cX10_note 81 = .ok (.istore_n 2, 1) := by decide +kernel
theorem dX10_note_82 : decode cX10_note 82 = .ok (.iload_n 2, 1) := by decide +kernel
theorem dX10_note_83 : decode cX10_note 83 = .ok (.bipush 6, 2) := by decide +kernel
theorem dX10_note_85 : decode cX10_note 85 = .ok (.if_icmp .ge 48, 3) := by decide +kernel
theorem dX10_note_88 : decode cX10_note 88 = .ok (.aload_n 0, 1) := by decide +kernel
theorem dX10_note_89 : decode cX10_note 89 = .ok (.getfield 7, 3) := by decide +kernel
theorem dX10_note_92 : decode cX10_note 92 = .ok (.iload_n 1, 1) := by decide +kernel
theorem dX10_note_93 : decode cX10_note 93 = .ok (.iconst 1, 1) := by decide +kernel
theorem dX10_note_94 : decode cX10_note 94 = .ok (.iadd, 1) := by decide +kernel
theorem dX10_note_95 : decode cX10_note 95 = .ok (.iload_n 2, 1) := by decide +kernel
theorem dX10_note_96 : decode cX10_note 96 = .ok (.iadd, 1) := by decide +kernel
theorem dX10_note_97 : decode cX10_note 97 = .ok (.aload_n 0, 1) := by decide +kernel
theorem dX10_note_98 : decode cX10_note 98 = .ok (.getfield 7, 3) := by decide +kernel
theorem dX10_note_101 : decode cX10_note 101 = .ok (.bipush 13, 2) := by decide +kernel
theorem dX10_note_103 : decode cX10_note 103 = .ok (.iload_n 2, 1) := by decide +kernel
theorem dX10_note_104 : decode cX10_note 104 = .ok (.iadd, 1) := by decide +kernel
theorem dX10_note_105 : decode cX10_note 105 = .ok (.iaload, 1) := by decide +kernel
theorem dX10_note_106 : decode cX10_note 106 = .ok (.iastore, 1) := by decide +kernel
theorem dX10_note_107 : decode cX10_note 107 = .ok (.aload_n 0, 1) := by decide +kernel
theorem dX10_note_108 : decode cX10_note 108 = .ok (.getfield 7, 3) := by decide +kernel
theorem dX10_note_111 : decode cX10_note 111 = .ok (.iload_n 1, 1) := by decide +kernel
theorem dX10_note_112 : decode cX10_note 112 = .ok (.bipush 7, 2) := by decide +kernel
theorem dX10_note_114 : decode cX10_note 114 = .ok (.iadd, 1) := by decide +kernel
theorem dX10_note_115 : decode cX10_note 115 = .ok (.iload_n 2, 1) := by decide +kernel
theorem dX10_note_116 : decode cX10_note 116 = .ok (.iadd, 1) := by decide +kernel
theorem dX10_note_117 : decode cX10_note 117 = .ok (.aload_n 0, 1) := by decide +kernel
theorem dX10_note_118 : decode cX10_note 118 = .ok (.getfield 7, 3) := by decide +kernel
theorem dX10_note_121 : decode cX10_note 121 = .ok (.bipush 25, 2) := by decide +kernel
theorem dX10_note_123 : decode cX10_note 123 = .ok (.iload_n 2, 1) := by decide +kernel
theorem dX10_note_124 : decode cX10_note 124 = .ok (.iadd, 1) := by decide +kernel
theorem dX10_note_125 : decode cX10_note 125 = .ok (.iaload, 1) := by decide +kernel
theorem dX10_note_126 : decode cX10_note 126 = .ok (.iastore, 1) := by decide +kernel
theorem dX10_note_127 : decode cX10_note 127 = .ok (.iinc 2 1, 3) := by decide +kernel
theorem dX10_note_130 : decode cX10_note 130 = .ok (.goto (-48), 3) := by decide +kernel
theorem dX10_note_133 : decode cX10_note 133 = .ok (.aload_n 0, 1) := by decide +kernel
theorem dX10_note_134 : decode cX10_note 134 = .ok (.getfield 7, 3) := by decide +kernel
theorem dX10_note_137 : decode cX10_note 137 = .ok (.bipush 6, 2) := by decide +kernel
theorem dX10_note_139 : decode cX10_note 139 = .ok (.dup2, 1) := by decide +kernel
theorem dX10_note_140 : decode cX10_note 140 = .ok (.iaload, 1) := by decide +kernel
theorem dX10_note_141 : decode cX10_note 141 = .ok (.iconst 1, 1) := by decide +kernel
theorem dX10_note_142 : decode cX10_note 142 = .ok (.iadd, 1) := by decide +kernel
theorem dX10_note_143 : decode cX10_note 143 = .ok (.iastore, 1) := by decide +kernel
theorem dX10_note_144 : decode cX10_note 144 = .ok (.return_, 1) := by decide +kernel
theorem dX10_year_0 : decode cX10_year 0 = .ok (.iload_n 1, 1) := by decide +kernel
theorem dX10_year_1 : decode cX10_year 1 = .ok (.iconst 1, 1) := by decide +kernel
theorem dX10_year_2 : decode cX10_year 2 = .ok (.bipush 60, 2) := by decide +kernel
theorem dX10_year_4 : decode cX10_year 4 = .ok (.invokestatic 50, 3) := by decide +kernel
theorem dX10_year_7 : decode cX10_year 7 = .ok (.ifCond .ne 10, 3) := by decide +kernel
theorem dX10_year_10 : decode cX10_year 10 = .ok (.aload_n 0, 1) := by decide +kernel
theorem dX10_year_11 : decode cX10_year 11 = .ok (.bipush (-2), 2) := by decide +kernel
theorem dX10_year_13 : decode cX10_year 13 = .ok (.invokevirtual 54, 3) := by decide +kernel
theorem dX10_year_16 : decode cX10_year 16 = .ok (.ireturn, 1) := by decide +kernel
theorem dX10_year_17 : decode cX10_year 17 = .ok (.iconst 0, 1) := by decide +kernel
theorem dX10_year_18 : decode cX10_year 18 = .ok (.istore_n 2, 1) := by decide +kernel
theorem dX10_year_19 : decode cX10_year 19 = .ok (.iconst 0, 1) := by decide +kernel
theorem dX10_year_20 : decode cX10_year 20 = .ok (.istore_n 3, 1) := by decide +kernel
theorem dX10_year_21 : decode cX10_year 21 = .ok (.iload_n 3, 1) := by decide +kernel
theorem dX10_year_22 : decode cX10_year 22 = .ok (.iload_n 1, 1) := by decide +kernel
theorem dX10_year_23 : decode cX10_year 23 = .ok (.if_icmp .ge 113, 3) := by decide +kernel
theorem dX10_year_26 : decode cX10_year 26 = .ok (.aload_n 0, 1) := by decide +kernel
theorem dX10_year_27 : decode cX10_year 27 = .ok (.invokevirtual 134, 3) := by decide +kernel
theorem dX10_year_30 : decode cX10_year 30 = .ok (.iconst 0, 1) := by decide +kernel
theorem dX10_year_31 : decode cX10_year 31 = .ok (.istore 4, 2) := by decide +kernel
theorem dX10_year_33 : decode cX10_year 33 = .ok (.iload 4, 2) := by decide +kernel
theorem dX10_year_35 : decode cX10_year 35 = .ok (.aload_n 0, 1) := by decide +kernel
theorem dX10_year_36 : decode cX10_year 36 = .ok (.getfield 7, 3) := by decide +kernel
theorem dX10_year_39 : decode cX10_year 39 = .ok (.iconst 0, 1) := by decide +kernel
theorem dX10_year_40 : decode cX10_year 40 = .ok (.iaload, 1) := by decide +kernel
theorem dX10_year_41 : decode cX10_year 41 = .ok (.if_icmp .ge 79, 3) := by decide +kernel
theorem dX10_year_44 : decode cX10_year 44 = .ok (.aload_n 0, 1) := by decide +kernel
theorem dX10_year_45 : decode cX10_year 45 = .ok (.getfield 7, 3) := by decide +kernel
theorem dX10_year_48 : decode cX10_year 48 = .ok (.bipush 13, 2) := by decide +kernel
theorem dX10_year_50 : decode cX10_year 50 = .ok (.iload 4, 2) := by decide +kernel
theorem dX10_year_52 : decode cX10_year 52 = .ok (.iadd, 1) := by decide +kernel
theorem dX10_year_53 : decode cX10_year 53 = .ok (.iaload, 1) := by decide +kernel
theorem dX10_year_54 : decode cX10_year 54 = .ok (.istore 5, 2) := by decide +kernel
theorem dX10_year_56 : decode cX10_year 56 = .ok (.aload_n 0, 1) := by decide +kernel
theorem dX10_year_57 : decode cX10_year 57 = .ok (.getfield 7, 3) := by decide +kernel
theorem dX10_year_60 : decode cX10_year 60 = .ok (.bipush 13, 2) := by decide +kernel
theorem dX10_year_62 : decode cX10_year 62 = .ok (.iload 4, 2) := by decide +kernel
theorem dX10_year_64 : decode cX10_year 64 = .ok (.iadd, 1) := by decide +kernel
theorem dX10_year_65 : decode cX10_year 65 = .ok (.aload_n 0, 1) := by decide +kernel
theorem dX10_year_66 : decode cX10_year 66 = .ok (.iload 4, 2) := by decide +kernel
theorem dX10_year_68 : decode cX10_year 68 = .ok (.iconst 1, 1) := by decide +kernel
theorem dX10_year_69 : decode cX10_year 69 = .ok (.invokevirtual 137, 3) := by decide +kernel
theorem dX10_year_72 : decode cX10_year 72 = .ok (.iastore, 1) := by decide +kernel
theorem dX10_year_73 : decode cX10_year 73 = .ok (.iload 5, 2) := by decide +kernel
theorem dX10_year_75 : decode cX10_year 75 = .ok (.ifCond .le 39, 3) := by decide +kernel
theorem dX10_year_78 : decode cX10_year 78 = .ok (.aload_n 0, 1) := by decide +kernel
theorem dX10_year_79 : decode cX10_year 79 = .ok (.getfield 7, 3) := by decide +kernel
theorem dX10_year_82 : decode cX10_year 82 = .ok (.bipush 13, 2) := by decide +kernel
theorem dX10_year_84 : decode cX10_year 84 = .ok (.iload 4, 2) := by decide +kernel
theorem dX10_year_86 : decode cX10_year 86 = .ok (.iadd, 1) := by decide +kernel
theorem dX10_year_87 : decode cX10_year 87 = .ok (.iaload, 1) := by decide +kernel
theorem dX10_year_88 : decode cX10_year 88 = .ok (.ifCond .ne 26, 3) := by decide +kernel
theorem dX10_year_91 : decode cX10_year 91 = .ok (.aload_n 0, 1) := by decide +kernel
theorem dX10_year_92 : decode cX10_year 92 = .ok (.getfield 7, 3) := by decide +kernel
theorem dX10_year_95 : decode cX10_year 95 = .ok (.bipush 25, 2) := by decide +kernel
theorem dX10_year_97 : decode cX10_year 97 = .ok (.iload 4, 2) := by decide +kernel
theorem dX10_year_99 : decode cX10_year 99 = .ok (.iadd, 1) := by decide +kernel
theorem dX10_year_100 : decode cX10_year 100 = .ok (.aload_n 0, 1) := by decide +kernel
theorem dX10_year_101 : decode cX10_year 101 = .ok (.getfield 7, 3) := by decide +kernel
theorem dX10_year_104 : decode cX10_year 104 = .ok (.iconst 2, 1) := by decide +kernel
theorem dX10_year_105 : decode cX10_year 105 = .ok (.iaload, 1) := by decide +kernel
theorem dX10_year_106 : decode cX10_year 106 = .ok (.iastore, 1) := by decide +kernel
theorem dX10_year_107 : decode cX10_year 107 = .ok (.iload_n 2, 1) := by decide +kernel
theorem dX10_year_108 : decode cX10_year 108 = .ok (.iconst 1, 1) := by decide +kernel
theorem dX10_year_109 : decode cX10_year 109 = .ok (.iload 4, 2) := by decide +kernel
theorem dX10_year_111 : decode cX10_year 111 = .ok (.ishl, 1) := by decide +kernel
theorem dX10_year_112 : decode cX10_year 112 = .ok (.ior, 1) := by decide +kernel
theorem dX10_year_113 : decode cX10_year 113 = .ok (.istore_n 2, 1) := by decide +kernel
theorem dX10_year_114 : decode cX10_year 114 = .ok (.iinc 4 1, 3) := by decide +kernel
theorem dX10_year_117 : decode cX10_year 117 = .ok (.goto (-84), 3) := by decide +kernel
theorem dX10_year_120 : decode cX10_year 120 = .ok (.aload_n 0, 1) := by decide +kernel
theorem dX10_year_121 : decode cX10_year 121 = .ok (.getfield 7, 3) := by decide +kernel
theorem dX10_year_124 : decode cX10_year 124 = .ok (.iconst 2, 1) := by decide +kernel
theorem dX10_year_125 : decode cX10_year 125 = .ok (.dup2, 1) := by decide +kernel
theorem dX10_year_126 : decode cX10_year 126 = .ok (.iaload, 1) := by decide +kernel
theorem dX10_year_127 : decode cX10_year 127 = .ok (.iconst 1, 1) := by decide +kernel
theorem dX10_year_128 : decode cX10_year 128 = .ok (.iadd, 1) := by decide +kernel
theorem dX10_year_129 : decode cX10_year 129 = .ok (.iastore, 1) := by decide +kernel
theorem dX10_year_130 : decode cX10_year 130 = .ok (.iinc 3 1, 3) := by decide +kernel
theorem dX10_year_133 : decode cX10_year 133 = .ok (.goto (-112), 3) := by decide +kernel
theorem dX10_year_136 : decode cX10_year 136 = .ok (.iload_n 2, 1) := by decide +kernel
theorem dX10_year_137 : decode cX10_year 137 = .ok (.ireturn, 1) := by decide +kernel
theorem dX10_give_0 : decode cX10_give 0 = .ok (.aload_n 0, 1) := by decide +kernel
theorem dX10_give_1 : decode cX10_give 1 = .ok (.iload_n 1, 1) := by decide +kernel
theorem dX10_give_2 : decode cX10_give 2 = .ok (.invokevirtual 141, 3) := by decide +kernel
theorem dX10_give_5 : decode cX10_give 5 = .ok (.ifCond .eq 14, 3) := by decide +kernel
theorem dX10_give_8 : decode cX10_give 8 = .ok (.iload_n 2, 1) := by decide +kernel
theorem dX10_give_9 : decode cX10_give 9 = .ok (.bipush (-60), 2) := by decide +kernel
theorem dX10_give_11 : decode cX10_give 11 = .ok (.bipush 60, 2) := by decide +kernel
theorem dX10_give_13 : decode cX10_give 13 = .ok (.invokestatic 50, 3) := by decide +kernel
theorem dX10_give_16 : decode cX10_give 16 = .ok (.ifCond .ne 10, 3) := by decide +kernel
theorem dX10_give_19 : decode cX10_give 19 = .ok (.aload_n 0, 1) := by decide +kernel
theorem dX10_give_20 : decode cX10_give 20 = .ok (.bipush (-10), 2) := by decide +kernel
theorem dX10_give_22 : decode cX10_give 22 = .ok (.invokevirtual 54, 3) := by decide +kernel
theorem dX10_give_25 : decode cX10_give 25 = .ok (.ireturn, 1) := by decide +kernel
theorem dX10_give_26 : decode cX10_give 26 = .ok (.aload_n 0, 1) := by decide +kernel
theorem dX10_give_27 : decode cX10_give 27 = .ok (.getfield 7, 3) := by decide +kernel
theorem dX10_give_30 : decode cX10_give 30 = .ok (.bipush 13, 2) := by decide +kernel
theorem dX10_give_32 : decode cX10_give 32 = .ok (.iload_n 1, 1) := by decide +kernel
theorem dX10_give_33 : decode cX10_give 33 = .ok (.iadd, 1) := by decide +kernel
theorem dX10_give_34 : decode cX10_give 34 = .ok (.iaload, 1) := by decide +kernel
theorem dX10_give_35 : decode cX10_give 35 = .ok (.iload_n 2, 1) := by decide +kernel
theorem dX10_give_36 : decode cX10_give 36 = .ok (.iadd, 1) := by decide +kernel
theorem dX10_give_37 : decode cX10_give 37 = .ok (.istore_n 3, 1) := by decide +kernel
theorem dX10_give_38 : decode cX10_give 38 = .ok (.aload_n 0, 1) := by decide +kernel
theorem dX10_give_39 : decode cX10_give 39 = .ok (.getfield 7, 3) := by decide +kernel
theorem dX10_give_42 : decode cX10_give 42 = .ok (.bipush 13, 2) := by decide +kernel
theorem dX10_give_44 : decode cX10_give 44 = .ok (.iload_n 1, 1) := by decide +kernel
theorem dX10_give_45 : decode cX10_give 45 = .ok (.iadd, 1) := by decide +kernel
theorem dX10_give_46 : decode cX10_give 46 = .ok (.iaload, 1) := by decide +kernel
theorem dX10_give_47 : decode cX10_give 47 = .ok (.ifCond .eq 14, 3) := by decide +kernel
theorem dX10_give_50 : decode cX10_give 50 = .ok (.iload_n 3, 1) := by decide +kernel
theorem dX10_give_51 : decode cX10_give 51 = .ok (.iconst 1, 1) := by decide +kernel
theorem dX10_give_52 : decode cX10_give 52 = .ok (.if_icmp .lt 9, 3) := by decide +kernel
theorem dX10_give_55 : decode cX10_give 55 = .ok (.iload_n 3, 1) := by decide +kernel
theorem dX10_give_56 : decode cX10_give 56 = .ok (.bipush 60, 2) := by decide +kernel
theorem dX10_give_58 : decode cX10_give 58 = .ok (.if_icmp .le 10, 3) := by decide +kernel
theorem dX10_give_61 : decode cX10_give 61 = .ok (.aload_n 0, 1) := by decide +kernel
theorem dX10_give_62 : decode cX10_give 62 = .ok (.bipush (-3), 2) := by decide +kernel
theorem dX10_give_64 : decode cX10_give 64 = .ok (.invokevirtual 54, 3) := by decide +kernel
theorem dX10_give_67 : decode cX10_give 67 = .ok (.ireturn, 1) := by decide +kernel
theorem dX10_give_68 : decode cX10_give 68 = .ok (.aload_n 0, 1) := by decide +kernel
theorem dX10_give_69 : decode cX10_give 69 = .ok (.invokevirtual 134, 3) := by decide +kernel
theorem dX10_give_72 : decode cX10_give 72 = .ok (.aload_n 0, 1) := by decide +kernel
theorem dX10_give_73 : decode cX10_give 73 = .ok (.getfield 7, 3) := by decide +kernel
theorem dX10_give_76 : decode cX10_give 76 = .ok (.bipush 13, 2) := by decide +kernel
theorem dX10_give_78 : decode cX10_give 78 = .ok (.iload_n 1, 1) := by decide +kernel
theorem dX10_give_79 : decode cX10_give 79 = .ok (.iadd, 1) := by decide +kernel
theorem dX10_give_80 : decode cX10_give 80 = .ok (.iload_n 3, 1) := by decide +kernel
theorem dX10_give_81 : decode cX10_give 81 = .ok (.iastore, 1) := by decide +kernel
theorem dX10_give_82 : decode cX10_give 82 = .ok (.iload_n 3, 1) := by decide +kernel
theorem dX10_give_83 : decode cX10_give 83 = .ok (.ireturn, 1) := by decide +kernel
theorem dX10_undo_0 : decode cX10_undo 0 = .ok (.aload_n 0, 1) := by decide +kernel
theorem dX10_undo_1 : decode cX10_undo 1 = .ok (.getfield 7, 3) := by decide +kernel
theorem dX10_undo_4 : decode cX10_undo 4 = .ok (.bipush 6, 2) := by decide +kernel
theorem dX10_undo_6 : decode cX10_undo 6 = .ok (.iaload, 1) := by decide +kernel
theorem dX10_undo_7 : decode cX10_undo 7 = .ok (.ifCond .ne 10, 3) := by decide +kernel
theorem dX10_undo_10 : decode cX10_undo 10 = .ok (.aload_n 0, 1) := by decide +kernel
theorem dX10_undo_11 : decode cX10_undo 11 = .ok (.bipush (-3), 2) := by decide +kernel
theorem dX10_undo_13 : decode cX10_undo 13 = .ok (.invokevirtual 54, 3) := by decide +kernel
theorem dX10_undo_16 : decode cX10_undo 16 = .ok (.ireturn, 1) := by decide +kernel
theorem dX10_undo_17 : decode cX10_undo 17 = .ok (.aload_n 0, 1) := by decide +kernel
theorem dX10_undo_18 : decode cX10_undo 18 = .ok (.getfield 7, 3) := by decide +kernel
theorem dX10_undo_21 : decode cX10_undo 21 = .ok (.bipush 6, 2) := by decide +kernel
theorem dX10_undo_23 : decode cX10_undo 23 = .ok (.dup2, 1) := by decide +kernel
theorem dX10_undo_24 : decode cX10_undo 24 = .ok (.iaload, 1) := by decide +kernel
theorem dX10_undo_25 : decode cX10_undo 25 = .ok (.iconst 1, 1) := by decide +kernel
theorem dX10_undo_26 : decode cX10_undo 26 = .ok (.isub, 1) := by decide +kernel
theorem dX10_undo_27 : decode cX10_undo 27 = .ok (.iastore, 1) := by decide +kernel
theorem dX10_undo_28 : decode cX10_undo 28 = .ok (.bipush 63, 2) := by decide +kernel
theorem dX10_undo_30 : decode cX10_undo 30 = .ok (.bipush 13, 2) := by decide +kernel
theorem dX10_undo_32 : decode cX10_undo 32 = .ok (.aload_n 0, 1) := by decide +kernel
theorem dX10_undo_33 : decode cX10_undo 33 = .ok (.getfield 7, 3) := by decide +kernel
theorem dX10_undo_36 : decode cX10_undo 36 = .ok (.bipush 6, 2) := by decide +kernel
theorem dX10_undo_38 : decode cX10_undo 38 = .ok (.iaload, 1) := by decide +kernel
theorem dX10_undo_39 : decode cX10_undo 39 = .ok (.imul, 1) := by decide +kernel
theorem dX10_undo_40 : decode cX10_undo 40 = .ok (.iadd, 1) := by decide +kernel
theorem dX10_undo_41 : decode cX10_undo 41 = .ok (.istore_n 1, 1) := by decide +kernel
theorem dX10_undo_42 : decode cX10_undo 42 = .ok (.aload_n 0, 1) := by decide +kernel
theorem dX10_undo_43 : decode cX10_undo 43 = .ok (.getfield 7, 3) := by decide +kernel
theorem dX10_undo_46 : decode cX10_undo 46 = .ok (.iconst 2, 1) := by decide +kernel
theorem dX10_undo_47 : decode cX10_undo 47 = .ok (.aload_n 0, 1) := by decide +kernel
theorem dX10_undo_48 : decode cX10_undo 48 = .ok (.getfield 7, 3) := by decide +kernel
theorem dX10_undo_51 : decode cX10_undo 51 = .ok (.iload_n 1, 1) := by decide +kernel
theorem dX10_undo_52 : decode cX10_undo 52 = .ok (.iaload, 1) := by decide +kernel
theorem dX10_undo_53 : decode cX10_undo 53 = .ok (.iastore, 1) := by decide +kernel
theorem dX10_undo_54 : decode cX10_undo 54 = .ok (.iconst 0, 1) := by decide +kernel
theorem dX10_undo_55 : decode cX10_undo 55 = .ok (.istore_n 2, 1) := by decide +kernel
theorem dX10_undo_56 : decode cX10_undo 56 = .ok (.iload_n 2, 1) := by decide +kernel
theorem dX10_undo_57 : decode cX10_undo 57 = .ok (.bipush 6, 2) := by decide +kernel
theorem dX10_undo_59 : decode cX10_undo 59 = .ok (.if_icmp .ge 48, 3) := by decide +kernel
theorem dX10_undo_62 : decode cX10_undo 62 = .ok (.aload_n 0, 1) := by decide +kernel
theorem dX10_undo_63 : decode cX10_undo 63 = .ok (.getfield 7, 3) := by decide +kernel
theorem dX10_undo_66 : decode cX10_undo 66 = .ok (.bipush 13, 2) := by decide +kernel
theorem dX10_undo_68 : decode cX10_undo 68 = .ok (.iload_n 2, 1) := by decide +kernel
theorem dX10_undo_69 : decode cX10_undo 69 = .ok (.iadd, 1) := by decide +kernel
theorem dX10_undo_70 : decode cX10_undo 70 = .ok (.aload_n 0, 1) := by decide +kernel
theorem dX10_undo_71 : decode cX10_undo 71 = .ok (.getfield 7, 3) := by decide +kernel
theorem dX10_undo_74 : decode cX10_undo 74 = .ok (.iload_n 1, 1) := by decide +kernel
theorem dX10_undo_75 : decode cX10_undo 75 = .ok (.iconst 1, 1) := by decide +kernel
theorem dX10_undo_76 : decode cX10_undo 76 = .ok (.iadd, 1) := by decide +kernel
theorem dX10_undo_77 : decode cX10_undo 77 = .ok (.iload_n 2, 1) := by decide +kernel
theorem dX10_undo_78 : decode cX10_undo 78 = .ok (.iadd, 1) := by decide +kernel
theorem dX10_undo_79 : decode cX10_undo 79 = .ok (.iaload, 1) := by decide +kernel
theorem dX10_undo_80 : decode cX10_undo 80 = .ok (.iastore, 1) := by decide +kernel
theorem dX10_undo_81 : decode cX10_undo 81 = .ok (.aload_n 0, 1) := by decide +kernel
theorem dX10_undo_82 : decode cX10_undo 82 = .ok (.getfield 7, 3) := by decide +kernel
theorem dX10_undo_85 : decode cX10_undo 85 = .ok (.bipush 25, 2) := by decide +kernel
theorem dX10_undo_87 : decode cX10_undo 87 = .ok (.iload_n 2, 1) := by decide +kernel
theorem dX10_undo_88 : decode cX10_undo 88 = .ok (.iadd, 1) := by decide +kernel
theorem dX10_undo_89 : decode cX10_undo 89 = .ok (.aload_n 0, 1) := by decide +kernel
theorem dX10_undo_90 : decode cX10_undo 90 = .ok (.getfield 7, 3) := by decide +kernel
theorem dX10_undo_93 : decode cX10_undo 93 = .ok (.iload_n 1, 1) := by decide +kernel
theorem dX10_undo_94 : decode cX10_undo 94 = .ok (.bipush 7, 2) := by decide +kernel
theorem dX10_undo_96 : decode cX10_undo 96 = .ok (.iadd, 1) := by decide +kernel
theorem dX10_undo_97 : decode cX10_undo 97 = .ok (.iload_n 2, 1) := by decide +kernel
theorem dX10_undo_98 : decode cX10_undo 98 = .ok (.iadd, 1) := by decide +kernel
theorem dX10_undo_99 : decode cX10_undo 99 = .ok (.iaload, 1) := by decide +kernel
theorem dX10_undo_100 : decode cX10_undo 100 = .ok (.iastore, 1) := by decide +kernel
theorem dX10_undo_101 : decode cX10_undo 101 = .ok (.iinc 2 1, 3) := by decide +kernel
theorem dX10_undo_104 : decode cX10_undo 104 = .ok (.goto (-48), 3) := by decide +kernel
theorem dX10_undo_107 : decode cX10_undo 107 = .ok (.aload_n 0, 1) := by decide +kernel
theorem dX10_undo_108 : decode cX10_undo 108 = .ok (.getfield 7, 3) := by decide +kernel
theorem dX10_undo_111 : decode cX10_undo 111 = .ok (.iconst 2, 1) := by decide +kernel
theorem dX10_undo_112 : decode cX10_undo 112 = .ok (.iaload, 1) := by decide +kernel
theorem dX10_undo_113 : decode cX10_undo 113 = .ok (.ireturn, 1) := by decide +kernel
theorem dX10_of_0 : decode cX10_of 0 = .ok (.aload_n 0, 1) := by decide +kernel
theorem dX10_of_1 : decode cX10_of 1 = .ok (.iload_n 1, 1) := by decide +kernel
theorem dX10_of_2 : decode cX10_of 2 = .ok (.invokevirtual 141, 3) := by decide +kernel
theorem dX10_of_5 : decode cX10_of 5 = .ok (.ifCond .eq 12, 3) := by decide +kernel
theorem dX10_of_8 : decode cX10_of 8 = .ok (.iload_n 2, 1) := by decide +kernel
theorem dX10_of_9 : decode cX10_of 9 = .ok (.iconst 0, 1) := by decide +kernel
theorem dX10_of_10 : decode cX10_of 10 = .ok (.iconst 4, 1) := by decide +kernel
theorem dX10_of_11 : decode cX10_of 11 = .ok (.invokestatic 50, 3) := by decide +kernel
theorem dX10_of_14 : decode cX10_of 14 = .ok (.ifCond .ne 10, 3) := by decide +kernel
theorem dX10_of_17 : decode cX10_of 17 = .ok (.aload_n 0, 1) := by decide +kernel
theorem dX10_of_18 : decode cX10_of 18 = .ok (.bipush (-10), 2) := by decide +kernel
theorem dX10_of_20 : decode cX10_of 20 = .ok (.invokevirtual 54, 3) := by decide +kernel
theorem dX10_of_23 : decode cX10_of 23 = .ok (.ireturn, 1) := by decide +kernel
theorem dX10_of_24 : decode cX10_of 24 = .ok (.iload_n 2, 1) := by decide +kernel
theorem dX10_of_25 : decode cX10_of 25 = .ok (.iconst 4, 1) := by decide +kernel
theorem dX10_of_26 : decode cX10_of 26 = .ok (.if_icmp .ge 20, 3) := by decide +kernel
theorem dX10_of_29 : decode cX10_of 29 = .ok (.aload_n 0, 1) := by decide +kernel
theorem dX10_of_30 : decode cX10_of 30 = .ok (.getfield 7, 3) := by decide +kernel
theorem dX10_of_33 : decode cX10_of 33 = .ok (.bipush 7, 2) := by decide +kernel
theorem dX10_of_35 : decode cX10_of 35 = .ok (.bipush 6, 2) := by decide +kernel
theorem dX10_of_37 : decode cX10_of 37 = .ok (.iload_n 2, 1) := by decide +kernel
theorem dX10_of_38 : decode cX10_of 38 = .ok (.imul, 1) := by decide +kernel
theorem dX10_of_39 : decode cX10_of 39 = .ok (.iadd, 1) := by decide +kernel
theorem dX10_of_40 : decode cX10_of 40 = .ok (.iload_n 1, 1) := by decide +kernel
theorem dX10_of_41 : decode cX10_of 41 = .ok (.iadd, 1) := by decide +kernel
theorem dX10_of_42 : decode cX10_of 42 = .ok (.iaload, 1) := by decide +kernel
theorem dX10_of_43 : decode cX10_of 43 = .ok (.goto 28, 3) := by decide +kernel
theorem dX10_of_46 : decode cX10_of 46 = .ok (.aload_n 0, 1) := by decide +kernel
theorem dX10_of_47 : decode cX10_of 47 = .ok (.aload_n 0, 1) := by decide +kernel
theorem dX10_of_48 : decode cX10_of 48 = .ok (.getfield 7, 3) := by decide +kernel
theorem dX10_of_51 : decode cX10_of 51 = .ok (.bipush 7, 2) := by decide +kernel
theorem dX10_of_53 : decode cX10_of 53 = .ok (.iload_n 1, 1) := by decide +kernel
theorem dX10_of_54 : decode cX10_of 54 = .ok (.iadd, 1) := by decide +kernel
theorem dX10_of_55 : decode cX10_of 55 = .ok (.iaload, 1) := by decide +kernel
theorem dX10_of_56 : decode cX10_of 56 = .ok (.aload_n 0, 1) := by decide +kernel
theorem dX10_of_57 : decode cX10_of 57 = .ok (.getfield 7, 3) := by decide +kernel
theorem dX10_of_60 : decode cX10_of 60 = .ok (.iconst 2, 1) := by decide +kernel
theorem dX10_of_61 : decode cX10_of 61 = .ok (.iaload, 1) := by decide +kernel
theorem dX10_of_62 : decode cX10_of 62 = .ok (.aload_n 0, 1) := by decide +kernel
theorem dX10_of_63 : decode cX10_of 63 = .ok (.getfield 7, 3) := by decide +kernel
theorem dX10_of_66 : decode cX10_of 66 = .ok (.iconst 4, 1) := by decide +kernel
theorem dX10_of_67 : decode cX10_of 67 = .ok (.iaload, 1) := by decide +kernel
theorem dX10_of_68 : decode cX10_of 68 = .ok (.invokevirtual 126, 3) := by decide +kernel
theorem dX10_of_71 : decode cX10_of 71 = .ok (.ireturn, 1) := by decide +kernel
theorem dX10_left_0 : decode cX10_left 0 = .ok (.aload_n 0, 1) := by decide +kernel
theorem dX10_left_1 : decode cX10_left 1 = .ok (.iload_n 1, 1) := by decide +kernel
theorem dX10_left_2 : decode cX10_left 2 = .ok (.invokevirtual 141, 3) := by decide +kernel
theorem dX10_left_5 : decode cX10_left 5 = .ok (.ifCond .eq 22, 3) := by decide +kernel
theorem dX10_left_8 : decode cX10_left 8 = .ok (.iload_n 2, 1) := by decide +kernel
theorem dX10_left_9 : decode cX10_left 9 = .ok (.iconst 0, 1) := by decide +kernel
theorem dX10_left_10 : decode cX10_left 10 = .ok (.bipush 99, 2) := by decide +kernel
theorem dX10_left_12 : decode cX10_left 12 = .ok (.invokestatic 50, 3) := by decide +kernel
theorem dX10_left_15 : decode cX10_left 15 = .ok (.ifCond .eq 12, 3) := by decide +kernel
theorem dX10_left_18 : decode cX10_left 18 = .ok (.aload_n 0, 1) := by decide +kernel
theorem dX10_left_19 : decode cX10_left 19 = .ok (.iload_n 1, 1) := by decide +kernel
theorem dX10_left_20 : decode cX10_left 20 = .ok (.iload_n 2, 1) := by decide +kernel
theorem dX10_left_21 : decode cX10_left 21 = .ok (.invokevirtual 137, 3) := by decide +kernel
theorem dX10_left_24 : decode cX10_left 24 = .ok (.goto 9, 3) := by decide +kernel
theorem dX10_left_27 : decode cX10_left 27 = .ok (.aload_n 0, 1) := by decide +kernel
theorem dX10_left_28 : decode cX10_left 28 = .ok (.bipush (-2), 2) := by decide +kernel
theorem dX10_left_30 : decode cX10_left 30 = .ok (.invokevirtual 54, 3) := by decide +kernel
theorem dX10_left_33 : decode cX10_left 33 = .ok (.ireturn, 1) := by decide +kernel
theorem dX10_endOf_0 : decode cX10_endOf 0 = .ok (.aload_n 0, 1) := by decide +kernel
theorem dX10_endOf_1 : decode cX10_endOf 1 = .ok (.getfield 7, 3) := by decide +kernel
theorem dX10_endOf_4 : decode cX10_endOf 4 = .ok (.bipush 13, 2) := by decide +kernel
theorem dX10_endOf_6 : decode cX10_endOf 6 = .ok (.iload_n 1, 1) := by decide +kernel
theorem dX10_endOf_7 : decode cX10_endOf 7 = .ok (.iadd, 1) := by decide +kernel
theorem dX10_endOf_8 : decode cX10_endOf 8 = .ok (.iaload, 1) := by decide +kernel
theorem dX10_endOf_9 : decode cX10_endOf 9 = .ok (.ifCond .ne 5, 3) := by decide +kernel
theorem dX10_endOf_12 : decode cX10_endOf 12 = .ok (.iconst (-1), 1) := by decide +kernel
theorem dX10_endOf_13 : decode cX10_endOf 13 = .ok (.ireturn, 1) := by decide +kernel
theorem dX10_endOf_14 : decode cX10_endOf 14 = .ok (.iconst 1, 1) := by decide +kernel
theorem dX10_endOf_15 : decode cX10_endOf 15 = .ok (.istore_n 2, 1) := by decide +kernel
theorem dX10_endOf_16 : decode cX10_endOf 16 = .ok (.iload_n 2, 1) := by decide +kernel
theorem dX10_endOf_17 : decode cX10_endOf 17 = .ok (.bipush 100, 2) := by decide +kernel
theorem dX10_endOf_19 : decode cX10_endOf 19 = .ok (.if_icmp .ge 29, 3) := by decide +kernel
theorem dX10_endOf_22 : decode cX10_endOf 22 = .ok (.aload_n 0, 1) := by decide +kernel
theorem dX10_endOf_23 : decode cX10_endOf 23 = .ok (.iload_n 1, 1) := by decide +kernel
theorem dX10_endOf_24 : decode cX10_endOf 24 = .ok (.iload_n 2, 1) := by decide +kernel
theorem dX10_endOf_25 : decode cX10_endOf 25 = .ok (.invokevirtual 137, 3) := by decide +kernel
theorem dX10_endOf_28 : decode cX10_endOf 28 = .ok (.ifCond .ne 14, 3) := by decide +kernel
theorem dX10_endOf_31 : decode cX10_endOf 31 = .ok (.aload_n 0, 1) := by decide +kernel
theorem dX10_endOf_32 : decode cX10_endOf 32 = .ok (.getfield 7, 3) := by decide +kernel
theorem dX10_endOf_35 : decode cX10_endOf 35 = .ok (.iconst 2, 1) := by decide +kernel
theorem dX10_endOf_36 : decode cX10_endOf 36 = .ok (.iaload, 1) := by decide +kernel
theorem dX10_endOf_37 : decode cX10_endOf 37 = .ok (.iload_n 2, 1) := by decide +kernel
theorem dX10_endOf_38 : decode cX10_endOf 38 = .ok (.iadd, 1) := by decide +kernel
theorem dX10_endOf_39 : decode cX10_endOf 39 = .ok (.iconst 1, 1) := by decide +kernel
theorem dX10_endOf_40 : decode cX10_endOf 40 = .ok (.isub, 1) := by decide +kernel
theorem dX10_endOf_41 : decode cX10_endOf 41 = .ok (.ireturn, 1) := by decide +kernel
theorem dX10_endOf_42 : decode cX10_endOf 42 = .ok (.iinc 2 1, 3) := by decide +kernel
theorem dX10_endOf_45 : decode cX10_endOf 45 = .ok (.goto (-29), 3) := by decide +kernel
theorem dX10_endOf_48 : decode cX10_endOf 48 = .ok (.iconst (-1), 1) := by decide +kernel
theorem dX10_endOf_49 : decode cX10_endOf 49 = .ok (.ireturn, 1) := by decide +kernel
theorem dX10_till_0 : decode cX10_till 0 = .ok (.aload_n 0, 1) := by decide +kernel
theorem dX10_till_1 : decode cX10_till 1 = .ok (.iload_n 1, 1) := by decide +kernel
theorem dX10_till_2 : decode cX10_till 2 = .ok (.invokevirtual 141, 3) := by decide +kernel
theorem dX10_till_5 : decode cX10_till 5 = .ok (.ifCond .ne 10, 3) := by decide +kernel
theorem dX10_till_8 : decode cX10_till 8 = .ok (.aload_n 0, 1) := by decide +kernel
theorem dX10_till_9 : decode cX10_till 9 = .ok (.bipush (-2), 2) := by decide +kernel
theorem dX10_till_11 : decode cX10_till 11 = .ok (.invokevirtual 54, 3) := by decide +kernel
theorem dX10_till_14 : decode cX10_till 14 = .ok (.ireturn, 1) := by decide +kernel
theorem dX10_till_15 : decode cX10_till 15 = .ok (.aload_n 0, 1) := by decide +kernel
theorem dX10_till_16 : decode cX10_till 16 = .ok (.getfield 7, 3) := by decide +kernel
theorem dX10_till_19 : decode cX10_till 19 = .ok (.bipush 13, 2) := by decide +kernel
theorem dX10_till_21 : decode cX10_till 21 = .ok (.iload_n 1, 1) := by decide +kernel
theorem dX10_till_22 : decode cX10_till 22 = .ok (.iadd, 1) := by decide +kernel
theorem dX10_till_23 : decode cX10_till 23 = .ok (.iaload, 1) := by decide +kernel
theorem dX10_till_24 : decode cX10_till 24 = .ok (.ifCond .ne 15, 3) := by decide +kernel
theorem dX10_till_27 : decode cX10_till 27 = .ok (.aload_n 0, 1) := by decide +kernel
theorem dX10_till_28 : decode cX10_till 28 = .ok (.getfield 7, 3) := by decide +kernel
theorem dX10_till_31 : decode cX10_till 31 = .ok (.bipush 25, 2) := by decide +kernel
theorem dX10_till_33 : decode cX10_till 33 = .ok (.iload_n 1, 1) := by decide +kernel
theorem dX10_till_34 : decode cX10_till 34 = .ok (.iadd, 1) := by decide +kernel
theorem dX10_till_35 : decode cX10_till 35 = .ok (.iaload, 1) := by decide +kernel
theorem dX10_till_36 : decode cX10_till 36 = .ok (.goto 8, 3) := by decide +kernel
theorem dX10_till_39 : decode cX10_till 39 = .ok (.aload_n 0, 1) := by decide +kernel
theorem dX10_till_40 : decode cX10_till 40 = .ok (.iload_n 1, 1) := by decide +kernel
theorem dX10_till_41 : decode cX10_till 41 = .ok (.invokevirtual 145, 3) := by decide +kernel
theorem dX10_till_44 : decode cX10_till 44 = .ok (.ireturn, 1) := by decide +kernel
theorem dX10_together_0 : decode cX10_together 0 = .ok (.iload_n 1, 1) := by decide +kernel
theorem dX10_together_1 : decode cX10_together 1 = .ok (.iconst 0, 1) := by decide +kernel
theorem dX10_together_2 : decode cX10_together 2 = .ok (.iconst 1, 1) := by decide +kernel
theorem dX10_together_3 : decode cX10_together 3 = .ok (.invokestatic 50, 3) := by decide +kernel
theorem dX10_together_6 : decode cX10_together 6 = .ok (.ifCond .ne 10, 3) := by decide +kernel
theorem dX10_together_9 : decode cX10_together 9 = .ok (.aload_n 0, 1) := by decide +kernel
theorem dX10_together_10 : decode cX10_together 10 = .ok (.bipush (-2), 2) := by decide +kernel
theorem dX10_together_12 : decode cX10_together 12 = .ok (.invokevirtual 54, 3) := by decide +kernel
theorem dX10_together_15 : decode cX10_together 15 = .ok (.ireturn, 1) := by decide +kernel
theorem dX10_together_16 : decode cX10_together 16 = .ok (.iconst (-1), 1) := by decide +kernel
theorem dX10_together_17 : decode cX10_together 17 = .ok (.istore_n 2, 1) := by decide +kernel
theorem dX10_together_18 : decode cX10_together 18 = .ok (.iconst (-1), 1) := by decide +kernel
theorem dX10_together_19 : decode cX10_together 19 = .ok (.istore_n 3, 1) := by decide +kernel
theorem dX10_together_20 : decode cX10_together 20 = .ok (.iconst 1, 1) := by decide +kernel
theorem dX10_together_21 : decode cX10_together 21 = .ok (.istore 4, 2) := by decide +kernel
theorem dX10_together_23 : decode cX10_together 23 = .ok (.iconst 0, 1) := by decide +kernel
theorem dX10_together_24 : decode cX10_together 24 = .ok (.istore 5, 2) := by decide +kernel
theorem dX10_together_26 : decode cX10_together 26 = .ok (.iload 5, 2) := by decide +kernel
theorem dX10_together_28 : decode cX10_together 28 = .ok (.aload_n 0, 1) := by decide +kernel
theorem dX10_together_29 : decode cX10_together 29 = .ok (.getfield 7, 3) := by decide +kernel
theorem dX10_together_32 : decode cX10_together 32 = .ok (.iconst 0, 1) := by decide +kernel
theorem dX10_together_33 : decode cX10_together 33 = .ok (.iaload, 1) := by decide +kernel
theorem dX10_together_34 : decode cX10_together 34 = .ok (.if_icmp .ge 120, 3) := by decide +kernel
theorem dX10_together_37 : decode cX10_together 37 = .ok (.aload_n 0, 1) := by decide +kernel
theorem dX10_together_38 : decode cX10_together 38 = .ok (.iload 5, 2) := by decide +kernel
theorem dX10_together_40 : decode cX10_together 40 = .ok (.invokevirtual 145, 3) := by decide +kernel
theorem dX10_together_43 : decode cX10_together 43 = .ok (.istore 6, 2) := by decide +kernel
theorem dX10_together_45 : decode cX10_together 45 = .ok (.iconst 0, 1) := by decide +kernel
theorem dX10_together_46 : decode cX10_together 46 = .ok (.istore 7, 2) := by decide +kernel
theorem dX10_together_48 : decode cX10_together 48 = .ok (.iconst 0, 1) := by decide +kernel
theorem dX10_together_49 : decode cX10_together 49 = .ok (.istore 8, 2) := by decide +kernel
theorem dX10_together_51 : decode cX10_together 51 = .ok (.iconst 0, 1) := by decide +kernel
theorem dX10_together_52 : decode cX10_together 52 = .ok (.istore 9, 2) := by decide +kernel
theorem dX10_together_54 : decode cX10_together 54 = .ok (.iload 9, 2) := by decide +kernel
theorem dX10_together_56 : decode cX10_together 56 = .ok (.aload_n 0, 1) := by decide +kernel
theorem dX10_together_57 : decode cX10_together 57 = .ok (.getfield 7, 3) := by decide +kernel
theorem dX10_together_60 : decode cX10_together 60 = .ok (.iconst 0, 1) := by decide +kernel
theorem dX10_together_61 : decode cX10_together 61 = .ok (.iaload, 1) := by decide +kernel
theorem dX10_together_62 : decode cX10_together 62 = .ok (.if_icmp .ge 32, 3) := by decide +kernel
theorem dX10_together_65 : decode cX10_together 65 = .ok (.aload_n 0, 1) := by decide +kernel
theorem dX10_together_66 : decode cX10_together 66 = .ok (.iload 9, 2) := by decide +kernel
theorem dX10_together_68 : decode cX10_together 68 = .ok (.invokevirtual 145, 3) := by decide +kernel
theorem dX10_together_71 : decode cX10_together 71 = .ok (.iload 6, 2) := by decide +kernel
theorem dX10_together_73 : decode cX10_together 73 = .ok (.if_icmp .ne 15, 3) := by decide +kernel
theorem dX10_together_76 : decode cX10_together 76 = .ok (.iload 7, 2) := by decide +kernel
theorem dX10_together_78 : decode cX10_together 78 = .ok (.iconst 1, 1) := by decide +kernel
theorem dX10_together_79 : decode cX10_together 79 = .ok (.iload 9, 2) := by decide +kernel
theorem dX10_together_81 : decode cX10_together 81 = .ok (.ishl, 1) := by decide +kernel
theorem dX10_together_82 : decode cX10_together 82 = .ok (.ior, 1) := by decide +kernel
theorem dX10_together_83 : decode cX10_together 83 = .ok (.istore 7, 2) := by decide +kernel
theorem dX10_together_85 : decode cX10_together 85 = .ok (.iinc 8 1, 3) := by decide +kernel
theorem dX10_together_88 : decode cX10_together 88 = .ok (.iinc 9 1, 3) := by decide +kernel
theorem dX10_together_91 : decode cX10_together 91 = .ok (.goto (-37), 3) := by decide +kernel
theorem dX10_together_94 : decode cX10_together 94 = .ok (.iload 8, 2) := by decide +kernel
theorem dX10_together_96 : decode cX10_together 96 = .ok (.iload 4, 2) := by decide +kernel
theorem dX10_together_98 : decode cX10_together 98 = .ok (.if_icmp .gt 16, 3) := by decide +kernel
theorem dX10_together_101 : decode cX10_together 101 = .ok (.iload 8, 2) := by decide +kernel
theorem dX10_together_103 : decode cX10_together 103 = .ok (.iload 4, 2) := by decide +kernel
theorem dX10_together_105 : decode cX10_together 105 = .ok (.if_icmp .ne 13, 3) := by decide +kernel
theorem dX10_together_108 : decode cX10_together 108 = .ok (.iload 6, 2) := by decide +kernel
theorem dX10_together_110 : decode cX10_together 110 = .ok (.iload_n 2, 1) := by decide +kernel
theorem dX10_together_111 : decode cX10_together 111 = .ok (.if_icmp .ge 7, 3) := by decide +kernel
theorem dX10_together_114 : decode cX10_together 114 = .ok (.iconst 1, 1) := by decide +kernel
theorem dX10_together_115 : decode cX10_together 115 = .ok (.goto 4, 3) := by decide +kernel
theorem dX10_together_118 : decode cX10_together 118 = .ok (.iconst 0, 1) := by decide +kernel
theorem dX10_together_119 : decode cX10_together 119 = .ok (.istore 9, 2) := by decide +kernel
theorem dX10_together_121 : decode cX10_together 121 = .ok (.iload 6, 2) := by decide +kernel
theorem dX10_together_123 : decode cX10_together 123 = .ok (.iconst (-1), 1) := by decide +kernel
theorem dX10_together_124 : decode cX10_together 124 = .ok (.if_icmp .eq 24, 3) := by decide +kernel
theorem dX10_together_127 : decode cX10_together 127 = .ok (.iload 8, 2) := by decide +kernel
theorem dX10_together_129 : decode cX10_together 129 = .ok (.iconst 1, 1) := by decide +kernel
theorem dX10_together_130 : decode cX10_together 130 = .ok (.if_icmp .le 18, 3) := by decide +kernel
theorem dX10_together_133 : decode cX10_together 133 = .ok (.iload 9, 2) := by decide +kernel
theorem dX10_together_135 : decode cX10_together 135 = .ok (.ifCond .eq 13, 3) := by decide +kernel
theorem dX10_together_138 : decode cX10_together 138 = .ok (.iload 6, 2) := by decide +kernel
theorem dX10_together_140 : decode cX10_together 140 = .ok (.istore_n 2, 1) := by decide +kernel
theorem dX10_together_141 : decode cX10_together 141 = .ok (.iload 7, 2) := by decide +kernel
theorem dX10_together_143 : decode cX10_together 143 = .ok (.istore_n 3, 1) := by decide +kernel
theorem dX10_together_144 : decode cX10_together 144 = .ok (.iload 8, 2) := by decide +kernel
theorem dX10_together_146 : decode cX10_together 146 = .ok (.istore 4, 2) := by decide +kernel
theorem dX10_together_148 : decode cX10_together 148 = .ok (.iinc 5 1, 3) := by decide +kernel
theorem dX10_together_151 : decode cX10_together 151 = .ok (.goto (-125), 3) := by decide +kernel
theorem dX10_together_154 : decode cX10_together 154 = .ok (.iload_n 1, 1) := by decide +kernel
theorem dX10_together_155 : decode cX10_together 155 = .ok (.ifCond .ne 7, 3) := by decide +kernel
theorem dX10_together_158 : decode cX10_together 158 = .ok (.iload_n 2, 1) := by decide +kernel
theorem dX10_together_159 : decode cX10_together 159 = .ok (.goto 4, 3) := by decide +kernel
theorem dX10_together_162 : decode cX10_together 162 = .ok (.iload_n 3, 1) := by decide +kernel
theorem dX10_together_163 : decode cX10_together 163 = .ok (.ireturn, 1) := by decide +kernel
theorem dX10_layGifts_0 : decode cX10_layGifts 0 = .ok (.iconst 1, 1) := by decide +kernel
theorem dX10_layGifts_1 : decode cX10_layGifts 1 = .ok (.istore 4, 2) := by decide +kernel
theorem dX10_layGifts_3 : decode cX10_layGifts 3 = .ok (.iconst 0, 1) := by decide +kernel
theorem dX10_layGifts_4 : decode cX10_layGifts 4 = .ok (.istore 5, 2) := by decide +kernel
theorem dX10_layGifts_6 : decode cX10_layGifts 6 = .ok (.iload 5, 2) := by decide +kernel
theorem dX10_layGifts_8 : decode cX10_layGifts 8 = .ok (.aload_n 0, 1) := by decide +kernel
theorem dX10_layGifts_9 : decode cX10_layGifts 9 = .ok (.getfield 7, 3) := by decide +kernel
theorem dX10_layGifts_12 : decode cX10_layGifts 12 = .ok (.iconst 1, 1) := by decide +kernel
theorem dX10_layGifts_13 : decode cX10_layGifts 13 = .ok (.iaload, 1) := by decide +kernel
theorem dX10_layGifts_14 : decode cX10_layGifts 14 = .ok (.if_icmp .ge 15, 3) := by decide +kernel
theorem dX10_layGifts_17 : decode cX10_layGifts 17 = .ok (.iload 4, 2) := by decide +kernel
theorem dX10_layGifts_19 : decode cX10_layGifts 19 = .ok (.iconst 3, 1) := by decide +kernel
theorem dX10_layGifts_20 : decode cX10_layGifts 20 = .ok (.imul, 1) := by decide +kernel
theorem dX10_layGifts_21 : decode cX10_layGifts 21 = .ok (.istore 4, 2) := by decide +kernel
theorem dX10_layGifts_23 : decode cX10_layGifts 23 = .ok (.iinc 5 1, 3) := by decide +kernel
theorem dX10_layGifts_26 : decode cX10_layGifts 26 = .ok (.goto (-20), 3) := by decide +kernel
theorem dX10_layGifts_29 : decode cX10_layGifts 29 = .ok (.aload_n 0, 1) := by decide +kernel
theorem dX10_layGifts_30 : decode cX10_layGifts 30 = .ok (.iconst (-1), 1) := by decide +kernel
theorem dX10_layGifts_31 : decode cX10_layGifts 31 = .ok (.putfield 148, 3) := by decide +kernel
theorem dX10_layGifts_34 : decode cX10_layGifts 34 = .ok (.iconst 0, 1) := by decide +kernel
theorem dX10_layGifts_35 : decode cX10_layGifts 35 = .ok (.istore 5, 2) := by decide +kernel
theorem dX10_layGifts_37 : decode cX10_layGifts 37 = .ok (.iload 5, 2) := by decide +kernel
theorem dX10_layGifts_39 : decode cX10_layGifts 39 = .ok (.iload 4, 2) := by decide +kernel
theorem dX10_layGifts_41 : decode cX10_layGifts 41 = .ok (.if_icmp .ge 270, 3) := by decide +kernel
theorem dX10_layGifts_44 : decode cX10_layGifts 44 = .ok (.iload 4, 2) := by decide +kernel
theorem dX10_layGifts_46 : decode cX10_layGifts 46 = .ok (.istore 6, 2) := by decide +kernel
theorem dX10_layGifts_48 : decode cX10_layGifts 48 = .ok (.iconst 0, 1) := by decide +kernel
theorem dX10_layGifts_49 : decode cX10_layGifts 49 = .ok (.istore 7, 2) := by decide +kernel
theorem dX10_layGifts_51 : decode cX10_layGifts 51 = .ok (.iconst 0, 1) := by decide +kernel
theorem dX10_layGifts_52 : decode cX10_layGifts 52 = .ok (.istore 8, 2) := by decide +kernel
theorem dX10_layGifts_54 : decode cX10_layGifts 54 = .ok (.iconst 0, 1) := by decide +kernel
theorem dX10_layGifts_55 : decode cX10_layGifts 55 = .ok (.istore 9, 2) := by decide +kernel
theorem dX10_layGifts_57 : decode cX10_layGifts 57 = .ok (.iconst 0, 1) := by decide +kernel
theorem dX10_layGifts_58 : decode cX10_layGifts 58 = .ok (.istore 10, 2) := by decide +kernel
theorem dX10_layGifts_60 : decode cX10_layGifts 60 = .ok (.iconst 0, 1) := by decide +kernel
theorem dX10_layGifts_61 : decode cX10_layGifts 61 = .ok (.istore 11, 2) := by decide +kernel
theorem dX10_layGifts_63 : decode cX10_layGifts 63 = .ok (.iload 11, 2) := by decide +kernel
theorem dX10_layGifts_65 : decode cX10_layGifts 65 = .ok (.aload_n 0, 1) := by decide +kernel
theorem dX10_layGifts_66 : decode cX10_layGifts 66 = .ok (.getfield 7, 3) := by decide +kernel
theorem dX10_layGifts_69 : decode cX10_layGifts 69 = .ok (.iconst 1, 1) := by decide +kernel
theorem dX10_layGifts_70 : decode cX10_layGifts 70 = .ok (.iaload, 1) := by decide +kernel
theorem dX10_layGifts_71 : decode cX10_layGifts 71 = .ok (.if_icmp .ge 112, 3) := by decide +kernel
theorem dX10_layGifts_74 : decode cX10_layGifts 74 = .ok (.iload 6, 2) := by decide +kernel
theorem dX10_layGifts_76 : decode cX10_layGifts 76 = .ok (.iconst 3, 1) := by decide +kernel
theorem dX10_layGifts_77 : decode cX10_layGifts 77 = .ok (.idiv, 1) := by decide +kernel
theorem dX10_layGifts_78 : decode cX10_layGifts 78 = .ok (.istore 6, 2) := by decide +kernel
theorem dX10_layGifts_80 : decode cX10_layGifts 80 = .ok (.iload 5, 2) := by decide +kernel
theorem dX10_layGifts_82 : decode cX10_layGifts 82 = .ok (.iload 6, 2) := by decide +kernel
theorem dX10_layGifts_84 : decode cX10_layGifts 84 = .ok (.idiv, 1) := by decide +kernel
theorem dX10_layGifts_85 : decode cX10_layGifts 85 = .ok (.iconst 3, 1) := by decide +kernel
theorem dX10_layGifts_86 : decode cX10_layGifts 86 = .ok (.irem, 1) := by decide +kernel
theorem dX10_layGifts_87 : decode cX10_layGifts 87 = .ok (.istore 12, 2) := by decide +kernel
theorem dX10_layGifts_89 : decode cX10_layGifts 89 = .ok (.iload 7, 2) := by decide +kernel
theorem dX10_layGifts_91 : decode cX10_layGifts 91 = .ok (.iload 12, 2) := by decide +kernel
theorem dX10_layGifts_93 : decode cX10_layGifts 93 = .ok (.iconst 1, 1) := by decide +kernel
theorem dX10_layGifts_94 : decode cX10_layGifts 94 = .ok (.if_icmp .ne 16, 3) := by decide +kernel
theorem dX10_layGifts_97 : decode cX10_layGifts 97 = .ok (.aload_n 0, 1) := by decide +kernel
theorem dX10_layGifts_98 : decode cX10_layGifts 98 = .ok (.getfield 7, 3) := by decide +kernel
theorem dX10_layGifts_101 : decode cX10_layGifts 101 = .ok (.bipush 31, 2) := by decide +kernel
theorem dX10_layGifts_103 : decode cX10_layGifts 103 = .ok (.iload 11, 2) := by decide +kernel
theorem dX10_layGifts_105 : decode cX10_layGifts 105 = .ok (.iadd, 1) := by decide +kernel
theorem dX10_layGifts_106 : decode cX10_layGifts 106 = .ok (.iaload, 1) := by decide +kernel
theorem dX10_layGifts_107 : decode cX10_layGifts 107 = .ok (.goto 4, 3) := by decide +kernel
theorem dX10_layGifts_110 : decode cX10_layGifts 110 = .ok (.iconst 0, 1) := by decide +kernel
theorem dX10_layGifts_111 : decode cX10_layGifts 111 = .ok (.iadd, 1) := by decide +kernel
theorem dX10_layGifts_112 : decode cX10_layGifts 112 = .ok (.istore 7, 2) := by decide +kernel
theorem dX10_layGifts_114 : decode cX10_layGifts 114 = .ok (.iload 8, 2) := by decide +kernel
theorem dX10_layGifts_116 : decode cX10_layGifts 116 = .ok (.iload 12, 2) := by decide +kernel
theorem dX10_layGifts_118 : decode cX10_layGifts 118 = .ok (.iconst 2, 1) := by decide +kernel
theorem dX10_layGifts_119 : decode cX10_layGifts 119 = .ok (.if_icmp .ne 16, 3) := by decide +kernel
theorem dX10_layGifts_122 : decode cX10_layGifts 122 = .ok (.aload_n 0, 1) := by decide +kernel
theorem dX10_layGifts_123 : decode cX10_layGifts 123 = .ok (.getfield 7, 3) := by decide +kernel
theorem dX10_layGifts_126 : decode cX10_layGifts 126 = .ok (.bipush 31, 2) := by decide +kernel
theorem dX10_layGifts_128 : decode cX10_layGifts 128 = .ok (.iload 11, 2) := by decide +kernel
theorem dX10_layGifts_130 : decode cX10_layGifts 130 = .ok (.iadd, 1) := by decide +kernel
theorem dX10_layGifts_131 : decode cX10_layGifts 131 = .ok (.iaload, 1) := by decide +kernel
theorem dX10_layGifts_132 : decode cX10_layGifts 132 = .ok (.goto 4, 3) := by decide +kernel
theorem dX10_layGifts_135 : decode cX10_layGifts 135 = .ok (.iconst 0, 1) := by decide +kernel
theorem dX10_layGifts_136 : decode cX10_layGifts 136 = .ok (.iadd, 1) := by decide +kernel
theorem dX10_layGifts_137 : decode cX10_layGifts 137 = .ok (.istore 8, 2) := by decide +kernel
theorem dX10_layGifts_139 : decode cX10_layGifts 139 = .ok (.iload 9, 2) := by decide +kernel
theorem dX10_layGifts_141 : decode cX10_layGifts 141 = .ok (.iload 12, 2) := by decide +kernel
theorem dX10_layGifts_143 : decode cX10_layGifts 143 = .ok (.iconst 1, 1) := by decide +kernel
theorem dX10_layGifts_144 : decode cX10_layGifts 144 = .ok (.if_icmp .ne 10, 3) := by decide +kernel
theorem dX10_layGifts_147 : decode cX10_layGifts 147 = .ok (.iconst 1, 1) := by decide +kernel
theorem dX10_layGifts_148 : decode cX10_layGifts 148 = .ok (.iload 11, 2) := by decide +kernel
theorem dX10_layGifts_150 : decode cX10_layGifts 150 = .ok (.ishl, 1) := by decide +kernel
theorem dX10_layGifts_151 : decode cX10_layGifts 151 = .ok (.goto 4, 3) := by decide +kernel
theorem dX10_layGifts_154 : decode cX10_layGifts 154 = .ok (.iconst 0, 1) := by decide +kernel
theorem dX10_layGifts_155 : decode cX10_layGifts 155 = .ok (.ior, 1) := by decide +kernel
theorem dX10_layGifts_156 : decode cX10_layGifts 156 = .ok (.istore 9, 2) := by decide +kernel
theorem dX10_layGifts_158 : decode cX10_layGifts 158 = .ok (.iload 10, 2) := by decide +kernel
theorem dX10_layGifts_160 : decode cX10_layGifts 160 = .ok (.iload 12, 2) := by decide +kernel
theorem dX10_layGifts_162 : decode cX10_layGifts 162 = .ok (.iconst 2, 1) := by decide +kernel
theorem dX10_layGifts_163 : decode cX10_layGifts 163 = .ok (.if_icmp .ne 10, 3) := by decide +kernel
theorem dX10_layGifts_166 : decode cX10_layGifts 166 = .ok (.iconst 1, 1) := by decide +kernel
theorem dX10_layGifts_167 : decode cX10_layGifts 167 = .ok (.iload 11, 2) := by decide +kernel
theorem dX10_layGifts_169 : decode cX10_layGifts 169 = .ok (.ishl, 1) := by decide +kernel
theorem dX10_layGifts_170 : decode cX10_layGifts 170 = .ok (.goto 4, 3) := by decide +kernel
theorem dX10_layGifts_173 : decode cX10_layGifts 173 = .ok (.iconst 0, 1) := by decide +kernel
theorem dX10_layGifts_174 : decode cX10_layGifts 174 = .ok (.ior, 1) := by decide +kernel
theorem dX10_layGifts_175 : decode cX10_layGifts 175 = .ok (.istore 10, 2) := by decide +kernel
theorem dX10_layGifts_177 : decode cX10_layGifts 177 = .ok (.iinc 11 1, 3) := by decide +kernel
theorem dX10_layGifts_180 : decode cX10_layGifts 180 = .ok (.goto (-117), 3) := by decide +kernel
theorem dX10_layGifts_183 : decode cX10_layGifts 183 = .ok (.aload_n 0, 1) := by decide +kernel
theorem dX10_layGifts_184 : decode cX10_layGifts 184 = .ok (.getfield 148, 3) := by decide +kernel
theorem dX10_layGifts_187 : decode cX10_layGifts 187 = .ok (.ifCond .lt 15, 3) := by decide +kernel
theorem dX10_layGifts_190 : decode cX10_layGifts 190 = .ok (.iload 7, 2) := by decide +kernel
theorem dX10_layGifts_192 : decode cX10_layGifts 192 = .ok (.iload 8, 2) := by decide +kernel
theorem dX10_layGifts_194 : decode cX10_layGifts 194 = .ok (.iadd, 1) := by decide +kernel
theorem dX10_layGifts_195 : decode cX10_layGifts 195 = .ok (.aload_n 0, 1) := by decide +kernel
theorem dX10_layGifts_196 : decode cX10_layGifts 196 = .ok (.getfield 148, 3) := by decide +kernel
theorem dX10_layGifts_199 : decode cX10_layGifts 199 = .ok (.if_icmp .ge 7, 3) := by decide +kernel
theorem dX10_layGifts_202 : decode cX10_layGifts 202 = .ok (.iconst 1, 1) := by decide +kernel
theorem dX10_layGifts_203 : decode cX10_layGifts 203 = .ok (.goto 4, 3) := by decide +kernel
theorem dX10_layGifts_206 : decode cX10_layGifts 206 = .ok (.iconst 0, 1) := by decide +kernel
theorem dX10_layGifts_207 : decode cX10_layGifts 207 = .ok (.istore 11, 2) := by decide +kernel
theorem dX10_layGifts_209 : decode cX10_layGifts 209 = .ok (.iload 11, 2) := by decide +kernel
theorem dX10_layGifts_211 : decode cX10_layGifts 211 = .ok (.ifCond .eq 94, 3) := by decide +kernel
theorem dX10_layGifts_214 : decode cX10_layGifts 214 = .ok (.aload_n 0, 1) := by decide +kernel
theorem dX10_layGifts_215 : decode cX10_layGifts 215 = .ok (.aload_n 0, 1) := by decide +kernel
theorem dX10_layGifts_216 : decode cX10_layGifts 216 = .ok (.getfield 7, 3) := by decide +kernel
theorem dX10_layGifts_219 : decode cX10_layGifts 219 = .ok (.bipush 7, 2) := by decide +kernel
theorem dX10_layGifts_221 : decode cX10_layGifts 221 = .ok (.iload_n 1, 1) := by decide +kernel
theorem dX10_layGifts_222 : decode cX10_layGifts 222 = .ok (.iadd, 1) := by decide +kernel
theorem dX10_layGifts_223 : decode cX10_layGifts 223 = .ok (.iaload, 1) := by decide +kernel
theorem dX10_layGifts_224 : decode cX10_layGifts 224 = .ok (.aload_n 0, 1) := by decide +kernel
theorem dX10_layGifts_225 : decode cX10_layGifts 225 = .ok (.getfield 7, 3) := by decide +kernel
theorem dX10_layGifts_228 : decode cX10_layGifts 228 = .ok (.bipush 13, 2) := by decide +kernel
theorem dX10_layGifts_230 : decode cX10_layGifts 230 = .ok (.iload_n 1, 1) := by decide +kernel
theorem dX10_layGifts_231 : decode cX10_layGifts 231 = .ok (.iadd, 1) := by decide +kernel
theorem dX10_layGifts_232 : decode cX10_layGifts 232 = .ok (.iaload, 1) := by decide +kernel
theorem dX10_layGifts_233 : decode cX10_layGifts 233 = .ok (.iload 7, 2) := by decide +kernel
theorem dX10_layGifts_235 : decode cX10_layGifts 235 = .ok (.iadd, 1) := by decide +kernel
theorem dX10_layGifts_236 : decode cX10_layGifts 236 = .ok (.iload_n 3, 1) := by decide +kernel
theorem dX10_layGifts_237 : decode cX10_layGifts 237 = .ok (.aload_n 0, 1) := by decide +kernel
theorem dX10_layGifts_238 : decode cX10_layGifts 238 = .ok (.getfield 7, 3) := by decide +kernel
theorem dX10_layGifts_241 : decode cX10_layGifts 241 = .ok (.iconst 4, 1) := by decide +kernel
theorem dX10_layGifts_242 : decode cX10_layGifts 242 = .ok (.iaload, 1) := by decide +kernel
theorem dX10_layGifts_243 : decode cX10_layGifts 243 = .ok (.invokevirtual 130, 3) := by decide +kernel
theorem dX10_layGifts_246 : decode cX10_layGifts 246 = .ok (.ifCond .le 59, 3) := by decide +kernel
theorem dX10_layGifts_249 : decode cX10_layGifts 249 = .ok (.aload_n 0, 1) := by decide +kernel
theorem dX10_layGifts_250 : decode cX10_layGifts 250 = .ok (.aload_n 0, 1) := by decide +kernel
theorem dX10_layGifts_251 : decode cX10_layGifts 251 = .ok (.getfield 7, 3) := by decide +kernel
theorem dX10_layGifts_254 : decode cX10_layGifts 254 = .ok (.bipush 7, 2) := by decide +kernel
theorem dX10_layGifts_256 : decode cX10_layGifts 256 = .ok (.iload_n 2, 1) := by decide +kernel
theorem dX10_layGifts_257 : decode cX10_layGifts 257 = .ok (.iadd, 1) := by decide +kernel
theorem dX10_layGifts_258 : decode cX10_layGifts 258 = .ok (.iaload, 1) := by decide +kernel
theorem dX10_layGifts_259 : decode cX10_layGifts 259 = .ok (.aload_n 0, 1) := by decide +kernel
theorem dX10_layGifts_260 : decode cX10_layGifts 260 = .ok (.getfield 7, 3) := by decide +kernel
theorem dX10_layGifts_263 : decode cX10_layGifts 263 = .ok (.bipush 13, 2) := by decide +kernel
theorem dX10_layGifts_265 : decode cX10_layGifts 265 = .ok (.iload_n 2, 1) := by decide +kernel
theorem dX10_layGifts_266 : decode cX10_layGifts 266 = .ok (.iadd, 1) := by decide +kernel
theorem dX10_layGifts_267 : decode cX10_layGifts 267 = .ok (.iaload, 1) := by decide +kernel
theorem dX10_layGifts_268 : decode cX10_layGifts 268 = .ok (.iload 8, 2) := by decide +kernel
theorem dX10_layGifts_270 : decode cX10_layGifts 270 = .ok (.iadd, 1) := by decide +kernel
theorem dX10_layGifts_271 : decode cX10_layGifts 271 = .ok (.iload_n 3, 1) := by decide +kernel
theorem dX10_layGifts_272 : decode cX10_layGifts 272 = .ok (.aload_n 0, 1) := by decide +kernel
theorem dX10_layGifts_273 : decode cX10_layGifts 273 = .ok (.getfield 7, 3) := by decide +kernel
theorem dX10_layGifts_276 : decode cX10_layGifts 276 = .ok (.iconst 4, 1) := by decide +kernel
theorem dX10_layGifts_277 : decode cX10_layGifts 277 = .ok (.iaload, 1) := by decide +kernel
theorem dX10_layGifts_278 : decode cX10_layGifts 278 = .ok (.invokevirtual 130, 3) := by decide +kernel
theorem dX10_layGifts_281 : decode cX10_layGifts 281 = .ok (.ifCond .le 24, 3) := by decide +kernel
theorem dX10_layGifts_284 : decode cX10_layGifts 284 = .ok (.aload_n 0, 1) := by decide +kernel
theorem dX10_layGifts_285 : decode cX10_layGifts 285 = .ok (.iload 7, 2) := by decide +kernel
theorem dX10_layGifts_287 : decode cX10_layGifts 287 = .ok (.iload 8, 2) := by decide +kernel
theorem dX10_layGifts_289 : decode cX10_layGifts 289 = .ok (.iadd, 1) := by decide +kernel
theorem dX10_layGifts_290 : decode cX10_layGifts 290 = .ok (.putfield 148, 3) := by decide +kernel
theorem dX10_layGifts_293 : decode cX10_layGifts 293 = .ok (.aload_n 0, 1) := by decide +kernel
theorem dX10_layGifts_294 : decode cX10_layGifts 294 = .ok (.iload 9, 2) := by decide +kernel
theorem dX10_layGifts_296 : decode cX10_layGifts 296 = .ok (.putfield 151, 3) := by decide +kernel
theorem dX10_layGifts_299 : decode cX10_layGifts 299 = .ok (.aload_n 0, 1) := by decide +kernel
theorem dX10_layGifts_300 : decode cX10_layGifts 300 = .ok (.iload 10, 2) := by decide +kernel
theorem dX10_layGifts_302 : decode cX10_layGifts 302 = .ok (.putfield 154, 3) := by decide +kernel
theorem dX10_layGifts_305 : decode cX10_layGifts 305 = .ok (.iinc 5 1, 3) := by decide +kernel
theorem dX10_layGifts_308 : decode cX10_layGifts 308 = .ok (.goto (-271), 3) := by decide +kernel
theorem dX10_layGifts_311 : decode cX10_layGifts 311 = .ok (.return_, 1) := by decide +kernel
theorem dX10_gifts_0 : decode cX10_gifts 0 = .ok (.aload_n 0, 1) := by decide +kernel
theorem dX10_gifts_1 : decode cX10_gifts 1 = .ok (.iload_n 1, 1) := by decide +kernel
theorem dX10_gifts_2 : decode cX10_gifts 2 = .ok (.invokevirtual 141, 3) := by decide +kernel
theorem dX10_gifts_5 : decode cX10_gifts 5 = .ok (.ifCond .eq 36, 3) := by decide +kernel
theorem dX10_gifts_8 : decode cX10_gifts 8 = .ok (.aload_n 0, 1) := by decide +kernel
theorem dX10_gifts_9 : decode cX10_gifts 9 = .ok (.iload_n 2, 1) := by decide +kernel
theorem dX10_gifts_10 : decode cX10_gifts 10 = .ok (.invokevirtual 141, 3) := by decide +kernel
theorem dX10_gifts_13 : decode cX10_gifts 13 = .ok (.ifCond .eq 28, 3) := by decide +kernel
theorem dX10_gifts_16 : decode cX10_gifts 16 = .ok (.iload_n 1, 1) := by decide +kernel
theorem dX10_gifts_17 : decode cX10_gifts 17 = .ok (.iload_n 2, 1) := by decide +kernel
theorem dX10_gifts_18 : decode cX10_gifts 18 = .ok (.if_icmp .eq 23, 3) := by decide +kernel
theorem dX10_gifts_21 : decode cX10_gifts 21 = .ok (.iload_n 3, 1) := by decide +kernel
theorem dX10_gifts_22 : decode cX10_gifts 22 = .ok (.iconst 1, 1) := by decide +kernel
theorem dX10_gifts_23 : decode cX10_gifts 23 = .ok (.bipush 60, 2) := by decide +kernel
theorem dX10_gifts_25 : decode cX10_gifts 25 = .ok (.invokestatic 50, 3) := by decide +kernel
theorem dX10_gifts_28 : decode cX10_gifts 28 = .ok (.ifCond .eq 13, 3) := by decide +kernel
theorem dX10_gifts_31 : decode cX10_gifts 31 = .ok (.iload 4, 2) := by decide +kernel
theorem dX10_gifts_33 : decode cX10_gifts 33 = .ok (.iconst 0, 1) := by decide +kernel
theorem dX10_gifts_34 : decode cX10_gifts 34 = .ok (.iconst 2, 1) := by decide +kernel
theorem dX10_gifts_35 : decode cX10_gifts 35 = .ok (.invokestatic 50, 3) := by decide +kernel
theorem dX10_gifts_38 : decode cX10_gifts 38 = .ok (.ifCond .ne 10, 3) := by decide +kernel
theorem dX10_gifts_41 : decode cX10_gifts 41 = .ok (.aload_n 0, 1) := by decide +kernel
theorem dX10_gifts_42 : decode cX10_gifts 42 = .ok (.bipush (-2), 2) := by decide +kernel
theorem dX10_gifts_44 : decode cX10_gifts 44 = .ok (.invokevirtual 54, 3) := by decide +kernel
theorem dX10_gifts_47 : decode cX10_gifts 47 = .ok (.ireturn, 1) := by decide +kernel
theorem dX10_gifts_48 : decode cX10_gifts 48 = .ok (.aload_n 0, 1) := by decide +kernel
theorem dX10_gifts_49 : decode cX10_gifts 49 = .ok (.iload_n 1, 1) := by decide +kernel
theorem dX10_gifts_50 : decode cX10_gifts 50 = .ok (.iload_n 2, 1) := by decide +kernel
theorem dX10_gifts_51 : decode cX10_gifts 51 = .ok (.iload_n 3, 1) := by decide +kernel
theorem dX10_gifts_52 : decode cX10_gifts 52 = .ok (.invokevirtual 157, 3) := by decide +kernel
theorem dX10_gifts_55 : decode cX10_gifts 55 = .ok (.aload_n 0, 1) := by decide +kernel
theorem dX10_gifts_56 : decode cX10_gifts 56 = .ok (.getfield 148, 3) := by decide +kernel
theorem dX10_gifts_59 : decode cX10_gifts 59 = .ok (.ifCond .ge 7, 3) := by decide +kernel
theorem dX10_gifts_62 : decode cX10_gifts 62 = .ok (.iconst (-1), 1) := by decide +kernel
theorem dX10_gifts_63 : decode cX10_gifts 63 = .ok (.goto 32, 3) := by decide +kernel
theorem dX10_gifts_66 : decode cX10_gifts 66 = .ok (.iload 4, 2) := by decide +kernel
theorem dX10_gifts_68 : decode cX10_gifts 68 = .ok (.ifCond .ne 10, 3) := by decide +kernel
theorem dX10_gifts_71 : decode cX10_gifts 71 = .ok (.aload_n 0, 1) := by decide +kernel
theorem dX10_gifts_72 : decode cX10_gifts 72 = .ok (.getfield 148, 3) := by decide +kernel
theorem dX10_gifts_75 : decode cX10_gifts 75 = .ok (.goto 20, 3) := by decide +kernel
theorem dX10_gifts_78 : decode cX10_gifts 78 = .ok (.iload 4, 2) := by decide +kernel
theorem dX10_gifts_80 : decode cX10_gifts 80 = .ok (.iconst 1, 1) := by decide +kernel
theorem dX10_gifts_81 : decode cX10_gifts 81 = .ok (.if_icmp .ne 10, 3) := by decide +kernel
theorem dX10_gifts_84 : decode cX10_gifts 84 = .ok (.aload_n 0, 1) := by decide +kernel
theorem dX10_gifts_85 : decode cX10_gifts 85 = .ok (.getfield 151, 3) := by decide +kernel
theorem dX10_gifts_88 : decode cX10_gifts 88 = .ok (.goto 7, 3) := by decide +kernel
theorem dX10_gifts_91 : decode cX10_gifts 91 = .ok (.aload_n 0, 1) := by decide +kernel
theorem dX10_gifts_92 : decode cX10_gifts 92 = .ok (.getfield 154, 3) := by decide +kernel
theorem dX10_gifts_95 : decode cX10_gifts 95 = .ok (.ireturn, 1) := by decide +kernel
theorem dX10_drought_0 : decode cX10_drought 0 = .ok (.iload_n 1, 1) := by decide +kernel
theorem dX10_drought_1 : decode cX10_drought 1 = .ok (.iconst 0, 1) := by decide +kernel
theorem dX10_drought_2 : decode cX10_drought 2 = .ok (.bipush 60, 2) := by decide +kernel
theorem dX10_drought_4 : decode cX10_drought 4 = .ok (.invokestatic 50, 3) := by decide +kernel
theorem dX10_drought_7 : decode cX10_drought 7 = .ok (.ifCond .ne 10, 3) := by decide +kernel
theorem dX10_drought_10 : decode cX10_drought 10 = .ok (.aload_n 0, 1) := by decide +kernel
theorem dX10_drought_11 : decode cX10_drought 11 = .ok (.bipush (-2), 2) := by decide +kernel
theorem dX10_drought_13 : decode cX10_drought 13 = .ok (.invokevirtual 54, 3) := by decide +kernel
theorem dX10_drought_16 : decode cX10_drought 16 = .ok (.ireturn, 1) := by decide +kernel
theorem dX10_drought_17 : decode cX10_drought 17 = .ok (.iconst (-1), 1) := by decide +kernel
theorem dX10_drought_18 : decode cX10_drought 18 = .ok (.istore_n 2, 1) := by decide +kernel
theorem dX10_drought_19 : decode cX10_drought 19 = .ok (.iconst 0, 1) := by decide +kernel
theorem dX10_drought_20 : decode cX10_drought 20 = .ok (.istore_n 3, 1) := by decide +kernel
theorem dX10_drought_21 : decode cX10_drought 21 = .ok (.iconst 0, 1) := by decide +kernel
theorem dX10_drought_22 : decode cX10_drought 22 = .ok (.istore 4, 2) := by decide +kernel
theorem dX10_drought_24 : decode cX10_drought 24 = .ok (.iload 4, 2) := by decide +kernel
theorem dX10_drought_26 : decode cX10_drought 26 = .ok (.bipush 12, 2) := by decide +kernel
theorem dX10_drought_28 : decode cX10_drought 28 = .ok (.if_icmp .ge 103, 3) := by decide +kernel
theorem dX10_drought_31 : decode cX10_drought 31 = .ok (.iconst 0, 1) := by decide +kernel
theorem dX10_drought_32 : decode cX10_drought 32 = .ok (.istore 5, 2) := by decide +kernel
theorem dX10_drought_34 : decode cX10_drought 34 = .ok (.iconst 0, 1) := by decide +kernel
theorem dX10_drought_35 : decode cX10_drought 35 = .ok (.istore 6, 2) := by decide +kernel
theorem dX10_drought_37 : decode cX10_drought 37 = .ok (.iload 6, 2) := by decide +kernel
theorem dX10_drought_39 : decode cX10_drought 39 = .ok (.aload_n 0, 1) := by decide +kernel
theorem dX10_drought_40 : decode cX10_drought 40 = .ok (.getfield 7, 3) := by decide +kernel
theorem dX10_drought_43 : decode cX10_drought 43 = .ok (.iconst 0, 1) := by decide +kernel
theorem dX10_drought_44 : decode cX10_drought 44 = .ok (.iaload, 1) := by decide +kernel
theorem dX10_drought_45 : decode cX10_drought 45 = .ok (.if_icmp .ge 50, 3) := by decide +kernel
theorem dX10_drought_48 : decode cX10_drought 48 = .ok (.iload 5, 2) := by decide +kernel
theorem dX10_drought_50 : decode cX10_drought 50 = .ok (.aload_n 0, 1) := by decide +kernel
theorem dX10_drought_51 : decode cX10_drought 51 = .ok (.aload_n 0, 1) := by decide +kernel
theorem dX10_drought_52 : decode cX10_drought 52 = .ok (.getfield 7, 3) := by decide +kernel
theorem dX10_drought_55 : decode cX10_drought 55 = .ok (.bipush 7, 2) := by decide +kernel
theorem dX10_drought_57 : decode cX10_drought 57 = .ok (.iload 6, 2) := by decide +kernel
theorem dX10_drought_59 : decode cX10_drought 59 = .ok (.iadd, 1) := by decide +kernel
theorem dX10_drought_60 : decode cX10_drought 60 = .ok (.iaload, 1) := by decide +kernel
theorem dX10_drought_61 : decode cX10_drought 61 = .ok (.aload_n 0, 1) := by decide +kernel
theorem dX10_drought_62 : decode cX10_drought 62 = .ok (.getfield 7, 3) := by decide +kernel
theorem dX10_drought_65 : decode cX10_drought 65 = .ok (.bipush 13, 2) := by decide +kernel
theorem dX10_drought_67 : decode cX10_drought 67 = .ok (.iload 6, 2) := by decide +kernel
theorem dX10_drought_69 : decode cX10_drought 69 = .ok (.iadd, 1) := by decide +kernel
theorem dX10_drought_70 : decode cX10_drought 70 = .ok (.iaload, 1) := by decide +kernel
theorem dX10_drought_71 : decode cX10_drought 71 = .ok (.iload_n 1, 1) := by decide +kernel
theorem dX10_drought_72 : decode cX10_drought 72 = .ok (.aload_n 0, 1) := by decide +kernel
theorem dX10_drought_73 : decode cX10_drought 73 = .ok (.getfield 7, 3) := by decide +kernel
theorem dX10_drought_76 : decode cX10_drought 76 = .ok (.iconst 4, 1) := by decide +kernel
theorem dX10_drought_77 : decode cX10_drought 77 = .ok (.iaload, 1) := by decide +kernel
theorem dX10_drought_78 : decode cX10_drought 78 = .ok (.iconst 1, 1) := by decide +kernel
theorem dX10_drought_79 : decode cX10_drought 79 = .ok (.iload 4, 2) := by decide +kernel
theorem dX10_drought_81 : decode cX10_drought 81 = .ok (.ishl, 1) := by decide +kernel
theorem dX10_drought_82 : decode cX10_drought 82 = .ok (.ior, 1) := by decide +kernel
theorem dX10_drought_83 : decode cX10_drought 83 = .ok (.invokevirtual 130, 3) := by decide +kernel
theorem dX10_drought_86 : decode cX10_drought 86 = .ok (.iadd, 1) := by decide +kernel
theorem dX10_drought_87 : decode cX10_drought 87 = .ok (.istore 5, 2) := by decide +kernel
theorem dX10_drought_89 : decode cX10_drought 89 = .ok (.iinc 6 1, 3) := by decide +kernel
theorem dX10_drought_92 : decode cX10_drought 92 = .ok (.goto (-55), 3) := by decide +kernel
theorem dX10_drought_95 : decode cX10_drought 95 = .ok (.aload_n 0, 1) := by decide +kernel
theorem dX10_drought_96 : decode cX10_drought 96 = .ok (.getfield 7, 3) := by decide +kernel
theorem dX10_drought_99 : decode cX10_drought 99 = .ok (.iconst 4, 1) := by decide +kernel
theorem dX10_drought_100 : decode cX10_drought 100 = .ok (.iaload, 1) := by decide +kernel
theorem dX10_drought_101 : decode cX10_drought 101 = .ok (.iload 4, 2) := by decide +kernel
theorem dX10_drought_103 : decode cX10_drought 103 = .ok (.invokestatic 123, 3) := by decide +kernel
theorem dX10_drought_106 : decode cX10_drought 106 = .ok (.ifCond .ne 19, 3) := by decide +kernel
theorem dX10_drought_109 : decode cX10_drought 109 = .ok (.iload_n 2, 1) := by decide +kernel
theorem dX10_drought_110 : decode cX10_drought 110 = .ok (.ifCond .lt 9, 3) := by decide +kernel
theorem dX10_drought_113 : decode cX10_drought 113 = .ok (.iload 5, 2) := by decide +kernel
theorem dX10_drought_115 : decode cX10_drought 115 = .ok (.iload_n 3, 1) := by decide +kernel
theorem dX10_drought_116 : decode cX10_drought 116 = .ok (.if_icmp .ge 9, 3) := by decide +kernel
theorem dX10_drought_119 : decode cX10_drought 119 = .ok (.iload 4, 2) := by decide +kernel
theorem dX10_drought_121 : decode cX10_drought 121 = .ok (.istore_n 2, 1) := by decide +kernel
theorem dX10_drought_122 : decode cX10_drought 122 = .ok (.iload 5, 2) := by decide +kernel
theorem dX10_drought_124 : decode cX10_drought 124 = .ok (.istore_n 3, 1) := by decide +kernel
theorem dX10_drought_125 : decode cX10_drought 125 = .ok (.iinc 4 1, 3) := by decide +kernel
theorem dX10_drought_128 : decode cX10_drought 128 = .ok (.goto (-104), 3) := by decide +kernel
theorem dX10_drought_131 : decode cX10_drought 131 = .ok (.iload_n 2, 1) := by decide +kernel
theorem dX10_drought_132 : decode cX10_drought 132 = .ok (.ireturn, 1) := by decide +kernel
theorem dX10_counted_0 : decode cX10_counted 0 = .ok (.aload_n 0, 1) := by decide +kernel
theorem dX10_counted_1 : decode cX10_counted 1 = .ok (.iload_n 1, 1) := by decide +kernel
theorem dX10_counted_2 : decode cX10_counted 2 = .ok (.invokevirtual 141, 3) := by decide +kernel
theorem dX10_counted_5 : decode cX10_counted 5 = .ok (.ifCond .eq 23, 3) := by decide +kernel
theorem dX10_counted_8 : decode cX10_counted 8 = .ok (.iload_n 2, 1) := by decide +kernel
theorem dX10_counted_9 : decode cX10_counted 9 = .ok (.iconst 0, 1) := by decide +kernel
theorem dX10_counted_10 : decode cX10_counted 10 = .ok (.bipush 60, 2) := by decide +kernel
theorem dX10_counted_12 : decode cX10_counted 12 = .ok (.invokestatic 50, 3) := by decide +kernel
theorem dX10_counted_15 : decode cX10_counted 15 = .ok (.ifCond .eq 13, 3) := by decide +kernel
theorem dX10_counted_18 : decode cX10_counted 18 = .ok (.iload_n 3, 1) := by decide +kernel
theorem dX10_counted_19 : decode cX10_counted 19 = .ok (.iconst 0, 1) := by decide +kernel
theorem dX10_counted_20 : decode cX10_counted 20 = .ok (.bipush 60, 2) := by decide +kernel
theorem dX10_counted_22 : decode cX10_counted 22 = .ok (.invokestatic 50, 3) := by decide +kernel
theorem dX10_counted_25 : decode cX10_counted 25 = .ok (.ifCond .ne 10, 3) := by decide +kernel
theorem dX10_counted_28 : decode cX10_counted 28 = .ok (.aload_n 0, 1) := by decide +kernel
theorem dX10_counted_29 : decode cX10_counted 29 = .ok (.bipush (-2), 2) := by decide +kernel
theorem dX10_counted_31 : decode cX10_counted 31 = .ok (.invokevirtual 54, 3) := by decide +kernel
theorem dX10_counted_34 : decode cX10_counted 34 = .ok (.ireturn, 1) := by decide +kernel
theorem dX10_counted_35 : decode cX10_counted 35 = .ok (.aload_n 0, 1) := by decide +kernel
theorem dX10_counted_36 : decode cX10_counted 36 = .ok (.getfield 7, 3) := by decide +kernel
theorem dX10_counted_39 : decode cX10_counted 39 = .ok (.iconst 5, 1) := by decide +kernel
theorem dX10_counted_40 : decode cX10_counted 40 = .ok (.iaload, 1) := by decide +kernel
theorem dX10_counted_41 : decode cX10_counted 41 = .ok (.bipush 8, 2) := by decide +kernel
theorem dX10_counted_43 : decode cX10_counted 43 = .ok (.if_icmp .ne 10, 3) := by decide +kernel
theorem dX10_counted_46 : decode cX10_counted 46 = .ok (.aload_n 0, 1) := by decide +kernel
theorem dX10_counted_47 : decode cX10_counted 47 = .ok (.bipush (-4), 2) := by decide +kernel
theorem dX10_counted_49 : decode cX10_counted 49 = .ok (.invokevirtual 54, 3) := by decide +kernel
theorem dX10_counted_52 : decode cX10_counted 52 = .ok (.ireturn, 1) := by decide +kernel
theorem dX10_counted_53 : decode cX10_counted 53 = .ok (.bipush 39, 2) := by decide +kernel
theorem dX10_counted_55 : decode cX10_counted 55 = .ok (.iconst 3, 1) := by decide +kernel
theorem dX10_counted_56 : decode cX10_counted 56 = .ok (.aload_n 0, 1) := by decide +kernel
theorem dX10_counted_57 : decode cX10_counted 57 = .ok (.getfield 7, 3) := by decide +kernel
theorem dX10_counted_60 : decode cX10_counted 60 = .ok (.iconst 5, 1) := by decide +kernel
theorem dX10_counted_61 : decode cX10_counted 61 = .ok (.iaload, 1) := by decide +kernel
theorem dX10_counted_62 : decode cX10_counted 62 = .ok (.imul, 1) := by decide +kernel
theorem dX10_counted_63 : decode cX10_counted 63 = .ok (.iadd, 1) := by decide +kernel
theorem dX10_counted_64 : decode cX10_counted 64 = .ok (.istore 4, 2) := by decide +kernel
theorem dX10_counted_66 : decode cX10_counted 66 = .ok (.aload_n 0, 1) := by decide +kernel
theorem dX10_counted_67 : decode cX10_counted 67 = .ok (.getfield 7, 3) := by decide +kernel
theorem dX10_counted_70 : decode cX10_counted 70 = .ok (.iload 4, 2) := by decide +kernel
theorem dX10_counted_72 : decode cX10_counted 72 = .ok (.iload_n 1, 1) := by decide +kernel
theorem dX10_counted_73 : decode cX10_counted 73 = .ok (.iastore, 1) := by decide +kernel
theorem dX10_counted_74 : decode cX10_counted 74 = .ok (.aload_n 0, 1) := by decide +kernel
theorem dX10_counted_75 : decode cX10_counted 75 = .ok (.getfield 7, 3) := by decide +kernel
theorem dX10_counted_78 : decode cX10_counted 78 = .ok (.iload 4, 2) := by decide +kernel
theorem dX10_counted_80 : decode cX10_counted 80 = .ok (.iconst 1, 1) := by decide +kernel
theorem dX10_counted_81 : decode cX10_counted 81 = .ok (.iadd, 1) := by decide +kernel
theorem dX10_counted_82 : decode cX10_counted 82 = .ok (.iload_n 2, 1) := by decide +kernel
theorem dX10_counted_83 : decode cX10_counted 83 = .ok (.iastore, 1) := by decide +kernel
theorem dX10_counted_84 : decode cX10_counted 84 = .ok (.aload_n 0, 1) := by decide +kernel
theorem dX10_counted_85 : decode cX10_counted 85 = .ok (.getfield 7, 3) := by decide +kernel
theorem dX10_counted_88 : decode cX10_counted 88 = .ok (.iload 4, 2) := by decide +kernel
theorem dX10_counted_90 : decode cX10_counted 90 = .ok (.iconst 2, 1) := by decide +kernel
theorem dX10_counted_91 : decode cX10_counted 91 = .ok (.iadd, 1) := by decide +kernel
theorem dX10_counted_92 : decode cX10_counted 92 = .ok (.iload_n 3, 1) := by decide +kernel
theorem dX10_counted_93 : decode cX10_counted 93 = .ok (.iastore, 1) := by decide +kernel
theorem dX10_counted_94 : decode cX10_counted 94 = .ok (.aload_n 0, 1) := by decide +kernel
theorem dX10_counted_95 : decode cX10_counted 95 = .ok (.getfield 7, 3) := by decide +kernel
theorem dX10_counted_98 : decode cX10_counted 98 = .ok (.iconst 5, 1) := by decide +kernel
theorem dX10_counted_99 : decode cX10_counted 99 = .ok (.dup2, 1) := by decide +kernel
theorem dX10_counted_100 : decode cX10_counted 100 = .ok (.iaload, 1) := by decide +kernel
theorem dX10_counted_101 : decode cX10_counted 101 = .ok (.iconst 1, 1) := by decide +kernel
theorem dX10_counted_102 : decode cX10_counted 102 = .ok (.iadd, 1) := by decide +kernel
theorem dX10_counted_103 : decode cX10_counted 103 = .ok (.iastore, 1) := by decide +kernel
theorem dX10_counted_104 : decode cX10_counted 104 = .ok (.aload_n 0, 1) := by decide +kernel
theorem dX10_counted_105 : decode cX10_counted 105 = .ok (.getfield 7, 3) := by decide +kernel
theorem dX10_counted_108 : decode cX10_counted 108 = .ok (.iconst 5, 1) := by decide +kernel
theorem dX10_counted_109 : decode cX10_counted 109 = .ok (.iaload, 1) := by decide +kernel
theorem dX10_counted_110 : decode cX10_counted 110 = .ok (.ireturn, 1) := by decide +kernel
theorem dX10_forget_0 : decode cX10_forget 0 = .ok (.aload_n 0, 1) := by decide +kernel
theorem dX10_forget_1 : decode cX10_forget 1 = .ok (.getfield 7, 3) := by decide +kernel
theorem dX10_forget_4 : decode cX10_forget 4 = .ok (.iconst 5, 1) := by decide +kernel
theorem dX10_forget_5 : decode cX10_forget 5 = .ok (.iaload, 1) := by decide +kernel
theorem dX10_forget_6 : decode cX10_forget 6 = .ok (.istore_n 1, 1) := by decide +kernel
theorem dX10_forget_7 : decode cX10_forget 7 = .ok (.aload_n 0, 1) := by decide +kernel
theorem dX10_forget_8 : decode cX10_forget 8 = .ok (.getfield 7, 3) := by decide +kernel
theorem dX10_forget_11 : decode cX10_forget 11 = .ok (.iconst 5, 1) := by decide +kernel
theorem dX10_forget_12 : decode cX10_forget 12 = .ok (.iconst 0, 1) := by decide +kernel
theorem dX10_forget_13 : decode cX10_forget 13 = .ok (.iastore, 1) := by decide +kernel
theorem dX10_forget_14 : decode cX10_forget 14 = .ok (.iload_n 1, 1) := by decide +kernel
theorem dX10_forget_15 : decode cX10_forget 15 = .ok (.ireturn, 1) := by decide +kernel
theorem dX10_kindsOf_0 : decode cX10_kindsOf 0 = .ok (.iconst 0, 1) := by decide +kernel
theorem dX10_kindsOf_1 : decode cX10_kindsOf 1 = .ok (.istore_n 2, 1) := by decide +kernel
theorem dX10_kindsOf_2 : decode cX10_kindsOf 2 = .ok (.iconst 0, 1) := by decide +kernel
theorem dX10_kindsOf_3 : decode cX10_kindsOf 3 = .ok (.istore_n 3, 1) := by decide +kernel
theorem dX10_kindsOf_4 : decode cX10_kindsOf 4 = .ok (.iload_n 3, 1) := by decide +kernel
theorem dX10_kindsOf_5 : decode cX10_kindsOf 5 = .ok (.bipush 6, 2) := by decide +kernel
theorem dX10_kindsOf_7 : decode cX10_kindsOf 7 = .ok (.if_icmp .ge 120, 3) := by decide +kernel
theorem dX10_kindsOf_10 : decode cX10_kindsOf 10 = .ok (.iconst 1, 1) := by decide +kernel
theorem dX10_kindsOf_11 : decode cX10_kindsOf 11 = .ok (.istore 4, 2) := by decide +kernel
theorem dX10_kindsOf_13 : decode cX10_kindsOf 13 = .ok (.iconst 0, 1) := by decide +kernel
theorem dX10_kindsOf_14 : decode cX10_kindsOf 14 = .ok (.istore 5, 2) := by decide +kernel
theorem dX10_kindsOf_16 : decode cX10_kindsOf 16 = .ok (.iload 5, 2) := by decide +kernel
theorem dX10_kindsOf_18 : decode cX10_kindsOf 18 = .ok (.aload_n 0, 1) := by decide +kernel
theorem dX10_kindsOf_19 : decode cX10_kindsOf 19 = .ok (.getfield 7, 3) := by decide +kernel
theorem dX10_kindsOf_22 : decode cX10_kindsOf 22 = .ok (.iconst 5, 1) := by decide +kernel
theorem dX10_kindsOf_23 : decode cX10_kindsOf 23 = .ok (.iaload, 1) := by decide +kernel
theorem dX10_kindsOf_24 : decode cX10_kindsOf 24 = .ok (.if_icmp .ge 82, 3) := by decide +kernel
theorem dX10_kindsOf_27 : decode cX10_kindsOf 27 = .ok (.bipush 39, 2) := by decide +kernel
theorem dX10_kindsOf_29 : decode cX10_kindsOf 29 = .ok (.iconst 3, 1) := by decide +kernel
theorem dX10_kindsOf_30 : decode cX10_kindsOf 30 = .ok (.iload 5, 2) := by decide +kernel
theorem dX10_kindsOf_32 : decode cX10_kindsOf 32 = .ok (.imul, 1) := by decide +kernel
theorem dX10_kindsOf_33 : decode cX10_kindsOf 33 = .ok (.iadd, 1) := by decide +kernel
theorem dX10_kindsOf_34 : decode cX10_kindsOf 34 = .ok (.istore 6, 2) := by decide +kernel
theorem dX10_kindsOf_36 : decode cX10_kindsOf 36 = .ok (.iload 4, 2) := by decide +kernel
theorem dX10_kindsOf_38 : decode cX10_kindsOf 38 = .ok (.ifCond .eq 59, 3) := by decide +kernel
theorem dX10_kindsOf_41 : decode cX10_kindsOf 41 = .ok (.aload_n 0, 1) := by decide +kernel
theorem dX10_kindsOf_42 : decode cX10_kindsOf 42 = .ok (.getfield 7, 3) := by decide +kernel
theorem dX10_kindsOf_45 : decode cX10_kindsOf 45 = .ok (.iload 6, 2) := by decide +kernel
theorem dX10_kindsOf_47 : decode cX10_kindsOf 47 = .ok (.iaload, 1) := by decide +kernel
theorem dX10_kindsOf_48 : decode cX10_kindsOf 48 = .ok (.iload_n 1, 1) := by decide +kernel
theorem dX10_kindsOf_49 : decode cX10_kindsOf 49 = .ok (.if_icmp .ne 44, 3) := by decide +kernel
theorem dX10_kindsOf_52 : decode cX10_kindsOf 52 = .ok (.aload_n 0, 1) := by decide +kernel
theorem dX10_kindsOf_53 : decode cX10_kindsOf 53 = .ok (.iload_n 3, 1) := by decide +kernel
theorem dX10_kindsOf_54 : decode cX10_kindsOf 54 = .ok (.aload_n 0, 1) := by decide +kernel
theorem dX10_kindsOf_55 : decode cX10_kindsOf 55 = .ok (.getfield 7, 3) := by decide +kernel
theorem dX10_kindsOf_58 : decode cX10_kindsOf 58 = .ok (.bipush 13, 2) := by decide +kernel
theorem dX10_kindsOf_60 : decode cX10_kindsOf 60 = .ok (.iload_n 1, 1) := by decide +kernel
theorem dX10_kindsOf_61 : decode cX10_kindsOf 61 = .ok (.iadd, 1) := by decide +kernel
theorem dX10_kindsOf_62 : decode cX10_kindsOf 62 = .ok (.iaload, 1) := by decide +kernel
theorem dX10_kindsOf_63 : decode cX10_kindsOf 63 = .ok (.aload_n 0, 1) := by decide +kernel
theorem dX10_kindsOf_64 : decode cX10_kindsOf 64 = .ok (.getfield 7, 3) := by decide +kernel
theorem dX10_kindsOf_67 : decode cX10_kindsOf 67 = .ok (.iload 6, 2) := by decide +kernel
theorem dX10_kindsOf_69 : decode cX10_kindsOf 69 = .ok (.iconst 1, 1) := by decide +kernel
theorem dX10_kindsOf_70 : decode cX10_kindsOf 70 = .ok (.iadd, 1) := by decide +kernel
theorem dX10_kindsOf_71 : decode cX10_kindsOf 71 = .ok (.iaload, 1) := by decide +kernel
theorem dX10_kindsOf_72 : decode cX10_kindsOf 72 = .ok (.aload_n 0, 1) := by decide +kernel
theorem dX10_kindsOf_73 : decode cX10_kindsOf 73 = .ok (.getfield 7, 3) := by decide +kernel
theorem dX10_kindsOf_76 : decode cX10_kindsOf 76 = .ok (.iconst 4, 1) := by decide +kernel
theorem dX10_kindsOf_77 : decode cX10_kindsOf 77 = .ok (.iaload, 1) := by decide +kernel
theorem dX10_kindsOf_78 : decode cX10_kindsOf 78 = .ok (.invokevirtual 130, 3) := by decide +kernel
theorem dX10_kindsOf_81 : decode cX10_kindsOf 81 = .ok (.aload_n 0, 1) := by decide +kernel
theorem dX10_kindsOf_82 : decode cX10_kindsOf 82 = .ok (.getfield 7, 3) := by decide +kernel
theorem dX10_kindsOf_85 : decode cX10_kindsOf 85 = .ok (.iload 6, 2) := by decide +kernel
theorem dX10_kindsOf_87 : decode cX10_kindsOf 87 = .ok (.iconst 2, 1) := by decide +kernel
theorem dX10_kindsOf_88 : decode cX10_kindsOf 88 = .ok (.iadd, 1) := by decide +kernel
theorem dX10_kindsOf_89 : decode cX10_kindsOf 89 = .ok (.iaload, 1) := by decide +kernel
theorem dX10_kindsOf_90 : decode cX10_kindsOf 90 = .ok (.if_icmp .ne 7, 3) := by decide +kernel
theorem dX10_kindsOf_93 : decode cX10_kindsOf 93 = .ok (.iconst 1, 1) := by decide +kernel
theorem dX10_kindsOf_94 : decode cX10_kindsOf 94 = .ok (.goto 4, 3) := by decide +kernel
theorem dX10_kindsOf_97 : decode cX10_kindsOf 97 = .ok (.iconst 0, 1) := by decide +kernel
theorem dX10_kindsOf_98 : decode cX10_kindsOf 98 = .ok (.istore 4, 2) := by decide +kernel
theorem dX10_kindsOf_100 : decode cX10_kindsOf 100 = .ok (.iinc 5 1, 3) := by decide +kernel
theorem dX10_kindsOf_103 : decode cX10_kindsOf 103 = .ok (.goto (-87), 3) := by decide +kernel
theorem dX10_kindsOf_106 : decode cX10_kindsOf 106 = .ok (.iload_n 2, 1) := by decide +kernel
theorem dX10_kindsOf_107 : decode cX10_kindsOf 107 = .ok (.iload 4, 2) := by decide +kernel
theorem dX10_kindsOf_109 : decode cX10_kindsOf 109 = .ok (.ifCond .eq 9, 3) := by decide +kernel
theorem dX10_kindsOf_112 : decode cX10_kindsOf 112 = .ok (.iconst 1, 1) := by decide +kernel
theorem dX10_kindsOf_113 : decode cX10_kindsOf 113 = .ok (.iload_n 3, 1) := by decide +kernel
theorem dX10_kindsOf_114 : decode cX10_kindsOf 114 = .ok (.ishl, 1) := by decide +kernel
theorem dX10_kindsOf_115 : decode cX10_kindsOf 115 = .ok (.goto 4, 3) := by decide +kernel
theorem dX10_kindsOf_118 : decode cX10_kindsOf 118 = .ok (.iconst 0, 1) := by decide +kernel
theorem dX10_kindsOf_119 : decode cX10_kindsOf 119 = .ok (.ior, 1) := by decide +kernel
theorem dX10_kindsOf_120 : decode cX10_kindsOf 120 = .ok (.istore_n 2, 1) := by decide +kernel
theorem dX10_kindsOf_121 : decode cX10_kindsOf 121 = .ok (.iinc 3 1, 3) := by decide +kernel
theorem dX10_kindsOf_124 : decode cX10_kindsOf 124 = .ok (.goto (-120), 3) := by decide +kernel
theorem dX10_kindsOf_127 : decode cX10_kindsOf 127 = .ok (.iload_n 2, 1) := by decide +kernel
theorem dX10_kindsOf_128 : decode cX10_kindsOf 128 = .ok (.ireturn, 1) := by decide +kernel
theorem dX10_is_0 : decode cX10_is 0 = .ok (.aload_n 0, 1) := by decide +kernel
theorem dX10_is_1 : decode cX10_is 1 = .ok (.iload_n 1, 1) := by decide +kernel
theorem dX10_is_2 : decode cX10_is 2 = .ok (.invokevirtual 141, 3) := by decide +kernel
theorem dX10_is_5 : decode cX10_is 5 = .ok (.ifCond .eq 11, 3) := by decide +kernel
theorem dX10_is_8 : decode cX10_is 8 = .ok (.aload_n 0, 1) := by decide +kernel
theorem dX10_is_9 : decode cX10_is 9 = .ok (.iload_n 1, 1) := by decide +kernel
theorem dX10_is_10 : decode cX10_is 10 = .ok (.invokevirtual 161, 3) := by decide +kernel
theorem dX10_is_13 : decode cX10_is 13 = .ok (.goto 9, 3) := by decide +kernel
theorem dX10_is_16 : decode cX10_is 16 = .ok (.aload_n 0, 1) := by decide +kernel
theorem dX10_is_17 : decode cX10_is 17 = .ok (.bipush (-2), 2) := by decide +kernel
theorem dX10_is_19 : decode cX10_is 19 = .ok (.invokevirtual 54, 3) := by decide +kernel
theorem dX10_is_22 : decode cX10_is 22 = .ok (.ireturn, 1) := by decide +kernel
theorem dX10_next_0 : decode cX10_next 0 = .ok (.aload_n 0, 1) := by decide +kernel
theorem dX10_next_1 : decode cX10_next 1 = .ok (.iload_n 1, 1) := by decide +kernel
theorem dX10_next_2 : decode cX10_next 2 = .ok (.invokevirtual 141, 3) := by decide +kernel
theorem dX10_next_5 : decode cX10_next 5 = .ok (.ifCond .ne 10, 3) := by decide +kernel
theorem dX10_next_8 : decode cX10_next 8 = .ok (.aload_n 0, 1) := by decide +kernel
theorem dX10_next_9 : decode cX10_next 9 = .ok (.bipush (-2), 2) := by decide +kernel
theorem dX10_next_11 : decode cX10_next 11 = .ok (.invokevirtual 54, 3) := by decide +kernel
theorem dX10_next_14 : decode cX10_next 14 = .ok (.ireturn, 1) := by decide +kernel
theorem dX10_next_15 : decode cX10_next 15 = .ok (.aload_n 0, 1) := by decide +kernel
theorem dX10_next_16 : decode cX10_next 16 = .ok (.iload_n 1, 1) := by decide +kernel
theorem dX10_next_17 : decode cX10_next 17 = .ok (.invokevirtual 161, 3) := by decide +kernel
theorem dX10_next_20 : decode cX10_next 20 = .ok (.istore_n 2, 1) := by decide +kernel
theorem dX10_next_21 : decode cX10_next 21 = .ok (.iconst (-1), 1) := by decide +kernel
theorem dX10_next_22 : decode cX10_next 22 = .ok (.istore_n 3, 1) := by decide +kernel
theorem dX10_next_23 : decode cX10_next 23 = .ok (.bipush 9, 2) := by decide +kernel
theorem dX10_next_25 : decode cX10_next 25 = .ok (.istore 4, 2) := by decide +kernel
theorem dX10_next_27 : decode cX10_next 27 = .ok (.iconst 0, 1) := by decide +kernel
theorem dX10_next_28 : decode cX10_next 28 = .ok (.istore 5, 2) := by decide +kernel
theorem dX10_next_30 : decode cX10_next 30 = .ok (.iload 5, 2) := by decide +kernel
theorem dX10_next_32 : decode cX10_next 32 = .ok (.bipush 60, 2) := by decide +kernel
theorem dX10_next_34 : decode cX10_next 34 = .ok (.if_icmp .gt 178, 3) := by decide +kernel
theorem dX10_next_37 : decode cX10_next 37 = .ok (.iload_n 2, 1) := by decide +kernel
theorem dX10_next_38 : decode cX10_next 38 = .ok (.ifCond .eq 174, 3) := by decide +kernel
theorem dX10_next_41 : decode cX10_next 41 = .ok (.iconst 0, 1) := by decide +kernel
theorem dX10_next_42 : decode cX10_next 42 = .ok (.istore 6, 2) := by decide +kernel
theorem dX10_next_44 : decode cX10_next 44 = .ok (.iconst 0, 1) := by decide +kernel
theorem dX10_next_45 : decode cX10_next 45 = .ok (.istore 7, 2) := by decide +kernel
theorem dX10_next_47 : decode cX10_next 47 = .ok (.iload 7, 2) := by decide +kernel
theorem dX10_next_49 : decode cX10_next 49 = .ok (.bipush 6, 2) := by decide +kernel
theorem dX10_next_51 : decode cX10_next 51 = .ok (.if_icmp .ge 125, 3) := by decide +kernel
theorem dX10_next_54 : decode cX10_next 54 = .ok (.iconst 0, 1) := by decide +kernel
theorem dX10_next_55 : decode cX10_next 55 = .ok (.istore 8, 2) := by decide +kernel
theorem dX10_next_57 : decode cX10_next 57 = .ok (.aload_n 0, 1) := by decide +kernel
theorem dX10_next_58 : decode cX10_next 58 = .ok (.iload 7, 2) := by decide +kernel
theorem dX10_next_60 : decode cX10_next 60 = .ok (.aload_n 0, 1) := by decide +kernel
theorem dX10_next_61 : decode cX10_next 61 = .ok (.getfield 7, 3) := by decide +kernel
theorem dX10_next_64 : decode cX10_next 64 = .ok (.bipush 13, 2) := by decide +kernel
theorem dX10_next_66 : decode cX10_next 66 = .ok (.iload_n 1, 1) := by decide +kernel
theorem dX10_next_67 : decode cX10_next 67 = .ok (.iadd, 1) := by decide +kernel
theorem dX10_next_68 : decode cX10_next 68 = .ok (.iaload, 1) := by decide +kernel
theorem dX10_next_69 : decode cX10_next 69 = .ok (.iload 5, 2) := by decide +kernel
theorem dX10_next_71 : decode cX10_next 71 = .ok (.aload_n 0, 1) := by decide +kernel
theorem dX10_next_72 : decode cX10_next 72 = .ok (.getfield 7, 3) := by decide +kernel
theorem dX10_next_75 : decode cX10_next 75 = .ok (.iconst 4, 1) := by decide +kernel
theorem dX10_next_76 : decode cX10_next 76 = .ok (.iaload, 1) := by decide +kernel
theorem dX10_next_77 : decode cX10_next 77 = .ok (.invokevirtual 130, 3) := by decide +kernel
theorem dX10_next_80 : decode cX10_next 80 = .ok (.istore 9, 2) := by decide +kernel
theorem dX10_next_82 : decode cX10_next 82 = .ok (.iconst 0, 1) := by decide +kernel
theorem dX10_next_83 : decode cX10_next 83 = .ok (.istore 10, 2) := by decide +kernel
theorem dX10_next_85 : decode cX10_next 85 = .ok (.iload 10, 2) := by decide +kernel
theorem dX10_next_87 : decode cX10_next 87 = .ok (.bipush 6, 2) := by decide +kernel
theorem dX10_next_89 : decode cX10_next 89 = .ok (.if_icmp .ge 65, 3) := by decide +kernel
theorem dX10_next_92 : decode cX10_next 92 = .ok (.iload 8, 2) := by decide +kernel
theorem dX10_next_94 : decode cX10_next 94 = .ok (.iload_n 2, 1) := by decide +kernel
theorem dX10_next_95 : decode cX10_next 95 = .ok (.iload 7, 2) := by decide +kernel
theorem dX10_next_97 : decode cX10_next 97 = .ok (.invokestatic 123, 3) := by decide +kernel
theorem dX10_next_100 : decode cX10_next 100 = .ok (.ifCond .eq 44, 3) := by decide +kernel
theorem dX10_next_103 : decode cX10_next 103 = .ok (.iload_n 2, 1) := by decide +kernel
theorem dX10_next_104 : decode cX10_next 104 = .ok (.iload 10, 2) := by decide +kernel
theorem dX10_next_106 : decode cX10_next 106 = .ok (.invokestatic 123, 3) := by decide +kernel
theorem dX10_next_109 : decode cX10_next 109 = .ok (.ifCond .eq 35, 3) := by decide +kernel
theorem dX10_next_112 : decode cX10_next 112 = .ok (.aload_n 0, 1) := by decide +kernel
theorem dX10_next_113 : decode cX10_next 113 = .ok (.iload 10, 2) := by decide +kernel
theorem dX10_next_115 : decode cX10_next 115 = .ok (.aload_n 0, 1) := by decide +kernel
theorem dX10_next_116 : decode cX10_next 116 = .ok (.getfield 7, 3) := by decide +kernel
theorem dX10_next_119 : decode cX10_next 119 = .ok (.bipush 13, 2) := by decide +kernel
theorem dX10_next_121 : decode cX10_next 121 = .ok (.iload_n 1, 1) := by decide +kernel
theorem dX10_next_122 : decode cX10_next 122 = .ok (.iadd, 1) := by decide +kernel
theorem dX10_next_123 : decode cX10_next 123 = .ok (.iaload, 1) := by decide +kernel
theorem dX10_next_124 : decode cX10_next 124 = .ok (.iload 5, 2) := by decide +kernel
theorem dX10_next_126 : decode cX10_next 126 = .ok (.aload_n 0, 1) := by decide +kernel
theorem dX10_next_127 : decode cX10_next 127 = .ok (.getfield 7, 3) := by decide +kernel
theorem dX10_next_130 : decode cX10_next 130 = .ok (.iconst 4, 1) := by decide +kernel
theorem dX10_next_131 : decode cX10_next 131 = .ok (.iaload, 1) := by decide +kernel
theorem dX10_next_132 : decode cX10_next 132 = .ok (.invokevirtual 130, 3) := by decide +kernel
theorem dX10_next_135 : decode cX10_next 135 = .ok (.iload 9, 2) := by decide +kernel
theorem dX10_next_137 : decode cX10_next 137 = .ok (.if_icmp .ne 7, 3) := by decide +kernel
theorem dX10_next_140 : decode cX10_next 140 = .ok (.iconst 1, 1) := by decide +kernel
theorem dX10_next_141 : decode cX10_next 141 = .ok (.goto 4, 3) := by decide +kernel
theorem dX10_next_144 : decode cX10_next 144 = .ok (.iconst 0, 1) := by decide +kernel
theorem dX10_next_145 : decode cX10_next 145 = .ok (.iadd, 1) := by decide +kernel
theorem dX10_next_146 : decode cX10_next 146 = .ok (.istore 8, 2) := by decide +kernel
theorem dX10_next_148 : decode cX10_next 148 = .ok (.iinc 10 1, 3) := by decide +kernel
theorem dX10_next_151 : decode cX10_next 151 = .ok (.goto (-66), 3) := by decide +kernel
theorem dX10_next_154 : decode cX10_next 154 = .ok (.iload 8, 2) := by decide +kernel
theorem dX10_next_156 : decode cX10_next 156 = .ok (.iload 6, 2) := by decide +kernel
theorem dX10_next_158 : decode cX10_next 158 = .ok (.if_icmp .le 8, 3) := by decide +kernel
theorem dX10_next_161 : decode cX10_next 161 = .ok (.iload 8, 2) := by decide +kernel
theorem dX10_next_163 : decode cX10_next 163 = .ok (.goto 5, 3) := by decide +kernel
theorem dX10_next_166 : decode cX10_next 166 = .ok (.iload 6, 2) := by decide +kernel
theorem dX10_next_168 : decode cX10_next 168 = .ok (.istore 6, 2) := by decide +kernel
theorem dX10_next_170 : decode cX10_next 170 = .ok (.iinc 7 1, 3) := by decide +kernel
theorem dX10_next_173 : decode cX10_next 173 = .ok (.goto (-126), 3) := by decide +kernel
theorem dX10_next_176 : decode cX10_next 176 = .ok (.iload 6, 2) := by decide +kernel
theorem dX10_next_178 : decode cX10_next 178 = .ok (.iload 4, 2) := by decide +kernel
theorem dX10_next_180 : decode cX10_next 180 = .ok (.if_icmp .ge 8, 3) := by decide +kernel
theorem dX10_next_183 : decode cX10_next 183 = .ok (.iload 5, 2) := by decide +kernel
theorem dX10_next_185 : decode cX10_next 185 = .ok (.goto 4, 3) := by decide +kernel
theorem dX10_next_188 : decode cX10_next 188 = .ok (.iload_n 3, 1) := by decide +kernel
theorem dX10_next_189 : decode cX10_next 189 = .ok (.istore_n 3, 1) := by decide +kernel
theorem dX10_next_190 : decode cX10_next 190 = .ok (.iload 6, 2) := by decide +kernel
theorem dX10_next_192 : decode cX10_next 192 = .ok (.iload 4, 2) := by decide +kernel
theorem dX10_next_194 : decode cX10_next 194 = .ok (.if_icmp .ge 8, 3) := by decide +kernel
theorem dX10_next_197 : decode cX10_next 197 = .ok (.iload 6, 2) := by decide +kernel
theorem dX10_next_199 : decode cX10_next 199 = .ok (.goto 5, 3) := by decide +kernel
theorem dX10_next_202 : decode cX10_next 202 = .ok (.iload 4, 2) := by decide +kernel
theorem dX10_next_204 : decode cX10_next 204 = .ok (.istore 4, 2) := by decide +kernel
theorem dX10_next_206 : decode cX10_next 206 = .ok (.iinc 5 1, 3) := by decide +kernel
theorem dX10_next_209 : decode cX10_next 209 = .ok (.goto (-179), 3) := by decide +kernel
theorem dX10_next_212 : decode cX10_next 212 = .ok (.iload_n 3, 1) := by decide +kernel
theorem dX10_next_213 : decode cX10_next 213 = .ok (.ireturn, 1) := by decide +kernel
theorem dX10_isSo_0 : decode cX10_isSo 0 = .ok (.iconst 1, 1) := by decide +kernel
theorem dX10_isSo_1 : decode cX10_isSo 1 = .ok (.istore_n 2, 1) := by decide +kernel
theorem dX10_isSo_2 : decode cX10_isSo 2 = .ok (.iconst 0, 1) := by decide +kernel
theorem dX10_isSo_3 : decode cX10_isSo 3 = .ok (.istore_n 3, 1) := by decide +kernel
theorem dX10_isSo_4 : decode cX10_isSo 4 = .ok (.iload_n 3, 1) := by decide +kernel
theorem dX10_isSo_5 : decode cX10_isSo 5 = .ok (.aload_n 0, 1) := by decide +kernel
theorem dX10_isSo_6 : decode cX10_isSo 6 = .ok (.getfield 7, 3) := by decide +kernel
theorem dX10_isSo_9 : decode cX10_isSo 9 = .ok (.iconst 5, 1) := by decide +kernel
theorem dX10_isSo_10 : decode cX10_isSo 10 = .ok (.iaload, 1) := by decide +kernel
theorem dX10_isSo_11 : decode cX10_isSo 11 = .ok (.if_icmp .ge 160, 3) := by decide +kernel
theorem dX10_isSo_14 : decode cX10_isSo 14 = .ok (.bipush 39, 2) := by decide +kernel
theorem dX10_isSo_16 : decode cX10_isSo 16 = .ok (.iconst 3, 1) := by decide +kernel
theorem dX10_isSo_17 : decode cX10_isSo 17 = .ok (.iload_n 3, 1) := by decide +kernel
theorem dX10_isSo_18 : decode cX10_isSo 18 = .ok (.imul, 1) := by decide +kernel
theorem dX10_isSo_19 : decode cX10_isSo 19 = .ok (.iadd, 1) := by decide +kernel
theorem dX10_isSo_20 : decode cX10_isSo 20 = .ok (.istore 4, 2) := by decide +kernel
theorem dX10_isSo_22 : decode cX10_isSo 22 = .ok (.aload_n 0, 1) := by decide +kernel
theorem dX10_isSo_23 : decode cX10_isSo 23 = .ok (.getfield 7, 3) := by decide +kernel
theorem dX10_isSo_26 : decode cX10_isSo 26 = .ok (.iload 4, 2) := by decide +kernel
theorem dX10_isSo_28 : decode cX10_isSo 28 = .ok (.iaload, 1) := by decide +kernel
theorem dX10_isSo_29 : decode cX10_isSo 29 = .ok (.istore 5, 2) := by decide +kernel
theorem dX10_isSo_31 : decode cX10_isSo 31 = .ok (.aload_n 0, 1) := by decide +kernel
theorem dX10_isSo_32 : decode cX10_isSo 32 = .ok (.getfield 33, 3) := by decide +kernel
theorem dX10_isSo_35 : decode cX10_isSo 35 = .ok (.iload 5, 2) := by decide +kernel
theorem dX10_isSo_37 : decode cX10_isSo 37 = .ok (.iaload, 1) := by decide +kernel
theorem dX10_isSo_38 : decode cX10_isSo 38 = .ok (.istore 6, 2) := by decide +kernel
theorem dX10_isSo_40 : decode cX10_isSo 40 = .ok (.iconst 0, 1) := by decide +kernel
theorem dX10_isSo_41 : decode cX10_isSo 41 = .ok (.istore 7, 2) := by decide +kernel
theorem dX10_isSo_43 : decode cX10_isSo 43 = .ok (.iload 7, 2) := by decide +kernel
theorem dX10_isSo_45 : decode cX10_isSo 45 = .ok (.aload_n 0, 1) := by decide +kernel
theorem dX10_isSo_46 : decode cX10_isSo 46 = .ok (.getfield 7, 3) := by decide +kernel
theorem dX10_isSo_49 : decode cX10_isSo 49 = .ok (.iload 4, 2) := by decide +kernel
theorem dX10_isSo_51 : decode cX10_isSo 51 = .ok (.iconst 1, 1) := by decide +kernel
theorem dX10_isSo_52 : decode cX10_isSo 52 = .ok (.iadd, 1) := by decide +kernel
theorem dX10_isSo_53 : decode cX10_isSo 53 = .ok (.iaload, 1) := by decide +kernel
theorem dX10_isSo_54 : decode cX10_isSo 54 = .ok (.if_icmp .ge 87, 3) := by decide +kernel
theorem dX10_isSo_57 : decode cX10_isSo 57 = .ok (.iload 5, 2) := by decide +kernel
theorem dX10_isSo_59 : decode cX10_isSo 59 = .ok (.iload_n 1, 1) := by decide +kernel
theorem dX10_isSo_60 : decode cX10_isSo 60 = .ok (.if_icmp .ne 22, 3) := by decide +kernel
theorem dX10_isSo_63 : decode cX10_isSo 63 = .ok (.iload 6, 2) := by decide +kernel
theorem dX10_isSo_65 : decode cX10_isSo 65 = .ok (.ifCond .le 17, 3) := by decide +kernel
theorem dX10_isSo_68 : decode cX10_isSo 68 = .ok (.iload 6, 2) := by decide +kernel
theorem dX10_isSo_70 : decode cX10_isSo 70 = .ok (.bipush 60, 2) := by decide +kernel
theorem dX10_isSo_72 : decode cX10_isSo 72 = .ok (.if_icmp .ge 10, 3) := by decide +kernel
theorem dX10_isSo_75 : decode cX10_isSo 75 = .ok (.iload 6, 2) := by decide +kernel
theorem dX10_isSo_77 : decode cX10_isSo 77 = .ok (.iconst 1, 1) := by decide +kernel
theorem dX10_isSo_78 : decode cX10_isSo 78 = .ok (.iadd, 1) := by decide +kernel
theorem dX10_isSo_79 : decode cX10_isSo 79 = .ok (.goto 5, 3) := by decide +kernel
theorem dX10_isSo_82 : decode cX10_isSo 82 = .ok (.iload 6, 2) := by decide +kernel
theorem dX10_isSo_84 : decode cX10_isSo 84 = .ok (.istore 6, 2) := by decide +kernel
theorem dX10_isSo_86 : decode cX10_isSo 86 = .ok (.aload_n 0, 1) := by decide +kernel
theorem dX10_isSo_87 : decode cX10_isSo 87 = .ok (.aload_n 0, 1) := by decide +kernel
theorem dX10_isSo_88 : decode cX10_isSo 88 = .ok (.getfield 7, 3) := by decide +kernel
theorem dX10_isSo_91 : decode cX10_isSo 91 = .ok (.bipush 7, 2) := by decide +kernel
theorem dX10_isSo_93 : decode cX10_isSo 93 = .ok (.iload 5, 2) := by decide +kernel
theorem dX10_isSo_95 : decode cX10_isSo 95 = .ok (.iadd, 1) := by decide +kernel
theorem dX10_isSo_96 : decode cX10_isSo 96 = .ok (.iaload, 1) := by decide +kernel
theorem dX10_isSo_97 : decode cX10_isSo 97 = .ok (.aload_n 0, 1) := by decide +kernel
theorem dX10_isSo_98 : decode cX10_isSo 98 = .ok (.getfield 7, 3) := by decide +kernel
theorem dX10_isSo_101 : decode cX10_isSo 101 = .ok (.iconst 2, 1) := by decide +kernel
theorem dX10_isSo_102 : decode cX10_isSo 102 = .ok (.iaload, 1) := by decide +kernel
theorem dX10_isSo_103 : decode cX10_isSo 103 = .ok (.iload 7, 2) := by decide +kernel
theorem dX10_isSo_105 : decode cX10_isSo 105 = .ok (.iadd, 1) := by decide +kernel
theorem dX10_isSo_106 : decode cX10_isSo 106 = .ok (.aload_n 0, 1) := by decide +kernel
theorem dX10_isSo_107 : decode cX10_isSo 107 = .ok (.getfield 7, 3) := by decide +kernel
theorem dX10_isSo_110 : decode cX10_isSo 110 = .ok (.iconst 4, 1) := by decide +kernel
theorem dX10_isSo_111 : decode cX10_isSo 111 = .ok (.iaload, 1) := by decide +kernel
theorem dX10_isSo_112 : decode cX10_isSo 112 = .ok (.invokevirtual 126, 3) := by decide +kernel
theorem dX10_isSo_115 : decode cX10_isSo 115 = .ok (.istore 8, 2) := by decide +kernel
theorem dX10_isSo_117 : decode cX10_isSo 117 = .ok (.iload 6, 2) := by decide +kernel
theorem dX10_isSo_119 : decode cX10_isSo 119 = .ok (.iload 8, 2) := by decide +kernel
theorem dX10_isSo_121 : decode cX10_isSo 121 = .ok (.if_icmp .le 11, 3) := by decide +kernel
theorem dX10_isSo_124 : decode cX10_isSo 124 = .ok (.iload 6, 2) := by decide +kernel
theorem dX10_isSo_126 : decode cX10_isSo 126 = .ok (.iload 8, 2) := by decide +kernel
theorem dX10_isSo_128 : decode cX10_isSo 128 = .ok (.isub, 1) := by decide +kernel
theorem dX10_isSo_129 : decode cX10_isSo 129 = .ok (.goto 4, 3) := by decide +kernel
theorem dX10_isSo_132 : decode cX10_isSo 132 = .ok (.iconst 0, 1) := by decide +kernel
theorem dX10_isSo_133 : decode cX10_isSo 133 = .ok (.istore 6, 2) := by decide +kernel
theorem dX10_isSo_135 : decode cX10_isSo 135 = .ok (.iinc 7 1, 3) := by decide +kernel
theorem dX10_isSo_138 : decode cX10_isSo 138 = .ok (.goto (-95), 3) := by decide +kernel
theorem dX10_isSo_141 : decode cX10_isSo 141 = .ok (.iload_n 2, 1) := by decide +kernel
theorem dX10_isSo_142 : decode cX10_isSo 142 = .ok (.ifCond .eq 21, 3) := by decide +kernel
theorem dX10_isSo_145 : decode cX10_isSo 145 = .ok (.iload 6, 2) := by decide +kernel
theorem dX10_isSo_147 : decode cX10_isSo 147 = .ok (.aload_n 0, 1) := by decide +kernel
theorem dX10_isSo_148 : decode cX10_isSo 148 = .ok (.getfield 7, 3) := by decide +kernel
theorem dX10_isSo_151 : decode cX10_isSo 151 = .ok (.iload 4, 2) := by decide +kernel
theorem dX10_isSo_153 : decode cX10_isSo 153 = .ok (.iconst 2, 1) := by decide +kernel
theorem dX10_isSo_154 : decode cX10_isSo 154 = .ok (.iadd, 1) := by decide +kernel
theorem dX10_isSo_155 : decode cX10_isSo 155 = .ok (.iaload, 1) := by decide +kernel
theorem dX10_isSo_156 : decode cX10_isSo 156 = .ok (.if_icmp .ne 7, 3) := by decide +kernel
theorem dX10_isSo_159 : decode cX10_isSo 159 = .ok (.iconst 1, 1) := by decide +kernel
theorem dX10_isSo_160 : decode cX10_isSo 160 = .ok (.goto 4, 3) := by decide +kernel
theorem dX10_isSo_163 : decode cX10_isSo 163 = .ok (.iconst 0, 1) := by decide +kernel
theorem dX10_isSo_164 : decode cX10_isSo 164 = .ok (.istore_n 2, 1) := by decide +kernel
theorem dX10_isSo_165 : decode cX10_isSo 165 = .ok (.iinc 3 1, 3) := by decide +kernel
theorem dX10_isSo_168 : decode cX10_isSo 168 = .ok (.goto (-164), 3) := by decide +kernel
theorem dX10_isSo_171 : decode cX10_isSo 171 = .ok (.iload_n 2, 1) := by decide +kernel
theorem dX10_isSo_172 : decode cX10_isSo 172 = .ok (.ireturn, 1) := by decide +kernel
theorem dX10_layLoaves_0 : decode cX10_layLoaves 0 = .ok (.iconst 0, 1) := by decide +kernel
theorem dX10_layLoaves_1 : decode cX10_layLoaves 1 = .ok (.istore_n 1, 1) := by decide +kernel
theorem dX10_layLoaves_2 : decode cX10_layLoaves 2 = .ok (.iload_n 1, 1) := by decide +kernel
theorem dX10_layLoaves_3 : decode cX10_layLoaves 3 = .ok (.bipush 6, 2) := by decide +kernel
theorem dX10_layLoaves_5 : decode cX10_layLoaves 5 = .ok (.if_icmp .ge 24, 3) := by decide +kernel
theorem dX10_layLoaves_8 : decode cX10_layLoaves 8 = .ok (.aload_n 0, 1) := by decide +kernel
theorem dX10_layLoaves_9 : decode cX10_layLoaves 9 = .ok (.getfield 33, 3) := by decide +kernel
theorem dX10_layLoaves_12 : decode cX10_layLoaves 12 = .ok (.iload_n 1, 1) := by decide +kernel
theorem dX10_layLoaves_13 : decode cX10_layLoaves 13 = .ok (.aload_n 0, 1) := by decide +kernel
theorem dX10_layLoaves_14 : decode cX10_layLoaves 14 = .ok (.getfield 7, 3) := by decide +kernel
theorem dX10_layLoaves_17 : decode cX10_layLoaves 17 = .ok (.bipush 13, 2) := by decide +kernel
theorem dX10_layLoaves_19 : decode cX10_layLoaves 19 = .ok (.iload_n 1, 1) := by decide +kernel
theorem dX10_layLoaves_20 : decode cX10_layLoaves 20 = .ok (.iadd, 1) := by decide +kernel
theorem dX10_layLoaves_21 : decode cX10_layLoaves 21 = .ok (.iaload, 1) := by decide +kernel
theorem dX10_layLoaves_22 : decode cX10_layLoaves 22 = .ok (.iastore, 1) := by decide +kernel
theorem dX10_layLoaves_23 : decode cX10_layLoaves 23 = .ok (.iinc 1 1, 3) := by decide +kernel
theorem dX10_layLoaves_26 : decode cX10_layLoaves 26 = .ok (.goto (-24), 3) := by decide +kernel
theorem dX10_layLoaves_29 : decode cX10_layLoaves 29 = .ok (.return_, 1) := by decide +kernel
theorem dX10_swapped_0 : decode cX10_swapped 0 = .ok (.iload_n 1, 1) := by decide +kernel
theorem dX10_swapped_1 : decode cX10_swapped 1 = .ok (.iconst (-1), 1) := by decide +kernel
theorem dX10_swapped_2 : decode cX10_swapped 2 = .ok (.if_icmp .ge 10, 3) := by decide +kernel
theorem dX10_swapped_5 : decode cX10_swapped 5 = .ok (.aload_n 0, 1) := by decide +kernel
theorem dX10_swapped_6 : decode cX10_swapped 6 = .ok (.bipush (-10), 2) := by decide +kernel
theorem dX10_swapped_8 : decode cX10_swapped 8 = .ok (.invokevirtual 54, 3) := by decide +kernel
theorem dX10_swapped_11 : decode cX10_swapped 11 = .ok (.ireturn, 1) := by decide +kernel
theorem dX10_swapped_12 : decode cX10_swapped 12 = .ok (.iconst 0, 1) := by decide +kernel
theorem dX10_swapped_13 : decode cX10_swapped 13 = .ok (.istore_n 2, 1) := by decide +kernel
theorem dX10_swapped_14 : decode cX10_swapped 14 = .ok (.iconst 0, 1) := by decide +kernel
theorem dX10_swapped_15 : decode cX10_swapped 15 = .ok (.istore_n 3, 1) := by decide +kernel
theorem dX10_swapped_16 : decode cX10_swapped 16 = .ok (.iload_n 3, 1) := by decide +kernel
theorem dX10_swapped_17 : decode cX10_swapped 17 = .ok (.aload_n 0, 1) := by decide +kernel
theorem dX10_swapped_18 : decode cX10_swapped 18 = .ok (.getfield 7, 3) := by decide +kernel
theorem dX10_swapped_21 : decode cX10_swapped 21 = .ok (.iconst 0, 1) := by decide +kernel
theorem dX10_swapped_22 : decode cX10_swapped 22 = .ok (.iaload, 1) := by decide +kernel
theorem dX10_swapped_23 : decode cX10_swapped 23 = .ok (.if_icmp .ge 91, 3) := by decide +kernel
theorem dX10_swapped_26 : decode cX10_swapped 26 = .ok (.iload_n 3, 1) := by decide +kernel
theorem dX10_swapped_27 : decode cX10_swapped 27 = .ok (.iconst 1, 1) := by decide +kernel
theorem dX10_swapped_28 : decode cX10_swapped 28 = .ok (.iadd, 1) := by decide +kernel
theorem dX10_swapped_29 : decode cX10_swapped 29 = .ok (.istore 4, 2) := by decide +kernel
theorem dX10_swapped_31 : decode cX10_swapped 31 = .ok (.iload 4, 2) := by decide +kernel
theorem dX10_swapped_33 : decode cX10_swapped 33 = .ok (.aload_n 0, 1) := by decide +kernel
theorem dX10_swapped_34 : decode cX10_swapped 34 = .ok (.getfield 7, 3) := by decide +kernel
theorem dX10_swapped_37 : decode cX10_swapped 37 = .ok (.iconst 0, 1) := by decide +kernel
theorem dX10_swapped_38 : decode cX10_swapped 38 = .ok (.iaload, 1) := by decide +kernel
theorem dX10_swapped_39 : decode cX10_swapped 39 = .ok (.if_icmp .ge 69, 3) := by decide +kernel
theorem dX10_swapped_42 : decode cX10_swapped 42 = .ok (.aload_n 0, 1) := by decide +kernel
theorem dX10_swapped_43 : decode cX10_swapped 43 = .ok (.invokevirtual 164, 3) := by decide +kernel
theorem dX10_swapped_46 : decode cX10_swapped 46 = .ok (.aload_n 0, 1) := by decide +kernel
theorem dX10_swapped_47 : decode cX10_swapped 47 = .ok (.getfield 33, 3) := by decide +kernel
theorem dX10_swapped_50 : decode cX10_swapped 50 = .ok (.iload_n 3, 1) := by decide +kernel
theorem dX10_swapped_51 : decode cX10_swapped 51 = .ok (.aload_n 0, 1) := by decide +kernel
theorem dX10_swapped_52 : decode cX10_swapped 52 = .ok (.getfield 7, 3) := by decide +kernel
theorem dX10_swapped_55 : decode cX10_swapped 55 = .ok (.bipush 13, 2) := by decide +kernel
theorem dX10_swapped_57 : decode cX10_swapped 57 = .ok (.iload 4, 2) := by decide +kernel
theorem dX10_swapped_59 : decode cX10_swapped 59 = .ok (.iadd, 1) := by decide +kernel
theorem dX10_swapped_60 : decode cX10_swapped 60 = .ok (.iaload, 1) := by decide +kernel
theorem dX10_swapped_61 : decode cX10_swapped 61 = .ok (.iastore, 1) := by decide +kernel
theorem dX10_swapped_62 : decode cX10_swapped 62 = .ok (.aload_n 0, 1) := by decide +kernel
theorem dX10_swapped_63 : decode cX10_swapped 63 = .ok (.getfield 33, 3) := by decide +kernel
theorem dX10_swapped_66 : decode cX10_swapped 66 = .ok (.iload 4, 2) := by decide +kernel
theorem dX10_swapped_68 : decode cX10_swapped 68 = .ok (.aload_n 0, 1) := by decide +kernel
theorem dX10_swapped_69 : decode cX10_swapped 69 = .ok (.getfield 7, 3) := by decide +kernel
theorem dX10_swapped_72 : decode cX10_swapped 72 = .ok (.bipush 13, 2) := by decide +kernel
theorem dX10_swapped_74 : decode cX10_swapped 74 = .ok (.iload_n 3, 1) := by decide +kernel
theorem dX10_swapped_75 : decode cX10_swapped 75 = .ok (.iadd, 1) := by decide +kernel
theorem dX10_swapped_76 : decode cX10_swapped 76 = .ok (.iaload, 1) := by decide +kernel
theorem dX10_swapped_77 : decode cX10_swapped 77 = .ok (.iastore, 1) := by decide +kernel
theorem dX10_swapped_78 : decode cX10_swapped 78 = .ok (.aload_n 0, 1) := by decide +kernel
theorem dX10_swapped_79 : decode cX10_swapped 79 = .ok (.iconst (-1), 1) := by decide +kernel
theorem dX10_swapped_80 : decode cX10_swapped 80 = .ok (.invokevirtual 167, 3) := by decide +kernel
theorem dX10_swapped_83 : decode cX10_swapped 83 = .ok (.ifCond .eq 19, 3) := by decide +kernel
theorem dX10_swapped_86 : decode cX10_swapped 86 = .ok (.aload_n 0, 1) := by decide +kernel
theorem dX10_swapped_87 : decode cX10_swapped 87 = .ok (.getfield 36, 3) := by decide +kernel
theorem dX10_swapped_90 : decode cX10_swapped 90 = .ok (.iload_n 2, 1) := by decide +kernel
theorem dX10_swapped_91 : decode cX10_swapped 91 = .ok (.bipush 10, 2) := by decide +kernel
theorem dX10_swapped_93 : decode cX10_swapped 93 = .ok (.iload_n 3, 1) := by decide +kernel
theorem dX10_swapped_94 : decode cX10_swapped 94 = .ok (.imul, 1) := by decide +kernel
theorem dX10_swapped_95 : decode cX10_swapped 95 = .ok (.iload 4, 2) := by decide +kernel
theorem dX10_swapped_97 : decode cX10_swapped 97 = .ok (.iadd, 1) := by decide +kernel
theorem dX10_swapped_98 : decode cX10_swapped 98 = .ok (.iastore, 1) := by decide +kernel
theorem dX10_swapped_99 : decode cX10_swapped 99 = .ok (.iinc 2 1, 3) := by decide +kernel
theorem dX10_swapped_102 : decode cX10_swapped 102 = .ok (.iinc 4 1, 3) := by decide +kernel
theorem dX10_swapped_105 : decode cX10_swapped 105 = .ok (.goto (-74), 3) := by decide +kernel
theorem dX10_swapped_108 : decode cX10_swapped 108 = .ok (.iinc 3 1, 3) := by decide +kernel
theorem dX10_swapped_111 : decode cX10_swapped 111 = .ok (.goto (-95), 3) := by decide +kernel
theorem dX10_swapped_114 : decode cX10_swapped 114 = .ok (.iload_n 1, 1) := by decide +kernel
theorem dX10_swapped_115 : decode cX10_swapped 115 = .ok (.iconst (-1), 1) := by decide +kernel
theorem dX10_swapped_116 : decode cX10_swapped 116 = .ok (.if_icmp .ne 7, 3) := by decide +kernel
theorem dX10_swapped_119 : decode cX10_swapped 119 = .ok (.iload_n 2, 1) := by decide +kernel
theorem dX10_swapped_120 : decode cX10_swapped 120 = .ok (.goto 19, 3) := by decide +kernel
theorem dX10_swapped_123 : decode cX10_swapped 123 = .ok (.iload_n 1, 1) := by decide +kernel
theorem dX10_swapped_124 : decode cX10_swapped 124 = .ok (.iload_n 2, 1) := by decide +kernel
theorem dX10_swapped_125 : decode cX10_swapped 125 = .ok (.if_icmp .ge 12, 3) := by decide +kernel
theorem dX10_swapped_128 : decode cX10_swapped 128 = .ok (.aload_n 0, 1) := by decide +kernel
theorem dX10_swapped_129 : decode cX10_swapped 129 = .ok (.getfield 36, 3) := by decide +kernel
theorem dX10_swapped_132 : decode cX10_swapped 132 = .ok (.iload_n 1, 1) := by decide +kernel
theorem dX10_swapped_133 : decode cX10_swapped 133 = .ok (.iaload, 1) := by decide +kernel
theorem dX10_swapped_134 : decode cX10_swapped 134 = .ok (.goto 5, 3) := by decide +kernel
theorem dX10_swapped_137 : decode cX10_swapped 137 = .ok (.bipush (-5), 2) := by decide +kernel
theorem dX10_swapped_139 : decode cX10_swapped 139 = .ok (.ireturn, 1) := by decide +kernel
theorem dX10_back_0 : decode cX10_back 0 = .ok (.iconst 0, 1) := by decide +kernel
theorem dX10_back_1 : decode cX10_back 1 = .ok (.istore_n 1, 1) := by decide +kernel
theorem dX10_back_2 : decode cX10_back 2 = .ok (.aload_n 0, 1) := by decide +kernel
theorem dX10_back_3 : decode cX10_back 3 = .ok (.invokevirtual 164, 3) := by decide +kernel
theorem dX10_back_6 : decode cX10_back 6 = .ok (.iconst 0, 1) := by decide +kernel
theorem dX10_back_7 : decode cX10_back 7 = .ok (.istore_n 2, 1) := by decide +kernel
theorem dX10_back_8 : decode cX10_back 8 = .ok (.iload_n 2, 1) := by decide +kernel
theorem dX10_back_9 : decode cX10_back 9 = .ok (.aload_n 0, 1) := by decide +kernel
theorem dX10_back_10 : decode cX10_back 10 = .ok (.getfield 7, 3) := by decide +kernel
theorem dX10_back_13 : decode cX10_back 13 = .ok (.iconst 0, 1) := by decide +kernel
theorem dX10_back_14 : decode cX10_back 14 = .ok (.iaload, 1) := by decide +kernel
theorem dX10_back_15 : decode cX10_back 15 = .ok (.if_icmp .ge 27, 3) := by decide +kernel
theorem dX10_back_18 : decode cX10_back 18 = .ok (.iload_n 1, 1) := by decide +kernel
theorem dX10_back_19 : decode cX10_back 19 = .ok (.aload_n 0, 1) := by decide +kernel
theorem dX10_back_20 : decode cX10_back 20 = .ok (.iload_n 2, 1) := by decide +kernel
theorem dX10_back_21 : decode cX10_back 21 = .ok (.invokevirtual 167, 3) := by decide +kernel
theorem dX10_back_24 : decode cX10_back 24 = .ok (.ifCond .eq 9, 3) := by decide +kernel
theorem dX10_back_27 : decode cX10_back 27 = .ok (.iconst 1, 1) := by decide +kernel
theorem dX10_back_28 : decode cX10_back 28 = .ok (.iload_n 2, 1) := by decide +kernel
theorem dX10_back_29 : decode cX10_back 29 = .ok (.ishl, 1) := by decide +kernel
theorem dX10_back_30 : decode cX10_back 30 = .ok (.goto 4, 3) := by decide +kernel
theorem dX10_back_33 : decode cX10_back 33 = .ok (.iconst 0, 1) := by decide +kernel
theorem dX10_back_34 : decode cX10_back 34 = .ok (.ior, 1) := by decide +kernel
theorem dX10_back_35 : decode cX10_back 35 = .ok (.istore_n 1, 1) := by decide +kernel
theorem dX10_back_36 : decode cX10_back 36 = .ok (.iinc 2 1, 3) := by decide +kernel
theorem dX10_back_39 : decode cX10_back 39 = .ok (.goto (-31), 3) := by decide +kernel
theorem dX10_back_42 : decode cX10_back 42 = .ok (.iload_n 1, 1) := by decide +kernel
theorem dX10_back_43 : decode cX10_back 43 = .ok (.ireturn, 1) := by decide +kernel
theorem dX10_crusts_0 : decode cX10_crusts 0 = .ok (.aload_n 0, 1) := by decide +kernel
theorem dX10_crusts_1 : decode cX10_crusts 1 = .ok (.iload_n 1, 1) := by decide +kernel
theorem dX10_crusts_2 : decode cX10_crusts 2 = .ok (.invokevirtual 141, 3) := by decide +kernel
theorem dX10_crusts_5 : decode cX10_crusts 5 = .ok (.ifCond .eq 12, 3) := by decide +kernel
theorem dX10_crusts_8 : decode cX10_crusts 8 = .ok (.iload_n 2, 1) := by decide +kernel
theorem dX10_crusts_9 : decode cX10_crusts 9 = .ok (.iconst 0, 1) := by decide +kernel
theorem dX10_crusts_10 : decode cX10_crusts 10 = .ok (.iconst 1, 1) := by decide +kernel
theorem dX10_crusts_11 : decode cX10_crusts 11 = .ok (.invokestatic 50, 3) := by decide +kernel
theorem dX10_crusts_14 : decode cX10_crusts 14 = .ok (.ifCond .ne 10, 3) := by decide +kernel
theorem dX10_crusts_17 : decode cX10_crusts 17 = .ok (.aload_n 0, 1) := by decide +kernel
theorem dX10_crusts_18 : decode cX10_crusts 18 = .ok (.bipush (-2), 2) := by decide +kernel
theorem dX10_crusts_20 : decode cX10_crusts 20 = .ok (.invokevirtual 54, 3) := by decide +kernel
theorem dX10_crusts_23 : decode cX10_crusts 23 = .ok (.ireturn, 1) := by decide +kernel
theorem dX10_crusts_24 : decode cX10_crusts 24 = .ok (.aload_n 0, 1) := by decide +kernel
theorem dX10_crusts_25 : decode cX10_crusts 25 = .ok (.getfield 7, 3) := by decide +kernel
theorem dX10_crusts_28 : decode cX10_crusts 28 = .ok (.bipush 13, 2) := by decide +kernel
theorem dX10_crusts_30 : decode cX10_crusts 30 = .ok (.iload_n 1, 1) := by decide +kernel
theorem dX10_crusts_31 : decode cX10_crusts 31 = .ok (.iadd, 1) := by decide +kernel
theorem dX10_crusts_32 : decode cX10_crusts 32 = .ok (.iaload, 1) := by decide +kernel
theorem dX10_crusts_33 : decode cX10_crusts 33 = .ok (.istore_n 3, 1) := by decide +kernel
theorem dX10_crusts_34 : decode cX10_crusts 34 = .ok (.iload_n 3, 1) := by decide +kernel
theorem dX10_crusts_35 : decode cX10_crusts 35 = .ok (.iconst 4, 1) := by decide +kernel
theorem dX10_crusts_36 : decode cX10_crusts 36 = .ok (.irem, 1) := by decide +kernel
theorem dX10_crusts_37 : decode cX10_crusts 37 = .ok (.iconst 1, 1) := by decide +kernel
theorem dX10_crusts_38 : decode cX10_crusts 38 = .ok (.if_icmp .eq 7, 3) := by decide +kernel
theorem dX10_crusts_41 : decode cX10_crusts 41 = .ok (.iconst 1, 1) := by decide +kernel
theorem dX10_crusts_42 : decode cX10_crusts 42 = .ok (.goto 4, 3) := by decide +kernel
theorem dX10_crusts_45 : decode cX10_crusts 45 = .ok (.iconst 0, 1) := by decide +kernel
theorem dX10_crusts_46 : decode cX10_crusts 46 = .ok (.istore 4, 2) := by decide +kernel
theorem dX10_crusts_48 : decode cX10_crusts 48 = .ok (.iload_n 2, 1) := by decide +kernel
theorem dX10_crusts_49 : decode cX10_crusts 49 = .ok (.ifCond .ne 16, 3) := by decide +kernel
theorem dX10_crusts_52 : decode cX10_crusts 52 = .ok (.iload 4, 2) := by decide +kernel
theorem dX10_crusts_54 : decode cX10_crusts 54 = .ok (.ifCond .eq 7, 3) := by decide +kernel
theorem dX10_crusts_57 : decode cX10_crusts 57 = .ok (.iconst 1, 1) := by decide +kernel
theorem dX10_crusts_58 : decode cX10_crusts 58 = .ok (.goto 25, 3) := by decide +kernel
theorem dX10_crusts_61 : decode cX10_crusts 61 = .ok (.iconst 0, 1) := by decide +kernel
theorem dX10_crusts_62 : decode cX10_crusts 62 = .ok (.goto 21, 3) := by decide +kernel
theorem dX10_crusts_65 : decode cX10_crusts 65 = .ok (.iload_n 3, 1) := by decide +kernel
theorem dX10_crusts_66 : decode cX10_crusts 66 = .ok (.ifCond .eq 8, 3) := by decide +kernel
theorem dX10_crusts_69 : decode cX10_crusts 69 = .ok (.iload 4, 2) := by decide +kernel
theorem dX10_crusts_71 : decode cX10_crusts 71 = .ok (.ifCond .ne 7, 3) := by decide +kernel
theorem dX10_crusts_74 : decode cX10_crusts 74 = .ok (.iconst 0, 1) := by decide +kernel
theorem dX10_crusts_75 : decode cX10_crusts 75 = .ok (.goto 8, 3) := by decide +kernel
theorem dX10_crusts_78 : decode cX10_crusts 78 = .ok (.iload_n 3, 1) := by decide +kernel
theorem dX10_crusts_79 : decode cX10_crusts 79 = .ok (.iconst 3, 1) := by decide +kernel
theorem dX10_crusts_80 : decode cX10_crusts 80 = .ok (.iadd, 1) := by decide +kernel
theorem dX10_crusts_81 : decode cX10_crusts 81 = .ok (.iconst 4, 1) := by decide +kernel
theorem dX10_crusts_82 : decode cX10_crusts 82 = .ok (.irem, 1) := by decide +kernel
theorem dX10_crusts_83 : decode cX10_crusts 83 = .ok (.ireturn, 1) := by decide +kernel
theorem dX10_tell_0 : decode cX10_tell 0 = .ok (.lload_n 1, 1) := by decide +kernel
theorem dX10_tell_1 : decode cX10_tell 1 = .ok (.lstore 5, 2) := by decide +kernel
theorem dX10_tell_3 : decode cX10_tell 3 = .ok (.lload_n 3, 1) := by decide +kernel
theorem dX10_tell_4 : decode cX10_tell 4 = .ok (.lstore 7, 2) := by decide +kernel
theorem dX10_tell_6 : decode cX10_tell 6 = .ok (.lload 7, 2) := by decide +kernel
theorem dX10_tell_8 : decode cX10_tell 8 = .ok (.lconst 0, 1) := by decide +kernel
theorem dX10_tell_9 : decode cX10_tell 9 = .ok (.lcmp, 1) := by decide +kernel
theorem dX10_tell_10 : decode cX10_tell 10 = .ok (.ifCond .le 21, 3) := by decide +kernel
theorem dX10_tell_13 : decode cX10_tell 13 = .ok (.lload 5, 2) := by decide +kernel
theorem dX10_tell_15 : decode cX10_tell 15 = .ok (.lload 7, 2) := by decide +kernel
theorem dX10_tell_17 : decode cX10_tell 17 = .ok (.lrem, 1) := by decide +kernel
theorem dX10_tell_18 : decode cX10_tell 18 = .ok (.lstore 9, 2) := by decide +kernel
theorem dX10_tell_20 : decode cX10_tell 20 = .ok (.lload 7, 2) := by decide +kernel
theorem dX10_tell_22 : decode cX10_tell 22 = .ok (.lstore 5, 2) := by decide +kernel
theorem dX10_tell_24 : decode cX10_tell 24 = .ok (.lload 9, 2) := by decide +kernel
theorem dX10_tell_26 : decode cX10_tell 26 = .ok (.lstore 7, 2) := by decide +kernel
theorem dX10_tell_28 : decode cX10_tell 28 = .ok (.goto (-22), 3) := by decide +kernel
theorem dX10_tell_31 : decode cX10_tell 31 = .ok (.aload_n 0, 1) := by decide +kernel
theorem dX10_tell_32 : decode cX10_tell 32 = .ok (.lload_n 1, 1) := by decide +kernel
theorem dX10_tell_33 : decode cX10_tell 33 = .ok (.lload 5, 2) := by decide +kernel
theorem dX10_tell_35 : decode cX10_tell 35 = .ok (.ldiv, 1) := by decide +kernel
theorem dX10_tell_36 : decode cX10_tell 36 = .ok (.putfield 170, 3) := by decide +kernel
theorem dX10_tell_39 : decode cX10_tell 39 = .ok (.aload_n 0, 1) := by decide +kernel
theorem dX10_tell_40 : decode cX10_tell 40 = .ok (.lload_n 3, 1) := by decide +kernel
theorem dX10_tell_41 : decode cX10_tell 41 = .ok (.lload 5, 2) := by decide +kernel
theorem dX10_tell_43 : decode cX10_tell 43 = .ok (.ldiv, 1) := by decide +kernel
theorem dX10_tell_44 : decode cX10_tell 44 = .ok (.putfield 26, 3) := by decide +kernel
theorem dX10_tell_47 : decode cX10_tell 47 = .ok (.return_, 1) := by decide +kernel
theorem dX10_mice_0 : decode cX10_mice 0 = .ok (.aload_n 0, 1) := by decide +kernel
theorem dX10_mice_1 : decode cX10_mice 1 = .ok (.iload_n 1, 1) := by decide +kernel
theorem dX10_mice_2 : decode cX10_mice 2 = .ok (.invokevirtual 141, 3) := by decide +kernel
theorem dX10_mice_5 : decode cX10_mice 5 = .ok (.ifCond .eq 23, 3) := by decide +kernel
theorem dX10_mice_8 : decode cX10_mice 8 = .ok (.iload_n 2, 1) := by decide +kernel
theorem dX10_mice_9 : decode cX10_mice 9 = .ok (.iconst 0, 1) := by decide +kernel
theorem dX10_mice_10 : decode cX10_mice 10 = .ok (.bipush 12, 2) := by decide +kernel
theorem dX10_mice_12 : decode cX10_mice 12 = .ok (.invokestatic 50, 3) := by decide +kernel
theorem dX10_mice_15 : decode cX10_mice 15 = .ok (.ifCond .eq 13, 3) := by decide +kernel
theorem dX10_mice_18 : decode cX10_mice 18 = .ok (.iload_n 3, 1) := by decide +kernel
theorem dX10_mice_19 : decode cX10_mice 19 = .ok (.iconst 0, 1) := by decide +kernel
theorem dX10_mice_20 : decode cX10_mice 20 = .ok (.bipush 10, 2) := by decide +kernel
theorem dX10_mice_22 : decode cX10_mice 22 = .ok (.invokestatic 50, 3) := by decide +kernel
theorem dX10_mice_25 : decode cX10_mice 25 = .ok (.ifCond .ne 10, 3) := by decide +kernel
theorem dX10_mice_28 : decode cX10_mice 28 = .ok (.aload_n 0, 1) := by decide +kernel
theorem dX10_mice_29 : decode cX10_mice 29 = .ok (.bipush (-2), 2) := by decide +kernel
theorem dX10_mice_31 : decode cX10_mice 31 = .ok (.invokevirtual 54, 3) := by decide +kernel
theorem dX10_mice_34 : decode cX10_mice 34 = .ok (.ireturn, 1) := by decide +kernel
theorem dX10_mice_35 : decode cX10_mice 35 = .ok (.iconst 0, 1) := by decide +kernel
theorem dX10_mice_36 : decode cX10_mice 36 = .ok (.istore 4, 2) := by decide +kernel
theorem dX10_mice_38 : decode cX10_mice 38 = .ok (.iload 4, 2) := by decide +kernel
theorem dX10_mice_40 : decode cX10_mice 40 = .ok (.bipush 61, 2) := by decide +kernel
theorem dX10_mice_42 : decode cX10_mice 42 = .ok (.if_icmp .ge 35, 3) := by decide +kernel
theorem dX10_mice_45 : decode cX10_mice 45 = .ok (.aload_n 0, 1) := by decide +kernel
theorem dX10_mice_46 : decode cX10_mice 46 = .ok (.getfield 39, 3) := by decide +kernel
theorem dX10_mice_49 : decode cX10_mice 49 = .ok (.iload 4, 2) := by decide +kernel
theorem dX10_mice_51 : decode cX10_mice 51 = .ok (.iload 4, 2) := by decide +kernel
theorem dX10_mice_53 : decode cX10_mice 53 = .ok (.aload_n 0, 1) := by decide +kernel
theorem dX10_mice_54 : decode cX10_mice 54 = .ok (.getfield 7, 3) := by decide +kernel
theorem dX10_mice_57 : decode cX10_mice 57 = .ok (.bipush 13, 2) := by decide +kernel
theorem dX10_mice_59 : decode cX10_mice 59 = .ok (.iload_n 1, 1) := by decide +kernel
theorem dX10_mice_60 : decode cX10_mice 60 = .ok (.iadd, 1) := by decide +kernel
theorem dX10_mice_61 : decode cX10_mice 61 = .ok (.iaload, 1) := by decide +kernel
theorem dX10_mice_62 : decode cX10_mice 62 = .ok (.if_icmp .ne 7, 3) := by decide +kernel
theorem dX10_mice_65 : decode cX10_mice 65 = .ok (.lconst 1, 1) := by decide +kernel
theorem dX10_mice_66 : decode cX10_mice 66 = .ok (.goto 4, 3) := by decide +kernel
theorem dX10_mice_69 : decode cX10_mice 69 = .ok (.lconst 0, 1) := by decide +kernel
theorem dX10_mice_70 : decode cX10_mice 70 = .ok (.lastore, 1) := by decide +kernel
theorem dX10_mice_71 : decode cX10_mice 71 = .ok (.iinc 4 1, 3) := by decide +kernel
theorem dX10_mice_74 : decode cX10_mice 74 = .ok (.goto (-36), 3) := by decide +kernel
theorem dX10_mice_77 : decode cX10_mice 77 = .ok (.lconst 1, 1) := by decide +kernel
theorem dX10_mice_78 : decode cX10_mice 78 = .ok (.lstore 4, 2) := by decide +kernel
theorem dX10_mice_80 : decode cX10_mice 80 = .ok (.iconst 0, 1) := by decide +kernel
theorem dX10_mice_81 : decode cX10_mice 81 = .ok (.istore 6, 2) := by decide +kernel
theorem dX10_mice_83 : decode cX10_mice 83 = .ok (.iload 6, 2) := by decide +kernel
theorem dX10_mice_85 : decode cX10_mice 85 = .ok (.iload_n 2, 1) := by decide +kernel
theorem dX10_mice_86 : decode cX10_mice 86 = .ok (.if_icmp .ge 189, 3) := by decide +kernel
theorem dX10_mice_89 : decode cX10_mice 89 = .ok (.aload_n 0, 1) := by decide +kernel
theorem dX10_mice_90 : decode cX10_mice 90 = .ok (.aload_n 0, 1) := by decide +kernel
theorem dX10_mice_91 : decode cX10_mice 91 = .ok (.getfield 7, 3) := by decide +kernel
theorem dX10_mice_94 : decode cX10_mice 94 = .ok (.bipush 7, 2) := by decide +kernel
theorem dX10_mice_96 : decode cX10_mice 96 = .ok (.iload_n 1, 1) := by decide +kernel
theorem dX10_mice_97 : decode cX10_mice 97 = .ok (.iadd, 1) := by decide +kernel
theorem dX10_mice_98 : decode cX10_mice 98 = .ok (.iaload, 1) := by decide +kernel
theorem dX10_mice_99 : decode cX10_mice 99 = .ok (.aload_n 0, 1) := by decide +kernel
theorem dX10_mice_100 : decode cX10_mice 100 = .ok (.getfield 7, 3) := by decide +kernel
theorem dX10_mice_103 : decode cX10_mice 103 = .ok (.iconst 2, 1) := by decide +kernel
theorem dX10_mice_104 : decode cX10_mice 104 = .ok (.iaload, 1) := by decide +kernel
theorem dX10_mice_105 : decode cX10_mice 105 = .ok (.iload 6, 2) := by decide +kernel
theorem dX10_mice_107 : decode cX10_mice 107 = .ok (.iadd, 1) := by decide +kernel
theorem dX10_mice_108 : decode cX10_mice 108 = .ok (.aload_n 0, 1) := by decide +kernel
theorem dX10_mice_109 : decode cX10_mice 109 = .ok (.getfield 7, 3) := by decide +kernel
theorem dX10_mice_112 : decode cX10_mice 112 = .ok (.iconst 4, 1) := by decide +kernel
theorem dX10_mice_113 : decode cX10_mice 113 = .ok (.iaload, 1) := by decide +kernel
theorem dX10_mice_114 : decode cX10_mice 114 = .ok (.invokevirtual 126, 3) := by decide +kernel
theorem dX10_mice_117 : decode cX10_mice 117 = .ok (.istore 7, 2) := by decide +kernel
theorem dX10_mice_119 : decode cX10_mice 119 = .ok (.iconst 0, 1) := by decide +kernel
theorem dX10_mice_120 : decode cX10_mice 120 = .ok (.istore 8, 2) := by decide +kernel
theorem dX10_mice_122 : decode cX10_mice 122 = .ok (.iload 8, 2) := by decide +kernel
theorem dX10_mice_124 : decode cX10_mice 124 = .ok (.bipush 61, 2) := by decide +kernel
theorem dX10_mice_126 : decode cX10_mice 126 = .ok (.if_icmp .ge 17, 3) := by decide +kernel
theorem dX10_mice_129 : decode cX10_mice 129 = .ok (.aload_n 0, 1) := by decide +kernel
theorem dX10_mice_130 : decode cX10_mice 130 = .ok (.getfield 43, 3) := by decide +kernel
theorem dX10_mice_133 : decode cX10_mice 133 = .ok (.iload 8, 2) := by decide +kernel
theorem dX10_mice_135 : decode cX10_mice 135 = .ok (.lconst 0, 1) := by decide +kernel
theorem dX10_mice_136 : decode cX10_mice 136 = .ok (.lastore, 1) := by decide +kernel
theorem dX10_mice_137 : decode cX10_mice 137 = .ok (.iinc 8 1, 3) := by decide +kernel
theorem dX10_mice_140 : decode cX10_mice 140 = .ok (.goto (-18), 3) := by decide +kernel
theorem dX10_mice_143 : decode cX10_mice 143 = .ok (.iconst 0, 1) := by decide +kernel
theorem dX10_mice_144 : decode cX10_mice 144 = .ok (.istore 8, 2) := by decide +kernel
theorem dX10_mice_146 : decode cX10_mice 146 = .ok (.iload 8, 2) := by decide +kernel
theorem dX10_mice_148 : decode cX10_mice 148 = .ok (.bipush 61, 2) := by decide +kernel
theorem dX10_mice_150 : decode cX10_mice 150 = .ok (.if_icmp .ge 81, 3) := by decide +kernel
theorem dX10_mice_153 : decode cX10_mice 153 = .ok (.iload 8, 2) := by decide +kernel
theorem dX10_mice_155 : decode cX10_mice 155 = .ok (.iload 7, 2) := by decide +kernel
theorem dX10_mice_157 : decode cX10_mice 157 = .ok (.if_icmp .le 11, 3) := by decide +kernel
theorem dX10_mice_160 : decode cX10_mice 160 = .ok (.iload 8, 2) := by decide +kernel
theorem dX10_mice_162 : decode cX10_mice 162 = .ok (.iload 7, 2) := by decide +kernel
theorem dX10_mice_164 : decode cX10_mice 164 = .ok (.isub, 1) := by decide +kernel
theorem dX10_mice_165 : decode cX10_mice 165 = .ok (.goto 4, 3) := by decide +kernel
theorem dX10_mice_168 : decode cX10_mice 168 = .ok (.iconst 0, 1) := by decide +kernel
theorem dX10_mice_169 : decode cX10_mice 169 = .ok (.istore 9, 2) := by decide +kernel
theorem dX10_mice_171 : decode cX10_mice 171 = .ok (.aload_n 0, 1) := by decide +kernel
theorem dX10_mice_172 : decode cX10_mice 172 = .ok (.getfield 43, 3) := by decide +kernel
theorem dX10_mice_175 : decode cX10_mice 175 = .ok (.iload 9, 2) := by decide +kernel
theorem dX10_mice_177 : decode cX10_mice 177 = .ok (.dup2, 1) := by decide +kernel
theorem dX10_mice_178 : decode cX10_mice 178 = .ok (.laload, 1) := by decide +kernel
theorem dX10_mice_179 : decode cX10_mice 179 = .ok (.bipush 10, 2) := by decide +kernel
theorem dX10_mice_181 : decode cX10_mice 181 = .ok (.iload_n 3, 1) := by decide +kernel
theorem dX10_mice_182 : decode cX10_mice 182 = .ok (.isub, 1) := by decide +kernel
theorem dX10_mice_183 : decode cX10_mice 183 = .ok (.i2l, 1) := by decide +kernel
theorem dX10_mice_184 : decode cX10_mice 184 = .ok (.aload_n 0, 1) := by decide +kernel
theorem dX10_mice_185 : decode cX10_mice 185 = .ok (.getfield 39, 3) := by decide +kernel
theorem dX10_mice_188 : decode cX10_mice 188 = .ok (.iload 8, 2) := by decide +kernel
theorem dX10_mice_190 : decode cX10_mice 190 = .ok (.laload, 1) := by decide +kernel
theorem dX10_mice_191 : decode cX10_mice 191 = .ok (.lmul, 1) := by decide +kernel
theorem dX10_mice_192 : decode cX10_mice 192 = .ok (.ladd, 1) := by decide +kernel
theorem dX10_mice_193 : decode cX10_mice 193 = .ok (.lastore, 1) := by decide +kernel
theorem dX10_mice_194 : decode cX10_mice 194 = .ok (.aload_n 0, 1) := by decide +kernel
theorem dX10_mice_195 : decode cX10_mice 195 = .ok (.getfield 43, 3) := by decide +kernel
theorem dX10_mice_198 : decode cX10_mice 198 = .ok (.iload 9, 2) := by decide +kernel
theorem dX10_mice_200 : decode cX10_mice 200 = .ok (.ifCond .le 10, 3) := by decide +kernel
theorem dX10_mice_203 : decode cX10_mice 203 = .ok (.iload 9, 2) := by decide +kernel
theorem dX10_mice_205 : decode cX10_mice 205 = .ok (.iconst 1, 1) := by decide +kernel
theorem dX10_mice_206 : decode cX10_mice 206 = .ok (.isub, 1) := by decide +kernel
theorem dX10_mice_207 : decode cX10_mice 207 = .ok (.goto 4, 3) := by decide +kernel
theorem dX10_mice_210 : decode cX10_mice 210 = .ok (.iconst 0, 1) := by decide +kernel
theorem dX10_mice_211 : decode cX10_mice 211 = .ok (.dup2, 1) := by decide +kernel
theorem dX10_mice_212 : decode cX10_mice 212 = .ok (.laload, 1) := by decide +kernel
theorem dX10_mice_213 : decode cX10_mice 213 = .ok (.iload_n 3, 1) := by decide +kernel
theorem dX10_mice_214 : decode cX10_mice 214 = .ok (.i2l, 1) := by decide +kernel
theorem dX10_mice_215 : decode cX10_mice 215 = .ok (.aload_n 0, 1) := by decide +kernel
theorem dX10_mice_216 : decode cX10_mice 216 = .ok (.getfield 39, 3) := by decide +kernel
theorem dX10_mice_219 : decode cX10_mice 219 = .ok (.iload 8, 2) := by decide +kernel
theorem dX10_mice_221 : decode cX10_mice 221 = .ok (.laload, 1) := by decide +kernel
theorem dX10_mice_222 : decode cX10_mice 222 = .ok (.lmul, 1) := by decide +kernel
theorem dX10_mice_223 : decode cX10_mice 223 = .ok (.ladd, 1) := by decide +kernel
theorem dX10_mice_224 : decode cX10_mice 224 = .ok (.lastore, 1) := by decide +kernel
theorem dX10_mice_225 : decode cX10_mice 225 = .ok (.iinc 8 1, 3) := by decide +kernel
theorem dX10_mice_228 : decode cX10_mice 228 = .ok (.goto (-82), 3) := by decide +kernel
theorem dX10_mice_231 : decode cX10_mice 231 = .ok (.iconst 0, 1) := by decide +kernel
theorem dX10_mice_232 : decode cX10_mice 232 = .ok (.istore 8, 2) := by decide +kernel
theorem dX10_mice_234 : decode cX10_mice 234 = .ok (.iload 8, 2) := by decide +kernel
theorem dX10_mice_236 : decode cX10_mice 236 = .ok (.bipush 61, 2) := by decide +kernel
theorem dX10_mice_238 : decode cX10_mice 238 = .ok (.if_icmp .ge 23, 3) := by decide +kernel
theorem dX10_mice_241 : decode cX10_mice 241 = .ok (.aload_n 0, 1) := by decide +kernel
theorem dX10_mice_242 : decode cX10_mice 242 = .ok (.getfield 39, 3) := by decide +kernel
theorem dX10_mice_245 : decode cX10_mice 245 = .ok (.iload 8, 2) := by decide +kernel
theorem dX10_mice_247 : decode cX10_mice 247 = .ok (.aload_n 0, 1) := by decide +kernel
theorem dX10_mice_248 : decode cX10_mice 248 = .ok (.getfield 43, 3) := by decide +kernel
theorem dX10_mice_251 : decode cX10_mice 251 = .ok (.iload 8, 2) := by decide +kernel
theorem dX10_mice_253 : decode cX10_mice 253 = .ok (.laload, 1) := by decide +kernel
theorem dX10_mice_254 : decode cX10_mice 254 = .ok (.lastore, 1) := by decide +kernel
theorem dX10_mice_255 : decode cX10_mice 255 = .ok (.iinc 8 1, 3) := by decide +kernel
theorem dX10_mice_258 : decode cX10_mice 258 = .ok (.goto (-24), 3) := by decide +kernel
theorem dX10_mice_261 : decode cX10_mice 261 = .ok (.lload 4, 2) := by decide +kernel
theorem dX10_mice_263 : decode cX10_mice 263 = .ok (.ldc2_w 173, 3) := by decide +kernel
theorem dX10_mice_266 : decode cX10_mice 266 = .ok (.lmul, 1) := by decide +kernel
theorem dX10_mice_267 : decode cX10_mice 267 = .ok (.lstore 4, 2) := by decide +kernel
theorem dX10_mice_269 : decode cX10_mice 269 = .ok (.iinc 6 1, 3) := by decide +kernel
theorem dX10_mice_272 : decode cX10_mice 272 = .ok (.goto (-189), 3) := by decide +kernel
theorem dX10_mice_275 : decode cX10_mice 275 = .ok (.aload_n 0, 1) := by decide +kernel
theorem dX10_mice_276 : decode cX10_mice 276 = .ok (.lload 4, 2) := by decide +kernel
theorem dX10_mice_278 : decode cX10_mice 278 = .ok (.aload_n 0, 1) := by decide +kernel
theorem dX10_mice_279 : decode cX10_mice 279 = .ok (.getfield 39, 3) := by decide +kernel
theorem dX10_mice_282 : decode cX10_mice 282 = .ok (.iconst 0, 1) := by decide +kernel
theorem dX10_mice_283 : decode cX10_mice 283 = .ok (.laload, 1) := by decide +kernel
theorem dX10_mice_284 : decode cX10_mice 284 = .ok (.lsub, 1) := by decide +kernel
theorem dX10_mice_285 : decode cX10_mice 285 = .ok (.lload 4, 2) := by decide +kernel
theorem dX10_mice_287 : decode cX10_mice 287 = .ok (.invokevirtual 175, 3) := by decide +kernel
theorem dX10_mice_290 : decode cX10_mice 290 = .ok (.iconst 1, 1) := by decide +kernel
theorem dX10_mice_291 : decode cX10_mice 291 = .ok (.ireturn, 1) := by decide +kernel
theorem dX10_years_0 : decode cX10_years 0 = .ok (.iload_n 1, 1) := by decide +kernel
theorem dX10_years_1 : decode cX10_years 1 = .ok (.iconst 0, 1) := by decide +kernel
theorem dX10_years_2 : decode cX10_years 2 = .ok (.ldc 179, 2) := by decide +kernel
theorem dX10_years_4 : decode cX10_years 4 = .ok (.invokestatic 50, 3) := by decide +kernel
theorem dX10_years_7 : decode cX10_years 7 = .ok (.ifCond .eq 23, 3) := by decide +kernel
theorem dX10_years_10 : decode cX10_years 10 = .ok (.iload_n 2, 1) := by decide +kernel
theorem dX10_years_11 : decode cX10_years 11 = .ok (.iconst 0, 1) := by decide +kernel
theorem dX10_years_12 : decode cX10_years 12 = .ok (.bipush 60, 2) := by decide +kernel
theorem dX10_years_14 : decode cX10_years 14 = .ok (.invokestatic 50, 3) := by decide +kernel
theorem dX10_years_17 : decode cX10_years 17 = .ok (.ifCond .eq 13, 3) := by decide +kernel
theorem dX10_years_20 : decode cX10_years 20 = .ok (.iload_n 3, 1) := by decide +kernel
theorem dX10_years_21 : decode cX10_years 21 = .ok (.iconst 0, 1) := by decide +kernel
theorem dX10_years_22 : decode cX10_years 22 = .ok (.bipush 100, 2) := by decide +kernel
theorem dX10_years_24 : decode cX10_years 24 = .ok (.invokestatic 50, 3) := by decide +kernel
theorem dX10_years_27 : decode cX10_years 27 = .ok (.ifCond .ne 10, 3) := by decide +kernel
theorem dX10_years_30 : decode cX10_years 30 = .ok (.aload_n 0, 1) := by decide +kernel
theorem dX10_years_31 : decode cX10_years 31 = .ok (.bipush (-2), 2) := by decide +kernel
theorem dX10_years_33 : decode cX10_years 33 = .ok (.invokevirtual 54, 3) := by decide +kernel
theorem dX10_years_36 : decode cX10_years 36 = .ok (.ireturn, 1) := by decide +kernel
theorem dX10_years_37 : decode cX10_years 37 = .ok (.aload_n 0, 1) := by decide +kernel
theorem dX10_years_38 : decode cX10_years 38 = .ok (.invokevirtual 164, 3) := by decide +kernel
theorem dX10_years_41 : decode cX10_years 41 = .ok (.iload_n 1, 1) := by decide +kernel
theorem dX10_years_42 : decode cX10_years 42 = .ok (.i2l, 1) := by decide +kernel
theorem dX10_years_43 : decode cX10_years 43 = .ok (.lstore 4, 2) := by decide +kernel
theorem dX10_years_45 : decode cX10_years 45 = .ok (.iconst 0, 1) := by decide +kernel
theorem dX10_years_46 : decode cX10_years 46 = .ok (.istore 6, 2) := by decide +kernel
theorem dX10_years_48 : decode cX10_years 48 = .ok (.iload 6, 2) := by decide +kernel
theorem dX10_years_50 : decode cX10_years 50 = .ok (.iload_n 2, 1) := by decide +kernel
theorem dX10_years_51 : decode cX10_years 51 = .ok (.if_icmp .ge 131, 3) := by decide +kernel
theorem dX10_years_54 : decode cX10_years 54 = .ok (.iconst 0, 1) := by decide +kernel
theorem dX10_years_55 : decode cX10_years 55 = .ok (.istore 7, 2) := by decide +kernel
theorem dX10_years_57 : decode cX10_years 57 = .ok (.iload 7, 2) := by decide +kernel
theorem dX10_years_59 : decode cX10_years 59 = .ok (.aload_n 0, 1) := by decide +kernel
theorem dX10_years_60 : decode cX10_years 60 = .ok (.getfield 7, 3) := by decide +kernel
theorem dX10_years_63 : decode cX10_years 63 = .ok (.iconst 0, 1) := by decide +kernel
theorem dX10_years_64 : decode cX10_years 64 = .ok (.iaload, 1) := by decide +kernel
theorem dX10_years_65 : decode cX10_years 65 = .ok (.if_icmp .ge 111, 3) := by decide +kernel
theorem dX10_years_68 : decode cX10_years 68 = .ok (.lload 4, 2) := by decide +kernel
theorem dX10_years_70 : decode cX10_years 70 = .ok (.ldc2_w 180, 3) := by decide +kernel
theorem dX10_years_73 : decode cX10_years 73 = .ok (.lmul, 1) := by decide +kernel
theorem dX10_years_74 : decode cX10_years 74 = .ok (.ldc2_w 182, 3) := by decide +kernel
theorem dX10_years_77 : decode cX10_years 77 = .ok (.ladd, 1) := by decide +kernel
theorem dX10_years_78 : decode cX10_years 78 = .ok (.ldc2_w 184, 3) := by decide +kernel
theorem dX10_years_81 : decode cX10_years 81 = .ok (.lrem, 1) := by decide +kernel
theorem dX10_years_82 : decode cX10_years 82 = .ok (.lstore 4, 2) := by decide +kernel
theorem dX10_years_84 : decode cX10_years 84 = .ok (.aload_n 0, 1) := by decide +kernel
theorem dX10_years_85 : decode cX10_years 85 = .ok (.aload_n 0, 1) := by decide +kernel
theorem dX10_years_86 : decode cX10_years 86 = .ok (.getfield 7, 3) := by decide +kernel
theorem dX10_years_89 : decode cX10_years 89 = .ok (.bipush 7, 2) := by decide +kernel
theorem dX10_years_91 : decode cX10_years 91 = .ok (.iload 7, 2) := by decide +kernel
theorem dX10_years_93 : decode cX10_years 93 = .ok (.iadd, 1) := by decide +kernel
theorem dX10_years_94 : decode cX10_years 94 = .ok (.iaload, 1) := by decide +kernel
theorem dX10_years_95 : decode cX10_years 95 = .ok (.aload_n 0, 1) := by decide +kernel
theorem dX10_years_96 : decode cX10_years 96 = .ok (.getfield 7, 3) := by decide +kernel
theorem dX10_years_99 : decode cX10_years 99 = .ok (.iconst 2, 1) := by decide +kernel
theorem dX10_years_100 : decode cX10_years 100 = .ok (.iaload, 1) := by decide +kernel
theorem dX10_years_101 : decode cX10_years 101 = .ok (.iload 6, 2) := by decide +kernel
theorem dX10_years_103 : decode cX10_years 103 = .ok (.iadd, 1) := by decide +kernel
theorem dX10_years_104 : decode cX10_years 104 = .ok (.aload_n 0, 1) := by decide +kernel
theorem dX10_years_105 : decode cX10_years 105 = .ok (.getfield 7, 3) := by decide +kernel
theorem dX10_years_108 : decode cX10_years 108 = .ok (.iconst 4, 1) := by decide +kernel
theorem dX10_years_109 : decode cX10_years 109 = .ok (.iaload, 1) := by decide +kernel
theorem dX10_years_110 : decode cX10_years 110 = .ok (.invokevirtual 126, 3) := by decide +kernel
theorem dX10_years_113 : decode cX10_years 113 = .ok (.lload 4, 2) := by decide +kernel
theorem dX10_years_115 : decode cX10_years 115 = .ok (.ldc2_w 186, 3) := by decide +kernel
theorem dX10_years_118 : decode cX10_years 118 = .ok (.ldiv, 1) := by decide +kernel
theorem dX10_years_119 : decode cX10_years 119 = .ok (.ldc2_w 188, 3) := by decide +kernel
theorem dX10_years_122 : decode cX10_years 122 = .ok (.lrem, 1) := by decide +kernel
theorem dX10_years_123 : decode cX10_years 123 = .ok (.iload_n 3, 1) := by decide +kernel
theorem dX10_years_124 : decode cX10_years 124 = .ok (.i2l, 1) := by decide +kernel
theorem dX10_years_125 : decode cX10_years 125 = .ok (.lcmp, 1) := by decide +kernel
theorem dX10_years_126 : decode cX10_years 126 = .ok (.ifCond .ge 7, 3) := by decide +kernel
theorem dX10_years_129 : decode cX10_years 129 = .ok (.iconst 1, 1) := by decide +kernel
theorem dX10_years_130 : decode cX10_years 130 = .ok (.goto 4, 3) := by decide +kernel
theorem dX10_years_133 : decode cX10_years 133 = .ok (.iconst 0, 1) := by decide +kernel
theorem dX10_years_134 : decode cX10_years 134 = .ok (.iadd, 1) := by decide +kernel
theorem dX10_years_135 : decode cX10_years 135 = .ok (.istore 8, 2) := by decide +kernel
theorem dX10_years_137 : decode cX10_years 137 = .ok (.aload_n 0, 1) := by decide +kernel
theorem dX10_years_138 : decode cX10_years 138 = .ok (.getfield 33, 3) := by decide +kernel
theorem dX10_years_141 : decode cX10_years 141 = .ok (.iload 7, 2) := by decide +kernel
theorem dX10_years_143 : decode cX10_years 143 = .ok (.aload_n 0, 1) := by decide +kernel
theorem dX10_years_144 : decode cX10_years 144 = .ok (.getfield 33, 3) := by decide +kernel
theorem dX10_years_147 : decode cX10_years 147 = .ok (.iload 7, 2) := by decide +kernel
theorem dX10_years_149 : decode cX10_years 149 = .ok (.iaload, 1) := by decide +kernel
theorem dX10_years_150 : decode cX10_years 150 = .ok (.iload 8, 2) := by decide +kernel
theorem dX10_years_152 : decode cX10_years 152 = .ok (.if_icmp .le 16, 3) := by decide +kernel
theorem dX10_years_155 : decode cX10_years 155 = .ok (.aload_n 0, 1) := by decide +kernel
theorem dX10_years_156 : decode cX10_years 156 = .ok (.getfield 33, 3) := by decide +kernel
theorem dX10_years_159 : decode cX10_years 159 = .ok (.iload 7, 2) := by decide +kernel
theorem dX10_years_161 : decode cX10_years 161 = .ok (.iaload, 1) := by decide +kernel
theorem dX10_years_162 : decode cX10_years 162 = .ok (.iload 8, 2) := by decide +kernel
theorem dX10_years_164 : decode cX10_years 164 = .ok (.isub, 1) := by decide +kernel
theorem dX10_years_165 : decode cX10_years 165 = .ok (.goto 4, 3) := by decide +kernel
theorem dX10_years_168 : decode cX10_years 168 = .ok (.iconst 0, 1) := by decide +kernel
theorem dX10_years_169 : decode cX10_years 169 = .ok (.iastore, 1) := by decide +kernel
theorem dX10_years_170 : decode cX10_years 170 = .ok (.iinc 7 1, 3) := by decide +kernel
theorem dX10_years_173 : decode cX10_years 173 = .ok (.goto (-116), 3) := by decide +kernel
theorem dX10_years_176 : decode cX10_years 176 = .ok (.iinc 6 1, 3) := by decide +kernel
theorem dX10_years_179 : decode cX10_years 179 = .ok (.goto (-131), 3) := by decide +kernel
theorem dX10_years_182 : decode cX10_years 182 = .ok (.iconst 0, 1) := by decide +kernel
theorem dX10_years_183 : decode cX10_years 183 = .ok (.istore 6, 2) := by decide +kernel
theorem dX10_years_185 : decode cX10_years 185 = .ok (.iconst 0, 1) := by decide +kernel
theorem dX10_years_186 : decode cX10_years 186 = .ok (.istore 7, 2) := by decide +kernel
theorem dX10_years_188 : decode cX10_years 188 = .ok (.iload 7, 2) := by decide +kernel
theorem dX10_years_190 : decode cX10_years 190 = .ok (.aload_n 0, 1) := by decide +kernel
theorem dX10_years_191 : decode cX10_years 191 = .ok (.getfield 7, 3) := by decide +kernel
theorem dX10_years_194 : decode cX10_years 194 = .ok (.iconst 0, 1) := by decide +kernel
theorem dX10_years_195 : decode cX10_years 195 = .ok (.iaload, 1) := by decide +kernel
theorem dX10_years_196 : decode cX10_years 196 = .ok (.if_icmp .ge 21, 3) := by decide +kernel
theorem dX10_years_199 : decode cX10_years 199 = .ok (.iload 6, 2) := by decide +kernel
theorem dX10_years_201 : decode cX10_years 201 = .ok (.aload_n 0, 1) := by decide +kernel
theorem dX10_years_202 : decode cX10_years 202 = .ok (.getfield 33, 3) := by decide +kernel
theorem dX10_years_205 : decode cX10_years 205 = .ok (.iload 7, 2) := by decide +kernel
theorem dX10_years_207 : decode cX10_years 207 = .ok (.iaload, 1) := by decide +kernel
theorem dX10_years_208 : decode cX10_years 208 = .ok (.iadd, 1) := by decide +kernel
theorem dX10_years_209 : decode cX10_years 209 = .ok (.istore 6, 2) := by decide +kernel
theorem dX10_years_211 : decode cX10_years 211 = .ok (.iinc 7 1, 3) := by decide +kernel
theorem dX10_years_214 : decode cX10_years 214 = .ok (.goto (-26), 3) := by decide +kernel
theorem dX10_years_217 : decode cX10_years 217 = .ok (.iload 6, 2) := by decide +kernel
theorem dX10_years_219 : decode cX10_years 219 = .ok (.ireturn, 1) := by decide +kernel
theorem dX10_part_0 : decode cX10_part 0 = .ok (.iload_n 1, 1) := by decide +kernel
theorem dX10_part_1 : decode cX10_part 1 = .ok (.ifCond .ne 10, 3) := by decide +kernel
theorem dX10_part_4 : decode cX10_part 4 = .ok (.aload_n 0, 1) := by decide +kernel
theorem dX10_part_5 : decode cX10_part 5 = .ok (.getfield 170, 3) := by decide +kernel
theorem dX10_part_8 : decode cX10_part 8 = .ok (.goto 22, 3) := by decide +kernel
theorem dX10_part_11 : decode cX10_part 11 = .ok (.iload_n 1, 1) := by decide +kernel
theorem dX10_part_12 : decode cX10_part 12 = .ok (.iconst 1, 1) := by decide +kernel
theorem dX10_part_13 : decode cX10_part 13 = .ok (.if_icmp .ne 10, 3) := by decide +kernel
theorem dX10_part_16 : decode cX10_part 16 = .ok (.aload_n 0, 1) := by decide +kernel
theorem dX10_part_17 : decode cX10_part 17 = .ok (.getfield 26, 3) := by decide +kernel
theorem dX10_part_20 : decode cX10_part 20 = .ok (.goto 10, 3) := by decide +kernel
theorem dX10_part_23 : decode cX10_part 23 = .ok (.aload_n 0, 1) := by decide +kernel
theorem dX10_part_24 : decode cX10_part 24 = .ok (.bipush (-2), 2) := by decide +kernel
theorem dX10_part_26 : decode cX10_part 26 = .ok (.invokevirtual 54, 3) := by decide +kernel
theorem dX10_part_29 : decode cX10_part 29 = .ok (.i2l, 1) := by decide +kernel
theorem dX10_part_30 : decode cX10_part 30 = .ok (.lreturn, 1) := by decide +kernel
theorem dX10_image_0 : decode cX10_image 0 = .ok (.iload_n 1, 1) := by decide +kernel
theorem dX10_image_1 : decode cX10_image 1 = .ok (.iconst 0, 1) := by decide +kernel
theorem dX10_image_2 : decode cX10_image 2 = .ok (.iconst 1, 1) := by decide +kernel
theorem dX10_image_3 : decode cX10_image 3 = .ok (.invokestatic 50, 3) := by decide +kernel
theorem dX10_image_6 : decode cX10_image 6 = .ok (.ifCond .ne 10, 3) := by decide +kernel
theorem dX10_image_9 : decode cX10_image 9 = .ok (.aload_n 0, 1) := by decide +kernel
theorem dX10_image_10 : decode cX10_image 10 = .ok (.bipush (-2), 2) := by decide +kernel
theorem dX10_image_12 : decode cX10_image 12 = .ok (.invokevirtual 54, 3) := by decide +kernel
theorem dX10_image_15 : decode cX10_image 15 = .ok (.ireturn, 1) := by decide +kernel
theorem dX10_image_16 : decode cX10_image 16 = .ok (.aload_n 0, 1) := by decide +kernel
theorem dX10_image_17 : decode cX10_image 17 = .ok (.getfield 7, 3) := by decide +kernel
theorem dX10_image_20 : decode cX10_image 20 = .ok (.iconst 0, 1) := by decide +kernel
theorem dX10_image_21 : decode cX10_image 21 = .ok (.aload_n 0, 1) := by decide +kernel
theorem dX10_image_22 : decode cX10_image 22 = .ok (.getfield 16, 3) := by decide +kernel
theorem dX10_image_25 : decode cX10_image 25 = .ok (.sipush 167, 3) := by decide +kernel
theorem dX10_image_28 : decode cX10_image 28 = .ok (.iload_n 1, 1) := by decide +kernel
theorem dX10_image_29 : decode cX10_image 29 = .ok (.imul, 1) := by decide +kernel
theorem dX10_image_30 : decode cX10_image 30 = .ok (.invokestatic 119, 3) := by decide +kernel
theorem dX10_image_33 : decode cX10_image 33 = .ok (.aload_n 0, 1) := by decide +kernel
theorem dX10_image_34 : decode cX10_image 34 = .ok (.getfield 19, 3) := by decide +kernel
theorem dX10_image_37 : decode cX10_image 37 = .ok (.iload_n 1, 1) := by decide +kernel
theorem dX10_image_38 : decode cX10_image 38 = .ok (.iconst 1, 1) := by decide +kernel
theorem dX10_image_39 : decode cX10_image 39 = .ok (.bastore, 1) := by decide +kernel
theorem dX10_image_40 : decode cX10_image 40 = .ok (.iconst 1, 1) := by decide +kernel
theorem dX10_image_41 : decode cX10_image 41 = .ok (.ireturn, 1) := by decide +kernel
theorem dX10_from_0 : decode cX10_from 0 = .ok (.iload_n 1, 1) := by decide +kernel
theorem dX10_from_1 : decode cX10_from 1 = .ok (.iconst 0, 1) := by decide +kernel
theorem dX10_from_2 : decode cX10_from 2 = .ok (.iconst 1, 1) := by decide +kernel
theorem dX10_from_3 : decode cX10_from 3 = .ok (.invokestatic 50, 3) := by decide +kernel
theorem dX10_from_6 : decode cX10_from 6 = .ok (.ifCond .ne 10, 3) := by decide +kernel
theorem dX10_from_9 : decode cX10_from 9 = .ok (.aload_n 0, 1) := by decide +kernel
theorem dX10_from_10 : decode cX10_from 10 = .ok (.bipush (-2), 2) := by decide +kernel
theorem dX10_from_12 : decode cX10_from 12 = .ok (.invokevirtual 54, 3) := by decide +kernel
theorem dX10_from_15 : decode cX10_from 15 = .ok (.ireturn, 1) := by decide +kernel
theorem dX10_from_16 : decode cX10_from 16 = .ok (.aload_n 0, 1) := by decide +kernel
theorem dX10_from_17 : decode cX10_from 17 = .ok (.getfield 19, 3) := by decide +kernel
theorem dX10_from_20 : decode cX10_from 20 = .ok (.iload_n 1, 1) := by decide +kernel
theorem dX10_from_21 : decode cX10_from 21 = .ok (.baload, 1) := by decide +kernel
theorem dX10_from_22 : decode cX10_from 22 = .ok (.ifCond .ne 10, 3) := by decide +kernel
theorem dX10_from_25 : decode cX10_from 25 = .ok (.aload_n 0, 1) := by decide +kernel
theorem dX10_from_26 : decode cX10_from 26 = .ok (.bipush (-3), 2) := by decide +kernel
theorem dX10_from_28 : decode cX10_from 28 = .ok (.invokevirtual 54, 3) := by decide +kernel
theorem dX10_from_31 : decode cX10_from 31 = .ok (.ireturn, 1) := by decide +kernel
theorem dX10_from_32 : decode cX10_from 32 = .ok (.aload_n 0, 1) := by decide +kernel
theorem dX10_from_33 : decode cX10_from 33 = .ok (.getfield 16, 3) := by decide +kernel
theorem dX10_from_36 : decode cX10_from 36 = .ok (.sipush 167, 3) := by decide +kernel
theorem dX10_from_39 : decode cX10_from 39 = .ok (.iload_n 1, 1) := by decide +kernel
theorem dX10_from_40 : decode cX10_from 40 = .ok (.imul, 1) := by decide +kernel
theorem dX10_from_41 : decode cX10_from 41 = .ok (.aload_n 0, 1) := by decide +kernel
theorem dX10_from_42 : decode cX10_from 42 = .ok (.getfield 7, 3) := by decide +kernel
theorem dX10_from_45 : decode cX10_from 45 = .ok (.iconst 0, 1) := by decide +kernel
theorem dX10_from_46 : decode cX10_from 46 = .ok (.invokestatic 119, 3) := by decide +kernel
theorem dX10_from_49 : decode cX10_from 49 = .ok (.iconst 1, 1) := by decide +kernel
theorem dX10_from_50 : decode cX10_from 50 = .ok (.ireturn, 1) := by decide +kernel
theorem dX10_status_0 : decode cX10_status 0 = .ok (.iload_n 1, 1) := by decide +kernel
theorem dX10_status_1 : decode cX10_status 1 = .ok (.iconst 0, 1) := by decide +kernel
theorem dX10_status_2 : decode cX10_status 2 = .ok (.iconst 2, 1) := by decide +kernel
theorem dX10_status_3 : decode cX10_status 3 = .ok (.invokestatic 50, 3) := by decide +kernel
theorem dX10_status_6 : decode cX10_status 6 = .ok (.ifCond .ne 12, 3) := by decide +kernel
theorem dX10_status_9 : decode cX10_status 9 = .ok (.aload_n 0, 1) := by decide +kernel
theorem dX10_status_10 : decode cX10_status 10 = .ok (.bipush (-2), 2) := by decide +kernel
theorem dX10_status_12 : decode cX10_status 12 = .ok (.invokevirtual 54, 3) := by decide +kernel
theorem dX10_status_15 : decode cX10_status 15 = .ok (.pop, 1) := by decide +kernel
theorem dX10_status_16 : decode cX10_status 16 = .ok (.iconst (-1), 1) := by decide +kernel
theorem dX10_status_17 : decode cX10_status 17 = .ok (.ireturn, 1) := by decide +kernel
theorem dX10_status_18 : decode cX10_status 18 = .ok (.aload_n 0, 1) := by decide +kernel
theorem dX10_status_19 : decode cX10_status 19 = .ok (.getfield 30, 3) := by decide +kernel
theorem dX10_status_22 : decode cX10_status 22 = .ok (.iload_n 1, 1) := by decide +kernel
theorem dX10_status_23 : decode cX10_status 23 = .ok (.iaload, 1) := by decide +kernel
theorem dX10_status_24 : decode cX10_status 24 = .ok (.ireturn, 1) := by decide +kernel
theorem dX10_countOf_0 : decode cX10_countOf 0 = .ok (.iconst 0, 1) := by decide +kernel
theorem dX10_countOf_1 : decode cX10_countOf 1 = .ok (.istore_n 2, 1) := by decide +kernel
theorem dX10_countOf_2 : decode cX10_countOf 2 = .ok (.iconst 0, 1) := by decide +kernel
theorem dX10_countOf_3 : decode cX10_countOf 3 = .ok (.istore_n 3, 1) := by decide +kernel
theorem dX10_countOf_4 : decode cX10_countOf 4 = .ok (.iload_n 3, 1) := by decide +kernel
theorem dX10_countOf_5 : decode cX10_countOf 5 = .ok (.aload_n 0, 1) := by decide +kernel
theorem dX10_countOf_6 : decode cX10_countOf 6 = .ok (.getfield 7, 3) := by decide +kernel
theorem dX10_countOf_9 : decode cX10_countOf 9 = .ok (.iconst 0, 1) := by decide +kernel
theorem dX10_countOf_10 : decode cX10_countOf 10 = .ok (.iaload, 1) := by decide +kernel
theorem dX10_countOf_11 : decode cX10_countOf 11 = .ok (.if_icmp .ge 21, 3) := by decide +kernel
theorem dX10_countOf_14 : decode cX10_countOf 14 = .ok (.iload_n 2, 1) := by decide +kernel
theorem dX10_countOf_15 : decode cX10_countOf 15 = .ok (.aload_n 0, 1) := by decide +kernel
theorem dX10_countOf_16 : decode cX10_countOf 16 = .ok (.getfield 7, 3) := by decide +kernel
theorem dX10_countOf_19 : decode cX10_countOf 19 = .ok (.bipush 13, 2) := by decide +kernel
theorem dX10_countOf_21 : decode cX10_countOf 21 = .ok (.iload_n 3, 1) := by decide +kernel
theorem dX10_countOf_22 : decode cX10_countOf 22 = .ok (.iadd, 1) := by decide +kernel
theorem dX10_countOf_23 : decode cX10_countOf 23 = .ok (.iaload, 1) := by decide +kernel
theorem dX10_countOf_24 : decode cX10_countOf 24 = .ok (.iadd, 1) := by decide +kernel
theorem dX10_countOf_25 : decode cX10_countOf 25 = .ok (.istore_n 2, 1) := by decide +kernel
theorem dX10_countOf_26 : decode cX10_countOf 26 = .ok (.iinc 3 1, 3) := by decide +kernel
theorem dX10_countOf_29 : decode cX10_countOf 29 = .ok (.goto (-25), 3) := by decide +kernel
theorem dX10_countOf_32 : decode cX10_countOf 32 = .ok (.iload_n 1, 1) := by decide +kernel
theorem dX10_countOf_33 : decode cX10_countOf 33 = .ok (.tableswitch 77 0 5 #[39, 46, 53, 60, 62, 69], 39) := by decide +kernel
theorem dX10_countOf_72 : decode cX10_countOf 72 = .ok (.aload_n 0, 1) := by decide +kernel
theorem dX10_countOf_73 : decode cX10_countOf 73 = .ok (.getfield 7, 3) := by decide +kernel
theorem dX10_countOf_76 : decode cX10_countOf 76 = .ok (.iconst 0, 1) := by decide +kernel
theorem dX10_countOf_77 : decode cX10_countOf 77 = .ok (.iaload, 1) := by decide +kernel
theorem dX10_countOf_78 : decode cX10_countOf 78 = .ok (.ireturn, 1) := by decide +kernel
theorem dX10_countOf_79 : decode cX10_countOf 79 = .ok (.aload_n 0, 1) := by decide +kernel
theorem dX10_countOf_80 : decode cX10_countOf 80 = .ok (.getfield 7, 3) := by decide +kernel
theorem dX10_countOf_83 : decode cX10_countOf 83 = .ok (.iconst 1, 1) := by decide +kernel
theorem dX10_countOf_84 : decode cX10_countOf 84 = .ok (.iaload, 1) := by decide +kernel
theorem dX10_countOf_85 : decode cX10_countOf 85 = .ok (.ireturn, 1) := by decide +kernel
theorem dX10_countOf_86 : decode cX10_countOf 86 = .ok (.aload_n 0, 1) := by decide +kernel
theorem dX10_countOf_87 : decode cX10_countOf 87 = .ok (.getfield 7, 3) := by decide +kernel
theorem dX10_countOf_90 : decode cX10_countOf 90 = .ok (.iconst 2, 1) := by decide +kernel
theorem dX10_countOf_91 : decode cX10_countOf 91 = .ok (.iaload, 1) := by decide +kernel
theorem dX10_countOf_92 : decode cX10_countOf 92 = .ok (.ireturn, 1) := by decide +kernel
theorem dX10_countOf_93 : decode cX10_countOf 93 = .ok (.iload_n 2, 1) := by decide +kernel
theorem dX10_countOf_94 : decode cX10_countOf 94 = .ok (.ireturn, 1) := by decide +kernel
theorem dX10_countOf_95 : decode cX10_countOf 95 = .ok (.aload_n 0, 1) := by decide +kernel
theorem dX10_countOf_96 : decode cX10_countOf 96 = .ok (.getfield 7, 3) := by decide +kernel
theorem dX10_countOf_99 : decode cX10_countOf 99 = .ok (.iconst 5, 1) := by decide +kernel
theorem dX10_countOf_100 : decode cX10_countOf 100 = .ok (.iaload, 1) := by decide +kernel
theorem dX10_countOf_101 : decode cX10_countOf 101 = .ok (.ireturn, 1) := by decide +kernel
theorem dX10_countOf_102 : decode cX10_countOf 102 = .ok (.aload_n 0, 1) := by decide +kernel
theorem dX10_countOf_103 : decode cX10_countOf 103 = .ok (.getfield 7, 3) := by decide +kernel
theorem dX10_countOf_106 : decode cX10_countOf 106 = .ok (.bipush 6, 2) := by decide +kernel
theorem dX10_countOf_108 : decode cX10_countOf 108 = .ok (.iaload, 1) := by decide +kernel
theorem dX10_countOf_109 : decode cX10_countOf 109 = .ok (.ireturn, 1) := by decide +kernel
theorem dX10_countOf_110 : decode cX10_countOf 110 = .ok (.aload_n 0, 1) := by decide +kernel
theorem dX10_countOf_111 : decode cX10_countOf 111 = .ok (.getfield 66, 3) := by decide +kernel
theorem dX10_countOf_114 : decode cX10_countOf 114 = .ok (.ireturn, 1) := by decide +kernel
theorem dX10_count_0 : decode cX10_count 0 = .ok (.iload_n 1, 1) := by decide +kernel
theorem dX10_count_1 : decode cX10_count 1 = .ok (.iconst 0, 1) := by decide +kernel
theorem dX10_count_2 : decode cX10_count 2 = .ok (.bipush 6, 2) := by decide +kernel
theorem dX10_count_4 : decode cX10_count 4 = .ok (.invokestatic 50, 3) := by decide +kernel
theorem dX10_count_7 : decode cX10_count 7 = .ok (.ifCond .eq 11, 3) := by decide +kernel
theorem dX10_count_10 : decode cX10_count 10 = .ok (.aload_n 0, 1) := by decide +kernel
theorem dX10_count_11 : decode cX10_count 11 = .ok (.iload_n 1, 1) := by decide +kernel
theorem dX10_count_12 : decode cX10_count 12 = .ok (.invokevirtual 190, 3) := by decide +kernel
theorem dX10_count_15 : decode cX10_count 15 = .ok (.goto 9, 3) := by decide +kernel
theorem dX10_count_18 : decode cX10_count 18 = .ok (.aload_n 0, 1) := by decide +kernel
theorem dX10_count_19 : decode cX10_count 19 = .ok (.bipush (-2), 2) := by decide +kernel
theorem dX10_count_21 : decode cX10_count 21 = .ok (.invokevirtual 54, 3) := by decide +kernel
theorem dX10_count_24 : decode cX10_count 24 = .ok (.ireturn, 1) := by decide +kernel
theorem dX10_add_0 : decode cX10_add 0 = .ok (.aload_n 0, 1) := by decide +kernel
theorem dX10_add_1 : decode cX10_add 1 = .ok (.ldc2_w 193, 3) := by decide +kernel
theorem dX10_add_4 : decode cX10_add 4 = .ok (.aload_n 0, 1) := by decide +kernel
theorem dX10_add_5 : decode cX10_add 5 = .ok (.getfield 195, 3) := by decide +kernel
theorem dX10_add_8 : decode cX10_add 8 = .ok (.lmul, 1) := by decide +kernel
theorem dX10_add_9 : decode cX10_add 9 = .ok (.lload_n 1, 1) := by decide +kernel
theorem dX10_add_10 : decode cX10_add 10 = .ok (.ladd, 1) := by decide +kernel
theorem dX10_add_11 : decode cX10_add 11 = .ok (.putfield 195, 3) := by decide +kernel
theorem dX10_add_14 : decode cX10_add 14 = .ok (.return_, 1) := by decide +kernel
theorem dX10_digest_0 : decode cX10_digest 0 = .ok (.aload_n 0, 1) := by decide +kernel
theorem dX10_digest_1 : decode cX10_digest 1 = .ok (.ldc2_w 198, 3) := by decide +kernel
theorem dX10_digest_4 : decode cX10_digest 4 = .ok (.putfield 195, 3) := by decide +kernel
theorem dX10_digest_7 : decode cX10_digest 7 = .ok (.iconst 0, 1) := by decide +kernel
theorem dX10_digest_8 : decode cX10_digest 8 = .ok (.istore_n 1, 1) := by decide +kernel
theorem dX10_digest_9 : decode cX10_digest 9 = .ok (.iload_n 1, 1) := by decide +kernel
theorem dX10_digest_10 : decode cX10_digest 10 = .ok (.bipush 7, 2) := by decide +kernel
theorem dX10_digest_12 : decode cX10_digest 12 = .ok (.if_icmp .ge 19, 3) := by decide +kernel
theorem dX10_digest_15 : decode cX10_digest 15 = .ok (.aload_n 0, 1) := by decide +kernel
theorem dX10_digest_16 : decode cX10_digest 16 = .ok (.aload_n 0, 1) := by decide +kernel
theorem dX10_digest_17 : decode cX10_digest 17 = .ok (.iload_n 1, 1) := by decide +kernel
theorem dX10_digest_18 : decode cX10_digest 18 = .ok (.invokevirtual 190, 3) := by decide +kernel
theorem dX10_digest_21 : decode cX10_digest 21 = .ok (.i2l, 1) := by decide +kernel
theorem dX10_digest_22 : decode cX10_digest 22 = .ok (.invokevirtual 200, 3) := by decide +kernel
theorem dX10_digest_25 : decode cX10_digest 25 = .ok (.iinc 1 1, 3) := by decide +kernel
theorem dX10_digest_28 : decode cX10_digest 28 = .ok (.goto (-19), 3) := by decide +kernel
theorem dX10_digest_31 : decode cX10_digest 31 = .ok (.aload_n 0, 1) := by decide +kernel
theorem dX10_digest_32 : decode cX10_digest 32 = .ok (.aload_n 0, 1) := by decide +kernel
theorem dX10_digest_33 : decode cX10_digest 33 = .ok (.getfield 7, 3) := by decide +kernel
theorem dX10_digest_36 : decode cX10_digest 36 = .ok (.iconst 3, 1) := by decide +kernel
theorem dX10_digest_37 : decode cX10_digest 37 = .ok (.iaload, 1) := by decide +kernel
theorem dX10_digest_38 : decode cX10_digest 38 = .ok (.i2l, 1) := by decide +kernel
theorem dX10_digest_39 : decode cX10_digest 39 = .ok (.invokevirtual 200, 3) := by decide +kernel
theorem dX10_digest_42 : decode cX10_digest 42 = .ok (.aload_n 0, 1) := by decide +kernel
theorem dX10_digest_43 : decode cX10_digest 43 = .ok (.aload_n 0, 1) := by decide +kernel
theorem dX10_digest_44 : decode cX10_digest 44 = .ok (.getfield 7, 3) := by decide +kernel
theorem dX10_digest_47 : decode cX10_digest 47 = .ok (.iconst 4, 1) := by decide +kernel
theorem dX10_digest_48 : decode cX10_digest 48 = .ok (.iaload, 1) := by decide +kernel
theorem dX10_digest_49 : decode cX10_digest 49 = .ok (.i2l, 1) := by decide +kernel
theorem dX10_digest_50 : decode cX10_digest 50 = .ok (.invokevirtual 200, 3) := by decide +kernel
theorem dX10_digest_53 : decode cX10_digest 53 = .ok (.iconst 0, 1) := by decide +kernel
theorem dX10_digest_54 : decode cX10_digest 54 = .ok (.istore_n 1, 1) := by decide +kernel
theorem dX10_digest_55 : decode cX10_digest 55 = .ok (.iload_n 1, 1) := by decide +kernel
theorem dX10_digest_56 : decode cX10_digest 56 = .ok (.aload_n 0, 1) := by decide +kernel
theorem dX10_digest_57 : decode cX10_digest 57 = .ok (.getfield 7, 3) := by decide +kernel
theorem dX10_digest_60 : decode cX10_digest 60 = .ok (.iconst 0, 1) := by decide +kernel
theorem dX10_digest_61 : decode cX10_digest 61 = .ok (.iaload, 1) := by decide +kernel
theorem dX10_digest_62 : decode cX10_digest 62 = .ok (.if_icmp .ge 41, 3) := by decide +kernel
theorem dX10_digest_65 : decode cX10_digest 65 = .ok (.iconst 0, 1) := by decide +kernel
theorem dX10_digest_66 : decode cX10_digest 66 = .ok (.istore_n 2, 1) := by decide +kernel
theorem dX10_digest_67 : decode cX10_digest 67 = .ok (.iload_n 2, 1) := by decide +kernel
theorem dX10_digest_68 : decode cX10_digest 68 = .ok (.iconst 4, 1) := by decide +kernel
theorem dX10_digest_69 : decode cX10_digest 69 = .ok (.if_icmp .ge 28, 3) := by decide +kernel
theorem dX10_digest_72 : decode cX10_digest 72 = .ok (.aload_n 0, 1) := by decide +kernel
theorem dX10_digest_73 : decode cX10_digest 73 = .ok (.aload_n 0, 1) := by decide +kernel
theorem dX10_digest_74 : decode cX10_digest 74 = .ok (.getfield 7, 3) := by decide +kernel
theorem dX10_digest_77 : decode cX10_digest 77 = .ok (.bipush 7, 2) := by decide +kernel
theorem dX10_digest_79 : decode cX10_digest 79 = .ok (.bipush 6, 2) := by decide +kernel
theorem dX10_digest_81 : decode cX10_digest 81 = .ok (.iload_n 2, 1) := by decide +kernel
theorem dX10_digest_82 : decode cX10_digest 82 = .ok (.imul, 1) := by decide +kernel
theorem dX10_digest_83 : decode cX10_digest 83 = .ok (.iadd, 1) := by decide +kernel
theorem dX10_digest_84 : decode cX10_digest 84 = .ok (.iload_n 1, 1) := by decide +kernel
theorem dX10_digest_85 : decode cX10_digest 85 = .ok (.iadd, 1) := by decide +kernel
theorem dX10_digest_86 : decode cX10_digest 86 = .ok (.iaload, 1) := by decide +kernel
theorem dX10_digest_87 : decode cX10_digest 87 = .ok (.i2l, 1) := by decide +kernel
theorem dX10_digest_88 : decode cX10_digest 88 = .ok (.invokevirtual 200, 3) := by decide +kernel
theorem dX10_digest_91 : decode cX10_digest 91 = .ok (.iinc 2 1, 3) := by decide +kernel
theorem dX10_digest_94 : decode cX10_digest 94 = .ok (.goto (-27), 3) := by decide +kernel
theorem dX10_digest_97 : decode cX10_digest 97 = .ok (.iinc 1 1, 3) := by decide +kernel
theorem dX10_digest_100 : decode cX10_digest 100 = .ok (.goto (-45), 3) := by decide +kernel
theorem dX10_digest_103 : decode cX10_digest 103 = .ok (.iconst 0, 1) := by decide +kernel
theorem dX10_digest_104 : decode cX10_digest 104 = .ok (.istore_n 1, 1) := by decide +kernel
theorem dX10_digest_105 : decode cX10_digest 105 = .ok (.iload_n 1, 1) := by decide +kernel
theorem dX10_digest_106 : decode cX10_digest 106 = .ok (.aload_n 0, 1) := by decide +kernel
theorem dX10_digest_107 : decode cX10_digest 107 = .ok (.getfield 7, 3) := by decide +kernel
theorem dX10_digest_110 : decode cX10_digest 110 = .ok (.iconst 1, 1) := by decide +kernel
theorem dX10_digest_111 : decode cX10_digest 111 = .ok (.iaload, 1) := by decide +kernel
theorem dX10_digest_112 : decode cX10_digest 112 = .ok (.if_icmp .ge 23, 3) := by decide +kernel
theorem dX10_digest_115 : decode cX10_digest 115 = .ok (.aload_n 0, 1) := by decide +kernel
theorem dX10_digest_116 : decode cX10_digest 116 = .ok (.aload_n 0, 1) := by decide +kernel
theorem dX10_digest_117 : decode cX10_digest 117 = .ok (.getfield 7, 3) := by decide +kernel
theorem dX10_digest_120 : decode cX10_digest 120 = .ok (.bipush 31, 2) := by decide +kernel
theorem dX10_digest_122 : decode cX10_digest 122 = .ok (.iload_n 1, 1) := by decide +kernel
theorem dX10_digest_123 : decode cX10_digest 123 = .ok (.iadd, 1) := by decide +kernel
theorem dX10_digest_124 : decode cX10_digest 124 = .ok (.iaload, 1) := by decide +kernel
theorem dX10_digest_125 : decode cX10_digest 125 = .ok (.i2l, 1) := by decide +kernel
theorem dX10_digest_126 : decode cX10_digest 126 = .ok (.invokevirtual 200, 3) := by decide +kernel
theorem dX10_digest_129 : decode cX10_digest 129 = .ok (.iinc 1 1, 3) := by decide +kernel
theorem dX10_digest_132 : decode cX10_digest 132 = .ok (.goto (-27), 3) := by decide +kernel
theorem dX10_digest_135 : decode cX10_digest 135 = .ok (.iconst 0, 1) := by decide +kernel
theorem dX10_digest_136 : decode cX10_digest 136 = .ok (.istore_n 1, 1) := by decide +kernel
theorem dX10_digest_137 : decode cX10_digest 137 = .ok (.iload_n 1, 1) := by decide +kernel
theorem dX10_digest_138 : decode cX10_digest 138 = .ok (.iconst 3, 1) := by decide +kernel
theorem dX10_digest_139 : decode cX10_digest 139 = .ok (.aload_n 0, 1) := by decide +kernel
theorem dX10_digest_140 : decode cX10_digest 140 = .ok (.getfield 7, 3) := by decide +kernel
theorem dX10_digest_143 : decode cX10_digest 143 = .ok (.iconst 5, 1) := by decide +kernel
theorem dX10_digest_144 : decode cX10_digest 144 = .ok (.iaload, 1) := by decide +kernel
theorem dX10_digest_145 : decode cX10_digest 145 = .ok (.imul, 1) := by decide +kernel
theorem dX10_digest_146 : decode cX10_digest 146 = .ok (.if_icmp .ge 23, 3) := by decide +kernel
theorem dX10_digest_149 : decode cX10_digest 149 = .ok (.aload_n 0, 1) := by decide +kernel
theorem dX10_digest_150 : decode cX10_digest 150 = .ok (.aload_n 0, 1) := by decide +kernel
theorem dX10_digest_151 : decode cX10_digest 151 = .ok (.getfield 7, 3) := by decide +kernel
theorem dX10_digest_154 : decode cX10_digest 154 = .ok (.bipush 39, 2) := by decide +kernel
theorem dX10_digest_156 : decode cX10_digest 156 = .ok (.iload_n 1, 1) := by decide +kernel
theorem dX10_digest_157 : decode cX10_digest 157 = .ok (.iadd, 1) := by decide +kernel
theorem dX10_digest_158 : decode cX10_digest 158 = .ok (.iaload, 1) := by decide +kernel
theorem dX10_digest_159 : decode cX10_digest 159 = .ok (.i2l, 1) := by decide +kernel
theorem dX10_digest_160 : decode cX10_digest 160 = .ok (.invokevirtual 200, 3) := by decide +kernel
theorem dX10_digest_163 : decode cX10_digest 163 = .ok (.iinc 1 1, 3) := by decide +kernel
theorem dX10_digest_166 : decode cX10_digest 166 = .ok (.goto (-29), 3) := by decide +kernel
theorem dX10_digest_169 : decode cX10_digest 169 = .ok (.aload_n 0, 1) := by decide +kernel
theorem dX10_digest_170 : decode cX10_digest 170 = .ok (.aload_n 0, 1) := by decide +kernel
theorem dX10_digest_171 : decode cX10_digest 171 = .ok (.getfield 170, 3) := by decide +kernel
theorem dX10_digest_174 : decode cX10_digest 174 = .ok (.invokevirtual 200, 3) := by decide +kernel
theorem dX10_digest_177 : decode cX10_digest 177 = .ok (.aload_n 0, 1) := by decide +kernel
theorem dX10_digest_178 : decode cX10_digest 178 = .ok (.aload_n 0, 1) := by decide +kernel
theorem dX10_digest_179 : decode cX10_digest 179 = .ok (.getfield 26, 3) := by decide +kernel
theorem dX10_digest_182 : decode cX10_digest 182 = .ok (.invokevirtual 200, 3) := by decide +kernel
theorem dX10_digest_185 : decode cX10_digest 185 = .ok (.aload_n 0, 1) := by decide +kernel
theorem dX10_digest_186 : decode cX10_digest 186 = .ok (.getfield 195, 3) := by decide +kernel
theorem dX10_digest_189 : decode cX10_digest 189 = .ok (.lreturn, 1) := by decide +kernel
end
section
theorem dL_law_0 : decode cL_law 0 = .ok (.new 7, 3) := by decide +kernel
theorem dL_law_3 : decode cL_law 3 = .ok (.dup, 1) := by decide +kernel
theorem dL_law_4 : decode cL_law 4 = .ok (.invokespecial 9, 3) := by decide +kernel
theorem dL_law_7 : decode cL_law 7 = .ok (.astore_n 1, 1) := by decide +kernel
theorem dL_law_8 : decode cL_law 8 = .ok (.new 10, 3) := by decide +kernel
theorem dL_law_11 : decode cL_law 11 = .ok (.dup, 1) := by decide +kernel
theorem dL_law_12 : decode cL_law 12 = .ok (.invokespecial 12, 3) := by decide +kernel
theorem dL_law_15 : decode cL_law 15 = .ok (.astore_n 2, 1) := by decide +kernel
theorem dL_law_16 : decode cL_law 16 = .ok (.iconst 0, 1) := by decide +kernel
theorem dL_law_17 : decode cL_law 17 = .ok (.istore_n 3, 1) := by decide +kernel
theorem dL_law_18 : decode cL_law 18 = .ok (.iload_n 3, 1) := by decide +kernel
theorem dL_law_19 : decode cL_law 19 = .ok (.aload_n 0, 1) := by decide +kernel
theorem dL_law_20 : decode cL_law 20 = .ok (.arraylength, 1) := by decide +kernel
theorem dL_law_21 : decode cL_law 21 = .ok (.iconst 5, 1) := by decide +kernel
theorem dL_law_22 : decode cL_law 22 = .ok (.isub, 1) := by decide +kernel
theorem dL_law_23 : decode cL_law 23 = .ok (.if_icmp .gt 967, 3) := by decide +kernel
theorem dL_law_26 : decode cL_law 26 = .ok (.aload_n 0, 1) := by decide +kernel
theorem dL_law_27 : decode cL_law 27 = .ok (.iload_n 3, 1) := by decide +kernel
theorem dL_law_28 : decode cL_law 28 = .ok (.iaload, 1) := by decide +kernel
theorem dL_law_29 : decode cL_law 29 = .ok (.bipush 31, 2) := by decide +kernel
theorem dL_law_31 : decode cL_law 31 = .ok (.iand, 1) := by decide +kernel
theorem dL_law_32 : decode cL_law 32 = .ok (.tableswitch 952 0 31 #[144, 157, 180, 203, 236, 259, 282, 295, 308, 331, 364, 377, 410, 443, 466, 489, 542, 565, 608, 621, 644, 667, 690, 703, 736, 779, 822, 846, 869, 892, 915, 938], 144) := by decide +kernel
theorem dL_law_176 : decode cL_law 176 = .ok (.aload_n 1, 1) := by decide +kernel
theorem dL_law_177 : decode cL_law 177 = .ok (.invokevirtual 13, 3) := by decide +kernel
theorem dL_law_180 : decode cL_law 180 = .ok (.aload_n 2, 1) := by decide +kernel
theorem dL_law_181 : decode cL_law 181 = .ok (.invokevirtual 17, 3) := by decide +kernel
theorem dL_law_184 : decode cL_law 184 = .ok (.if_icmp .eq 800, 3) := by decide +kernel
theorem dL_law_187 : decode cL_law 187 = .ok (.iconst 0, 1) := by decide +kernel
theorem dL_law_188 : decode cL_law 188 = .ok (.ireturn, 1) := by decide +kernel
theorem dL_law_189 : decode cL_law 189 = .ok (.aload_n 1, 1) := by decide +kernel
theorem dL_law_190 : decode cL_law 190 = .ok (.aload_n 0, 1) := by decide +kernel
theorem dL_law_191 : decode cL_law 191 = .ok (.iload_n 3, 1) := by decide +kernel
theorem dL_law_192 : decode cL_law 192 = .ok (.iconst 1, 1) := by decide +kernel
theorem dL_law_193 : decode cL_law 193 = .ok (.iadd, 1) := by decide +kernel
theorem dL_law_194 : decode cL_law 194 = .ok (.iaload, 1) := by decide +kernel
theorem dL_law_195 : decode cL_law 195 = .ok (.invokevirtual 18, 3) := by decide +kernel
theorem dL_law_198 : decode cL_law 198 = .ok (.aload_n 2, 1) := by decide +kernel
theorem dL_law_199 : decode cL_law 199 = .ok (.aload_n 0, 1) := by decide +kernel
theorem dL_law_200 : decode cL_law 200 = .ok (.iload_n 3, 1) := by decide +kernel
theorem dL_law_201 : decode cL_law 201 = .ok (.iconst 1, 1) := by decide +kernel
theorem dL_law_202 : decode cL_law 202 = .ok (.iadd, 1) := by decide +kernel
theorem dL_law_203 : decode cL_law 203 = .ok (.iaload, 1) := by decide +kernel
theorem dL_law_204 : decode cL_law 204 = .ok (.invokevirtual 22, 3) := by decide +kernel
theorem dL_law_207 : decode cL_law 207 = .ok (.if_icmp .eq 777, 3) := by decide +kernel
theorem dL_law_210 : decode cL_law 210 = .ok (.iconst 0, 1) := by decide +kernel
theorem dL_law_211 : decode cL_law 211 = .ok (.ireturn, 1) := by decide +kernel
theorem dL_law_212 : decode cL_law 212 = .ok (.aload_n 1, 1) := by decide +kernel
theorem dL_law_213 : decode cL_law 213 = .ok (.aload_n 0, 1) := by decide +kernel
theorem dL_law_214 : decode cL_law 214 = .ok (.iload_n 3, 1) := by decide +kernel
theorem dL_law_215 : decode cL_law 215 = .ok (.iconst 1, 1) := by decide +kernel
theorem dL_law_216 : decode cL_law 216 = .ok (.iadd, 1) := by decide +kernel
theorem dL_law_217 : decode cL_law 217 = .ok (.iaload, 1) := by decide +kernel
theorem dL_law_218 : decode cL_law 218 = .ok (.invokevirtual 23, 3) := by decide +kernel
theorem dL_law_221 : decode cL_law 221 = .ok (.aload_n 2, 1) := by decide +kernel
theorem dL_law_222 : decode cL_law 222 = .ok (.aload_n 0, 1) := by decide +kernel
theorem dL_law_223 : decode cL_law 223 = .ok (.iload_n 3, 1) := by decide +kernel
theorem dL_law_224 : decode cL_law 224 = .ok (.iconst 1, 1) := by decide +kernel
theorem dL_law_225 : decode cL_law 225 = .ok (.iadd, 1) := by decide +kernel
theorem dL_law_226 : decode cL_law 226 = .ok (.iaload, 1) := by decide +kernel
theorem dL_law_227 : decode cL_law 227 = .ok (.invokevirtual 26, 3) := by decide +kernel
theorem dL_law_230 : decode cL_law 230 = .ok (.if_icmp .eq 754, 3) := by decide +kernel
theorem dL_law_233 : decode cL_law 233 = .ok (.iconst 0, 1) := by decide +kernel
theorem dL_law_234 : decode cL_law 234 = .ok (.ireturn, 1) := by decide +kernel
theorem dL_law_235 : decode cL_law 235 = .ok (.aload_n 1, 1) := by decide +kernel
theorem dL_law_236 : decode cL_law 236 = .ok (.aload_n 0, 1) := by decide +kernel
theorem dL_law_237 : decode cL_law 237 = .ok (.iload_n 3, 1) := by decide +kernel
theorem dL_law_238 : decode cL_law 238 = .ok (.iconst 1, 1) := by decide +kernel
theorem dL_law_239 : decode cL_law 239 = .ok (.iadd, 1) := by decide +kernel
theorem dL_law_240 : decode cL_law 240 = .ok (.iaload, 1) := by decide +kernel
theorem dL_law_241 : decode cL_law 241 = .ok (.aload_n 0, 1) := by decide +kernel
theorem dL_law_242 : decode cL_law 242 = .ok (.iload_n 3, 1) := by decide +kernel
theorem dL_law_243 : decode cL_law 243 = .ok (.iconst 2, 1) := by decide +kernel
theorem dL_law_244 : decode cL_law 244 = .ok (.iadd, 1) := by decide +kernel
theorem dL_law_245 : decode cL_law 245 = .ok (.iaload, 1) := by decide +kernel
theorem dL_law_246 : decode cL_law 246 = .ok (.invokevirtual 27, 3) := by decide +kernel
theorem dL_law_249 : decode cL_law 249 = .ok (.aload_n 2, 1) := by decide +kernel
theorem dL_law_250 : decode cL_law 250 = .ok (.aload_n 0, 1) := by decide +kernel
theorem dL_law_251 : decode cL_law 251 = .ok (.iload_n 3, 1) := by decide +kernel
theorem dL_law_252 : decode cL_law 252 = .ok (.iconst 1, 1) := by decide +kernel
theorem dL_law_253 : decode cL_law 253 = .ok (.iadd, 1) := by decide +kernel
theorem dL_law_254 : decode cL_law 254 = .ok (.iaload, 1) := by decide +kernel
theorem dL_law_255 : decode cL_law 255 = .ok (.aload_n 0, 1) := by decide +kernel
theorem dL_law_256 : decode cL_law 256 = .ok (.iload_n 3, 1) := by decide +kernel
theorem dL_law_257 : decode cL_law 257 = .ok (.iconst 2, 1) := by decide +kernel
theorem dL_law_258 : decode cL_law 258 = .ok (.iadd, 1) := by decide +kernel
theorem dL_law_259 : decode cL_law 259 = .ok (.iaload, 1) := by decide +kernel
theorem dL_law_260 : decode cL_law 260 = .ok (.invokevirtual 31, 3) := by decide +kernel
theorem dL_law_263 : decode cL_law 263 = .ok (.if_icmp .eq 721, 3) := by decide +kernel
theorem dL_law_266 : decode cL_law 266 = .ok (.iconst 0, 1) := by decide +kernel
theorem dL_law_267 : decode cL_law 267 = .ok (.ireturn, 1) := by decide +kernel
theorem dL_law_268 : decode cL_law 268 = .ok (.aload_n 1, 1) := by decide +kernel
theorem dL_law_269 : decode cL_law 269 = .ok (.aload_n 0, 1) := by decide +kernel
theorem dL_law_270 : decode cL_law 270 = .ok (.iload_n 3, 1) := by decide +kernel
theorem dL_law_271 : decode cL_law 271 = .ok (.iconst 1, 1) := by decide +kernel
theorem dL_law_272 : decode cL_law 272 = .ok (.iadd, 1) := by decide +kernel
theorem dL_law_273 : decode cL_law 273 = .ok (.iaload, 1) := by decide +kernel
theorem dL_law_274 : decode cL_law 274 = .ok (.invokevirtual 32, 3) := by decide +kernel
theorem dL_law_277 : decode cL_law 277 = .ok (.aload_n 2, 1) := by decide +kernel
theorem dL_law_278 : decode cL_law 278 = .ok (.aload_n 0, 1) := by decide +kernel
theorem dL_law_279 : decode cL_law 279 = .ok (.iload_n 3, 1) := by decide +kernel
theorem dL_law_280 : decode cL_law 280 = .ok (.iconst 1, 1) := by decide +kernel
theorem dL_law_281 : decode cL_law 281 = .ok (.iadd, 1) := by decide +kernel
theorem dL_law_282 : decode cL_law 282 = .ok (.iaload, 1) := by decide +kernel
theorem dL_law_283 : decode cL_law 283 = .ok (.invokevirtual 35, 3) := by decide +kernel
theorem dL_law_286 : decode cL_law 286 = .ok (.if_icmp .eq 698, 3) := by decide +kernel
theorem dL_law_289 : decode cL_law 289 = .ok (.iconst 0, 1) := by decide +kernel
theorem dL_law_290 : decode cL_law 290 = .ok (.ireturn, 1) := by decide +kernel
theorem dL_law_291 : decode cL_law 291 = .ok (.aload_n 1, 1) := by decide +kernel
theorem dL_law_292 : decode cL_law 292 = .ok (.aload_n 0, 1) := by decide +kernel
theorem dL_law_293 : decode cL_law 293 = .ok (.iload_n 3, 1) := by decide +kernel
theorem dL_law_294 : decode cL_law 294 = .ok (.iconst 1, 1) := by decide +kernel
theorem dL_law_295 : decode cL_law 295 = .ok (.iadd, 1) := by decide +kernel
theorem dL_law_296 : decode cL_law 296 = .ok (.iaload, 1) := by decide +kernel
theorem dL_law_297 : decode cL_law 297 = .ok (.invokevirtual 36, 3) := by decide +kernel
theorem dL_law_300 : decode cL_law 300 = .ok (.aload_n 2, 1) := by decide +kernel
theorem dL_law_301 : decode cL_law 301 = .ok (.aload_n 0, 1) := by decide +kernel
theorem dL_law_302 : decode cL_law 302 = .ok (.iload_n 3, 1) := by decide +kernel
theorem dL_law_303 : decode cL_law 303 = .ok (.iconst 1, 1) := by decide +kernel
theorem dL_law_304 : decode cL_law 304 = .ok (.iadd, 1) := by decide +kernel
theorem dL_law_305 : decode cL_law 305 = .ok (.iaload, 1) := by decide +kernel
theorem dL_law_306 : decode cL_law 306 = .ok (.invokevirtual 39, 3) := by decide +kernel
theorem dL_law_309 : decode cL_law 309 = .ok (.if_icmp .eq 675, 3) := by decide +kernel
theorem dL_law_312 : decode cL_law 312 = .ok (.iconst 0, 1) := by decide +kernel
theorem dL_law_313 : decode cL_law 313 = .ok (.ireturn, 1) := by decide +kernel
theorem dL_law_314 : decode cL_law 314 = .ok (.aload_n 1, 1) := by decide +kernel
theorem dL_law_315 : decode cL_law 315 = .ok (.invokevirtual 40, 3) := by decide +kernel
theorem dL_law_318 : decode cL_law 318 = .ok (.aload_n 2, 1) := by decide +kernel
theorem dL_law_319 : decode cL_law 319 = .ok (.invokevirtual 43, 3) := by decide +kernel
theorem dL_law_322 : decode cL_law 322 = .ok (.if_icmp .eq 662, 3) := by decide +kernel
theorem dL_law_325 : decode cL_law 325 = .ok (.iconst 0, 1) := by decide +kernel
theorem dL_law_326 : decode cL_law 326 = .ok (.ireturn, 1) := by decide +kernel
theorem dL_law_327 : decode cL_law 327 = .ok (.aload_n 1, 1) := by decide +kernel
theorem dL_law_328 : decode cL_law 328 = .ok (.invokevirtual 44, 3) := by decide +kernel
theorem dL_law_331 : decode cL_law 331 = .ok (.aload_n 2, 1) := by decide +kernel
theorem dL_law_332 : decode cL_law 332 = .ok (.invokevirtual 47, 3) := by decide +kernel
theorem dL_law_335 : decode cL_law 335 = .ok (.if_icmp .eq 649, 3) := by decide +kernel
theorem dL_law_338 : decode cL_law 338 = .ok (.iconst 0, 1) := by decide +kernel
theorem dL_law_339 : decode cL_law 339 = .ok (.ireturn, 1) := by decide +kernel
theorem dL_law_340 : decode cL_law 340 = .ok (.aload_n 1, 1) := by decide +kernel
theorem dL_law_341 : decode cL_law 341 = .ok (.aload_n 0, 1) := by decide +kernel
theorem dL_law_342 : decode cL_law 342 = .ok (.iload_n 3, 1) := by decide +kernel
theorem dL_law_343 : decode cL_law 343 = .ok (.iconst 1, 1) := by decide +kernel
theorem dL_law_344 : decode cL_law 344 = .ok (.iadd, 1) := by decide +kernel
theorem dL_law_345 : decode cL_law 345 = .ok (.iaload, 1) := by decide +kernel
theorem dL_law_346 : decode cL_law 346 = .ok (.invokevirtual 48, 3) := by decide +kernel
theorem dL_law_349 : decode cL_law 349 = .ok (.aload_n 2, 1) := by decide +kernel
theorem dL_law_350 : decode cL_law 350 = .ok (.aload_n 0, 1) := by decide +kernel
theorem dL_law_351 : decode cL_law 351 = .ok (.iload_n 3, 1) := by decide +kernel
theorem dL_law_352 : decode cL_law 352 = .ok (.iconst 1, 1) := by decide +kernel
theorem dL_law_353 : decode cL_law 353 = .ok (.iadd, 1) := by decide +kernel
theorem dL_law_354 : decode cL_law 354 = .ok (.iaload, 1) := by decide +kernel
theorem dL_law_355 : decode cL_law 355 = .ok (.invokevirtual 51, 3) := by decide +kernel
theorem dL_law_358 : decode cL_law 358 = .ok (.if_icmp .eq 626, 3) := by decide +kernel
theorem dL_law_361 : decode cL_law 361 = .ok (.iconst 0, 1) := by decide +kernel
theorem dL_law_362 : decode cL_law 362 = .ok (.ireturn, 1) := by decide +kernel
theorem dL_law_363 : decode cL_law 363 = .ok (.aload_n 1, 1) := by decide +kernel
theorem dL_law_364 : decode cL_law 364 = .ok (.aload_n 0, 1) := by decide +kernel
theorem dL_law_365 : decode cL_law 365 = .ok (.iload_n 3, 1) := by decide +kernel
theorem dL_law_366 : decode cL_law 366 = .ok (.iconst 1, 1) := by decide +kernel
theorem dL_law_367 : decode cL_law 367 = .ok (.iadd, 1) := by decide +kernel
theorem dL_law_368 : decode cL_law 368 = .ok (.iaload, 1) := by decide +kernel
theorem dL_law_369 : decode cL_law 369 = .ok (.aload_n 0, 1) := by decide +kernel
theorem dL_law_370 : decode cL_law 370 = .ok (.iload_n 3, 1) := by decide +kernel
theorem dL_law_371 : decode cL_law 371 = .ok (.iconst 2, 1) := by decide +kernel
theorem dL_law_372 : decode cL_law 372 = .ok (.iadd, 1) := by decide +kernel
theorem dL_law_373 : decode cL_law 373 = .ok (.iaload, 1) := by decide +kernel
theorem dL_law_374 : decode cL_law 374 = .ok (.invokevirtual 52, 3) := by decide +kernel
theorem dL_law_377 : decode cL_law 377 = .ok (.aload_n 2, 1) := by decide +kernel
theorem dL_law_378 : decode cL_law 378 = .ok (.aload_n 0, 1) := by decide +kernel
theorem dL_law_379 : decode cL_law 379 = .ok (.iload_n 3, 1) := by decide +kernel
theorem dL_law_380 : decode cL_law 380 = .ok (.iconst 1, 1) := by decide +kernel
theorem dL_law_381 : decode cL_law 381 = .ok (.iadd, 1) := by decide +kernel
theorem dL_law_382 : decode cL_law 382 = .ok (.iaload, 1) := by decide +kernel
theorem dL_law_383 : decode cL_law 383 = .ok (.aload_n 0, 1) := by decide +kernel
theorem dL_law_384 : decode cL_law 384 = .ok (.iload_n 3, 1) := by decide +kernel
theorem dL_law_385 : decode cL_law 385 = .ok (.iconst 2, 1) := by decide +kernel
theorem dL_law_386 : decode cL_law 386 = .ok (.iadd, 1) := by decide +kernel
theorem dL_law_387 : decode cL_law 387 = .ok (.iaload, 1) := by decide +kernel
theorem dL_law_388 : decode cL_law 388 = .ok (.invokevirtual 55, 3) := by decide +kernel
theorem dL_law_391 : decode cL_law 391 = .ok (.if_icmp .eq 593, 3) := by decide +kernel
theorem dL_law_394 : decode cL_law 394 = .ok (.iconst 0, 1) := by decide +kernel
theorem dL_law_395 : decode cL_law 395 = .ok (.ireturn, 1) := by decide +kernel
theorem dL_law_396 : decode cL_law 396 = .ok (.aload_n 1, 1) := by decide +kernel
theorem dL_law_397 : decode cL_law 397 = .ok (.invokevirtual 56, 3) := by decide +kernel
theorem dL_law_400 : decode cL_law 400 = .ok (.aload_n 2, 1) := by decide +kernel
theorem dL_law_401 : decode cL_law 401 = .ok (.invokevirtual 59, 3) := by decide +kernel
theorem dL_law_404 : decode cL_law 404 = .ok (.if_icmp .eq 580, 3) := by decide +kernel
theorem dL_law_407 : decode cL_law 407 = .ok (.iconst 0, 1) := by decide +kernel
theorem dL_law_408 : decode cL_law 408 = .ok (.ireturn, 1) := by decide +kernel
theorem dL_law_409 : decode cL_law 409 = .ok (.aload_n 1, 1) := by decide +kernel
theorem dL_law_410 : decode cL_law 410 = .ok (.aload_n 0, 1) := by decide +kernel
theorem dL_law_411 : decode cL_law 411 = .ok (.iload_n 3, 1) := by decide +kernel
theorem dL_law_412 : decode cL_law 412 = .ok (.iconst 1, 1) := by decide +kernel
theorem dL_law_413 : decode cL_law 413 = .ok (.iadd, 1) := by decide +kernel
theorem dL_law_414 : decode cL_law 414 = .ok (.iaload, 1) := by decide +kernel
theorem dL_law_415 : decode cL_law 415 = .ok (.aload_n 0, 1) := by decide +kernel
theorem dL_law_416 : decode cL_law 416 = .ok (.iload_n 3, 1) := by decide +kernel
theorem dL_law_417 : decode cL_law 417 = .ok (.iconst 2, 1) := by decide +kernel
theorem dL_law_418 : decode cL_law 418 = .ok (.iadd, 1) := by decide +kernel
theorem dL_law_419 : decode cL_law 419 = .ok (.iaload, 1) := by decide +kernel
theorem dL_law_420 : decode cL_law 420 = .ok (.invokevirtual 60, 3) := by decide +kernel
theorem dL_law_423 : decode cL_law 423 = .ok (.aload_n 2, 1) := by decide +kernel
theorem dL_law_424 : decode cL_law 424 = .ok (.aload_n 0, 1) := by decide +kernel
theorem dL_law_425 : decode cL_law 425 = .ok (.iload_n 3, 1) := by decide +kernel
theorem dL_law_426 : decode cL_law 426 = .ok (.iconst 1, 1) := by decide +kernel
theorem dL_law_427 : decode cL_law 427 = .ok (.iadd, 1) := by decide +kernel
theorem dL_law_428 : decode cL_law 428 = .ok (.iaload, 1) := by decide +kernel
theorem dL_law_429 : decode cL_law 429 = .ok (.aload_n 0, 1) := by decide +kernel
theorem dL_law_430 : decode cL_law 430 = .ok (.iload_n 3, 1) := by decide +kernel
theorem dL_law_431 : decode cL_law 431 = .ok (.iconst 2, 1) := by decide +kernel
theorem dL_law_432 : decode cL_law 432 = .ok (.iadd, 1) := by decide +kernel
theorem dL_law_433 : decode cL_law 433 = .ok (.iaload, 1) := by decide +kernel
theorem dL_law_434 : decode cL_law 434 = .ok (.invokevirtual 63, 3) := by decide +kernel
theorem dL_law_437 : decode cL_law 437 = .ok (.if_icmp .eq 547, 3) := by decide +kernel
theorem dL_law_440 : decode cL_law 440 = .ok (.iconst 0, 1) := by decide +kernel
theorem dL_law_441 : decode cL_law 441 = .ok (.ireturn, 1) := by decide +kernel
theorem dL_law_442 : decode cL_law 442 = .ok (.aload_n 1, 1) := by decide +kernel
theorem dL_law_443 : decode cL_law 443 = .ok (.aload_n 0, 1) := by decide +kernel
theorem dL_law_444 : decode cL_law 444 = .ok (.iload_n 3, 1) := by decide +kernel
theorem dL_law_445 : decode cL_law 445 = .ok (.iconst 1, 1) := by decide +kernel
theorem dL_law_446 : decode cL_law 446 = .ok (.iadd, 1) := by decide +kernel
theorem dL_law_447 : decode cL_law 447 = .ok (.iaload, 1) := by decide +kernel
theorem dL_law_448 : decode cL_law 448 = .ok (.aload_n 0, 1) := by decide +kernel
theorem dL_law_449 : decode cL_law 449 = .ok (.iload_n 3, 1) := by decide +kernel
theorem dL_law_450 : decode cL_law 450 = .ok (.iconst 2, 1) := by decide +kernel
theorem dL_law_451 : decode cL_law 451 = .ok (.iadd, 1) := by decide +kernel
theorem dL_law_452 : decode cL_law 452 = .ok (.iaload, 1) := by decide +kernel
theorem dL_law_453 : decode cL_law 453 = .ok (.invokevirtual 64, 3) := by decide +kernel
theorem dL_law_456 : decode cL_law 456 = .ok (.aload_n 2, 1) := by decide +kernel
theorem dL_law_457 : decode cL_law 457 = .ok (.aload_n 0, 1) := by decide +kernel
theorem dL_law_458 : decode cL_law 458 = .ok (.iload_n 3, 1) := by decide +kernel
theorem dL_law_459 : decode cL_law 459 = .ok (.iconst 1, 1) := by decide +kernel
theorem dL_law_460 : decode cL_law 460 = .ok (.iadd, 1) := by decide +kernel
theorem dL_law_461 : decode cL_law 461 = .ok (.iaload, 1) := by decide +kernel
theorem dL_law_462 : decode cL_law 462 = .ok (.aload_n 0, 1) := by decide +kernel
theorem dL_law_463 : decode cL_law 463 = .ok (.iload_n 3, 1) := by decide +kernel
theorem dL_law_464 : decode cL_law 464 = .ok (.iconst 2, 1) := by decide +kernel
theorem dL_law_465 : decode cL_law 465 = .ok (.iadd, 1) := by decide +kernel
theorem dL_law_466 : decode cL_law 466 = .ok (.iaload, 1) := by decide +kernel
theorem dL_law_467 : decode cL_law 467 = .ok (.invokevirtual 67, 3) := by decide +kernel
theorem dL_law_470 : decode cL_law 470 = .ok (.if_icmp .eq 514, 3) := by decide +kernel
theorem dL_law_473 : decode cL_law 473 = .ok (.iconst 0, 1) := by decide +kernel
theorem dL_law_474 : decode cL_law 474 = .ok (.ireturn, 1) := by decide +kernel
theorem dL_law_475 : decode cL_law 475 = .ok (.aload_n 1, 1) := by decide +kernel
theorem dL_law_476 : decode cL_law 476 = .ok (.aload_n 0, 1) := by decide +kernel
theorem dL_law_477 : decode cL_law 477 = .ok (.iload_n 3, 1) := by decide +kernel
theorem dL_law_478 : decode cL_law 478 = .ok (.iconst 1, 1) := by decide +kernel
theorem dL_law_479 : decode cL_law 479 = .ok (.iadd, 1) := by decide +kernel
theorem dL_law_480 : decode cL_law 480 = .ok (.iaload, 1) := by decide +kernel
theorem dL_law_481 : decode cL_law 481 = .ok (.invokevirtual 68, 3) := by decide +kernel
theorem dL_law_484 : decode cL_law 484 = .ok (.aload_n 2, 1) := by decide +kernel
theorem dL_law_485 : decode cL_law 485 = .ok (.aload_n 0, 1) := by decide +kernel
theorem dL_law_486 : decode cL_law 486 = .ok (.iload_n 3, 1) := by decide +kernel
theorem dL_law_487 : decode cL_law 487 = .ok (.iconst 1, 1) := by decide +kernel
theorem dL_law_488 : decode cL_law 488 = .ok (.iadd, 1) := by decide +kernel
theorem dL_law_489 : decode cL_law 489 = .ok (.iaload, 1) := by decide +kernel
theorem dL_law_490 : decode cL_law 490 = .ok (.invokevirtual 71, 3) := by decide +kernel
theorem dL_law_493 : decode cL_law 493 = .ok (.if_icmp .eq 491, 3) := by decide +kernel
theorem dL_law_496 : decode cL_law 496 = .ok (.iconst 0, 1) := by decide +kernel
theorem dL_law_497 : decode cL_law 497 = .ok (.ireturn, 1) := by decide +kernel
theorem dL_law_498 : decode cL_law 498 = .ok (.aload_n 1, 1) := by decide +kernel
theorem dL_law_499 : decode cL_law 499 = .ok (.aload_n 0, 1) := by decide +kernel
theorem dL_law_500 : decode cL_law 500 = .ok (.iload_n 3, 1) := by decide +kernel
theorem dL_law_501 : decode cL_law 501 = .ok (.iconst 1, 1) := by decide +kernel
theorem dL_law_502 : decode cL_law 502 = .ok (.iadd, 1) := by decide +kernel
theorem dL_law_503 : decode cL_law 503 = .ok (.iaload, 1) := by decide +kernel
theorem dL_law_504 : decode cL_law 504 = .ok (.invokevirtual 72, 3) := by decide +kernel
theorem dL_law_507 : decode cL_law 507 = .ok (.aload_n 2, 1) := by decide +kernel
theorem dL_law_508 : decode cL_law 508 = .ok (.aload_n 0, 1) := by decide +kernel
theorem dL_law_509 : decode cL_law 509 = .ok (.iload_n 3, 1) := by decide +kernel
theorem dL_law_510 : decode cL_law 510 = .ok (.iconst 1, 1) := by decide +kernel
theorem dL_law_511 : decode cL_law 511 = .ok (.iadd, 1) := by decide +kernel
theorem dL_law_512 : decode cL_law 512 = .ok (.iaload, 1) := by decide +kernel
theorem dL_law_513 : decode cL_law 513 = .ok (.invokevirtual 75, 3) := by decide +kernel
theorem dL_law_516 : decode cL_law 516 = .ok (.if_icmp .eq 468, 3) := by decide +kernel
theorem dL_law_519 : decode cL_law 519 = .ok (.iconst 0, 1) := by decide +kernel
theorem dL_law_520 : decode cL_law 520 = .ok (.ireturn, 1) := by decide +kernel
theorem dL_law_521 : decode cL_law 521 = .ok (.aload_n 1, 1) := by decide +kernel
theorem dL_law_522 : decode cL_law 522 = .ok (.aload_n 0, 1) := by decide +kernel
theorem dL_law_523 : decode cL_law 523 = .ok (.iload_n 3, 1) := by decide +kernel
theorem dL_law_524 : decode cL_law 524 = .ok (.iconst 1, 1) := by decide +kernel
theorem dL_law_525 : decode cL_law 525 = .ok (.iadd, 1) := by decide +kernel
theorem dL_law_526 : decode cL_law 526 = .ok (.iaload, 1) := by decide +kernel
theorem dL_law_527 : decode cL_law 527 = .ok (.aload_n 0, 1) := by decide +kernel
theorem dL_law_528 : decode cL_law 528 = .ok (.iload_n 3, 1) := by decide +kernel
theorem dL_law_529 : decode cL_law 529 = .ok (.iconst 2, 1) := by decide +kernel
theorem dL_law_530 : decode cL_law 530 = .ok (.iadd, 1) := by decide +kernel
theorem dL_law_531 : decode cL_law 531 = .ok (.iaload, 1) := by decide +kernel
theorem dL_law_532 : decode cL_law 532 = .ok (.aload_n 0, 1) := by decide +kernel
theorem dL_law_533 : decode cL_law 533 = .ok (.iload_n 3, 1) := by decide +kernel
theorem dL_law_534 : decode cL_law 534 = .ok (.iconst 3, 1) := by decide +kernel
theorem dL_law_535 : decode cL_law 535 = .ok (.iadd, 1) := by decide +kernel
theorem dL_law_536 : decode cL_law 536 = .ok (.iaload, 1) := by decide +kernel
theorem dL_law_537 : decode cL_law 537 = .ok (.aload_n 0, 1) := by decide +kernel
theorem dL_law_538 : decode cL_law 538 = .ok (.iload_n 3, 1) := by decide +kernel
theorem dL_law_539 : decode cL_law 539 = .ok (.iconst 4, 1) := by decide +kernel
theorem dL_law_540 : decode cL_law 540 = .ok (.iadd, 1) := by decide +kernel
theorem dL_law_541 : decode cL_law 541 = .ok (.iaload, 1) := by decide +kernel
theorem dL_law_542 : decode cL_law 542 = .ok (.invokevirtual 76, 3) := by decide +kernel
theorem dL_law_545 : decode cL_law 545 = .ok (.aload_n 2, 1) := by decide +kernel
theorem dL_law_546 : decode cL_law 546 = .ok (.aload_n 0, 1) := by decide +kernel
theorem dL_law_547 : decode cL_law 547 = .ok (.iload_n 3, 1) := by decide +kernel
theorem dL_law_548 : decode cL_law 548 = .ok (.iconst 1, 1) := by decide +kernel
theorem dL_law_549 : decode cL_law 549 = .ok (.iadd, 1) := by decide +kernel
theorem dL_law_550 : decode cL_law 550 = .ok (.iaload, 1) := by decide +kernel
theorem dL_law_551 : decode cL_law 551 = .ok (.aload_n 0, 1) := by decide +kernel
theorem dL_law_552 : decode cL_law 552 = .ok (.iload_n 3, 1) := by decide +kernel
theorem dL_law_553 : decode cL_law 553 = .ok (.iconst 2, 1) := by decide +kernel
theorem dL_law_554 : decode cL_law 554 = .ok (.iadd, 1) := by decide +kernel
theorem dL_law_555 : decode cL_law 555 = .ok (.iaload, 1) := by decide +kernel
theorem dL_law_556 : decode cL_law 556 = .ok (.aload_n 0, 1) := by decide +kernel
theorem dL_law_557 : decode cL_law 557 = .ok (.iload_n 3, 1) := by decide +kernel
theorem dL_law_558 : decode cL_law 558 = .ok (.iconst 3, 1) := by decide +kernel
theorem dL_law_559 : decode cL_law 559 = .ok (.iadd, 1) := by decide +kernel
theorem dL_law_560 : decode cL_law 560 = .ok (.iaload, 1) := by decide +kernel
theorem dL_law_561 : decode cL_law 561 = .ok (.aload_n 0, 1) := by decide +kernel
theorem dL_law_562 : decode cL_law 562 = .ok (.iload_n 3, 1) := by decide +kernel
theorem dL_law_563 : decode cL_law 563 = .ok (.iconst 4, 1) := by decide +kernel
theorem dL_law_564 : decode cL_law 564 = .ok (.iadd, 1) := by decide +kernel
theorem dL_law_565 : decode cL_law 565 = .ok (.iaload, 1) := by decide +kernel
theorem dL_law_566 : decode cL_law 566 = .ok (.invokevirtual 80, 3) := by decide +kernel
theorem dL_law_569 : decode cL_law 569 = .ok (.if_icmp .eq 415, 3) := by decide +kernel
theorem dL_law_572 : decode cL_law 572 = .ok (.iconst 0, 1) := by decide +kernel
theorem dL_law_573 : decode cL_law 573 = .ok (.ireturn, 1) := by decide +kernel
theorem dL_law_574 : decode cL_law 574 = .ok (.aload_n 1, 1) := by decide +kernel
theorem dL_law_575 : decode cL_law 575 = .ok (.aload_n 0, 1) := by decide +kernel
theorem dL_law_576 : decode cL_law 576 = .ok (.iload_n 3, 1) := by decide +kernel
theorem dL_law_577 : decode cL_law 577 = .ok (.iconst 1, 1) := by decide +kernel
theorem dL_law_578 : decode cL_law 578 = .ok (.iadd, 1) := by decide +kernel
theorem dL_law_579 : decode cL_law 579 = .ok (.iaload, 1) := by decide +kernel
theorem dL_law_580 : decode cL_law 580 = .ok (.invokevirtual 81, 3) := by decide +kernel
theorem dL_law_583 : decode cL_law 583 = .ok (.aload_n 2, 1) := by decide +kernel
theorem dL_law_584 : decode cL_law 584 = .ok (.aload_n 0, 1) := by decide +kernel
theorem dL_law_585 : decode cL_law 585 = .ok (.iload_n 3, 1) := by decide +kernel
theorem dL_law_586 : decode cL_law 586 = .ok (.iconst 1, 1) := by decide +kernel
theorem dL_law_587 : decode cL_law 587 = .ok (.iadd, 1) := by decide +kernel
theorem dL_law_588 : decode cL_law 588 = .ok (.iaload, 1) := by decide +kernel
theorem dL_law_589 : decode cL_law 589 = .ok (.invokevirtual 84, 3) := by decide +kernel
theorem dL_law_592 : decode cL_law 592 = .ok (.if_icmp .eq 392, 3) := by decide +kernel
theorem dL_law_595 : decode cL_law 595 = .ok (.iconst 0, 1) := by decide +kernel
theorem dL_law_596 : decode cL_law 596 = .ok (.ireturn, 1) := by decide +kernel
theorem dL_law_597 : decode cL_law 597 = .ok (.aload_n 1, 1) := by decide +kernel
theorem dL_law_598 : decode cL_law 598 = .ok (.aload_n 0, 1) := by decide +kernel
theorem dL_law_599 : decode cL_law 599 = .ok (.iload_n 3, 1) := by decide +kernel
theorem dL_law_600 : decode cL_law 600 = .ok (.iconst 1, 1) := by decide +kernel
theorem dL_law_601 : decode cL_law 601 = .ok (.iadd, 1) := by decide +kernel
theorem dL_law_602 : decode cL_law 602 = .ok (.iaload, 1) := by decide +kernel
theorem dL_law_603 : decode cL_law 603 = .ok (.aload_n 0, 1) := by decide +kernel
theorem dL_law_604 : decode cL_law 604 = .ok (.iload_n 3, 1) := by decide +kernel
theorem dL_law_605 : decode cL_law 605 = .ok (.iconst 2, 1) := by decide +kernel
theorem dL_law_606 : decode cL_law 606 = .ok (.iadd, 1) := by decide +kernel
theorem dL_law_607 : decode cL_law 607 = .ok (.iaload, 1) := by decide +kernel
theorem dL_law_608 : decode cL_law 608 = .ok (.aload_n 0, 1) := by decide +kernel
theorem dL_law_609 : decode cL_law 609 = .ok (.iload_n 3, 1) := by decide +kernel
theorem dL_law_610 : decode cL_law 610 = .ok (.iconst 3, 1) := by decide +kernel
theorem dL_law_611 : decode cL_law 611 = .ok (.iadd, 1) := by decide +kernel
theorem dL_law_612 : decode cL_law 612 = .ok (.iaload, 1) := by decide +kernel
theorem dL_law_613 : decode cL_law 613 = .ok (.invokevirtual 85, 3) := by decide +kernel
theorem dL_law_616 : decode cL_law 616 = .ok (.aload_n 2, 1) := by decide +kernel
theorem dL_law_617 : decode cL_law 617 = .ok (.aload_n 0, 1) := by decide +kernel
theorem dL_law_618 : decode cL_law 618 = .ok (.iload_n 3, 1) := by decide +kernel
theorem dL_law_619 : decode cL_law 619 = .ok (.iconst 1, 1) := by decide +kernel
theorem dL_law_620 : decode cL_law 620 = .ok (.iadd, 1) := by decide +kernel
theorem dL_law_621 : decode cL_law 621 = .ok (.iaload, 1) := by decide +kernel
theorem dL_law_622 : decode cL_law 622 = .ok (.aload_n 0, 1) := by decide +kernel
theorem dL_law_623 : decode cL_law 623 = .ok (.iload_n 3, 1) := by decide +kernel
theorem dL_law_624 : decode cL_law 624 = .ok (.iconst 2, 1) := by decide +kernel
theorem dL_law_625 : decode cL_law 625 = .ok (.iadd, 1) := by decide +kernel
theorem dL_law_626 : decode cL_law 626 = .ok (.iaload, 1) := by decide +kernel
theorem dL_law_627 : decode cL_law 627 = .ok (.aload_n 0, 1) := by decide +kernel
theorem dL_law_628 : decode cL_law 628 = .ok (.iload_n 3, 1) := by decide +kernel
theorem dL_law_629 : decode cL_law 629 = .ok (.iconst 3, 1) := by decide +kernel
theorem dL_law_630 : decode cL_law 630 = .ok (.iadd, 1) := by decide +kernel
theorem dL_law_631 : decode cL_law 631 = .ok (.iaload, 1) := by decide +kernel
theorem dL_law_632 : decode cL_law 632 = .ok (.invokevirtual 89, 3) := by decide +kernel
theorem dL_law_635 : decode cL_law 635 = .ok (.if_icmp .eq 349, 3) := by decide +kernel
theorem dL_law_638 : decode cL_law 638 = .ok (.iconst 0, 1) := by decide +kernel
theorem dL_law_639 : decode cL_law 639 = .ok (.ireturn, 1) := by decide +kernel
theorem dL_law_640 : decode cL_law 640 = .ok (.aload_n 1, 1) := by decide +kernel
theorem dL_law_641 : decode cL_law 641 = .ok (.invokevirtual 90, 3) := by decide +kernel
theorem dL_law_644 : decode cL_law 644 = .ok (.aload_n 2, 1) := by decide +kernel
theorem dL_law_645 : decode cL_law 645 = .ok (.invokevirtual 93, 3) := by decide +kernel
theorem dL_law_648 : decode cL_law 648 = .ok (.if_icmp .eq 336, 3) := by decide +kernel
theorem dL_law_651 : decode cL_law 651 = .ok (.iconst 0, 1) := by decide +kernel
theorem dL_law_652 : decode cL_law 652 = .ok (.ireturn, 1) := by decide +kernel
theorem dL_law_653 : decode cL_law 653 = .ok (.aload_n 1, 1) := by decide +kernel
theorem dL_law_654 : decode cL_law 654 = .ok (.aload_n 0, 1) := by decide +kernel
theorem dL_law_655 : decode cL_law 655 = .ok (.iload_n 3, 1) := by decide +kernel
theorem dL_law_656 : decode cL_law 656 = .ok (.iconst 1, 1) := by decide +kernel
theorem dL_law_657 : decode cL_law 657 = .ok (.iadd, 1) := by decide +kernel
theorem dL_law_658 : decode cL_law 658 = .ok (.iaload, 1) := by decide +kernel
theorem dL_law_659 : decode cL_law 659 = .ok (.invokevirtual 94, 3) := by decide +kernel
theorem dL_law_662 : decode cL_law 662 = .ok (.aload_n 2, 1) := by decide +kernel
theorem dL_law_663 : decode cL_law 663 = .ok (.aload_n 0, 1) := by decide +kernel
theorem dL_law_664 : decode cL_law 664 = .ok (.iload_n 3, 1) := by decide +kernel
theorem dL_law_665 : decode cL_law 665 = .ok (.iconst 1, 1) := by decide +kernel
theorem dL_law_666 : decode cL_law 666 = .ok (.iadd, 1) := by decide +kernel
theorem dL_law_667 : decode cL_law 667 = .ok (.iaload, 1) := by decide +kernel
theorem dL_law_668 : decode cL_law 668 = .ok (.invokevirtual 97, 3) := by decide +kernel
theorem dL_law_671 : decode cL_law 671 = .ok (.if_icmp .eq 313, 3) := by decide +kernel
theorem dL_law_674 : decode cL_law 674 = .ok (.iconst 0, 1) := by decide +kernel
theorem dL_law_675 : decode cL_law 675 = .ok (.ireturn, 1) := by decide +kernel
theorem dL_law_676 : decode cL_law 676 = .ok (.aload_n 1, 1) := by decide +kernel
theorem dL_law_677 : decode cL_law 677 = .ok (.aload_n 0, 1) := by decide +kernel
theorem dL_law_678 : decode cL_law 678 = .ok (.iload_n 3, 1) := by decide +kernel
theorem dL_law_679 : decode cL_law 679 = .ok (.iconst 1, 1) := by decide +kernel
theorem dL_law_680 : decode cL_law 680 = .ok (.iadd, 1) := by decide +kernel
theorem dL_law_681 : decode cL_law 681 = .ok (.iaload, 1) := by decide +kernel
theorem dL_law_682 : decode cL_law 682 = .ok (.invokevirtual 98, 3) := by decide +kernel
theorem dL_law_685 : decode cL_law 685 = .ok (.aload_n 2, 1) := by decide +kernel
theorem dL_law_686 : decode cL_law 686 = .ok (.aload_n 0, 1) := by decide +kernel
theorem dL_law_687 : decode cL_law 687 = .ok (.iload_n 3, 1) := by decide +kernel
theorem dL_law_688 : decode cL_law 688 = .ok (.iconst 1, 1) := by decide +kernel
theorem dL_law_689 : decode cL_law 689 = .ok (.iadd, 1) := by decide +kernel
theorem dL_law_690 : decode cL_law 690 = .ok (.iaload, 1) := by decide +kernel
theorem dL_law_691 : decode cL_law 691 = .ok (.invokevirtual 101, 3) := by decide +kernel
theorem dL_law_694 : decode cL_law 694 = .ok (.if_icmp .eq 290, 3) := by decide +kernel
theorem dL_law_697 : decode cL_law 697 = .ok (.iconst 0, 1) := by decide +kernel
theorem dL_law_698 : decode cL_law 698 = .ok (.ireturn, 1) := by decide +kernel
theorem dL_law_699 : decode cL_law 699 = .ok (.aload_n 1, 1) := by decide +kernel
theorem dL_law_700 : decode cL_law 700 = .ok (.aload_n 0, 1) := by decide +kernel
theorem dL_law_701 : decode cL_law 701 = .ok (.iload_n 3, 1) := by decide +kernel
theorem dL_law_702 : decode cL_law 702 = .ok (.iconst 1, 1) := by decide +kernel
theorem dL_law_703 : decode cL_law 703 = .ok (.iadd, 1) := by decide +kernel
theorem dL_law_704 : decode cL_law 704 = .ok (.iaload, 1) := by decide +kernel
theorem dL_law_705 : decode cL_law 705 = .ok (.invokevirtual 102, 3) := by decide +kernel
theorem dL_law_708 : decode cL_law 708 = .ok (.aload_n 2, 1) := by decide +kernel
theorem dL_law_709 : decode cL_law 709 = .ok (.aload_n 0, 1) := by decide +kernel
theorem dL_law_710 : decode cL_law 710 = .ok (.iload_n 3, 1) := by decide +kernel
theorem dL_law_711 : decode cL_law 711 = .ok (.iconst 1, 1) := by decide +kernel
theorem dL_law_712 : decode cL_law 712 = .ok (.iadd, 1) := by decide +kernel
theorem dL_law_713 : decode cL_law 713 = .ok (.iaload, 1) := by decide +kernel
theorem dL_law_714 : decode cL_law 714 = .ok (.invokevirtual 105, 3) := by decide +kernel
theorem dL_law_717 : decode cL_law 717 = .ok (.if_icmp .eq 267, 3) := by decide +kernel
theorem dL_law_720 : decode cL_law 720 = .ok (.iconst 0, 1) := by decide +kernel
theorem dL_law_721 : decode cL_law 721 = .ok (.ireturn, 1) := by decide +kernel
theorem dL_law_722 : decode cL_law 722 = .ok (.aload_n 1, 1) := by decide +kernel
theorem dL_law_723 : decode cL_law 723 = .ok (.invokevirtual 106, 3) := by decide +kernel
theorem dL_law_726 : decode cL_law 726 = .ok (.aload_n 2, 1) := by decide +kernel
theorem dL_law_727 : decode cL_law 727 = .ok (.invokevirtual 109, 3) := by decide +kernel
theorem dL_law_730 : decode cL_law 730 = .ok (.if_icmp .eq 254, 3) := by decide +kernel
theorem dL_law_733 : decode cL_law 733 = .ok (.iconst 0, 1) := by decide +kernel
theorem dL_law_734 : decode cL_law 734 = .ok (.ireturn, 1) := by decide +kernel
theorem dL_law_735 : decode cL_law 735 = .ok (.aload_n 1, 1) := by decide +kernel
theorem dL_law_736 : decode cL_law 736 = .ok (.aload_n 0, 1) := by decide +kernel
theorem dL_law_737 : decode cL_law 737 = .ok (.iload_n 3, 1) := by decide +kernel
theorem dL_law_738 : decode cL_law 738 = .ok (.iconst 1, 1) := by decide +kernel
theorem dL_law_739 : decode cL_law 739 = .ok (.iadd, 1) := by decide +kernel
theorem dL_law_740 : decode cL_law 740 = .ok (.iaload, 1) := by decide +kernel
theorem dL_law_741 : decode cL_law 741 = .ok (.aload_n 0, 1) := by decide +kernel
theorem dL_law_742 : decode cL_law 742 = .ok (.iload_n 3, 1) := by decide +kernel
theorem dL_law_743 : decode cL_law 743 = .ok (.iconst 2, 1) := by decide +kernel
theorem dL_law_744 : decode cL_law 744 = .ok (.iadd, 1) := by decide +kernel
theorem dL_law_745 : decode cL_law 745 = .ok (.iaload, 1) := by decide +kernel
theorem dL_law_746 : decode cL_law 746 = .ok (.invokevirtual 110, 3) := by decide +kernel
theorem dL_law_749 : decode cL_law 749 = .ok (.aload_n 2, 1) := by decide +kernel
theorem dL_law_750 : decode cL_law 750 = .ok (.aload_n 0, 1) := by decide +kernel
theorem dL_law_751 : decode cL_law 751 = .ok (.iload_n 3, 1) := by decide +kernel
theorem dL_law_752 : decode cL_law 752 = .ok (.iconst 1, 1) := by decide +kernel
theorem dL_law_753 : decode cL_law 753 = .ok (.iadd, 1) := by decide +kernel
theorem dL_law_754 : decode cL_law 754 = .ok (.iaload, 1) := by decide +kernel
theorem dL_law_755 : decode cL_law 755 = .ok (.aload_n 0, 1) := by decide +kernel
theorem dL_law_756 : decode cL_law 756 = .ok (.iload_n 3, 1) := by decide +kernel
theorem dL_law_757 : decode cL_law 757 = .ok (.iconst 2, 1) := by decide +kernel
theorem dL_law_758 : decode cL_law 758 = .ok (.iadd, 1) := by decide +kernel
theorem dL_law_759 : decode cL_law 759 = .ok (.iaload, 1) := by decide +kernel
theorem dL_law_760 : decode cL_law 760 = .ok (.invokevirtual 113, 3) := by decide +kernel
theorem dL_law_763 : decode cL_law 763 = .ok (.if_icmp .eq 221, 3) := by decide +kernel
theorem dL_law_766 : decode cL_law 766 = .ok (.iconst 0, 1) := by decide +kernel
theorem dL_law_767 : decode cL_law 767 = .ok (.ireturn, 1) := by decide +kernel
theorem dL_law_768 : decode cL_law 768 = .ok (.aload_n 1, 1) := by decide +kernel
theorem dL_law_769 : decode cL_law 769 = .ok (.aload_n 0, 1) := by decide +kernel
theorem dL_law_770 : decode cL_law 770 = .ok (.iload_n 3, 1) := by decide +kernel
theorem dL_law_771 : decode cL_law 771 = .ok (.iconst 1, 1) := by decide +kernel
theorem dL_law_772 : decode cL_law 772 = .ok (.iadd, 1) := by decide +kernel
theorem dL_law_773 : decode cL_law 773 = .ok (.iaload, 1) := by decide +kernel
theorem dL_law_774 : decode cL_law 774 = .ok (.aload_n 0, 1) := by decide +kernel
theorem dL_law_775 : decode cL_law 775 = .ok (.iload_n 3, 1) := by decide +kernel
theorem dL_law_776 : decode cL_law 776 = .ok (.iconst 2, 1) := by decide +kernel
theorem dL_law_777 : decode cL_law 777 = .ok (.iadd, 1) := by decide +kernel
theorem dL_law_778 : decode cL_law 778 = .ok (.iaload, 1) := by decide +kernel
theorem dL_law_779 : decode cL_law 779 = .ok (.aload_n 0, 1) := by decide +kernel
theorem dL_law_780 : decode cL_law 780 = .ok (.iload_n 3, 1) := by decide +kernel
theorem dL_law_781 : decode cL_law 781 = .ok (.iconst 3, 1) := by decide +kernel
theorem dL_law_782 : decode cL_law 782 = .ok (.iadd, 1) := by decide +kernel
theorem dL_law_783 : decode cL_law 783 = .ok (.iaload, 1) := by decide +kernel
theorem dL_law_784 : decode cL_law 784 = .ok (.invokevirtual 114, 3) := by decide +kernel
theorem dL_law_787 : decode cL_law 787 = .ok (.aload_n 2, 1) := by decide +kernel
theorem dL_law_788 : decode cL_law 788 = .ok (.aload_n 0, 1) := by decide +kernel
theorem dL_law_789 : decode cL_law 789 = .ok (.iload_n 3, 1) := by decide +kernel
theorem dL_law_790 : decode cL_law 790 = .ok (.iconst 1, 1) := by decide +kernel
theorem dL_law_791 : decode cL_law 791 = .ok (.iadd, 1) := by decide +kernel
theorem dL_law_792 : decode cL_law 792 = .ok (.iaload, 1) := by decide +kernel
theorem dL_law_793 : decode cL_law 793 = .ok (.aload_n 0, 1) := by decide +kernel
theorem dL_law_794 : decode cL_law 794 = .ok (.iload_n 3, 1) := by decide +kernel
theorem dL_law_795 : decode cL_law 795 = .ok (.iconst 2, 1) := by decide +kernel
theorem dL_law_796 : decode cL_law 796 = .ok (.iadd, 1) := by decide +kernel
theorem dL_law_797 : decode cL_law 797 = .ok (.iaload, 1) := by decide +kernel
theorem dL_law_798 : decode cL_law 798 = .ok (.aload_n 0, 1) := by decide +kernel
theorem dL_law_799 : decode cL_law 799 = .ok (.iload_n 3, 1) := by decide +kernel
theorem dL_law_800 : decode cL_law 800 = .ok (.iconst 3, 1) := by decide +kernel
theorem dL_law_801 : decode cL_law 801 = .ok (.iadd, 1) := by decide +kernel
theorem dL_law_802 : decode cL_law 802 = .ok (.iaload, 1) := by decide +kernel
theorem dL_law_803 : decode cL_law 803 = .ok (.invokevirtual 117, 3) := by decide +kernel
theorem dL_law_806 : decode cL_law 806 = .ok (.if_icmp .eq 178, 3) := by decide +kernel
theorem dL_law_809 : decode cL_law 809 = .ok (.iconst 0, 1) := by decide +kernel
theorem dL_law_810 : decode cL_law 810 = .ok (.ireturn, 1) := by decide +kernel
theorem dL_law_811 : decode cL_law 811 = .ok (.aload_n 1, 1) := by decide +kernel
theorem dL_law_812 : decode cL_law 812 = .ok (.aload_n 0, 1) := by decide +kernel
theorem dL_law_813 : decode cL_law 813 = .ok (.iload_n 3, 1) := by decide +kernel
theorem dL_law_814 : decode cL_law 814 = .ok (.iconst 1, 1) := by decide +kernel
theorem dL_law_815 : decode cL_law 815 = .ok (.iadd, 1) := by decide +kernel
theorem dL_law_816 : decode cL_law 816 = .ok (.iaload, 1) := by decide +kernel
theorem dL_law_817 : decode cL_law 817 = .ok (.aload_n 0, 1) := by decide +kernel
theorem dL_law_818 : decode cL_law 818 = .ok (.iload_n 3, 1) := by decide +kernel
theorem dL_law_819 : decode cL_law 819 = .ok (.iconst 2, 1) := by decide +kernel
theorem dL_law_820 : decode cL_law 820 = .ok (.iadd, 1) := by decide +kernel
theorem dL_law_821 : decode cL_law 821 = .ok (.iaload, 1) := by decide +kernel
theorem dL_law_822 : decode cL_law 822 = .ok (.aload_n 0, 1) := by decide +kernel
theorem dL_law_823 : decode cL_law 823 = .ok (.iload_n 3, 1) := by decide +kernel
theorem dL_law_824 : decode cL_law 824 = .ok (.iconst 3, 1) := by decide +kernel
theorem dL_law_825 : decode cL_law 825 = .ok (.iadd, 1) := by decide +kernel
theorem dL_law_826 : decode cL_law 826 = .ok (.iaload, 1) := by decide +kernel
theorem dL_law_827 : decode cL_law 827 = .ok (.invokevirtual 118, 3) := by decide +kernel
theorem dL_law_830 : decode cL_law 830 = .ok (.aload_n 2, 1) := by decide +kernel
theorem dL_law_831 : decode cL_law 831 = .ok (.aload_n 0, 1) := by decide +kernel
theorem dL_law_832 : decode cL_law 832 = .ok (.iload_n 3, 1) := by decide +kernel
theorem dL_law_833 : decode cL_law 833 = .ok (.iconst 1, 1) := by decide +kernel
theorem dL_law_834 : decode cL_law 834 = .ok (.iadd, 1) := by decide +kernel
theorem dL_law_835 : decode cL_law 835 = .ok (.iaload, 1) := by decide +kernel
theorem dL_law_836 : decode cL_law 836 = .ok (.aload_n 0, 1) := by decide +kernel
theorem dL_law_837 : decode cL_law 837 = .ok (.iload_n 3, 1) := by decide +kernel
theorem dL_law_838 : decode cL_law 838 = .ok (.iconst 2, 1) := by decide +kernel
theorem dL_law_839 : decode cL_law 839 = .ok (.iadd, 1) := by decide +kernel
theorem dL_law_840 : decode cL_law 840 = .ok (.iaload, 1) := by decide +kernel
theorem dL_law_841 : decode cL_law 841 = .ok (.aload_n 0, 1) := by decide +kernel
theorem dL_law_842 : decode cL_law 842 = .ok (.iload_n 3, 1) := by decide +kernel
theorem dL_law_843 : decode cL_law 843 = .ok (.iconst 3, 1) := by decide +kernel
theorem dL_law_844 : decode cL_law 844 = .ok (.iadd, 1) := by decide +kernel
theorem dL_law_845 : decode cL_law 845 = .ok (.iaload, 1) := by decide +kernel
theorem dL_law_846 : decode cL_law 846 = .ok (.invokevirtual 121, 3) := by decide +kernel
theorem dL_law_849 : decode cL_law 849 = .ok (.if_icmp .eq 135, 3) := by decide +kernel
theorem dL_law_852 : decode cL_law 852 = .ok (.iconst 0, 1) := by decide +kernel
theorem dL_law_853 : decode cL_law 853 = .ok (.ireturn, 1) := by decide +kernel
theorem dL_law_854 : decode cL_law 854 = .ok (.aload_n 1, 1) := by decide +kernel
theorem dL_law_855 : decode cL_law 855 = .ok (.aload_n 0, 1) := by decide +kernel
theorem dL_law_856 : decode cL_law 856 = .ok (.iload_n 3, 1) := by decide +kernel
theorem dL_law_857 : decode cL_law 857 = .ok (.iconst 1, 1) := by decide +kernel
theorem dL_law_858 : decode cL_law 858 = .ok (.iadd, 1) := by decide +kernel
theorem dL_law_859 : decode cL_law 859 = .ok (.iaload, 1) := by decide +kernel
theorem dL_law_860 : decode cL_law 860 = .ok (.invokevirtual 122, 3) := by decide +kernel
theorem dL_law_863 : decode cL_law 863 = .ok (.aload_n 2, 1) := by decide +kernel
theorem dL_law_864 : decode cL_law 864 = .ok (.aload_n 0, 1) := by decide +kernel
theorem dL_law_865 : decode cL_law 865 = .ok (.iload_n 3, 1) := by decide +kernel
theorem dL_law_866 : decode cL_law 866 = .ok (.iconst 1, 1) := by decide +kernel
theorem dL_law_867 : decode cL_law 867 = .ok (.iadd, 1) := by decide +kernel
theorem dL_law_868 : decode cL_law 868 = .ok (.iaload, 1) := by decide +kernel
theorem dL_law_869 : decode cL_law 869 = .ok (.invokevirtual 126, 3) := by decide +kernel
theorem dL_law_872 : decode cL_law 872 = .ok (.lcmp, 1) := by decide +kernel
theorem dL_law_873 : decode cL_law 873 = .ok (.ifCond .eq 111, 3) := by decide +kernel
theorem dL_law_876 : decode cL_law 876 = .ok (.iconst 0, 1) := by decide +kernel
theorem dL_law_877 : decode cL_law 877 = .ok (.ireturn, 1) := by decide +kernel
theorem dL_law_878 : decode cL_law 878 = .ok (.aload_n 1, 1) := by decide +kernel
theorem dL_law_879 : decode cL_law 879 = .ok (.aload_n 0, 1) := by decide +kernel
theorem dL_law_880 : decode cL_law 880 = .ok (.iload_n 3, 1) := by decide +kernel
theorem dL_law_881 : decode cL_law 881 = .ok (.iconst 1, 1) := by decide +kernel
theorem dL_law_882 : decode cL_law 882 = .ok (.iadd, 1) := by decide +kernel
theorem dL_law_883 : decode cL_law 883 = .ok (.iaload, 1) := by decide +kernel
theorem dL_law_884 : decode cL_law 884 = .ok (.invokevirtual 127, 3) := by decide +kernel
theorem dL_law_887 : decode cL_law 887 = .ok (.aload_n 2, 1) := by decide +kernel
theorem dL_law_888 : decode cL_law 888 = .ok (.aload_n 0, 1) := by decide +kernel
theorem dL_law_889 : decode cL_law 889 = .ok (.iload_n 3, 1) := by decide +kernel
theorem dL_law_890 : decode cL_law 890 = .ok (.iconst 1, 1) := by decide +kernel
theorem dL_law_891 : decode cL_law 891 = .ok (.iadd, 1) := by decide +kernel
theorem dL_law_892 : decode cL_law 892 = .ok (.iaload, 1) := by decide +kernel
theorem dL_law_893 : decode cL_law 893 = .ok (.invokevirtual 130, 3) := by decide +kernel
theorem dL_law_896 : decode cL_law 896 = .ok (.if_icmp .eq 88, 3) := by decide +kernel
theorem dL_law_899 : decode cL_law 899 = .ok (.iconst 0, 1) := by decide +kernel
theorem dL_law_900 : decode cL_law 900 = .ok (.ireturn, 1) := by decide +kernel
theorem dL_law_901 : decode cL_law 901 = .ok (.aload_n 1, 1) := by decide +kernel
theorem dL_law_902 : decode cL_law 902 = .ok (.aload_n 0, 1) := by decide +kernel
theorem dL_law_903 : decode cL_law 903 = .ok (.iload_n 3, 1) := by decide +kernel
theorem dL_law_904 : decode cL_law 904 = .ok (.iconst 1, 1) := by decide +kernel
theorem dL_law_905 : decode cL_law 905 = .ok (.iadd, 1) := by decide +kernel
theorem dL_law_906 : decode cL_law 906 = .ok (.iaload, 1) := by decide +kernel
theorem dL_law_907 : decode cL_law 907 = .ok (.invokevirtual 131, 3) := by decide +kernel
theorem dL_law_910 : decode cL_law 910 = .ok (.aload_n 2, 1) := by decide +kernel
theorem dL_law_911 : decode cL_law 911 = .ok (.aload_n 0, 1) := by decide +kernel
theorem dL_law_912 : decode cL_law 912 = .ok (.iload_n 3, 1) := by decide +kernel
theorem dL_law_913 : decode cL_law 913 = .ok (.iconst 1, 1) := by decide +kernel
theorem dL_law_914 : decode cL_law 914 = .ok (.iadd, 1) := by decide +kernel
theorem dL_law_915 : decode cL_law 915 = .ok (.iaload, 1) := by decide +kernel
theorem dL_law_916 : decode cL_law 916 = .ok (.invokevirtual 134, 3) := by decide +kernel
theorem dL_law_919 : decode cL_law 919 = .ok (.if_icmp .eq 65, 3) := by decide +kernel
theorem dL_law_922 : decode cL_law 922 = .ok (.iconst 0, 1) := by decide +kernel
theorem dL_law_923 : decode cL_law 923 = .ok (.ireturn, 1) := by decide +kernel
theorem dL_law_924 : decode cL_law 924 = .ok (.aload_n 1, 1) := by decide +kernel
theorem dL_law_925 : decode cL_law 925 = .ok (.aload_n 0, 1) := by decide +kernel
theorem dL_law_926 : decode cL_law 926 = .ok (.iload_n 3, 1) := by decide +kernel
theorem dL_law_927 : decode cL_law 927 = .ok (.iconst 1, 1) := by decide +kernel
theorem dL_law_928 : decode cL_law 928 = .ok (.iadd, 1) := by decide +kernel
theorem dL_law_929 : decode cL_law 929 = .ok (.iaload, 1) := by decide +kernel
theorem dL_law_930 : decode cL_law 930 = .ok (.invokevirtual 135, 3) := by decide +kernel
theorem dL_law_933 : decode cL_law 933 = .ok (.aload_n 2, 1) := by decide +kernel
theorem dL_law_934 : decode cL_law 934 = .ok (.aload_n 0, 1) := by decide +kernel
theorem dL_law_935 : decode cL_law 935 = .ok (.iload_n 3, 1) := by decide +kernel
theorem dL_law_936 : decode cL_law 936 = .ok (.iconst 1, 1) := by decide +kernel
theorem dL_law_937 : decode cL_law 937 = .ok (.iadd, 1) := by decide +kernel
theorem dL_law_938 : decode cL_law 938 = .ok (.iaload, 1) := by decide +kernel
theorem dL_law_939 : decode cL_law 939 = .ok (.invokevirtual 138, 3) := by decide +kernel
theorem dL_law_942 : decode cL_law 942 = .ok (.if_icmp .eq 42, 3) := by decide +kernel
theorem dL_law_945 : decode cL_law 945 = .ok (.iconst 0, 1) := by decide +kernel
theorem dL_law_946 : decode cL_law 946 = .ok (.ireturn, 1) := by decide +kernel
theorem dL_law_947 : decode cL_law 947 = .ok (.aload_n 1, 1) := by decide +kernel
theorem dL_law_948 : decode cL_law 948 = .ok (.aload_n 0, 1) := by decide +kernel
theorem dL_law_949 : decode cL_law 949 = .ok (.iload_n 3, 1) := by decide +kernel
theorem dL_law_950 : decode cL_law 950 = .ok (.iconst 1, 1) := by decide +kernel
theorem dL_law_951 : decode cL_law 951 = .ok (.iadd, 1) := by decide +kernel
theorem dL_law_952 : decode cL_law 952 = .ok (.iaload, 1) := by decide +kernel
theorem dL_law_953 : decode cL_law 953 = .ok (.invokevirtual 139, 3) := by decide +kernel
theorem dL_law_956 : decode cL_law 956 = .ok (.aload_n 2, 1) := by decide +kernel
theorem dL_law_957 : decode cL_law 957 = .ok (.aload_n 0, 1) := by decide +kernel
theorem dL_law_958 : decode cL_law 958 = .ok (.iload_n 3, 1) := by decide +kernel
theorem dL_law_959 : decode cL_law 959 = .ok (.iconst 1, 1) := by decide +kernel
theorem dL_law_960 : decode cL_law 960 = .ok (.iadd, 1) := by decide +kernel
theorem dL_law_961 : decode cL_law 961 = .ok (.iaload, 1) := by decide +kernel
theorem dL_law_962 : decode cL_law 962 = .ok (.invokevirtual 142, 3) := by decide +kernel
theorem dL_law_965 : decode cL_law 965 = .ok (.if_icmp .eq 19, 3) := by decide +kernel
theorem dL_law_968 : decode cL_law 968 = .ok (.iconst 0, 1) := by decide +kernel
theorem dL_law_969 : decode cL_law 969 = .ok (.ireturn, 1) := by decide +kernel
theorem dL_law_970 : decode cL_law 970 = .ok (.aload_n 1, 1) := by decide +kernel
theorem dL_law_971 : decode cL_law 971 = .ok (.invokevirtual 143, 3) := by decide +kernel
theorem dL_law_974 : decode cL_law 974 = .ok (.aload_n 2, 1) := by decide +kernel
theorem dL_law_975 : decode cL_law 975 = .ok (.invokevirtual 147, 3) := by decide +kernel
theorem dL_law_978 : decode cL_law 978 = .ok (.lcmp, 1) := by decide +kernel
theorem dL_law_979 : decode cL_law 979 = .ok (.ifCond .eq 5, 3) := by decide +kernel
theorem dL_law_982 : decode cL_law 982 = .ok (.iconst 0, 1) := by decide +kernel
theorem dL_law_983 : decode cL_law 983 = .ok (.ireturn, 1) := by decide +kernel
theorem dL_law_984 : decode cL_law 984 = .ok (.iinc 3 5, 3) := by decide +kernel
theorem dL_law_987 : decode cL_law 987 = .ok (.goto (-969), 3) := by decide +kernel
theorem dL_law_990 : decode cL_law 990 = .ok (.iconst 1, 1) := by decide +kernel
theorem dL_law_991 : decode cL_law 991 = .ok (.ireturn, 1) := by decide +kernel
end
section
/-! THE ABSTRACT HEAP: cells by their numbers in the order in which they are made; ints, longs, references by cell and place -/
abbrev HI : Type := Nat → Nat → Int32
abbrev HJ : Type := Nat → Nat → Int64
abbrev HP : Type := Nat → Nat → Option Nat
abbrev jX : Type := Nat × (Nat → Int32)
abbrev jPost : Type := Option Value → Nat → HI → HJ → HP → Prop
/-- a local that isn't known -/
def jU : Value := .retAddr 0
def jv_ren (ad : Nat → Nat) (v : Value) : Value := match v with
  | .ref a => .ref (ad a)
  | w => w
/-- kinds of cells: 0 an object of a class, 1 ints, 2 longs, 3 bytes, 4 booleans, 5 references -/
def jsh : List (Nat × Nat) := [(0, 7), (0, 6), (1, 6), (1, 6), (1, 6), (1, 6), (1, 8), (1, 8), (1, 8), (1, 8), (0, 3), (1, 104), (5, 2), (0, 4), (3, 150), (0, 6), (1, 6), (1, 6), (1, 6), (1, 6), (1, 8), (1, 8), (1, 8), (1, 8), (0, 3), (1, 104), (0, 0), (1, 6), (2, 61), (0, 2), (0, 5), (1, 6), (0, 1), (0, 8), (1, 167), (1, 167), (1, 334), (4, 2), (1, 150), (1, 3), (1, 6), (1, 15), (2, 61), (2, 61), (0, 6), (1, 6), (1, 6), (1, 6), (1, 6), (1, 8), (1, 8), (1, 8), (1, 8), (0, 3), (1, 104), (0, 6), (1, 6), (1, 6), (1, 6), (1, 6), (1, 8), (1, 8), (1, 8), (1, 8), (0, 3), (1, 104)]
def shp (a : Nat) : Nat × Nat := jsh.getD a (9, 0)
def jv_fld (ad : Nat → Nat) (I : HI) (J : HJ) (P : HP) (ci a k : Nat) : Value := match jty ci k with
  | .int => .int (I a k)
  | .long => .long (J a k)
  | _ => va_rf ((P a k).map ad)
def jv_cell (tc : Nat → ClassId) (ad : Nat → Nat) (I : HI) (J : HJ) (P : HP) (a : Nat) : va_E := match (shp a).1 with
  | 0 => .inr ((shp a).2, (List.range (fnm (shp a).2)).map (jv_fld ad I J P (shp a).2 a))
  | 1 => .inl (tc 0, (shp a).2, .inl (I a))
  | 2 => .inl (tc 1, (shp a).2, .inr (.inl (J a)))
  | 3 => .inl (tc 2, (shp a).2, .inl (I a))
  | 4 => .inl (tc 3, (shp a).2, .inl (I a))
  | _ => .inl (tc 4, (shp a).2, .inr (.inr (.inr (.inr (fun k => (P a k).map ad)))))
def jv_ws (tc : Nat → ClassId) (ad : Nat → Nat) (n : Nat) (I : HI) (J : HJ) (P : HP) : va_W := (List.range n).map (fun a => (ad a, jv_cell tc ad I J P a))
abbrev jv_tys (tc : Nat → ClassId) : List (ClassId × FieldType) := [(tc 0, .int), (tc 1, .long), (tc 2, .byte), (tc 3, .boolean), (tc 4, .object RX8)]
def u2 {α : Type} (I : Nat → Nat → α) (a k : Nat) (v : α) : Nat → Nat → α := fun b j => if b = a then (if j = k then v else I b j) else I b j
def ur {α : Type} (I : Nat → Nat → α) (a : Nat) (f : Nat → α) : Nat → Nat → α := fun b j => if b = a then f j else I b j
theorem ur_row {α : Type} (I : Nat → Nat → α) (a : Nat) (f : Nat → α) : ur I a f a = f := by funext j; simp [ur]
theorem ur_ne {α : Type} (I : Nat → Nat → α) {a b : Nat} (f : Nat → α) (h : b ≠ a) : ur I a f b = I b := by funext j; simp [ur, h]
theorem u2_row {α : Type} (I : Nat → Nat → α) (a k : Nat) (v : α) : u2 I a k v a = fun j => if j = k then v else I a j := by funext j; simp [u2]
theorem u2_ne {α : Type} (I : Nat → Nat → α) {a b : Nat} (k : Nat) (v : α) (h : b ≠ a) : u2 I a k v b = I b := by funext j; simp [u2, h]
theorem jws_len (tc : Nat → ClassId) (ad : Nat → Nat) (n : Nat) (I : HI) (J : HJ) (P : HP) : (jv_ws tc ad n I J P).length = n := by simp [jv_ws]
theorem jws_get {tc : Nat → ClassId} {ad : Nat → Nat} {n : Nat} {I : HI} {J : HJ} {P : HP} {a : Nat} (h : a < n) : (jv_ws tc ad n I J P)[a]? = some (ad a, jv_cell tc ad I J P a) := by
  simp [jv_ws, h]
theorem jws_none {tc : Nat → ClassId} {ad : Nat → Nat} {n : Nat} {I : HI} {J : HJ} {P : HP} {a : Nat} (h : ¬ a < n) : (jv_ws tc ad n I J P)[a]? = none := by
  rw [List.getElem?_eq_none_iff, jws_len]; omega
theorem jws_set {tc : Nat → ClassId} {ad : Nat → Nat} {n : Nat} {I I' : HI} {J J' : HJ} {P P' : HP} {a : Nat} {x : va_E} (h : a < n) (hx : jv_cell tc ad I' J' P' a = x) (ho : ∀ b, b < n → b ≠ a → jv_cell tc ad I' J' P' b = jv_cell tc ad I J P b) :
    (jv_ws tc ad n I J P).set a (ad a, x) = jv_ws tc ad n I' J' P' := by
  apply List.ext_getElem?
  intro b
  by_cases hb : b < n
  · rw [jws_get hb]
    by_cases hba : b = a
    · subst hba
      rw [List.getElem?_set_self (by rw [jws_len]; exact h), hx]
    · rw [List.getElem?_set_ne (Ne.symm hba), jws_get hb, ho b hb hba]
  · rw [jws_none hb, List.getElem?_eq_none_iff, List.length_set, jws_len]; omega
theorem jws_congr {tc : Nat → ClassId} {ad ad' : Nat → Nat} {n : Nat} {I I' : HI} {J J' : HJ} {P P' : HP} (hd : ∀ b, b < n → ad' b = ad b) (hc : ∀ b, b < n → jv_cell tc ad' I' J' P' b = jv_cell tc ad I J P b) : jv_ws tc ad' n I' J' P' = jv_ws tc ad n I J P := by
  apply List.ext_getElem?
  intro b
  by_cases hb : b < n
  · rw [jws_get hb, jws_get hb, hd b hb, hc b hb]
  · rw [jws_none hb, jws_none hb]
theorem jws_push {tc : Nat → ClassId} {ad ad' : Nat → Nat} {n q : Nat} {I I' : HI} {J J' : HJ} {P P' : HP} {x : va_E} (hd : ∀ b, b < n → ad' b = ad b) (hc : ∀ b, b < n → jv_cell tc ad' I' J' P' b = jv_cell tc ad I J P b) (hq : ad' n = q) (hx : jv_cell tc ad' I' J' P' n = x) :
    jv_ws tc ad n I J P ++ [(q, x)] = jv_ws tc ad' (n + 1) I' J' P' := by
  apply List.ext_getElem?
  intro b
  by_cases hb : b < n
  · rw [List.getElem?_append_left (by rw [jws_len]; exact hb), jws_get hb, jws_get (by omega), hd b hb, hc b hb]
  · by_cases hbn : b = n
    · subst hbn
      rw [List.getElem?_append_right (by rw [jws_len]; omega), jws_len, jws_get (by omega), hq, hx]
      simp
    · rw [jws_none (by omega), List.getElem?_eq_none_iff, List.length_append, jws_len]
      simp
      omega
theorem jmap_set {α : Type} {N k : Nat} {f g : Nat → α} {v : α} (hk : g k = v) (ho : ∀ j, j < N → j ≠ k → g j = f j) : ((List.range N).map f).set k v = (List.range N).map g := by
  apply List.ext_getElem?
  intro j
  by_cases hj : j < N
  · by_cases hjk : j = k
    · subst hjk
      rw [List.getElem?_set_self (by simpa using hj)]
      simp [hj, hk]
    · rw [List.getElem?_set_ne (Ne.symm hjk)]
      simp [hj, ho j hj hjk]
  · have h1 : (((List.range N).map f).set k v)[j]? = none := by
      rw [List.getElem?_eq_none_iff]; simp; omega
    have h2 : ((List.range N).map g)[j]? = none := by
      rw [List.getElem?_eq_none_iff]; simp; omega
    rw [h1, h2]
/-! cells by kind -/
theorem jcell_obj {tc : Nat → ClassId} {ad : Nat → Nat} {I : HI} {J : HJ} {P : HP} {a ci : Nat} (h : shp a = (0, ci)) : jv_cell tc ad I J P a = .inr (ci, (List.range (fnm ci)).map (jv_fld ad I J P ci a)) := by
  simp only [jv_cell, h]
theorem jcell_int {tc : Nat → ClassId} {ad : Nat → Nat} {I : HI} {J : HJ} {P : HP} {a n : Nat} (h : shp a = (1, n)) : jv_cell tc ad I J P a = .inl (tc 0, n, .inl (I a)) := by
  simp only [jv_cell, h]
theorem jcell_long {tc : Nat → ClassId} {ad : Nat → Nat} {I : HI} {J : HJ} {P : HP} {a n : Nat} (h : shp a = (2, n)) : jv_cell tc ad I J P a = .inl (tc 1, n, .inr (.inl (J a))) := by
  simp only [jv_cell, h]
theorem jcell_byte {tc : Nat → ClassId} {ad : Nat → Nat} {I : HI} {J : HJ} {P : HP} {a n : Nat} (h : shp a = (3, n)) : jv_cell tc ad I J P a = .inl (tc 2, n, .inl (I a)) := by
  simp only [jv_cell, h]
theorem jcell_bool {tc : Nat → ClassId} {ad : Nat → Nat} {I : HI} {J : HJ} {P : HP} {a n : Nat} (h : shp a = (4, n)) : jv_cell tc ad I J P a = .inl (tc 3, n, .inl (I a)) := by
  simp only [jv_cell, h]
theorem jcell_ref {tc : Nat → ClassId} {ad : Nat → Nat} {I : HI} {J : HJ} {P : HP} {a n : Nat} (h : shp a = (5, n)) : jv_cell tc ad I J P a = .inl (tc 4, n, .inr (.inr (.inr (.inr (fun k => (P a k).map ad))))) := by
  simp only [jv_cell, h]
/-- a cell depends on its own row alone, and on the addresses of what it holds -/
theorem jcell_congr {tc : Nat → ClassId} {ad ad' : Nat → Nat} {I I' : HI} {J J' : HJ} {P P' : HP} {a : Nat} (hI : I' a = I a) (hJ : J' a = J a) (hP : ∀ k, (P' a k).map ad' = (P a k).map ad) : jv_cell tc ad' I' J' P' a = jv_cell tc ad I J P a := by
  have hf : jv_fld ad' I' J' P' (shp a).2 a = jv_fld ad I J P (shp a).2 a := by
    funext k
    simp only [jv_fld, hI, hJ, hP]
  have hp : (fun k => (P' a k).map ad') = (fun k => (P a k).map ad) := funext hP
  simp only [jv_cell, hI, hJ, hf, hp]
/-! which references are alive -/
def jv_ok (n : Nat) (v : Value) : Prop := ∀ a : Nat, v = .ref a → (a < n ∨ 1000 ≤ a)
def jv_okP (n : Nat) (P : HP) : Prop := ∀ a k b : Nat, a < n → P a k = some b → b < n
theorem jv_ok.int {n : Nat} {x : Int32} : jv_ok n (.int x) := fun _ h => by cases h
theorem jv_ok.long {n : Nat} {x : Int64} : jv_ok n (.long x) := fun _ h => by cases h
theorem jv_ok.nul {n : Nat} : jv_ok n .null := fun _ h => by cases h
theorem jv_ok.uns {n : Nat} : jv_ok n jU := fun _ h => by cases h
theorem jv_ok.mono {n n' : Nat} {v : Value} (h : jv_ok n v) (hn : n ≤ n') : jv_ok n' v := fun a e => (h a e).elim (fun q => Or.inl (Nat.lt_of_lt_of_le q hn)) Or.inr
def jv_ext (n : Nat) (ad : Nat → Nat) (n' : Nat) (ad' : Nat → Nat) : Prop := n ≤ n' ∧ ∀ a : Nat, (a < n ∨ 1000 ≤ a) → ad' a = ad a
theorem jv_ext.rf {n : Nat} {ad : Nat → Nat} : jv_ext n ad n ad := ⟨Nat.le_refl _, fun _ _ => rfl⟩
theorem jv_ext.trans {n n1 n2 : Nat} {ad ad1 ad2 : Nat → Nat} (h : jv_ext n ad n1 ad1) (h2 : jv_ext n1 ad1 n2 ad2) : jv_ext n ad n2 ad2 :=
  ⟨Nat.le_trans h.1 h2.1, fun a ha => (h2.2 a (ha.elim (fun q => Or.inl (Nat.lt_of_lt_of_le q h.1)) Or.inr)).trans (h.2 a ha)⟩
theorem jv_ren_ext {n n' : Nat} {ad ad' : Nat → Nat} (h : jv_ext n ad n' ad') {v : Value} (hv : jv_ok n v) : jv_ren ad' v = jv_ren ad v := by
  cases v with
  | ref a => exact congrArg Value.ref (h.2 a (hv a rfl))
  | _ => rfl
theorem jv_rens_ext {n n' : Nat} {ad ad' : Nat → Nat} (h : jv_ext n ad n' ad') {L : List Value} (hv : ∀ v ∈ L, jv_ok n v) : L.map (jv_ren ad') = L.map (jv_ren ad) :=
  List.map_congr_left (fun v hm => jv_ren_ext h (hv v hm))
theorem jv_ren_cat (ad : Nat → Nat) (v : Value) : (jv_ren ad v).category = v.category := by cases v <;> rfl
theorem jv_ren_rf (ad : Nat → Nat) (r : Option Nat) : jv_ren ad (va_rf r) = va_rf (r.map ad) := by cases r <;> rfl
end
section
/-! THE JUDGEMENT: a method's body runs from a place to its end, over the abstract heap; the machine is hidden -/
def jv_tbl : List Cond := lw_tbl.filter goodWord
theorem jv_tbl_good : GoodIn jv_tbl jv_tbl := fun w hw => ⟨hw, good_of_word (List.mem_filter.mp hw).2⟩
theorem jv_in {i : Nat} {w : Cond} (h : lw_tbl[i]? = some w) (hg : goodWord w = true) : w ∈ jv_tbl := List.mem_filter.mpr ⟨List.mem_of_getElem? h, hg⟩
def jv_strs : List (Nat × String) := [(52, "valley"), (62, "damp"), (67, "dry"), (72, "pair"), (77, "kin")]
def jv_byt : List (List Int32) := [[118, 97, 108, 108, 101, 121], [100, 97, 109, 112], [100, 114, 121], [112, 97, 105, 114], [107, 105, 110]]
def jv_len : List Nat := [6, 4, 3, 4, 3]
def jv_nest : List (String × Nat × MethodName × String) := [(RX9, 9, yX8_init, RX9), (RX8, 57, yX5_init, RX9), (RX9, 22, yX6_init, RX9), (RX6, 21, yX8_init, RX9), (RX9, 29, yX1_init, RX9), (RX9, 36, yX3_init, RX9), (RX9, 43, yX7_init, RX9), (RX9, 50, yX2_init, RX9), (RX6, 107, yX9_within, RX9)]
/-- what is only read: the text constants, two statics, the script; links of nest mates -/
def jv_RO (X : jX) (ad : Nat → Nat) (A : Nat → Prop) (U : State) (H : Heap) : Prop :=
  vk_S 5 jv_len jv_byt (fun i => ad (1000 + i)) (fun i => ad (1100 + i)) A U H ∧ (∀ i q, jv_strs[i]? = some q → vk_R RX6 q.1 q.2 (ad (1000 + i)) U) ∧
  va_Z "java/lang/String" "COMPACT_STRINGS" "Z" (.int 1) A U H ∧ (va_Z "jdk/internal/util/Preconditions" "SIOOBE_FORMATTER" "Ljava/util/function/BiFunction;" .null A U H ∨ va_Z "jdk/internal/util/Preconditions" "SIOOBE_FORMATTER" "Ljava/util/function/BiFunction;" (.ref (ad 1300)) A U H) ∧
  (va_X (ad 1200) X.1 X.2 U H ∧ ad 1200 < H.size ∧ ¬ A (ad 1200)) ∧ (∀ q ∈ jv_nest, va_Nw (.methodLinkNest q.1 q.2.1 q.2.2.1 q.2.2.2) U) ∧ va_AO RX8 U
theorem jv_RO.congr {X : jX} {ad ad' : Nat → Nat} {A : Nat → Prop} {U : State} {H : Heap} (h : jv_RO X ad A U H) (he : ∀ a, 1000 ≤ a → ad' a = ad a) : jv_RO X ad' A U H := by
  obtain ⟨h1, h2, h3, h4, h5, h6, h7⟩ := h
  have e1 : (fun i => ad' (1000 + i)) = fun i => ad (1000 + i) := funext fun i => he _ (by omega)
  have e2 : (fun i => ad' (1100 + i)) = fun i => ad (1100 + i) := funext fun i => he _ (by omega)
  have e3 : ad' 1200 = ad 1200 := he _ (by omega)
  refine ⟨by rw [e1, e2]; exact h1, fun i q hq => by rw [he _ (by omega)]; exact h2 i q hq, h3, by rw [he 1300 (by omega)]; exact h4, by rw [e3]; exact h5, h6, h7⟩
theorem jv_RO.next {X : jX} {ad : Nat → Nat} {A : Nat → Prop} {s U : State} {H0 H : Heap} (h : jv_RO X ad A s H0) (hW : s.WarmedH U.vm) (hz : H0.size ≤ H.size) (hq : ∀ q : Nat, q < H0.size → ¬ A q → H[q]? = H0[q]?) : jv_RO X ad A U H := by
  obtain ⟨h1, h2, h3, h4, ⟨h5, h5b, h5c⟩, h6, h7⟩ := h
  have ha := hW.alike
  exact ⟨(h1.moved ha).kept hq, fun i q e => (h2 i q e).warm hW, (h3.moved ha).kept hq, h4.imp (fun h => (h.moved ha).kept hq) (fun h => (h.moved ha).kept hq), ⟨(h5.moved ha).kept (hq _ h5b h5c), by omega, h5c⟩, fun q e => (h6 q e).warmM hW, h7.moved ha⟩
theorem jv_RO.same {X : jX} {ad : Nat → Nat} {A : Nat → Prop} {s U : State} {H : Heap} (h : jv_RO X ad A s H) (hv : U.vm = s.vm) : jv_RO X ad A U H := by
  obtain ⟨h1, h2, h3, h4, ⟨h5, h5b, h5c⟩, h6, h7⟩ := h
  have ha : s.vm.Alike U.vm := by rw [hv]; exact Vm.Alike.refl _
  exact ⟨h1.moved ha, fun i q e => (h2 i q e).same hv, h3.moved ha, h4.imp (fun h => h.moved ha) (fun h => h.moved ha), ⟨h5.moved ha, h5b, h5c⟩, fun q e => (h6 q e).same rfl hv.symm, h7.moved ha⟩
def jv_room (R : Room) (d bc bs cells slots : Nat) : Prop := d ≤ R.frames ∧ 64 * d ≤ R.locals ∧ cells + bc ≤ R.cells ∧ slots + bs ≤ R.slots
def jv_lv (ls : Array Slot) (nL : Nat) (L : List Value) : Prop := ls.size = nL ∧ lv_wf ls ∧ L.length = nL ∧ ∀ (i : Nat) (v : Value), L[i]? = some v → v = jU ∨ ls[i]? = some (.val v)
def jv_Fix (M : MD) (A : Nat → Prop) (D : va_G) (tc : Nat → ClassId) (p : Program) (s : State) (m : MethodId) (args : Array Value) (meth : Method) (c : Code) : Prop :=
  p.tables.exec = Jvm.exec ∧ c.code = M.2.1 ∧ c.maxLocals = M.2.2.1 ∧ meth.sig.returnType = M.2.2.2 ∧ s.vm.findClass M.1.cls = some m.cls ∧ (∀ w ∈ jv_tbl, w.before args s = true) ∧ va_K D vwCl (jv_tys tc) s ∧ (∀ q, s.heap.size ≤ q → A q) ∧ meth.locks = false ∧ (M.1.name = "<init>" → meth.name = "<init>")
def jv_Dyn (X : jX) (A : Nat → Prop) (D : va_G) (tc : Nat → ClassId) (s : State) (H : Heap) (locs : List Loc) (ad : Nat → Nat) (n : Nat) (I : HI) (J : HJ) (P : HP) : Prop :=
  va_P D vwCl (jv_ws tc ad n I J P) H ∧ va_D A (jv_ws tc ad n I J P) ∧ va_S A s.heap H locs ∧ jv_RO X ad A s s.heap ∧ jv_okP n P
def jv_Frm (M : MD) (ad : Nat → Nat) (n : Nat) (ls : Array Slot) (L st : List Value) : Prop := jv_lv ls M.2.2.1 (L.map (jv_ren ad)) ∧ (∀ v ∈ L, jv_ok n v) ∧ ∀ v ∈ st, jv_ok n v
def jv_Ret (M : MD) (pc : Nat) (r : Option Value) (st : List Value) : Prop :=
  (r = none ∧ st = [] ∧ decode M.2.1 pc = .ok (.return_, 1) ∧ M.2.2.2 = none) ∨ (∃ (v : Int32) (ty : FieldType), r = some (.int v) ∧ st = [.int v] ∧ decode M.2.1 pc = .ok (.ireturn, 1) ∧ M.2.2.2 = some ty ∧ narrow ty (.int v) = .int v) ∨
  (∃ v : Int64, r = some (.long v) ∧ st = [.long v] ∧ decode M.2.1 pc = .ok (.lreturn, 1) ∧ M.2.2.2 = some .long)
def jv_End (X : jX) (M : MD) (Q : jPost) (A : Nat → Prop) (D : va_G) (tc : Nat → ClassId) (p : Program) (l : Launch) (e : Env) (R : Room) (s : State) (m : MethodId) (args : Array Value) (below : List Frame) (meth : Method) (c : Code) (Z : State → Prop) (ad : Nat → Nat) (n : Nat) : Prop :=
  ∀ (r : Option Value) (n' : Nat) (I' : HI) (J' : HJ) (P' : HP) (H' : Heap) (locs' : List Loc) (cells' slots' : Nat) (ls' : Array Slot) (ad' : Nat → Nat) (pc' : Nat) (st' : List Value), Q r n' I' J' P' → jv_ext n ad n' ad' → (cells' ≤ R.cells ∧ slots' ≤ R.slots) → jv_Dyn X A D tc s H' locs' ad' n' I' J' P' → jv_Ret M pc' r st' → W p l e R s m args below meth c H' locs' cells' slots' Z (F0 m pc' ls' st')
def Rj (X : jX) (d bc bs : Nat) (M : MD) (Q : jPost) (pc : Nat) (L st : List Value) (n : Nat) (I : HI) (J : HJ) (P : HP) : Prop :=
  ∀ (A : Nat → Prop) (D : va_G) (tc : Nat → ClassId) (p : Program) (l : Launch) (e : Env) (R : Room) (s : State) (m : MethodId) (args : Array Value) (below : List Frame) (meth : Method) (c : Code) (H : Heap) (locs : List Loc) (cells slots : Nat) (Z : State → Prop) (ls : Array Slot) (ad : Nat → Nat),
    jv_Fix M A D tc p s m args meth c → jv_room R d bc bs cells slots → jv_Dyn X A D tc s H locs ad n I J P → jv_Frm M ad n ls L st → jv_End X M Q A D tc p l e R s m args below meth c Z ad n →
    W p l e R s m args below meth c H locs cells slots Z (F0 m pc ls (st.map (jv_ren ad)))
/-! locals -/
theorem jv_lv.at {ls : Array Slot} {nL : Nat} {L : List Value} {ad : Nat → Nat} (h : jv_lv ls nL (L.map (jv_ren ad))) {i : Nat} {v : Value} (hi : L[i]? = some v) (hv : v ≠ jU) : ls[i]? = some (.val (jv_ren ad v)) := by
  rcases h.2.2.2 i (jv_ren ad v) (by rw [List.getElem?_map, hi]; rfl) with q | q
  · exfalso
    apply hv
    cases v <;> first | exact q | cases q
  · exact q
/-- the locals that are known, by their places -/
def jv_as (L : List Value) : List (Nat × Value) := (List.range L.length).filterMap (fun i => (L[i]?).bind fun v => if v = jU then none else some (i, v))
theorem jv_as_mem {L : List Value} {q : Nat × Value} : q ∈ jv_as L ↔ L[q.1]? = some q.2 ∧ q.2 ≠ jU := by
  unfold jv_as
  rw [List.mem_filterMap]
  constructor
  · rintro ⟨i, -, hi⟩
    cases hL : L[i]? with
    | none => rw [hL] at hi; cases hi
    | some v =>
      rw [hL] at hi
      by_cases hv : v = jU
      · simp [hv] at hi
      · simp [hv] at hi
        subst hi
        exact ⟨hL, hv⟩
  · rintro ⟨h1, h2⟩
    refine ⟨q.1, List.mem_range.mpr (List.getElem?_eq_some_iff.mp h1).1, ?_⟩
    rw [h1]
    simp [h2]
theorem jv_lv.has {ls : Array Slot} {nL : Nat} {L : List Value} (h : jv_lv ls nL L) : lv_has ls nL (jv_as L) := by
  refine ⟨h.1, h.2.1, fun q hq => ?_⟩
  obtain ⟨h1, h2⟩ := jv_as_mem.mp hq
  rcases h.2.2.2 q.1 q.2 h1 with e | e
  · exact absurd e h2
  · exact e
/-- no long ends in this place -/
def jv_g (L : List Value) (i : Nat) : Bool := match i with
  | 0 => true
  | j + 1 => match L[j]? with
    | some v => v.category == 1
    | none => true
theorem jv_g_spec {L : List Value} {i : Nat} (h : jv_g L i = true) {j : Nat} {v : Value} (hj : L[j]? = some v) (hi : j + 1 = i) : v.category = 1 := by
  subst hi
  simp only [jv_g, hj] at h
  simpa using h
theorem jv_lv.st1 {ls : Array Slot} {nL : Nat} {L : List Value} {i : Nat} {v : Value} (h : jv_lv ls nL L) (hi : i < nL) (hg : jv_g L i = true) (hc : v.category = 1) : ∃ ls', storeLocals ls i v = some ls' ∧ jv_lv ls' nL (L.set i v) := by
  obtain ⟨ls', h1, h2, h3, h4⟩ := lv_store1 (v := v) h.has hi hc
  refine ⟨ls', h1, h2, h3, by rw [List.length_set]; exact h.2.2.1, fun j w hj => ?_⟩
  by_cases hji : j = i
  · subst hji
    rw [List.getElem?_set_self (by rw [h.2.2.1]; exact hi)] at hj
    cases hj
    exact Or.inr (h4 (j, v) List.mem_cons_self)
  · rw [List.getElem?_set_ne (Ne.symm hji)] at hj
    by_cases hw : w = jU
    · exact Or.inl hw
    · refine Or.inr (h4 (j, w) (List.mem_cons_of_mem _ (List.mem_filter.mpr ⟨jv_as_mem.mpr ⟨hj, hw⟩, ?_⟩)))
      have h5 : ¬ (j + 1 = i ∧ w.category = 2) := fun q => by
        have := jv_g_spec hg hj q.1
        omega
      by_cases hj1 : j + 1 = i
      · have h6 : ¬ w.category = 2 := fun q => h5 ⟨hj1, q⟩
        simp [hji, h6]
      · simp [hji, hj1]
theorem jv_lv.st2 {ls : Array Slot} {nL : Nat} {L : List Value} {i : Nat} {v : Value} (h : jv_lv ls nL L) (hi : i + 1 < nL) (hg : jv_g L i = true) (hc : v.category = 2) : ∃ ls', storeLocals ls i v = some ls' ∧ jv_lv ls' nL ((L.set i v).set (i + 1) jU) := by
  obtain ⟨ls', h1, h2, h3, h4⟩ := lv_store2 (v := v) h.has hi hc
  refine ⟨ls', h1, h2, h3, by rw [List.length_set, List.length_set]; exact h.2.2.1, fun j w hj => ?_⟩
  by_cases hj1 : j = i + 1
  · subst hj1
    rw [List.getElem?_set_self (by rw [List.length_set, h.2.2.1]; exact hi)] at hj
    cases hj
    exact Or.inl rfl
  · rw [List.getElem?_set_ne (Ne.symm hj1)] at hj
    by_cases hji : j = i
    · subst hji
      rw [List.getElem?_set_self (by rw [h.2.2.1]; omega)] at hj
      cases hj
      exact Or.inr (h4 (j, v) List.mem_cons_self)
    · rw [List.getElem?_set_ne (Ne.symm hji)] at hj
      by_cases hw : w = jU
      · exact Or.inl hw
      · refine Or.inr (h4 (j, w) (List.mem_cons_of_mem _ (List.mem_filter.mpr ⟨jv_as_mem.mpr ⟨hj, hw⟩, ?_⟩)))
        have h5 : ¬ (j + 1 = i ∧ w.category = 2) := fun q => by
          have := jv_g_spec hg hj q.1
          omega
        by_cases hj2 : j + 1 = i
        · have h6 : ¬ w.category = 2 := fun q => h5 ⟨hj2, q⟩
          simp [hji, hj1, h6]
        · simp [hji, hj1, hj2]
/-- the locals at a method's entry -/
def jv_ent : List Value → Nat → List Value
  | [], n => List.replicate n jU
  | .long x :: vs, n => .long x :: jU :: jv_ent vs (n - 2)
  | .double x :: vs, n => .double x :: jU :: jv_ent vs (n - 2)
  | v :: vs, n => v :: jv_ent vs (n - 1)
def jv_wd : List Value → Nat
  | [] => 0
  | v :: vs => (if v.category = 2 then 2 else 1) + jv_wd vs
theorem jv_wd_sl (vs : List Value) : (lg_sl vs).length = jv_wd vs := by
  induction vs with
  | nil => rfl
  | cons v vs ih =>
    have e : lg_sl (v :: vs) = (if v.category = 2 then [.val v, .second] else [.val v]) ++ lg_sl vs := by simp [lg_sl]
    rw [e, List.length_append, ih]
    by_cases h : v.category = 2 <;> simp [h, jv_wd]
theorem jv_ent_len (vs : List Value) : ∀ n, jv_wd vs ≤ n → (jv_ent vs n).length = n := by
  induction vs with
  | nil => intro n _; simp [jv_ent]
  | cons v vs ih =>
    intro n hn
    cases v <;> simp only [jv_wd, Value.category] at hn <;> simp only [jv_ent, List.length_cons] <;> rw [ih _ (by simp at hn; omega)] <;> simp at hn <;> omega
theorem jv_ent_at (vs : List Value) : ∀ (n i k : Nat) (w : Value), (jv_ent vs n)[i]? = some w → w ≠ jU → (k + i, w) ∈ lv_args k vs := by
  induction vs with
  | nil =>
    intro n i k w h hw
    exfalso
    apply hw
    simp only [jv_ent] at h
    have := List.mem_of_getElem? h
    exact List.eq_of_mem_replicate this
  | cons v vs ih =>
    intro n i k w h hw
    have one : ∀ (m : Nat), (v :: jv_ent vs m)[i]? = some w → v.category ≠ 2 → (k + i, w) ∈ lv_args k (v :: vs) := by
      intro m h hc
      simp only [lv_args, if_neg hc]
      cases i with
      | zero => simp at h; subst h; exact List.mem_cons_self
      | succ i =>
        rw [List.getElem?_cons_succ] at h
        refine List.mem_cons_of_mem _ ?_
        have := ih m i (k + 1) w h hw
        rwa [show k + 1 + i = k + (i + 1) by omega] at this
    have two : ∀ (m : Nat), (v :: jU :: jv_ent vs m)[i]? = some w → v.category = 2 → (k + i, w) ∈ lv_args k (v :: vs) := by
      intro m h hc
      simp only [lv_args, if_pos hc]
      match i, h with
      | 0, h => simp at h; subst h; exact List.mem_cons_self
      | 1, h => simp at h; exact absurd h.symm hw
      | i + 2, h =>
        rw [List.getElem?_cons_succ, List.getElem?_cons_succ] at h
        refine List.mem_cons_of_mem _ ?_
        have := ih m i (k + 2) w h hw
        rwa [show k + 2 + i = k + (i + 2) by omega] at this
    cases v with
    | long x => exact two _ (by simpa only [jv_ent] using h) rfl
    | double x => exact two _ (by simpa only [jv_ent] using h) rfl
    | int x => exact one _ (by simpa only [jv_ent] using h) (by simp [Value.category])
    | float x => exact one _ (by simpa only [jv_ent] using h) (by simp [Value.category])
    | null => exact one _ (by simpa only [jv_ent] using h) (by simp [Value.category])
    | ref x => exact one _ (by simpa only [jv_ent] using h) (by simp [Value.category])
    | retAddr x => exact one _ (by simpa only [jv_ent] using h) (by simp [Value.category])
theorem jv_ent_ren (ad : Nat → Nat) (vs : List Value) : ∀ n, (jv_ent vs n).map (jv_ren ad) = jv_ent (vs.map (jv_ren ad)) n := by
  induction vs with
  | nil => intro n; simp [jv_ent, jv_ren, jU]
  | cons v vs ih =>
    intro n
    cases v <;> simp [jv_ent, jv_ren, jU, ih]
theorem jv_lv.entry (vs : List Value) {n : Nat} (h : jv_wd vs ≤ n) : jv_lv ((lg_sl vs ++ List.replicate (n - (lg_sl vs).length) Slot.unset).toArray) n (jv_ent vs n) := by
  obtain ⟨h1, h2, h3⟩ := lv_entry vs (n := n) (by rw [jv_wd_sl]; exact h)
  refine ⟨h1, h2, jv_ent_len vs n h, fun i v hi => ?_⟩
  by_cases hv : v = jU
  · exact Or.inl hv
  · have := jv_ent_at vs n i 0 v hi hv
    rw [Nat.zero_add] at this
    exact Or.inr (h3 (i, v) this)
theorem jv_ent_ok {n : Nat} (vs : List Value) : ∀ k, (∀ v ∈ vs, jv_ok n v) → ∀ v ∈ jv_ent vs k, jv_ok n v := by
  induction vs with
  | nil => intro k _ v hv; simp only [jv_ent] at hv; rw [List.eq_of_mem_replicate hv]; exact jv_ok.uns
  | cons w vs ih =>
    intro k h v hv
    have hw := h w List.mem_cons_self
    have ht := fun k => ih k (fun x hx => h x (List.mem_cons_of_mem _ hx))
    cases w <;> simp only [jv_ent, List.mem_cons] at hv
    case long x => rcases hv with e | e | e; exact e ▸ hw; exact e ▸ jv_ok.uns; exact ht _ v e
    case double x => rcases hv with e | e | e; exact e ▸ hw; exact e ▸ jv_ok.uns; exact ht _ v e
    all_goals (rcases hv with e | e; exact e ▸ hw; exact ht _ v e)
end
section
section JR
variable {X : jX} {d bc bs : Nat} {M : MD} {Q : jPost} {pc : Nat} {L st : List Value} {n : Nat} {I : HI} {J : HJ} {P : HP}
/-- an instruction that changes pc and stack alone -/
theorem j_go {pc' : Nat} {st' : List Value} (k : Rj X d bc bs M Q pc' L st' n I J P) (hok : (∀ v ∈ L, jv_ok n v) → (∀ v ∈ st, jv_ok n v) → ∀ v ∈ st', jv_ok n v)
    (hw : ∀ (p : Program) (l : Launch) (e : Env) (R : Room) (s : State) (m : MethodId) (args : Array Value) (below : List Frame) (meth : Method) (c : Code) (H : Heap) (locs : List Loc) (cells slots : Nat) (Z : State → Prop) (ls : Array Slot) (ad : Nat → Nat), p.tables.exec = Jvm.exec → c.code = M.2.1 → jv_lv ls M.2.2.1 (L.map (jv_ren ad)) →
      W p l e R s m args below meth c H locs cells slots Z (F0 m pc' ls (st'.map (jv_ren ad))) → W p l e R s m args below meth c H locs cells slots Z (F0 m pc ls (st.map (jv_ren ad)))) : Rj X d bc bs M Q pc L st n I J P := by
  intro A D tc p l e R s m args below meth c H locs cells slots Z ls ad hF hR hD hf hend
  exact hw p l e R s m args below meth c H locs cells slots Z ls ad hF.1 hF.2.1 hf.1 (k A D tc p l e R s m args below meth c H locs cells slots Z ls ad hF hR hD ⟨hf.1, hf.2.1, hok hf.2.1 hf.2.2⟩ hend)
/-- an instruction that stores into a local of one word -/
theorem j_st1 {pc' i : Nat} {v : Value} {L' st' : List Value} (k : Rj X d bc bs M Q pc' L' st' n I J P) (hL : L.set i v = L') (hi : i < M.2.2.1) (hg : jv_g L i = true) (hc : v.category = 1) (hv : (∀ w ∈ L, jv_ok n w) → (∀ w ∈ st, jv_ok n w) → jv_ok n v) (hok : (∀ w ∈ st, jv_ok n w) → ∀ w ∈ st', jv_ok n w)
    (hw : ∀ (p : Program) (l : Launch) (e : Env) (R : Room) (s : State) (m : MethodId) (args : Array Value) (below : List Frame) (meth : Method) (c : Code) (H : Heap) (locs : List Loc) (cells slots : Nat) (Z : State → Prop) (ls ls' : Array Slot) (ad : Nat → Nat), p.tables.exec = Jvm.exec → c.code = M.2.1 → jv_lv ls M.2.2.1 (L.map (jv_ren ad)) → storeLocals ls i (jv_ren ad v) = some ls' →
      W p l e R s m args below meth c H locs cells slots Z (F0 m pc' ls' (st'.map (jv_ren ad))) → W p l e R s m args below meth c H locs cells slots Z (F0 m pc ls (st.map (jv_ren ad)))) : Rj X d bc bs M Q pc L st n I J P := by
  intro A D tc p l e R s m args below meth c H locs cells slots Z ls ad hF hR hD hf hend
  subst hL
  obtain ⟨ls', h1, h2⟩ := hf.1.st1 (v := jv_ren ad v) hi (by
    cases i with
    | zero => rfl
    | succ j =>
      simp only [jv_g, List.getElem?_map] at hg ⊢
      cases hj : L[j]? with
      | none => rfl
      | some w => simp only [hj, Option.map_some, jv_ren_cat] at hg ⊢; exact hg) (by rw [jv_ren_cat]; exact hc)
  rw [← List.map_set] at h2
  refine hw p l e R s m args below meth c H locs cells slots Z ls ls' ad hF.1 hF.2.1 hf.1 h1 (k A D tc p l e R s m args below meth c H locs cells slots Z ls' ad hF hR hD ⟨h2, fun w hm => ?_, hok hf.2.2⟩ hend)
  rcases List.mem_or_eq_of_mem_set hm with h | h
  · exact hf.2.1 w h
  · rw [h]; exact hv hf.2.1 hf.2.2
theorem j_st2 {pc' i : Nat} {v : Value} {L' st' : List Value} (k : Rj X d bc bs M Q pc' L' st' n I J P) (hL : (L.set i v).set (i + 1) jU = L') (hi : i + 1 < M.2.2.1) (hg : jv_g L i = true) (hc : v.category = 2) (hv : jv_ok n v) (hok : (∀ w ∈ st, jv_ok n w) → ∀ w ∈ st', jv_ok n w)
    (hw : ∀ (p : Program) (l : Launch) (e : Env) (R : Room) (s : State) (m : MethodId) (args : Array Value) (below : List Frame) (meth : Method) (c : Code) (H : Heap) (locs : List Loc) (cells slots : Nat) (Z : State → Prop) (ls ls' : Array Slot) (ad : Nat → Nat), p.tables.exec = Jvm.exec → c.code = M.2.1 → jv_lv ls M.2.2.1 (L.map (jv_ren ad)) → storeLocals ls i (jv_ren ad v) = some ls' →
      W p l e R s m args below meth c H locs cells slots Z (F0 m pc' ls' (st'.map (jv_ren ad))) → W p l e R s m args below meth c H locs cells slots Z (F0 m pc ls (st.map (jv_ren ad)))) : Rj X d bc bs M Q pc L st n I J P := by
  intro A D tc p l e R s m args below meth c H locs cells slots Z ls ad hF hR hD hf hend
  subst hL
  obtain ⟨ls', h1, h2⟩ := hf.1.st2 (v := jv_ren ad v) hi (by
    cases i with
    | zero => rfl
    | succ j =>
      simp only [jv_g, List.getElem?_map] at hg ⊢
      cases hj : L[j]? with
      | none => rfl
      | some w => simp only [hj, Option.map_some, jv_ren_cat] at hg ⊢; exact hg) (by rw [jv_ren_cat]; exact hc)
  rw [← List.map_set, show jU = jv_ren ad jU from rfl, ← List.map_set] at h2
  refine hw p l e R s m args below meth c H locs cells slots Z ls ls' ad hF.1 hF.2.1 hf.1 h1 (k A D tc p l e R s m args below meth c H locs cells slots Z ls' ad hF hR hD ⟨h2, fun w hm => ?_, hok hf.2.2⟩ hend)
  rcases List.mem_or_eq_of_mem_set hm with h | h
  · rcases List.mem_or_eq_of_mem_set h with h | h
    · exact hf.2.1 w h
    · rw [h]; exact hv
  · rw [h]; exact jv_ok.uns
theorem j_ok1 {a : Value} {st : List Value} (ha : jv_ok n a) (h : ∀ v ∈ st, jv_ok n v) : ∀ v ∈ a :: st, jv_ok n v := fun v hv => (List.mem_cons.mp hv).elim (fun e => e ▸ ha) (h v)
theorem j_tl {a : Value} {st : List Value} (h : ∀ v ∈ a :: st, jv_ok n v) : ∀ v ∈ st, jv_ok n v := fun v hv => h v (List.mem_cons_of_mem _ hv)

theorem j_iconst {pc' : Nat} {z : Int} {v : Int32} (hd : decode M.2.1 pc = .ok (.iconst z, 1)) (hp : pc + 1 = pc') (hv : Int32.ofInt z = v) (k : Rj X d bc bs M Q pc' L (.int v :: st) n I J P) : Rj X d bc bs M Q pc L (st) n I J P := by
  subst hp
  exact j_go k (fun hL hs => j_ok1 jv_ok.int hs) (fun p l e R s m args below meth c H locs cells slots Z ls ad hx hb hl kk => lv_iconst hx hb hd hv kk)
theorem j_bipush {pc' : Nat} {z : Int} {v : Int32} (hd : decode M.2.1 pc = .ok (.bipush z, 2)) (hp : pc + 2 = pc') (hv : (Int8.ofInt z).toInt32 = v) (k : Rj X d bc bs M Q pc' L (.int v :: st) n I J P) : Rj X d bc bs M Q pc L (st) n I J P := by
  subst hp
  exact j_go k (fun hL hs => j_ok1 jv_ok.int hs) (fun p l e R s m args below meth c H locs cells slots Z ls ad hx hb hl kk => lv_bipush hx hb hd hv kk)
theorem j_sipush {pc' : Nat} {z : Int} {v : Int32} (hd : decode M.2.1 pc = .ok (.sipush z, 3)) (hp : pc + 3 = pc') (hv : (Int16.ofInt z).toInt32 = v) (k : Rj X d bc bs M Q pc' L (.int v :: st) n I J P) : Rj X d bc bs M Q pc L (st) n I J P := by
  subst hp
  exact j_go k (fun hL hs => j_ok1 jv_ok.int hs) (fun p l e R s m args below meth c H locs cells slots Z ls ad hx hb hl kk => lv_sipush hx hb hd hv kk)
theorem j_lconst {pc' : Nat} {z : Fin 2} {v : Int64} (hd : decode M.2.1 pc = .ok (.lconst z, 1)) (hp : pc + 1 = pc') (hv : Int64.ofNat (z : Nat) = v) (k : Rj X d bc bs M Q pc' L (.long v :: st) n I J P) : Rj X d bc bs M Q pc L (st) n I J P := by
  subst hp
  exact j_go k (fun hL hs => j_ok1 jv_ok.long hs) (fun p l e R s m args below meth c H locs cells slots Z ls ad hx hb hl kk => lv_lconst hx hb hd hv kk)
theorem j_iload_n {pc' : Nat} {z : Fin 4} {i : Nat} {v : Int32} (hd : decode M.2.1 pc = .ok (.iload_n z, 1)) (hp : pc + 1 = pc') (hi : (z : Nat) = i) (hl : L[i]? = some (.int v)) (k : Rj X d bc bs M Q pc' L (.int v :: st) n I J P) : Rj X d bc bs M Q pc L (st) n I J P := by
  subst hp
  exact j_go k (fun hL hs => j_ok1 jv_ok.int hs) (fun p l e R s m args below meth c H locs cells slots Z ls ad hx hb hl kk => lv_iload_n hx hb hd hi (hl.at (v := .int v) ‹L[i]? = some (.int v)› (by simp [jU])) kk)
theorem j_iload {pc' : Nat} {i : Nat} {v : Int32} (hd : decode M.2.1 pc = .ok (.iload i, 2)) (hp : pc + 2 = pc') (hl : L[i]? = some (.int v)) (k : Rj X d bc bs M Q pc' L (.int v :: st) n I J P) : Rj X d bc bs M Q pc L (st) n I J P := by
  subst hp
  exact j_go k (fun hL hs => j_ok1 jv_ok.int hs) (fun p l e R s m args below meth c H locs cells slots Z ls ad hx hb hl kk => lv_iload hx hb hd (hl.at (v := .int v) ‹L[i]? = some (.int v)› (by simp [jU])) kk)
theorem j_lload_n {pc' : Nat} {z : Fin 4} {i : Nat} {v : Int64} (hd : decode M.2.1 pc = .ok (.lload_n z, 1)) (hp : pc + 1 = pc') (hi : (z : Nat) = i) (hl : L[i]? = some (.long v)) (k : Rj X d bc bs M Q pc' L (.long v :: st) n I J P) : Rj X d bc bs M Q pc L (st) n I J P := by
  subst hp
  exact j_go k (fun hL hs => j_ok1 jv_ok.long hs) (fun p l e R s m args below meth c H locs cells slots Z ls ad hx hb hl kk => lv_lload_n hx hb hd hi (hl.at (v := .long v) ‹L[i]? = some (.long v)› (by simp [jU])) kk)
theorem j_lload {pc' : Nat} {i : Nat} {v : Int64} (hd : decode M.2.1 pc = .ok (.lload i, 2)) (hp : pc + 2 = pc') (hl : L[i]? = some (.long v)) (k : Rj X d bc bs M Q pc' L (.long v :: st) n I J P) : Rj X d bc bs M Q pc L (st) n I J P := by
  subst hp
  exact j_go k (fun hL hs => j_ok1 jv_ok.long hs) (fun p l e R s m args below meth c H locs cells slots Z ls ad hx hb hl kk => lv_lload hx hb hd (hl.at (v := .long v) ‹L[i]? = some (.long v)› (by simp [jU])) kk)
theorem j_aload_n {pc' : Nat} {z : Fin 4} {i a : Nat} (hd : decode M.2.1 pc = .ok (.aload_n z, 1)) (hp : pc + 1 = pc') (hi : (z : Nat) = i) (h0 : L[i]? = some (.ref a)) (k : Rj X d bc bs M Q pc' L (.ref a :: st) n I J P) : Rj X d bc bs M Q pc L (st) n I J P := by
  subst hp
  exact j_go k (fun hL hs => j_ok1 (hL _ (List.mem_of_getElem? h0)) hs) (fun p l e R s m args below meth c H locs cells slots Z ls ad hx hb hl kk => lv_aload_n hx hb hd hi (hl.at (v := .ref a) h0 (by simp [jU])) kk)
theorem j_aload {pc' : Nat} {i a : Nat} (hd : decode M.2.1 pc = .ok (.aload i, 2)) (hp : pc + 2 = pc') (h0 : L[i]? = some (.ref a)) (k : Rj X d bc bs M Q pc' L (.ref a :: st) n I J P) : Rj X d bc bs M Q pc L (st) n I J P := by
  subst hp
  exact j_go k (fun hL hs => j_ok1 (hL _ (List.mem_of_getElem? h0)) hs) (fun p l e R s m args below meth c H locs cells slots Z ls ad hx hb hl kk => lv_aload hx hb hd (hl.at (v := .ref a) h0 (by simp [jU])) kk)
theorem j_aload_nN {pc' : Nat} {z : Fin 4} {i : Nat} (hd : decode M.2.1 pc = .ok (.aload_n z, 1)) (hp : pc + 1 = pc') (hi : (z : Nat) = i) (h0 : L[i]? = some .null) (k : Rj X d bc bs M Q pc' L (.null :: st) n I J P) : Rj X d bc bs M Q pc L (st) n I J P := by
  subst hp
  exact j_go k (fun hL hs => j_ok1 (hL _ (List.mem_of_getElem? h0)) hs) (fun p l e R s m args below meth c H locs cells slots Z ls ad hx hb hl kk => lv_aload_nN hx hb hd hi (hl.at (v := .null) h0 (by simp [jU])) kk)
theorem j_iadd {pc' : Nat} {a b : Int32} (hd : decode M.2.1 pc = .ok (.iadd, 1)) (hp : pc + 1 = pc')  (k : Rj X d bc bs M Q pc' L (.int (a + b) :: st) n I J P) : Rj X d bc bs M Q pc L (.int b :: .int a :: st) n I J P := by
  subst hp
  exact j_go k (fun hL hs => j_ok1 jv_ok.int (j_tl (j_tl hs))) (fun p l e R s m args below meth c H locs cells slots Z ls ad hx hb hl kk => lv_iadd hx hb hd kk)
theorem j_isub {pc' : Nat} {a b : Int32} (hd : decode M.2.1 pc = .ok (.isub, 1)) (hp : pc + 1 = pc')  (k : Rj X d bc bs M Q pc' L (.int (a - b) :: st) n I J P) : Rj X d bc bs M Q pc L (.int b :: .int a :: st) n I J P := by
  subst hp
  exact j_go k (fun hL hs => j_ok1 jv_ok.int (j_tl (j_tl hs))) (fun p l e R s m args below meth c H locs cells slots Z ls ad hx hb hl kk => lv_isub hx hb hd kk)
theorem j_imul {pc' : Nat} {a b : Int32} (hd : decode M.2.1 pc = .ok (.imul, 1)) (hp : pc + 1 = pc')  (k : Rj X d bc bs M Q pc' L (.int (a * b) :: st) n I J P) : Rj X d bc bs M Q pc L (.int b :: .int a :: st) n I J P := by
  subst hp
  exact j_go k (fun hL hs => j_ok1 jv_ok.int (j_tl (j_tl hs))) (fun p l e R s m args below meth c H locs cells slots Z ls ad hx hb hl kk => lv_imul hx hb hd kk)
theorem j_iand {pc' : Nat} {a b : Int32} (hd : decode M.2.1 pc = .ok (.iand, 1)) (hp : pc + 1 = pc')  (k : Rj X d bc bs M Q pc' L (.int (a &&& b) :: st) n I J P) : Rj X d bc bs M Q pc L (.int b :: .int a :: st) n I J P := by
  subst hp
  exact j_go k (fun hL hs => j_ok1 jv_ok.int (j_tl (j_tl hs))) (fun p l e R s m args below meth c H locs cells slots Z ls ad hx hb hl kk => lv_iand hx hb hd kk)
theorem j_ior {pc' : Nat} {a b : Int32} (hd : decode M.2.1 pc = .ok (.ior, 1)) (hp : pc + 1 = pc')  (k : Rj X d bc bs M Q pc' L (.int (a ||| b) :: st) n I J P) : Rj X d bc bs M Q pc L (.int b :: .int a :: st) n I J P := by
  subst hp
  exact j_go k (fun hL hs => j_ok1 jv_ok.int (j_tl (j_tl hs))) (fun p l e R s m args below meth c H locs cells slots Z ls ad hx hb hl kk => lv_ior hx hb hd kk)
theorem j_ixor {pc' : Nat} {a b : Int32} (hd : decode M.2.1 pc = .ok (.ixor, 1)) (hp : pc + 1 = pc')  (k : Rj X d bc bs M Q pc' L (.int (a ^^^ b) :: st) n I J P) : Rj X d bc bs M Q pc L (.int b :: .int a :: st) n I J P := by
  subst hp
  exact j_go k (fun hL hs => j_ok1 jv_ok.int (j_tl (j_tl hs))) (fun p l e R s m args below meth c H locs cells slots Z ls ad hx hb hl kk => lv_ixor hx hb hd kk)
theorem j_ishl {pc' : Nat} {a b : Int32} (hd : decode M.2.1 pc = .ok (.ishl, 1)) (hp : pc + 1 = pc')  (k : Rj X d bc bs M Q pc' L (.int (a <<< (b &&& 31)) :: st) n I J P) : Rj X d bc bs M Q pc L (.int b :: .int a :: st) n I J P := by
  subst hp
  exact j_go k (fun hL hs => j_ok1 jv_ok.int (j_tl (j_tl hs))) (fun p l e R s m args below meth c H locs cells slots Z ls ad hx hb hl kk => lv_ishl hx hb hd kk)
theorem j_ishr {pc' : Nat} {a b : Int32} (hd : decode M.2.1 pc = .ok (.ishr, 1)) (hp : pc + 1 = pc')  (k : Rj X d bc bs M Q pc' L (.int (a >>> (b &&& 31)) :: st) n I J P) : Rj X d bc bs M Q pc L (.int b :: .int a :: st) n I J P := by
  subst hp
  exact j_go k (fun hL hs => j_ok1 jv_ok.int (j_tl (j_tl hs))) (fun p l e R s m args below meth c H locs cells slots Z ls ad hx hb hl kk => lv_ishr hx hb hd kk)
theorem j_iushr {pc' : Nat} {a b v : Int32} (hd : decode M.2.1 pc = .ok (.iushr, 1)) (hp : pc + 1 = pc') (hv : (a.toUInt32 >>> (b.toUInt32 &&& Int32.toUInt32 31)).toInt32 = v) (k : Rj X d bc bs M Q pc' L (.int v :: st) n I J P) : Rj X d bc bs M Q pc L (.int b :: .int a :: st) n I J P := by
  subst hp
  exact j_go k (fun hL hs => j_ok1 jv_ok.int (j_tl (j_tl hs))) (fun p l e R s m args below meth c H locs cells slots Z ls ad hx hb hl kk => lv_iushr hx hb hd hv kk)
theorem j_idiv {pc' : Nat} {a b : Int32} (hd : decode M.2.1 pc = .ok (.idiv, 1)) (hp : pc + 1 = pc') (h0 : ¬ b = 0) (k : Rj X d bc bs M Q pc' L (.int (a / b) :: st) n I J P) : Rj X d bc bs M Q pc L (.int b :: .int a :: st) n I J P := by
  subst hp
  exact j_go k (fun hL hs => j_ok1 jv_ok.int (j_tl (j_tl hs))) (fun p l e R s m args below meth c H locs cells slots Z ls ad hx hb hl kk => lv_idiv hx hb hd h0 kk)
theorem j_irem {pc' : Nat} {a b : Int32} (hd : decode M.2.1 pc = .ok (.irem, 1)) (hp : pc + 1 = pc') (h0 : ¬ b = 0) (k : Rj X d bc bs M Q pc' L (.int (a - a / b * b) :: st) n I J P) : Rj X d bc bs M Q pc L (.int b :: .int a :: st) n I J P := by
  subst hp
  exact j_go k (fun hL hs => j_ok1 jv_ok.int (j_tl (j_tl hs))) (fun p l e R s m args below meth c H locs cells slots Z ls ad hx hb hl kk => lv_irem hx hb hd h0 kk)
theorem j_ladd {pc' : Nat} {a b : Int64} (hd : decode M.2.1 pc = .ok (.ladd, 1)) (hp : pc + 1 = pc')  (k : Rj X d bc bs M Q pc' L (.long (a + b) :: st) n I J P) : Rj X d bc bs M Q pc L (.long b :: .long a :: st) n I J P := by
  subst hp
  exact j_go k (fun hL hs => j_ok1 jv_ok.long (j_tl (j_tl hs))) (fun p l e R s m args below meth c H locs cells slots Z ls ad hx hb hl kk => lv_ladd hx hb hd kk)
theorem j_lsub {pc' : Nat} {a b : Int64} (hd : decode M.2.1 pc = .ok (.lsub, 1)) (hp : pc + 1 = pc')  (k : Rj X d bc bs M Q pc' L (.long (a - b) :: st) n I J P) : Rj X d bc bs M Q pc L (.long b :: .long a :: st) n I J P := by
  subst hp
  exact j_go k (fun hL hs => j_ok1 jv_ok.long (j_tl (j_tl hs))) (fun p l e R s m args below meth c H locs cells slots Z ls ad hx hb hl kk => lv_lsub hx hb hd kk)
theorem j_lmul {pc' : Nat} {a b : Int64} (hd : decode M.2.1 pc = .ok (.lmul, 1)) (hp : pc + 1 = pc')  (k : Rj X d bc bs M Q pc' L (.long (a * b) :: st) n I J P) : Rj X d bc bs M Q pc L (.long b :: .long a :: st) n I J P := by
  subst hp
  exact j_go k (fun hL hs => j_ok1 jv_ok.long (j_tl (j_tl hs))) (fun p l e R s m args below meth c H locs cells slots Z ls ad hx hb hl kk => lv_lmul hx hb hd kk)
theorem j_ldiv {pc' : Nat} {a b : Int64} (hd : decode M.2.1 pc = .ok (.ldiv, 1)) (hp : pc + 1 = pc') (h0 : ¬ b = 0) (k : Rj X d bc bs M Q pc' L (.long (a / b) :: st) n I J P) : Rj X d bc bs M Q pc L (.long b :: .long a :: st) n I J P := by
  subst hp
  exact j_go k (fun hL hs => j_ok1 jv_ok.long (j_tl (j_tl hs))) (fun p l e R s m args below meth c H locs cells slots Z ls ad hx hb hl kk => lv_ldiv hx hb hd h0 kk)
theorem j_lrem {pc' : Nat} {a b : Int64} (hd : decode M.2.1 pc = .ok (.lrem, 1)) (hp : pc + 1 = pc') (h0 : ¬ b = 0) (k : Rj X d bc bs M Q pc' L (.long (a - a / b * b) :: st) n I J P) : Rj X d bc bs M Q pc L (.long b :: .long a :: st) n I J P := by
  subst hp
  exact j_go k (fun hL hs => j_ok1 jv_ok.long (j_tl (j_tl hs))) (fun p l e R s m args below meth c H locs cells slots Z ls ad hx hb hl kk => lv_lrem hx hb hd h0 kk)
theorem j_lcmp {pc' : Nat} {a b : Int64} (hd : decode M.2.1 pc = .ok (.lcmp, 1)) (hp : pc + 1 = pc')  (k : Rj X d bc bs M Q pc' L (.int (lg_cmp a b) :: st) n I J P) : Rj X d bc bs M Q pc L (.long b :: .long a :: st) n I J P := by
  subst hp
  exact j_go k (fun hL hs => j_ok1 jv_ok.int (j_tl (j_tl hs))) (fun p l e R s m args below meth c H locs cells slots Z ls ad hx hb hl kk => W.lcmp hx hb hd kk)
theorem j_i2l {pc' : Nat} {a : Int32} (hd : decode M.2.1 pc = .ok (.i2l, 1)) (hp : pc + 1 = pc')  (k : Rj X d bc bs M Q pc' L (.long a.toInt64 :: st) n I J P) : Rj X d bc bs M Q pc L (.int a :: st) n I J P := by
  subst hp
  exact j_go k (fun hL hs => j_ok1 jv_ok.long (j_tl hs)) (fun p l e R s m args below meth c H locs cells slots Z ls ad hx hb hl kk => lv_i2l hx hb hd rfl kk)
theorem j_i2b {pc' : Nat} {a : Int32} (hd : decode M.2.1 pc = .ok (.i2b, 1)) (hp : pc + 1 = pc')  (k : Rj X d bc bs M Q pc' L (.int a.toInt8.toInt32 :: st) n I J P) : Rj X d bc bs M Q pc L (.int a :: st) n I J P := by
  subst hp
  exact j_go k (fun hL hs => j_ok1 jv_ok.int (j_tl hs)) (fun p l e R s m args below meth c H locs cells slots Z ls ad hx hb hl kk => lv_i2b hx hb hd rfl kk)
theorem j_i2c {pc' : Nat} {a v : Int32} (hd : decode M.2.1 pc = .ok (.i2c, 1)) (hp : pc + 1 = pc') (hv : (a.toUInt32 % 65536).toInt32 = v) (k : Rj X d bc bs M Q pc' L (.int v :: st) n I J P) : Rj X d bc bs M Q pc L (.int a :: st) n I J P := by
  subst hp
  exact j_go k (fun hL hs => j_ok1 jv_ok.int (j_tl hs)) (fun p l e R s m args below meth c H locs cells slots Z ls ad hx hb hl kk => lv_i2c hx hb hd hv kk)
theorem j_dup {pc' : Nat} {v : Value} (hd : decode M.2.1 pc = .ok (.dup, 1)) (hp : pc + 1 = pc') (hc : v.category = 1) (k : Rj X d bc bs M Q pc' L (v :: v :: st) n I J P) : Rj X d bc bs M Q pc L (v :: st) n I J P := by
  subst hp
  exact j_go k (fun hL hs => j_ok1 (hs _ List.mem_cons_self) hs) (fun p l e R s m args below meth c H locs cells slots Z ls ad hx hb hl kk => lv_dup hx hb hd (by rw [jv_ren_cat]; exact hc) kk)
theorem j_pop {pc' : Nat} {v : Value} (hd : decode M.2.1 pc = .ok (.pop, 1)) (hp : pc + 1 = pc') (hc : v.category = 1) (k : Rj X d bc bs M Q pc' L (st) n I J P) : Rj X d bc bs M Q pc L (v :: st) n I J P := by
  subst hp
  exact j_go k (fun hL hs => j_tl hs) (fun p l e R s m args below meth c H locs cells slots Z ls ad hx hb hl kk => lv_pop hx hb hd (by rw [jv_ren_cat]; exact hc) kk)
theorem j_dup_x1 {pc' : Nat} {v w : Value} (hd : decode M.2.1 pc = .ok (.dup_x1, 1)) (hp : pc + 1 = pc') (hc : v.category = 1) (hc2 : w.category = 1) (k : Rj X d bc bs M Q pc' L (v :: w :: v :: st) n I J P) : Rj X d bc bs M Q pc L (v :: w :: st) n I J P := by
  subst hp
  exact j_go k (fun hL hs => j_ok1 (hs _ List.mem_cons_self) (j_ok1 (j_tl hs _ List.mem_cons_self) (j_ok1 (hs _ List.mem_cons_self) (j_tl (j_tl hs))))) (fun p l e R s m args below meth c H locs cells slots Z ls ad hx hb hl kk => lv_dup_x1 hx hb hd (by rw [jv_ren_cat]; exact hc) (by rw [jv_ren_cat]; exact hc2) kk)
theorem j_dup2 {pc' : Nat} {v w : Value} (hd : decode M.2.1 pc = .ok (.dup2, 1)) (hp : pc + 1 = pc') (hc : v.category = 1) (hc2 : w.category = 1) (k : Rj X d bc bs M Q pc' L (v :: w :: v :: w :: st) n I J P) : Rj X d bc bs M Q pc L (v :: w :: st) n I J P := by
  subst hp
  exact j_go k (fun hL hs => j_ok1 (hs _ List.mem_cons_self) (j_ok1 (j_tl hs _ List.mem_cons_self) hs)) (fun p l e R s m args below meth c H locs cells slots Z ls ad hx hb hl kk => lv_dup2_11 hx hb hd (by rw [jv_ren_cat]; exact hc) (by rw [jv_ren_cat]; exact hc2) kk)
theorem j_goto {tgt : Nat} {off : Int} (hd : decode M.2.1 pc = .ok (.goto off, 3)) (ht : (pc : Int) + off = (tgt : Int)) (k : Rj X d bc bs M Q tgt L st n I J P) : Rj X d bc bs M Q pc L st n I J P :=
  j_go k (fun _ hs => hs) (fun p l e R s m args below meth c H locs cells slots Z ls ad hx hb hl kk => lv_goto hx hb hd ht kk)
theorem j_ifnonnull {tgt a : Nat} {off : Int} (hd : decode M.2.1 pc = .ok (.ifnonnull off, 3)) (ht : (pc : Int) + off = (tgt : Int)) (k : Rj X d bc bs M Q tgt L st n I J P) : Rj X d bc bs M Q pc L (.ref a :: st) n I J P :=
  j_go k (fun _ hs => j_tl hs) (fun p l e R s m args below meth c H locs cells slots Z ls ad hx hb hl kk => lv_ifnonnull hx hb hd ht kk)
theorem j_ifnonnullN {pc' : Nat} {off : Int} (hd : decode M.2.1 pc = .ok (.ifnonnull off, 3)) (hp : pc + 3 = pc') (k : Rj X d bc bs M Q pc' L st n I J P) : Rj X d bc bs M Q pc L (.null :: st) n I J P := by
  subst hp
  exact j_go k (fun _ hs => j_tl hs) (fun p l e R s m args below meth c H locs cells slots Z ls ad hx hb hl kk => lv_ifnonnullN hx hb hd kk)
/-- two ways: the machine's own test decides -/
theorem j_br {C : Prop} {pc1 pc2 : Nat} {st' : List Value} (k1 : C → Rj X d bc bs M Q pc1 L st' n I J P) (k2 : ¬ C → Rj X d bc bs M Q pc2 L st' n I J P) (hok : (∀ v ∈ st, jv_ok n v) → ∀ v ∈ st', jv_ok n v)
    (hw : ∀ (p : Program) (l : Launch) (e : Env) (R : Room) (s : State) (m : MethodId) (args : Array Value) (below : List Frame) (meth : Method) (c : Code) (H : Heap) (locs : List Loc) (cells slots : Nat) (Z : State → Prop) (ls : Array Slot) (ad : Nat → Nat), p.tables.exec = Jvm.exec → c.code = M.2.1 →
      (C → W p l e R s m args below meth c H locs cells slots Z (F0 m pc1 ls (st'.map (jv_ren ad)))) → (¬ C → W p l e R s m args below meth c H locs cells slots Z (F0 m pc2 ls (st'.map (jv_ren ad)))) → W p l e R s m args below meth c H locs cells slots Z (F0 m pc ls (st.map (jv_ren ad)))) : Rj X d bc bs M Q pc L st n I J P := by
  intro A D tc p l e R s m args below meth c H locs cells slots Z ls ad hF hR hD hf hend
  exact hw p l e R s m args below meth c H locs cells slots Z ls ad hF.1 hF.2.1 (fun h => k1 h A D tc p l e R s m args below meth c H locs cells slots Z ls ad hF hR hD ⟨hf.1, hf.2.1, hok hf.2.2⟩ hend) (fun h => k2 h A D tc p l e R s m args below meth c H locs cells slots Z ls ad hF hR hD ⟨hf.1, hf.2.1, hok hf.2.2⟩ hend)
theorem j_ifeq {tgt pc' : Nat} {off : Int} {a : Int32} (hd : decode M.2.1 pc = .ok (.ifCond .eq off, 3)) (ht : (pc : Int) + off = (tgt : Int)) (hp : pc + 3 = pc') (k1 : a = 0 → Rj X d bc bs M Q tgt L st n I J P) (k2 : ¬ a = 0 → Rj X d bc bs M Q pc' L st n I J P) : Rj X d bc bs M Q pc L (.int a :: st) n I J P := by
  subst hp
  exact j_br (C := a = 0) k1 (fun h => k2 (h)) j_tl (fun p l e R s m args below meth c H locs cells slots Z ls ad hx hb h1 h2 => lv_if_eq hx hb hd ht h1 (fun h => h2 (h)))
theorem j_ifne {tgt pc' : Nat} {off : Int} {a : Int32} (hd : decode M.2.1 pc = .ok (.ifCond .ne off, 3)) (ht : (pc : Int) + off = (tgt : Int)) (hp : pc + 3 = pc') (k1 : ¬ a = 0 → Rj X d bc bs M Q tgt L st n I J P) (k2 : a = 0 → Rj X d bc bs M Q pc' L st n I J P) : Rj X d bc bs M Q pc L (.int a :: st) n I J P := by
  subst hp
  exact j_br (C := ¬ a = 0) k1 (fun h => k2 (Classical.not_not.mp h)) j_tl (fun p l e R s m args below meth c H locs cells slots Z ls ad hx hb h1 h2 => lv_if_ne hx hb hd ht h1 (fun h => h2 (fun q => q h)))
theorem j_iflt {tgt pc' : Nat} {off : Int} {a : Int32} (hd : decode M.2.1 pc = .ok (.ifCond .lt off, 3)) (ht : (pc : Int) + off = (tgt : Int)) (hp : pc + 3 = pc') (k1 : a < 0 → Rj X d bc bs M Q tgt L st n I J P) (k2 : ¬ a < 0 → Rj X d bc bs M Q pc' L st n I J P) : Rj X d bc bs M Q pc L (.int a :: st) n I J P := by
  subst hp
  exact j_br (C := a < 0) k1 (fun h => k2 (h)) j_tl (fun p l e R s m args below meth c H locs cells slots Z ls ad hx hb h1 h2 => lv_if_lt hx hb hd ht h1 (fun h => h2 (h)))
theorem j_ifge {tgt pc' : Nat} {off : Int} {a : Int32} (hd : decode M.2.1 pc = .ok (.ifCond .ge off, 3)) (ht : (pc : Int) + off = (tgt : Int)) (hp : pc + 3 = pc') (k1 : 0 ≤ a → Rj X d bc bs M Q tgt L st n I J P) (k2 : ¬ 0 ≤ a → Rj X d bc bs M Q pc' L st n I J P) : Rj X d bc bs M Q pc L (.int a :: st) n I J P := by
  subst hp
  exact j_br (C := 0 ≤ a) k1 (fun h => k2 (h)) j_tl (fun p l e R s m args below meth c H locs cells slots Z ls ad hx hb h1 h2 => lv_if_ge hx hb hd ht h1 (fun h => h2 (h)))
theorem j_ifgt {tgt pc' : Nat} {off : Int} {a : Int32} (hd : decode M.2.1 pc = .ok (.ifCond .gt off, 3)) (ht : (pc : Int) + off = (tgt : Int)) (hp : pc + 3 = pc') (k1 : 0 < a → Rj X d bc bs M Q tgt L st n I J P) (k2 : ¬ 0 < a → Rj X d bc bs M Q pc' L st n I J P) : Rj X d bc bs M Q pc L (.int a :: st) n I J P := by
  subst hp
  exact j_br (C := 0 < a) k1 (fun h => k2 (h)) j_tl (fun p l e R s m args below meth c H locs cells slots Z ls ad hx hb h1 h2 => lv_if_gt hx hb hd ht h1 (fun h => h2 (h)))
theorem j_ifle {tgt pc' : Nat} {off : Int} {a : Int32} (hd : decode M.2.1 pc = .ok (.ifCond .le off, 3)) (ht : (pc : Int) + off = (tgt : Int)) (hp : pc + 3 = pc') (k1 : a ≤ 0 → Rj X d bc bs M Q tgt L st n I J P) (k2 : ¬ a ≤ 0 → Rj X d bc bs M Q pc' L st n I J P) : Rj X d bc bs M Q pc L (.int a :: st) n I J P := by
  subst hp
  exact j_br (C := a ≤ 0) k1 (fun h => k2 (h)) j_tl (fun p l e R s m args below meth c H locs cells slots Z ls ad hx hb h1 h2 => lv_if_le hx hb hd ht h1 (fun h => h2 (h)))
theorem j_icmpeq {tgt pc' : Nat} {off : Int} {a b : Int32} (hd : decode M.2.1 pc = .ok (.if_icmp .eq off, 3)) (ht : (pc : Int) + off = (tgt : Int)) (hp : pc + 3 = pc') (k1 : a = b → Rj X d bc bs M Q tgt L st n I J P) (k2 : ¬ a = b → Rj X d bc bs M Q pc' L st n I J P) : Rj X d bc bs M Q pc L (.int b :: .int a :: st) n I J P := by
  subst hp
  exact j_br (C := a = b) k1 (fun h => k2 (h)) (fun hs => j_tl (j_tl hs)) (fun p l e R s m args below meth c H locs cells slots Z ls ad hx hb h1 h2 => lv_icmp_eq hx hb hd ht h1 (fun h => h2 (h)))
theorem j_icmpne {tgt pc' : Nat} {off : Int} {a b : Int32} (hd : decode M.2.1 pc = .ok (.if_icmp .ne off, 3)) (ht : (pc : Int) + off = (tgt : Int)) (hp : pc + 3 = pc') (k1 : ¬ a = b → Rj X d bc bs M Q tgt L st n I J P) (k2 : a = b → Rj X d bc bs M Q pc' L st n I J P) : Rj X d bc bs M Q pc L (.int b :: .int a :: st) n I J P := by
  subst hp
  exact j_br (C := ¬ a = b) k1 (fun h => k2 (Classical.not_not.mp h)) (fun hs => j_tl (j_tl hs)) (fun p l e R s m args below meth c H locs cells slots Z ls ad hx hb h1 h2 => lv_icmp_ne hx hb hd ht h1 (fun h => h2 (fun q => q h)))
theorem j_icmplt {tgt pc' : Nat} {off : Int} {a b : Int32} (hd : decode M.2.1 pc = .ok (.if_icmp .lt off, 3)) (ht : (pc : Int) + off = (tgt : Int)) (hp : pc + 3 = pc') (k1 : a < b → Rj X d bc bs M Q tgt L st n I J P) (k2 : ¬ a < b → Rj X d bc bs M Q pc' L st n I J P) : Rj X d bc bs M Q pc L (.int b :: .int a :: st) n I J P := by
  subst hp
  exact j_br (C := a < b) k1 (fun h => k2 (h)) (fun hs => j_tl (j_tl hs)) (fun p l e R s m args below meth c H locs cells slots Z ls ad hx hb h1 h2 => lv_icmp_lt hx hb hd ht h1 (fun h => h2 (h)))
theorem j_icmpge {tgt pc' : Nat} {off : Int} {a b : Int32} (hd : decode M.2.1 pc = .ok (.if_icmp .ge off, 3)) (ht : (pc : Int) + off = (tgt : Int)) (hp : pc + 3 = pc') (k1 : b ≤ a → Rj X d bc bs M Q tgt L st n I J P) (k2 : ¬ b ≤ a → Rj X d bc bs M Q pc' L st n I J P) : Rj X d bc bs M Q pc L (.int b :: .int a :: st) n I J P := by
  subst hp
  exact j_br (C := b ≤ a) k1 (fun h => k2 (h)) (fun hs => j_tl (j_tl hs)) (fun p l e R s m args below meth c H locs cells slots Z ls ad hx hb h1 h2 => lv_icmp_ge hx hb hd ht h1 (fun h => h2 (h)))
theorem j_icmpgt {tgt pc' : Nat} {off : Int} {a b : Int32} (hd : decode M.2.1 pc = .ok (.if_icmp .gt off, 3)) (ht : (pc : Int) + off = (tgt : Int)) (hp : pc + 3 = pc') (k1 : b < a → Rj X d bc bs M Q tgt L st n I J P) (k2 : ¬ b < a → Rj X d bc bs M Q pc' L st n I J P) : Rj X d bc bs M Q pc L (.int b :: .int a :: st) n I J P := by
  subst hp
  exact j_br (C := b < a) k1 (fun h => k2 (h)) (fun hs => j_tl (j_tl hs)) (fun p l e R s m args below meth c H locs cells slots Z ls ad hx hb h1 h2 => lv_icmp_gt hx hb hd ht h1 (fun h => h2 (h)))
theorem j_icmple {tgt pc' : Nat} {off : Int} {a b : Int32} (hd : decode M.2.1 pc = .ok (.if_icmp .le off, 3)) (ht : (pc : Int) + off = (tgt : Int)) (hp : pc + 3 = pc') (k1 : a ≤ b → Rj X d bc bs M Q tgt L st n I J P) (k2 : ¬ a ≤ b → Rj X d bc bs M Q pc' L st n I J P) : Rj X d bc bs M Q pc L (.int b :: .int a :: st) n I J P := by
  subst hp
  exact j_br (C := a ≤ b) k1 (fun h => k2 (h)) (fun hs => j_tl (j_tl hs)) (fun p l e R s m args below meth c H locs cells slots Z ls ad hx hb h1 h2 => lv_icmp_le hx hb hd ht h1 (fun h => h2 (h)))
theorem j_istore_n {pc' : Nat} {L' : List Value} {z : Fin 4} {i : Nat} {v : Int32} (hd : decode M.2.1 pc = .ok (.istore_n z, 1)) (hp : pc + 1 = pc') (hi : (z : Nat) = i) (hL : L.set i (.int v) = L') (hn : i < M.2.2.1) (hg : jv_g L i = true) (k : Rj X d bc bs M Q pc' L' st n I J P) : Rj X d bc bs M Q pc L ((.int v) :: st) n I J P := by
  subst hp
  refine j_st1 (v := .int v) k hL hn hg rfl (fun _ hs => hs _ List.mem_cons_self) j_tl (fun p l e R s m args below meth c H locs cells slots Z ls ls' ad hx hb hl hst kk => ?_)
  show W p l e R s m args below meth c H locs cells slots Z (F0 m pc ls (jv_ren ad (.int v) :: st.map (jv_ren ad)))
  have hst2 : storeLocals ls i (.int v) = some ls' := hst
  subst hi
  intro T hT X0
  obtain ⟨t, a1, b1⟩ := kk T hT X0
  refine ⟨t, ?_, b1⟩
  show Steps p.tables e below (T.setTop (F0 m pc ls (.int v :: st.map (jv_ren ad)))) t
  jvm_step X0.here [X0.here.top, ↓top_set X0.here.top, hx, hb, hd, hst2]
  first | exact a1 | exact ⟨rfl, a1⟩
theorem j_istore {pc' : Nat} {L' : List Value} {i : Nat} {v : Int32} (hd : decode M.2.1 pc = .ok (.istore i, 2)) (hp : pc + 2 = pc')  (hL : L.set i (.int v) = L') (hn : i < M.2.2.1) (hg : jv_g L i = true) (k : Rj X d bc bs M Q pc' L' st n I J P) : Rj X d bc bs M Q pc L ((.int v) :: st) n I J P := by
  subst hp
  refine j_st1 (v := .int v) k hL hn hg rfl (fun _ hs => hs _ List.mem_cons_self) j_tl (fun p l e R s m args below meth c H locs cells slots Z ls ls' ad hx hb hl hst kk => ?_)
  show W p l e R s m args below meth c H locs cells slots Z (F0 m pc ls (jv_ren ad (.int v) :: st.map (jv_ren ad)))
  have hst2 : storeLocals ls i (.int v) = some ls' := hst
  skip
  intro T hT X0
  obtain ⟨t, a1, b1⟩ := kk T hT X0
  refine ⟨t, ?_, b1⟩
  show Steps p.tables e below (T.setTop (F0 m pc ls (.int v :: st.map (jv_ren ad)))) t
  jvm_step X0.here [X0.here.top, ↓top_set X0.here.top, hx, hb, hd, hst2]
  first | exact a1 | exact ⟨rfl, a1⟩
theorem j_lstore_n {pc' : Nat} {L' : List Value} {z : Fin 4} {i : Nat} {v : Int64} (hd : decode M.2.1 pc = .ok (.lstore_n z, 1)) (hp : pc + 1 = pc') (hi : (z : Nat) = i) (hL : (L.set i (.long v)).set (i + 1) jU = L') (hn : i + 1 < M.2.2.1) (hg : jv_g L i = true) (k : Rj X d bc bs M Q pc' L' st n I J P) : Rj X d bc bs M Q pc L ((.long v) :: st) n I J P := by
  subst hp
  refine j_st2 (v := .long v) k hL hn hg rfl jv_ok.long j_tl (fun p l e R s m args below meth c H locs cells slots Z ls ls' ad hx hb hl hst kk => ?_)
  show W p l e R s m args below meth c H locs cells slots Z (F0 m pc ls (jv_ren ad (.long v) :: st.map (jv_ren ad)))
  have hst2 : storeLocals ls i (.long v) = some ls' := hst
  subst hi
  intro T hT X0
  obtain ⟨t, a1, b1⟩ := kk T hT X0
  refine ⟨t, ?_, b1⟩
  show Steps p.tables e below (T.setTop (F0 m pc ls (.long v :: st.map (jv_ren ad)))) t
  jvm_step X0.here [X0.here.top, ↓top_set X0.here.top, hx, hb, hd, hst2]
  first | exact a1 | exact ⟨rfl, a1⟩
theorem j_lstore {pc' : Nat} {L' : List Value} {i : Nat} {v : Int64} (hd : decode M.2.1 pc = .ok (.lstore i, 2)) (hp : pc + 2 = pc')  (hL : (L.set i (.long v)).set (i + 1) jU = L') (hn : i + 1 < M.2.2.1) (hg : jv_g L i = true) (k : Rj X d bc bs M Q pc' L' st n I J P) : Rj X d bc bs M Q pc L ((.long v) :: st) n I J P := by
  subst hp
  refine j_st2 (v := .long v) k hL hn hg rfl jv_ok.long j_tl (fun p l e R s m args below meth c H locs cells slots Z ls ls' ad hx hb hl hst kk => ?_)
  show W p l e R s m args below meth c H locs cells slots Z (F0 m pc ls (jv_ren ad (.long v) :: st.map (jv_ren ad)))
  have hst2 : storeLocals ls i (.long v) = some ls' := hst
  skip
  intro T hT X0
  obtain ⟨t, a1, b1⟩ := kk T hT X0
  refine ⟨t, ?_, b1⟩
  show Steps p.tables e below (T.setTop (F0 m pc ls (.long v :: st.map (jv_ren ad)))) t
  jvm_step X0.here [X0.here.top, ↓top_set X0.here.top, hx, hb, hd, hst2]
  first | exact a1 | exact ⟨rfl, a1⟩
theorem j_astore_n {pc' : Nat} {L' : List Value} {z : Fin 4} {i v : Nat} (hd : decode M.2.1 pc = .ok (.astore_n z, 1)) (hp : pc + 1 = pc') (hi : (z : Nat) = i) (hL : L.set i (.ref v) = L') (hn : i < M.2.2.1) (hg : jv_g L i = true) (k : Rj X d bc bs M Q pc' L' st n I J P) : Rj X d bc bs M Q pc L ((.ref v) :: st) n I J P := by
  subst hp
  refine j_st1 (v := .ref v) k hL hn hg rfl (fun _ hs => hs _ List.mem_cons_self) j_tl (fun p l e R s m args below meth c H locs cells slots Z ls ls' ad hx hb hl hst kk => ?_)
  show W p l e R s m args below meth c H locs cells slots Z (F0 m pc ls (jv_ren ad (.ref v) :: st.map (jv_ren ad)))
  have hst2 : storeLocals ls i (.ref (ad v)) = some ls' := hst
  subst hi
  intro T hT X0
  obtain ⟨t, a1, b1⟩ := kk T hT X0
  refine ⟨t, ?_, b1⟩
  show Steps p.tables e below (T.setTop (F0 m pc ls (.ref (ad v) :: st.map (jv_ren ad)))) t
  jvm_step X0.here [X0.here.top, ↓top_set X0.here.top, hx, hb, hd, hst2]
  first | exact a1 | exact ⟨rfl, a1⟩
theorem j_astore {pc' : Nat} {L' : List Value} {i v : Nat} (hd : decode M.2.1 pc = .ok (.astore i, 2)) (hp : pc + 2 = pc')  (hL : L.set i (.ref v) = L') (hn : i < M.2.2.1) (hg : jv_g L i = true) (k : Rj X d bc bs M Q pc' L' st n I J P) : Rj X d bc bs M Q pc L ((.ref v) :: st) n I J P := by
  subst hp
  refine j_st1 (v := .ref v) k hL hn hg rfl (fun _ hs => hs _ List.mem_cons_self) j_tl (fun p l e R s m args below meth c H locs cells slots Z ls ls' ad hx hb hl hst kk => ?_)
  show W p l e R s m args below meth c H locs cells slots Z (F0 m pc ls (jv_ren ad (.ref v) :: st.map (jv_ren ad)))
  have hst2 : storeLocals ls i (.ref (ad v)) = some ls' := hst
  skip
  intro T hT X0
  obtain ⟨t, a1, b1⟩ := kk T hT X0
  refine ⟨t, ?_, b1⟩
  show Steps p.tables e below (T.setTop (F0 m pc ls (.ref (ad v) :: st.map (jv_ren ad)))) t
  jvm_step X0.here [X0.here.top, ↓top_set X0.here.top, hx, hb, hd, hst2]
  first | exact a1 | exact ⟨rfl, a1⟩
theorem j_astore_nN {pc' : Nat} {L' : List Value} {z : Fin 4} {i : Nat} (hd : decode M.2.1 pc = .ok (.astore_n z, 1)) (hp : pc + 1 = pc') (hi : (z : Nat) = i) (hL : L.set i (.null) = L') (hn : i < M.2.2.1) (hg : jv_g L i = true) (k : Rj X d bc bs M Q pc' L' st n I J P) : Rj X d bc bs M Q pc L ((.null) :: st) n I J P := by
  subst hp
  refine j_st1 (v := .null) k hL hn hg rfl (fun _ hs => hs _ List.mem_cons_self) j_tl (fun p l e R s m args below meth c H locs cells slots Z ls ls' ad hx hb hl hst kk => ?_)
  show W p l e R s m args below meth c H locs cells slots Z (F0 m pc ls (jv_ren ad (.null) :: st.map (jv_ren ad)))
  have hst2 : storeLocals ls i (.null) = some ls' := hst
  subst hi
  intro T hT X0
  obtain ⟨t, a1, b1⟩ := kk T hT X0
  refine ⟨t, ?_, b1⟩
  show Steps p.tables e below (T.setTop (F0 m pc ls (.null :: st.map (jv_ren ad)))) t
  jvm_step X0.here [X0.here.top, ↓top_set X0.here.top, hx, hb, hd, hst2]
  first | exact a1 | exact ⟨rfl, a1⟩
theorem j_iinc {pc' i : Nat} {z : Int} {a v : Int32} {L' : List Value} (hd : decode M.2.1 pc = .ok (.iinc i z, 3)) (hp : pc + 3 = pc') (h0 : L[i]? = some (.int a)) (hv : a + Int32.ofInt z = v) (hL : L.set i (.int v) = L') (hn : i < M.2.2.1) (hg : jv_g L i = true) (k : Rj X d bc bs M Q pc' L' st n I J P) : Rj X d bc bs M Q pc L st n I J P := by
  subst hp
  subst hv
  refine j_st1 (v := .int (a + Int32.ofInt z)) k hL hn hg rfl (fun _ _ => jv_ok.int) (fun h => h) (fun p l e R s m args below meth c H locs cells slots Z ls ls' ad hx hb hl hst kk => ?_)
  have hst2 : storeLocals ls i (.int (a + Int32.ofInt z)) = some ls' := hst
  have hgt : ls[i]? = some (.val (.int a)) := hl.at (v := .int a) h0 (by simp [jU])
  intro T hT X0
  obtain ⟨t, a1, b1⟩ := kk T hT X0
  refine ⟨t, ?_, b1⟩
  jvm_step X0.here [X0.here.top, ↓top_set X0.here.top, hx, hb, hd, hgt, hst2]
  first | exact a1 | exact ⟨rfl, a1⟩
end JR
end
section
/-! rows that read and write cells -/
theorem jcl (ci : Nat) (h : ci < jNc) : vwCl[ci]? = some (jC ci, jT ci, fnm ci) := by
  have : ∀ i, i < 9 → vwCl[i]? = some (jC i, jT i, fnm i) := by
    intro i hi
    match i, hi with
    | 0, _ => rfl
    | 1, _ => rfl
    | 2, _ => rfl
    | 3, _ => rfl
    | 4, _ => rfl
    | 5, _ => rfl
    | 6, _ => rfl
    | 7, _ => rfl
    | 8, _ => rfl
  exact this ci h
theorem jlay (ci : Nat) (h : ci < jNc) : ∀ w ∈ u_ws (jC ci) (jT ci) (fnm ci), w ∈ jv_tbl := by
  have : ∀ i, i < 9 → ∀ w ∈ u_ws (jC i) (jT i) (fnm i), w ∈ jv_tbl := by decide +kernel
  exact this ci h
theorem jtyok (ci : Nat) (h : ci < jNc) : ∀ k, k < fnm ci → parseFieldDescriptor (jT ci k).2.2.1 = some (jty ci k) := by
  have : ∀ i, i < 9 → ∀ k, k < fnm i → parseFieldDescriptor (jT i k).2.2.1 = some (jty i k) := by decide +kernel
  exact this ci h
theorem jnm (ci : Nat) (h : ci < jNc) : ∀ a, a < fnm ci → ∀ b, b < fnm ci → a ≠ b → (jT ci a).2.1 ≠ (jT ci b).2.1 := by
  have : ∀ i, i < 9 → ∀ a, a < fnm i → ∀ b, b < fnm i → a ≠ b → (jT i a).2.1 ≠ (jT i b).2.1 := by decide +kernel
  exact this ci h
/-- a pool entry that is a field of a class of ours -/
def PF (own : String) (idx ci k : Nat) : Prop := ci < jNc ∧ k < fnm ci ∧ Cond.fieldLink own idx (jT ci k).1 (jT ci k).2.1 (jT ci k).2.2.1 ∈ jv_tbl
section JH
variable {X : jX} {d bc bs : Nat} {M : MD} {Q : jPost} {pc : Nat} {L st : List Value} {n : Nat} {I : HI} {J : HJ} {P : HP}
theorem jv_lt {v : Value} {a : Nat} (h : jv_ok n (.ref a)) (ha : a < 1000) : a < n := (h a rfl).elim id (fun q => by omega)
theorem j_get0 {pc' idx ci k a : Nat} {v : Value} (hd : decode M.2.1 pc = .ok (.getfield idx, 3)) (hp : pc + 3 = pc') (hf : PF M.1.cls idx ci k) (hs : shp a = (0, ci)) (ha : a < 1000) (hv : ∀ ad : Nat → Nat, jv_fld ad I J P ci a k = jv_ren ad v) (hok : a < n → jv_okP n P → jv_ok n v)
    (kk : Rj X d bc bs M Q pc' L (v :: st) n I J P) : Rj X d bc bs M Q pc L (.ref a :: st) n I J P := by
  subst hp
  intro A D tc p l e R s m args below meth c H locs cells slots Z ls ad hF hR hD hf2 hend
  obtain ⟨hx, hb, hml, hr, hown, hts, hK, hA, -⟩ := id hF
  obtain ⟨hP, hDD, hS, hRO, hoP⟩ := id hD
  have han : a < n := (hf2.2.2 _ List.mem_cons_self a rfl).elim id (fun q => by omega)
  have hgt := jws_get (tc := tc) (ad := ad) (I := I) (J := J) (P := P) han
  rw [jcell_obj hs] at hgt
  show W p l e R s m args below meth c H locs cells slots Z (F0 m pc ls (.ref (ad a) :: st.map (jv_ren ad)))
  refine va_get (D := D) (ci := ci) (v := jv_ren ad v) (C := jC ci) (T := jT ci) (N := fnm ci) hx hb hts (jlay ci hf.1) hown hK hP a hgt (jcl ci hf.1) k hf.2.1 (hts _ hf.2.2) (fun _ h9 => h9) (by rw [List.getElem?_map, List.getElem?_range hf.2.1, Option.map_some, hv]) hd ?_
  exact kk A D tc p l e R s m args below meth c H locs cells slots Z ls ad hF hR hD ⟨hf2.1, hf2.2.1, j_ok1 (hok han hoP) (j_tl hf2.2.2)⟩ hend
theorem j_getI {pc' idx ci k a : Nat} (hd : decode M.2.1 pc = .ok (.getfield idx, 3)) (hp : pc + 3 = pc') (hf : PF M.1.cls idx ci k) (hs : shp a = (0, ci)) (ha : a < 1000) (ht : jty ci k = .int) (kk : Rj X d bc bs M Q pc' L (.int (I a k) :: st) n I J P) : Rj X d bc bs M Q pc L (.ref a :: st) n I J P :=
  j_get0 hd hp hf hs ha (fun ad => by simp only [jv_fld, ht, jv_ren]) (fun _ _ => jv_ok.int) kk
theorem j_getJ {pc' idx ci k a : Nat} (hd : decode M.2.1 pc = .ok (.getfield idx, 3)) (hp : pc + 3 = pc') (hf : PF M.1.cls idx ci k) (hs : shp a = (0, ci)) (ha : a < 1000) (ht : jty ci k = .long) (kk : Rj X d bc bs M Q pc' L (.long (J a k) :: st) n I J P) : Rj X d bc bs M Q pc L (.ref a :: st) n I J P :=
  j_get0 hd hp hf hs ha (fun ad => by simp only [jv_fld, ht, jv_ren]) (fun _ _ => jv_ok.long) kk
/-- a type whose values are references -/
def jrt (t : FieldType) : Bool := match t with
  | .object _ => true
  | .array _ => true
  | _ => false
theorem jv_fld_ref {ad : Nat → Nat} {ci a k : Nat} (ht : jrt (jty ci k) = true) : jv_fld ad I J P ci a k = va_rf ((P a k).map ad) := by
  unfold jv_fld
  cases h : jty ci k <;> rw [h] at ht <;> first | rfl | cases ht
theorem j_getP {pc' idx ci k a b : Nat} (hd : decode M.2.1 pc = .ok (.getfield idx, 3)) (hp : pc + 3 = pc') (hf : PF M.1.cls idx ci k) (hs : shp a = (0, ci)) (ha : a < 1000) (ht : jrt (jty ci k) = true) (hb : P a k = some b) (kk : Rj X d bc bs M Q pc' L (.ref b :: st) n I J P) : Rj X d bc bs M Q pc L (.ref a :: st) n I J P :=
  j_get0 hd hp hf hs ha (fun ad => by rw [jv_fld_ref ht, hb]; rfl) (fun han hoP => fun b' e => by cases e; exact Or.inl (hoP a k b han hb)) kk
/-- a field is written: its value fits, the cell's row is the new one -/
theorem j_put0 {pc' idx ci k a : Nat} {v : Value} {I' : HI} {J' : HJ} {P' : HP} (hd : decode M.2.1 pc = .ok (.putfield idx, 3)) (hp : pc + 3 = pc') (hf : PF M.1.cls idx ci k) (hs : shp a = (0, ci)) (ha : a < 1000) (hfin : (jT ci k).2.2.2 = false ∨ (M.1.name = "<init>" ∧ (jT ci k).1 = M.1.cls))
    (hn : ∀ ad : Nat → Nat, narrow (jty ci k) (jv_ren ad v) = jv_ren ad v) (hfit : ∀ ad : Nat → Nat, fits (jty ci k) (jv_ren ad v) = true) (hv : ∀ ad : Nat → Nat, jv_fld ad I' J' P' ci a k = jv_ren ad v) (ho : ∀ (ad : Nat → Nat) (j : Nat), j ≠ k → jv_fld ad I' J' P' ci a j = jv_fld ad I J P ci a j)
    (hoc : ∀ b, b ≠ a → I' b = I b ∧ J' b = J b ∧ P' b = P b) (hoP : (a < n) → jv_ok n v → jv_okP n P → jv_okP n P') (kk : Rj X d bc bs M Q pc' L st n I' J' P') : Rj X d bc bs M Q pc L (v :: .ref a :: st) n I J P := by
  subst hp
  intro A D tc p l e R s m args below meth c H locs cells slots Z ls ad hF hR hD hf2 hend
  obtain ⟨hx, hb, hml, hr, hown, hts, hK, hA, hlk, hnm⟩ := id hF
  obtain ⟨hP, hDD, hS, hRO, hokP⟩ := id hD
  have hva := hf2.2.2 _ List.mem_cons_self
  have han : a < n := (hf2.2.2 _ (List.mem_cons_of_mem _ List.mem_cons_self) a rfl).elim id (fun q => by omega)
  have hgt := jws_get (tc := tc) (ad := ad) (I := I) (J := J) (P := P) han
  rw [jcell_obj hs] at hgt
  have hws : (jv_ws tc ad n I J P).set a (ad a, .inr (ci, ((List.range (fnm ci)).map (jv_fld ad I J P ci a)).set k (jv_ren ad v))) = jv_ws tc ad n I' J' P' := by
    refine jws_set han ?_ (fun b _ hba => ?_)
    · rw [jcell_obj hs, jmap_set (hv ad) (fun j _ hj => ho ad j hj)]
    · obtain ⟨e1, e2, e3⟩ := hoc b hba
      exact jcell_congr e1 e2 (fun j => by rw [e3])
  have hlen : k < ((List.range (fnm ci)).map (jv_fld ad I J P ci a)).length := by simpa using hf.2.1
  show W p l e R s m args below meth c H locs cells slots Z (F0 m pc ls (jv_ren ad v :: .ref (ad a) :: st.map (jv_ren ad)))
  have fin : ∀ (H1 : Heap) (locs1 : List Loc), va_P D vwCl ((jv_ws tc ad n I J P).set a (ad a, .inr (ci, ((List.range (fnm ci)).map (jv_fld ad I J P ci a)).set k (jv_ren ad v)))) H1 → va_D A ((jv_ws tc ad n I J P).set a (ad a, .inr (ci, ((List.range (fnm ci)).map (jv_fld ad I J P ci a)).set k (jv_ren ad v)))) → va_S A s.heap H1 locs1 →
      W p l e R s m args below meth c H1 locs1 cells slots Z (F0 m (pc + 3) ls (st.map (jv_ren ad))) := by
    intro H1 locs1 h1 h2 h3
    rw [hws] at h1 h2
    exact kk A D tc p l e R s m args below meth c H1 locs1 cells slots Z ls ad hF hR ⟨h1, h2, h3, hRO, hoP han hva hokP⟩ ⟨hf2.1, hf2.2.1, j_tl (j_tl hf2.2.2)⟩ hend
  rcases hfin with hfin | ⟨hi1, hi2⟩
  · exact va_put (D := D) (ci := ci) (v := jv_ren ad v) (ty := jty ci k) (C := jC ci) (T := jT ci) (N := fnm ci) hx hb hts (jlay ci hf.1) (jty ci) (jtyok ci hf.1) (jnm ci hf.1) hown hK hP hDD hS a hgt (jcl ci hf.1) k hf.2.1 (hts _ hf.2.2) (fun _ h9 => h9) hfin (jtyok ci hf.1 k hf.2.1) (hn ad) (hfit ad) hlen hd fin
  · by_cases hfb : (jT ci k).2.2.2 = false
    · exact va_put (D := D) (ci := ci) (v := jv_ren ad v) (ty := jty ci k) (C := jC ci) (T := jT ci) (N := fnm ci) hx hb hts (jlay ci hf.1) (jty ci) (jtyok ci hf.1) (jnm ci hf.1) hown hK hP hDD hS a hgt (jcl ci hf.1) k hf.2.1 (hts _ hf.2.2) (fun _ h9 => h9) hfb (jtyok ci hf.1 k hf.2.1) (hn ad) (hfit ad) hlen hd fin
    · have hft : (jT ci k).2.2.2 = true := by cases h : (jT ci k).2.2.2 <;> simp_all
      exact va_putF (D := D) (ci := ci) (v := jv_ren ad v) (ty := jty ci k) (C := jC ci) (T := jT ci) (N := fnm ci) hx hb hts (jlay ci hf.1) (jty ci) (jtyok ci hf.1) (jnm ci hf.1) hown hK hP hDD hS a hgt (jcl ci hf.1) k hf.2.1 (hts _ hf.2.2) (fun _ h9 => h9) hft (hnm hi1) hi2 (jtyok ci hf.1 k hf.2.1) (hn ad) (hfit ad) hlen hd fin
theorem j_putI {pc' idx ci k a : Nat} {v : Int32} (hd : decode M.2.1 pc = .ok (.putfield idx, 3)) (hp : pc + 3 = pc') (hf : PF M.1.cls idx ci k) (hs : shp a = (0, ci)) (ha : a < 1000) (ht : jty ci k = .int) (hfin : (jT ci k).2.2.2 = false) (kk : Rj X d bc bs M Q pc' L st n (u2 I a k v) J P) : Rj X d bc bs M Q pc L (.int v :: .ref a :: st) n I J P := by
  refine j_put0 (v := .int v) hd hp hf hs ha (Or.inl hfin) (fun ad => by rw [ht]; rfl) (fun ad => by rw [ht]; rfl) (fun ad => by simp [jv_fld, ht, jv_ren, u2]) (fun ad j hj => by simp [jv_fld, u2, hj]) (fun b hb => ⟨u2_ne I k v hb, rfl, rfl⟩) (fun _ _ h => h) kk
theorem j_putJ {pc' idx ci k a : Nat} {v : Int64} (hd : decode M.2.1 pc = .ok (.putfield idx, 3)) (hp : pc + 3 = pc') (hf : PF M.1.cls idx ci k) (hs : shp a = (0, ci)) (ha : a < 1000) (ht : jty ci k = .long) (hfin : (jT ci k).2.2.2 = false) (kk : Rj X d bc bs M Q pc' L st n I (u2 J a k v) P) : Rj X d bc bs M Q pc L (.long v :: .ref a :: st) n I J P := by
  refine j_put0 (v := .long v) hd hp hf hs ha (Or.inl hfin) (fun ad => by rw [ht]; rfl) (fun ad => by rw [ht]; rfl) (fun ad => by simp [jv_fld, ht, jv_ren, u2]) (fun ad j hj => by simp [jv_fld, u2, hj]) (fun b hb => ⟨rfl, u2_ne J k v hb, rfl⟩) (fun _ _ h => h) kk
theorem j_putP {pc' idx ci k a b : Nat} (hd : decode M.2.1 pc = .ok (.putfield idx, 3)) (hp : pc + 3 = pc') (hf : PF M.1.cls idx ci k) (hs : shp a = (0, ci)) (ha : a < 1000) (hb : b < 1000) (ht : jrt (jty ci k) = true) (hfin : (jT ci k).2.2.2 = false ∨ (M.1.name = "<init>" ∧ (jT ci k).1 = M.1.cls)) (kk : Rj X d bc bs M Q pc' L st n I J (u2 P a k (some b))) : Rj X d bc bs M Q pc L (.ref b :: .ref a :: st) n I J P := by
  refine j_put0 (v := .ref b) hd hp hf hs ha hfin (fun ad => ?_) (fun ad => ?_) (fun ad => by rw [jv_fld_ref ht]; simp [u2, va_rf, jv_ren]) (fun ad j hj => by simp [jv_fld, u2, hj]) (fun b hb => ⟨rfl, rfl, u2_ne P k _ hb⟩) (fun han hv h => ?_) kk
  · cases h : jty ci k <;> rw [h] at ht <;> first | rfl | cases ht
  · cases h : jty ci k <;> rw [h] at ht <;> first | rfl | cases ht
  · intro a' k' b' h1 h2
    simp only [u2] at h2
    split at h2
    · split at h2
      · cases h2
        exact (hv b rfl).elim id (fun q => by omega)
      · exact h a' k' b' h1 h2
    · exact h a' k' b' h1 h2
/-! arrays -/
theorem j_iaload {pc' a len : Nat} {i : Int32} (hd : decode M.2.1 pc = .ok (.iaload, 1)) (hp : pc + 1 = pc') (hs : shp a = (1, len)) (ha : a < 1000) (hin : vp_in i len) (kk : Rj X d bc bs M Q pc' L (.int (I a i.toNatClampNeg) :: st) n I J P) : Rj X d bc bs M Q pc L (.int i :: .ref a :: st) n I J P := by
  subst hp
  intro A D tc p l e R s m args below meth c H locs cells slots Z ls ad hF hR hD hf2 hend
  have han : a < n := (hf2.2.2 _ (List.mem_cons_of_mem _ List.mem_cons_self) a rfl).elim id (fun q => by omega)
  have hgt := jws_get (tc := tc) (ad := ad) (I := I) (J := J) (P := P) han
  rw [jcell_int hs] at hgt
  exact va_iald hF.1 hF.2.1 hF.2.2.2.2.2.2.1 hD.1 a 0 hgt rfl hin hd (kk A D tc p l e R s m args below meth c H locs cells slots Z ls ad hF hR hD ⟨hf2.1, hf2.2.1, j_ok1 jv_ok.int (j_tl (j_tl hf2.2.2))⟩ hend)
theorem j_baload {pc' a len : Nat} {i : Int32} (hd : decode M.2.1 pc = .ok (.baload, 1)) (hp : pc + 1 = pc') (hs : shp a = (3, len)) (ha : a < 1000) (hin : vp_in i len) (kk : Rj X d bc bs M Q pc' L (.int (I a i.toNatClampNeg) :: st) n I J P) : Rj X d bc bs M Q pc L (.int i :: .ref a :: st) n I J P := by
  subst hp
  intro A D tc p l e R s m args below meth c H locs cells slots Z ls ad hF hR hD hf2 hend
  have han : a < n := (hf2.2.2 _ (List.mem_cons_of_mem _ List.mem_cons_self) a rfl).elim id (fun q => by omega)
  have hgt := jws_get (tc := tc) (ad := ad) (I := I) (J := J) (P := P) han
  rw [jcell_byte hs] at hgt
  exact va_bald hF.1 hF.2.1 hF.2.2.2.2.2.2.1 hD.1 a 2 hgt rfl hin hd (kk A D tc p l e R s m args below meth c H locs cells slots Z ls ad hF hR hD ⟨hf2.1, hf2.2.1, j_ok1 jv_ok.int (j_tl (j_tl hf2.2.2))⟩ hend)
theorem j_zaload {pc' a len : Nat} {i : Int32} (hd : decode M.2.1 pc = .ok (.baload, 1)) (hp : pc + 1 = pc') (hs : shp a = (4, len)) (ha : a < 1000) (hin : vp_in i len) (kk : Rj X d bc bs M Q pc' L (.int (I a i.toNatClampNeg) :: st) n I J P) : Rj X d bc bs M Q pc L (.int i :: .ref a :: st) n I J P := by
  subst hp
  intro A D tc p l e R s m args below meth c H locs cells slots Z ls ad hF hR hD hf2 hend
  have han : a < n := (hf2.2.2 _ (List.mem_cons_of_mem _ List.mem_cons_self) a rfl).elim id (fun q => by omega)
  have hgt := jws_get (tc := tc) (ad := ad) (I := I) (J := J) (P := P) han
  rw [jcell_bool hs] at hgt
  exact va_zald hF.1 hF.2.1 hF.2.2.2.2.2.2.1 hD.1 a 3 hgt rfl hin hd (kk A D tc p l e R s m args below meth c H locs cells slots Z ls ad hF hR hD ⟨hf2.1, hf2.2.1, j_ok1 jv_ok.int (j_tl (j_tl hf2.2.2))⟩ hend)
theorem j_laload {pc' a len : Nat} {i : Int32} (hd : decode M.2.1 pc = .ok (.laload, 1)) (hp : pc + 1 = pc') (hs : shp a = (2, len)) (ha : a < 1000) (hin : vp_in i len) (kk : Rj X d bc bs M Q pc' L (.long (J a i.toNatClampNeg) :: st) n I J P) : Rj X d bc bs M Q pc L (.int i :: .ref a :: st) n I J P := by
  subst hp
  intro A D tc p l e R s m args below meth c H locs cells slots Z ls ad hF hR hD hf2 hend
  have han : a < n := (hf2.2.2 _ (List.mem_cons_of_mem _ List.mem_cons_self) a rfl).elim id (fun q => by omega)
  have hgt := jws_get (tc := tc) (ad := ad) (I := I) (J := J) (P := P) han
  rw [jcell_long hs] at hgt
  exact va_lald hF.1 hF.2.1 hF.2.2.2.2.2.2.1 hD.1 a 1 hgt rfl hin hd (kk A D tc p l e R s m args below meth c H locs cells slots Z ls ad hF hR hD ⟨hf2.1, hf2.2.1, j_ok1 jv_ok.long (j_tl (j_tl hf2.2.2))⟩ hend)
theorem j_aaload {pc' a len : Nat} {i : Int32} {r : Option Nat} (hd : decode M.2.1 pc = .ok (.aaload, 1)) (hp : pc + 1 = pc') (hs : shp a = (5, len)) (ha : a < 1000) (hin : vp_in i len) (hr : P a i.toNatClampNeg = r) (kk : Rj X d bc bs M Q pc' L (va_rf r :: st) n I J P) : Rj X d bc bs M Q pc L (.int i :: .ref a :: st) n I J P := by
  subst hp
  subst hr
  intro A D tc p l e R s m args below meth c H locs cells slots Z ls ad hF hR hD hf2 hend
  have han : a < n := (hf2.2.2 _ (List.mem_cons_of_mem _ List.mem_cons_self) a rfl).elim id (fun q => by omega)
  have hgt := jws_get (tc := tc) (ad := ad) (I := I) (J := J) (P := P) han
  rw [jcell_ref hs] at hgt
  refine va_aldq hF.1 hF.2.1 hF.2.2.2.2.2.2.1 hD.1 a 4 hgt rfl hin hd ?_
  have := kk A D tc p l e R s m args below meth c H locs cells slots Z ls ad hF hR hD ⟨hf2.1, hf2.2.1, j_ok1 (fun b e => ?_) (j_tl (j_tl hf2.2.2))⟩ hend
  · rw [List.map_cons, jv_ren_rf] at this
    exact this
  · cases hq : P a i.toNatClampNeg with
    | none => rw [hq] at e; cases e
    | some b' => rw [hq] at e; cases e; exact Or.inl (hD.2.2.2.2 a _ b han hq)
theorem j_iastore {pc' a len : Nat} {i v : Int32} (hd : decode M.2.1 pc = .ok (.iastore, 1)) (hp : pc + 1 = pc') (hs : shp a = (1, len)) (ha : a < 1000) (hin : vp_in i len) (kk : Rj X d bc bs M Q pc' L st n (u2 I a i.toNatClampNeg v) J P) : Rj X d bc bs M Q pc L (.int v :: .int i :: .ref a :: st) n I J P := by
  subst hp
  intro A D tc p l e R s m args below meth c H locs cells slots Z ls ad hF hR hD hf2 hend
  have han : a < n := (hf2.2.2 _ (List.mem_cons_of_mem _ (List.mem_cons_of_mem _ List.mem_cons_self)) a rfl).elim id (fun q => by omega)
  have hgt := jws_get (tc := tc) (ad := ad) (I := I) (J := J) (P := P) han
  rw [jcell_int hs] at hgt
  refine va_iast hF.1 hF.2.1 hF.2.2.2.2.2.2.1 hD.1 hD.2.1 hD.2.2.1 a 0 hgt rfl (x := v) hin hd (fun H1 locs1 h1 h2 h3 => ?_)
  have hws : (jv_ws tc ad n I J P).set a (ad a, .inl (tc 0, len, .inl (upd (I a) i.toNatClampNeg v))) = jv_ws tc ad n (u2 I a i.toNatClampNeg v) J P :=
    jws_set han (by rw [jcell_int hs, u2_row]; rfl) (fun b _ hb => jcell_congr (u2_ne I _ v hb) rfl (fun _ => rfl))
  rw [hws] at h1 h2
  exact kk A D tc p l e R s m args below meth c H1 locs1 cells slots Z ls ad hF hR ⟨h1, h2, h3, hD.2.2.2.1, hD.2.2.2.2⟩ ⟨hf2.1, hf2.2.1, j_tl (j_tl (j_tl hf2.2.2))⟩ hend
theorem j_bastore {pc' a len : Nat} {i v : Int32} (hd : decode M.2.1 pc = .ok (.bastore, 1)) (hp : pc + 1 = pc') (hs : shp a = (3, len)) (ha : a < 1000) (hin : vp_in i len) (kk : Rj X d bc bs M Q pc' L st n (u2 I a i.toNatClampNeg (vp_nar .byte v)) J P) : Rj X d bc bs M Q pc L (.int v :: .int i :: .ref a :: st) n I J P := by
  subst hp
  intro A D tc p l e R s m args below meth c H locs cells slots Z ls ad hF hR hD hf2 hend
  have han : a < n := (hf2.2.2 _ (List.mem_cons_of_mem _ (List.mem_cons_of_mem _ List.mem_cons_self)) a rfl).elim id (fun q => by omega)
  have hgt := jws_get (tc := tc) (ad := ad) (I := I) (J := J) (P := P) han
  rw [jcell_byte hs] at hgt
  refine va_bast hF.1 hF.2.1 hF.2.2.2.2.2.2.1 hD.1 hD.2.1 hD.2.2.1 a 2 hgt rfl (x := v) hin hd (fun H1 locs1 h1 h2 h3 => ?_)
  have hws : (jv_ws tc ad n I J P).set a (ad a, .inl (tc 2, len, .inl (upd (I a) i.toNatClampNeg (vp_nar .byte v)))) = jv_ws tc ad n (u2 I a i.toNatClampNeg (vp_nar .byte v)) J P :=
    jws_set han (by rw [jcell_byte hs, u2_row]; rfl) (fun b _ hb => jcell_congr (u2_ne I _ _ hb) rfl (fun _ => rfl))
  rw [hws] at h1 h2
  exact kk A D tc p l e R s m args below meth c H1 locs1 cells slots Z ls ad hF hR ⟨h1, h2, h3, hD.2.2.2.1, hD.2.2.2.2⟩ ⟨hf2.1, hf2.2.1, j_tl (j_tl (j_tl hf2.2.2))⟩ hend
theorem j_zastore {pc' a len : Nat} {i v : Int32} (hd : decode M.2.1 pc = .ok (.bastore, 1)) (hp : pc + 1 = pc') (hs : shp a = (4, len)) (ha : a < 1000) (hin : vp_in i len) (kk : Rj X d bc bs M Q pc' L st n (u2 I a i.toNatClampNeg (vp_nar .boolean v)) J P) : Rj X d bc bs M Q pc L (.int v :: .int i :: .ref a :: st) n I J P := by
  subst hp
  intro A D tc p l e R s m args below meth c H locs cells slots Z ls ad hF hR hD hf2 hend
  have han : a < n := (hf2.2.2 _ (List.mem_cons_of_mem _ (List.mem_cons_of_mem _ List.mem_cons_self)) a rfl).elim id (fun q => by omega)
  have hgt := jws_get (tc := tc) (ad := ad) (I := I) (J := J) (P := P) han
  rw [jcell_bool hs] at hgt
  refine va_zast hF.1 hF.2.1 hF.2.2.2.2.2.2.1 hD.1 hD.2.1 hD.2.2.1 a 3 hgt rfl (x := v) hin hd (fun H1 locs1 h1 h2 h3 => ?_)
  have hws : (jv_ws tc ad n I J P).set a (ad a, .inl (tc 3, len, .inl (upd (I a) i.toNatClampNeg (vp_nar .boolean v)))) = jv_ws tc ad n (u2 I a i.toNatClampNeg (vp_nar .boolean v)) J P :=
    jws_set han (by rw [jcell_bool hs, u2_row]; rfl) (fun b _ hb => jcell_congr (u2_ne I _ _ hb) rfl (fun _ => rfl))
  rw [hws] at h1 h2
  exact kk A D tc p l e R s m args below meth c H1 locs1 cells slots Z ls ad hF hR ⟨h1, h2, h3, hD.2.2.2.1, hD.2.2.2.2⟩ ⟨hf2.1, hf2.2.1, j_tl (j_tl (j_tl hf2.2.2))⟩ hend
theorem j_lastore {pc' a len : Nat} {i : Int32} {v : Int64} (hd : decode M.2.1 pc = .ok (.lastore, 1)) (hp : pc + 1 = pc') (hs : shp a = (2, len)) (ha : a < 1000) (hin : vp_in i len) (kk : Rj X d bc bs M Q pc' L st n I (u2 J a i.toNatClampNeg v) P) : Rj X d bc bs M Q pc L (.long v :: .int i :: .ref a :: st) n I J P := by
  subst hp
  intro A D tc p l e R s m args below meth c H locs cells slots Z ls ad hF hR hD hf2 hend
  have han : a < n := (hf2.2.2 _ (List.mem_cons_of_mem _ (List.mem_cons_of_mem _ List.mem_cons_self)) a rfl).elim id (fun q => by omega)
  have hgt := jws_get (tc := tc) (ad := ad) (I := I) (J := J) (P := P) han
  rw [jcell_long hs] at hgt
  refine va_last hF.1 hF.2.1 hF.2.2.2.2.2.2.1 hD.1 hD.2.1 hD.2.2.1 a 1 hgt rfl (x := v) hin hd (fun H1 locs1 h1 h2 h3 => ?_)
  have hws : (jv_ws tc ad n I J P).set a (ad a, .inl (tc 1, len, .inr (.inl (vp_updL (J a) i.toNatClampNeg v)))) = jv_ws tc ad n I (u2 J a i.toNatClampNeg v) P :=
    jws_set han (by rw [jcell_long hs, u2_row]; rfl) (fun b _ hb => jcell_congr rfl (u2_ne J _ _ hb) (fun _ => rfl))
  rw [hws] at h1 h2
  exact kk A D tc p l e R s m args below meth c H1 locs1 cells slots Z ls ad hF hR ⟨h1, h2, h3, hD.2.2.2.1, hD.2.2.2.2⟩ ⟨hf2.1, hf2.2.1, j_tl (j_tl (j_tl hf2.2.2))⟩ hend
theorem j_aastore {pc' a len b : Nat} {i : Int32} (hd : decode M.2.1 pc = .ok (.aastore, 1)) (hp : pc + 1 = pc') (hs : shp a = (5, len)) (ha : a < 1000) (hb : shp b = (0, 6)) (hb2 : b < 1000) (hin : vp_in i len) (kk : Rj X d bc bs M Q pc' L st n I J (u2 P a i.toNatClampNeg (some b))) : Rj X d bc bs M Q pc L (.ref b :: .int i :: .ref a :: st) n I J P := by
  subst hp
  intro A D tc p l e R s m args below meth c H locs cells slots Z ls ad hF hR hD hf2 hend
  have han : a < n := (hf2.2.2 _ (List.mem_cons_of_mem _ (List.mem_cons_of_mem _ List.mem_cons_self)) a rfl).elim id (fun q => by omega)
  have hbn : b < n := (hf2.2.2 _ List.mem_cons_self b rfl).elim id (fun q => by omega)
  have hgt := jws_get (tc := tc) (ad := ad) (I := I) (J := J) (P := P) han
  rw [jcell_ref hs] at hgt
  have hgb := jws_get (tc := tc) (ad := ad) (I := I) (J := J) (P := P) hbn
  rw [jcell_obj hb] at hgb
  refine va_astq hF.1 hF.2.1 hF.2.2.2.2.2.2.1 hD.1 hD.2.1 hD.2.2.1 a 4 b 6 (r := (jC 6, jT 6, fnm 6)) hgt rfl hgb rfl hin hd (fun H1 locs1 h1 h2 h3 => ?_)
  have hws : (jv_ws tc ad n I J P).set a (ad a, .inl (tc 4, len, .inr (.inr (.inr (.inr (va_up (fun k => (P a k).map ad) i.toNatClampNeg (some (ad b)))))))) = jv_ws tc ad n I J (u2 P a i.toNatClampNeg (some b)) := by
    refine jws_set han ?_ (fun b _ hb => jcell_congr rfl rfl (fun _ => by rw [u2_ne P _ _ hb]))
    rw [jcell_ref hs]
    have : (fun k => (u2 P a i.toNatClampNeg (some b) a k).map ad) = va_up (fun k => (P a k).map ad) i.toNatClampNeg (some (ad b)) := by
      funext k
      simp only [u2, va_up, if_true]
      split <;> rfl
    rw [this]
  rw [hws] at h1 h2
  refine kk A D tc p l e R s m args below meth c H1 locs1 cells slots Z ls ad hF hR ⟨h1, h2, h3, hD.2.2.2.1, fun a' k' b' q1 q2 => ?_⟩ ⟨hf2.1, hf2.2.1, j_tl (j_tl (j_tl hf2.2.2))⟩ hend
  simp only [u2] at q2
  split at q2
  · split at q2
    · cases q2; exact hbn
    · exact hD.2.2.2.2 a' k' b' q1 q2
  · exact hD.2.2.2.2 a' k' b' q1 q2
/-! the script -/
theorem j_sload {pc' : Nat} {i : Int32} (hd : decode M.2.1 pc = .ok (.iaload, 1)) (hp : pc + 1 = pc') (hin : vp_in i X.1) (kk : Rj X d bc bs M Q pc' L (.int (X.2 i.toNatClampNeg) :: st) n I J P) : Rj X d bc bs M Q pc L (.int i :: .ref 1200 :: st) n I J P := by
  subst hp
  intro A D tc p l e R s m args below meth c H locs cells slots Z ls ad hF hR hD hf2 hend
  obtain ⟨h1, h2, h3⟩ := hD.2.2.2.1.2.2.2.2.1
  exact va_sld hF.1 hF.2.1 h1 h2 h3 hD.2.2.1 hin hd (kk A D tc p l e R s m args below meth c H locs cells slots Z ls ad hF hR hD ⟨hf2.1, hf2.2.1, j_ok1 jv_ok.int (j_tl (j_tl hf2.2.2))⟩ hend)
theorem j_slen {pc' : Nat} (hd : decode M.2.1 pc = .ok (.arraylength, 1)) (hp : pc + 1 = pc') (kk : Rj X d bc bs M Q pc' L (.int (nI X.1) :: st) n I J P) : Rj X d bc bs M Q pc L (.ref 1200 :: st) n I J P := by
  subst hp
  intro A D tc p l e R s m args below meth c H locs cells slots Z ls ad hF hR hD hf2 hend
  obtain ⟨h1, h2, h3⟩ := hD.2.2.2.1.2.2.2.2.1
  exact va_slen hF.1 hF.2.1 h1 h2 h3 hD.2.2.1 hd (kk A D tc p l e R s m args below meth c H locs cells slots Z ls ad hF hR hD ⟨hf2.1, hf2.2.1, j_ok1 jv_ok.int (j_tl hf2.2.2)⟩ hend)
/-! constants of the pool -/
theorem j_ldc {pc' idx : Nat} {v : Int32} (hd : decode M.2.1 pc = .ok (.ldc idx, 2)) (hp : pc + 2 = pc') (hc : Cond.constant M.1.cls idx v ∈ jv_tbl) (kk : Rj X d bc bs M Q pc' L (.int v :: st) n I J P) : Rj X d bc bs M Q pc L st n I J P := by
  subst hp
  intro A D tc p l e R s m args below meth c H locs cells slots Z ls ad hF hR hD hf2 hend
  exact lv_ldc hF.1 hF.2.1 hF.2.2.2.2.1 (hF.2.2.2.2.2.1 _ hc) hd (kk A D tc p l e R s m args below meth c H locs cells slots Z ls ad hF hR hD ⟨hf2.1, hf2.2.1, j_ok1 jv_ok.int hf2.2.2⟩ hend)
theorem j_ldcw {pc' idx : Nat} {v : Int32} (hd : decode M.2.1 pc = .ok (.ldc_w idx, 3)) (hp : pc + 3 = pc') (hc : Cond.constant M.1.cls idx v ∈ jv_tbl) (kk : Rj X d bc bs M Q pc' L (.int v :: st) n I J P) : Rj X d bc bs M Q pc L st n I J P := by
  subst hp
  intro A D tc p l e R s m args below meth c H locs cells slots Z ls ad hF hR hD hf2 hend
  exact lv_ldcw hF.1 hF.2.1 hF.2.2.2.2.1 (hF.2.2.2.2.2.1 _ hc) hd (kk A D tc p l e R s m args below meth c H locs cells slots Z ls ad hF hR hD ⟨hf2.1, hf2.2.1, j_ok1 jv_ok.int hf2.2.2⟩ hend)
theorem j_ldc2 {pc' idx : Nat} {v : Int64} (hd : decode M.2.1 pc = .ok (.ldc2_w idx, 3)) (hp : pc + 3 = pc') (hc : Cond.constantLong M.1.cls idx v ∈ jv_tbl) (kk : Rj X d bc bs M Q pc' L (.long v :: st) n I J P) : Rj X d bc bs M Q pc L st n I J P := by
  subst hp
  intro A D tc p l e R s m args below meth c H locs cells slots Z ls ad hF hR hD hf2 hend
  exact lv_ldc2 hF.1 hF.2.1 hF.2.2.2.2.1 (hF.2.2.2.2.2.1 _ hc) hd (kk A D tc p l e R s m args below meth c H locs cells slots Z ls ad hF hR hD ⟨hf2.1, hf2.2.1, j_ok1 jv_ok.long hf2.2.2⟩ hend)
theorem j_ldcS {pc' idx i : Nat} {tx : String} (hd : decode M.2.1 pc = .ok (.ldc idx, 2)) (hp : pc + 2 = pc') (ho : M.1.cls = RX6) (hc : jv_strs[i]? = some (idx, tx)) (kk : Rj X d bc bs M Q pc' L (.ref (1000 + i) :: st) n I J P) : Rj X d bc bs M Q pc L st n I J P := by
  subst hp
  intro A D tc p l e R s m args below meth c H locs cells slots Z ls ad hF hR hD hf2 hend
  refine va_ldcS hF.1 hF.2.1 (by rw [← ho]; exact hF.2.2.2.2.1) (hD.2.2.2.1.2.1 i _ hc) hd (kk A D tc p l e R s m args below meth c H locs cells slots Z ls ad hF hR hD ⟨hf2.1, hf2.2.1, j_ok1 (fun b e => ?_) hf2.2.2⟩ hend)
  cases e
  exact Or.inr (by omega)
/-! switches -/
theorem j_tabOut {tgt len : Nat} {dflt lo hi : Int} {offs : Array Int} {x : Int32} (hd : decode M.2.1 pc = .ok (.tableswitch dflt lo hi offs, len)) (h : x.toInt < lo ∨ hi < x.toInt) (ht : (pc : Int) + dflt = (tgt : Int)) (k : Rj X d bc bs M Q tgt L st n I J P) : Rj X d bc bs M Q pc L (.int x :: st) n I J P :=
  j_go k (fun _ hs => j_tl hs) (fun p l e R s m args below meth c H locs cells slots Z ls ad hx hb hl kk => lv_tableOut hx hb hd h ht kk)
theorem j_tabIn {tgt len : Nat} {dflt lo hi off : Int} {offs : Array Int} {x : Int32} (hd : decode M.2.1 pc = .ok (.tableswitch dflt lo hi offs, len)) (h1 : ¬ x.toInt < lo) (h2 : ¬ hi < x.toInt) (ho : offs[(x.toInt - lo).toNat]? = some off) (ht : (pc : Int) + off = (tgt : Int)) (k : Rj X d bc bs M Q tgt L st n I J P) : Rj X d bc bs M Q pc L (.int x :: st) n I J P :=
  j_go k (fun _ hs => j_tl hs) (fun p l e R s m args below meth c H locs cells slots Z ls ad hx hb hl kk => lv_tableIn hx hb hd h1 h2 ho ht kk)
/-! the end of a method -/
theorem j_iret {v : Int32} {ty : FieldType} (hd : decode M.2.1 pc = .ok (.ireturn, 1)) (hr : M.2.2.2 = some ty) (hn : narrow ty (.int v) = .int v) (hq : Q (some (.int v)) n I J P) : Rj X d bc bs M Q pc L [.int v] n I J P := by
  intro A D tc p l e R s m args below meth c H locs cells slots Z ls ad hF hR hD hf2 hend
  exact hend _ n I J P H locs cells slots ls ad pc _ hq jv_ext.rf ⟨Nat.le_trans (Nat.le_add_right _ _) hR.2.2.1, Nat.le_trans (Nat.le_add_right _ _) hR.2.2.2⟩ hD (Or.inr (Or.inl ⟨v, ty, rfl, rfl, hd, hr, hn⟩))
theorem j_lret {v : Int64} (hd : decode M.2.1 pc = .ok (.lreturn, 1)) (hr : M.2.2.2 = some .long) (hq : Q (some (.long v)) n I J P) : Rj X d bc bs M Q pc L [.long v] n I J P := by
  intro A D tc p l e R s m args below meth c H locs cells slots Z ls ad hF hR hD hf2 hend
  exact hend _ n I J P H locs cells slots ls ad pc _ hq jv_ext.rf ⟨Nat.le_trans (Nat.le_add_right _ _) hR.2.2.1, Nat.le_trans (Nat.le_add_right _ _) hR.2.2.2⟩ hD (Or.inr (Or.inr ⟨v, rfl, rfl, hd, hr⟩))
theorem j_vret (hd : decode M.2.1 pc = .ok (.return_, 1)) (hr : M.2.2.2 = none) (hq : Q none n I J P) : Rj X d bc bs M Q pc L [] n I J P := by
  intro A D tc p l e R s m args below meth c H locs cells slots Z ls ad hF hR hD hf2 hend
  exact hend _ n I J P H locs cells slots ls ad pc _ hq jv_ext.rf ⟨Nat.le_trans (Nat.le_add_right _ _) hR.2.2.1, Nat.le_trans (Nat.le_add_right _ _) hR.2.2.2⟩ hD (Or.inl ⟨rfl, rfl, hd, hr⟩)
/-! what may be changed about a goal -/
theorem j_post {Q' : jPost} (hQ : ∀ r n' I' J' P', Q' r n' I' J' P' → Q r n' I' J' P') (k : Rj X d bc bs M Q' pc L st n I J P) : Rj X d bc bs M Q pc L st n I J P := by
  intro A D tc p l e R s m args below meth c H locs cells slots Z ls ad hF hR hD hf2 hend
  exact k A D tc p l e R s m args below meth c H locs cells slots Z ls ad hF hR hD hf2 (fun r n' I' J' P' H' locs' cells' slots' ls' ad' pc' st' hq => hend r n' I' J' P' H' locs' cells' slots' ls' ad' pc' st' (hQ _ _ _ _ _ hq))
/-- the heap's functions may be changed where there is no cell -/
theorem j_heap {I' : HI} {J' : HJ} {P' : HP} (hI : ∀ a, a < n → I' a = I a) (hJ : ∀ a, a < n → J' a = J a) (hP : ∀ a, a < n → P' a = P a) (k : Rj X d bc bs M Q pc L st n I' J' P') : Rj X d bc bs M Q pc L st n I J P := by
  intro A D tc p l e R s m args below meth c H locs cells slots Z ls ad hF hR hD hf2 hend
  have hw : jv_ws tc ad n I' J' P' = jv_ws tc ad n I J P := jws_congr (fun _ _ => rfl) (fun b hb => jcell_congr (hI b hb) (hJ b hb) (fun k => by rw [hP b hb]))
  refine k A D tc p l e R s m args below meth c H locs cells slots Z ls ad hF hR ⟨by rw [hw]; exact hD.1, by rw [hw]; exact hD.2.1, hD.2.2.1, hD.2.2.2.1, fun a k b h1 h2 => hD.2.2.2.2 a k b h1 (by rw [← hP a h1]; exact h2)⟩ hf2 hend
end JH
end
section
/-! new cells -/
theorem jtyk : ∀ ci, ci < 9 → ∀ k, k < fnm ci → (jty ci k = .int ∨ jty ci k = .long ∨ jrt (jty ci k) = true) := by decide +kernel
section JN
variable {X : jX} {d bc bs : Nat} {M : MD} {Q : jPost} {pc : Nat} {L st : List Value} {n : Nat} {I : HI} {J : HJ} {P : HP}
theorem jv_grow {A : Nat → Prop} {D : va_G} {tc : Nat → ClassId} {s : State} {H H1 : Heap} {locs locs1 : List Loc} {ad : Nat → Nat} {q : Nat} {x : va_E} (hn : n < 1000) (hD : jv_Dyn X A D tc s H locs ad n I J P) (hP1 : va_P D vwCl (jv_ws tc ad n I J P ++ [(q, x)]) H1) (hD1 : va_D A (jv_ws tc ad n I J P ++ [(q, x)])) (hS1 : va_S A s.heap H1 locs1)
    (hx : jv_cell tc (fun a => if a = n then q else ad a) (ur I n (fun _ => 0)) (ur J n (fun _ => 0)) (ur P n (fun _ => none)) n = x) :
    jv_Dyn X A D tc s H1 locs1 (fun a => if a = n then q else ad a) (n + 1) (ur I n (fun _ => 0)) (ur J n (fun _ => 0)) (ur P n (fun _ => none)) ∧ jv_ext n ad (n + 1) (fun a => if a = n then q else ad a) := by
  have hext : jv_ext n ad (n + 1) (fun a => if a = n then q else ad a) := ⟨Nat.le_succ n, fun a ha => if_neg (by omega)⟩
  have hws : jv_ws tc ad n I J P ++ [(q, x)] = jv_ws tc (fun a => if a = n then q else ad a) (n + 1) (ur I n (fun _ => 0)) (ur J n (fun _ => 0)) (ur P n (fun _ => none)) := by
    refine jws_push (fun b hb => if_neg (by omega)) (fun b hb => ?_) (if_pos rfl) hx
    refine jcell_congr (ur_ne I _ (by omega)) (ur_ne J _ (by omega)) (fun k => ?_)
    rw [ur_ne P _ (show b ≠ n by omega)]
    cases hq : P b k with
    | none => rfl
    | some c =>
      have hc := hD.2.2.2.2 b k c hb hq
      show some (if c = n then q else ad c) = some (ad c)
      rw [if_neg (by omega)]
  rw [hws] at hP1 hD1
  refine ⟨⟨hP1, hD1, hS1, hD.2.2.2.1.congr (fun a ha => if_neg (by omega)), fun a k b h1 h2 => ?_⟩, hext⟩
  by_cases han : a = n
  · subst han; rw [ur_row] at h2; cases h2
  · rw [ur_ne P _ han] at h2
    have := hD.2.2.2.2 a k b (by omega) h2
    omega
theorem jv_Frm.grow {ad ad' : Nat → Nat} {n' : Nat} {ls : Array Slot} {st' : List Value} (h : jv_Frm M ad n ls L st) (he : jv_ext n ad n' ad') (hst : ∀ v ∈ st', jv_ok n' v) : jv_Frm M ad' n' ls L st' :=
  ⟨by rw [jv_rens_ext he h.2.1]; exact h.1, fun v hv => (h.2.1 v hv).mono he.1, hst⟩
theorem jv_End.grow {A : Nat → Prop} {D : va_G} {tc : Nat → ClassId} {p : Program} {l : Launch} {e : Env} {R : Room} {s : State} {m : MethodId} {args : Array Value} {below : List Frame} {meth : Method} {c : Code} {Z : State → Prop} {ad ad' : Nat → Nat} {n' : Nat} (h : jv_End X M Q A D tc p l e R s m args below meth c Z ad n) (he : jv_ext n ad n' ad') : jv_End X M Q A D tc p l e R s m args below meth c Z ad' n' :=
  fun r n2 I' J' P' H' locs' cells' slots' ls' ad2 pc' st' hq h2 => h r n2 I' J' P' H' locs' cells' slots' ls' ad2 pc' st' hq (he.trans h2)
theorem j_new {pc' idx ci bc' bs' : Nat} (hd : decode M.2.1 pc = .ok (.new idx, 3)) (hp : pc + 3 = pc') (hci : ci < jNc) (hs : shp n = (0, ci)) (hn : n < 1000) (hcl : Cond.classLink M.1.cls idx (jC ci) ∈ jv_tbl) (hins : Cond.instantiable (jC ci) (fnm ci) ∈ jv_tbl) (hini : Cond.initialized (jC ci) ∈ jv_tbl) (hbc : bc + 1 = bc') (hbs : bs + fnm ci = bs')
    (kk : Rj X d bc bs M Q pc' L (.ref n :: st) (n + 1) (ur I n (fun _ => 0)) (ur J n (fun _ => 0)) (ur P n (fun _ => none))) : Rj X d bc' bs' M Q pc L st n I J P := by
  subst hp; subst hbc; subst hbs
  intro A D tc p l e R s m args below meth c H locs cells slots Z ls ad hF hR hD hf2 hend
  obtain ⟨hx, hb, hml, hr, hown, hts, hK, hA, -⟩ := id hF
  obtain ⟨hR1, hR2, hR3, hR4⟩ := hR
  refine va_new (ci := ci) (C := jC ci) (T := jT ci) (N := fnm ci) (fs := (List.range (fnm ci)).map (jv_fld ad (ur I n (fun _ => 0)) (ur J n (fun _ => 0)) (ur P n (fun _ => none)) ci n)) hx hb hts (jlay ci hci) (jty ci) (jtyok ci hci) hown (hts _ hcl) (hts _ hins) (hts _ hini) hK hD.1 hD.2.1 hD.2.2.1 hA (jcl ci hci) (fun j hj => ?_) (by omega) (by omega) hd (fun q H1 h1 h2 h3 => ?_)
  · rw [vp_V, List.getD_eq_getElem?_getD, List.getElem?_map, List.getElem?_range hj]
    simp only [Option.map_some, Option.getD_some, jv_fld, ur_row]
    rcases jtyk ci hci j hj with h | h | h
    · rw [h]; rfl
    · rw [h]; rfl
    · cases h9 : jty ci j <;> rw [h9] at h <;> first | rfl | cases h
  · obtain ⟨g1, g2⟩ := jv_grow hn hD h1 h2 h3 (by
      rw [jcell_obj hs]
      congr 2
      apply List.map_congr_left
      intro k _
      simp only [jv_fld, ur_row]
      split <;> rfl)
    have := kk A D tc p l e R s m args below meth c H1 locs (cells + 1) (slots + fnm ci) Z ls _ hF ⟨hR1, hR2, by omega, by omega⟩ g1 (hf2.grow g2 (j_ok1 (fun b e => by cases e; exact Or.inl (Nat.lt_succ_self n)) (fun v hv => (hf2.2.2 v hv).mono g2.1))) (hend.grow g2)
    rw [List.map_cons, jv_rens_ext g2 hf2.2.2] at this
    simpa only [jv_ren, if_true] using this
theorem j_newa0 {A : Nat → Prop} {D : va_G} {tc : Nat → ClassId} {s : State} {H H1 : Heap} {locs locs1 : List Loc} {ad : Nat → Nat} {q t0 : Nat} {ty : FieldType} {cA : ClassId} (hK : va_K D vwCl (jv_tys tc ++ [(cA, ty)]) s) (ht : (jv_tys tc)[t0]? = some (tc t0, ty)) : cA = tc t0 := by
  have h1 := (hK.2 5 (cA, ty) (by rfl)).2
  have h2 := (hK.2 t0 (tc t0, ty) (by rw [List.getElem?_append_left (List.getElem?_eq_some_iff.mp ht).1]; exact ht)).2
  cases ty with
  | object C =>
    obtain ⟨_, _, _, _, _, a⟩ := h1
    obtain ⟨_, _, _, _, _, b⟩ := h2
    exact Option.some.inj (a.symm.trans b)
  | _ => exact Option.some.inj (Eq.trans (Eq.symm h1) h2)
theorem j_newarr {pc' len t0 kd bc' bs' : Nat} {v : Int32} {at0 : ArrayType} {ty : FieldType} {a0 : vp_A} (hd : decode M.2.1 pc = .ok (.newarray at0, 2)) (hp : pc + 2 = pc') (hs : shp n = (kd, len)) (hn : n < 1000) (hty : newarray.typeOf at0 = ty) (ht : ∀ tc : Nat → ClassId, (jv_tys tc)[t0]? = some (tc t0, ty)) (hcl : Cond.arrayClass ty ∈ jv_tbl) (ha : ∀ cA : ClassId, vp_cell cA a0 = arrV cA len (fun _ => defaultValue ty))
    (hcell : ∀ (tc : Nat → ClassId) (ad : Nat → Nat), jv_cell tc ad (ur I n (fun _ => 0)) (ur J n (fun _ => 0)) (ur P n (fun _ => none)) n = .inl (tc t0, a0)) (hv : ¬ v < 0) (hlen : v.toNatClampNeg = len) (hby : len * componentBytes ty ≤ 536870912) (hbc : bc + 1 = bc') (hbs : bs + len = bs')
    (kk : Rj X d bc bs M Q pc' L (.ref n :: st) (n + 1) (ur I n (fun _ => 0)) (ur J n (fun _ => 0)) (ur P n (fun _ => none))) : Rj X d bc' bs' M Q pc L (.int v :: st) n I J P := by
  subst hp; subst hbc; subst hbs
  intro A D tc p l e R s m args below meth c H locs cells slots Z ls ad hF hR hD hf2 hend
  obtain ⟨hx, hb, hml, hr, hown, hts, hK, hA, -⟩ := id hF
  obtain ⟨hR1, hR2, hR3, hR4⟩ := hR
  show W p l e R s m args below meth c H locs cells slots Z (F0 m pc ls (.int v :: st.map (jv_ren ad)))
  refine va_newa (atype := at0) (ty := ty) (a0 := a0) (N' := len) hx hb (by rw [hty]; exact hts _ hcl) hty hK hD.1 hD.2.1 hD.2.2.1 hA ha hv hlen hby (by omega) (by omega) hd (fun q cA H1 h0 h1 h2 h3 => ?_)
  have hcA : cA = tc t0 := j_newa0 (A := A) (H := H) (H1 := H1) (locs := locs) (locs1 := locs) (ad := ad) (q := q) h0 (ht tc)
  subst hcA
  obtain ⟨g1, g2⟩ := jv_grow hn hD h1 h2 h3 (hcell tc _)
  have := kk A D tc p l e R s m args below meth c H1 locs (cells + 1) (slots + len) Z ls _ hF ⟨hR1, hR2, by omega, by omega⟩ g1 (hf2.grow g2 (j_ok1 (fun b e => by cases e; exact Or.inl (Nat.lt_succ_self n)) (fun v hv => (hf2.2.2 v (List.mem_cons_of_mem _ hv)).mono g2.1))) (hend.grow g2)
  rw [List.map_cons, jv_rens_ext g2 (j_tl hf2.2.2)] at this
  simpa only [jv_ren, if_true] using this
theorem j_newI {pc' len bc' bs' : Nat} {v : Int32} (hd : decode M.2.1 pc = .ok (.newarray .int, 2)) (hp : pc + 2 = pc') (hs : shp n = (1, len)) (hn : n < 1000) (hcl : Cond.arrayClass .int ∈ jv_tbl) (hv : ¬ v < 0) (hlen : v.toNatClampNeg = len) (hby : len * componentBytes .int ≤ 536870912) (hbc : bc + 1 = bc') (hbs : bs + len = bs')
    (kk : Rj X d bc bs M Q pc' L (.ref n :: st) (n + 1) (ur I n (fun _ => 0)) (ur J n (fun _ => 0)) (ur P n (fun _ => none))) : Rj X d bc' bs' M Q pc L (.int v :: st) n I J P :=
  j_newarr (t0 := 0) (a0 := (len, .inl (fun _ => 0))) hd hp hs hn rfl (fun _ => rfl) hcl (fun _ => rfl) (fun tc ad => by rw [jcell_int hs, ur_row]) hv hlen hby hbc hbs kk
theorem j_newL {pc' len bc' bs' : Nat} {v : Int32} (hd : decode M.2.1 pc = .ok (.newarray .long, 2)) (hp : pc + 2 = pc') (hs : shp n = (2, len)) (hn : n < 1000) (hcl : Cond.arrayClass .long ∈ jv_tbl) (hv : ¬ v < 0) (hlen : v.toNatClampNeg = len) (hby : len * componentBytes .long ≤ 536870912) (hbc : bc + 1 = bc') (hbs : bs + len = bs')
    (kk : Rj X d bc bs M Q pc' L (.ref n :: st) (n + 1) (ur I n (fun _ => 0)) (ur J n (fun _ => 0)) (ur P n (fun _ => none))) : Rj X d bc' bs' M Q pc L (.int v :: st) n I J P :=
  j_newarr (t0 := 1) (a0 := (len, .inr (.inl (fun _ => 0)))) hd hp hs hn rfl (fun _ => rfl) hcl (fun _ => rfl) (fun tc ad => by rw [jcell_long hs, ur_row]) hv hlen hby hbc hbs kk
theorem j_newB {pc' len bc' bs' : Nat} {v : Int32} (hd : decode M.2.1 pc = .ok (.newarray .byte, 2)) (hp : pc + 2 = pc') (hs : shp n = (3, len)) (hn : n < 1000) (hcl : Cond.arrayClass .byte ∈ jv_tbl) (hv : ¬ v < 0) (hlen : v.toNatClampNeg = len) (hby : len * componentBytes .byte ≤ 536870912) (hbc : bc + 1 = bc') (hbs : bs + len = bs')
    (kk : Rj X d bc bs M Q pc' L (.ref n :: st) (n + 1) (ur I n (fun _ => 0)) (ur J n (fun _ => 0)) (ur P n (fun _ => none))) : Rj X d bc' bs' M Q pc L (.int v :: st) n I J P :=
  j_newarr (t0 := 2) (a0 := (len, .inl (fun _ => 0))) hd hp hs hn rfl (fun _ => rfl) hcl (fun _ => rfl) (fun tc ad => by rw [jcell_byte hs, ur_row]) hv hlen hby hbc hbs kk
theorem j_newZ {pc' len bc' bs' : Nat} {v : Int32} (hd : decode M.2.1 pc = .ok (.newarray .boolean, 2)) (hp : pc + 2 = pc') (hs : shp n = (4, len)) (hn : n < 1000) (hcl : Cond.arrayClass .boolean ∈ jv_tbl) (hv : ¬ v < 0) (hlen : v.toNatClampNeg = len) (hby : len * componentBytes .boolean ≤ 536870912) (hbc : bc + 1 = bc') (hbs : bs + len = bs')
    (kk : Rj X d bc bs M Q pc' L (.ref n :: st) (n + 1) (ur I n (fun _ => 0)) (ur J n (fun _ => 0)) (ur P n (fun _ => none))) : Rj X d bc' bs' M Q pc L (.int v :: st) n I J P :=
  j_newarr (t0 := 3) (a0 := (len, .inl (fun _ => 0))) hd hp hs hn rfl (fun _ => rfl) hcl (fun _ => rfl) (fun tc ad => by rw [jcell_bool hs, ur_row]) hv hlen hby hbc hbs kk
theorem j_newP {pc' idx len bc' bs' : Nat} {v : Int32} (hd : decode M.2.1 pc = .ok (.anewarray idx, 3)) (hp : pc + 3 = pc') (hs : shp n = (5, len)) (hn : n < 1000) (hcl : Cond.classLink M.1.cls idx RX8 ∈ jv_tbl) (hv : ¬ v < 0) (hlen : v.toNatClampNeg = len) (hby : len * 4 ≤ 536870912) (hbc : bc + 1 = bc') (hbs : bs + len = bs')
    (kk : Rj X d bc bs M Q pc' L (.ref n :: st) (n + 1) (ur I n (fun _ => 0)) (ur J n (fun _ => 0)) (ur P n (fun _ => none))) : Rj X d bc' bs' M Q pc L (.int v :: st) n I J P := by
  subst hp; subst hbc; subst hbs
  intro A D tc p l e R s m args below meth c H locs cells slots Z ls ad hF hR hD hf2 hend
  obtain ⟨hx, hb, hml, hr, hown, hts, hK, hA, -⟩ := id hF
  obtain ⟨hR1, hR2, hR3, hR4⟩ := hR
  show W p l e R s m args below meth c H locs cells slots Z (F0 m pc ls (.int v :: st.map (jv_ren ad)))
  refine va_newq (C := RX8) (N' := len) hx hb hown (hts _ hcl) hD.2.2.2.1.2.2.2.2.2.2 hK hD.1 hD.2.1 hD.2.2.1 hA hv hlen hby (by omega) (by omega) hd (fun q cA H1 h0 h1 h2 h3 => ?_)
  have hcA : cA = tc 4 := j_newa0 (t0 := 4) (A := A) (H := H) (H1 := H1) (locs := locs) (locs1 := locs) (ad := ad) (q := q) h0 rfl
  subst hcA
  obtain ⟨g1, g2⟩ := jv_grow hn hD h1 h2 h3 (by rw [jcell_ref hs, ur_row]; rfl)
  have := kk A D tc p l e R s m args below meth c H1 locs (cells + 1) (slots + len) Z ls _ hF ⟨hR1, hR2, by omega, by omega⟩ g1 (hf2.grow g2 (j_ok1 (fun b e => by cases e; exact Or.inl (Nat.lt_succ_self n)) (fun v hv => (hf2.2.2 v (List.mem_cons_of_mem _ hv)).mono g2.1))) (hend.grow g2)
  rw [List.map_cons, jv_rens_ext g2 (j_tl hf2.2.2)] at this
  simpa only [jv_ren, if_true] using this
/-! calls -/
def jv_W (X : jX) (A : Nat → Prop) (D : va_G) (tc : Nat → ClassId) (ad : Nat → Nat) (n : Nat) (I : HI) (J : HJ) (P : HP) (U : State) : Prop :=
  va_P D vwCl (jv_ws tc ad n I J P) U.heap ∧ va_K D vwCl (jv_tys tc) U ∧ va_D A (jv_ws tc ad n I J P) ∧ jv_RO X ad A U U.heap ∧ jv_okP n P ∧ ∀ q, U.heap.size ≤ q → A q
def jv_num (r : Option Value) : Prop := r = none ∨ (∃ v, r = some (.int v)) ∨ ∃ v, r = some (.long v)
def jv_Qc (X : jX) (A : Nat → Prop) (D : va_G) (tc : Nat → ClassId) (ad : Nat → Nat) (n : Nat) (Q : jPost) : Array Value → State → Outcome → State → Prop := fun _ st oc t =>
  (∃ (r : Option Value) (n' : Nat) (I' : HI) (J' : HJ) (P' : HP) (ad' : Nat → Nat), oc = .returned r ∧ jv_num r ∧ Q r n' I' J' P' ∧ jv_ext n ad n' ad' ∧ va_P D vwCl (jv_ws tc ad' n' I' J' P') t.heap ∧ va_D A (jv_ws tc ad' n' I' J' P') ∧ jv_okP n' P') ∧ va_F A st t
def jv_wsM (M : MD) : List Cond := .code M.1 M.2.1 M.2.2.1 M.2.2.2 :: jv_tbl
/-- a contract -/
def Cj (X : jX) (d bc bs : Nat) (M : MD) (as : List Value) (n : Nat) (I : HI) (J : HJ) (P : HP) (Q : jPost) : Prop :=
  ∀ (l : Launch) (A : Nat → Prop) (D : va_G) (tc : Nat → ClassId) (ad : Nat → Nat), Met l M.1 (jv_wsM M) { frames := d, cells := bc, slots := bs, locals := 64 * d } (va_Pc (as.map (jv_ren ad)) (fun U => jv_W X A D tc ad n I J P U ∧ ∀ v ∈ as, jv_ok n v)) (jv_Qc X A D tc ad n Q) bc bs A
theorem Cj.intro {as : List Value} (hy : plainName M.1.cls = true) (hwd : jv_wd as ≤ M.2.2.1) (hL : jv_ent as M.2.2.1 = L) (k : Rj X d bc bs M Q 0 L [] n I J P) : Cj X d bc bs M as n I J P Q := by
  intro l A D tc ad
  subst hL
  refine Met.ofW (cc := M.2.1) (maxL := M.2.2.1) (ret := M.2.2.2) (ws' := jv_tbl) hy rfl ?_
  intro p e s m args below meth c s₁ B hml hv
  obtain ⟨rfl, ⟨hP, hK, hD, hRO, hoP, hA⟩, hok⟩ := hv
  have hts := atoms_spec (ws := jv_wsM M) B.pre
  have hl := jv_lv.entry (as.map (jv_ren ad)) (n := M.2.2.1) (by
    have : ∀ vs : List Value, jv_wd (vs.map (jv_ren ad)) = jv_wd vs := by
      intro vs
      induction vs with
      | nil => rfl
      | cons v vs ih => simp only [List.map_cons, jv_wd, jv_ren_cat, ih]
    rw [this]; exact hwd)
  rw [← jv_ent_ren] at hl
  rw [lg_entry_eq]
  generalize (lg_sl (as.map (jv_ren ad)) ++ List.replicate (M.2.2.1 - (lg_sl (as.map (jv_ren ad))).length) Slot.unset).toArray = ls at hl ⊢
  have hlk := B.notSynchronized
  refine k A D tc p l e _ s m _ below meth c s.heap [] 0 0 _ ls ad ⟨B.exec, B.bytes, hml, B.returns, findClass_of_methodNamed B.named, fun w hw => hts w (List.mem_cons_of_mem _ hw), hK, hA, hlk, fun h => (name_of_methodNamed B.named B.method).1.trans h⟩ ⟨Nat.le_refl _, Nat.le_refl _, Nat.le_of_eq (Nat.zero_add _), Nat.le_of_eq (Nat.zero_add _)⟩ ⟨hP, hD, va_S.rf, hRO, hoP⟩ ⟨hl, jv_ent_ok as _ hok, fun v hv => by cases hv⟩ ?_
  intro r n' I' J' P' H' locs' cells' slots' ls' ad' pc' st' hq hext hcs hDn hret
  refine W.widen (k := bc) (n := bs) hcs.1 hcs.2 ?_
  rcases hret with ⟨rfl, rfl, hd, hr⟩ | ⟨v, ty, rfl, rfl, hd, hr, hn⟩ | ⟨v, rfl, rfl, hd, hr⟩
  · exact W.vret B.exec B.bytes (B.returns.trans hr) (fun t ht hW => ⟨⟨_, n', I', J', P', ad', rfl, Or.inl rfl, hq, hext, by rw [ht]; exact hDn.1, hDn.2.1, hDn.2.2.2.2⟩, hDn.2.2.1.F ht⟩) hDn.2.2.1.2.2 hd
  · exact W.zret B.exec B.bytes (B.returns.trans hr) hn (fun t ht hW => ⟨⟨_, n', I', J', P', ad', rfl, Or.inr (Or.inl ⟨v, rfl⟩), hq, hext, by rw [ht]; exact hDn.1, hDn.2.1, hDn.2.2.2.2⟩, hDn.2.2.1.F ht⟩) hDn.2.2.1.2.2 hd
  · exact W.lret B.exec B.bytes (B.returns.trans hr) (fun t ht hW => ⟨⟨_, n', I', J', P', ad', rfl, Or.inr (Or.inr ⟨v, rfl⟩), hq, hext, by rw [ht]; exact hDn.1, hDn.2.1, hDn.2.2.2.2⟩, hDn.2.2.1.F ht⟩) hDn.2.2.1.2.2 hd
theorem Cj.blind {A : Nat → Prop} {D : va_G} {tc : Nat → ClassId} {ad : Nat → Nat} {as : List Value} {av : List Value} : FrameBlind (va_Pc av (fun U => jv_W X A D tc ad n I J P U ∧ ∀ v ∈ as, jv_ok n v)) := by
  intro a U g mk q
  obtain ⟨q0, ⟨q1, q2, q3, q4, q5, q6⟩, q7⟩ := q
  exact ⟨q0, ⟨q1, va_K.moved (u := U) (U := U.calling g mk a) (Vm.Alike.refl U.vm) q2, q3, q4.same rfl, q5, q6⟩, q7⟩
theorem jv_W.of {A : Nat → Prop} {D : va_G} {tc : Nat → ClassId} {ad : Nat → Nat} {s U : State} {H : Heap} {locs : List Loc} (hD : jv_Dyn X A D tc s H locs ad n I J P) (hK : va_K D vwCl (jv_tys tc) s) (hA : ∀ q, s.heap.size ≤ q → A q) (hU : U.heap = H) (hW : s.WarmedH U.vm) : jv_W X A D tc ad n I J P U := by
  subst hU
  exact ⟨hD.1, va_K.moved hW.alike hK, hD.2.1, hD.2.2.2.1.next hW hD.2.2.1.1 hD.2.2.1.2.1, hD.2.2.2.2, fun q h => hA q (Nat.le_trans hD.2.2.1.1 h)⟩
theorem jv_num.ren {r : Option Value} (h : jv_num r) (ad : Nat → Nat) : r.toList.map (jv_ren ad) = r.toList := by
  rcases h with rfl | ⟨v, rfl⟩ | ⟨v, rfl⟩ <;> rfl
theorem jv_num.ok {r : Option Value} (h : jv_num r) (k : Nat) : ∀ v ∈ r.toList, jv_ok k v := by
  rcases h with rfl | ⟨v, rfl⟩ | ⟨v, rfl⟩ <;> intro w hw <;> simp at hw <;> subst hw
  · exact jv_ok.int
  · exact jv_ok.long
/-- behind a call, whatever its form -/
theorem jv_back {bc1 bs1 bc2 bs2 : Nat} {Q1 : jPost} {A : Nat → Prop} {D : va_G} {tc : Nat → ClassId} {p : Program} {l : Launch} {e : Env} {R : Room} {s : State} {m : MethodId} {args : Array Value} {below : List Frame} {meth : Method} {c : Code} {H : Heap} {locs : List Loc} {cells slots : Nat} {Z : State → Prop} {ls : Array Slot} {ad : Nat → Nat} {a : Array Value} {st0 : List Value} {stq : List Value}
    (hF : jv_Fix M A D tc p s m args meth c) (hR : jv_room R d bc bs cells slots) (hD : jv_Dyn X A D tc s H locs ad n I J P) (hf : jv_Frm M ad n ls L stq) (hst : ∀ v ∈ st, jv_ok n v) (hend : jv_End X M Q A D tc p l e R s m args below meth c Z ad n) (hbc : bc2 + bc1 = bc) (hbs : bs2 + bs1 = bs)
    (hr : va_Run p l e R s m args below meth c H locs cells slots bc1 bs1 (F0 m pc ls st0) (st.map (jv_ren ad)) (jv_Qc X A D tc ad n Q1 a) A)
    (kk : ∀ r n' I' J' P', Q1 r n' I' J' P' → Rj X d bc2 bs2 M Q (pc + 3) L (r.toList ++ st) n' I' J' P') : W p l e R s m args below meth c H locs cells slots Z (F0 m pc ls st0) := by
  intro T hT X0
  obtain ⟨v, st₀, t, T', L', h0, X', hL, e1, e2, ⟨⟨r, n', I', J', P', ad', hv, hnum, hq, hext, hP', hD', hok'⟩, hz, hk⟩, stp⟩ := hr T hT X0
  cases hv
  rw [h0] at hz hk
  obtain ⟨hR1, hR2, hR3, hR4⟩ := hR
  have hS : va_S A s.heap T'.heap (locs ++ L') := ⟨Nat.le_trans hD.2.2.1.1 (by rw [e1]; exact hz), fun q h1 h2 => by rw [e1, hk q (Nat.lt_of_lt_of_le h1 hD.2.2.1.1) h2]; exact hD.2.2.1.2.1 q h1 h2, fun q hq => by
      rcases List.mem_append.mp hq with h | h
      · exact hD.2.2.1.2.2 q h
      · exact hL q h⟩
  have h9 := kk v n' I' J' P' hq A D tc p l e R s m args below meth c T'.heap (locs ++ L') (cells + bc1) (slots + bs1) Z ls ad' hF ⟨hR1, hR2, by omega, by omega⟩ ⟨by rw [e1]; exact hP', hD', hS, hD.2.2.2.1.congr (fun a ha => hext.2 a (Or.inr ha)), hok'⟩ (hf.grow hext (fun w hw => by
      rcases List.mem_append.mp hw with h | h
      · exact hnum.ok _ w h
      · exact (hst w h).mono hext.1)) (hend.grow hext)
  rw [List.map_append, hnum.ren, jv_rens_ext hext hst] at h9
  obtain ⟨t2, a1, b1⟩ := h9 T' rfl X'
  exact ⟨t2, stp t2 a1, b1⟩
def PMd (own : String) (N : MD) (k : Nat) : Prop := Cond.code N.1 N.2.1 N.2.2.1 N.2.2.2 ∈ jv_tbl ∧ Cond.initialized N.1.cls ∈ jv_tbl ∧ N.1.cls ≠ "java/lang/invoke/MethodHandle" ∧ N.1.cls ≠ "java/lang/invoke/VarHandle" ∧ (parseMethodDescriptor N.1.desc).map (fun d => d.parameters.length) = some k ∧ N.2.2.1 ≤ 45
def PMv (own : String) (idx : Nat) (N : MD) (k : Nat) : Prop := PMd own N k ∧ Cond.methodLink own idx N.1 ∈ jv_tbl ∧ Cond.instanceMethod N.1 ∈ jv_tbl ∧ Cond.selects N.1.cls N.1 N.1 ∈ jv_tbl
def PMs (own : String) (idx : Nat) (N : MD) (k : Nat) : Prop := PMd own N k ∧ Cond.methodLink own idx N.1 ∈ jv_tbl ∧ Cond.static N.1 ∈ jv_tbl
def PMi (own : String) (idx : Nat) (N : MD) (k : Nat) : Prop := PMd own N k ∧ Cond.methodLink own idx N.1 ∈ jv_tbl ∧ Cond.instanceMethod N.1 ∈ jv_tbl ∧ N.1.name = "<init>" ∧ N.2.2.2 = none
def PMin (own : String) (idx : Nat) (N : MD) (k : Nat) : Prop := PMd own N k ∧ (own, idx, N.1, RX9) ∈ jv_nest ∧ Cond.instanceMethod N.1 ∈ jv_tbl ∧ N.1.name = "<init>" ∧ N.2.2.2 = none
def PMsn (own : String) (idx : Nat) (N : MD) (k : Nat) : Prop := PMd own N k ∧ (own, idx, N.1, RX9) ∈ jv_nest ∧ Cond.static N.1 ∈ jv_tbl
theorem jv_goodM {N : MD} {own : String} {k : Nat} (h : PMd own N k) : GoodIn jv_tbl (jv_wsM N) := fun w hw => by
  rcases List.mem_cons.mp hw with e | e
  · rw [e]; exact jv_tbl_good _ h.1
  · exact jv_tbl_good _ e
theorem jv_rest {ad : Nat → Nat} (h : (st.map fun v => v.category).sum ≤ 8) : ((st.map (jv_ren ad)).map fun v => v.category).sum ≤ 8 := by
  rw [List.map_map]
  have : ((fun v : Value => v.category) ∘ jv_ren ad) = fun v => v.category := funext fun v => jv_ren_cat ad v
  rw [this]; exact h
theorem j_callV {idx b ci bc1 bs1 bc2 bs2 : Nat} {N : MD} {As st0 : List Value} {Q1 : jPost} (hd : decode M.2.1 pc = .ok (.invokevirtual idx, 3)) (hm : PMv M.1.cls idx N As.length) (hC : Cj X d bc1 bs1 N (.ref b :: As) n I J P Q1) (hci : ci < jNc) (hs : shp b = (0, ci)) (hcn : jC ci = N.1.cls) (hb : b < 1000) (hst : As.reverse ++ .ref b :: st = st0) (hcat : (st.map fun v => v.category).sum ≤ 8) (hbc : bc2 + bc1 = bc) (hbs : bs2 + bs1 = bs)
    (kk : ∀ r n' I' J' P', Q1 r n' I' J' P' → Rj X (d + 1) bc2 bs2 M Q (pc + 3) L (r.toList ++ st) n' I' J' P') : Rj X (d + 1) bc bs M Q pc L st0 n I J P := by
  intro A D tc p l e R s m args below meth c H locs cells slots Z ls ad hF hR hD hf hend
  subst hst
  obtain ⟨hx, hbt, hml, hr, hown, hts, hK, hA, -⟩ := id hF
  have hokA : ∀ v ∈ Value.ref b :: As, jv_ok n v := fun v hv => hf.2.2 v (by
    rcases List.mem_cons.mp hv with e | e
    · exact List.mem_append_right _ (e ▸ List.mem_cons_self)
    · exact List.mem_append_left _ (List.mem_reverse.mpr e))
  have hbn : b < n := (hokA _ List.mem_cons_self b rfl).elim id (fun q => by omega)
  have hgt := jws_get (tc := tc) (ad := ad) (I := I) (J := J) (P := P) hbn
  rw [jcell_obj hs] at hgt
  have hrm : (d : Nat) + 1 ≤ R.frames ∧ 8 + (N.2.2.1 + 11) + 64 * d ≤ R.locals := by
    obtain ⟨h1, h2, -, -⟩ := hR
    have := hm.1.2.2.2.2.2
    omega
  have hcc : cells + bc1 ≤ R.cells ∧ slots + bs1 ≤ R.slots := by
    obtain ⟨-, -, h3, h4⟩ := hR
    omega
  rw [List.map_append, List.map_reverse, List.map_cons]
  have hrv := va_recv hK hD.1 (jcl ci hci) hgt
  rw [show (jC ci, jT ci, fnm ci).1 = N.1.cls from hcn] at hrv
  refine jv_back (stq := As.reverse ++ Value.ref b :: st) hF hR hD hf (fun v hv => hf.2.2 v (List.mem_append_right _ (List.mem_cons_of_mem _ hv))) hend hbc hbs (Q1 := Q1) (a := (Value.ref (ad b) :: As.map (jv_ren ad)).toArray) ?_ kk
  exact va_runV (As := As.map (jv_ren ad)) (rest := st.map (jv_ren ad)) (b := ad b) ⟨hx, hbt, hml, hown, hts⟩ (hC l A D tc ad) (cwV (mc := bc1) (ms := bs1) As.length hts (fun w hw => by
      unfold wsV at hw
      rcases List.mem_append.mp hw with e | e
      · have : w = Cond.methodLink M.1.cls idx N.1 ∨ w = Cond.instanceMethod N.1 ∨ w = Cond.selects N.1.cls N.1 N.1 ∨ w = Cond.initialized N.1.cls := by simpa using e
        rcases this with rfl | rfl | rfl | rfl
        · exact jv_tbl_good _ hm.2.1
        · exact jv_tbl_good _ hm.2.2.1
        · exact jv_tbl_good _ hm.2.2.2
        · exact jv_tbl_good _ hm.1.2.1
      · exact jv_goodM hm.1 w e) rfl rfl rfl ⟨rfl, hm.1.2.2.1, hm.1.2.2.2.1, hm.1.2.2.2.2.1⟩ hrm) ⟨Cj.blind, hrv, fun U hU hW => ⟨rfl, jv_W.of hD hK hA hU hW, hokA⟩⟩ rfl (by simp) hf.1.1 rfl (lv_room (jv_rest hcat)) hd hcc
theorem j_callS {idx bc1 bs1 bc2 bs2 : Nat} {N : MD} {As st0 : List Value} {Q1 : jPost} (hd : decode M.2.1 pc = .ok (.invokestatic idx, 3)) (hm : PMs M.1.cls idx N As.length) (hC : Cj X d bc1 bs1 N As n I J P Q1) (hst : As.reverse ++ st = st0) (hcat : (st.map fun v => v.category).sum ≤ 8) (hbc : bc2 + bc1 = bc) (hbs : bs2 + bs1 = bs)
    (kk : ∀ r n' I' J' P', Q1 r n' I' J' P' → Rj X (d + 1) bc2 bs2 M Q (pc + 3) L (r.toList ++ st) n' I' J' P') : Rj X (d + 1) bc bs M Q pc L st0 n I J P := by
  intro A D tc p l e R s m args below meth c H locs cells slots Z ls ad hF hR hD hf hend
  subst hst
  obtain ⟨hx, hbt, hml, hr, hown, hts, hK, hA, -⟩ := id hF
  have hokA : ∀ v ∈ As, jv_ok n v := fun v hv => hf.2.2 v (List.mem_append_left _ (List.mem_reverse.mpr hv))
  have hrm : (d : Nat) + 1 ≤ R.frames ∧ 8 + (N.2.2.1 + 11) + 64 * d ≤ R.locals := by
    obtain ⟨h1, h2, -, -⟩ := hR
    have := hm.1.2.2.2.2.2
    omega
  have hcc : cells + bc1 ≤ R.cells ∧ slots + bs1 ≤ R.slots := by
    obtain ⟨-, -, h3, h4⟩ := hR
    omega
  rw [List.map_append, List.map_reverse]
  refine jv_back (stq := As.reverse ++ st) hF hR hD hf (fun v hv => hf.2.2 v (List.mem_append_right _ hv)) hend hbc hbs (Q1 := Q1) (a := (As.map (jv_ren ad)).toArray) ?_ kk
  exact va_runS (As := As.map (jv_ren ad)) (rest := st.map (jv_ren ad)) ⟨hx, hbt, hml, hown, hts⟩ (hC l A D tc ad) (va_cwS (mc := bc1) (ms := bs1) As.length hts (fun w hw => by
      unfold va_wsS at hw
      rcases List.mem_append.mp hw with e | e
      · have : w = Cond.methodLink M.1.cls idx N.1 ∨ w = Cond.static N.1 ∨ w = Cond.initialized N.1.cls := by simpa using e
        rcases this with rfl | rfl | rfl
        · exact jv_tbl_good _ hm.2.1
        · exact jv_tbl_good _ hm.2.2
        · exact jv_tbl_good _ hm.1.2.1
      · exact jv_goodM hm.1 w e) rfl rfl rfl ⟨hm.1.2.2.1, hm.1.2.2.2.1, hm.1.2.2.2.2.1⟩ hrm) ⟨Cj.blind, fun U hU hW => ⟨rfl, jv_W.of hD hK hA hU hW, hokA⟩⟩ rfl (by simp) hf.1.1 rfl (lv_room (jv_rest hcat)) hd hcc
theorem j_callSN {idx bc1 bs1 bc2 bs2 : Nat} {N : MD} {As st0 : List Value} {Q1 : jPost} (hd : decode M.2.1 pc = .ok (.invokestatic idx, 3)) (hm : PMsn M.1.cls idx N As.length) (hC : Cj X d bc1 bs1 N As n I J P Q1) (hst : As.reverse ++ st = st0) (hcat : (st.map fun v => v.category).sum ≤ 8) (hbc : bc2 + bc1 = bc) (hbs : bs2 + bs1 = bs)
    (kk : ∀ r n' I' J' P', Q1 r n' I' J' P' → Rj X (d + 1) bc2 bs2 M Q (pc + 3) L (r.toList ++ st) n' I' J' P') : Rj X (d + 1) bc bs M Q pc L st0 n I J P := by
  intro A D tc p l e R s m args below meth c H locs cells slots Z ls ad hF hR hD hf hend
  subst hst
  obtain ⟨hx, hbt, hml, hr, hown, hts, hK, hA, -⟩ := id hF
  have hokA : ∀ v ∈ As, jv_ok n v := fun v hv => hf.2.2 v (List.mem_append_left _ (List.mem_reverse.mpr hv))
  have hrm : (d : Nat) + 1 ≤ R.frames ∧ 8 + (N.2.2.1 + 11) + 64 * d ≤ R.locals := by
    obtain ⟨h1, h2, -, -⟩ := hR
    have := hm.1.2.2.2.2.2
    omega
  have hcc : cells + bc1 ≤ R.cells ∧ slots + bs1 ≤ R.slots := by
    obtain ⟨-, -, h3, h4⟩ := hR
    omega
  rw [List.map_append, List.map_reverse]
  refine jv_back (stq := As.reverse ++ st) hF hR hD hf (fun v hv => hf.2.2 v (List.mem_append_right _ hv)) hend hbc hbs (Q1 := Q1) (a := (As.map (jv_ren ad)).toArray) ?_ kk
  exact va_runSN (host := RX9) (As := As.map (jv_ren ad)) (rest := st.map (jv_ren ad)) ⟨hx, hbt, hml, hown, hts⟩ (hC l A D tc ad) ⟨va_cnB (mc := bc1) (ms := bs1) As.length hts (jv_goodM hm.1) rfl rfl rfl (hD.2.2.2.1.2.2.2.2.2.1 _ hm.2.1) (hts _ hm.1.2.1) ⟨hm.1.2.2.1, hm.1.2.2.2.1, hm.1.2.2.2.2.1⟩ hrm, hts _ hm.2.2, trivial⟩ ⟨Cj.blind, fun U hU hW => ⟨rfl, jv_W.of hD hK hA hU hW, hokA⟩⟩ rfl (by simp) hf.1.1 rfl (lv_room (jv_rest hcat)) hd hcc
theorem j_callI {idx b bc1 bs1 bc2 bs2 : Nat} {N : MD} {As st0 : List Value} {Q1 : jPost} (hd : decode M.2.1 pc = .ok (.invokespecial idx, 3)) (hm : PMi M.1.cls idx N As.length) (hC : Cj X d bc1 bs1 N (.ref b :: As) n I J P Q1) (hst : As.reverse ++ .ref b :: st = st0) (hcat : (st.map fun v => v.category).sum ≤ 8) (hbc : bc2 + bc1 = bc) (hbs : bs2 + bs1 = bs)
    (kk : ∀ r n' I' J' P', Q1 r n' I' J' P' → Rj X (d + 1) bc2 bs2 M Q (pc + 3) L (r.toList ++ st) n' I' J' P') : Rj X (d + 1) bc bs M Q pc L st0 n I J P := by
  intro A D tc p l e R s m args below meth c H locs cells slots Z ls ad hF hR hD hf hend
  subst hst
  obtain ⟨hx, hbt, hml, hr, hown, hts, hK, hA, -⟩ := id hF
  have hokA : ∀ v ∈ Value.ref b :: As, jv_ok n v := fun v hv => hf.2.2 v (by
    rcases List.mem_cons.mp hv with e | e
    · exact List.mem_append_right _ (e ▸ List.mem_cons_self)
    · exact List.mem_append_left _ (List.mem_reverse.mpr e))
  have hrm : (d : Nat) + 1 ≤ R.frames ∧ 8 + (N.2.2.1 + 11) + 64 * d ≤ R.locals := by
    obtain ⟨h1, h2, -, -⟩ := hR
    have := hm.1.2.2.2.2.2
    omega
  have hcc : cells + bc1 ≤ R.cells ∧ slots + bs1 ≤ R.slots := by
    obtain ⟨-, -, h3, h4⟩ := hR
    omega
  rw [List.map_append, List.map_reverse, List.map_cons]
  refine jv_back (stq := As.reverse ++ Value.ref b :: st) hF hR hD hf (fun v hv => hf.2.2 v (List.mem_append_right _ (List.mem_cons_of_mem _ hv))) hend hbc hbs (Q1 := Q1) (a := (Value.ref (ad b) :: As.map (jv_ren ad)).toArray) ?_ kk
  have hMet := hC l A D tc ad
  have hw : jv_wsM N = Cond.code N.1 N.2.1 N.2.2.1 none :: jv_tbl := by unfold jv_wsM; rw [hm.2.2.2.2]
  exact va_runI (As := As.map (jv_ren ad)) (rest := st.map (jv_ren ad)) (b := ad b) ⟨hx, hbt, hml, hown, hts⟩ hMet (cwI (mc := bc1) (ms := bs1) (bytes := N.2.1) (maxL := N.2.2.1) As.length hts (jv_goodM hm.1) hw rfl rfl (hts _ hm.1.2.1) (hts _ hm.2.1) (hts _ hm.2.2.1) hm.2.2.2.1 ⟨hm.1.2.2.1, hm.1.2.2.2.1, hm.1.2.2.2.2.1⟩ hrm) ⟨Cj.blind, fun U hU hW => ⟨rfl, jv_W.of hD hK hA hU hW, hokA⟩⟩ rfl (by simp) hf.1.1 rfl (lv_room (jv_rest hcat)) hd hcc
theorem j_callIN {idx b bc1 bs1 bc2 bs2 : Nat} {N : MD} {As st0 : List Value} {Q1 : jPost} (hd : decode M.2.1 pc = .ok (.invokespecial idx, 3)) (hm : PMin M.1.cls idx N As.length) (hC : Cj X d bc1 bs1 N (.ref b :: As) n I J P Q1) (hst : As.reverse ++ .ref b :: st = st0) (hcat : (st.map fun v => v.category).sum ≤ 8) (hbc : bc2 + bc1 = bc) (hbs : bs2 + bs1 = bs)
    (kk : ∀ r n' I' J' P', Q1 r n' I' J' P' → Rj X (d + 1) bc2 bs2 M Q (pc + 3) L (r.toList ++ st) n' I' J' P') : Rj X (d + 1) bc bs M Q pc L st0 n I J P := by
  intro A D tc p l e R s m args below meth c H locs cells slots Z ls ad hF hR hD hf hend
  subst hst
  obtain ⟨hx, hbt, hml, hr, hown, hts, hK, hA, -⟩ := id hF
  have hokA : ∀ v ∈ Value.ref b :: As, jv_ok n v := fun v hv => hf.2.2 v (by
    rcases List.mem_cons.mp hv with e | e
    · exact List.mem_append_right _ (e ▸ List.mem_cons_self)
    · exact List.mem_append_left _ (List.mem_reverse.mpr e))
  have hrm : (d : Nat) + 1 ≤ R.frames ∧ 8 + (N.2.2.1 + 11) + 64 * d ≤ R.locals := by
    obtain ⟨h1, h2, -, -⟩ := hR
    have := hm.1.2.2.2.2.2
    omega
  have hcc : cells + bc1 ≤ R.cells ∧ slots + bs1 ≤ R.slots := by
    obtain ⟨-, -, h3, h4⟩ := hR
    omega
  rw [List.map_append, List.map_reverse, List.map_cons]
  refine jv_back (stq := As.reverse ++ Value.ref b :: st) hF hR hD hf (fun v hv => hf.2.2 v (List.mem_append_right _ (List.mem_cons_of_mem _ hv))) hend hbc hbs (Q1 := Q1) (a := (Value.ref (ad b) :: As.map (jv_ren ad)).toArray) ?_ kk
  have hMet := hC l A D tc ad
  have hw : jv_wsM N = Cond.code N.1 N.2.1 N.2.2.1 none :: jv_tbl := by unfold jv_wsM; rw [hm.2.2.2.2]
  exact va_runIN (host := RX9) (As := As.map (jv_ren ad)) (rest := st.map (jv_ren ad)) (b := ad b) ⟨hx, hbt, hml, hown, hts⟩ hMet ⟨va_cnB (mc := bc1) (ms := bs1) (bytes := N.2.1) (maxL := N.2.2.1) As.length hts (jv_goodM hm.1) hw rfl rfl (hD.2.2.2.1.2.2.2.2.2.1 _ hm.2.1) (hts _ hm.1.2.1) ⟨hm.1.2.2.1, hm.1.2.2.2.1, hm.1.2.2.2.2.1⟩ hrm, hm.2.2.2.1, hts _ hm.2.2.1⟩ ⟨Cj.blind, fun U hU hW => ⟨rfl, jv_W.of hD hK hA hU hW, hokA⟩⟩ rfl (by simp) hf.1.1 rfl (lv_room (jv_rest hcat)) hd hcc
end JN
end
section
/-! rows for the JDK: Object's constructor, arraycopy, the text constants -/
section JK
variable {X : jX} {d bc bs : Nat} {M : MD} {Q : jPost} {pc : Nat} {L st : List Value} {n : Nat} {I : HI} {J : HJ} {P : HP}
theorem j_objInit {pc' idx a : Nat} (hd : decode M.2.1 pc = .ok (.invokespecial idx, 3)) (hp : pc + 3 = pc') (hl : Cond.methodLink M.1.cls idx objectInit ∈ jv_tbl) (hi : Cond.instanceMethod objectInit ∈ jv_tbl) (hc : Cond.code objectInit ⟨#[0xb1]⟩ 1 none ∈ jv_tbl) (hcat : (st.map fun v => v.category).sum ≤ 8) (kk : Rj X (d + 1) bc bs M Q pc' L st n I J P) : Rj X (d + 1) bc bs M Q pc L (.ref a :: st) n I J P := by
  subst hp
  intro A D tc p l e R s m args below meth c H locs cells slots Z ls ad hF hR hD hf2 hend
  obtain ⟨hx, hb, hml, hr, hown, hts, hK, hA, -⟩ := id hF
  have h9 := jv_rest (ad := ad) hcat
  show W p l e R s m args below meth c H locs cells slots Z (F0 m pc ls (.ref (ad a) :: st.map (jv_ren ad)))
  refine W.objInit hx hb hown (hts _ hl) (hts _ hi) (hts _ hc) rfl (by rw [hml]; exact hf2.1.1) rfl hd (by have := hR.1; omega) (by have := hR.2.1; show 2 * 0 + _ + 12 ≤ _; omega) ?_
  exact kk A D tc p l e R s m args below meth c H locs cells slots Z ls ad hF hR hD ⟨hf2.1, hf2.2.1, j_tl hf2.2.2⟩ hend
theorem j_copy {pc' idx a0 a n0 n1 sp dp cn : Nat} {vs vd vc : Int32} (hd : decode M.2.1 pc = .ok (.invokestatic idx, 3)) (hp : pc + 3 = pc') (hl : Cond.methodLink M.1.cls idx arraycopyName ∈ jv_tbl) (hn : Cond.native arraycopyName ∈ jv_tbl) (hs : Cond.static arraycopyName ∈ jv_tbl) (hi : Cond.initialized "java/lang/System" ∈ jv_tbl)
    (h0 : shp a0 = (1, n0)) (h1 : shp a = (1, n1)) (ha0 : a0 < 1000) (ha : a < 1000) (es : vs = nI sp) (ed : vd = nI dp) (ec : vc = nI cn) (b1 : sp + cn ≤ n0) (b2 : dp + cn ≤ n1) (bn : n0 < 2 ^ 31) (bm : n1 < 2 ^ 31) (hcat : (st.map fun v => v.category).sum ≤ 8) (kk : Rj X (d + 1) bc bs M Q pc' L st n (ur I a (va_cpy (I a0) (I a) sp dp cn)) J P) : Rj X (d + 1) bc bs M Q pc L (.int vc :: .int vd :: .ref a :: .int vs :: .ref a0 :: st) n I J P := by
  subst hp; subst es; subst ed; subst ec
  intro A D tc p l e R s m args below meth c H locs cells slots Z ls ad hF hR hD hf2 hend
  obtain ⟨hx, hb, hml, hr, hown, hts, hK, hA, -⟩ := id hF
  have hm1 : (.ref a : Value) ∈ (.int (nI cn) :: .int (nI dp) :: .ref a :: .int (nI sp) :: .ref a0 :: st : List Value) := by simp
  have hm0 : (.ref a0 : Value) ∈ (.int (nI cn) :: .int (nI dp) :: .ref a :: .int (nI sp) :: .ref a0 :: st : List Value) := by simp
  have han : a < n := (hf2.2.2 _ hm1 a rfl).elim id (fun q => by omega)
  have ha0n : a0 < n := (hf2.2.2 _ hm0 a0 rfl).elim id (fun q => by omega)
  have hg0 := jws_get (tc := tc) (ad := ad) (I := I) (J := J) (P := P) ha0n
  have hg1 := jws_get (tc := tc) (ad := ad) (I := I) (J := J) (P := P) han
  rw [jcell_int h0] at hg0
  rw [jcell_int h1] at hg1
  have cs : (nI sp).toNatClampNeg = sp := nI_clamp (by omega)
  have cd : (nI dp).toNatClampNeg = dp := nI_clamp (by omega)
  have ccn : (nI cn).toNatClampNeg = cn := nI_clamp (by omega)
  have h9 := jv_rest (ad := ad) hcat
  have hnf : nativeFrameWords "java/lang/System" "arraycopy" 5 + 11 ≤ 50 := by decide
  show W p l e R s m args below meth c H locs cells slots Z (F0 m pc ls (.int (nI cn) :: .int (nI dp) :: .ref (ad a) :: .int (nI sp) :: .ref (ad a0) :: st.map (jv_ren ad)))
  refine va_copyi hx hb (by rw [hml, hf2.1.1]) hown (hts _ hl) (hts _ hn) (hts _ hs) (hts _ hi) hK hD.1 hD.2.1 hD.2.2.1 a0 a 0 0 hg0 hg1 rfl rfl rfl (nI_pos (by omega)) (nI_pos (by omega)) (nI_pos (by omega)) (by rw [cs, ccn]; exact b1) (by rw [cd, ccn]; exact b2) (fun i _ => rfl) (by have := hR.1; omega) (by have := hR.2.1; omega) hd (fun H1 locs1 k1 k2 k3 => ?_)
  rw [cs, cd, ccn] at k1 k2
  have hws : (jv_ws tc ad n I J P).set a (ad a, .inl (tc 0, n1, .inl (va_cpy (I a0) (I a) sp dp cn))) = jv_ws tc ad n (ur I a (va_cpy (I a0) (I a) sp dp cn)) J P :=
    jws_set han (by rw [jcell_int h1, ur_row]) (fun b _ hb => jcell_congr (ur_ne I _ hb) rfl (fun _ => rfl))
  rw [hws] at k1 k2
  exact kk A D tc p l e R s m args below meth c H1 locs1 cells slots Z ls ad hF hR ⟨k1, k2, k3, hD.2.2.2.1, hD.2.2.2.2⟩ ⟨hf2.1, hf2.2.1, j_tl (j_tl (j_tl (j_tl (j_tl hf2.2.2))))⟩ hend
/-! text constants -/
theorem j_getsC {pc' idx : Nat} (hd : decode M.2.1 pc = .ok (.getstatic idx, 3)) (hp : pc + 3 = pc') (hl : Cond.fieldLink M.1.cls idx "java/lang/String" "COMPACT_STRINGS" "Z" ∈ jv_tbl) (kk : Rj X d bc bs M Q pc' L (.int 1 :: st) n I J P) : Rj X d bc bs M Q pc L st n I J P := by
  subst hp
  intro A D tc p l e R s m args below meth c H locs cells slots Z ls ad hF hR hD hf2 hend
  exact va_gets hF.1 hF.2.1 hD.2.2.2.1.2.2.1 hD.2.2.1 hF.2.2.2.2.1 (hF.2.2.2.2.2.1 _ hl) (fun _ h => h) hd (kk A D tc p l e R s m args below meth c H locs cells slots Z ls ad hF hR hD ⟨hf2.1, hf2.2.1, j_ok1 jv_ok.int hf2.2.2⟩ hend)
theorem j_getsF {pc' idx : Nat} (hd : decode M.2.1 pc = .ok (.getstatic idx, 3)) (hp : pc + 3 = pc') (hl : Cond.fieldLink M.1.cls idx "jdk/internal/util/Preconditions" "SIOOBE_FORMATTER" "Ljava/util/function/BiFunction;" ∈ jv_tbl) (k1 : Rj X d bc bs M Q pc' L (.null :: st) n I J P) (k2 : Rj X d bc bs M Q pc' L (.ref 1300 :: st) n I J P) : Rj X d bc bs M Q pc L st n I J P := by
  subst hp
  intro A D tc p l e R s m args below meth c H locs cells slots Z ls ad hF hR hD hf2 hend
  rcases hD.2.2.2.1.2.2.2.1 with hz | hz
  · exact va_gets hF.1 hF.2.1 hz hD.2.2.1 hF.2.2.2.2.1 (hF.2.2.2.2.2.1 _ hl) (fun _ h => h) hd (k1 A D tc p l e R s m args below meth c H locs cells slots Z ls ad hF hR hD ⟨hf2.1, hf2.2.1, j_ok1 jv_ok.nul hf2.2.2⟩ hend)
  · exact va_gets hF.1 hF.2.1 hz hD.2.2.1 hF.2.2.2.2.1 (hF.2.2.2.2.2.1 _ hl) (fun _ h => h) hd (k2 A D tc p l e R s m args below meth c H locs cells slots Z ls ad hF hR hD ⟨hf2.1, hf2.2.1, j_ok1 (fun b e => by cases e; exact Or.inr (by omega)) hf2.2.2⟩ hend)
theorem j_getSC {pc' idx i : Nat} (hi : i < 5) (hd : decode M.2.1 pc = .ok (.getfield idx, 3)) (hp : pc + 3 = pc') (hl : Cond.fieldLink M.1.cls idx "java/lang/String" "coder" "B" ∈ jv_tbl) (kk : Rj X d bc bs M Q pc' L (.int 0 :: st) n I J P) : Rj X d bc bs M Q pc L (.ref (1000 + i) :: st) n I J P := by
  subst hp
  intro A D tc p l e R s m args below meth c H locs cells slots Z ls ad hF hR hD hf2 hend
  exact vk_getf hF.1 hF.2.1 (hD.2.2.2.1.1.1 i hi).2.1 hD.2.2.1 hF.2.2.2.2.1 (hF.2.2.2.2.2.1 _ hl) (fun _ h => h) hd (kk A D tc p l e R s m args below meth c H locs cells slots Z ls ad hF hR hD ⟨hf2.1, hf2.2.1, j_ok1 jv_ok.int (j_tl hf2.2.2)⟩ hend)
theorem j_getSV {pc' idx i : Nat} (hi : i < 5) (hd : decode M.2.1 pc = .ok (.getfield idx, 3)) (hp : pc + 3 = pc') (hl : Cond.fieldLink M.1.cls idx "java/lang/String" "value" "[B" ∈ jv_tbl) (kk : Rj X d bc bs M Q pc' L (.ref (1100 + i) :: st) n I J P) : Rj X d bc bs M Q pc L (.ref (1000 + i) :: st) n I J P := by
  subst hp
  intro A D tc p l e R s m args below meth c H locs cells slots Z ls ad hF hR hD hf2 hend
  exact vk_getf hF.1 hF.2.1 (hD.2.2.2.1.1.1 i hi).2.2.1 hD.2.2.1 hF.2.2.2.2.1 (hF.2.2.2.2.2.1 _ hl) (fun _ h => h) hd (kk A D tc p l e R s m args below meth c H locs cells slots Z ls ad hF hR hD ⟨hf2.1, hf2.2.1, j_ok1 (fun b e => by cases e; exact Or.inr (by omega)) (j_tl hf2.2.2)⟩ hend)
theorem j_blen {pc' i : Nat} (hi : i < 5) (hd : decode M.2.1 pc = .ok (.arraylength, 1)) (hp : pc + 1 = pc') (kk : Rj X d bc bs M Q pc' L (.int (nI (jv_len.getD i 0)) :: st) n I J P) : Rj X d bc bs M Q pc L (.ref (1100 + i) :: st) n I J P := by
  subst hp
  intro A D tc p l e R s m args below meth c H locs cells slots Z ls ad hF hR hD hf2 hend
  exact va_tlen hF.1 hF.2.1 (hD.2.2.2.1.1.1 i hi).2.2.2 hD.2.2.1 rfl hd (kk A D tc p l e R s m args below meth c H locs cells slots Z ls ad hF hR hD ⟨hf2.1, hf2.2.1, j_ok1 jv_ok.int (j_tl hf2.2.2)⟩ hend)
theorem j_bld {pc' i : Nat} {v : Int32} (hi : i < 5) (hd : decode M.2.1 pc = .ok (.baload, 1)) (hp : pc + 1 = pc') (hin : vp_in v (jv_len.getD i 0)) (kk : Rj X d bc bs M Q pc' L (.int ((jv_byt.getD i []).getD v.toNatClampNeg 0) :: st) n I J P) : Rj X d bc bs M Q pc L (.int v :: .ref (1100 + i) :: st) n I J P := by
  subst hp
  intro A D tc p l e R s m args below meth c H locs cells slots Z ls ad hF hR hD hf2 hend
  exact va_tb hF.1 hF.2.1 (hD.2.2.2.1.1.1 i hi).2.2.2 hD.2.2.1 hin rfl hd (kk A D tc p l e R s m args below meth c H locs cells slots Z ls ad hF hR hD ⟨hf2.1, hf2.2.1, j_ok1 jv_ok.int (j_tl (j_tl hf2.2.2))⟩ hend)
theorem j_callVS {idx i bc1 bs1 bc2 bs2 : Nat} {N : MD} {As st0 : List Value} {Q1 : jPost} (hi : i < 5) (hd : decode M.2.1 pc = .ok (.invokevirtual idx, 3)) (hm : PMv M.1.cls idx N As.length) (hC : Cj X d bc1 bs1 N (.ref (1000 + i) :: As) n I J P Q1) (hcn : N.1.cls = "java/lang/String") (hst : As.reverse ++ .ref (1000 + i) :: st = st0) (hcat : (st.map fun v => v.category).sum ≤ 8) (hbc : bc2 + bc1 = bc) (hbs : bs2 + bs1 = bs)
    (kk : ∀ r n' I' J' P', Q1 r n' I' J' P' → Rj X (d + 1) bc2 bs2 M Q (pc + 3) L (r.toList ++ st) n' I' J' P') : Rj X (d + 1) bc bs M Q pc L st0 n I J P := by
  intro A D tc p l e R s m args below meth c H locs cells slots Z ls ad hF hR hD hf hend
  subst hst
  obtain ⟨hx, hbt, hml, hr, hown, hts, hK, hA, -⟩ := id hF
  have hokA : ∀ v ∈ Value.ref (1000 + i) :: As, jv_ok n v := fun v hv => hf.2.2 v (by
    rcases List.mem_cons.mp hv with e | e
    · exact List.mem_append_right _ (e ▸ List.mem_cons_self)
    · exact List.mem_append_left _ (List.mem_reverse.mpr e))
  have hrm : (d : Nat) + 1 ≤ R.frames ∧ 8 + (N.2.2.1 + 11) + 64 * d ≤ R.locals := by
    obtain ⟨h1, h2, -, -⟩ := hR
    have := hm.1.2.2.2.2.2
    omega
  have hcc : cells + bc1 ≤ R.cells ∧ slots + bs1 ≤ R.slots := by
    obtain ⟨-, -, h3, h4⟩ := hR
    omega
  rw [List.map_append, List.map_reverse, List.map_cons]
  have hrv := vk_recv hD.2.2.2.1.1 hi hD.2.2.1
  rw [← hcn] at hrv
  refine jv_back (stq := As.reverse ++ Value.ref (1000 + i) :: st) hF hR hD hf (fun v hv => hf.2.2 v (List.mem_append_right _ (List.mem_cons_of_mem _ hv))) hend hbc hbs (Q1 := Q1) (a := (Value.ref (ad (1000 + i)) :: As.map (jv_ren ad)).toArray) ?_ kk
  exact va_runV (As := As.map (jv_ren ad)) (rest := st.map (jv_ren ad)) (b := ad (1000 + i)) ⟨hx, hbt, hml, hown, hts⟩ (hC l A D tc ad) (cwV (mc := bc1) (ms := bs1) As.length hts (fun w hw => by
      unfold wsV at hw
      rcases List.mem_append.mp hw with e | e
      · have : w = Cond.methodLink M.1.cls idx N.1 ∨ w = Cond.instanceMethod N.1 ∨ w = Cond.selects N.1.cls N.1 N.1 ∨ w = Cond.initialized N.1.cls := by simpa using e
        rcases this with rfl | rfl | rfl | rfl
        · exact jv_tbl_good _ hm.2.1
        · exact jv_tbl_good _ hm.2.2.1
        · exact jv_tbl_good _ hm.2.2.2
        · exact jv_tbl_good _ hm.1.2.1
      · exact jv_goodM hm.1 w e) rfl rfl rfl ⟨rfl, hm.1.2.2.1, hm.1.2.2.2.1, hm.1.2.2.2.2.1⟩ hrm) ⟨Cj.blind, hrv, fun U hU hW => ⟨rfl, jv_W.of hD hK hA hU hW, hokA⟩⟩ rfl (by simp) hf.1.1 rfl (lv_room (jv_rest hcat)) hd hcc
end JK
/-! answers -/
abbrev rI (v : Int32) (n : Nat) (I : HI) (J : HJ) (P : HP) : jPost := fun r n' I' J' P' => r = some (.int v) ∧ n' = n ∧ I' = I ∧ J' = J ∧ P' = P
abbrev rJ (v : Int64) (n : Nat) (I : HI) (J : HJ) (P : HP) : jPost := fun r n' I' J' P' => r = some (.long v) ∧ n' = n ∧ I' = I ∧ J' = J ∧ P' = P
abbrev rV (n : Nat) (I : HI) (J : HJ) (P : HP) : jPost := fun r n' I' J' P' => r = none ∧ n' = n ∧ I' = I ∧ J' = J ∧ P' = P
section JZ
variable {X : jX} {d bc bs : Nat} {M : MD} {Q : jPost} {pc pc' : Nat} {L st : List Value} {n n1 : Nat} {I I1 : HI} {J J1 : HJ} {P P1 : HP}
theorem kI {v : Int32} (hp : pc + 3 = pc') (k : Rj X d bc bs M Q pc' L (.int v :: st) n1 I1 J1 P1) : ∀ r n' I' J' P', rI v n1 I1 J1 P1 r n' I' J' P' → Rj X d bc bs M Q (pc + 3) L (r.toList ++ st) n' I' J' P' := by
  rintro r n' I' J' P' ⟨rfl, rfl, rfl, rfl, rfl⟩
  subst hp; exact k
theorem kJ {v : Int64} (hp : pc + 3 = pc') (k : Rj X d bc bs M Q pc' L (.long v :: st) n1 I1 J1 P1) : ∀ r n' I' J' P', rJ v n1 I1 J1 P1 r n' I' J' P' → Rj X d bc bs M Q (pc + 3) L (r.toList ++ st) n' I' J' P' := by
  rintro r n' I' J' P' ⟨rfl, rfl, rfl, rfl, rfl⟩
  subst hp; exact k
theorem kV (hp : pc + 3 = pc') (k : Rj X d bc bs M Q pc' L st n1 I1 J1 P1) : ∀ r n' I' J' P', rV n1 I1 J1 P1 r n' I' J' P' → Rj X d bc bs M Q (pc + 3) L (r.toList ++ st) n' I' J' P' := by
  rintro r n' I' J' P' ⟨rfl, rfl, rfl, rfl, rfl⟩
  subst hp; exact k
end JZ
end
section
set_option maxRecDepth 20000 in
theorem jvw_oi : Cond.instanceMethod objectInit ∈ jv_tbl := jv_in (i := 66) (by rfl) rfl
set_option maxRecDepth 20000 in
theorem jvw_oc : Cond.code objectInit ⟨#[0xb1]⟩ 1 none ∈ jv_tbl := jv_in (i := 67) (by rfl) rfl
set_option maxRecDepth 20000 in
theorem jvw_an : Cond.native arraycopyName ∈ jv_tbl := jv_in (i := 400) (by rfl) rfl
set_option maxRecDepth 20000 in
theorem jvw_as : Cond.static arraycopyName ∈ jv_tbl := jv_in (i := 399) (by rfl) rfl
set_option maxRecDepth 20000 in
theorem jvw_ai : Cond.initialized "java/lang/System" ∈ jv_tbl := jv_in (i := 51) (by rfl) rfl
set_option maxRecDepth 20000 in
theorem jvw_int : Cond.arrayClass .int ∈ jv_tbl := jv_in (i := 92) (by rfl) rfl
set_option maxRecDepth 20000 in
theorem jvw_byte : Cond.arrayClass .byte ∈ jv_tbl := jv_in (i := 209) (by rfl) rfl
set_option maxRecDepth 20000 in
theorem jvw_long : Cond.arrayClass .long ∈ jv_tbl := jv_in (i := 231) (by rfl) rfl
set_option maxRecDepth 20000 in
theorem jvw_boolean : Cond.arrayClass .boolean ∈ jv_tbl := jv_in (i := 855) (by rfl) rfl
set_option maxRecDepth 20000 in
theorem fX5_11 : PF RX5 11 3 0 := ⟨by decide, by decide, jv_in (i := 80) (by rfl) rfl⟩
set_option maxRecDepth 20000 in
theorem fX5_15 : PF RX5 15 3 1 := ⟨by decide, by decide, jv_in (i := 81) (by rfl) rfl⟩
set_option maxRecDepth 20000 in
theorem fX5_19 : PF RX5 19 3 2 := ⟨by decide, by decide, jv_in (i := 82) (by rfl) rfl⟩
set_option maxRecDepth 20000 in
theorem fX8_62 : PF RX8 62 3 2 := ⟨by decide, by decide, jv_in (i := 83) (by rfl) rfl⟩
set_option maxRecDepth 20000 in
theorem fX9_131 : PF RX9 131 3 2 := ⟨by decide, by decide, jv_in (i := 84) (by rfl) rfl⟩
set_option maxRecDepth 20000 in
theorem fX8_9 : PF RX8 9 6 0 := ⟨by decide, by decide, jv_in (i := 93) (by rfl) rfl⟩
set_option maxRecDepth 20000 in
theorem fX1_38 : PF RX1 38 6 0 := ⟨by decide, by decide, jv_in (i := 94) (by rfl) rfl⟩
set_option maxRecDepth 20000 in
theorem fX3_41 : PF RX3 41 6 0 := ⟨by decide, by decide, jv_in (i := 95) (by rfl) rfl⟩
set_option maxRecDepth 20000 in
theorem fX7_56 : PF RX7 56 6 0 := ⟨by decide, by decide, jv_in (i := 96) (by rfl) rfl⟩
set_option maxRecDepth 20000 in
theorem fX9_139 : PF RX9 139 6 0 := ⟨by decide, by decide, jv_in (i := 97) (by rfl) rfl⟩
set_option maxRecDepth 20000 in
theorem fX8_15 : PF RX8 15 6 1 := ⟨by decide, by decide, jv_in (i := 98) (by rfl) rfl⟩
set_option maxRecDepth 20000 in
theorem fX9_79 : PF RX9 79 6 1 := ⟨by decide, by decide, jv_in (i := 99) (by rfl) rfl⟩
set_option maxRecDepth 20000 in
theorem fX3_44 : PF RX3 44 6 1 := ⟨by decide, by decide, jv_in (i := 100) (by rfl) rfl⟩
set_option maxRecDepth 20000 in
theorem fX7_59 : PF RX7 59 6 1 := ⟨by decide, by decide, jv_in (i := 101) (by rfl) rfl⟩
set_option maxRecDepth 20000 in
theorem fX6_86 : PF RX6 86 6 1 := ⟨by decide, by decide, jv_in (i := 102) (by rfl) rfl⟩
set_option maxRecDepth 20000 in
theorem fX8_18 : PF RX8 18 6 2 := ⟨by decide, by decide, jv_in (i := 103) (by rfl) rfl⟩
set_option maxRecDepth 20000 in
theorem fX3_47 : PF RX3 47 6 2 := ⟨by decide, by decide, jv_in (i := 104) (by rfl) rfl⟩
set_option maxRecDepth 20000 in
theorem fX7_34 : PF RX7 34 6 2 := ⟨by decide, by decide, jv_in (i := 105) (by rfl) rfl⟩
set_option maxRecDepth 20000 in
theorem fX9_82 : PF RX9 82 6 2 := ⟨by decide, by decide, jv_in (i := 106) (by rfl) rfl⟩
set_option maxRecDepth 20000 in
theorem fX1_60 : PF RX1 60 6 2 := ⟨by decide, by decide, jv_in (i := 107) (by rfl) rfl⟩
set_option maxRecDepth 20000 in
theorem fX6_88 : PF RX6 88 6 2 := ⟨by decide, by decide, jv_in (i := 108) (by rfl) rfl⟩
set_option maxRecDepth 20000 in
theorem fX8_21 : PF RX8 21 6 3 := ⟨by decide, by decide, jv_in (i := 109) (by rfl) rfl⟩
set_option maxRecDepth 20000 in
theorem fX9_65 : PF RX9 65 6 3 := ⟨by decide, by decide, jv_in (i := 110) (by rfl) rfl⟩
set_option maxRecDepth 20000 in
theorem fX1_57 : PF RX1 57 6 3 := ⟨by decide, by decide, jv_in (i := 111) (by rfl) rfl⟩
set_option maxRecDepth 20000 in
theorem fX6_90 : PF RX6 90 6 3 := ⟨by decide, by decide, jv_in (i := 112) (by rfl) rfl⟩
set_option maxRecDepth 20000 in
theorem fX7_77 : PF RX7 77 6 3 := ⟨by decide, by decide, jv_in (i := 113) (by rfl) rfl⟩
set_option maxRecDepth 20000 in
theorem fX8_24 : PF RX8 24 6 4 := ⟨by decide, by decide, jv_in (i := 114) (by rfl) rfl⟩
set_option maxRecDepth 20000 in
theorem fX3_65 : PF RX3 65 6 4 := ⟨by decide, by decide, jv_in (i := 115) (by rfl) rfl⟩
set_option maxRecDepth 20000 in
theorem fX6_101 : PF RX6 101 6 4 := ⟨by decide, by decide, jv_in (i := 116) (by rfl) rfl⟩
set_option maxRecDepth 20000 in
theorem fX9_236 : PF RX9 236 6 4 := ⟨by decide, by decide, jv_in (i := 117) (by rfl) rfl⟩
set_option maxRecDepth 20000 in
theorem fX8_27 : PF RX8 27 6 5 := ⟨by decide, by decide, jv_in (i := 118) (by rfl) rfl⟩
set_option maxRecDepth 20000 in
theorem fX7_19 : PF RX7 19 6 5 := ⟨by decide, by decide, jv_in (i := 119) (by rfl) rfl⟩
set_option maxRecDepth 20000 in
theorem fX9_194 : PF RX9 194 6 5 := ⟨by decide, by decide, jv_in (i := 120) (by rfl) rfl⟩
set_option maxRecDepth 20000 in
theorem fX8_30 : PF RX8 30 6 6 := ⟨by decide, by decide, jv_in (i := 121) (by rfl) rfl⟩
set_option maxRecDepth 20000 in
theorem fX3_35 : PF RX3 35 6 6 := ⟨by decide, by decide, jv_in (i := 122) (by rfl) rfl⟩
set_option maxRecDepth 20000 in
theorem fX1_67 : PF RX1 67 6 6 := ⟨by decide, by decide, jv_in (i := 123) (by rfl) rfl⟩
set_option maxRecDepth 20000 in
theorem fX7_83 : PF RX7 83 6 6 := ⟨by decide, by decide, jv_in (i := 124) (by rfl) rfl⟩
set_option maxRecDepth 20000 in
theorem fX9_142 : PF RX9 142 6 6 := ⟨by decide, by decide, jv_in (i := 125) (by rfl) rfl⟩
set_option maxRecDepth 20000 in
theorem fX8_34 : PF RX8 34 6 7 := ⟨by decide, by decide, jv_in (i := 126) (by rfl) rfl⟩
set_option maxRecDepth 20000 in
theorem fX1_31 : PF RX1 31 6 7 := ⟨by decide, by decide, jv_in (i := 127) (by rfl) rfl⟩
set_option maxRecDepth 20000 in
theorem fX7_28 : PF RX7 28 6 7 := ⟨by decide, by decide, jv_in (i := 128) (by rfl) rfl⟩
set_option maxRecDepth 20000 in
theorem fX3_56 : PF RX3 56 6 7 := ⟨by decide, by decide, jv_in (i := 129) (by rfl) rfl⟩
set_option maxRecDepth 20000 in
theorem fX9_116 : PF RX9 116 6 7 := ⟨by decide, by decide, jv_in (i := 130) (by rfl) rfl⟩
set_option maxRecDepth 20000 in
theorem fX8_37 : PF RX8 37 6 8 := ⟨by decide, by decide, jv_in (i := 131) (by rfl) rfl⟩
set_option maxRecDepth 20000 in
theorem fX9_145 : PF RX9 145 6 8 := ⟨by decide, by decide, jv_in (i := 132) (by rfl) rfl⟩
set_option maxRecDepth 20000 in
theorem fX8_40 : PF RX8 40 6 9 := ⟨by decide, by decide, jv_in (i := 133) (by rfl) rfl⟩
set_option maxRecDepth 20000 in
theorem fX1_26 : PF RX1 26 6 9 := ⟨by decide, by decide, jv_in (i := 134) (by rfl) rfl⟩
set_option maxRecDepth 20000 in
theorem fX9_148 : PF RX9 148 6 9 := ⟨by decide, by decide, jv_in (i := 135) (by rfl) rfl⟩
set_option maxRecDepth 20000 in
theorem fX8_43 : PF RX8 43 6 10 := ⟨by decide, by decide, jv_in (i := 136) (by rfl) rfl⟩
set_option maxRecDepth 20000 in
theorem fX3_68 : PF RX3 68 6 10 := ⟨by decide, by decide, jv_in (i := 137) (by rfl) rfl⟩
set_option maxRecDepth 20000 in
theorem fX8_46 : PF RX8 46 6 11 := ⟨by decide, by decide, jv_in (i := 138) (by rfl) rfl⟩
set_option maxRecDepth 20000 in
theorem fX7_25 : PF RX7 25 6 11 := ⟨by decide, by decide, jv_in (i := 139) (by rfl) rfl⟩
set_option maxRecDepth 20000 in
theorem fX8_49 : PF RX8 49 6 12 := ⟨by decide, by decide, jv_in (i := 140) (by rfl) rfl⟩
set_option maxRecDepth 20000 in
theorem fX7_31 : PF RX7 31 6 12 := ⟨by decide, by decide, jv_in (i := 141) (by rfl) rfl⟩
set_option maxRecDepth 20000 in
theorem fX8_52 : PF RX8 52 6 13 := ⟨by decide, by decide, jv_in (i := 142) (by rfl) rfl⟩
set_option maxRecDepth 20000 in
theorem fX7_41 : PF RX7 41 6 13 := ⟨by decide, by decide, jv_in (i := 143) (by rfl) rfl⟩
set_option maxRecDepth 20000 in
theorem fX8_58 : PF RX8 58 6 14 := ⟨by decide, by decide, jv_in (i := 144) (by rfl) rfl⟩
set_option maxRecDepth 20000 in
theorem fX9_127 : PF RX9 127 6 14 := ⟨by decide, by decide, jv_in (i := 145) (by rfl) rfl⟩
set_option maxRecDepth 20000 in
theorem fX6_9 : PF RX6 9 4 0 := ⟨by decide, by decide, jv_in (i := 186) (by rfl) rfl⟩
set_option maxRecDepth 20000 in
theorem fX6_15 : PF RX6 15 4 1 := ⟨by decide, by decide, jv_in (i := 187) (by rfl) rfl⟩
set_option maxRecDepth 20000 in
theorem fX9_242 : PF RX9 242 4 1 := ⟨by decide, by decide, jv_in (i := 188) (by rfl) rfl⟩
set_option maxRecDepth 20000 in
theorem fX6_22 : PF RX6 22 4 2 := ⟨by decide, by decide, jv_in (i := 189) (by rfl) rfl⟩
set_option maxRecDepth 20000 in
theorem fX6_26 : PF RX6 26 4 3 := ⟨by decide, by decide, jv_in (i := 190) (by rfl) rfl⟩
set_option maxRecDepth 20000 in
theorem fX6_29 : PF RX6 29 4 4 := ⟨by decide, by decide, jv_in (i := 191) (by rfl) rfl⟩
set_option maxRecDepth 20000 in
theorem fX6_32 : PF RX6 32 4 5 := ⟨by decide, by decide, jv_in (i := 192) (by rfl) rfl⟩
set_option maxRecDepth 20000 in
theorem fX6_35 : PF RX6 35 4 6 := ⟨by decide, by decide, jv_in (i := 193) (by rfl) rfl⟩
set_option maxRecDepth 20000 in
theorem fX1_9 : PF RX1 9 0 0 := ⟨by decide, by decide, jv_in (i := 216) (by rfl) rfl⟩
set_option maxRecDepth 20000 in
theorem fX1_15 : PF RX1 15 0 1 := ⟨by decide, by decide, jv_in (i := 217) (by rfl) rfl⟩
set_option maxRecDepth 20000 in
theorem fX1_19 : PF RX1 19 0 2 := ⟨by decide, by decide, jv_in (i := 218) (by rfl) rfl⟩
set_option maxRecDepth 20000 in
theorem fX9_168 : PF RX9 168 0 2 := ⟨by decide, by decide, jv_in (i := 219) (by rfl) rfl⟩
set_option maxRecDepth 20000 in
theorem fX1_23 : PF RX1 23 0 3 := ⟨by decide, by decide, jv_in (i := 220) (by rfl) rfl⟩
set_option maxRecDepth 20000 in
theorem fX9_171 : PF RX9 171 0 3 := ⟨by decide, by decide, jv_in (i := 221) (by rfl) rfl⟩
set_option maxRecDepth 20000 in
theorem fX3_9 : PF RX3 9 2 0 := ⟨by decide, by decide, jv_in (i := 238) (by rfl) rfl⟩
set_option maxRecDepth 20000 in
theorem fX3_15 : PF RX3 15 2 1 := ⟨by decide, by decide, jv_in (i := 239) (by rfl) rfl⟩
set_option maxRecDepth 20000 in
theorem fX3_18 : PF RX3 18 2 2 := ⟨by decide, by decide, jv_in (i := 240) (by rfl) rfl⟩
set_option maxRecDepth 20000 in
theorem fX9_178 : PF RX9 178 2 2 := ⟨by decide, by decide, jv_in (i := 241) (by rfl) rfl⟩
set_option maxRecDepth 20000 in
theorem fX3_21 : PF RX3 21 2 3 := ⟨by decide, by decide, jv_in (i := 242) (by rfl) rfl⟩
set_option maxRecDepth 20000 in
theorem fX9_181 : PF RX9 181 2 3 := ⟨by decide, by decide, jv_in (i := 243) (by rfl) rfl⟩
set_option maxRecDepth 20000 in
theorem fX3_24 : PF RX3 24 2 4 := ⟨by decide, by decide, jv_in (i := 244) (by rfl) rfl⟩
set_option maxRecDepth 20000 in
theorem fX9_184 : PF RX9 184 2 4 := ⟨by decide, by decide, jv_in (i := 245) (by rfl) rfl⟩
set_option maxRecDepth 20000 in
theorem fX7_9 : PF RX7 9 5 0 := ⟨by decide, by decide, jv_in (i := 263) (by rfl) rfl⟩
set_option maxRecDepth 20000 in
theorem fX2_7 : PF RX2 7 1 0 := ⟨by decide, by decide, jv_in (i := 273) (by rfl) rfl⟩
set_option maxRecDepth 20000 in
theorem fX9_226 : PF RX9 226 1 0 := ⟨by decide, by decide, jv_in (i := 274) (by rfl) rfl⟩
set_option maxRecDepth 20000 in
theorem fX2_13 : PF RX2 13 1 1 := ⟨by decide, by decide, jv_in (i := 275) (by rfl) rfl⟩
set_option maxRecDepth 20000 in
theorem fX9_230 : PF RX9 230 1 1 := ⟨by decide, by decide, jv_in (i := 276) (by rfl) rfl⟩
set_option maxRecDepth 20000 in
theorem fX9_10 : PF RX9 10 7 0 := ⟨by decide, by decide, jv_in (i := 282) (by rfl) rfl⟩
set_option maxRecDepth 20000 in
theorem fX9_16 : PF RX9 16 7 1 := ⟨by decide, by decide, jv_in (i := 283) (by rfl) rfl⟩
set_option maxRecDepth 20000 in
theorem fX9_23 : PF RX9 23 7 2 := ⟨by decide, by decide, jv_in (i := 284) (by rfl) rfl⟩
set_option maxRecDepth 20000 in
theorem fX9_30 : PF RX9 30 7 3 := ⟨by decide, by decide, jv_in (i := 285) (by rfl) rfl⟩
set_option maxRecDepth 20000 in
theorem fX9_37 : PF RX9 37 7 4 := ⟨by decide, by decide, jv_in (i := 286) (by rfl) rfl⟩
set_option maxRecDepth 20000 in
theorem fX9_44 : PF RX9 44 7 5 := ⟨by decide, by decide, jv_in (i := 287) (by rfl) rfl⟩
set_option maxRecDepth 20000 in
theorem fX9_51 : PF RX9 51 7 6 := ⟨by decide, by decide, jv_in (i := 288) (by rfl) rfl⟩
set_option maxRecDepth 20000 in
theorem fX9_55 : PF RX9 55 7 7 := ⟨by decide, by decide, jv_in (i := 289) (by rfl) rfl⟩
set_option maxRecDepth 20000 in
theorem fX9_59 : PF RX9 59 7 8 := ⟨by decide, by decide, jv_in (i := 290) (by rfl) rfl⟩
set_option maxRecDepth 20000 in
theorem fX9_62 : PF RX9 62 7 9 := ⟨by decide, by decide, jv_in (i := 291) (by rfl) rfl⟩
set_option maxRecDepth 20000 in
theorem fJ0_38 : Cond.fieldLink RJ0 38 "java/lang/String" "COMPACT_STRINGS" "Z" ∈ jv_tbl := jv_in (i := 423) (by rfl) rfl
set_option maxRecDepth 20000 in
theorem fJ0_1053 : Cond.fieldLink RJ0 1053 "jdk/internal/util/Preconditions" "SIOOBE_FORMATTER" "Ljava/util/function/BiFunction;" ∈ jv_tbl := jv_in (i := 439) (by rfl) rfl
set_option maxRecDepth 20000 in
theorem fX10_7 : PF RX10 7 8 0 := ⟨by decide, by decide, jv_in (i := 785) (by rfl) rfl⟩
set_option maxRecDepth 20000 in
theorem fX10_13 : PF RX10 13 8 1 := ⟨by decide, by decide, jv_in (i := 786) (by rfl) rfl⟩
set_option maxRecDepth 20000 in
theorem fX10_16 : PF RX10 16 8 2 := ⟨by decide, by decide, jv_in (i := 787) (by rfl) rfl⟩
set_option maxRecDepth 20000 in
theorem fX10_19 : PF RX10 19 8 3 := ⟨by decide, by decide, jv_in (i := 788) (by rfl) rfl⟩
set_option maxRecDepth 20000 in
theorem fX10_66 : PF RX10 66 8 4 := ⟨by decide, by decide, jv_in (i := 789) (by rfl) rfl⟩
set_option maxRecDepth 20000 in
theorem fX10_23 : PF RX10 23 8 5 := ⟨by decide, by decide, jv_in (i := 790) (by rfl) rfl⟩
set_option maxRecDepth 20000 in
theorem fX10_70 : PF RX10 70 8 6 := ⟨by decide, by decide, jv_in (i := 791) (by rfl) rfl⟩
set_option maxRecDepth 20000 in
theorem fX10_76 : PF RX10 76 8 7 := ⟨by decide, by decide, jv_in (i := 792) (by rfl) rfl⟩
set_option maxRecDepth 20000 in
theorem fX10_79 : PF RX10 79 8 8 := ⟨by decide, by decide, jv_in (i := 793) (by rfl) rfl⟩
set_option maxRecDepth 20000 in
theorem fX10_82 : PF RX10 82 8 9 := ⟨by decide, by decide, jv_in (i := 794) (by rfl) rfl⟩
set_option maxRecDepth 20000 in
theorem fX10_91 : PF RX10 91 8 10 := ⟨by decide, by decide, jv_in (i := 795) (by rfl) rfl⟩
set_option maxRecDepth 20000 in
theorem fX10_101 : PF RX10 101 8 11 := ⟨by decide, by decide, jv_in (i := 796) (by rfl) rfl⟩
set_option maxRecDepth 20000 in
theorem fX10_170 : PF RX10 170 8 12 := ⟨by decide, by decide, jv_in (i := 797) (by rfl) rfl⟩
set_option maxRecDepth 20000 in
theorem fX10_26 : PF RX10 26 8 13 := ⟨by decide, by decide, jv_in (i := 798) (by rfl) rfl⟩
set_option maxRecDepth 20000 in
theorem fX10_30 : PF RX10 30 8 14 := ⟨by decide, by decide, jv_in (i := 799) (by rfl) rfl⟩
set_option maxRecDepth 20000 in
theorem fX10_33 : PF RX10 33 8 15 := ⟨by decide, by decide, jv_in (i := 800) (by rfl) rfl⟩
set_option maxRecDepth 20000 in
theorem fX10_36 : PF RX10 36 8 16 := ⟨by decide, by decide, jv_in (i := 801) (by rfl) rfl⟩
set_option maxRecDepth 20000 in
theorem fX10_148 : PF RX10 148 8 17 := ⟨by decide, by decide, jv_in (i := 802) (by rfl) rfl⟩
set_option maxRecDepth 20000 in
theorem fX10_151 : PF RX10 151 8 18 := ⟨by decide, by decide, jv_in (i := 803) (by rfl) rfl⟩
set_option maxRecDepth 20000 in
theorem fX10_154 : PF RX10 154 8 19 := ⟨by decide, by decide, jv_in (i := 804) (by rfl) rfl⟩
set_option maxRecDepth 20000 in
theorem fX10_39 : PF RX10 39 8 20 := ⟨by decide, by decide, jv_in (i := 805) (by rfl) rfl⟩
set_option maxRecDepth 20000 in
theorem fX10_43 : PF RX10 43 8 21 := ⟨by decide, by decide, jv_in (i := 806) (by rfl) rfl⟩
set_option maxRecDepth 20000 in
theorem fX10_195 : PF RX10 195 8 22 := ⟨by decide, by decide, jv_in (i := 807) (by rfl) rfl⟩
set_option maxRecDepth 20000 in
theorem fJ0_9 : Cond.fieldLink RJ0 9 "java/lang/String" "value" "[B" ∈ jv_tbl := jv_in (i := 1094) (by rfl) rfl
set_option maxRecDepth 20000 in
theorem fJ0_15 : Cond.fieldLink RJ0 15 "java/lang/String" "coder" "B" ∈ jv_tbl := jv_in (i := 1095) (by rfl) rfl
set_option maxRecDepth 20000 in
theorem nL_7 : Cond.classLink x.cls 7 RX9 ∈ jv_tbl := jv_in (i := 60) (by rfl) rfl
set_option maxRecDepth 20000 in
theorem nX9_7 : Cond.classLink RX9 7 RX8 ∈ jv_tbl := jv_in (i := 68) (by rfl) rfl
set_option maxRecDepth 20000 in
theorem nX8_55 : Cond.classLink RX8 55 RX5 ∈ jv_tbl := jv_in (i := 74) (by rfl) rfl
set_option maxRecDepth 20000 in
theorem nX9_20 : Cond.classLink RX9 20 RX6 ∈ jv_tbl := jv_in (i := 178) (by rfl) rfl
set_option maxRecDepth 20000 in
theorem nX6_19 : Cond.classLink RX6 19 RX8 ∈ jv_tbl := jv_in (i := 184) (by rfl) rfl
set_option maxRecDepth 20000 in
theorem nX9_27 : Cond.classLink RX9 27 RX1 ∈ jv_tbl := jv_in (i := 210) (by rfl) rfl
set_option maxRecDepth 20000 in
theorem nX9_34 : Cond.classLink RX9 34 RX3 ∈ jv_tbl := jv_in (i := 232) (by rfl) rfl
set_option maxRecDepth 20000 in
theorem nX9_41 : Cond.classLink RX9 41 RX7 ∈ jv_tbl := jv_in (i := 257) (by rfl) rfl
set_option maxRecDepth 20000 in
theorem nX9_48 : Cond.classLink RX9 48 RX2 ∈ jv_tbl := jv_in (i := 267) (by rfl) rfl
set_option maxRecDepth 20000 in
theorem kJ6_265 : Cond.constant RJ6 265 (1431655765) ∈ jv_tbl := jv_in (i := 594) (by rfl) rfl
set_option maxRecDepth 20000 in
theorem kJ6_266 : Cond.constant RJ6 266 (858993459) ∈ jv_tbl := jv_in (i := 595) (by rfl) rfl
set_option maxRecDepth 20000 in
theorem kJ6_267 : Cond.constant RJ6 267 (252645135) ∈ jv_tbl := jv_in (i := 596) (by rfl) rfl
set_option maxRecDepth 20000 in
theorem kX1_88 : Cond.constantLong RX1 88 (10) ∈ jv_tbl := jv_in (i := 717) (by rfl) rfl
set_option maxRecDepth 20000 in
theorem kX9_221 : Cond.constant RX9 221 (999999) ∈ jv_tbl := jv_in (i := 729) (by rfl) rfl
set_option maxRecDepth 20000 in
theorem kX1_74 : Cond.constantLong RX1 74 (1103515245) ∈ jv_tbl := jv_in (i := 734) (by rfl) rfl
set_option maxRecDepth 20000 in
theorem kX1_76 : Cond.constantLong RX1 76 (12345) ∈ jv_tbl := jv_in (i := 735) (by rfl) rfl
set_option maxRecDepth 20000 in
theorem kX1_78 : Cond.constantLong RX1 78 (2147483648) ∈ jv_tbl := jv_in (i := 736) (by rfl) rfl
set_option maxRecDepth 20000 in
theorem kX1_80 : Cond.constantLong RX1 80 (65536) ∈ jv_tbl := jv_in (i := 737) (by rfl) rfl
set_option maxRecDepth 20000 in
theorem kX1_82 : Cond.constantLong RX1 82 (100) ∈ jv_tbl := jv_in (i := 738) (by rfl) rfl
set_option maxRecDepth 20000 in
theorem kX9_245 : Cond.constantLong RX9 245 (1049) ∈ jv_tbl := jv_in (i := 768) (by rfl) rfl
set_option maxRecDepth 20000 in
theorem kX9_247 : Cond.constantLong RX9 247 (31) ∈ jv_tbl := jv_in (i := 769) (by rfl) rfl
set_option maxRecDepth 20000 in
theorem kX8_89 : Cond.constantLong RX8 89 (31) ∈ jv_tbl := jv_in (i := 775) (by rfl) rfl
set_option maxRecDepth 20000 in
theorem nL_10 : Cond.classLink x.cls 10 RX10 ∈ jv_tbl := jv_in (i := 776) (by rfl) rfl
set_option maxRecDepth 20000 in
theorem kX10_85 : Cond.constantLong RX10 85 (32) ∈ jv_tbl := jv_in (i := 909) (by rfl) rfl
set_option maxRecDepth 20000 in
theorem kX10_87 : Cond.constantLong RX10 87 (96) ∈ jv_tbl := jv_in (i := 910) (by rfl) rfl
set_option maxRecDepth 20000 in
theorem kX10_89 : Cond.constantLong RX10 89 (-1) ∈ jv_tbl := jv_in (i := 911) (by rfl) rfl
set_option maxRecDepth 20000 in
theorem kX10_173 : Cond.constantLong RX10 173 (10) ∈ jv_tbl := jv_in (i := 1045) (by rfl) rfl
set_option maxRecDepth 20000 in
theorem kX10_179 : Cond.constant RX10 179 (999999) ∈ jv_tbl := jv_in (i := 1054) (by rfl) rfl
set_option maxRecDepth 20000 in
theorem kX10_180 : Cond.constantLong RX10 180 (1103515245) ∈ jv_tbl := jv_in (i := 1055) (by rfl) rfl
set_option maxRecDepth 20000 in
theorem kX10_182 : Cond.constantLong RX10 182 (12345) ∈ jv_tbl := jv_in (i := 1056) (by rfl) rfl
set_option maxRecDepth 20000 in
theorem kX10_184 : Cond.constantLong RX10 184 (2147483648) ∈ jv_tbl := jv_in (i := 1057) (by rfl) rfl
set_option maxRecDepth 20000 in
theorem kX10_186 : Cond.constantLong RX10 186 (65536) ∈ jv_tbl := jv_in (i := 1058) (by rfl) rfl
set_option maxRecDepth 20000 in
theorem kX10_188 : Cond.constantLong RX10 188 (100) ∈ jv_tbl := jv_in (i := 1059) (by rfl) rfl
set_option maxRecDepth 20000 in
theorem kX10_198 : Cond.constantLong RX10 198 (1049) ∈ jv_tbl := jv_in (i := 1088) (by rfl) rfl
set_option maxRecDepth 20000 in
theorem kX10_193 : Cond.constantLong RX10 193 (31) ∈ jv_tbl := jv_in (i := 1093) (by rfl) rfl
set_option maxRecDepth 20000 in
theorem iniX1 : Cond.initialized RX1 ∈ jv_tbl := jv_in (i := 46) (by rfl) rfl
set_option maxRecDepth 20000 in
theorem insX1 : Cond.instantiable RX1 4 ∈ jv_tbl := jv_in (i := 211) (by rfl) rfl
set_option maxRecDepth 20000 in
theorem iniX2 : Cond.initialized RX2 ∈ jv_tbl := jv_in (i := 49) (by rfl) rfl
set_option maxRecDepth 20000 in
theorem insX2 : Cond.instantiable RX2 2 ∈ jv_tbl := jv_in (i := 268) (by rfl) rfl
set_option maxRecDepth 20000 in
theorem iniX3 : Cond.initialized RX3 ∈ jv_tbl := jv_in (i := 47) (by rfl) rfl
set_option maxRecDepth 20000 in
theorem insX3 : Cond.instantiable RX3 5 ∈ jv_tbl := jv_in (i := 233) (by rfl) rfl
set_option maxRecDepth 20000 in
theorem iniX5 : Cond.initialized RX5 ∈ jv_tbl := jv_in (i := 44) (by rfl) rfl
set_option maxRecDepth 20000 in
theorem insX5 : Cond.instantiable RX5 3 ∈ jv_tbl := jv_in (i := 75) (by rfl) rfl
set_option maxRecDepth 20000 in
theorem iniX6 : Cond.initialized RX6 ∈ jv_tbl := jv_in (i := 45) (by rfl) rfl
set_option maxRecDepth 20000 in
theorem insX6 : Cond.instantiable RX6 7 ∈ jv_tbl := jv_in (i := 179) (by rfl) rfl
set_option maxRecDepth 20000 in
theorem iniX7 : Cond.initialized RX7 ∈ jv_tbl := jv_in (i := 48) (by rfl) rfl
set_option maxRecDepth 20000 in
theorem insX7 : Cond.instantiable RX7 1 ∈ jv_tbl := jv_in (i := 258) (by rfl) rfl
set_option maxRecDepth 20000 in
theorem iniX8 : Cond.initialized RX8 ∈ jv_tbl := jv_in (i := 43) (by rfl) rfl
set_option maxRecDepth 20000 in
theorem insX8 : Cond.instantiable RX8 15 ∈ jv_tbl := jv_in (i := 69) (by rfl) rfl
set_option maxRecDepth 20000 in
theorem iniX9 : Cond.initialized RX9 ∈ jv_tbl := jv_in (i := 42) (by rfl) rfl
set_option maxRecDepth 20000 in
theorem insX9 : Cond.instantiable RX9 10 ∈ jv_tbl := jv_in (i := 61) (by rfl) rfl
set_option maxRecDepth 20000 in
theorem iniX10 : Cond.initialized RX10 ∈ jv_tbl := jv_in (i := 50) (by rfl) rfl
set_option maxRecDepth 20000 in
theorem insX10 : Cond.instantiable RX10 23 ∈ jv_tbl := jv_in (i := 777) (by rfl) rfl
set_option maxRecDepth 20000 in
theorem pdX0_beginnerWins (own : String) : PMd own mX0_beginnerWins 1 := ⟨jv_in (i := 701) (by rfl) rfl, jv_in (i := 59) (by rfl) rfl, by decide, by decide, by decide +kernel, by decide⟩
set_option maxRecDepth 20000 in
theorem pdX0_firstBroken (own : String) : PMd own mX0_firstBroken 1 := ⟨jv_in (i := 704) (by rfl) rfl, jv_in (i := 59) (by rfl) rfl, by decide, by decide, by decide +kernel, by decide⟩
set_option maxRecDepth 20000 in
theorem pdX1_init (own : String) : PMd own mX1_init 0 := ⟨jv_in (i := 214) (by rfl) rfl, jv_in (i := 46) (by rfl) rfl, by decide, by decide, by decide +kernel, by decide⟩
set_option maxRecDepth 20000 in
theorem pdX1_endOf (own : String) : PMd own mX1_endOf 2 := ⟨jv_in (i := 573) (by rfl) rfl, jv_in (i := 46) (by rfl) rfl, by decide, by decide, by decide +kernel, by decide⟩
set_option maxRecDepth 20000 in
theorem pdX1_lookForEnds (own : String) : PMd own mX1_lookForEnds 1 := ⟨jv_in (i := 585) (by rfl) rfl, jv_in (i := 46) (by rfl) rfl, by decide, by decide, by decide +kernel, by decide⟩
set_option maxRecDepth 20000 in
theorem pdX1_endingInYear (own : String) : PMd own mX1_endingInYear 2 := ⟨jv_in (i := 590) (by rfl) rfl, jv_in (i := 46) (by rfl) rfl, by decide, by decide, by decide +kernel, by decide⟩
set_option maxRecDepth 20000 in
theorem pdX1_worstDrought (own : String) : PMd own mX1_worstDrought 2 := ⟨jv_in (i := 619) (by rfl) rfl, jv_in (i := 46) (by rfl) rfl, by decide, by decide, by decide +kernel, by decide⟩
set_option maxRecDepth 20000 in
theorem pdX1_loavesBehind (own : String) : PMd own mX1_loavesBehind 3 := ⟨jv_in (i := 622) (by rfl) rfl, jv_in (i := 46) (by rfl) rfl, by decide, by decide, by decide +kernel, by decide⟩
set_option maxRecDepth 20000 in
theorem pdX1_loavesBySeed (own : String) : PMd own mX1_loavesBySeed 4 := ⟨jv_in (i := 733) (by rfl) rfl, jv_in (i := 46) (by rfl) rfl, by decide, by decide, by decide +kernel, by decide⟩
set_option maxRecDepth 20000 in
theorem pdX1_chanceWithMice (own : String) : PMd own mX1_chanceWithMice 5 := ⟨jv_in (i := 712) (by rfl) rfl, jv_in (i := 46) (by rfl) rfl, by decide, by decide, by decide +kernel, by decide⟩
set_option maxRecDepth 20000 in
theorem pdX1_miceEat (own : String) : PMd own mX1_miceEat 4 := ⟨jv_in (i := 716) (by rfl) rfl, jv_in (i := 46) (by rfl) rfl, by decide, by decide, by decide +kernel, by decide⟩
set_option maxRecDepth 20000 in
theorem pdX2_init (own : String) : PMd own mX2_init 0 := ⟨jv_in (i := 271) (by rfl) rfl, jv_in (i := 49) (by rfl) rfl, by decide, by decide, by decide +kernel, by decide⟩
set_option maxRecDepth 20000 in
theorem pdX2_set (own : String) : PMd own mX2_set 2 := ⟨jv_in (i := 721) (by rfl) rfl, jv_in (i := 49) (by rfl) rfl, by decide, by decide, by decide +kernel, by decide⟩
set_option maxRecDepth 20000 in
theorem pdX2_commonDivisor (own : String) : PMd own mX2_commonDivisor 2 := ⟨jv_in (i := 724) (by rfl) rfl, jv_in (i := 49) (by rfl) rfl, by decide, by decide, by decide +kernel, by decide⟩
set_option maxRecDepth 20000 in
theorem pdX3_init (own : String) : PMd own mX3_init 0 := ⟨jv_in (i := 236) (by rfl) rfl, jv_in (i := 47) (by rfl) rfl, by decide, by decide, by decide +kernel, by decide⟩
set_option maxRecDepth 20000 in
theorem pdX3_search (own : String) : PMd own mX3_search 4 := ⟨jv_in (i := 604) (by rfl) rfl, jv_in (i := 47) (by rfl) rfl, by decide, by decide, by decide +kernel, by decide⟩
set_option maxRecDepth 20000 in
theorem pdX3_flourNeeded (own : String) : PMd own mX3_flourNeeded 3 := ⟨jv_in (i := 607) (by rfl) rfl, jv_in (i := 47) (by rfl) rfl, by decide, by decide, by decide +kernel, by decide⟩
set_option maxRecDepth 20000 in
theorem pdX3_share (own : String) : PMd own mX3_share 7 := ⟨jv_in (i := 612) (by rfl) rfl, jv_in (i := 47) (by rfl) rfl, by decide, by decide, by decide +kernel, by decide⟩
set_option maxRecDepth 20000 in
theorem pdX4_goes (own : String) : PMd own mX4_goes 4 := ⟨jv_in (i := 517) (by rfl) rfl, jv_in (i := 57) (by rfl) rfl, by decide, by decide, by decide +kernel, by decide⟩
set_option maxRecDepth 20000 in
theorem pdX4_leftAfter (own : String) : PMd own mX4_leftAfter 5 := ⟨jv_in (i := 514) (by rfl) rfl, jv_in (i := 57) (by rfl) rfl, by decide, by decide, by decide +kernel, by decide⟩
set_option maxRecDepth 20000 in
theorem pdX5_init (own : String) : PMd own mX5_init 0 := ⟨jv_in (i := 78) (by rfl) rfl, jv_in (i := 44) (by rfl) rfl, by decide, by decide, by decide +kernel, by decide⟩
set_option maxRecDepth 20000 in
theorem pdX5_copy (own : String) : PMd own mX5_copy 1 := ⟨jv_in (i := 404) (by rfl) rfl, jv_in (i := 44) (by rfl) rfl, by decide, by decide, by decide +kernel, by decide⟩
set_option maxRecDepth 20000 in
theorem pdX5_push (own : String) : PMd own mX5_push 3 := ⟨jv_in (i := 508) (by rfl) rfl, jv_in (i := 44) (by rfl) rfl, by decide, by decide, by decide +kernel, by decide⟩
set_option maxRecDepth 20000 in
theorem pdX5_pop (own : String) : PMd own mX5_pop 2 := ⟨jv_in (i := 552) (by rfl) rfl, jv_in (i := 44) (by rfl) rfl, by decide, by decide, by decide +kernel, by decide⟩
set_option maxRecDepth 20000 in
theorem pdX6_init (own : String) : PMd own mX6_init 0 := ⟨jv_in (i := 182) (by rfl) rfl, jv_in (i := 45) (by rfl) rfl, by decide, by decide, by decide +kernel, by decide⟩
set_option maxRecDepth 20000 in
theorem pdX6_addSign (own : String) : PMd own mX6_addSign 1 := ⟨jv_in (i := 363) (by rfl) rfl, jv_in (i := 45) (by rfl) rfl, by decide, by decide, by decide +kernel, by decide⟩
set_option maxRecDepth 20000 in
theorem pdX6_empty (own : String) : PMd own mX6_empty 0 := ⟨jv_in (i := 371) (by rfl) rfl, jv_in (i := 45) (by rfl) rfl, by decide, by decide, by decide +kernel, by decide⟩
set_option maxRecDepth 20000 in
theorem pdX6_readInto (own : String) : PMd own mX6_readInto 1 := ⟨jv_in (i := 379) (by rfl) rfl, jv_in (i := 45) (by rfl) rfl, by decide, by decide, by decide +kernel, by decide⟩
set_option maxRecDepth 20000 in
theorem pdX6_readItem (own : String) : PMd own mX6_readItem 1 := ⟨jv_in (i := 409) (by rfl) rfl, jv_in (i := 45) (by rfl) rfl, by decide, by decide, by decide +kernel, by decide⟩
set_option maxRecDepth 20000 in
theorem pdX6_readDamp (own : String) : PMd own mX6_readDamp 0 := ⟨jv_in (i := 471) (by rfl) rfl, jv_in (i := 45) (by rfl) rfl, by decide, by decide, by decide +kernel, by decide⟩
set_option maxRecDepth 20000 in
theorem pdX6_readDry (own : String) : PMd own mX6_readDry 0 := ⟨jv_in (i := 480) (by rfl) rfl, jv_in (i := 45) (by rfl) rfl, by decide, by decide, by decide +kernel, by decide⟩
set_option maxRecDepth 20000 in
theorem pdX6_readPair (own : String) : PMd own mX6_readPair 0 := ⟨jv_in (i := 485) (by rfl) rfl, jv_in (i := 45) (by rfl) rfl, by decide, by decide, by decide +kernel, by decide⟩
set_option maxRecDepth 20000 in
theorem pdX6_readKin (own : String) : PMd own mX6_readKin 0 := ⟨jv_in (i := 495) (by rfl) rfl, jv_in (i := 45) (by rfl) rfl, by decide, by decide, by decide +kernel, by decide⟩
set_option maxRecDepth 20000 in
theorem pdX6_takeYears (own : String) : PMd own mX6_takeYears 0 := ⟨jv_in (i := 475) (by rfl) rfl, jv_in (i := 45) (by rfl) rfl, by decide, by decide, by decide +kernel, by decide⟩
set_option maxRecDepth 20000 in
theorem pdX6_takeNumber (own : String) : PMd own mX6_takeNumber 2 := ⟨jv_in (i := 489) (by rfl) rfl, jv_in (i := 45) (by rfl) rfl, by decide, by decide, by decide +kernel, by decide⟩
set_option maxRecDepth 20000 in
theorem pdX6_takeSemicolon (own : String) : PMd own mX6_takeSemicolon 0 := ⟨jv_in (i := 466) (by rfl) rfl, jv_in (i := 45) (by rfl) rfl, by decide, by decide, by decide +kernel, by decide⟩
set_option maxRecDepth 20000 in
theorem pdX6_takeToken (own : String) : PMd own mX6_takeToken 0 := ⟨jv_in (i := 384) (by rfl) rfl, jv_in (i := 45) (by rfl) rfl, by decide, by decide, by decide +kernel, by decide⟩
set_option maxRecDepth 20000 in
theorem pdX6_setNumber (own : String) : PMd own mX6_setNumber 0 := ⟨jv_in (i := 393) (by rfl) rfl, jv_in (i := 45) (by rfl) rfl, by decide, by decide, by decide +kernel, by decide⟩
set_option maxRecDepth 20000 in
theorem pdX6_takeRun (own : String) : PMd own mX6_takeRun 2 := ⟨jv_in (i := 388) (by rfl) rfl, jv_in (i := 45) (by rfl) rfl, by decide, by decide, by decide +kernel, by decide⟩
set_option maxRecDepth 20000 in
theorem pdX6_isWord (own : String) : PMd own mX6_isWord 1 := ⟨jv_in (i := 414) (by rfl) rfl, jv_in (i := 45) (by rfl) rfl, by decide, by decide, by decide +kernel, by decide⟩
set_option maxRecDepth 20000 in
theorem pdX7_init (own : String) : PMd own mX7_init 0 := ⟨jv_in (i := 261) (by rfl) rfl, jv_in (i := 48) (by rfl) rfl, by decide, by decide, by decide +kernel, by decide⟩
set_option maxRecDepth 20000 in
theorem pdX7_kindsThatFit (own : String) : PMd own mX7_kindsThatFit 2 := ⟨jv_in (i := 642) (by rfl) rfl, jv_in (i := 48) (by rfl) rfl, by decide, by decide, by decide +kernel, by decide⟩
set_option maxRecDepth 20000 in
theorem pdX7_fits (own : String) : PMd own mX7_fits 3 := ⟨jv_in (i := 645) (by rfl) rfl, jv_in (i := 48) (by rfl) rfl, by decide, by decide, by decide +kernel, by decide⟩
set_option maxRecDepth 20000 in
theorem pdX7_countNext (own : String) : PMd own mX7_countNext 2 := ⟨jv_in (i := 654) (by rfl) rfl, jv_in (i := 48) (by rfl) rfl, by decide, by decide, by decide +kernel, by decide⟩
set_option maxRecDepth 20000 in
theorem pdX7_passYearByKind (own : String) : PMd own mX7_passYearByKind 2 := ⟨jv_in (i := 668) (by rfl) rfl, jv_in (i := 48) (by rfl) rfl, by decide, by decide, by decide +kernel, by decide⟩
set_option maxRecDepth 20000 in
theorem pdX7_mostAlike (own : String) : PMd own mX7_mostAlike 1 := ⟨jv_in (i := 659) (by rfl) rfl, jv_in (i := 48) (by rfl) rfl, by decide, by decide, by decide +kernel, by decide⟩
set_option maxRecDepth 20000 in
theorem pdX7_howManyHave (own : String) : PMd own mX7_howManyHave 2 := ⟨jv_in (i := 663) (by rfl) rfl, jv_in (i := 48) (by rfl) rfl, by decide, by decide, by decide +kernel, by decide⟩
set_option maxRecDepth 20000 in
theorem pdX7_swaps (own : String) : PMd own mX7_swaps 2 := ⟨jv_in (i := 676) (by rfl) rfl, jv_in (i := 48) (by rfl) rfl, by decide, by decide, by decide +kernel, by decide⟩
set_option maxRecDepth 20000 in
theorem pdX7_fitsSwapped (own : String) : PMd own mX7_fitsSwapped 3 := ⟨jv_in (i := 679) (by rfl) rfl, jv_in (i := 48) (by rfl) rfl, by decide, by decide, by decide +kernel, by decide⟩
set_option maxRecDepth 20000 in
theorem pdX7_pairsPutBack (own : String) : PMd own mX7_pairsPutBack 1 := ⟨jv_in (i := 686) (by rfl) rfl, jv_in (i := 48) (by rfl) rfl, by decide, by decide, by decide +kernel, by decide⟩
set_option maxRecDepth 20000 in
theorem pdX7_fitsPutBack (own : String) : PMd own mX7_fitsPutBack 2 := ⟨jv_in (i := 689) (by rfl) rfl, jv_in (i := 48) (by rfl) rfl, by decide, by decide, by decide +kernel, by decide⟩
set_option maxRecDepth 20000 in
theorem pdX7_leftWithMore (own : String) : PMd own mX7_leftWithMore 4 := ⟨jv_in (i := 692) (by rfl) rfl, jv_in (i := 48) (by rfl) rfl, by decide, by decide, by decide +kernel, by decide⟩
set_option maxRecDepth 20000 in
theorem pdX8_init (own : String) : PMd own mX8_init 0 := ⟨jv_in (i := 72) (by rfl) rfl, jv_in (i := 43) (by rfl) rfl, by decide, by decide, by decide +kernel, by decide⟩
set_option maxRecDepth 20000 in
theorem pdX8_begin (own : String) : PMd own mX8_begin 0 := ⟨jv_in (i := 320) (by rfl) rfl, jv_in (i := 43) (by rfl) rfl, by decide, by decide, by decide +kernel, by decide⟩
set_option maxRecDepth 20000 in
theorem pdX8_copy (own : String) : PMd own mX8_copy 1 := ⟨jv_in (i := 397) (by rfl) rfl, jv_in (i := 43) (by rfl) rfl, by decide, by decide, by decide +kernel, by decide⟩
set_option maxRecDepth 20000 in
theorem pdX8_hasPair (own : String) : PMd own mX8_hasPair 1 := ⟨jv_in (i := 528) (by rfl) rfl, jv_in (i := 43) (by rfl) rfl, by decide, by decide, by decide +kernel, by decide⟩
set_option maxRecDepth 20000 in
theorem pdX8_addPair (own : String) : PMd own mX8_addPair 2 := ⟨jv_in (i := 343) (by rfl) rfl, jv_in (i := 43) (by rfl) rfl, by decide, by decide, by decide +kernel, by decide⟩
set_option maxRecDepth 20000 in
theorem pdX8_addKin (own : String) : PMd own mX8_addKin 1 := ⟨jv_in (i := 355) (by rfl) rfl, jv_in (i := 43) (by rfl) rfl, by decide, by decide, by decide +kernel, by decide⟩
set_option maxRecDepth 20000 in
theorem pdX8_addCounted (own : String) : PMd own mX8_addCounted 3 := ⟨jv_in (i := 631) (by rfl) rfl, jv_in (i := 43) (by rfl) rfl, by decide, by decide, by decide +kernel, by decide⟩
set_option maxRecDepth 20000 in
theorem pdX8_passYear (own : String) : PMd own mX8_passYear 0 := ⟨jv_in (i := 504) (by rfl) rfl, jv_in (i := 43) (by rfl) rfl, by decide, by decide, by decide +kernel, by decide⟩
set_option maxRecDepth 20000 in
theorem pdX8_setLoaves (own : String) : PMd own mX8_setLoaves 2 := ⟨jv_in (i := 540) (by rfl) rfl, jv_in (i := 43) (by rfl) rfl, by decide, by decide, by decide +kernel, by decide⟩
set_option maxRecDepth 20000 in
theorem pdX8_goBack (own : String) : PMd own mX8_goBack 0 := ⟨jv_in (i := 548) (by rfl) rfl, jv_in (i := 43) (by rfl) rfl, by decide, by decide, by decide +kernel, by decide⟩
set_option maxRecDepth 20000 in
theorem pdX8_leftAs (own : String) : PMd own mX8_leftAs 4 := ⟨jv_in (i := 566) (by rfl) rfl, jv_in (i := 43) (by rfl) rfl, by decide, by decide, by decide +kernel, by decide⟩
set_option maxRecDepth 20000 in
theorem pdX8_leftInYear (own : String) : PMd own mX8_leftInYear 3 := ⟨jv_in (i := 577) (by rfl) rfl, jv_in (i := 43) (by rfl) rfl, by decide, by decide, by decide +kernel, by decide⟩
set_option maxRecDepth 20000 in
theorem pdX8_allLoaves (own : String) : PMd own mX8_allLoaves 0 := ⟨jv_in (i := 763) (by rfl) rfl, jv_in (i := 43) (by rfl) rfl, by decide, by decide, by decide +kernel, by decide⟩
set_option maxRecDepth 20000 in
theorem pdX8_digestOn (own : String) : PMd own mX8_digestOn 1 := ⟨jv_in (i := 774) (by rfl) rfl, jv_in (i := 43) (by rfl) rfl, by decide, by decide, by decide +kernel, by decide⟩
set_option maxRecDepth 20000 in
theorem pdX9_init (own : String) : PMd own mX9_init 0 := ⟨jv_in (i := 64) (by rfl) rfl, jv_in (i := 42) (by rfl) rfl, by decide, by decide, by decide +kernel, by decide⟩
set_option maxRecDepth 20000 in
theorem pdX9_valley (own : String) : PMd own mX9_valley 0 := ⟨jv_in (i := 316) (by rfl) rfl, jv_in (i := 42) (by rfl) rfl, by decide, by decide, by decide +kernel, by decide⟩
set_option maxRecDepth 20000 in
theorem pdX9_damp (own : String) : PMd own mX9_damp 1 := ⟨jv_in (i := 324) (by rfl) rfl, jv_in (i := 42) (by rfl) rfl, by decide, by decide, by decide +kernel, by decide⟩
set_option maxRecDepth 20000 in
theorem pdX9_dry (own : String) : PMd own mX9_dry 1 := ⟨jv_in (i := 335) (by rfl) rfl, jv_in (i := 42) (by rfl) rfl, by decide, by decide, by decide +kernel, by decide⟩
set_option maxRecDepth 20000 in
theorem pdX9_pair (own : String) : PMd own mX9_pair 2 := ⟨jv_in (i := 339) (by rfl) rfl, jv_in (i := 42) (by rfl) rfl, by decide, by decide, by decide +kernel, by decide⟩
set_option maxRecDepth 20000 in
theorem pdX9_kin (own : String) : PMd own mX9_kin 1 := ⟨jv_in (i := 351) (by rfl) rfl, jv_in (i := 42) (by rfl) rfl, by decide, by decide, by decide +kernel, by decide⟩
set_option maxRecDepth 20000 in
theorem pdX9_type (own : String) : PMd own mX9_type 1 := ⟨jv_in (i := 359) (by rfl) rfl, jv_in (i := 42) (by rfl) rfl, by decide, by decide, by decide +kernel, by decide⟩
set_option maxRecDepth 20000 in
theorem pdX9_clear (own : String) : PMd own mX9_clear 0 := ⟨jv_in (i := 367) (by rfl) rfl, jv_in (i := 42) (by rfl) rfl, by decide, by decide, by decide +kernel, by decide⟩
set_option maxRecDepth 20000 in
theorem pdX9_read (own : String) : PMd own mX9_read 0 := ⟨jv_in (i := 375) (by rfl) rfl, jv_in (i := 42) (by rfl) rfl, by decide, by decide, by decide +kernel, by decide⟩
set_option maxRecDepth 20000 in
theorem pdX9_year (own : String) : PMd own mX9_year 1 := ⟨jv_in (i := 500) (by rfl) rfl, jv_in (i := 42) (by rfl) rfl, by decide, by decide, by decide +kernel, by decide⟩
set_option maxRecDepth 20000 in
theorem pdX9_give (own : String) : PMd own mX9_give 2 := ⟨jv_in (i := 524) (by rfl) rfl, jv_in (i := 42) (by rfl) rfl, by decide, by decide, by decide +kernel, by decide⟩
set_option maxRecDepth 20000 in
theorem pdX9_undo (own : String) : PMd own mX9_undo 0 := ⟨jv_in (i := 544) (by rfl) rfl, jv_in (i := 42) (by rfl) rfl, by decide, by decide, by decide +kernel, by decide⟩
set_option maxRecDepth 20000 in
theorem pdX9_of (own : String) : PMd own mX9_of 2 := ⟨jv_in (i := 557) (by rfl) rfl, jv_in (i := 42) (by rfl) rfl, by decide, by decide, by decide +kernel, by decide⟩
set_option maxRecDepth 20000 in
theorem pdX9_left (own : String) : PMd own mX9_left 2 := ⟨jv_in (i := 562) (by rfl) rfl, jv_in (i := 42) (by rfl) rfl, by decide, by decide, by decide +kernel, by decide⟩
set_option maxRecDepth 20000 in
theorem pdX9_till (own : String) : PMd own mX9_till 1 := ⟨jv_in (i := 570) (by rfl) rfl, jv_in (i := 42) (by rfl) rfl, by decide, by decide, by decide +kernel, by decide⟩
set_option maxRecDepth 20000 in
theorem pdX9_together (own : String) : PMd own mX9_together 1 := ⟨jv_in (i := 581) (by rfl) rfl, jv_in (i := 42) (by rfl) rfl, by decide, by decide, by decide +kernel, by decide⟩
set_option maxRecDepth 20000 in
theorem pdX9_gifts (own : String) : PMd own mX9_gifts 4 := ⟨jv_in (i := 600) (by rfl) rfl, jv_in (i := 42) (by rfl) rfl, by decide, by decide, by decide +kernel, by decide⟩
set_option maxRecDepth 20000 in
theorem pdX9_drought (own : String) : PMd own mX9_drought 1 := ⟨jv_in (i := 616) (by rfl) rfl, jv_in (i := 42) (by rfl) rfl, by decide, by decide, by decide +kernel, by decide⟩
set_option maxRecDepth 20000 in
theorem pdX9_counted (own : String) : PMd own mX9_counted 3 := ⟨jv_in (i := 627) (by rfl) rfl, jv_in (i := 42) (by rfl) rfl, by decide, by decide, by decide +kernel, by decide⟩
set_option maxRecDepth 20000 in
theorem pdX9_forget (own : String) : PMd own mX9_forget 0 := ⟨jv_in (i := 635) (by rfl) rfl, jv_in (i := 42) (by rfl) rfl, by decide, by decide, by decide +kernel, by decide⟩
set_option maxRecDepth 20000 in
theorem pdX9_is (own : String) : PMd own mX9_is 1 := ⟨jv_in (i := 639) (by rfl) rfl, jv_in (i := 42) (by rfl) rfl, by decide, by decide, by decide +kernel, by decide⟩
set_option maxRecDepth 20000 in
theorem pdX9_next (own : String) : PMd own mX9_next 1 := ⟨jv_in (i := 650) (by rfl) rfl, jv_in (i := 42) (by rfl) rfl, by decide, by decide, by decide +kernel, by decide⟩
set_option maxRecDepth 20000 in
theorem pdX9_swapped (own : String) : PMd own mX9_swapped 1 := ⟨jv_in (i := 673) (by rfl) rfl, jv_in (i := 42) (by rfl) rfl, by decide, by decide, by decide +kernel, by decide⟩
set_option maxRecDepth 20000 in
theorem pdX9_back (own : String) : PMd own mX9_back 0 := ⟨jv_in (i := 683) (by rfl) rfl, jv_in (i := 42) (by rfl) rfl, by decide, by decide, by decide +kernel, by decide⟩
set_option maxRecDepth 20000 in
theorem pdX9_crusts (own : String) : PMd own mX9_crusts 2 := ⟨jv_in (i := 698) (by rfl) rfl, jv_in (i := 42) (by rfl) rfl, by decide, by decide, by decide +kernel, by decide⟩
set_option maxRecDepth 20000 in
theorem pdX9_mice (own : String) : PMd own mX9_mice 3 := ⟨jv_in (i := 708) (by rfl) rfl, jv_in (i := 42) (by rfl) rfl, by decide, by decide, by decide +kernel, by decide⟩
set_option maxRecDepth 20000 in
theorem pdX9_years (own : String) : PMd own mX9_years 3 := ⟨jv_in (i := 728) (by rfl) rfl, jv_in (i := 42) (by rfl) rfl, by decide, by decide, by decide +kernel, by decide⟩
set_option maxRecDepth 20000 in
theorem pdX9_part (own : String) : PMd own mX9_part 1 := ⟨jv_in (i := 742) (by rfl) rfl, jv_in (i := 42) (by rfl) rfl, by decide, by decide, by decide +kernel, by decide⟩
set_option maxRecDepth 20000 in
theorem pdX9_image (own : String) : PMd own mX9_image 1 := ⟨jv_in (i := 746) (by rfl) rfl, jv_in (i := 42) (by rfl) rfl, by decide, by decide, by decide +kernel, by decide⟩
set_option maxRecDepth 20000 in
theorem pdX9_from (own : String) : PMd own mX9_from 1 := ⟨jv_in (i := 751) (by rfl) rfl, jv_in (i := 42) (by rfl) rfl, by decide, by decide, by decide +kernel, by decide⟩
set_option maxRecDepth 20000 in
theorem pdX9_status (own : String) : PMd own mX9_status 1 := ⟨jv_in (i := 755) (by rfl) rfl, jv_in (i := 42) (by rfl) rfl, by decide, by decide, by decide +kernel, by decide⟩
set_option maxRecDepth 20000 in
theorem pdX9_count (own : String) : PMd own mX9_count 1 := ⟨jv_in (i := 759) (by rfl) rfl, jv_in (i := 42) (by rfl) rfl, by decide, by decide, by decide +kernel, by decide⟩
set_option maxRecDepth 20000 in
theorem pdX9_digest (own : String) : PMd own mX9_digest 0 := ⟨jv_in (i := 767) (by rfl) rfl, jv_in (i := 42) (by rfl) rfl, by decide, by decide, by decide +kernel, by decide⟩
set_option maxRecDepth 20000 in
theorem pdX9_bad (own : String) : PMd own mX9_bad 0 := ⟨jv_in (i := 331) (by rfl) rfl, jv_in (i := 42) (by rfl) rfl, by decide, by decide, by decide +kernel, by decide⟩
set_option maxRecDepth 20000 in
theorem pdX9_badTen (own : String) : PMd own mX9_badTen 0 := ⟨jv_in (i := 532) (by rfl) rfl, jv_in (i := 42) (by rfl) rfl, by decide, by decide, by decide +kernel, by decide⟩
set_option maxRecDepth 20000 in
theorem pdX9_no (own : String) : PMd own mX9_no 0 := ⟨jv_in (i := 536) (by rfl) rfl, jv_in (i := 42) (by rfl) rfl, by decide, by decide, by decide +kernel, by decide⟩
set_option maxRecDepth 20000 in
theorem pdX9_full (own : String) : PMd own mX9_full 0 := ⟨jv_in (i := 347) (by rfl) rfl, jv_in (i := 42) (by rfl) rfl, by decide, by decide, by decide +kernel, by decide⟩
set_option maxRecDepth 20000 in
theorem pdX9_within (own : String) : PMd own mX9_within 3 := ⟨jv_in (i := 327) (by rfl) rfl, jv_in (i := 42) (by rfl) rfl, by decide, by decide, by decide +kernel, by decide⟩
set_option maxRecDepth 20000 in
theorem pdX10_init (own : String) : PMd own mX10_init 0 := ⟨jv_in (i := 780) (by rfl) rfl, jv_in (i := 50) (by rfl) rfl, by decide, by decide, by decide +kernel, by decide⟩
set_option maxRecDepth 20000 in
theorem pdX10_layFirst (own : String) : PMd own mX10_layFirst 1 := ⟨jv_in (i := 784) (by rfl) rfl, jv_in (i := 50) (by rfl) rfl, by decide, by decide, by decide +kernel, by decide⟩
set_option maxRecDepth 20000 in
theorem pdX10_in (own : String) : PMd own mX10_in 3 := ⟨jv_in (i := 866) (by rfl) rfl, jv_in (i := 50) (by rfl) rfl, by decide, by decide, by decide +kernel, by decide⟩
set_option maxRecDepth 20000 in
theorem pdX10_has (own : String) : PMd own mX10_has 2 := ⟨jv_in (i := 956) (by rfl) rfl, jv_in (i := 50) (by rfl) rfl, by decide, by decide, by decide +kernel, by decide⟩
set_option maxRecDepth 20000 in
theorem pdX10_refuse (own : String) : PMd own mX10_refuse 1 := ⟨jv_in (i := 870) (by rfl) rfl, jv_in (i := 50) (by rfl) rfl, by decide, by decide, by decide +kernel, by decide⟩
set_option maxRecDepth 20000 in
theorem pdX10_isPair (own : String) : PMd own mX10_isPair 1 := ⟨jv_in (i := 964) (by rfl) rfl, jv_in (i := 50) (by rfl) rfl, by decide, by decide, by decide +kernel, by decide⟩
set_option maxRecDepth 20000 in
theorem pdX10_valley (own : String) : PMd own mX10_valley 0 := ⟨jv_in (i := 859) (by rfl) rfl, jv_in (i := 50) (by rfl) rfl, by decide, by decide, by decide +kernel, by decide⟩
set_option maxRecDepth 20000 in
theorem pdX10_damp (own : String) : PMd own mX10_damp 1 := ⟨jv_in (i := 863) (by rfl) rfl, jv_in (i := 50) (by rfl) rfl, by decide, by decide, by decide +kernel, by decide⟩
set_option maxRecDepth 20000 in
theorem pdX10_dry (own : String) : PMd own mX10_dry 1 := ⟨jv_in (i := 874) (by rfl) rfl, jv_in (i := 50) (by rfl) rfl, by decide, by decide, by decide +kernel, by decide⟩
set_option maxRecDepth 20000 in
theorem pdX10_addPair (own : String) : PMd own mX10_addPair 3 := ⟨jv_in (i := 881) (by rfl) rfl, jv_in (i := 50) (by rfl) rfl, by decide, by decide, by decide +kernel, by decide⟩
set_option maxRecDepth 20000 in
theorem pdX10_addKin (own : String) : PMd own mX10_addKin 2 := ⟨jv_in (i := 888) (by rfl) rfl, jv_in (i := 50) (by rfl) rfl, by decide, by decide, by decide +kernel, by decide⟩
set_option maxRecDepth 20000 in
theorem pdX10_pair (own : String) : PMd own mX10_pair 2 := ⟨jv_in (i := 878) (by rfl) rfl, jv_in (i := 50) (by rfl) rfl, by decide, by decide, by decide +kernel, by decide⟩
set_option maxRecDepth 20000 in
theorem pdX10_kin (own : String) : PMd own mX10_kin 1 := ⟨jv_in (i := 885) (by rfl) rfl, jv_in (i := 50) (by rfl) rfl, by decide, by decide, by decide +kernel, by decide⟩
set_option maxRecDepth 20000 in
theorem pdX10_type (own : String) : PMd own mX10_type 1 := ⟨jv_in (i := 892) (by rfl) rfl, jv_in (i := 50) (by rfl) rfl, by decide, by decide, by decide +kernel, by decide⟩
set_option maxRecDepth 20000 in
theorem pdX10_clear (own : String) : PMd own mX10_clear 0 := ⟨jv_in (i := 896) (by rfl) rfl, jv_in (i := 50) (by rfl) rfl, by decide, by decide, by decide +kernel, by decide⟩
set_option maxRecDepth 20000 in
theorem pdX10_letterAt (own : String) : PMd own mX10_letterAt 1 := ⟨jv_in (i := 908) (by rfl) rfl, jv_in (i := 50) (by rfl) rfl, by decide, by decide, by decide +kernel, by decide⟩
set_option maxRecDepth 20000 in
theorem pdX10_nextToken (own : String) : PMd own mX10_nextToken 0 := ⟨jv_in (i := 904) (by rfl) rfl, jv_in (i := 50) (by rfl) rfl, by decide, by decide, by decide +kernel, by decide⟩
set_option maxRecDepth 20000 in
theorem pdX10_wordOf (own : String) : PMd own mX10_wordOf 6 := ⟨jv_in (i := 918) (by rfl) rfl, jv_in (i := 50) (by rfl) rfl, by decide, by decide, by decide +kernel, by decide⟩
set_option maxRecDepth 20000 in
theorem pdX10_isNumber (own : String) : PMd own mX10_isNumber 2 := ⟨jv_in (i := 930) (by rfl) rfl, jv_in (i := 50) (by rfl) rfl, by decide, by decide, by decide +kernel, by decide⟩
set_option maxRecDepth 20000 in
theorem pdX10_isEnd (own : String) : PMd own mX10_isEnd 0 := ⟨jv_in (i := 922) (by rfl) rfl, jv_in (i := 50) (by rfl) rfl, by decide, by decide, by decide +kernel, by decide⟩
set_option maxRecDepth 20000 in
theorem pdX10_yearsTold (own : String) : PMd own mX10_yearsTold 0 := ⟨jv_in (i := 926) (by rfl) rfl, jv_in (i := 50) (by rfl) rfl, by decide, by decide, by decide +kernel, by decide⟩
set_option maxRecDepth 20000 in
theorem pdX10_isItem (own : String) : PMd own mX10_isItem 0 := ⟨jv_in (i := 915) (by rfl) rfl, jv_in (i := 50) (by rfl) rfl, by decide, by decide, by decide +kernel, by decide⟩
set_option maxRecDepth 20000 in
theorem pdX10_read (own : String) : PMd own mX10_read 0 := ⟨jv_in (i := 900) (by rfl) rfl, jv_in (i := 50) (by rfl) rfl, by decide, by decide, by decide +kernel, by decide⟩
set_option maxRecDepth 20000 in
theorem pdX10_copy (own : String) : PMd own mX10_copy 4 := ⟨jv_in (i := 933) (by rfl) rfl, jv_in (i := 50) (by rfl) rfl, by decide, by decide, by decide +kernel, by decide⟩
set_option maxRecDepth 20000 in
theorem pdX10_goes (own : String) : PMd own mX10_goes 3 := ⟨jv_in (i := 953) (by rfl) rfl, jv_in (i := 50) (by rfl) rfl, by decide, by decide, by decide +kernel, by decide⟩
set_option maxRecDepth 20000 in
theorem pdX10_leftOf (own : String) : PMd own mX10_leftOf 4 := ⟨jv_in (i := 949) (by rfl) rfl, jv_in (i := 50) (by rfl) rfl, by decide, by decide, by decide +kernel, by decide⟩
set_option maxRecDepth 20000 in
theorem pdX10_leftBy (own : String) : PMd own mX10_leftBy 2 := ⟨jv_in (i := 945) (by rfl) rfl, jv_in (i := 50) (by rfl) rfl, by decide, by decide, by decide +kernel, by decide⟩
set_option maxRecDepth 20000 in
theorem pdX10_note (own : String) : PMd own mX10_note 0 := ⟨jv_in (i := 941) (by rfl) rfl, jv_in (i := 50) (by rfl) rfl, by decide, by decide, by decide +kernel, by decide⟩
set_option maxRecDepth 20000 in
theorem pdX10_year (own : String) : PMd own mX10_year 1 := ⟨jv_in (i := 937) (by rfl) rfl, jv_in (i := 50) (by rfl) rfl, by decide, by decide, by decide +kernel, by decide⟩
set_option maxRecDepth 20000 in
theorem pdX10_give (own : String) : PMd own mX10_give 2 := ⟨jv_in (i := 960) (by rfl) rfl, jv_in (i := 50) (by rfl) rfl, by decide, by decide, by decide +kernel, by decide⟩
set_option maxRecDepth 20000 in
theorem pdX10_undo (own : String) : PMd own mX10_undo 0 := ⟨jv_in (i := 968) (by rfl) rfl, jv_in (i := 50) (by rfl) rfl, by decide, by decide, by decide +kernel, by decide⟩
set_option maxRecDepth 20000 in
theorem pdX10_of (own : String) : PMd own mX10_of 2 := ⟨jv_in (i := 972) (by rfl) rfl, jv_in (i := 50) (by rfl) rfl, by decide, by decide, by decide +kernel, by decide⟩
set_option maxRecDepth 20000 in
theorem pdX10_left (own : String) : PMd own mX10_left 2 := ⟨jv_in (i := 976) (by rfl) rfl, jv_in (i := 50) (by rfl) rfl, by decide, by decide, by decide +kernel, by decide⟩
set_option maxRecDepth 20000 in
theorem pdX10_endOf (own : String) : PMd own mX10_endOf 1 := ⟨jv_in (i := 984) (by rfl) rfl, jv_in (i := 50) (by rfl) rfl, by decide, by decide, by decide +kernel, by decide⟩
set_option maxRecDepth 20000 in
theorem pdX10_till (own : String) : PMd own mX10_till 1 := ⟨jv_in (i := 980) (by rfl) rfl, jv_in (i := 50) (by rfl) rfl, by decide, by decide, by decide +kernel, by decide⟩
set_option maxRecDepth 20000 in
theorem pdX10_together (own : String) : PMd own mX10_together 1 := ⟨jv_in (i := 988) (by rfl) rfl, jv_in (i := 50) (by rfl) rfl, by decide, by decide, by decide +kernel, by decide⟩
set_option maxRecDepth 20000 in
theorem pdX10_layGifts (own : String) : PMd own mX10_layGifts 3 := ⟨jv_in (i := 996) (by rfl) rfl, jv_in (i := 50) (by rfl) rfl, by decide, by decide, by decide +kernel, by decide⟩
set_option maxRecDepth 20000 in
theorem pdX10_gifts (own : String) : PMd own mX10_gifts 4 := ⟨jv_in (i := 992) (by rfl) rfl, jv_in (i := 50) (by rfl) rfl, by decide, by decide, by decide +kernel, by decide⟩
set_option maxRecDepth 20000 in
theorem pdX10_drought (own : String) : PMd own mX10_drought 1 := ⟨jv_in (i := 1000) (by rfl) rfl, jv_in (i := 50) (by rfl) rfl, by decide, by decide, by decide +kernel, by decide⟩
set_option maxRecDepth 20000 in
theorem pdX10_counted (own : String) : PMd own mX10_counted 3 := ⟨jv_in (i := 1004) (by rfl) rfl, jv_in (i := 50) (by rfl) rfl, by decide, by decide, by decide +kernel, by decide⟩
set_option maxRecDepth 20000 in
theorem pdX10_forget (own : String) : PMd own mX10_forget 0 := ⟨jv_in (i := 1008) (by rfl) rfl, jv_in (i := 50) (by rfl) rfl, by decide, by decide, by decide +kernel, by decide⟩
set_option maxRecDepth 20000 in
theorem pdX10_kindsOf (own : String) : PMd own mX10_kindsOf 1 := ⟨jv_in (i := 1016) (by rfl) rfl, jv_in (i := 50) (by rfl) rfl, by decide, by decide, by decide +kernel, by decide⟩
set_option maxRecDepth 20000 in
theorem pdX10_is (own : String) : PMd own mX10_is 1 := ⟨jv_in (i := 1012) (by rfl) rfl, jv_in (i := 50) (by rfl) rfl, by decide, by decide, by decide +kernel, by decide⟩
set_option maxRecDepth 20000 in
theorem pdX10_next (own : String) : PMd own mX10_next 1 := ⟨jv_in (i := 1020) (by rfl) rfl, jv_in (i := 50) (by rfl) rfl, by decide, by decide, by decide +kernel, by decide⟩
set_option maxRecDepth 20000 in
theorem pdX10_isSo (own : String) : PMd own mX10_isSo 1 := ⟨jv_in (i := 1032) (by rfl) rfl, jv_in (i := 50) (by rfl) rfl, by decide, by decide, by decide +kernel, by decide⟩
set_option maxRecDepth 20000 in
theorem pdX10_layLoaves (own : String) : PMd own mX10_layLoaves 0 := ⟨jv_in (i := 1028) (by rfl) rfl, jv_in (i := 50) (by rfl) rfl, by decide, by decide, by decide +kernel, by decide⟩
set_option maxRecDepth 20000 in
theorem pdX10_swapped (own : String) : PMd own mX10_swapped 1 := ⟨jv_in (i := 1024) (by rfl) rfl, jv_in (i := 50) (by rfl) rfl, by decide, by decide, by decide +kernel, by decide⟩
set_option maxRecDepth 20000 in
theorem pdX10_back (own : String) : PMd own mX10_back 0 := ⟨jv_in (i := 1036) (by rfl) rfl, jv_in (i := 50) (by rfl) rfl, by decide, by decide, by decide +kernel, by decide⟩
set_option maxRecDepth 20000 in
theorem pdX10_crusts (own : String) : PMd own mX10_crusts 2 := ⟨jv_in (i := 1040) (by rfl) rfl, jv_in (i := 50) (by rfl) rfl, by decide, by decide, by decide +kernel, by decide⟩
set_option maxRecDepth 20000 in
theorem pdX10_tell (own : String) : PMd own mX10_tell 2 := ⟨jv_in (i := 1049) (by rfl) rfl, jv_in (i := 50) (by rfl) rfl, by decide, by decide, by decide +kernel, by decide⟩
set_option maxRecDepth 20000 in
theorem pdX10_mice (own : String) : PMd own mX10_mice 3 := ⟨jv_in (i := 1044) (by rfl) rfl, jv_in (i := 50) (by rfl) rfl, by decide, by decide, by decide +kernel, by decide⟩
set_option maxRecDepth 20000 in
theorem pdX10_years (own : String) : PMd own mX10_years 3 := ⟨jv_in (i := 1053) (by rfl) rfl, jv_in (i := 50) (by rfl) rfl, by decide, by decide, by decide +kernel, by decide⟩
set_option maxRecDepth 20000 in
theorem pdX10_part (own : String) : PMd own mX10_part 1 := ⟨jv_in (i := 1063) (by rfl) rfl, jv_in (i := 50) (by rfl) rfl, by decide, by decide, by decide +kernel, by decide⟩
set_option maxRecDepth 20000 in
theorem pdX10_image (own : String) : PMd own mX10_image 1 := ⟨jv_in (i := 1067) (by rfl) rfl, jv_in (i := 50) (by rfl) rfl, by decide, by decide, by decide +kernel, by decide⟩
set_option maxRecDepth 20000 in
theorem pdX10_from (own : String) : PMd own mX10_from 1 := ⟨jv_in (i := 1071) (by rfl) rfl, jv_in (i := 50) (by rfl) rfl, by decide, by decide, by decide +kernel, by decide⟩
set_option maxRecDepth 20000 in
theorem pdX10_status (own : String) : PMd own mX10_status 1 := ⟨jv_in (i := 1075) (by rfl) rfl, jv_in (i := 50) (by rfl) rfl, by decide, by decide, by decide +kernel, by decide⟩
set_option maxRecDepth 20000 in
theorem pdX10_countOf (own : String) : PMd own mX10_countOf 1 := ⟨jv_in (i := 1083) (by rfl) rfl, jv_in (i := 50) (by rfl) rfl, by decide, by decide, by decide +kernel, by decide⟩
set_option maxRecDepth 20000 in
theorem pdX10_count (own : String) : PMd own mX10_count 1 := ⟨jv_in (i := 1079) (by rfl) rfl, jv_in (i := 50) (by rfl) rfl, by decide, by decide, by decide +kernel, by decide⟩
set_option maxRecDepth 20000 in
theorem pdX10_add (own : String) : PMd own mX10_add 1 := ⟨jv_in (i := 1092) (by rfl) rfl, jv_in (i := 50) (by rfl) rfl, by decide, by decide, by decide +kernel, by decide⟩
set_option maxRecDepth 20000 in
theorem pdX10_digest (own : String) : PMd own mX10_digest 0 := ⟨jv_in (i := 1087) (by rfl) rfl, jv_in (i := 50) (by rfl) rfl, by decide, by decide, by decide +kernel, by decide⟩
set_option maxRecDepth 20000 in
theorem pdJ6_bitCount_0f7a4 (own : String) : PMd own mJ6_bitCount_0f7a4 1 := ⟨jv_in (i := 593) (by rfl) rfl, jv_in (i := 58) (by rfl) rfl, by decide, by decide, by decide +kernel, by decide⟩
set_option maxRecDepth 20000 in
theorem pdJ9_max_7cf53 (own : String) : PMd own mJ9_max_7cf53 2 := ⟨jv_in (i := 520) (by rfl) rfl, jv_in (i := 56) (by rfl) rfl, by decide, by decide, by decide +kernel, by decide⟩
set_option maxRecDepth 20000 in
theorem pdJ9_min_7cf53 (own : String) : PMd own mJ9_min_7cf53 2 := ⟨jv_in (i := 511) (by rfl) rfl, jv_in (i := 56) (by rfl) rfl, by decide, by decide, by decide +kernel, by decide⟩
set_option maxRecDepth 20000 in
theorem pdJ0_length_8abf5 (own : String) : PMd own mJ0_length_8abf5 0 := ⟨jv_in (i := 418) (by rfl) rfl, jv_in (i := 52) (by rfl) rfl, by decide, by decide, by decide +kernel, by decide⟩
set_option maxRecDepth 20000 in
theorem pdJ0_charAt_5068e (own : String) : PMd own mJ0_charAt_5068e 1 := ⟨jv_in (i := 428) (by rfl) rfl, jv_in (i := 52) (by rfl) rfl, by decide, by decide, by decide +kernel, by decide⟩
set_option maxRecDepth 20000 in
theorem pdJ0_coder_7d493 (own : String) : PMd own mJ0_coder_7d493 0 := ⟨jv_in (i := 422) (by rfl) rfl, jv_in (i := 52) (by rfl) rfl, by decide, by decide, by decide +kernel, by decide⟩
set_option maxRecDepth 20000 in
theorem pdJ0_isLatin1_aae02 (own : String) : PMd own mJ0_isLatin1_aae02 0 := ⟨jv_in (i := 432) (by rfl) rfl, jv_in (i := 52) (by rfl) rfl, by decide, by decide, by decide +kernel, by decide⟩
set_option maxRecDepth 20000 in
theorem pdJ0_checkIndex_df160 (own : String) : PMd own mJ0_checkIndex_df160 2 := ⟨jv_in (i := 438) (by rfl) rfl, jv_in (i := 52) (by rfl) rfl, by decide, by decide, by decide +kernel, by decide⟩
set_option maxRecDepth 20000 in
theorem pdJ1_charAt_3b067 (own : String) : PMd own mJ1_charAt_3b067 2 := ⟨jv_in (i := 435) (by rfl) rfl, jv_in (i := 53) (by rfl) rfl, by decide, by decide, by decide +kernel, by decide⟩
set_option maxRecDepth 20000 in
theorem pdJ2_getChar_3b067 (own : String) : PMd own mJ2_getChar_3b067 2 := ⟨jv_in (i := 456) (by rfl) rfl, jv_in (i := 55) (by rfl) rfl, by decide, by decide, by decide +kernel, by decide⟩
set_option maxRecDepth 20000 in
theorem pdJ2_length_9d52b (own : String) : PMd own mJ2_length_9d52b 1 := ⟨jv_in (i := 452) (by rfl) rfl, jv_in (i := 55) (by rfl) rfl, by decide, by decide, by decide +kernel, by decide⟩
set_option maxRecDepth 20000 in
theorem pdJ2_charAt_3b067 (own : String) : PMd own mJ2_charAt_3b067 2 := ⟨jv_in (i := 446) (by rfl) rfl, jv_in (i := 55) (by rfl) rfl, by decide, by decide, by decide +kernel, by decide⟩
set_option maxRecDepth 20000 in
theorem pdJ2_checkIndex_2214a (own : String) : PMd own mJ2_checkIndex_2214a 2 := ⟨jv_in (i := 449) (by rfl) rfl, jv_in (i := 55) (by rfl) rfl, by decide, by decide, by decide +kernel, by decide⟩
set_option maxRecDepth 20000 in
theorem pdJ3_checkIndex_8e157 (own : String) : PMd own mJ3_checkIndex_8e157 3 := ⟨jv_in (i := 443) (by rfl) rfl, jv_in (i := 54) (by rfl) rfl, by decide, by decide, by decide +kernel, by decide⟩
set_option maxRecDepth 20000 in
theorem cL_9 : PMi x.cls 9 mX9_init 0 := ⟨pdX9_init _, jv_in (i := 62) (by rfl) rfl, jv_in (i := 63) (by rfl) rfl, rfl, rfl⟩
set_option maxRecDepth 20000 in
theorem cX9_1 : Cond.methodLink RX9 1 objectInit ∈ jv_tbl := jv_in (i := 65) (by rfl) rfl
set_option maxRecDepth 20000 in
theorem cX9_9 : PMin RX9 9 mX8_init 0 := ⟨pdX8_init _, by decide +kernel, jv_in (i := 71) (by rfl) rfl, rfl, rfl⟩
set_option maxRecDepth 20000 in
theorem cX8_3 : Cond.methodLink RX8 3 objectInit ∈ jv_tbl := jv_in (i := 73) (by rfl) rfl
set_option maxRecDepth 20000 in
theorem cX8_57 : PMin RX8 57 mX5_init 0 := ⟨pdX5_init _, by decide +kernel, jv_in (i := 77) (by rfl) rfl, rfl, rfl⟩
set_option maxRecDepth 20000 in
theorem cX5_3 : Cond.methodLink RX5 3 objectInit ∈ jv_tbl := jv_in (i := 79) (by rfl) rfl
set_option maxRecDepth 20000 in
theorem cX9_22 : PMin RX9 22 mX6_init 0 := ⟨pdX6_init _, by decide +kernel, jv_in (i := 181) (by rfl) rfl, rfl, rfl⟩
set_option maxRecDepth 20000 in
theorem cX6_3 : Cond.methodLink RX6 3 objectInit ∈ jv_tbl := jv_in (i := 183) (by rfl) rfl
set_option maxRecDepth 20000 in
theorem cX6_21 : PMin RX6 21 mX8_init 0 := ⟨pdX8_init _, by decide +kernel, jv_in (i := 71) (by rfl) rfl, rfl, rfl⟩
set_option maxRecDepth 20000 in
theorem cX9_29 : PMin RX9 29 mX1_init 0 := ⟨pdX1_init _, by decide +kernel, jv_in (i := 213) (by rfl) rfl, rfl, rfl⟩
set_option maxRecDepth 20000 in
theorem cX1_3 : Cond.methodLink RX1 3 objectInit ∈ jv_tbl := jv_in (i := 215) (by rfl) rfl
set_option maxRecDepth 20000 in
theorem cX9_36 : PMin RX9 36 mX3_init 0 := ⟨pdX3_init _, by decide +kernel, jv_in (i := 235) (by rfl) rfl, rfl, rfl⟩
set_option maxRecDepth 20000 in
theorem cX3_3 : Cond.methodLink RX3 3 objectInit ∈ jv_tbl := jv_in (i := 237) (by rfl) rfl
set_option maxRecDepth 20000 in
theorem cX9_43 : PMin RX9 43 mX7_init 0 := ⟨pdX7_init _, by decide +kernel, jv_in (i := 260) (by rfl) rfl, rfl, rfl⟩
set_option maxRecDepth 20000 in
theorem cX7_3 : Cond.methodLink RX7 3 objectInit ∈ jv_tbl := jv_in (i := 262) (by rfl) rfl
set_option maxRecDepth 20000 in
theorem cX9_50 : PMin RX9 50 mX2_init 0 := ⟨pdX2_init _, by decide +kernel, jv_in (i := 270) (by rfl) rfl, rfl, rfl⟩
set_option maxRecDepth 20000 in
theorem cX2_1 : Cond.methodLink RX2 1 objectInit ∈ jv_tbl := jv_in (i := 272) (by rfl) rfl
set_option maxRecDepth 20000 in
theorem cL_13 : PMv x.cls 13 mX9_valley 0 := ⟨pdX9_valley _, jv_in (i := 313) (by rfl) rfl, jv_in (i := 314) (by rfl) rfl, jv_in (i := 315) (by rfl) rfl⟩
set_option maxRecDepth 20000 in
theorem cX9_68 : PMv RX9 68 mX8_begin 0 := ⟨pdX8_begin _, jv_in (i := 317) (by rfl) rfl, jv_in (i := 318) (by rfl) rfl, jv_in (i := 319) (by rfl) rfl⟩
set_option maxRecDepth 20000 in
theorem cL_18 : PMv x.cls 18 mX9_damp 1 := ⟨pdX9_damp _, jv_in (i := 321) (by rfl) rfl, jv_in (i := 322) (by rfl) rfl, jv_in (i := 323) (by rfl) rfl⟩
set_option maxRecDepth 20000 in
theorem cX9_71 : PMs RX9 71 mX9_within 3 := ⟨pdX9_within _, jv_in (i := 325) (by rfl) rfl, jv_in (i := 326) (by rfl) rfl⟩
set_option maxRecDepth 20000 in
theorem cX9_75 : PMv RX9 75 mX9_bad 0 := ⟨pdX9_bad _, jv_in (i := 328) (by rfl) rfl, jv_in (i := 330) (by rfl) rfl, jv_in (i := 0) (by rfl) rfl⟩
set_option maxRecDepth 20000 in
theorem cL_23 : PMv x.cls 23 mX9_dry 1 := ⟨pdX9_dry _, jv_in (i := 332) (by rfl) rfl, jv_in (i := 333) (by rfl) rfl, jv_in (i := 334) (by rfl) rfl⟩
set_option maxRecDepth 20000 in
theorem cL_27 : PMv x.cls 27 mX9_pair 2 := ⟨pdX9_pair _, jv_in (i := 336) (by rfl) rfl, jv_in (i := 337) (by rfl) rfl, jv_in (i := 338) (by rfl) rfl⟩
set_option maxRecDepth 20000 in
theorem cX9_85 : PMv RX9 85 mX8_addPair 2 := ⟨pdX8_addPair _, jv_in (i := 340) (by rfl) rfl, jv_in (i := 341) (by rfl) rfl, jv_in (i := 342) (by rfl) rfl⟩
set_option maxRecDepth 20000 in
theorem cX9_89 : PMv RX9 89 mX9_full 0 := ⟨pdX9_full _, jv_in (i := 344) (by rfl) rfl, jv_in (i := 346) (by rfl) rfl, jv_in (i := 1) (by rfl) rfl⟩
set_option maxRecDepth 20000 in
theorem cL_32 : PMv x.cls 32 mX9_kin 1 := ⟨pdX9_kin _, jv_in (i := 348) (by rfl) rfl, jv_in (i := 349) (by rfl) rfl, jv_in (i := 350) (by rfl) rfl⟩
set_option maxRecDepth 20000 in
theorem cX9_92 : PMv RX9 92 mX8_addKin 1 := ⟨pdX8_addKin _, jv_in (i := 352) (by rfl) rfl, jv_in (i := 353) (by rfl) rfl, jv_in (i := 354) (by rfl) rfl⟩
set_option maxRecDepth 20000 in
theorem cL_36 : PMv x.cls 36 mX9_type 1 := ⟨pdX9_type _, jv_in (i := 356) (by rfl) rfl, jv_in (i := 357) (by rfl) rfl, jv_in (i := 358) (by rfl) rfl⟩
set_option maxRecDepth 20000 in
theorem cX9_96 : PMv RX9 96 mX6_addSign 1 := ⟨pdX6_addSign _, jv_in (i := 360) (by rfl) rfl, jv_in (i := 361) (by rfl) rfl, jv_in (i := 362) (by rfl) rfl⟩
set_option maxRecDepth 20000 in
theorem cL_40 : PMv x.cls 40 mX9_clear 0 := ⟨pdX9_clear _, jv_in (i := 364) (by rfl) rfl, jv_in (i := 365) (by rfl) rfl, jv_in (i := 366) (by rfl) rfl⟩
set_option maxRecDepth 20000 in
theorem cX9_99 : PMv RX9 99 mX6_empty 0 := ⟨pdX6_empty _, jv_in (i := 368) (by rfl) rfl, jv_in (i := 369) (by rfl) rfl, jv_in (i := 370) (by rfl) rfl⟩
set_option maxRecDepth 20000 in
theorem cL_44 : PMv x.cls 44 mX9_read 0 := ⟨pdX9_read _, jv_in (i := 372) (by rfl) rfl, jv_in (i := 373) (by rfl) rfl, jv_in (i := 374) (by rfl) rfl⟩
set_option maxRecDepth 20000 in
theorem cX9_102 : PMv RX9 102 mX6_readInto 1 := ⟨pdX6_readInto _, jv_in (i := 376) (by rfl) rfl, jv_in (i := 377) (by rfl) rfl, jv_in (i := 378) (by rfl) rfl⟩
set_option maxRecDepth 20000 in
theorem cX6_38 : PMv RX6 38 mX8_begin 0 := ⟨pdX8_begin _, jv_in (i := 380) (by rfl) rfl, jv_in (i := 318) (by rfl) rfl, jv_in (i := 319) (by rfl) rfl⟩
set_option maxRecDepth 20000 in
theorem cX6_41 : PMv RX6 41 mX6_takeToken 0 := ⟨pdX6_takeToken _, jv_in (i := 381) (by rfl) rfl, jv_in (i := 383) (by rfl) rfl, jv_in (i := 2) (by rfl) rfl⟩
set_option maxRecDepth 20000 in
theorem cX6_111 : PMv RX6 111 mX6_takeRun 2 := ⟨pdX6_takeRun _, jv_in (i := 385) (by rfl) rfl, jv_in (i := 387) (by rfl) rfl, jv_in (i := 3) (by rfl) rfl⟩
set_option maxRecDepth 20000 in
theorem cX6_107 : PMsn RX6 107 mX9_within 3 := ⟨pdX9_within _, by decide +kernel, jv_in (i := 326) (by rfl) rfl⟩
set_option maxRecDepth 20000 in
theorem cX6_115 : PMv RX6 115 mX6_setNumber 0 := ⟨pdX6_setNumber _, jv_in (i := 390) (by rfl) rfl, jv_in (i := 392) (by rfl) rfl, jv_in (i := 4) (by rfl) rfl⟩
set_option maxRecDepth 20000 in
theorem cX6_44 : PMv RX6 44 mX8_copy 1 := ⟨pdX8_copy _, jv_in (i := 394) (by rfl) rfl, jv_in (i := 395) (by rfl) rfl, jv_in (i := 396) (by rfl) rfl⟩
set_option maxRecDepth 20000 in
theorem cX8_65 : Cond.methodLink RX8 65 arraycopyName ∈ jv_tbl := jv_in (i := 398) (by rfl) rfl
set_option maxRecDepth 20000 in
theorem cX8_71 : PMv RX8 71 mX5_copy 1 := ⟨pdX5_copy _, jv_in (i := 401) (by rfl) rfl, jv_in (i := 402) (by rfl) rfl, jv_in (i := 403) (by rfl) rfl⟩
set_option maxRecDepth 20000 in
theorem cX5_22 : Cond.methodLink RX5 22 arraycopyName ∈ jv_tbl := jv_in (i := 405) (by rfl) rfl
set_option maxRecDepth 20000 in
theorem cX6_48 : PMv RX6 48 mX6_readItem 1 := ⟨pdX6_readItem _, jv_in (i := 406) (by rfl) rfl, jv_in (i := 408) (by rfl) rfl, jv_in (i := 5) (by rfl) rfl⟩
set_option maxRecDepth 20000 in
theorem cX6_54 : PMv RX6 54 mX6_isWord 1 := ⟨pdX6_isWord _, jv_in (i := 411) (by rfl) rfl, jv_in (i := 413) (by rfl) rfl, jv_in (i := 6) (by rfl) rfl⟩
set_option maxRecDepth 20000 in
theorem cX6_118 : PMv RX6 118 mJ0_length_8abf5 0 := ⟨pdJ0_length_8abf5 _, jv_in (i := 415) (by rfl) rfl, jv_in (i := 416) (by rfl) rfl, jv_in (i := 417) (by rfl) rfl⟩
set_option maxRecDepth 20000 in
theorem cJ0_335 : PMv RJ0 335 mJ0_coder_7d493 0 := ⟨pdJ0_coder_7d493 _, jv_in (i := 419) (by rfl) rfl, jv_in (i := 420) (by rfl) rfl, jv_in (i := 421) (by rfl) rfl⟩
set_option maxRecDepth 20000 in
theorem cX6_122 : PMv RX6 122 mJ0_charAt_5068e 1 := ⟨pdJ0_charAt_5068e _, jv_in (i := 425) (by rfl) rfl, jv_in (i := 426) (by rfl) rfl, jv_in (i := 427) (by rfl) rfl⟩
set_option maxRecDepth 20000 in
theorem cJ0_492 : PMv RJ0 492 mJ0_isLatin1_aae02 0 := ⟨pdJ0_isLatin1_aae02 _, jv_in (i := 429) (by rfl) rfl, jv_in (i := 430) (by rfl) rfl, jv_in (i := 431) (by rfl) rfl⟩
set_option maxRecDepth 20000 in
theorem cJ0_495 : PMs RJ0 495 mJ1_charAt_3b067 2 := ⟨pdJ1_charAt_3b067 _, jv_in (i := 433) (by rfl) rfl, jv_in (i := 434) (by rfl) rfl⟩
set_option maxRecDepth 20000 in
theorem cJ1_9 : PMs RJ1 9 mJ0_checkIndex_df160 2 := ⟨pdJ0_checkIndex_df160 _, jv_in (i := 436) (by rfl) rfl, jv_in (i := 437) (by rfl) rfl⟩
set_option maxRecDepth 20000 in
theorem cJ0_1059 : PMs RJ0 1059 mJ3_checkIndex_8e157 3 := ⟨pdJ3_checkIndex_8e157 _, jv_in (i := 441) (by rfl) rfl, jv_in (i := 442) (by rfl) rfl⟩
set_option maxRecDepth 20000 in
theorem cJ0_498 : PMs RJ0 498 mJ2_charAt_3b067 2 := ⟨pdJ2_charAt_3b067 _, jv_in (i := 444) (by rfl) rfl, jv_in (i := 445) (by rfl) rfl⟩
set_option maxRecDepth 20000 in
theorem cJ2_67 : PMs RJ2 67 mJ2_checkIndex_2214a 2 := ⟨pdJ2_checkIndex_2214a _, jv_in (i := 447) (by rfl) rfl, jv_in (i := 448) (by rfl) rfl⟩
set_option maxRecDepth 20000 in
theorem cJ2_48 : PMs RJ2 48 mJ2_length_9d52b 1 := ⟨pdJ2_length_9d52b _, jv_in (i := 450) (by rfl) rfl, jv_in (i := 451) (by rfl) rfl⟩
set_option maxRecDepth 20000 in
theorem cJ2_414 : PMs RJ2 414 mJ0_checkIndex_df160 2 := ⟨pdJ0_checkIndex_df160 _, jv_in (i := 453) (by rfl) rfl, jv_in (i := 437) (by rfl) rfl⟩
set_option maxRecDepth 20000 in
theorem cJ2_71 : PMs RJ2 71 mJ2_getChar_3b067 2 := ⟨pdJ2_getChar_3b067 _, jv_in (i := 454) (by rfl) rfl, jv_in (i := 455) (by rfl) rfl⟩
set_option maxRecDepth 20000 in
theorem cX6_58 : PMv RX6 58 mX6_takeSemicolon 0 := ⟨pdX6_takeSemicolon _, jv_in (i := 463) (by rfl) rfl, jv_in (i := 465) (by rfl) rfl, jv_in (i := 7) (by rfl) rfl⟩
set_option maxRecDepth 20000 in
theorem cX6_64 : PMv RX6 64 mX6_readDamp 0 := ⟨pdX6_readDamp _, jv_in (i := 468) (by rfl) rfl, jv_in (i := 470) (by rfl) rfl, jv_in (i := 8) (by rfl) rfl⟩
set_option maxRecDepth 20000 in
theorem cX6_82 : PMv RX6 82 mX6_takeYears 0 := ⟨pdX6_takeYears _, jv_in (i := 472) (by rfl) rfl, jv_in (i := 474) (by rfl) rfl, jv_in (i := 9) (by rfl) rfl⟩
set_option maxRecDepth 20000 in
theorem cX6_69 : PMv RX6 69 mX6_readDry 0 := ⟨pdX6_readDry _, jv_in (i := 477) (by rfl) rfl, jv_in (i := 479) (by rfl) rfl, jv_in (i := 10) (by rfl) rfl⟩
set_option maxRecDepth 20000 in
theorem cX6_74 : PMv RX6 74 mX6_readPair 0 := ⟨pdX6_readPair _, jv_in (i := 482) (by rfl) rfl, jv_in (i := 484) (by rfl) rfl, jv_in (i := 11) (by rfl) rfl⟩
set_option maxRecDepth 20000 in
theorem cX6_93 : PMv RX6 93 mX6_takeNumber 2 := ⟨pdX6_takeNumber _, jv_in (i := 486) (by rfl) rfl, jv_in (i := 488) (by rfl) rfl, jv_in (i := 12) (by rfl) rfl⟩
set_option maxRecDepth 20000 in
theorem cX6_97 : PMv RX6 97 mX8_addPair 2 := ⟨pdX8_addPair _, jv_in (i := 490) (by rfl) rfl, jv_in (i := 341) (by rfl) rfl, jv_in (i := 342) (by rfl) rfl⟩
set_option maxRecDepth 20000 in
theorem cX6_79 : PMv RX6 79 mX6_readKin 0 := ⟨pdX6_readKin _, jv_in (i := 492) (by rfl) rfl, jv_in (i := 494) (by rfl) rfl, jv_in (i := 13) (by rfl) rfl⟩
set_option maxRecDepth 20000 in
theorem cX6_103 : PMv RX6 103 mX8_addKin 1 := ⟨pdX8_addKin _, jv_in (i := 496) (by rfl) rfl, jv_in (i := 353) (by rfl) rfl, jv_in (i := 354) (by rfl) rfl⟩
set_option maxRecDepth 20000 in
theorem cL_48 : PMv x.cls 48 mX9_year 1 := ⟨pdX9_year _, jv_in (i := 497) (by rfl) rfl, jv_in (i := 498) (by rfl) rfl, jv_in (i := 499) (by rfl) rfl⟩
set_option maxRecDepth 20000 in
theorem cX9_106 : PMv RX9 106 mX8_passYear 0 := ⟨pdX8_passYear _, jv_in (i := 501) (by rfl) rfl, jv_in (i := 502) (by rfl) rfl, jv_in (i := 503) (by rfl) rfl⟩
set_option maxRecDepth 20000 in
theorem cX8_75 : PMv RX8 75 mX5_push 3 := ⟨pdX5_push _, jv_in (i := 505) (by rfl) rfl, jv_in (i := 506) (by rfl) rfl, jv_in (i := 507) (by rfl) rfl⟩
set_option maxRecDepth 20000 in
theorem cX5_28 : PMs RX5 28 mJ9_min_7cf53 2 := ⟨pdJ9_min_7cf53 _, jv_in (i := 509) (by rfl) rfl, jv_in (i := 510) (by rfl) rfl⟩
set_option maxRecDepth 20000 in
theorem cX8_79 : PMs RX8 79 mX4_leftAfter 5 := ⟨pdX4_leftAfter _, jv_in (i := 512) (by rfl) rfl, jv_in (i := 513) (by rfl) rfl⟩
set_option maxRecDepth 20000 in
theorem cX4_9 : PMs RX4 9 mX4_goes 4 := ⟨pdX4_goes _, jv_in (i := 515) (by rfl) rfl, jv_in (i := 516) (by rfl) rfl⟩
set_option maxRecDepth 20000 in
theorem cX4_15 : PMs RX4 15 mJ9_max_7cf53 2 := ⟨pdJ9_max_7cf53 _, jv_in (i := 518) (by rfl) rfl, jv_in (i := 519) (by rfl) rfl⟩
set_option maxRecDepth 20000 in
theorem cL_52 : PMv x.cls 52 mX9_give 2 := ⟨pdX9_give _, jv_in (i := 521) (by rfl) rfl, jv_in (i := 522) (by rfl) rfl, jv_in (i := 523) (by rfl) rfl⟩
set_option maxRecDepth 20000 in
theorem cX9_109 : PMv RX9 109 mX8_hasPair 1 := ⟨pdX8_hasPair _, jv_in (i := 525) (by rfl) rfl, jv_in (i := 526) (by rfl) rfl, jv_in (i := 527) (by rfl) rfl⟩
set_option maxRecDepth 20000 in
theorem cX9_113 : PMv RX9 113 mX9_badTen 0 := ⟨pdX9_badTen _, jv_in (i := 529) (by rfl) rfl, jv_in (i := 531) (by rfl) rfl, jv_in (i := 14) (by rfl) rfl⟩
set_option maxRecDepth 20000 in
theorem cX9_120 : PMv RX9 120 mX9_no 0 := ⟨pdX9_no _, jv_in (i := 533) (by rfl) rfl, jv_in (i := 535) (by rfl) rfl, jv_in (i := 15) (by rfl) rfl⟩
set_option maxRecDepth 20000 in
theorem cX9_123 : PMv RX9 123 mX8_setLoaves 2 := ⟨pdX8_setLoaves _, jv_in (i := 537) (by rfl) rfl, jv_in (i := 538) (by rfl) rfl, jv_in (i := 539) (by rfl) rfl⟩
set_option maxRecDepth 20000 in
theorem cL_56 : PMv x.cls 56 mX9_undo 0 := ⟨pdX9_undo _, jv_in (i := 541) (by rfl) rfl, jv_in (i := 542) (by rfl) rfl, jv_in (i := 543) (by rfl) rfl⟩
set_option maxRecDepth 20000 in
theorem cX9_136 : PMv RX9 136 mX8_goBack 0 := ⟨pdX8_goBack _, jv_in (i := 545) (by rfl) rfl, jv_in (i := 546) (by rfl) rfl, jv_in (i := 547) (by rfl) rfl⟩
set_option maxRecDepth 20000 in
theorem cX8_85 : PMv RX8 85 mX5_pop 2 := ⟨pdX5_pop _, jv_in (i := 549) (by rfl) rfl, jv_in (i := 550) (by rfl) rfl, jv_in (i := 551) (by rfl) rfl⟩
set_option maxRecDepth 20000 in
theorem cX5_34 : PMs RX5 34 mJ9_max_7cf53 2 := ⟨pdJ9_max_7cf53 _, jv_in (i := 553) (by rfl) rfl, jv_in (i := 519) (by rfl) rfl⟩
set_option maxRecDepth 20000 in
theorem cL_60 : PMv x.cls 60 mX9_of 2 := ⟨pdX9_of _, jv_in (i := 554) (by rfl) rfl, jv_in (i := 555) (by rfl) rfl, jv_in (i := 556) (by rfl) rfl⟩
set_option maxRecDepth 20000 in
theorem cX9_151 : PMs RX9 151 mX4_goes 4 := ⟨pdX4_goes _, jv_in (i := 558) (by rfl) rfl, jv_in (i := 516) (by rfl) rfl⟩
set_option maxRecDepth 20000 in
theorem cL_64 : PMv x.cls 64 mX9_left 2 := ⟨pdX9_left _, jv_in (i := 559) (by rfl) rfl, jv_in (i := 560) (by rfl) rfl, jv_in (i := 561) (by rfl) rfl⟩
set_option maxRecDepth 20000 in
theorem cX9_157 : PMv RX9 157 mX8_leftAs 4 := ⟨pdX8_leftAs _, jv_in (i := 563) (by rfl) rfl, jv_in (i := 564) (by rfl) rfl, jv_in (i := 565) (by rfl) rfl⟩
set_option maxRecDepth 20000 in
theorem cL_68 : PMv x.cls 68 mX9_till 1 := ⟨pdX9_till _, jv_in (i := 567) (by rfl) rfl, jv_in (i := 568) (by rfl) rfl, jv_in (i := 569) (by rfl) rfl⟩
set_option maxRecDepth 20000 in
theorem cX9_160 : PMs RX9 160 mX1_endOf 2 := ⟨pdX1_endOf _, jv_in (i := 571) (by rfl) rfl, jv_in (i := 572) (by rfl) rfl⟩
set_option maxRecDepth 20000 in
theorem cX1_34 : PMv RX1 34 mX8_leftInYear 3 := ⟨pdX8_leftInYear _, jv_in (i := 574) (by rfl) rfl, jv_in (i := 575) (by rfl) rfl, jv_in (i := 576) (by rfl) rfl⟩
set_option maxRecDepth 20000 in
theorem cL_72 : PMv x.cls 72 mX9_together 1 := ⟨pdX9_together _, jv_in (i := 578) (by rfl) rfl, jv_in (i := 579) (by rfl) rfl, jv_in (i := 580) (by rfl) rfl⟩
set_option maxRecDepth 20000 in
theorem cX9_164 : PMv RX9 164 mX1_lookForEnds 1 := ⟨pdX1_lookForEnds _, jv_in (i := 582) (by rfl) rfl, jv_in (i := 583) (by rfl) rfl, jv_in (i := 584) (by rfl) rfl⟩
set_option maxRecDepth 20000 in
theorem cX1_41 : Cond.methodLink RX1 41 arraycopyName ∈ jv_tbl := jv_in (i := 586) (by rfl) rfl
set_option maxRecDepth 20000 in
theorem cX1_47 : PMv RX1 47 mX1_endingInYear 2 := ⟨pdX1_endingInYear _, jv_in (i := 587) (by rfl) rfl, jv_in (i := 589) (by rfl) rfl, jv_in (i := 16) (by rfl) rfl⟩
set_option maxRecDepth 20000 in
theorem cX1_51 : PMs RX1 51 mJ6_bitCount_0f7a4 1 := ⟨pdJ6_bitCount_0f7a4 _, jv_in (i := 591) (by rfl) rfl, jv_in (i := 592) (by rfl) rfl⟩
set_option maxRecDepth 20000 in
theorem cL_76 : PMv x.cls 76 mX9_gifts 4 := ⟨pdX9_gifts _, jv_in (i := 597) (by rfl) rfl, jv_in (i := 598) (by rfl) rfl, jv_in (i := 599) (by rfl) rfl⟩
set_option maxRecDepth 20000 in
theorem cX9_174 : PMv RX9 174 mX3_search 4 := ⟨pdX3_search _, jv_in (i := 601) (by rfl) rfl, jv_in (i := 602) (by rfl) rfl, jv_in (i := 603) (by rfl) rfl⟩
set_option maxRecDepth 20000 in
theorem cX3_27 : PMs RX3 27 mX3_flourNeeded 3 := ⟨pdX3_flourNeeded _, jv_in (i := 605) (by rfl) rfl, jv_in (i := 606) (by rfl) rfl⟩
set_option maxRecDepth 20000 in
theorem cX3_50 : PMs RX3 50 mX4_goes 4 := ⟨pdX4_goes _, jv_in (i := 608) (by rfl) rfl, jv_in (i := 516) (by rfl) rfl⟩
set_option maxRecDepth 20000 in
theorem cX3_59 : PMs RX3 59 mJ9_max_7cf53 2 := ⟨pdJ9_max_7cf53 _, jv_in (i := 609) (by rfl) rfl, jv_in (i := 519) (by rfl) rfl⟩
set_option maxRecDepth 20000 in
theorem cX3_31 : PMs RX3 31 mX3_share 7 := ⟨pdX3_share _, jv_in (i := 610) (by rfl) rfl, jv_in (i := 611) (by rfl) rfl⟩
set_option maxRecDepth 20000 in
theorem cL_81 : PMv x.cls 81 mX9_drought 1 := ⟨pdX9_drought _, jv_in (i := 613) (by rfl) rfl, jv_in (i := 614) (by rfl) rfl, jv_in (i := 615) (by rfl) rfl⟩
set_option maxRecDepth 20000 in
theorem cX9_187 : PMs RX9 187 mX1_worstDrought 2 := ⟨pdX1_worstDrought _, jv_in (i := 617) (by rfl) rfl, jv_in (i := 618) (by rfl) rfl⟩
set_option maxRecDepth 20000 in
theorem cX1_63 : PMs RX1 63 mX1_loavesBehind 3 := ⟨pdX1_loavesBehind _, jv_in (i := 620) (by rfl) rfl, jv_in (i := 621) (by rfl) rfl⟩
set_option maxRecDepth 20000 in
theorem cX1_70 : PMv RX1 70 mX8_leftAs 4 := ⟨pdX8_leftAs _, jv_in (i := 623) (by rfl) rfl, jv_in (i := 564) (by rfl) rfl, jv_in (i := 565) (by rfl) rfl⟩
set_option maxRecDepth 20000 in
theorem cL_85 : PMv x.cls 85 mX9_counted 3 := ⟨pdX9_counted _, jv_in (i := 624) (by rfl) rfl, jv_in (i := 625) (by rfl) rfl, jv_in (i := 626) (by rfl) rfl⟩
set_option maxRecDepth 20000 in
theorem cX9_190 : PMv RX9 190 mX8_addCounted 3 := ⟨pdX8_addCounted _, jv_in (i := 628) (by rfl) rfl, jv_in (i := 629) (by rfl) rfl, jv_in (i := 630) (by rfl) rfl⟩
set_option maxRecDepth 20000 in
theorem cL_90 : PMv x.cls 90 mX9_forget 0 := ⟨pdX9_forget _, jv_in (i := 632) (by rfl) rfl, jv_in (i := 633) (by rfl) rfl, jv_in (i := 634) (by rfl) rfl⟩
set_option maxRecDepth 20000 in
theorem cL_94 : PMv x.cls 94 mX9_is 1 := ⟨pdX9_is _, jv_in (i := 636) (by rfl) rfl, jv_in (i := 637) (by rfl) rfl, jv_in (i := 638) (by rfl) rfl⟩
set_option maxRecDepth 20000 in
theorem cX9_197 : PMs RX9 197 mX7_kindsThatFit 2 := ⟨pdX7_kindsThatFit _, jv_in (i := 640) (by rfl) rfl, jv_in (i := 641) (by rfl) rfl⟩
set_option maxRecDepth 20000 in
theorem cX7_15 : PMs RX7 15 mX7_fits 3 := ⟨pdX7_fits _, jv_in (i := 643) (by rfl) rfl, jv_in (i := 644) (by rfl) rfl⟩
set_option maxRecDepth 20000 in
theorem cX7_37 : PMv RX7 37 mX8_leftAs 4 := ⟨pdX8_leftAs _, jv_in (i := 646) (by rfl) rfl, jv_in (i := 564) (by rfl) rfl, jv_in (i := 565) (by rfl) rfl⟩
set_option maxRecDepth 20000 in
theorem cL_98 : PMv x.cls 98 mX9_next 1 := ⟨pdX9_next _, jv_in (i := 647) (by rfl) rfl, jv_in (i := 648) (by rfl) rfl, jv_in (i := 649) (by rfl) rfl⟩
set_option maxRecDepth 20000 in
theorem cX9_200 : PMv RX9 200 mX7_countNext 2 := ⟨pdX7_countNext _, jv_in (i := 651) (by rfl) rfl, jv_in (i := 652) (by rfl) rfl, jv_in (i := 653) (by rfl) rfl⟩
set_option maxRecDepth 20000 in
theorem cX7_44 : PMs RX7 44 mX7_kindsThatFit 2 := ⟨pdX7_kindsThatFit _, jv_in (i := 655) (by rfl) rfl, jv_in (i := 641) (by rfl) rfl⟩
set_option maxRecDepth 20000 in
theorem cX7_48 : PMv RX7 48 mX7_mostAlike 1 := ⟨pdX7_mostAlike _, jv_in (i := 656) (by rfl) rfl, jv_in (i := 658) (by rfl) rfl, jv_in (i := 17) (by rfl) rfl⟩
set_option maxRecDepth 20000 in
theorem cX7_68 : PMv RX7 68 mX7_howManyHave 2 := ⟨pdX7_howManyHave _, jv_in (i := 660) (by rfl) rfl, jv_in (i := 662) (by rfl) rfl, jv_in (i := 18) (by rfl) rfl⟩
set_option maxRecDepth 20000 in
theorem cX7_72 : PMs RX7 72 mJ9_max_7cf53 2 := ⟨pdJ9_max_7cf53 _, jv_in (i := 664) (by rfl) rfl, jv_in (i := 519) (by rfl) rfl⟩
set_option maxRecDepth 20000 in
theorem cX7_52 : PMv RX7 52 mX7_passYearByKind 2 := ⟨pdX7_passYearByKind _, jv_in (i := 665) (by rfl) rfl, jv_in (i := 667) (by rfl) rfl, jv_in (i := 19) (by rfl) rfl⟩
set_option maxRecDepth 20000 in
theorem cX7_62 : PMs RX7 62 mX4_leftAfter 5 := ⟨pdX4_leftAfter _, jv_in (i := 669) (by rfl) rfl, jv_in (i := 513) (by rfl) rfl⟩
set_option maxRecDepth 20000 in
theorem cL_102 : PMv x.cls 102 mX9_swapped 1 := ⟨pdX9_swapped _, jv_in (i := 670) (by rfl) rfl, jv_in (i := 671) (by rfl) rfl, jv_in (i := 672) (by rfl) rfl⟩
set_option maxRecDepth 20000 in
theorem cX9_203 : PMs RX9 203 mX7_swaps 2 := ⟨pdX7_swaps _, jv_in (i := 674) (by rfl) rfl, jv_in (i := 675) (by rfl) rfl⟩
set_option maxRecDepth 20000 in
theorem cX7_80 : PMs RX7 80 mX7_fitsSwapped 3 := ⟨pdX7_fitsSwapped _, jv_in (i := 677) (by rfl) rfl, jv_in (i := 678) (by rfl) rfl⟩
set_option maxRecDepth 20000 in
theorem cL_106 : PMv x.cls 106 mX9_back 0 := ⟨pdX9_back _, jv_in (i := 680) (by rfl) rfl, jv_in (i := 681) (by rfl) rfl, jv_in (i := 682) (by rfl) rfl⟩
set_option maxRecDepth 20000 in
theorem cX9_206 : PMs RX9 206 mX7_pairsPutBack 1 := ⟨pdX7_pairsPutBack _, jv_in (i := 684) (by rfl) rfl, jv_in (i := 685) (by rfl) rfl⟩
set_option maxRecDepth 20000 in
theorem cX7_86 : PMs RX7 86 mX7_fitsPutBack 2 := ⟨pdX7_fitsPutBack _, jv_in (i := 687) (by rfl) rfl, jv_in (i := 688) (by rfl) rfl⟩
set_option maxRecDepth 20000 in
theorem cX7_90 : PMs RX7 90 mX7_leftWithMore 4 := ⟨pdX7_leftWithMore _, jv_in (i := 690) (by rfl) rfl, jv_in (i := 691) (by rfl) rfl⟩
set_option maxRecDepth 20000 in
theorem cX7_94 : PMs RX7 94 mJ9_min_7cf53 2 := ⟨pdJ9_min_7cf53 _, jv_in (i := 693) (by rfl) rfl, jv_in (i := 510) (by rfl) rfl⟩
set_option maxRecDepth 20000 in
theorem cX7_97 : PMv RX7 97 mX8_leftInYear 3 := ⟨pdX8_leftInYear _, jv_in (i := 694) (by rfl) rfl, jv_in (i := 575) (by rfl) rfl, jv_in (i := 576) (by rfl) rfl⟩
set_option maxRecDepth 20000 in
theorem cL_110 : PMv x.cls 110 mX9_crusts 2 := ⟨pdX9_crusts _, jv_in (i := 695) (by rfl) rfl, jv_in (i := 696) (by rfl) rfl, jv_in (i := 697) (by rfl) rfl⟩
set_option maxRecDepth 20000 in
theorem cX9_209 : PMs RX9 209 mX0_beginnerWins 1 := ⟨pdX0_beginnerWins _, jv_in (i := 699) (by rfl) rfl, jv_in (i := 700) (by rfl) rfl⟩
set_option maxRecDepth 20000 in
theorem cX9_214 : PMs RX9 214 mX0_firstBroken 1 := ⟨pdX0_firstBroken _, jv_in (i := 702) (by rfl) rfl, jv_in (i := 703) (by rfl) rfl⟩
set_option maxRecDepth 20000 in
theorem cL_114 : PMv x.cls 114 mX9_mice 3 := ⟨pdX9_mice _, jv_in (i := 705) (by rfl) rfl, jv_in (i := 706) (by rfl) rfl, jv_in (i := 707) (by rfl) rfl⟩
set_option maxRecDepth 20000 in
theorem cX9_217 : PMv RX9 217 mX1_chanceWithMice 5 := ⟨pdX1_chanceWithMice _, jv_in (i := 709) (by rfl) rfl, jv_in (i := 710) (by rfl) rfl, jv_in (i := 711) (by rfl) rfl⟩
set_option maxRecDepth 20000 in
theorem cX1_84 : PMv RX1 84 mX1_miceEat 4 := ⟨pdX1_miceEat _, jv_in (i := 713) (by rfl) rfl, jv_in (i := 715) (by rfl) rfl, jv_in (i := 20) (by rfl) rfl⟩
set_option maxRecDepth 20000 in
theorem cX1_90 : PMv RX1 90 mX2_set 2 := ⟨pdX2_set _, jv_in (i := 718) (by rfl) rfl, jv_in (i := 719) (by rfl) rfl, jv_in (i := 720) (by rfl) rfl⟩
set_option maxRecDepth 20000 in
theorem cX2_16 : PMs RX2 16 mX2_commonDivisor 2 := ⟨pdX2_commonDivisor _, jv_in (i := 722) (by rfl) rfl, jv_in (i := 723) (by rfl) rfl⟩
set_option maxRecDepth 20000 in
theorem cL_118 : PMv x.cls 118 mX9_years 3 := ⟨pdX9_years _, jv_in (i := 725) (by rfl) rfl, jv_in (i := 726) (by rfl) rfl, jv_in (i := 727) (by rfl) rfl⟩
set_option maxRecDepth 20000 in
theorem cX9_222 : PMv RX9 222 mX1_loavesBySeed 4 := ⟨pdX1_loavesBySeed _, jv_in (i := 730) (by rfl) rfl, jv_in (i := 731) (by rfl) rfl, jv_in (i := 732) (by rfl) rfl⟩
set_option maxRecDepth 20000 in
theorem cL_122 : PMv x.cls 122 mX9_part 1 := ⟨pdX9_part _, jv_in (i := 739) (by rfl) rfl, jv_in (i := 740) (by rfl) rfl, jv_in (i := 741) (by rfl) rfl⟩
set_option maxRecDepth 20000 in
theorem cL_127 : PMv x.cls 127 mX9_image 1 := ⟨pdX9_image _, jv_in (i := 743) (by rfl) rfl, jv_in (i := 744) (by rfl) rfl, jv_in (i := 745) (by rfl) rfl⟩
set_option maxRecDepth 20000 in
theorem cX9_233 : PMv RX9 233 mX8_copy 1 := ⟨pdX8_copy _, jv_in (i := 747) (by rfl) rfl, jv_in (i := 395) (by rfl) rfl, jv_in (i := 396) (by rfl) rfl⟩
set_option maxRecDepth 20000 in
theorem cL_131 : PMv x.cls 131 mX9_from 1 := ⟨pdX9_from _, jv_in (i := 748) (by rfl) rfl, jv_in (i := 749) (by rfl) rfl, jv_in (i := 750) (by rfl) rfl⟩
set_option maxRecDepth 20000 in
theorem cL_135 : PMv x.cls 135 mX9_status 1 := ⟨pdX9_status _, jv_in (i := 752) (by rfl) rfl, jv_in (i := 753) (by rfl) rfl, jv_in (i := 754) (by rfl) rfl⟩
set_option maxRecDepth 20000 in
theorem cL_139 : PMv x.cls 139 mX9_count 1 := ⟨pdX9_count _, jv_in (i := 756) (by rfl) rfl, jv_in (i := 757) (by rfl) rfl, jv_in (i := 758) (by rfl) rfl⟩
set_option maxRecDepth 20000 in
theorem cX9_239 : PMv RX9 239 mX8_allLoaves 0 := ⟨pdX8_allLoaves _, jv_in (i := 760) (by rfl) rfl, jv_in (i := 761) (by rfl) rfl, jv_in (i := 762) (by rfl) rfl⟩
set_option maxRecDepth 20000 in
theorem cL_143 : PMv x.cls 143 mX9_digest 0 := ⟨pdX9_digest _, jv_in (i := 764) (by rfl) rfl, jv_in (i := 765) (by rfl) rfl, jv_in (i := 766) (by rfl) rfl⟩
set_option maxRecDepth 20000 in
theorem cX9_249 : PMv RX9 249 mX9_count 1 := ⟨pdX9_count _, jv_in (i := 770) (by rfl) rfl, jv_in (i := 757) (by rfl) rfl, jv_in (i := 758) (by rfl) rfl⟩
set_option maxRecDepth 20000 in
theorem cX9_252 : PMv RX9 252 mX8_digestOn 1 := ⟨pdX8_digestOn _, jv_in (i := 771) (by rfl) rfl, jv_in (i := 772) (by rfl) rfl, jv_in (i := 773) (by rfl) rfl⟩
set_option maxRecDepth 20000 in
theorem cL_12 : PMi x.cls 12 mX10_init 0 := ⟨pdX10_init _, jv_in (i := 778) (by rfl) rfl, jv_in (i := 779) (by rfl) rfl, rfl, rfl⟩
set_option maxRecDepth 20000 in
theorem cX10_1 : Cond.methodLink RX10 1 objectInit ∈ jv_tbl := jv_in (i := 781) (by rfl) rfl
set_option maxRecDepth 20000 in
theorem cX10_46 : PMs RX10 46 mX10_layFirst 1 := ⟨pdX10_layFirst _, jv_in (i := 782) (by rfl) rfl, jv_in (i := 783) (by rfl) rfl⟩
set_option maxRecDepth 20000 in
theorem cL_17 : PMv x.cls 17 mX10_valley 0 := ⟨pdX10_valley _, jv_in (i := 856) (by rfl) rfl, jv_in (i := 857) (by rfl) rfl, jv_in (i := 858) (by rfl) rfl⟩
set_option maxRecDepth 20000 in
theorem cL_22 : PMv x.cls 22 mX10_damp 1 := ⟨pdX10_damp _, jv_in (i := 860) (by rfl) rfl, jv_in (i := 861) (by rfl) rfl, jv_in (i := 862) (by rfl) rfl⟩
set_option maxRecDepth 20000 in
theorem cX10_50 : PMs RX10 50 mX10_in 3 := ⟨pdX10_in _, jv_in (i := 864) (by rfl) rfl, jv_in (i := 865) (by rfl) rfl⟩
set_option maxRecDepth 20000 in
theorem cX10_54 : PMv RX10 54 mX10_refuse 1 := ⟨pdX10_refuse _, jv_in (i := 867) (by rfl) rfl, jv_in (i := 869) (by rfl) rfl, jv_in (i := 21) (by rfl) rfl⟩
set_option maxRecDepth 20000 in
theorem cL_26 : PMv x.cls 26 mX10_dry 1 := ⟨pdX10_dry _, jv_in (i := 871) (by rfl) rfl, jv_in (i := 872) (by rfl) rfl, jv_in (i := 873) (by rfl) rfl⟩
set_option maxRecDepth 20000 in
theorem cL_31 : PMv x.cls 31 mX10_pair 2 := ⟨pdX10_pair _, jv_in (i := 875) (by rfl) rfl, jv_in (i := 876) (by rfl) rfl, jv_in (i := 877) (by rfl) rfl⟩
set_option maxRecDepth 20000 in
theorem cX10_58 : PMs RX10 58 mX10_addPair 3 := ⟨pdX10_addPair _, jv_in (i := 879) (by rfl) rfl, jv_in (i := 880) (by rfl) rfl⟩
set_option maxRecDepth 20000 in
theorem cL_35 : PMv x.cls 35 mX10_kin 1 := ⟨pdX10_kin _, jv_in (i := 882) (by rfl) rfl, jv_in (i := 883) (by rfl) rfl, jv_in (i := 884) (by rfl) rfl⟩
set_option maxRecDepth 20000 in
theorem cX10_62 : PMs RX10 62 mX10_addKin 2 := ⟨pdX10_addKin _, jv_in (i := 886) (by rfl) rfl, jv_in (i := 887) (by rfl) rfl⟩
set_option maxRecDepth 20000 in
theorem cL_39 : PMv x.cls 39 mX10_type 1 := ⟨pdX10_type _, jv_in (i := 889) (by rfl) rfl, jv_in (i := 890) (by rfl) rfl, jv_in (i := 891) (by rfl) rfl⟩
set_option maxRecDepth 20000 in
theorem cL_43 : PMv x.cls 43 mX10_clear 0 := ⟨pdX10_clear _, jv_in (i := 893) (by rfl) rfl, jv_in (i := 894) (by rfl) rfl, jv_in (i := 895) (by rfl) rfl⟩
set_option maxRecDepth 20000 in
theorem cL_47 : PMv x.cls 47 mX10_read 0 := ⟨pdX10_read _, jv_in (i := 897) (by rfl) rfl, jv_in (i := 898) (by rfl) rfl, jv_in (i := 899) (by rfl) rfl⟩
set_option maxRecDepth 20000 in
theorem cX10_94 : PMv RX10 94 mX10_nextToken 0 := ⟨pdX10_nextToken _, jv_in (i := 901) (by rfl) rfl, jv_in (i := 903) (by rfl) rfl, jv_in (i := 22) (by rfl) rfl⟩
set_option maxRecDepth 20000 in
theorem cX10_73 : PMv RX10 73 mX10_letterAt 1 := ⟨pdX10_letterAt _, jv_in (i := 905) (by rfl) rfl, jv_in (i := 907) (by rfl) rfl, jv_in (i := 23) (by rfl) rfl⟩
set_option maxRecDepth 20000 in
theorem cX10_116 : PMv RX10 116 mX10_isItem 0 := ⟨pdX10_isItem _, jv_in (i := 912) (by rfl) rfl, jv_in (i := 914) (by rfl) rfl, jv_in (i := 24) (by rfl) rfl⟩
set_option maxRecDepth 20000 in
theorem cX10_104 : PMs RX10 104 mX10_wordOf 6 := ⟨pdX10_wordOf _, jv_in (i := 916) (by rfl) rfl, jv_in (i := 917) (by rfl) rfl⟩
set_option maxRecDepth 20000 in
theorem cX10_108 : PMv RX10 108 mX10_isEnd 0 := ⟨pdX10_isEnd _, jv_in (i := 919) (by rfl) rfl, jv_in (i := 921) (by rfl) rfl, jv_in (i := 25) (by rfl) rfl⟩
set_option maxRecDepth 20000 in
theorem cX10_112 : PMv RX10 112 mX10_yearsTold 0 := ⟨pdX10_yearsTold _, jv_in (i := 923) (by rfl) rfl, jv_in (i := 925) (by rfl) rfl, jv_in (i := 26) (by rfl) rfl⟩
set_option maxRecDepth 20000 in
theorem cX10_97 : PMv RX10 97 mX10_isNumber 2 := ⟨pdX10_isNumber _, jv_in (i := 927) (by rfl) rfl, jv_in (i := 929) (by rfl) rfl, jv_in (i := 27) (by rfl) rfl⟩
set_option maxRecDepth 20000 in
theorem cX10_119 : PMs RX10 119 mX10_copy 4 := ⟨pdX10_copy _, jv_in (i := 931) (by rfl) rfl, jv_in (i := 932) (by rfl) rfl⟩
set_option maxRecDepth 20000 in
theorem cL_51 : PMv x.cls 51 mX10_year 1 := ⟨pdX10_year _, jv_in (i := 934) (by rfl) rfl, jv_in (i := 935) (by rfl) rfl, jv_in (i := 936) (by rfl) rfl⟩
set_option maxRecDepth 20000 in
theorem cX10_134 : PMv RX10 134 mX10_note 0 := ⟨pdX10_note _, jv_in (i := 938) (by rfl) rfl, jv_in (i := 940) (by rfl) rfl, jv_in (i := 28) (by rfl) rfl⟩
set_option maxRecDepth 20000 in
theorem cX10_137 : PMv RX10 137 mX10_leftBy 2 := ⟨pdX10_leftBy _, jv_in (i := 942) (by rfl) rfl, jv_in (i := 944) (by rfl) rfl, jv_in (i := 29) (by rfl) rfl⟩
set_option maxRecDepth 20000 in
theorem cX10_130 : PMv RX10 130 mX10_leftOf 4 := ⟨pdX10_leftOf _, jv_in (i := 946) (by rfl) rfl, jv_in (i := 948) (by rfl) rfl, jv_in (i := 30) (by rfl) rfl⟩
set_option maxRecDepth 20000 in
theorem cX10_126 : PMv RX10 126 mX10_goes 3 := ⟨pdX10_goes _, jv_in (i := 950) (by rfl) rfl, jv_in (i := 952) (by rfl) rfl, jv_in (i := 31) (by rfl) rfl⟩
set_option maxRecDepth 20000 in
theorem cX10_123 : PMs RX10 123 mX10_has 2 := ⟨pdX10_has _, jv_in (i := 954) (by rfl) rfl, jv_in (i := 955) (by rfl) rfl⟩
set_option maxRecDepth 20000 in
theorem cL_55 : PMv x.cls 55 mX10_give 2 := ⟨pdX10_give _, jv_in (i := 957) (by rfl) rfl, jv_in (i := 958) (by rfl) rfl, jv_in (i := 959) (by rfl) rfl⟩
set_option maxRecDepth 20000 in
theorem cX10_141 : PMv RX10 141 mX10_isPair 1 := ⟨pdX10_isPair _, jv_in (i := 961) (by rfl) rfl, jv_in (i := 963) (by rfl) rfl, jv_in (i := 32) (by rfl) rfl⟩
set_option maxRecDepth 20000 in
theorem cL_59 : PMv x.cls 59 mX10_undo 0 := ⟨pdX10_undo _, jv_in (i := 965) (by rfl) rfl, jv_in (i := 966) (by rfl) rfl, jv_in (i := 967) (by rfl) rfl⟩
set_option maxRecDepth 20000 in
theorem cL_63 : PMv x.cls 63 mX10_of 2 := ⟨pdX10_of _, jv_in (i := 969) (by rfl) rfl, jv_in (i := 970) (by rfl) rfl, jv_in (i := 971) (by rfl) rfl⟩
set_option maxRecDepth 20000 in
theorem cL_67 : PMv x.cls 67 mX10_left 2 := ⟨pdX10_left _, jv_in (i := 973) (by rfl) rfl, jv_in (i := 974) (by rfl) rfl, jv_in (i := 975) (by rfl) rfl⟩
set_option maxRecDepth 20000 in
theorem cL_71 : PMv x.cls 71 mX10_till 1 := ⟨pdX10_till _, jv_in (i := 977) (by rfl) rfl, jv_in (i := 978) (by rfl) rfl, jv_in (i := 979) (by rfl) rfl⟩
set_option maxRecDepth 20000 in
theorem cX10_145 : PMv RX10 145 mX10_endOf 1 := ⟨pdX10_endOf _, jv_in (i := 981) (by rfl) rfl, jv_in (i := 983) (by rfl) rfl, jv_in (i := 33) (by rfl) rfl⟩
set_option maxRecDepth 20000 in
theorem cL_75 : PMv x.cls 75 mX10_together 1 := ⟨pdX10_together _, jv_in (i := 985) (by rfl) rfl, jv_in (i := 986) (by rfl) rfl, jv_in (i := 987) (by rfl) rfl⟩
set_option maxRecDepth 20000 in
theorem cL_80 : PMv x.cls 80 mX10_gifts 4 := ⟨pdX10_gifts _, jv_in (i := 989) (by rfl) rfl, jv_in (i := 990) (by rfl) rfl, jv_in (i := 991) (by rfl) rfl⟩
set_option maxRecDepth 20000 in
theorem cX10_157 : PMv RX10 157 mX10_layGifts 3 := ⟨pdX10_layGifts _, jv_in (i := 993) (by rfl) rfl, jv_in (i := 995) (by rfl) rfl, jv_in (i := 34) (by rfl) rfl⟩
set_option maxRecDepth 20000 in
theorem cL_84 : PMv x.cls 84 mX10_drought 1 := ⟨pdX10_drought _, jv_in (i := 997) (by rfl) rfl, jv_in (i := 998) (by rfl) rfl, jv_in (i := 999) (by rfl) rfl⟩
set_option maxRecDepth 20000 in
theorem cL_89 : PMv x.cls 89 mX10_counted 3 := ⟨pdX10_counted _, jv_in (i := 1001) (by rfl) rfl, jv_in (i := 1002) (by rfl) rfl, jv_in (i := 1003) (by rfl) rfl⟩
set_option maxRecDepth 20000 in
theorem cL_93 : PMv x.cls 93 mX10_forget 0 := ⟨pdX10_forget _, jv_in (i := 1005) (by rfl) rfl, jv_in (i := 1006) (by rfl) rfl, jv_in (i := 1007) (by rfl) rfl⟩
set_option maxRecDepth 20000 in
theorem cL_97 : PMv x.cls 97 mX10_is 1 := ⟨pdX10_is _, jv_in (i := 1009) (by rfl) rfl, jv_in (i := 1010) (by rfl) rfl, jv_in (i := 1011) (by rfl) rfl⟩
set_option maxRecDepth 20000 in
theorem cX10_161 : PMv RX10 161 mX10_kindsOf 1 := ⟨pdX10_kindsOf _, jv_in (i := 1013) (by rfl) rfl, jv_in (i := 1015) (by rfl) rfl, jv_in (i := 35) (by rfl) rfl⟩
set_option maxRecDepth 20000 in
theorem cL_101 : PMv x.cls 101 mX10_next 1 := ⟨pdX10_next _, jv_in (i := 1017) (by rfl) rfl, jv_in (i := 1018) (by rfl) rfl, jv_in (i := 1019) (by rfl) rfl⟩
set_option maxRecDepth 20000 in
theorem cL_105 : PMv x.cls 105 mX10_swapped 1 := ⟨pdX10_swapped _, jv_in (i := 1021) (by rfl) rfl, jv_in (i := 1022) (by rfl) rfl, jv_in (i := 1023) (by rfl) rfl⟩
set_option maxRecDepth 20000 in
theorem cX10_164 : PMv RX10 164 mX10_layLoaves 0 := ⟨pdX10_layLoaves _, jv_in (i := 1025) (by rfl) rfl, jv_in (i := 1027) (by rfl) rfl, jv_in (i := 36) (by rfl) rfl⟩
set_option maxRecDepth 20000 in
theorem cX10_167 : PMv RX10 167 mX10_isSo 1 := ⟨pdX10_isSo _, jv_in (i := 1029) (by rfl) rfl, jv_in (i := 1031) (by rfl) rfl, jv_in (i := 37) (by rfl) rfl⟩
set_option maxRecDepth 20000 in
theorem cL_109 : PMv x.cls 109 mX10_back 0 := ⟨pdX10_back _, jv_in (i := 1033) (by rfl) rfl, jv_in (i := 1034) (by rfl) rfl, jv_in (i := 1035) (by rfl) rfl⟩
set_option maxRecDepth 20000 in
theorem cL_113 : PMv x.cls 113 mX10_crusts 2 := ⟨pdX10_crusts _, jv_in (i := 1037) (by rfl) rfl, jv_in (i := 1038) (by rfl) rfl, jv_in (i := 1039) (by rfl) rfl⟩
set_option maxRecDepth 20000 in
theorem cL_117 : PMv x.cls 117 mX10_mice 3 := ⟨pdX10_mice _, jv_in (i := 1041) (by rfl) rfl, jv_in (i := 1042) (by rfl) rfl, jv_in (i := 1043) (by rfl) rfl⟩
set_option maxRecDepth 20000 in
theorem cX10_175 : PMv RX10 175 mX10_tell 2 := ⟨pdX10_tell _, jv_in (i := 1046) (by rfl) rfl, jv_in (i := 1048) (by rfl) rfl, jv_in (i := 38) (by rfl) rfl⟩
set_option maxRecDepth 20000 in
theorem cL_121 : PMv x.cls 121 mX10_years 3 := ⟨pdX10_years _, jv_in (i := 1050) (by rfl) rfl, jv_in (i := 1051) (by rfl) rfl, jv_in (i := 1052) (by rfl) rfl⟩
set_option maxRecDepth 20000 in
theorem cL_126 : PMv x.cls 126 mX10_part 1 := ⟨pdX10_part _, jv_in (i := 1060) (by rfl) rfl, jv_in (i := 1061) (by rfl) rfl, jv_in (i := 1062) (by rfl) rfl⟩
set_option maxRecDepth 20000 in
theorem cL_130 : PMv x.cls 130 mX10_image 1 := ⟨pdX10_image _, jv_in (i := 1064) (by rfl) rfl, jv_in (i := 1065) (by rfl) rfl, jv_in (i := 1066) (by rfl) rfl⟩
set_option maxRecDepth 20000 in
theorem cL_134 : PMv x.cls 134 mX10_from 1 := ⟨pdX10_from _, jv_in (i := 1068) (by rfl) rfl, jv_in (i := 1069) (by rfl) rfl, jv_in (i := 1070) (by rfl) rfl⟩
set_option maxRecDepth 20000 in
theorem cL_138 : PMv x.cls 138 mX10_status 1 := ⟨pdX10_status _, jv_in (i := 1072) (by rfl) rfl, jv_in (i := 1073) (by rfl) rfl, jv_in (i := 1074) (by rfl) rfl⟩
set_option maxRecDepth 20000 in
theorem cL_142 : PMv x.cls 142 mX10_count 1 := ⟨pdX10_count _, jv_in (i := 1076) (by rfl) rfl, jv_in (i := 1077) (by rfl) rfl, jv_in (i := 1078) (by rfl) rfl⟩
set_option maxRecDepth 20000 in
theorem cX10_190 : PMv RX10 190 mX10_countOf 1 := ⟨pdX10_countOf _, jv_in (i := 1080) (by rfl) rfl, jv_in (i := 1082) (by rfl) rfl, jv_in (i := 39) (by rfl) rfl⟩
set_option maxRecDepth 20000 in
theorem cL_147 : PMv x.cls 147 mX10_digest 0 := ⟨pdX10_digest _, jv_in (i := 1084) (by rfl) rfl, jv_in (i := 1085) (by rfl) rfl, jv_in (i := 1086) (by rfl) rfl⟩
set_option maxRecDepth 20000 in
theorem cX10_200 : PMv RX10 200 mX10_add 1 := ⟨pdX10_add _, jv_in (i := 1089) (by rfl) rfl, jv_in (i := 1091) (by rfl) rfl, jv_in (i := 40) (by rfl) rfl⟩
end
section
/-! THE CLAIM OUT OF ONE WALK OF THE LAW'S BODY. Your part is whole_start (and what it stands on); all else here is the same for every law, but numbers. -/
def R_law : String := "LoafWedLaw"
def lw_P (b : Addr) (xs : List Int32) (args : Array Value) (s : State) : Prop := args = #[.ref b] ∧ s.IntsAt b xs ∧ xs.length ≤ 320 ∧ (Jvm.Cond.and given_1 narrow_1).before args s = true
def lw_Q (_ : Array Value) (s : State) (o : Outcome) (t : State) : Prop := o = .returned (some (.int 1)) ∧ Framed s o t [] 600000 7302250
def lw_Z (below : List Frame) (a : Array Value) (s : State) : State → Prop := fun t => ∃ o, t.status = .running ∧ Ended t below o ∧ lw_Q a s o t
/-- the law's own end, with 1 on the stack, nothing written that was there before, its room as the claim has it -/
theorem lw_ret {p : Program} {l : Launch} {e : Env} {s : State} {m : MethodId} {below : List Frame} {meth : Method} {c : Code} {b : Nat} (hx : p.tables.exec = Jvm.exec) (hb : c.code = code) (hr : meth.sig.returnType = ret) (hlocks : meth.locks = false) {pc : Nat} {H : Heap} {ls : Array Slot} (hdg : decode code pc = .ok (.ireturn, 1)) : W p l e room_1 s m #[Value.ref b] below meth c H [] 600000 7302250 (lw_Z below #[Value.ref b] s) (F0 m pc ls [.int 1]) := by
  intro T hT X
  obtain ⟨fs, hret, hrun, hended, hW, hframe⟩ := X.leave (v := some (.int 1)) (hlocks := hlocks) (fun h => by rw [hr] at h; cases h)
  have hmeth' : T.vm.method? m = some meth := X.method'
  refine ⟨T.setFrames fs, ?_, .returned (some (.int 1)), hrun, hended, rfl, ⟨_, rfl⟩, hW, hframe⟩
  jvm_step X.here [X.here.top, hx, hb, hdg, hmeth', hr, ret, narrow_b1]
  (try refine ⟨rfl, ?_⟩); (try refine ⟨rfl, ?_⟩)
  first | (intro acts; rw [hret _ acts rfl rfl rfl]) | rw [hret _ _ rfl rfl rfl]
  exact Steps.refl _
/-- what holds at the law's entry: the machine, the code, the tables' words (any of lw_tbl by 'hts w (by decide +kernel)'), the script of L ints xs at the cell b, what the Statement gives of the start (any of its parts by flat_of_before) -/
def lw_At (p : Program) (s : State) (m : MethodId) (meth : Method) (c : Code) (b L : Nat) (xs : Nat → Int32) : Prop :=
  p.tables.exec = Jvm.exec ∧ c.code = code ∧ meth.sig.returnType = ret ∧ c.maxLocals = 4 ∧ s.vm.findClass R_law = some m.cls ∧ (∀ w ∈ lw_tbl, w.before #[Value.ref b] s = true) ∧ va_X b L xs s s.heap ∧ b < s.heap.size ∧ meth.locks = false ∧ (Jvm.Cond.and given_1 narrow_1).before #[Value.ref b] s = true

theorem jins (ci : Nat) (h : ci < jNc) : Cond.instantiable (jC ci) (fnm ci) ∈ jv_tbl := by
  have : ∀ i, i < 9 → Cond.instantiable (jC i) (fnm i) ∈ jv_tbl := by
    intro i hi
    match i, hi with
    | 0, _ => exact insX1
    | 1, _ => exact insX2
    | 2, _ => exact insX3
    | 3, _ => exact insX5
    | 4, _ => exact insX6
    | 5, _ => exact insX7
    | 6, _ => exact insX8
    | 7, _ => exact insX9
    | 8, _ => exact insX10
  exact this ci h
theorem jv_arr {args : Array Value} {s : State} {ty : FieldType} (h : (Cond.arrayClass ty).before args s = true) (hty : ∀ C, ty ≠ .object C) : ∃ cA, ArrOfT s cA ty ∧ va_RA s cA ty := by
  obtain ⟨cA, kA, comp, h1, h2, h3⟩ := Cond.arrayClass_spec h
  refine ⟨cA, fun n z => ⟨fun k h => (by cases h), kA, h2, comp, h3⟩, ?_⟩
  cases ty with
  | object C => exact absurd rfl (hty C)
  | _ => exact h1
theorem jv_arrO {args : Array Value} {s : State} {C : String} (h : (Cond.arrayOver (.object C)).before args s = true) : ∃ cA, ArrOfT s cA (.object C) ∧ va_RA s cA (.object C) := by
  obtain ⟨comp, cA, kA, h1, h2, h3, h4, h5⟩ := Cond.arrayOver_spec h
  exact ⟨cA, fun n z => ⟨fun k h => (by cases h), kA, h3, comp, h4⟩, kA, comp, h3, h4, h1, h5⟩
def jtm (i : Nat) : Term := .string RX6 (jv_strs.getD i (0, "")).1
set_option maxHeartbeats 4000000 in
set_option maxRecDepth 100000 in
/-- the law's whole walk, from what the judgement says of it -/
theorem jv_start (hlaw : ∀ X : jX, X.1 ≤ 320 → Rj X 64 1000 20000 mL_law (fun r _ _ _ _ => r = some (.int 1)) 0 [.ref 1200, jU, jU, jU] [] 0 (fun _ _ => 0) (fun _ _ => 0) (fun _ _ => none))
    {p : Program} {e : Env} {s : State} {m : MethodId} {below : List Frame} {meth : Method} {c : Code} (l : Launch) {b L : Nat} {xs : Nat → Int32} (hL : L ≤ 320) (C0 : lw_At p s m meth c b L xs) : W p l e room_1 s m #[Value.ref b] below meth c s.heap [] 0 0 (lw_Z below #[Value.ref b] s) (entryFrame m ([Value.ref b] : List Value).toArray 4) := by
  obtain ⟨hx, hb, hr, hml, hown, hts, hX, hbl, hlocks, hgv⟩ := id C0
  have htj : ∀ w ∈ jv_tbl, w.before #[Value.ref b] s = true := fun w hw => hts w (List.mem_filter.mp hw).1
  have hg := flat_of_before _ hgv
  have hA0 : ∀ a : Nat, a < s.heap.size → ¬ (fun q : Nat => s.heap.size ≤ q) a := fun a h => Nat.not_le.mpr h
  have hex : ∀ ci : Nat, ∃ q : ClassId × (Nat → Nat), ci < jNc → u_Kn s (jC ci) (jT ci) (fnm ci) q.1 q.2 := by
    intro ci
    by_cases h : ci < jNc
    · obtain ⟨cC, iS, h1⟩ := u_known htj (jlay ci h) (htj _ (jins ci h))
      exact ⟨(cC, iS), fun _ => h1⟩
    · exact ⟨(0, fun _ => 0), fun q => absurd q h⟩
  obtain ⟨gC, hgC⟩ := Classical.axiomOfChoice hex
  obtain ⟨t0, ht0⟩ := jv_arr (htj _ jvw_int) (fun C h => by cases h)
  obtain ⟨t1, ht1⟩ := jv_arr (htj _ jvw_long) (fun C h => by cases h)
  obtain ⟨t2, ht2⟩ := jv_arr (htj _ jvw_byte) (fun C h => by cases h)
  obtain ⟨t3, ht3⟩ := jv_arr (htj _ jvw_boolean) (fun C h => by cases h)
  have hao : (Cond.arrayOver (.object RX8)).before #[Value.ref b] s = true := hts _ (by decide +kernel)
  obtain ⟨t4, ht4⟩ := jv_arrO hao
  have hK : va_K (fun ci => (gC ci).1, fun ci => (gC ci).2) vwCl (jv_tys (fun i => if i = 0 then t0 else if i = 1 then t1 else if i = 2 then t2 else if i = 3 then t3 else t4)) s := by
    refine ⟨fun ci q hq => ?_, fun k q hk => ?_⟩
    · have hlt : ci < jNc := (List.getElem?_eq_some_iff.mp hq).1
      have := hq.symm.trans (jcl ci hlt)
      cases this
      exact hgC ci hlt
    · match k, hk with
      | 0, hk => cases hk; exact ht0
      | 1, hk => cases hk; exact ht1
      | 2, hk => cases hk; exact ht2
      | 3, hk => cases hk; exact ht3
      | 4, hk => cases hk; exact ht4
      | k + 5, hk => simp at hk
  have m5 : ∀ {φ : Nat → Prop}, φ 0 → φ 1 → φ 2 → φ 3 → φ 4 → ∀ i : Nat, i < 5 → φ i := by
    intro φ a0 a1 a2 a3 a4 i hi
    match i, hi with
    | 0, _ => exact a0
    | 1, _ => exact a1
    | 2, _ => exact a2
    | 3, _ => exact a3
    | 4, _ => exact a4
  obtain ⟨adK, adV, hStr, hEv⟩ := vk_Sof (args := #[Value.ref b]) (s := s) (N := 5) (tm := jtm) (len := jv_len) (byt := jv_byt) (A := fun q : Nat => s.heap.size ≤ q) (by decide)
    (m5 (hg _ (by decide +kernel)) (hg _ (by decide +kernel)) (hg _ (by decide +kernel)) (hg _ (by decide +kernel)) (hg _ (by decide +kernel)))
    (m5 (hg _ (by decide +kernel)) (hg _ (by decide +kernel)) (hg _ (by decide +kernel)) (hg _ (by decide +kernel)) (hg _ (by decide +kernel)))
    (m5 (hg _ (by decide +kernel)) (hg _ (by decide +kernel)) (hg _ (by decide +kernel)) (hg _ (by decide +kernel)) (hg _ (by decide +kernel)))
    (m5 (hg _ (by decide +kernel)) (hg _ (by decide +kernel)) (hg _ (by decide +kernel)) (hg _ (by decide +kernel)) (hg _ (by decide +kernel)))
    (by
      intro i hi j hj
      have : ∀ i, i < 5 → ∀ j, j < jv_len.getD i 0 → (Cond.eq (.elem (.field (jtm i) "java/lang/String" "value" "[B") (.int (Int32.ofNat j))) (.int ((jv_byt.getD i []).getD j 0))) ∈ flatC (Jvm.Cond.and given_1 narrow_1) := by decide +kernel
      exact hg _ (this i hi j hj))
    (by
      intro i j hi hj hij
      have : ∀ i, i < 5 → ∀ j, j < 5 → i ≠ j → (Cond.not (Cond.eq (jtm i) (jtm j))) ∈ flatC (Jvm.Cond.and given_1 narrow_1) ∨ (Cond.not (Cond.eq (jtm j) (jtm i))) ∈ flatC (Jvm.Cond.and given_1 narrow_1) := by decide +kernel
      exact (this i hi j hj hij).imp (hg _) (hg _)) hA0
  have hZ1 : va_Z "java/lang/String" "COMPACT_STRINGS" "Z" (.int 1) (fun q : Nat => s.heap.size ≤ q) s s.heap := va_Zof (hts _ (by decide +kernel)) (hts _ (by decide +kernel)) (va_eqi (hg _ (by decide +kernel))) hA0
  have hZ2 : va_Zq "jdk/internal/util/Preconditions" "SIOOBE_FORMATTER" "Ljava/util/function/BiFunction;" (fun q : Nat => s.heap.size ≤ q) s s.heap := va_Zqof (hts _ (by decide +kernel)) (hts _ (by decide +kernel)) (hg _ (by decide +kernel)) hA0
  obtain ⟨t9, hZ3⟩ : ∃ t9 : Nat, va_Z "jdk/internal/util/Preconditions" "SIOOBE_FORMATTER" "Ljava/util/function/BiFunction;" .null (fun q : Nat => s.heap.size ≤ q) s s.heap ∨ va_Z "jdk/internal/util/Preconditions" "SIOOBE_FORMATTER" "Ljava/util/function/BiFunction;" (.ref t9) (fun q : Nat => s.heap.size ≤ q) s s.heap := by
    rcases hZ2 with h | ⟨t, h⟩
    · exact ⟨0, Or.inl h⟩
    · exact ⟨t, Or.inr h⟩
  have hRO : jv_RO (L, xs) (fun a => if a = 1200 then b else if a = 1300 then t9 else if a < 1100 then adK (a - 1000) else adV (a - 1100)) (fun q : Nat => s.heap.size ≤ q) s s.heap := by
    have e1 : ∀ i, i < 5 → (fun a => if a = 1200 then b else if a = 1300 then t9 else if a < 1100 then adK (a - 1000) else adV (a - 1100)) (1000 + i) = adK i := by
      intro i hi
      show (if 1000 + i = 1200 then b else if 1000 + i = 1300 then t9 else if 1000 + i < 1100 then adK (1000 + i - 1000) else adV (1000 + i - 1100)) = adK i
      rw [if_neg (by omega), if_neg (by omega), if_pos (by omega), Nat.add_sub_cancel_left]
    have e2 : ∀ i, i < 5 → (fun a => if a = 1200 then b else if a = 1300 then t9 else if a < 1100 then adK (a - 1000) else adV (a - 1100)) (1100 + i) = adV i := by
      intro i hi
      show (if 1100 + i = 1200 then b else if 1100 + i = 1300 then t9 else if 1100 + i < 1100 then adK (1100 + i - 1000) else adV (1100 + i - 1100)) = adV i
      rw [if_neg (by omega), if_neg (by omega), if_neg (by omega), Nat.add_sub_cancel_left]
    refine ⟨⟨fun i hi => ?_, fun i j hi hj h => ?_⟩, fun i q hq => ?_, hZ1, hZ3, ⟨hX, hbl, Nat.not_le.mpr hbl⟩, fun q hq => ?_, hao⟩
    · rw [e1 i hi, e2 i hi]; exact hStr.1 i hi
    · rw [e1 i hi, e1 j hj] at h; exact hStr.2 i j hi hj h
    · have hi : i < 5 := (List.getElem?_eq_some_iff.mp hq).1
      rw [e1 i hi]
      have hw : Cond.stringRef RX6 q.1 q.2 ∈ lw_tbl := by
        have : ∀ z ∈ jv_strs, Cond.stringRef RX6 z.1 z.2 ∈ lw_tbl := by decide +kernel
        exact this q (List.mem_of_getElem? hq)
      have hv := hEv i hi
      have e3 : jtm i = .string RX6 q.1 := by unfold jtm; rw [List.getD_eq_getElem?_getD, hq]; rfl
      rw [e3] at hv
      refine ⟨?_, ?_⟩
      · exact hts _ hw
      · exact hv
    · have : ∀ z ∈ jv_nest, Cond.methodLinkNest z.1 z.2.1 z.2.2.1 z.2.2.2 ∈ lw_tbl := by decide +kernel
      exact va_Nw.of rfl (hts _ (this q hq))
  have hl := jv_lv.entry [Value.ref b] (n := 4) (Nat.le_of_ble_eq_true rfl)
  rw [lg_entry_eq]
  generalize (lg_sl ([Value.ref b]) ++ List.replicate (4 - (lg_sl ([Value.ref b])).length) Slot.unset).toArray = ls at hl ⊢
  refine hlaw (L, xs) hL (fun q : Nat => s.heap.size ≤ q) _ _ p l e room_1 s m #[Value.ref b] below meth c s.heap [] 0 0 (lw_Z below #[Value.ref b] s) ls (fun a => if a = 1200 then b else if a = 1300 then t9 else if a < 1100 then adK (a - 1000) else adV (a - 1100)) ⟨hx, hb, hml, hr, hown, htj, hK, fun _ h => h, hlocks, fun h => absurd h (by decide)⟩ ⟨Nat.le_of_ble_eq_true rfl, Nat.le_of_ble_eq_true rfl, Nat.le_of_ble_eq_true rfl, Nat.le_of_ble_eq_true rfl⟩ ⟨fun k q h => by simp [jv_ws] at h, ⟨fun i j p q h => by simp [jv_ws] at h, fun k q h => by simp [jv_ws] at h⟩, va_S.rf, hRO, fun a k b' h1 h2 => by cases h2⟩ ⟨hl, fun v hv => ?_, fun v hv => by cases hv⟩ ?_
  · simp only [List.mem_cons, List.not_mem_nil, or_false] at hv
    rcases hv with rfl | rfl | rfl | rfl
    · intro a ha; cases ha; exact Or.inr (by omega)
    · exact jv_ok.uns
    · exact jv_ok.uns
    · exact jv_ok.uns
  · intro r n' I' J' P' H' locs' cells' slots' ls' ad' pc' st' hq hext hcs hDn hret
    subst hq
    rcases hret with ⟨h, -⟩ | ⟨v, ty, h, rfl, hd, hr2, hn⟩ | ⟨v, h, -⟩
    · cases h
    · cases h
      refine va_forget hDn.2.2.1.2.2 (W.widen (k := 600000) (n := 7302250) hcs.1 hcs.2 (lw_ret hx hb hr hlocks hd))
    · cases h
end
section
/-! rows over natural numbers, and rows whose answer is named -/
theorem nI_lt31 {a : Nat} (h : a < 2 ^ 31) : a < 2 ^ 31 := h
section JM
variable {X : jX} {d bc bs : Nat} {M : MD} {Q : jPost} {pc : Nat} {L st : List Value} {n : Nat} {I : HI} {J : HJ} {P : HP}
theorem j_iaddN {pc' a b c : Nat} (hd : decode M.2.1 pc = .ok (.iadd, 1)) (hp : pc + 1 = pc') (hc : a + b = c) (k : Rj X d bc bs M Q pc' L (.int (nI c) :: st) n I J P) : Rj X d bc bs M Q pc L (.int (nI b) :: .int (nI a) :: st) n I J P :=
  j_iadd hd hp (by rw [nI_add, hc]; exact k)
theorem j_isubN {pc' a b c : Nat} (hd : decode M.2.1 pc = .ok (.isub, 1)) (hp : pc + 1 = pc') (h : b ≤ a) (hc : a - b = c) (k : Rj X d bc bs M Q pc' L (.int (nI c) :: st) n I J P) : Rj X d bc bs M Q pc L (.int (nI b) :: .int (nI a) :: st) n I J P :=
  j_isub hd hp (by rw [pk_sub h, hc]; exact k)
theorem j_imulN {pc' a b c : Nat} (hd : decode M.2.1 pc = .ok (.imul, 1)) (hp : pc + 1 = pc') (hc : a * b = c) (k : Rj X d bc bs M Q pc' L (.int (nI c) :: st) n I J P) : Rj X d bc bs M Q pc L (.int (nI b) :: .int (nI a) :: st) n I J P :=
  j_imul hd hp (by rw [pk_mul, hc]; exact k)
theorem j_idivN {pc' a b c : Nat} (hd : decode M.2.1 pc = .ok (.idiv, 1)) (hp : pc + 1 = pc') (ha : a < 2 ^ 31) (h0 : 0 < b) (hb : b < 2 ^ 31) (hc : a / b = c) (k : Rj X d bc bs M Q pc' L (.int (nI c) :: st) n I J P) : Rj X d bc bs M Q pc L (.int (nI b) :: .int (nI a) :: st) n I J P :=
  j_idiv hd hp (nI_ne0 h0 hb) (by rw [pk_div ha h0 hb, hc]; exact k)
theorem j_iremN {pc' a b c : Nat} (hd : decode M.2.1 pc = .ok (.irem, 1)) (hp : pc + 1 = pc') (ha : a < 2 ^ 31) (h0 : 0 < b) (hb : b < 2 ^ 31) (hc : a % b = c) (k : Rj X d bc bs M Q pc' L (.int (nI c) :: st) n I J P) : Rj X d bc bs M Q pc L (.int (nI b) :: .int (nI a) :: st) n I J P :=
  j_irem hd hp (nI_ne0 h0 hb) (by rw [pk_rem ha h0 hb, hc]; exact k)
theorem j_iincN {pc' i a b c : Nat} {z : Int} {L' : List Value} (hd : decode M.2.1 pc = .ok (.iinc i z, 3)) (hp : pc + 3 = pc') (h0 : L[i]? = some (.int (nI a))) (hz : Int32.ofInt z = nI b) (hc : a + b = c) (hL : L.set i (.int (nI c)) = L') (hn : i < M.2.2.1) (hg : jv_g L i = true) (k : Rj X d bc bs M Q pc' L' st n I J P) : Rj X d bc bs M Q pc L st n I J P :=
  j_iinc hd hp h0 (by rw [hz, nI_add, hc]) hL hn hg k
theorem j_val {v w : Int32} (h : v = w) (k : Rj X d bc bs M Q pc L (.int w :: st) n I J P) : Rj X d bc bs M Q pc L (.int v :: st) n I J P := by rw [h]; exact k
theorem j_valJ {v w : Int64} (h : v = w) (k : Rj X d bc bs M Q pc L (.long w :: st) n I J P) : Rj X d bc bs M Q pc L (.long v :: st) n I J P := by rw [h]; exact k
theorem j_getIv {pc' idx ci k a : Nat} {v : Int32} (hd : decode M.2.1 pc = .ok (.getfield idx, 3)) (hp : pc + 3 = pc') (hf : PF M.1.cls idx ci k) (hs : shp a = (0, ci)) (ha : a < 1000) (ht : jty ci k = .int) (hv : I a k = v) (kk : Rj X d bc bs M Q pc' L (.int v :: st) n I J P) : Rj X d bc bs M Q pc L (.ref a :: st) n I J P :=
  j_getI hd hp hf hs ha ht (by rw [hv]; exact kk)
theorem j_getJv {pc' idx ci k a : Nat} {v : Int64} (hd : decode M.2.1 pc = .ok (.getfield idx, 3)) (hp : pc + 3 = pc') (hf : PF M.1.cls idx ci k) (hs : shp a = (0, ci)) (ha : a < 1000) (ht : jty ci k = .long) (hv : J a k = v) (kk : Rj X d bc bs M Q pc' L (.long v :: st) n I J P) : Rj X d bc bs M Q pc L (.ref a :: st) n I J P :=
  j_getJ hd hp hf hs ha ht (by rw [hv]; exact kk)
theorem jin {i : Int32} {j len : Nat} (hi : i = nI j) (hj : j < len) (hl : len < 2 ^ 31) : vp_in i len ∧ i.toNatClampNeg = j := by
  subst hi
  exact ⟨vp_in_nI hj hl, nI_clamp (by omega)⟩

theorem j_iald {pc' a len j : Nat} {i : Int32} {v : Int32} (hd : decode M.2.1 pc = .ok (.iaload, 1)) (hp : pc + 1 = pc') (hs : shp a = (1, len)) (ha : a < 1000) (hi : i = nI j) (hj : j < len) (hl : len < 2 ^ 31) (hv : I a j = v) (kk : Rj X d bc bs M Q pc' L (.int v :: st) n I J P) : Rj X d bc bs M Q pc L (.int i :: .ref a :: st) n I J P := by
  obtain ⟨h1, h2⟩ := jin hi hj hl
  exact j_iaload hd hp hs ha h1 (by rw [h2, hv]; exact kk)
theorem j_bald {pc' a len j : Nat} {i : Int32} {v : Int32} (hd : decode M.2.1 pc = .ok (.baload, 1)) (hp : pc + 1 = pc') (hs : shp a = (3, len)) (ha : a < 1000) (hi : i = nI j) (hj : j < len) (hl : len < 2 ^ 31) (hv : I a j = v) (kk : Rj X d bc bs M Q pc' L (.int v :: st) n I J P) : Rj X d bc bs M Q pc L (.int i :: .ref a :: st) n I J P := by
  obtain ⟨h1, h2⟩ := jin hi hj hl
  exact j_baload hd hp hs ha h1 (by rw [h2, hv]; exact kk)
theorem j_zald {pc' a len j : Nat} {i : Int32} {v : Int32} (hd : decode M.2.1 pc = .ok (.baload, 1)) (hp : pc + 1 = pc') (hs : shp a = (4, len)) (ha : a < 1000) (hi : i = nI j) (hj : j < len) (hl : len < 2 ^ 31) (hv : I a j = v) (kk : Rj X d bc bs M Q pc' L (.int v :: st) n I J P) : Rj X d bc bs M Q pc L (.int i :: .ref a :: st) n I J P := by
  obtain ⟨h1, h2⟩ := jin hi hj hl
  exact j_zaload hd hp hs ha h1 (by rw [h2, hv]; exact kk)
theorem j_lald {pc' a len j : Nat} {i : Int32} {v : Int64} (hd : decode M.2.1 pc = .ok (.laload, 1)) (hp : pc + 1 = pc') (hs : shp a = (2, len)) (ha : a < 1000) (hi : i = nI j) (hj : j < len) (hl : len < 2 ^ 31) (hv : J a j = v) (kk : Rj X d bc bs M Q pc' L (.long v :: st) n I J P) : Rj X d bc bs M Q pc L (.int i :: .ref a :: st) n I J P := by
  obtain ⟨h1, h2⟩ := jin hi hj hl
  exact j_laload hd hp hs ha h1 (by rw [h2, hv]; exact kk)
theorem j_iast {pc' a len j : Nat} {i : Int32} {v : Int32} (hd : decode M.2.1 pc = .ok (.iastore, 1)) (hp : pc + 1 = pc') (hs : shp a = (1, len)) (ha : a < 1000) (hi : i = nI j) (hj : j < len) (hl : len < 2 ^ 31) (kk : Rj X d bc bs M Q pc' L st n (u2 I a j v) J P) : Rj X d bc bs M Q pc L (.int v :: .int i :: .ref a :: st) n I J P := by
  obtain ⟨h1, h2⟩ := jin hi hj hl
  exact j_iastore hd hp hs ha h1 (by rw [h2]; exact kk)
theorem j_bast {pc' a len j : Nat} {i : Int32} {v : Int32} (hd : decode M.2.1 pc = .ok (.bastore, 1)) (hp : pc + 1 = pc') (hs : shp a = (3, len)) (ha : a < 1000) (hi : i = nI j) (hj : j < len) (hl : len < 2 ^ 31) (kk : Rj X d bc bs M Q pc' L st n (u2 I a j (vp_nar .byte v)) J P) : Rj X d bc bs M Q pc L (.int v :: .int i :: .ref a :: st) n I J P := by
  obtain ⟨h1, h2⟩ := jin hi hj hl
  exact j_bastore hd hp hs ha h1 (by rw [h2]; exact kk)
theorem j_zast {pc' a len j : Nat} {i : Int32} {v : Int32} (hd : decode M.2.1 pc = .ok (.bastore, 1)) (hp : pc + 1 = pc') (hs : shp a = (4, len)) (ha : a < 1000) (hi : i = nI j) (hj : j < len) (hl : len < 2 ^ 31) (kk : Rj X d bc bs M Q pc' L st n (u2 I a j (vp_nar .boolean v)) J P) : Rj X d bc bs M Q pc L (.int v :: .int i :: .ref a :: st) n I J P := by
  obtain ⟨h1, h2⟩ := jin hi hj hl
  exact j_zastore hd hp hs ha h1 (by rw [h2]; exact kk)
theorem j_last {pc' a len j : Nat} {i : Int32} {v : Int64} (hd : decode M.2.1 pc = .ok (.lastore, 1)) (hp : pc + 1 = pc') (hs : shp a = (2, len)) (ha : a < 1000) (hi : i = nI j) (hj : j < len) (hl : len < 2 ^ 31) (kk : Rj X d bc bs M Q pc' L st n I (u2 J a j v) P) : Rj X d bc bs M Q pc L (.long v :: .int i :: .ref a :: st) n I J P := by
  obtain ⟨h1, h2⟩ := jin hi hj hl
  exact j_lastore hd hp hs ha h1 (by rw [h2]; exact kk)
theorem j_icmpeqN {tgt pc' : Nat} {off : Int} {a b : Nat} (hd : decode M.2.1 pc = .ok (.if_icmp .eq off, 3)) (ht : (pc : Int) + off = (tgt : Int)) (hp : pc + 3 = pc') (ha : a < 2 ^ 31) (hb : b < 2 ^ 31) (k1 : a = b → Rj X d bc bs M Q tgt L st n I J P) (k2 : ¬ a = b → Rj X d bc bs M Q pc' L st n I J P) : Rj X d bc bs M Q pc L (.int (nI b) :: .int (nI a) :: st) n I J P :=
  j_icmpeq hd ht hp (fun h => k1 ((nI_eq ha hb).mp h)) (fun h => k2 (fun q => h ((nI_eq ha hb).mpr q)))
theorem j_ifeqN {tgt pc' : Nat} {off : Int} {a : Nat} (hd : decode M.2.1 pc = .ok (.ifCond .eq off, 3)) (ht : (pc : Int) + off = (tgt : Int)) (hp : pc + 3 = pc') (ha : a < 2 ^ 31) (k1 : a = 0 → Rj X d bc bs M Q tgt L st n I J P) (k2 : ¬ a = 0 → Rj X d bc bs M Q pc' L st n I J P) : Rj X d bc bs M Q pc L (.int (nI a) :: st) n I J P :=
  j_ifeq hd ht hp (fun h => k1 ((nI_eq ha (Nat.le_of_ble_eq_true rfl : 0 < 2 ^ 31)).mp h)) (fun h => k2 (fun q => h ((nI_eq ha (Nat.le_of_ble_eq_true rfl : 0 < 2 ^ 31)).mpr q)))
theorem j_icmpltN {tgt pc' : Nat} {off : Int} {a b : Nat} (hd : decode M.2.1 pc = .ok (.if_icmp .lt off, 3)) (ht : (pc : Int) + off = (tgt : Int)) (hp : pc + 3 = pc') (ha : a < 2 ^ 31) (hb : b < 2 ^ 31) (k1 : a < b → Rj X d bc bs M Q tgt L st n I J P) (k2 : ¬ a < b → Rj X d bc bs M Q pc' L st n I J P) : Rj X d bc bs M Q pc L (.int (nI b) :: .int (nI a) :: st) n I J P :=
  j_icmplt hd ht hp (fun h => k1 ((nI_ltI ha hb).mp h)) (fun h => k2 (fun q => h ((nI_ltI ha hb).mpr q)))
theorem j_ifltN {tgt pc' : Nat} {off : Int} {a : Nat} (hd : decode M.2.1 pc = .ok (.ifCond .lt off, 3)) (ht : (pc : Int) + off = (tgt : Int)) (hp : pc + 3 = pc') (ha : a < 2 ^ 31) (k1 : a < 0 → Rj X d bc bs M Q tgt L st n I J P) (k2 : ¬ a < 0 → Rj X d bc bs M Q pc' L st n I J P) : Rj X d bc bs M Q pc L (.int (nI a) :: st) n I J P :=
  j_iflt hd ht hp (fun h => k1 ((nI_ltI ha (Nat.le_of_ble_eq_true rfl : 0 < 2 ^ 31)).mp h)) (fun h => k2 (fun q => h ((nI_ltI ha (Nat.le_of_ble_eq_true rfl : 0 < 2 ^ 31)).mpr q)))
theorem j_icmpgeN {tgt pc' : Nat} {off : Int} {a b : Nat} (hd : decode M.2.1 pc = .ok (.if_icmp .ge off, 3)) (ht : (pc : Int) + off = (tgt : Int)) (hp : pc + 3 = pc') (ha : a < 2 ^ 31) (hb : b < 2 ^ 31) (k1 : b ≤ a → Rj X d bc bs M Q tgt L st n I J P) (k2 : ¬ b ≤ a → Rj X d bc bs M Q pc' L st n I J P) : Rj X d bc bs M Q pc L (.int (nI b) :: .int (nI a) :: st) n I J P :=
  j_icmpge hd ht hp (fun h => k1 ((nI_leI hb ha).mp h)) (fun h => k2 (fun q => h ((nI_leI hb ha).mpr q)))
theorem j_ifgeN {tgt pc' : Nat} {off : Int} {a : Nat} (hd : decode M.2.1 pc = .ok (.ifCond .ge off, 3)) (ht : (pc : Int) + off = (tgt : Int)) (hp : pc + 3 = pc') (ha : a < 2 ^ 31) (k1 : 0 ≤ a → Rj X d bc bs M Q tgt L st n I J P) (k2 : ¬ 0 ≤ a → Rj X d bc bs M Q pc' L st n I J P) : Rj X d bc bs M Q pc L (.int (nI a) :: st) n I J P :=
  j_ifge hd ht hp (fun h => k1 ((nI_leI (Nat.le_of_ble_eq_true rfl : 0 < 2 ^ 31) ha).mp h)) (fun h => k2 (fun q => h ((nI_leI (Nat.le_of_ble_eq_true rfl : 0 < 2 ^ 31) ha).mpr q)))
theorem j_icmpgtN {tgt pc' : Nat} {off : Int} {a b : Nat} (hd : decode M.2.1 pc = .ok (.if_icmp .gt off, 3)) (ht : (pc : Int) + off = (tgt : Int)) (hp : pc + 3 = pc') (ha : a < 2 ^ 31) (hb : b < 2 ^ 31) (k1 : b < a → Rj X d bc bs M Q tgt L st n I J P) (k2 : ¬ b < a → Rj X d bc bs M Q pc' L st n I J P) : Rj X d bc bs M Q pc L (.int (nI b) :: .int (nI a) :: st) n I J P :=
  j_icmpgt hd ht hp (fun h => k1 ((nI_ltI hb ha).mp h)) (fun h => k2 (fun q => h ((nI_ltI hb ha).mpr q)))
theorem j_ifgtN {tgt pc' : Nat} {off : Int} {a : Nat} (hd : decode M.2.1 pc = .ok (.ifCond .gt off, 3)) (ht : (pc : Int) + off = (tgt : Int)) (hp : pc + 3 = pc') (ha : a < 2 ^ 31) (k1 : 0 < a → Rj X d bc bs M Q tgt L st n I J P) (k2 : ¬ 0 < a → Rj X d bc bs M Q pc' L st n I J P) : Rj X d bc bs M Q pc L (.int (nI a) :: st) n I J P :=
  j_ifgt hd ht hp (fun h => k1 ((nI_ltI (Nat.le_of_ble_eq_true rfl : 0 < 2 ^ 31) ha).mp h)) (fun h => k2 (fun q => h ((nI_ltI (Nat.le_of_ble_eq_true rfl : 0 < 2 ^ 31) ha).mpr q)))
theorem j_icmpleN {tgt pc' : Nat} {off : Int} {a b : Nat} (hd : decode M.2.1 pc = .ok (.if_icmp .le off, 3)) (ht : (pc : Int) + off = (tgt : Int)) (hp : pc + 3 = pc') (ha : a < 2 ^ 31) (hb : b < 2 ^ 31) (k1 : a ≤ b → Rj X d bc bs M Q tgt L st n I J P) (k2 : ¬ a ≤ b → Rj X d bc bs M Q pc' L st n I J P) : Rj X d bc bs M Q pc L (.int (nI b) :: .int (nI a) :: st) n I J P :=
  j_icmple hd ht hp (fun h => k1 ((nI_leI ha hb).mp h)) (fun h => k2 (fun q => h ((nI_leI ha hb).mpr q)))
theorem j_ifleN {tgt pc' : Nat} {off : Int} {a : Nat} (hd : decode M.2.1 pc = .ok (.ifCond .le off, 3)) (ht : (pc : Int) + off = (tgt : Int)) (hp : pc + 3 = pc') (ha : a < 2 ^ 31) (k1 : a ≤ 0 → Rj X d bc bs M Q tgt L st n I J P) (k2 : ¬ a ≤ 0 → Rj X d bc bs M Q pc' L st n I J P) : Rj X d bc bs M Q pc L (.int (nI a) :: st) n I J P :=
  j_ifle hd ht hp (fun h => k1 ((nI_leI ha (Nat.le_of_ble_eq_true rfl : 0 < 2 ^ 31)).mp h)) (fun h => k2 (fun q => h ((nI_leI ha (Nat.le_of_ble_eq_true rfl : 0 < 2 ^ 31)).mpr q)))
theorem j_icmpneN {tgt pc' : Nat} {off : Int} {a b : Nat} (hd : decode M.2.1 pc = .ok (.if_icmp .ne off, 3)) (ht : (pc : Int) + off = (tgt : Int)) (hp : pc + 3 = pc') (ha : a < 2 ^ 31) (hb : b < 2 ^ 31) (k1 : ¬ a = b → Rj X d bc bs M Q tgt L st n I J P) (k2 : a = b → Rj X d bc bs M Q pc' L st n I J P) : Rj X d bc bs M Q pc L (.int (nI b) :: .int (nI a) :: st) n I J P :=
  j_icmpne hd ht hp (fun h => k1 (fun q => h ((nI_eq ha hb).mpr q))) (fun h => k2 ((nI_eq ha hb).mp h))
theorem j_ifneN {tgt pc' : Nat} {off : Int} {a : Nat} (hd : decode M.2.1 pc = .ok (.ifCond .ne off, 3)) (ht : (pc : Int) + off = (tgt : Int)) (hp : pc + 3 = pc') (ha : a < 2 ^ 31) (k1 : ¬ a = 0 → Rj X d bc bs M Q tgt L st n I J P) (k2 : a = 0 → Rj X d bc bs M Q pc' L st n I J P) : Rj X d bc bs M Q pc L (.int (nI a) :: st) n I J P :=
  j_ifne hd ht hp (fun h => k1 (fun q => h ((nI_eq ha (Nat.le_of_ble_eq_true rfl : 0 < 2 ^ 31)).mpr q))) (fun h => k2 ((nI_eq ha (Nat.le_of_ble_eq_true rfl : 0 < 2 ^ 31)).mp h))
/-- a truth as an int -/
def bI (c : Prop) [Decidable c] : Int32 := if c then 1 else 0
theorem bI_t {c : Prop} [Decidable c] (h : c) : bI c = 1 := if_pos h
theorem bI_f {c : Prop} [Decidable c] (h : ¬ c) : bI c = 0 := if_neg h
theorem bI_nar (c : Prop) [Decidable c] : narrow .boolean (.int (bI c)) = .int (bI c) := by
  unfold bI
  split <;> rfl
theorem bI_eq0 {c : Prop} [Decidable c] : bI c = 0 ↔ ¬ c := by
  unfold bI
  split <;> simp [*]
theorem j_ifneB {tgt pc' : Nat} {off : Int} {c : Prop} [Decidable c] (hd : decode M.2.1 pc = .ok (.ifCond .ne off, 3)) (ht : (pc : Int) + off = (tgt : Int)) (hp : pc + 3 = pc') (k1 : c → Rj X d bc bs M Q tgt L st n I J P) (k2 : ¬ c → Rj X d bc bs M Q pc' L st n I J P) : Rj X d bc bs M Q pc L (.int (bI c) :: st) n I J P :=
  j_ifne hd ht hp (fun h => k1 (Classical.not_not.mp (fun q => h (bI_eq0.mpr q)))) (fun h => k2 (bI_eq0.mp h))
theorem j_ifeqB {tgt pc' : Nat} {off : Int} {c : Prop} [Decidable c] (hd : decode M.2.1 pc = .ok (.ifCond .eq off, 3)) (ht : (pc : Int) + off = (tgt : Int)) (hp : pc + 3 = pc') (k1 : ¬ c → Rj X d bc bs M Q tgt L st n I J P) (k2 : c → Rj X d bc bs M Q pc' L st n I J P) : Rj X d bc bs M Q pc L (.int (bI c) :: st) n I J P :=
  j_ifeq hd ht hp (fun h => k1 (bI_eq0.mp h)) (fun h => k2 (Classical.not_not.mp (fun q => h (bI_eq0.mpr q))))
/-! calls, the caller's rest as the callee's end -/
theorem j_callVw {pc' idx b ci bc1 bs1 bc2 bs2 : Nat} {N : MD} {As st0 : List Value} (hd : decode M.2.1 pc = .ok (.invokevirtual idx, 3)) (hp : pc + 3 = pc') (hm : PMv M.1.cls idx N As.length) (hci : ci < jNc) (hs : shp b = (0, ci)) (hcn : jC ci = N.1.cls) (hb : b < 1000) (hst : As.reverse ++ .ref b :: st = st0) (hcat : (st.map fun v => v.category).sum ≤ 8) (hbc : bc2 + bc1 = bc) (hbs : bs2 + bs1 = bs)
    (hC : Cj X d bc1 bs1 N (.ref b :: As) n I J P (fun r n' I' J' P' => Rj X (d + 1) bc2 bs2 M Q pc' L (r.toList ++ st) n' I' J' P')) : Rj X (d + 1) bc bs M Q pc L st0 n I J P := by
  subst hp
  exact j_callV hd hm hC hci hs hcn hb hst hcat hbc hbs (fun _ _ _ _ _ h => h)
theorem j_callSw {pc' idx bc1 bs1 bc2 bs2 : Nat} {N : MD} {As st0 : List Value} (hd : decode M.2.1 pc = .ok (.invokestatic idx, 3)) (hp : pc + 3 = pc') (hm : PMs M.1.cls idx N As.length) (hst : As.reverse ++ st = st0) (hcat : (st.map fun v => v.category).sum ≤ 8) (hbc : bc2 + bc1 = bc) (hbs : bs2 + bs1 = bs)
    (hC : Cj X d bc1 bs1 N As n I J P (fun r n' I' J' P' => Rj X (d + 1) bc2 bs2 M Q pc' L (r.toList ++ st) n' I' J' P')) : Rj X (d + 1) bc bs M Q pc L st0 n I J P := by
  subst hp
  exact j_callS hd hm hC hst hcat hbc hbs (fun _ _ _ _ _ h => h)
theorem j_callSNw {pc' idx bc1 bs1 bc2 bs2 : Nat} {N : MD} {As st0 : List Value} (hd : decode M.2.1 pc = .ok (.invokestatic idx, 3)) (hp : pc + 3 = pc') (hm : PMsn M.1.cls idx N As.length) (hst : As.reverse ++ st = st0) (hcat : (st.map fun v => v.category).sum ≤ 8) (hbc : bc2 + bc1 = bc) (hbs : bs2 + bs1 = bs)
    (hC : Cj X d bc1 bs1 N As n I J P (fun r n' I' J' P' => Rj X (d + 1) bc2 bs2 M Q pc' L (r.toList ++ st) n' I' J' P')) : Rj X (d + 1) bc bs M Q pc L st0 n I J P := by
  subst hp
  exact j_callSN hd hm hC hst hcat hbc hbs (fun _ _ _ _ _ h => h)
theorem j_callIw {pc' idx b bc1 bs1 bc2 bs2 : Nat} {N : MD} {As st0 : List Value} (hd : decode M.2.1 pc = .ok (.invokespecial idx, 3)) (hp : pc + 3 = pc') (hm : PMi M.1.cls idx N As.length) (hst : As.reverse ++ .ref b :: st = st0) (hcat : (st.map fun v => v.category).sum ≤ 8) (hbc : bc2 + bc1 = bc) (hbs : bs2 + bs1 = bs)
    (hC : Cj X d bc1 bs1 N (.ref b :: As) n I J P (fun r n' I' J' P' => Rj X (d + 1) bc2 bs2 M Q pc' L (r.toList ++ st) n' I' J' P')) : Rj X (d + 1) bc bs M Q pc L st0 n I J P := by
  subst hp
  exact j_callI hd hm hC hst hcat hbc hbs (fun _ _ _ _ _ h => h)
theorem j_callINw {pc' idx b bc1 bs1 bc2 bs2 : Nat} {N : MD} {As st0 : List Value} (hd : decode M.2.1 pc = .ok (.invokespecial idx, 3)) (hp : pc + 3 = pc') (hm : PMin M.1.cls idx N As.length) (hst : As.reverse ++ .ref b :: st = st0) (hcat : (st.map fun v => v.category).sum ≤ 8) (hbc : bc2 + bc1 = bc) (hbs : bs2 + bs1 = bs)
    (hC : Cj X d bc1 bs1 N (.ref b :: As) n I J P (fun r n' I' J' P' => Rj X (d + 1) bc2 bs2 M Q pc' L (r.toList ++ st) n' I' J' P')) : Rj X (d + 1) bc bs M Q pc L st0 n I J P := by
  subst hp
  exact j_callIN hd hm hC hst hcat hbc hbs (fun _ _ _ _ _ h => h)
theorem j_callVSw {pc' idx i bc1 bs1 bc2 bs2 : Nat} {N : MD} {As st0 : List Value} (hi : i < 5) (hd : decode M.2.1 pc = .ok (.invokevirtual idx, 3)) (hp : pc + 3 = pc') (hm : PMv M.1.cls idx N As.length) (hcn : N.1.cls = "java/lang/String") (hst : As.reverse ++ .ref (1000 + i) :: st = st0) (hcat : (st.map fun v => v.category).sum ≤ 8) (hbc : bc2 + bc1 = bc) (hbs : bs2 + bs1 = bs)
    (hC : Cj X d bc1 bs1 N (.ref (1000 + i) :: As) n I J P (fun r n' I' J' P' => Rj X (d + 1) bc2 bs2 M Q pc' L (r.toList ++ st) n' I' J' P')) : Rj X (d + 1) bc bs M Q pc L st0 n I J P := by
  subst hp
  exact j_callVS hi hd hm hC hcn hst hcat hbc hbs (fun _ _ _ _ _ h => h)
end JM
end
section
/-! bits over naturals -/
theorem nI_bv (n : Nat) : (nI n).toBitVec = BitVec.ofNat 32 n := rfl
theorem nI_or (a b : Nat) : nI a ||| nI b = nI (a ||| b) := by
  apply Int32.toBitVec_inj.mp
  rw [Int32.toBitVec_or, nI_bv, nI_bv, nI_bv, BitVec.ofNat_or]
theorem nI_and (a b : Nat) : nI a &&& nI b = nI (a &&& b) := by
  apply Int32.toBitVec_inj.mp
  rw [Int32.toBitVec_and, nI_bv, nI_bv, nI_bv, BitVec.ofNat_and]
theorem nI_31 {b : Nat} (h : b < 32) : nI b &&& 31 = nI b := by
  rw [show (31 : Int32) = nI 31 from rfl, nI_and]
  congr 1
  have h1 := Nat.and_two_pow_sub_one_eq_mod b 5
  rw [show (31 : Nat) = 2 ^ 5 - 1 from rfl, h1]
  exact Nat.mod_eq_of_lt h
theorem nI_smod {b : Nat} (h : b < 32) : ((nI b).toBitVec.smod 32).toNat = b := by
  rw [nI_bv]
  have : ∀ b : Fin 32, ((BitVec.ofNat 32 b.val).smod 32).toNat = b.val := by decide +kernel
  exact this ⟨b, h⟩
theorem nI_shr {a b : Nat} (ha : a < 2 ^ 31) (hb : b < 32) : nI a >>> (nI b &&& 31) = nI (a / 2 ^ b) := by
  rw [nI_31 hb]
  exact pk_shrN ha _ b (nI_smod hb)
theorem nI_shl {a b : Nat} (hb : b < 32) : nI a <<< (nI b &&& 31) = nI (a * 2 ^ b) := by
  rw [nI_31 hb]
  apply Int32.toBitVec_inj.mp
  apply BitVec.eq_of_toNat_eq
  rw [pk_shl _ _ b (nI_smod hb), nI_bv, nI_bv, BitVec.toNat_ofNat, BitVec.toNat_ofNat, Nat.mod_mul_mod]
theorem nI_and1 (a : Nat) : nI a &&& nI 1 = nI (a % 2) := by
  rw [nI_and]
  congr 1
  exact Nat.and_one_is_mod a
section JB
variable {X : jX} {d bc bs : Nat} {M : MD} {Q : jPost} {pc : Nat} {L st : List Value} {n : Nat} {I : HI} {J : HJ} {P : HP}
theorem j_ishrN {pc' a b c : Nat} (hd : decode M.2.1 pc = .ok (.ishr, 1)) (hp : pc + 1 = pc') (ha : a < 2 ^ 31) (hb : b < 32) (hc : a / 2 ^ b = c) (k : Rj X d bc bs M Q pc' L (.int (nI c) :: st) n I J P) : Rj X d bc bs M Q pc L (.int (nI b) :: .int (nI a) :: st) n I J P :=
  j_ishr hd hp (by rw [nI_shr ha hb, hc]; exact k)
theorem j_ishlN {pc' a b c : Nat} (hd : decode M.2.1 pc = .ok (.ishl, 1)) (hp : pc + 1 = pc') (hb : b < 32) (hc : a * 2 ^ b = c) (k : Rj X d bc bs M Q pc' L (.int (nI c) :: st) n I J P) : Rj X d bc bs M Q pc L (.int (nI b) :: .int (nI a) :: st) n I J P :=
  j_ishl hd hp (by rw [nI_shl hb, hc]; exact k)
theorem j_iorN {pc' a b c : Nat} (hd : decode M.2.1 pc = .ok (.ior, 1)) (hp : pc + 1 = pc') (hc : a ||| b = c) (k : Rj X d bc bs M Q pc' L (.int (nI c) :: st) n I J P) : Rj X d bc bs M Q pc L (.int (nI b) :: .int (nI a) :: st) n I J P :=
  j_ior hd hp (by rw [nI_or, hc]; exact k)
theorem j_iand1N {pc' a c : Nat} (hd : decode M.2.1 pc = .ok (.iand, 1)) (hp : pc + 1 = pc') (hc : a % 2 = c) (k : Rj X d bc bs M Q pc' L (.int (nI c) :: st) n I J P) : Rj X d bc bs M Q pc L (.int (nI 1) :: .int (nI a) :: st) n I J P :=
  j_iand hd hp (by rw [nI_and1, hc]; exact k)
/-- a switch over a small natural number -/
theorem j_tabN {tgt len a k : Nat} {dflt off : Int} {lo hi : Int} {offs : Array Int} (hd : decode M.2.1 pc = .ok (.tableswitch dflt lo hi offs, len)) (ha : a < 2 ^ 31) (h1 : lo = (k : Int)) (h2 : k ≤ a) (h3 : (a : Int) ≤ hi) (ho : offs[a - k]? = some off) (ht : (pc : Int) + off = (tgt : Int)) (kk : Rj X d bc bs M Q tgt L st n I J P) : Rj X d bc bs M Q pc L (.int (nI a) :: st) n I J P := by
  subst h1
  have e := nI_toInt ha
  refine j_tabIn hd (by rw [e]; omega) (by rw [e]; omega) (off := off) ?_ ht kk
  rw [e, show ((a : Int) - (k : Int)).toNat = a - k by omega]
  exact ho
theorem j_tabD {tgt len a : Nat} {dflt lo hi : Int} {offs : Array Int} (hd : decode M.2.1 pc = .ok (.tableswitch dflt lo hi offs, len)) (ha : a < 2 ^ 31) (h : (a : Int) < lo ∨ hi < (a : Int)) (ht : (pc : Int) + dflt = (tgt : Int)) (kk : Rj X d bc bs M Q tgt L st n I J P) : Rj X d bc bs M Q pc L (.int (nI a) :: st) n I J P := by
  have e := nI_toInt ha
  exact j_tabOut hd (by rw [e]; exact h) ht kk
end JB
/-! what goes in a year -/
def tb (m j : Nat) : Nat := m / 2 ^ j % 2
def gPl (y dr : Nat) : Nat := if dr / 2 ^ (y % 12) % 2 = 1 then 2 else 1
def gRi (y dr : Nat) : Nat := if y % 2 = 0 then gPl y dr else 0
def gQu (y dr : Nat) : Nat := if y % 5 = 4 then gPl y dr + 2 else gPl y dr
def gos (k y da dr : Nat) : Nat := match k with
  | 1 => gRi y dr
  | 2 => gQu y dr
  | 3 => if da / 2 ^ (y % 12) % 2 = 1 then 2 * gPl y dr else gPl y dr
  | 4 => if y % 3 = 2 then gQu y dr + 1 else gQu y dr
  | 5 => if y % 5 = 4 then gRi y dr else if gRi y dr = 0 then gRi y dr else gRi y dr - 1
  | _ => gPl y dr
theorem gPl_le (y dr : Nat) : gPl y dr ≤ 2 := by unfold gPl; split <;> omega
theorem gPl_pos (y dr : Nat) : 1 ≤ gPl y dr := by unfold gPl; split <;> omega
theorem gRi_le (y dr : Nat) : gRi y dr ≤ 2 := by unfold gRi; have := gPl_le y dr; split <;> omega
theorem gQu_le (y dr : Nat) : gQu y dr ≤ 4 := by unfold gQu; have := gPl_le y dr; split <;> omega
theorem gos_le (k y da dr : Nat) : gos k y da dr ≤ 5 := by
  have h1 := gPl_le y dr; have h2 := gRi_le y dr; have h3 := gQu_le y dr
  unfold gos
  split <;> (try split) <;> (try split) <;> omega
end
section
/-! THE STATE: a valley as numbers: v 0 i: year, damp, dry, pairs, kin, counted, what may be undone; v 1 kinds, v 2 loaves, v 3 since, v 4 the year of the end and 1 (0: none), v 5 flour, v 6 .. v 8 what was counted; v (10 + j): the j-th newest that may be undone -/
abbrev VT : Type := Nat → Nat → Nat
/-- the class's valley at the cell b (its rows behind it) holds v -/
def VC (b : Nat) (I : HI) (v : VT) : Prop :=
  (I b 0 = nI (v 0 0) ∧ I b 1 = nI (v 0 1) ∧ I b 2 = nI (v 0 2) ∧ I b 3 = nI (v 0 3) ∧ I b 4 = nI (v 0 4) ∧ I b 5 = nI (v 0 5)) ∧
  (∀ p, p < v 0 3 → I (b + 1) p = nI (v 1 p) ∧ I (b + 2) p = nI (v 2 p) ∧ I (b + 3) p = nI (v 3 p) ∧ I (b + 4) p = nI (v 4 p) - 1) ∧
  (∀ k, k < v 0 4 → I (b + 5) k = nI (v 5 k)) ∧
  (∀ c, c < v 0 5 → I (b + 6) c = nI (v 6 c) ∧ I (b + 7) c = nI (v 7 c) ∧ I (b + 8) c = nI (v 8 c)) ∧
  (∃ fr, fr < 8 ∧ I (b + 9) 1 = nI fr ∧ I (b + 9) 2 = nI (v 0 6) ∧ ∀ j, j < v 0 6 → I (b + 10) (13 * ((fr + 7 - j) % 8)) = nI (v (10 + j) 0) ∧ ∀ p, p < v 0 3 → I (b + 10) (13 * ((fr + 7 - j) % 8) + 1 + p) = nI (v (10 + j) (1 + p)) ∧ I (b + 10) (13 * ((fr + 7 - j) % 8) + 7 + p) = nI (v (10 + j) (7 + p)) - 1)
theorem VC.year {b : Nat} {I : HI} {v : VT} (h : VC b I v) : I b 0 = nI (v 0 0) := h.1.1
theorem VC.damp {b : Nat} {I : HI} {v : VT} (h : VC b I v) : I b 1 = nI (v 0 1) := h.1.2.1
theorem VC.dry {b : Nat} {I : HI} {v : VT} (h : VC b I v) : I b 2 = nI (v 0 2) := h.1.2.2.1
theorem VC.pairs {b : Nat} {I : HI} {v : VT} (h : VC b I v) : I b 3 = nI (v 0 3) := h.1.2.2.2.1
theorem VC.kin {b : Nat} {I : HI} {v : VT} (h : VC b I v) : I b 4 = nI (v 0 4) := h.1.2.2.2.2.1
theorem VC.cnt {b : Nat} {I : HI} {v : VT} (h : VC b I v) : I b 5 = nI (v 0 5) := h.1.2.2.2.2.2
theorem VC.kd {b : Nat} {I : HI} {v : VT} (h : VC b I v) {p : Nat} (hp : p < v 0 3) : I (b + 1) p = nI (v 1 p) := (h.2.1 p hp).1
theorem VC.lv {b : Nat} {I : HI} {v : VT} (h : VC b I v) {p : Nat} (hp : p < v 0 3) : I (b + 2) p = nI (v 2 p) := (h.2.1 p hp).2.1
theorem VC.sn {b : Nat} {I : HI} {v : VT} (h : VC b I v) {p : Nat} (hp : p < v 0 3) : I (b + 3) p = nI (v 3 p) := (h.2.1 p hp).2.2.1
theorem VC.en {b : Nat} {I : HI} {v : VT} (h : VC b I v) {p : Nat} (hp : p < v 0 3) : I (b + 4) p = nI (v 4 p) - 1 := (h.2.1 p hp).2.2.2
theorem VC.fl {b : Nat} {I : HI} {v : VT} (h : VC b I v) {k : Nat} (hk : k < v 0 4) : I (b + 5) k = nI (v 5 k) := h.2.2.1 k hk
theorem VC.cp {b : Nat} {I : HI} {v : VT} (h : VC b I v) {k : Nat} (hk : k < v 0 5) : I (b + 6) k = nI (v 6 k) := (h.2.2.2.1 k hk).1
theorem VC.cm {b : Nat} {I : HI} {v : VT} (h : VC b I v) {k : Nat} (hk : k < v 0 5) : I (b + 7) k = nI (v 7 k) := (h.2.2.2.1 k hk).2.1
theorem VC.cv {b : Nat} {I : HI} {v : VT} (h : VC b I v) {k : Nat} (hk : k < v 0 5) : I (b + 8) k = nI (v 8 k) := (h.2.2.2.1 k hk).2.2
theorem VC.siz {b : Nat} {I : HI} {v : VT} (h : VC b I v) : I (b + 9) 2 = nI (v 0 6) := by obtain ⟨_, _, _, _, fr, _, _, h, _⟩ := h; exact h
/-- only the valley's own rows matter -/
theorem VC.congr {b : Nat} {I I' : HI} {v : VT} (h : VC b I v) (he : ∀ i, i ≤ 10 → I' (b + i) = I (b + i)) : VC b I' v := by
  have e0 := he 0 (by omega)
  simp only [Nat.add_zero] at e0
  unfold VC
  rw [e0, he 1 (by omega), he 2 (by omega), he 3 (by omega), he 4 (by omega), he 5 (by omega), he 6 (by omega), he 7 (by omega), he 8 (by omega), he 9 (by omega), he 10 (by omega)]
  exact h
/-- the model's valley in the row b from the place o on holds v -/
def VM (b o : Nat) (I : HI) (v : VT) : Prop :=
  (I b o = nI (v 0 3) ∧ I b (o + 1) = nI (v 0 4) ∧ I b (o + 2) = nI (v 0 0) ∧ I b (o + 3) = nI (v 0 1) ∧ I b (o + 4) = nI (v 0 2) ∧ I b (o + 5) = nI (v 0 5) ∧ I b (o + 6) = nI (v 0 6)) ∧
  (∀ p, p < v 0 3 → I b (o + 7 + p) = nI (v 1 p) ∧ I b (o + 13 + p) = nI (v 2 p) ∧ I b (o + 19 + p) = nI (v 3 p) ∧ I b (o + 25 + p) = nI (v 4 p) - 1) ∧
  (∀ k, k < v 0 4 → I b (o + 31 + k) = nI (v 5 k)) ∧
  (∀ c, c < v 0 5 → I b (o + 39 + 3 * c) = nI (v 6 c) ∧ I b (o + 40 + 3 * c) = nI (v 7 c) ∧ I b (o + 41 + 3 * c) = nI (v 8 c)) ∧
  (∀ j, j < v 0 6 → I b (o + 63 + 13 * (v 0 6 - 1 - j)) = nI (v (10 + j) 0) ∧ ∀ p, p < v 0 3 → I b (o + 64 + 13 * (v 0 6 - 1 - j) + p) = nI (v (10 + j) (1 + p)) ∧ I b (o + 70 + 13 * (v 0 6 - 1 - j) + p) = nI (v (10 + j) (7 + p)) - 1)
/-- the numbers are as told; y: no year is past it -/
def WF (y : Nat) (v : VT) : Prop :=
  (v 0 0 ≤ y ∧ v 0 1 ≤ 4095 ∧ v 0 2 ≤ 4095 ∧ v 0 3 ≤ 6 ∧ v 0 4 ≤ 8 ∧ v 0 5 ≤ 8 ∧ v 0 6 ≤ 8) ∧
  (∀ p, p < v 0 3 → v 1 p ≤ 5 ∧ v 2 p ≤ 60 ∧ v 3 p ≤ y ∧ v 4 p ≤ y + 1 ∧ (v 4 p = 0 ∨ v 2 p = 0)) ∧
  (∀ k, k < v 0 4 → 1 ≤ v 5 k ∧ v 5 k ≤ 20) ∧
  (∀ c, c < v 0 5 → v 6 c < v 0 3 ∧ v 7 c ≤ 60 ∧ v 8 c ≤ 60) ∧
  (∀ j, j < v 0 6 → v (10 + j) 0 ≤ y ∧ ∀ p, p < v 0 3 → v (10 + j) (1 + p) ≤ 60 ∧ v (10 + j) (7 + p) ≤ y + 1 ∧ (v (10 + j) (7 + p) = 0 ∨ v (10 + j) (1 + p) = 0))
theorem WF.mono {y z : Nat} {v : VT} (h : WF y v) (hz : y ≤ z) : WF z v := by
  obtain ⟨⟨a, a'⟩, b, c, d, e⟩ := h
  refine ⟨⟨by omega, a'⟩, fun p hp => ?_, c, d, fun j hj => ?_⟩
  · obtain ⟨h1, h2, h3, h4, h5⟩ := b p hp
    exact ⟨h1, h2, by omega, by omega, h5⟩
  · obtain ⟨h1, h2⟩ := e j hj
    refine ⟨by omega, fun p hp => ?_⟩
    obtain ⟨q1, q2, q3⟩ := h2 p hp
    exact ⟨q1, by omega, q3⟩
/-! the references that never change, and the two images -/
def jPr : List (List (Option Nat)) := [[some 1, some 12, some 13, some 26, some 29, some 30, some 32], [none, none, none, none, none, none, some 2, some 3, some 4, some 5, some 6, some 7, some 8, some 9, some 10], [], [], [], [], [], [], [], [], [some 11], [], [], [some 14, none, some 15], [], [none, none, none, none, none, none, some 16, some 17, some 18, some 19, some 20, some 21, some 22, some 23, some 24], [], [], [], [], [], [], [], [], [some 25], [], [some 27, some 28], [], [], [], [some 31], [], [], [some 34, some 35, some 36, some 37, none, some 38, none, none, none, none, none, none, none, none, some 39, some 40, some 41, none, none, none, some 42, some 43], [], [], [], [], [], [], [], [], [], [], [none, none, none, none, none, none, some 45, some 46, some 47, some 48, some 49, some 50, some 51, some 52, some 53], [], [], [], [], [], [], [], [], [some 54], [], [none, none, none, none, none, none, some 56, some 57, some 58, some 59, some 60, some 61, some 62, some 63, some 64], [], [], [], [], [], [], [], [], [some 65], []]
def Pg (i0 i1 : Option Nat) : HP := fun a k => if a = 12 then (if k = 0 then i0 else if k = 1 then i1 else none) else (jPr.getD a []).getD k none
/-- within two bounds, as the class and the model ask it -/
def inR (a lo hi : Int32) : Prop := ¬ a < lo ∧ ¬ hi < a
def hasP (a : Int32) (np : Nat) : Prop := ¬ a < 0 ∧ ¬ nI np ≤ a
theorem inR_nat {a : Int32} {l h : Nat} (hl : l < 2 ^ 31) (hh : h < 2 ^ 31) (q : inR a (nI l) (nI h)) : ∃ j, a = nI j ∧ l ≤ j ∧ j ≤ h := by
  obtain ⟨q1, q2⟩ := q
  rw [Int32.lt_iff_toInt_lt, nI_toInt hl] at q1
  rw [Int32.lt_iff_toInt_lt, nI_toInt hh] at q2
  obtain ⟨j, hj, rfl⟩ := nI_of (x := a) (by rw [Int32.lt_iff_toInt_lt, Int32.toInt_zero]; omega)
  rw [nI_toInt hj] at q1 q2
  exact ⟨j, rfl, by omega, by omega⟩
theorem inR_N {j l h : Nat} (hj : j < 2 ^ 31) (hl : l < 2 ^ 31) (hh : h < 2 ^ 31) : inR (nI j) (nI l) (nI h) ↔ l ≤ j ∧ j ≤ h := by
  unfold inR
  rw [nI_ltI hj hl, nI_ltI hh hj]
  omega
theorem hasP_nat {a : Int32} {np : Nat} (hn : np < 2 ^ 31) (q : hasP a np) : ∃ j, a = nI j ∧ j < np := by
  obtain ⟨j, hj, rfl⟩ := nI_of (x := a) q.1
  have := q.2
  rw [nI_leI hn hj] at this
  exact ⟨j, rfl, by omega⟩
theorem hasP_N {j np : Nat} (hj : j < np) (hn : np < 2 ^ 31) : hasP (nI j) np := by
  refine ⟨nI_pos (by omega), ?_⟩
  rw [nI_leI hn (by omega)]
  omega
theorem hasP_in {a : Int32} {np : Nat} (hn : np < 2 ^ 31) : inR a (nI 0) (nI np - 1) ↔ hasP a np := by
  unfold inR hasP
  have h1 : (nI np - 1).toInt = (np : Int) - 1 := by
    cases np with
    | zero => rfl
    | succ m => rw [nI_pred, nI_toInt (by omega)]; omega
  rw [Int32.lt_iff_toInt_lt, Int32.lt_iff_toInt_lt, Int32.lt_iff_toInt_lt, Int32.le_iff_toInt_le, h1, nI_toInt hn, Int32.toInt_zero, show (nI 0).toInt = 0 from rfl]
  omega
/-- loaves less what goes -/
theorem mx0 {a b : Nat} (ha : a < 2 ^ 30) (hb : b < 2 ^ 30) : (if nI 0 < nI a - nI b then nI a - nI b else nI 0) = nI (a - b) := by
  have h := pk_sub_toInt ha hb
  by_cases hab : b ≤ a
  · rw [pk_sub hab]
    split
    · rfl
    · next q =>
      rw [nI_ltI (by omega) (by omega)] at q
      congr 1
      omega
  · have h1 : ¬ nI 0 < nI a - nI b := by
      rw [Int32.lt_iff_toInt_lt, h, show (nI 0).toInt = 0 from rfl]
      omega
    rw [if_neg h1]
    congr 1
    omega
end
section
section JMX
variable {X : jX} {d bc bs : Nat} {M : MD} {Q : jPost} {pc : Nat} {L st : List Value} {n : Nat} {I : HI} {J : HJ} {P : HP}
theorem j_max {pc' idx : Nat} {a b : Int32} (hd : decode M.2.1 pc = .ok (.invokestatic idx, 3)) (hp : pc + 3 = pc') (hm : PMs M.1.cls idx mJ9_max_7cf53 2) (hcat : (st.map fun v => v.category).sum ≤ 8) (kk : Rj X (d + 1) bc bs M Q pc' L (.int (if a < b then b else a) :: st) n I J P) : Rj X (d + 1) bc bs M Q pc L (.int b :: .int a :: st) n I J P := by
  subst hp
  intro A D tc p l e R s m args below meth c H locs cells slots Z ls ad hF hR hD hf2 hend
  obtain ⟨hx, hb, hml, hr, hown, hts, hK, hA, -⟩ := id hF
  have h9 := jv_rest (ad := ad) hcat
  obtain ⟨r1, r2, r3, r4⟩ := id hR
  show W p l e R s m args below meth c H locs cells slots Z (F0 m pc ls (.int b :: .int a :: st.map (jv_ren ad)))
  exact va_mmax hx hb (by rw [hml, hf2.1.1]) hown (hts _ hm.2.1) (hts _ hm.2.2) (hts _ hm.1.2.1) (hts _ hm.1.1) (by omega) (by omega) (by omega) (by omega) hd (kk A D tc p l e R s m args below meth c H locs cells slots Z ls ad hF hR hD ⟨hf2.1, hf2.2.1, j_ok1 jv_ok.int (j_tl (j_tl hf2.2.2))⟩ hend)
theorem j_min {pc' idx : Nat} {a b : Int32} (hd : decode M.2.1 pc = .ok (.invokestatic idx, 3)) (hp : pc + 3 = pc') (hm : PMs M.1.cls idx mJ9_min_7cf53 2) (hcat : (st.map fun v => v.category).sum ≤ 8) (kk : Rj X (d + 1) bc bs M Q pc' L (.int (if b < a then b else a) :: st) n I J P) : Rj X (d + 1) bc bs M Q pc L (.int b :: .int a :: st) n I J P := by
  subst hp
  intro A D tc p l e R s m args below meth c H locs cells slots Z ls ad hF hR hD hf2 hend
  obtain ⟨hx, hb, hml, hr, hown, hts, hK, hA, -⟩ := id hF
  have h9 := jv_rest (ad := ad) hcat
  obtain ⟨r1, r2, r3, r4⟩ := id hR
  show W p l e R s m args below meth c H locs cells slots Z (F0 m pc ls (.int b :: .int a :: st.map (jv_ren ad)))
  exact va_mmin hx hb (by rw [hml, hf2.1.1]) hown (hts _ hm.2.1) (hts _ hm.2.2) (hts _ hm.1.2.1) (hts _ hm.1.1) (by omega) (by omega) (by omega) (by omega) hd (kk A D tc p l e R s m args below meth c H locs cells slots Z ls ad hF hR hD ⟨hf2.1, hf2.2.1, j_ok1 jv_ok.int (j_tl (j_tl hf2.2.2))⟩ hend)
end JMX
end
section
set_option maxHeartbeats 4000000 in
set_option maxRecDepth 100000 in
theorem c_bitCount {X : jX} {d n : Nat} {I : HI} {J : HJ} {P : HP} {Q : jPost} {a : Nat} (ha : a < 64) (hQ : Q (some (.int (nI (a % 2 + a / 2 % 2 + a / 4 % 2 + a / 8 % 2 + a / 16 % 2 + a / 32 % 2)))) n I J P) : Cj X d 0 0 mJ6_bitCount_0f7a4 [.int (nI a)] n I J P Q := by
  refine Cj.intro rfl (Nat.le_of_ble_eq_true rfl) (L := [.int (nI a)]) rfl ?_
  refine j_iload_n dJ6_bitCount_0f7a4_0 rfl rfl rfl ?_
  refine j_iload_n dJ6_bitCount_0f7a4_1 rfl rfl rfl ?_
  refine j_iconst (v := nI 1) dJ6_bitCount_0f7a4_2 rfl rfl ?_
  refine j_iushr dJ6_bitCount_0f7a4_3 rfl rfl ?_
  refine j_ldcw (v := nI 1431655765) dJ6_bitCount_0f7a4_4 rfl kJ6_265 ?_
  refine j_iand dJ6_bitCount_0f7a4_7 rfl ?_
  refine j_isub dJ6_bitCount_0f7a4_8 rfl ?_
  refine j_istore_n (L' := [.int ((nI a) - ((((nI a : Int32).toUInt32 >>> ((nI 1 : Int32).toUInt32 &&& Int32.toUInt32 31)).toInt32) &&& (nI 1431655765)))]) dJ6_bitCount_0f7a4_9 rfl rfl rfl (by decide) rfl ?_
  generalize ey1 : (nI a) - ((((nI a : Int32).toUInt32 >>> ((nI 1 : Int32).toUInt32 &&& Int32.toUInt32 31)).toInt32) &&& (nI 1431655765)) = y1
  refine j_iload_n dJ6_bitCount_0f7a4_10 rfl rfl rfl ?_
  refine j_ldcw (v := nI 858993459) dJ6_bitCount_0f7a4_11 rfl kJ6_266 ?_
  refine j_iand dJ6_bitCount_0f7a4_14 rfl ?_
  refine j_iload_n dJ6_bitCount_0f7a4_15 rfl rfl rfl ?_
  refine j_iconst (v := nI 2) dJ6_bitCount_0f7a4_16 rfl rfl ?_
  refine j_iushr dJ6_bitCount_0f7a4_17 rfl rfl ?_
  refine j_ldcw (v := nI 858993459) dJ6_bitCount_0f7a4_18 rfl kJ6_266 ?_
  refine j_iand dJ6_bitCount_0f7a4_21 rfl ?_
  refine j_iadd dJ6_bitCount_0f7a4_22 rfl ?_
  refine j_istore_n (L' := [.int ((y1 &&& (nI 858993459)) + ((((y1 : Int32).toUInt32 >>> ((nI 2 : Int32).toUInt32 &&& Int32.toUInt32 31)).toInt32) &&& (nI 858993459)))]) dJ6_bitCount_0f7a4_23 rfl rfl rfl (by decide) rfl ?_
  generalize ey2 : (y1 &&& (nI 858993459)) + ((((y1 : Int32).toUInt32 >>> ((nI 2 : Int32).toUInt32 &&& Int32.toUInt32 31)).toInt32) &&& (nI 858993459)) = y2
  refine j_iload_n dJ6_bitCount_0f7a4_24 rfl rfl rfl ?_
  refine j_iload_n dJ6_bitCount_0f7a4_25 rfl rfl rfl ?_
  refine j_iconst (v := nI 4) dJ6_bitCount_0f7a4_26 rfl rfl ?_
  refine j_iushr dJ6_bitCount_0f7a4_27 rfl rfl ?_
  refine j_iadd dJ6_bitCount_0f7a4_28 rfl ?_
  refine j_ldcw (v := nI 252645135) dJ6_bitCount_0f7a4_29 rfl kJ6_267 ?_
  refine j_iand dJ6_bitCount_0f7a4_32 rfl ?_
  refine j_istore_n (L' := [.int ((y2 + (((y2 : Int32).toUInt32 >>> ((nI 4 : Int32).toUInt32 &&& Int32.toUInt32 31)).toInt32)) &&& (nI 252645135))]) dJ6_bitCount_0f7a4_33 rfl rfl rfl (by decide) rfl ?_
  generalize ey3 : (y2 + (((y2 : Int32).toUInt32 >>> ((nI 4 : Int32).toUInt32 &&& Int32.toUInt32 31)).toInt32)) &&& (nI 252645135) = y3
  refine j_iload_n dJ6_bitCount_0f7a4_34 rfl rfl rfl ?_
  refine j_iload_n dJ6_bitCount_0f7a4_35 rfl rfl rfl ?_
  refine j_bipush (v := nI 8) dJ6_bitCount_0f7a4_36 rfl rfl ?_
  refine j_iushr dJ6_bitCount_0f7a4_38 rfl rfl ?_
  refine j_iadd dJ6_bitCount_0f7a4_39 rfl ?_
  refine j_istore_n (L' := [.int (y3 + (((y3 : Int32).toUInt32 >>> ((nI 8 : Int32).toUInt32 &&& Int32.toUInt32 31)).toInt32))]) dJ6_bitCount_0f7a4_40 rfl rfl rfl (by decide) rfl ?_
  generalize ey4 : y3 + (((y3 : Int32).toUInt32 >>> ((nI 8 : Int32).toUInt32 &&& Int32.toUInt32 31)).toInt32) = y4
  refine j_iload_n dJ6_bitCount_0f7a4_41 rfl rfl rfl ?_
  refine j_iload_n dJ6_bitCount_0f7a4_42 rfl rfl rfl ?_
  refine j_bipush (v := nI 16) dJ6_bitCount_0f7a4_43 rfl rfl ?_
  refine j_iushr dJ6_bitCount_0f7a4_45 rfl rfl ?_
  refine j_iadd dJ6_bitCount_0f7a4_46 rfl ?_
  refine j_istore_n (L' := [.int (y4 + (((y4 : Int32).toUInt32 >>> ((nI 16 : Int32).toUInt32 &&& Int32.toUInt32 31)).toInt32))]) dJ6_bitCount_0f7a4_47 rfl rfl rfl (by decide) rfl ?_
  generalize ey5 : y4 + (((y4 : Int32).toUInt32 >>> ((nI 16 : Int32).toUInt32 &&& Int32.toUInt32 31)).toInt32) = y5
  refine j_iload_n dJ6_bitCount_0f7a4_48 rfl rfl rfl ?_
  refine j_bipush (v := nI 63) dJ6_bitCount_0f7a4_49 rfl rfl ?_
  refine j_iand dJ6_bitCount_0f7a4_51 rfl ?_
  refine j_iret dJ6_bitCount_0f7a4_52 rfl rfl ?_
  have key : ∀ z : Fin 64, (let x1 := nI z.val - (((nI z.val).toUInt32 >>> ((nI 1).toUInt32 &&& Int32.toUInt32 31)).toInt32 &&& nI 1431655765); let x2 := (x1 &&& nI 858993459) + ((x1.toUInt32 >>> ((nI 2).toUInt32 &&& Int32.toUInt32 31)).toInt32 &&& nI 858993459); let x3 := (x2 + (x2.toUInt32 >>> ((nI 4).toUInt32 &&& Int32.toUInt32 31)).toInt32) &&& nI 252645135; let x4 := x3 + (x3.toUInt32 >>> ((nI 8).toUInt32 &&& Int32.toUInt32 31)).toInt32; let x5 := x4 + (x4.toUInt32 >>> ((nI 16).toUInt32 &&& Int32.toUInt32 31)).toInt32; x5 &&& nI 63) = nI (z.val % 2 + z.val / 2 % 2 + z.val / 4 % 2 + z.val / 8 % 2 + z.val / 16 % 2 + z.val / 32 % 2) := by decide +kernel
  have k2 := key ⟨a, ha⟩
  simp only [ey1, ey2, ey3, ey4, ey5] at k2
  rw [k2]
  exact hQ
set_option maxHeartbeats 4000000 in
set_option maxRecDepth 100000 in
theorem c_within {X : jX} {d n : Nat} {I : HI} {J : HJ} {P : HP} {Q : jPost} {a b c : Int32} (h1 : inR a b c → Q (some (.int (nI 1))) n I J P) (h2 : ¬ inR a b c → Q (some (.int (nI 0))) n I J P) : Cj X d 0 0 mX9_within [.int a, .int b, .int c] n I J P Q := by
  refine Cj.intro rfl (Nat.le_of_ble_eq_true rfl) (L := [.int a, .int b, .int c]) rfl ?_
  refine j_iload_n dX9_within_0 rfl rfl rfl ?_
  refine j_iload_n dX9_within_1 rfl rfl rfl ?_
  suffices K2 : Rj X d 0 0 mX9_within Q 15 [.int a, .int b, .int c] [.int (bI (¬ (a < b) ∧ (¬ (c < a))))] n I J P by
    refine j_icmplt (tgt := 14) dX9_within_2 rfl rfl (fun h1 => ?_) (fun h1 => ?_)
    · refine j_iconst (v := nI 0) dX9_within_14 rfl rfl ?_
      rw [bI_f (fun q => q.1 h1)] at K2; exact K2
    · refine j_iload_n dX9_within_5 rfl rfl rfl ?_
      refine j_iload_n dX9_within_6 rfl rfl rfl ?_
      refine j_icmpgt (tgt := 14) dX9_within_7 rfl rfl (fun h3 => ?_) (fun h3 => ?_)
      · refine j_iconst (v := nI 0) dX9_within_14 rfl rfl ?_
        rw [bI_f (fun q => (fun q => q h3) q.2)] at K2; exact K2
      · refine j_iconst (v := nI 1) dX9_within_10 rfl rfl ?_
        refine j_goto (tgt := 15) dX9_within_11 rfl ?_
        rw [bI_t ⟨h1, h3⟩] at K2; exact K2
  refine j_iret dX9_within_15 rfl (bI_nar _) ?_
  by_cases q : inR a b c
  · rw [bI_t (c := ¬ a < b ∧ ¬ c < a) q]; exact h1 q
  · rw [bI_f (c := ¬ a < b ∧ ¬ c < a) q]; exact h2 q
set_option maxHeartbeats 4000000 in
set_option maxRecDepth 100000 in
theorem c_bad {X : jX} {d n : Nat} {I : HI} {J : HJ} {P : HP} {Q : jPost}  (hQ : Q (some (.int (-2))) n (u2 I 0 7 (I 0 7 + nI 1)) J P) : Cj X d 0 0 mX9_bad [.ref 0] n I J P Q := by
  refine Cj.intro rfl (Nat.le_of_ble_eq_true rfl) (L := [.ref 0]) rfl ?_
  refine j_aload_n dX9_bad_0 rfl rfl rfl ?_
  refine j_dup dX9_bad_1 rfl rfl ?_
  refine j_getIv (v := I 0 7) dX9_bad_2 rfl fX9_55 rfl (by decide) rfl rfl ?_
  refine j_iconst (v := nI 1) dX9_bad_5 rfl rfl ?_
  refine j_iadd dX9_bad_6 rfl ?_
  refine j_putI dX9_bad_7 rfl fX9_55 rfl (by decide) rfl rfl ?_
  refine j_bipush (v := (-2)) dX9_bad_10 rfl rfl ?_
  refine j_iret dX9_bad_12 rfl rfl ?_
  exact hQ
set_option maxHeartbeats 4000000 in
set_option maxRecDepth 100000 in
theorem c_badTen {X : jX} {d n : Nat} {I : HI} {J : HJ} {P : HP} {Q : jPost}  (hQ : Q (some (.int (-10))) n (u2 I 0 7 (I 0 7 + nI 1)) J P) : Cj X d 0 0 mX9_badTen [.ref 0] n I J P Q := by
  refine Cj.intro rfl (Nat.le_of_ble_eq_true rfl) (L := [.ref 0]) rfl ?_
  refine j_aload_n dX9_badTen_0 rfl rfl rfl ?_
  refine j_dup dX9_badTen_1 rfl rfl ?_
  refine j_getIv (v := I 0 7) dX9_badTen_2 rfl fX9_55 rfl (by decide) rfl rfl ?_
  refine j_iconst (v := nI 1) dX9_badTen_5 rfl rfl ?_
  refine j_iadd dX9_badTen_6 rfl ?_
  refine j_putI dX9_badTen_7 rfl fX9_55 rfl (by decide) rfl rfl ?_
  refine j_bipush (v := (-10)) dX9_badTen_10 rfl rfl ?_
  refine j_iret dX9_badTen_12 rfl rfl ?_
  exact hQ
set_option maxHeartbeats 4000000 in
set_option maxRecDepth 100000 in
theorem c_no {X : jX} {d n : Nat} {I : HI} {J : HJ} {P : HP} {Q : jPost}  (hQ : Q (some (.int (-3))) n (u2 I 0 8 (I 0 8 + nI 1)) J P) : Cj X d 0 0 mX9_no [.ref 0] n I J P Q := by
  refine Cj.intro rfl (Nat.le_of_ble_eq_true rfl) (L := [.ref 0]) rfl ?_
  refine j_aload_n dX9_no_0 rfl rfl rfl ?_
  refine j_dup dX9_no_1 rfl rfl ?_
  refine j_getIv (v := I 0 8) dX9_no_2 rfl fX9_59 rfl (by decide) rfl rfl ?_
  refine j_iconst (v := nI 1) dX9_no_5 rfl rfl ?_
  refine j_iadd dX9_no_6 rfl ?_
  refine j_putI dX9_no_7 rfl fX9_59 rfl (by decide) rfl rfl ?_
  refine j_bipush (v := (-3)) dX9_no_10 rfl rfl ?_
  refine j_iret dX9_no_12 rfl rfl ?_
  exact hQ
set_option maxHeartbeats 4000000 in
set_option maxRecDepth 100000 in
theorem c_full {X : jX} {d n : Nat} {I : HI} {J : HJ} {P : HP} {Q : jPost}  (hQ : Q (some (.int (-4))) n (u2 I 0 9 (I 0 9 + nI 1)) J P) : Cj X d 0 0 mX9_full [.ref 0] n I J P Q := by
  refine Cj.intro rfl (Nat.le_of_ble_eq_true rfl) (L := [.ref 0]) rfl ?_
  refine j_aload_n dX9_full_0 rfl rfl rfl ?_
  refine j_dup dX9_full_1 rfl rfl ?_
  refine j_getIv (v := I 0 9) dX9_full_2 rfl fX9_62 rfl (by decide) rfl rfl ?_
  refine j_iconst (v := nI 1) dX9_full_5 rfl rfl ?_
  refine j_iadd dX9_full_6 rfl ?_
  refine j_putI dX9_full_7 rfl fX9_62 rfl (by decide) rfl rfl ?_
  refine j_bipush (v := (-4)) dX9_full_10 rfl rfl ?_
  refine j_iret dX9_full_12 rfl rfl ?_
  exact hQ
set_option maxHeartbeats 4000000 in
set_option maxRecDepth 100000 in
theorem c_goes {X : jX} {d n : Nat} {I : HI} {J : HJ} {P : HP} {Q : jPost} {k y da dr : Nat} (hk : k ≤ 5) (hy : y < 2 ^ 30) (hda : da ≤ 4095) (hdr : dr ≤ 4095) (hQ : Q (some (.int (nI (gos k y da dr)))) n I J P) : Cj X d 0 0 mX4_goes [.int (nI k), .int (nI y), .int (nI da), .int (nI dr)] n I J P Q := by
  refine Cj.intro rfl (Nat.le_of_ble_eq_true rfl) (L := [.int (nI k), .int (nI y), .int (nI da), .int (nI dr), jU, jU, jU, jU, jU]) rfl ?_
  have hpl := gPl_le y dr
  have hpp := gPl_pos y dr
  have hri := gRi_le y dr
  have hqu := gQu_le y dr
  refine j_iload_n dX4_goes_0 rfl rfl rfl ?_
  refine j_bipush (v := nI 12) dX4_goes_1 rfl rfl ?_
  refine j_iremN (c := y % 12) dX4_goes_3 rfl (by omega) (by decide) (by decide) rfl ?_
  refine j_istore (L' := [.int (nI k), .int (nI y), .int (nI da), .int (nI dr), .int (nI (y % 12)), jU, jU, jU, jU]) dX4_goes_4 rfl rfl (by decide) rfl ?_
  refine j_iload_n dX4_goes_6 rfl rfl rfl ?_
  refine j_iconst (v := nI 5) dX4_goes_7 rfl rfl ?_
  refine j_iremN (c := y % 5) dX4_goes_8 rfl (by omega) (by decide) (by decide) rfl ?_
  refine j_iconst (v := nI 4) dX4_goes_9 rfl rfl ?_
  suffices K2 : Rj X d 0 0 mX4_goes Q 18 [.int (nI k), .int (nI y), .int (nI da), .int (nI dr), .int (nI (y % 12)), jU, jU, jU, jU] [.int (bI ((y % 5) = 4))] n I J P by
    refine j_icmpneN (tgt := 17) dX4_goes_10 rfl rfl (by omega) (by decide) (fun h1 => ?_) (fun h1 => ?_)
    · refine j_iconst (v := nI 0) dX4_goes_17 rfl rfl ?_
      rw [bI_f h1] at K2; exact K2
    · refine j_iconst (v := nI 1) dX4_goes_13 rfl rfl ?_
      refine j_goto (tgt := 18) dX4_goes_14 rfl ?_
      rw [bI_t h1] at K2; exact K2
  refine j_istore (L' := [.int (nI k), .int (nI y), .int (nI da), .int (nI dr), .int (nI (y % 12)), .int (bI ((y % 5) = 4)), jU, jU, jU]) dX4_goes_18 rfl rfl (by decide) rfl ?_
  refine j_iload_n dX4_goes_20 rfl rfl rfl ?_
  refine j_iload dX4_goes_21 rfl rfl ?_
  refine j_ishrN (c := dr / 2 ^ (y % 12)) dX4_goes_23 rfl (by omega) (by omega) rfl ?_
  refine j_iconst (v := nI 1) dX4_goes_24 rfl rfl ?_
  refine j_iand1N (c := dr / 2 ^ (y % 12) % 2) dX4_goes_25 rfl rfl ?_
  refine j_iconst (v := nI 1) dX4_goes_26 rfl rfl ?_
  suffices K4 : Rj X d 0 0 mX4_goes Q 35 [.int (nI k), .int (nI y), .int (nI da), .int (nI dr), .int (nI (y % 12)), .int (bI ((y % 5) = 4)), jU, jU, jU] [.int (nI (if (dr / 2 ^ (y % 12) % 2) = 1 then 2 else 1))] n I J P by
    refine j_icmpneN (tgt := 34) dX4_goes_27 rfl rfl (by omega) (by decide) (fun h3 => ?_) (fun h3 => ?_)
    · refine j_iconst (v := nI 1) dX4_goes_34 rfl rfl ?_
      rw [if_neg h3] at K4; exact K4
    · refine j_iconst (v := nI 2) dX4_goes_30 rfl rfl ?_
      refine j_goto (tgt := 35) dX4_goes_31 rfl ?_
      rw [if_pos h3] at K4; exact K4
  show Rj _ _ _ _ _ _ 35 [.int (nI k), .int (nI y), .int (nI da), .int (nI dr), .int (nI (y % 12)), .int (bI ((y % 5) = 4)), jU, jU, jU] [.int (nI (gPl y dr))] n I J P
  refine j_istore (L' := [.int (nI k), .int (nI y), .int (nI da), .int (nI dr), .int (nI (y % 12)), .int (bI ((y % 5) = 4)), .int (nI (gPl y dr)), jU, jU]) dX4_goes_35 rfl rfl (by decide) rfl ?_
  refine j_iload_n dX4_goes_37 rfl rfl rfl ?_
  refine j_iconst (v := nI 2) dX4_goes_38 rfl rfl ?_
  refine j_iremN (c := y % 2) dX4_goes_39 rfl (by omega) (by decide) (by decide) rfl ?_
  suffices K6 : Rj X d 0 0 mX4_goes Q 49 [.int (nI k), .int (nI y), .int (nI da), .int (nI dr), .int (nI (y % 12)), .int (bI ((y % 5) = 4)), .int (nI (gPl y dr)), jU, jU] [.int (nI (if (y % 2) = 0 then (gPl y dr) else 0))] n I J P by
    refine j_ifneN (tgt := 48) dX4_goes_40 rfl rfl (by omega) (fun h5 => ?_) (fun h5 => ?_)
    · refine j_iconst (v := nI 0) dX4_goes_48 rfl rfl ?_
      rw [if_neg h5] at K6; exact K6
    · refine j_iload dX4_goes_43 rfl rfl ?_
      refine j_goto (tgt := 49) dX4_goes_45 rfl ?_
      rw [if_pos h5] at K6; exact K6
  show Rj _ _ _ _ _ _ 49 [.int (nI k), .int (nI y), .int (nI da), .int (nI dr), .int (nI (y % 12)), .int (bI ((y % 5) = 4)), .int (nI (gPl y dr)), jU, jU] [.int (nI (gRi y dr))] n I J P
  refine j_istore (L' := [.int (nI k), .int (nI y), .int (nI da), .int (nI dr), .int (nI (y % 12)), .int (bI ((y % 5) = 4)), .int (nI (gPl y dr)), .int (nI (gRi y dr)), jU]) dX4_goes_49 rfl rfl (by decide) rfl ?_
  refine j_iload dX4_goes_51 rfl rfl ?_
  suffices K8 : Rj X d 0 0 mX4_goes Q 65 [.int (nI k), .int (nI y), .int (nI da), .int (nI dr), .int (nI (y % 12)), .int (bI ((y % 5) = 4)), .int (nI (gPl y dr)), .int (nI (gRi y dr)), jU] [.int (nI (if (y % 5) = 4 then ((gPl y dr) + 2) else (gPl y dr)))] n I J P by
    refine j_ifeqB (tgt := 63) dX4_goes_53 rfl rfl (fun h7 => ?_) (fun h7 => ?_)
    · refine j_iload dX4_goes_63 rfl rfl ?_
      rw [if_neg h7] at K8; exact K8
    · refine j_iload dX4_goes_56 rfl rfl ?_
      refine j_iconst (v := nI 2) dX4_goes_58 rfl rfl ?_
      refine j_iaddN (c := (gPl y dr) + 2) dX4_goes_59 rfl rfl ?_
      refine j_goto (tgt := 65) dX4_goes_60 rfl ?_
      rw [if_pos h7] at K8; exact K8
  show Rj _ _ _ _ _ _ 65 [.int (nI k), .int (nI y), .int (nI da), .int (nI dr), .int (nI (y % 12)), .int (bI ((y % 5) = 4)), .int (nI (gPl y dr)), .int (nI (gRi y dr)), jU] [.int (nI (gQu y dr))] n I J P
  refine j_istore (L' := [.int (nI k), .int (nI y), .int (nI da), .int (nI dr), .int (nI (y % 12)), .int (bI ((y % 5) = 4)), .int (nI (gPl y dr)), .int (nI (gRi y dr)), .int (nI (gQu y dr))]) dX4_goes_65 rfl rfl (by decide) rfl ?_
  refine j_iload_n dX4_goes_67 rfl rfl rfl ?_
  rcases (show k = 0 ∨ k = 1 ∨ k = 2 ∨ k = 3 ∨ k = 4 ∨ k = 5 by omega) with rfl | rfl | rfl | rfl | rfl | rfl
  · refine j_tabD (a := 0) (tgt := 167) dX4_goes_68 (by decide) (by decide) rfl ?_
    refine j_iload dX4_goes_167 rfl rfl ?_
    refine j_iret dX4_goes_169 rfl rfl ?_
    exact hQ
  · refine j_tabN (a := 1) (k := 1) (off := 36) (tgt := 104) dX4_goes_68 (by decide) rfl (by decide) (by decide) rfl rfl ?_
    refine j_iload dX4_goes_104 rfl rfl ?_
    refine j_iret dX4_goes_106 rfl rfl ?_
    exact hQ
  · refine j_tabN (a := 2) (k := 1) (off := 39) (tgt := 107) dX4_goes_68 (by decide) rfl (by decide) (by decide) rfl rfl ?_
    refine j_iload dX4_goes_107 rfl rfl ?_
    refine j_iret dX4_goes_109 rfl rfl ?_
    exact hQ
  · refine j_tabN (a := 3) (k := 1) (off := 42) (tgt := 110) dX4_goes_68 (by decide) rfl (by decide) (by decide) rfl rfl ?_
    refine j_iload_n dX4_goes_110 rfl rfl rfl ?_
    refine j_iload dX4_goes_111 rfl rfl ?_
    refine j_ishrN (c := da / 2 ^ (y % 12)) dX4_goes_113 rfl (by omega) (by omega) rfl ?_
    refine j_iconst (v := nI 1) dX4_goes_114 rfl rfl ?_
    refine j_iand1N (c := da / 2 ^ (y % 12) % 2) dX4_goes_115 rfl rfl ?_
    refine j_iconst (v := nI 1) dX4_goes_116 rfl rfl ?_
    suffices K10 : Rj X d 0 0 mX4_goes Q 129 [.int (nI 3), .int (nI y), .int (nI da), .int (nI dr), .int (nI (y % 12)), .int (bI ((y % 5) = 4)), .int (nI (gPl y dr)), .int (nI (gRi y dr)), .int (nI (gQu y dr))] [.int (nI (if (da / 2 ^ (y % 12) % 2) = 1 then (2 * (gPl y dr)) else (gPl y dr)))] n I J P by
      refine j_icmpneN (tgt := 127) dX4_goes_117 rfl rfl (by omega) (by decide) (fun h9 => ?_) (fun h9 => ?_)
      · refine j_iload dX4_goes_127 rfl rfl ?_
        rw [if_neg h9] at K10; exact K10
      · refine j_iconst (v := nI 2) dX4_goes_120 rfl rfl ?_
        refine j_iload dX4_goes_121 rfl rfl ?_
        refine j_imulN (c := 2 * (gPl y dr)) dX4_goes_123 rfl rfl ?_
        refine j_goto (tgt := 129) dX4_goes_124 rfl ?_
        rw [if_pos h9] at K10; exact K10
    refine j_iret dX4_goes_129 rfl rfl ?_
    exact hQ
  · refine j_tabN (a := 4) (k := 1) (off := 62) (tgt := 130) dX4_goes_68 (by decide) rfl (by decide) (by decide) rfl rfl ?_
    refine j_iload_n dX4_goes_130 rfl rfl rfl ?_
    refine j_iconst (v := nI 3) dX4_goes_131 rfl rfl ?_
    refine j_iremN (c := y % 3) dX4_goes_132 rfl (by omega) (by decide) (by decide) rfl ?_
    refine j_iconst (v := nI 2) dX4_goes_133 rfl rfl ?_
    suffices K12 : Rj X d 0 0 mX4_goes Q 146 [.int (nI 4), .int (nI y), .int (nI da), .int (nI dr), .int (nI (y % 12)), .int (bI ((y % 5) = 4)), .int (nI (gPl y dr)), .int (nI (gRi y dr)), .int (nI (gQu y dr))] [.int (nI (if (y % 3) = 2 then ((gQu y dr) + 1) else (gQu y dr)))] n I J P by
      refine j_icmpneN (tgt := 144) dX4_goes_134 rfl rfl (by omega) (by decide) (fun h11 => ?_) (fun h11 => ?_)
      · refine j_iload dX4_goes_144 rfl rfl ?_
        rw [if_neg h11] at K12; exact K12
      · refine j_iload dX4_goes_137 rfl rfl ?_
        refine j_iconst (v := nI 1) dX4_goes_139 rfl rfl ?_
        refine j_iaddN (c := (gQu y dr) + 1) dX4_goes_140 rfl rfl ?_
        refine j_goto (tgt := 146) dX4_goes_141 rfl ?_
        rw [if_pos h11] at K12; exact K12
    refine j_iret dX4_goes_146 rfl rfl ?_
    exact hQ
  · refine j_tabN (a := 5) (k := 1) (off := 79) (tgt := 147) dX4_goes_68 (by decide) rfl (by decide) (by decide) rfl rfl ?_
    refine j_iload dX4_goes_147 rfl rfl ?_
    suffices K14 : Rj X d 0 0 mX4_goes Q 166 [.int (nI 5), .int (nI y), .int (nI da), .int (nI dr), .int (nI (y % 12)), .int (bI ((y % 5) = 4)), .int (nI (gPl y dr)), .int (nI (gRi y dr)), .int (nI (gQu y dr))] [.int (nI (if (y % 5) = 4 then (gRi y dr) else (if (gRi y dr) = 0 then (gRi y dr) else ((gRi y dr) - 1))))] n I J P by
      refine j_ifneB (tgt := 157) dX4_goes_149 rfl rfl (fun h13 => ?_) (fun h13 => ?_)
      · refine j_iload dX4_goes_157 rfl rfl ?_
        refine j_goto (tgt := 166) dX4_goes_159 rfl ?_
        rw [if_pos h13] at K14; exact K14
      · refine j_iload dX4_goes_152 rfl rfl ?_
        refine j_ifneN (tgt := 162) dX4_goes_154 rfl rfl (by omega) (fun h15 => ?_) (fun h15 => ?_)
        · refine j_iload dX4_goes_162 rfl rfl ?_
          refine j_iconst (v := nI 1) dX4_goes_164 rfl rfl ?_
          refine j_isubN (c := (gRi y dr) - 1) dX4_goes_165 rfl (by omega) rfl ?_
          rw [if_neg h13, if_neg h15] at K14; exact K14
        · refine j_iload dX4_goes_157 rfl rfl ?_
          refine j_goto (tgt := 166) dX4_goes_159 rfl ?_
          rw [if_neg h13, if_pos h15] at K14; exact K14
    refine j_iret dX4_goes_166 rfl rfl ?_
    exact hQ
set_option maxHeartbeats 4000000 in
set_option maxRecDepth 100000 in
theorem c_leftAfter {X : jX} {d n : Nat} {I : HI} {J : HJ} {P : HP} {Q : jPost} {lv k y da dr : Nat} (hl : lv < 2 ^ 30) (hk : k ≤ 5) (hy : y < 2 ^ 30) (hda : da ≤ 4095) (hdr : dr ≤ 4095) (hQ : Q (some (.int (nI (lv - gos k y da dr)))) n I J P) : Cj X (d + 1) 0 0 mX4_leftAfter [.int (nI lv), .int (nI k), .int (nI y), .int (nI da), .int (nI dr)] n I J P Q := by
  refine Cj.intro rfl (Nat.le_of_ble_eq_true rfl) (L := [.int (nI lv), .int (nI k), .int (nI y), .int (nI da), .int (nI dr)]) rfl ?_
  have hg := gos_le k y da dr
  refine j_iconst (v := nI 0) dX4_leftAfter_0 rfl rfl ?_
  refine j_iload_n dX4_leftAfter_1 rfl rfl rfl ?_
  refine j_iload_n dX4_leftAfter_2 rfl rfl rfl ?_
  refine j_iload_n dX4_leftAfter_3 rfl rfl rfl ?_
  refine j_iload_n dX4_leftAfter_4 rfl rfl rfl ?_
  refine j_iload dX4_leftAfter_5 rfl rfl ?_
  refine j_callSw (As := [.int (nI k), .int (nI y), .int (nI da), .int (nI dr)]) dX4_leftAfter_7 rfl cX4_9 rfl (Nat.le_of_ble_eq_true rfl) rfl rfl (c_goes (by omega) (by omega) (by omega) (by omega) ?_)
  show Rj _ _ _ _ _ _ 10 [.int (nI lv), .int (nI k), .int (nI y), .int (nI da), .int (nI dr)] [.int (nI (gos k y da dr)), .int (nI lv), .int (nI 0)] n I J P
  refine j_isub dX4_leftAfter_10 rfl ?_
  refine j_max dX4_leftAfter_11 rfl cX4_15 (by decide) ?_
  refine j_iret dX4_leftAfter_14 rfl rfl ?_
  rw [mx0 hl (by omega)]; exact hQ
end
section
/-! what is left behind some years -/
def lft (k da dr : Nat) : Nat → Nat → Nat → Nat
  | _, l, 0 => l
  | y, l, m + 1 => lft k da dr (y + 1) (l - gos k y da dr) m
theorem lft_0 (k da dr : Nat) : ∀ m y, lft k da dr y 0 m = 0
  | 0, _ => rfl
  | m + 1, y => by simp only [lft, Nat.zero_sub]; exact lft_0 k da dr m (y + 1)
theorem lft_le (k da dr : Nat) : ∀ m y l, lft k da dr y l m ≤ l
  | 0, _, _ => Nat.le_refl _
  | m + 1, y, l => Nat.le_trans (lft_le k da dr m (y + 1) _) (Nat.sub_le _ _)
set_option maxHeartbeats 4000000 in
set_option maxRecDepth 100000 in
theorem c_hasPair {X : jX} {d n : Nat} {I : HI} {J : HJ} {P : HP} {Q : jPost} {a : Int32} {v : VT} (hV : VC 1 I v) (h1 : hasP a (v 0 3) → Q (some (.int (nI 1))) n I J P) (h2 : ¬ hasP a (v 0 3) → Q (some (.int (nI 0))) n I J P) : Cj X d 0 0 mX8_hasPair [.ref 1, .int a] n I J P Q := by
  refine Cj.intro rfl (Nat.le_of_ble_eq_true rfl) (L := [.ref 1, .int a]) rfl ?_
  refine j_iload_n dX8_hasPair_0 rfl rfl rfl ?_
  suffices K2 : Rj X d 0 0 mX8_hasPair Q 17 [.ref 1, .int a] [.int (bI (¬ (a < 0) ∧ (¬ ((nI (v 0 3)) ≤ a))))] n I J P by
    refine j_iflt (tgt := 16) dX8_hasPair_1 rfl rfl (fun h1 => ?_) (fun h1 => ?_)
    · refine j_iconst (v := nI 0) dX8_hasPair_16 rfl rfl ?_
      rw [bI_f (fun q => q.1 h1)] at K2; exact K2
    · refine j_iload_n dX8_hasPair_4 rfl rfl rfl ?_
      refine j_aload_n dX8_hasPair_5 rfl rfl rfl ?_
      refine j_getIv (v := nI (v 0 3)) dX8_hasPair_6 rfl fX8_21 rfl (by decide) rfl hV.pairs ?_
      refine j_icmpge (tgt := 16) dX8_hasPair_9 rfl rfl (fun h3 => ?_) (fun h3 => ?_)
      · refine j_iconst (v := nI 0) dX8_hasPair_16 rfl rfl ?_
        rw [bI_f (fun q => (fun q => q h3) q.2)] at K2; exact K2
      · refine j_iconst (v := nI 1) dX8_hasPair_12 rfl rfl ?_
        refine j_goto (tgt := 17) dX8_hasPair_13 rfl ?_
        rw [bI_t ⟨h1, h3⟩] at K2; exact K2
  refine j_iret dX8_hasPair_17 rfl (bI_nar _) ?_
  by_cases q : hasP a (v 0 3)
  · rw [bI_t (c := ¬ a < 0 ∧ ¬ nI (v 0 3) ≤ a) q]; exact h1 q
  · rw [bI_f (c := ¬ a < 0 ∧ ¬ nI (v 0 3) ≤ a) q]; exact h2 q
set_option maxHeartbeats 4000000 in
set_option maxRecDepth 100000 in
theorem c_leftInYear {X : jX} {d n : Nat} {I : HI} {J : HJ} {i0 i1 : Option Nat} {Q : jPost} {v : VT} (hV : VC 1 I v) {l p y : Nat} (hl : l < 2 ^ 20) (hp : p < v 0 3) (h6 : v 0 3 ≤ 6) (hk : v 1 p ≤ 5) (hy : v 0 0 + y < 2 ^ 30) (hda : v 0 1 ≤ 4095) (hdr : v 0 2 ≤ 4095) (hQ : Q (some (.int (nI (l - gos (v 1 p) (v 0 0 + y) (v 0 1) (v 0 2))))) n I J (Pg i0 i1)) : Cj X (d + 2) 0 0 mX8_leftInYear [.ref 1, .int (nI l), .int (nI p), .int (nI y)] n I J (Pg i0 i1) Q := by
  refine Cj.intro rfl (Nat.le_of_ble_eq_true rfl) (L := [.ref 1, .int (nI l), .int (nI p), .int (nI y)]) rfl ?_
  refine j_iload_n dX8_leftInYear_0 rfl rfl rfl ?_
  refine j_aload_n dX8_leftInYear_1 rfl rfl rfl ?_
  refine j_getP (b := 2) dX8_leftInYear_2 rfl fX8_30 rfl (by decide) rfl rfl ?_
  refine j_iload_n dX8_leftInYear_5 rfl rfl rfl ?_
  refine j_iald (j := p) (v := nI (v 1 p)) dX8_leftInYear_6 rfl rfl (by decide) rfl (by omega) (by decide) (hV.kd (by omega)) ?_
  refine j_aload_n dX8_leftInYear_7 rfl rfl rfl ?_
  refine j_getIv (v := nI (v 0 0)) dX8_leftInYear_8 rfl fX8_9 rfl (by decide) rfl hV.year ?_
  refine j_iload_n dX8_leftInYear_11 rfl rfl rfl ?_
  refine j_iaddN (c := (v 0 0) + y) dX8_leftInYear_12 rfl rfl ?_
  refine j_aload_n dX8_leftInYear_13 rfl rfl rfl ?_
  refine j_getIv (v := nI (v 0 1)) dX8_leftInYear_14 rfl fX8_15 rfl (by decide) rfl hV.damp ?_
  refine j_aload_n dX8_leftInYear_17 rfl rfl rfl ?_
  refine j_getIv (v := nI (v 0 2)) dX8_leftInYear_18 rfl fX8_18 rfl (by decide) rfl hV.dry ?_
  refine j_callSw (As := [.int (nI l), .int (nI (v 1 p)), .int (nI ((v 0 0) + y)), .int (nI (v 0 1)), .int (nI (v 0 2))]) dX8_leftInYear_21 rfl cX8_79 rfl (by decide) rfl rfl (c_leftAfter (by omega) (by omega) (by omega) (by omega) (by omega) ?_)
  show Rj _ _ _ _ _ _ 24 [.ref 1, .int (nI l), .int (nI p), .int (nI y)] [.int (nI (l - gos (v 1 p) ((v 0 0) + y) (v 0 1) (v 0 2)))] n I J (Pg i0 i1)
  refine j_iret dX8_leftInYear_24 rfl rfl ?_
  exact hQ
set_option maxHeartbeats 4000000 in
set_option maxRecDepth 100000 in
theorem c_leftAs {X : jX} {d n : Nat} {I : HI} {J : HJ} {P : HP} {Q : jPost} {v : VT} (hV : VC 1 I v) {k l m dr : Nat} (hk : k ≤ 5) (hl : l < 2 ^ 20) (hm : m ≤ 99) (hy : v 0 0 ≤ 2 ^ 20) (hda : v 0 1 ≤ 4095) (hdr : dr ≤ 4095) (hQ : Q (some (.int (nI (lft k (v 0 1) dr (v 0 0) l m)))) n I J P) : Cj X (d + 2) 0 0 mX8_leftAs [.ref 1, .int (nI k), .int (nI l), .int (nI m), .int (nI dr)] n I J P Q := by
  refine Cj.intro rfl (Nat.le_of_ble_eq_true rfl) (L := [.ref 1, .int (nI k), .int (nI l), .int (nI m), .int (nI dr), jU, jU]) rfl ?_
  have loop : ∀ r y h : Nat, y + r = m → h < 2 ^ 20 → lft k (v 0 1) dr (v 0 0 + y) h r = lft k (v 0 1) dr (v 0 0) l m → Rj X (d + 2) 0 0 mX8_leftAs Q 6 [.ref 1, .int (nI k), .int (nI l), .int (nI m), .int (nI dr), .int (nI h), .int (nI y)] [] n I J P := by
    intro r
    induction r with
    | zero =>
      intro y h hyr hh hr
      refine j_iload dX8_leftAs_6 rfl rfl ?_
      refine j_iload_n dX8_leftAs_8 rfl rfl rfl ?_
      refine j_icmpgeN (tgt := 44) dX8_leftAs_9 rfl rfl (by omega) (by omega) (fun h1 => ?_) (fun h1 => by exfalso; omega)
      refine j_iload dX8_leftAs_44 rfl rfl ?_
      refine j_iret dX8_leftAs_46 rfl rfl ?_
      rw [← hr] at hQ; exact hQ
    | succ r ih =>
      intro y h hyr hh hr
      refine j_iload dX8_leftAs_6 rfl rfl ?_
      refine j_iload_n dX8_leftAs_8 rfl rfl rfl ?_
      refine j_icmpgeN (tgt := 44) dX8_leftAs_9 rfl rfl (by omega) (by omega) (fun h1 => by exfalso; omega) (fun h1 => ?_)
      refine j_iload dX8_leftAs_12 rfl rfl ?_
      refine j_ifleN (tgt := 44) dX8_leftAs_14 rfl rfl (by omega) (fun h2 => ?_) (fun h2 => ?_)
      · refine j_iload dX8_leftAs_44 rfl rfl ?_
        refine j_iret dX8_leftAs_46 rfl rfl ?_
        have h0 : h = 0 := by omega
        subst h0
        rw [lft_0] at hr
        rw [← hr] at hQ; exact hQ
      · refine j_iload dX8_leftAs_17 rfl rfl ?_
        refine j_iload_n dX8_leftAs_19 rfl rfl rfl ?_
        refine j_aload_n dX8_leftAs_20 rfl rfl rfl ?_
        refine j_getIv (v := nI (v 0 0)) dX8_leftAs_21 rfl fX8_9 rfl (by decide) rfl hV.year ?_
        refine j_iload dX8_leftAs_24 rfl rfl ?_
        refine j_iaddN (c := (v 0 0) + y) dX8_leftAs_26 rfl rfl ?_
        refine j_aload_n dX8_leftAs_27 rfl rfl rfl ?_
        refine j_getIv (v := nI (v 0 1)) dX8_leftAs_28 rfl fX8_15 rfl (by decide) rfl hV.damp ?_
        refine j_iload dX8_leftAs_31 rfl rfl ?_
        refine j_callSw (As := [.int (nI h), .int (nI k), .int (nI ((v 0 0) + y)), .int (nI (v 0 1)), .int (nI dr)]) dX8_leftAs_33 rfl cX8_79 rfl (by decide) rfl rfl (c_leftAfter (by omega) (by omega) (by omega) (by omega) (by omega) ?_)
        show Rj _ _ _ _ _ _ 36 [.ref 1, .int (nI k), .int (nI l), .int (nI m), .int (nI dr), .int (nI h), .int (nI y)] [.int (nI (h - gos k ((v 0 0) + y) (v 0 1) dr))] n I J P
        refine j_istore (L' := [.ref 1, .int (nI k), .int (nI l), .int (nI m), .int (nI dr), .int (nI (h - gos k ((v 0 0) + y) (v 0 1) dr)), .int (nI y)]) dX8_leftAs_36 rfl rfl (by decide) rfl ?_
        refine j_iincN (L' := [.ref 1, .int (nI k), .int (nI l), .int (nI m), .int (nI dr), .int (nI (h - gos k ((v 0 0) + y) (v 0 1) dr)), .int (nI (y + 1))]) dX8_leftAs_38 rfl rfl (b := 1) rfl rfl rfl (by decide) rfl ?_
        refine j_goto (tgt := 6) dX8_leftAs_41 rfl ?_
        exact ih (y + 1) _ (by omega) (by omega) (by rw [← hr]; rfl)
  refine j_iload_n dX8_leftAs_0 rfl rfl rfl ?_
  refine j_istore (L' := [.ref 1, .int (nI k), .int (nI l), .int (nI m), .int (nI dr), .int (nI l), jU]) dX8_leftAs_1 rfl rfl (by decide) rfl ?_
  refine j_iconst (v := nI 0) dX8_leftAs_3 rfl rfl ?_
  refine j_istore (L' := [.ref 1, .int (nI k), .int (nI l), .int (nI m), .int (nI dr), .int (nI l), .int (nI 0)]) dX8_leftAs_4 rfl rfl (by decide) rfl ?_
  exact loop m 0 l (Nat.zero_add m) hl rfl
end
section
/-! sums over pairs -/
def sumN (f : Nat → Nat) : Nat → Nat
  | 0 => 0
  | n + 1 => sumN f n + f n
theorem sumN_le {f : Nat → Nat} {b : Nat} : ∀ n, (∀ p, p < n → f p ≤ b) → sumN f n ≤ n * b
  | 0, _ => Nat.zero_le _
  | n + 1, h => by
    have h1 := sumN_le n (fun p hp => h p (by omega))
    have h2 := h n (by omega)
    simp only [sumN, Nat.succ_mul]
    omega
theorem sumN_congr {f g : Nat → Nat} : ∀ n, (∀ p, p < n → f p = g p) → sumN f n = sumN g n
  | 0, _ => rfl
  | n + 1, h => by simp only [sumN]; rw [sumN_congr n (fun p hp => h p (by omega)), h n (by omega)]
set_option maxHeartbeats 4000000 in
set_option maxRecDepth 100000 in
theorem c_allLoaves {X : jX} {d n : Nat} {I : HI} {J : HJ} {i0 i1 : Option Nat} {Q : jPost} {v : VT} {yb : Nat} (hV : VC 1 I v) (hW : WF yb v) (hyb : yb ≤ 2 ^ 20) (hQ : Q (some (.int (nI (sumN (v 2) (v 0 3))))) n I J (Pg i0 i1)) : Cj X d 0 0 mX8_allLoaves [.ref 1] n I J (Pg i0 i1) Q := by
  refine Cj.intro rfl (Nat.le_of_ble_eq_true rfl) (L := [.ref 1, jU, jU]) rfl ?_
  obtain ⟨⟨w0, w1, w2, w3, w4, w5, w6⟩, wp, wk, wc, wj⟩ := id hW
  have loop : ∀ r p a : Nat, p + r = v 0 3 → a = sumN (v 2) p → Rj X d 0 0 mX8_allLoaves Q 4 [.ref 1, .int (nI a), .int (nI p)] [] n I J (Pg i0 i1) := by
    intro r
    induction r with
    | zero =>
      intro p a hpr ha
      refine j_iload_n dX8_allLoaves_4 rfl rfl rfl ?_
      refine j_aload_n dX8_allLoaves_5 rfl rfl rfl ?_
      refine j_getIv (v := nI (v 0 3)) dX8_allLoaves_6 rfl fX8_21 rfl (by decide) rfl hV.pairs ?_
      refine j_icmpgeN (tgt := 27) dX8_allLoaves_9 rfl rfl (by omega) (by omega) (fun h1 => ?_) (fun h1 => by exfalso; omega)
      refine j_iload_n dX8_allLoaves_27 rfl rfl rfl ?_
      refine j_iret dX8_allLoaves_28 rfl rfl ?_
      have hp : p = v 0 3 := by omega
      subst hp; subst ha; exact hQ
    | succ r ih =>
      intro p a hpr ha
      refine j_iload_n dX8_allLoaves_4 rfl rfl rfl ?_
      refine j_aload_n dX8_allLoaves_5 rfl rfl rfl ?_
      refine j_getIv (v := nI (v 0 3)) dX8_allLoaves_6 rfl fX8_21 rfl (by decide) rfl hV.pairs ?_
      refine j_icmpgeN (tgt := 27) dX8_allLoaves_9 rfl rfl (by omega) (by omega) (fun h1 => by exfalso; omega) (fun h1 => ?_)
      refine j_iload_n dX8_allLoaves_12 rfl rfl rfl ?_
      refine j_aload_n dX8_allLoaves_13 rfl rfl rfl ?_
      refine j_getP (b := 3) dX8_allLoaves_14 rfl fX8_34 rfl (by decide) rfl rfl ?_
      refine j_iload_n dX8_allLoaves_17 rfl rfl rfl ?_
      refine j_iald (j := p) (v := nI (v 2 p)) dX8_allLoaves_18 rfl rfl (by decide) rfl (by omega) (by decide) (hV.lv (by omega)) ?_
      refine j_iaddN (c := a + (v 2 p)) dX8_allLoaves_19 rfl rfl ?_
      refine j_istore_n (L' := [.ref 1, .int (nI (a + (v 2 p))), .int (nI p)]) dX8_allLoaves_20 rfl rfl rfl (by decide) rfl ?_
      refine j_iincN (L' := [.ref 1, .int (nI (a + (v 2 p))), .int (nI (p + 1))]) dX8_allLoaves_21 rfl rfl (b := 1) rfl rfl rfl (by decide) rfl ?_
      refine j_goto (tgt := 4) dX8_allLoaves_24 rfl ?_
      exact ih (p + 1) _ (by omega) (by rw [ha]; rfl)
  refine j_iconst (v := nI 0) dX8_allLoaves_0 rfl rfl ?_
  refine j_istore_n (L' := [.ref 1, .int (nI 0), jU]) dX8_allLoaves_1 rfl rfl rfl (by decide) rfl ?_
  refine j_iconst (v := nI 0) dX8_allLoaves_2 rfl rfl ?_
  refine j_istore_n (L' := [.ref 1, .int (nI 0), .int (nI 0)]) dX8_allLoaves_3 rfl rfl rfl (by decide) rfl ?_
  exact loop (v 0 3) 0 0 (by omega) rfl
set_option maxHeartbeats 4000000 in
set_option maxRecDepth 100000 in
theorem c_loavesBehind {X : jX} {d n : Nat} {I : HI} {J : HJ} {i0 i1 : Option Nat} {Q : jPost} {v : VT} {yb : Nat} (hV : VC 1 I v) (hW : WF yb v) (hyb : yb ≤ 2 ^ 20) {m dr : Nat} (hm : m ≤ 60) (hdr : dr ≤ 4095) (hQ : Q (some (.int (nI (sumN (fun p => lft (v 1 p) (v 0 1) dr (v 0 0) (v 2 p) m) (v 0 3))))) n I J (Pg i0 i1)) : Cj X (d + 3) 0 0 mX1_loavesBehind [.ref 1, .int (nI m), .int (nI dr)] n I J (Pg i0 i1) Q := by
  refine Cj.intro rfl (Nat.le_of_ble_eq_true rfl) (L := [.ref 1, .int (nI m), .int (nI dr), jU, jU]) rfl ?_
  obtain ⟨⟨w0, w1, w2, w3, w4, w5, w6⟩, wp, wk, wc, wj⟩ := id hW
  have loop : ∀ r p a : Nat, p + r = v 0 3 → a = sumN (fun p => lft (v 1 p) (v 0 1) dr (v 0 0) (v 2 p) m) p → Rj X (d + 3) 0 0 mX1_loavesBehind Q 5 [.ref 1, .int (nI m), .int (nI dr), .int (nI a), .int (nI p)] [] n I J (Pg i0 i1) := by
    intro r
    induction r with
    | zero =>
      intro p a hpr ha
      refine j_iload dX1_loavesBehind_5 rfl rfl ?_
      refine j_aload_n dX1_loavesBehind_7 rfl rfl rfl ?_
      refine j_getIv (v := nI (v 0 3)) dX1_loavesBehind_8 rfl fX1_57 rfl (by decide) rfl hV.pairs ?_
      refine j_icmpgeN (tgt := 43) dX1_loavesBehind_11 rfl rfl (by omega) (by omega) (fun h1 => ?_) (fun h1 => by exfalso; omega)
      refine j_iload_n dX1_loavesBehind_43 rfl rfl rfl ?_
      refine j_iret dX1_loavesBehind_44 rfl rfl ?_
      have hp : p = v 0 3 := by omega
      subst hp; subst ha; exact hQ
    | succ r ih =>
      intro p a hpr ha
      obtain ⟨q1, q2, q3, q4, q5⟩ := wp p (by omega)
      refine j_iload dX1_loavesBehind_5 rfl rfl ?_
      refine j_aload_n dX1_loavesBehind_7 rfl rfl rfl ?_
      refine j_getIv (v := nI (v 0 3)) dX1_loavesBehind_8 rfl fX1_57 rfl (by decide) rfl hV.pairs ?_
      refine j_icmpgeN (tgt := 43) dX1_loavesBehind_11 rfl rfl (by omega) (by omega) (fun h1 => by exfalso; omega) (fun h1 => ?_)
      refine j_iload_n dX1_loavesBehind_14 rfl rfl rfl ?_
      refine j_aload_n dX1_loavesBehind_15 rfl rfl rfl ?_
      refine j_aload_n dX1_loavesBehind_16 rfl rfl rfl ?_
      refine j_getP (b := 2) dX1_loavesBehind_17 rfl fX1_67 rfl (by decide) rfl rfl ?_
      refine j_iload dX1_loavesBehind_20 rfl rfl ?_
      refine j_iald (j := p) (v := nI (v 1 p)) dX1_loavesBehind_22 rfl rfl (by decide) rfl (by omega) (by decide) (hV.kd (by omega)) ?_
      refine j_aload_n dX1_loavesBehind_23 rfl rfl rfl ?_
      refine j_getP (b := 3) dX1_loavesBehind_24 rfl fX1_31 rfl (by decide) rfl rfl ?_
      refine j_iload dX1_loavesBehind_27 rfl rfl ?_
      refine j_iald (j := p) (v := nI (v 2 p)) dX1_loavesBehind_29 rfl rfl (by decide) rfl (by omega) (by decide) (hV.lv (by omega)) ?_
      refine j_iload_n dX1_loavesBehind_30 rfl rfl rfl ?_
      refine j_iload_n dX1_loavesBehind_31 rfl rfl rfl ?_
      refine j_callVw (As := [.int (nI (v 1 p)), .int (nI (v 2 p)), .int (nI m), .int (nI dr)]) dX1_loavesBehind_32 rfl cX1_70 (by decide) rfl rfl (by decide) rfl (Nat.le_of_ble_eq_true rfl) rfl rfl (c_leftAs hV (by omega) (by omega) (by omega) (by omega) (by omega) (by omega) ?_)
      show Rj _ _ _ _ _ _ 35 [.ref 1, .int (nI m), .int (nI dr), .int (nI a), .int (nI p)] [.int (nI (lft (v 1 p) (v 0 1) dr (v 0 0) (v 2 p) m)), .int (nI a)] n I J (Pg i0 i1)
      refine j_iaddN (c := a + (lft (v 1 p) (v 0 1) dr (v 0 0) (v 2 p) m)) dX1_loavesBehind_35 rfl rfl ?_
      refine j_istore_n (L' := [.ref 1, .int (nI m), .int (nI dr), .int (nI (a + (lft (v 1 p) (v 0 1) dr (v 0 0) (v 2 p) m))), .int (nI p)]) dX1_loavesBehind_36 rfl rfl rfl (by decide) rfl ?_
      refine j_iincN (L' := [.ref 1, .int (nI m), .int (nI dr), .int (nI (a + (lft (v 1 p) (v 0 1) dr (v 0 0) (v 2 p) m))), .int (nI (p + 1))]) dX1_loavesBehind_37 rfl rfl (b := 1) rfl rfl rfl (by decide) rfl ?_
      refine j_goto (tgt := 5) dX1_loavesBehind_40 rfl ?_
      exact ih (p + 1) _ (by omega) (by rw [ha]; rfl)
  refine j_iconst (v := nI 0) dX1_loavesBehind_0 rfl rfl ?_
  refine j_istore_n (L' := [.ref 1, .int (nI m), .int (nI dr), .int (nI 0), jU]) dX1_loavesBehind_1 rfl rfl rfl (by decide) rfl ?_
  refine j_iconst (v := nI 0) dX1_loavesBehind_2 rfl rfl ?_
  refine j_istore (L' := [.ref 1, .int (nI m), .int (nI dr), .int (nI 0), .int (nI 0)]) dX1_loavesBehind_3 rfl rfl (by decide) rfl ?_
  exact loop (v 0 3) 0 0 (by omega) rfl
/-- the year of the end and 1, of the next f years; 0: none -/
def endY (k da dr : Nat) : Nat → Nat → Nat → Nat
  | 0, _, _ => 0
  | f + 1, y, l => if l = 0 then 0 else if l - gos k y da dr = 0 then y + 1 else endY k da dr f (y + 1) (l - gos k y da dr)
theorem endY_le (k da dr : Nat) : ∀ f y l, endY k da dr f y l ≤ y + f
  | 0, _, _ => Nat.zero_le _
  | f + 1, y, l => by
    unfold endY
    have := endY_le k da dr f (y + 1) (l - gos k y da dr)
    split
    · omega
    · split <;> omega
theorem en_z {a : Nat} (ha : a < 2 ^ 31) (h : nI a - 1 = -1) : a = 0 := by
  cases a with
  | zero => rfl
  | succ m =>
    rw [nI_pred] at h
    have h2 := nI_toInt (n := m) (by omega)
    rw [h] at h2
    have h3 : (-1 : Int32).toInt = -1 := rfl
    omega
set_option maxHeartbeats 4000000 in
set_option maxRecDepth 100000 in
theorem c_endOf_go {X : jX} {d n : Nat} {I : HI} {J : HJ} {i0 i1 : Option Nat} {Q : jPost} {v : VT} {yb : Nat} (hV : VC 1 I v) (hW : WF yb v) (hyb : yb ≤ 2 ^ 20) {p : Nat} (hp : p < v 0 3) (he : v 4 p = 0) (hQ : Q (some (.int (nI (endY (v 1 p) (v 0 1) (v 0 2) 99 (v 0 0) (v 2 p)) - 1))) n I J (Pg i0 i1)) : Cj X (d + 3) 0 0 mX1_endOf [.ref 1, .int (nI p)] n I J (Pg i0 i1) Q := by
  refine Cj.intro rfl (Nat.le_of_ble_eq_true rfl) (L := [.ref 1, .int (nI p), jU, jU]) rfl ?_
  obtain ⟨⟨w0, w1, w2, w3, w4, w5, w6⟩, wp, wk, wc, wj⟩ := id hW
  obtain ⟨q1, q2, q3, q4, q5⟩ := wp p hp
  generalize hT : endY (v 1 p) (v 0 1) (v 0 2) 99 (v 0 0) (v 2 p) = T at hQ
  have loop : ∀ r y l : Nat, y + r = 99 → l ≤ 60 → endY (v 1 p) (v 0 1) (v 0 2) r (v 0 0 + y) l = T → Rj X (d + 3) 0 0 mX1_endOf Q 26 [.ref 1, .int (nI p), .int (nI l), .int (nI y)] [] n I J (Pg i0 i1) := by
    intro r
    induction r with
    | zero =>
      intro y l hyr hl hr
      refine j_iload_n dX1_endOf_26 rfl rfl rfl ?_
      refine j_bipush (v := nI 99) dX1_endOf_27 rfl rfl ?_
      refine j_icmpgeN (tgt := 61) dX1_endOf_29 rfl rfl (by omega) (by decide) (fun h1 => ?_) (fun h1 => by exfalso; omega)
      refine j_iconst (v := (-1)) dX1_endOf_61 rfl rfl ?_
      refine j_iret dX1_endOf_62 rfl rfl ?_
      rw [← hr] at hQ; exact hQ
    | succ r ih =>
      intro y l hyr hl hr
      refine j_iload_n dX1_endOf_26 rfl rfl rfl ?_
      refine j_bipush (v := nI 99) dX1_endOf_27 rfl rfl ?_
      refine j_icmpgeN (tgt := 61) dX1_endOf_29 rfl rfl (by omega) (by decide) (fun h1 => by exfalso; omega) (fun h1 => ?_)
      refine j_iload_n dX1_endOf_32 rfl rfl rfl ?_
      refine j_ifleN (tgt := 61) dX1_endOf_33 rfl rfl (by omega) (fun h2 => ?_) (fun h2 => ?_)
      · refine j_iconst (v := (-1)) dX1_endOf_61 rfl rfl ?_
        refine j_iret dX1_endOf_62 rfl rfl ?_
        unfold endY at hr
        rw [if_pos (by omega)] at hr
        rw [← hr] at hQ; exact hQ
      · refine j_aload_n dX1_endOf_36 rfl rfl rfl ?_
        refine j_iload_n dX1_endOf_37 rfl rfl rfl ?_
        refine j_iload_n dX1_endOf_38 rfl rfl rfl ?_
        refine j_iload_n dX1_endOf_39 rfl rfl rfl ?_
        refine j_callVw (As := [.int (nI l), .int (nI p), .int (nI y)]) dX1_endOf_40 rfl cX1_34 (by decide) rfl rfl (by decide) rfl (by decide) rfl rfl (c_leftInYear hV (by omega) (by omega) (by omega) (by omega) (by omega) (by omega) (by omega) ?_)
        show Rj _ _ _ _ _ _ 43 [.ref 1, .int (nI p), .int (nI l), .int (nI y)] [.int (nI (l - gos (v 1 p) (v 0 0 + y) (v 0 1) (v 0 2)))] n I J (Pg i0 i1)
        refine j_istore_n (L' := [.ref 1, .int (nI p), .int (nI (l - gos (v 1 p) (v 0 0 + y) (v 0 1) (v 0 2))), .int (nI y)]) dX1_endOf_43 rfl rfl rfl (by decide) rfl ?_
        refine j_iload_n dX1_endOf_44 rfl rfl rfl ?_
        refine j_ifneN (tgt := 55) dX1_endOf_45 rfl rfl (by omega) (fun h3 => ?_) (fun h3 => ?_)
        · refine j_iincN (L' := [.ref 1, .int (nI p), .int (nI (l - gos (v 1 p) (v 0 0 + y) (v 0 1) (v 0 2))), .int (nI (y + 1))]) dX1_endOf_55 rfl rfl (b := 1) rfl rfl rfl (by decide) rfl ?_
          refine j_goto (tgt := 26) dX1_endOf_58 rfl ?_
          refine ih (y + 1) _ (by omega) (by omega) ?_
          rw [← hr]
          conv => rhs; unfold endY
          rw [if_neg (by omega), if_neg (by omega)]
          rfl
        · refine j_aload_n dX1_endOf_48 rfl rfl rfl ?_
          refine j_getIv (v := nI (v 0 0)) dX1_endOf_49 rfl fX1_38 rfl (by decide) rfl hV.year ?_
          refine j_iload_n dX1_endOf_52 rfl rfl rfl ?_
          refine j_iaddN (c := (v 0 0) + y) dX1_endOf_53 rfl rfl ?_
          refine j_iret dX1_endOf_54 rfl rfl ?_
          unfold endY at hr
          rw [if_neg (by omega), if_pos (by omega)] at hr
          rw [← hr, nI_pred] at hQ; exact hQ
  refine j_aload_n dX1_endOf_0 rfl rfl rfl ?_
  refine j_getP (b := 5) dX1_endOf_1 rfl fX1_26 rfl (by decide) rfl rfl ?_
  refine j_iload_n dX1_endOf_4 rfl rfl rfl ?_
  refine j_iald (j := p) (v := nI (v 4 p) - 1) dX1_endOf_5 rfl rfl (by decide) rfl (by omega) (by decide) (hV.en (by omega)) ?_
  refine j_iconst (v := (-1)) dX1_endOf_6 rfl rfl ?_
  refine j_icmpeq (tgt := 17) dX1_endOf_7 rfl rfl (fun h1 => ?_) (fun h1 => by exfalso; exact h1 (by rw [he]; rfl))
  refine j_aload_n dX1_endOf_17 rfl rfl rfl ?_
  refine j_getP (b := 3) dX1_endOf_18 rfl fX1_31 rfl (by decide) rfl rfl ?_
  refine j_iload_n dX1_endOf_21 rfl rfl rfl ?_
  refine j_iald (j := p) (v := nI (v 2 p)) dX1_endOf_22 rfl rfl (by decide) rfl (by omega) (by decide) (hV.lv (by omega)) ?_
  refine j_istore_n (L' := [.ref 1, .int (nI p), .int (nI (v 2 p)), jU]) dX1_endOf_23 rfl rfl rfl (by decide) rfl ?_
  refine j_iconst (v := nI 0) dX1_endOf_24 rfl rfl ?_
  refine j_istore_n (L' := [.ref 1, .int (nI p), .int (nI (v 2 p)), .int (nI 0)]) dX1_endOf_25 rfl rfl rfl (by decide) rfl ?_
  exact loop 99 0 _ rfl q2 hT
set_option maxHeartbeats 4000000 in
set_option maxRecDepth 100000 in
theorem c_endOf_was {X : jX} {d n : Nat} {I : HI} {J : HJ} {i0 i1 : Option Nat} {Q : jPost} {v : VT} {yb : Nat} (hV : VC 1 I v) (hW : WF yb v) (hyb : yb ≤ 2 ^ 20) {p : Nat} (hp : p < v 0 3) (he : ¬ v 4 p = 0) (hQ : Q (some (.int (nI (v 4 p) - 1))) n I J (Pg i0 i1)) : Cj X (d + 3) 0 0 mX1_endOf [.ref 1, .int (nI p)] n I J (Pg i0 i1) Q := by
  refine Cj.intro rfl (Nat.le_of_ble_eq_true rfl) (L := [.ref 1, .int (nI p), jU, jU]) rfl ?_
  obtain ⟨⟨w0, w1, w2, w3, w4, w5, w6⟩, wp, wk, wc, wj⟩ := id hW
  obtain ⟨q1, q2, q3, q4, q5⟩ := wp p hp
  refine j_aload_n dX1_endOf_0 rfl rfl rfl ?_
  refine j_getP (b := 5) dX1_endOf_1 rfl fX1_26 rfl (by decide) rfl rfl ?_
  refine j_iload_n dX1_endOf_4 rfl rfl rfl ?_
  refine j_iald (j := p) (v := nI (v 4 p) - 1) dX1_endOf_5 rfl rfl (by decide) rfl (by omega) (by decide) (hV.en (by omega)) ?_
  refine j_iconst (v := (-1)) dX1_endOf_6 rfl rfl ?_
  refine j_icmpeq (tgt := 17) dX1_endOf_7 rfl rfl (fun h1 => by exfalso; exact he (en_z (by omega) h1)) (fun h1 => ?_)
  refine j_aload_n dX1_endOf_10 rfl rfl rfl ?_
  refine j_getP (b := 5) dX1_endOf_11 rfl fX1_26 rfl (by decide) rfl rfl ?_
  refine j_iload_n dX1_endOf_14 rfl rfl rfl ?_
  refine j_iald (j := p) (v := nI (v 4 p) - 1) dX1_endOf_15 rfl rfl (by decide) rfl (by omega) (by decide) (hV.en (by omega)) ?_
  refine j_iret dX1_endOf_16 rfl rfl ?_
  exact hQ
theorem u2_ur {α : Type} (I : Nat → Nat → α) (a k : Nat) (f : Nat → α) (v : α) : u2 (ur I a f) a k v = ur I a (fun j => if j = k then v else f j) := by
  funext b j
  by_cases hb : b = a
  · simp [u2, ur, hb]
  · simp [u2, ur, hb]
theorem ur_self {α : Type} (I : Nat → Nat → α) (a : Nat) : ur I a (I a) = I := by
  funext b j
  by_cases hb : b = a
  · subst hb; simp [ur]
  · simp [ur, hb]
theorem ur_ur {α : Type} (I : Nat → Nat → α) (a : Nat) (f g : Nat → α) : ur (ur I a f) a g = ur I a g := by
  funext b j
  by_cases hb : b = a <;> simp [ur, hb]
/-- who end in a year, of the first pairs: bits -/
def endB (v : VT) (y : Nat) (h : Nat → Nat) : Nat → Nat
  | 0 => 0
  | p + 1 => if 0 < h p ∧ h p - gos (v 1 p) (v 0 0 + y) (v 0 1) (v 0 2) = 0 then endB v y h p ||| 2 ^ p else endB v y h p
theorem endB_lt (v : VT) (y : Nat) (h : Nat → Nat) : ∀ n, endB v y h n < 2 ^ n
  | 0 => by simp [endB]
  | p + 1 => by
    have h1 := endB_lt v y h p
    unfold endB
    split
    · exact Nat.or_lt_two_pow (Nat.lt_trans h1 (Nat.pow_lt_pow_right (by omega) (by omega))) (Nat.pow_lt_pow_right (by omega) (by omega))
    · exact Nat.lt_trans h1 (Nat.pow_lt_pow_right (by omega) (by omega))
set_option maxHeartbeats 4000000 in
set_option maxRecDepth 100000 in
theorem c_endingInYear {X : jX} {d n : Nat} {I : HI} {J : HJ} {i0 i1 : Option Nat} {Q : jPost} {v : VT} {yb : Nat} (hV : VC 1 I v) (hW : WF yb v) (hyb : yb ≤ 2 ^ 20) {y : Nat} (hy : y ≤ 99) {h : Nat → Nat} (hh : ∀ p, p < v 0 3 → I 27 p = nI (h p) ∧ h p ≤ 60) (hQ : ∀ f : Nat → Int32, (∀ p, p < v 0 3 → f p = nI (h p - gos (v 1 p) (v 0 0 + y) (v 0 1) (v 0 2))) → Q (some (.int (nI (endB v y h (v 0 3))))) n (ur I 27 f) J (Pg i0 i1)) : Cj X (d + 3) 0 0 mX1_endingInYear [.ref 26, .ref 1, .int (nI y)] n I J (Pg i0 i1) Q := by
  refine Cj.intro rfl (Nat.le_of_ble_eq_true rfl) (L := [.ref 26, .ref 1, .int (nI y), jU, jU]) rfl ?_
  obtain ⟨⟨w0, w1, w2, w3, w4, w5, w6⟩, wp, wk, wc, wj⟩ := id hW
  have loop : ∀ (r p e : Nat) (f : Nat → Int32), p + r = v 0 3 → e = endB v y h p → (∀ q, q < p → f q = nI (h q - gos (v 1 q) (v 0 0 + y) (v 0 1) (v 0 2))) → (∀ q, q < v 0 3 → p ≤ q → f q = nI (h q)) → Rj X (d + 3) 0 0 mX1_endingInYear Q 5 [.ref 26, .ref 1, .int (nI y), .int (nI e), .int (nI p)] [] n (ur I 27 f) J (Pg i0 i1) := by
    intro r
    induction r with
    | zero =>
      intro p e f hpr he hf1 hf2
      have hV2 : VC 1 (ur I 27 f) v := hV.congr (fun i hi => ur_ne I f (by omega))
      refine j_iload dX1_endingInYear_5 rfl rfl ?_
      refine j_aload_n dX1_endingInYear_7 rfl rfl rfl ?_
      refine j_getIv (v := nI (v 0 3)) dX1_endingInYear_8 rfl fX1_57 rfl (by decide) rfl hV2.pairs ?_
      refine j_icmpgeN (tgt := 68) dX1_endingInYear_11 rfl rfl (by omega) (by omega) (fun h1 => ?_) (fun h1 => by exfalso; omega)
      refine j_iload_n dX1_endingInYear_68 rfl rfl rfl ?_
      refine j_iret dX1_endingInYear_69 rfl rfl ?_
      have hp : p = v 0 3 := by omega
      subst hp; subst he; exact hQ f (fun q hq => hf1 q hq)
    | succ r ih =>
      intro p e f hpr he hf1 hf2
      obtain ⟨q1, q2, q3, q4, q5⟩ := wp p (by omega)
      have hb := (hh p (by omega)).2
      have hV2 : VC 1 (ur I 27 f) v := hV.congr (fun i hi => ur_ne I f (by omega))
      refine j_iload dX1_endingInYear_5 rfl rfl ?_
      refine j_aload_n dX1_endingInYear_7 rfl rfl rfl ?_
      refine j_getIv (v := nI (v 0 3)) dX1_endingInYear_8 rfl fX1_57 rfl (by decide) rfl hV2.pairs ?_
      refine j_icmpgeN (tgt := 68) dX1_endingInYear_11 rfl rfl (by omega) (by omega) (fun h1 => by exfalso; omega) (fun h1 => ?_)
      refine j_aload_n dX1_endingInYear_14 rfl rfl rfl ?_
      refine j_getP (b := 27) dX1_endingInYear_15 rfl fX1_9 rfl (by decide) rfl rfl ?_
      refine j_iload dX1_endingInYear_18 rfl rfl ?_
      refine j_iald (j := p) (v := nI (h p)) dX1_endingInYear_20 rfl rfl (by decide) rfl (by omega) (by decide) (by rw [ur_row]; exact hf2 p (by omega) (by omega)) ?_
      refine j_ifleN (tgt := 62) dX1_endingInYear_21 rfl rfl (by omega) (fun h2 => ?_) (fun h2 => ?_)
      · refine j_iincN (L' := [.ref 26, .ref 1, .int (nI y), .int (nI e), .int (nI (p + 1))]) dX1_endingInYear_62 rfl rfl (b := 1) rfl rfl rfl (by decide) rfl ?_
        refine j_goto (tgt := 5) dX1_endingInYear_65 rfl ?_
        refine ih (p + 1) _ _ (by omega) ?_ ?_ ?_
        · rw [he]; simp only [endB]; rw [if_neg (by omega)]
        · intro q hq
          by_cases hqp : q = p
          · subst hqp; rw [hf2 q (by omega) (by omega)]; congr 1; omega
          · exact hf1 q (by omega)
        · intro q hq hpq
          exact hf2 q hq (by omega)
      · refine j_aload_n dX1_endingInYear_24 rfl rfl rfl ?_
        refine j_getP (b := 27) dX1_endingInYear_25 rfl fX1_9 rfl (by decide) rfl rfl ?_
        refine j_iload dX1_endingInYear_28 rfl rfl ?_
        refine j_aload_n dX1_endingInYear_30 rfl rfl rfl ?_
        refine j_aload_n dX1_endingInYear_31 rfl rfl rfl ?_
        refine j_getP (b := 27) dX1_endingInYear_32 rfl fX1_9 rfl (by decide) rfl rfl ?_
        refine j_iload dX1_endingInYear_35 rfl rfl ?_
        refine j_iald (j := p) (v := nI (h p)) dX1_endingInYear_37 rfl rfl (by decide) rfl (by omega) (by decide) (by rw [ur_row]; exact hf2 p (by omega) (by omega)) ?_
        refine j_iload dX1_endingInYear_38 rfl rfl ?_
        refine j_iload_n dX1_endingInYear_40 rfl rfl rfl ?_
        refine j_callVw (As := [.int (nI (h p)), .int (nI p), .int (nI y)]) dX1_endingInYear_41 rfl cX1_34 (by decide) rfl rfl (by decide) rfl (Nat.le_of_ble_eq_true rfl) rfl rfl (c_leftInYear hV2 (by omega) (by omega) (by omega) (by omega) (by omega) (by omega) (by omega) ?_)
        show Rj _ _ _ _ _ _ 44 [.ref 26, .ref 1, .int (nI y), .int (nI e), .int (nI p)] [.int (nI ((h p) - gos (v 1 p) (v 0 0 + y) (v 0 1) (v 0 2))), .int (nI p), .ref 27] n (ur I 27 f) J (Pg i0 i1)
        refine j_iast (j := p) dX1_endingInYear_44 rfl rfl (by decide) rfl (by omega) (by decide) ?_
        refine j_aload_n dX1_endingInYear_45 rfl rfl rfl ?_
        refine j_getP (b := 27) dX1_endingInYear_46 rfl fX1_9 rfl (by decide) rfl rfl ?_
        refine j_iload dX1_endingInYear_49 rfl rfl ?_
        refine j_iald (j := p) (v := nI ((h p) - gos (v 1 p) (v 0 0 + y) (v 0 1) (v 0 2))) dX1_endingInYear_51 rfl rfl (by decide) rfl (by omega) (by decide) (by simp [u2]) ?_
        refine j_ifneN (tgt := 62) dX1_endingInYear_52 rfl rfl (by omega) (fun h3 => ?_) (fun h3 => ?_)
        · refine j_iincN (L' := [.ref 26, .ref 1, .int (nI y), .int (nI e), .int (nI (p + 1))]) dX1_endingInYear_62 rfl rfl (b := 1) rfl rfl rfl (by decide) rfl ?_
          refine j_goto (tgt := 5) dX1_endingInYear_65 rfl ?_
          rw [u2_ur]
          refine ih (p + 1) _ _ (by omega) ?_ ?_ ?_
          · rw [he]; simp only [endB]; rw [if_neg (by omega)]
          · intro q hq
            by_cases hqp : q = p
            · subst hqp; rw [if_pos rfl]
            · rw [if_neg hqp]; exact hf1 q (by omega)
          · intro q hq hpq
            rw [if_neg (by omega)]; exact hf2 q hq (by omega)
        · refine j_iload_n dX1_endingInYear_55 rfl rfl rfl ?_
          refine j_iconst (v := nI 1) dX1_endingInYear_56 rfl rfl ?_
          refine j_iload dX1_endingInYear_57 rfl rfl ?_
          refine j_ishlN (c := 2 ^ p) dX1_endingInYear_59 rfl (by omega) (Nat.one_mul _) ?_
          refine j_iorN (c := e ||| (2 ^ p)) dX1_endingInYear_60 rfl rfl ?_
          refine j_istore_n (L' := [.ref 26, .ref 1, .int (nI y), .int (nI (e ||| (2 ^ p))), .int (nI p)]) dX1_endingInYear_61 rfl rfl rfl (by decide) rfl ?_
          refine j_iincN (L' := [.ref 26, .ref 1, .int (nI y), .int (nI (e ||| (2 ^ p))), .int (nI (p + 1))]) dX1_endingInYear_62 rfl rfl (b := 1) rfl rfl rfl (by decide) rfl ?_
          refine j_goto (tgt := 5) dX1_endingInYear_65 rfl ?_
          rw [u2_ur]
          refine ih (p + 1) _ _ (by omega) ?_ ?_ ?_
          · rw [he]; simp only [endB]; rw [if_pos ⟨by omega, by omega⟩]
          · intro q hq
            by_cases hqp : q = p
            · subst hqp; rw [if_pos rfl]
            · rw [if_neg hqp]; exact hf1 q (by omega)
          · intro q hq hpq
            rw [if_neg (by omega)]; exact hf2 q hq (by omega)
  refine j_iconst (v := nI 0) dX1_endingInYear_0 rfl rfl ?_
  refine j_istore_n (L' := [.ref 26, .ref 1, .int (nI y), .int (nI 0), jU]) dX1_endingInYear_1 rfl rfl rfl (by decide) rfl ?_
  refine j_iconst (v := nI 0) dX1_endingInYear_2 rfl rfl ?_
  refine j_istore (L' := [.ref 26, .ref 1, .int (nI y), .int (nI 0), .int (nI 0)]) dX1_endingInYear_3 rfl rfl (by decide) rfl ?_
  rw [← ur_self I 27]
  exact loop (v 0 3) 0 0 (I 27) (by omega) rfl (fun q hq => absurd hq (by omega)) (fun q hq _ => (hh q hq).1)
end
