section
-- ===== PART A: goes FIRST, ahead of the names: the tables' words, and 'selects' of the private methods out of them =====
/-- a private method of a class that the tables say can be made, by its rows of tables_1 -/
def lw_okq (q : MethodName × Nat) : Prop := (q.1.cls ≠ "java/lang/invoke/MethodHandle" ∧ q.1.cls ≠ "java/lang/invoke/VarHandle") ∧ Cond.instantiable q.1.cls q.2 ∈ tables_1 ∧ Cond.privateMethod q.1 ∈ tables_1 ∧ Cond.instanceMethod q.1 ∈ tables_1
theorem lw_p0 : lw_okq (⟨"DepotMarch", "putBytes", "(I)V"⟩, 7) := ⟨⟨by decide +kernel, by decide +kernel⟩, List.mem_of_getElem? (i := 19) (by decide +kernel), List.mem_of_getElem? (i := 276) (by decide +kernel), List.mem_of_getElem? (i := 277) (by decide +kernel)⟩
theorem lw_p1 : lw_okq (⟨"DepotMarch$Tokens", "pass", "([III)I"⟩, 4) := ⟨⟨by decide +kernel, by decide +kernel⟩, List.mem_of_getElem? (i := 33) (by decide +kernel), List.mem_of_getElem? (i := 321) (by decide +kernel), List.mem_of_getElem? (i := 322) (by decide +kernel)⟩
theorem lw_p2 : lw_okq (⟨"DepotMarch$Tokens", "put", "(III)V"⟩, 4) := ⟨⟨by decide +kernel, by decide +kernel⟩, List.mem_of_getElem? (i := 33) (by decide +kernel), List.mem_of_getElem? (i := 380) (by decide +kernel), List.mem_of_getElem? (i := 381) (by decide +kernel)⟩
theorem lw_p3 : lw_okq (⟨"DepotMarch$Reader", "list", "(I)Z"⟩, 8) := ⟨⟨by decide +kernel, by decide +kernel⟩, List.mem_of_getElem? (i := 27) (by decide +kernel), List.mem_of_getElem? (i := 451) (by decide +kernel), List.mem_of_getElem? (i := 452) (by decide +kernel)⟩
theorem lw_p4 : lw_okq (⟨"DepotMarch$Reader", "statement", "(I)Z"⟩, 8) := ⟨⟨by decide +kernel, by decide +kernel⟩, List.mem_of_getElem? (i := 27) (by decide +kernel), List.mem_of_getElem? (i := 462) (by decide +kernel), List.mem_of_getElem? (i := 463) (by decide +kernel)⟩
theorem lw_p5 : lw_okq (⟨"DepotMarch$Reader", "emit", "(II)I"⟩, 8) := ⟨⟨by decide +kernel, by decide +kernel⟩, List.mem_of_getElem? (i := 27) (by decide +kernel), List.mem_of_getElem? (i := 474) (by decide +kernel), List.mem_of_getElem? (i := 475) (by decide +kernel)⟩
theorem lw_p6 : lw_okq (⟨"DepotMarch$Reader", "choice", "(I)Z"⟩, 8) := ⟨⟨by decide +kernel, by decide +kernel⟩, List.mem_of_getElem? (i := 27) (by decide +kernel), List.mem_of_getElem? (i := 478) (by decide +kernel), List.mem_of_getElem? (i := 479) (by decide +kernel)⟩
theorem lw_p7 : lw_okq (⟨"DepotMarch$Reader", "chain", "(II)Z"⟩, 8) := ⟨⟨by decide +kernel, by decide +kernel⟩, List.mem_of_getElem? (i := 27) (by decide +kernel), List.mem_of_getElem? (i := 482) (by decide +kernel), List.mem_of_getElem? (i := 483) (by decide +kernel)⟩
theorem lw_p8 : lw_okq (⟨"DepotMarch$Reader", "operand", "(I)Z"⟩, 8) := ⟨⟨by decide +kernel, by decide +kernel⟩, List.mem_of_getElem? (i := 27) (by decide +kernel), List.mem_of_getElem? (i := 486) (by decide +kernel), List.mem_of_getElem? (i := 487) (by decide +kernel)⟩
theorem lw_p9 : lw_okq (⟨"DepotMarch$Reader", "expect", "(I)Z"⟩, 8) := ⟨⟨by decide +kernel, by decide +kernel⟩, List.mem_of_getElem? (i := 27) (by decide +kernel), List.mem_of_getElem? (i := 490) (by decide +kernel), List.mem_of_getElem? (i := 491) (by decide +kernel)⟩
theorem lw_p10 : lw_okq (⟨"DepotMarch$Reader", "block", "(I)Z"⟩, 8) := ⟨⟨by decide +kernel, by decide +kernel⟩, List.mem_of_getElem? (i := 27) (by decide +kernel), List.mem_of_getElem? (i := 500) (by decide +kernel), List.mem_of_getElem? (i := 501) (by decide +kernel)⟩
theorem lw_p11 : lw_okq (⟨"DepotMarch$Reader", "aimHere", "(I)V"⟩, 8) := ⟨⟨by decide +kernel, by decide +kernel⟩, List.mem_of_getElem? (i := 27) (by decide +kernel), List.mem_of_getElem? (i := 504) (by decide +kernel), List.mem_of_getElem? (i := 505) (by decide +kernel)⟩
theorem lw_p12 : lw_okq (⟨"DepotMarch$Reader", "loop", "(II)Z"⟩, 8) := ⟨⟨by decide +kernel, by decide +kernel⟩, List.mem_of_getElem? (i := 27) (by decide +kernel), List.mem_of_getElem? (i := 508) (by decide +kernel), List.mem_of_getElem? (i := 509) (by decide +kernel)⟩
theorem lw_p13 : lw_okq (⟨"DepotMarch$Reader", "closed", "(II)Z"⟩, 8) := ⟨⟨by decide +kernel, by decide +kernel⟩, List.mem_of_getElem? (i := 27) (by decide +kernel), List.mem_of_getElem? (i := 512) (by decide +kernel), List.mem_of_getElem? (i := 513) (by decide +kernel)⟩
theorem lw_p14 : lw_okq (⟨"DepotMarch$Rows", "freshRun", "(II)I"⟩, 8) := ⟨⟨by decide +kernel, by decide +kernel⟩, List.mem_of_getElem? (i := 103) (by decide +kernel), List.mem_of_getElem? (i := 556) (by decide +kernel), List.mem_of_getElem? (i := 557) (by decide +kernel)⟩
theorem lw_p15 : lw_okq (⟨"DepotMarch$Book", "kept", "()I"⟩, 2) := ⟨⟨by decide +kernel, by decide +kernel⟩, List.mem_of_getElem? (i := 137) (by decide +kernel), List.mem_of_getElem? (i := 565) (by decide +kernel), List.mem_of_getElem? (i := 566) (by decide +kernel)⟩
def lw_privs_1 : List (MethodName × Nat) := [(⟨"DepotMarch", "putBytes", "(I)V"⟩, 7), (⟨"DepotMarch$Tokens", "pass", "([III)I"⟩, 4), (⟨"DepotMarch$Tokens", "put", "(III)V"⟩, 4), (⟨"DepotMarch$Reader", "list", "(I)Z"⟩, 8), (⟨"DepotMarch$Reader", "statement", "(I)Z"⟩, 8), (⟨"DepotMarch$Reader", "emit", "(II)I"⟩, 8), (⟨"DepotMarch$Reader", "choice", "(I)Z"⟩, 8), (⟨"DepotMarch$Reader", "chain", "(II)Z"⟩, 8), (⟨"DepotMarch$Reader", "operand", "(I)Z"⟩, 8), (⟨"DepotMarch$Reader", "expect", "(I)Z"⟩, 8), (⟨"DepotMarch$Reader", "block", "(I)Z"⟩, 8), (⟨"DepotMarch$Reader", "aimHere", "(I)V"⟩, 8), (⟨"DepotMarch$Reader", "loop", "(II)Z"⟩, 8), (⟨"DepotMarch$Reader", "closed", "(II)Z"⟩, 8), (⟨"DepotMarch$Rows", "freshRun", "(II)I"⟩, 8), (⟨"DepotMarch$Book", "kept", "()I"⟩, 2)]
theorem lw_r1 : ∀ q ∈ lw_privs_1, lw_okq q := List.forall_mem_cons.mpr ⟨lw_p0, List.forall_mem_cons.mpr ⟨lw_p1, List.forall_mem_cons.mpr ⟨lw_p2, List.forall_mem_cons.mpr ⟨lw_p3, List.forall_mem_cons.mpr ⟨lw_p4, List.forall_mem_cons.mpr ⟨lw_p5, List.forall_mem_cons.mpr ⟨lw_p6, List.forall_mem_cons.mpr ⟨lw_p7, List.forall_mem_cons.mpr ⟨lw_p8, List.forall_mem_cons.mpr ⟨lw_p9, List.forall_mem_cons.mpr ⟨lw_p10, List.forall_mem_cons.mpr ⟨lw_p11, List.forall_mem_cons.mpr ⟨lw_p12, List.forall_mem_cons.mpr ⟨lw_p13, List.forall_mem_cons.mpr ⟨lw_p14, List.forall_mem_cons.mpr ⟨lw_p15, fun _ h => absurd h List.not_mem_nil⟩⟩⟩⟩⟩⟩⟩⟩⟩⟩⟩⟩⟩⟩⟩⟩
theorem lw_p16 : lw_okq (⟨"DepotMarch$Guide", "walk", "(LDepotMarch$World;LDepotMarch$Party;)V"⟩, 3) := ⟨⟨by decide +kernel, by decide +kernel⟩, List.mem_of_getElem? (i := 81) (by decide +kernel), List.mem_of_getElem? (i := 592) (by decide +kernel), List.mem_of_getElem? (i := 593) (by decide +kernel)⟩
theorem lw_p17 : lw_okq (⟨"DepotMarch$Guide", "push", "(I)V"⟩, 3) := ⟨⟨by decide +kernel, by decide +kernel⟩, List.mem_of_getElem? (i := 81) (by decide +kernel), List.mem_of_getElem? (i := 628) (by decide +kernel), List.mem_of_getElem? (i := 629) (by decide +kernel)⟩
theorem lw_p18 : lw_okq (⟨"DepotMarch$Guide", "combine", "(I)V"⟩, 3) := ⟨⟨by decide +kernel, by decide +kernel⟩, List.mem_of_getElem? (i := 81) (by decide +kernel), List.mem_of_getElem? (i := 636) (by decide +kernel), List.mem_of_getElem? (i := 637) (by decide +kernel)⟩
theorem lw_p19 : lw_okq (⟨"DepotMarch$Guide", "pop", "()I"⟩, 3) := ⟨⟨by decide +kernel, by decide +kernel⟩, List.mem_of_getElem? (i := 81) (by decide +kernel), List.mem_of_getElem? (i := 640) (by decide +kernel), List.mem_of_getElem? (i := 641) (by decide +kernel)⟩
theorem lw_p20 : lw_okq (⟨"DepotMarch$Guide", "act", "(LDepotMarch$World;LDepotMarch$Party;II)Z"⟩, 3) := ⟨⟨by decide +kernel, by decide +kernel⟩, List.mem_of_getElem? (i := 81) (by decide +kernel), List.mem_of_getElem? (i := 647) (by decide +kernel), List.mem_of_getElem? (i := 648) (by decide +kernel)⟩
theorem lw_p21 : lw_okq (⟨"DepotMarch$Guide", "counts", "(LDepotMarch$Party;)Z"⟩, 3) := ⟨⟨by decide +kernel, by decide +kernel⟩, List.mem_of_getElem? (i := 81) (by decide +kernel), List.mem_of_getElem? (i := 651) (by decide +kernel), List.mem_of_getElem? (i := 652) (by decide +kernel)⟩
theorem lw_p22 : lw_okq (⟨"DepotMarch$Guide", "go", "(LDepotMarch$World;LDepotMarch$Party;I)V"⟩, 3) := ⟨⟨by decide +kernel, by decide +kernel⟩, List.mem_of_getElem? (i := 81) (by decide +kernel), List.mem_of_getElem? (i := 682) (by decide +kernel), List.mem_of_getElem? (i := 683) (by decide +kernel)⟩
theorem lw_p23 : lw_okq (⟨"DepotMarch$Party", "isJump", "(I)Z"⟩, 11) := ⟨⟨by decide +kernel, by decide +kernel⟩, List.mem_of_getElem? (i := 153) (by decide +kernel), List.mem_of_getElem? (i := 747) (by decide +kernel), List.mem_of_getElem? (i := 748) (by decide +kernel)⟩
theorem lw_p24 : lw_okq (⟨"DepotMarchModel", "four", "(I)V"⟩, 48) := ⟨⟨by decide +kernel, by decide +kernel⟩, List.mem_of_getElem? (i := 842) (by decide +kernel), List.mem_of_getElem? (i := 1002) (by decide +kernel), List.mem_of_getElem? (i := 1003) (by decide +kernel)⟩
theorem lw_p25 : lw_okq (⟨"DepotMarchModel", "advance", "()V"⟩, 48) := ⟨⟨by decide +kernel, by decide +kernel⟩, List.mem_of_getElem? (i := 842) (by decide +kernel), List.mem_of_getElem? (i := 1021) (by decide +kernel), List.mem_of_getElem? (i := 1022) (by decide +kernel)⟩
theorem lw_p26 : lw_okq (⟨"DepotMarchModel", "see", "()I"⟩, 48) := ⟨⟨by decide +kernel, by decide +kernel⟩, List.mem_of_getElem? (i := 842) (by decide +kernel), List.mem_of_getElem? (i := 1025) (by decide +kernel), List.mem_of_getElem? (i := 1026) (by decide +kernel)⟩
theorem lw_p27 : lw_okq (⟨"DepotMarchModel", "takeWord", "(I)V"⟩, 48) := ⟨⟨by decide +kernel, by decide +kernel⟩, List.mem_of_getElem? (i := 842) (by decide +kernel), List.mem_of_getElem? (i := 1032) (by decide +kernel), List.mem_of_getElem? (i := 1033) (by decide +kernel)⟩
theorem lw_p28 : lw_okq (⟨"DepotMarchModel", "statement", "()Z"⟩, 48) := ⟨⟨by decide +kernel, by decide +kernel⟩, List.mem_of_getElem? (i := 842) (by decide +kernel), List.mem_of_getElem? (i := 1041) (by decide +kernel), List.mem_of_getElem? (i := 1042) (by decide +kernel)⟩
theorem lw_p29 : lw_okq (⟨"DepotMarchModel", "wrong", "()Z"⟩, 48) := ⟨⟨by decide +kernel, by decide +kernel⟩, List.mem_of_getElem? (i := 842) (by decide +kernel), List.mem_of_getElem? (i := 1045) (by decide +kernel), List.mem_of_getElem? (i := 1046) (by decide +kernel)⟩
theorem lw_p30 : lw_okq (⟨"DepotMarchModel", "put", "(II)I"⟩, 48) := ⟨⟨by decide +kernel, by decide +kernel⟩, List.mem_of_getElem? (i := 842) (by decide +kernel), List.mem_of_getElem? (i := 1049) (by decide +kernel), List.mem_of_getElem? (i := 1050) (by decide +kernel)⟩
theorem lw_p31 : lw_okq (⟨"DepotMarchModel", "need", "(I)Z"⟩, 48) := ⟨⟨by decide +kernel, by decide +kernel⟩, List.mem_of_getElem? (i := 842) (by decide +kernel), List.mem_of_getElem? (i := 1053) (by decide +kernel), List.mem_of_getElem? (i := 1054) (by decide +kernel)⟩
def lw_privs_2 : List (MethodName × Nat) := [(⟨"DepotMarch$Guide", "walk", "(LDepotMarch$World;LDepotMarch$Party;)V"⟩, 3), (⟨"DepotMarch$Guide", "push", "(I)V"⟩, 3), (⟨"DepotMarch$Guide", "combine", "(I)V"⟩, 3), (⟨"DepotMarch$Guide", "pop", "()I"⟩, 3), (⟨"DepotMarch$Guide", "act", "(LDepotMarch$World;LDepotMarch$Party;II)Z"⟩, 3), (⟨"DepotMarch$Guide", "counts", "(LDepotMarch$Party;)Z"⟩, 3), (⟨"DepotMarch$Guide", "go", "(LDepotMarch$World;LDepotMarch$Party;I)V"⟩, 3), (⟨"DepotMarch$Party", "isJump", "(I)Z"⟩, 11), (⟨"DepotMarchModel", "four", "(I)V"⟩, 48), (⟨"DepotMarchModel", "advance", "()V"⟩, 48), (⟨"DepotMarchModel", "see", "()I"⟩, 48), (⟨"DepotMarchModel", "takeWord", "(I)V"⟩, 48), (⟨"DepotMarchModel", "statement", "()Z"⟩, 48), (⟨"DepotMarchModel", "wrong", "()Z"⟩, 48), (⟨"DepotMarchModel", "put", "(II)I"⟩, 48), (⟨"DepotMarchModel", "need", "(I)Z"⟩, 48)]
theorem lw_r2 : ∀ q ∈ lw_privs_2, lw_okq q := List.forall_mem_cons.mpr ⟨lw_p16, List.forall_mem_cons.mpr ⟨lw_p17, List.forall_mem_cons.mpr ⟨lw_p18, List.forall_mem_cons.mpr ⟨lw_p19, List.forall_mem_cons.mpr ⟨lw_p20, List.forall_mem_cons.mpr ⟨lw_p21, List.forall_mem_cons.mpr ⟨lw_p22, List.forall_mem_cons.mpr ⟨lw_p23, List.forall_mem_cons.mpr ⟨lw_p24, List.forall_mem_cons.mpr ⟨lw_p25, List.forall_mem_cons.mpr ⟨lw_p26, List.forall_mem_cons.mpr ⟨lw_p27, List.forall_mem_cons.mpr ⟨lw_p28, List.forall_mem_cons.mpr ⟨lw_p29, List.forall_mem_cons.mpr ⟨lw_p30, List.forall_mem_cons.mpr ⟨lw_p31, fun _ h => absurd h List.not_mem_nil⟩⟩⟩⟩⟩⟩⟩⟩⟩⟩⟩⟩⟩⟩⟩⟩
theorem lw_p32 : lw_okq (⟨"DepotMarchModel", "isSign", "(I)Z"⟩, 48) := ⟨⟨by decide +kernel, by decide +kernel⟩, List.mem_of_getElem? (i := 842) (by decide +kernel), List.mem_of_getElem? (i := 1057) (by decide +kernel), List.mem_of_getElem? (i := 1058) (by decide +kernel)⟩
theorem lw_p33 : lw_okq (⟨"DepotMarchModel", "expression", "()Z"⟩, 48) := ⟨⟨by decide +kernel, by decide +kernel⟩, List.mem_of_getElem? (i := 842) (by decide +kernel), List.mem_of_getElem? (i := 1061) (by decide +kernel), List.mem_of_getElem? (i := 1062) (by decide +kernel)⟩
theorem lw_p34 : lw_okq (⟨"DepotMarchModel", "sum", "()Z"⟩, 48) := ⟨⟨by decide +kernel, by decide +kernel⟩, List.mem_of_getElem? (i := 842) (by decide +kernel), List.mem_of_getElem? (i := 1065) (by decide +kernel), List.mem_of_getElem? (i := 1066) (by decide +kernel)⟩
theorem lw_p35 : lw_okq (⟨"DepotMarchModel", "product", "()Z"⟩, 48) := ⟨⟨by decide +kernel, by decide +kernel⟩, List.mem_of_getElem? (i := 842) (by decide +kernel), List.mem_of_getElem? (i := 1069) (by decide +kernel), List.mem_of_getElem? (i := 1070) (by decide +kernel)⟩
theorem lw_p36 : lw_okq (⟨"DepotMarchModel", "signed", "()Z"⟩, 48) := ⟨⟨by decide +kernel, by decide +kernel⟩, List.mem_of_getElem? (i := 842) (by decide +kernel), List.mem_of_getElem? (i := 1073) (by decide +kernel), List.mem_of_getElem? (i := 1074) (by decide +kernel)⟩
theorem lw_p37 : lw_okq (⟨"DepotMarchModel", "atom", "()Z"⟩, 48) := ⟨⟨by decide +kernel, by decide +kernel⟩, List.mem_of_getElem? (i := 842) (by decide +kernel), List.mem_of_getElem? (i := 1077) (by decide +kernel), List.mem_of_getElem? (i := 1078) (by decide +kernel)⟩
theorem lw_p38 : lw_okq (⟨"DepotMarchModel", "chosen", "()Z"⟩, 48) := ⟨⟨by decide +kernel, by decide +kernel⟩, List.mem_of_getElem? (i := 842) (by decide +kernel), List.mem_of_getElem? (i := 1081) (by decide +kernel), List.mem_of_getElem? (i := 1082) (by decide +kernel)⟩
theorem lw_p39 : lw_okq (⟨"DepotMarchModel", "block", "()Z"⟩, 48) := ⟨⟨by decide +kernel, by decide +kernel⟩, List.mem_of_getElem? (i := 842) (by decide +kernel), List.mem_of_getElem? (i := 1085) (by decide +kernel), List.mem_of_getElem? (i := 1086) (by decide +kernel)⟩
theorem lw_p40 : lw_okq (⟨"DepotMarchModel", "isWord", "(I)Z"⟩, 48) := ⟨⟨by decide +kernel, by decide +kernel⟩, List.mem_of_getElem? (i := 842) (by decide +kernel), List.mem_of_getElem? (i := 1089) (by decide +kernel), List.mem_of_getElem? (i := 1090) (by decide +kernel)⟩
theorem lw_p41 : lw_okq (⟨"DepotMarchModel", "looped", "()Z"⟩, 48) := ⟨⟨by decide +kernel, by decide +kernel⟩, List.mem_of_getElem? (i := 842) (by decide +kernel), List.mem_of_getElem? (i := 1093) (by decide +kernel), List.mem_of_getElem? (i := 1094) (by decide +kernel)⟩
theorem lw_p42 : lw_okq (⟨"DepotMarchModel", "append", "(II)V"⟩, 48) := ⟨⟨by decide +kernel, by decide +kernel⟩, List.mem_of_getElem? (i := 842) (by decide +kernel), List.mem_of_getElem? (i := 1105) (by decide +kernel), List.mem_of_getElem? (i := 1106) (by decide +kernel)⟩
theorem lw_p43 : lw_okq (⟨"DepotMarchModel", "write", "(IIIII)V"⟩, 48) := ⟨⟨by decide +kernel, by decide +kernel⟩, List.mem_of_getElem? (i := 842) (by decide +kernel), List.mem_of_getElem? (i := 1109) (by decide +kernel), List.mem_of_getElem? (i := 1110) (by decide +kernel)⟩
theorem lw_p44 : lw_okq (⟨"DepotMarchModel", "mayGo", "(I)Z"⟩, 48) := ⟨⟨by decide +kernel, by decide +kernel⟩, List.mem_of_getElem? (i := 842) (by decide +kernel), List.mem_of_getElem? (i := 1121) (by decide +kernel), List.mem_of_getElem? (i := 1122) (by decide +kernel)⟩
theorem lw_p45 : lw_okq (⟨"DepotMarchModel", "oneDay", "()V"⟩, 48) := ⟨⟨by decide +kernel, by decide +kernel⟩, List.mem_of_getElem? (i := 842) (by decide +kernel), List.mem_of_getElem? (i := 1125) (by decide +kernel), List.mem_of_getElem? (i := 1126) (by decide +kernel)⟩
theorem lw_p46 : lw_okq (⟨"DepotMarchModel", "goes", "(I)Z"⟩, 48) := ⟨⟨by decide +kernel, by decide +kernel⟩, List.mem_of_getElem? (i := 842) (by decide +kernel), List.mem_of_getElem? (i := 1129) (by decide +kernel), List.mem_of_getElem? (i := 1130) (by decide +kernel)⟩
theorem lw_p47 : lw_okq (⟨"DepotMarchModel", "takesDay", "(II)Z"⟩, 48) := ⟨⟨by decide +kernel, by decide +kernel⟩, List.mem_of_getElem? (i := 842) (by decide +kernel), List.mem_of_getElem? (i := 1133) (by decide +kernel), List.mem_of_getElem? (i := 1134) (by decide +kernel)⟩
def lw_privs_3 : List (MethodName × Nat) := [(⟨"DepotMarchModel", "isSign", "(I)Z"⟩, 48), (⟨"DepotMarchModel", "expression", "()Z"⟩, 48), (⟨"DepotMarchModel", "sum", "()Z"⟩, 48), (⟨"DepotMarchModel", "product", "()Z"⟩, 48), (⟨"DepotMarchModel", "signed", "()Z"⟩, 48), (⟨"DepotMarchModel", "atom", "()Z"⟩, 48), (⟨"DepotMarchModel", "chosen", "()Z"⟩, 48), (⟨"DepotMarchModel", "block", "()Z"⟩, 48), (⟨"DepotMarchModel", "isWord", "(I)Z"⟩, 48), (⟨"DepotMarchModel", "looped", "()Z"⟩, 48), (⟨"DepotMarchModel", "append", "(II)V"⟩, 48), (⟨"DepotMarchModel", "write", "(IIIII)V"⟩, 48), (⟨"DepotMarchModel", "mayGo", "(I)Z"⟩, 48), (⟨"DepotMarchModel", "oneDay", "()V"⟩, 48), (⟨"DepotMarchModel", "goes", "(I)Z"⟩, 48), (⟨"DepotMarchModel", "takesDay", "(II)Z"⟩, 48)]
theorem lw_r3 : ∀ q ∈ lw_privs_3, lw_okq q := List.forall_mem_cons.mpr ⟨lw_p32, List.forall_mem_cons.mpr ⟨lw_p33, List.forall_mem_cons.mpr ⟨lw_p34, List.forall_mem_cons.mpr ⟨lw_p35, List.forall_mem_cons.mpr ⟨lw_p36, List.forall_mem_cons.mpr ⟨lw_p37, List.forall_mem_cons.mpr ⟨lw_p38, List.forall_mem_cons.mpr ⟨lw_p39, List.forall_mem_cons.mpr ⟨lw_p40, List.forall_mem_cons.mpr ⟨lw_p41, List.forall_mem_cons.mpr ⟨lw_p42, List.forall_mem_cons.mpr ⟨lw_p43, List.forall_mem_cons.mpr ⟨lw_p44, List.forall_mem_cons.mpr ⟨lw_p45, List.forall_mem_cons.mpr ⟨lw_p46, List.forall_mem_cons.mpr ⟨lw_p47, fun _ h => absurd h List.not_mem_nil⟩⟩⟩⟩⟩⟩⟩⟩⟩⟩⟩⟩⟩⟩⟩⟩
theorem lw_p48 : lw_okq (⟨"DepotMarchModel", "isStorm", "()Z"⟩, 48) := ⟨⟨by decide +kernel, by decide +kernel⟩, List.mem_of_getElem? (i := 842) (by decide +kernel), List.mem_of_getElem? (i := 1137) (by decide +kernel), List.mem_of_getElem? (i := 1138) (by decide +kernel)⟩
theorem lw_p49 : lw_okq (⟨"DepotMarchModel", "does", "(III)V"⟩, 48) := ⟨⟨by decide +kernel, by decide +kernel⟩, List.mem_of_getElem? (i := 842) (by decide +kernel), List.mem_of_getElem? (i := 1141) (by decide +kernel), List.mem_of_getElem? (i := 1142) (by decide +kernel)⟩
theorem lw_p50 : lw_okq (⟨"DepotMarchModel", "told", "(II)I"⟩, 48) := ⟨⟨by decide +kernel, by decide +kernel⟩, List.mem_of_getElem? (i := 842) (by decide +kernel), List.mem_of_getElem? (i := 1145) (by decide +kernel), List.mem_of_getElem? (i := 1146) (by decide +kernel)⟩
theorem lw_p51 : lw_okq (⟨"DepotMarchModel", "push", "(I)V"⟩, 48) := ⟨⟨by decide +kernel, by decide +kernel⟩, List.mem_of_getElem? (i := 842) (by decide +kernel), List.mem_of_getElem? (i := 1149) (by decide +kernel), List.mem_of_getElem? (i := 1150) (by decide +kernel)⟩
theorem lw_p52 : lw_okq (⟨"DepotMarchModel", "moves", "(III)V"⟩, 48) := ⟨⟨by decide +kernel, by decide +kernel⟩, List.mem_of_getElem? (i := 842) (by decide +kernel), List.mem_of_getElem? (i := 1153) (by decide +kernel), List.mem_of_getElem? (i := 1154) (by decide +kernel)⟩
theorem lw_p53 : lw_okq (⟨"DepotMarchModel", "lead", "(IIIII)V"⟩, 48) := ⟨⟨by decide +kernel, by decide +kernel⟩, List.mem_of_getElem? (i := 842) (by decide +kernel), List.mem_of_getElem? (i := 1157) (by decide +kernel), List.mem_of_getElem? (i := 1158) (by decide +kernel)⟩
theorem lw_p54 : lw_okq (⟨"DepotMarchModel", "takeFirst", "(I)I"⟩, 48) := ⟨⟨by decide +kernel, by decide +kernel⟩, List.mem_of_getElem? (i := 842) (by decide +kernel), List.mem_of_getElem? (i := 1161) (by decide +kernel), List.mem_of_getElem? (i := 1162) (by decide +kernel)⟩
theorem lw_p55 : lw_okq (⟨"DepotMarchModel", "copy", "(II)V"⟩, 48) := ⟨⟨by decide +kernel, by decide +kernel⟩, List.mem_of_getElem? (i := 842) (by decide +kernel), List.mem_of_getElem? (i := 1172) (by decide +kernel), List.mem_of_getElem? (i := 1173) (by decide +kernel)⟩
theorem lw_p56 : lw_okq (⟨"DepotMarchModel", "lost", "()I"⟩, 48) := ⟨⟨by decide +kernel, by decide +kernel⟩, List.mem_of_getElem? (i := 842) (by decide +kernel), List.mem_of_getElem? (i := 1179) (by decide +kernel), List.mem_of_getElem? (i := 1180) (by decide +kernel)⟩
theorem lw_p57 : lw_okq (⟨"DepotMarchModel", "stored", "()I"⟩, 48) := ⟨⟨by decide +kernel, by decide +kernel⟩, List.mem_of_getElem? (i := 842) (by decide +kernel), List.mem_of_getElem? (i := 1183) (by decide +kernel), List.mem_of_getElem? (i := 1184) (by decide +kernel)⟩
theorem lw_p58 : lw_okq (⟨"DepotMarchModel", "isOver", "(I)Z"⟩, 48) := ⟨⟨by decide +kernel, by decide +kernel⟩, List.mem_of_getElem? (i := 842) (by decide +kernel), List.mem_of_getElem? (i := 1191) (by decide +kernel), List.mem_of_getElem? (i := 1192) (by decide +kernel)⟩
theorem lw_p59 : lw_okq (⟨"DepotMarchModel", "lies", "(III)I"⟩, 48) := ⟨⟨by decide +kernel, by decide +kernel⟩, List.mem_of_getElem? (i := 842) (by decide +kernel), List.mem_of_getElem? (i := 1203) (by decide +kernel), List.mem_of_getElem? (i := 1204) (by decide +kernel)⟩
def lw_privs_4 : List (MethodName × Nat) := [(⟨"DepotMarchModel", "isStorm", "()Z"⟩, 48), (⟨"DepotMarchModel", "does", "(III)V"⟩, 48), (⟨"DepotMarchModel", "told", "(II)I"⟩, 48), (⟨"DepotMarchModel", "push", "(I)V"⟩, 48), (⟨"DepotMarchModel", "moves", "(III)V"⟩, 48), (⟨"DepotMarchModel", "lead", "(IIIII)V"⟩, 48), (⟨"DepotMarchModel", "takeFirst", "(I)I"⟩, 48), (⟨"DepotMarchModel", "copy", "(II)V"⟩, 48), (⟨"DepotMarchModel", "lost", "()I"⟩, 48), (⟨"DepotMarchModel", "stored", "()I"⟩, 48), (⟨"DepotMarchModel", "isOver", "(I)Z"⟩, 48), (⟨"DepotMarchModel", "lies", "(III)I"⟩, 48)]
theorem lw_r4 : ∀ q ∈ lw_privs_4, lw_okq q := List.forall_mem_cons.mpr ⟨lw_p48, List.forall_mem_cons.mpr ⟨lw_p49, List.forall_mem_cons.mpr ⟨lw_p50, List.forall_mem_cons.mpr ⟨lw_p51, List.forall_mem_cons.mpr ⟨lw_p52, List.forall_mem_cons.mpr ⟨lw_p53, List.forall_mem_cons.mpr ⟨lw_p54, List.forall_mem_cons.mpr ⟨lw_p55, List.forall_mem_cons.mpr ⟨lw_p56, List.forall_mem_cons.mpr ⟨lw_p57, List.forall_mem_cons.mpr ⟨lw_p58, List.forall_mem_cons.mpr ⟨lw_p59, fun _ h => absurd h List.not_mem_nil⟩⟩⟩⟩⟩⟩⟩⟩⟩⟩⟩⟩
def lw_privs : List (MethodName × Nat) := lw_privs_1 ++ (lw_privs_2 ++ (lw_privs_3 ++ (lw_privs_4)))
def lw_tbl : List Cond := k2_sels lw_privs ++ tables_1
theorem lw_privs_ok : ∀ q ∈ lw_privs, lw_okq q := by
  show ∀ q ∈ lw_privs_1 ++ (lw_privs_2 ++ (lw_privs_3 ++ (lw_privs_4))), lw_okq q
  exact List.forall_mem_append.mpr ⟨lw_r1, List.forall_mem_append.mpr ⟨lw_r2, List.forall_mem_append.mpr ⟨lw_r3, lw_r4⟩⟩⟩
end
section
theorem goodIn_r {big : List Cond} (ws : List Cond) (ps : List Nat) (hp : ws = ps.filterMap (fun i => big[i]?)) (h : ws.all goodWord = true) : GoodIn big ws := by
  intro w hw
  have h1 := List.all_eq_true.mp h w hw
  rw [hp] at hw
  obtain ⟨i, -, hi⟩ := List.mem_filterMap.mp hw
  have hm : w ∈ big := by first | exact List.mem_of_getElem? hi | exact List.getElem?_mem hi
  exact ⟨hm, good_of_word h1⟩
theorem goodIn_app {big a b : List Cond} (ha : GoodIn big a) (hb : GoodIn big b) : GoodIn big (a ++ b) := fun w h => (List.mem_append.mp h).elim (ha w) (hb w)
theorem goodIn_ca {big a b : List Cond} {c : Cond} (ha : GoodIn big (c :: a)) (hb : GoodIn big b) : GoodIn big (c :: (a ++ b)) := fun w h => (List.mem_cons.mp h).elim (fun e => ha w (List.mem_cons.mpr (Or.inl e))) (fun h => (List.mem_append.mp h).elim (fun h => ha w (List.mem_cons.mpr (Or.inr h))) (hb w))
theorem goodIn_sub {big ws : List Cond} (hm : ∀ w ∈ ws, w ∈ big) (h : ws.all goodWord = true) : GoodIn big ws := fun w hw => ⟨hm w hw, good_of_word (List.all_eq_true.mp h w hw)⟩
def RX0 : String := "DepotMarch$Book"
def TX0 : u_T := fun k => match k with
  | 0 => ("DepotMarch$Book", "lines", "I", false)
  | _ => ("DepotMarch$Book", "numbers", "[I", true)
def tyX0 : Nat → FieldType := fun k => match k with
  | 0 => .int
  | _ => .array .int
abbrev wsX00 : List Cond := u_ws RX0 TX0 2
theorem nmX0 : ∀ a, a < 2 → ∀ b, b < 2 → a ≠ b → (TX0 a).2.1 ≠ (TX0 b).2.1 := by decide +kernel
theorem tyX0_ok : ∀ k, k < 2 → parseFieldDescriptor (TX0 k).2.2.1 = some (tyX0 k) := by decide +kernel
abbrev cX0_init : ByteArray := prog_2_method_1_code
def yX0_init : MethodName := ⟨RX0, "<init>", "()V"⟩
abbrev cX0_copy : ByteArray := prog_2_method_2_code
def yX0_copy : MethodName := ⟨RX0, "copy", "(LDepotMarch$Book;)V"⟩
abbrev cX0_kept : ByteArray := prog_2_method_3_code
def yX0_kept : MethodName := ⟨RX0, "kept", "()I"⟩
abbrev cX0_write : ByteArray := prog_2_method_4_code
def yX0_write : MethodName := ⟨RX0, "write", "(IIIIII)V"⟩
abbrev cX0_number : ByteArray := prog_2_method_5_code
def yX0_number : MethodName := ⟨RX0, "number", "(II)I"⟩
def RX1 : String := "DepotMarch$Guide"
def TX1 : u_T := fun k => match k with
  | 0 => ("DepotMarch$Guide", "stack", "[I", true)
  | 1 => ("DepotMarch$Guide", "height", "I", false)
  | _ => ("DepotMarch$Guide", "begun", "I", false)
def tyX1 : Nat → FieldType := fun k => match k with
  | 0 => .array .int
  | 1 => .int
  | _ => .int
abbrev wsX10 : List Cond := u_ws RX1 TX1 3
theorem nmX1 : ∀ a, a < 3 → ∀ b, b < 3 → a ≠ b → (TX1 a).2.1 ≠ (TX1 b).2.1 := by decide +kernel
theorem tyX1_ok : ∀ k, k < 3 → parseFieldDescriptor (TX1 k).2.2.1 = some (tyX1 k) := by decide +kernel
abbrev cX1_init : ByteArray := prog_3_method_1_code
def yX1_init : MethodName := ⟨RX1, "<init>", "()V"⟩
abbrev cX1_passDay : ByteArray := prog_3_method_2_code
def yX1_passDay : MethodName := ⟨RX1, "passDay", "(LDepotMarch$World;)V"⟩
abbrev cX1_walk : ByteArray := prog_3_method_3_code
def yX1_walk : MethodName := ⟨RX1, "walk", "(LDepotMarch$World;LDepotMarch$Party;)V"⟩
abbrev cX1_isSign : ByteArray := prog_3_method_4_code
def yX1_isSign : MethodName := ⟨RX1, "isSign", "(I)Z"⟩
abbrev cX1_act : ByteArray := prog_3_method_5_code
def yX1_act : MethodName := ⟨RX1, "act", "(LDepotMarch$World;LDepotMarch$Party;II)Z"⟩
abbrev cX1_counts : ByteArray := prog_3_method_6_code
def yX1_counts : MethodName := ⟨RX1, "counts", "(LDepotMarch$Party;)Z"⟩
abbrev cX1_go : ByteArray := prog_3_method_7_code
def yX1_go : MethodName := ⟨RX1, "go", "(LDepotMarch$World;LDepotMarch$Party;I)V"⟩
abbrev cX1_valueOf : ByteArray := prog_3_method_8_code
def yX1_valueOf : MethodName := ⟨RX1, "valueOf", "(LDepotMarch$World;LDepotMarch$Party;II)I"⟩
abbrev cX1_combine : ByteArray := prog_3_method_9_code
def yX1_combine : MethodName := ⟨RX1, "combine", "(I)V"⟩
abbrev cX1_result : ByteArray := prog_3_method_10_code
def yX1_result : MethodName := ⟨RX1, "result", "(III)I"⟩
abbrev cX1_push : ByteArray := prog_3_method_11_code
def yX1_push : MethodName := ⟨RX1, "push", "(I)V"⟩
abbrev cX1_pop : ByteArray := prog_3_method_12_code
def yX1_pop : MethodName := ⟨RX1, "pop", "()I"⟩
def RX2 : String := "DepotMarch$Party"
def TX2 : u_T := fun k => match k with
  | 0 => ("DepotMarch$Party", "number", "I", true)
  | 1 => ("DepotMarch$Party", "men", "I", false)
  | 2 => ("DepotMarch$Party", "carry", "I", false)
  | 3 => ("DepotMarch$Party", "camp", "I", false)
  | 4 => ("DepotMarch$Party", "hunger", "I", false)
  | 5 => ("DepotMarch$Party", "stayed", "I", false)
  | 6 => ("DepotMarch$Party", "counted", "I", false)
  | 7 => ("DepotMarch$Party", "at", "I", false)
  | 8 => ("DepotMarch$Party", "steps", "[I", false)
  | 9 => ("DepotMarch$Party", "names", "[I", true)
  | _ => ("DepotMarch$Party", "eaten", "[I", true)
def tyX2 : Nat → FieldType := fun k => match k with
  | 0 => .int
  | 1 => .int
  | 2 => .int
  | 3 => .int
  | 4 => .int
  | 5 => .int
  | 6 => .int
  | 7 => .int
  | 8 => .array .int
  | 9 => .array .int
  | _ => .array .int
abbrev wsX20 : List Cond := u_ws RX2 TX2 11
theorem nmX2 : ∀ a, a < 11 → ∀ b, b < 11 → a ≠ b → (TX2 a).2.1 ≠ (TX2 b).2.1 := by decide +kernel
theorem tyX2_ok : ∀ k, k < 11 → parseFieldDescriptor (TX2 k).2.2.1 = some (tyX2 k) := by decide +kernel
abbrev cX2_init : ByteArray := prog_4_method_1_code
def yX2_init : MethodName := ⟨RX2, "<init>", "(I)V"⟩
abbrev cX2_make : ByteArray := prog_4_method_2_code
def yX2_make : MethodName := ⟨RX2, "make", "(II)V"⟩
abbrev cX2_copy : ByteArray := prog_4_method_3_code
def yX2_copy : MethodName := ⟨RX2, "copy", "(LDepotMarch$Party;)V"⟩
abbrev cX2_begin : ByteArray := prog_4_method_4_code
def yX2_begin : MethodName := ⟨RX2, "begin", "([I)V"⟩
abbrev cX2_row : ByteArray := prog_4_method_5_code
def yX2_row : MethodName := ⟨RX2, "row", "()I"⟩
abbrev cX2_isLost : ByteArray := prog_4_method_6_code
def yX2_isLost : MethodName := ⟨RX2, "isLost", "()Z"⟩
abbrev cX2_isOver : ByteArray := prog_4_method_7_code
def yX2_isOver : MethodName := ⟨RX2, "isOver", "()Z"⟩
abbrev cX2_isJump : ByteArray := prog_4_method_8_code
def yX2_isJump : MethodName := ⟨RX2, "isJump", "(I)Z"⟩
abbrev cX2_nameOf : ByteArray := prog_4_method_9_code
def yX2_nameOf : MethodName := ⟨RX2, "nameOf", "(I)I"⟩
abbrev cX2_setName : ByteArray := prog_4_method_10_code
def yX2_setName : MethodName := ⟨RX2, "setName", "(II)V"⟩
abbrev cX2_eat : ByteArray := prog_4_method_11_code
def yX2_eat : MethodName := ⟨RX2, "eat", "(II)V"⟩
abbrev cX2_ateOf : ByteArray := prog_4_method_12_code
def yX2_ateOf : MethodName := ⟨RX2, "ateOf", "(I)I"⟩
abbrev cX2_ate : ByteArray := prog_4_method_13_code
def yX2_ate : MethodName := ⟨RX2, "ate", "()I"⟩
def RX3 : String := "DepotMarch$Reader"
def TX3 : u_T := fun k => match k with
  | 0 => ("DepotMarch$Reader", "fault", "I", false)
  | 1 => ("DepotMarch$Reader", "faultPlace", "I", false)
  | 2 => ("DepotMarch$Reader", "statements", "I", false)
  | 3 => ("DepotMarch$Reader", "tokens", "LDepotMarch$Tokens;", true)
  | 4 => ("DepotMarch$Reader", "at", "I", false)
  | 5 => ("DepotMarch$Reader", "placeTooMany", "I", false)
  | 6 => ("DepotMarch$Reader", "steps", "[I", true)
  | _ => ("DepotMarch$Reader", "size", "I", false)
def tyX3 : Nat → FieldType := fun k => match k with
  | 0 => .int
  | 1 => .int
  | 2 => .int
  | 3 => .object "DepotMarch$Tokens"
  | 4 => .int
  | 5 => .int
  | 6 => .array .int
  | _ => .int
abbrev wsX30 : List Cond := u_ws RX3 TX3 8
theorem nmX3 : ∀ a, a < 8 → ∀ b, b < 8 → a ≠ b → (TX3 a).2.1 ≠ (TX3 b).2.1 := by decide +kernel
theorem tyX3_ok : ∀ k, k < 8 → parseFieldDescriptor (TX3 k).2.2.1 = some (tyX3 k) := by decide +kernel
abbrev cX3_init : ByteArray := prog_5_method_1_code
def yX3_init : MethodName := ⟨RX3, "<init>", "()V"⟩
abbrev cX3_read : ByteArray := prog_5_method_2_code
def yX3_read : MethodName := ⟨RX3, "read", "([II)V"⟩
abbrev cX3_steps : ByteArray := prog_5_method_3_code
def yX3_steps : MethodName := ⟨RX3, "steps", "()[I"⟩
abbrev cX3_list : ByteArray := prog_5_method_4_code
def yX3_list : MethodName := ⟨RX3, "list", "(I)Z"⟩
abbrev cX3_isStatement : ByteArray := prog_5_method_5_code
def yX3_isStatement : MethodName := ⟨RX3, "isStatement", "(I)Z"⟩
abbrev cX3_statement : ByteArray := prog_5_method_6_code
def yX3_statement : MethodName := ⟨RX3, "statement", "(I)Z"⟩
abbrev cX3_closed : ByteArray := prog_5_method_7_code
def yX3_closed : MethodName := ⟨RX3, "closed", "(II)Z"⟩
abbrev cX3_choice : ByteArray := prog_5_method_8_code
def yX3_choice : MethodName := ⟨RX3, "choice", "(I)Z"⟩
abbrev cX3_loop : ByteArray := prog_5_method_9_code
def yX3_loop : MethodName := ⟨RX3, "loop", "(II)Z"⟩
abbrev cX3_block : ByteArray := prog_5_method_10_code
def yX3_block : MethodName := ⟨RX3, "block", "(I)Z"⟩
abbrev cX3_chain : ByteArray := prog_5_method_11_code
def yX3_chain : MethodName := ⟨RX3, "chain", "(II)Z"⟩
abbrev cX3_levelOf : ByteArray := prog_5_method_12_code
def yX3_levelOf : MethodName := ⟨RX3, "levelOf", "(I)I"⟩
abbrev cX3_operand : ByteArray := prog_5_method_13_code
def yX3_operand : MethodName := ⟨RX3, "operand", "(I)Z"⟩
abbrev cX3_expect : ByteArray := prog_5_method_14_code
def yX3_expect : MethodName := ⟨RX3, "expect", "(I)Z"⟩
abbrev cX3_emit : ByteArray := prog_5_method_15_code
def yX3_emit : MethodName := ⟨RX3, "emit", "(II)I"⟩
abbrev cX3_aimHere : ByteArray := prog_5_method_16_code
def yX3_aimHere : MethodName := ⟨RX3, "aimHere", "(I)V"⟩
def RX4 : String := "DepotMarch$Rows"
def TX4 : u_T := fun k => match k with
  | 0 => ("DepotMarch$Rows", "first", "[I", true)
  | 1 => ("DepotMarch$Rows", "last", "[I", true)
  | 2 => ("DepotMarch$Rows", "amounts", "[I", true)
  | 3 => ("DepotMarch$Rows", "lotOf", "[I", false)
  | 4 => ("DepotMarch$Rows", "rations", "[I", false)
  | 5 => ("DepotMarch$Rows", "next", "[I", false)
  | 6 => ("DepotMarch$Rows", "used", "I", false)
  | _ => ("DepotMarch$Rows", "free", "I", false)
def tyX4 : Nat → FieldType := fun k => match k with
  | 0 => .array .int
  | 1 => .array .int
  | 2 => .array .int
  | 3 => .array .int
  | 4 => .array .int
  | 5 => .array .int
  | 6 => .int
  | _ => .int
abbrev wsX40 : List Cond := u_ws RX4 TX4 8
theorem nmX4 : ∀ a, a < 8 → ∀ b, b < 8 → a ≠ b → (TX4 a).2.1 ≠ (TX4 b).2.1 := by decide +kernel
theorem tyX4_ok : ∀ k, k < 8 → parseFieldDescriptor (TX4 k).2.2.1 = some (tyX4 k) := by decide +kernel
abbrev cX4_init : ByteArray := prog_6_method_1_code
def yX4_init : MethodName := ⟨RX4, "<init>", "()V"⟩
abbrev cX4_copy : ByteArray := prog_6_method_2_code
def yX4_copy : MethodName := ⟨RX4, "copy", "(LDepotMarch$Rows;)V"⟩
abbrev cX4_amount : ByteArray := prog_6_method_3_code
def yX4_amount : MethodName := ⟨RX4, "amount", "(I)I"⟩
abbrev cX4_amountIn : ByteArray := prog_6_method_4_code
def yX4_amountIn : MethodName := ⟨RX4, "amountIn", "(II)I"⟩
abbrev cX4_amountOf : ByteArray := prog_6_method_5_code
def yX4_amountOf : MethodName := ⟨RX4, "amountOf", "(II)I"⟩
abbrev cX4_firstLot : ByteArray := prog_6_method_6_code
def yX4_firstLot : MethodName := ⟨RX4, "firstLot", "(I)I"⟩
abbrev cX4_add : ByteArray := prog_6_method_7_code
def yX4_add : MethodName := ⟨RX4, "add", "(III)V"⟩
abbrev cX4_freshRun : ByteArray := prog_6_method_8_code
def yX4_freshRun : MethodName := ⟨RX4, "freshRun", "(II)I"⟩
abbrev cX4_drop : ByteArray := prog_6_method_9_code
def yX4_drop : MethodName := ⟨RX4, "drop", "(II)I"⟩
def RX5 : String := "DepotMarch$Tokens"
def TX5 : u_T := fun k => match k with
  | 0 => ("DepotMarch$Tokens", "kinds", "[I", true)
  | 1 => ("DepotMarch$Tokens", "values", "[I", true)
  | 2 => ("DepotMarch$Tokens", "places", "[I", true)
  | _ => ("DepotMarch$Tokens", "size", "I", false)
def tyX5 : Nat → FieldType := fun k => match k with
  | 0 => .array .int
  | 1 => .array .int
  | 2 => .array .int
  | _ => .int
abbrev wsX50 : List Cond := u_ws RX5 TX5 4
theorem nmX5 : ∀ a, a < 4 → ∀ b, b < 4 → a ≠ b → (TX5 a).2.1 ≠ (TX5 b).2.1 := by decide +kernel
theorem tyX5_ok : ∀ k, k < 4 → parseFieldDescriptor (TX5 k).2.2.1 = some (tyX5 k) := by decide +kernel
abbrev cX5_init : ByteArray := prog_7_method_1_code
def yX5_init : MethodName := ⟨RX5, "<init>", "()V"⟩
abbrev cX5_split : ByteArray := prog_7_method_2_code
def yX5_split : MethodName := ⟨RX5, "split", "([II)V"⟩
abbrev cX5_kind : ByteArray := prog_7_method_3_code
def yX5_kind : MethodName := ⟨RX5, "kind", "(I)I"⟩
abbrev cX5_value : ByteArray := prog_7_method_4_code
def yX5_value : MethodName := ⟨RX5, "value", "(I)I"⟩
abbrev cX5_place : ByteArray := prog_7_method_5_code
def yX5_place : MethodName := ⟨RX5, "place", "(I)I"⟩
abbrev cX5_put : ByteArray := prog_7_method_6_code
def yX5_put : MethodName := ⟨RX5, "put", "(III)V"⟩
abbrev cX5_pass : ByteArray := prog_7_method_7_code
def yX5_pass : MethodName := ⟨RX5, "pass", "([III)I"⟩
abbrev cX5_isLetter : ByteArray := prog_7_method_8_code
def yX5_isLetter : MethodName := ⟨RX5, "isLetter", "(I)Z"⟩
abbrev cX5_isDigit : ByteArray := prog_7_method_9_code
def yX5_isDigit : MethodName := ⟨RX5, "isDigit", "(I)Z"⟩
abbrev cX5_numberIn : ByteArray := prog_7_method_10_code
def yX5_numberIn : MethodName := ⟨RX5, "numberIn", "([III)I"⟩
abbrev cX5_wordKind : ByteArray := prog_7_method_11_code
def yX5_wordKind : MethodName := ⟨RX5, "wordKind", "([III)I"⟩
def RX6 : String := "DepotMarch$World"
def TX6 : u_T := fun k => match k with
  | 0 => ("DepotMarch$World", "day", "I", false)
  | 1 => ("DepotMarch$World", "lots", "I", false)
  | 2 => ("DepotMarch$World", "parties", "I", false)
  | 3 => ("DepotMarch$World", "rows", "LDepotMarch$Rows;", true)
  | 4 => ("DepotMarch$World", "book", "LDepotMarch$Book;", true)
  | 5 => ("DepotMarch$World", "storms", "[Z", true)
  | 6 => ("DepotMarch$World", "letters", "[I", true)
  | 7 => ("DepotMarch$World", "lotRations", "[I", true)
  | _ => ("DepotMarch$World", "party", "[LDepotMarch$Party;", true)
def tyX6 : Nat → FieldType := fun k => match k with
  | 0 => .int
  | 1 => .int
  | 2 => .int
  | 3 => .object "DepotMarch$Rows"
  | 4 => .object "DepotMarch$Book"
  | 5 => .array .boolean
  | 6 => .array .int
  | 7 => .array .int
  | _ => .array (.object "DepotMarch$Party")
abbrev wsX60 : List Cond := u_ws RX6 TX6 9
theorem nmX6 : ∀ a, a < 9 → ∀ b, b < 9 → a ≠ b → (TX6 a).2.1 ≠ (TX6 b).2.1 := by decide +kernel
theorem tyX6_ok : ∀ k, k < 9 → parseFieldDescriptor (TX6 k).2.2.1 = some (tyX6 k) := by decide +kernel
abbrev cX6_init : ByteArray := prog_8_method_1_code
def yX6_init : MethodName := ⟨RX6, "<init>", "()V"⟩
abbrev cX6_copy : ByteArray := prog_8_method_2_code
def yX6_copy : MethodName := ⟨RX6, "copy", "(LDepotMarch$World;)V"⟩
abbrev cX6_partyOf : ByteArray := prog_8_method_3_code
def yX6_partyOf : MethodName := ⟨RX6, "partyOf", "(I)LDepotMarch$Party;"⟩
abbrev cX6_makeParty : ByteArray := prog_8_method_4_code
def yX6_makeParty : MethodName := ⟨RX6, "makeParty", "(II)I"⟩
abbrev cX6_makeLot : ByteArray := prog_8_method_5_code
def yX6_makeLot : MethodName := ⟨RX6, "makeLot", "(I)I"⟩
abbrev cX6_setStorm : ByteArray := prog_8_method_6_code
def yX6_setStorm : MethodName := ⟨RX6, "setStorm", "(IZ)Z"⟩
abbrev cX6_isStorm : ByteArray := prog_8_method_7_code
def yX6_isStorm : MethodName := ⟨RX6, "isStorm", "()Z"⟩
abbrev cX6_canPass : ByteArray := prog_8_method_8_code
def yX6_canPass : MethodName := ⟨RX6, "canPass", "(I)Z"⟩
abbrev cX6_leaveLetter : ByteArray := prog_8_method_9_code
def yX6_leaveLetter : MethodName := ⟨RX6, "leaveLetter", "(II)V"⟩
abbrev cX6_letterAt : ByteArray := prog_8_method_10_code
def yX6_letterAt : MethodName := ⟨RX6, "letterAt", "(I)I"⟩
abbrev cX6_room : ByteArray := prog_8_method_11_code
def yX6_room : MethodName := ⟨RX6, "room", "(LDepotMarch$Party;)I"⟩
abbrev cX6_move : ByteArray := prog_8_method_12_code
def yX6_move : MethodName := ⟨RX6, "move", "(ILDepotMarch$Party;I)V"⟩
abbrev cX6_meal : ByteArray := prog_8_method_13_code
def yX6_meal : MethodName := ⟨RX6, "meal", "(LDepotMarch$Party;)V"⟩
abbrev cX6_isHungryOfThoseIn : ByteArray := prog_8_method_14_code
def yX6_isHungryOfThoseIn : MethodName := ⟨RX6, "isHungryOfThoseIn", "(LDepotMarch$World;)Z"⟩
abbrev cX6_lostParties : ByteArray := prog_8_method_15_code
def yX6_lostParties : MethodName := ⟨RX6, "lostParties", "()I"⟩
abbrev cX6_partiesAt : ByteArray := prog_8_method_16_code
def yX6_partiesAt : MethodName := ⟨RX6, "partiesAt", "(I)I"⟩
abbrev cX6_landed : ByteArray := prog_8_method_17_code
def yX6_landed : MethodName := ⟨RX6, "landed", "()I"⟩
abbrev cX6_eaten : ByteArray := prog_8_method_18_code
def yX6_eaten : MethodName := ⟨RX6, "eaten", "()I"⟩
abbrev cX6_inStores : ByteArray := prog_8_method_19_code
def yX6_inStores : MethodName := ⟨RX6, "inStores", "()I"⟩
abbrev cX6_carried : ByteArray := prog_8_method_20_code
def yX6_carried : MethodName := ⟨RX6, "carried", "()I"⟩
abbrev cX6_landedOf : ByteArray := prog_8_method_21_code
def yX6_landedOf : MethodName := ⟨RX6, "landedOf", "(I)I"⟩
abbrev cX6_eatenOf : ByteArray := prog_8_method_22_code
def yX6_eatenOf : MethodName := ⟨RX6, "eatenOf", "(I)I"⟩
abbrev cX6_eatenOf_ : ByteArray := prog_8_method_23_code
def yX6_eatenOf_ : MethodName := ⟨RX6, "eatenOf", "(II)I"⟩
abbrev cX6_sumOf : ByteArray := prog_8_method_24_code
def yX6_sumOf : MethodName := ⟨RX6, "sumOf", "(III)I"⟩
def RX7 : String := "DepotMarch"
def TX7 : u_T := fun k => match k with
  | 0 => ("DepotMarch", "tape", "[I", true)
  | 1 => ("DepotMarch", "tapeLength", "I", false)
  | 2 => ("DepotMarch", "reader", "LDepotMarch$Reader;", true)
  | 3 => ("DepotMarch", "guide", "LDepotMarch$Guide;", true)
  | 4 => ("DepotMarch", "world", "LDepotMarch$World;", true)
  | 5 => ("DepotMarch", "images", "[LDepotMarch$World;", true)
  | _ => ("DepotMarch", "trial", "LDepotMarch$World;", false)
def tyX7 : Nat → FieldType := fun k => match k with
  | 0 => .array .int
  | 1 => .int
  | 2 => .object "DepotMarch$Reader"
  | 3 => .object "DepotMarch$Guide"
  | 4 => .object "DepotMarch$World"
  | 5 => .array (.object "DepotMarch$World")
  | _ => .object "DepotMarch$World"
abbrev wsX70 : List Cond := u_ws RX7 TX7 7
theorem nmX7 : ∀ a, a < 7 → ∀ b, b < 7 → a ≠ b → (TX7 a).2.1 ≠ (TX7 b).2.1 := by decide +kernel
theorem tyX7_ok : ∀ k, k < 7 → parseFieldDescriptor (TX7 k).2.2.1 = some (tyX7 k) := by decide +kernel
abbrev cX7_init : ByteArray := prog_1_method_1_code
def yX7_init : MethodName := ⟨RX7, "<init>", "()V"⟩
abbrev cX7_feed : ByteArray := prog_1_method_2_code
def yX7_feed : MethodName := ⟨RX7, "feed", "(IIIII)I"⟩
abbrev cX7_end : ByteArray := prog_1_method_3_code
def yX7_end : MethodName := ⟨RX7, "end", "(I)I"⟩
abbrev cX7_party : ByteArray := prog_1_method_4_code
def yX7_party : MethodName := ⟨RX7, "party", "(II)I"⟩
abbrev cX7_orders : ByteArray := prog_1_method_5_code
def yX7_orders : MethodName := ⟨RX7, "orders", "(I)I"⟩
abbrev cX7_fault : ByteArray := prog_1_method_6_code
def yX7_fault : MethodName := ⟨RX7, "fault", "(I)I"⟩
abbrev cX7_land : ByteArray := prog_1_method_7_code
def yX7_land : MethodName := ⟨RX7, "land", "(I)I"⟩
abbrev cX7_storm : ByteArray := prog_1_method_8_code
def yX7_storm : MethodName := ⟨RX7, "storm", "(IZ)Z"⟩
abbrev cX7_days : ByteArray := prog_1_method_9_code
def yX7_days : MethodName := ⟨RX7, "days", "(I)I"⟩
abbrev cX7_ahead : ByteArray := prog_1_method_10_code
def yX7_ahead : MethodName := ⟨RX7, "ahead", "(II)I"⟩
abbrev cX7_tell : ByteArray := prog_1_method_11_code
def yX7_tell : MethodName := ⟨RX7, "tell", "(II)I"⟩
abbrev cX7_camp : ByteArray := prog_1_method_12_code
def yX7_camp : MethodName := ⟨RX7, "camp", "(II)I"⟩
abbrev cX7_lot : ByteArray := prog_1_method_13_code
def yX7_lot : MethodName := ⟨RX7, "lot", "(II)I"⟩
abbrev cX7_line : ByteArray := prog_1_method_14_code
def yX7_line : MethodName := ⟨RX7, "line", "(II)I"⟩
abbrev cX7_count : ByteArray := prog_1_method_15_code
def yX7_count : MethodName := ⟨RX7, "count", "(I)I"⟩
abbrev cX7_need : ByteArray := prog_1_method_16_code
def yX7_need : MethodName := ⟨RX7, "need", "(II)I"⟩
abbrev cX7_far : ByteArray := prog_1_method_17_code
def yX7_far : MethodName := ⟨RX7, "far", "(II)I"⟩
abbrev cX7_image : ByteArray := prog_1_method_18_code
def yX7_image : MethodName := ⟨RX7, "image", "(I)Z"⟩
abbrev cX7_again : ByteArray := prog_1_method_19_code
def yX7_again : MethodName := ⟨RX7, "again", "(I)Z"⟩
abbrev cX7_putBytes : ByteArray := prog_1_method_20_code
def yX7_putBytes : MethodName := ⟨RX7, "putBytes", "(I)V"⟩
abbrev cX7_isCarryOfNeed : ByteArray := prog_1_method_21_code
def yX7_isCarryOfNeed : MethodName := ⟨RX7, "isCarryOfNeed", "(I)Z"⟩
abbrev cX7_needBehind : ByteArray := prog_1_method_22_code
def yX7_needBehind : MethodName := ⟨RX7, "needBehind", "(II)I"⟩
abbrev cX7_within : ByteArray := prog_1_method_23_code
def yX7_within : MethodName := ⟨RX7, "within", "(II)Z"⟩
abbrev cX7_isValue : ByteArray := prog_1_method_24_code
def yX7_isValue : MethodName := ⟨RX7, "isValue", "(I)Z"⟩
def RX8 : String := "DepotMarchModel"
def TX8 : u_T := fun k => match k with
  | 0 => ("DepotMarchModel", "code", "I", false)
  | 1 => ("DepotMarchModel", "tape", "[B", true)
  | 2 => ("DepotMarchModel", "size", "I", false)
  | 3 => ("DepotMarchModel", "words", "[J", true)
  | 4 => ("DepotMarchModel", "next", "[I", true)
  | 5 => ("DepotMarchModel", "lotOf", "[B", true)
  | 6 => ("DepotMarchModel", "rations", "[I", true)
  | 7 => ("DepotMarchModel", "lots", "[I", true)
  | 8 => ("DepotMarchModel", "lotSize", "[I", true)
  | 9 => ("DepotMarchModel", "first", "[I", true)
  | 10 => ("DepotMarchModel", "latest", "[I", true)
  | 11 => ("DepotMarchModel", "count", "[I", true)
  | 12 => ("DepotMarchModel", "eaten", "[I", true)
  | 13 => ("DepotMarchModel", "day", "[I", true)
  | 14 => ("DepotMarchModel", "storms", "[Z", true)
  | 15 => ("DepotMarchModel", "letter", "[I", true)
  | 16 => ("DepotMarchModel", "parties", "[I", true)
  | 17 => ("DepotMarchModel", "men", "[I", true)
  | 18 => ("DepotMarchModel", "carry", "[I", true)
  | 19 => ("DepotMarchModel", "campOf", "[I", true)
  | 20 => ("DepotMarchModel", "hunger", "[I", true)
  | 21 => ("DepotMarchModel", "rested", "[I", true)
  | 22 => ("DepotMarchModel", "counted", "[I", true)
  | 23 => ("DepotMarchModel", "at", "[I", true)
  | 24 => ("DepotMarchModel", "steps", "[I", true)
  | 25 => ("DepotMarchModel", "names", "[I", true)
  | 26 => ("DepotMarchModel", "op", "[B", true)
  | 27 => ("DepotMarchModel", "val", "[I", true)
  | 28 => ("DepotMarchModel", "lines", "[I", true)
  | 29 => ("DepotMarchModel", "book", "[I", true)
  | 30 => ("DepotMarchModel", "place", "I", false)
  | 31 => ("DepotMarchModel", "ahead0", "I", false)
  | 32 => ("DepotMarchModel", "length", "I", false)
  | 33 => ("DepotMarchModel", "sort", "I", false)
  | 34 => ("DepotMarchModel", "value", "I", false)
  | 35 => ("DepotMarchModel", "fault", "I", false)
  | 36 => ("DepotMarchModel", "faultPlace", "I", false)
  | 37 => ("DepotMarchModel", "openE", "I", false)
  | 38 => ("DepotMarchModel", "openBlocks", "I", false)
  | 39 => ("DepotMarchModel", "made", "I", false)
  | 40 => ("DepotMarchModel", "orders", "I", false)
  | 41 => ("DepotMarchModel", "second", "I", false)
  | 42 => ("DepotMarchModel", "secondPlace", "I", false)
  | 43 => ("DepotMarchModel", "newOp", "[B", true)
  | 44 => ("DepotMarchModel", "newVal", "[I", true)
  | 45 => ("DepotMarchModel", "pile", "[I", true)
  | 46 => ("DepotMarchModel", "high", "I", false)
  | _ => ("DepotMarchModel", "has", "[Z", true)
def tyX8 : Nat → FieldType := fun k => match k with
  | 0 => .int
  | 1 => .array .byte
  | 2 => .int
  | 3 => .array .long
  | 4 => .array .int
  | 5 => .array .byte
  | 6 => .array .int
  | 7 => .array .int
  | 8 => .array .int
  | 9 => .array .int
  | 10 => .array .int
  | 11 => .array .int
  | 12 => .array .int
  | 13 => .array .int
  | 14 => .array .boolean
  | 15 => .array .int
  | 16 => .array .int
  | 17 => .array .int
  | 18 => .array .int
  | 19 => .array .int
  | 20 => .array .int
  | 21 => .array .int
  | 22 => .array .int
  | 23 => .array .int
  | 24 => .array .int
  | 25 => .array .int
  | 26 => .array .byte
  | 27 => .array .int
  | 28 => .array .int
  | 29 => .array .int
  | 30 => .int
  | 31 => .int
  | 32 => .int
  | 33 => .int
  | 34 => .int
  | 35 => .int
  | 36 => .int
  | 37 => .int
  | 38 => .int
  | 39 => .int
  | 40 => .int
  | 41 => .int
  | 42 => .int
  | 43 => .array .byte
  | 44 => .array .int
  | 45 => .array .int
  | 46 => .int
  | _ => .array .boolean
abbrev wsX80 : List Cond := u_ws RX8 TX8 48
theorem nmX8 : ∀ a, a < 48 → ∀ b, b < 48 → a ≠ b → (TX8 a).2.1 ≠ (TX8 b).2.1 := by decide +kernel
theorem tyX8_ok : ∀ k, k < 48 → parseFieldDescriptor (TX8 k).2.2.1 = some (tyX8 k) := by decide +kernel
abbrev cX8_init : ByteArray := prog_10_method_1_code
def yX8_init : MethodName := ⟨RX8, "<init>", "()V"⟩
abbrev cX8_in : ByteArray := prog_10_method_3_code
def yX8_in : MethodName := ⟨RX8, "in", "(III)Z"⟩
abbrev cX8_moveInts : ByteArray := prog_10_method_4_code
def yX8_moveInts : MethodName := ⟨RX8, "moveInts", "([IIII)V"⟩
abbrev cX8_copy : ByteArray := prog_10_method_5_code
def yX8_copy : MethodName := ⟨RX8, "copy", "(II)V"⟩
abbrev cX8_feed : ByteArray := prog_10_method_6_code
def yX8_feed : MethodName := ⟨RX8, "feed", "(IIIII)I"⟩
abbrev cX8_four : ByteArray := prog_10_method_7_code
def yX8_four : MethodName := ⟨RX8, "four", "(I)V"⟩
abbrev cX8_end : ByteArray := prog_10_method_8_code
def yX8_end : MethodName := ⟨RX8, "end", "(I)I"⟩
abbrev cX8_party : ByteArray := prog_10_method_9_code
def yX8_party : MethodName := ⟨RX8, "party", "(II)I"⟩
abbrev cX8_see : ByteArray := prog_10_method_10_code
def yX8_see : MethodName := ⟨RX8, "see", "()I"⟩
abbrev cX8_isLetter : ByteArray := prog_10_method_11_code
def yX8_isLetter : MethodName := ⟨RX8, "isLetter", "(I)Z"⟩
abbrev cX8_isDigit : ByteArray := prog_10_method_12_code
def yX8_isDigit : MethodName := ⟨RX8, "isDigit", "(I)Z"⟩
abbrev cX8_advance : ByteArray := prog_10_method_13_code
def yX8_advance : MethodName := ⟨RX8, "advance", "()V"⟩
abbrev cX8_takeWord : ByteArray := prog_10_method_14_code
def yX8_takeWord : MethodName := ⟨RX8, "takeWord", "(I)V"⟩
abbrev cX8_isSign : ByteArray := prog_10_method_15_code
def yX8_isSign : MethodName := ⟨RX8, "isSign", "(I)Z"⟩
abbrev cX8_isWord : ByteArray := prog_10_method_16_code
def yX8_isWord : MethodName := ⟨RX8, "isWord", "(I)Z"⟩
abbrev cX8_wrong : ByteArray := prog_10_method_17_code
def yX8_wrong : MethodName := ⟨RX8, "wrong", "()Z"⟩
abbrev cX8_need : ByteArray := prog_10_method_18_code
def yX8_need : MethodName := ⟨RX8, "need", "(I)Z"⟩
abbrev cX8_put : ByteArray := prog_10_method_19_code
def yX8_put : MethodName := ⟨RX8, "put", "(II)I"⟩
abbrev cX8_statement : ByteArray := prog_10_method_20_code
def yX8_statement : MethodName := ⟨RX8, "statement", "()Z"⟩
abbrev cX8_chosen : ByteArray := prog_10_method_21_code
def yX8_chosen : MethodName := ⟨RX8, "chosen", "()Z"⟩
abbrev cX8_looped : ByteArray := prog_10_method_22_code
def yX8_looped : MethodName := ⟨RX8, "looped", "()Z"⟩
abbrev cX8_block : ByteArray := prog_10_method_23_code
def yX8_block : MethodName := ⟨RX8, "block", "()Z"⟩
abbrev cX8_expression : ByteArray := prog_10_method_24_code
def yX8_expression : MethodName := ⟨RX8, "expression", "()Z"⟩
abbrev cX8_sum : ByteArray := prog_10_method_25_code
def yX8_sum : MethodName := ⟨RX8, "sum", "()Z"⟩
abbrev cX8_product : ByteArray := prog_10_method_26_code
def yX8_product : MethodName := ⟨RX8, "product", "()Z"⟩
abbrev cX8_signed : ByteArray := prog_10_method_27_code
def yX8_signed : MethodName := ⟨RX8, "signed", "()Z"⟩
abbrev cX8_atom : ByteArray := prog_10_method_28_code
def yX8_atom : MethodName := ⟨RX8, "atom", "()Z"⟩
abbrev cX8_orders : ByteArray := prog_10_method_29_code
def yX8_orders : MethodName := ⟨RX8, "orders", "(I)I"⟩
abbrev cX8_fault : ByteArray := prog_10_method_30_code
def yX8_fault : MethodName := ⟨RX8, "fault", "(I)I"⟩
abbrev cX8_append : ByteArray := prog_10_method_31_code
def yX8_append : MethodName := ⟨RX8, "append", "(II)V"⟩
abbrev cX8_takeFirst : ByteArray := prog_10_method_32_code
def yX8_takeFirst : MethodName := ⟨RX8, "takeFirst", "(I)I"⟩
abbrev cX8_write : ByteArray := prog_10_method_33_code
def yX8_write : MethodName := ⟨RX8, "write", "(IIIII)V"⟩
abbrev cX8_lead : ByteArray := prog_10_method_34_code
def yX8_lead : MethodName := ⟨RX8, "lead", "(IIIII)V"⟩
abbrev cX8_land : ByteArray := prog_10_method_35_code
def yX8_land : MethodName := ⟨RX8, "land", "(I)I"⟩
abbrev cX8_storm : ByteArray := prog_10_method_36_code
def yX8_storm : MethodName := ⟨RX8, "storm", "(IZ)Z"⟩
abbrev cX8_isStorm : ByteArray := prog_10_method_37_code
def yX8_isStorm : MethodName := ⟨RX8, "isStorm", "()Z"⟩
abbrev cX8_told : ByteArray := prog_10_method_38_code
def yX8_told : MethodName := ⟨RX8, "told", "(II)I"⟩
abbrev cX8_worked : ByteArray := prog_10_method_39_code
def yX8_worked : MethodName := ⟨RX8, "worked", "(III)I"⟩
abbrev cX8_push : ByteArray := prog_10_method_40_code
def yX8_push : MethodName := ⟨RX8, "push", "(I)V"⟩
abbrev cX8_goes : ByteArray := prog_10_method_41_code
def yX8_goes : MethodName := ⟨RX8, "goes", "(I)Z"⟩
abbrev cX8_takesDay : ByteArray := prog_10_method_42_code
def yX8_takesDay : MethodName := ⟨RX8, "takesDay", "(II)Z"⟩
abbrev cX8_does : ByteArray := prog_10_method_43_code
def yX8_does : MethodName := ⟨RX8, "does", "(III)V"⟩
abbrev cX8_moves : ByteArray := prog_10_method_44_code
def yX8_moves : MethodName := ⟨RX8, "moves", "(III)V"⟩
abbrev cX8_oneDay : ByteArray := prog_10_method_45_code
def yX8_oneDay : MethodName := ⟨RX8, "oneDay", "()V"⟩
abbrev cX8_mayGo : ByteArray := prog_10_method_46_code
def yX8_mayGo : MethodName := ⟨RX8, "mayGo", "(I)Z"⟩
abbrev cX8_days : ByteArray := prog_10_method_47_code
def yX8_days : MethodName := ⟨RX8, "days", "(I)I"⟩
abbrev cX8_lost : ByteArray := prog_10_method_48_code
def yX8_lost : MethodName := ⟨RX8, "lost", "()I"⟩
abbrev cX8_stored : ByteArray := prog_10_method_49_code
def yX8_stored : MethodName := ⟨RX8, "stored", "()I"⟩
abbrev cX8_ahead : ByteArray := prog_10_method_50_code
def yX8_ahead : MethodName := ⟨RX8, "ahead", "(II)I"⟩
abbrev cX8_isOver : ByteArray := prog_10_method_51_code
def yX8_isOver : MethodName := ⟨RX8, "isOver", "(I)Z"⟩
abbrev cX8_tell : ByteArray := prog_10_method_52_code
def yX8_tell : MethodName := ⟨RX8, "tell", "(II)I"⟩
abbrev cX8_camp : ByteArray := prog_10_method_53_code
def yX8_camp : MethodName := ⟨RX8, "camp", "(II)I"⟩
abbrev cX8_lies : ByteArray := prog_10_method_54_code
def yX8_lies : MethodName := ⟨RX8, "lies", "(III)I"⟩
abbrev cX8_lot : ByteArray := prog_10_method_55_code
def yX8_lot : MethodName := ⟨RX8, "lot", "(II)I"⟩
abbrev cX8_line : ByteArray := prog_10_method_56_code
def yX8_line : MethodName := ⟨RX8, "line", "(II)I"⟩
abbrev cX8_count : ByteArray := prog_10_method_57_code
def yX8_count : MethodName := ⟨RX8, "count", "(I)I"⟩
abbrev cX8_needed : ByteArray := prog_10_method_58_code
def yX8_needed : MethodName := ⟨RX8, "needed", "(II)I"⟩
abbrev cX8_need_ : ByteArray := prog_10_method_59_code
def yX8_need_ : MethodName := ⟨RX8, "need", "(II)I"⟩
abbrev cX8_far : ByteArray := prog_10_method_60_code
def yX8_far : MethodName := ⟨RX8, "far", "(II)I"⟩
abbrev cX8_image : ByteArray := prog_10_method_61_code
def yX8_image : MethodName := ⟨RX8, "image", "(I)Z"⟩
abbrev cX8_again : ByteArray := prog_10_method_62_code
def yX8_again : MethodName := ⟨RX8, "again", "(I)Z"⟩
def RJ11 : String := "java/lang/Character"
def TJ11 : u_T := fun k => match k with
  | _ => ("", "", "", false)
def tyJ11 : Nat → FieldType := fun k => match k with
  | _ => .int
theorem nmJ11 : ∀ a, a < 0 → ∀ b, b < 0 → a ≠ b → (TJ11 a).2.1 ≠ (TJ11 b).2.1 := by decide +kernel
theorem tyJ11_ok : ∀ k, k < 0 → parseFieldDescriptor (TJ11 k).2.2.1 = some (tyJ11 k) := by decide +kernel
abbrev cJ11_isValidCodePoint_9a6ad : ByteArray := prog_11_method_11_code
def yJ11_isValidCodePoint_9a6ad : MethodName := ⟨RJ11, "isValidCodePoint", "(I)Z"⟩
abbrev cJ11_highSurrogate_5068e : ByteArray := prog_11_method_28_code
def yJ11_highSurrogate_5068e : MethodName := ⟨RJ11, "highSurrogate", "(I)C"⟩
abbrev cJ11_lowSurrogate_5068e : ByteArray := prog_11_method_29_code
def yJ11_lowSurrogate_5068e : MethodName := ⟨RJ11, "lowSurrogate", "(I)C"⟩
def RJx8e188 : String := "java/lang/Cloneable"
def TJx8e188 : u_T := fun k => match k with
  | _ => ("", "", "", false)
def tyJx8e188 : Nat → FieldType := fun k => match k with
  | _ => .int
theorem nmJx8e188 : ∀ a, a < 0 → ∀ b, b < 0 → a ≠ b → (TJx8e188 a).2.1 ≠ (TJx8e188 b).2.1 := by decide +kernel
theorem tyJx8e188_ok : ∀ k, k < 0 → parseFieldDescriptor (TJx8e188 k).2.2.1 = some (tyJx8e188 k) := by decide +kernel
def RJ9 : String := "java/lang/Math"
def TJ9 : u_T := fun k => match k with
  | _ => ("", "", "", false)
def tyJ9 : Nat → FieldType := fun k => match k with
  | _ => .int
theorem nmJ9 : ∀ a, a < 0 → ∀ b, b < 0 → a ≠ b → (TJ9 a).2.1 ≠ (TJ9 b).2.1 := by decide +kernel
theorem tyJ9_ok : ∀ k, k < 0 → parseFieldDescriptor (TJ9 k).2.2.1 = some (tyJ9 k) := by decide +kernel
abbrev cJ9_max_7cf53 : ByteArray := prog_13_method_65_code
def yJ9_max_7cf53 : MethodName := ⟨RJ9, "max", "(II)I"⟩
abbrev cJ9_min_7cf53 : ByteArray := prog_13_method_69_code
def yJ9_min_7cf53 : MethodName := ⟨RJ9, "min", "(II)I"⟩
def RJ0 : String := "java/lang/String"
def TJ0 : u_T := fun k => match k with
  | _ => ("", "", "", false)
def tyJ0 : Nat → FieldType := fun k => match k with
  | _ => .int
theorem nmJ0 : ∀ a, a < 0 → ∀ b, b < 0 → a ≠ b → (TJ0 a).2.1 ≠ (TJ0 b).2.1 := by decide +kernel
theorem tyJ0_ok : ∀ k, k < 0 → parseFieldDescriptor (TJ0 k).2.2.1 = some (tyJ0 k) := by decide +kernel
abbrev cJ0_length_8abf5 : ByteArray := prog_14_method_54_code
def yJ0_length_8abf5 : MethodName := ⟨RJ0, "length", "()I"⟩
abbrev cJ0_charAt_5068e : ByteArray := prog_14_method_56_code
def yJ0_charAt_5068e : MethodName := ⟨RJ0, "charAt", "(I)C"⟩
abbrev cJ0_indexOf_0f7a4 : ByteArray := prog_14_method_79_code
def yJ0_indexOf_0f7a4 : MethodName := ⟨RJ0, "indexOf", "(I)I"⟩
abbrev cJ0_indexOf_7cf53 : ByteArray := prog_14_method_80_code
def yJ0_indexOf_7cf53 : MethodName := ⟨RJ0, "indexOf", "(II)I"⟩
abbrev cJ0_coder_7d493 : ByteArray := prog_14_method_152_code
def yJ0_coder_7d493 : MethodName := ⟨RJ0, "coder", "()B"⟩
abbrev cJ0_isLatin1_aae02 : ByteArray := prog_14_method_154_code
def yJ0_isLatin1_aae02 : MethodName := ⟨RJ0, "isLatin1", "()Z"⟩
abbrev cJ0_checkIndex_df160 : ByteArray := prog_14_method_155_code
def yJ0_checkIndex_df160 : MethodName := ⟨RJ0, "checkIndex", "(II)V"⟩
abbrev cJ0_checkBoundsBeginEnd_23922 : ByteArray := prog_14_method_158_code
def yJ0_checkBoundsBeginEnd_23922 : MethodName := ⟨RJ0, "checkBoundsBeginEnd", "(III)V"⟩
def RJ1 : String := "java/lang/StringLatin1"
def TJ1 : u_T := fun k => match k with
  | _ => ("", "", "", false)
def tyJ1 : Nat → FieldType := fun k => match k with
  | _ => .int
theorem nmJ1 : ∀ a, a < 0 → ∀ b, b < 0 → a ≠ b → (TJ1 a).2.1 ≠ (TJ1 b).2.1 := by decide +kernel
theorem tyJ1_ok : ∀ k, k < 0 → parseFieldDescriptor (TJ1 k).2.2.1 = some (tyJ1 k) := by decide +kernel
abbrev cJ1_charAt_3b067 : ByteArray := prog_15_method_2_code
def yJ1_charAt_3b067 : MethodName := ⟨RJ1, "charAt", "([BI)C"⟩
abbrev cJ1_canEncode_9a6ad : ByteArray := prog_15_method_4_code
def yJ1_canEncode_9a6ad : MethodName := ⟨RJ1, "canEncode", "(I)Z"⟩
abbrev cJ1_indexOf_4cfef : ByteArray := prog_15_method_22_code
def yJ1_indexOf_4cfef : MethodName := ⟨RJ1, "indexOf", "([BIII)I"⟩
abbrev cJ1_indexOfChar_4cfef : ByteArray := prog_15_method_23_code
def yJ1_indexOfChar_4cfef : MethodName := ⟨RJ1, "indexOfChar", "([BIII)I"⟩
def RJ2 : String := "java/lang/StringUTF16"
def TJ2 : u_T := fun k => match k with
  | _ => ("", "", "", false)
def tyJ2 : Nat → FieldType := fun k => match k with
  | _ => .int
theorem nmJ2 : ∀ a, a < 0 → ∀ b, b < 0 → a ≠ b → (TJ2 a).2.1 ≠ (TJ2 b).2.1 := by decide +kernel
theorem tyJ2_ok : ∀ k, k < 0 → parseFieldDescriptor (TJ2 k).2.2.1 = some (tyJ2 k) := by decide +kernel
abbrev cJ2_getChar_3b067 : ByteArray := prog_16_method_5_code
def yJ2_getChar_3b067 : MethodName := ⟨RJ2, "getChar", "([BI)C"⟩
abbrev cJ2_length_9d52b : ByteArray := prog_16_method_6_code
def yJ2_length_9d52b : MethodName := ⟨RJ2, "length", "([B)I"⟩
abbrev cJ2_indexOf_4cfef : ByteArray := prog_16_method_40_code
def yJ2_indexOf_4cfef : MethodName := ⟨RJ2, "indexOf", "([BIII)I"⟩
abbrev cJ2_indexOfChar_4cfef : ByteArray := prog_16_method_47_code
def yJ2_indexOfChar_4cfef : MethodName := ⟨RJ2, "indexOfChar", "([BIII)I"⟩
abbrev cJ2_indexOfCharUnsafe_4cfef : ByteArray := prog_16_method_48_code
def yJ2_indexOfCharUnsafe_4cfef : MethodName := ⟨RJ2, "indexOfCharUnsafe", "([BIII)I"⟩
abbrev cJ2_indexOfSupplementary_4cfef : ByteArray := prog_16_method_49_code
def yJ2_indexOfSupplementary_4cfef : MethodName := ⟨RJ2, "indexOfSupplementary", "([BIII)I"⟩
abbrev cJ2_charAt_3b067 : ByteArray := prog_16_method_83_code
def yJ2_charAt_3b067 : MethodName := ⟨RJ2, "charAt", "([BI)C"⟩
abbrev cJ2_checkIndex_2214a : ByteArray := prog_16_method_91_code
def yJ2_checkIndex_2214a : MethodName := ⟨RJ2, "checkIndex", "(I[B)V"⟩
abbrev cJ2_checkBoundsBeginEnd_d044e : ByteArray := prog_16_method_93_code
def yJ2_checkBoundsBeginEnd_d044e : MethodName := ⟨RJ2, "checkBoundsBeginEnd", "(II[B)V"⟩
def RJ10 : String := "java/lang/System"
def TJ10 : u_T := fun k => match k with
  | _ => ("", "", "", false)
def tyJ10 : Nat → FieldType := fun k => match k with
  | _ => .int
theorem nmJ10 : ∀ a, a < 0 → ∀ b, b < 0 → a ≠ b → (TJ10 a).2.1 ≠ (TJ10 b).2.1 := by decide +kernel
theorem tyJ10_ok : ∀ k, k < 0 → parseFieldDescriptor (TJ10 k).2.2.1 = some (tyJ10 k) := by decide +kernel
def RJ7 : String := "java/util/Arrays"
def TJ7 : u_T := fun k => match k with
  | _ => ("", "", "", false)
def tyJ7 : Nat → FieldType := fun k => match k with
  | _ => .int
theorem nmJ7 : ∀ a, a < 0 → ∀ b, b < 0 → a ≠ b → (TJ7 a).2.1 ≠ (TJ7 b).2.1 := by decide +kernel
theorem tyJ7_ok : ∀ k, k < 0 → parseFieldDescriptor (TJ7 k).2.2.1 = some (tyJ7 k) := by decide +kernel
abbrev cJ7_fill_53178 : ByteArray := prog_18_method_103_code
def yJ7_fill_53178 : MethodName := ⟨RJ7, "fill", "([II)V"⟩
abbrev cJ7_copyOf_59c91 : ByteArray := prog_18_method_123_code
def yJ7_copyOf_59c91 : MethodName := ⟨RJ7, "copyOf", "([II)[I"⟩
def RJ3 : String := "jdk/internal/util/Preconditions"
def TJ3 : u_T := fun k => match k with
  | _ => ("", "", "", false)
def tyJ3 : Nat → FieldType := fun k => match k with
  | _ => .int
theorem nmJ3 : ∀ a, a < 0 → ∀ b, b < 0 → a ≠ b → (TJ3 a).2.1 ≠ (TJ3 b).2.1 := by decide +kernel
theorem tyJ3_ok : ∀ k, k < 0 → parseFieldDescriptor (TJ3 k).2.2.1 = some (tyJ3 k) := by decide +kernel
abbrev cJ3_checkIndex_8e157 : ByteArray := prog_19_method_11_code
def yJ3_checkIndex_8e157 : MethodName := ⟨RJ3, "checkIndex", "(IILjava/util/function/BiFunction;)I"⟩
abbrev cJ3_checkFromToIndex_8c36e : ByteArray := prog_19_method_12_code
def yJ3_checkFromToIndex_8c36e : MethodName := ⟨RJ3, "checkFromToIndex", "(IIILjava/util/function/BiFunction;)I"⟩
def RL : String := "DepotMarchLaw"
abbrev cL_law : ByteArray := code
def yL_law : MethodName := ⟨RL, "law", "([I)Z"⟩
abbrev vwCl : List vw_C := [(RX0, TX0, 2), (RX1, TX1, 3), (RX2, TX2, 11), (RX3, TX3, 8), (RX4, TX4, 8), (RX5, TX5, 4), (RX6, TX6, 9), (RX7, TX7, 7), (RX8, TX8, 48)]
end
section
theorem dX0_init_0 : decode cX0_init 0 = .ok (.aload_n 0, 1) := by decide +kernel
theorem dX0_init_1 : decode cX0_init 1 = .ok (.invokespecial 3, 3) := by decide +kernel
theorem dX0_init_4 : decode cX0_init 4 = .ok (.aload_n 0, 1) := by decide +kernel
theorem dX0_init_5 : decode cX0_init 5 = .ok (.sipush 3600, 3) := by decide +kernel
theorem dX0_init_8 : decode cX0_init 8 = .ok (.newarray .int, 2) := by decide +kernel
theorem dX0_init_10 : decode cX0_init 10 = .ok (.putfield 9, 3) := by decide +kernel
theorem dX0_init_13 : decode cX0_init 13 = .ok (.return_, 1) := by decide +kernel
theorem dX1_init_0 : decode cX1_init 0 = .ok (.aload_n 0, 1) := by decide +kernel
theorem dX1_init_1 : decode cX1_init 1 = .ok (.invokespecial 3, 3) := by decide +kernel
theorem dX1_init_4 : decode cX1_init 4 = .ok (.aload_n 0, 1) := by decide +kernel
theorem dX1_init_5 : decode cX1_init 5 = .ok (.bipush 27, 2) := by decide +kernel
theorem dX1_init_7 : decode cX1_init 7 = .ok (.newarray .int, 2) := by decide +kernel
theorem dX1_init_9 : decode cX1_init 9 = .ok (.putfield 9, 3) := by decide +kernel
theorem dX1_init_12 : decode cX1_init 12 = .ok (.return_, 1) := by decide +kernel
theorem dX2_init_0 : decode cX2_init 0 = .ok (.aload_n 0, 1) := by decide +kernel
theorem dX2_init_1 : decode cX2_init 1 = .ok (.invokespecial 3, 3) := by decide +kernel
theorem dX2_init_4 : decode cX2_init 4 = .ok (.aload_n 0, 1) := by decide +kernel
theorem dX2_init_5 : decode cX2_init 5 = .ok (.getstatic 9, 3) := by decide +kernel
theorem dX2_init_8 : decode cX2_init 8 = .ok (.putfield 13, 3) := by decide +kernel
theorem dX2_init_11 : decode cX2_init 11 = .ok (.aload_n 0, 1) := by decide +kernel
theorem dX2_init_12 : decode cX2_init 12 = .ok (.bipush 26, 2) := by decide +kernel
theorem dX2_init_14 : decode cX2_init 14 = .ok (.newarray .int, 2) := by decide +kernel
theorem dX2_init_16 : decode cX2_init 16 = .ok (.putfield 18, 3) := by decide +kernel
theorem dX2_init_19 : decode cX2_init 19 = .ok (.aload_n 0, 1) := by decide +kernel
theorem dX2_init_20 : decode cX2_init 20 = .ok (.bipush 20, 2) := by decide +kernel
theorem dX2_init_22 : decode cX2_init 22 = .ok (.newarray .int, 2) := by decide +kernel
theorem dX2_init_24 : decode cX2_init 24 = .ok (.putfield 21, 3) := by decide +kernel
theorem dX2_init_27 : decode cX2_init 27 = .ok (.aload_n 0, 1) := by decide +kernel
theorem dX2_init_28 : decode cX2_init 28 = .ok (.iload_n 1, 1) := by decide +kernel
theorem dX2_init_29 : decode cX2_init 29 = .ok (.putfield 24, 3) := by decide +kernel
theorem dX2_init_32 : decode cX2_init 32 = .ok (.return_, 1) := by decide +kernel
theorem dX3_init_0 : decode cX3_init 0 = .ok (.aload_n 0, 1) := by decide +kernel
theorem dX3_init_1 : decode cX3_init 1 = .ok (.invokespecial 3, 3) := by decide +kernel
theorem dX3_init_4 : decode cX3_init 4 = .ok (.aload_n 0, 1) := by decide +kernel
theorem dX3_init_5 : decode cX3_init 5 = .ok (.iconst 0, 1) := by decide +kernel
theorem dX3_init_6 : decode cX3_init 6 = .ok (.putfield 9, 3) := by decide +kernel
theorem dX3_init_9 : decode cX3_init 9 = .ok (.aload_n 0, 1) := by decide +kernel
theorem dX3_init_10 : decode cX3_init 10 = .ok (.iconst (-1), 1) := by decide +kernel
theorem dX3_init_11 : decode cX3_init 11 = .ok (.putfield 15, 3) := by decide +kernel
theorem dX3_init_14 : decode cX3_init 14 = .ok (.aload_n 0, 1) := by decide +kernel
theorem dX3_init_15 : decode cX3_init 15 = .ok (.new 18, 3) := by decide +kernel
theorem dX3_init_18 : decode cX3_init 18 = .ok (.dup, 1) := by decide +kernel
theorem dX3_init_19 : decode cX3_init 19 = .ok (.invokespecial 20, 3) := by decide +kernel
theorem dX3_init_22 : decode cX3_init 22 = .ok (.putfield 21, 3) := by decide +kernel
theorem dX3_init_25 : decode cX3_init 25 = .ok (.aload_n 0, 1) := by decide +kernel
theorem dX3_init_26 : decode cX3_init 26 = .ok (.sipush 1002, 3) := by decide +kernel
theorem dX3_init_29 : decode cX3_init 29 = .ok (.newarray .int, 2) := by decide +kernel
theorem dX3_init_31 : decode cX3_init 31 = .ok (.putfield 25, 3) := by decide +kernel
theorem dX3_init_34 : decode cX3_init 34 = .ok (.return_, 1) := by decide +kernel
theorem dX4_init_0 : decode cX4_init 0 = .ok (.aload_n 0, 1) := by decide +kernel
theorem dX4_init_1 : decode cX4_init 1 = .ok (.invokespecial 3, 3) := by decide +kernel
theorem dX4_init_4 : decode cX4_init 4 = .ok (.aload_n 0, 1) := by decide +kernel
theorem dX4_init_5 : decode cX4_init 5 = .ok (.bipush 22, 2) := by decide +kernel
theorem dX4_init_7 : decode cX4_init 7 = .ok (.newarray .int, 2) := by decide +kernel
theorem dX4_init_9 : decode cX4_init 9 = .ok (.putfield 9, 3) := by decide +kernel
theorem dX4_init_12 : decode cX4_init 12 = .ok (.aload_n 0, 1) := by decide +kernel
theorem dX4_init_13 : decode cX4_init 13 = .ok (.bipush 22, 2) := by decide +kernel
theorem dX4_init_15 : decode cX4_init 15 = .ok (.newarray .int, 2) := by decide +kernel
theorem dX4_init_17 : decode cX4_init 17 = .ok (.putfield 15, 3) := by decide +kernel
theorem dX4_init_20 : decode cX4_init 20 = .ok (.aload_n 0, 1) := by decide +kernel
theorem dX4_init_21 : decode cX4_init 21 = .ok (.bipush 22, 2) := by decide +kernel
theorem dX4_init_23 : decode cX4_init 23 = .ok (.newarray .int, 2) := by decide +kernel
theorem dX4_init_25 : decode cX4_init 25 = .ok (.putfield 18, 3) := by decide +kernel
theorem dX4_init_28 : decode cX4_init 28 = .ok (.aload_n 0, 1) := by decide +kernel
theorem dX4_init_29 : decode cX4_init 29 = .ok (.bipush 64, 2) := by decide +kernel
theorem dX4_init_31 : decode cX4_init 31 = .ok (.newarray .int, 2) := by decide +kernel
theorem dX4_init_33 : decode cX4_init 33 = .ok (.putfield 21, 3) := by decide +kernel
theorem dX4_init_36 : decode cX4_init 36 = .ok (.aload_n 0, 1) := by decide +kernel
theorem dX4_init_37 : decode cX4_init 37 = .ok (.bipush 64, 2) := by decide +kernel
theorem dX4_init_39 : decode cX4_init 39 = .ok (.newarray .int, 2) := by decide +kernel
theorem dX4_init_41 : decode cX4_init 41 = .ok (.putfield 24, 3) := by decide +kernel
theorem dX4_init_44 : decode cX4_init 44 = .ok (.aload_n 0, 1) := by decide +kernel
theorem dX4_init_45 : decode cX4_init 45 = .ok (.bipush 64, 2) := by decide +kernel
theorem dX4_init_47 : decode cX4_init 47 = .ok (.newarray .int, 2) := by decide +kernel
theorem dX4_init_49 : decode cX4_init 49 = .ok (.putfield 27, 3) := by decide +kernel
theorem dX4_init_52 : decode cX4_init 52 = .ok (.aload_n 0, 1) := by decide +kernel
theorem dX4_init_53 : decode cX4_init 53 = .ok (.iconst (-1), 1) := by decide +kernel
theorem dX4_init_54 : decode cX4_init 54 = .ok (.putfield 30, 3) := by decide +kernel
theorem dX4_init_57 : decode cX4_init 57 = .ok (.aload_n 0, 1) := by decide +kernel
theorem dX4_init_58 : decode cX4_init 58 = .ok (.getfield 9, 3) := by decide +kernel
theorem dX4_init_61 : decode cX4_init 61 = .ok (.iconst (-1), 1) := by decide +kernel
theorem dX4_init_62 : decode cX4_init 62 = .ok (.invokestatic 34, 3) := by decide +kernel
theorem dX4_init_65 : decode cX4_init 65 = .ok (.aload_n 0, 1) := by decide +kernel
theorem dX4_init_66 : decode cX4_init 66 = .ok (.getfield 15, 3) := by decide +kernel
theorem dX4_init_69 : decode cX4_init 69 = .ok (.iconst (-1), 1) := by decide +kernel
theorem dX4_init_70 : decode cX4_init 70 = .ok (.invokestatic 34, 3) := by decide +kernel
theorem dX4_init_73 : decode cX4_init 73 = .ok (.return_, 1) := by decide +kernel
theorem dX4_amount_0 : decode cX4_amount 0 = .ok (.iload_n 1, 1) := by decide +kernel
theorem dX4_amount_1 : decode cX4_amount 1 = .ok (.bipush 22, 2) := by decide +kernel
theorem dX4_amount_3 : decode cX4_amount 3 = .ok (.invokestatic 49, 3) := by decide +kernel
theorem dX4_amount_6 : decode cX4_amount 6 = .ok (.ifCond .eq 12, 3) := by decide +kernel
theorem dX4_amount_9 : decode cX4_amount 9 = .ok (.aload_n 0, 1) := by decide +kernel
theorem dX4_amount_10 : decode cX4_amount 10 = .ok (.getfield 18, 3) := by decide +kernel
theorem dX4_amount_13 : decode cX4_amount 13 = .ok (.iload_n 1, 1) := by decide +kernel
theorem dX4_amount_14 : decode cX4_amount 14 = .ok (.iaload, 1) := by decide +kernel
theorem dX4_amount_15 : decode cX4_amount 15 = .ok (.goto 4, 3) := by decide +kernel
theorem dX4_amount_18 : decode cX4_amount 18 = .ok (.iconst 0, 1) := by decide +kernel
theorem dX4_amount_19 : decode cX4_amount 19 = .ok (.ireturn, 1) := by decide +kernel
theorem dX5_init_0 : decode cX5_init 0 = .ok (.aload_n 0, 1) := by decide +kernel
theorem dX5_init_1 : decode cX5_init 1 = .ok (.invokespecial 3, 3) := by decide +kernel
theorem dX5_init_4 : decode cX5_init 4 = .ok (.aload_n 0, 1) := by decide +kernel
theorem dX5_init_5 : decode cX5_init 5 = .ok (.sipush 501, 3) := by decide +kernel
theorem dX5_init_8 : decode cX5_init 8 = .ok (.newarray .int, 2) := by decide +kernel
theorem dX5_init_10 : decode cX5_init 10 = .ok (.putfield 9, 3) := by decide +kernel
theorem dX5_init_13 : decode cX5_init 13 = .ok (.aload_n 0, 1) := by decide +kernel
theorem dX5_init_14 : decode cX5_init 14 = .ok (.sipush 501, 3) := by decide +kernel
theorem dX5_init_17 : decode cX5_init 17 = .ok (.newarray .int, 2) := by decide +kernel
theorem dX5_init_19 : decode cX5_init 19 = .ok (.putfield 15, 3) := by decide +kernel
theorem dX5_init_22 : decode cX5_init 22 = .ok (.aload_n 0, 1) := by decide +kernel
theorem dX5_init_23 : decode cX5_init 23 = .ok (.sipush 501, 3) := by decide +kernel
theorem dX5_init_26 : decode cX5_init 26 = .ok (.newarray .int, 2) := by decide +kernel
theorem dX5_init_28 : decode cX5_init 28 = .ok (.putfield 18, 3) := by decide +kernel
theorem dX5_init_31 : decode cX5_init 31 = .ok (.return_, 1) := by decide +kernel
theorem dX6_init_0 : decode cX6_init 0 = .ok (.aload_n 0, 1) := by decide +kernel
theorem dX6_init_1 : decode cX6_init 1 = .ok (.invokespecial 3, 3) := by decide +kernel
theorem dX6_init_4 : decode cX6_init 4 = .ok (.aload_n 0, 1) := by decide +kernel
theorem dX6_init_5 : decode cX6_init 5 = .ok (.new 9, 3) := by decide +kernel
theorem dX6_init_8 : decode cX6_init 8 = .ok (.dup, 1) := by decide +kernel
theorem dX6_init_9 : decode cX6_init 9 = .ok (.invokespecial 11, 3) := by decide +kernel
theorem dX6_init_12 : decode cX6_init 12 = .ok (.putfield 12, 3) := by decide +kernel
theorem dX6_init_15 : decode cX6_init 15 = .ok (.aload_n 0, 1) := by decide +kernel
theorem dX6_init_16 : decode cX6_init 16 = .ok (.new 18, 3) := by decide +kernel
theorem dX6_init_19 : decode cX6_init 19 = .ok (.dup, 1) := by decide +kernel
theorem dX6_init_20 : decode cX6_init 20 = .ok (.invokespecial 20, 3) := by decide +kernel
theorem dX6_init_23 : decode cX6_init 23 = .ok (.putfield 21, 3) := by decide +kernel
theorem dX6_init_26 : decode cX6_init 26 = .ok (.aload_n 0, 1) := by decide +kernel
theorem dX6_init_27 : decode cX6_init 27 = .ok (.sipush 400, 3) := by decide +kernel
theorem dX6_init_30 : decode cX6_init 30 = .ok (.newarray .boolean, 2) := by decide +kernel
theorem dX6_init_32 : decode cX6_init 32 = .ok (.putfield 25, 3) := by decide +kernel
theorem dX6_init_35 : decode cX6_init 35 = .ok (.aload_n 0, 1) := by decide +kernel
theorem dX6_init_36 : decode cX6_init 36 = .ok (.bipush 16, 2) := by decide +kernel
theorem dX6_init_38 : decode cX6_init 38 = .ok (.newarray .int, 2) := by decide +kernel
theorem dX6_init_40 : decode cX6_init 40 = .ok (.putfield 29, 3) := by decide +kernel
theorem dX6_init_43 : decode cX6_init 43 = .ok (.aload_n 0, 1) := by decide +kernel
theorem dX6_init_44 : decode cX6_init 44 = .ok (.bipush 20, 2) := by decide +kernel
theorem dX6_init_46 : decode cX6_init 46 = .ok (.newarray .int, 2) := by decide +kernel
theorem dX6_init_48 : decode cX6_init 48 = .ok (.putfield 33, 3) := by decide +kernel
theorem dX6_init_51 : decode cX6_init 51 = .ok (.aload_n 0, 1) := by decide +kernel
theorem dX6_init_52 : decode cX6_init 52 = .ok (.bipush 6, 2) := by decide +kernel
theorem dX6_init_54 : decode cX6_init 54 = .ok (.anewarray 36, 3) := by decide +kernel
theorem dX6_init_57 : decode cX6_init 57 = .ok (.putfield 38, 3) := by decide +kernel
theorem dX6_init_60 : decode cX6_init 60 = .ok (.aload_n 0, 1) := by decide +kernel
theorem dX6_init_61 : decode cX6_init 61 = .ok (.getfield 29, 3) := by decide +kernel
theorem dX6_init_64 : decode cX6_init 64 = .ok (.iconst (-1), 1) := by decide +kernel
theorem dX6_init_65 : decode cX6_init 65 = .ok (.invokestatic 42, 3) := by decide +kernel
theorem dX6_init_68 : decode cX6_init 68 = .ok (.iconst 0, 1) := by decide +kernel
theorem dX6_init_69 : decode cX6_init 69 = .ok (.istore_n 1, 1) := by decide +kernel
theorem dX6_init_70 : decode cX6_init 70 = .ok (.iload_n 1, 1) := by decide +kernel
theorem dX6_init_71 : decode cX6_init 71 = .ok (.bipush 6, 2) := by decide +kernel
theorem dX6_init_73 : decode cX6_init 73 = .ok (.if_icmp .ge 23, 3) := by decide +kernel
theorem dX6_init_76 : decode cX6_init 76 = .ok (.aload_n 0, 1) := by decide +kernel
theorem dX6_init_77 : decode cX6_init 77 = .ok (.getfield 38, 3) := by decide +kernel
theorem dX6_init_80 : decode cX6_init 80 = .ok (.iload_n 1, 1) := by decide +kernel
theorem dX6_init_81 : decode cX6_init 81 = .ok (.new 36, 3) := by decide +kernel
theorem dX6_init_84 : decode cX6_init 84 = .ok (.dup, 1) := by decide +kernel
theorem dX6_init_85 : decode cX6_init 85 = .ok (.iload_n 1, 1) := by decide +kernel
theorem dX6_init_86 : decode cX6_init 86 = .ok (.invokespecial 48, 3) := by decide +kernel
theorem dX6_init_89 : decode cX6_init 89 = .ok (.aastore, 1) := by decide +kernel
theorem dX6_init_90 : decode cX6_init 90 = .ok (.iinc 1 1, 3) := by decide +kernel
theorem dX6_init_93 : decode cX6_init 93 = .ok (.goto (-23), 3) := by decide +kernel
theorem dX6_init_96 : decode cX6_init 96 = .ok (.return_, 1) := by decide +kernel
theorem dX7_init_0 : decode cX7_init 0 = .ok (.aload_n 0, 1) := by decide +kernel
theorem dX7_init_1 : decode cX7_init 1 = .ok (.invokespecial 3, 3) := by decide +kernel
theorem dX7_init_4 : decode cX7_init 4 = .ok (.aload_n 0, 1) := by decide +kernel
theorem dX7_init_5 : decode cX7_init 5 = .ok (.sipush 500, 3) := by decide +kernel
theorem dX7_init_8 : decode cX7_init 8 = .ok (.newarray .int, 2) := by decide +kernel
theorem dX7_init_10 : decode cX7_init 10 = .ok (.putfield 9, 3) := by decide +kernel
theorem dX7_init_13 : decode cX7_init 13 = .ok (.aload_n 0, 1) := by decide +kernel
theorem dX7_init_14 : decode cX7_init 14 = .ok (.new 13, 3) := by decide +kernel
theorem dX7_init_17 : decode cX7_init 17 = .ok (.dup, 1) := by decide +kernel
theorem dX7_init_18 : decode cX7_init 18 = .ok (.invokespecial 15, 3) := by decide +kernel
theorem dX7_init_21 : decode cX7_init 21 = .ok (.putfield 16, 3) := by decide +kernel
theorem dX7_init_24 : decode cX7_init 24 = .ok (.aload_n 0, 1) := by decide +kernel
theorem dX7_init_25 : decode cX7_init 25 = .ok (.new 20, 3) := by decide +kernel
theorem dX7_init_28 : decode cX7_init 28 = .ok (.dup, 1) := by decide +kernel
theorem dX7_init_29 : decode cX7_init 29 = .ok (.invokespecial 22, 3) := by decide +kernel
theorem dX7_init_32 : decode cX7_init 32 = .ok (.putfield 23, 3) := by decide +kernel
theorem dX7_init_35 : decode cX7_init 35 = .ok (.aload_n 0, 1) := by decide +kernel
theorem dX7_init_36 : decode cX7_init 36 = .ok (.new 27, 3) := by decide +kernel
theorem dX7_init_39 : decode cX7_init 39 = .ok (.dup, 1) := by decide +kernel
theorem dX7_init_40 : decode cX7_init 40 = .ok (.invokespecial 29, 3) := by decide +kernel
theorem dX7_init_43 : decode cX7_init 43 = .ok (.putfield 30, 3) := by decide +kernel
theorem dX7_init_46 : decode cX7_init 46 = .ok (.aload_n 0, 1) := by decide +kernel
theorem dX7_init_47 : decode cX7_init 47 = .ok (.iconst 3, 1) := by decide +kernel
theorem dX7_init_48 : decode cX7_init 48 = .ok (.anewarray 27, 3) := by decide +kernel
theorem dX7_init_51 : decode cX7_init 51 = .ok (.putfield 34, 3) := by decide +kernel
theorem dX7_init_54 : decode cX7_init 54 = .ok (.return_, 1) := by decide +kernel
theorem dX7_within_0 : decode cX7_within 0 = .ok (.iload_n 0, 1) := by decide +kernel
theorem dX7_within_1 : decode cX7_within 1 = .ok (.ifCond .lt 12, 3) := by decide +kernel
theorem dX7_within_4 : decode cX7_within 4 = .ok (.iload_n 0, 1) := by decide +kernel
theorem dX7_within_5 : decode cX7_within 5 = .ok (.iload_n 1, 1) := by decide +kernel
theorem dX7_within_6 : decode cX7_within 6 = .ok (.if_icmp .ge 7, 3) := by decide +kernel
theorem dX7_within_9 : decode cX7_within 9 = .ok (.iconst 1, 1) := by decide +kernel
theorem dX7_within_10 : decode cX7_within 10 = .ok (.goto 4, 3) := by decide +kernel
theorem dX7_within_13 : decode cX7_within 13 = .ok (.iconst 0, 1) := by decide +kernel
theorem dX7_within_14 : decode cX7_within 14 = .ok (.ireturn, 1) := by decide +kernel
theorem dJ7_fill_53178_0 : decode cJ7_fill_53178 0 = .ok (.iconst 0, 1) := by decide +kernel
theorem dJ7_fill_53178_1 : decode cJ7_fill_53178 1 = .ok (.istore_n 2, 1) := by decide +kernel
theorem dJ7_fill_53178_2 : decode cJ7_fill_53178 2 = .ok (.aload_n 0, 1) := by decide +kernel
theorem dJ7_fill_53178_3 : decode cJ7_fill_53178 3 = .ok (.arraylength, 1) := by decide +kernel
theorem dJ7_fill_53178_4 : decode cJ7_fill_53178 4 = .ok (.istore_n 3, 1) := by decide +kernel
theorem dJ7_fill_53178_5 : decode cJ7_fill_53178 5 = .ok (.iload_n 2, 1) := by decide +kernel
theorem dJ7_fill_53178_6 : decode cJ7_fill_53178 6 = .ok (.iload_n 3, 1) := by decide +kernel
theorem dJ7_fill_53178_7 : decode cJ7_fill_53178 7 = .ok (.if_icmp .ge 13, 3) := by decide +kernel
theorem dJ7_fill_53178_10 : decode cJ7_fill_53178 10 = .ok (.aload_n 0, 1) := by decide +kernel
theorem dJ7_fill_53178_11 : decode cJ7_fill_53178 11 = .ok (.iload_n 2, 1) := by decide +kernel
theorem dJ7_fill_53178_12 : decode cJ7_fill_53178 12 = .ok (.iload_n 1, 1) := by decide +kernel
theorem dJ7_fill_53178_13 : decode cJ7_fill_53178 13 = .ok (.iastore, 1) := by decide +kernel
theorem dJ7_fill_53178_14 : decode cJ7_fill_53178 14 = .ok (.iinc 2 1, 3) := by decide +kernel
theorem dJ7_fill_53178_17 : decode cJ7_fill_53178 17 = .ok (.goto (-12), 3) := by decide +kernel
theorem dJ7_fill_53178_20 : decode cJ7_fill_53178 20 = .ok (.return_, 1) := by decide +kernel
end
section
-- what every contract stands on: the nest links, the array classes, makers, the loop
def NE (U : State) : Prop := va_Nw (.methodLinkNest "DepotMarch" 15 yX3_init "DepotMarch") U ∧ va_Nw (.methodLinkNest "DepotMarch" 22 yX1_init "DepotMarch") U ∧ va_Nw (.methodLinkNest "DepotMarch$Reader" 20 yX5_init "DepotMarch") U ∧ va_Nw (.methodLinkNest "DepotMarch$World" 20 yX0_init "DepotMarch") U ∧ va_Nw (.methodLinkNest "DepotMarch$World" 77 yX7_within "DepotMarch") U ∧ va_Nw (.methodLinkNest "DepotMarch$Rows" 49 yX7_within "DepotMarch") U ∧ va_Nw (.methodLinkNest "DepotMarch$Book" 35 yX7_within "DepotMarch") U ∧ va_Nw (.fieldLinkNest "DepotMarch$Party" 9 "DepotMarch" "NO_ORDERS" "[I" "DepotMarch") U ∧ va_AO RX2 U ∧ va_AO RX6 U
theorem NE.n_DepotMarch_15 {U : State} (h : NE U) : va_Nw (.methodLinkNest RX7 15 yX3_init "DepotMarch") U := h.1
theorem NE.n_DepotMarch_22 {U : State} (h : NE U) : va_Nw (.methodLinkNest RX7 22 yX1_init "DepotMarch") U := h.2.1
theorem NE.n_Reader_20 {U : State} (h : NE U) : va_Nw (.methodLinkNest RX3 20 yX5_init "DepotMarch") U := h.2.2.1
theorem NE.n_World_20 {U : State} (h : NE U) : va_Nw (.methodLinkNest RX6 20 yX0_init "DepotMarch") U := h.2.2.2.1
theorem NE.n_World_77 {U : State} (h : NE U) : va_Nw (.methodLinkNest RX6 77 yX7_within "DepotMarch") U := h.2.2.2.2.1
theorem NE.n_Rows_49 {U : State} (h : NE U) : va_Nw (.methodLinkNest RX4 49 yX7_within "DepotMarch") U := h.2.2.2.2.2.1
theorem NE.n_Book_35 {U : State} (h : NE U) : va_Nw (.methodLinkNest RX0 35 yX7_within "DepotMarch") U := h.2.2.2.2.2.2.1
theorem NE.n_orders {U : State} (h : NE U) : va_Nw (.fieldLinkNest RX2 9 "DepotMarch" "NO_ORDERS" "[I" "DepotMarch") U := h.2.2.2.2.2.2.2.1
theorem NE.aoP {U : State} (h : NE U) : va_AO RX2 U := h.2.2.2.2.2.2.2.2.1
theorem NE.aoW {U : State} (h : NE U) : va_AO RX6 U := h.2.2.2.2.2.2.2.2.2
theorem NE.warm {s U : State} (hW : s.WarmedH U.vm) (h : NE s) : NE U := by
  obtain ⟨h1, h2, h3, h4, h5, h6, h7, h8, h9, h10⟩ := h
  exact ⟨va_Nw.warmM hW h1, va_Nw.warmM hW h2, va_Nw.warmM hW h3, va_Nw.warmM hW h4, va_Nw.warmM hW h5, va_Nw.warmM hW h6, va_Nw.warmM hW h7, va_Nw.warmF hW h8, va_AO.moved hW.alike h9, va_AO.moved hW.alike h10⟩
theorem NE.call {U : State} {g : JFrame} {mk : MethodId} {a : Array Value} (h : NE U) : NE (U.calling g mk a) := by
  obtain ⟨h1, h2, h3, h4, h5, h6, h7, h8, h9, h10⟩ := h
  exact ⟨va_Nw.same (u := U) (U := U.calling g mk a) rfl rfl h1, va_Nw.same (u := U) (U := U.calling g mk a) rfl rfl h2, va_Nw.same (u := U) (U := U.calling g mk a) rfl rfl h3, va_Nw.same (u := U) (U := U.calling g mk a) rfl rfl h4, va_Nw.same (u := U) (U := U.calling g mk a) rfl rfl h5, va_Nw.same (u := U) (U := U.calling g mk a) rfl rfl h6, va_Nw.same (u := U) (U := U.calling g mk a) rfl rfl h7, va_Nw.same (u := U) (U := U.calling g mk a) rfl rfl h8, va_AO.moved (u := U) (U := U.calling g mk a) (Vm.Alike.refl U.vm) h9, va_AO.moved (u := U) (U := U.calling g mk a) (Vm.Alike.refl U.vm) h10⟩
abbrev TY (cI cZ cB cJ cP cW : ClassId) : List (ClassId × FieldType) := [(cI, .int), (cZ, .boolean), (cB, .byte), (cJ, .long), (cP, .object RX2), (cW, .object RX6)]
def EV (dC : Nat → ClassId) (dI : Nat → Nat → Nat) (cI cZ cB cJ cP cW : ClassId) (U : State) : Prop := NE U ∧ va_K (dC, dI) vwCl (TY cI cZ cB cJ cP cW) U
section
variable {dC : Nat → ClassId} {dI : Nat → Nat → Nat} {cI cZ cB cJ cP cW : ClassId}
theorem EV.warm {s U : State} (h : EV dC dI cI cZ cB cJ cP cW s) (hW : s.WarmedH U.vm) : EV dC dI cI cZ cB cJ cP cW U := ⟨h.1.warm hW, va_K.moved hW.alike h.2⟩
theorem EV.call {U : State} {g : JFrame} {mk : MethodId} {a : Array Value} (h : EV dC dI cI cZ cB cJ cP cW U) : EV dC dI cI cZ cB cJ cP cW (U.calling g mk a) := ⟨h.1.call, va_K.moved (u := U) (U := U.calling g mk a) (Vm.Alike.refl U.vm) h.2⟩
theorem fbR {av : List Value} {w : va_W} : FrameBlind (va_Pc av (fun U => EV dC dI cI cZ cB cJ cP cW U ∧ va_P (dC, dI) vwCl w U.heap)) := fun _ _ _ _ q => ⟨q.1, q.2.1.call, q.2.2⟩
theorem fbRX {av : List Value} {w : va_W} {X : State → Prop} (hX : ∀ (U : State) (g : JFrame) (mk : MethodId) (a : Array Value), X U → X (U.calling g mk a)) : FrameBlind (va_Pc av (fun U => EV dC dI cI cZ cB cJ cP cW U ∧ va_P (dC, dI) vwCl w U.heap ∧ X U)) := fun _ _ _ _ q => ⟨q.1, q.2.1.call, q.2.2.1, hX _ _ _ _ q.2.2.2⟩
theorem fbM {av : List Value} {w : va_W} {sz : Nat} : FrameBlind (va_Pc av (fun U => U.heap.size = sz ∧ EV dC dI cI cZ cB cJ cP cW U ∧ va_P (dC, dI) vwCl w U.heap ∧ va_D (fun _ => True) w)) := fun _ _ _ _ q => ⟨q.1, q.2.1, q.2.2.1.call, q.2.2.2⟩
theorem fbMX {av : List Value} {w : va_W} {sz : Nat} {X : State → Prop} (hX : ∀ (U : State) (g : JFrame) (mk : MethodId) (a : Array Value), X U → X (U.calling g mk a)) : FrameBlind (va_Pc av (fun U => U.heap.size = sz ∧ EV dC dI cI cZ cB cJ cP cW U ∧ va_P (dC, dI) vwCl w U.heap ∧ va_D (fun _ => True) w ∧ X U)) := fun _ _ _ _ q => ⟨q.1, q.2.1, q.2.2.1.call, q.2.2.2.1, q.2.2.2.2.1, hX _ _ _ _ q.2.2.2.2.2⟩
end
theorem blZ {C n d : String} {v : Value} {A : Nat → Prop} (U : State) (g : JFrame) (mk : MethodId) (a : Array Value) (h : va_Z C n d v A U U.heap) : va_Z C n d v A (U.calling g mk a) (U.calling g mk a).heap := va_Z.moved (u := U) (U := U.calling g mk a) (Vm.Alike.refl U.vm) h
theorem vpd {i : Int32} {n : Nat} (h : decide (¬ (i < 0 ∨ n ≤ i.toNatClampNeg)) = true) : vp_in i n := by
  unfold vp_in
  exact of_decide_eq_true h
theorem ra_int {s : State} (x y : ClassId) (h1 : va_RA s x .int) (h2 : va_RA s y .int) : x = y := Option.some.inj (Eq.trans (Eq.symm h1) h2)
theorem ra_boolean {s : State} (x y : ClassId) (h1 : va_RA s x .boolean) (h2 : va_RA s y .boolean) : x = y := Option.some.inj (Eq.trans (Eq.symm h1) h2)
theorem ra_byte {s : State} (x y : ClassId) (h1 : va_RA s x .byte) (h2 : va_RA s y .byte) : x = y := Option.some.inj (Eq.trans (Eq.symm h1) h2)
theorem ra_long {s : State} (x y : ClassId) (h1 : va_RA s x .long) (h2 : va_RA s y .long) : x = y := Option.some.inj (Eq.trans (Eq.symm h1) h2)
theorem ra_obj {s : State} {C : String} (x y : ClassId) (h1 : va_RA s x (.object C)) (h2 : va_RA s y (.object C)) : x = y := by
  obtain ⟨_, _, _, _, _, a⟩ := h1
  obtain ⟨_, _, _, _, _, b⟩ := h2
  exact Option.some.inj (Eq.trans (Eq.symm a) b)
theorem n_cpy {α : Type} (f : Nat → α) (n : Nat) : va_cpy f f (0 : Int32).toNatClampNeg (0 : Int32).toNatClampNeg n = f := by
  funext k
  have h0 : (0 : Int32).toNatClampNeg = 0 := rfl
  rw [h0]
  by_cases h : 0 ≤ k ∧ k < 0 + n
  · rw [pk_cpy_in h.1 h.2, Nat.zero_add, Nat.sub_zero]
  · exact pk_cpy_out (by omega)
theorem n_fitI (x : Int32) : fits .int (.int x) = true := rfl
section
variable {p : Program} {l : Launch} {e : Env} {R : Room} {s : State} {m : MethodId} {args : Array Value} {below : List Frame} {meth : Method} {c : Code} {H : Heap} {locs : List Loc} {cells slots : Nat} {Q : State → Prop}
variable {cc : ByteArray} {pc : Nat} {ls : Array Slot} {rest : List Value} {D : va_G} {cl : List vw_C} {A : Nat → Prop} {a : Nat} {tys : List (ClassId × FieldType)} {ws : va_W} {H0 : Heap}
theorem n_newa (hexec : p.tables.exec = Jvm.exec) (hb : c.code = cc) {atype : ArrayType} (harr : (Cond.arrayClass (newarray.typeOf atype)).before args s = true) {ty : FieldType} (hty : newarray.typeOf atype = ty) (hu : ∀ x y : ClassId, va_RA s x ty → va_RA s y ty → x = y) (hK : va_K D cl tys s) (hP : va_P D cl ws H) (hD : va_D A ws) (hS : va_S A H0 H locs) (hA : ∀ q, H0.size ≤ q → A q) (t0 : Nat) {cI : ClassId} (ht : tys[t0]? = some (cI, ty))
    {n : Int32} {N' : Nat} {a0 : vp_A} (ha : ∀ cA : ClassId, vp_cell cA a0 = arrV cA N' (fun _ => defaultValue ty)) (hn : ¬ n < 0) (hN : n.toNatClampNeg = N') (hbytes : N' * componentBytes ty ≤ 536870912) (hcells : cells + 1 ≤ R.cells) (hslots : slots + N' ≤ R.slots) (hdg : decode cc pc = .ok (.newarray atype, 2))
    (kk : ∀ (q : Nat) (H1 : Heap), va_P D cl (ws ++ [(q, .inl (cI, a0))]) H1 → va_D A (ws ++ [(q, .inl (cI, a0))]) → va_S A H0 H1 locs →
      W p l e R s m args below meth c H1 locs (cells + 1) (slots + N') Q (F0 m (pc + 2) ls (.ref q :: rest))) : W p l e R s m args below meth c H locs cells slots Q (F0 m pc ls (.int n :: rest)) := by
  refine va_newa hexec hb harr hty hK hP hD hS hA ha hn hN hbytes hcells hslots hdg (fun q cA H1 hK1 hP1 hD1 hS1 => ?_)
  have e9 : cA = cI := hu cA cI (hK1.2 tys.length (cA, ty) (by simp)).2 (hK.2 t0 _ ht).2
  subst e9
  exact kk q H1 hP1 hD1 hS1
theorem n_newq (hexec : p.tables.exec = Jvm.exec) (hb : c.code = cc) {own C : String} {index : Nat} (hown : s.vm.findClass own = some m.cls) (hclink : (Cond.classLink own index C).before args s = true) (hover : va_AO C s) (hK : va_K D cl tys s) (hP : va_P D cl ws H) (hD : va_D A ws) (hS : va_S A H0 H locs) (hA : ∀ q, H0.size ≤ q → A q) (t0 : Nat) {cI : ClassId} (ht : tys[t0]? = some (cI, .object C))
    {n : Int32} {N' : Nat} (hn : ¬ n < 0) (hN : n.toNatClampNeg = N') (hbytes : N' * 4 ≤ 536870912) (hcells : cells + 1 ≤ R.cells) (hslots : slots + N' ≤ R.slots) (hdg : decode cc pc = .ok (.anewarray index, 3))
    (kk : ∀ (q : Nat) (H1 : Heap), va_P D cl (ws ++ [(q, .inl (cI, N', .inr (.inr (.inr (.inr (fun _ => none))))))]) H1 → va_D A (ws ++ [(q, .inl (cI, N', .inr (.inr (.inr (.inr (fun _ => none))))))]) → va_S A H0 H1 locs →
      W p l e R s m args below meth c H1 locs (cells + 1) (slots + N') Q (F0 m (pc + 3) ls (.ref q :: rest))) : W p l e R s m args below meth c H locs cells slots Q (F0 m pc ls (.int n :: rest)) := by
  refine va_newq hexec hb hown hclink hover hK hP hD hS hA hn hN hbytes hcells hslots hdg (fun q cA H1 hK1 hP1 hD1 hS1 => ?_)
  have e9 : cA = cI := ra_obj cA cI (hK1.2 tys.length (cA, .object C) (by simp)).2 (hK.2 t0 _ ht).2
  subst e9
  exact kk q H1 hP1 hD1 hS1
theorem W_loop {σ : Type} (μ : σ → Nat) (I : σ → Heap → List Loc → Array Slot → Prop) {head : Nat}
    (hs : ∀ (x : σ) (H : Heap) (locs : List Loc) (ls : Array Slot), I x H locs ls → (∀ (y : σ) (H : Heap) (locs : List Loc) (ls : Array Slot), I y H locs ls → μ y < μ x → W p l e R s m args below meth c H locs cells slots Q (F0 m head ls [])) → W p l e R s m args below meth c H locs cells slots Q (F0 m head ls []))
    (x : σ) (H : Heap) (locs : List Loc) (ls : Array Slot) (h : I x H locs ls) : W p l e R s m args below meth c H locs cells slots Q (F0 m head ls []) := by
  have key : ∀ (n : Nat) (x : σ) (H : Heap) (locs : List Loc) (ls : Array Slot), μ x < n → I x H locs ls → W p l e R s m args below meth c H locs cells slots Q (F0 m head ls []) := by
    intro n
    induction n with
    | zero => intro x H locs ls h; omega
    | succ n ih => intro x H locs ls h hI; exact hs x H locs ls hI (fun y H locs ls hy hlt => ih y H locs ls (by omega) hy)
  exact key _ x H locs ls (Nat.lt_succ_self _) h
end
/-- an array's cell speaks of its places alone -/
theorem n_arr {D : va_G} {cl : List vw_C} {A : Nat → Prop} {H : Heap} {w0 w1 : va_W} {a : Nat} {cA : ClassId} {n : Nat} {f g : Nat → Int32} (h : ∀ j, j < n → f j = g j) (hP : va_P D cl (w0 ++ (a, .inl (cA, n, .inl f)) :: w1) H) (hD : va_D A (w0 ++ (a, .inl (cA, n, .inl f)) :: w1)) : va_P D cl (w0 ++ (a, .inl (cA, n, .inl g)) :: w1) H ∧ va_D A (w0 ++ (a, .inl (cA, n, .inl g)) :: w1) := by
  have hfg : (fun j : Fin n => Value.int (f j.val)) = (fun j : Fin n => Value.int (g j.val)) := by
    funext j
    rw [h j.val j.isLt]
  have hc : vp_cell cA (n, .inl f) = vp_cell cA (n, .inl g) := by
    rw [vp_cell_i, vp_cell_i]
    unfold arrV
    rw [hfg]
  have ix : ∀ k : Nat, (w0 ++ (a, .inl (cA, n, .inl g)) :: w1 : va_W)[k]? = if k = w0.length then some (a, .inl (cA, n, .inl g)) else (w0 ++ (a, .inl (cA, n, .inl f)) :: w1 : va_W)[k]? := by
    intro k
    by_cases hk : k = w0.length
    · subst hk; simp
    · rw [if_neg hk]
      by_cases hl : k < w0.length
      · rw [List.getElem?_append_left hl, List.getElem?_append_left hl]
      · rw [List.getElem?_append_right (by omega), List.getElem?_append_right (by omega)]
        obtain ⟨j, hj⟩ : ∃ j, k - w0.length = j + 1 := ⟨k - w0.length - 1, by omega⟩
        rw [hj]; rfl
  have hf : (w0 ++ (a, .inl (cA, n, .inl f)) :: w1 : va_W)[w0.length]? = some (a, .inl (cA, n, .inl f)) := by simp
  refine ⟨fun k q hq => ?_, ⟨fun i j x y hx hy hxy => ?_, fun k q hq => ?_⟩⟩
  · rw [ix] at hq
    by_cases hk : k = w0.length
    · rw [if_pos hk] at hq
      cases hq
      have h1 := hP _ _ hf
      show H[a]? = some (vp_cell cA (n, .inl g))
      rw [← hc]; exact h1
    · rw [if_neg hk] at hq
      exact hP k q hq
  · rw [ix] at hx hy
    by_cases hi : i = w0.length
    · by_cases hj : j = w0.length
      · omega
      · rw [if_pos hi] at hx; rw [if_neg hj] at hy
        cases hx
        have := hD.1 w0.length j _ _ hf hy hxy
        omega
    · by_cases hj : j = w0.length
      · rw [if_neg hi] at hx; rw [if_pos hj] at hy
        cases hy
        have := hD.1 i w0.length _ _ hx hf hxy
        omega
      · rw [if_neg hi] at hx; rw [if_neg hj] at hy
        exact hD.1 i j x y hx hy hxy
  · rw [ix] at hq
    by_cases hk : k = w0.length
    · rw [if_pos hk] at hq
      cases hq
      exact hD.2 w0.length (a, .inl (cA, n, .inl f)) hf
    · rw [if_neg hk] at hq
      exact hD.2 k q hq
set_option maxRecDepth 20000 in
theorem df_X0 : ∀ j, j < 2 → defaultValue (tyX0 j) = vp_V [.int 0, .null] j := by
  intro j hj
  rcases (show j = 0 ∨ j = 1 by omega) with rfl | rfl <;> rfl
set_option maxRecDepth 20000 in
theorem df_X1 : ∀ j, j < 3 → defaultValue (tyX1 j) = vp_V [.null, .int 0, .int 0] j := by
  intro j hj
  rcases (show j = 0 ∨ j = 1 ∨ j = 2 by omega) with rfl | rfl | rfl <;> rfl
set_option maxRecDepth 20000 in
theorem df_X2 : ∀ j, j < 11 → defaultValue (tyX2 j) = vp_V [.int 0, .int 0, .int 0, .int 0, .int 0, .int 0, .int 0, .int 0, .null, .null, .null] j := by
  intro j hj
  rcases (show j = 0 ∨ j = 1 ∨ j = 2 ∨ j = 3 ∨ j = 4 ∨ j = 5 ∨ j = 6 ∨ j = 7 ∨ j = 8 ∨ j = 9 ∨ j = 10 by omega) with rfl | rfl | rfl | rfl | rfl | rfl | rfl | rfl | rfl | rfl | rfl <;> rfl
set_option maxRecDepth 20000 in
theorem df_X3 : ∀ j, j < 8 → defaultValue (tyX3 j) = vp_V [.int 0, .int 0, .int 0, .null, .int 0, .int 0, .null, .int 0] j := by
  intro j hj
  rcases (show j = 0 ∨ j = 1 ∨ j = 2 ∨ j = 3 ∨ j = 4 ∨ j = 5 ∨ j = 6 ∨ j = 7 by omega) with rfl | rfl | rfl | rfl | rfl | rfl | rfl | rfl <;> rfl
set_option maxRecDepth 20000 in
theorem df_X4 : ∀ j, j < 8 → defaultValue (tyX4 j) = vp_V [.null, .null, .null, .null, .null, .null, .int 0, .int 0] j := by
  intro j hj
  rcases (show j = 0 ∨ j = 1 ∨ j = 2 ∨ j = 3 ∨ j = 4 ∨ j = 5 ∨ j = 6 ∨ j = 7 by omega) with rfl | rfl | rfl | rfl | rfl | rfl | rfl | rfl <;> rfl
set_option maxRecDepth 20000 in
theorem df_X5 : ∀ j, j < 4 → defaultValue (tyX5 j) = vp_V [.null, .null, .null, .int 0] j := by
  intro j hj
  rcases (show j = 0 ∨ j = 1 ∨ j = 2 ∨ j = 3 by omega) with rfl | rfl | rfl | rfl <;> rfl
set_option maxRecDepth 20000 in
theorem df_X6 : ∀ j, j < 9 → defaultValue (tyX6 j) = vp_V [.int 0, .int 0, .int 0, .null, .null, .null, .null, .null, .null] j := by
  intro j hj
  rcases (show j = 0 ∨ j = 1 ∨ j = 2 ∨ j = 3 ∨ j = 4 ∨ j = 5 ∨ j = 6 ∨ j = 7 ∨ j = 8 by omega) with rfl | rfl | rfl | rfl | rfl | rfl | rfl | rfl | rfl <;> rfl
set_option maxRecDepth 20000 in
theorem df_X7 : ∀ j, j < 7 → defaultValue (tyX7 j) = vp_V [.null, .int 0, .null, .null, .null, .null, .null] j := by
  intro j hj
  rcases (show j = 0 ∨ j = 1 ∨ j = 2 ∨ j = 3 ∨ j = 4 ∨ j = 5 ∨ j = 6 by omega) with rfl | rfl | rfl | rfl | rfl | rfl | rfl <;> rfl
set_option maxRecDepth 20000 in
theorem df_X8 : ∀ j, j < 48 → defaultValue (tyX8 j) = vp_V [.int 0, .null, .int 0, .null, .null, .null, .null, .null, .null, .null, .null, .null, .null, .null, .null, .null, .null, .null, .null, .null, .null, .null, .null, .null, .null, .null, .null, .null, .null, .null, .int 0, .int 0, .int 0, .int 0, .int 0, .int 0, .int 0, .int 0, .int 0, .int 0, .int 0, .int 0, .int 0, .null, .null, .null, .int 0, .null] j := by
  intro j hj
  rcases (show j = 0 ∨ j = 1 ∨ j = 2 ∨ j = 3 ∨ j = 4 ∨ j = 5 ∨ j = 6 ∨ j = 7 ∨ j = 8 ∨ j = 9 ∨ j = 10 ∨ j = 11 ∨ j = 12 ∨ j = 13 ∨ j = 14 ∨ j = 15 ∨ j = 16 ∨ j = 17 ∨ j = 18 ∨ j = 19 ∨ j = 20 ∨ j = 21 ∨ j = 22 ∨ j = 23 ∨ j = 24 ∨ j = 25 ∨ j = 26 ∨ j = 27 ∨ j = 28 ∨ j = 29 ∨ j = 30 ∨ j = 31 ∨ j = 32 ∨ j = 33 ∨ j = 34 ∨ j = 35 ∨ j = 36 ∨ j = 37 ∨ j = 38 ∨ j = 39 ∨ j = 40 ∨ j = 41 ∨ j = 42 ∨ j = 43 ∨ j = 44 ∨ j = 45 ∨ j = 46 ∨ j = 47 by omega) with rfl | rfl | rfl | rfl | rfl | rfl | rfl | rfl | rfl | rfl | rfl | rfl | rfl | rfl | rfl | rfl | rfl | rfl | rfl | rfl | rfl | rfl | rfl | rfl | rfl | rfl | rfl | rfl | rfl | rfl | rfl | rfl | rfl | rfl | rfl | rfl | rfl | rfl | rfl | rfl | rfl | rfl | rfl | rfl | rfl | rfl | rfl | rfl <;> rfl
end
section
/-- within: 1 if 0 ≤ i < n, else 0 -/
def wi (i n : Int32) : Int32 := if i < 0 then 0 else if n ≤ i then 0 else 1
theorem wi_in {i : Int32} {n : Int32} {N : Nat} (hn : n.toInt = N) (h : ¬ wi i n = 0) : vp_in i N := by
  unfold wi at h
  by_cases h1 : i < 0
  · rw [if_pos h1] at h; exact absurd rfl h
  · rw [if_neg h1] at h
    by_cases h2 : n ≤ i
    · rw [if_pos h2] at h; exact absurd rfl h
    · rw [vp_in_iff]
      rw [Int32.lt_iff_toInt_lt] at h1
      rw [Int32.le_iff_toInt_le] at h2
      have h0 : (0 : Int32).toInt = 0 := rfl
      omega
theorem up_at {g : Nat → Int32} {k : Nat} {v : Int32} (hk : k < 2 ^ 31) (h : ∀ j, j < k → g j = v) : ∀ j, j < k + 1 → upd g (nI k).toNatClampNeg v j = v := by
  intro j hj
  rw [nI_clamp hk]
  by_cases hjk : j = k
  · subst hjk; exact pk_us
  · rw [pk_un hjk]; exact h j (by omega)

def vs_within : List Cond := [.code yX7_within cX7_within 2 (some .boolean)]
set_option maxHeartbeats 4000000 in
set_option maxRecDepth 100000 in
theorem c_within (l : Launch) (dC : Nat → ClassId) (dI : Nat → Nat → Nat) (cI cZ cB cJ cP cW : ClassId) (i : Int32) (n : Int32) : Met l yX7_within vs_within ({ frames := 1, cells := 0, slots := 0, locals := 60 }) (va_Pc [.int i, .int n] (fun U => EV dC dI cI cZ cB cJ cP cW U ∧ va_P (dC, dI) vwCl [] U.heap)) (vp_Si (fun r => r = wi i n)) 0 0 (fun _ => False) := by
  refine Met.ofW (cc := cX7_within) (maxL := 2) (ret := (some .boolean)) (by decide) rfl ?_
  intro p e s m args below meth c s₁ B hml hv
  obtain ⟨rfl, hE, hP⟩ := hv
  have hx := B.exec
  have hb := B.bytes
  have hr := B.returns
  have hts := atoms_spec (ws := vs_within) B.pre
  have hown : s.vm.findClass RX7 = some m.cls := findClass_of_methodNamed B.named
  have hlocks := B.notSynchronized
  have hK := hE.2
  have hA : True := trivial
  have hS : va_S (fun _ => False) s.heap s.heap [] := va_S.rf
  have hl := lv_entry ([.int i, .int n]) (n := 2) (Nat.le_of_ble_eq_true rfl)
  rw [lg_entry_eq]
  generalize (lg_sl ([.int i, .int n]) ++ List.replicate (2 - (lg_sl ([.int i, .int n])).length) Slot.unset).toArray = ls at hl ⊢
  have hl : lv_has ls 2 [(0, .int i), (1, .int n)] := hl
  refine lv_iload_n hx hb dX7_within_0 rfl (lv_at hl 0 rfl) ?_
  refine lv_if_lt (tgt := 13) hx hb dX7_within_1 (by decide) (fun c1 => ?_) (fun c1 => ?_)
  · refine lv_iconst (v := 0) hx hb dX7_within_13 (by decide) ?_
    exact W.zret (v := 0) hx hb hr rfl (fun t ht hW => ⟨0, rfl, (by simp [wi, c1]), ht⟩) (fun q h => by cases h) dX7_within_14
  · refine lv_iload_n hx hb dX7_within_4 rfl (lv_at hl 0 rfl) ?_
    refine lv_iload_n hx hb dX7_within_5 rfl (lv_at hl 1 rfl) ?_
    refine lv_icmp_ge (tgt := 13) hx hb dX7_within_6 (by decide) (fun c2 => ?_) (fun c2 => ?_)
    · refine lv_iconst (v := 0) hx hb dX7_within_13 (by decide) ?_
      exact W.zret (v := 0) hx hb hr rfl (fun t ht hW => ⟨0, rfl, (by simp [wi, c1, c2]), ht⟩) (fun q h => by cases h) dX7_within_14
    · refine lv_iconst (v := 1) hx hb dX7_within_9 (by decide) ?_
      refine lv_goto (tgt := 14) hx hb dX7_within_10 (by decide) ?_
      exact W.zret (v := 1) hx hb hr rfl (fun t ht hW => ⟨1, rfl, (by simp [wi, c1, c2]), ht⟩) (fun q h => by cases h) dX7_within_14

def vs_amount : List Cond := [.code yX4_amount cX4_amount 2 (some .int), .code yX7_within cX7_within 2 (some .boolean), .initialized RX7, .static yX7_within, .fieldLink RX4 18 "DepotMarch$Rows" "amounts" "[I"] ++ (wsX40)
theorem in_amount_X4 : ∀ w ∈ u_ws RX4 TX4 8, w ∈ vs_amount := fun w h => List.mem_append_right _ (h)
set_option maxRecDepth 20000 in
theorem gg_amount_within : GoodIn vs_amount vs_within := goodIn_r _ [1] (by decide +kernel) (by decide +kernel)
set_option maxHeartbeats 4000000 in
set_option maxRecDepth 100000 in
theorem c_amount (l : Launch) (dC : Nat → ClassId) (dI : Nat → Nat → Nat) (cI cZ cB cJ cP cW : ClassId) (q : Nat → Nat) (f : Nat → Int32) (row : Int32) : Met l yX4_amount vs_amount ({ frames := 2, cells := 0, slots := 0, locals := 120 }) (va_Pc [.ref (q 1), .int row] (fun U => EV dC dI cI cZ cB cJ cP cW U ∧ va_P (dC, dI) vwCl [((q 1), .inr (4, [.ref (q 2), .ref (q 3), .ref (q 4), .ref (q 5), .ref (q 6), .ref (q 7), .int 0, .int (-1)])), ((q 4), .inl (cI, 22, .inl f))] U.heap)) (vp_Si (fun r => r = if wi row 22 = 0 then 0 else f row.toNatClampNeg)) 0 0 (fun _ => False) := by
  refine Met.ofW (cc := cX4_amount) (maxL := 2) (ret := (some .int)) (by decide) rfl ?_
  intro p e s m args below meth c s₁ B hml hv
  obtain ⟨rfl, hE, hP⟩ := hv
  have hx := B.exec
  have hb := B.bytes
  have hr := B.returns
  have hts := atoms_spec (ws := vs_amount) B.pre
  have hown : s.vm.findClass RX4 = some m.cls := findClass_of_methodNamed B.named
  have hlocks := B.notSynchronized
  have hK := hE.2
  have hA : True := trivial
  have hS : va_S (fun _ => False) s.heap s.heap [] := va_S.rf
  have hl := lv_entry ([.ref (q 1), .int row]) (n := 2) (Nat.le_of_ble_eq_true rfl)
  rw [lg_entry_eq]
  generalize (lg_sl ([.ref (q 1), .int row]) ++ List.replicate (2 - (lg_sl ([.ref (q 1), .int row])).length) Slot.unset).toArray = ls at hl ⊢
  have hl : lv_has ls 2 [(0, .ref (q 1)), (1, .int row)] := hl
  refine lv_iload_n hx hb dX4_amount_0 rfl (lv_at hl 1 rfl) ?_
  refine lv_bipush (v := 22) hx hb dX4_amount_1 (by decide) ?_
  refine vp_callSi (va_Run.run (va_runSN (As := [.int row, .int 22]) (rest := []) ⟨hx, hb, hml, hown, hts⟩ (c_within l dC dI cI cZ cB cJ cP cW row 22) ⟨(va_cnB 2 hts gg_amount_within rfl rfl rfl hE.1.n_Rows_49 (hts (.initialized RX7) (by decide +kernel)) (by decide +kernel) ⟨Nat.le_of_ble_eq_true rfl, Nat.le_of_ble_eq_true rfl⟩), (hts (.static yX7_within) (by decide +kernel)), trivial⟩ ⟨fbR, fun U hU hW => ⟨rfl, hE.warm hW, by rw [hU]; exact (fun k q h => by simp at h)⟩⟩ rfl rfl hl.1 rfl (lv_room (Nat.le_of_ble_eq_true rfl)) dX4_amount_3 ⟨Nat.le_of_ble_eq_true rfl, Nat.le_of_ble_eq_true rfl⟩)) (fun r1 hr1 => ?_)
  refine lv_if_eq (tgt := 18) hx hb dX4_amount_6 (by decide) (fun c2 => ?_) (fun c2 => ?_)
  · refine lv_iconst (v := 0) hx hb dX4_amount_18 (by decide) ?_
    exact W.iret (v := 0) hx hb hr (fun t ht hW => ⟨0, rfl, (by rw [← hr1]; simp [c2]), ht⟩) (fun q h => by cases h) dX4_amount_19
  · refine lv_aload_n hx hb dX4_amount_9 rfl (lv_at hl 0 rfl) ?_
    refine va_get (D := (dC, dI)) (ci := 4) (v := .ref (q 4)) (C := RX4) (T := TX4) (N := 8) hx hb hts in_amount_X4 hown hK hP 0 rfl rfl 2 (by decide) (hts (.fieldLink RX4 18 "DepotMarch$Rows" "amounts" "[I") (by decide +kernel)) (fun _ h9 => h9) rfl dX4_amount_10 ?_
    refine lv_iload_n hx hb dX4_amount_13 rfl (lv_at hl 1 rfl) ?_
    refine va_iald hx hb hK hP 1 0 rfl rfl (wi_in (N := 22) rfl (by rw [← hr1]; exact c2)) dX4_amount_14 ?_
    refine lv_topi (fun x3 ex3 => ?_)
    refine lv_goto (tgt := 19) hx hb dX4_amount_15 (by decide) ?_
    exact W.iret (v := x3) hx hb hr (fun t ht hW => ⟨x3, rfl, (by rw [← hr1, if_neg c2]; exact ex3), ht⟩) (fun q h => by cases h) dX4_amount_19

def vs_fill : List Cond := [.code yJ7_fill_53178 cJ7_fill_53178 4 none]
set_option maxHeartbeats 4000000 in
set_option maxRecDepth 100000 in
theorem c_fill (l : Launch) (dC : Nat → ClassId) (dI : Nat → Nat → Nat) (cI cZ cB cJ cP cW : ClassId) (a : Nat) (N : Nat) (f : Nat → Int32) (v : Int32) (sz : Nat) (hN : N < 2 ^ 31) : Met l yJ7_fill_53178 vs_fill ({ frames := 1, cells := 0, slots := 0, locals := 60 }) (va_Pc [.ref a, .int v] (fun U => U.heap.size = sz ∧ EV dC dI cI cZ cB cJ cP cW U ∧ va_P (dC, dI) vwCl [(a, .inl (cI, N, .inl f))] U.heap ∧ va_D (fun _ => True) [(a, .inl (cI, N, .inl f))])) (va_Qv (fun (u : Unit) => True) (fun u t => va_P (dC, dI) vwCl [(a, .inl (cI, N, .inl (fun _ => v)))] t.heap ∧ va_D (va_A [(a, .inl (cI, N, .inl f))] sz) [(a, .inl (cI, N, .inl (fun _ => v)))]) (va_A [(a, .inl (cI, N, .inl f))] sz)) 0 0 (va_A [(a, .inl (cI, N, .inl f))] sz) := by
  refine Met.ofW (cc := cJ7_fill_53178) (maxL := 4) (ret := none) (by decide) rfl ?_
  intro p e s m args below meth c s₁ B hml hv
  obtain ⟨rfl, hsz, hE, hP, hD0⟩ := hv
  have hx := B.exec
  have hb := B.bytes
  have hr := B.returns
  have hts := atoms_spec (ws := vs_fill) B.pre
  have hown : s.vm.findClass RJ7 = some m.cls := findClass_of_methodNamed B.named
  have hlocks := B.notSynchronized
  have hK := hE.2
  subst hsz
  have hD := hD0.self (sz := s.heap.size)
  generalize hAe : va_A [(a, .inl (cI, N, .inl f))] s.heap.size = A at hD ⊢
  have hA : ∀ q : Nat, s.heap.size ≤ q → A q := fun q h => by rw [← hAe]; exact Or.inr h
  have hS : va_S A s.heap s.heap [] := va_S.rf
  have hl := lv_entry ([.ref a, .int v]) (n := 4) (Nat.le_of_ble_eq_true rfl)
  rw [lg_entry_eq]
  generalize (lg_sl ([.ref a, .int v]) ++ List.replicate (4 - (lg_sl ([.ref a, .int v])).length) Slot.unset).toArray = ls at hl ⊢
  have hl : lv_has ls 4 [(0, .ref a), (1, .int v)] := hl
  refine lv_iconst (v := 0) hx hb dJ7_fill_53178_0 (by decide) ?_
  refine lv_istore_n (lv' := [(2, .int 0), (0, .ref a), (1, .int v)]) hx hb dJ7_fill_53178_1 rfl hl (by decide) rfl (fun ls hl => ?_)
  refine lv_aload_n hx hb dJ7_fill_53178_2 rfl (lv_at hl 1 rfl) ?_
  refine va_alen hx hb hK hP 0 0 rfl rfl (v := (nI N)) rfl dJ7_fill_53178_3 ?_
  refine lv_istore_n (lv' := [(3, .int (nI N)), (2, .int 0), (0, .ref a), (1, .int v)]) hx hb dJ7_fill_53178_4 rfl hl (by decide) rfl (fun ls hl => ?_)
  have hl := lv_sub hl [2, 3, 1, 0] rfl
  refine W_loop (σ := Nat × (Nat → Int32)) (fun x9 => match x9 with | (k, g) => N - k) (fun x9 H1 locs ls => match x9 with | (k, g) => (k ≤ N ∧ ∀ j, j < k → g j = v) ∧ va_P (dC, dI) vwCl [(a, .inl (cI, N, .inl g))] H1 ∧ va_D A [(a, .inl (cI, N, .inl g))] ∧ va_S A s.heap H1 locs ∧ lv_has ls 4 [(0, .ref a), (1, .int v), (2, .int (nI k)), (3, .int (nI N))]) (fun x9 H1 locs ls hI9 ih => ?_) (0, f) _ _ _ ⟨⟨Nat.zero_le _, fun j hj => absurd hj (Nat.not_lt_zero j)⟩, hP, hD, hS, hl⟩
  obtain ⟨k, g⟩ := x9
  dsimp only at hI9
  obtain ⟨hinv, hP, hD, hS, hl⟩ := hI9
  refine lv_iload_n hx hb dJ7_fill_53178_5 rfl (lv_at hl 2 rfl) ?_
  refine lv_iload_n hx hb dJ7_fill_53178_6 rfl (lv_at hl 3 rfl) ?_
  refine lv_icmp_ge (tgt := 20) hx hb dJ7_fill_53178_7 (by decide) (fun c2 => ?_) (fun c2 => ?_)
  · have hkN : k = N := Nat.le_antisymm hinv.1 (Nat.le_of_not_lt (fun h => absurd c2 (nI_ge h hN)))
    obtain ⟨hP, hD⟩ := n_arr (w0 := []) (w1 := []) (f := g) (g := (fun _ => v)) (fun j hj => hinv.2 j (by omega)) hP hD
    have hP : va_P (dC, dI) vwCl [(a, .inl (cI, N, .inl (fun _ => v)))] H1 := hP
    have hD : va_D A [(a, .inl (cI, N, .inl (fun _ => v)))] := hD
    have hP9 := hP.sub (ws' := [(a, .inl (cI, N, .inl (fun _ => v)))]) [0] rfl
    have hD9 := hD.sub (ws' := [(a, .inl (cI, N, .inl (fun _ => v)))]) [0] (by decide) rfl
    refine W.widen (k := 0) (n := 0) (by decide) (by decide) ?_
    exact W.vret hx hb hr (fun t ht hW => ⟨⟨(), rfl, trivial, by rw [ht]; exact hP9, hD9⟩, hS.F ht⟩) hS.2.2 dJ7_fill_53178_20
  · have hkN : k < N := Nat.lt_of_not_le (fun h => absurd (nI_le h (by omega)) c2)
    refine lv_aload_n hx hb dJ7_fill_53178_10 rfl (lv_at hl 0 rfl) ?_
    refine lv_iload_n hx hb dJ7_fill_53178_11 rfl (lv_at hl 2 rfl) ?_
    refine lv_iload_n hx hb dJ7_fill_53178_12 rfl (lv_at hl 1 rfl) ?_
    refine va_iast hx hb hK hP hD hS 0 0 rfl rfl (vp_in_nI hkN hN) dJ7_fill_53178_13 (fun H3 locs hP hD hS => ?_)
    have hP : va_P (dC, dI) vwCl [(a, .inl (cI, N, .inl (upd g (nI k).toNatClampNeg v)))] H3 := hP
    have hD : va_D A [(a, .inl (cI, N, .inl (upd g (nI k).toNatClampNeg v)))] := hD
    refine lv_iinc (v := (nI (k + 1))) (lv' := [(2, .int (nI (k + 1))), (0, .ref a), (1, .int v), (3, .int (nI N))]) hx hb dJ7_fill_53178_14 hl (k := 2) rfl (nI_1 k) (by decide) rfl (fun ls hl => ?_)
    refine lv_goto (tgt := 5) hx hb dJ7_fill_53178_17 (by decide) ?_
    exact ih (k + 1, upd g (nI k).toNatClampNeg v) _ _ _ ⟨⟨hkN, up_at (by omega) hinv.2⟩, hP, hD, hS, lv_sub hl [1, 2, 0, 3] rfl⟩ (by show N - (k + 1) < N - k; omega)
end
section
def vs_p_init : List Cond := [.code yX2_init cX2_init 2 none, .methodLink RX2 3 objectInit, .instanceMethod objectInit, .code objectInit ⟨#[0xb1]⟩ 1 none, .fieldLink RX2 13 "DepotMarch$Party" "steps" "[I", .arrayClass .int, .fieldLink RX2 18 "DepotMarch$Party" "names" "[I", .fieldLink RX2 21 "DepotMarch$Party" "eaten" "[I", .fieldLink RX2 24 "DepotMarch$Party" "number" "I"] ++ (wsX20)
theorem in_p_init_X2 : ∀ w ∈ u_ws RX2 TX2 11, w ∈ vs_p_init := fun w h => List.mem_append_right _ (h)
set_option maxHeartbeats 4000000 in
set_option maxRecDepth 100000 in
theorem c_p_init (l : Launch) (dC : Nat → ClassId) (dI : Nat → Nat → Nat) (cI cZ cB cJ cP cW : ClassId) (h : Nat) (i : Int32) (z : Nat) (sz : Nat) : Met l yX2_init vs_p_init ({ frames := 2, cells := 2, slots := 46, locals := 120 }) (va_Pc [.ref h, .int i] (fun U => U.heap.size = sz ∧ EV dC dI cI cZ cB cJ cP cW U ∧ va_P (dC, dI) vwCl [(h, .inr (2, [.int 0, .int 0, .int 0, .int 0, .int 0, .int 0, .int 0, .int 0, .null, .null, .null]))] U.heap ∧ va_D (fun _ => True) [(h, .inr (2, [.int 0, .int 0, .int 0, .int 0, .int 0, .int 0, .int 0, .int 0, .null, .null, .null]))] ∧ va_Z "DepotMarch" "NO_ORDERS" "[I" (.ref z) (va_A [(h, .inr (2, [.int 0, .int 0, .int 0, .int 0, .int 0, .int 0, .int 0, .int 0, .null, .null, .null]))] sz) U U.heap)) (va_Qv (fun (u : Nat → Nat) => True) (fun u t => va_P (dC, dI) vwCl [(h, .inr (2, [.int i, .int 0, .int 0, .int 0, .int 0, .int 0, .int 0, .int 0, .ref z, .ref (u 1), .ref (u 2)])), ((u 1), .inl (cI, 26, .inl (fun _ => 0))), ((u 2), .inl (cI, 20, .inl (fun _ => 0)))] t.heap ∧ va_D (va_A [(h, .inr (2, [.int 0, .int 0, .int 0, .int 0, .int 0, .int 0, .int 0, .int 0, .null, .null, .null]))] sz) [(h, .inr (2, [.int i, .int 0, .int 0, .int 0, .int 0, .int 0, .int 0, .int 0, .ref z, .ref (u 1), .ref (u 2)])), ((u 1), .inl (cI, 26, .inl (fun _ => 0))), ((u 2), .inl (cI, 20, .inl (fun _ => 0)))]) (va_A [(h, .inr (2, [.int 0, .int 0, .int 0, .int 0, .int 0, .int 0, .int 0, .int 0, .null, .null, .null]))] sz)) 2 46 (va_A [(h, .inr (2, [.int 0, .int 0, .int 0, .int 0, .int 0, .int 0, .int 0, .int 0, .null, .null, .null]))] sz) := by
  refine Met.ofW (cc := cX2_init) (maxL := 2) (ret := none) (by decide) rfl ?_
  intro p e s m args below meth c s₁ B hml hv
  obtain ⟨rfl, hsz, hE, hP, hD0, hX⟩ := hv
  have hx := B.exec
  have hb := B.bytes
  have hr := B.returns
  have hts := atoms_spec (ws := vs_p_init) B.pre
  have hown : s.vm.findClass RX2 = some m.cls := findClass_of_methodNamed B.named
  have hlocks := B.notSynchronized
  have hK := hE.2
  have hin : meth.name = "<init>" := (name_of_methodNamed B.named B.method).1
  subst hsz
  have hD := hD0.self (sz := s.heap.size)
  generalize hAe : va_A [(h, .inr (2, [.int 0, .int 0, .int 0, .int 0, .int 0, .int 0, .int 0, .int 0, .null, .null, .null]))] s.heap.size = A at hX hD ⊢
  have hA : ∀ q : Nat, s.heap.size ≤ q → A q := fun q h => by rw [← hAe]; exact Or.inr h
  have hS : va_S A s.heap s.heap [] := va_S.rf
  have hl := lv_entry ([.ref h, .int i]) (n := 2) (Nat.le_of_ble_eq_true rfl)
  rw [lg_entry_eq]
  generalize (lg_sl ([.ref h, .int i]) ++ List.replicate (2 - (lg_sl ([.ref h, .int i])).length) Slot.unset).toArray = ls at hl ⊢
  have hl : lv_has ls 2 [(0, .ref h), (1, .int i)] := hl
  refine lv_aload_n hx hb dX2_init_0 rfl (lv_at hl 0 rfl) ?_
  refine W.objInit hx hb hown (hts (.methodLink RX2 3 objectInit) (by decide +kernel)) (hts (.instanceMethod objectInit) (by decide +kernel)) (hts (.code objectInit ⟨#[0xb1]⟩ 1 none) (by decide +kernel)) rfl (by rw [hml]; exact hl.1) rfl dX2_init_1 (Nat.le_of_ble_eq_true rfl) (Nat.le_of_ble_eq_true rfl) ?_
  refine W.eq (g2 := F0 m 4 ls []) rfl ?_
  refine lv_aload_n hx hb dX2_init_4 rfl (lv_at hl 0 rfl) ?_
  refine va_getsN hx hb hX hS hown (va_Nw.use rfl hE.1.n_orders) (fun _ h9 => h9) dX2_init_5 ?_
  refine va_put (D := (dC, dI)) (ci := 2) (v := .ref z) (ty := .array .int) (C := RX2) (T := TX2) (N := 11) hx hb hts in_p_init_X2 tyX2 tyX2_ok nmX2 hown hK hP hD hS 0 rfl rfl 8 (by decide) (hts (.fieldLink RX2 13 "DepotMarch$Party" "steps" "[I") (by decide +kernel)) (fun _ h9 => h9) rfl (by decide +kernel) rfl rfl (Nat.le_of_ble_eq_true rfl) dX2_init_8 (fun H1 locs hP hD hS => ?_)
  have hP : va_P (dC, dI) vwCl [(h, .inr (2, [.int 0, .int 0, .int 0, .int 0, .int 0, .int 0, .int 0, .int 0, .ref z, .null, .null]))] H1 := hP
  have hD : va_D A [(h, .inr (2, [.int 0, .int 0, .int 0, .int 0, .int 0, .int 0, .int 0, .int 0, .ref z, .null, .null]))] := hD
  refine lv_aload_n hx hb dX2_init_11 rfl (lv_at hl 0 rfl) ?_
  refine lv_bipush (v := 26) hx hb dX2_init_12 (by decide) ?_
  refine n_newa (atype := .int) (ty := .int) (cI := cI) (a0 := (26, .inl (fun _ => 0))) hx hb (hts (.arrayClass .int) (by decide +kernel)) rfl ra_int hK hP hD hS hA 0 rfl (fun _ => rfl) (by decide) rfl (Nat.le_of_ble_eq_true rfl) (Nat.le_of_ble_eq_true rfl) (Nat.le_of_ble_eq_true rfl) dX2_init_14 (fun q2 H3 hP hD hS => ?_)
  have hP : va_P (dC, dI) vwCl [(h, .inr (2, [.int 0, .int 0, .int 0, .int 0, .int 0, .int 0, .int 0, .int 0, .ref z, .null, .null])), (q2, .inl (cI, 26, .inl (fun _ => 0)))] H3 := hP
  have hD : va_D A [(h, .inr (2, [.int 0, .int 0, .int 0, .int 0, .int 0, .int 0, .int 0, .int 0, .ref z, .null, .null])), (q2, .inl (cI, 26, .inl (fun _ => 0)))] := hD
  refine W.widen (k := 1) (n := 26) (by decide) (by decide) ?_
  refine va_putF (D := (dC, dI)) (ci := 2) (v := .ref q2) (ty := .array .int) (C := RX2) (T := TX2) (N := 11) hx hb hts in_p_init_X2 tyX2 tyX2_ok nmX2 hown hK hP hD hS 0 rfl rfl 9 (by decide) (hts (.fieldLink RX2 18 "DepotMarch$Party" "names" "[I") (by decide +kernel)) (fun _ h9 => h9) rfl hin rfl (by decide +kernel) rfl rfl (Nat.le_of_ble_eq_true rfl) dX2_init_16 (fun H4 locs hP hD hS => ?_)
  have hP : va_P (dC, dI) vwCl [(h, .inr (2, [.int 0, .int 0, .int 0, .int 0, .int 0, .int 0, .int 0, .int 0, .ref z, .ref q2, .null])), (q2, .inl (cI, 26, .inl (fun _ => 0)))] H4 := hP
  have hD : va_D A [(h, .inr (2, [.int 0, .int 0, .int 0, .int 0, .int 0, .int 0, .int 0, .int 0, .ref z, .ref q2, .null])), (q2, .inl (cI, 26, .inl (fun _ => 0)))] := hD
  refine lv_aload_n hx hb dX2_init_19 rfl (lv_at hl 0 rfl) ?_
  refine lv_bipush (v := 20) hx hb dX2_init_20 (by decide) ?_
  refine n_newa (atype := .int) (ty := .int) (cI := cI) (a0 := (20, .inl (fun _ => 0))) hx hb (hts (.arrayClass .int) (by decide +kernel)) rfl ra_int hK hP hD hS hA 0 rfl (fun _ => rfl) (by decide) rfl (Nat.le_of_ble_eq_true rfl) (Nat.le_of_ble_eq_true rfl) (Nat.le_of_ble_eq_true rfl) dX2_init_22 (fun q5 H6 hP hD hS => ?_)
  have hP : va_P (dC, dI) vwCl [(h, .inr (2, [.int 0, .int 0, .int 0, .int 0, .int 0, .int 0, .int 0, .int 0, .ref z, .ref q2, .null])), (q2, .inl (cI, 26, .inl (fun _ => 0))), (q5, .inl (cI, 20, .inl (fun _ => 0)))] H6 := hP
  have hD : va_D A [(h, .inr (2, [.int 0, .int 0, .int 0, .int 0, .int 0, .int 0, .int 0, .int 0, .ref z, .ref q2, .null])), (q2, .inl (cI, 26, .inl (fun _ => 0))), (q5, .inl (cI, 20, .inl (fun _ => 0)))] := hD
  refine W.widen (k := 2) (n := 46) (by decide) (by decide) ?_
  refine va_putF (D := (dC, dI)) (ci := 2) (v := .ref q5) (ty := .array .int) (C := RX2) (T := TX2) (N := 11) hx hb hts in_p_init_X2 tyX2 tyX2_ok nmX2 hown hK hP hD hS 0 rfl rfl 10 (by decide) (hts (.fieldLink RX2 21 "DepotMarch$Party" "eaten" "[I") (by decide +kernel)) (fun _ h9 => h9) rfl hin rfl (by decide +kernel) rfl rfl (Nat.le_of_ble_eq_true rfl) dX2_init_24 (fun H7 locs hP hD hS => ?_)
  have hP : va_P (dC, dI) vwCl [(h, .inr (2, [.int 0, .int 0, .int 0, .int 0, .int 0, .int 0, .int 0, .int 0, .ref z, .ref q2, .ref q5])), (q2, .inl (cI, 26, .inl (fun _ => 0))), (q5, .inl (cI, 20, .inl (fun _ => 0)))] H7 := hP
  have hD : va_D A [(h, .inr (2, [.int 0, .int 0, .int 0, .int 0, .int 0, .int 0, .int 0, .int 0, .ref z, .ref q2, .ref q5])), (q2, .inl (cI, 26, .inl (fun _ => 0))), (q5, .inl (cI, 20, .inl (fun _ => 0)))] := hD
  refine lv_aload_n hx hb dX2_init_27 rfl (lv_at hl 0 rfl) ?_
  refine lv_iload_n hx hb dX2_init_28 rfl (lv_at hl 1 rfl) ?_
  refine va_putF (D := (dC, dI)) (ci := 2) (v := .int i) (ty := .int) (C := RX2) (T := TX2) (N := 11) hx hb hts in_p_init_X2 tyX2 tyX2_ok nmX2 hown hK hP hD hS 0 rfl rfl 0 (by decide) (hts (.fieldLink RX2 24 "DepotMarch$Party" "number" "I") (by decide +kernel)) (fun _ h9 => h9) rfl hin rfl (by decide +kernel) rfl rfl (Nat.le_of_ble_eq_true rfl) dX2_init_29 (fun H8 locs hP hD hS => ?_)
  have hP : va_P (dC, dI) vwCl [(h, .inr (2, [.int i, .int 0, .int 0, .int 0, .int 0, .int 0, .int 0, .int 0, .ref z, .ref q2, .ref q5])), (q2, .inl (cI, 26, .inl (fun _ => 0))), (q5, .inl (cI, 20, .inl (fun _ => 0)))] H8 := hP
  have hD : va_D A [(h, .inr (2, [.int i, .int 0, .int 0, .int 0, .int 0, .int 0, .int 0, .int 0, .ref z, .ref q2, .ref q5])), (q2, .inl (cI, 26, .inl (fun _ => 0))), (q5, .inl (cI, 20, .inl (fun _ => 0)))] := hD
  have hP9 := hP.sub (ws' := [(h, .inr (2, [.int i, .int 0, .int 0, .int 0, .int 0, .int 0, .int 0, .int 0, .ref z, .ref q2, .ref q5])), (q2, .inl (cI, 26, .inl (fun _ => 0))), (q5, .inl (cI, 20, .inl (fun _ => 0)))]) [0, 1, 2] rfl
  have hD9 := hD.sub (ws' := [(h, .inr (2, [.int i, .int 0, .int 0, .int 0, .int 0, .int 0, .int 0, .int 0, .ref z, .ref q2, .ref q5])), (q2, .inl (cI, 26, .inl (fun _ => 0))), (q5, .inl (cI, 20, .inl (fun _ => 0)))]) [0, 1, 2] (by decide) rfl
  refine W.widen (k := 2) (n := 46) (by decide) (by decide) ?_
  exact W.vret hx hb hr (fun t ht hW => ⟨⟨(fun k => [0, q2, q5].getD k 0), rfl, trivial, by rw [ht]; exact hP9, hD9⟩, hS.F ht⟩) hS.2.2 dX2_init_32

def vs_r_init : List Cond := [.code yX4_init cX4_init 1 none, .methodLink RX4 3 objectInit, .instanceMethod objectInit, .code objectInit ⟨#[0xb1]⟩ 1 none, .arrayClass .int, .fieldLink RX4 9 "DepotMarch$Rows" "first" "[I", .fieldLink RX4 15 "DepotMarch$Rows" "last" "[I", .fieldLink RX4 18 "DepotMarch$Rows" "amounts" "[I", .fieldLink RX4 21 "DepotMarch$Rows" "lotOf" "[I", .fieldLink RX4 24 "DepotMarch$Rows" "rations" "[I", .fieldLink RX4 27 "DepotMarch$Rows" "next" "[I", .fieldLink RX4 30 "DepotMarch$Rows" "free" "I", .code yJ7_fill_53178 cJ7_fill_53178 4 none, .methodLink RX4 34 yJ7_fill_53178, .static yJ7_fill_53178, .initialized RJ7] ++ (wsX40)
theorem in_r_init_X4 : ∀ w ∈ u_ws RX4 TX4 8, w ∈ vs_r_init := fun w h => List.mem_append_right _ (h)
set_option maxRecDepth 20000 in
theorem gg_r_init_fill : GoodIn vs_r_init vs_fill := goodIn_r _ [12] (by decide +kernel) (by decide +kernel)
set_option maxRecDepth 20000 in
theorem g34_r_init_fill : GoodIn vs_r_init (va_wsS RX4 34 yJ7_fill_53178 vs_fill) := goodIn_app (goodIn_of _ (by decide +kernel)) gg_r_init_fill
set_option maxHeartbeats 4000000 in
set_option maxRecDepth 100000 in
theorem c_r_init (l : Launch) (dC : Nat → ClassId) (dI : Nat → Nat → Nat) (cI cZ cB cJ cP cW : ClassId) (h : Nat) (sz : Nat) : Met l yX4_init vs_r_init ({ frames := 3, cells := 6, slots := 258, locals := 180 }) (va_Pc [.ref h] (fun U => U.heap.size = sz ∧ EV dC dI cI cZ cB cJ cP cW U ∧ va_P (dC, dI) vwCl [(h, .inr (4, [.null, .null, .null, .null, .null, .null, .int 0, .int 0]))] U.heap ∧ va_D (fun _ => True) [(h, .inr (4, [.null, .null, .null, .null, .null, .null, .int 0, .int 0]))])) (va_Qv (fun (u : Nat → Nat) => True) (fun u t => va_P (dC, dI) vwCl [(h, .inr (4, [.ref (u 2), .ref (u 3), .ref (u 4), .ref (u 5), .ref (u 6), .ref (u 7), .int 0, .int (-1)])), ((u 2), .inl (cI, 22, .inl (fun _ => (-1)))), ((u 3), .inl (cI, 22, .inl (fun _ => (-1)))), ((u 4), .inl (cI, 22, .inl (fun _ => 0))), ((u 5), .inl (cI, 64, .inl (fun _ => 0))), ((u 6), .inl (cI, 64, .inl (fun _ => 0))), ((u 7), .inl (cI, 64, .inl (fun _ => 0)))] t.heap ∧ va_D (va_A [(h, .inr (4, [.null, .null, .null, .null, .null, .null, .int 0, .int 0]))] sz) [(h, .inr (4, [.ref (u 2), .ref (u 3), .ref (u 4), .ref (u 5), .ref (u 6), .ref (u 7), .int 0, .int (-1)])), ((u 2), .inl (cI, 22, .inl (fun _ => (-1)))), ((u 3), .inl (cI, 22, .inl (fun _ => (-1)))), ((u 4), .inl (cI, 22, .inl (fun _ => 0))), ((u 5), .inl (cI, 64, .inl (fun _ => 0))), ((u 6), .inl (cI, 64, .inl (fun _ => 0))), ((u 7), .inl (cI, 64, .inl (fun _ => 0)))]) (va_A [(h, .inr (4, [.null, .null, .null, .null, .null, .null, .int 0, .int 0]))] sz)) 6 258 (va_A [(h, .inr (4, [.null, .null, .null, .null, .null, .null, .int 0, .int 0]))] sz) := by
  refine Met.ofW (cc := cX4_init) (maxL := 1) (ret := none) (by decide) rfl ?_
  intro p e s m args below meth c s₁ B hml hv
  obtain ⟨rfl, hsz, hE, hP, hD0⟩ := hv
  have hx := B.exec
  have hb := B.bytes
  have hr := B.returns
  have hts := atoms_spec (ws := vs_r_init) B.pre
  have hown : s.vm.findClass RX4 = some m.cls := findClass_of_methodNamed B.named
  have hlocks := B.notSynchronized
  have hK := hE.2
  have hin : meth.name = "<init>" := (name_of_methodNamed B.named B.method).1
  subst hsz
  have hD := hD0.self (sz := s.heap.size)
  generalize hAe : va_A [(h, .inr (4, [.null, .null, .null, .null, .null, .null, .int 0, .int 0]))] s.heap.size = A at hD ⊢
  have hA : ∀ q : Nat, s.heap.size ≤ q → A q := fun q h => by rw [← hAe]; exact Or.inr h
  have hS : va_S A s.heap s.heap [] := va_S.rf
  have hl := lv_entry ([.ref h]) (n := 1) (Nat.le_of_ble_eq_true rfl)
  rw [lg_entry_eq]
  generalize (lg_sl ([.ref h]) ++ List.replicate (1 - (lg_sl ([.ref h])).length) Slot.unset).toArray = ls at hl ⊢
  have hl : lv_has ls 1 [(0, .ref h)] := hl
  refine lv_aload_n hx hb dX4_init_0 rfl (lv_at hl 0 rfl) ?_
  refine W.objInit hx hb hown (hts (.methodLink RX4 3 objectInit) (by decide +kernel)) (hts (.instanceMethod objectInit) (by decide +kernel)) (hts (.code objectInit ⟨#[0xb1]⟩ 1 none) (by decide +kernel)) rfl (by rw [hml]; exact hl.1) rfl dX4_init_1 (Nat.le_of_ble_eq_true rfl) (Nat.le_of_ble_eq_true rfl) ?_
  refine W.eq (g2 := F0 m 4 ls []) rfl ?_
  refine lv_aload_n hx hb dX4_init_4 rfl (lv_at hl 0 rfl) ?_
  refine lv_bipush (v := 22) hx hb dX4_init_5 (by decide) ?_
  refine n_newa (atype := .int) (ty := .int) (cI := cI) (a0 := (22, .inl (fun _ => 0))) hx hb (hts (.arrayClass .int) (by decide +kernel)) rfl ra_int hK hP hD hS hA 0 rfl (fun _ => rfl) (by decide) rfl (Nat.le_of_ble_eq_true rfl) (Nat.le_of_ble_eq_true rfl) (Nat.le_of_ble_eq_true rfl) dX4_init_7 (fun q1 H2 hP hD hS => ?_)
  have hP : va_P (dC, dI) vwCl [(h, .inr (4, [.null, .null, .null, .null, .null, .null, .int 0, .int 0])), (q1, .inl (cI, 22, .inl (fun _ => 0)))] H2 := hP
  have hD : va_D A [(h, .inr (4, [.null, .null, .null, .null, .null, .null, .int 0, .int 0])), (q1, .inl (cI, 22, .inl (fun _ => 0)))] := hD
  refine W.widen (k := 1) (n := 22) (by decide) (by decide) ?_
  refine va_putF (D := (dC, dI)) (ci := 4) (v := .ref q1) (ty := .array .int) (C := RX4) (T := TX4) (N := 8) hx hb hts in_r_init_X4 tyX4 tyX4_ok nmX4 hown hK hP hD hS 0 rfl rfl 0 (by decide) (hts (.fieldLink RX4 9 "DepotMarch$Rows" "first" "[I") (by decide +kernel)) (fun _ h9 => h9) rfl hin rfl (by decide +kernel) rfl rfl (Nat.le_of_ble_eq_true rfl) dX4_init_9 (fun H3 locs hP hD hS => ?_)
  have hP : va_P (dC, dI) vwCl [(h, .inr (4, [.ref q1, .null, .null, .null, .null, .null, .int 0, .int 0])), (q1, .inl (cI, 22, .inl (fun _ => 0)))] H3 := hP
  have hD : va_D A [(h, .inr (4, [.ref q1, .null, .null, .null, .null, .null, .int 0, .int 0])), (q1, .inl (cI, 22, .inl (fun _ => 0)))] := hD
  refine lv_aload_n hx hb dX4_init_12 rfl (lv_at hl 0 rfl) ?_
  refine lv_bipush (v := 22) hx hb dX4_init_13 (by decide) ?_
  refine n_newa (atype := .int) (ty := .int) (cI := cI) (a0 := (22, .inl (fun _ => 0))) hx hb (hts (.arrayClass .int) (by decide +kernel)) rfl ra_int hK hP hD hS hA 0 rfl (fun _ => rfl) (by decide) rfl (Nat.le_of_ble_eq_true rfl) (Nat.le_of_ble_eq_true rfl) (Nat.le_of_ble_eq_true rfl) dX4_init_15 (fun q4 H5 hP hD hS => ?_)
  have hP : va_P (dC, dI) vwCl [(h, .inr (4, [.ref q1, .null, .null, .null, .null, .null, .int 0, .int 0])), (q1, .inl (cI, 22, .inl (fun _ => 0))), (q4, .inl (cI, 22, .inl (fun _ => 0)))] H5 := hP
  have hD : va_D A [(h, .inr (4, [.ref q1, .null, .null, .null, .null, .null, .int 0, .int 0])), (q1, .inl (cI, 22, .inl (fun _ => 0))), (q4, .inl (cI, 22, .inl (fun _ => 0)))] := hD
  refine W.widen (k := 2) (n := 44) (by decide) (by decide) ?_
  refine va_putF (D := (dC, dI)) (ci := 4) (v := .ref q4) (ty := .array .int) (C := RX4) (T := TX4) (N := 8) hx hb hts in_r_init_X4 tyX4 tyX4_ok nmX4 hown hK hP hD hS 0 rfl rfl 1 (by decide) (hts (.fieldLink RX4 15 "DepotMarch$Rows" "last" "[I") (by decide +kernel)) (fun _ h9 => h9) rfl hin rfl (by decide +kernel) rfl rfl (Nat.le_of_ble_eq_true rfl) dX4_init_17 (fun H6 locs hP hD hS => ?_)
  have hP : va_P (dC, dI) vwCl [(h, .inr (4, [.ref q1, .ref q4, .null, .null, .null, .null, .int 0, .int 0])), (q1, .inl (cI, 22, .inl (fun _ => 0))), (q4, .inl (cI, 22, .inl (fun _ => 0)))] H6 := hP
  have hD : va_D A [(h, .inr (4, [.ref q1, .ref q4, .null, .null, .null, .null, .int 0, .int 0])), (q1, .inl (cI, 22, .inl (fun _ => 0))), (q4, .inl (cI, 22, .inl (fun _ => 0)))] := hD
  refine lv_aload_n hx hb dX4_init_20 rfl (lv_at hl 0 rfl) ?_
  refine lv_bipush (v := 22) hx hb dX4_init_21 (by decide) ?_
  refine n_newa (atype := .int) (ty := .int) (cI := cI) (a0 := (22, .inl (fun _ => 0))) hx hb (hts (.arrayClass .int) (by decide +kernel)) rfl ra_int hK hP hD hS hA 0 rfl (fun _ => rfl) (by decide) rfl (Nat.le_of_ble_eq_true rfl) (Nat.le_of_ble_eq_true rfl) (Nat.le_of_ble_eq_true rfl) dX4_init_23 (fun q7 H8 hP hD hS => ?_)
  have hP : va_P (dC, dI) vwCl [(h, .inr (4, [.ref q1, .ref q4, .null, .null, .null, .null, .int 0, .int 0])), (q1, .inl (cI, 22, .inl (fun _ => 0))), (q4, .inl (cI, 22, .inl (fun _ => 0))), (q7, .inl (cI, 22, .inl (fun _ => 0)))] H8 := hP
  have hD : va_D A [(h, .inr (4, [.ref q1, .ref q4, .null, .null, .null, .null, .int 0, .int 0])), (q1, .inl (cI, 22, .inl (fun _ => 0))), (q4, .inl (cI, 22, .inl (fun _ => 0))), (q7, .inl (cI, 22, .inl (fun _ => 0)))] := hD
  refine W.widen (k := 3) (n := 66) (by decide) (by decide) ?_
  refine va_putF (D := (dC, dI)) (ci := 4) (v := .ref q7) (ty := .array .int) (C := RX4) (T := TX4) (N := 8) hx hb hts in_r_init_X4 tyX4 tyX4_ok nmX4 hown hK hP hD hS 0 rfl rfl 2 (by decide) (hts (.fieldLink RX4 18 "DepotMarch$Rows" "amounts" "[I") (by decide +kernel)) (fun _ h9 => h9) rfl hin rfl (by decide +kernel) rfl rfl (Nat.le_of_ble_eq_true rfl) dX4_init_25 (fun H9 locs hP hD hS => ?_)
  have hP : va_P (dC, dI) vwCl [(h, .inr (4, [.ref q1, .ref q4, .ref q7, .null, .null, .null, .int 0, .int 0])), (q1, .inl (cI, 22, .inl (fun _ => 0))), (q4, .inl (cI, 22, .inl (fun _ => 0))), (q7, .inl (cI, 22, .inl (fun _ => 0)))] H9 := hP
  have hD : va_D A [(h, .inr (4, [.ref q1, .ref q4, .ref q7, .null, .null, .null, .int 0, .int 0])), (q1, .inl (cI, 22, .inl (fun _ => 0))), (q4, .inl (cI, 22, .inl (fun _ => 0))), (q7, .inl (cI, 22, .inl (fun _ => 0)))] := hD
  refine lv_aload_n hx hb dX4_init_28 rfl (lv_at hl 0 rfl) ?_
  refine lv_bipush (v := 64) hx hb dX4_init_29 (by decide) ?_
  refine n_newa (atype := .int) (ty := .int) (cI := cI) (a0 := (64, .inl (fun _ => 0))) hx hb (hts (.arrayClass .int) (by decide +kernel)) rfl ra_int hK hP hD hS hA 0 rfl (fun _ => rfl) (by decide) rfl (Nat.le_of_ble_eq_true rfl) (Nat.le_of_ble_eq_true rfl) (Nat.le_of_ble_eq_true rfl) dX4_init_31 (fun q10 H11 hP hD hS => ?_)
  have hP : va_P (dC, dI) vwCl [(h, .inr (4, [.ref q1, .ref q4, .ref q7, .null, .null, .null, .int 0, .int 0])), (q1, .inl (cI, 22, .inl (fun _ => 0))), (q4, .inl (cI, 22, .inl (fun _ => 0))), (q7, .inl (cI, 22, .inl (fun _ => 0))), (q10, .inl (cI, 64, .inl (fun _ => 0)))] H11 := hP
  have hD : va_D A [(h, .inr (4, [.ref q1, .ref q4, .ref q7, .null, .null, .null, .int 0, .int 0])), (q1, .inl (cI, 22, .inl (fun _ => 0))), (q4, .inl (cI, 22, .inl (fun _ => 0))), (q7, .inl (cI, 22, .inl (fun _ => 0))), (q10, .inl (cI, 64, .inl (fun _ => 0)))] := hD
  refine W.widen (k := 4) (n := 130) (by decide) (by decide) ?_
  refine va_put (D := (dC, dI)) (ci := 4) (v := .ref q10) (ty := .array .int) (C := RX4) (T := TX4) (N := 8) hx hb hts in_r_init_X4 tyX4 tyX4_ok nmX4 hown hK hP hD hS 0 rfl rfl 3 (by decide) (hts (.fieldLink RX4 21 "DepotMarch$Rows" "lotOf" "[I") (by decide +kernel)) (fun _ h9 => h9) rfl (by decide +kernel) rfl rfl (Nat.le_of_ble_eq_true rfl) dX4_init_33 (fun H12 locs hP hD hS => ?_)
  have hP : va_P (dC, dI) vwCl [(h, .inr (4, [.ref q1, .ref q4, .ref q7, .ref q10, .null, .null, .int 0, .int 0])), (q1, .inl (cI, 22, .inl (fun _ => 0))), (q4, .inl (cI, 22, .inl (fun _ => 0))), (q7, .inl (cI, 22, .inl (fun _ => 0))), (q10, .inl (cI, 64, .inl (fun _ => 0)))] H12 := hP
  have hD : va_D A [(h, .inr (4, [.ref q1, .ref q4, .ref q7, .ref q10, .null, .null, .int 0, .int 0])), (q1, .inl (cI, 22, .inl (fun _ => 0))), (q4, .inl (cI, 22, .inl (fun _ => 0))), (q7, .inl (cI, 22, .inl (fun _ => 0))), (q10, .inl (cI, 64, .inl (fun _ => 0)))] := hD
  refine lv_aload_n hx hb dX4_init_36 rfl (lv_at hl 0 rfl) ?_
  refine lv_bipush (v := 64) hx hb dX4_init_37 (by decide) ?_
  refine n_newa (atype := .int) (ty := .int) (cI := cI) (a0 := (64, .inl (fun _ => 0))) hx hb (hts (.arrayClass .int) (by decide +kernel)) rfl ra_int hK hP hD hS hA 0 rfl (fun _ => rfl) (by decide) rfl (Nat.le_of_ble_eq_true rfl) (Nat.le_of_ble_eq_true rfl) (Nat.le_of_ble_eq_true rfl) dX4_init_39 (fun q13 H14 hP hD hS => ?_)
  have hP : va_P (dC, dI) vwCl [(h, .inr (4, [.ref q1, .ref q4, .ref q7, .ref q10, .null, .null, .int 0, .int 0])), (q1, .inl (cI, 22, .inl (fun _ => 0))), (q4, .inl (cI, 22, .inl (fun _ => 0))), (q7, .inl (cI, 22, .inl (fun _ => 0))), (q10, .inl (cI, 64, .inl (fun _ => 0))), (q13, .inl (cI, 64, .inl (fun _ => 0)))] H14 := hP
  have hD : va_D A [(h, .inr (4, [.ref q1, .ref q4, .ref q7, .ref q10, .null, .null, .int 0, .int 0])), (q1, .inl (cI, 22, .inl (fun _ => 0))), (q4, .inl (cI, 22, .inl (fun _ => 0))), (q7, .inl (cI, 22, .inl (fun _ => 0))), (q10, .inl (cI, 64, .inl (fun _ => 0))), (q13, .inl (cI, 64, .inl (fun _ => 0)))] := hD
  refine W.widen (k := 5) (n := 194) (by decide) (by decide) ?_
  refine va_put (D := (dC, dI)) (ci := 4) (v := .ref q13) (ty := .array .int) (C := RX4) (T := TX4) (N := 8) hx hb hts in_r_init_X4 tyX4 tyX4_ok nmX4 hown hK hP hD hS 0 rfl rfl 4 (by decide) (hts (.fieldLink RX4 24 "DepotMarch$Rows" "rations" "[I") (by decide +kernel)) (fun _ h9 => h9) rfl (by decide +kernel) rfl rfl (Nat.le_of_ble_eq_true rfl) dX4_init_41 (fun H15 locs hP hD hS => ?_)
  have hP : va_P (dC, dI) vwCl [(h, .inr (4, [.ref q1, .ref q4, .ref q7, .ref q10, .ref q13, .null, .int 0, .int 0])), (q1, .inl (cI, 22, .inl (fun _ => 0))), (q4, .inl (cI, 22, .inl (fun _ => 0))), (q7, .inl (cI, 22, .inl (fun _ => 0))), (q10, .inl (cI, 64, .inl (fun _ => 0))), (q13, .inl (cI, 64, .inl (fun _ => 0)))] H15 := hP
  have hD : va_D A [(h, .inr (4, [.ref q1, .ref q4, .ref q7, .ref q10, .ref q13, .null, .int 0, .int 0])), (q1, .inl (cI, 22, .inl (fun _ => 0))), (q4, .inl (cI, 22, .inl (fun _ => 0))), (q7, .inl (cI, 22, .inl (fun _ => 0))), (q10, .inl (cI, 64, .inl (fun _ => 0))), (q13, .inl (cI, 64, .inl (fun _ => 0)))] := hD
  refine lv_aload_n hx hb dX4_init_44 rfl (lv_at hl 0 rfl) ?_
  refine lv_bipush (v := 64) hx hb dX4_init_45 (by decide) ?_
  refine n_newa (atype := .int) (ty := .int) (cI := cI) (a0 := (64, .inl (fun _ => 0))) hx hb (hts (.arrayClass .int) (by decide +kernel)) rfl ra_int hK hP hD hS hA 0 rfl (fun _ => rfl) (by decide) rfl (Nat.le_of_ble_eq_true rfl) (Nat.le_of_ble_eq_true rfl) (Nat.le_of_ble_eq_true rfl) dX4_init_47 (fun q16 H17 hP hD hS => ?_)
  have hP : va_P (dC, dI) vwCl [(h, .inr (4, [.ref q1, .ref q4, .ref q7, .ref q10, .ref q13, .null, .int 0, .int 0])), (q1, .inl (cI, 22, .inl (fun _ => 0))), (q4, .inl (cI, 22, .inl (fun _ => 0))), (q7, .inl (cI, 22, .inl (fun _ => 0))), (q10, .inl (cI, 64, .inl (fun _ => 0))), (q13, .inl (cI, 64, .inl (fun _ => 0))), (q16, .inl (cI, 64, .inl (fun _ => 0)))] H17 := hP
  have hD : va_D A [(h, .inr (4, [.ref q1, .ref q4, .ref q7, .ref q10, .ref q13, .null, .int 0, .int 0])), (q1, .inl (cI, 22, .inl (fun _ => 0))), (q4, .inl (cI, 22, .inl (fun _ => 0))), (q7, .inl (cI, 22, .inl (fun _ => 0))), (q10, .inl (cI, 64, .inl (fun _ => 0))), (q13, .inl (cI, 64, .inl (fun _ => 0))), (q16, .inl (cI, 64, .inl (fun _ => 0)))] := hD
  refine W.widen (k := 6) (n := 258) (by decide) (by decide) ?_
  refine va_put (D := (dC, dI)) (ci := 4) (v := .ref q16) (ty := .array .int) (C := RX4) (T := TX4) (N := 8) hx hb hts in_r_init_X4 tyX4 tyX4_ok nmX4 hown hK hP hD hS 0 rfl rfl 5 (by decide) (hts (.fieldLink RX4 27 "DepotMarch$Rows" "next" "[I") (by decide +kernel)) (fun _ h9 => h9) rfl (by decide +kernel) rfl rfl (Nat.le_of_ble_eq_true rfl) dX4_init_49 (fun H18 locs hP hD hS => ?_)
  have hP : va_P (dC, dI) vwCl [(h, .inr (4, [.ref q1, .ref q4, .ref q7, .ref q10, .ref q13, .ref q16, .int 0, .int 0])), (q1, .inl (cI, 22, .inl (fun _ => 0))), (q4, .inl (cI, 22, .inl (fun _ => 0))), (q7, .inl (cI, 22, .inl (fun _ => 0))), (q10, .inl (cI, 64, .inl (fun _ => 0))), (q13, .inl (cI, 64, .inl (fun _ => 0))), (q16, .inl (cI, 64, .inl (fun _ => 0)))] H18 := hP
  have hD : va_D A [(h, .inr (4, [.ref q1, .ref q4, .ref q7, .ref q10, .ref q13, .ref q16, .int 0, .int 0])), (q1, .inl (cI, 22, .inl (fun _ => 0))), (q4, .inl (cI, 22, .inl (fun _ => 0))), (q7, .inl (cI, 22, .inl (fun _ => 0))), (q10, .inl (cI, 64, .inl (fun _ => 0))), (q13, .inl (cI, 64, .inl (fun _ => 0))), (q16, .inl (cI, 64, .inl (fun _ => 0)))] := hD
  refine lv_aload_n hx hb dX4_init_52 rfl (lv_at hl 0 rfl) ?_
  refine lv_iconst (v := (-1)) hx hb dX4_init_53 (by decide) ?_
  refine va_put (D := (dC, dI)) (ci := 4) (v := .int (-1)) (ty := .int) (C := RX4) (T := TX4) (N := 8) hx hb hts in_r_init_X4 tyX4 tyX4_ok nmX4 hown hK hP hD hS 0 rfl rfl 7 (by decide) (hts (.fieldLink RX4 30 "DepotMarch$Rows" "free" "I") (by decide +kernel)) (fun _ h9 => h9) rfl (by decide +kernel) rfl rfl (Nat.le_of_ble_eq_true rfl) dX4_init_54 (fun H19 locs hP hD hS => ?_)
  have hP : va_P (dC, dI) vwCl [(h, .inr (4, [.ref q1, .ref q4, .ref q7, .ref q10, .ref q13, .ref q16, .int 0, .int (-1)])), (q1, .inl (cI, 22, .inl (fun _ => 0))), (q4, .inl (cI, 22, .inl (fun _ => 0))), (q7, .inl (cI, 22, .inl (fun _ => 0))), (q10, .inl (cI, 64, .inl (fun _ => 0))), (q13, .inl (cI, 64, .inl (fun _ => 0))), (q16, .inl (cI, 64, .inl (fun _ => 0)))] H19 := hP
  have hD : va_D A [(h, .inr (4, [.ref q1, .ref q4, .ref q7, .ref q10, .ref q13, .ref q16, .int 0, .int (-1)])), (q1, .inl (cI, 22, .inl (fun _ => 0))), (q4, .inl (cI, 22, .inl (fun _ => 0))), (q7, .inl (cI, 22, .inl (fun _ => 0))), (q10, .inl (cI, 64, .inl (fun _ => 0))), (q13, .inl (cI, 64, .inl (fun _ => 0))), (q16, .inl (cI, 64, .inl (fun _ => 0)))] := hD
  refine lv_aload_n hx hb dX4_init_57 rfl (lv_at hl 0 rfl) ?_
  refine va_get (D := (dC, dI)) (ci := 4) (v := .ref q1) (C := RX4) (T := TX4) (N := 8) hx hb hts in_r_init_X4 hown hK hP 0 rfl rfl 0 (by decide) (hts (.fieldLink RX4 9 "DepotMarch$Rows" "first" "[I") (by decide +kernel)) (fun _ h9 => h9) rfl dX4_init_58 ?_
  refine lv_iconst (v := (-1)) hx hb dX4_init_61 (by decide) ?_
  have hPc := hP.sub (ws' := [(q1, .inl (cI, 22, .inl (fun _ => 0)))]) [1] rfl
  have hDc := hD.sub (ws' := [(q1, .inl (cI, 22, .inl (fun _ => 0)))]) [1] (by decide) rfl
  have hFc := va_free (wc := [(q1, .inl (cI, 22, .inl (fun _ => 0)))]) hD hS hA [1] rfl
  refine va_callv (va_runS (As := [.ref q1, .int (-1)]) (rest := []) ⟨hx, hb, hml, hown, hts⟩ ((c_fill l dC dI cI cZ cB cJ cP cW q1 22 (fun _ => 0) (-1) H19.size) (by decide)) (va_cwS 2 hts g34_r_init_fill rfl rfl rfl (by decide +kernel) ⟨Nat.le_of_ble_eq_true rfl, Nat.le_of_ble_eq_true rfl⟩) ⟨fbM, fun U hU hW => ⟨rfl, by rw [hU], hE.warm hW, by rw [hU]; exact hPc, hDc.weaken (fun _ _ _ _ => trivial)⟩⟩ rfl rfl hl.1 rfl (lv_room (Nat.le_of_ble_eq_true rfl)) dX4_init_62 ⟨Nat.le_of_ble_eq_true rfl, Nat.le_of_ble_eq_true rfl⟩) hS (fun q _ h => hFc q h) hFc (fun u21 t H22 locs ht hvm hr20 hB hz1 hk1 hS => ?_)
  obtain ⟨hP1, hD1⟩ := hB
  rw [ht] at hP1
  obtain ⟨hP, hD⟩ := va_join (wr := [(h, .inr (4, [.ref q1, .ref q4, .ref q7, .ref q10, .ref q13, .ref q16, .int 0, .int (-1)])), (q4, .inl (cI, 22, .inl (fun _ => 0))), (q7, .inl (cI, 22, .inl (fun _ => 0))), (q10, .inl (cI, 64, .inl (fun _ => 0))), (q13, .inl (cI, 64, .inl (fun _ => 0))), (q16, .inl (cI, 64, .inl (fun _ => 0)))]) (w1 := [(q1, .inl (cI, 22, .inl (fun _ => (-1))))]) hP hD [1] [0, 2, 3, 4, 5, 6] rfl rfl (by decide) (by decide) hk1 hFc hP1 hD1
  have hP : va_P (dC, dI) vwCl [(h, .inr (4, [.ref q1, .ref q4, .ref q7, .ref q10, .ref q13, .ref q16, .int 0, .int (-1)])), (q4, .inl (cI, 22, .inl (fun _ => 0))), (q7, .inl (cI, 22, .inl (fun _ => 0))), (q10, .inl (cI, 64, .inl (fun _ => 0))), (q13, .inl (cI, 64, .inl (fun _ => 0))), (q16, .inl (cI, 64, .inl (fun _ => 0))), (q1, .inl (cI, 22, .inl (fun _ => (-1))))] H22 := hP
  have hD : va_D A [(h, .inr (4, [.ref q1, .ref q4, .ref q7, .ref q10, .ref q13, .ref q16, .int 0, .int (-1)])), (q4, .inl (cI, 22, .inl (fun _ => 0))), (q7, .inl (cI, 22, .inl (fun _ => 0))), (q10, .inl (cI, 64, .inl (fun _ => 0))), (q13, .inl (cI, 64, .inl (fun _ => 0))), (q16, .inl (cI, 64, .inl (fun _ => 0))), (q1, .inl (cI, 22, .inl (fun _ => (-1))))] := hD
  refine lv_aload_n hx hb dX4_init_65 rfl (lv_at hl 0 rfl) ?_
  refine va_get (D := (dC, dI)) (ci := 4) (v := .ref q4) (C := RX4) (T := TX4) (N := 8) hx hb hts in_r_init_X4 hown hK hP 0 rfl rfl 1 (by decide) (hts (.fieldLink RX4 15 "DepotMarch$Rows" "last" "[I") (by decide +kernel)) (fun _ h9 => h9) rfl dX4_init_66 ?_
  refine lv_iconst (v := (-1)) hx hb dX4_init_69 (by decide) ?_
  have hPc := hP.sub (ws' := [(q4, .inl (cI, 22, .inl (fun _ => 0)))]) [1] rfl
  have hDc := hD.sub (ws' := [(q4, .inl (cI, 22, .inl (fun _ => 0)))]) [1] (by decide) rfl
  have hFc := va_free (wc := [(q4, .inl (cI, 22, .inl (fun _ => 0)))]) hD hS hA [1] rfl
  refine va_callv (va_runS (As := [.ref q4, .int (-1)]) (rest := []) ⟨hx, hb, hml, hown, hts⟩ ((c_fill l dC dI cI cZ cB cJ cP cW q4 22 (fun _ => 0) (-1) H22.size) (by decide)) (va_cwS 2 hts g34_r_init_fill rfl rfl rfl (by decide +kernel) ⟨Nat.le_of_ble_eq_true rfl, Nat.le_of_ble_eq_true rfl⟩) ⟨fbM, fun U hU hW => ⟨rfl, by rw [hU], hE.warm hW, by rw [hU]; exact hPc, hDc.weaken (fun _ _ _ _ => trivial)⟩⟩ rfl rfl hl.1 rfl (lv_room (Nat.le_of_ble_eq_true rfl)) dX4_init_70 ⟨Nat.le_of_ble_eq_true rfl, Nat.le_of_ble_eq_true rfl⟩) hS (fun q _ h => hFc q h) hFc (fun u24 t H25 locs ht hvm hr23 hB hz1 hk1 hS => ?_)
  obtain ⟨hP1, hD1⟩ := hB
  rw [ht] at hP1
  obtain ⟨hP, hD⟩ := va_join (wr := [(h, .inr (4, [.ref q1, .ref q4, .ref q7, .ref q10, .ref q13, .ref q16, .int 0, .int (-1)])), (q7, .inl (cI, 22, .inl (fun _ => 0))), (q10, .inl (cI, 64, .inl (fun _ => 0))), (q13, .inl (cI, 64, .inl (fun _ => 0))), (q16, .inl (cI, 64, .inl (fun _ => 0))), (q1, .inl (cI, 22, .inl (fun _ => (-1))))]) (w1 := [(q4, .inl (cI, 22, .inl (fun _ => (-1))))]) hP hD [1] [0, 2, 3, 4, 5, 6] rfl rfl (by decide) (by decide) hk1 hFc hP1 hD1
  have hP : va_P (dC, dI) vwCl [(h, .inr (4, [.ref q1, .ref q4, .ref q7, .ref q10, .ref q13, .ref q16, .int 0, .int (-1)])), (q7, .inl (cI, 22, .inl (fun _ => 0))), (q10, .inl (cI, 64, .inl (fun _ => 0))), (q13, .inl (cI, 64, .inl (fun _ => 0))), (q16, .inl (cI, 64, .inl (fun _ => 0))), (q1, .inl (cI, 22, .inl (fun _ => (-1)))), (q4, .inl (cI, 22, .inl (fun _ => (-1))))] H25 := hP
  have hD : va_D A [(h, .inr (4, [.ref q1, .ref q4, .ref q7, .ref q10, .ref q13, .ref q16, .int 0, .int (-1)])), (q7, .inl (cI, 22, .inl (fun _ => 0))), (q10, .inl (cI, 64, .inl (fun _ => 0))), (q13, .inl (cI, 64, .inl (fun _ => 0))), (q16, .inl (cI, 64, .inl (fun _ => 0))), (q1, .inl (cI, 22, .inl (fun _ => (-1)))), (q4, .inl (cI, 22, .inl (fun _ => (-1))))] := hD
  have hP9 := hP.sub (ws' := [(h, .inr (4, [.ref q1, .ref q4, .ref q7, .ref q10, .ref q13, .ref q16, .int 0, .int (-1)])), (q1, .inl (cI, 22, .inl (fun _ => (-1)))), (q4, .inl (cI, 22, .inl (fun _ => (-1)))), (q7, .inl (cI, 22, .inl (fun _ => 0))), (q10, .inl (cI, 64, .inl (fun _ => 0))), (q13, .inl (cI, 64, .inl (fun _ => 0))), (q16, .inl (cI, 64, .inl (fun _ => 0)))]) [0, 5, 6, 1, 2, 3, 4] rfl
  have hD9 := hD.sub (ws' := [(h, .inr (4, [.ref q1, .ref q4, .ref q7, .ref q10, .ref q13, .ref q16, .int 0, .int (-1)])), (q1, .inl (cI, 22, .inl (fun _ => (-1)))), (q4, .inl (cI, 22, .inl (fun _ => (-1)))), (q7, .inl (cI, 22, .inl (fun _ => 0))), (q10, .inl (cI, 64, .inl (fun _ => 0))), (q13, .inl (cI, 64, .inl (fun _ => 0))), (q16, .inl (cI, 64, .inl (fun _ => 0)))]) [0, 5, 6, 1, 2, 3, 4] (by decide) rfl
  refine W.widen (k := 6) (n := 258) (by decide) (by decide) ?_
  exact W.vret hx hb hr (fun t ht hW => ⟨⟨(fun k => [0, h, q1, q4, q7, q10, q13, q16].getD k 0), rfl, trivial, by rw [ht]; exact hP9, hD9⟩, hS.F ht⟩) hS.2.2 dX4_init_73

def vs_b_init : List Cond := [.code yX0_init cX0_init 1 none, .methodLink RX0 3 objectInit, .instanceMethod objectInit, .code objectInit ⟨#[0xb1]⟩ 1 none, .arrayClass .int, .fieldLink RX0 9 "DepotMarch$Book" "numbers" "[I"] ++ (wsX00)
theorem in_b_init_X0 : ∀ w ∈ u_ws RX0 TX0 2, w ∈ vs_b_init := fun w h => List.mem_append_right _ (h)
set_option maxHeartbeats 4000000 in
set_option maxRecDepth 100000 in
theorem c_b_init (l : Launch) (dC : Nat → ClassId) (dI : Nat → Nat → Nat) (cI cZ cB cJ cP cW : ClassId) (h : Nat) (sz : Nat) : Met l yX0_init vs_b_init ({ frames := 2, cells := 1, slots := 3600, locals := 120 }) (va_Pc [.ref h] (fun U => U.heap.size = sz ∧ EV dC dI cI cZ cB cJ cP cW U ∧ va_P (dC, dI) vwCl [(h, .inr (0, [.int 0, .null]))] U.heap ∧ va_D (fun _ => True) [(h, .inr (0, [.int 0, .null]))])) (va_Qv (fun (u : Nat → Nat) => True) (fun u t => va_P (dC, dI) vwCl [(h, .inr (0, [.int 0, .ref (u 9)])), ((u 9), .inl (cI, 3600, .inl (fun _ => 0)))] t.heap ∧ va_D (va_A [(h, .inr (0, [.int 0, .null]))] sz) [(h, .inr (0, [.int 0, .ref (u 9)])), ((u 9), .inl (cI, 3600, .inl (fun _ => 0)))]) (va_A [(h, .inr (0, [.int 0, .null]))] sz)) 1 3600 (va_A [(h, .inr (0, [.int 0, .null]))] sz) := by
  refine Met.ofW (cc := cX0_init) (maxL := 1) (ret := none) (by decide) rfl ?_
  intro p e s m args below meth c s₁ B hml hv
  obtain ⟨rfl, hsz, hE, hP, hD0⟩ := hv
  have hx := B.exec
  have hb := B.bytes
  have hr := B.returns
  have hts := atoms_spec (ws := vs_b_init) B.pre
  have hown : s.vm.findClass RX0 = some m.cls := findClass_of_methodNamed B.named
  have hlocks := B.notSynchronized
  have hK := hE.2
  have hin : meth.name = "<init>" := (name_of_methodNamed B.named B.method).1
  subst hsz
  have hD := hD0.self (sz := s.heap.size)
  generalize hAe : va_A [(h, .inr (0, [.int 0, .null]))] s.heap.size = A at hD ⊢
  have hA : ∀ q : Nat, s.heap.size ≤ q → A q := fun q h => by rw [← hAe]; exact Or.inr h
  have hS : va_S A s.heap s.heap [] := va_S.rf
  have hl := lv_entry ([.ref h]) (n := 1) (Nat.le_of_ble_eq_true rfl)
  rw [lg_entry_eq]
  generalize (lg_sl ([.ref h]) ++ List.replicate (1 - (lg_sl ([.ref h])).length) Slot.unset).toArray = ls at hl ⊢
  have hl : lv_has ls 1 [(0, .ref h)] := hl
  refine lv_aload_n hx hb dX0_init_0 rfl (lv_at hl 0 rfl) ?_
  refine W.objInit hx hb hown (hts (.methodLink RX0 3 objectInit) (by decide +kernel)) (hts (.instanceMethod objectInit) (by decide +kernel)) (hts (.code objectInit ⟨#[0xb1]⟩ 1 none) (by decide +kernel)) rfl (by rw [hml]; exact hl.1) rfl dX0_init_1 (Nat.le_of_ble_eq_true rfl) (Nat.le_of_ble_eq_true rfl) ?_
  refine W.eq (g2 := F0 m 4 ls []) rfl ?_
  refine lv_aload_n hx hb dX0_init_4 rfl (lv_at hl 0 rfl) ?_
  refine lv_sipush (v := 3600) hx hb dX0_init_5 (by decide) ?_
  refine n_newa (atype := .int) (ty := .int) (cI := cI) (a0 := (3600, .inl (fun _ => 0))) hx hb (hts (.arrayClass .int) (by decide +kernel)) rfl ra_int hK hP hD hS hA 0 rfl (fun _ => rfl) (by decide) rfl (Nat.le_of_ble_eq_true rfl) (Nat.le_of_ble_eq_true rfl) (Nat.le_of_ble_eq_true rfl) dX0_init_8 (fun q1 H2 hP hD hS => ?_)
  have hP : va_P (dC, dI) vwCl [(h, .inr (0, [.int 0, .null])), (q1, .inl (cI, 3600, .inl (fun _ => 0)))] H2 := hP
  have hD : va_D A [(h, .inr (0, [.int 0, .null])), (q1, .inl (cI, 3600, .inl (fun _ => 0)))] := hD
  refine W.widen (k := 1) (n := 3600) (by decide) (by decide) ?_
  refine va_putF (D := (dC, dI)) (ci := 0) (v := .ref q1) (ty := .array .int) (C := RX0) (T := TX0) (N := 2) hx hb hts in_b_init_X0 tyX0 tyX0_ok nmX0 hown hK hP hD hS 0 rfl rfl 1 (by decide) (hts (.fieldLink RX0 9 "DepotMarch$Book" "numbers" "[I") (by decide +kernel)) (fun _ h9 => h9) rfl hin rfl (by decide +kernel) rfl rfl (Nat.le_of_ble_eq_true rfl) dX0_init_10 (fun H3 locs hP hD hS => ?_)
  have hP : va_P (dC, dI) vwCl [(h, .inr (0, [.int 0, .ref q1])), (q1, .inl (cI, 3600, .inl (fun _ => 0)))] H3 := hP
  have hD : va_D A [(h, .inr (0, [.int 0, .ref q1])), (q1, .inl (cI, 3600, .inl (fun _ => 0)))] := hD
  have hP9 := hP.sub (ws' := [(h, .inr (0, [.int 0, .ref q1])), (q1, .inl (cI, 3600, .inl (fun _ => 0)))]) [0, 1] rfl
  have hD9 := hD.sub (ws' := [(h, .inr (0, [.int 0, .ref q1])), (q1, .inl (cI, 3600, .inl (fun _ => 0)))]) [0, 1] (by decide) rfl
  refine W.widen (k := 1) (n := 3600) (by decide) (by decide) ?_
  exact W.vret hx hb hr (fun t ht hW => ⟨⟨(fun k => [0, 0, 0, 0, 0, 0, 0, 0, h, q1].getD k 0), rfl, trivial, by rw [ht]; exact hP9, hD9⟩, hS.F ht⟩) hS.2.2 dX0_init_13

def vs_t_init : List Cond := [.code yX5_init cX5_init 1 none, .methodLink RX5 3 objectInit, .instanceMethod objectInit, .code objectInit ⟨#[0xb1]⟩ 1 none, .arrayClass .int, .fieldLink RX5 9 "DepotMarch$Tokens" "kinds" "[I", .fieldLink RX5 15 "DepotMarch$Tokens" "values" "[I", .fieldLink RX5 18 "DepotMarch$Tokens" "places" "[I"] ++ (wsX50)
theorem in_t_init_X5 : ∀ w ∈ u_ws RX5 TX5 4, w ∈ vs_t_init := fun w h => List.mem_append_right _ (h)
set_option maxHeartbeats 4000000 in
set_option maxRecDepth 100000 in
theorem c_t_init (l : Launch) (dC : Nat → ClassId) (dI : Nat → Nat → Nat) (cI cZ cB cJ cP cW : ClassId) (h : Nat) (sz : Nat) : Met l yX5_init vs_t_init ({ frames := 2, cells := 3, slots := 1503, locals := 120 }) (va_Pc [.ref h] (fun U => U.heap.size = sz ∧ EV dC dI cI cZ cB cJ cP cW U ∧ va_P (dC, dI) vwCl [(h, .inr (5, [.null, .null, .null, .int 0]))] U.heap ∧ va_D (fun _ => True) [(h, .inr (5, [.null, .null, .null, .int 0]))])) (va_Qv (fun (u : Nat → Nat) => True) (fun u t => va_P (dC, dI) vwCl [(h, .inr (5, [.ref (u 36), .ref (u 37), .ref (u 38), .int 0])), ((u 36), .inl (cI, 501, .inl (fun _ => 0))), ((u 37), .inl (cI, 501, .inl (fun _ => 0))), ((u 38), .inl (cI, 501, .inl (fun _ => 0)))] t.heap ∧ va_D (va_A [(h, .inr (5, [.null, .null, .null, .int 0]))] sz) [(h, .inr (5, [.ref (u 36), .ref (u 37), .ref (u 38), .int 0])), ((u 36), .inl (cI, 501, .inl (fun _ => 0))), ((u 37), .inl (cI, 501, .inl (fun _ => 0))), ((u 38), .inl (cI, 501, .inl (fun _ => 0)))]) (va_A [(h, .inr (5, [.null, .null, .null, .int 0]))] sz)) 3 1503 (va_A [(h, .inr (5, [.null, .null, .null, .int 0]))] sz) := by
  refine Met.ofW (cc := cX5_init) (maxL := 1) (ret := none) (by decide) rfl ?_
  intro p e s m args below meth c s₁ B hml hv
  obtain ⟨rfl, hsz, hE, hP, hD0⟩ := hv
  have hx := B.exec
  have hb := B.bytes
  have hr := B.returns
  have hts := atoms_spec (ws := vs_t_init) B.pre
  have hown : s.vm.findClass RX5 = some m.cls := findClass_of_methodNamed B.named
  have hlocks := B.notSynchronized
  have hK := hE.2
  have hin : meth.name = "<init>" := (name_of_methodNamed B.named B.method).1
  subst hsz
  have hD := hD0.self (sz := s.heap.size)
  generalize hAe : va_A [(h, .inr (5, [.null, .null, .null, .int 0]))] s.heap.size = A at hD ⊢
  have hA : ∀ q : Nat, s.heap.size ≤ q → A q := fun q h => by rw [← hAe]; exact Or.inr h
  have hS : va_S A s.heap s.heap [] := va_S.rf
  have hl := lv_entry ([.ref h]) (n := 1) (Nat.le_of_ble_eq_true rfl)
  rw [lg_entry_eq]
  generalize (lg_sl ([.ref h]) ++ List.replicate (1 - (lg_sl ([.ref h])).length) Slot.unset).toArray = ls at hl ⊢
  have hl : lv_has ls 1 [(0, .ref h)] := hl
  refine lv_aload_n hx hb dX5_init_0 rfl (lv_at hl 0 rfl) ?_
  refine W.objInit hx hb hown (hts (.methodLink RX5 3 objectInit) (by decide +kernel)) (hts (.instanceMethod objectInit) (by decide +kernel)) (hts (.code objectInit ⟨#[0xb1]⟩ 1 none) (by decide +kernel)) rfl (by rw [hml]; exact hl.1) rfl dX5_init_1 (Nat.le_of_ble_eq_true rfl) (Nat.le_of_ble_eq_true rfl) ?_
  refine W.eq (g2 := F0 m 4 ls []) rfl ?_
  refine lv_aload_n hx hb dX5_init_4 rfl (lv_at hl 0 rfl) ?_
  refine lv_sipush (v := 501) hx hb dX5_init_5 (by decide) ?_
  refine n_newa (atype := .int) (ty := .int) (cI := cI) (a0 := (501, .inl (fun _ => 0))) hx hb (hts (.arrayClass .int) (by decide +kernel)) rfl ra_int hK hP hD hS hA 0 rfl (fun _ => rfl) (by decide) rfl (Nat.le_of_ble_eq_true rfl) (Nat.le_of_ble_eq_true rfl) (Nat.le_of_ble_eq_true rfl) dX5_init_8 (fun q1 H2 hP hD hS => ?_)
  have hP : va_P (dC, dI) vwCl [(h, .inr (5, [.null, .null, .null, .int 0])), (q1, .inl (cI, 501, .inl (fun _ => 0)))] H2 := hP
  have hD : va_D A [(h, .inr (5, [.null, .null, .null, .int 0])), (q1, .inl (cI, 501, .inl (fun _ => 0)))] := hD
  refine W.widen (k := 1) (n := 501) (by decide) (by decide) ?_
  refine va_putF (D := (dC, dI)) (ci := 5) (v := .ref q1) (ty := .array .int) (C := RX5) (T := TX5) (N := 4) hx hb hts in_t_init_X5 tyX5 tyX5_ok nmX5 hown hK hP hD hS 0 rfl rfl 0 (by decide) (hts (.fieldLink RX5 9 "DepotMarch$Tokens" "kinds" "[I") (by decide +kernel)) (fun _ h9 => h9) rfl hin rfl (by decide +kernel) rfl rfl (Nat.le_of_ble_eq_true rfl) dX5_init_10 (fun H3 locs hP hD hS => ?_)
  have hP : va_P (dC, dI) vwCl [(h, .inr (5, [.ref q1, .null, .null, .int 0])), (q1, .inl (cI, 501, .inl (fun _ => 0)))] H3 := hP
  have hD : va_D A [(h, .inr (5, [.ref q1, .null, .null, .int 0])), (q1, .inl (cI, 501, .inl (fun _ => 0)))] := hD
  refine lv_aload_n hx hb dX5_init_13 rfl (lv_at hl 0 rfl) ?_
  refine lv_sipush (v := 501) hx hb dX5_init_14 (by decide) ?_
  refine n_newa (atype := .int) (ty := .int) (cI := cI) (a0 := (501, .inl (fun _ => 0))) hx hb (hts (.arrayClass .int) (by decide +kernel)) rfl ra_int hK hP hD hS hA 0 rfl (fun _ => rfl) (by decide) rfl (Nat.le_of_ble_eq_true rfl) (Nat.le_of_ble_eq_true rfl) (Nat.le_of_ble_eq_true rfl) dX5_init_17 (fun q4 H5 hP hD hS => ?_)
  have hP : va_P (dC, dI) vwCl [(h, .inr (5, [.ref q1, .null, .null, .int 0])), (q1, .inl (cI, 501, .inl (fun _ => 0))), (q4, .inl (cI, 501, .inl (fun _ => 0)))] H5 := hP
  have hD : va_D A [(h, .inr (5, [.ref q1, .null, .null, .int 0])), (q1, .inl (cI, 501, .inl (fun _ => 0))), (q4, .inl (cI, 501, .inl (fun _ => 0)))] := hD
  refine W.widen (k := 2) (n := 1002) (by decide) (by decide) ?_
  refine va_putF (D := (dC, dI)) (ci := 5) (v := .ref q4) (ty := .array .int) (C := RX5) (T := TX5) (N := 4) hx hb hts in_t_init_X5 tyX5 tyX5_ok nmX5 hown hK hP hD hS 0 rfl rfl 1 (by decide) (hts (.fieldLink RX5 15 "DepotMarch$Tokens" "values" "[I") (by decide +kernel)) (fun _ h9 => h9) rfl hin rfl (by decide +kernel) rfl rfl (Nat.le_of_ble_eq_true rfl) dX5_init_19 (fun H6 locs hP hD hS => ?_)
  have hP : va_P (dC, dI) vwCl [(h, .inr (5, [.ref q1, .ref q4, .null, .int 0])), (q1, .inl (cI, 501, .inl (fun _ => 0))), (q4, .inl (cI, 501, .inl (fun _ => 0)))] H6 := hP
  have hD : va_D A [(h, .inr (5, [.ref q1, .ref q4, .null, .int 0])), (q1, .inl (cI, 501, .inl (fun _ => 0))), (q4, .inl (cI, 501, .inl (fun _ => 0)))] := hD
  refine lv_aload_n hx hb dX5_init_22 rfl (lv_at hl 0 rfl) ?_
  refine lv_sipush (v := 501) hx hb dX5_init_23 (by decide) ?_
  refine n_newa (atype := .int) (ty := .int) (cI := cI) (a0 := (501, .inl (fun _ => 0))) hx hb (hts (.arrayClass .int) (by decide +kernel)) rfl ra_int hK hP hD hS hA 0 rfl (fun _ => rfl) (by decide) rfl (Nat.le_of_ble_eq_true rfl) (Nat.le_of_ble_eq_true rfl) (Nat.le_of_ble_eq_true rfl) dX5_init_26 (fun q7 H8 hP hD hS => ?_)
  have hP : va_P (dC, dI) vwCl [(h, .inr (5, [.ref q1, .ref q4, .null, .int 0])), (q1, .inl (cI, 501, .inl (fun _ => 0))), (q4, .inl (cI, 501, .inl (fun _ => 0))), (q7, .inl (cI, 501, .inl (fun _ => 0)))] H8 := hP
  have hD : va_D A [(h, .inr (5, [.ref q1, .ref q4, .null, .int 0])), (q1, .inl (cI, 501, .inl (fun _ => 0))), (q4, .inl (cI, 501, .inl (fun _ => 0))), (q7, .inl (cI, 501, .inl (fun _ => 0)))] := hD
  refine W.widen (k := 3) (n := 1503) (by decide) (by decide) ?_
  refine va_putF (D := (dC, dI)) (ci := 5) (v := .ref q7) (ty := .array .int) (C := RX5) (T := TX5) (N := 4) hx hb hts in_t_init_X5 tyX5 tyX5_ok nmX5 hown hK hP hD hS 0 rfl rfl 2 (by decide) (hts (.fieldLink RX5 18 "DepotMarch$Tokens" "places" "[I") (by decide +kernel)) (fun _ h9 => h9) rfl hin rfl (by decide +kernel) rfl rfl (Nat.le_of_ble_eq_true rfl) dX5_init_28 (fun H9 locs hP hD hS => ?_)
  have hP : va_P (dC, dI) vwCl [(h, .inr (5, [.ref q1, .ref q4, .ref q7, .int 0])), (q1, .inl (cI, 501, .inl (fun _ => 0))), (q4, .inl (cI, 501, .inl (fun _ => 0))), (q7, .inl (cI, 501, .inl (fun _ => 0)))] H9 := hP
  have hD : va_D A [(h, .inr (5, [.ref q1, .ref q4, .ref q7, .int 0])), (q1, .inl (cI, 501, .inl (fun _ => 0))), (q4, .inl (cI, 501, .inl (fun _ => 0))), (q7, .inl (cI, 501, .inl (fun _ => 0)))] := hD
  have hP9 := hP.sub (ws' := [(h, .inr (5, [.ref q1, .ref q4, .ref q7, .int 0])), (q1, .inl (cI, 501, .inl (fun _ => 0))), (q4, .inl (cI, 501, .inl (fun _ => 0))), (q7, .inl (cI, 501, .inl (fun _ => 0)))]) [0, 1, 2, 3] rfl
  have hD9 := hD.sub (ws' := [(h, .inr (5, [.ref q1, .ref q4, .ref q7, .int 0])), (q1, .inl (cI, 501, .inl (fun _ => 0))), (q4, .inl (cI, 501, .inl (fun _ => 0))), (q7, .inl (cI, 501, .inl (fun _ => 0)))]) [0, 1, 2, 3] (by decide) rfl
  refine W.widen (k := 3) (n := 1503) (by decide) (by decide) ?_
  exact W.vret hx hb hr (fun t ht hW => ⟨⟨(fun k => [0, 0, 0, 0, 0, 0, 0, 0, 0, 0, 0, 0, 0, 0, 0, 0, 0, 0, 0, 0, 0, 0, 0, 0, 0, 0, 0, 0, 0, 0, 0, 0, 0, 0, 0, h, q1, q4, q7].getD k 0), rfl, trivial, by rw [ht]; exact hP9, hD9⟩, hS.F ht⟩) hS.2.2 dX5_init_31

def vs_rd_init : List Cond := [.code yX3_init cX3_init 1 none, .methodLink RX3 3 objectInit, .instanceMethod objectInit, .code objectInit ⟨#[0xb1]⟩ 1 none, .fieldLink RX3 9 "DepotMarch$Reader" "fault" "I", .fieldLink RX3 15 "DepotMarch$Reader" "faultPlace" "I", .classLink RX3 18 RX5, .instantiable RX5 4, .initialized RX5, .code yX5_init cX5_init 1 none, .methodLink RX5 3 objectInit, .arrayClass .int, .fieldLink RX5 9 "DepotMarch$Tokens" "kinds" "[I", .fieldLink RX5 15 "DepotMarch$Tokens" "values" "[I", .fieldLink RX5 18 "DepotMarch$Tokens" "places" "[I", .instanceMethod yX5_init, .fieldLink RX3 21 "DepotMarch$Reader" "tokens" "LDepotMarch$Tokens;", .fieldLink RX3 25 "DepotMarch$Reader" "steps" "[I"] ++ (wsX30 ++ (wsX50))
theorem in_rd_init_X3 : ∀ w ∈ u_ws RX3 TX3 8, w ∈ vs_rd_init := fun w h => List.mem_append_right _ (List.mem_append_left _ h)
theorem in_rd_init_X5 : ∀ w ∈ u_ws RX5 TX5 4, w ∈ vs_rd_init := fun w h => List.mem_append_right _ (List.mem_append_right _ (h))
set_option maxRecDepth 20000 in
theorem gg_rd_init_t_init : GoodIn vs_rd_init vs_t_init := goodIn_r _ [9, 10, 2, 3, 11, 12, 13, 14, 26, 27, 28, 29] (by decide +kernel) (by decide +kernel)
set_option maxHeartbeats 4000000 in
set_option maxRecDepth 100000 in
theorem c_rd_init (l : Launch) (dC : Nat → ClassId) (dI : Nat → Nat → Nat) (cI cZ cB cJ cP cW : ClassId) (h : Nat) (sz : Nat) : Met l yX3_init vs_rd_init ({ frames := 3, cells := 5, slots := 2509, locals := 180 }) (va_Pc [.ref h] (fun U => U.heap.size = sz ∧ EV dC dI cI cZ cB cJ cP cW U ∧ va_P (dC, dI) vwCl [(h, .inr (3, [.int 0, .int 0, .int 0, .null, .int 0, .int 0, .null, .int 0]))] U.heap ∧ va_D (fun _ => True) [(h, .inr (3, [.int 0, .int 0, .int 0, .null, .int 0, .int 0, .null, .int 0]))])) (va_Qv (fun (u : Nat → Nat) => True) (fun u t => va_P (dC, dI) vwCl [(h, .inr (3, [.int 0, .int (-1), .int 0, .ref (u 35), .int 0, .int 0, .ref (u 39), .int 0])), ((u 35), .inr (5, [.ref (u 36), .ref (u 37), .ref (u 38), .int 0])), ((u 36), .inl (cI, 501, .inl (fun _ => 0))), ((u 37), .inl (cI, 501, .inl (fun _ => 0))), ((u 38), .inl (cI, 501, .inl (fun _ => 0))), ((u 39), .inl (cI, 1002, .inl (fun _ => 0)))] t.heap ∧ va_D (va_A [(h, .inr (3, [.int 0, .int 0, .int 0, .null, .int 0, .int 0, .null, .int 0]))] sz) [(h, .inr (3, [.int 0, .int (-1), .int 0, .ref (u 35), .int 0, .int 0, .ref (u 39), .int 0])), ((u 35), .inr (5, [.ref (u 36), .ref (u 37), .ref (u 38), .int 0])), ((u 36), .inl (cI, 501, .inl (fun _ => 0))), ((u 37), .inl (cI, 501, .inl (fun _ => 0))), ((u 38), .inl (cI, 501, .inl (fun _ => 0))), ((u 39), .inl (cI, 1002, .inl (fun _ => 0)))]) (va_A [(h, .inr (3, [.int 0, .int 0, .int 0, .null, .int 0, .int 0, .null, .int 0]))] sz)) 5 2509 (va_A [(h, .inr (3, [.int 0, .int 0, .int 0, .null, .int 0, .int 0, .null, .int 0]))] sz) := by
  refine Met.ofW (cc := cX3_init) (maxL := 1) (ret := none) (by decide) rfl ?_
  intro p e s m args below meth c s₁ B hml hv
  obtain ⟨rfl, hsz, hE, hP, hD0⟩ := hv
  have hx := B.exec
  have hb := B.bytes
  have hr := B.returns
  have hts := atoms_spec (ws := vs_rd_init) B.pre
  have hown : s.vm.findClass RX3 = some m.cls := findClass_of_methodNamed B.named
  have hlocks := B.notSynchronized
  have hK := hE.2
  have hin : meth.name = "<init>" := (name_of_methodNamed B.named B.method).1
  subst hsz
  have hD := hD0.self (sz := s.heap.size)
  generalize hAe : va_A [(h, .inr (3, [.int 0, .int 0, .int 0, .null, .int 0, .int 0, .null, .int 0]))] s.heap.size = A at hD ⊢
  have hA : ∀ q : Nat, s.heap.size ≤ q → A q := fun q h => by rw [← hAe]; exact Or.inr h
  have hS : va_S A s.heap s.heap [] := va_S.rf
  have hl := lv_entry ([.ref h]) (n := 1) (Nat.le_of_ble_eq_true rfl)
  rw [lg_entry_eq]
  generalize (lg_sl ([.ref h]) ++ List.replicate (1 - (lg_sl ([.ref h])).length) Slot.unset).toArray = ls at hl ⊢
  have hl : lv_has ls 1 [(0, .ref h)] := hl
  refine lv_aload_n hx hb dX3_init_0 rfl (lv_at hl 0 rfl) ?_
  refine W.objInit hx hb hown (hts (.methodLink RX3 3 objectInit) (by decide +kernel)) (hts (.instanceMethod objectInit) (by decide +kernel)) (hts (.code objectInit ⟨#[0xb1]⟩ 1 none) (by decide +kernel)) rfl (by rw [hml]; exact hl.1) rfl dX3_init_1 (Nat.le_of_ble_eq_true rfl) (Nat.le_of_ble_eq_true rfl) ?_
  refine W.eq (g2 := F0 m 4 ls []) rfl ?_
  refine lv_aload_n hx hb dX3_init_4 rfl (lv_at hl 0 rfl) ?_
  refine lv_iconst (v := 0) hx hb dX3_init_5 (by decide) ?_
  refine va_put (D := (dC, dI)) (ci := 3) (v := .int 0) (ty := .int) (C := RX3) (T := TX3) (N := 8) hx hb hts in_rd_init_X3 tyX3 tyX3_ok nmX3 hown hK hP hD hS 0 rfl rfl 0 (by decide) (hts (.fieldLink RX3 9 "DepotMarch$Reader" "fault" "I") (by decide +kernel)) (fun _ h9 => h9) rfl (by decide +kernel) rfl rfl (Nat.le_of_ble_eq_true rfl) dX3_init_6 (fun H1 locs hP hD hS => ?_)
  have hP : va_P (dC, dI) vwCl [(h, .inr (3, [.int 0, .int 0, .int 0, .null, .int 0, .int 0, .null, .int 0]))] H1 := hP
  have hD : va_D A [(h, .inr (3, [.int 0, .int 0, .int 0, .null, .int 0, .int 0, .null, .int 0]))] := hD
  refine lv_aload_n hx hb dX3_init_9 rfl (lv_at hl 0 rfl) ?_
  refine lv_iconst (v := (-1)) hx hb dX3_init_10 (by decide) ?_
  refine va_put (D := (dC, dI)) (ci := 3) (v := .int (-1)) (ty := .int) (C := RX3) (T := TX3) (N := 8) hx hb hts in_rd_init_X3 tyX3 tyX3_ok nmX3 hown hK hP hD hS 0 rfl rfl 1 (by decide) (hts (.fieldLink RX3 15 "DepotMarch$Reader" "faultPlace" "I") (by decide +kernel)) (fun _ h9 => h9) rfl (by decide +kernel) rfl rfl (Nat.le_of_ble_eq_true rfl) dX3_init_11 (fun H2 locs hP hD hS => ?_)
  have hP : va_P (dC, dI) vwCl [(h, .inr (3, [.int 0, .int (-1), .int 0, .null, .int 0, .int 0, .null, .int 0]))] H2 := hP
  have hD : va_D A [(h, .inr (3, [.int 0, .int (-1), .int 0, .null, .int 0, .int 0, .null, .int 0]))] := hD
  refine lv_aload_n hx hb dX3_init_14 rfl (lv_at hl 0 rfl) ?_
  refine va_new (ci := 5) (fs := [.null, .null, .null, .int 0]) (C := RX5) (T := TX5) (N := 4) hx hb hts in_rd_init_X5 tyX5 tyX5_ok hown (hts (.classLink RX3 18 RX5) (by decide +kernel)) (hts (.instantiable RX5 4) (by decide +kernel)) (hts (.initialized RX5) (by decide +kernel)) hK hP hD hS hA rfl df_X5 (Nat.le_of_ble_eq_true rfl) (Nat.le_of_ble_eq_true rfl) dX3_init_15 (fun q3 H4 hP hD hS => ?_)
  have hP : va_P (dC, dI) vwCl [(h, .inr (3, [.int 0, .int (-1), .int 0, .null, .int 0, .int 0, .null, .int 0])), (q3, .inr (5, [.null, .null, .null, .int 0]))] H4 := hP
  have hD : va_D A [(h, .inr (3, [.int 0, .int (-1), .int 0, .null, .int 0, .int 0, .null, .int 0])), (q3, .inr (5, [.null, .null, .null, .int 0]))] := hD
  refine W.widen (k := 1) (n := 4) (by decide) (by decide) ?_
  refine lv_dup hx hb dX3_init_18 rfl ?_
  have hPc := hP.sub (ws' := [(q3, .inr (5, [.null, .null, .null, .int 0]))]) [1] rfl
  have hDc := hD.sub (ws' := [(q3, .inr (5, [.null, .null, .null, .int 0]))]) [1] (by decide) rfl
  have hFc := va_free (wc := [(q3, .inr (5, [.null, .null, .null, .int 0]))]) hD hS hA [1] rfl
  refine va_callv (va_runIN (As := []) (rest := [.ref q3, .ref h]) ⟨hx, hb, hml, hown, hts⟩ (c_t_init l dC dI cI cZ cB cJ cP cW q3 H4.size) ⟨(va_cnB 0 hts gg_rd_init_t_init rfl rfl rfl hE.1.n_Reader_20 (hts (.initialized RX5) (by decide +kernel)) (by decide +kernel) ⟨Nat.le_of_ble_eq_true rfl, Nat.le_of_ble_eq_true rfl⟩), rfl, (hts (.instanceMethod yX5_init) (by decide +kernel))⟩ ⟨fbM, fun U hU hW => ⟨rfl, by rw [hU], hE.warm hW, by rw [hU]; exact hPc, hDc.weaken (fun _ _ _ _ => trivial)⟩⟩ rfl rfl hl.1 rfl (lv_room (Nat.le_of_ble_eq_true rfl)) dX3_init_19 ⟨Nat.le_of_ble_eq_true rfl, Nat.le_of_ble_eq_true rfl⟩) hS (fun q _ h => hFc q h) hFc (fun u6 t H7 locs ht hvm hr5 hB hz1 hk1 hS => ?_)
  obtain ⟨hP1, hD1⟩ := hB
  rw [ht] at hP1
  obtain ⟨hP, hD⟩ := va_join (wr := [(h, .inr (3, [.int 0, .int (-1), .int 0, .null, .int 0, .int 0, .null, .int 0]))]) (w1 := [(q3, .inr (5, [.ref (u6 36), .ref (u6 37), .ref (u6 38), .int 0])), ((u6 36), .inl (cI, 501, .inl (fun _ => 0))), ((u6 37), .inl (cI, 501, .inl (fun _ => 0))), ((u6 38), .inl (cI, 501, .inl (fun _ => 0)))]) hP hD [1] [0] rfl rfl (by decide) (by decide) hk1 hFc hP1 hD1
  have hP : va_P (dC, dI) vwCl [(h, .inr (3, [.int 0, .int (-1), .int 0, .null, .int 0, .int 0, .null, .int 0])), (q3, .inr (5, [.ref (u6 36), .ref (u6 37), .ref (u6 38), .int 0])), ((u6 36), .inl (cI, 501, .inl (fun _ => 0))), ((u6 37), .inl (cI, 501, .inl (fun _ => 0))), ((u6 38), .inl (cI, 501, .inl (fun _ => 0)))] H7 := hP
  have hD : va_D A [(h, .inr (3, [.int 0, .int (-1), .int 0, .null, .int 0, .int 0, .null, .int 0])), (q3, .inr (5, [.ref (u6 36), .ref (u6 37), .ref (u6 38), .int 0])), ((u6 36), .inl (cI, 501, .inl (fun _ => 0))), ((u6 37), .inl (cI, 501, .inl (fun _ => 0))), ((u6 38), .inl (cI, 501, .inl (fun _ => 0)))] := hD
  refine W.widen (k := 4) (n := 1507) (by decide) (by decide) ?_
  refine va_putF (D := (dC, dI)) (ci := 3) (v := .ref q3) (ty := .object "DepotMarch$Tokens") (C := RX3) (T := TX3) (N := 8) hx hb hts in_rd_init_X3 tyX3 tyX3_ok nmX3 hown hK hP hD hS 0 rfl rfl 3 (by decide) (hts (.fieldLink RX3 21 "DepotMarch$Reader" "tokens" "LDepotMarch$Tokens;") (by decide +kernel)) (fun _ h9 => h9) rfl hin rfl (by decide +kernel) rfl rfl (Nat.le_of_ble_eq_true rfl) dX3_init_22 (fun H8 locs hP hD hS => ?_)
  have hP : va_P (dC, dI) vwCl [(h, .inr (3, [.int 0, .int (-1), .int 0, .ref q3, .int 0, .int 0, .null, .int 0])), (q3, .inr (5, [.ref (u6 36), .ref (u6 37), .ref (u6 38), .int 0])), ((u6 36), .inl (cI, 501, .inl (fun _ => 0))), ((u6 37), .inl (cI, 501, .inl (fun _ => 0))), ((u6 38), .inl (cI, 501, .inl (fun _ => 0)))] H8 := hP
  have hD : va_D A [(h, .inr (3, [.int 0, .int (-1), .int 0, .ref q3, .int 0, .int 0, .null, .int 0])), (q3, .inr (5, [.ref (u6 36), .ref (u6 37), .ref (u6 38), .int 0])), ((u6 36), .inl (cI, 501, .inl (fun _ => 0))), ((u6 37), .inl (cI, 501, .inl (fun _ => 0))), ((u6 38), .inl (cI, 501, .inl (fun _ => 0)))] := hD
  refine lv_aload_n hx hb dX3_init_25 rfl (lv_at hl 0 rfl) ?_
  refine lv_sipush (v := 1002) hx hb dX3_init_26 (by decide) ?_
  refine n_newa (atype := .int) (ty := .int) (cI := cI) (a0 := (1002, .inl (fun _ => 0))) hx hb (hts (.arrayClass .int) (by decide +kernel)) rfl ra_int hK hP hD hS hA 0 rfl (fun _ => rfl) (by decide) rfl (Nat.le_of_ble_eq_true rfl) (Nat.le_of_ble_eq_true rfl) (Nat.le_of_ble_eq_true rfl) dX3_init_29 (fun q9 H10 hP hD hS => ?_)
  have hP : va_P (dC, dI) vwCl [(h, .inr (3, [.int 0, .int (-1), .int 0, .ref q3, .int 0, .int 0, .null, .int 0])), (q3, .inr (5, [.ref (u6 36), .ref (u6 37), .ref (u6 38), .int 0])), ((u6 36), .inl (cI, 501, .inl (fun _ => 0))), ((u6 37), .inl (cI, 501, .inl (fun _ => 0))), ((u6 38), .inl (cI, 501, .inl (fun _ => 0))), (q9, .inl (cI, 1002, .inl (fun _ => 0)))] H10 := hP
  have hD : va_D A [(h, .inr (3, [.int 0, .int (-1), .int 0, .ref q3, .int 0, .int 0, .null, .int 0])), (q3, .inr (5, [.ref (u6 36), .ref (u6 37), .ref (u6 38), .int 0])), ((u6 36), .inl (cI, 501, .inl (fun _ => 0))), ((u6 37), .inl (cI, 501, .inl (fun _ => 0))), ((u6 38), .inl (cI, 501, .inl (fun _ => 0))), (q9, .inl (cI, 1002, .inl (fun _ => 0)))] := hD
  refine W.widen (k := 5) (n := 2509) (by decide) (by decide) ?_
  refine va_putF (D := (dC, dI)) (ci := 3) (v := .ref q9) (ty := .array .int) (C := RX3) (T := TX3) (N := 8) hx hb hts in_rd_init_X3 tyX3 tyX3_ok nmX3 hown hK hP hD hS 0 rfl rfl 6 (by decide) (hts (.fieldLink RX3 25 "DepotMarch$Reader" "steps" "[I") (by decide +kernel)) (fun _ h9 => h9) rfl hin rfl (by decide +kernel) rfl rfl (Nat.le_of_ble_eq_true rfl) dX3_init_31 (fun H11 locs hP hD hS => ?_)
  have hP : va_P (dC, dI) vwCl [(h, .inr (3, [.int 0, .int (-1), .int 0, .ref q3, .int 0, .int 0, .ref q9, .int 0])), (q3, .inr (5, [.ref (u6 36), .ref (u6 37), .ref (u6 38), .int 0])), ((u6 36), .inl (cI, 501, .inl (fun _ => 0))), ((u6 37), .inl (cI, 501, .inl (fun _ => 0))), ((u6 38), .inl (cI, 501, .inl (fun _ => 0))), (q9, .inl (cI, 1002, .inl (fun _ => 0)))] H11 := hP
  have hD : va_D A [(h, .inr (3, [.int 0, .int (-1), .int 0, .ref q3, .int 0, .int 0, .ref q9, .int 0])), (q3, .inr (5, [.ref (u6 36), .ref (u6 37), .ref (u6 38), .int 0])), ((u6 36), .inl (cI, 501, .inl (fun _ => 0))), ((u6 37), .inl (cI, 501, .inl (fun _ => 0))), ((u6 38), .inl (cI, 501, .inl (fun _ => 0))), (q9, .inl (cI, 1002, .inl (fun _ => 0)))] := hD
  have hP9 := hP.sub (ws' := [(h, .inr (3, [.int 0, .int (-1), .int 0, .ref q3, .int 0, .int 0, .ref q9, .int 0])), (q3, .inr (5, [.ref (u6 36), .ref (u6 37), .ref (u6 38), .int 0])), ((u6 36), .inl (cI, 501, .inl (fun _ => 0))), ((u6 37), .inl (cI, 501, .inl (fun _ => 0))), ((u6 38), .inl (cI, 501, .inl (fun _ => 0))), (q9, .inl (cI, 1002, .inl (fun _ => 0)))]) [0, 1, 2, 3, 4, 5] rfl
  have hD9 := hD.sub (ws' := [(h, .inr (3, [.int 0, .int (-1), .int 0, .ref q3, .int 0, .int 0, .ref q9, .int 0])), (q3, .inr (5, [.ref (u6 36), .ref (u6 37), .ref (u6 38), .int 0])), ((u6 36), .inl (cI, 501, .inl (fun _ => 0))), ((u6 37), .inl (cI, 501, .inl (fun _ => 0))), ((u6 38), .inl (cI, 501, .inl (fun _ => 0))), (q9, .inl (cI, 1002, .inl (fun _ => 0)))]) [0, 1, 2, 3, 4, 5] (by decide) rfl
  refine W.widen (k := 5) (n := 2509) (by decide) (by decide) ?_
  exact W.vret hx hb hr (fun t ht hW => ⟨⟨(fun k => [0, 0, 0, 0, 0, 0, 0, 0, 0, 0, 0, 0, 0, 0, 0, 0, 0, 0, 0, 0, 0, 0, 0, 0, 0, 0, 0, 0, 0, 0, 0, 0, 0, 0, h, q3, (u6 36), (u6 37), (u6 38), q9].getD k 0), rfl, trivial, by rw [ht]; exact hP9, hD9⟩, hS.F ht⟩) hS.2.2 dX3_init_34

def vs_g_init : List Cond := [.code yX1_init cX1_init 1 none, .methodLink RX1 3 objectInit, .instanceMethod objectInit, .code objectInit ⟨#[0xb1]⟩ 1 none, .arrayClass .int, .fieldLink RX1 9 "DepotMarch$Guide" "stack" "[I"] ++ (wsX10)
theorem in_g_init_X1 : ∀ w ∈ u_ws RX1 TX1 3, w ∈ vs_g_init := fun w h => List.mem_append_right _ (h)
set_option maxHeartbeats 4000000 in
set_option maxRecDepth 100000 in
theorem c_g_init (l : Launch) (dC : Nat → ClassId) (dI : Nat → Nat → Nat) (cI cZ cB cJ cP cW : ClassId) (h : Nat) (sz : Nat) : Met l yX1_init vs_g_init ({ frames := 2, cells := 1, slots := 27, locals := 120 }) (va_Pc [.ref h] (fun U => U.heap.size = sz ∧ EV dC dI cI cZ cB cJ cP cW U ∧ va_P (dC, dI) vwCl [(h, .inr (1, [.null, .int 0, .int 0]))] U.heap ∧ va_D (fun _ => True) [(h, .inr (1, [.null, .int 0, .int 0]))])) (va_Qv (fun (u : Nat → Nat) => True) (fun u t => va_P (dC, dI) vwCl [(h, .inr (1, [.ref (u 41), .int 0, .int 0])), ((u 41), .inl (cI, 27, .inl (fun _ => 0)))] t.heap ∧ va_D (va_A [(h, .inr (1, [.null, .int 0, .int 0]))] sz) [(h, .inr (1, [.ref (u 41), .int 0, .int 0])), ((u 41), .inl (cI, 27, .inl (fun _ => 0)))]) (va_A [(h, .inr (1, [.null, .int 0, .int 0]))] sz)) 1 27 (va_A [(h, .inr (1, [.null, .int 0, .int 0]))] sz) := by
  refine Met.ofW (cc := cX1_init) (maxL := 1) (ret := none) (by decide) rfl ?_
  intro p e s m args below meth c s₁ B hml hv
  obtain ⟨rfl, hsz, hE, hP, hD0⟩ := hv
  have hx := B.exec
  have hb := B.bytes
  have hr := B.returns
  have hts := atoms_spec (ws := vs_g_init) B.pre
  have hown : s.vm.findClass RX1 = some m.cls := findClass_of_methodNamed B.named
  have hlocks := B.notSynchronized
  have hK := hE.2
  have hin : meth.name = "<init>" := (name_of_methodNamed B.named B.method).1
  subst hsz
  have hD := hD0.self (sz := s.heap.size)
  generalize hAe : va_A [(h, .inr (1, [.null, .int 0, .int 0]))] s.heap.size = A at hD ⊢
  have hA : ∀ q : Nat, s.heap.size ≤ q → A q := fun q h => by rw [← hAe]; exact Or.inr h
  have hS : va_S A s.heap s.heap [] := va_S.rf
  have hl := lv_entry ([.ref h]) (n := 1) (Nat.le_of_ble_eq_true rfl)
  rw [lg_entry_eq]
  generalize (lg_sl ([.ref h]) ++ List.replicate (1 - (lg_sl ([.ref h])).length) Slot.unset).toArray = ls at hl ⊢
  have hl : lv_has ls 1 [(0, .ref h)] := hl
  refine lv_aload_n hx hb dX1_init_0 rfl (lv_at hl 0 rfl) ?_
  refine W.objInit hx hb hown (hts (.methodLink RX1 3 objectInit) (by decide +kernel)) (hts (.instanceMethod objectInit) (by decide +kernel)) (hts (.code objectInit ⟨#[0xb1]⟩ 1 none) (by decide +kernel)) rfl (by rw [hml]; exact hl.1) rfl dX1_init_1 (Nat.le_of_ble_eq_true rfl) (Nat.le_of_ble_eq_true rfl) ?_
  refine W.eq (g2 := F0 m 4 ls []) rfl ?_
  refine lv_aload_n hx hb dX1_init_4 rfl (lv_at hl 0 rfl) ?_
  refine lv_bipush (v := 27) hx hb dX1_init_5 (by decide) ?_
  refine n_newa (atype := .int) (ty := .int) (cI := cI) (a0 := (27, .inl (fun _ => 0))) hx hb (hts (.arrayClass .int) (by decide +kernel)) rfl ra_int hK hP hD hS hA 0 rfl (fun _ => rfl) (by decide) rfl (Nat.le_of_ble_eq_true rfl) (Nat.le_of_ble_eq_true rfl) (Nat.le_of_ble_eq_true rfl) dX1_init_7 (fun q1 H2 hP hD hS => ?_)
  have hP : va_P (dC, dI) vwCl [(h, .inr (1, [.null, .int 0, .int 0])), (q1, .inl (cI, 27, .inl (fun _ => 0)))] H2 := hP
  have hD : va_D A [(h, .inr (1, [.null, .int 0, .int 0])), (q1, .inl (cI, 27, .inl (fun _ => 0)))] := hD
  refine W.widen (k := 1) (n := 27) (by decide) (by decide) ?_
  refine va_putF (D := (dC, dI)) (ci := 1) (v := .ref q1) (ty := .array .int) (C := RX1) (T := TX1) (N := 3) hx hb hts in_g_init_X1 tyX1 tyX1_ok nmX1 hown hK hP hD hS 0 rfl rfl 0 (by decide) (hts (.fieldLink RX1 9 "DepotMarch$Guide" "stack" "[I") (by decide +kernel)) (fun _ h9 => h9) rfl hin rfl (by decide +kernel) rfl rfl (Nat.le_of_ble_eq_true rfl) dX1_init_9 (fun H3 locs hP hD hS => ?_)
  have hP : va_P (dC, dI) vwCl [(h, .inr (1, [.ref q1, .int 0, .int 0])), (q1, .inl (cI, 27, .inl (fun _ => 0)))] H3 := hP
  have hD : va_D A [(h, .inr (1, [.ref q1, .int 0, .int 0])), (q1, .inl (cI, 27, .inl (fun _ => 0)))] := hD
  have hP9 := hP.sub (ws' := [(h, .inr (1, [.ref q1, .int 0, .int 0])), (q1, .inl (cI, 27, .inl (fun _ => 0)))]) [0, 1] rfl
  have hD9 := hD.sub (ws' := [(h, .inr (1, [.ref q1, .int 0, .int 0])), (q1, .inl (cI, 27, .inl (fun _ => 0)))]) [0, 1] (by decide) rfl
  refine W.widen (k := 1) (n := 27) (by decide) (by decide) ?_
  exact W.vret hx hb hr (fun t ht hW => ⟨⟨(fun k => [0, 0, 0, 0, 0, 0, 0, 0, 0, 0, 0, 0, 0, 0, 0, 0, 0, 0, 0, 0, 0, 0, 0, 0, 0, 0, 0, 0, 0, 0, 0, 0, 0, 0, 0, 0, 0, 0, 0, 0, h, q1].getD k 0), rfl, trivial, by rw [ht]; exact hP9, hD9⟩, hS.F ht⟩) hS.2.2 dX1_init_12

def vs_w_init : List Cond := [.code yX6_init cX6_init 2 none, .methodLink RX6 3 objectInit, .instanceMethod objectInit, .code objectInit ⟨#[0xb1]⟩ 1 none, .classLink RX6 9 RX4, .instantiable RX4 8, .initialized RX4, .code yX4_init cX4_init 1 none, .methodLink RX4 3 objectInit, .arrayClass .int, .fieldLink RX4 9 "DepotMarch$Rows" "first" "[I", .fieldLink RX4 15 "DepotMarch$Rows" "last" "[I", .fieldLink RX4 18 "DepotMarch$Rows" "amounts" "[I", .fieldLink RX4 21 "DepotMarch$Rows" "lotOf" "[I", .fieldLink RX4 24 "DepotMarch$Rows" "rations" "[I", .fieldLink RX4 27 "DepotMarch$Rows" "next" "[I", .fieldLink RX4 30 "DepotMarch$Rows" "free" "I", .code yJ7_fill_53178 cJ7_fill_53178 4 none, .methodLink RX4 34 yJ7_fill_53178, .static yJ7_fill_53178, .initialized RJ7, .methodLink RX6 11 yX4_init, .instanceMethod yX4_init, .fieldLink RX6 12 "DepotMarch$World" "rows" "LDepotMarch$Rows;", .classLink RX6 18 RX0, .instantiable RX0 2, .initialized RX0, .code yX0_init cX0_init 1 none, .methodLink RX0 3 objectInit, .fieldLink RX0 9 "DepotMarch$Book" "numbers" "[I", .instanceMethod yX0_init, .fieldLink RX6 21 "DepotMarch$World" "book" "LDepotMarch$Book;", .arrayClass .boolean, .fieldLink RX6 25 "DepotMarch$World" "storms" "[Z", .fieldLink RX6 29 "DepotMarch$World" "letters" "[I", .fieldLink RX6 33 "DepotMarch$World" "lotRations" "[I", .classLink RX6 36 RX2, .fieldLink RX6 38 "DepotMarch$World" "party" "[LDepotMarch$Party;", .methodLink RX6 42 yJ7_fill_53178, .instantiable RX2 11, .initialized RX2, .code yX2_init cX2_init 2 none, .methodLink RX2 3 objectInit, .fieldLink RX2 13 "DepotMarch$Party" "steps" "[I", .fieldLink RX2 18 "DepotMarch$Party" "names" "[I", .fieldLink RX2 21 "DepotMarch$Party" "eaten" "[I", .fieldLink RX2 24 "DepotMarch$Party" "number" "I", .methodLink RX6 48 yX2_init, .instanceMethod yX2_init] ++ (wsX40 ++ (wsX60 ++ (wsX00 ++ (wsX20))))
theorem in_w_init_X4 : ∀ w ∈ u_ws RX4 TX4 8, w ∈ vs_w_init := fun w h => List.mem_append_right _ (List.mem_append_left _ h)
theorem in_w_init_X6 : ∀ w ∈ u_ws RX6 TX6 9, w ∈ vs_w_init := fun w h => List.mem_append_right _ (List.mem_append_right _ (List.mem_append_left _ h))
theorem in_w_init_X0 : ∀ w ∈ u_ws RX0 TX0 2, w ∈ vs_w_init := fun w h => List.mem_append_right _ (List.mem_append_right _ (List.mem_append_right _ (List.mem_append_left _ h)))
theorem in_w_init_X2 : ∀ w ∈ u_ws RX2 TX2 11, w ∈ vs_w_init := fun w h => List.mem_append_right _ (List.mem_append_right _ (List.mem_append_right _ (List.mem_append_right _ (h))))
set_option maxRecDepth 20000 in
theorem gg_w_init_r_init : GoodIn vs_w_init vs_r_init := goodIn_r _ [7, 8, 2, 3, 9, 10, 11, 12, 13, 14, 15, 16, 17, 18, 19, 20, 49, 50, 51, 52, 53, 54, 55, 56] (by decide +kernel) (by decide +kernel)
set_option maxRecDepth 20000 in
theorem gg_w_init_b_init : GoodIn vs_w_init vs_b_init := goodIn_r _ [27, 28, 2, 3, 9, 29, 66, 67] (by decide +kernel) (by decide +kernel)
set_option maxRecDepth 20000 in
theorem gg_w_init_fill : GoodIn vs_w_init vs_fill := goodIn_r _ [17] (by decide +kernel) (by decide +kernel)
set_option maxRecDepth 20000 in
theorem gg_w_init_p_init : GoodIn vs_w_init vs_p_init := goodIn_r _ [41, 42, 2, 3, 43, 9, 44, 45, 46, 68, 69, 70, 71, 72, 73, 74, 75, 76, 77, 78] (by decide +kernel) (by decide +kernel)
set_option maxRecDepth 20000 in
theorem g42_w_init_fill : GoodIn vs_w_init (va_wsS RX6 42 yJ7_fill_53178 vs_fill) := goodIn_app (goodIn_of _ (by decide +kernel)) gg_w_init_fill
set_option maxHeartbeats 4000000 in
set_option maxRecDepth 100000 in
theorem c_w_init (l : Launch) (dC : Nat → ClassId) (dI : Nat → Nat → Nat) (cI cZ cB cJ cP cW : ClassId) (h : Nat) (z : Nat) (sz : Nat) : Met l yX6_init vs_w_init ({ frames := 4, cells := 31, slots := 4652, locals := 240 }) (va_Pc [.ref h] (fun U => U.heap.size = sz ∧ EV dC dI cI cZ cB cJ cP cW U ∧ va_P (dC, dI) vwCl [(h, .inr (6, [.int 0, .int 0, .int 0, .null, .null, .null, .null, .null, .null]))] U.heap ∧ va_D (fun _ => True) [(h, .inr (6, [.int 0, .int 0, .int 0, .null, .null, .null, .null, .null, .null]))] ∧ va_Z "DepotMarch" "NO_ORDERS" "[I" (.ref z) (va_A [(h, .inr (6, [.int 0, .int 0, .int 0, .null, .null, .null, .null, .null, .null]))] sz) U U.heap)) (va_Qv (fun (u : Nat → Nat) => True) (fun u t => va_P (dC, dI) vwCl [(h, .inr (6, [.int 0, .int 0, .int 0, .ref (u 1), .ref (u 8), .ref (u 10), .ref (u 11), .ref (u 12), .ref (u 13)])), ((u 1), .inr (4, [.ref (u 2), .ref (u 3), .ref (u 4), .ref (u 5), .ref (u 6), .ref (u 7), .int 0, .int (-1)])), ((u 2), .inl (cI, 22, .inl (fun _ => (-1)))), ((u 3), .inl (cI, 22, .inl (fun _ => (-1)))), ((u 4), .inl (cI, 22, .inl (fun _ => 0))), ((u 5), .inl (cI, 64, .inl (fun _ => 0))), ((u 6), .inl (cI, 64, .inl (fun _ => 0))), ((u 7), .inl (cI, 64, .inl (fun _ => 0))), ((u 8), .inr (0, [.int 0, .ref (u 9)])), ((u 9), .inl (cI, 3600, .inl (fun _ => 0))), ((u 10), .inl (cZ, 400, .inl (fun _ => 0))), ((u 11), .inl (cI, 16, .inl (fun _ => (-1)))), ((u 12), .inl (cI, 20, .inl (fun _ => 0))), ((u 13), .inl (cP, 6, .inr (.inr (.inr (.inr (va_up (va_up (va_up (va_up (va_up (va_up (fun _ => none) 0 (some (u 14))) 1 (some (u 17))) 2 (some (u 20))) 3 (some (u 23))) 4 (some (u 26))) 5 (some (u 29)))))))), ((u 14), .inr (2, [.int 0, .int 0, .int 0, .int 0, .int 0, .int 0, .int 0, .int 0, .ref z, .ref (u 15), .ref (u 16)])), ((u 15), .inl (cI, 26, .inl (fun _ => 0))), ((u 16), .inl (cI, 20, .inl (fun _ => 0))), ((u 17), .inr (2, [.int 1, .int 0, .int 0, .int 0, .int 0, .int 0, .int 0, .int 0, .ref z, .ref (u 18), .ref (u 19)])), ((u 18), .inl (cI, 26, .inl (fun _ => 0))), ((u 19), .inl (cI, 20, .inl (fun _ => 0))), ((u 20), .inr (2, [.int 2, .int 0, .int 0, .int 0, .int 0, .int 0, .int 0, .int 0, .ref z, .ref (u 21), .ref (u 22)])), ((u 21), .inl (cI, 26, .inl (fun _ => 0))), ((u 22), .inl (cI, 20, .inl (fun _ => 0))), ((u 23), .inr (2, [.int 3, .int 0, .int 0, .int 0, .int 0, .int 0, .int 0, .int 0, .ref z, .ref (u 24), .ref (u 25)])), ((u 24), .inl (cI, 26, .inl (fun _ => 0))), ((u 25), .inl (cI, 20, .inl (fun _ => 0))), ((u 26), .inr (2, [.int 4, .int 0, .int 0, .int 0, .int 0, .int 0, .int 0, .int 0, .ref z, .ref (u 27), .ref (u 28)])), ((u 27), .inl (cI, 26, .inl (fun _ => 0))), ((u 28), .inl (cI, 20, .inl (fun _ => 0))), ((u 29), .inr (2, [.int 5, .int 0, .int 0, .int 0, .int 0, .int 0, .int 0, .int 0, .ref z, .ref (u 30), .ref (u 31)])), ((u 30), .inl (cI, 26, .inl (fun _ => 0))), ((u 31), .inl (cI, 20, .inl (fun _ => 0)))] t.heap ∧ va_D (va_A [(h, .inr (6, [.int 0, .int 0, .int 0, .null, .null, .null, .null, .null, .null]))] sz) [(h, .inr (6, [.int 0, .int 0, .int 0, .ref (u 1), .ref (u 8), .ref (u 10), .ref (u 11), .ref (u 12), .ref (u 13)])), ((u 1), .inr (4, [.ref (u 2), .ref (u 3), .ref (u 4), .ref (u 5), .ref (u 6), .ref (u 7), .int 0, .int (-1)])), ((u 2), .inl (cI, 22, .inl (fun _ => (-1)))), ((u 3), .inl (cI, 22, .inl (fun _ => (-1)))), ((u 4), .inl (cI, 22, .inl (fun _ => 0))), ((u 5), .inl (cI, 64, .inl (fun _ => 0))), ((u 6), .inl (cI, 64, .inl (fun _ => 0))), ((u 7), .inl (cI, 64, .inl (fun _ => 0))), ((u 8), .inr (0, [.int 0, .ref (u 9)])), ((u 9), .inl (cI, 3600, .inl (fun _ => 0))), ((u 10), .inl (cZ, 400, .inl (fun _ => 0))), ((u 11), .inl (cI, 16, .inl (fun _ => (-1)))), ((u 12), .inl (cI, 20, .inl (fun _ => 0))), ((u 13), .inl (cP, 6, .inr (.inr (.inr (.inr (va_up (va_up (va_up (va_up (va_up (va_up (fun _ => none) 0 (some (u 14))) 1 (some (u 17))) 2 (some (u 20))) 3 (some (u 23))) 4 (some (u 26))) 5 (some (u 29)))))))), ((u 14), .inr (2, [.int 0, .int 0, .int 0, .int 0, .int 0, .int 0, .int 0, .int 0, .ref z, .ref (u 15), .ref (u 16)])), ((u 15), .inl (cI, 26, .inl (fun _ => 0))), ((u 16), .inl (cI, 20, .inl (fun _ => 0))), ((u 17), .inr (2, [.int 1, .int 0, .int 0, .int 0, .int 0, .int 0, .int 0, .int 0, .ref z, .ref (u 18), .ref (u 19)])), ((u 18), .inl (cI, 26, .inl (fun _ => 0))), ((u 19), .inl (cI, 20, .inl (fun _ => 0))), ((u 20), .inr (2, [.int 2, .int 0, .int 0, .int 0, .int 0, .int 0, .int 0, .int 0, .ref z, .ref (u 21), .ref (u 22)])), ((u 21), .inl (cI, 26, .inl (fun _ => 0))), ((u 22), .inl (cI, 20, .inl (fun _ => 0))), ((u 23), .inr (2, [.int 3, .int 0, .int 0, .int 0, .int 0, .int 0, .int 0, .int 0, .ref z, .ref (u 24), .ref (u 25)])), ((u 24), .inl (cI, 26, .inl (fun _ => 0))), ((u 25), .inl (cI, 20, .inl (fun _ => 0))), ((u 26), .inr (2, [.int 4, .int 0, .int 0, .int 0, .int 0, .int 0, .int 0, .int 0, .ref z, .ref (u 27), .ref (u 28)])), ((u 27), .inl (cI, 26, .inl (fun _ => 0))), ((u 28), .inl (cI, 20, .inl (fun _ => 0))), ((u 29), .inr (2, [.int 5, .int 0, .int 0, .int 0, .int 0, .int 0, .int 0, .int 0, .ref z, .ref (u 30), .ref (u 31)])), ((u 30), .inl (cI, 26, .inl (fun _ => 0))), ((u 31), .inl (cI, 20, .inl (fun _ => 0)))]) (va_A [(h, .inr (6, [.int 0, .int 0, .int 0, .null, .null, .null, .null, .null, .null]))] sz)) 31 4652 (va_A [(h, .inr (6, [.int 0, .int 0, .int 0, .null, .null, .null, .null, .null, .null]))] sz) := by
  refine Met.ofW (cc := cX6_init) (maxL := 2) (ret := none) (by decide) rfl ?_
  intro p e s m args below meth c s₁ B hml hv
  obtain ⟨rfl, hsz, hE, hP, hD0, hX⟩ := hv
  have hx := B.exec
  have hb := B.bytes
  have hr := B.returns
  have hts := atoms_spec (ws := vs_w_init) B.pre
  have hown : s.vm.findClass RX6 = some m.cls := findClass_of_methodNamed B.named
  have hlocks := B.notSynchronized
  have hK := hE.2
  have hin : meth.name = "<init>" := (name_of_methodNamed B.named B.method).1
  subst hsz
  have hD := hD0.self (sz := s.heap.size)
  generalize hAe : va_A [(h, .inr (6, [.int 0, .int 0, .int 0, .null, .null, .null, .null, .null, .null]))] s.heap.size = A at hX hD ⊢
  have hA : ∀ q : Nat, s.heap.size ≤ q → A q := fun q h => by rw [← hAe]; exact Or.inr h
  have hS : va_S A s.heap s.heap [] := va_S.rf
  have hl := lv_entry ([.ref h]) (n := 2) (Nat.le_of_ble_eq_true rfl)
  rw [lg_entry_eq]
  generalize (lg_sl ([.ref h]) ++ List.replicate (2 - (lg_sl ([.ref h])).length) Slot.unset).toArray = ls at hl ⊢
  have hl : lv_has ls 2 [(0, .ref h)] := hl
  refine lv_aload_n hx hb dX6_init_0 rfl (lv_at hl 0 rfl) ?_
  refine W.objInit hx hb hown (hts (.methodLink RX6 3 objectInit) (by decide +kernel)) (hts (.instanceMethod objectInit) (by decide +kernel)) (hts (.code objectInit ⟨#[0xb1]⟩ 1 none) (by decide +kernel)) rfl (by rw [hml]; exact hl.1) rfl dX6_init_1 (Nat.le_of_ble_eq_true rfl) (Nat.le_of_ble_eq_true rfl) ?_
  refine W.eq (g2 := F0 m 4 ls []) rfl ?_
  refine lv_aload_n hx hb dX6_init_4 rfl (lv_at hl 0 rfl) ?_
  refine va_new (ci := 4) (fs := [.null, .null, .null, .null, .null, .null, .int 0, .int 0]) (C := RX4) (T := TX4) (N := 8) hx hb hts in_w_init_X4 tyX4 tyX4_ok hown (hts (.classLink RX6 9 RX4) (by decide +kernel)) (hts (.instantiable RX4 8) (by decide +kernel)) (hts (.initialized RX4) (by decide +kernel)) hK hP hD hS hA rfl df_X4 (Nat.le_of_ble_eq_true rfl) (Nat.le_of_ble_eq_true rfl) dX6_init_5 (fun q1 H2 hP hD hS => ?_)
  have hP : va_P (dC, dI) vwCl [(h, .inr (6, [.int 0, .int 0, .int 0, .null, .null, .null, .null, .null, .null])), (q1, .inr (4, [.null, .null, .null, .null, .null, .null, .int 0, .int 0]))] H2 := hP
  have hD : va_D A [(h, .inr (6, [.int 0, .int 0, .int 0, .null, .null, .null, .null, .null, .null])), (q1, .inr (4, [.null, .null, .null, .null, .null, .null, .int 0, .int 0]))] := hD
  refine W.widen (k := 1) (n := 8) (by decide) (by decide) ?_
  refine lv_dup hx hb dX6_init_8 rfl ?_
  have hPc := hP.sub (ws' := [(q1, .inr (4, [.null, .null, .null, .null, .null, .null, .int 0, .int 0]))]) [1] rfl
  have hDc := hD.sub (ws' := [(q1, .inr (4, [.null, .null, .null, .null, .null, .null, .int 0, .int 0]))]) [1] (by decide) rfl
  have hFc := va_free (wc := [(q1, .inr (4, [.null, .null, .null, .null, .null, .null, .int 0, .int 0]))]) hD hS hA [1] rfl
  refine va_callv (va_runI (As := []) (rest := [.ref q1, .ref h]) ⟨hx, hb, hml, hown, hts⟩ (c_r_init l dC dI cI cZ cB cJ cP cW q1 H2.size) (cwI 0 hts gg_w_init_r_init rfl rfl rfl (hts (.initialized RX4) (by decide +kernel)) (hts (.methodLink RX6 11 yX4_init) (by decide +kernel)) (hts (.instanceMethod yX4_init) (by decide +kernel)) rfl (by decide +kernel) ⟨Nat.le_of_ble_eq_true rfl, Nat.le_of_ble_eq_true rfl⟩) ⟨fbM, fun U hU hW => ⟨rfl, by rw [hU], hE.warm hW, by rw [hU]; exact hPc, hDc.weaken (fun _ _ _ _ => trivial)⟩⟩ rfl rfl hl.1 rfl (lv_room (Nat.le_of_ble_eq_true rfl)) dX6_init_9 ⟨Nat.le_of_ble_eq_true rfl, Nat.le_of_ble_eq_true rfl⟩) hS (fun q _ h => hFc q h) hFc (fun u4 t H5 locs ht hvm hr3 hB hz1 hk1 hS => ?_)
  obtain ⟨hP1, hD1⟩ := hB
  rw [ht] at hP1
  obtain ⟨hP, hD⟩ := va_join (wr := [(h, .inr (6, [.int 0, .int 0, .int 0, .null, .null, .null, .null, .null, .null]))]) (w1 := [(q1, .inr (4, [.ref (u4 2), .ref (u4 3), .ref (u4 4), .ref (u4 5), .ref (u4 6), .ref (u4 7), .int 0, .int (-1)])), ((u4 2), .inl (cI, 22, .inl (fun _ => (-1)))), ((u4 3), .inl (cI, 22, .inl (fun _ => (-1)))), ((u4 4), .inl (cI, 22, .inl (fun _ => 0))), ((u4 5), .inl (cI, 64, .inl (fun _ => 0))), ((u4 6), .inl (cI, 64, .inl (fun _ => 0))), ((u4 7), .inl (cI, 64, .inl (fun _ => 0)))]) hP hD [1] [0] rfl rfl (by decide) (by decide) hk1 hFc hP1 hD1
  have hP : va_P (dC, dI) vwCl [(h, .inr (6, [.int 0, .int 0, .int 0, .null, .null, .null, .null, .null, .null])), (q1, .inr (4, [.ref (u4 2), .ref (u4 3), .ref (u4 4), .ref (u4 5), .ref (u4 6), .ref (u4 7), .int 0, .int (-1)])), ((u4 2), .inl (cI, 22, .inl (fun _ => (-1)))), ((u4 3), .inl (cI, 22, .inl (fun _ => (-1)))), ((u4 4), .inl (cI, 22, .inl (fun _ => 0))), ((u4 5), .inl (cI, 64, .inl (fun _ => 0))), ((u4 6), .inl (cI, 64, .inl (fun _ => 0))), ((u4 7), .inl (cI, 64, .inl (fun _ => 0)))] H5 := hP
  have hD : va_D A [(h, .inr (6, [.int 0, .int 0, .int 0, .null, .null, .null, .null, .null, .null])), (q1, .inr (4, [.ref (u4 2), .ref (u4 3), .ref (u4 4), .ref (u4 5), .ref (u4 6), .ref (u4 7), .int 0, .int (-1)])), ((u4 2), .inl (cI, 22, .inl (fun _ => (-1)))), ((u4 3), .inl (cI, 22, .inl (fun _ => (-1)))), ((u4 4), .inl (cI, 22, .inl (fun _ => 0))), ((u4 5), .inl (cI, 64, .inl (fun _ => 0))), ((u4 6), .inl (cI, 64, .inl (fun _ => 0))), ((u4 7), .inl (cI, 64, .inl (fun _ => 0)))] := hD
  refine W.widen (k := 7) (n := 266) (by decide) (by decide) ?_
  refine va_putF (D := (dC, dI)) (ci := 6) (v := .ref q1) (ty := .object "DepotMarch$Rows") (C := RX6) (T := TX6) (N := 9) hx hb hts in_w_init_X6 tyX6 tyX6_ok nmX6 hown hK hP hD hS 0 rfl rfl 3 (by decide) (hts (.fieldLink RX6 12 "DepotMarch$World" "rows" "LDepotMarch$Rows;") (by decide +kernel)) (fun _ h9 => h9) rfl hin rfl (by decide +kernel) rfl rfl (Nat.le_of_ble_eq_true rfl) dX6_init_12 (fun H6 locs hP hD hS => ?_)
  have hP : va_P (dC, dI) vwCl [(h, .inr (6, [.int 0, .int 0, .int 0, .ref q1, .null, .null, .null, .null, .null])), (q1, .inr (4, [.ref (u4 2), .ref (u4 3), .ref (u4 4), .ref (u4 5), .ref (u4 6), .ref (u4 7), .int 0, .int (-1)])), ((u4 2), .inl (cI, 22, .inl (fun _ => (-1)))), ((u4 3), .inl (cI, 22, .inl (fun _ => (-1)))), ((u4 4), .inl (cI, 22, .inl (fun _ => 0))), ((u4 5), .inl (cI, 64, .inl (fun _ => 0))), ((u4 6), .inl (cI, 64, .inl (fun _ => 0))), ((u4 7), .inl (cI, 64, .inl (fun _ => 0)))] H6 := hP
  have hD : va_D A [(h, .inr (6, [.int 0, .int 0, .int 0, .ref q1, .null, .null, .null, .null, .null])), (q1, .inr (4, [.ref (u4 2), .ref (u4 3), .ref (u4 4), .ref (u4 5), .ref (u4 6), .ref (u4 7), .int 0, .int (-1)])), ((u4 2), .inl (cI, 22, .inl (fun _ => (-1)))), ((u4 3), .inl (cI, 22, .inl (fun _ => (-1)))), ((u4 4), .inl (cI, 22, .inl (fun _ => 0))), ((u4 5), .inl (cI, 64, .inl (fun _ => 0))), ((u4 6), .inl (cI, 64, .inl (fun _ => 0))), ((u4 7), .inl (cI, 64, .inl (fun _ => 0)))] := hD
  refine lv_aload_n hx hb dX6_init_15 rfl (lv_at hl 0 rfl) ?_
  refine va_new (ci := 0) (fs := [.int 0, .null]) (C := RX0) (T := TX0) (N := 2) hx hb hts in_w_init_X0 tyX0 tyX0_ok hown (hts (.classLink RX6 18 RX0) (by decide +kernel)) (hts (.instantiable RX0 2) (by decide +kernel)) (hts (.initialized RX0) (by decide +kernel)) hK hP hD hS hA rfl df_X0 (Nat.le_of_ble_eq_true rfl) (Nat.le_of_ble_eq_true rfl) dX6_init_16 (fun q7 H8 hP hD hS => ?_)
  have hP : va_P (dC, dI) vwCl [(h, .inr (6, [.int 0, .int 0, .int 0, .ref q1, .null, .null, .null, .null, .null])), (q1, .inr (4, [.ref (u4 2), .ref (u4 3), .ref (u4 4), .ref (u4 5), .ref (u4 6), .ref (u4 7), .int 0, .int (-1)])), ((u4 2), .inl (cI, 22, .inl (fun _ => (-1)))), ((u4 3), .inl (cI, 22, .inl (fun _ => (-1)))), ((u4 4), .inl (cI, 22, .inl (fun _ => 0))), ((u4 5), .inl (cI, 64, .inl (fun _ => 0))), ((u4 6), .inl (cI, 64, .inl (fun _ => 0))), ((u4 7), .inl (cI, 64, .inl (fun _ => 0))), (q7, .inr (0, [.int 0, .null]))] H8 := hP
  have hD : va_D A [(h, .inr (6, [.int 0, .int 0, .int 0, .ref q1, .null, .null, .null, .null, .null])), (q1, .inr (4, [.ref (u4 2), .ref (u4 3), .ref (u4 4), .ref (u4 5), .ref (u4 6), .ref (u4 7), .int 0, .int (-1)])), ((u4 2), .inl (cI, 22, .inl (fun _ => (-1)))), ((u4 3), .inl (cI, 22, .inl (fun _ => (-1)))), ((u4 4), .inl (cI, 22, .inl (fun _ => 0))), ((u4 5), .inl (cI, 64, .inl (fun _ => 0))), ((u4 6), .inl (cI, 64, .inl (fun _ => 0))), ((u4 7), .inl (cI, 64, .inl (fun _ => 0))), (q7, .inr (0, [.int 0, .null]))] := hD
  refine W.widen (k := 8) (n := 268) (by decide) (by decide) ?_
  refine lv_dup hx hb dX6_init_19 rfl ?_
  have hPc := hP.sub (ws' := [(q7, .inr (0, [.int 0, .null]))]) [8] rfl
  have hDc := hD.sub (ws' := [(q7, .inr (0, [.int 0, .null]))]) [8] (by decide) rfl
  have hFc := va_free (wc := [(q7, .inr (0, [.int 0, .null]))]) hD hS hA [8] rfl
  refine va_callv (va_runIN (As := []) (rest := [.ref q7, .ref h]) ⟨hx, hb, hml, hown, hts⟩ (c_b_init l dC dI cI cZ cB cJ cP cW q7 H8.size) ⟨(va_cnB 0 hts gg_w_init_b_init rfl rfl rfl hE.1.n_World_20 (hts (.initialized RX0) (by decide +kernel)) (by decide +kernel) ⟨Nat.le_of_ble_eq_true rfl, Nat.le_of_ble_eq_true rfl⟩), rfl, (hts (.instanceMethod yX0_init) (by decide +kernel))⟩ ⟨fbM, fun U hU hW => ⟨rfl, by rw [hU], hE.warm hW, by rw [hU]; exact hPc, hDc.weaken (fun _ _ _ _ => trivial)⟩⟩ rfl rfl hl.1 rfl (lv_room (Nat.le_of_ble_eq_true rfl)) dX6_init_20 ⟨Nat.le_of_ble_eq_true rfl, Nat.le_of_ble_eq_true rfl⟩) hS (fun q _ h => hFc q h) hFc (fun u10 t H11 locs ht hvm hr9 hB hz1 hk1 hS => ?_)
  obtain ⟨hP1, hD1⟩ := hB
  rw [ht] at hP1
  obtain ⟨hP, hD⟩ := va_join (wr := [(h, .inr (6, [.int 0, .int 0, .int 0, .ref q1, .null, .null, .null, .null, .null])), (q1, .inr (4, [.ref (u4 2), .ref (u4 3), .ref (u4 4), .ref (u4 5), .ref (u4 6), .ref (u4 7), .int 0, .int (-1)])), ((u4 2), .inl (cI, 22, .inl (fun _ => (-1)))), ((u4 3), .inl (cI, 22, .inl (fun _ => (-1)))), ((u4 4), .inl (cI, 22, .inl (fun _ => 0))), ((u4 5), .inl (cI, 64, .inl (fun _ => 0))), ((u4 6), .inl (cI, 64, .inl (fun _ => 0))), ((u4 7), .inl (cI, 64, .inl (fun _ => 0)))]) (w1 := [(q7, .inr (0, [.int 0, .ref (u10 9)])), ((u10 9), .inl (cI, 3600, .inl (fun _ => 0)))]) hP hD [8] [0, 1, 2, 3, 4, 5, 6, 7] rfl rfl (by decide) (by decide) hk1 hFc hP1 hD1
  have hP : va_P (dC, dI) vwCl [(h, .inr (6, [.int 0, .int 0, .int 0, .ref q1, .null, .null, .null, .null, .null])), (q1, .inr (4, [.ref (u4 2), .ref (u4 3), .ref (u4 4), .ref (u4 5), .ref (u4 6), .ref (u4 7), .int 0, .int (-1)])), ((u4 2), .inl (cI, 22, .inl (fun _ => (-1)))), ((u4 3), .inl (cI, 22, .inl (fun _ => (-1)))), ((u4 4), .inl (cI, 22, .inl (fun _ => 0))), ((u4 5), .inl (cI, 64, .inl (fun _ => 0))), ((u4 6), .inl (cI, 64, .inl (fun _ => 0))), ((u4 7), .inl (cI, 64, .inl (fun _ => 0))), (q7, .inr (0, [.int 0, .ref (u10 9)])), ((u10 9), .inl (cI, 3600, .inl (fun _ => 0)))] H11 := hP
  have hD : va_D A [(h, .inr (6, [.int 0, .int 0, .int 0, .ref q1, .null, .null, .null, .null, .null])), (q1, .inr (4, [.ref (u4 2), .ref (u4 3), .ref (u4 4), .ref (u4 5), .ref (u4 6), .ref (u4 7), .int 0, .int (-1)])), ((u4 2), .inl (cI, 22, .inl (fun _ => (-1)))), ((u4 3), .inl (cI, 22, .inl (fun _ => (-1)))), ((u4 4), .inl (cI, 22, .inl (fun _ => 0))), ((u4 5), .inl (cI, 64, .inl (fun _ => 0))), ((u4 6), .inl (cI, 64, .inl (fun _ => 0))), ((u4 7), .inl (cI, 64, .inl (fun _ => 0))), (q7, .inr (0, [.int 0, .ref (u10 9)])), ((u10 9), .inl (cI, 3600, .inl (fun _ => 0)))] := hD
  refine W.widen (k := 9) (n := 3868) (by decide) (by decide) ?_
  refine va_putF (D := (dC, dI)) (ci := 6) (v := .ref q7) (ty := .object "DepotMarch$Book") (C := RX6) (T := TX6) (N := 9) hx hb hts in_w_init_X6 tyX6 tyX6_ok nmX6 hown hK hP hD hS 0 rfl rfl 4 (by decide) (hts (.fieldLink RX6 21 "DepotMarch$World" "book" "LDepotMarch$Book;") (by decide +kernel)) (fun _ h9 => h9) rfl hin rfl (by decide +kernel) rfl rfl (Nat.le_of_ble_eq_true rfl) dX6_init_23 (fun H12 locs hP hD hS => ?_)
  have hP : va_P (dC, dI) vwCl [(h, .inr (6, [.int 0, .int 0, .int 0, .ref q1, .ref q7, .null, .null, .null, .null])), (q1, .inr (4, [.ref (u4 2), .ref (u4 3), .ref (u4 4), .ref (u4 5), .ref (u4 6), .ref (u4 7), .int 0, .int (-1)])), ((u4 2), .inl (cI, 22, .inl (fun _ => (-1)))), ((u4 3), .inl (cI, 22, .inl (fun _ => (-1)))), ((u4 4), .inl (cI, 22, .inl (fun _ => 0))), ((u4 5), .inl (cI, 64, .inl (fun _ => 0))), ((u4 6), .inl (cI, 64, .inl (fun _ => 0))), ((u4 7), .inl (cI, 64, .inl (fun _ => 0))), (q7, .inr (0, [.int 0, .ref (u10 9)])), ((u10 9), .inl (cI, 3600, .inl (fun _ => 0)))] H12 := hP
  have hD : va_D A [(h, .inr (6, [.int 0, .int 0, .int 0, .ref q1, .ref q7, .null, .null, .null, .null])), (q1, .inr (4, [.ref (u4 2), .ref (u4 3), .ref (u4 4), .ref (u4 5), .ref (u4 6), .ref (u4 7), .int 0, .int (-1)])), ((u4 2), .inl (cI, 22, .inl (fun _ => (-1)))), ((u4 3), .inl (cI, 22, .inl (fun _ => (-1)))), ((u4 4), .inl (cI, 22, .inl (fun _ => 0))), ((u4 5), .inl (cI, 64, .inl (fun _ => 0))), ((u4 6), .inl (cI, 64, .inl (fun _ => 0))), ((u4 7), .inl (cI, 64, .inl (fun _ => 0))), (q7, .inr (0, [.int 0, .ref (u10 9)])), ((u10 9), .inl (cI, 3600, .inl (fun _ => 0)))] := hD
  refine lv_aload_n hx hb dX6_init_26 rfl (lv_at hl 0 rfl) ?_
  refine lv_sipush (v := 400) hx hb dX6_init_27 (by decide) ?_
  refine n_newa (atype := .boolean) (ty := .boolean) (cI := cZ) (a0 := (400, .inl (fun _ => 0))) hx hb (hts (.arrayClass .boolean) (by decide +kernel)) rfl ra_boolean hK hP hD hS hA 1 rfl (fun _ => rfl) (by decide) rfl (Nat.le_of_ble_eq_true rfl) (Nat.le_of_ble_eq_true rfl) (Nat.le_of_ble_eq_true rfl) dX6_init_30 (fun q13 H14 hP hD hS => ?_)
  have hP : va_P (dC, dI) vwCl [(h, .inr (6, [.int 0, .int 0, .int 0, .ref q1, .ref q7, .null, .null, .null, .null])), (q1, .inr (4, [.ref (u4 2), .ref (u4 3), .ref (u4 4), .ref (u4 5), .ref (u4 6), .ref (u4 7), .int 0, .int (-1)])), ((u4 2), .inl (cI, 22, .inl (fun _ => (-1)))), ((u4 3), .inl (cI, 22, .inl (fun _ => (-1)))), ((u4 4), .inl (cI, 22, .inl (fun _ => 0))), ((u4 5), .inl (cI, 64, .inl (fun _ => 0))), ((u4 6), .inl (cI, 64, .inl (fun _ => 0))), ((u4 7), .inl (cI, 64, .inl (fun _ => 0))), (q7, .inr (0, [.int 0, .ref (u10 9)])), ((u10 9), .inl (cI, 3600, .inl (fun _ => 0))), (q13, .inl (cZ, 400, .inl (fun _ => 0)))] H14 := hP
  have hD : va_D A [(h, .inr (6, [.int 0, .int 0, .int 0, .ref q1, .ref q7, .null, .null, .null, .null])), (q1, .inr (4, [.ref (u4 2), .ref (u4 3), .ref (u4 4), .ref (u4 5), .ref (u4 6), .ref (u4 7), .int 0, .int (-1)])), ((u4 2), .inl (cI, 22, .inl (fun _ => (-1)))), ((u4 3), .inl (cI, 22, .inl (fun _ => (-1)))), ((u4 4), .inl (cI, 22, .inl (fun _ => 0))), ((u4 5), .inl (cI, 64, .inl (fun _ => 0))), ((u4 6), .inl (cI, 64, .inl (fun _ => 0))), ((u4 7), .inl (cI, 64, .inl (fun _ => 0))), (q7, .inr (0, [.int 0, .ref (u10 9)])), ((u10 9), .inl (cI, 3600, .inl (fun _ => 0))), (q13, .inl (cZ, 400, .inl (fun _ => 0)))] := hD
  refine W.widen (k := 10) (n := 4268) (by decide) (by decide) ?_
  refine va_putF (D := (dC, dI)) (ci := 6) (v := .ref q13) (ty := .array .boolean) (C := RX6) (T := TX6) (N := 9) hx hb hts in_w_init_X6 tyX6 tyX6_ok nmX6 hown hK hP hD hS 0 rfl rfl 5 (by decide) (hts (.fieldLink RX6 25 "DepotMarch$World" "storms" "[Z") (by decide +kernel)) (fun _ h9 => h9) rfl hin rfl (by decide +kernel) rfl rfl (Nat.le_of_ble_eq_true rfl) dX6_init_32 (fun H15 locs hP hD hS => ?_)
  have hP : va_P (dC, dI) vwCl [(h, .inr (6, [.int 0, .int 0, .int 0, .ref q1, .ref q7, .ref q13, .null, .null, .null])), (q1, .inr (4, [.ref (u4 2), .ref (u4 3), .ref (u4 4), .ref (u4 5), .ref (u4 6), .ref (u4 7), .int 0, .int (-1)])), ((u4 2), .inl (cI, 22, .inl (fun _ => (-1)))), ((u4 3), .inl (cI, 22, .inl (fun _ => (-1)))), ((u4 4), .inl (cI, 22, .inl (fun _ => 0))), ((u4 5), .inl (cI, 64, .inl (fun _ => 0))), ((u4 6), .inl (cI, 64, .inl (fun _ => 0))), ((u4 7), .inl (cI, 64, .inl (fun _ => 0))), (q7, .inr (0, [.int 0, .ref (u10 9)])), ((u10 9), .inl (cI, 3600, .inl (fun _ => 0))), (q13, .inl (cZ, 400, .inl (fun _ => 0)))] H15 := hP
  have hD : va_D A [(h, .inr (6, [.int 0, .int 0, .int 0, .ref q1, .ref q7, .ref q13, .null, .null, .null])), (q1, .inr (4, [.ref (u4 2), .ref (u4 3), .ref (u4 4), .ref (u4 5), .ref (u4 6), .ref (u4 7), .int 0, .int (-1)])), ((u4 2), .inl (cI, 22, .inl (fun _ => (-1)))), ((u4 3), .inl (cI, 22, .inl (fun _ => (-1)))), ((u4 4), .inl (cI, 22, .inl (fun _ => 0))), ((u4 5), .inl (cI, 64, .inl (fun _ => 0))), ((u4 6), .inl (cI, 64, .inl (fun _ => 0))), ((u4 7), .inl (cI, 64, .inl (fun _ => 0))), (q7, .inr (0, [.int 0, .ref (u10 9)])), ((u10 9), .inl (cI, 3600, .inl (fun _ => 0))), (q13, .inl (cZ, 400, .inl (fun _ => 0)))] := hD
  refine lv_aload_n hx hb dX6_init_35 rfl (lv_at hl 0 rfl) ?_
  refine lv_bipush (v := 16) hx hb dX6_init_36 (by decide) ?_
  refine n_newa (atype := .int) (ty := .int) (cI := cI) (a0 := (16, .inl (fun _ => 0))) hx hb (hts (.arrayClass .int) (by decide +kernel)) rfl ra_int hK hP hD hS hA 0 rfl (fun _ => rfl) (by decide) rfl (Nat.le_of_ble_eq_true rfl) (Nat.le_of_ble_eq_true rfl) (Nat.le_of_ble_eq_true rfl) dX6_init_38 (fun q16 H17 hP hD hS => ?_)
  have hP : va_P (dC, dI) vwCl [(h, .inr (6, [.int 0, .int 0, .int 0, .ref q1, .ref q7, .ref q13, .null, .null, .null])), (q1, .inr (4, [.ref (u4 2), .ref (u4 3), .ref (u4 4), .ref (u4 5), .ref (u4 6), .ref (u4 7), .int 0, .int (-1)])), ((u4 2), .inl (cI, 22, .inl (fun _ => (-1)))), ((u4 3), .inl (cI, 22, .inl (fun _ => (-1)))), ((u4 4), .inl (cI, 22, .inl (fun _ => 0))), ((u4 5), .inl (cI, 64, .inl (fun _ => 0))), ((u4 6), .inl (cI, 64, .inl (fun _ => 0))), ((u4 7), .inl (cI, 64, .inl (fun _ => 0))), (q7, .inr (0, [.int 0, .ref (u10 9)])), ((u10 9), .inl (cI, 3600, .inl (fun _ => 0))), (q13, .inl (cZ, 400, .inl (fun _ => 0))), (q16, .inl (cI, 16, .inl (fun _ => 0)))] H17 := hP
  have hD : va_D A [(h, .inr (6, [.int 0, .int 0, .int 0, .ref q1, .ref q7, .ref q13, .null, .null, .null])), (q1, .inr (4, [.ref (u4 2), .ref (u4 3), .ref (u4 4), .ref (u4 5), .ref (u4 6), .ref (u4 7), .int 0, .int (-1)])), ((u4 2), .inl (cI, 22, .inl (fun _ => (-1)))), ((u4 3), .inl (cI, 22, .inl (fun _ => (-1)))), ((u4 4), .inl (cI, 22, .inl (fun _ => 0))), ((u4 5), .inl (cI, 64, .inl (fun _ => 0))), ((u4 6), .inl (cI, 64, .inl (fun _ => 0))), ((u4 7), .inl (cI, 64, .inl (fun _ => 0))), (q7, .inr (0, [.int 0, .ref (u10 9)])), ((u10 9), .inl (cI, 3600, .inl (fun _ => 0))), (q13, .inl (cZ, 400, .inl (fun _ => 0))), (q16, .inl (cI, 16, .inl (fun _ => 0)))] := hD
  refine W.widen (k := 11) (n := 4284) (by decide) (by decide) ?_
  refine va_putF (D := (dC, dI)) (ci := 6) (v := .ref q16) (ty := .array .int) (C := RX6) (T := TX6) (N := 9) hx hb hts in_w_init_X6 tyX6 tyX6_ok nmX6 hown hK hP hD hS 0 rfl rfl 6 (by decide) (hts (.fieldLink RX6 29 "DepotMarch$World" "letters" "[I") (by decide +kernel)) (fun _ h9 => h9) rfl hin rfl (by decide +kernel) rfl rfl (Nat.le_of_ble_eq_true rfl) dX6_init_40 (fun H18 locs hP hD hS => ?_)
  have hP : va_P (dC, dI) vwCl [(h, .inr (6, [.int 0, .int 0, .int 0, .ref q1, .ref q7, .ref q13, .ref q16, .null, .null])), (q1, .inr (4, [.ref (u4 2), .ref (u4 3), .ref (u4 4), .ref (u4 5), .ref (u4 6), .ref (u4 7), .int 0, .int (-1)])), ((u4 2), .inl (cI, 22, .inl (fun _ => (-1)))), ((u4 3), .inl (cI, 22, .inl (fun _ => (-1)))), ((u4 4), .inl (cI, 22, .inl (fun _ => 0))), ((u4 5), .inl (cI, 64, .inl (fun _ => 0))), ((u4 6), .inl (cI, 64, .inl (fun _ => 0))), ((u4 7), .inl (cI, 64, .inl (fun _ => 0))), (q7, .inr (0, [.int 0, .ref (u10 9)])), ((u10 9), .inl (cI, 3600, .inl (fun _ => 0))), (q13, .inl (cZ, 400, .inl (fun _ => 0))), (q16, .inl (cI, 16, .inl (fun _ => 0)))] H18 := hP
  have hD : va_D A [(h, .inr (6, [.int 0, .int 0, .int 0, .ref q1, .ref q7, .ref q13, .ref q16, .null, .null])), (q1, .inr (4, [.ref (u4 2), .ref (u4 3), .ref (u4 4), .ref (u4 5), .ref (u4 6), .ref (u4 7), .int 0, .int (-1)])), ((u4 2), .inl (cI, 22, .inl (fun _ => (-1)))), ((u4 3), .inl (cI, 22, .inl (fun _ => (-1)))), ((u4 4), .inl (cI, 22, .inl (fun _ => 0))), ((u4 5), .inl (cI, 64, .inl (fun _ => 0))), ((u4 6), .inl (cI, 64, .inl (fun _ => 0))), ((u4 7), .inl (cI, 64, .inl (fun _ => 0))), (q7, .inr (0, [.int 0, .ref (u10 9)])), ((u10 9), .inl (cI, 3600, .inl (fun _ => 0))), (q13, .inl (cZ, 400, .inl (fun _ => 0))), (q16, .inl (cI, 16, .inl (fun _ => 0)))] := hD
  refine lv_aload_n hx hb dX6_init_43 rfl (lv_at hl 0 rfl) ?_
  refine lv_bipush (v := 20) hx hb dX6_init_44 (by decide) ?_
  refine n_newa (atype := .int) (ty := .int) (cI := cI) (a0 := (20, .inl (fun _ => 0))) hx hb (hts (.arrayClass .int) (by decide +kernel)) rfl ra_int hK hP hD hS hA 0 rfl (fun _ => rfl) (by decide) rfl (Nat.le_of_ble_eq_true rfl) (Nat.le_of_ble_eq_true rfl) (Nat.le_of_ble_eq_true rfl) dX6_init_46 (fun q19 H20 hP hD hS => ?_)
  have hP : va_P (dC, dI) vwCl [(h, .inr (6, [.int 0, .int 0, .int 0, .ref q1, .ref q7, .ref q13, .ref q16, .null, .null])), (q1, .inr (4, [.ref (u4 2), .ref (u4 3), .ref (u4 4), .ref (u4 5), .ref (u4 6), .ref (u4 7), .int 0, .int (-1)])), ((u4 2), .inl (cI, 22, .inl (fun _ => (-1)))), ((u4 3), .inl (cI, 22, .inl (fun _ => (-1)))), ((u4 4), .inl (cI, 22, .inl (fun _ => 0))), ((u4 5), .inl (cI, 64, .inl (fun _ => 0))), ((u4 6), .inl (cI, 64, .inl (fun _ => 0))), ((u4 7), .inl (cI, 64, .inl (fun _ => 0))), (q7, .inr (0, [.int 0, .ref (u10 9)])), ((u10 9), .inl (cI, 3600, .inl (fun _ => 0))), (q13, .inl (cZ, 400, .inl (fun _ => 0))), (q16, .inl (cI, 16, .inl (fun _ => 0))), (q19, .inl (cI, 20, .inl (fun _ => 0)))] H20 := hP
  have hD : va_D A [(h, .inr (6, [.int 0, .int 0, .int 0, .ref q1, .ref q7, .ref q13, .ref q16, .null, .null])), (q1, .inr (4, [.ref (u4 2), .ref (u4 3), .ref (u4 4), .ref (u4 5), .ref (u4 6), .ref (u4 7), .int 0, .int (-1)])), ((u4 2), .inl (cI, 22, .inl (fun _ => (-1)))), ((u4 3), .inl (cI, 22, .inl (fun _ => (-1)))), ((u4 4), .inl (cI, 22, .inl (fun _ => 0))), ((u4 5), .inl (cI, 64, .inl (fun _ => 0))), ((u4 6), .inl (cI, 64, .inl (fun _ => 0))), ((u4 7), .inl (cI, 64, .inl (fun _ => 0))), (q7, .inr (0, [.int 0, .ref (u10 9)])), ((u10 9), .inl (cI, 3600, .inl (fun _ => 0))), (q13, .inl (cZ, 400, .inl (fun _ => 0))), (q16, .inl (cI, 16, .inl (fun _ => 0))), (q19, .inl (cI, 20, .inl (fun _ => 0)))] := hD
  refine W.widen (k := 12) (n := 4304) (by decide) (by decide) ?_
  refine va_putF (D := (dC, dI)) (ci := 6) (v := .ref q19) (ty := .array .int) (C := RX6) (T := TX6) (N := 9) hx hb hts in_w_init_X6 tyX6 tyX6_ok nmX6 hown hK hP hD hS 0 rfl rfl 7 (by decide) (hts (.fieldLink RX6 33 "DepotMarch$World" "lotRations" "[I") (by decide +kernel)) (fun _ h9 => h9) rfl hin rfl (by decide +kernel) rfl rfl (Nat.le_of_ble_eq_true rfl) dX6_init_48 (fun H21 locs hP hD hS => ?_)
  have hP : va_P (dC, dI) vwCl [(h, .inr (6, [.int 0, .int 0, .int 0, .ref q1, .ref q7, .ref q13, .ref q16, .ref q19, .null])), (q1, .inr (4, [.ref (u4 2), .ref (u4 3), .ref (u4 4), .ref (u4 5), .ref (u4 6), .ref (u4 7), .int 0, .int (-1)])), ((u4 2), .inl (cI, 22, .inl (fun _ => (-1)))), ((u4 3), .inl (cI, 22, .inl (fun _ => (-1)))), ((u4 4), .inl (cI, 22, .inl (fun _ => 0))), ((u4 5), .inl (cI, 64, .inl (fun _ => 0))), ((u4 6), .inl (cI, 64, .inl (fun _ => 0))), ((u4 7), .inl (cI, 64, .inl (fun _ => 0))), (q7, .inr (0, [.int 0, .ref (u10 9)])), ((u10 9), .inl (cI, 3600, .inl (fun _ => 0))), (q13, .inl (cZ, 400, .inl (fun _ => 0))), (q16, .inl (cI, 16, .inl (fun _ => 0))), (q19, .inl (cI, 20, .inl (fun _ => 0)))] H21 := hP
  have hD : va_D A [(h, .inr (6, [.int 0, .int 0, .int 0, .ref q1, .ref q7, .ref q13, .ref q16, .ref q19, .null])), (q1, .inr (4, [.ref (u4 2), .ref (u4 3), .ref (u4 4), .ref (u4 5), .ref (u4 6), .ref (u4 7), .int 0, .int (-1)])), ((u4 2), .inl (cI, 22, .inl (fun _ => (-1)))), ((u4 3), .inl (cI, 22, .inl (fun _ => (-1)))), ((u4 4), .inl (cI, 22, .inl (fun _ => 0))), ((u4 5), .inl (cI, 64, .inl (fun _ => 0))), ((u4 6), .inl (cI, 64, .inl (fun _ => 0))), ((u4 7), .inl (cI, 64, .inl (fun _ => 0))), (q7, .inr (0, [.int 0, .ref (u10 9)])), ((u10 9), .inl (cI, 3600, .inl (fun _ => 0))), (q13, .inl (cZ, 400, .inl (fun _ => 0))), (q16, .inl (cI, 16, .inl (fun _ => 0))), (q19, .inl (cI, 20, .inl (fun _ => 0)))] := hD
  refine lv_aload_n hx hb dX6_init_51 rfl (lv_at hl 0 rfl) ?_
  refine lv_bipush (v := 6) hx hb dX6_init_52 (by decide) ?_
  refine n_newq (C := RX2) (cI := cP) hx hb hown (hts (.classLink RX6 36 RX2) (by decide +kernel)) hE.1.aoP hK hP hD hS hA 4 rfl (by decide) rfl (Nat.le_of_ble_eq_true rfl) (Nat.le_of_ble_eq_true rfl) (Nat.le_of_ble_eq_true rfl) dX6_init_54 (fun q22 H23 hP hD hS => ?_)
  have hP : va_P (dC, dI) vwCl [(h, .inr (6, [.int 0, .int 0, .int 0, .ref q1, .ref q7, .ref q13, .ref q16, .ref q19, .null])), (q1, .inr (4, [.ref (u4 2), .ref (u4 3), .ref (u4 4), .ref (u4 5), .ref (u4 6), .ref (u4 7), .int 0, .int (-1)])), ((u4 2), .inl (cI, 22, .inl (fun _ => (-1)))), ((u4 3), .inl (cI, 22, .inl (fun _ => (-1)))), ((u4 4), .inl (cI, 22, .inl (fun _ => 0))), ((u4 5), .inl (cI, 64, .inl (fun _ => 0))), ((u4 6), .inl (cI, 64, .inl (fun _ => 0))), ((u4 7), .inl (cI, 64, .inl (fun _ => 0))), (q7, .inr (0, [.int 0, .ref (u10 9)])), ((u10 9), .inl (cI, 3600, .inl (fun _ => 0))), (q13, .inl (cZ, 400, .inl (fun _ => 0))), (q16, .inl (cI, 16, .inl (fun _ => 0))), (q19, .inl (cI, 20, .inl (fun _ => 0))), (q22, .inl (cP, 6, .inr (.inr (.inr (.inr (fun _ => none))))))] H23 := hP
  have hD : va_D A [(h, .inr (6, [.int 0, .int 0, .int 0, .ref q1, .ref q7, .ref q13, .ref q16, .ref q19, .null])), (q1, .inr (4, [.ref (u4 2), .ref (u4 3), .ref (u4 4), .ref (u4 5), .ref (u4 6), .ref (u4 7), .int 0, .int (-1)])), ((u4 2), .inl (cI, 22, .inl (fun _ => (-1)))), ((u4 3), .inl (cI, 22, .inl (fun _ => (-1)))), ((u4 4), .inl (cI, 22, .inl (fun _ => 0))), ((u4 5), .inl (cI, 64, .inl (fun _ => 0))), ((u4 6), .inl (cI, 64, .inl (fun _ => 0))), ((u4 7), .inl (cI, 64, .inl (fun _ => 0))), (q7, .inr (0, [.int 0, .ref (u10 9)])), ((u10 9), .inl (cI, 3600, .inl (fun _ => 0))), (q13, .inl (cZ, 400, .inl (fun _ => 0))), (q16, .inl (cI, 16, .inl (fun _ => 0))), (q19, .inl (cI, 20, .inl (fun _ => 0))), (q22, .inl (cP, 6, .inr (.inr (.inr (.inr (fun _ => none))))))] := hD
  refine W.widen (k := 13) (n := 4310) (by decide) (by decide) ?_
  refine va_putF (D := (dC, dI)) (ci := 6) (v := .ref q22) (ty := .array (.object "DepotMarch$Party")) (C := RX6) (T := TX6) (N := 9) hx hb hts in_w_init_X6 tyX6 tyX6_ok nmX6 hown hK hP hD hS 0 rfl rfl 8 (by decide) (hts (.fieldLink RX6 38 "DepotMarch$World" "party" "[LDepotMarch$Party;") (by decide +kernel)) (fun _ h9 => h9) rfl hin rfl (by decide +kernel) rfl rfl (Nat.le_of_ble_eq_true rfl) dX6_init_57 (fun H24 locs hP hD hS => ?_)
  have hP : va_P (dC, dI) vwCl [(h, .inr (6, [.int 0, .int 0, .int 0, .ref q1, .ref q7, .ref q13, .ref q16, .ref q19, .ref q22])), (q1, .inr (4, [.ref (u4 2), .ref (u4 3), .ref (u4 4), .ref (u4 5), .ref (u4 6), .ref (u4 7), .int 0, .int (-1)])), ((u4 2), .inl (cI, 22, .inl (fun _ => (-1)))), ((u4 3), .inl (cI, 22, .inl (fun _ => (-1)))), ((u4 4), .inl (cI, 22, .inl (fun _ => 0))), ((u4 5), .inl (cI, 64, .inl (fun _ => 0))), ((u4 6), .inl (cI, 64, .inl (fun _ => 0))), ((u4 7), .inl (cI, 64, .inl (fun _ => 0))), (q7, .inr (0, [.int 0, .ref (u10 9)])), ((u10 9), .inl (cI, 3600, .inl (fun _ => 0))), (q13, .inl (cZ, 400, .inl (fun _ => 0))), (q16, .inl (cI, 16, .inl (fun _ => 0))), (q19, .inl (cI, 20, .inl (fun _ => 0))), (q22, .inl (cP, 6, .inr (.inr (.inr (.inr (fun _ => none))))))] H24 := hP
  have hD : va_D A [(h, .inr (6, [.int 0, .int 0, .int 0, .ref q1, .ref q7, .ref q13, .ref q16, .ref q19, .ref q22])), (q1, .inr (4, [.ref (u4 2), .ref (u4 3), .ref (u4 4), .ref (u4 5), .ref (u4 6), .ref (u4 7), .int 0, .int (-1)])), ((u4 2), .inl (cI, 22, .inl (fun _ => (-1)))), ((u4 3), .inl (cI, 22, .inl (fun _ => (-1)))), ((u4 4), .inl (cI, 22, .inl (fun _ => 0))), ((u4 5), .inl (cI, 64, .inl (fun _ => 0))), ((u4 6), .inl (cI, 64, .inl (fun _ => 0))), ((u4 7), .inl (cI, 64, .inl (fun _ => 0))), (q7, .inr (0, [.int 0, .ref (u10 9)])), ((u10 9), .inl (cI, 3600, .inl (fun _ => 0))), (q13, .inl (cZ, 400, .inl (fun _ => 0))), (q16, .inl (cI, 16, .inl (fun _ => 0))), (q19, .inl (cI, 20, .inl (fun _ => 0))), (q22, .inl (cP, 6, .inr (.inr (.inr (.inr (fun _ => none))))))] := hD
  refine lv_aload_n hx hb dX6_init_60 rfl (lv_at hl 0 rfl) ?_
  refine va_get (D := (dC, dI)) (ci := 6) (v := .ref q16) (C := RX6) (T := TX6) (N := 9) hx hb hts in_w_init_X6 hown hK hP 0 rfl rfl 6 (by decide) (hts (.fieldLink RX6 29 "DepotMarch$World" "letters" "[I") (by decide +kernel)) (fun _ h9 => h9) rfl dX6_init_61 ?_
  refine lv_iconst (v := (-1)) hx hb dX6_init_64 (by decide) ?_
  have hPc := hP.sub (ws' := [(q16, .inl (cI, 16, .inl (fun _ => 0)))]) [11] rfl
  have hDc := hD.sub (ws' := [(q16, .inl (cI, 16, .inl (fun _ => 0)))]) [11] (by decide) rfl
  have hFc := va_free (wc := [(q16, .inl (cI, 16, .inl (fun _ => 0)))]) hD hS hA [11] rfl
  refine va_callv (va_runS (As := [.ref q16, .int (-1)]) (rest := []) ⟨hx, hb, hml, hown, hts⟩ ((c_fill l dC dI cI cZ cB cJ cP cW q16 16 (fun _ => 0) (-1) H24.size) (by decide)) (va_cwS 2 hts g42_w_init_fill rfl rfl rfl (by decide +kernel) ⟨Nat.le_of_ble_eq_true rfl, Nat.le_of_ble_eq_true rfl⟩) ⟨fbM, fun U hU hW => ⟨rfl, by rw [hU], hE.warm hW, by rw [hU]; exact hPc, hDc.weaken (fun _ _ _ _ => trivial)⟩⟩ rfl rfl hl.1 rfl (lv_room (Nat.le_of_ble_eq_true rfl)) dX6_init_65 ⟨Nat.le_of_ble_eq_true rfl, Nat.le_of_ble_eq_true rfl⟩) hS (fun q _ h => hFc q h) hFc (fun u26 t H27 locs ht hvm hr25 hB hz1 hk1 hS => ?_)
  obtain ⟨hP1, hD1⟩ := hB
  rw [ht] at hP1
  obtain ⟨hP, hD⟩ := va_join (wr := [(h, .inr (6, [.int 0, .int 0, .int 0, .ref q1, .ref q7, .ref q13, .ref q16, .ref q19, .ref q22])), (q1, .inr (4, [.ref (u4 2), .ref (u4 3), .ref (u4 4), .ref (u4 5), .ref (u4 6), .ref (u4 7), .int 0, .int (-1)])), ((u4 2), .inl (cI, 22, .inl (fun _ => (-1)))), ((u4 3), .inl (cI, 22, .inl (fun _ => (-1)))), ((u4 4), .inl (cI, 22, .inl (fun _ => 0))), ((u4 5), .inl (cI, 64, .inl (fun _ => 0))), ((u4 6), .inl (cI, 64, .inl (fun _ => 0))), ((u4 7), .inl (cI, 64, .inl (fun _ => 0))), (q7, .inr (0, [.int 0, .ref (u10 9)])), ((u10 9), .inl (cI, 3600, .inl (fun _ => 0))), (q13, .inl (cZ, 400, .inl (fun _ => 0))), (q19, .inl (cI, 20, .inl (fun _ => 0))), (q22, .inl (cP, 6, .inr (.inr (.inr (.inr (fun _ => none))))))]) (w1 := [(q16, .inl (cI, 16, .inl (fun _ => (-1))))]) hP hD [11] [0, 1, 2, 3, 4, 5, 6, 7, 8, 9, 10, 12, 13] rfl rfl (by decide) (by decide) hk1 hFc hP1 hD1
  have hP : va_P (dC, dI) vwCl [(h, .inr (6, [.int 0, .int 0, .int 0, .ref q1, .ref q7, .ref q13, .ref q16, .ref q19, .ref q22])), (q1, .inr (4, [.ref (u4 2), .ref (u4 3), .ref (u4 4), .ref (u4 5), .ref (u4 6), .ref (u4 7), .int 0, .int (-1)])), ((u4 2), .inl (cI, 22, .inl (fun _ => (-1)))), ((u4 3), .inl (cI, 22, .inl (fun _ => (-1)))), ((u4 4), .inl (cI, 22, .inl (fun _ => 0))), ((u4 5), .inl (cI, 64, .inl (fun _ => 0))), ((u4 6), .inl (cI, 64, .inl (fun _ => 0))), ((u4 7), .inl (cI, 64, .inl (fun _ => 0))), (q7, .inr (0, [.int 0, .ref (u10 9)])), ((u10 9), .inl (cI, 3600, .inl (fun _ => 0))), (q13, .inl (cZ, 400, .inl (fun _ => 0))), (q19, .inl (cI, 20, .inl (fun _ => 0))), (q22, .inl (cP, 6, .inr (.inr (.inr (.inr (fun _ => none)))))), (q16, .inl (cI, 16, .inl (fun _ => (-1))))] H27 := hP
  have hD : va_D A [(h, .inr (6, [.int 0, .int 0, .int 0, .ref q1, .ref q7, .ref q13, .ref q16, .ref q19, .ref q22])), (q1, .inr (4, [.ref (u4 2), .ref (u4 3), .ref (u4 4), .ref (u4 5), .ref (u4 6), .ref (u4 7), .int 0, .int (-1)])), ((u4 2), .inl (cI, 22, .inl (fun _ => (-1)))), ((u4 3), .inl (cI, 22, .inl (fun _ => (-1)))), ((u4 4), .inl (cI, 22, .inl (fun _ => 0))), ((u4 5), .inl (cI, 64, .inl (fun _ => 0))), ((u4 6), .inl (cI, 64, .inl (fun _ => 0))), ((u4 7), .inl (cI, 64, .inl (fun _ => 0))), (q7, .inr (0, [.int 0, .ref (u10 9)])), ((u10 9), .inl (cI, 3600, .inl (fun _ => 0))), (q13, .inl (cZ, 400, .inl (fun _ => 0))), (q19, .inl (cI, 20, .inl (fun _ => 0))), (q22, .inl (cP, 6, .inr (.inr (.inr (.inr (fun _ => none)))))), (q16, .inl (cI, 16, .inl (fun _ => (-1))))] := hD
  refine lv_iconst (v := 0) hx hb dX6_init_68 (by decide) ?_
  refine lv_istore_n (lv' := [(1, .int 0), (0, .ref h)]) hx hb dX6_init_69 rfl hl (by decide) rfl (fun ls hl => ?_)
  refine lv_iload_n hx hb dX6_init_70 rfl (lv_at hl 0 rfl) ?_
  refine lv_bipush (v := 6) hx hb dX6_init_71 (by decide) ?_
  refine lv_icmp_ge (tgt := 96) hx hb dX6_init_73 (by decide) (fun c9 => absurd c9 (by decide)) (fun _ => ?_)
  refine lv_aload_n hx hb dX6_init_76 rfl (lv_at hl 1 rfl) ?_
  refine va_get (D := (dC, dI)) (ci := 6) (v := .ref q22) (C := RX6) (T := TX6) (N := 9) hx hb hts in_w_init_X6 hown hK hP 0 rfl rfl 8 (by decide) (hts (.fieldLink RX6 38 "DepotMarch$World" "party" "[LDepotMarch$Party;") (by decide +kernel)) (fun _ h9 => h9) rfl dX6_init_77 ?_
  refine lv_iload_n hx hb dX6_init_80 rfl (lv_at hl 0 rfl) ?_
  refine va_new (ci := 2) (fs := [.int 0, .int 0, .int 0, .int 0, .int 0, .int 0, .int 0, .int 0, .null, .null, .null]) (C := RX2) (T := TX2) (N := 11) hx hb hts in_w_init_X2 tyX2 tyX2_ok hown (hts (.classLink RX6 36 RX2) (by decide +kernel)) (hts (.instantiable RX2 11) (by decide +kernel)) (hts (.initialized RX2) (by decide +kernel)) hK hP hD hS hA rfl df_X2 (Nat.le_of_ble_eq_true rfl) (Nat.le_of_ble_eq_true rfl) dX6_init_81 (fun q29 H30 hP hD hS => ?_)
  have hP : va_P (dC, dI) vwCl [(h, .inr (6, [.int 0, .int 0, .int 0, .ref q1, .ref q7, .ref q13, .ref q16, .ref q19, .ref q22])), (q1, .inr (4, [.ref (u4 2), .ref (u4 3), .ref (u4 4), .ref (u4 5), .ref (u4 6), .ref (u4 7), .int 0, .int (-1)])), ((u4 2), .inl (cI, 22, .inl (fun _ => (-1)))), ((u4 3), .inl (cI, 22, .inl (fun _ => (-1)))), ((u4 4), .inl (cI, 22, .inl (fun _ => 0))), ((u4 5), .inl (cI, 64, .inl (fun _ => 0))), ((u4 6), .inl (cI, 64, .inl (fun _ => 0))), ((u4 7), .inl (cI, 64, .inl (fun _ => 0))), (q7, .inr (0, [.int 0, .ref (u10 9)])), ((u10 9), .inl (cI, 3600, .inl (fun _ => 0))), (q13, .inl (cZ, 400, .inl (fun _ => 0))), (q19, .inl (cI, 20, .inl (fun _ => 0))), (q22, .inl (cP, 6, .inr (.inr (.inr (.inr (fun _ => none)))))), (q16, .inl (cI, 16, .inl (fun _ => (-1)))), (q29, .inr (2, [.int 0, .int 0, .int 0, .int 0, .int 0, .int 0, .int 0, .int 0, .null, .null, .null]))] H30 := hP
  have hD : va_D A [(h, .inr (6, [.int 0, .int 0, .int 0, .ref q1, .ref q7, .ref q13, .ref q16, .ref q19, .ref q22])), (q1, .inr (4, [.ref (u4 2), .ref (u4 3), .ref (u4 4), .ref (u4 5), .ref (u4 6), .ref (u4 7), .int 0, .int (-1)])), ((u4 2), .inl (cI, 22, .inl (fun _ => (-1)))), ((u4 3), .inl (cI, 22, .inl (fun _ => (-1)))), ((u4 4), .inl (cI, 22, .inl (fun _ => 0))), ((u4 5), .inl (cI, 64, .inl (fun _ => 0))), ((u4 6), .inl (cI, 64, .inl (fun _ => 0))), ((u4 7), .inl (cI, 64, .inl (fun _ => 0))), (q7, .inr (0, [.int 0, .ref (u10 9)])), ((u10 9), .inl (cI, 3600, .inl (fun _ => 0))), (q13, .inl (cZ, 400, .inl (fun _ => 0))), (q19, .inl (cI, 20, .inl (fun _ => 0))), (q22, .inl (cP, 6, .inr (.inr (.inr (.inr (fun _ => none)))))), (q16, .inl (cI, 16, .inl (fun _ => (-1)))), (q29, .inr (2, [.int 0, .int 0, .int 0, .int 0, .int 0, .int 0, .int 0, .int 0, .null, .null, .null]))] := hD
  refine W.widen (k := 14) (n := 4321) (by decide) (by decide) ?_
  refine lv_dup hx hb dX6_init_84 rfl ?_
  refine lv_iload_n hx hb dX6_init_85 rfl (lv_at hl 0 rfl) ?_
  have hPc := hP.sub (ws' := [(q29, .inr (2, [.int 0, .int 0, .int 0, .int 0, .int 0, .int 0, .int 0, .int 0, .null, .null, .null]))]) [14] rfl
  have hDc := hD.sub (ws' := [(q29, .inr (2, [.int 0, .int 0, .int 0, .int 0, .int 0, .int 0, .int 0, .int 0, .null, .null, .null]))]) [14] (by decide) rfl
  have hFc := va_free (wc := [(q29, .inr (2, [.int 0, .int 0, .int 0, .int 0, .int 0, .int 0, .int 0, .int 0, .null, .null, .null]))]) hD hS hA [14] rfl
  refine va_callv (va_runI (As := [.int 0]) (rest := [.ref q29, .int 0, .ref q22]) ⟨hx, hb, hml, hown, hts⟩ (c_p_init l dC dI cI cZ cB cJ cP cW q29 0 z H30.size) (cwI 1 hts gg_w_init_p_init rfl rfl rfl (hts (.initialized RX2) (by decide +kernel)) (hts (.methodLink RX6 48 yX2_init) (by decide +kernel)) (hts (.instanceMethod yX2_init) (by decide +kernel)) rfl (by decide +kernel) ⟨Nat.le_of_ble_eq_true rfl, Nat.le_of_ble_eq_true rfl⟩) ⟨fbMX blZ, fun U hU hW => ⟨rfl, by rw [hU], hE.warm hW, by rw [hU]; exact hPc, hDc.weaken (fun _ _ _ _ => trivial), (by rw [hU]; exact va_Z.moved hW.alike ((va_Z.kept hX hS.2.1).narrow hFc))⟩⟩ rfl rfl hl.1 rfl (lv_room (Nat.le_of_ble_eq_true rfl)) dX6_init_86 ⟨Nat.le_of_ble_eq_true rfl, Nat.le_of_ble_eq_true rfl⟩) hS (fun q _ h => hFc q h) hFc (fun u32 t H33 locs ht hvm hr31 hB hz1 hk1 hS => ?_)
  obtain ⟨hP1, hD1⟩ := hB
  rw [ht] at hP1
  obtain ⟨hP, hD⟩ := va_join (wr := [(h, .inr (6, [.int 0, .int 0, .int 0, .ref q1, .ref q7, .ref q13, .ref q16, .ref q19, .ref q22])), (q1, .inr (4, [.ref (u4 2), .ref (u4 3), .ref (u4 4), .ref (u4 5), .ref (u4 6), .ref (u4 7), .int 0, .int (-1)])), ((u4 2), .inl (cI, 22, .inl (fun _ => (-1)))), ((u4 3), .inl (cI, 22, .inl (fun _ => (-1)))), ((u4 4), .inl (cI, 22, .inl (fun _ => 0))), ((u4 5), .inl (cI, 64, .inl (fun _ => 0))), ((u4 6), .inl (cI, 64, .inl (fun _ => 0))), ((u4 7), .inl (cI, 64, .inl (fun _ => 0))), (q7, .inr (0, [.int 0, .ref (u10 9)])), ((u10 9), .inl (cI, 3600, .inl (fun _ => 0))), (q13, .inl (cZ, 400, .inl (fun _ => 0))), (q19, .inl (cI, 20, .inl (fun _ => 0))), (q22, .inl (cP, 6, .inr (.inr (.inr (.inr (fun _ => none)))))), (q16, .inl (cI, 16, .inl (fun _ => (-1))))]) (w1 := [(q29, .inr (2, [.int 0, .int 0, .int 0, .int 0, .int 0, .int 0, .int 0, .int 0, .ref z, .ref (u32 1), .ref (u32 2)])), ((u32 1), .inl (cI, 26, .inl (fun _ => 0))), ((u32 2), .inl (cI, 20, .inl (fun _ => 0)))]) hP hD [14] [0, 1, 2, 3, 4, 5, 6, 7, 8, 9, 10, 11, 12, 13] rfl rfl (by decide) (by decide) hk1 hFc hP1 hD1
  have hP : va_P (dC, dI) vwCl [(h, .inr (6, [.int 0, .int 0, .int 0, .ref q1, .ref q7, .ref q13, .ref q16, .ref q19, .ref q22])), (q1, .inr (4, [.ref (u4 2), .ref (u4 3), .ref (u4 4), .ref (u4 5), .ref (u4 6), .ref (u4 7), .int 0, .int (-1)])), ((u4 2), .inl (cI, 22, .inl (fun _ => (-1)))), ((u4 3), .inl (cI, 22, .inl (fun _ => (-1)))), ((u4 4), .inl (cI, 22, .inl (fun _ => 0))), ((u4 5), .inl (cI, 64, .inl (fun _ => 0))), ((u4 6), .inl (cI, 64, .inl (fun _ => 0))), ((u4 7), .inl (cI, 64, .inl (fun _ => 0))), (q7, .inr (0, [.int 0, .ref (u10 9)])), ((u10 9), .inl (cI, 3600, .inl (fun _ => 0))), (q13, .inl (cZ, 400, .inl (fun _ => 0))), (q19, .inl (cI, 20, .inl (fun _ => 0))), (q22, .inl (cP, 6, .inr (.inr (.inr (.inr (fun _ => none)))))), (q16, .inl (cI, 16, .inl (fun _ => (-1)))), (q29, .inr (2, [.int 0, .int 0, .int 0, .int 0, .int 0, .int 0, .int 0, .int 0, .ref z, .ref (u32 1), .ref (u32 2)])), ((u32 1), .inl (cI, 26, .inl (fun _ => 0))), ((u32 2), .inl (cI, 20, .inl (fun _ => 0)))] H33 := hP
  have hD : va_D A [(h, .inr (6, [.int 0, .int 0, .int 0, .ref q1, .ref q7, .ref q13, .ref q16, .ref q19, .ref q22])), (q1, .inr (4, [.ref (u4 2), .ref (u4 3), .ref (u4 4), .ref (u4 5), .ref (u4 6), .ref (u4 7), .int 0, .int (-1)])), ((u4 2), .inl (cI, 22, .inl (fun _ => (-1)))), ((u4 3), .inl (cI, 22, .inl (fun _ => (-1)))), ((u4 4), .inl (cI, 22, .inl (fun _ => 0))), ((u4 5), .inl (cI, 64, .inl (fun _ => 0))), ((u4 6), .inl (cI, 64, .inl (fun _ => 0))), ((u4 7), .inl (cI, 64, .inl (fun _ => 0))), (q7, .inr (0, [.int 0, .ref (u10 9)])), ((u10 9), .inl (cI, 3600, .inl (fun _ => 0))), (q13, .inl (cZ, 400, .inl (fun _ => 0))), (q19, .inl (cI, 20, .inl (fun _ => 0))), (q22, .inl (cP, 6, .inr (.inr (.inr (.inr (fun _ => none)))))), (q16, .inl (cI, 16, .inl (fun _ => (-1)))), (q29, .inr (2, [.int 0, .int 0, .int 0, .int 0, .int 0, .int 0, .int 0, .int 0, .ref z, .ref (u32 1), .ref (u32 2)])), ((u32 1), .inl (cI, 26, .inl (fun _ => 0))), ((u32 2), .inl (cI, 20, .inl (fun _ => 0)))] := hD
  refine W.widen (k := 16) (n := 4367) (by decide) (by decide) ?_
  refine va_astq hx hb hK hP hD hS 12 4 14 2 rfl rfl rfl rfl (vpd rfl) dX6_init_89 (fun H34 locs hP hD hS => ?_)
  have hP : va_P (dC, dI) vwCl [(h, .inr (6, [.int 0, .int 0, .int 0, .ref q1, .ref q7, .ref q13, .ref q16, .ref q19, .ref q22])), (q1, .inr (4, [.ref (u4 2), .ref (u4 3), .ref (u4 4), .ref (u4 5), .ref (u4 6), .ref (u4 7), .int 0, .int (-1)])), ((u4 2), .inl (cI, 22, .inl (fun _ => (-1)))), ((u4 3), .inl (cI, 22, .inl (fun _ => (-1)))), ((u4 4), .inl (cI, 22, .inl (fun _ => 0))), ((u4 5), .inl (cI, 64, .inl (fun _ => 0))), ((u4 6), .inl (cI, 64, .inl (fun _ => 0))), ((u4 7), .inl (cI, 64, .inl (fun _ => 0))), (q7, .inr (0, [.int 0, .ref (u10 9)])), ((u10 9), .inl (cI, 3600, .inl (fun _ => 0))), (q13, .inl (cZ, 400, .inl (fun _ => 0))), (q19, .inl (cI, 20, .inl (fun _ => 0))), (q22, .inl (cP, 6, .inr (.inr (.inr (.inr (va_up (fun _ => none) 0 (some q29))))))), (q16, .inl (cI, 16, .inl (fun _ => (-1)))), (q29, .inr (2, [.int 0, .int 0, .int 0, .int 0, .int 0, .int 0, .int 0, .int 0, .ref z, .ref (u32 1), .ref (u32 2)])), ((u32 1), .inl (cI, 26, .inl (fun _ => 0))), ((u32 2), .inl (cI, 20, .inl (fun _ => 0)))] H34 := hP
  have hD : va_D A [(h, .inr (6, [.int 0, .int 0, .int 0, .ref q1, .ref q7, .ref q13, .ref q16, .ref q19, .ref q22])), (q1, .inr (4, [.ref (u4 2), .ref (u4 3), .ref (u4 4), .ref (u4 5), .ref (u4 6), .ref (u4 7), .int 0, .int (-1)])), ((u4 2), .inl (cI, 22, .inl (fun _ => (-1)))), ((u4 3), .inl (cI, 22, .inl (fun _ => (-1)))), ((u4 4), .inl (cI, 22, .inl (fun _ => 0))), ((u4 5), .inl (cI, 64, .inl (fun _ => 0))), ((u4 6), .inl (cI, 64, .inl (fun _ => 0))), ((u4 7), .inl (cI, 64, .inl (fun _ => 0))), (q7, .inr (0, [.int 0, .ref (u10 9)])), ((u10 9), .inl (cI, 3600, .inl (fun _ => 0))), (q13, .inl (cZ, 400, .inl (fun _ => 0))), (q19, .inl (cI, 20, .inl (fun _ => 0))), (q22, .inl (cP, 6, .inr (.inr (.inr (.inr (va_up (fun _ => none) 0 (some q29))))))), (q16, .inl (cI, 16, .inl (fun _ => (-1)))), (q29, .inr (2, [.int 0, .int 0, .int 0, .int 0, .int 0, .int 0, .int 0, .int 0, .ref z, .ref (u32 1), .ref (u32 2)])), ((u32 1), .inl (cI, 26, .inl (fun _ => 0))), ((u32 2), .inl (cI, 20, .inl (fun _ => 0)))] := hD
  refine lv_iinc (v := 1) (lv' := [(1, .int 1), (0, .ref h)]) hx hb dX6_init_90 hl (k := 0) rfl (by decide) (by decide) rfl (fun ls hl => ?_)
  refine lv_goto (tgt := 70) hx hb dX6_init_93 (by decide) ?_
  refine lv_iload_n hx hb dX6_init_70 rfl (lv_at hl 0 rfl) ?_
  refine lv_bipush (v := 6) hx hb dX6_init_71 (by decide) ?_
  refine lv_icmp_ge (tgt := 96) hx hb dX6_init_73 (by decide) (fun c9 => absurd c9 (by decide)) (fun _ => ?_)
  refine lv_aload_n hx hb dX6_init_76 rfl (lv_at hl 1 rfl) ?_
  refine va_get (D := (dC, dI)) (ci := 6) (v := .ref q22) (C := RX6) (T := TX6) (N := 9) hx hb hts in_w_init_X6 hown hK hP 0 rfl rfl 8 (by decide) (hts (.fieldLink RX6 38 "DepotMarch$World" "party" "[LDepotMarch$Party;") (by decide +kernel)) (fun _ h9 => h9) rfl dX6_init_77 ?_
  refine lv_iload_n hx hb dX6_init_80 rfl (lv_at hl 0 rfl) ?_
  refine va_new (ci := 2) (fs := [.int 0, .int 0, .int 0, .int 0, .int 0, .int 0, .int 0, .int 0, .null, .null, .null]) (C := RX2) (T := TX2) (N := 11) hx hb hts in_w_init_X2 tyX2 tyX2_ok hown (hts (.classLink RX6 36 RX2) (by decide +kernel)) (hts (.instantiable RX2 11) (by decide +kernel)) (hts (.initialized RX2) (by decide +kernel)) hK hP hD hS hA rfl df_X2 (Nat.le_of_ble_eq_true rfl) (Nat.le_of_ble_eq_true rfl) dX6_init_81 (fun q36 H37 hP hD hS => ?_)
  have hP : va_P (dC, dI) vwCl [(h, .inr (6, [.int 0, .int 0, .int 0, .ref q1, .ref q7, .ref q13, .ref q16, .ref q19, .ref q22])), (q1, .inr (4, [.ref (u4 2), .ref (u4 3), .ref (u4 4), .ref (u4 5), .ref (u4 6), .ref (u4 7), .int 0, .int (-1)])), ((u4 2), .inl (cI, 22, .inl (fun _ => (-1)))), ((u4 3), .inl (cI, 22, .inl (fun _ => (-1)))), ((u4 4), .inl (cI, 22, .inl (fun _ => 0))), ((u4 5), .inl (cI, 64, .inl (fun _ => 0))), ((u4 6), .inl (cI, 64, .inl (fun _ => 0))), ((u4 7), .inl (cI, 64, .inl (fun _ => 0))), (q7, .inr (0, [.int 0, .ref (u10 9)])), ((u10 9), .inl (cI, 3600, .inl (fun _ => 0))), (q13, .inl (cZ, 400, .inl (fun _ => 0))), (q19, .inl (cI, 20, .inl (fun _ => 0))), (q22, .inl (cP, 6, .inr (.inr (.inr (.inr (va_up (fun _ => none) 0 (some q29))))))), (q16, .inl (cI, 16, .inl (fun _ => (-1)))), (q29, .inr (2, [.int 0, .int 0, .int 0, .int 0, .int 0, .int 0, .int 0, .int 0, .ref z, .ref (u32 1), .ref (u32 2)])), ((u32 1), .inl (cI, 26, .inl (fun _ => 0))), ((u32 2), .inl (cI, 20, .inl (fun _ => 0))), (q36, .inr (2, [.int 0, .int 0, .int 0, .int 0, .int 0, .int 0, .int 0, .int 0, .null, .null, .null]))] H37 := hP
  have hD : va_D A [(h, .inr (6, [.int 0, .int 0, .int 0, .ref q1, .ref q7, .ref q13, .ref q16, .ref q19, .ref q22])), (q1, .inr (4, [.ref (u4 2), .ref (u4 3), .ref (u4 4), .ref (u4 5), .ref (u4 6), .ref (u4 7), .int 0, .int (-1)])), ((u4 2), .inl (cI, 22, .inl (fun _ => (-1)))), ((u4 3), .inl (cI, 22, .inl (fun _ => (-1)))), ((u4 4), .inl (cI, 22, .inl (fun _ => 0))), ((u4 5), .inl (cI, 64, .inl (fun _ => 0))), ((u4 6), .inl (cI, 64, .inl (fun _ => 0))), ((u4 7), .inl (cI, 64, .inl (fun _ => 0))), (q7, .inr (0, [.int 0, .ref (u10 9)])), ((u10 9), .inl (cI, 3600, .inl (fun _ => 0))), (q13, .inl (cZ, 400, .inl (fun _ => 0))), (q19, .inl (cI, 20, .inl (fun _ => 0))), (q22, .inl (cP, 6, .inr (.inr (.inr (.inr (va_up (fun _ => none) 0 (some q29))))))), (q16, .inl (cI, 16, .inl (fun _ => (-1)))), (q29, .inr (2, [.int 0, .int 0, .int 0, .int 0, .int 0, .int 0, .int 0, .int 0, .ref z, .ref (u32 1), .ref (u32 2)])), ((u32 1), .inl (cI, 26, .inl (fun _ => 0))), ((u32 2), .inl (cI, 20, .inl (fun _ => 0))), (q36, .inr (2, [.int 0, .int 0, .int 0, .int 0, .int 0, .int 0, .int 0, .int 0, .null, .null, .null]))] := hD
  refine W.widen (k := 17) (n := 4378) (by decide) (by decide) ?_
  refine lv_dup hx hb dX6_init_84 rfl ?_
  refine lv_iload_n hx hb dX6_init_85 rfl (lv_at hl 0 rfl) ?_
  have hPc := hP.sub (ws' := [(q36, .inr (2, [.int 0, .int 0, .int 0, .int 0, .int 0, .int 0, .int 0, .int 0, .null, .null, .null]))]) [17] rfl
  have hDc := hD.sub (ws' := [(q36, .inr (2, [.int 0, .int 0, .int 0, .int 0, .int 0, .int 0, .int 0, .int 0, .null, .null, .null]))]) [17] (by decide) rfl
  have hFc := va_free (wc := [(q36, .inr (2, [.int 0, .int 0, .int 0, .int 0, .int 0, .int 0, .int 0, .int 0, .null, .null, .null]))]) hD hS hA [17] rfl
  refine va_callv (va_runI (As := [.int 1]) (rest := [.ref q36, .int 1, .ref q22]) ⟨hx, hb, hml, hown, hts⟩ (c_p_init l dC dI cI cZ cB cJ cP cW q36 1 z H37.size) (cwI 1 hts gg_w_init_p_init rfl rfl rfl (hts (.initialized RX2) (by decide +kernel)) (hts (.methodLink RX6 48 yX2_init) (by decide +kernel)) (hts (.instanceMethod yX2_init) (by decide +kernel)) rfl (by decide +kernel) ⟨Nat.le_of_ble_eq_true rfl, Nat.le_of_ble_eq_true rfl⟩) ⟨fbMX blZ, fun U hU hW => ⟨rfl, by rw [hU], hE.warm hW, by rw [hU]; exact hPc, hDc.weaken (fun _ _ _ _ => trivial), (by rw [hU]; exact va_Z.moved hW.alike ((va_Z.kept hX hS.2.1).narrow hFc))⟩⟩ rfl rfl hl.1 rfl (lv_room (Nat.le_of_ble_eq_true rfl)) dX6_init_86 ⟨Nat.le_of_ble_eq_true rfl, Nat.le_of_ble_eq_true rfl⟩) hS (fun q _ h => hFc q h) hFc (fun u39 t H40 locs ht hvm hr38 hB hz1 hk1 hS => ?_)
  obtain ⟨hP1, hD1⟩ := hB
  rw [ht] at hP1
  obtain ⟨hP, hD⟩ := va_join (wr := [(h, .inr (6, [.int 0, .int 0, .int 0, .ref q1, .ref q7, .ref q13, .ref q16, .ref q19, .ref q22])), (q1, .inr (4, [.ref (u4 2), .ref (u4 3), .ref (u4 4), .ref (u4 5), .ref (u4 6), .ref (u4 7), .int 0, .int (-1)])), ((u4 2), .inl (cI, 22, .inl (fun _ => (-1)))), ((u4 3), .inl (cI, 22, .inl (fun _ => (-1)))), ((u4 4), .inl (cI, 22, .inl (fun _ => 0))), ((u4 5), .inl (cI, 64, .inl (fun _ => 0))), ((u4 6), .inl (cI, 64, .inl (fun _ => 0))), ((u4 7), .inl (cI, 64, .inl (fun _ => 0))), (q7, .inr (0, [.int 0, .ref (u10 9)])), ((u10 9), .inl (cI, 3600, .inl (fun _ => 0))), (q13, .inl (cZ, 400, .inl (fun _ => 0))), (q19, .inl (cI, 20, .inl (fun _ => 0))), (q22, .inl (cP, 6, .inr (.inr (.inr (.inr (va_up (fun _ => none) 0 (some q29))))))), (q16, .inl (cI, 16, .inl (fun _ => (-1)))), (q29, .inr (2, [.int 0, .int 0, .int 0, .int 0, .int 0, .int 0, .int 0, .int 0, .ref z, .ref (u32 1), .ref (u32 2)])), ((u32 1), .inl (cI, 26, .inl (fun _ => 0))), ((u32 2), .inl (cI, 20, .inl (fun _ => 0)))]) (w1 := [(q36, .inr (2, [.int 1, .int 0, .int 0, .int 0, .int 0, .int 0, .int 0, .int 0, .ref z, .ref (u39 1), .ref (u39 2)])), ((u39 1), .inl (cI, 26, .inl (fun _ => 0))), ((u39 2), .inl (cI, 20, .inl (fun _ => 0)))]) hP hD [17] [0, 1, 2, 3, 4, 5, 6, 7, 8, 9, 10, 11, 12, 13, 14, 15, 16] rfl rfl (by decide) (by decide) hk1 hFc hP1 hD1
  have hP : va_P (dC, dI) vwCl [(h, .inr (6, [.int 0, .int 0, .int 0, .ref q1, .ref q7, .ref q13, .ref q16, .ref q19, .ref q22])), (q1, .inr (4, [.ref (u4 2), .ref (u4 3), .ref (u4 4), .ref (u4 5), .ref (u4 6), .ref (u4 7), .int 0, .int (-1)])), ((u4 2), .inl (cI, 22, .inl (fun _ => (-1)))), ((u4 3), .inl (cI, 22, .inl (fun _ => (-1)))), ((u4 4), .inl (cI, 22, .inl (fun _ => 0))), ((u4 5), .inl (cI, 64, .inl (fun _ => 0))), ((u4 6), .inl (cI, 64, .inl (fun _ => 0))), ((u4 7), .inl (cI, 64, .inl (fun _ => 0))), (q7, .inr (0, [.int 0, .ref (u10 9)])), ((u10 9), .inl (cI, 3600, .inl (fun _ => 0))), (q13, .inl (cZ, 400, .inl (fun _ => 0))), (q19, .inl (cI, 20, .inl (fun _ => 0))), (q22, .inl (cP, 6, .inr (.inr (.inr (.inr (va_up (fun _ => none) 0 (some q29))))))), (q16, .inl (cI, 16, .inl (fun _ => (-1)))), (q29, .inr (2, [.int 0, .int 0, .int 0, .int 0, .int 0, .int 0, .int 0, .int 0, .ref z, .ref (u32 1), .ref (u32 2)])), ((u32 1), .inl (cI, 26, .inl (fun _ => 0))), ((u32 2), .inl (cI, 20, .inl (fun _ => 0))), (q36, .inr (2, [.int 1, .int 0, .int 0, .int 0, .int 0, .int 0, .int 0, .int 0, .ref z, .ref (u39 1), .ref (u39 2)])), ((u39 1), .inl (cI, 26, .inl (fun _ => 0))), ((u39 2), .inl (cI, 20, .inl (fun _ => 0)))] H40 := hP
  have hD : va_D A [(h, .inr (6, [.int 0, .int 0, .int 0, .ref q1, .ref q7, .ref q13, .ref q16, .ref q19, .ref q22])), (q1, .inr (4, [.ref (u4 2), .ref (u4 3), .ref (u4 4), .ref (u4 5), .ref (u4 6), .ref (u4 7), .int 0, .int (-1)])), ((u4 2), .inl (cI, 22, .inl (fun _ => (-1)))), ((u4 3), .inl (cI, 22, .inl (fun _ => (-1)))), ((u4 4), .inl (cI, 22, .inl (fun _ => 0))), ((u4 5), .inl (cI, 64, .inl (fun _ => 0))), ((u4 6), .inl (cI, 64, .inl (fun _ => 0))), ((u4 7), .inl (cI, 64, .inl (fun _ => 0))), (q7, .inr (0, [.int 0, .ref (u10 9)])), ((u10 9), .inl (cI, 3600, .inl (fun _ => 0))), (q13, .inl (cZ, 400, .inl (fun _ => 0))), (q19, .inl (cI, 20, .inl (fun _ => 0))), (q22, .inl (cP, 6, .inr (.inr (.inr (.inr (va_up (fun _ => none) 0 (some q29))))))), (q16, .inl (cI, 16, .inl (fun _ => (-1)))), (q29, .inr (2, [.int 0, .int 0, .int 0, .int 0, .int 0, .int 0, .int 0, .int 0, .ref z, .ref (u32 1), .ref (u32 2)])), ((u32 1), .inl (cI, 26, .inl (fun _ => 0))), ((u32 2), .inl (cI, 20, .inl (fun _ => 0))), (q36, .inr (2, [.int 1, .int 0, .int 0, .int 0, .int 0, .int 0, .int 0, .int 0, .ref z, .ref (u39 1), .ref (u39 2)])), ((u39 1), .inl (cI, 26, .inl (fun _ => 0))), ((u39 2), .inl (cI, 20, .inl (fun _ => 0)))] := hD
  refine W.widen (k := 19) (n := 4424) (by decide) (by decide) ?_
  refine va_astq hx hb hK hP hD hS 12 4 17 2 rfl rfl rfl rfl (vpd rfl) dX6_init_89 (fun H41 locs hP hD hS => ?_)
  have hP : va_P (dC, dI) vwCl [(h, .inr (6, [.int 0, .int 0, .int 0, .ref q1, .ref q7, .ref q13, .ref q16, .ref q19, .ref q22])), (q1, .inr (4, [.ref (u4 2), .ref (u4 3), .ref (u4 4), .ref (u4 5), .ref (u4 6), .ref (u4 7), .int 0, .int (-1)])), ((u4 2), .inl (cI, 22, .inl (fun _ => (-1)))), ((u4 3), .inl (cI, 22, .inl (fun _ => (-1)))), ((u4 4), .inl (cI, 22, .inl (fun _ => 0))), ((u4 5), .inl (cI, 64, .inl (fun _ => 0))), ((u4 6), .inl (cI, 64, .inl (fun _ => 0))), ((u4 7), .inl (cI, 64, .inl (fun _ => 0))), (q7, .inr (0, [.int 0, .ref (u10 9)])), ((u10 9), .inl (cI, 3600, .inl (fun _ => 0))), (q13, .inl (cZ, 400, .inl (fun _ => 0))), (q19, .inl (cI, 20, .inl (fun _ => 0))), (q22, .inl (cP, 6, .inr (.inr (.inr (.inr (va_up (va_up (fun _ => none) 0 (some q29)) 1 (some q36))))))), (q16, .inl (cI, 16, .inl (fun _ => (-1)))), (q29, .inr (2, [.int 0, .int 0, .int 0, .int 0, .int 0, .int 0, .int 0, .int 0, .ref z, .ref (u32 1), .ref (u32 2)])), ((u32 1), .inl (cI, 26, .inl (fun _ => 0))), ((u32 2), .inl (cI, 20, .inl (fun _ => 0))), (q36, .inr (2, [.int 1, .int 0, .int 0, .int 0, .int 0, .int 0, .int 0, .int 0, .ref z, .ref (u39 1), .ref (u39 2)])), ((u39 1), .inl (cI, 26, .inl (fun _ => 0))), ((u39 2), .inl (cI, 20, .inl (fun _ => 0)))] H41 := hP
  have hD : va_D A [(h, .inr (6, [.int 0, .int 0, .int 0, .ref q1, .ref q7, .ref q13, .ref q16, .ref q19, .ref q22])), (q1, .inr (4, [.ref (u4 2), .ref (u4 3), .ref (u4 4), .ref (u4 5), .ref (u4 6), .ref (u4 7), .int 0, .int (-1)])), ((u4 2), .inl (cI, 22, .inl (fun _ => (-1)))), ((u4 3), .inl (cI, 22, .inl (fun _ => (-1)))), ((u4 4), .inl (cI, 22, .inl (fun _ => 0))), ((u4 5), .inl (cI, 64, .inl (fun _ => 0))), ((u4 6), .inl (cI, 64, .inl (fun _ => 0))), ((u4 7), .inl (cI, 64, .inl (fun _ => 0))), (q7, .inr (0, [.int 0, .ref (u10 9)])), ((u10 9), .inl (cI, 3600, .inl (fun _ => 0))), (q13, .inl (cZ, 400, .inl (fun _ => 0))), (q19, .inl (cI, 20, .inl (fun _ => 0))), (q22, .inl (cP, 6, .inr (.inr (.inr (.inr (va_up (va_up (fun _ => none) 0 (some q29)) 1 (some q36))))))), (q16, .inl (cI, 16, .inl (fun _ => (-1)))), (q29, .inr (2, [.int 0, .int 0, .int 0, .int 0, .int 0, .int 0, .int 0, .int 0, .ref z, .ref (u32 1), .ref (u32 2)])), ((u32 1), .inl (cI, 26, .inl (fun _ => 0))), ((u32 2), .inl (cI, 20, .inl (fun _ => 0))), (q36, .inr (2, [.int 1, .int 0, .int 0, .int 0, .int 0, .int 0, .int 0, .int 0, .ref z, .ref (u39 1), .ref (u39 2)])), ((u39 1), .inl (cI, 26, .inl (fun _ => 0))), ((u39 2), .inl (cI, 20, .inl (fun _ => 0)))] := hD
  refine lv_iinc (v := 2) (lv' := [(1, .int 2), (0, .ref h)]) hx hb dX6_init_90 hl (k := 0) rfl (by decide) (by decide) rfl (fun ls hl => ?_)
  refine lv_goto (tgt := 70) hx hb dX6_init_93 (by decide) ?_
  refine lv_iload_n hx hb dX6_init_70 rfl (lv_at hl 0 rfl) ?_
  refine lv_bipush (v := 6) hx hb dX6_init_71 (by decide) ?_
  refine lv_icmp_ge (tgt := 96) hx hb dX6_init_73 (by decide) (fun c9 => absurd c9 (by decide)) (fun _ => ?_)
  refine lv_aload_n hx hb dX6_init_76 rfl (lv_at hl 1 rfl) ?_
  refine va_get (D := (dC, dI)) (ci := 6) (v := .ref q22) (C := RX6) (T := TX6) (N := 9) hx hb hts in_w_init_X6 hown hK hP 0 rfl rfl 8 (by decide) (hts (.fieldLink RX6 38 "DepotMarch$World" "party" "[LDepotMarch$Party;") (by decide +kernel)) (fun _ h9 => h9) rfl dX6_init_77 ?_
  refine lv_iload_n hx hb dX6_init_80 rfl (lv_at hl 0 rfl) ?_
  refine va_new (ci := 2) (fs := [.int 0, .int 0, .int 0, .int 0, .int 0, .int 0, .int 0, .int 0, .null, .null, .null]) (C := RX2) (T := TX2) (N := 11) hx hb hts in_w_init_X2 tyX2 tyX2_ok hown (hts (.classLink RX6 36 RX2) (by decide +kernel)) (hts (.instantiable RX2 11) (by decide +kernel)) (hts (.initialized RX2) (by decide +kernel)) hK hP hD hS hA rfl df_X2 (Nat.le_of_ble_eq_true rfl) (Nat.le_of_ble_eq_true rfl) dX6_init_81 (fun q43 H44 hP hD hS => ?_)
  have hP : va_P (dC, dI) vwCl [(h, .inr (6, [.int 0, .int 0, .int 0, .ref q1, .ref q7, .ref q13, .ref q16, .ref q19, .ref q22])), (q1, .inr (4, [.ref (u4 2), .ref (u4 3), .ref (u4 4), .ref (u4 5), .ref (u4 6), .ref (u4 7), .int 0, .int (-1)])), ((u4 2), .inl (cI, 22, .inl (fun _ => (-1)))), ((u4 3), .inl (cI, 22, .inl (fun _ => (-1)))), ((u4 4), .inl (cI, 22, .inl (fun _ => 0))), ((u4 5), .inl (cI, 64, .inl (fun _ => 0))), ((u4 6), .inl (cI, 64, .inl (fun _ => 0))), ((u4 7), .inl (cI, 64, .inl (fun _ => 0))), (q7, .inr (0, [.int 0, .ref (u10 9)])), ((u10 9), .inl (cI, 3600, .inl (fun _ => 0))), (q13, .inl (cZ, 400, .inl (fun _ => 0))), (q19, .inl (cI, 20, .inl (fun _ => 0))), (q22, .inl (cP, 6, .inr (.inr (.inr (.inr (va_up (va_up (fun _ => none) 0 (some q29)) 1 (some q36))))))), (q16, .inl (cI, 16, .inl (fun _ => (-1)))), (q29, .inr (2, [.int 0, .int 0, .int 0, .int 0, .int 0, .int 0, .int 0, .int 0, .ref z, .ref (u32 1), .ref (u32 2)])), ((u32 1), .inl (cI, 26, .inl (fun _ => 0))), ((u32 2), .inl (cI, 20, .inl (fun _ => 0))), (q36, .inr (2, [.int 1, .int 0, .int 0, .int 0, .int 0, .int 0, .int 0, .int 0, .ref z, .ref (u39 1), .ref (u39 2)])), ((u39 1), .inl (cI, 26, .inl (fun _ => 0))), ((u39 2), .inl (cI, 20, .inl (fun _ => 0))), (q43, .inr (2, [.int 0, .int 0, .int 0, .int 0, .int 0, .int 0, .int 0, .int 0, .null, .null, .null]))] H44 := hP
  have hD : va_D A [(h, .inr (6, [.int 0, .int 0, .int 0, .ref q1, .ref q7, .ref q13, .ref q16, .ref q19, .ref q22])), (q1, .inr (4, [.ref (u4 2), .ref (u4 3), .ref (u4 4), .ref (u4 5), .ref (u4 6), .ref (u4 7), .int 0, .int (-1)])), ((u4 2), .inl (cI, 22, .inl (fun _ => (-1)))), ((u4 3), .inl (cI, 22, .inl (fun _ => (-1)))), ((u4 4), .inl (cI, 22, .inl (fun _ => 0))), ((u4 5), .inl (cI, 64, .inl (fun _ => 0))), ((u4 6), .inl (cI, 64, .inl (fun _ => 0))), ((u4 7), .inl (cI, 64, .inl (fun _ => 0))), (q7, .inr (0, [.int 0, .ref (u10 9)])), ((u10 9), .inl (cI, 3600, .inl (fun _ => 0))), (q13, .inl (cZ, 400, .inl (fun _ => 0))), (q19, .inl (cI, 20, .inl (fun _ => 0))), (q22, .inl (cP, 6, .inr (.inr (.inr (.inr (va_up (va_up (fun _ => none) 0 (some q29)) 1 (some q36))))))), (q16, .inl (cI, 16, .inl (fun _ => (-1)))), (q29, .inr (2, [.int 0, .int 0, .int 0, .int 0, .int 0, .int 0, .int 0, .int 0, .ref z, .ref (u32 1), .ref (u32 2)])), ((u32 1), .inl (cI, 26, .inl (fun _ => 0))), ((u32 2), .inl (cI, 20, .inl (fun _ => 0))), (q36, .inr (2, [.int 1, .int 0, .int 0, .int 0, .int 0, .int 0, .int 0, .int 0, .ref z, .ref (u39 1), .ref (u39 2)])), ((u39 1), .inl (cI, 26, .inl (fun _ => 0))), ((u39 2), .inl (cI, 20, .inl (fun _ => 0))), (q43, .inr (2, [.int 0, .int 0, .int 0, .int 0, .int 0, .int 0, .int 0, .int 0, .null, .null, .null]))] := hD
  refine W.widen (k := 20) (n := 4435) (by decide) (by decide) ?_
  refine lv_dup hx hb dX6_init_84 rfl ?_
  refine lv_iload_n hx hb dX6_init_85 rfl (lv_at hl 0 rfl) ?_
  have hPc := hP.sub (ws' := [(q43, .inr (2, [.int 0, .int 0, .int 0, .int 0, .int 0, .int 0, .int 0, .int 0, .null, .null, .null]))]) [20] rfl
  have hDc := hD.sub (ws' := [(q43, .inr (2, [.int 0, .int 0, .int 0, .int 0, .int 0, .int 0, .int 0, .int 0, .null, .null, .null]))]) [20] (by decide) rfl
  have hFc := va_free (wc := [(q43, .inr (2, [.int 0, .int 0, .int 0, .int 0, .int 0, .int 0, .int 0, .int 0, .null, .null, .null]))]) hD hS hA [20] rfl
  refine va_callv (va_runI (As := [.int 2]) (rest := [.ref q43, .int 2, .ref q22]) ⟨hx, hb, hml, hown, hts⟩ (c_p_init l dC dI cI cZ cB cJ cP cW q43 2 z H44.size) (cwI 1 hts gg_w_init_p_init rfl rfl rfl (hts (.initialized RX2) (by decide +kernel)) (hts (.methodLink RX6 48 yX2_init) (by decide +kernel)) (hts (.instanceMethod yX2_init) (by decide +kernel)) rfl (by decide +kernel) ⟨Nat.le_of_ble_eq_true rfl, Nat.le_of_ble_eq_true rfl⟩) ⟨fbMX blZ, fun U hU hW => ⟨rfl, by rw [hU], hE.warm hW, by rw [hU]; exact hPc, hDc.weaken (fun _ _ _ _ => trivial), (by rw [hU]; exact va_Z.moved hW.alike ((va_Z.kept hX hS.2.1).narrow hFc))⟩⟩ rfl rfl hl.1 rfl (lv_room (Nat.le_of_ble_eq_true rfl)) dX6_init_86 ⟨Nat.le_of_ble_eq_true rfl, Nat.le_of_ble_eq_true rfl⟩) hS (fun q _ h => hFc q h) hFc (fun u46 t H47 locs ht hvm hr45 hB hz1 hk1 hS => ?_)
  obtain ⟨hP1, hD1⟩ := hB
  rw [ht] at hP1
  obtain ⟨hP, hD⟩ := va_join (wr := [(h, .inr (6, [.int 0, .int 0, .int 0, .ref q1, .ref q7, .ref q13, .ref q16, .ref q19, .ref q22])), (q1, .inr (4, [.ref (u4 2), .ref (u4 3), .ref (u4 4), .ref (u4 5), .ref (u4 6), .ref (u4 7), .int 0, .int (-1)])), ((u4 2), .inl (cI, 22, .inl (fun _ => (-1)))), ((u4 3), .inl (cI, 22, .inl (fun _ => (-1)))), ((u4 4), .inl (cI, 22, .inl (fun _ => 0))), ((u4 5), .inl (cI, 64, .inl (fun _ => 0))), ((u4 6), .inl (cI, 64, .inl (fun _ => 0))), ((u4 7), .inl (cI, 64, .inl (fun _ => 0))), (q7, .inr (0, [.int 0, .ref (u10 9)])), ((u10 9), .inl (cI, 3600, .inl (fun _ => 0))), (q13, .inl (cZ, 400, .inl (fun _ => 0))), (q19, .inl (cI, 20, .inl (fun _ => 0))), (q22, .inl (cP, 6, .inr (.inr (.inr (.inr (va_up (va_up (fun _ => none) 0 (some q29)) 1 (some q36))))))), (q16, .inl (cI, 16, .inl (fun _ => (-1)))), (q29, .inr (2, [.int 0, .int 0, .int 0, .int 0, .int 0, .int 0, .int 0, .int 0, .ref z, .ref (u32 1), .ref (u32 2)])), ((u32 1), .inl (cI, 26, .inl (fun _ => 0))), ((u32 2), .inl (cI, 20, .inl (fun _ => 0))), (q36, .inr (2, [.int 1, .int 0, .int 0, .int 0, .int 0, .int 0, .int 0, .int 0, .ref z, .ref (u39 1), .ref (u39 2)])), ((u39 1), .inl (cI, 26, .inl (fun _ => 0))), ((u39 2), .inl (cI, 20, .inl (fun _ => 0)))]) (w1 := [(q43, .inr (2, [.int 2, .int 0, .int 0, .int 0, .int 0, .int 0, .int 0, .int 0, .ref z, .ref (u46 1), .ref (u46 2)])), ((u46 1), .inl (cI, 26, .inl (fun _ => 0))), ((u46 2), .inl (cI, 20, .inl (fun _ => 0)))]) hP hD [20] [0, 1, 2, 3, 4, 5, 6, 7, 8, 9, 10, 11, 12, 13, 14, 15, 16, 17, 18, 19] rfl rfl (by decide) (by decide) hk1 hFc hP1 hD1
  have hP : va_P (dC, dI) vwCl [(h, .inr (6, [.int 0, .int 0, .int 0, .ref q1, .ref q7, .ref q13, .ref q16, .ref q19, .ref q22])), (q1, .inr (4, [.ref (u4 2), .ref (u4 3), .ref (u4 4), .ref (u4 5), .ref (u4 6), .ref (u4 7), .int 0, .int (-1)])), ((u4 2), .inl (cI, 22, .inl (fun _ => (-1)))), ((u4 3), .inl (cI, 22, .inl (fun _ => (-1)))), ((u4 4), .inl (cI, 22, .inl (fun _ => 0))), ((u4 5), .inl (cI, 64, .inl (fun _ => 0))), ((u4 6), .inl (cI, 64, .inl (fun _ => 0))), ((u4 7), .inl (cI, 64, .inl (fun _ => 0))), (q7, .inr (0, [.int 0, .ref (u10 9)])), ((u10 9), .inl (cI, 3600, .inl (fun _ => 0))), (q13, .inl (cZ, 400, .inl (fun _ => 0))), (q19, .inl (cI, 20, .inl (fun _ => 0))), (q22, .inl (cP, 6, .inr (.inr (.inr (.inr (va_up (va_up (fun _ => none) 0 (some q29)) 1 (some q36))))))), (q16, .inl (cI, 16, .inl (fun _ => (-1)))), (q29, .inr (2, [.int 0, .int 0, .int 0, .int 0, .int 0, .int 0, .int 0, .int 0, .ref z, .ref (u32 1), .ref (u32 2)])), ((u32 1), .inl (cI, 26, .inl (fun _ => 0))), ((u32 2), .inl (cI, 20, .inl (fun _ => 0))), (q36, .inr (2, [.int 1, .int 0, .int 0, .int 0, .int 0, .int 0, .int 0, .int 0, .ref z, .ref (u39 1), .ref (u39 2)])), ((u39 1), .inl (cI, 26, .inl (fun _ => 0))), ((u39 2), .inl (cI, 20, .inl (fun _ => 0))), (q43, .inr (2, [.int 2, .int 0, .int 0, .int 0, .int 0, .int 0, .int 0, .int 0, .ref z, .ref (u46 1), .ref (u46 2)])), ((u46 1), .inl (cI, 26, .inl (fun _ => 0))), ((u46 2), .inl (cI, 20, .inl (fun _ => 0)))] H47 := hP
  have hD : va_D A [(h, .inr (6, [.int 0, .int 0, .int 0, .ref q1, .ref q7, .ref q13, .ref q16, .ref q19, .ref q22])), (q1, .inr (4, [.ref (u4 2), .ref (u4 3), .ref (u4 4), .ref (u4 5), .ref (u4 6), .ref (u4 7), .int 0, .int (-1)])), ((u4 2), .inl (cI, 22, .inl (fun _ => (-1)))), ((u4 3), .inl (cI, 22, .inl (fun _ => (-1)))), ((u4 4), .inl (cI, 22, .inl (fun _ => 0))), ((u4 5), .inl (cI, 64, .inl (fun _ => 0))), ((u4 6), .inl (cI, 64, .inl (fun _ => 0))), ((u4 7), .inl (cI, 64, .inl (fun _ => 0))), (q7, .inr (0, [.int 0, .ref (u10 9)])), ((u10 9), .inl (cI, 3600, .inl (fun _ => 0))), (q13, .inl (cZ, 400, .inl (fun _ => 0))), (q19, .inl (cI, 20, .inl (fun _ => 0))), (q22, .inl (cP, 6, .inr (.inr (.inr (.inr (va_up (va_up (fun _ => none) 0 (some q29)) 1 (some q36))))))), (q16, .inl (cI, 16, .inl (fun _ => (-1)))), (q29, .inr (2, [.int 0, .int 0, .int 0, .int 0, .int 0, .int 0, .int 0, .int 0, .ref z, .ref (u32 1), .ref (u32 2)])), ((u32 1), .inl (cI, 26, .inl (fun _ => 0))), ((u32 2), .inl (cI, 20, .inl (fun _ => 0))), (q36, .inr (2, [.int 1, .int 0, .int 0, .int 0, .int 0, .int 0, .int 0, .int 0, .ref z, .ref (u39 1), .ref (u39 2)])), ((u39 1), .inl (cI, 26, .inl (fun _ => 0))), ((u39 2), .inl (cI, 20, .inl (fun _ => 0))), (q43, .inr (2, [.int 2, .int 0, .int 0, .int 0, .int 0, .int 0, .int 0, .int 0, .ref z, .ref (u46 1), .ref (u46 2)])), ((u46 1), .inl (cI, 26, .inl (fun _ => 0))), ((u46 2), .inl (cI, 20, .inl (fun _ => 0)))] := hD
  refine W.widen (k := 22) (n := 4481) (by decide) (by decide) ?_
  refine va_astq hx hb hK hP hD hS 12 4 20 2 rfl rfl rfl rfl (vpd rfl) dX6_init_89 (fun H48 locs hP hD hS => ?_)
  have hP : va_P (dC, dI) vwCl [(h, .inr (6, [.int 0, .int 0, .int 0, .ref q1, .ref q7, .ref q13, .ref q16, .ref q19, .ref q22])), (q1, .inr (4, [.ref (u4 2), .ref (u4 3), .ref (u4 4), .ref (u4 5), .ref (u4 6), .ref (u4 7), .int 0, .int (-1)])), ((u4 2), .inl (cI, 22, .inl (fun _ => (-1)))), ((u4 3), .inl (cI, 22, .inl (fun _ => (-1)))), ((u4 4), .inl (cI, 22, .inl (fun _ => 0))), ((u4 5), .inl (cI, 64, .inl (fun _ => 0))), ((u4 6), .inl (cI, 64, .inl (fun _ => 0))), ((u4 7), .inl (cI, 64, .inl (fun _ => 0))), (q7, .inr (0, [.int 0, .ref (u10 9)])), ((u10 9), .inl (cI, 3600, .inl (fun _ => 0))), (q13, .inl (cZ, 400, .inl (fun _ => 0))), (q19, .inl (cI, 20, .inl (fun _ => 0))), (q22, .inl (cP, 6, .inr (.inr (.inr (.inr (va_up (va_up (va_up (fun _ => none) 0 (some q29)) 1 (some q36)) 2 (some q43))))))), (q16, .inl (cI, 16, .inl (fun _ => (-1)))), (q29, .inr (2, [.int 0, .int 0, .int 0, .int 0, .int 0, .int 0, .int 0, .int 0, .ref z, .ref (u32 1), .ref (u32 2)])), ((u32 1), .inl (cI, 26, .inl (fun _ => 0))), ((u32 2), .inl (cI, 20, .inl (fun _ => 0))), (q36, .inr (2, [.int 1, .int 0, .int 0, .int 0, .int 0, .int 0, .int 0, .int 0, .ref z, .ref (u39 1), .ref (u39 2)])), ((u39 1), .inl (cI, 26, .inl (fun _ => 0))), ((u39 2), .inl (cI, 20, .inl (fun _ => 0))), (q43, .inr (2, [.int 2, .int 0, .int 0, .int 0, .int 0, .int 0, .int 0, .int 0, .ref z, .ref (u46 1), .ref (u46 2)])), ((u46 1), .inl (cI, 26, .inl (fun _ => 0))), ((u46 2), .inl (cI, 20, .inl (fun _ => 0)))] H48 := hP
  have hD : va_D A [(h, .inr (6, [.int 0, .int 0, .int 0, .ref q1, .ref q7, .ref q13, .ref q16, .ref q19, .ref q22])), (q1, .inr (4, [.ref (u4 2), .ref (u4 3), .ref (u4 4), .ref (u4 5), .ref (u4 6), .ref (u4 7), .int 0, .int (-1)])), ((u4 2), .inl (cI, 22, .inl (fun _ => (-1)))), ((u4 3), .inl (cI, 22, .inl (fun _ => (-1)))), ((u4 4), .inl (cI, 22, .inl (fun _ => 0))), ((u4 5), .inl (cI, 64, .inl (fun _ => 0))), ((u4 6), .inl (cI, 64, .inl (fun _ => 0))), ((u4 7), .inl (cI, 64, .inl (fun _ => 0))), (q7, .inr (0, [.int 0, .ref (u10 9)])), ((u10 9), .inl (cI, 3600, .inl (fun _ => 0))), (q13, .inl (cZ, 400, .inl (fun _ => 0))), (q19, .inl (cI, 20, .inl (fun _ => 0))), (q22, .inl (cP, 6, .inr (.inr (.inr (.inr (va_up (va_up (va_up (fun _ => none) 0 (some q29)) 1 (some q36)) 2 (some q43))))))), (q16, .inl (cI, 16, .inl (fun _ => (-1)))), (q29, .inr (2, [.int 0, .int 0, .int 0, .int 0, .int 0, .int 0, .int 0, .int 0, .ref z, .ref (u32 1), .ref (u32 2)])), ((u32 1), .inl (cI, 26, .inl (fun _ => 0))), ((u32 2), .inl (cI, 20, .inl (fun _ => 0))), (q36, .inr (2, [.int 1, .int 0, .int 0, .int 0, .int 0, .int 0, .int 0, .int 0, .ref z, .ref (u39 1), .ref (u39 2)])), ((u39 1), .inl (cI, 26, .inl (fun _ => 0))), ((u39 2), .inl (cI, 20, .inl (fun _ => 0))), (q43, .inr (2, [.int 2, .int 0, .int 0, .int 0, .int 0, .int 0, .int 0, .int 0, .ref z, .ref (u46 1), .ref (u46 2)])), ((u46 1), .inl (cI, 26, .inl (fun _ => 0))), ((u46 2), .inl (cI, 20, .inl (fun _ => 0)))] := hD
  refine lv_iinc (v := 3) (lv' := [(1, .int 3), (0, .ref h)]) hx hb dX6_init_90 hl (k := 0) rfl (by decide) (by decide) rfl (fun ls hl => ?_)
  refine lv_goto (tgt := 70) hx hb dX6_init_93 (by decide) ?_
  refine lv_iload_n hx hb dX6_init_70 rfl (lv_at hl 0 rfl) ?_
  refine lv_bipush (v := 6) hx hb dX6_init_71 (by decide) ?_
  refine lv_icmp_ge (tgt := 96) hx hb dX6_init_73 (by decide) (fun c9 => absurd c9 (by decide)) (fun _ => ?_)
  refine lv_aload_n hx hb dX6_init_76 rfl (lv_at hl 1 rfl) ?_
  refine va_get (D := (dC, dI)) (ci := 6) (v := .ref q22) (C := RX6) (T := TX6) (N := 9) hx hb hts in_w_init_X6 hown hK hP 0 rfl rfl 8 (by decide) (hts (.fieldLink RX6 38 "DepotMarch$World" "party" "[LDepotMarch$Party;") (by decide +kernel)) (fun _ h9 => h9) rfl dX6_init_77 ?_
  refine lv_iload_n hx hb dX6_init_80 rfl (lv_at hl 0 rfl) ?_
  refine va_new (ci := 2) (fs := [.int 0, .int 0, .int 0, .int 0, .int 0, .int 0, .int 0, .int 0, .null, .null, .null]) (C := RX2) (T := TX2) (N := 11) hx hb hts in_w_init_X2 tyX2 tyX2_ok hown (hts (.classLink RX6 36 RX2) (by decide +kernel)) (hts (.instantiable RX2 11) (by decide +kernel)) (hts (.initialized RX2) (by decide +kernel)) hK hP hD hS hA rfl df_X2 (Nat.le_of_ble_eq_true rfl) (Nat.le_of_ble_eq_true rfl) dX6_init_81 (fun q50 H51 hP hD hS => ?_)
  have hP : va_P (dC, dI) vwCl [(h, .inr (6, [.int 0, .int 0, .int 0, .ref q1, .ref q7, .ref q13, .ref q16, .ref q19, .ref q22])), (q1, .inr (4, [.ref (u4 2), .ref (u4 3), .ref (u4 4), .ref (u4 5), .ref (u4 6), .ref (u4 7), .int 0, .int (-1)])), ((u4 2), .inl (cI, 22, .inl (fun _ => (-1)))), ((u4 3), .inl (cI, 22, .inl (fun _ => (-1)))), ((u4 4), .inl (cI, 22, .inl (fun _ => 0))), ((u4 5), .inl (cI, 64, .inl (fun _ => 0))), ((u4 6), .inl (cI, 64, .inl (fun _ => 0))), ((u4 7), .inl (cI, 64, .inl (fun _ => 0))), (q7, .inr (0, [.int 0, .ref (u10 9)])), ((u10 9), .inl (cI, 3600, .inl (fun _ => 0))), (q13, .inl (cZ, 400, .inl (fun _ => 0))), (q19, .inl (cI, 20, .inl (fun _ => 0))), (q22, .inl (cP, 6, .inr (.inr (.inr (.inr (va_up (va_up (va_up (fun _ => none) 0 (some q29)) 1 (some q36)) 2 (some q43))))))), (q16, .inl (cI, 16, .inl (fun _ => (-1)))), (q29, .inr (2, [.int 0, .int 0, .int 0, .int 0, .int 0, .int 0, .int 0, .int 0, .ref z, .ref (u32 1), .ref (u32 2)])), ((u32 1), .inl (cI, 26, .inl (fun _ => 0))), ((u32 2), .inl (cI, 20, .inl (fun _ => 0))), (q36, .inr (2, [.int 1, .int 0, .int 0, .int 0, .int 0, .int 0, .int 0, .int 0, .ref z, .ref (u39 1), .ref (u39 2)])), ((u39 1), .inl (cI, 26, .inl (fun _ => 0))), ((u39 2), .inl (cI, 20, .inl (fun _ => 0))), (q43, .inr (2, [.int 2, .int 0, .int 0, .int 0, .int 0, .int 0, .int 0, .int 0, .ref z, .ref (u46 1), .ref (u46 2)])), ((u46 1), .inl (cI, 26, .inl (fun _ => 0))), ((u46 2), .inl (cI, 20, .inl (fun _ => 0))), (q50, .inr (2, [.int 0, .int 0, .int 0, .int 0, .int 0, .int 0, .int 0, .int 0, .null, .null, .null]))] H51 := hP
  have hD : va_D A [(h, .inr (6, [.int 0, .int 0, .int 0, .ref q1, .ref q7, .ref q13, .ref q16, .ref q19, .ref q22])), (q1, .inr (4, [.ref (u4 2), .ref (u4 3), .ref (u4 4), .ref (u4 5), .ref (u4 6), .ref (u4 7), .int 0, .int (-1)])), ((u4 2), .inl (cI, 22, .inl (fun _ => (-1)))), ((u4 3), .inl (cI, 22, .inl (fun _ => (-1)))), ((u4 4), .inl (cI, 22, .inl (fun _ => 0))), ((u4 5), .inl (cI, 64, .inl (fun _ => 0))), ((u4 6), .inl (cI, 64, .inl (fun _ => 0))), ((u4 7), .inl (cI, 64, .inl (fun _ => 0))), (q7, .inr (0, [.int 0, .ref (u10 9)])), ((u10 9), .inl (cI, 3600, .inl (fun _ => 0))), (q13, .inl (cZ, 400, .inl (fun _ => 0))), (q19, .inl (cI, 20, .inl (fun _ => 0))), (q22, .inl (cP, 6, .inr (.inr (.inr (.inr (va_up (va_up (va_up (fun _ => none) 0 (some q29)) 1 (some q36)) 2 (some q43))))))), (q16, .inl (cI, 16, .inl (fun _ => (-1)))), (q29, .inr (2, [.int 0, .int 0, .int 0, .int 0, .int 0, .int 0, .int 0, .int 0, .ref z, .ref (u32 1), .ref (u32 2)])), ((u32 1), .inl (cI, 26, .inl (fun _ => 0))), ((u32 2), .inl (cI, 20, .inl (fun _ => 0))), (q36, .inr (2, [.int 1, .int 0, .int 0, .int 0, .int 0, .int 0, .int 0, .int 0, .ref z, .ref (u39 1), .ref (u39 2)])), ((u39 1), .inl (cI, 26, .inl (fun _ => 0))), ((u39 2), .inl (cI, 20, .inl (fun _ => 0))), (q43, .inr (2, [.int 2, .int 0, .int 0, .int 0, .int 0, .int 0, .int 0, .int 0, .ref z, .ref (u46 1), .ref (u46 2)])), ((u46 1), .inl (cI, 26, .inl (fun _ => 0))), ((u46 2), .inl (cI, 20, .inl (fun _ => 0))), (q50, .inr (2, [.int 0, .int 0, .int 0, .int 0, .int 0, .int 0, .int 0, .int 0, .null, .null, .null]))] := hD
  refine W.widen (k := 23) (n := 4492) (by decide) (by decide) ?_
  refine lv_dup hx hb dX6_init_84 rfl ?_
  refine lv_iload_n hx hb dX6_init_85 rfl (lv_at hl 0 rfl) ?_
  have hPc := hP.sub (ws' := [(q50, .inr (2, [.int 0, .int 0, .int 0, .int 0, .int 0, .int 0, .int 0, .int 0, .null, .null, .null]))]) [23] rfl
  have hDc := hD.sub (ws' := [(q50, .inr (2, [.int 0, .int 0, .int 0, .int 0, .int 0, .int 0, .int 0, .int 0, .null, .null, .null]))]) [23] (by decide) rfl
  have hFc := va_free (wc := [(q50, .inr (2, [.int 0, .int 0, .int 0, .int 0, .int 0, .int 0, .int 0, .int 0, .null, .null, .null]))]) hD hS hA [23] rfl
  refine va_callv (va_runI (As := [.int 3]) (rest := [.ref q50, .int 3, .ref q22]) ⟨hx, hb, hml, hown, hts⟩ (c_p_init l dC dI cI cZ cB cJ cP cW q50 3 z H51.size) (cwI 1 hts gg_w_init_p_init rfl rfl rfl (hts (.initialized RX2) (by decide +kernel)) (hts (.methodLink RX6 48 yX2_init) (by decide +kernel)) (hts (.instanceMethod yX2_init) (by decide +kernel)) rfl (by decide +kernel) ⟨Nat.le_of_ble_eq_true rfl, Nat.le_of_ble_eq_true rfl⟩) ⟨fbMX blZ, fun U hU hW => ⟨rfl, by rw [hU], hE.warm hW, by rw [hU]; exact hPc, hDc.weaken (fun _ _ _ _ => trivial), (by rw [hU]; exact va_Z.moved hW.alike ((va_Z.kept hX hS.2.1).narrow hFc))⟩⟩ rfl rfl hl.1 rfl (lv_room (Nat.le_of_ble_eq_true rfl)) dX6_init_86 ⟨Nat.le_of_ble_eq_true rfl, Nat.le_of_ble_eq_true rfl⟩) hS (fun q _ h => hFc q h) hFc (fun u53 t H54 locs ht hvm hr52 hB hz1 hk1 hS => ?_)
  obtain ⟨hP1, hD1⟩ := hB
  rw [ht] at hP1
  obtain ⟨hP, hD⟩ := va_join (wr := [(h, .inr (6, [.int 0, .int 0, .int 0, .ref q1, .ref q7, .ref q13, .ref q16, .ref q19, .ref q22])), (q1, .inr (4, [.ref (u4 2), .ref (u4 3), .ref (u4 4), .ref (u4 5), .ref (u4 6), .ref (u4 7), .int 0, .int (-1)])), ((u4 2), .inl (cI, 22, .inl (fun _ => (-1)))), ((u4 3), .inl (cI, 22, .inl (fun _ => (-1)))), ((u4 4), .inl (cI, 22, .inl (fun _ => 0))), ((u4 5), .inl (cI, 64, .inl (fun _ => 0))), ((u4 6), .inl (cI, 64, .inl (fun _ => 0))), ((u4 7), .inl (cI, 64, .inl (fun _ => 0))), (q7, .inr (0, [.int 0, .ref (u10 9)])), ((u10 9), .inl (cI, 3600, .inl (fun _ => 0))), (q13, .inl (cZ, 400, .inl (fun _ => 0))), (q19, .inl (cI, 20, .inl (fun _ => 0))), (q22, .inl (cP, 6, .inr (.inr (.inr (.inr (va_up (va_up (va_up (fun _ => none) 0 (some q29)) 1 (some q36)) 2 (some q43))))))), (q16, .inl (cI, 16, .inl (fun _ => (-1)))), (q29, .inr (2, [.int 0, .int 0, .int 0, .int 0, .int 0, .int 0, .int 0, .int 0, .ref z, .ref (u32 1), .ref (u32 2)])), ((u32 1), .inl (cI, 26, .inl (fun _ => 0))), ((u32 2), .inl (cI, 20, .inl (fun _ => 0))), (q36, .inr (2, [.int 1, .int 0, .int 0, .int 0, .int 0, .int 0, .int 0, .int 0, .ref z, .ref (u39 1), .ref (u39 2)])), ((u39 1), .inl (cI, 26, .inl (fun _ => 0))), ((u39 2), .inl (cI, 20, .inl (fun _ => 0))), (q43, .inr (2, [.int 2, .int 0, .int 0, .int 0, .int 0, .int 0, .int 0, .int 0, .ref z, .ref (u46 1), .ref (u46 2)])), ((u46 1), .inl (cI, 26, .inl (fun _ => 0))), ((u46 2), .inl (cI, 20, .inl (fun _ => 0)))]) (w1 := [(q50, .inr (2, [.int 3, .int 0, .int 0, .int 0, .int 0, .int 0, .int 0, .int 0, .ref z, .ref (u53 1), .ref (u53 2)])), ((u53 1), .inl (cI, 26, .inl (fun _ => 0))), ((u53 2), .inl (cI, 20, .inl (fun _ => 0)))]) hP hD [23] [0, 1, 2, 3, 4, 5, 6, 7, 8, 9, 10, 11, 12, 13, 14, 15, 16, 17, 18, 19, 20, 21, 22] rfl rfl (by decide) (by decide) hk1 hFc hP1 hD1
  have hP : va_P (dC, dI) vwCl [(h, .inr (6, [.int 0, .int 0, .int 0, .ref q1, .ref q7, .ref q13, .ref q16, .ref q19, .ref q22])), (q1, .inr (4, [.ref (u4 2), .ref (u4 3), .ref (u4 4), .ref (u4 5), .ref (u4 6), .ref (u4 7), .int 0, .int (-1)])), ((u4 2), .inl (cI, 22, .inl (fun _ => (-1)))), ((u4 3), .inl (cI, 22, .inl (fun _ => (-1)))), ((u4 4), .inl (cI, 22, .inl (fun _ => 0))), ((u4 5), .inl (cI, 64, .inl (fun _ => 0))), ((u4 6), .inl (cI, 64, .inl (fun _ => 0))), ((u4 7), .inl (cI, 64, .inl (fun _ => 0))), (q7, .inr (0, [.int 0, .ref (u10 9)])), ((u10 9), .inl (cI, 3600, .inl (fun _ => 0))), (q13, .inl (cZ, 400, .inl (fun _ => 0))), (q19, .inl (cI, 20, .inl (fun _ => 0))), (q22, .inl (cP, 6, .inr (.inr (.inr (.inr (va_up (va_up (va_up (fun _ => none) 0 (some q29)) 1 (some q36)) 2 (some q43))))))), (q16, .inl (cI, 16, .inl (fun _ => (-1)))), (q29, .inr (2, [.int 0, .int 0, .int 0, .int 0, .int 0, .int 0, .int 0, .int 0, .ref z, .ref (u32 1), .ref (u32 2)])), ((u32 1), .inl (cI, 26, .inl (fun _ => 0))), ((u32 2), .inl (cI, 20, .inl (fun _ => 0))), (q36, .inr (2, [.int 1, .int 0, .int 0, .int 0, .int 0, .int 0, .int 0, .int 0, .ref z, .ref (u39 1), .ref (u39 2)])), ((u39 1), .inl (cI, 26, .inl (fun _ => 0))), ((u39 2), .inl (cI, 20, .inl (fun _ => 0))), (q43, .inr (2, [.int 2, .int 0, .int 0, .int 0, .int 0, .int 0, .int 0, .int 0, .ref z, .ref (u46 1), .ref (u46 2)])), ((u46 1), .inl (cI, 26, .inl (fun _ => 0))), ((u46 2), .inl (cI, 20, .inl (fun _ => 0))), (q50, .inr (2, [.int 3, .int 0, .int 0, .int 0, .int 0, .int 0, .int 0, .int 0, .ref z, .ref (u53 1), .ref (u53 2)])), ((u53 1), .inl (cI, 26, .inl (fun _ => 0))), ((u53 2), .inl (cI, 20, .inl (fun _ => 0)))] H54 := hP
  have hD : va_D A [(h, .inr (6, [.int 0, .int 0, .int 0, .ref q1, .ref q7, .ref q13, .ref q16, .ref q19, .ref q22])), (q1, .inr (4, [.ref (u4 2), .ref (u4 3), .ref (u4 4), .ref (u4 5), .ref (u4 6), .ref (u4 7), .int 0, .int (-1)])), ((u4 2), .inl (cI, 22, .inl (fun _ => (-1)))), ((u4 3), .inl (cI, 22, .inl (fun _ => (-1)))), ((u4 4), .inl (cI, 22, .inl (fun _ => 0))), ((u4 5), .inl (cI, 64, .inl (fun _ => 0))), ((u4 6), .inl (cI, 64, .inl (fun _ => 0))), ((u4 7), .inl (cI, 64, .inl (fun _ => 0))), (q7, .inr (0, [.int 0, .ref (u10 9)])), ((u10 9), .inl (cI, 3600, .inl (fun _ => 0))), (q13, .inl (cZ, 400, .inl (fun _ => 0))), (q19, .inl (cI, 20, .inl (fun _ => 0))), (q22, .inl (cP, 6, .inr (.inr (.inr (.inr (va_up (va_up (va_up (fun _ => none) 0 (some q29)) 1 (some q36)) 2 (some q43))))))), (q16, .inl (cI, 16, .inl (fun _ => (-1)))), (q29, .inr (2, [.int 0, .int 0, .int 0, .int 0, .int 0, .int 0, .int 0, .int 0, .ref z, .ref (u32 1), .ref (u32 2)])), ((u32 1), .inl (cI, 26, .inl (fun _ => 0))), ((u32 2), .inl (cI, 20, .inl (fun _ => 0))), (q36, .inr (2, [.int 1, .int 0, .int 0, .int 0, .int 0, .int 0, .int 0, .int 0, .ref z, .ref (u39 1), .ref (u39 2)])), ((u39 1), .inl (cI, 26, .inl (fun _ => 0))), ((u39 2), .inl (cI, 20, .inl (fun _ => 0))), (q43, .inr (2, [.int 2, .int 0, .int 0, .int 0, .int 0, .int 0, .int 0, .int 0, .ref z, .ref (u46 1), .ref (u46 2)])), ((u46 1), .inl (cI, 26, .inl (fun _ => 0))), ((u46 2), .inl (cI, 20, .inl (fun _ => 0))), (q50, .inr (2, [.int 3, .int 0, .int 0, .int 0, .int 0, .int 0, .int 0, .int 0, .ref z, .ref (u53 1), .ref (u53 2)])), ((u53 1), .inl (cI, 26, .inl (fun _ => 0))), ((u53 2), .inl (cI, 20, .inl (fun _ => 0)))] := hD
  refine W.widen (k := 25) (n := 4538) (by decide) (by decide) ?_
  refine va_astq hx hb hK hP hD hS 12 4 23 2 rfl rfl rfl rfl (vpd rfl) dX6_init_89 (fun H55 locs hP hD hS => ?_)
  have hP : va_P (dC, dI) vwCl [(h, .inr (6, [.int 0, .int 0, .int 0, .ref q1, .ref q7, .ref q13, .ref q16, .ref q19, .ref q22])), (q1, .inr (4, [.ref (u4 2), .ref (u4 3), .ref (u4 4), .ref (u4 5), .ref (u4 6), .ref (u4 7), .int 0, .int (-1)])), ((u4 2), .inl (cI, 22, .inl (fun _ => (-1)))), ((u4 3), .inl (cI, 22, .inl (fun _ => (-1)))), ((u4 4), .inl (cI, 22, .inl (fun _ => 0))), ((u4 5), .inl (cI, 64, .inl (fun _ => 0))), ((u4 6), .inl (cI, 64, .inl (fun _ => 0))), ((u4 7), .inl (cI, 64, .inl (fun _ => 0))), (q7, .inr (0, [.int 0, .ref (u10 9)])), ((u10 9), .inl (cI, 3600, .inl (fun _ => 0))), (q13, .inl (cZ, 400, .inl (fun _ => 0))), (q19, .inl (cI, 20, .inl (fun _ => 0))), (q22, .inl (cP, 6, .inr (.inr (.inr (.inr (va_up (va_up (va_up (va_up (fun _ => none) 0 (some q29)) 1 (some q36)) 2 (some q43)) 3 (some q50))))))), (q16, .inl (cI, 16, .inl (fun _ => (-1)))), (q29, .inr (2, [.int 0, .int 0, .int 0, .int 0, .int 0, .int 0, .int 0, .int 0, .ref z, .ref (u32 1), .ref (u32 2)])), ((u32 1), .inl (cI, 26, .inl (fun _ => 0))), ((u32 2), .inl (cI, 20, .inl (fun _ => 0))), (q36, .inr (2, [.int 1, .int 0, .int 0, .int 0, .int 0, .int 0, .int 0, .int 0, .ref z, .ref (u39 1), .ref (u39 2)])), ((u39 1), .inl (cI, 26, .inl (fun _ => 0))), ((u39 2), .inl (cI, 20, .inl (fun _ => 0))), (q43, .inr (2, [.int 2, .int 0, .int 0, .int 0, .int 0, .int 0, .int 0, .int 0, .ref z, .ref (u46 1), .ref (u46 2)])), ((u46 1), .inl (cI, 26, .inl (fun _ => 0))), ((u46 2), .inl (cI, 20, .inl (fun _ => 0))), (q50, .inr (2, [.int 3, .int 0, .int 0, .int 0, .int 0, .int 0, .int 0, .int 0, .ref z, .ref (u53 1), .ref (u53 2)])), ((u53 1), .inl (cI, 26, .inl (fun _ => 0))), ((u53 2), .inl (cI, 20, .inl (fun _ => 0)))] H55 := hP
  have hD : va_D A [(h, .inr (6, [.int 0, .int 0, .int 0, .ref q1, .ref q7, .ref q13, .ref q16, .ref q19, .ref q22])), (q1, .inr (4, [.ref (u4 2), .ref (u4 3), .ref (u4 4), .ref (u4 5), .ref (u4 6), .ref (u4 7), .int 0, .int (-1)])), ((u4 2), .inl (cI, 22, .inl (fun _ => (-1)))), ((u4 3), .inl (cI, 22, .inl (fun _ => (-1)))), ((u4 4), .inl (cI, 22, .inl (fun _ => 0))), ((u4 5), .inl (cI, 64, .inl (fun _ => 0))), ((u4 6), .inl (cI, 64, .inl (fun _ => 0))), ((u4 7), .inl (cI, 64, .inl (fun _ => 0))), (q7, .inr (0, [.int 0, .ref (u10 9)])), ((u10 9), .inl (cI, 3600, .inl (fun _ => 0))), (q13, .inl (cZ, 400, .inl (fun _ => 0))), (q19, .inl (cI, 20, .inl (fun _ => 0))), (q22, .inl (cP, 6, .inr (.inr (.inr (.inr (va_up (va_up (va_up (va_up (fun _ => none) 0 (some q29)) 1 (some q36)) 2 (some q43)) 3 (some q50))))))), (q16, .inl (cI, 16, .inl (fun _ => (-1)))), (q29, .inr (2, [.int 0, .int 0, .int 0, .int 0, .int 0, .int 0, .int 0, .int 0, .ref z, .ref (u32 1), .ref (u32 2)])), ((u32 1), .inl (cI, 26, .inl (fun _ => 0))), ((u32 2), .inl (cI, 20, .inl (fun _ => 0))), (q36, .inr (2, [.int 1, .int 0, .int 0, .int 0, .int 0, .int 0, .int 0, .int 0, .ref z, .ref (u39 1), .ref (u39 2)])), ((u39 1), .inl (cI, 26, .inl (fun _ => 0))), ((u39 2), .inl (cI, 20, .inl (fun _ => 0))), (q43, .inr (2, [.int 2, .int 0, .int 0, .int 0, .int 0, .int 0, .int 0, .int 0, .ref z, .ref (u46 1), .ref (u46 2)])), ((u46 1), .inl (cI, 26, .inl (fun _ => 0))), ((u46 2), .inl (cI, 20, .inl (fun _ => 0))), (q50, .inr (2, [.int 3, .int 0, .int 0, .int 0, .int 0, .int 0, .int 0, .int 0, .ref z, .ref (u53 1), .ref (u53 2)])), ((u53 1), .inl (cI, 26, .inl (fun _ => 0))), ((u53 2), .inl (cI, 20, .inl (fun _ => 0)))] := hD
  refine lv_iinc (v := 4) (lv' := [(1, .int 4), (0, .ref h)]) hx hb dX6_init_90 hl (k := 0) rfl (by decide) (by decide) rfl (fun ls hl => ?_)
  refine lv_goto (tgt := 70) hx hb dX6_init_93 (by decide) ?_
  refine lv_iload_n hx hb dX6_init_70 rfl (lv_at hl 0 rfl) ?_
  refine lv_bipush (v := 6) hx hb dX6_init_71 (by decide) ?_
  refine lv_icmp_ge (tgt := 96) hx hb dX6_init_73 (by decide) (fun c9 => absurd c9 (by decide)) (fun _ => ?_)
  refine lv_aload_n hx hb dX6_init_76 rfl (lv_at hl 1 rfl) ?_
  refine va_get (D := (dC, dI)) (ci := 6) (v := .ref q22) (C := RX6) (T := TX6) (N := 9) hx hb hts in_w_init_X6 hown hK hP 0 rfl rfl 8 (by decide) (hts (.fieldLink RX6 38 "DepotMarch$World" "party" "[LDepotMarch$Party;") (by decide +kernel)) (fun _ h9 => h9) rfl dX6_init_77 ?_
  refine lv_iload_n hx hb dX6_init_80 rfl (lv_at hl 0 rfl) ?_
  refine va_new (ci := 2) (fs := [.int 0, .int 0, .int 0, .int 0, .int 0, .int 0, .int 0, .int 0, .null, .null, .null]) (C := RX2) (T := TX2) (N := 11) hx hb hts in_w_init_X2 tyX2 tyX2_ok hown (hts (.classLink RX6 36 RX2) (by decide +kernel)) (hts (.instantiable RX2 11) (by decide +kernel)) (hts (.initialized RX2) (by decide +kernel)) hK hP hD hS hA rfl df_X2 (Nat.le_of_ble_eq_true rfl) (Nat.le_of_ble_eq_true rfl) dX6_init_81 (fun q57 H58 hP hD hS => ?_)
  have hP : va_P (dC, dI) vwCl [(h, .inr (6, [.int 0, .int 0, .int 0, .ref q1, .ref q7, .ref q13, .ref q16, .ref q19, .ref q22])), (q1, .inr (4, [.ref (u4 2), .ref (u4 3), .ref (u4 4), .ref (u4 5), .ref (u4 6), .ref (u4 7), .int 0, .int (-1)])), ((u4 2), .inl (cI, 22, .inl (fun _ => (-1)))), ((u4 3), .inl (cI, 22, .inl (fun _ => (-1)))), ((u4 4), .inl (cI, 22, .inl (fun _ => 0))), ((u4 5), .inl (cI, 64, .inl (fun _ => 0))), ((u4 6), .inl (cI, 64, .inl (fun _ => 0))), ((u4 7), .inl (cI, 64, .inl (fun _ => 0))), (q7, .inr (0, [.int 0, .ref (u10 9)])), ((u10 9), .inl (cI, 3600, .inl (fun _ => 0))), (q13, .inl (cZ, 400, .inl (fun _ => 0))), (q19, .inl (cI, 20, .inl (fun _ => 0))), (q22, .inl (cP, 6, .inr (.inr (.inr (.inr (va_up (va_up (va_up (va_up (fun _ => none) 0 (some q29)) 1 (some q36)) 2 (some q43)) 3 (some q50))))))), (q16, .inl (cI, 16, .inl (fun _ => (-1)))), (q29, .inr (2, [.int 0, .int 0, .int 0, .int 0, .int 0, .int 0, .int 0, .int 0, .ref z, .ref (u32 1), .ref (u32 2)])), ((u32 1), .inl (cI, 26, .inl (fun _ => 0))), ((u32 2), .inl (cI, 20, .inl (fun _ => 0))), (q36, .inr (2, [.int 1, .int 0, .int 0, .int 0, .int 0, .int 0, .int 0, .int 0, .ref z, .ref (u39 1), .ref (u39 2)])), ((u39 1), .inl (cI, 26, .inl (fun _ => 0))), ((u39 2), .inl (cI, 20, .inl (fun _ => 0))), (q43, .inr (2, [.int 2, .int 0, .int 0, .int 0, .int 0, .int 0, .int 0, .int 0, .ref z, .ref (u46 1), .ref (u46 2)])), ((u46 1), .inl (cI, 26, .inl (fun _ => 0))), ((u46 2), .inl (cI, 20, .inl (fun _ => 0))), (q50, .inr (2, [.int 3, .int 0, .int 0, .int 0, .int 0, .int 0, .int 0, .int 0, .ref z, .ref (u53 1), .ref (u53 2)])), ((u53 1), .inl (cI, 26, .inl (fun _ => 0))), ((u53 2), .inl (cI, 20, .inl (fun _ => 0))), (q57, .inr (2, [.int 0, .int 0, .int 0, .int 0, .int 0, .int 0, .int 0, .int 0, .null, .null, .null]))] H58 := hP
  have hD : va_D A [(h, .inr (6, [.int 0, .int 0, .int 0, .ref q1, .ref q7, .ref q13, .ref q16, .ref q19, .ref q22])), (q1, .inr (4, [.ref (u4 2), .ref (u4 3), .ref (u4 4), .ref (u4 5), .ref (u4 6), .ref (u4 7), .int 0, .int (-1)])), ((u4 2), .inl (cI, 22, .inl (fun _ => (-1)))), ((u4 3), .inl (cI, 22, .inl (fun _ => (-1)))), ((u4 4), .inl (cI, 22, .inl (fun _ => 0))), ((u4 5), .inl (cI, 64, .inl (fun _ => 0))), ((u4 6), .inl (cI, 64, .inl (fun _ => 0))), ((u4 7), .inl (cI, 64, .inl (fun _ => 0))), (q7, .inr (0, [.int 0, .ref (u10 9)])), ((u10 9), .inl (cI, 3600, .inl (fun _ => 0))), (q13, .inl (cZ, 400, .inl (fun _ => 0))), (q19, .inl (cI, 20, .inl (fun _ => 0))), (q22, .inl (cP, 6, .inr (.inr (.inr (.inr (va_up (va_up (va_up (va_up (fun _ => none) 0 (some q29)) 1 (some q36)) 2 (some q43)) 3 (some q50))))))), (q16, .inl (cI, 16, .inl (fun _ => (-1)))), (q29, .inr (2, [.int 0, .int 0, .int 0, .int 0, .int 0, .int 0, .int 0, .int 0, .ref z, .ref (u32 1), .ref (u32 2)])), ((u32 1), .inl (cI, 26, .inl (fun _ => 0))), ((u32 2), .inl (cI, 20, .inl (fun _ => 0))), (q36, .inr (2, [.int 1, .int 0, .int 0, .int 0, .int 0, .int 0, .int 0, .int 0, .ref z, .ref (u39 1), .ref (u39 2)])), ((u39 1), .inl (cI, 26, .inl (fun _ => 0))), ((u39 2), .inl (cI, 20, .inl (fun _ => 0))), (q43, .inr (2, [.int 2, .int 0, .int 0, .int 0, .int 0, .int 0, .int 0, .int 0, .ref z, .ref (u46 1), .ref (u46 2)])), ((u46 1), .inl (cI, 26, .inl (fun _ => 0))), ((u46 2), .inl (cI, 20, .inl (fun _ => 0))), (q50, .inr (2, [.int 3, .int 0, .int 0, .int 0, .int 0, .int 0, .int 0, .int 0, .ref z, .ref (u53 1), .ref (u53 2)])), ((u53 1), .inl (cI, 26, .inl (fun _ => 0))), ((u53 2), .inl (cI, 20, .inl (fun _ => 0))), (q57, .inr (2, [.int 0, .int 0, .int 0, .int 0, .int 0, .int 0, .int 0, .int 0, .null, .null, .null]))] := hD
  refine W.widen (k := 26) (n := 4549) (by decide) (by decide) ?_
  refine lv_dup hx hb dX6_init_84 rfl ?_
  refine lv_iload_n hx hb dX6_init_85 rfl (lv_at hl 0 rfl) ?_
  have hPc := hP.sub (ws' := [(q57, .inr (2, [.int 0, .int 0, .int 0, .int 0, .int 0, .int 0, .int 0, .int 0, .null, .null, .null]))]) [26] rfl
  have hDc := hD.sub (ws' := [(q57, .inr (2, [.int 0, .int 0, .int 0, .int 0, .int 0, .int 0, .int 0, .int 0, .null, .null, .null]))]) [26] (by decide) rfl
  have hFc := va_free (wc := [(q57, .inr (2, [.int 0, .int 0, .int 0, .int 0, .int 0, .int 0, .int 0, .int 0, .null, .null, .null]))]) hD hS hA [26] rfl
  refine va_callv (va_runI (As := [.int 4]) (rest := [.ref q57, .int 4, .ref q22]) ⟨hx, hb, hml, hown, hts⟩ (c_p_init l dC dI cI cZ cB cJ cP cW q57 4 z H58.size) (cwI 1 hts gg_w_init_p_init rfl rfl rfl (hts (.initialized RX2) (by decide +kernel)) (hts (.methodLink RX6 48 yX2_init) (by decide +kernel)) (hts (.instanceMethod yX2_init) (by decide +kernel)) rfl (by decide +kernel) ⟨Nat.le_of_ble_eq_true rfl, Nat.le_of_ble_eq_true rfl⟩) ⟨fbMX blZ, fun U hU hW => ⟨rfl, by rw [hU], hE.warm hW, by rw [hU]; exact hPc, hDc.weaken (fun _ _ _ _ => trivial), (by rw [hU]; exact va_Z.moved hW.alike ((va_Z.kept hX hS.2.1).narrow hFc))⟩⟩ rfl rfl hl.1 rfl (lv_room (Nat.le_of_ble_eq_true rfl)) dX6_init_86 ⟨Nat.le_of_ble_eq_true rfl, Nat.le_of_ble_eq_true rfl⟩) hS (fun q _ h => hFc q h) hFc (fun u60 t H61 locs ht hvm hr59 hB hz1 hk1 hS => ?_)
  obtain ⟨hP1, hD1⟩ := hB
  rw [ht] at hP1
  obtain ⟨hP, hD⟩ := va_join (wr := [(h, .inr (6, [.int 0, .int 0, .int 0, .ref q1, .ref q7, .ref q13, .ref q16, .ref q19, .ref q22])), (q1, .inr (4, [.ref (u4 2), .ref (u4 3), .ref (u4 4), .ref (u4 5), .ref (u4 6), .ref (u4 7), .int 0, .int (-1)])), ((u4 2), .inl (cI, 22, .inl (fun _ => (-1)))), ((u4 3), .inl (cI, 22, .inl (fun _ => (-1)))), ((u4 4), .inl (cI, 22, .inl (fun _ => 0))), ((u4 5), .inl (cI, 64, .inl (fun _ => 0))), ((u4 6), .inl (cI, 64, .inl (fun _ => 0))), ((u4 7), .inl (cI, 64, .inl (fun _ => 0))), (q7, .inr (0, [.int 0, .ref (u10 9)])), ((u10 9), .inl (cI, 3600, .inl (fun _ => 0))), (q13, .inl (cZ, 400, .inl (fun _ => 0))), (q19, .inl (cI, 20, .inl (fun _ => 0))), (q22, .inl (cP, 6, .inr (.inr (.inr (.inr (va_up (va_up (va_up (va_up (fun _ => none) 0 (some q29)) 1 (some q36)) 2 (some q43)) 3 (some q50))))))), (q16, .inl (cI, 16, .inl (fun _ => (-1)))), (q29, .inr (2, [.int 0, .int 0, .int 0, .int 0, .int 0, .int 0, .int 0, .int 0, .ref z, .ref (u32 1), .ref (u32 2)])), ((u32 1), .inl (cI, 26, .inl (fun _ => 0))), ((u32 2), .inl (cI, 20, .inl (fun _ => 0))), (q36, .inr (2, [.int 1, .int 0, .int 0, .int 0, .int 0, .int 0, .int 0, .int 0, .ref z, .ref (u39 1), .ref (u39 2)])), ((u39 1), .inl (cI, 26, .inl (fun _ => 0))), ((u39 2), .inl (cI, 20, .inl (fun _ => 0))), (q43, .inr (2, [.int 2, .int 0, .int 0, .int 0, .int 0, .int 0, .int 0, .int 0, .ref z, .ref (u46 1), .ref (u46 2)])), ((u46 1), .inl (cI, 26, .inl (fun _ => 0))), ((u46 2), .inl (cI, 20, .inl (fun _ => 0))), (q50, .inr (2, [.int 3, .int 0, .int 0, .int 0, .int 0, .int 0, .int 0, .int 0, .ref z, .ref (u53 1), .ref (u53 2)])), ((u53 1), .inl (cI, 26, .inl (fun _ => 0))), ((u53 2), .inl (cI, 20, .inl (fun _ => 0)))]) (w1 := [(q57, .inr (2, [.int 4, .int 0, .int 0, .int 0, .int 0, .int 0, .int 0, .int 0, .ref z, .ref (u60 1), .ref (u60 2)])), ((u60 1), .inl (cI, 26, .inl (fun _ => 0))), ((u60 2), .inl (cI, 20, .inl (fun _ => 0)))]) hP hD [26] [0, 1, 2, 3, 4, 5, 6, 7, 8, 9, 10, 11, 12, 13, 14, 15, 16, 17, 18, 19, 20, 21, 22, 23, 24, 25] rfl rfl (by decide) (by decide) hk1 hFc hP1 hD1
  have hP : va_P (dC, dI) vwCl [(h, .inr (6, [.int 0, .int 0, .int 0, .ref q1, .ref q7, .ref q13, .ref q16, .ref q19, .ref q22])), (q1, .inr (4, [.ref (u4 2), .ref (u4 3), .ref (u4 4), .ref (u4 5), .ref (u4 6), .ref (u4 7), .int 0, .int (-1)])), ((u4 2), .inl (cI, 22, .inl (fun _ => (-1)))), ((u4 3), .inl (cI, 22, .inl (fun _ => (-1)))), ((u4 4), .inl (cI, 22, .inl (fun _ => 0))), ((u4 5), .inl (cI, 64, .inl (fun _ => 0))), ((u4 6), .inl (cI, 64, .inl (fun _ => 0))), ((u4 7), .inl (cI, 64, .inl (fun _ => 0))), (q7, .inr (0, [.int 0, .ref (u10 9)])), ((u10 9), .inl (cI, 3600, .inl (fun _ => 0))), (q13, .inl (cZ, 400, .inl (fun _ => 0))), (q19, .inl (cI, 20, .inl (fun _ => 0))), (q22, .inl (cP, 6, .inr (.inr (.inr (.inr (va_up (va_up (va_up (va_up (fun _ => none) 0 (some q29)) 1 (some q36)) 2 (some q43)) 3 (some q50))))))), (q16, .inl (cI, 16, .inl (fun _ => (-1)))), (q29, .inr (2, [.int 0, .int 0, .int 0, .int 0, .int 0, .int 0, .int 0, .int 0, .ref z, .ref (u32 1), .ref (u32 2)])), ((u32 1), .inl (cI, 26, .inl (fun _ => 0))), ((u32 2), .inl (cI, 20, .inl (fun _ => 0))), (q36, .inr (2, [.int 1, .int 0, .int 0, .int 0, .int 0, .int 0, .int 0, .int 0, .ref z, .ref (u39 1), .ref (u39 2)])), ((u39 1), .inl (cI, 26, .inl (fun _ => 0))), ((u39 2), .inl (cI, 20, .inl (fun _ => 0))), (q43, .inr (2, [.int 2, .int 0, .int 0, .int 0, .int 0, .int 0, .int 0, .int 0, .ref z, .ref (u46 1), .ref (u46 2)])), ((u46 1), .inl (cI, 26, .inl (fun _ => 0))), ((u46 2), .inl (cI, 20, .inl (fun _ => 0))), (q50, .inr (2, [.int 3, .int 0, .int 0, .int 0, .int 0, .int 0, .int 0, .int 0, .ref z, .ref (u53 1), .ref (u53 2)])), ((u53 1), .inl (cI, 26, .inl (fun _ => 0))), ((u53 2), .inl (cI, 20, .inl (fun _ => 0))), (q57, .inr (2, [.int 4, .int 0, .int 0, .int 0, .int 0, .int 0, .int 0, .int 0, .ref z, .ref (u60 1), .ref (u60 2)])), ((u60 1), .inl (cI, 26, .inl (fun _ => 0))), ((u60 2), .inl (cI, 20, .inl (fun _ => 0)))] H61 := hP
  have hD : va_D A [(h, .inr (6, [.int 0, .int 0, .int 0, .ref q1, .ref q7, .ref q13, .ref q16, .ref q19, .ref q22])), (q1, .inr (4, [.ref (u4 2), .ref (u4 3), .ref (u4 4), .ref (u4 5), .ref (u4 6), .ref (u4 7), .int 0, .int (-1)])), ((u4 2), .inl (cI, 22, .inl (fun _ => (-1)))), ((u4 3), .inl (cI, 22, .inl (fun _ => (-1)))), ((u4 4), .inl (cI, 22, .inl (fun _ => 0))), ((u4 5), .inl (cI, 64, .inl (fun _ => 0))), ((u4 6), .inl (cI, 64, .inl (fun _ => 0))), ((u4 7), .inl (cI, 64, .inl (fun _ => 0))), (q7, .inr (0, [.int 0, .ref (u10 9)])), ((u10 9), .inl (cI, 3600, .inl (fun _ => 0))), (q13, .inl (cZ, 400, .inl (fun _ => 0))), (q19, .inl (cI, 20, .inl (fun _ => 0))), (q22, .inl (cP, 6, .inr (.inr (.inr (.inr (va_up (va_up (va_up (va_up (fun _ => none) 0 (some q29)) 1 (some q36)) 2 (some q43)) 3 (some q50))))))), (q16, .inl (cI, 16, .inl (fun _ => (-1)))), (q29, .inr (2, [.int 0, .int 0, .int 0, .int 0, .int 0, .int 0, .int 0, .int 0, .ref z, .ref (u32 1), .ref (u32 2)])), ((u32 1), .inl (cI, 26, .inl (fun _ => 0))), ((u32 2), .inl (cI, 20, .inl (fun _ => 0))), (q36, .inr (2, [.int 1, .int 0, .int 0, .int 0, .int 0, .int 0, .int 0, .int 0, .ref z, .ref (u39 1), .ref (u39 2)])), ((u39 1), .inl (cI, 26, .inl (fun _ => 0))), ((u39 2), .inl (cI, 20, .inl (fun _ => 0))), (q43, .inr (2, [.int 2, .int 0, .int 0, .int 0, .int 0, .int 0, .int 0, .int 0, .ref z, .ref (u46 1), .ref (u46 2)])), ((u46 1), .inl (cI, 26, .inl (fun _ => 0))), ((u46 2), .inl (cI, 20, .inl (fun _ => 0))), (q50, .inr (2, [.int 3, .int 0, .int 0, .int 0, .int 0, .int 0, .int 0, .int 0, .ref z, .ref (u53 1), .ref (u53 2)])), ((u53 1), .inl (cI, 26, .inl (fun _ => 0))), ((u53 2), .inl (cI, 20, .inl (fun _ => 0))), (q57, .inr (2, [.int 4, .int 0, .int 0, .int 0, .int 0, .int 0, .int 0, .int 0, .ref z, .ref (u60 1), .ref (u60 2)])), ((u60 1), .inl (cI, 26, .inl (fun _ => 0))), ((u60 2), .inl (cI, 20, .inl (fun _ => 0)))] := hD
  refine W.widen (k := 28) (n := 4595) (by decide) (by decide) ?_
  refine va_astq hx hb hK hP hD hS 12 4 26 2 rfl rfl rfl rfl (vpd rfl) dX6_init_89 (fun H62 locs hP hD hS => ?_)
  have hP : va_P (dC, dI) vwCl [(h, .inr (6, [.int 0, .int 0, .int 0, .ref q1, .ref q7, .ref q13, .ref q16, .ref q19, .ref q22])), (q1, .inr (4, [.ref (u4 2), .ref (u4 3), .ref (u4 4), .ref (u4 5), .ref (u4 6), .ref (u4 7), .int 0, .int (-1)])), ((u4 2), .inl (cI, 22, .inl (fun _ => (-1)))), ((u4 3), .inl (cI, 22, .inl (fun _ => (-1)))), ((u4 4), .inl (cI, 22, .inl (fun _ => 0))), ((u4 5), .inl (cI, 64, .inl (fun _ => 0))), ((u4 6), .inl (cI, 64, .inl (fun _ => 0))), ((u4 7), .inl (cI, 64, .inl (fun _ => 0))), (q7, .inr (0, [.int 0, .ref (u10 9)])), ((u10 9), .inl (cI, 3600, .inl (fun _ => 0))), (q13, .inl (cZ, 400, .inl (fun _ => 0))), (q19, .inl (cI, 20, .inl (fun _ => 0))), (q22, .inl (cP, 6, .inr (.inr (.inr (.inr (va_up (va_up (va_up (va_up (va_up (fun _ => none) 0 (some q29)) 1 (some q36)) 2 (some q43)) 3 (some q50)) 4 (some q57))))))), (q16, .inl (cI, 16, .inl (fun _ => (-1)))), (q29, .inr (2, [.int 0, .int 0, .int 0, .int 0, .int 0, .int 0, .int 0, .int 0, .ref z, .ref (u32 1), .ref (u32 2)])), ((u32 1), .inl (cI, 26, .inl (fun _ => 0))), ((u32 2), .inl (cI, 20, .inl (fun _ => 0))), (q36, .inr (2, [.int 1, .int 0, .int 0, .int 0, .int 0, .int 0, .int 0, .int 0, .ref z, .ref (u39 1), .ref (u39 2)])), ((u39 1), .inl (cI, 26, .inl (fun _ => 0))), ((u39 2), .inl (cI, 20, .inl (fun _ => 0))), (q43, .inr (2, [.int 2, .int 0, .int 0, .int 0, .int 0, .int 0, .int 0, .int 0, .ref z, .ref (u46 1), .ref (u46 2)])), ((u46 1), .inl (cI, 26, .inl (fun _ => 0))), ((u46 2), .inl (cI, 20, .inl (fun _ => 0))), (q50, .inr (2, [.int 3, .int 0, .int 0, .int 0, .int 0, .int 0, .int 0, .int 0, .ref z, .ref (u53 1), .ref (u53 2)])), ((u53 1), .inl (cI, 26, .inl (fun _ => 0))), ((u53 2), .inl (cI, 20, .inl (fun _ => 0))), (q57, .inr (2, [.int 4, .int 0, .int 0, .int 0, .int 0, .int 0, .int 0, .int 0, .ref z, .ref (u60 1), .ref (u60 2)])), ((u60 1), .inl (cI, 26, .inl (fun _ => 0))), ((u60 2), .inl (cI, 20, .inl (fun _ => 0)))] H62 := hP
  have hD : va_D A [(h, .inr (6, [.int 0, .int 0, .int 0, .ref q1, .ref q7, .ref q13, .ref q16, .ref q19, .ref q22])), (q1, .inr (4, [.ref (u4 2), .ref (u4 3), .ref (u4 4), .ref (u4 5), .ref (u4 6), .ref (u4 7), .int 0, .int (-1)])), ((u4 2), .inl (cI, 22, .inl (fun _ => (-1)))), ((u4 3), .inl (cI, 22, .inl (fun _ => (-1)))), ((u4 4), .inl (cI, 22, .inl (fun _ => 0))), ((u4 5), .inl (cI, 64, .inl (fun _ => 0))), ((u4 6), .inl (cI, 64, .inl (fun _ => 0))), ((u4 7), .inl (cI, 64, .inl (fun _ => 0))), (q7, .inr (0, [.int 0, .ref (u10 9)])), ((u10 9), .inl (cI, 3600, .inl (fun _ => 0))), (q13, .inl (cZ, 400, .inl (fun _ => 0))), (q19, .inl (cI, 20, .inl (fun _ => 0))), (q22, .inl (cP, 6, .inr (.inr (.inr (.inr (va_up (va_up (va_up (va_up (va_up (fun _ => none) 0 (some q29)) 1 (some q36)) 2 (some q43)) 3 (some q50)) 4 (some q57))))))), (q16, .inl (cI, 16, .inl (fun _ => (-1)))), (q29, .inr (2, [.int 0, .int 0, .int 0, .int 0, .int 0, .int 0, .int 0, .int 0, .ref z, .ref (u32 1), .ref (u32 2)])), ((u32 1), .inl (cI, 26, .inl (fun _ => 0))), ((u32 2), .inl (cI, 20, .inl (fun _ => 0))), (q36, .inr (2, [.int 1, .int 0, .int 0, .int 0, .int 0, .int 0, .int 0, .int 0, .ref z, .ref (u39 1), .ref (u39 2)])), ((u39 1), .inl (cI, 26, .inl (fun _ => 0))), ((u39 2), .inl (cI, 20, .inl (fun _ => 0))), (q43, .inr (2, [.int 2, .int 0, .int 0, .int 0, .int 0, .int 0, .int 0, .int 0, .ref z, .ref (u46 1), .ref (u46 2)])), ((u46 1), .inl (cI, 26, .inl (fun _ => 0))), ((u46 2), .inl (cI, 20, .inl (fun _ => 0))), (q50, .inr (2, [.int 3, .int 0, .int 0, .int 0, .int 0, .int 0, .int 0, .int 0, .ref z, .ref (u53 1), .ref (u53 2)])), ((u53 1), .inl (cI, 26, .inl (fun _ => 0))), ((u53 2), .inl (cI, 20, .inl (fun _ => 0))), (q57, .inr (2, [.int 4, .int 0, .int 0, .int 0, .int 0, .int 0, .int 0, .int 0, .ref z, .ref (u60 1), .ref (u60 2)])), ((u60 1), .inl (cI, 26, .inl (fun _ => 0))), ((u60 2), .inl (cI, 20, .inl (fun _ => 0)))] := hD
  refine lv_iinc (v := 5) (lv' := [(1, .int 5), (0, .ref h)]) hx hb dX6_init_90 hl (k := 0) rfl (by decide) (by decide) rfl (fun ls hl => ?_)
  refine lv_goto (tgt := 70) hx hb dX6_init_93 (by decide) ?_
  refine lv_iload_n hx hb dX6_init_70 rfl (lv_at hl 0 rfl) ?_
  refine lv_bipush (v := 6) hx hb dX6_init_71 (by decide) ?_
  refine lv_icmp_ge (tgt := 96) hx hb dX6_init_73 (by decide) (fun c9 => absurd c9 (by decide)) (fun _ => ?_)
  refine lv_aload_n hx hb dX6_init_76 rfl (lv_at hl 1 rfl) ?_
  refine va_get (D := (dC, dI)) (ci := 6) (v := .ref q22) (C := RX6) (T := TX6) (N := 9) hx hb hts in_w_init_X6 hown hK hP 0 rfl rfl 8 (by decide) (hts (.fieldLink RX6 38 "DepotMarch$World" "party" "[LDepotMarch$Party;") (by decide +kernel)) (fun _ h9 => h9) rfl dX6_init_77 ?_
  refine lv_iload_n hx hb dX6_init_80 rfl (lv_at hl 0 rfl) ?_
  refine va_new (ci := 2) (fs := [.int 0, .int 0, .int 0, .int 0, .int 0, .int 0, .int 0, .int 0, .null, .null, .null]) (C := RX2) (T := TX2) (N := 11) hx hb hts in_w_init_X2 tyX2 tyX2_ok hown (hts (.classLink RX6 36 RX2) (by decide +kernel)) (hts (.instantiable RX2 11) (by decide +kernel)) (hts (.initialized RX2) (by decide +kernel)) hK hP hD hS hA rfl df_X2 (Nat.le_of_ble_eq_true rfl) (Nat.le_of_ble_eq_true rfl) dX6_init_81 (fun q64 H65 hP hD hS => ?_)
  have hP : va_P (dC, dI) vwCl [(h, .inr (6, [.int 0, .int 0, .int 0, .ref q1, .ref q7, .ref q13, .ref q16, .ref q19, .ref q22])), (q1, .inr (4, [.ref (u4 2), .ref (u4 3), .ref (u4 4), .ref (u4 5), .ref (u4 6), .ref (u4 7), .int 0, .int (-1)])), ((u4 2), .inl (cI, 22, .inl (fun _ => (-1)))), ((u4 3), .inl (cI, 22, .inl (fun _ => (-1)))), ((u4 4), .inl (cI, 22, .inl (fun _ => 0))), ((u4 5), .inl (cI, 64, .inl (fun _ => 0))), ((u4 6), .inl (cI, 64, .inl (fun _ => 0))), ((u4 7), .inl (cI, 64, .inl (fun _ => 0))), (q7, .inr (0, [.int 0, .ref (u10 9)])), ((u10 9), .inl (cI, 3600, .inl (fun _ => 0))), (q13, .inl (cZ, 400, .inl (fun _ => 0))), (q19, .inl (cI, 20, .inl (fun _ => 0))), (q22, .inl (cP, 6, .inr (.inr (.inr (.inr (va_up (va_up (va_up (va_up (va_up (fun _ => none) 0 (some q29)) 1 (some q36)) 2 (some q43)) 3 (some q50)) 4 (some q57))))))), (q16, .inl (cI, 16, .inl (fun _ => (-1)))), (q29, .inr (2, [.int 0, .int 0, .int 0, .int 0, .int 0, .int 0, .int 0, .int 0, .ref z, .ref (u32 1), .ref (u32 2)])), ((u32 1), .inl (cI, 26, .inl (fun _ => 0))), ((u32 2), .inl (cI, 20, .inl (fun _ => 0))), (q36, .inr (2, [.int 1, .int 0, .int 0, .int 0, .int 0, .int 0, .int 0, .int 0, .ref z, .ref (u39 1), .ref (u39 2)])), ((u39 1), .inl (cI, 26, .inl (fun _ => 0))), ((u39 2), .inl (cI, 20, .inl (fun _ => 0))), (q43, .inr (2, [.int 2, .int 0, .int 0, .int 0, .int 0, .int 0, .int 0, .int 0, .ref z, .ref (u46 1), .ref (u46 2)])), ((u46 1), .inl (cI, 26, .inl (fun _ => 0))), ((u46 2), .inl (cI, 20, .inl (fun _ => 0))), (q50, .inr (2, [.int 3, .int 0, .int 0, .int 0, .int 0, .int 0, .int 0, .int 0, .ref z, .ref (u53 1), .ref (u53 2)])), ((u53 1), .inl (cI, 26, .inl (fun _ => 0))), ((u53 2), .inl (cI, 20, .inl (fun _ => 0))), (q57, .inr (2, [.int 4, .int 0, .int 0, .int 0, .int 0, .int 0, .int 0, .int 0, .ref z, .ref (u60 1), .ref (u60 2)])), ((u60 1), .inl (cI, 26, .inl (fun _ => 0))), ((u60 2), .inl (cI, 20, .inl (fun _ => 0))), (q64, .inr (2, [.int 0, .int 0, .int 0, .int 0, .int 0, .int 0, .int 0, .int 0, .null, .null, .null]))] H65 := hP
  have hD : va_D A [(h, .inr (6, [.int 0, .int 0, .int 0, .ref q1, .ref q7, .ref q13, .ref q16, .ref q19, .ref q22])), (q1, .inr (4, [.ref (u4 2), .ref (u4 3), .ref (u4 4), .ref (u4 5), .ref (u4 6), .ref (u4 7), .int 0, .int (-1)])), ((u4 2), .inl (cI, 22, .inl (fun _ => (-1)))), ((u4 3), .inl (cI, 22, .inl (fun _ => (-1)))), ((u4 4), .inl (cI, 22, .inl (fun _ => 0))), ((u4 5), .inl (cI, 64, .inl (fun _ => 0))), ((u4 6), .inl (cI, 64, .inl (fun _ => 0))), ((u4 7), .inl (cI, 64, .inl (fun _ => 0))), (q7, .inr (0, [.int 0, .ref (u10 9)])), ((u10 9), .inl (cI, 3600, .inl (fun _ => 0))), (q13, .inl (cZ, 400, .inl (fun _ => 0))), (q19, .inl (cI, 20, .inl (fun _ => 0))), (q22, .inl (cP, 6, .inr (.inr (.inr (.inr (va_up (va_up (va_up (va_up (va_up (fun _ => none) 0 (some q29)) 1 (some q36)) 2 (some q43)) 3 (some q50)) 4 (some q57))))))), (q16, .inl (cI, 16, .inl (fun _ => (-1)))), (q29, .inr (2, [.int 0, .int 0, .int 0, .int 0, .int 0, .int 0, .int 0, .int 0, .ref z, .ref (u32 1), .ref (u32 2)])), ((u32 1), .inl (cI, 26, .inl (fun _ => 0))), ((u32 2), .inl (cI, 20, .inl (fun _ => 0))), (q36, .inr (2, [.int 1, .int 0, .int 0, .int 0, .int 0, .int 0, .int 0, .int 0, .ref z, .ref (u39 1), .ref (u39 2)])), ((u39 1), .inl (cI, 26, .inl (fun _ => 0))), ((u39 2), .inl (cI, 20, .inl (fun _ => 0))), (q43, .inr (2, [.int 2, .int 0, .int 0, .int 0, .int 0, .int 0, .int 0, .int 0, .ref z, .ref (u46 1), .ref (u46 2)])), ((u46 1), .inl (cI, 26, .inl (fun _ => 0))), ((u46 2), .inl (cI, 20, .inl (fun _ => 0))), (q50, .inr (2, [.int 3, .int 0, .int 0, .int 0, .int 0, .int 0, .int 0, .int 0, .ref z, .ref (u53 1), .ref (u53 2)])), ((u53 1), .inl (cI, 26, .inl (fun _ => 0))), ((u53 2), .inl (cI, 20, .inl (fun _ => 0))), (q57, .inr (2, [.int 4, .int 0, .int 0, .int 0, .int 0, .int 0, .int 0, .int 0, .ref z, .ref (u60 1), .ref (u60 2)])), ((u60 1), .inl (cI, 26, .inl (fun _ => 0))), ((u60 2), .inl (cI, 20, .inl (fun _ => 0))), (q64, .inr (2, [.int 0, .int 0, .int 0, .int 0, .int 0, .int 0, .int 0, .int 0, .null, .null, .null]))] := hD
  refine W.widen (k := 29) (n := 4606) (by decide) (by decide) ?_
  refine lv_dup hx hb dX6_init_84 rfl ?_
  refine lv_iload_n hx hb dX6_init_85 rfl (lv_at hl 0 rfl) ?_
  have hPc := hP.sub (ws' := [(q64, .inr (2, [.int 0, .int 0, .int 0, .int 0, .int 0, .int 0, .int 0, .int 0, .null, .null, .null]))]) [29] rfl
  have hDc := hD.sub (ws' := [(q64, .inr (2, [.int 0, .int 0, .int 0, .int 0, .int 0, .int 0, .int 0, .int 0, .null, .null, .null]))]) [29] (by decide) rfl
  have hFc := va_free (wc := [(q64, .inr (2, [.int 0, .int 0, .int 0, .int 0, .int 0, .int 0, .int 0, .int 0, .null, .null, .null]))]) hD hS hA [29] rfl
  refine va_callv (va_runI (As := [.int 5]) (rest := [.ref q64, .int 5, .ref q22]) ⟨hx, hb, hml, hown, hts⟩ (c_p_init l dC dI cI cZ cB cJ cP cW q64 5 z H65.size) (cwI 1 hts gg_w_init_p_init rfl rfl rfl (hts (.initialized RX2) (by decide +kernel)) (hts (.methodLink RX6 48 yX2_init) (by decide +kernel)) (hts (.instanceMethod yX2_init) (by decide +kernel)) rfl (by decide +kernel) ⟨Nat.le_of_ble_eq_true rfl, Nat.le_of_ble_eq_true rfl⟩) ⟨fbMX blZ, fun U hU hW => ⟨rfl, by rw [hU], hE.warm hW, by rw [hU]; exact hPc, hDc.weaken (fun _ _ _ _ => trivial), (by rw [hU]; exact va_Z.moved hW.alike ((va_Z.kept hX hS.2.1).narrow hFc))⟩⟩ rfl rfl hl.1 rfl (lv_room (Nat.le_of_ble_eq_true rfl)) dX6_init_86 ⟨Nat.le_of_ble_eq_true rfl, Nat.le_of_ble_eq_true rfl⟩) hS (fun q _ h => hFc q h) hFc (fun u67 t H68 locs ht hvm hr66 hB hz1 hk1 hS => ?_)
  obtain ⟨hP1, hD1⟩ := hB
  rw [ht] at hP1
  obtain ⟨hP, hD⟩ := va_join (wr := [(h, .inr (6, [.int 0, .int 0, .int 0, .ref q1, .ref q7, .ref q13, .ref q16, .ref q19, .ref q22])), (q1, .inr (4, [.ref (u4 2), .ref (u4 3), .ref (u4 4), .ref (u4 5), .ref (u4 6), .ref (u4 7), .int 0, .int (-1)])), ((u4 2), .inl (cI, 22, .inl (fun _ => (-1)))), ((u4 3), .inl (cI, 22, .inl (fun _ => (-1)))), ((u4 4), .inl (cI, 22, .inl (fun _ => 0))), ((u4 5), .inl (cI, 64, .inl (fun _ => 0))), ((u4 6), .inl (cI, 64, .inl (fun _ => 0))), ((u4 7), .inl (cI, 64, .inl (fun _ => 0))), (q7, .inr (0, [.int 0, .ref (u10 9)])), ((u10 9), .inl (cI, 3600, .inl (fun _ => 0))), (q13, .inl (cZ, 400, .inl (fun _ => 0))), (q19, .inl (cI, 20, .inl (fun _ => 0))), (q22, .inl (cP, 6, .inr (.inr (.inr (.inr (va_up (va_up (va_up (va_up (va_up (fun _ => none) 0 (some q29)) 1 (some q36)) 2 (some q43)) 3 (some q50)) 4 (some q57))))))), (q16, .inl (cI, 16, .inl (fun _ => (-1)))), (q29, .inr (2, [.int 0, .int 0, .int 0, .int 0, .int 0, .int 0, .int 0, .int 0, .ref z, .ref (u32 1), .ref (u32 2)])), ((u32 1), .inl (cI, 26, .inl (fun _ => 0))), ((u32 2), .inl (cI, 20, .inl (fun _ => 0))), (q36, .inr (2, [.int 1, .int 0, .int 0, .int 0, .int 0, .int 0, .int 0, .int 0, .ref z, .ref (u39 1), .ref (u39 2)])), ((u39 1), .inl (cI, 26, .inl (fun _ => 0))), ((u39 2), .inl (cI, 20, .inl (fun _ => 0))), (q43, .inr (2, [.int 2, .int 0, .int 0, .int 0, .int 0, .int 0, .int 0, .int 0, .ref z, .ref (u46 1), .ref (u46 2)])), ((u46 1), .inl (cI, 26, .inl (fun _ => 0))), ((u46 2), .inl (cI, 20, .inl (fun _ => 0))), (q50, .inr (2, [.int 3, .int 0, .int 0, .int 0, .int 0, .int 0, .int 0, .int 0, .ref z, .ref (u53 1), .ref (u53 2)])), ((u53 1), .inl (cI, 26, .inl (fun _ => 0))), ((u53 2), .inl (cI, 20, .inl (fun _ => 0))), (q57, .inr (2, [.int 4, .int 0, .int 0, .int 0, .int 0, .int 0, .int 0, .int 0, .ref z, .ref (u60 1), .ref (u60 2)])), ((u60 1), .inl (cI, 26, .inl (fun _ => 0))), ((u60 2), .inl (cI, 20, .inl (fun _ => 0)))]) (w1 := [(q64, .inr (2, [.int 5, .int 0, .int 0, .int 0, .int 0, .int 0, .int 0, .int 0, .ref z, .ref (u67 1), .ref (u67 2)])), ((u67 1), .inl (cI, 26, .inl (fun _ => 0))), ((u67 2), .inl (cI, 20, .inl (fun _ => 0)))]) hP hD [29] [0, 1, 2, 3, 4, 5, 6, 7, 8, 9, 10, 11, 12, 13, 14, 15, 16, 17, 18, 19, 20, 21, 22, 23, 24, 25, 26, 27, 28] rfl rfl (by decide) (by decide) hk1 hFc hP1 hD1
  have hP : va_P (dC, dI) vwCl [(h, .inr (6, [.int 0, .int 0, .int 0, .ref q1, .ref q7, .ref q13, .ref q16, .ref q19, .ref q22])), (q1, .inr (4, [.ref (u4 2), .ref (u4 3), .ref (u4 4), .ref (u4 5), .ref (u4 6), .ref (u4 7), .int 0, .int (-1)])), ((u4 2), .inl (cI, 22, .inl (fun _ => (-1)))), ((u4 3), .inl (cI, 22, .inl (fun _ => (-1)))), ((u4 4), .inl (cI, 22, .inl (fun _ => 0))), ((u4 5), .inl (cI, 64, .inl (fun _ => 0))), ((u4 6), .inl (cI, 64, .inl (fun _ => 0))), ((u4 7), .inl (cI, 64, .inl (fun _ => 0))), (q7, .inr (0, [.int 0, .ref (u10 9)])), ((u10 9), .inl (cI, 3600, .inl (fun _ => 0))), (q13, .inl (cZ, 400, .inl (fun _ => 0))), (q19, .inl (cI, 20, .inl (fun _ => 0))), (q22, .inl (cP, 6, .inr (.inr (.inr (.inr (va_up (va_up (va_up (va_up (va_up (fun _ => none) 0 (some q29)) 1 (some q36)) 2 (some q43)) 3 (some q50)) 4 (some q57))))))), (q16, .inl (cI, 16, .inl (fun _ => (-1)))), (q29, .inr (2, [.int 0, .int 0, .int 0, .int 0, .int 0, .int 0, .int 0, .int 0, .ref z, .ref (u32 1), .ref (u32 2)])), ((u32 1), .inl (cI, 26, .inl (fun _ => 0))), ((u32 2), .inl (cI, 20, .inl (fun _ => 0))), (q36, .inr (2, [.int 1, .int 0, .int 0, .int 0, .int 0, .int 0, .int 0, .int 0, .ref z, .ref (u39 1), .ref (u39 2)])), ((u39 1), .inl (cI, 26, .inl (fun _ => 0))), ((u39 2), .inl (cI, 20, .inl (fun _ => 0))), (q43, .inr (2, [.int 2, .int 0, .int 0, .int 0, .int 0, .int 0, .int 0, .int 0, .ref z, .ref (u46 1), .ref (u46 2)])), ((u46 1), .inl (cI, 26, .inl (fun _ => 0))), ((u46 2), .inl (cI, 20, .inl (fun _ => 0))), (q50, .inr (2, [.int 3, .int 0, .int 0, .int 0, .int 0, .int 0, .int 0, .int 0, .ref z, .ref (u53 1), .ref (u53 2)])), ((u53 1), .inl (cI, 26, .inl (fun _ => 0))), ((u53 2), .inl (cI, 20, .inl (fun _ => 0))), (q57, .inr (2, [.int 4, .int 0, .int 0, .int 0, .int 0, .int 0, .int 0, .int 0, .ref z, .ref (u60 1), .ref (u60 2)])), ((u60 1), .inl (cI, 26, .inl (fun _ => 0))), ((u60 2), .inl (cI, 20, .inl (fun _ => 0))), (q64, .inr (2, [.int 5, .int 0, .int 0, .int 0, .int 0, .int 0, .int 0, .int 0, .ref z, .ref (u67 1), .ref (u67 2)])), ((u67 1), .inl (cI, 26, .inl (fun _ => 0))), ((u67 2), .inl (cI, 20, .inl (fun _ => 0)))] H68 := hP
  have hD : va_D A [(h, .inr (6, [.int 0, .int 0, .int 0, .ref q1, .ref q7, .ref q13, .ref q16, .ref q19, .ref q22])), (q1, .inr (4, [.ref (u4 2), .ref (u4 3), .ref (u4 4), .ref (u4 5), .ref (u4 6), .ref (u4 7), .int 0, .int (-1)])), ((u4 2), .inl (cI, 22, .inl (fun _ => (-1)))), ((u4 3), .inl (cI, 22, .inl (fun _ => (-1)))), ((u4 4), .inl (cI, 22, .inl (fun _ => 0))), ((u4 5), .inl (cI, 64, .inl (fun _ => 0))), ((u4 6), .inl (cI, 64, .inl (fun _ => 0))), ((u4 7), .inl (cI, 64, .inl (fun _ => 0))), (q7, .inr (0, [.int 0, .ref (u10 9)])), ((u10 9), .inl (cI, 3600, .inl (fun _ => 0))), (q13, .inl (cZ, 400, .inl (fun _ => 0))), (q19, .inl (cI, 20, .inl (fun _ => 0))), (q22, .inl (cP, 6, .inr (.inr (.inr (.inr (va_up (va_up (va_up (va_up (va_up (fun _ => none) 0 (some q29)) 1 (some q36)) 2 (some q43)) 3 (some q50)) 4 (some q57))))))), (q16, .inl (cI, 16, .inl (fun _ => (-1)))), (q29, .inr (2, [.int 0, .int 0, .int 0, .int 0, .int 0, .int 0, .int 0, .int 0, .ref z, .ref (u32 1), .ref (u32 2)])), ((u32 1), .inl (cI, 26, .inl (fun _ => 0))), ((u32 2), .inl (cI, 20, .inl (fun _ => 0))), (q36, .inr (2, [.int 1, .int 0, .int 0, .int 0, .int 0, .int 0, .int 0, .int 0, .ref z, .ref (u39 1), .ref (u39 2)])), ((u39 1), .inl (cI, 26, .inl (fun _ => 0))), ((u39 2), .inl (cI, 20, .inl (fun _ => 0))), (q43, .inr (2, [.int 2, .int 0, .int 0, .int 0, .int 0, .int 0, .int 0, .int 0, .ref z, .ref (u46 1), .ref (u46 2)])), ((u46 1), .inl (cI, 26, .inl (fun _ => 0))), ((u46 2), .inl (cI, 20, .inl (fun _ => 0))), (q50, .inr (2, [.int 3, .int 0, .int 0, .int 0, .int 0, .int 0, .int 0, .int 0, .ref z, .ref (u53 1), .ref (u53 2)])), ((u53 1), .inl (cI, 26, .inl (fun _ => 0))), ((u53 2), .inl (cI, 20, .inl (fun _ => 0))), (q57, .inr (2, [.int 4, .int 0, .int 0, .int 0, .int 0, .int 0, .int 0, .int 0, .ref z, .ref (u60 1), .ref (u60 2)])), ((u60 1), .inl (cI, 26, .inl (fun _ => 0))), ((u60 2), .inl (cI, 20, .inl (fun _ => 0))), (q64, .inr (2, [.int 5, .int 0, .int 0, .int 0, .int 0, .int 0, .int 0, .int 0, .ref z, .ref (u67 1), .ref (u67 2)])), ((u67 1), .inl (cI, 26, .inl (fun _ => 0))), ((u67 2), .inl (cI, 20, .inl (fun _ => 0)))] := hD
  refine W.widen (k := 31) (n := 4652) (by decide) (by decide) ?_
  refine va_astq hx hb hK hP hD hS 12 4 29 2 rfl rfl rfl rfl (vpd rfl) dX6_init_89 (fun H69 locs hP hD hS => ?_)
  have hP : va_P (dC, dI) vwCl [(h, .inr (6, [.int 0, .int 0, .int 0, .ref q1, .ref q7, .ref q13, .ref q16, .ref q19, .ref q22])), (q1, .inr (4, [.ref (u4 2), .ref (u4 3), .ref (u4 4), .ref (u4 5), .ref (u4 6), .ref (u4 7), .int 0, .int (-1)])), ((u4 2), .inl (cI, 22, .inl (fun _ => (-1)))), ((u4 3), .inl (cI, 22, .inl (fun _ => (-1)))), ((u4 4), .inl (cI, 22, .inl (fun _ => 0))), ((u4 5), .inl (cI, 64, .inl (fun _ => 0))), ((u4 6), .inl (cI, 64, .inl (fun _ => 0))), ((u4 7), .inl (cI, 64, .inl (fun _ => 0))), (q7, .inr (0, [.int 0, .ref (u10 9)])), ((u10 9), .inl (cI, 3600, .inl (fun _ => 0))), (q13, .inl (cZ, 400, .inl (fun _ => 0))), (q19, .inl (cI, 20, .inl (fun _ => 0))), (q22, .inl (cP, 6, .inr (.inr (.inr (.inr (va_up (va_up (va_up (va_up (va_up (va_up (fun _ => none) 0 (some q29)) 1 (some q36)) 2 (some q43)) 3 (some q50)) 4 (some q57)) 5 (some q64))))))), (q16, .inl (cI, 16, .inl (fun _ => (-1)))), (q29, .inr (2, [.int 0, .int 0, .int 0, .int 0, .int 0, .int 0, .int 0, .int 0, .ref z, .ref (u32 1), .ref (u32 2)])), ((u32 1), .inl (cI, 26, .inl (fun _ => 0))), ((u32 2), .inl (cI, 20, .inl (fun _ => 0))), (q36, .inr (2, [.int 1, .int 0, .int 0, .int 0, .int 0, .int 0, .int 0, .int 0, .ref z, .ref (u39 1), .ref (u39 2)])), ((u39 1), .inl (cI, 26, .inl (fun _ => 0))), ((u39 2), .inl (cI, 20, .inl (fun _ => 0))), (q43, .inr (2, [.int 2, .int 0, .int 0, .int 0, .int 0, .int 0, .int 0, .int 0, .ref z, .ref (u46 1), .ref (u46 2)])), ((u46 1), .inl (cI, 26, .inl (fun _ => 0))), ((u46 2), .inl (cI, 20, .inl (fun _ => 0))), (q50, .inr (2, [.int 3, .int 0, .int 0, .int 0, .int 0, .int 0, .int 0, .int 0, .ref z, .ref (u53 1), .ref (u53 2)])), ((u53 1), .inl (cI, 26, .inl (fun _ => 0))), ((u53 2), .inl (cI, 20, .inl (fun _ => 0))), (q57, .inr (2, [.int 4, .int 0, .int 0, .int 0, .int 0, .int 0, .int 0, .int 0, .ref z, .ref (u60 1), .ref (u60 2)])), ((u60 1), .inl (cI, 26, .inl (fun _ => 0))), ((u60 2), .inl (cI, 20, .inl (fun _ => 0))), (q64, .inr (2, [.int 5, .int 0, .int 0, .int 0, .int 0, .int 0, .int 0, .int 0, .ref z, .ref (u67 1), .ref (u67 2)])), ((u67 1), .inl (cI, 26, .inl (fun _ => 0))), ((u67 2), .inl (cI, 20, .inl (fun _ => 0)))] H69 := hP
  have hD : va_D A [(h, .inr (6, [.int 0, .int 0, .int 0, .ref q1, .ref q7, .ref q13, .ref q16, .ref q19, .ref q22])), (q1, .inr (4, [.ref (u4 2), .ref (u4 3), .ref (u4 4), .ref (u4 5), .ref (u4 6), .ref (u4 7), .int 0, .int (-1)])), ((u4 2), .inl (cI, 22, .inl (fun _ => (-1)))), ((u4 3), .inl (cI, 22, .inl (fun _ => (-1)))), ((u4 4), .inl (cI, 22, .inl (fun _ => 0))), ((u4 5), .inl (cI, 64, .inl (fun _ => 0))), ((u4 6), .inl (cI, 64, .inl (fun _ => 0))), ((u4 7), .inl (cI, 64, .inl (fun _ => 0))), (q7, .inr (0, [.int 0, .ref (u10 9)])), ((u10 9), .inl (cI, 3600, .inl (fun _ => 0))), (q13, .inl (cZ, 400, .inl (fun _ => 0))), (q19, .inl (cI, 20, .inl (fun _ => 0))), (q22, .inl (cP, 6, .inr (.inr (.inr (.inr (va_up (va_up (va_up (va_up (va_up (va_up (fun _ => none) 0 (some q29)) 1 (some q36)) 2 (some q43)) 3 (some q50)) 4 (some q57)) 5 (some q64))))))), (q16, .inl (cI, 16, .inl (fun _ => (-1)))), (q29, .inr (2, [.int 0, .int 0, .int 0, .int 0, .int 0, .int 0, .int 0, .int 0, .ref z, .ref (u32 1), .ref (u32 2)])), ((u32 1), .inl (cI, 26, .inl (fun _ => 0))), ((u32 2), .inl (cI, 20, .inl (fun _ => 0))), (q36, .inr (2, [.int 1, .int 0, .int 0, .int 0, .int 0, .int 0, .int 0, .int 0, .ref z, .ref (u39 1), .ref (u39 2)])), ((u39 1), .inl (cI, 26, .inl (fun _ => 0))), ((u39 2), .inl (cI, 20, .inl (fun _ => 0))), (q43, .inr (2, [.int 2, .int 0, .int 0, .int 0, .int 0, .int 0, .int 0, .int 0, .ref z, .ref (u46 1), .ref (u46 2)])), ((u46 1), .inl (cI, 26, .inl (fun _ => 0))), ((u46 2), .inl (cI, 20, .inl (fun _ => 0))), (q50, .inr (2, [.int 3, .int 0, .int 0, .int 0, .int 0, .int 0, .int 0, .int 0, .ref z, .ref (u53 1), .ref (u53 2)])), ((u53 1), .inl (cI, 26, .inl (fun _ => 0))), ((u53 2), .inl (cI, 20, .inl (fun _ => 0))), (q57, .inr (2, [.int 4, .int 0, .int 0, .int 0, .int 0, .int 0, .int 0, .int 0, .ref z, .ref (u60 1), .ref (u60 2)])), ((u60 1), .inl (cI, 26, .inl (fun _ => 0))), ((u60 2), .inl (cI, 20, .inl (fun _ => 0))), (q64, .inr (2, [.int 5, .int 0, .int 0, .int 0, .int 0, .int 0, .int 0, .int 0, .ref z, .ref (u67 1), .ref (u67 2)])), ((u67 1), .inl (cI, 26, .inl (fun _ => 0))), ((u67 2), .inl (cI, 20, .inl (fun _ => 0)))] := hD
  refine lv_iinc (v := 6) (lv' := [(1, .int 6), (0, .ref h)]) hx hb dX6_init_90 hl (k := 0) rfl (by decide) (by decide) rfl (fun ls hl => ?_)
  refine lv_goto (tgt := 70) hx hb dX6_init_93 (by decide) ?_
  refine lv_iload_n hx hb dX6_init_70 rfl (lv_at hl 0 rfl) ?_
  refine lv_bipush (v := 6) hx hb dX6_init_71 (by decide) ?_
  refine lv_icmp_ge (tgt := 96) hx hb dX6_init_73 (by decide) (fun _ => ?_) (fun c9 => absurd (by decide) c9)
  have hP9 := hP.sub (ws' := [(h, .inr (6, [.int 0, .int 0, .int 0, .ref q1, .ref q7, .ref q13, .ref q16, .ref q19, .ref q22])), (q1, .inr (4, [.ref (u4 2), .ref (u4 3), .ref (u4 4), .ref (u4 5), .ref (u4 6), .ref (u4 7), .int 0, .int (-1)])), ((u4 2), .inl (cI, 22, .inl (fun _ => (-1)))), ((u4 3), .inl (cI, 22, .inl (fun _ => (-1)))), ((u4 4), .inl (cI, 22, .inl (fun _ => 0))), ((u4 5), .inl (cI, 64, .inl (fun _ => 0))), ((u4 6), .inl (cI, 64, .inl (fun _ => 0))), ((u4 7), .inl (cI, 64, .inl (fun _ => 0))), (q7, .inr (0, [.int 0, .ref (u10 9)])), ((u10 9), .inl (cI, 3600, .inl (fun _ => 0))), (q13, .inl (cZ, 400, .inl (fun _ => 0))), (q16, .inl (cI, 16, .inl (fun _ => (-1)))), (q19, .inl (cI, 20, .inl (fun _ => 0))), (q22, .inl (cP, 6, .inr (.inr (.inr (.inr (va_up (va_up (va_up (va_up (va_up (va_up (fun _ => none) 0 (some q29)) 1 (some q36)) 2 (some q43)) 3 (some q50)) 4 (some q57)) 5 (some q64))))))), (q29, .inr (2, [.int 0, .int 0, .int 0, .int 0, .int 0, .int 0, .int 0, .int 0, .ref z, .ref (u32 1), .ref (u32 2)])), ((u32 1), .inl (cI, 26, .inl (fun _ => 0))), ((u32 2), .inl (cI, 20, .inl (fun _ => 0))), (q36, .inr (2, [.int 1, .int 0, .int 0, .int 0, .int 0, .int 0, .int 0, .int 0, .ref z, .ref (u39 1), .ref (u39 2)])), ((u39 1), .inl (cI, 26, .inl (fun _ => 0))), ((u39 2), .inl (cI, 20, .inl (fun _ => 0))), (q43, .inr (2, [.int 2, .int 0, .int 0, .int 0, .int 0, .int 0, .int 0, .int 0, .ref z, .ref (u46 1), .ref (u46 2)])), ((u46 1), .inl (cI, 26, .inl (fun _ => 0))), ((u46 2), .inl (cI, 20, .inl (fun _ => 0))), (q50, .inr (2, [.int 3, .int 0, .int 0, .int 0, .int 0, .int 0, .int 0, .int 0, .ref z, .ref (u53 1), .ref (u53 2)])), ((u53 1), .inl (cI, 26, .inl (fun _ => 0))), ((u53 2), .inl (cI, 20, .inl (fun _ => 0))), (q57, .inr (2, [.int 4, .int 0, .int 0, .int 0, .int 0, .int 0, .int 0, .int 0, .ref z, .ref (u60 1), .ref (u60 2)])), ((u60 1), .inl (cI, 26, .inl (fun _ => 0))), ((u60 2), .inl (cI, 20, .inl (fun _ => 0))), (q64, .inr (2, [.int 5, .int 0, .int 0, .int 0, .int 0, .int 0, .int 0, .int 0, .ref z, .ref (u67 1), .ref (u67 2)])), ((u67 1), .inl (cI, 26, .inl (fun _ => 0))), ((u67 2), .inl (cI, 20, .inl (fun _ => 0)))]) [0, 1, 2, 3, 4, 5, 6, 7, 8, 9, 10, 13, 11, 12, 14, 15, 16, 17, 18, 19, 20, 21, 22, 23, 24, 25, 26, 27, 28, 29, 30, 31] rfl
  have hD9 := hD.sub (ws' := [(h, .inr (6, [.int 0, .int 0, .int 0, .ref q1, .ref q7, .ref q13, .ref q16, .ref q19, .ref q22])), (q1, .inr (4, [.ref (u4 2), .ref (u4 3), .ref (u4 4), .ref (u4 5), .ref (u4 6), .ref (u4 7), .int 0, .int (-1)])), ((u4 2), .inl (cI, 22, .inl (fun _ => (-1)))), ((u4 3), .inl (cI, 22, .inl (fun _ => (-1)))), ((u4 4), .inl (cI, 22, .inl (fun _ => 0))), ((u4 5), .inl (cI, 64, .inl (fun _ => 0))), ((u4 6), .inl (cI, 64, .inl (fun _ => 0))), ((u4 7), .inl (cI, 64, .inl (fun _ => 0))), (q7, .inr (0, [.int 0, .ref (u10 9)])), ((u10 9), .inl (cI, 3600, .inl (fun _ => 0))), (q13, .inl (cZ, 400, .inl (fun _ => 0))), (q16, .inl (cI, 16, .inl (fun _ => (-1)))), (q19, .inl (cI, 20, .inl (fun _ => 0))), (q22, .inl (cP, 6, .inr (.inr (.inr (.inr (va_up (va_up (va_up (va_up (va_up (va_up (fun _ => none) 0 (some q29)) 1 (some q36)) 2 (some q43)) 3 (some q50)) 4 (some q57)) 5 (some q64))))))), (q29, .inr (2, [.int 0, .int 0, .int 0, .int 0, .int 0, .int 0, .int 0, .int 0, .ref z, .ref (u32 1), .ref (u32 2)])), ((u32 1), .inl (cI, 26, .inl (fun _ => 0))), ((u32 2), .inl (cI, 20, .inl (fun _ => 0))), (q36, .inr (2, [.int 1, .int 0, .int 0, .int 0, .int 0, .int 0, .int 0, .int 0, .ref z, .ref (u39 1), .ref (u39 2)])), ((u39 1), .inl (cI, 26, .inl (fun _ => 0))), ((u39 2), .inl (cI, 20, .inl (fun _ => 0))), (q43, .inr (2, [.int 2, .int 0, .int 0, .int 0, .int 0, .int 0, .int 0, .int 0, .ref z, .ref (u46 1), .ref (u46 2)])), ((u46 1), .inl (cI, 26, .inl (fun _ => 0))), ((u46 2), .inl (cI, 20, .inl (fun _ => 0))), (q50, .inr (2, [.int 3, .int 0, .int 0, .int 0, .int 0, .int 0, .int 0, .int 0, .ref z, .ref (u53 1), .ref (u53 2)])), ((u53 1), .inl (cI, 26, .inl (fun _ => 0))), ((u53 2), .inl (cI, 20, .inl (fun _ => 0))), (q57, .inr (2, [.int 4, .int 0, .int 0, .int 0, .int 0, .int 0, .int 0, .int 0, .ref z, .ref (u60 1), .ref (u60 2)])), ((u60 1), .inl (cI, 26, .inl (fun _ => 0))), ((u60 2), .inl (cI, 20, .inl (fun _ => 0))), (q64, .inr (2, [.int 5, .int 0, .int 0, .int 0, .int 0, .int 0, .int 0, .int 0, .ref z, .ref (u67 1), .ref (u67 2)])), ((u67 1), .inl (cI, 26, .inl (fun _ => 0))), ((u67 2), .inl (cI, 20, .inl (fun _ => 0)))]) [0, 1, 2, 3, 4, 5, 6, 7, 8, 9, 10, 13, 11, 12, 14, 15, 16, 17, 18, 19, 20, 21, 22, 23, 24, 25, 26, 27, 28, 29, 30, 31] (by decide) rfl
  refine W.widen (k := 31) (n := 4652) (by decide) (by decide) ?_
  exact W.vret hx hb hr (fun t ht hW => ⟨⟨(fun k => [h, q1, (u4 2), (u4 3), (u4 4), (u4 5), (u4 6), (u4 7), q7, (u10 9), q13, q16, q19, q22, q29, (u32 1), (u32 2), q36, (u39 1), (u39 2), q43, (u46 1), (u46 2), q50, (u53 1), (u53 2), q57, (u60 1), (u60 2), q64, (u67 1), (u67 2)].getD k 0), rfl, trivial, by rw [ht]; exact hP9, hD9⟩, hS.F ht⟩) hS.2.2 dX6_init_96

def vs_dm_init : List Cond := [.code yX7_init cX7_init 1 none, .methodLink RX7 3 objectInit, .instanceMethod objectInit, .code objectInit ⟨#[0xb1]⟩ 1 none, .arrayClass .int, .fieldLink RX7 9 "DepotMarch" "tape" "[I", .classLink RX7 13 RX3, .instantiable RX3 8, .initialized RX3, .code yX3_init cX3_init 1 none, .methodLink RX3 3 objectInit, .fieldLink RX3 9 "DepotMarch$Reader" "fault" "I", .fieldLink RX3 15 "DepotMarch$Reader" "faultPlace" "I", .classLink RX3 18 RX5, .instantiable RX5 4, .initialized RX5, .code yX5_init cX5_init 1 none, .methodLink RX5 3 objectInit, .fieldLink RX5 9 "DepotMarch$Tokens" "kinds" "[I", .fieldLink RX5 15 "DepotMarch$Tokens" "values" "[I", .fieldLink RX5 18 "DepotMarch$Tokens" "places" "[I", .instanceMethod yX5_init, .fieldLink RX3 21 "DepotMarch$Reader" "tokens" "LDepotMarch$Tokens;", .fieldLink RX3 25 "DepotMarch$Reader" "steps" "[I", .instanceMethod yX3_init, .fieldLink RX7 16 "DepotMarch" "reader" "LDepotMarch$Reader;", .classLink RX7 20 RX1, .instantiable RX1 3, .initialized RX1, .code yX1_init cX1_init 1 none, .methodLink RX1 3 objectInit, .fieldLink RX1 9 "DepotMarch$Guide" "stack" "[I", .instanceMethod yX1_init, .fieldLink RX7 23 "DepotMarch" "guide" "LDepotMarch$Guide;", .classLink RX7 27 RX6, .instantiable RX6 9, .initialized RX6, .code yX6_init cX6_init 2 none, .methodLink RX6 3 objectInit, .classLink RX6 9 RX4, .instantiable RX4 8, .initialized RX4, .code yX4_init cX4_init 1 none, .methodLink RX4 3 objectInit, .fieldLink RX4 9 "DepotMarch$Rows" "first" "[I", .fieldLink RX4 15 "DepotMarch$Rows" "last" "[I", .fieldLink RX4 18 "DepotMarch$Rows" "amounts" "[I", .fieldLink RX4 21 "DepotMarch$Rows" "lotOf" "[I", .fieldLink RX4 24 "DepotMarch$Rows" "rations" "[I", .fieldLink RX4 27 "DepotMarch$Rows" "next" "[I", .fieldLink RX4 30 "DepotMarch$Rows" "free" "I", .code yJ7_fill_53178 cJ7_fill_53178 4 none, .methodLink RX4 34 yJ7_fill_53178, .static yJ7_fill_53178, .initialized RJ7, .methodLink RX6 11 yX4_init, .instanceMethod yX4_init, .fieldLink RX6 12 "DepotMarch$World" "rows" "LDepotMarch$Rows;", .classLink RX6 18 RX0, .instantiable RX0 2, .initialized RX0, .code yX0_init cX0_init 1 none, .methodLink RX0 3 objectInit, .fieldLink RX0 9 "DepotMarch$Book" "numbers" "[I", .instanceMethod yX0_init, .fieldLink RX6 21 "DepotMarch$World" "book" "LDepotMarch$Book;", .arrayClass .boolean, .fieldLink RX6 25 "DepotMarch$World" "storms" "[Z", .fieldLink RX6 29 "DepotMarch$World" "letters" "[I", .fieldLink RX6 33 "DepotMarch$World" "lotRations" "[I", .classLink RX6 36 RX2, .fieldLink RX6 38 "DepotMarch$World" "party" "[LDepotMarch$Party;", .methodLink RX6 42 yJ7_fill_53178, .instantiable RX2 11, .initialized RX2, .code yX2_init cX2_init 2 none, .methodLink RX2 3 objectInit, .fieldLink RX2 13 "DepotMarch$Party" "steps" "[I", .fieldLink RX2 18 "DepotMarch$Party" "names" "[I", .fieldLink RX2 21 "DepotMarch$Party" "eaten" "[I", .fieldLink RX2 24 "DepotMarch$Party" "number" "I", .methodLink RX6 48 yX2_init, .instanceMethod yX2_init, .methodLink RX7 29 yX6_init, .instanceMethod yX6_init, .fieldLink RX7 30 "DepotMarch" "world" "LDepotMarch$World;", .fieldLink RX7 34 "DepotMarch" "images" "[LDepotMarch$World;"] ++ (wsX70 ++ (wsX30 ++ (wsX50 ++ (wsX10 ++ (wsX60 ++ (wsX40 ++ (wsX00 ++ (wsX20))))))))
theorem in_dm_init_X7 : ∀ w ∈ u_ws RX7 TX7 7, w ∈ vs_dm_init := fun w h => List.mem_append_right _ (List.mem_append_left _ h)
theorem in_dm_init_X3 : ∀ w ∈ u_ws RX3 TX3 8, w ∈ vs_dm_init := fun w h => List.mem_append_right _ (List.mem_append_right _ (List.mem_append_left _ h))
theorem in_dm_init_X5 : ∀ w ∈ u_ws RX5 TX5 4, w ∈ vs_dm_init := fun w h => List.mem_append_right _ (List.mem_append_right _ (List.mem_append_right _ (List.mem_append_left _ h)))
theorem in_dm_init_X1 : ∀ w ∈ u_ws RX1 TX1 3, w ∈ vs_dm_init := fun w h => List.mem_append_right _ (List.mem_append_right _ (List.mem_append_right _ (List.mem_append_right _ (List.mem_append_left _ h))))
theorem in_dm_init_X6 : ∀ w ∈ u_ws RX6 TX6 9, w ∈ vs_dm_init := fun w h => List.mem_append_right _ (List.mem_append_right _ (List.mem_append_right _ (List.mem_append_right _ (List.mem_append_right _ (List.mem_append_left _ h)))))
theorem in_dm_init_X4 : ∀ w ∈ u_ws RX4 TX4 8, w ∈ vs_dm_init := fun w h => List.mem_append_right _ (List.mem_append_right _ (List.mem_append_right _ (List.mem_append_right _ (List.mem_append_right _ (List.mem_append_right _ (List.mem_append_left _ h))))))
theorem in_dm_init_X0 : ∀ w ∈ u_ws RX0 TX0 2, w ∈ vs_dm_init := fun w h => List.mem_append_right _ (List.mem_append_right _ (List.mem_append_right _ (List.mem_append_right _ (List.mem_append_right _ (List.mem_append_right _ (List.mem_append_right _ (List.mem_append_left _ h)))))))
theorem in_dm_init_X2 : ∀ w ∈ u_ws RX2 TX2 11, w ∈ vs_dm_init := fun w h => List.mem_append_right _ (List.mem_append_right _ (List.mem_append_right _ (List.mem_append_right _ (List.mem_append_right _ (List.mem_append_right _ (List.mem_append_right _ (List.mem_append_right _ (h))))))))
set_option maxRecDepth 20000 in
theorem gg_dm_init_rd_init : GoodIn vs_dm_init vs_rd_init := goodIn_r _ [9, 10, 2, 3, 11, 12, 13, 14, 15, 16, 17, 4, 18, 19, 20, 21, 22, 23, 94, 95, 96, 97, 98, 99, 100, 101, 102, 103, 104, 105] (by decide +kernel) (by decide +kernel)
set_option maxRecDepth 20000 in
theorem gg_dm_init_g_init : GoodIn vs_dm_init vs_g_init := goodIn_r _ [29, 30, 2, 3, 4, 31, 106, 107, 108] (by decide +kernel) (by decide +kernel)
set_option maxRecDepth 20000 in
theorem gg_dm_init_w_init : GoodIn vs_dm_init vs_w_init := goodIn_r _ [37, 38, 2, 3, 39, 40, 41, 42, 43, 4, 44, 45, 46, 47, 48, 49, 50, 51, 52, 53, 54, 55, 56, 57, 58, 59, 60, 61, 62, 63, 64, 65, 66, 67, 68, 69, 70, 71, 72, 73, 74, 75, 76, 77, 78, 79, 80, 81, 82, 118, 119, 120, 121, 122, 123, 124, 125, 109, 110, 111, 112, 113, 114, 115, 116, 117, 126, 127, 128, 129, 130, 131, 132, 133, 134, 135, 136, 137, 138] (by decide +kernel) (by decide +kernel)
set_option maxHeartbeats 4000000 in
set_option maxRecDepth 100000 in
theorem c_dm_init (l : Launch) (dC : Nat → ClassId) (dI : Nat → Nat → Nat) (cI cZ cB cJ cP cW : ClassId) (h : Nat) (z : Nat) (sz : Nat) : Met l yX7_init vs_dm_init ({ frames := 5, cells := 42, slots := 7711, locals := 300 }) (va_Pc [.ref h] (fun U => U.heap.size = sz ∧ EV dC dI cI cZ cB cJ cP cW U ∧ va_P (dC, dI) vwCl [(h, .inr (7, [.null, .int 0, .null, .null, .null, .null, .null]))] U.heap ∧ va_D (fun _ => True) [(h, .inr (7, [.null, .int 0, .null, .null, .null, .null, .null]))] ∧ va_Z "DepotMarch" "NO_ORDERS" "[I" (.ref z) (va_A [(h, .inr (7, [.null, .int 0, .null, .null, .null, .null, .null]))] sz) U U.heap)) (va_Qv (fun (u : Nat → Nat) => True) (fun u t => va_P (dC, dI) vwCl [(h, .inr (7, [.ref (u 33), .int 0, .ref (u 34), .ref (u 40), .ref (u 0), .ref (u 42), .null])), ((u 33), .inl (cI, 500, .inl (fun _ => 0))), ((u 34), .inr (3, [.int 0, .int (-1), .int 0, .ref (u 35), .int 0, .int 0, .ref (u 39), .int 0])), ((u 35), .inr (5, [.ref (u 36), .ref (u 37), .ref (u 38), .int 0])), ((u 36), .inl (cI, 501, .inl (fun _ => 0))), ((u 37), .inl (cI, 501, .inl (fun _ => 0))), ((u 38), .inl (cI, 501, .inl (fun _ => 0))), ((u 39), .inl (cI, 1002, .inl (fun _ => 0))), ((u 40), .inr (1, [.ref (u 41), .int 0, .int 0])), ((u 41), .inl (cI, 27, .inl (fun _ => 0))), ((u 0), .inr (6, [.int 0, .int 0, .int 0, .ref (u 1), .ref (u 8), .ref (u 10), .ref (u 11), .ref (u 12), .ref (u 13)])), ((u 1), .inr (4, [.ref (u 2), .ref (u 3), .ref (u 4), .ref (u 5), .ref (u 6), .ref (u 7), .int 0, .int (-1)])), ((u 2), .inl (cI, 22, .inl (fun _ => (-1)))), ((u 3), .inl (cI, 22, .inl (fun _ => (-1)))), ((u 4), .inl (cI, 22, .inl (fun _ => 0))), ((u 5), .inl (cI, 64, .inl (fun _ => 0))), ((u 6), .inl (cI, 64, .inl (fun _ => 0))), ((u 7), .inl (cI, 64, .inl (fun _ => 0))), ((u 8), .inr (0, [.int 0, .ref (u 9)])), ((u 9), .inl (cI, 3600, .inl (fun _ => 0))), ((u 10), .inl (cZ, 400, .inl (fun _ => 0))), ((u 11), .inl (cI, 16, .inl (fun _ => (-1)))), ((u 12), .inl (cI, 20, .inl (fun _ => 0))), ((u 13), .inl (cP, 6, .inr (.inr (.inr (.inr (va_up (va_up (va_up (va_up (va_up (va_up (fun _ => none) 0 (some (u 14))) 1 (some (u 17))) 2 (some (u 20))) 3 (some (u 23))) 4 (some (u 26))) 5 (some (u 29)))))))), ((u 14), .inr (2, [.int 0, .int 0, .int 0, .int 0, .int 0, .int 0, .int 0, .int 0, .ref z, .ref (u 15), .ref (u 16)])), ((u 15), .inl (cI, 26, .inl (fun _ => 0))), ((u 16), .inl (cI, 20, .inl (fun _ => 0))), ((u 17), .inr (2, [.int 1, .int 0, .int 0, .int 0, .int 0, .int 0, .int 0, .int 0, .ref z, .ref (u 18), .ref (u 19)])), ((u 18), .inl (cI, 26, .inl (fun _ => 0))), ((u 19), .inl (cI, 20, .inl (fun _ => 0))), ((u 20), .inr (2, [.int 2, .int 0, .int 0, .int 0, .int 0, .int 0, .int 0, .int 0, .ref z, .ref (u 21), .ref (u 22)])), ((u 21), .inl (cI, 26, .inl (fun _ => 0))), ((u 22), .inl (cI, 20, .inl (fun _ => 0))), ((u 23), .inr (2, [.int 3, .int 0, .int 0, .int 0, .int 0, .int 0, .int 0, .int 0, .ref z, .ref (u 24), .ref (u 25)])), ((u 24), .inl (cI, 26, .inl (fun _ => 0))), ((u 25), .inl (cI, 20, .inl (fun _ => 0))), ((u 26), .inr (2, [.int 4, .int 0, .int 0, .int 0, .int 0, .int 0, .int 0, .int 0, .ref z, .ref (u 27), .ref (u 28)])), ((u 27), .inl (cI, 26, .inl (fun _ => 0))), ((u 28), .inl (cI, 20, .inl (fun _ => 0))), ((u 29), .inr (2, [.int 5, .int 0, .int 0, .int 0, .int 0, .int 0, .int 0, .int 0, .ref z, .ref (u 30), .ref (u 31)])), ((u 30), .inl (cI, 26, .inl (fun _ => 0))), ((u 31), .inl (cI, 20, .inl (fun _ => 0))), ((u 42), .inl (cW, 3, .inr (.inr (.inr (.inr (fun _ => none))))))] t.heap ∧ va_D (va_A [(h, .inr (7, [.null, .int 0, .null, .null, .null, .null, .null]))] sz) [(h, .inr (7, [.ref (u 33), .int 0, .ref (u 34), .ref (u 40), .ref (u 0), .ref (u 42), .null])), ((u 33), .inl (cI, 500, .inl (fun _ => 0))), ((u 34), .inr (3, [.int 0, .int (-1), .int 0, .ref (u 35), .int 0, .int 0, .ref (u 39), .int 0])), ((u 35), .inr (5, [.ref (u 36), .ref (u 37), .ref (u 38), .int 0])), ((u 36), .inl (cI, 501, .inl (fun _ => 0))), ((u 37), .inl (cI, 501, .inl (fun _ => 0))), ((u 38), .inl (cI, 501, .inl (fun _ => 0))), ((u 39), .inl (cI, 1002, .inl (fun _ => 0))), ((u 40), .inr (1, [.ref (u 41), .int 0, .int 0])), ((u 41), .inl (cI, 27, .inl (fun _ => 0))), ((u 0), .inr (6, [.int 0, .int 0, .int 0, .ref (u 1), .ref (u 8), .ref (u 10), .ref (u 11), .ref (u 12), .ref (u 13)])), ((u 1), .inr (4, [.ref (u 2), .ref (u 3), .ref (u 4), .ref (u 5), .ref (u 6), .ref (u 7), .int 0, .int (-1)])), ((u 2), .inl (cI, 22, .inl (fun _ => (-1)))), ((u 3), .inl (cI, 22, .inl (fun _ => (-1)))), ((u 4), .inl (cI, 22, .inl (fun _ => 0))), ((u 5), .inl (cI, 64, .inl (fun _ => 0))), ((u 6), .inl (cI, 64, .inl (fun _ => 0))), ((u 7), .inl (cI, 64, .inl (fun _ => 0))), ((u 8), .inr (0, [.int 0, .ref (u 9)])), ((u 9), .inl (cI, 3600, .inl (fun _ => 0))), ((u 10), .inl (cZ, 400, .inl (fun _ => 0))), ((u 11), .inl (cI, 16, .inl (fun _ => (-1)))), ((u 12), .inl (cI, 20, .inl (fun _ => 0))), ((u 13), .inl (cP, 6, .inr (.inr (.inr (.inr (va_up (va_up (va_up (va_up (va_up (va_up (fun _ => none) 0 (some (u 14))) 1 (some (u 17))) 2 (some (u 20))) 3 (some (u 23))) 4 (some (u 26))) 5 (some (u 29)))))))), ((u 14), .inr (2, [.int 0, .int 0, .int 0, .int 0, .int 0, .int 0, .int 0, .int 0, .ref z, .ref (u 15), .ref (u 16)])), ((u 15), .inl (cI, 26, .inl (fun _ => 0))), ((u 16), .inl (cI, 20, .inl (fun _ => 0))), ((u 17), .inr (2, [.int 1, .int 0, .int 0, .int 0, .int 0, .int 0, .int 0, .int 0, .ref z, .ref (u 18), .ref (u 19)])), ((u 18), .inl (cI, 26, .inl (fun _ => 0))), ((u 19), .inl (cI, 20, .inl (fun _ => 0))), ((u 20), .inr (2, [.int 2, .int 0, .int 0, .int 0, .int 0, .int 0, .int 0, .int 0, .ref z, .ref (u 21), .ref (u 22)])), ((u 21), .inl (cI, 26, .inl (fun _ => 0))), ((u 22), .inl (cI, 20, .inl (fun _ => 0))), ((u 23), .inr (2, [.int 3, .int 0, .int 0, .int 0, .int 0, .int 0, .int 0, .int 0, .ref z, .ref (u 24), .ref (u 25)])), ((u 24), .inl (cI, 26, .inl (fun _ => 0))), ((u 25), .inl (cI, 20, .inl (fun _ => 0))), ((u 26), .inr (2, [.int 4, .int 0, .int 0, .int 0, .int 0, .int 0, .int 0, .int 0, .ref z, .ref (u 27), .ref (u 28)])), ((u 27), .inl (cI, 26, .inl (fun _ => 0))), ((u 28), .inl (cI, 20, .inl (fun _ => 0))), ((u 29), .inr (2, [.int 5, .int 0, .int 0, .int 0, .int 0, .int 0, .int 0, .int 0, .ref z, .ref (u 30), .ref (u 31)])), ((u 30), .inl (cI, 26, .inl (fun _ => 0))), ((u 31), .inl (cI, 20, .inl (fun _ => 0))), ((u 42), .inl (cW, 3, .inr (.inr (.inr (.inr (fun _ => none))))))]) (va_A [(h, .inr (7, [.null, .int 0, .null, .null, .null, .null, .null]))] sz)) 42 7711 (va_A [(h, .inr (7, [.null, .int 0, .null, .null, .null, .null, .null]))] sz) := by
  refine Met.ofW (cc := cX7_init) (maxL := 1) (ret := none) (by decide) rfl ?_
  intro p e s m args below meth c s₁ B hml hv
  obtain ⟨rfl, hsz, hE, hP, hD0, hX⟩ := hv
  have hx := B.exec
  have hb := B.bytes
  have hr := B.returns
  have hts := atoms_spec (ws := vs_dm_init) B.pre
  have hown : s.vm.findClass RX7 = some m.cls := findClass_of_methodNamed B.named
  have hlocks := B.notSynchronized
  have hK := hE.2
  have hin : meth.name = "<init>" := (name_of_methodNamed B.named B.method).1
  subst hsz
  have hD := hD0.self (sz := s.heap.size)
  generalize hAe : va_A [(h, .inr (7, [.null, .int 0, .null, .null, .null, .null, .null]))] s.heap.size = A at hX hD ⊢
  have hA : ∀ q : Nat, s.heap.size ≤ q → A q := fun q h => by rw [← hAe]; exact Or.inr h
  have hS : va_S A s.heap s.heap [] := va_S.rf
  have hl := lv_entry ([.ref h]) (n := 1) (Nat.le_of_ble_eq_true rfl)
  rw [lg_entry_eq]
  generalize (lg_sl ([.ref h]) ++ List.replicate (1 - (lg_sl ([.ref h])).length) Slot.unset).toArray = ls at hl ⊢
  have hl : lv_has ls 1 [(0, .ref h)] := hl
  refine lv_aload_n hx hb dX7_init_0 rfl (lv_at hl 0 rfl) ?_
  refine W.objInit hx hb hown (hts (.methodLink RX7 3 objectInit) (by decide +kernel)) (hts (.instanceMethod objectInit) (by decide +kernel)) (hts (.code objectInit ⟨#[0xb1]⟩ 1 none) (by decide +kernel)) rfl (by rw [hml]; exact hl.1) rfl dX7_init_1 (Nat.le_of_ble_eq_true rfl) (Nat.le_of_ble_eq_true rfl) ?_
  refine W.eq (g2 := F0 m 4 ls []) rfl ?_
  refine lv_aload_n hx hb dX7_init_4 rfl (lv_at hl 0 rfl) ?_
  refine lv_sipush (v := 500) hx hb dX7_init_5 (by decide) ?_
  refine n_newa (atype := .int) (ty := .int) (cI := cI) (a0 := (500, .inl (fun _ => 0))) hx hb (hts (.arrayClass .int) (by decide +kernel)) rfl ra_int hK hP hD hS hA 0 rfl (fun _ => rfl) (by decide) rfl (Nat.le_of_ble_eq_true rfl) (Nat.le_of_ble_eq_true rfl) (Nat.le_of_ble_eq_true rfl) dX7_init_8 (fun q1 H2 hP hD hS => ?_)
  have hP : va_P (dC, dI) vwCl [(h, .inr (7, [.null, .int 0, .null, .null, .null, .null, .null])), (q1, .inl (cI, 500, .inl (fun _ => 0)))] H2 := hP
  have hD : va_D A [(h, .inr (7, [.null, .int 0, .null, .null, .null, .null, .null])), (q1, .inl (cI, 500, .inl (fun _ => 0)))] := hD
  refine W.widen (k := 1) (n := 500) (by decide) (by decide) ?_
  refine va_putF (D := (dC, dI)) (ci := 7) (v := .ref q1) (ty := .array .int) (C := RX7) (T := TX7) (N := 7) hx hb hts in_dm_init_X7 tyX7 tyX7_ok nmX7 hown hK hP hD hS 0 rfl rfl 0 (by decide) (hts (.fieldLink RX7 9 "DepotMarch" "tape" "[I") (by decide +kernel)) (fun _ h9 => h9) rfl hin rfl (by decide +kernel) rfl rfl (Nat.le_of_ble_eq_true rfl) dX7_init_10 (fun H3 locs hP hD hS => ?_)
  have hP : va_P (dC, dI) vwCl [(h, .inr (7, [.ref q1, .int 0, .null, .null, .null, .null, .null])), (q1, .inl (cI, 500, .inl (fun _ => 0)))] H3 := hP
  have hD : va_D A [(h, .inr (7, [.ref q1, .int 0, .null, .null, .null, .null, .null])), (q1, .inl (cI, 500, .inl (fun _ => 0)))] := hD
  refine lv_aload_n hx hb dX7_init_13 rfl (lv_at hl 0 rfl) ?_
  refine va_new (ci := 3) (fs := [.int 0, .int 0, .int 0, .null, .int 0, .int 0, .null, .int 0]) (C := RX3) (T := TX3) (N := 8) hx hb hts in_dm_init_X3 tyX3 tyX3_ok hown (hts (.classLink RX7 13 RX3) (by decide +kernel)) (hts (.instantiable RX3 8) (by decide +kernel)) (hts (.initialized RX3) (by decide +kernel)) hK hP hD hS hA rfl df_X3 (Nat.le_of_ble_eq_true rfl) (Nat.le_of_ble_eq_true rfl) dX7_init_14 (fun q4 H5 hP hD hS => ?_)
  have hP : va_P (dC, dI) vwCl [(h, .inr (7, [.ref q1, .int 0, .null, .null, .null, .null, .null])), (q1, .inl (cI, 500, .inl (fun _ => 0))), (q4, .inr (3, [.int 0, .int 0, .int 0, .null, .int 0, .int 0, .null, .int 0]))] H5 := hP
  have hD : va_D A [(h, .inr (7, [.ref q1, .int 0, .null, .null, .null, .null, .null])), (q1, .inl (cI, 500, .inl (fun _ => 0))), (q4, .inr (3, [.int 0, .int 0, .int 0, .null, .int 0, .int 0, .null, .int 0]))] := hD
  refine W.widen (k := 2) (n := 508) (by decide) (by decide) ?_
  refine lv_dup hx hb dX7_init_17 rfl ?_
  have hPc := hP.sub (ws' := [(q4, .inr (3, [.int 0, .int 0, .int 0, .null, .int 0, .int 0, .null, .int 0]))]) [2] rfl
  have hDc := hD.sub (ws' := [(q4, .inr (3, [.int 0, .int 0, .int 0, .null, .int 0, .int 0, .null, .int 0]))]) [2] (by decide) rfl
  have hFc := va_free (wc := [(q4, .inr (3, [.int 0, .int 0, .int 0, .null, .int 0, .int 0, .null, .int 0]))]) hD hS hA [2] rfl
  refine va_callv (va_runIN (As := []) (rest := [.ref q4, .ref h]) ⟨hx, hb, hml, hown, hts⟩ (c_rd_init l dC dI cI cZ cB cJ cP cW q4 H5.size) ⟨(va_cnB 0 hts gg_dm_init_rd_init rfl rfl rfl hE.1.n_DepotMarch_15 (hts (.initialized RX3) (by decide +kernel)) (by decide +kernel) ⟨Nat.le_of_ble_eq_true rfl, Nat.le_of_ble_eq_true rfl⟩), rfl, (hts (.instanceMethod yX3_init) (by decide +kernel))⟩ ⟨fbM, fun U hU hW => ⟨rfl, by rw [hU], hE.warm hW, by rw [hU]; exact hPc, hDc.weaken (fun _ _ _ _ => trivial)⟩⟩ rfl rfl hl.1 rfl (lv_room (Nat.le_of_ble_eq_true rfl)) dX7_init_18 ⟨Nat.le_of_ble_eq_true rfl, Nat.le_of_ble_eq_true rfl⟩) hS (fun q _ h => hFc q h) hFc (fun u7 t H8 locs ht hvm hr6 hB hz1 hk1 hS => ?_)
  obtain ⟨hP1, hD1⟩ := hB
  rw [ht] at hP1
  obtain ⟨hP, hD⟩ := va_join (wr := [(h, .inr (7, [.ref q1, .int 0, .null, .null, .null, .null, .null])), (q1, .inl (cI, 500, .inl (fun _ => 0)))]) (w1 := [(q4, .inr (3, [.int 0, .int (-1), .int 0, .ref (u7 35), .int 0, .int 0, .ref (u7 39), .int 0])), ((u7 35), .inr (5, [.ref (u7 36), .ref (u7 37), .ref (u7 38), .int 0])), ((u7 36), .inl (cI, 501, .inl (fun _ => 0))), ((u7 37), .inl (cI, 501, .inl (fun _ => 0))), ((u7 38), .inl (cI, 501, .inl (fun _ => 0))), ((u7 39), .inl (cI, 1002, .inl (fun _ => 0)))]) hP hD [2] [0, 1] rfl rfl (by decide) (by decide) hk1 hFc hP1 hD1
  have hP : va_P (dC, dI) vwCl [(h, .inr (7, [.ref q1, .int 0, .null, .null, .null, .null, .null])), (q1, .inl (cI, 500, .inl (fun _ => 0))), (q4, .inr (3, [.int 0, .int (-1), .int 0, .ref (u7 35), .int 0, .int 0, .ref (u7 39), .int 0])), ((u7 35), .inr (5, [.ref (u7 36), .ref (u7 37), .ref (u7 38), .int 0])), ((u7 36), .inl (cI, 501, .inl (fun _ => 0))), ((u7 37), .inl (cI, 501, .inl (fun _ => 0))), ((u7 38), .inl (cI, 501, .inl (fun _ => 0))), ((u7 39), .inl (cI, 1002, .inl (fun _ => 0)))] H8 := hP
  have hD : va_D A [(h, .inr (7, [.ref q1, .int 0, .null, .null, .null, .null, .null])), (q1, .inl (cI, 500, .inl (fun _ => 0))), (q4, .inr (3, [.int 0, .int (-1), .int 0, .ref (u7 35), .int 0, .int 0, .ref (u7 39), .int 0])), ((u7 35), .inr (5, [.ref (u7 36), .ref (u7 37), .ref (u7 38), .int 0])), ((u7 36), .inl (cI, 501, .inl (fun _ => 0))), ((u7 37), .inl (cI, 501, .inl (fun _ => 0))), ((u7 38), .inl (cI, 501, .inl (fun _ => 0))), ((u7 39), .inl (cI, 1002, .inl (fun _ => 0)))] := hD
  refine W.widen (k := 7) (n := 3017) (by decide) (by decide) ?_
  refine va_putF (D := (dC, dI)) (ci := 7) (v := .ref q4) (ty := .object "DepotMarch$Reader") (C := RX7) (T := TX7) (N := 7) hx hb hts in_dm_init_X7 tyX7 tyX7_ok nmX7 hown hK hP hD hS 0 rfl rfl 2 (by decide) (hts (.fieldLink RX7 16 "DepotMarch" "reader" "LDepotMarch$Reader;") (by decide +kernel)) (fun _ h9 => h9) rfl hin rfl (by decide +kernel) rfl rfl (Nat.le_of_ble_eq_true rfl) dX7_init_21 (fun H9 locs hP hD hS => ?_)
  have hP : va_P (dC, dI) vwCl [(h, .inr (7, [.ref q1, .int 0, .ref q4, .null, .null, .null, .null])), (q1, .inl (cI, 500, .inl (fun _ => 0))), (q4, .inr (3, [.int 0, .int (-1), .int 0, .ref (u7 35), .int 0, .int 0, .ref (u7 39), .int 0])), ((u7 35), .inr (5, [.ref (u7 36), .ref (u7 37), .ref (u7 38), .int 0])), ((u7 36), .inl (cI, 501, .inl (fun _ => 0))), ((u7 37), .inl (cI, 501, .inl (fun _ => 0))), ((u7 38), .inl (cI, 501, .inl (fun _ => 0))), ((u7 39), .inl (cI, 1002, .inl (fun _ => 0)))] H9 := hP
  have hD : va_D A [(h, .inr (7, [.ref q1, .int 0, .ref q4, .null, .null, .null, .null])), (q1, .inl (cI, 500, .inl (fun _ => 0))), (q4, .inr (3, [.int 0, .int (-1), .int 0, .ref (u7 35), .int 0, .int 0, .ref (u7 39), .int 0])), ((u7 35), .inr (5, [.ref (u7 36), .ref (u7 37), .ref (u7 38), .int 0])), ((u7 36), .inl (cI, 501, .inl (fun _ => 0))), ((u7 37), .inl (cI, 501, .inl (fun _ => 0))), ((u7 38), .inl (cI, 501, .inl (fun _ => 0))), ((u7 39), .inl (cI, 1002, .inl (fun _ => 0)))] := hD
  refine lv_aload_n hx hb dX7_init_24 rfl (lv_at hl 0 rfl) ?_
  refine va_new (ci := 1) (fs := [.null, .int 0, .int 0]) (C := RX1) (T := TX1) (N := 3) hx hb hts in_dm_init_X1 tyX1 tyX1_ok hown (hts (.classLink RX7 20 RX1) (by decide +kernel)) (hts (.instantiable RX1 3) (by decide +kernel)) (hts (.initialized RX1) (by decide +kernel)) hK hP hD hS hA rfl df_X1 (Nat.le_of_ble_eq_true rfl) (Nat.le_of_ble_eq_true rfl) dX7_init_25 (fun q10 H11 hP hD hS => ?_)
  have hP : va_P (dC, dI) vwCl [(h, .inr (7, [.ref q1, .int 0, .ref q4, .null, .null, .null, .null])), (q1, .inl (cI, 500, .inl (fun _ => 0))), (q4, .inr (3, [.int 0, .int (-1), .int 0, .ref (u7 35), .int 0, .int 0, .ref (u7 39), .int 0])), ((u7 35), .inr (5, [.ref (u7 36), .ref (u7 37), .ref (u7 38), .int 0])), ((u7 36), .inl (cI, 501, .inl (fun _ => 0))), ((u7 37), .inl (cI, 501, .inl (fun _ => 0))), ((u7 38), .inl (cI, 501, .inl (fun _ => 0))), ((u7 39), .inl (cI, 1002, .inl (fun _ => 0))), (q10, .inr (1, [.null, .int 0, .int 0]))] H11 := hP
  have hD : va_D A [(h, .inr (7, [.ref q1, .int 0, .ref q4, .null, .null, .null, .null])), (q1, .inl (cI, 500, .inl (fun _ => 0))), (q4, .inr (3, [.int 0, .int (-1), .int 0, .ref (u7 35), .int 0, .int 0, .ref (u7 39), .int 0])), ((u7 35), .inr (5, [.ref (u7 36), .ref (u7 37), .ref (u7 38), .int 0])), ((u7 36), .inl (cI, 501, .inl (fun _ => 0))), ((u7 37), .inl (cI, 501, .inl (fun _ => 0))), ((u7 38), .inl (cI, 501, .inl (fun _ => 0))), ((u7 39), .inl (cI, 1002, .inl (fun _ => 0))), (q10, .inr (1, [.null, .int 0, .int 0]))] := hD
  refine W.widen (k := 8) (n := 3020) (by decide) (by decide) ?_
  refine lv_dup hx hb dX7_init_28 rfl ?_
  have hPc := hP.sub (ws' := [(q10, .inr (1, [.null, .int 0, .int 0]))]) [8] rfl
  have hDc := hD.sub (ws' := [(q10, .inr (1, [.null, .int 0, .int 0]))]) [8] (by decide) rfl
  have hFc := va_free (wc := [(q10, .inr (1, [.null, .int 0, .int 0]))]) hD hS hA [8] rfl
  refine va_callv (va_runIN (As := []) (rest := [.ref q10, .ref h]) ⟨hx, hb, hml, hown, hts⟩ (c_g_init l dC dI cI cZ cB cJ cP cW q10 H11.size) ⟨(va_cnB 0 hts gg_dm_init_g_init rfl rfl rfl hE.1.n_DepotMarch_22 (hts (.initialized RX1) (by decide +kernel)) (by decide +kernel) ⟨Nat.le_of_ble_eq_true rfl, Nat.le_of_ble_eq_true rfl⟩), rfl, (hts (.instanceMethod yX1_init) (by decide +kernel))⟩ ⟨fbM, fun U hU hW => ⟨rfl, by rw [hU], hE.warm hW, by rw [hU]; exact hPc, hDc.weaken (fun _ _ _ _ => trivial)⟩⟩ rfl rfl hl.1 rfl (lv_room (Nat.le_of_ble_eq_true rfl)) dX7_init_29 ⟨Nat.le_of_ble_eq_true rfl, Nat.le_of_ble_eq_true rfl⟩) hS (fun q _ h => hFc q h) hFc (fun u13 t H14 locs ht hvm hr12 hB hz1 hk1 hS => ?_)
  obtain ⟨hP1, hD1⟩ := hB
  rw [ht] at hP1
  obtain ⟨hP, hD⟩ := va_join (wr := [(h, .inr (7, [.ref q1, .int 0, .ref q4, .null, .null, .null, .null])), (q1, .inl (cI, 500, .inl (fun _ => 0))), (q4, .inr (3, [.int 0, .int (-1), .int 0, .ref (u7 35), .int 0, .int 0, .ref (u7 39), .int 0])), ((u7 35), .inr (5, [.ref (u7 36), .ref (u7 37), .ref (u7 38), .int 0])), ((u7 36), .inl (cI, 501, .inl (fun _ => 0))), ((u7 37), .inl (cI, 501, .inl (fun _ => 0))), ((u7 38), .inl (cI, 501, .inl (fun _ => 0))), ((u7 39), .inl (cI, 1002, .inl (fun _ => 0)))]) (w1 := [(q10, .inr (1, [.ref (u13 41), .int 0, .int 0])), ((u13 41), .inl (cI, 27, .inl (fun _ => 0)))]) hP hD [8] [0, 1, 2, 3, 4, 5, 6, 7] rfl rfl (by decide) (by decide) hk1 hFc hP1 hD1
  have hP : va_P (dC, dI) vwCl [(h, .inr (7, [.ref q1, .int 0, .ref q4, .null, .null, .null, .null])), (q1, .inl (cI, 500, .inl (fun _ => 0))), (q4, .inr (3, [.int 0, .int (-1), .int 0, .ref (u7 35), .int 0, .int 0, .ref (u7 39), .int 0])), ((u7 35), .inr (5, [.ref (u7 36), .ref (u7 37), .ref (u7 38), .int 0])), ((u7 36), .inl (cI, 501, .inl (fun _ => 0))), ((u7 37), .inl (cI, 501, .inl (fun _ => 0))), ((u7 38), .inl (cI, 501, .inl (fun _ => 0))), ((u7 39), .inl (cI, 1002, .inl (fun _ => 0))), (q10, .inr (1, [.ref (u13 41), .int 0, .int 0])), ((u13 41), .inl (cI, 27, .inl (fun _ => 0)))] H14 := hP
  have hD : va_D A [(h, .inr (7, [.ref q1, .int 0, .ref q4, .null, .null, .null, .null])), (q1, .inl (cI, 500, .inl (fun _ => 0))), (q4, .inr (3, [.int 0, .int (-1), .int 0, .ref (u7 35), .int 0, .int 0, .ref (u7 39), .int 0])), ((u7 35), .inr (5, [.ref (u7 36), .ref (u7 37), .ref (u7 38), .int 0])), ((u7 36), .inl (cI, 501, .inl (fun _ => 0))), ((u7 37), .inl (cI, 501, .inl (fun _ => 0))), ((u7 38), .inl (cI, 501, .inl (fun _ => 0))), ((u7 39), .inl (cI, 1002, .inl (fun _ => 0))), (q10, .inr (1, [.ref (u13 41), .int 0, .int 0])), ((u13 41), .inl (cI, 27, .inl (fun _ => 0)))] := hD
  refine W.widen (k := 9) (n := 3047) (by decide) (by decide) ?_
  refine va_putF (D := (dC, dI)) (ci := 7) (v := .ref q10) (ty := .object "DepotMarch$Guide") (C := RX7) (T := TX7) (N := 7) hx hb hts in_dm_init_X7 tyX7 tyX7_ok nmX7 hown hK hP hD hS 0 rfl rfl 3 (by decide) (hts (.fieldLink RX7 23 "DepotMarch" "guide" "LDepotMarch$Guide;") (by decide +kernel)) (fun _ h9 => h9) rfl hin rfl (by decide +kernel) rfl rfl (Nat.le_of_ble_eq_true rfl) dX7_init_32 (fun H15 locs hP hD hS => ?_)
  have hP : va_P (dC, dI) vwCl [(h, .inr (7, [.ref q1, .int 0, .ref q4, .ref q10, .null, .null, .null])), (q1, .inl (cI, 500, .inl (fun _ => 0))), (q4, .inr (3, [.int 0, .int (-1), .int 0, .ref (u7 35), .int 0, .int 0, .ref (u7 39), .int 0])), ((u7 35), .inr (5, [.ref (u7 36), .ref (u7 37), .ref (u7 38), .int 0])), ((u7 36), .inl (cI, 501, .inl (fun _ => 0))), ((u7 37), .inl (cI, 501, .inl (fun _ => 0))), ((u7 38), .inl (cI, 501, .inl (fun _ => 0))), ((u7 39), .inl (cI, 1002, .inl (fun _ => 0))), (q10, .inr (1, [.ref (u13 41), .int 0, .int 0])), ((u13 41), .inl (cI, 27, .inl (fun _ => 0)))] H15 := hP
  have hD : va_D A [(h, .inr (7, [.ref q1, .int 0, .ref q4, .ref q10, .null, .null, .null])), (q1, .inl (cI, 500, .inl (fun _ => 0))), (q4, .inr (3, [.int 0, .int (-1), .int 0, .ref (u7 35), .int 0, .int 0, .ref (u7 39), .int 0])), ((u7 35), .inr (5, [.ref (u7 36), .ref (u7 37), .ref (u7 38), .int 0])), ((u7 36), .inl (cI, 501, .inl (fun _ => 0))), ((u7 37), .inl (cI, 501, .inl (fun _ => 0))), ((u7 38), .inl (cI, 501, .inl (fun _ => 0))), ((u7 39), .inl (cI, 1002, .inl (fun _ => 0))), (q10, .inr (1, [.ref (u13 41), .int 0, .int 0])), ((u13 41), .inl (cI, 27, .inl (fun _ => 0)))] := hD
  refine lv_aload_n hx hb dX7_init_35 rfl (lv_at hl 0 rfl) ?_
  refine va_new (ci := 6) (fs := [.int 0, .int 0, .int 0, .null, .null, .null, .null, .null, .null]) (C := RX6) (T := TX6) (N := 9) hx hb hts in_dm_init_X6 tyX6 tyX6_ok hown (hts (.classLink RX7 27 RX6) (by decide +kernel)) (hts (.instantiable RX6 9) (by decide +kernel)) (hts (.initialized RX6) (by decide +kernel)) hK hP hD hS hA rfl df_X6 (Nat.le_of_ble_eq_true rfl) (Nat.le_of_ble_eq_true rfl) dX7_init_36 (fun q16 H17 hP hD hS => ?_)
  have hP : va_P (dC, dI) vwCl [(h, .inr (7, [.ref q1, .int 0, .ref q4, .ref q10, .null, .null, .null])), (q1, .inl (cI, 500, .inl (fun _ => 0))), (q4, .inr (3, [.int 0, .int (-1), .int 0, .ref (u7 35), .int 0, .int 0, .ref (u7 39), .int 0])), ((u7 35), .inr (5, [.ref (u7 36), .ref (u7 37), .ref (u7 38), .int 0])), ((u7 36), .inl (cI, 501, .inl (fun _ => 0))), ((u7 37), .inl (cI, 501, .inl (fun _ => 0))), ((u7 38), .inl (cI, 501, .inl (fun _ => 0))), ((u7 39), .inl (cI, 1002, .inl (fun _ => 0))), (q10, .inr (1, [.ref (u13 41), .int 0, .int 0])), ((u13 41), .inl (cI, 27, .inl (fun _ => 0))), (q16, .inr (6, [.int 0, .int 0, .int 0, .null, .null, .null, .null, .null, .null]))] H17 := hP
  have hD : va_D A [(h, .inr (7, [.ref q1, .int 0, .ref q4, .ref q10, .null, .null, .null])), (q1, .inl (cI, 500, .inl (fun _ => 0))), (q4, .inr (3, [.int 0, .int (-1), .int 0, .ref (u7 35), .int 0, .int 0, .ref (u7 39), .int 0])), ((u7 35), .inr (5, [.ref (u7 36), .ref (u7 37), .ref (u7 38), .int 0])), ((u7 36), .inl (cI, 501, .inl (fun _ => 0))), ((u7 37), .inl (cI, 501, .inl (fun _ => 0))), ((u7 38), .inl (cI, 501, .inl (fun _ => 0))), ((u7 39), .inl (cI, 1002, .inl (fun _ => 0))), (q10, .inr (1, [.ref (u13 41), .int 0, .int 0])), ((u13 41), .inl (cI, 27, .inl (fun _ => 0))), (q16, .inr (6, [.int 0, .int 0, .int 0, .null, .null, .null, .null, .null, .null]))] := hD
  refine W.widen (k := 10) (n := 3056) (by decide) (by decide) ?_
  refine lv_dup hx hb dX7_init_39 rfl ?_
  have hPc := hP.sub (ws' := [(q16, .inr (6, [.int 0, .int 0, .int 0, .null, .null, .null, .null, .null, .null]))]) [10] rfl
  have hDc := hD.sub (ws' := [(q16, .inr (6, [.int 0, .int 0, .int 0, .null, .null, .null, .null, .null, .null]))]) [10] (by decide) rfl
  have hFc := va_free (wc := [(q16, .inr (6, [.int 0, .int 0, .int 0, .null, .null, .null, .null, .null, .null]))]) hD hS hA [10] rfl
  refine va_callv (va_runI (As := []) (rest := [.ref q16, .ref h]) ⟨hx, hb, hml, hown, hts⟩ (c_w_init l dC dI cI cZ cB cJ cP cW q16 z H17.size) (cwI 0 hts gg_dm_init_w_init rfl rfl rfl (hts (.initialized RX6) (by decide +kernel)) (hts (.methodLink RX7 29 yX6_init) (by decide +kernel)) (hts (.instanceMethod yX6_init) (by decide +kernel)) rfl (by decide +kernel) ⟨Nat.le_of_ble_eq_true rfl, Nat.le_of_ble_eq_true rfl⟩) ⟨fbMX blZ, fun U hU hW => ⟨rfl, by rw [hU], hE.warm hW, by rw [hU]; exact hPc, hDc.weaken (fun _ _ _ _ => trivial), (by rw [hU]; exact va_Z.moved hW.alike ((va_Z.kept hX hS.2.1).narrow hFc))⟩⟩ rfl rfl hl.1 rfl (lv_room (Nat.le_of_ble_eq_true rfl)) dX7_init_40 ⟨Nat.le_of_ble_eq_true rfl, Nat.le_of_ble_eq_true rfl⟩) hS (fun q _ h => hFc q h) hFc (fun u19 t H20 locs ht hvm hr18 hB hz1 hk1 hS => ?_)
  obtain ⟨hP1, hD1⟩ := hB
  rw [ht] at hP1
  obtain ⟨hP, hD⟩ := va_join (wr := [(h, .inr (7, [.ref q1, .int 0, .ref q4, .ref q10, .null, .null, .null])), (q1, .inl (cI, 500, .inl (fun _ => 0))), (q4, .inr (3, [.int 0, .int (-1), .int 0, .ref (u7 35), .int 0, .int 0, .ref (u7 39), .int 0])), ((u7 35), .inr (5, [.ref (u7 36), .ref (u7 37), .ref (u7 38), .int 0])), ((u7 36), .inl (cI, 501, .inl (fun _ => 0))), ((u7 37), .inl (cI, 501, .inl (fun _ => 0))), ((u7 38), .inl (cI, 501, .inl (fun _ => 0))), ((u7 39), .inl (cI, 1002, .inl (fun _ => 0))), (q10, .inr (1, [.ref (u13 41), .int 0, .int 0])), ((u13 41), .inl (cI, 27, .inl (fun _ => 0)))]) (w1 := [(q16, .inr (6, [.int 0, .int 0, .int 0, .ref (u19 1), .ref (u19 8), .ref (u19 10), .ref (u19 11), .ref (u19 12), .ref (u19 13)])), ((u19 1), .inr (4, [.ref (u19 2), .ref (u19 3), .ref (u19 4), .ref (u19 5), .ref (u19 6), .ref (u19 7), .int 0, .int (-1)])), ((u19 2), .inl (cI, 22, .inl (fun _ => (-1)))), ((u19 3), .inl (cI, 22, .inl (fun _ => (-1)))), ((u19 4), .inl (cI, 22, .inl (fun _ => 0))), ((u19 5), .inl (cI, 64, .inl (fun _ => 0))), ((u19 6), .inl (cI, 64, .inl (fun _ => 0))), ((u19 7), .inl (cI, 64, .inl (fun _ => 0))), ((u19 8), .inr (0, [.int 0, .ref (u19 9)])), ((u19 9), .inl (cI, 3600, .inl (fun _ => 0))), ((u19 10), .inl (cZ, 400, .inl (fun _ => 0))), ((u19 11), .inl (cI, 16, .inl (fun _ => (-1)))), ((u19 12), .inl (cI, 20, .inl (fun _ => 0))), ((u19 13), .inl (cP, 6, .inr (.inr (.inr (.inr (va_up (va_up (va_up (va_up (va_up (va_up (fun _ => none) 0 (some (u19 14))) 1 (some (u19 17))) 2 (some (u19 20))) 3 (some (u19 23))) 4 (some (u19 26))) 5 (some (u19 29)))))))), ((u19 14), .inr (2, [.int 0, .int 0, .int 0, .int 0, .int 0, .int 0, .int 0, .int 0, .ref z, .ref (u19 15), .ref (u19 16)])), ((u19 15), .inl (cI, 26, .inl (fun _ => 0))), ((u19 16), .inl (cI, 20, .inl (fun _ => 0))), ((u19 17), .inr (2, [.int 1, .int 0, .int 0, .int 0, .int 0, .int 0, .int 0, .int 0, .ref z, .ref (u19 18), .ref (u19 19)])), ((u19 18), .inl (cI, 26, .inl (fun _ => 0))), ((u19 19), .inl (cI, 20, .inl (fun _ => 0))), ((u19 20), .inr (2, [.int 2, .int 0, .int 0, .int 0, .int 0, .int 0, .int 0, .int 0, .ref z, .ref (u19 21), .ref (u19 22)])), ((u19 21), .inl (cI, 26, .inl (fun _ => 0))), ((u19 22), .inl (cI, 20, .inl (fun _ => 0))), ((u19 23), .inr (2, [.int 3, .int 0, .int 0, .int 0, .int 0, .int 0, .int 0, .int 0, .ref z, .ref (u19 24), .ref (u19 25)])), ((u19 24), .inl (cI, 26, .inl (fun _ => 0))), ((u19 25), .inl (cI, 20, .inl (fun _ => 0))), ((u19 26), .inr (2, [.int 4, .int 0, .int 0, .int 0, .int 0, .int 0, .int 0, .int 0, .ref z, .ref (u19 27), .ref (u19 28)])), ((u19 27), .inl (cI, 26, .inl (fun _ => 0))), ((u19 28), .inl (cI, 20, .inl (fun _ => 0))), ((u19 29), .inr (2, [.int 5, .int 0, .int 0, .int 0, .int 0, .int 0, .int 0, .int 0, .ref z, .ref (u19 30), .ref (u19 31)])), ((u19 30), .inl (cI, 26, .inl (fun _ => 0))), ((u19 31), .inl (cI, 20, .inl (fun _ => 0)))]) hP hD [10] [0, 1, 2, 3, 4, 5, 6, 7, 8, 9] rfl rfl (by decide) (by decide) hk1 hFc hP1 hD1
  have hP : va_P (dC, dI) vwCl [(h, .inr (7, [.ref q1, .int 0, .ref q4, .ref q10, .null, .null, .null])), (q1, .inl (cI, 500, .inl (fun _ => 0))), (q4, .inr (3, [.int 0, .int (-1), .int 0, .ref (u7 35), .int 0, .int 0, .ref (u7 39), .int 0])), ((u7 35), .inr (5, [.ref (u7 36), .ref (u7 37), .ref (u7 38), .int 0])), ((u7 36), .inl (cI, 501, .inl (fun _ => 0))), ((u7 37), .inl (cI, 501, .inl (fun _ => 0))), ((u7 38), .inl (cI, 501, .inl (fun _ => 0))), ((u7 39), .inl (cI, 1002, .inl (fun _ => 0))), (q10, .inr (1, [.ref (u13 41), .int 0, .int 0])), ((u13 41), .inl (cI, 27, .inl (fun _ => 0))), (q16, .inr (6, [.int 0, .int 0, .int 0, .ref (u19 1), .ref (u19 8), .ref (u19 10), .ref (u19 11), .ref (u19 12), .ref (u19 13)])), ((u19 1), .inr (4, [.ref (u19 2), .ref (u19 3), .ref (u19 4), .ref (u19 5), .ref (u19 6), .ref (u19 7), .int 0, .int (-1)])), ((u19 2), .inl (cI, 22, .inl (fun _ => (-1)))), ((u19 3), .inl (cI, 22, .inl (fun _ => (-1)))), ((u19 4), .inl (cI, 22, .inl (fun _ => 0))), ((u19 5), .inl (cI, 64, .inl (fun _ => 0))), ((u19 6), .inl (cI, 64, .inl (fun _ => 0))), ((u19 7), .inl (cI, 64, .inl (fun _ => 0))), ((u19 8), .inr (0, [.int 0, .ref (u19 9)])), ((u19 9), .inl (cI, 3600, .inl (fun _ => 0))), ((u19 10), .inl (cZ, 400, .inl (fun _ => 0))), ((u19 11), .inl (cI, 16, .inl (fun _ => (-1)))), ((u19 12), .inl (cI, 20, .inl (fun _ => 0))), ((u19 13), .inl (cP, 6, .inr (.inr (.inr (.inr (va_up (va_up (va_up (va_up (va_up (va_up (fun _ => none) 0 (some (u19 14))) 1 (some (u19 17))) 2 (some (u19 20))) 3 (some (u19 23))) 4 (some (u19 26))) 5 (some (u19 29)))))))), ((u19 14), .inr (2, [.int 0, .int 0, .int 0, .int 0, .int 0, .int 0, .int 0, .int 0, .ref z, .ref (u19 15), .ref (u19 16)])), ((u19 15), .inl (cI, 26, .inl (fun _ => 0))), ((u19 16), .inl (cI, 20, .inl (fun _ => 0))), ((u19 17), .inr (2, [.int 1, .int 0, .int 0, .int 0, .int 0, .int 0, .int 0, .int 0, .ref z, .ref (u19 18), .ref (u19 19)])), ((u19 18), .inl (cI, 26, .inl (fun _ => 0))), ((u19 19), .inl (cI, 20, .inl (fun _ => 0))), ((u19 20), .inr (2, [.int 2, .int 0, .int 0, .int 0, .int 0, .int 0, .int 0, .int 0, .ref z, .ref (u19 21), .ref (u19 22)])), ((u19 21), .inl (cI, 26, .inl (fun _ => 0))), ((u19 22), .inl (cI, 20, .inl (fun _ => 0))), ((u19 23), .inr (2, [.int 3, .int 0, .int 0, .int 0, .int 0, .int 0, .int 0, .int 0, .ref z, .ref (u19 24), .ref (u19 25)])), ((u19 24), .inl (cI, 26, .inl (fun _ => 0))), ((u19 25), .inl (cI, 20, .inl (fun _ => 0))), ((u19 26), .inr (2, [.int 4, .int 0, .int 0, .int 0, .int 0, .int 0, .int 0, .int 0, .ref z, .ref (u19 27), .ref (u19 28)])), ((u19 27), .inl (cI, 26, .inl (fun _ => 0))), ((u19 28), .inl (cI, 20, .inl (fun _ => 0))), ((u19 29), .inr (2, [.int 5, .int 0, .int 0, .int 0, .int 0, .int 0, .int 0, .int 0, .ref z, .ref (u19 30), .ref (u19 31)])), ((u19 30), .inl (cI, 26, .inl (fun _ => 0))), ((u19 31), .inl (cI, 20, .inl (fun _ => 0)))] H20 := hP
  have hD : va_D A [(h, .inr (7, [.ref q1, .int 0, .ref q4, .ref q10, .null, .null, .null])), (q1, .inl (cI, 500, .inl (fun _ => 0))), (q4, .inr (3, [.int 0, .int (-1), .int 0, .ref (u7 35), .int 0, .int 0, .ref (u7 39), .int 0])), ((u7 35), .inr (5, [.ref (u7 36), .ref (u7 37), .ref (u7 38), .int 0])), ((u7 36), .inl (cI, 501, .inl (fun _ => 0))), ((u7 37), .inl (cI, 501, .inl (fun _ => 0))), ((u7 38), .inl (cI, 501, .inl (fun _ => 0))), ((u7 39), .inl (cI, 1002, .inl (fun _ => 0))), (q10, .inr (1, [.ref (u13 41), .int 0, .int 0])), ((u13 41), .inl (cI, 27, .inl (fun _ => 0))), (q16, .inr (6, [.int 0, .int 0, .int 0, .ref (u19 1), .ref (u19 8), .ref (u19 10), .ref (u19 11), .ref (u19 12), .ref (u19 13)])), ((u19 1), .inr (4, [.ref (u19 2), .ref (u19 3), .ref (u19 4), .ref (u19 5), .ref (u19 6), .ref (u19 7), .int 0, .int (-1)])), ((u19 2), .inl (cI, 22, .inl (fun _ => (-1)))), ((u19 3), .inl (cI, 22, .inl (fun _ => (-1)))), ((u19 4), .inl (cI, 22, .inl (fun _ => 0))), ((u19 5), .inl (cI, 64, .inl (fun _ => 0))), ((u19 6), .inl (cI, 64, .inl (fun _ => 0))), ((u19 7), .inl (cI, 64, .inl (fun _ => 0))), ((u19 8), .inr (0, [.int 0, .ref (u19 9)])), ((u19 9), .inl (cI, 3600, .inl (fun _ => 0))), ((u19 10), .inl (cZ, 400, .inl (fun _ => 0))), ((u19 11), .inl (cI, 16, .inl (fun _ => (-1)))), ((u19 12), .inl (cI, 20, .inl (fun _ => 0))), ((u19 13), .inl (cP, 6, .inr (.inr (.inr (.inr (va_up (va_up (va_up (va_up (va_up (va_up (fun _ => none) 0 (some (u19 14))) 1 (some (u19 17))) 2 (some (u19 20))) 3 (some (u19 23))) 4 (some (u19 26))) 5 (some (u19 29)))))))), ((u19 14), .inr (2, [.int 0, .int 0, .int 0, .int 0, .int 0, .int 0, .int 0, .int 0, .ref z, .ref (u19 15), .ref (u19 16)])), ((u19 15), .inl (cI, 26, .inl (fun _ => 0))), ((u19 16), .inl (cI, 20, .inl (fun _ => 0))), ((u19 17), .inr (2, [.int 1, .int 0, .int 0, .int 0, .int 0, .int 0, .int 0, .int 0, .ref z, .ref (u19 18), .ref (u19 19)])), ((u19 18), .inl (cI, 26, .inl (fun _ => 0))), ((u19 19), .inl (cI, 20, .inl (fun _ => 0))), ((u19 20), .inr (2, [.int 2, .int 0, .int 0, .int 0, .int 0, .int 0, .int 0, .int 0, .ref z, .ref (u19 21), .ref (u19 22)])), ((u19 21), .inl (cI, 26, .inl (fun _ => 0))), ((u19 22), .inl (cI, 20, .inl (fun _ => 0))), ((u19 23), .inr (2, [.int 3, .int 0, .int 0, .int 0, .int 0, .int 0, .int 0, .int 0, .ref z, .ref (u19 24), .ref (u19 25)])), ((u19 24), .inl (cI, 26, .inl (fun _ => 0))), ((u19 25), .inl (cI, 20, .inl (fun _ => 0))), ((u19 26), .inr (2, [.int 4, .int 0, .int 0, .int 0, .int 0, .int 0, .int 0, .int 0, .ref z, .ref (u19 27), .ref (u19 28)])), ((u19 27), .inl (cI, 26, .inl (fun _ => 0))), ((u19 28), .inl (cI, 20, .inl (fun _ => 0))), ((u19 29), .inr (2, [.int 5, .int 0, .int 0, .int 0, .int 0, .int 0, .int 0, .int 0, .ref z, .ref (u19 30), .ref (u19 31)])), ((u19 30), .inl (cI, 26, .inl (fun _ => 0))), ((u19 31), .inl (cI, 20, .inl (fun _ => 0)))] := hD
  refine W.widen (k := 41) (n := 7708) (by decide) (by decide) ?_
  refine va_putF (D := (dC, dI)) (ci := 7) (v := .ref q16) (ty := .object "DepotMarch$World") (C := RX7) (T := TX7) (N := 7) hx hb hts in_dm_init_X7 tyX7 tyX7_ok nmX7 hown hK hP hD hS 0 rfl rfl 4 (by decide) (hts (.fieldLink RX7 30 "DepotMarch" "world" "LDepotMarch$World;") (by decide +kernel)) (fun _ h9 => h9) rfl hin rfl (by decide +kernel) rfl rfl (Nat.le_of_ble_eq_true rfl) dX7_init_43 (fun H21 locs hP hD hS => ?_)
  have hP : va_P (dC, dI) vwCl [(h, .inr (7, [.ref q1, .int 0, .ref q4, .ref q10, .ref q16, .null, .null])), (q1, .inl (cI, 500, .inl (fun _ => 0))), (q4, .inr (3, [.int 0, .int (-1), .int 0, .ref (u7 35), .int 0, .int 0, .ref (u7 39), .int 0])), ((u7 35), .inr (5, [.ref (u7 36), .ref (u7 37), .ref (u7 38), .int 0])), ((u7 36), .inl (cI, 501, .inl (fun _ => 0))), ((u7 37), .inl (cI, 501, .inl (fun _ => 0))), ((u7 38), .inl (cI, 501, .inl (fun _ => 0))), ((u7 39), .inl (cI, 1002, .inl (fun _ => 0))), (q10, .inr (1, [.ref (u13 41), .int 0, .int 0])), ((u13 41), .inl (cI, 27, .inl (fun _ => 0))), (q16, .inr (6, [.int 0, .int 0, .int 0, .ref (u19 1), .ref (u19 8), .ref (u19 10), .ref (u19 11), .ref (u19 12), .ref (u19 13)])), ((u19 1), .inr (4, [.ref (u19 2), .ref (u19 3), .ref (u19 4), .ref (u19 5), .ref (u19 6), .ref (u19 7), .int 0, .int (-1)])), ((u19 2), .inl (cI, 22, .inl (fun _ => (-1)))), ((u19 3), .inl (cI, 22, .inl (fun _ => (-1)))), ((u19 4), .inl (cI, 22, .inl (fun _ => 0))), ((u19 5), .inl (cI, 64, .inl (fun _ => 0))), ((u19 6), .inl (cI, 64, .inl (fun _ => 0))), ((u19 7), .inl (cI, 64, .inl (fun _ => 0))), ((u19 8), .inr (0, [.int 0, .ref (u19 9)])), ((u19 9), .inl (cI, 3600, .inl (fun _ => 0))), ((u19 10), .inl (cZ, 400, .inl (fun _ => 0))), ((u19 11), .inl (cI, 16, .inl (fun _ => (-1)))), ((u19 12), .inl (cI, 20, .inl (fun _ => 0))), ((u19 13), .inl (cP, 6, .inr (.inr (.inr (.inr (va_up (va_up (va_up (va_up (va_up (va_up (fun _ => none) 0 (some (u19 14))) 1 (some (u19 17))) 2 (some (u19 20))) 3 (some (u19 23))) 4 (some (u19 26))) 5 (some (u19 29)))))))), ((u19 14), .inr (2, [.int 0, .int 0, .int 0, .int 0, .int 0, .int 0, .int 0, .int 0, .ref z, .ref (u19 15), .ref (u19 16)])), ((u19 15), .inl (cI, 26, .inl (fun _ => 0))), ((u19 16), .inl (cI, 20, .inl (fun _ => 0))), ((u19 17), .inr (2, [.int 1, .int 0, .int 0, .int 0, .int 0, .int 0, .int 0, .int 0, .ref z, .ref (u19 18), .ref (u19 19)])), ((u19 18), .inl (cI, 26, .inl (fun _ => 0))), ((u19 19), .inl (cI, 20, .inl (fun _ => 0))), ((u19 20), .inr (2, [.int 2, .int 0, .int 0, .int 0, .int 0, .int 0, .int 0, .int 0, .ref z, .ref (u19 21), .ref (u19 22)])), ((u19 21), .inl (cI, 26, .inl (fun _ => 0))), ((u19 22), .inl (cI, 20, .inl (fun _ => 0))), ((u19 23), .inr (2, [.int 3, .int 0, .int 0, .int 0, .int 0, .int 0, .int 0, .int 0, .ref z, .ref (u19 24), .ref (u19 25)])), ((u19 24), .inl (cI, 26, .inl (fun _ => 0))), ((u19 25), .inl (cI, 20, .inl (fun _ => 0))), ((u19 26), .inr (2, [.int 4, .int 0, .int 0, .int 0, .int 0, .int 0, .int 0, .int 0, .ref z, .ref (u19 27), .ref (u19 28)])), ((u19 27), .inl (cI, 26, .inl (fun _ => 0))), ((u19 28), .inl (cI, 20, .inl (fun _ => 0))), ((u19 29), .inr (2, [.int 5, .int 0, .int 0, .int 0, .int 0, .int 0, .int 0, .int 0, .ref z, .ref (u19 30), .ref (u19 31)])), ((u19 30), .inl (cI, 26, .inl (fun _ => 0))), ((u19 31), .inl (cI, 20, .inl (fun _ => 0)))] H21 := hP
  have hD : va_D A [(h, .inr (7, [.ref q1, .int 0, .ref q4, .ref q10, .ref q16, .null, .null])), (q1, .inl (cI, 500, .inl (fun _ => 0))), (q4, .inr (3, [.int 0, .int (-1), .int 0, .ref (u7 35), .int 0, .int 0, .ref (u7 39), .int 0])), ((u7 35), .inr (5, [.ref (u7 36), .ref (u7 37), .ref (u7 38), .int 0])), ((u7 36), .inl (cI, 501, .inl (fun _ => 0))), ((u7 37), .inl (cI, 501, .inl (fun _ => 0))), ((u7 38), .inl (cI, 501, .inl (fun _ => 0))), ((u7 39), .inl (cI, 1002, .inl (fun _ => 0))), (q10, .inr (1, [.ref (u13 41), .int 0, .int 0])), ((u13 41), .inl (cI, 27, .inl (fun _ => 0))), (q16, .inr (6, [.int 0, .int 0, .int 0, .ref (u19 1), .ref (u19 8), .ref (u19 10), .ref (u19 11), .ref (u19 12), .ref (u19 13)])), ((u19 1), .inr (4, [.ref (u19 2), .ref (u19 3), .ref (u19 4), .ref (u19 5), .ref (u19 6), .ref (u19 7), .int 0, .int (-1)])), ((u19 2), .inl (cI, 22, .inl (fun _ => (-1)))), ((u19 3), .inl (cI, 22, .inl (fun _ => (-1)))), ((u19 4), .inl (cI, 22, .inl (fun _ => 0))), ((u19 5), .inl (cI, 64, .inl (fun _ => 0))), ((u19 6), .inl (cI, 64, .inl (fun _ => 0))), ((u19 7), .inl (cI, 64, .inl (fun _ => 0))), ((u19 8), .inr (0, [.int 0, .ref (u19 9)])), ((u19 9), .inl (cI, 3600, .inl (fun _ => 0))), ((u19 10), .inl (cZ, 400, .inl (fun _ => 0))), ((u19 11), .inl (cI, 16, .inl (fun _ => (-1)))), ((u19 12), .inl (cI, 20, .inl (fun _ => 0))), ((u19 13), .inl (cP, 6, .inr (.inr (.inr (.inr (va_up (va_up (va_up (va_up (va_up (va_up (fun _ => none) 0 (some (u19 14))) 1 (some (u19 17))) 2 (some (u19 20))) 3 (some (u19 23))) 4 (some (u19 26))) 5 (some (u19 29)))))))), ((u19 14), .inr (2, [.int 0, .int 0, .int 0, .int 0, .int 0, .int 0, .int 0, .int 0, .ref z, .ref (u19 15), .ref (u19 16)])), ((u19 15), .inl (cI, 26, .inl (fun _ => 0))), ((u19 16), .inl (cI, 20, .inl (fun _ => 0))), ((u19 17), .inr (2, [.int 1, .int 0, .int 0, .int 0, .int 0, .int 0, .int 0, .int 0, .ref z, .ref (u19 18), .ref (u19 19)])), ((u19 18), .inl (cI, 26, .inl (fun _ => 0))), ((u19 19), .inl (cI, 20, .inl (fun _ => 0))), ((u19 20), .inr (2, [.int 2, .int 0, .int 0, .int 0, .int 0, .int 0, .int 0, .int 0, .ref z, .ref (u19 21), .ref (u19 22)])), ((u19 21), .inl (cI, 26, .inl (fun _ => 0))), ((u19 22), .inl (cI, 20, .inl (fun _ => 0))), ((u19 23), .inr (2, [.int 3, .int 0, .int 0, .int 0, .int 0, .int 0, .int 0, .int 0, .ref z, .ref (u19 24), .ref (u19 25)])), ((u19 24), .inl (cI, 26, .inl (fun _ => 0))), ((u19 25), .inl (cI, 20, .inl (fun _ => 0))), ((u19 26), .inr (2, [.int 4, .int 0, .int 0, .int 0, .int 0, .int 0, .int 0, .int 0, .ref z, .ref (u19 27), .ref (u19 28)])), ((u19 27), .inl (cI, 26, .inl (fun _ => 0))), ((u19 28), .inl (cI, 20, .inl (fun _ => 0))), ((u19 29), .inr (2, [.int 5, .int 0, .int 0, .int 0, .int 0, .int 0, .int 0, .int 0, .ref z, .ref (u19 30), .ref (u19 31)])), ((u19 30), .inl (cI, 26, .inl (fun _ => 0))), ((u19 31), .inl (cI, 20, .inl (fun _ => 0)))] := hD
  refine lv_aload_n hx hb dX7_init_46 rfl (lv_at hl 0 rfl) ?_
  refine lv_iconst (v := 3) hx hb dX7_init_47 (by decide) ?_
  refine n_newq (C := RX6) (cI := cW) hx hb hown (hts (.classLink RX7 27 RX6) (by decide +kernel)) hE.1.aoW hK hP hD hS hA 5 rfl (by decide) rfl (Nat.le_of_ble_eq_true rfl) (Nat.le_of_ble_eq_true rfl) (Nat.le_of_ble_eq_true rfl) dX7_init_48 (fun q22 H23 hP hD hS => ?_)
  have hP : va_P (dC, dI) vwCl [(h, .inr (7, [.ref q1, .int 0, .ref q4, .ref q10, .ref q16, .null, .null])), (q1, .inl (cI, 500, .inl (fun _ => 0))), (q4, .inr (3, [.int 0, .int (-1), .int 0, .ref (u7 35), .int 0, .int 0, .ref (u7 39), .int 0])), ((u7 35), .inr (5, [.ref (u7 36), .ref (u7 37), .ref (u7 38), .int 0])), ((u7 36), .inl (cI, 501, .inl (fun _ => 0))), ((u7 37), .inl (cI, 501, .inl (fun _ => 0))), ((u7 38), .inl (cI, 501, .inl (fun _ => 0))), ((u7 39), .inl (cI, 1002, .inl (fun _ => 0))), (q10, .inr (1, [.ref (u13 41), .int 0, .int 0])), ((u13 41), .inl (cI, 27, .inl (fun _ => 0))), (q16, .inr (6, [.int 0, .int 0, .int 0, .ref (u19 1), .ref (u19 8), .ref (u19 10), .ref (u19 11), .ref (u19 12), .ref (u19 13)])), ((u19 1), .inr (4, [.ref (u19 2), .ref (u19 3), .ref (u19 4), .ref (u19 5), .ref (u19 6), .ref (u19 7), .int 0, .int (-1)])), ((u19 2), .inl (cI, 22, .inl (fun _ => (-1)))), ((u19 3), .inl (cI, 22, .inl (fun _ => (-1)))), ((u19 4), .inl (cI, 22, .inl (fun _ => 0))), ((u19 5), .inl (cI, 64, .inl (fun _ => 0))), ((u19 6), .inl (cI, 64, .inl (fun _ => 0))), ((u19 7), .inl (cI, 64, .inl (fun _ => 0))), ((u19 8), .inr (0, [.int 0, .ref (u19 9)])), ((u19 9), .inl (cI, 3600, .inl (fun _ => 0))), ((u19 10), .inl (cZ, 400, .inl (fun _ => 0))), ((u19 11), .inl (cI, 16, .inl (fun _ => (-1)))), ((u19 12), .inl (cI, 20, .inl (fun _ => 0))), ((u19 13), .inl (cP, 6, .inr (.inr (.inr (.inr (va_up (va_up (va_up (va_up (va_up (va_up (fun _ => none) 0 (some (u19 14))) 1 (some (u19 17))) 2 (some (u19 20))) 3 (some (u19 23))) 4 (some (u19 26))) 5 (some (u19 29)))))))), ((u19 14), .inr (2, [.int 0, .int 0, .int 0, .int 0, .int 0, .int 0, .int 0, .int 0, .ref z, .ref (u19 15), .ref (u19 16)])), ((u19 15), .inl (cI, 26, .inl (fun _ => 0))), ((u19 16), .inl (cI, 20, .inl (fun _ => 0))), ((u19 17), .inr (2, [.int 1, .int 0, .int 0, .int 0, .int 0, .int 0, .int 0, .int 0, .ref z, .ref (u19 18), .ref (u19 19)])), ((u19 18), .inl (cI, 26, .inl (fun _ => 0))), ((u19 19), .inl (cI, 20, .inl (fun _ => 0))), ((u19 20), .inr (2, [.int 2, .int 0, .int 0, .int 0, .int 0, .int 0, .int 0, .int 0, .ref z, .ref (u19 21), .ref (u19 22)])), ((u19 21), .inl (cI, 26, .inl (fun _ => 0))), ((u19 22), .inl (cI, 20, .inl (fun _ => 0))), ((u19 23), .inr (2, [.int 3, .int 0, .int 0, .int 0, .int 0, .int 0, .int 0, .int 0, .ref z, .ref (u19 24), .ref (u19 25)])), ((u19 24), .inl (cI, 26, .inl (fun _ => 0))), ((u19 25), .inl (cI, 20, .inl (fun _ => 0))), ((u19 26), .inr (2, [.int 4, .int 0, .int 0, .int 0, .int 0, .int 0, .int 0, .int 0, .ref z, .ref (u19 27), .ref (u19 28)])), ((u19 27), .inl (cI, 26, .inl (fun _ => 0))), ((u19 28), .inl (cI, 20, .inl (fun _ => 0))), ((u19 29), .inr (2, [.int 5, .int 0, .int 0, .int 0, .int 0, .int 0, .int 0, .int 0, .ref z, .ref (u19 30), .ref (u19 31)])), ((u19 30), .inl (cI, 26, .inl (fun _ => 0))), ((u19 31), .inl (cI, 20, .inl (fun _ => 0))), (q22, .inl (cW, 3, .inr (.inr (.inr (.inr (fun _ => none))))))] H23 := hP
  have hD : va_D A [(h, .inr (7, [.ref q1, .int 0, .ref q4, .ref q10, .ref q16, .null, .null])), (q1, .inl (cI, 500, .inl (fun _ => 0))), (q4, .inr (3, [.int 0, .int (-1), .int 0, .ref (u7 35), .int 0, .int 0, .ref (u7 39), .int 0])), ((u7 35), .inr (5, [.ref (u7 36), .ref (u7 37), .ref (u7 38), .int 0])), ((u7 36), .inl (cI, 501, .inl (fun _ => 0))), ((u7 37), .inl (cI, 501, .inl (fun _ => 0))), ((u7 38), .inl (cI, 501, .inl (fun _ => 0))), ((u7 39), .inl (cI, 1002, .inl (fun _ => 0))), (q10, .inr (1, [.ref (u13 41), .int 0, .int 0])), ((u13 41), .inl (cI, 27, .inl (fun _ => 0))), (q16, .inr (6, [.int 0, .int 0, .int 0, .ref (u19 1), .ref (u19 8), .ref (u19 10), .ref (u19 11), .ref (u19 12), .ref (u19 13)])), ((u19 1), .inr (4, [.ref (u19 2), .ref (u19 3), .ref (u19 4), .ref (u19 5), .ref (u19 6), .ref (u19 7), .int 0, .int (-1)])), ((u19 2), .inl (cI, 22, .inl (fun _ => (-1)))), ((u19 3), .inl (cI, 22, .inl (fun _ => (-1)))), ((u19 4), .inl (cI, 22, .inl (fun _ => 0))), ((u19 5), .inl (cI, 64, .inl (fun _ => 0))), ((u19 6), .inl (cI, 64, .inl (fun _ => 0))), ((u19 7), .inl (cI, 64, .inl (fun _ => 0))), ((u19 8), .inr (0, [.int 0, .ref (u19 9)])), ((u19 9), .inl (cI, 3600, .inl (fun _ => 0))), ((u19 10), .inl (cZ, 400, .inl (fun _ => 0))), ((u19 11), .inl (cI, 16, .inl (fun _ => (-1)))), ((u19 12), .inl (cI, 20, .inl (fun _ => 0))), ((u19 13), .inl (cP, 6, .inr (.inr (.inr (.inr (va_up (va_up (va_up (va_up (va_up (va_up (fun _ => none) 0 (some (u19 14))) 1 (some (u19 17))) 2 (some (u19 20))) 3 (some (u19 23))) 4 (some (u19 26))) 5 (some (u19 29)))))))), ((u19 14), .inr (2, [.int 0, .int 0, .int 0, .int 0, .int 0, .int 0, .int 0, .int 0, .ref z, .ref (u19 15), .ref (u19 16)])), ((u19 15), .inl (cI, 26, .inl (fun _ => 0))), ((u19 16), .inl (cI, 20, .inl (fun _ => 0))), ((u19 17), .inr (2, [.int 1, .int 0, .int 0, .int 0, .int 0, .int 0, .int 0, .int 0, .ref z, .ref (u19 18), .ref (u19 19)])), ((u19 18), .inl (cI, 26, .inl (fun _ => 0))), ((u19 19), .inl (cI, 20, .inl (fun _ => 0))), ((u19 20), .inr (2, [.int 2, .int 0, .int 0, .int 0, .int 0, .int 0, .int 0, .int 0, .ref z, .ref (u19 21), .ref (u19 22)])), ((u19 21), .inl (cI, 26, .inl (fun _ => 0))), ((u19 22), .inl (cI, 20, .inl (fun _ => 0))), ((u19 23), .inr (2, [.int 3, .int 0, .int 0, .int 0, .int 0, .int 0, .int 0, .int 0, .ref z, .ref (u19 24), .ref (u19 25)])), ((u19 24), .inl (cI, 26, .inl (fun _ => 0))), ((u19 25), .inl (cI, 20, .inl (fun _ => 0))), ((u19 26), .inr (2, [.int 4, .int 0, .int 0, .int 0, .int 0, .int 0, .int 0, .int 0, .ref z, .ref (u19 27), .ref (u19 28)])), ((u19 27), .inl (cI, 26, .inl (fun _ => 0))), ((u19 28), .inl (cI, 20, .inl (fun _ => 0))), ((u19 29), .inr (2, [.int 5, .int 0, .int 0, .int 0, .int 0, .int 0, .int 0, .int 0, .ref z, .ref (u19 30), .ref (u19 31)])), ((u19 30), .inl (cI, 26, .inl (fun _ => 0))), ((u19 31), .inl (cI, 20, .inl (fun _ => 0))), (q22, .inl (cW, 3, .inr (.inr (.inr (.inr (fun _ => none))))))] := hD
  refine W.widen (k := 42) (n := 7711) (by decide) (by decide) ?_
  refine va_putF (D := (dC, dI)) (ci := 7) (v := .ref q22) (ty := .array (.object "DepotMarch$World")) (C := RX7) (T := TX7) (N := 7) hx hb hts in_dm_init_X7 tyX7 tyX7_ok nmX7 hown hK hP hD hS 0 rfl rfl 5 (by decide) (hts (.fieldLink RX7 34 "DepotMarch" "images" "[LDepotMarch$World;") (by decide +kernel)) (fun _ h9 => h9) rfl hin rfl (by decide +kernel) rfl rfl (Nat.le_of_ble_eq_true rfl) dX7_init_51 (fun H24 locs hP hD hS => ?_)
  have hP : va_P (dC, dI) vwCl [(h, .inr (7, [.ref q1, .int 0, .ref q4, .ref q10, .ref q16, .ref q22, .null])), (q1, .inl (cI, 500, .inl (fun _ => 0))), (q4, .inr (3, [.int 0, .int (-1), .int 0, .ref (u7 35), .int 0, .int 0, .ref (u7 39), .int 0])), ((u7 35), .inr (5, [.ref (u7 36), .ref (u7 37), .ref (u7 38), .int 0])), ((u7 36), .inl (cI, 501, .inl (fun _ => 0))), ((u7 37), .inl (cI, 501, .inl (fun _ => 0))), ((u7 38), .inl (cI, 501, .inl (fun _ => 0))), ((u7 39), .inl (cI, 1002, .inl (fun _ => 0))), (q10, .inr (1, [.ref (u13 41), .int 0, .int 0])), ((u13 41), .inl (cI, 27, .inl (fun _ => 0))), (q16, .inr (6, [.int 0, .int 0, .int 0, .ref (u19 1), .ref (u19 8), .ref (u19 10), .ref (u19 11), .ref (u19 12), .ref (u19 13)])), ((u19 1), .inr (4, [.ref (u19 2), .ref (u19 3), .ref (u19 4), .ref (u19 5), .ref (u19 6), .ref (u19 7), .int 0, .int (-1)])), ((u19 2), .inl (cI, 22, .inl (fun _ => (-1)))), ((u19 3), .inl (cI, 22, .inl (fun _ => (-1)))), ((u19 4), .inl (cI, 22, .inl (fun _ => 0))), ((u19 5), .inl (cI, 64, .inl (fun _ => 0))), ((u19 6), .inl (cI, 64, .inl (fun _ => 0))), ((u19 7), .inl (cI, 64, .inl (fun _ => 0))), ((u19 8), .inr (0, [.int 0, .ref (u19 9)])), ((u19 9), .inl (cI, 3600, .inl (fun _ => 0))), ((u19 10), .inl (cZ, 400, .inl (fun _ => 0))), ((u19 11), .inl (cI, 16, .inl (fun _ => (-1)))), ((u19 12), .inl (cI, 20, .inl (fun _ => 0))), ((u19 13), .inl (cP, 6, .inr (.inr (.inr (.inr (va_up (va_up (va_up (va_up (va_up (va_up (fun _ => none) 0 (some (u19 14))) 1 (some (u19 17))) 2 (some (u19 20))) 3 (some (u19 23))) 4 (some (u19 26))) 5 (some (u19 29)))))))), ((u19 14), .inr (2, [.int 0, .int 0, .int 0, .int 0, .int 0, .int 0, .int 0, .int 0, .ref z, .ref (u19 15), .ref (u19 16)])), ((u19 15), .inl (cI, 26, .inl (fun _ => 0))), ((u19 16), .inl (cI, 20, .inl (fun _ => 0))), ((u19 17), .inr (2, [.int 1, .int 0, .int 0, .int 0, .int 0, .int 0, .int 0, .int 0, .ref z, .ref (u19 18), .ref (u19 19)])), ((u19 18), .inl (cI, 26, .inl (fun _ => 0))), ((u19 19), .inl (cI, 20, .inl (fun _ => 0))), ((u19 20), .inr (2, [.int 2, .int 0, .int 0, .int 0, .int 0, .int 0, .int 0, .int 0, .ref z, .ref (u19 21), .ref (u19 22)])), ((u19 21), .inl (cI, 26, .inl (fun _ => 0))), ((u19 22), .inl (cI, 20, .inl (fun _ => 0))), ((u19 23), .inr (2, [.int 3, .int 0, .int 0, .int 0, .int 0, .int 0, .int 0, .int 0, .ref z, .ref (u19 24), .ref (u19 25)])), ((u19 24), .inl (cI, 26, .inl (fun _ => 0))), ((u19 25), .inl (cI, 20, .inl (fun _ => 0))), ((u19 26), .inr (2, [.int 4, .int 0, .int 0, .int 0, .int 0, .int 0, .int 0, .int 0, .ref z, .ref (u19 27), .ref (u19 28)])), ((u19 27), .inl (cI, 26, .inl (fun _ => 0))), ((u19 28), .inl (cI, 20, .inl (fun _ => 0))), ((u19 29), .inr (2, [.int 5, .int 0, .int 0, .int 0, .int 0, .int 0, .int 0, .int 0, .ref z, .ref (u19 30), .ref (u19 31)])), ((u19 30), .inl (cI, 26, .inl (fun _ => 0))), ((u19 31), .inl (cI, 20, .inl (fun _ => 0))), (q22, .inl (cW, 3, .inr (.inr (.inr (.inr (fun _ => none))))))] H24 := hP
  have hD : va_D A [(h, .inr (7, [.ref q1, .int 0, .ref q4, .ref q10, .ref q16, .ref q22, .null])), (q1, .inl (cI, 500, .inl (fun _ => 0))), (q4, .inr (3, [.int 0, .int (-1), .int 0, .ref (u7 35), .int 0, .int 0, .ref (u7 39), .int 0])), ((u7 35), .inr (5, [.ref (u7 36), .ref (u7 37), .ref (u7 38), .int 0])), ((u7 36), .inl (cI, 501, .inl (fun _ => 0))), ((u7 37), .inl (cI, 501, .inl (fun _ => 0))), ((u7 38), .inl (cI, 501, .inl (fun _ => 0))), ((u7 39), .inl (cI, 1002, .inl (fun _ => 0))), (q10, .inr (1, [.ref (u13 41), .int 0, .int 0])), ((u13 41), .inl (cI, 27, .inl (fun _ => 0))), (q16, .inr (6, [.int 0, .int 0, .int 0, .ref (u19 1), .ref (u19 8), .ref (u19 10), .ref (u19 11), .ref (u19 12), .ref (u19 13)])), ((u19 1), .inr (4, [.ref (u19 2), .ref (u19 3), .ref (u19 4), .ref (u19 5), .ref (u19 6), .ref (u19 7), .int 0, .int (-1)])), ((u19 2), .inl (cI, 22, .inl (fun _ => (-1)))), ((u19 3), .inl (cI, 22, .inl (fun _ => (-1)))), ((u19 4), .inl (cI, 22, .inl (fun _ => 0))), ((u19 5), .inl (cI, 64, .inl (fun _ => 0))), ((u19 6), .inl (cI, 64, .inl (fun _ => 0))), ((u19 7), .inl (cI, 64, .inl (fun _ => 0))), ((u19 8), .inr (0, [.int 0, .ref (u19 9)])), ((u19 9), .inl (cI, 3600, .inl (fun _ => 0))), ((u19 10), .inl (cZ, 400, .inl (fun _ => 0))), ((u19 11), .inl (cI, 16, .inl (fun _ => (-1)))), ((u19 12), .inl (cI, 20, .inl (fun _ => 0))), ((u19 13), .inl (cP, 6, .inr (.inr (.inr (.inr (va_up (va_up (va_up (va_up (va_up (va_up (fun _ => none) 0 (some (u19 14))) 1 (some (u19 17))) 2 (some (u19 20))) 3 (some (u19 23))) 4 (some (u19 26))) 5 (some (u19 29)))))))), ((u19 14), .inr (2, [.int 0, .int 0, .int 0, .int 0, .int 0, .int 0, .int 0, .int 0, .ref z, .ref (u19 15), .ref (u19 16)])), ((u19 15), .inl (cI, 26, .inl (fun _ => 0))), ((u19 16), .inl (cI, 20, .inl (fun _ => 0))), ((u19 17), .inr (2, [.int 1, .int 0, .int 0, .int 0, .int 0, .int 0, .int 0, .int 0, .ref z, .ref (u19 18), .ref (u19 19)])), ((u19 18), .inl (cI, 26, .inl (fun _ => 0))), ((u19 19), .inl (cI, 20, .inl (fun _ => 0))), ((u19 20), .inr (2, [.int 2, .int 0, .int 0, .int 0, .int 0, .int 0, .int 0, .int 0, .ref z, .ref (u19 21), .ref (u19 22)])), ((u19 21), .inl (cI, 26, .inl (fun _ => 0))), ((u19 22), .inl (cI, 20, .inl (fun _ => 0))), ((u19 23), .inr (2, [.int 3, .int 0, .int 0, .int 0, .int 0, .int 0, .int 0, .int 0, .ref z, .ref (u19 24), .ref (u19 25)])), ((u19 24), .inl (cI, 26, .inl (fun _ => 0))), ((u19 25), .inl (cI, 20, .inl (fun _ => 0))), ((u19 26), .inr (2, [.int 4, .int 0, .int 0, .int 0, .int 0, .int 0, .int 0, .int 0, .ref z, .ref (u19 27), .ref (u19 28)])), ((u19 27), .inl (cI, 26, .inl (fun _ => 0))), ((u19 28), .inl (cI, 20, .inl (fun _ => 0))), ((u19 29), .inr (2, [.int 5, .int 0, .int 0, .int 0, .int 0, .int 0, .int 0, .int 0, .ref z, .ref (u19 30), .ref (u19 31)])), ((u19 30), .inl (cI, 26, .inl (fun _ => 0))), ((u19 31), .inl (cI, 20, .inl (fun _ => 0))), (q22, .inl (cW, 3, .inr (.inr (.inr (.inr (fun _ => none))))))] := hD
  have hP9 := hP.sub (ws' := [(h, .inr (7, [.ref q1, .int 0, .ref q4, .ref q10, .ref q16, .ref q22, .null])), (q1, .inl (cI, 500, .inl (fun _ => 0))), (q4, .inr (3, [.int 0, .int (-1), .int 0, .ref (u7 35), .int 0, .int 0, .ref (u7 39), .int 0])), ((u7 35), .inr (5, [.ref (u7 36), .ref (u7 37), .ref (u7 38), .int 0])), ((u7 36), .inl (cI, 501, .inl (fun _ => 0))), ((u7 37), .inl (cI, 501, .inl (fun _ => 0))), ((u7 38), .inl (cI, 501, .inl (fun _ => 0))), ((u7 39), .inl (cI, 1002, .inl (fun _ => 0))), (q10, .inr (1, [.ref (u13 41), .int 0, .int 0])), ((u13 41), .inl (cI, 27, .inl (fun _ => 0))), (q16, .inr (6, [.int 0, .int 0, .int 0, .ref (u19 1), .ref (u19 8), .ref (u19 10), .ref (u19 11), .ref (u19 12), .ref (u19 13)])), ((u19 1), .inr (4, [.ref (u19 2), .ref (u19 3), .ref (u19 4), .ref (u19 5), .ref (u19 6), .ref (u19 7), .int 0, .int (-1)])), ((u19 2), .inl (cI, 22, .inl (fun _ => (-1)))), ((u19 3), .inl (cI, 22, .inl (fun _ => (-1)))), ((u19 4), .inl (cI, 22, .inl (fun _ => 0))), ((u19 5), .inl (cI, 64, .inl (fun _ => 0))), ((u19 6), .inl (cI, 64, .inl (fun _ => 0))), ((u19 7), .inl (cI, 64, .inl (fun _ => 0))), ((u19 8), .inr (0, [.int 0, .ref (u19 9)])), ((u19 9), .inl (cI, 3600, .inl (fun _ => 0))), ((u19 10), .inl (cZ, 400, .inl (fun _ => 0))), ((u19 11), .inl (cI, 16, .inl (fun _ => (-1)))), ((u19 12), .inl (cI, 20, .inl (fun _ => 0))), ((u19 13), .inl (cP, 6, .inr (.inr (.inr (.inr (va_up (va_up (va_up (va_up (va_up (va_up (fun _ => none) 0 (some (u19 14))) 1 (some (u19 17))) 2 (some (u19 20))) 3 (some (u19 23))) 4 (some (u19 26))) 5 (some (u19 29)))))))), ((u19 14), .inr (2, [.int 0, .int 0, .int 0, .int 0, .int 0, .int 0, .int 0, .int 0, .ref z, .ref (u19 15), .ref (u19 16)])), ((u19 15), .inl (cI, 26, .inl (fun _ => 0))), ((u19 16), .inl (cI, 20, .inl (fun _ => 0))), ((u19 17), .inr (2, [.int 1, .int 0, .int 0, .int 0, .int 0, .int 0, .int 0, .int 0, .ref z, .ref (u19 18), .ref (u19 19)])), ((u19 18), .inl (cI, 26, .inl (fun _ => 0))), ((u19 19), .inl (cI, 20, .inl (fun _ => 0))), ((u19 20), .inr (2, [.int 2, .int 0, .int 0, .int 0, .int 0, .int 0, .int 0, .int 0, .ref z, .ref (u19 21), .ref (u19 22)])), ((u19 21), .inl (cI, 26, .inl (fun _ => 0))), ((u19 22), .inl (cI, 20, .inl (fun _ => 0))), ((u19 23), .inr (2, [.int 3, .int 0, .int 0, .int 0, .int 0, .int 0, .int 0, .int 0, .ref z, .ref (u19 24), .ref (u19 25)])), ((u19 24), .inl (cI, 26, .inl (fun _ => 0))), ((u19 25), .inl (cI, 20, .inl (fun _ => 0))), ((u19 26), .inr (2, [.int 4, .int 0, .int 0, .int 0, .int 0, .int 0, .int 0, .int 0, .ref z, .ref (u19 27), .ref (u19 28)])), ((u19 27), .inl (cI, 26, .inl (fun _ => 0))), ((u19 28), .inl (cI, 20, .inl (fun _ => 0))), ((u19 29), .inr (2, [.int 5, .int 0, .int 0, .int 0, .int 0, .int 0, .int 0, .int 0, .ref z, .ref (u19 30), .ref (u19 31)])), ((u19 30), .inl (cI, 26, .inl (fun _ => 0))), ((u19 31), .inl (cI, 20, .inl (fun _ => 0))), (q22, .inl (cW, 3, .inr (.inr (.inr (.inr (fun _ => none))))))]) [0, 1, 2, 3, 4, 5, 6, 7, 8, 9, 10, 11, 12, 13, 14, 15, 16, 17, 18, 19, 20, 21, 22, 23, 24, 25, 26, 27, 28, 29, 30, 31, 32, 33, 34, 35, 36, 37, 38, 39, 40, 41, 42] rfl
  have hD9 := hD.sub (ws' := [(h, .inr (7, [.ref q1, .int 0, .ref q4, .ref q10, .ref q16, .ref q22, .null])), (q1, .inl (cI, 500, .inl (fun _ => 0))), (q4, .inr (3, [.int 0, .int (-1), .int 0, .ref (u7 35), .int 0, .int 0, .ref (u7 39), .int 0])), ((u7 35), .inr (5, [.ref (u7 36), .ref (u7 37), .ref (u7 38), .int 0])), ((u7 36), .inl (cI, 501, .inl (fun _ => 0))), ((u7 37), .inl (cI, 501, .inl (fun _ => 0))), ((u7 38), .inl (cI, 501, .inl (fun _ => 0))), ((u7 39), .inl (cI, 1002, .inl (fun _ => 0))), (q10, .inr (1, [.ref (u13 41), .int 0, .int 0])), ((u13 41), .inl (cI, 27, .inl (fun _ => 0))), (q16, .inr (6, [.int 0, .int 0, .int 0, .ref (u19 1), .ref (u19 8), .ref (u19 10), .ref (u19 11), .ref (u19 12), .ref (u19 13)])), ((u19 1), .inr (4, [.ref (u19 2), .ref (u19 3), .ref (u19 4), .ref (u19 5), .ref (u19 6), .ref (u19 7), .int 0, .int (-1)])), ((u19 2), .inl (cI, 22, .inl (fun _ => (-1)))), ((u19 3), .inl (cI, 22, .inl (fun _ => (-1)))), ((u19 4), .inl (cI, 22, .inl (fun _ => 0))), ((u19 5), .inl (cI, 64, .inl (fun _ => 0))), ((u19 6), .inl (cI, 64, .inl (fun _ => 0))), ((u19 7), .inl (cI, 64, .inl (fun _ => 0))), ((u19 8), .inr (0, [.int 0, .ref (u19 9)])), ((u19 9), .inl (cI, 3600, .inl (fun _ => 0))), ((u19 10), .inl (cZ, 400, .inl (fun _ => 0))), ((u19 11), .inl (cI, 16, .inl (fun _ => (-1)))), ((u19 12), .inl (cI, 20, .inl (fun _ => 0))), ((u19 13), .inl (cP, 6, .inr (.inr (.inr (.inr (va_up (va_up (va_up (va_up (va_up (va_up (fun _ => none) 0 (some (u19 14))) 1 (some (u19 17))) 2 (some (u19 20))) 3 (some (u19 23))) 4 (some (u19 26))) 5 (some (u19 29)))))))), ((u19 14), .inr (2, [.int 0, .int 0, .int 0, .int 0, .int 0, .int 0, .int 0, .int 0, .ref z, .ref (u19 15), .ref (u19 16)])), ((u19 15), .inl (cI, 26, .inl (fun _ => 0))), ((u19 16), .inl (cI, 20, .inl (fun _ => 0))), ((u19 17), .inr (2, [.int 1, .int 0, .int 0, .int 0, .int 0, .int 0, .int 0, .int 0, .ref z, .ref (u19 18), .ref (u19 19)])), ((u19 18), .inl (cI, 26, .inl (fun _ => 0))), ((u19 19), .inl (cI, 20, .inl (fun _ => 0))), ((u19 20), .inr (2, [.int 2, .int 0, .int 0, .int 0, .int 0, .int 0, .int 0, .int 0, .ref z, .ref (u19 21), .ref (u19 22)])), ((u19 21), .inl (cI, 26, .inl (fun _ => 0))), ((u19 22), .inl (cI, 20, .inl (fun _ => 0))), ((u19 23), .inr (2, [.int 3, .int 0, .int 0, .int 0, .int 0, .int 0, .int 0, .int 0, .ref z, .ref (u19 24), .ref (u19 25)])), ((u19 24), .inl (cI, 26, .inl (fun _ => 0))), ((u19 25), .inl (cI, 20, .inl (fun _ => 0))), ((u19 26), .inr (2, [.int 4, .int 0, .int 0, .int 0, .int 0, .int 0, .int 0, .int 0, .ref z, .ref (u19 27), .ref (u19 28)])), ((u19 27), .inl (cI, 26, .inl (fun _ => 0))), ((u19 28), .inl (cI, 20, .inl (fun _ => 0))), ((u19 29), .inr (2, [.int 5, .int 0, .int 0, .int 0, .int 0, .int 0, .int 0, .int 0, .ref z, .ref (u19 30), .ref (u19 31)])), ((u19 30), .inl (cI, 26, .inl (fun _ => 0))), ((u19 31), .inl (cI, 20, .inl (fun _ => 0))), (q22, .inl (cW, 3, .inr (.inr (.inr (.inr (fun _ => none))))))]) [0, 1, 2, 3, 4, 5, 6, 7, 8, 9, 10, 11, 12, 13, 14, 15, 16, 17, 18, 19, 20, 21, 22, 23, 24, 25, 26, 27, 28, 29, 30, 31, 32, 33, 34, 35, 36, 37, 38, 39, 40, 41, 42] (by decide) rfl
  refine W.widen (k := 42) (n := 7711) (by decide) (by decide) ?_
  exact W.vret hx hb hr (fun t ht hW => ⟨⟨(fun k => [q16, (u19 1), (u19 2), (u19 3), (u19 4), (u19 5), (u19 6), (u19 7), (u19 8), (u19 9), (u19 10), (u19 11), (u19 12), (u19 13), (u19 14), (u19 15), (u19 16), (u19 17), (u19 18), (u19 19), (u19 20), (u19 21), (u19 22), (u19 23), (u19 24), (u19 25), (u19 26), (u19 27), (u19 28), (u19 29), (u19 30), (u19 31), h, q1, q4, (u7 35), (u7 36), (u7 37), (u7 38), (u7 39), q10, (u13 41), q22].getD k 0), rfl, trivial, by rw [ht]; exact hP9, hD9⟩, hS.F ht⟩) hS.2.2 dX7_init_54
end
