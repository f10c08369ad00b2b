section
-- ===== PART A: goes FIRST, ahead of the names: the tables' words, and 'selects' of the private methods out of them =====
/-- a private method of a class that the tables say can be made, by its rows of tables_1 -/
def lw_okq (q : MethodName × Nat) : Prop := (q.1.cls ≠ "java/lang/invoke/MethodHandle" ∧ q.1.cls ≠ "java/lang/invoke/VarHandle") ∧ Cond.instantiable q.1.cls q.2 ∈ tables_1 ∧ Cond.privateMethod q.1 ∈ tables_1 ∧ Cond.instanceMethod q.1 ∈ tables_1
theorem lw_p0 : lw_okq (⟨"LastCalled", "refuse", "(I)I"⟩, 9) := ⟨⟨by decide +kernel, by decide +kernel⟩, List.mem_of_getElem? (i := 23) (by decide +kernel), List.mem_of_getElem? (i := 257) (by decide +kernel), List.mem_of_getElem? (i := 258) (by decide +kernel)⟩
theorem lw_p1 : lw_okq (⟨"LastCalled$Text", "advance", "()V"⟩, 6) := ⟨⟨by decide +kernel, by decide +kernel⟩, List.mem_of_getElem? (i := 94) (by decide +kernel), List.mem_of_getElem? (i := 296) (by decide +kernel), List.mem_of_getElem? (i := 297) (by decide +kernel)⟩
theorem lw_p2 : lw_okq (⟨"LastCalled$Text", "isWord", "(Ljava/lang/String;)Z"⟩, 6) := ⟨⟨by decide +kernel, by decide +kernel⟩, List.mem_of_getElem? (i := 94) (by decide +kernel), List.mem_of_getElem? (i := 304) (by decide +kernel), List.mem_of_getElem? (i := 305) (by decide +kernel)⟩
theorem lw_p3 : lw_okq (⟨"LastCalled$Text", "isNumberNext", "(I)Z"⟩, 6) := ⟨⟨by decide +kernel, by decide +kernel⟩, List.mem_of_getElem? (i := 94) (by decide +kernel), List.mem_of_getElem? (i := 356) (by decide +kernel), List.mem_of_getElem? (i := 357) (by decide +kernel)⟩
theorem lw_p4 : lw_okq (⟨"LastCalled$Text", "isItem", "(LLastCalled$Hamlet;)Z"⟩, 6) := ⟨⟨by decide +kernel, by decide +kernel⟩, List.mem_of_getElem? (i := 94) (by decide +kernel), List.mem_of_getElem? (i := 361) (by decide +kernel), List.mem_of_getElem? (i := 362) (by decide +kernel)⟩
theorem lw_p5 : lw_okq (⟨"LastCalled$Text", "isOne", "(LLastCalled$Hamlet;)Z"⟩, 6) := ⟨⟨by decide +kernel, by decide +kernel⟩, List.mem_of_getElem? (i := 94) (by decide +kernel), List.mem_of_getElem? (i := 366) (by decide +kernel), List.mem_of_getElem? (i := 367) (by decide +kernel)⟩
theorem lw_p6 : lw_okq (⟨"LastCalled$Text", "isBears", "(LLastCalled$Hamlet;)Z"⟩, 6) := ⟨⟨by decide +kernel, by decide +kernel⟩, List.mem_of_getElem? (i := 94) (by decide +kernel), List.mem_of_getElem? (i := 372) (by decide +kernel), List.mem_of_getElem? (i := 373) (by decide +kernel)⟩
theorem lw_p7 : lw_okq (⟨"LastCalled$Text", "isNone", "(LLastCalled$Hamlet;)Z"⟩, 6) := ⟨⟨by decide +kernel, by decide +kernel⟩, List.mem_of_getElem? (i := 94) (by decide +kernel), List.mem_of_getElem? (i := 382) (by decide +kernel), List.mem_of_getElem? (i := 383) (by decide +kernel)⟩
theorem lw_p8 : lw_okq (⟨"LastCalled", "isThere", "(I)Z"⟩, 9) := ⟨⟨by decide +kernel, by decide +kernel⟩, List.mem_of_getElem? (i := 23) (by decide +kernel), List.mem_of_getElem? (i := 397) (by decide +kernel), List.mem_of_getElem? (i := 398) (by decide +kernel)⟩
theorem lw_p9 : lw_okq (⟨"LastCalled", "turnersAt", "(II)I"⟩, 9) := ⟨⟨by decide +kernel, by decide +kernel⟩, List.mem_of_getElem? (i := 23) (by decide +kernel), List.mem_of_getElem? (i := 401) (by decide +kernel), List.mem_of_getElem? (i := 402) (by decide +kernel)⟩
theorem lw_p10 : lw_okq (⟨"LastCalled$Search", "lastCall", "([ILLastCalled$Hearing;II)I"⟩, 4) := ⟨⟨by decide +kernel, by decide +kernel⟩, List.mem_of_getElem? (i := 200) (by decide +kernel), List.mem_of_getElem? (i := 512) (by decide +kernel), List.mem_of_getElem? (i := 513) (by decide +kernel)⟩
theorem lw_p11 : lw_okq (⟨"LastCalled$Search", "callOnce", "(LLastCalled$Hamlet;LLastCalled$Hearing;I)V"⟩, 4) := ⟨⟨by decide +kernel, by decide +kernel⟩, List.mem_of_getElem? (i := 200) (by decide +kernel), List.mem_of_getElem? (i := 518) (by decide +kernel), List.mem_of_getElem? (i := 519) (by decide +kernel)⟩
theorem lw_p12 : lw_okq (⟨"LastCalled$Search", "tryLastCalls", "([ILLastCalled$Hearing;II)V"⟩, 4) := ⟨⟨by decide +kernel, by decide +kernel⟩, List.mem_of_getElem? (i := 200) (by decide +kernel), List.mem_of_getElem? (i := 536) (by decide +kernel), List.mem_of_getElem? (i := 537) (by decide +kernel)⟩
theorem lw_p13 : lw_okq (⟨"LastCalled$Search", "ownersBehind", "(III)I"⟩, 4) := ⟨⟨by decide +kernel, by decide +kernel⟩, List.mem_of_getElem? (i := 200) (by decide +kernel), List.mem_of_getElem? (i := 540) (by decide +kernel), List.mem_of_getElem? (i := 541) (by decide +kernel)⟩
theorem lw_p14 : lw_okq (⟨"LastCalled", "fits", "(III)Z"⟩, 9) := ⟨⟨by decide +kernel, by decide +kernel⟩, List.mem_of_getElem? (i := 23) (by decide +kernel), List.mem_of_getElem? (i := 598) (by decide +kernel), List.mem_of_getElem? (i := 599) (by decide +kernel)⟩
theorem lw_p15 : lw_okq (⟨"LastCalled", "placesThatFit", "(I)I"⟩, 9) := ⟨⟨by decide +kernel, by decide +kernel⟩, List.mem_of_getElem? (i := 23) (by decide +kernel), List.mem_of_getElem? (i := 608) (by decide +kernel), List.mem_of_getElem? (i := 609) (by decide +kernel)⟩
def lw_privs_1 : List (MethodName × Nat) := [(⟨"LastCalled", "refuse", "(I)I"⟩, 9), (⟨"LastCalled$Text", "advance", "()V"⟩, 6), (⟨"LastCalled$Text", "isWord", "(Ljava/lang/String;)Z"⟩, 6), (⟨"LastCalled$Text", "isNumberNext", "(I)Z"⟩, 6), (⟨"LastCalled$Text", "isItem", "(LLastCalled$Hamlet;)Z"⟩, 6), (⟨"LastCalled$Text", "isOne", "(LLastCalled$Hamlet;)Z"⟩, 6), (⟨"LastCalled$Text", "isBears", "(LLastCalled$Hamlet;)Z"⟩, 6), (⟨"LastCalled$Text", "isNone", "(LLastCalled$Hamlet;)Z"⟩, 6), (⟨"LastCalled", "isThere", "(I)Z"⟩, 9), (⟨"LastCalled", "turnersAt", "(II)I"⟩, 9), (⟨"LastCalled$Search", "lastCall", "([ILLastCalled$Hearing;II)I"⟩, 4), (⟨"LastCalled$Search", "callOnce", "(LLastCalled$Hamlet;LLastCalled$Hearing;I)V"⟩, 4), (⟨"LastCalled$Search", "tryLastCalls", "([ILLastCalled$Hearing;II)V"⟩, 4), (⟨"LastCalled$Search", "ownersBehind", "(III)I"⟩, 4), (⟨"LastCalled", "fits", "(III)Z"⟩, 9), (⟨"LastCalled", "placesThatFit", "(I)I"⟩, 9)]
theorem lw_r1 : ∀ q ∈ lw_privs_1, lw_okq q := List.forall_mem_cons.mpr ⟨lw_p0, List.forall_mem_cons.mpr ⟨lw_p1, List.forall_mem_cons.mpr ⟨lw_p2, List.forall_mem_cons.mpr ⟨lw_p3, List.forall_mem_cons.mpr ⟨lw_p4, List.forall_mem_cons.mpr ⟨lw_p5, List.forall_mem_cons.mpr ⟨lw_p6, List.forall_mem_cons.mpr ⟨lw_p7, List.forall_mem_cons.mpr ⟨lw_p8, List.forall_mem_cons.mpr ⟨lw_p9, List.forall_mem_cons.mpr ⟨lw_p10, List.forall_mem_cons.mpr ⟨lw_p11, List.forall_mem_cons.mpr ⟨lw_p12, List.forall_mem_cons.mpr ⟨lw_p13, List.forall_mem_cons.mpr ⟨lw_p14, List.forall_mem_cons.mpr ⟨lw_p15, fun _ h => absurd h List.not_mem_nil⟩⟩⟩⟩⟩⟩⟩⟩⟩⟩⟩⟩⟩⟩⟩⟩
theorem lw_p16 : lw_okq (⟨"LastCalled", "placesTurningAt", "(II)I"⟩, 9) := ⟨⟨by decide +kernel, by decide +kernel⟩, List.mem_of_getElem? (i := 23) (by decide +kernel), List.mem_of_getElem? (i := 616) (by decide +kernel), List.mem_of_getElem? (i := 617) (by decide +kernel)⟩
theorem lw_p17 : lw_okq (⟨"LastCalled", "amount", "(I)I"⟩, 9) := ⟨⟨by decide +kernel, by decide +kernel⟩, List.mem_of_getElem? (i := 23) (by decide +kernel), List.mem_of_getElem? (i := 663) (by decide +kernel), List.mem_of_getElem? (i := 664) (by decide +kernel)⟩
theorem lw_p18 : lw_okq (⟨"LastCalledModel", "bad", "(I)I"⟩, 19) := ⟨⟨by decide +kernel, by decide +kernel⟩, List.mem_of_getElem? (i := 680) (by decide +kernel), List.mem_of_getElem? (i := 755) (by decide +kernel), List.mem_of_getElem? (i := 756) (by decide +kernel)⟩
theorem lw_p19 : lw_okq (⟨"LastCalledModel", "many", "()I"⟩, 19) := ⟨⟨by decide +kernel, by decide +kernel⟩, List.mem_of_getElem? (i := 680) (by decide +kernel), List.mem_of_getElem? (i := 759) (by decide +kernel), List.mem_of_getElem? (i := 760) (by decide +kernel)⟩
theorem lw_p20 : lw_okq (⟨"LastCalledModel", "full", "()I"⟩, 19) := ⟨⟨by decide +kernel, by decide +kernel⟩, List.mem_of_getElem? (i := 680) (by decide +kernel), List.mem_of_getElem? (i := 772) (by decide +kernel), List.mem_of_getElem? (i := 773) (by decide +kernel)⟩
theorem lw_p21 : lw_okq (⟨"LastCalledModel", "isOne", "(I)Z"⟩, 19) := ⟨⟨by decide +kernel, by decide +kernel⟩, List.mem_of_getElem? (i := 680) (by decide +kernel), List.mem_of_getElem? (i := 783) (by decide +kernel), List.mem_of_getElem? (i := 784) (by decide +kernel)⟩
theorem lw_p22 : lw_okq (⟨"LastCalledModel", "keep", "()V"⟩, 19) := ⟨⟨by decide +kernel, by decide +kernel⟩, List.mem_of_getElem? (i := 680) (by decide +kernel), List.mem_of_getElem? (i := 787) (by decide +kernel), List.mem_of_getElem? (i := 788) (by decide +kernel)⟩
theorem lw_p23 : lw_okq (⟨"LastCalledModel", "layHand", "()V"⟩, 19) := ⟨⟨by decide +kernel, by decide +kernel⟩, List.mem_of_getElem? (i := 680) (by decide +kernel), List.mem_of_getElem? (i := 791) (by decide +kernel), List.mem_of_getElem? (i := 792) (by decide +kernel)⟩
theorem lw_p24 : lw_okq (⟨"LastCalledModel", "goCall", "(II)I"⟩, 19) := ⟨⟨by decide +kernel, by decide +kernel⟩, List.mem_of_getElem? (i := 680) (by decide +kernel), List.mem_of_getElem? (i := 795) (by decide +kernel), List.mem_of_getElem? (i := 796) (by decide +kernel)⟩
theorem lw_p25 : lw_okq (⟨"LastCalledModel", "turning", "(II)I"⟩, 19) := ⟨⟨by decide +kernel, by decide +kernel⟩, List.mem_of_getElem? (i := 680) (by decide +kernel), List.mem_of_getElem? (i := 799) (by decide +kernel), List.mem_of_getElem? (i := 800) (by decide +kernel)⟩
theorem lw_p26 : lw_okq (⟨"LastCalledModel", "bearersOf", "(I)I"⟩, 19) := ⟨⟨by decide +kernel, by decide +kernel⟩, List.mem_of_getElem? (i := 680) (by decide +kernel), List.mem_of_getElem? (i := 803) (by decide +kernel), List.mem_of_getElem? (i := 804) (by decide +kernel)⟩
theorem lw_p27 : lw_okq (⟨"LastCalledModel", "goTurn", "(II)V"⟩, 19) := ⟨⟨by decide +kernel, by decide +kernel⟩, List.mem_of_getElem? (i := 680) (by decide +kernel), List.mem_of_getElem? (i := 816) (by decide +kernel), List.mem_of_getElem? (i := 817) (by decide +kernel)⟩
theorem lw_p28 : lw_okq (⟨"LastCalledModel", "no", "()I"⟩, 19) := ⟨⟨by decide +kernel, by decide +kernel⟩, List.mem_of_getElem? (i := 680) (by decide +kernel), List.mem_of_getElem? (i := 832) (by decide +kernel), List.mem_of_getElem? (i := 833) (by decide +kernel)⟩
theorem lw_p29 : lw_okq (⟨"LastCalledModel", "layCalls", "(II)V"⟩, 19) := ⟨⟨by decide +kernel, by decide +kernel⟩, List.mem_of_getElem? (i := 680) (by decide +kernel), List.mem_of_getElem? (i := 860) (by decide +kernel), List.mem_of_getElem? (i := 861) (by decide +kernel)⟩
theorem lw_p30 : lw_okq (⟨"LastCalledModel", "goCodes", "(II)V"⟩, 19) := ⟨⟨by decide +kernel, by decide +kernel⟩, List.mem_of_getElem? (i := 680) (by decide +kernel), List.mem_of_getElem? (i := 864) (by decide +kernel), List.mem_of_getElem? (i := 865) (by decide +kernel)⟩
theorem lw_p31 : lw_okq (⟨"LastCalledModel", "layOwn", "()V"⟩, 19) := ⟨⟨by decide +kernel, by decide +kernel⟩, List.mem_of_getElem? (i := 680) (by decide +kernel), List.mem_of_getElem? (i := 872) (by decide +kernel), List.mem_of_getElem? (i := 873) (by decide +kernel)⟩
def lw_privs_2 : List (MethodName × Nat) := [(⟨"LastCalled", "placesTurningAt", "(II)I"⟩, 9), (⟨"LastCalled", "amount", "(I)I"⟩, 9), (⟨"LastCalledModel", "bad", "(I)I"⟩, 19), (⟨"LastCalledModel", "many", "()I"⟩, 19), (⟨"LastCalledModel", "full", "()I"⟩, 19), (⟨"LastCalledModel", "isOne", "(I)Z"⟩, 19), (⟨"LastCalledModel", "keep", "()V"⟩, 19), (⟨"LastCalledModel", "layHand", "()V"⟩, 19), (⟨"LastCalledModel", "goCall", "(II)I"⟩, 19), (⟨"LastCalledModel", "turning", "(II)I"⟩, 19), (⟨"LastCalledModel", "bearersOf", "(I)I"⟩, 19), (⟨"LastCalledModel", "goTurn", "(II)V"⟩, 19), (⟨"LastCalledModel", "no", "()I"⟩, 19), (⟨"LastCalledModel", "layCalls", "(II)V"⟩, 19), (⟨"LastCalledModel", "goCodes", "(II)V"⟩, 19), (⟨"LastCalledModel", "layOwn", "()V"⟩, 19)]
theorem lw_r2 : ∀ q ∈ lw_privs_2, lw_okq q := List.forall_mem_cons.mpr ⟨lw_p16, List.forall_mem_cons.mpr ⟨lw_p17, List.forall_mem_cons.mpr ⟨lw_p18, List.forall_mem_cons.mpr ⟨lw_p19, List.forall_mem_cons.mpr ⟨lw_p20, List.forall_mem_cons.mpr ⟨lw_p21, List.forall_mem_cons.mpr ⟨lw_p22, List.forall_mem_cons.mpr ⟨lw_p23, List.forall_mem_cons.mpr ⟨lw_p24, List.forall_mem_cons.mpr ⟨lw_p25, List.forall_mem_cons.mpr ⟨lw_p26, List.forall_mem_cons.mpr ⟨lw_p27, List.forall_mem_cons.mpr ⟨lw_p28, List.forall_mem_cons.mpr ⟨lw_p29, List.forall_mem_cons.mpr ⟨lw_p30, List.forall_mem_cons.mpr ⟨lw_p31, fun _ h => absurd h List.not_mem_nil⟩⟩⟩⟩⟩⟩⟩⟩⟩⟩⟩⟩⟩⟩⟩⟩
theorem lw_p32 : lw_okq (⟨"LastCalledModel", "judgeOwn", "(II)V"⟩, 19) := ⟨⟨by decide +kernel, by decide +kernel⟩, List.mem_of_getElem? (i := 680) (by decide +kernel), List.mem_of_getElem? (i := 876) (by decide +kernel), List.mem_of_getElem? (i := 877) (by decide +kernel)⟩
theorem lw_p33 : lw_okq (⟨"LastCalledModel", "ownNow", "()I"⟩, 19) := ⟨⟨by decide +kernel, by decide +kernel⟩, List.mem_of_getElem? (i := 680) (by decide +kernel), List.mem_of_getElem? (i := 880) (by decide +kernel), List.mem_of_getElem? (i := 881) (by decide +kernel)⟩
theorem lw_p34 : lw_okq (⟨"LastCalledModel", "fraction", "(JJ)V"⟩, 19) := ⟨⟨by decide +kernel, by decide +kernel⟩, List.mem_of_getElem? (i := 680) (by decide +kernel), List.mem_of_getElem? (i := 897) (by decide +kernel), List.mem_of_getElem? (i := 898) (by decide +kernel)⟩
theorem lw_p35 : lw_okq (⟨"LastCalledModel", "penceOn", "(I)I"⟩, 19) := ⟨⟨by decide +kernel, by decide +kernel⟩, List.mem_of_getElem? (i := 680) (by decide +kernel), List.mem_of_getElem? (i := 901) (by decide +kernel), List.mem_of_getElem? (i := 902) (by decide +kernel)⟩
theorem lw_p36 : lw_okq (⟨"LastCalledModel", "areSo", "(III)Z"⟩, 19) := ⟨⟨by decide +kernel, by decide +kernel⟩, List.mem_of_getElem? (i := 680) (by decide +kernel), List.mem_of_getElem? (i := 925) (by decide +kernel), List.mem_of_getElem? (i := 926) (by decide +kernel)⟩
theorem lw_p37 : lw_okq (⟨"LastCalledModel", "placesOf", "(I)I"⟩, 19) := ⟨⟨by decide +kernel, by decide +kernel⟩, List.mem_of_getElem? (i := 680) (by decide +kernel), List.mem_of_getElem? (i := 933) (by decide +kernel), List.mem_of_getElem? (i := 934) (by decide +kernel)⟩
theorem lw_p38 : lw_okq (⟨"LastCalledModel", "lookAt", "(I)V"⟩, 19) := ⟨⟨by decide +kernel, by decide +kernel⟩, List.mem_of_getElem? (i := 680) (by decide +kernel), List.mem_of_getElem? (i := 970) (by decide +kernel), List.mem_of_getElem? (i := 971) (by decide +kernel)⟩
theorem lw_p39 : lw_okq (⟨"LastCalledModel", "takesHamlet", "()Z"⟩, 19) := ⟨⟨by decide +kernel, by decide +kernel⟩, List.mem_of_getElem? (i := 680) (by decide +kernel), List.mem_of_getElem? (i := 984) (by decide +kernel), List.mem_of_getElem? (i := 985) (by decide +kernel)⟩
theorem lw_p40 : lw_okq (⟨"LastCalledModel", "spells", "(IIIIIII)Z"⟩, 19) := ⟨⟨by decide +kernel, by decide +kernel⟩, List.mem_of_getElem? (i := 680) (by decide +kernel), List.mem_of_getElem? (i := 988) (by decide +kernel), List.mem_of_getElem? (i := 989) (by decide +kernel)⟩
theorem lw_p41 : lw_okq (⟨"LastCalledModel", "goBehind", "()V"⟩, 19) := ⟨⟨by decide +kernel, by decide +kernel⟩, List.mem_of_getElem? (i := 680) (by decide +kernel), List.mem_of_getElem? (i := 992) (by decide +kernel), List.mem_of_getElem? (i := 993) (by decide +kernel)⟩
theorem lw_p42 : lw_okq (⟨"LastCalledModel", "takes", "(III)Z"⟩, 19) := ⟨⟨by decide +kernel, by decide +kernel⟩, List.mem_of_getElem? (i := 680) (by decide +kernel), List.mem_of_getElem? (i := 996) (by decide +kernel), List.mem_of_getElem? (i := 997) (by decide +kernel)⟩
theorem lw_p43 : lw_okq (⟨"LastCalledModel", "takesItem", "()Z"⟩, 19) := ⟨⟨by decide +kernel, by decide +kernel⟩, List.mem_of_getElem? (i := 680) (by decide +kernel), List.mem_of_getElem? (i := 1000) (by decide +kernel), List.mem_of_getElem? (i := 1001) (by decide +kernel)⟩
theorem lw_p44 : lw_okq (⟨"LastCalledModel", "takesOne", "()Z"⟩, 19) := ⟨⟨by decide +kernel, by decide +kernel⟩, List.mem_of_getElem? (i := 680) (by decide +kernel), List.mem_of_getElem? (i := 1004) (by decide +kernel), List.mem_of_getElem? (i := 1005) (by decide +kernel)⟩
theorem lw_p45 : lw_okq (⟨"LastCalledModel", "takesBears", "(Z)Z"⟩, 19) := ⟨⟨by decide +kernel, by decide +kernel⟩, List.mem_of_getElem? (i := 680) (by decide +kernel), List.mem_of_getElem? (i := 1008) (by decide +kernel), List.mem_of_getElem? (i := 1009) (by decide +kernel)⟩
theorem lw_p46 : lw_okq (⟨"LastCalledModel", "counted", "(I)I"⟩, 19) := ⟨⟨by decide +kernel, by decide +kernel⟩, List.mem_of_getElem? (i := 680) (by decide +kernel), List.mem_of_getElem? (i := 1033) (by decide +kernel), List.mem_of_getElem? (i := 1034) (by decide +kernel)⟩
theorem lw_p47 : lw_okq (⟨"LastCalledModel", "sums", "(JII)J"⟩, 19) := ⟨⟨by decide +kernel, by decide +kernel⟩, List.mem_of_getElem? (i := 680) (by decide +kernel), List.mem_of_getElem? (i := 1043) (by decide +kernel), List.mem_of_getElem? (i := 1044) (by decide +kernel)⟩
def lw_privs_3 : List (MethodName × Nat) := [(⟨"LastCalledModel", "judgeOwn", "(II)V"⟩, 19), (⟨"LastCalledModel", "ownNow", "()I"⟩, 19), (⟨"LastCalledModel", "fraction", "(JJ)V"⟩, 19), (⟨"LastCalledModel", "penceOn", "(I)I"⟩, 19), (⟨"LastCalledModel", "areSo", "(III)Z"⟩, 19), (⟨"LastCalledModel", "placesOf", "(I)I"⟩, 19), (⟨"LastCalledModel", "lookAt", "(I)V"⟩, 19), (⟨"LastCalledModel", "takesHamlet", "()Z"⟩, 19), (⟨"LastCalledModel", "spells", "(IIIIIII)Z"⟩, 19), (⟨"LastCalledModel", "goBehind", "()V"⟩, 19), (⟨"LastCalledModel", "takes", "(III)Z"⟩, 19), (⟨"LastCalledModel", "takesItem", "()Z"⟩, 19), (⟨"LastCalledModel", "takesOne", "()Z"⟩, 19), (⟨"LastCalledModel", "takesBears", "(Z)Z"⟩, 19), (⟨"LastCalledModel", "counted", "(I)I"⟩, 19), (⟨"LastCalledModel", "sums", "(JII)J"⟩, 19)]
theorem lw_r3 : ∀ q ∈ lw_privs_3, lw_okq q := List.forall_mem_cons.mpr ⟨lw_p32, List.forall_mem_cons.mpr ⟨lw_p33, List.forall_mem_cons.mpr ⟨lw_p34, List.forall_mem_cons.mpr ⟨lw_p35, List.forall_mem_cons.mpr ⟨lw_p36, List.forall_mem_cons.mpr ⟨lw_p37, List.forall_mem_cons.mpr ⟨lw_p38, List.forall_mem_cons.mpr ⟨lw_p39, List.forall_mem_cons.mpr ⟨lw_p40, List.forall_mem_cons.mpr ⟨lw_p41, List.forall_mem_cons.mpr ⟨lw_p42, List.forall_mem_cons.mpr ⟨lw_p43, List.forall_mem_cons.mpr ⟨lw_p44, List.forall_mem_cons.mpr ⟨lw_p45, List.forall_mem_cons.mpr ⟨lw_p46, List.forall_mem_cons.mpr ⟨lw_p47, fun _ h => absurd h List.not_mem_nil⟩⟩⟩⟩⟩⟩⟩⟩⟩⟩⟩⟩⟩⟩⟩⟩
def lw_privs : List (MethodName × Nat) := lw_privs_1 ++ (lw_privs_2 ++ (lw_privs_3))
def lw_tbl : List Cond := k2_sels lw_privs ++ tables_1
theorem lw_privs_ok : ∀ q ∈ lw_privs, lw_okq q := by
  show ∀ q ∈ lw_privs_1 ++ (lw_privs_2 ++ (lw_privs_3)), lw_okq q
  exact List.forall_mem_append.mpr ⟨lw_r1, List.forall_mem_append.mpr ⟨lw_r2, lw_r3⟩⟩
-- ===== end of PART A; then your names; then what follows =====
end
section
def RX0 : String := "LastCalled$Careful"
def TX0 : u_T := fun k => match k with
  | _ => ("", "", "", false)
def tyX0 : Nat → FieldType := fun k => match k with
  | _ => .int
theorem nmX0 : ∀ a, a < 0 → ∀ b, b < 0 → a ≠ b → (TX0 a).2.1 ≠ (TX0 b).2.1 := by decide +kernel
theorem tyX0_ok : ∀ k, k < 0 → parseFieldDescriptor (TX0 k).2.2.1 = some (tyX0 k) := by decide +kernel
abbrev cX0_init : ByteArray := prog_2_method_1_code
def yX0_init : MethodName := ⟨RX0, "<init>", "()V"⟩
abbrev cX0_turns : ByteArray := prog_2_method_2_code
def yX0_turns : MethodName := ⟨RX0, "turns", "(IZZI)Z"⟩
def RX1 : String := "LastCalled$Child"
def TX1 : u_T := fun k => match k with
  | _ => ("", "", "", false)
def tyX1 : Nat → FieldType := fun k => match k with
  | _ => .int
theorem nmX1 : ∀ a, a < 0 → ∀ b, b < 0 → a ≠ b → (TX1 a).2.1 ≠ (TX1 b).2.1 := by decide +kernel
theorem tyX1_ok : ∀ k, k < 0 → parseFieldDescriptor (TX1 k).2.2.1 = some (tyX1 k) := by decide +kernel
abbrev cX1_init : ByteArray := prog_3_method_1_code
def yX1_init : MethodName := ⟨RX1, "<init>", "()V"⟩
abbrev cX1_turns : ByteArray := prog_3_method_2_code
def yX1_turns : MethodName := ⟨RX1, "turns", "(IZZI)Z"⟩
def RX2 : String := "LastCalled$Cliff"
def TX2 : u_T := fun k => match k with
  | _ => ("", "", "", false)
def tyX2 : Nat → FieldType := fun k => match k with
  | _ => .int
theorem nmX2 : ∀ a, a < 0 → ∀ b, b < 0 → a ≠ b → (TX2 a).2.1 ≠ (TX2 b).2.1 := by decide +kernel
theorem tyX2_ok : ∀ k, k < 0 → parseFieldDescriptor (TX2 k).2.2.1 = some (tyX2 k) := by decide +kernel
abbrev cX2_init : ByteArray := prog_4_method_1_code
def yX2_init : MethodName := ⟨RX2, "<init>", "()V"⟩
abbrev cX2_turns : ByteArray := prog_4_method_2_code
def yX2_turns : MethodName := ⟨RX2, "turns", "(IZZI)Z"⟩
def RX3 : String := "LastCalled$Deaf"
def TX3 : u_T := fun k => match k with
  | _ => ("", "", "", false)
def tyX3 : Nat → FieldType := fun k => match k with
  | _ => .int
theorem nmX3 : ∀ a, a < 0 → ∀ b, b < 0 → a ≠ b → (TX3 a).2.1 ≠ (TX3 b).2.1 := by decide +kernel
theorem tyX3_ok : ∀ k, k < 0 → parseFieldDescriptor (TX3 k).2.2.1 = some (tyX3 k) := by decide +kernel
abbrev cX3_init : ByteArray := prog_5_method_1_code
def yX3_init : MethodName := ⟨RX3, "<init>", "()V"⟩
abbrev cX3_turns : ByteArray := prog_5_method_2_code
def yX3_turns : MethodName := ⟨RX3, "turns", "(IZZI)Z"⟩
def RX4 : String := "LastCalled$Fraction"
def TX4 : u_T := fun k => match k with
  | 0 => ("LastCalled$Fraction", "above", "J", false)
  | _ => ("LastCalled$Fraction", "below", "J", false)
def tyX4 : Nat → FieldType := fun k => match k with
  | 0 => .long
  | _ => .long
theorem nmX4 : ∀ a, a < 2 → ∀ b, b < 2 → a ≠ b → (TX4 a).2.1 ≠ (TX4 b).2.1 := by decide +kernel
theorem tyX4_ok : ∀ k, k < 2 → parseFieldDescriptor (TX4 k).2.2.1 = some (tyX4 k) := by decide +kernel
abbrev cX4_init : ByteArray := prog_6_method_1_code
def yX4_init : MethodName := ⟨RX4, "<init>", "()V"⟩
abbrev cX4_become : ByteArray := prog_6_method_2_code
def yX4_become : MethodName := ⟨RX4, "become", "(JJ)V"⟩
abbrev cX4_commonDivisor : ByteArray := prog_6_method_3_code
def yX4_commonDivisor : MethodName := ⟨RX4, "commonDivisor", "(JJ)J"⟩
def RX5 : String := "LastCalled$Hamlet"
def TX5 : u_T := fun k => match k with
  | 0 => ("LastCalled$Hamlet", "date", "I", false)
  | 1 => ("LastCalled$Hamlet", "people", "I", false)
  | 2 => ("LastCalled$Hamlet", "kinds", "[I", true)
  | 3 => ("LastCalled$Hamlet", "places", "[I", true)
  | 4 => ("LastCalled$Hamlet", "bearing", "[I", true)
  | 5 => ("LastCalled$Hamlet", "deeds", "I", false)
  | 6 => ("LastCalled$Hamlet", "deedNames", "[I", true)
  | 7 => ("LastCalled$Hamlet", "deedPence", "[I", true)
  | 8 => ("LastCalled$Hamlet", "notes", "I", false)
  | 9 => ("LastCalled$Hamlet", "noted", "[I", true)
  | 10 => ("LastCalled$Hamlet", "pasts", "I", false)
  | _ => ("LastCalled$Hamlet", "past", "[I", true)
def tyX5 : Nat → FieldType := fun k => match k with
  | 0 => .int
  | 1 => .int
  | 2 => .array .int
  | 3 => .array .int
  | 4 => .array .int
  | 5 => .int
  | 6 => .array .int
  | 7 => .array .int
  | 8 => .int
  | 9 => .array .int
  | 10 => .int
  | _ => .array .int
theorem nmX5 : ∀ a, a < 12 → ∀ b, b < 12 → a ≠ b → (TX5 a).2.1 ≠ (TX5 b).2.1 := by decide +kernel
theorem tyX5_ok : ∀ k, k < 12 → parseFieldDescriptor (TX5 k).2.2.1 = some (tyX5 k) := by decide +kernel
abbrev cX5_init : ByteArray := prog_7_method_1_code
def yX5_init : MethodName := ⟨RX5, "<init>", "()V"⟩
abbrev cX5_begin : ByteArray := prog_7_method_2_code
def yX5_begin : MethodName := ⟨RX5, "begin", "(I)V"⟩
abbrev cX5_copyFrom : ByteArray := prog_7_method_3_code
def yX5_copyFrom : MethodName := ⟨RX5, "copyFrom", "(LLastCalled$Hamlet;)V"⟩
abbrev cX5_join : ByteArray := prog_7_method_4_code
def yX5_join : MethodName := ⟨RX5, "join", "(II)V"⟩
abbrev cX5_nameOf : ByteArray := prog_7_method_5_code
def yX5_nameOf : MethodName := ⟨RX5, "nameOf", "(I)I"⟩
abbrev cX5_give : ByteArray := prog_7_method_6_code
def yX5_give : MethodName := ⟨RX5, "give", "(II)V"⟩
abbrev cX5_penceOn : ByteArray := prog_7_method_7_code
def yX5_penceOn : MethodName := ⟨RX5, "penceOn", "(I)I"⟩
abbrev cX5_write : ByteArray := prog_7_method_8_code
def yX5_write : MethodName := ⟨RX5, "write", "(IIIII)V"⟩
abbrev cX5_remember : ByteArray := prog_7_method_9_code
def yX5_remember : MethodName := ⟨RX5, "remember", "()V"⟩
abbrev cX5_goBack : ByteArray := prog_7_method_10_code
def yX5_goBack : MethodName := ⟨RX5, "goBack", "()V"⟩
abbrev cX5_mixInto : ByteArray := prog_7_method_11_code
def yX5_mixInto : MethodName := ⟨RX5, "mixInto", "(J)J"⟩
def RX6 : String := "LastCalled$Hearing"
def TX6 : u_T := fun k => match k with
  | 0 => ("LastCalled$Hearing", "kinds", "[LLastCalled$Plain;", true)
  | 1 => ("LastCalled$Hearing", "atOwn", "[I", true)
  | 2 => ("LastCalled$Hearing", "atOthers", "[I", true)
  | _ => ("LastCalled$Hearing", "atNobodys", "[I", true)
def tyX6 : Nat → FieldType := fun k => match k with
  | 0 => .array (.object "LastCalled$Plain")
  | 1 => .array .int
  | 2 => .array .int
  | _ => .array .int
theorem nmX6 : ∀ a, a < 4 → ∀ b, b < 4 → a ≠ b → (TX6 a).2.1 ≠ (TX6 b).2.1 := by decide +kernel
theorem tyX6_ok : ∀ k, k < 4 → parseFieldDescriptor (TX6 k).2.2.1 = some (tyX6 k) := by decide +kernel
abbrev cX6_init : ByteArray := prog_8_method_1_code
def yX6_init : MethodName := ⟨RX6, "<init>", "()V"⟩
abbrev cX6_turnsAs : ByteArray := prog_8_method_2_code
def yX6_turnsAs : MethodName := ⟨RX6, "turnsAs", "(IIZZI)Z"⟩
abbrev cX6_listen : ByteArray := prog_8_method_3_code
def yX6_listen : MethodName := ⟨RX6, "listen", "(LLastCalled$Hamlet;)V"⟩
abbrev cX6_listenAt : ByteArray := prog_8_method_4_code
def yX6_listenAt : MethodName := ⟨RX6, "listenAt", "(LLastCalled$Hamlet;I)V"⟩
abbrev cX6_turners : ByteArray := prog_8_method_5_code
def yX6_turners : MethodName := ⟨RX6, "turners", "([III)I"⟩
def RX7 : String := "LastCalled$Plain"
def TX7 : u_T := fun k => match k with
  | _ => ("", "", "", false)
def tyX7 : Nat → FieldType := fun k => match k with
  | _ => .int
theorem nmX7 : ∀ a, a < 0 → ∀ b, b < 0 → a ≠ b → (TX7 a).2.1 ≠ (TX7 b).2.1 := by decide +kernel
theorem tyX7_ok : ∀ k, k < 0 → parseFieldDescriptor (TX7 k).2.2.1 = some (tyX7 k) := by decide +kernel
abbrev cX7_init : ByteArray := prog_9_method_1_code
def yX7_init : MethodName := ⟨RX7, "<init>", "()V"⟩
abbrev cX7_turns : ByteArray := prog_9_method_2_code
def yX7_turns : MethodName := ⟨RX7, "turns", "(IZZI)Z"⟩
def RX8 : String := "LastCalled$Search"
def TX8 : u_T := fun k => match k with
  | 0 => ("LastCalled$Search", "behind", "[I", true)
  | 1 => ("LastCalled$Search", "fewest", "I", false)
  | 2 => ("LastCalled$Search", "first", "I", false)
  | _ => ("LastCalled$Search", "most", "I", false)
def tyX8 : Nat → FieldType := fun k => match k with
  | 0 => .array .int
  | 1 => .int
  | 2 => .int
  | _ => .int
theorem nmX8 : ∀ a, a < 4 → ∀ b, b < 4 → a ≠ b → (TX8 a).2.1 ≠ (TX8 b).2.1 := by decide +kernel
theorem tyX8_ok : ∀ k, k < 4 → parseFieldDescriptor (TX8 k).2.2.1 = some (tyX8 k) := by decide +kernel
abbrev cX8_init : ByteArray := prog_10_method_1_code
def yX8_init : MethodName := ⟨RX8, "<init>", "()V"⟩
abbrev cX8_toBear : ByteArray := prog_10_method_2_code
def yX8_toBear : MethodName := ⟨RX8, "toBear", "(LLastCalled$Hamlet;LLastCalled$Hearing;II)V"⟩
abbrev cX8_lastCall : ByteArray := prog_10_method_3_code
def yX8_lastCall : MethodName := ⟨RX8, "lastCall", "([ILLastCalled$Hearing;II)I"⟩
abbrev cX8_ownAgain : ByteArray := prog_10_method_4_code
def yX8_ownAgain : MethodName := ⟨RX8, "ownAgain", "(LLastCalled$Hamlet;LLastCalled$Hearing;)V"⟩
abbrev cX8_tryLastCalls : ByteArray := prog_10_method_5_code
def yX8_tryLastCalls : MethodName := ⟨RX8, "tryLastCalls", "([ILLastCalled$Hearing;II)V"⟩
abbrev cX8_ownersBehind : ByteArray := prog_10_method_6_code
def yX8_ownersBehind : MethodName := ⟨RX8, "ownersBehind", "(III)I"⟩
abbrev cX8_callOnce : ByteArray := prog_10_method_7_code
def yX8_callOnce : MethodName := ⟨RX8, "callOnce", "(LLastCalled$Hamlet;LLastCalled$Hearing;I)V"⟩
abbrev cX8_ownersBehindWeeks : ByteArray := prog_10_method_8_code
def yX8_ownersBehindWeeks : MethodName := ⟨RX8, "ownersBehindWeeks", "(LLastCalled$Hamlet;LLastCalled$Hearing;II)I"⟩
def RX9 : String := "LastCalled$Sheep"
def TX9 : u_T := fun k => match k with
  | _ => ("", "", "", false)
def tyX9 : Nat → FieldType := fun k => match k with
  | _ => .int
theorem nmX9 : ∀ a, a < 0 → ∀ b, b < 0 → a ≠ b → (TX9 a).2.1 ≠ (TX9 b).2.1 := by decide +kernel
theorem tyX9_ok : ∀ k, k < 0 → parseFieldDescriptor (TX9 k).2.2.1 = some (tyX9 k) := by decide +kernel
abbrev cX9_init : ByteArray := prog_11_method_1_code
def yX9_init : MethodName := ⟨RX9, "<init>", "()V"⟩
abbrev cX9_turns : ByteArray := prog_11_method_2_code
def yX9_turns : MethodName := ⟨RX9, "turns", "(IZZI)Z"⟩
def RX10 : String := "LastCalled$Text"
def TX10 : u_T := fun k => match k with
  | 0 => ("LastCalled$Text", "bytes", "[B", true)
  | 1 => ("LastCalled$Text", "length", "I", false)
  | 2 => ("LastCalled$Text", "sort", "I", false)
  | 3 => ("LastCalled$Text", "start", "I", false)
  | 4 => ("LastCalled$Text", "end", "I", false)
  | _ => ("LastCalled$Text", "value", "I", false)
def tyX10 : Nat → FieldType := fun k => match k with
  | 0 => .array .byte
  | 1 => .int
  | 2 => .int
  | 3 => .int
  | 4 => .int
  | _ => .int
theorem nmX10 : ∀ a, a < 6 → ∀ b, b < 6 → a ≠ b → (TX10 a).2.1 ≠ (TX10 b).2.1 := by decide +kernel
theorem tyX10_ok : ∀ k, k < 6 → parseFieldDescriptor (TX10 k).2.2.1 = some (tyX10 k) := by decide +kernel
abbrev cX10_init : ByteArray := prog_12_method_1_code
def yX10_init : MethodName := ⟨RX10, "<init>", "()V"⟩
abbrev cX10_append : ByteArray := prog_12_method_2_code
def yX10_append : MethodName := ⟨RX10, "append", "(I)V"⟩
abbrev cX10_tell : ByteArray := prog_12_method_3_code
def yX10_tell : MethodName := ⟨RX10, "tell", "(LLastCalled$Hamlet;)I"⟩
abbrev cX10_isItem : ByteArray := prog_12_method_4_code
def yX10_isItem : MethodName := ⟨RX10, "isItem", "(LLastCalled$Hamlet;)Z"⟩
abbrev cX10_isOne : ByteArray := prog_12_method_5_code
def yX10_isOne : MethodName := ⟨RX10, "isOne", "(LLastCalled$Hamlet;)Z"⟩
abbrev cX10_isBears : ByteArray := prog_12_method_6_code
def yX10_isBears : MethodName := ⟨RX10, "isBears", "(LLastCalled$Hamlet;)Z"⟩
abbrev cX10_isNone : ByteArray := prog_12_method_7_code
def yX10_isNone : MethodName := ⟨RX10, "isNone", "(LLastCalled$Hamlet;)Z"⟩
abbrev cX10_isNumberNext : ByteArray := prog_12_method_8_code
def yX10_isNumberNext : MethodName := ⟨RX10, "isNumberNext", "(I)Z"⟩
abbrev cX10_isWord : ByteArray := prog_12_method_9_code
def yX10_isWord : MethodName := ⟨RX10, "isWord", "(Ljava/lang/String;)Z"⟩
abbrev cX10_advance : ByteArray := prog_12_method_10_code
def yX10_advance : MethodName := ⟨RX10, "advance", "()V"⟩
abbrev cX10_sortOf : ByteArray := prog_12_method_11_code
def yX10_sortOf : MethodName := ⟨RX10, "sortOf", "(I)I"⟩
def RX11 : String := "LastCalled"
def TX11 : u_T := fun k => match k with
  | 0 => ("LastCalled", "now", "LLastCalled$Hamlet;", true)
  | 1 => ("LastCalled", "draft", "LLastCalled$Hamlet;", true)
  | 2 => ("LastCalled", "images", "[LLastCalled$Hamlet;", true)
  | 3 => ("LastCalled", "kept", "[Z", true)
  | 4 => ("LastCalled", "text", "LLastCalled$Text;", true)
  | 5 => ("LastCalled", "fraction", "LLastCalled$Fraction;", true)
  | 6 => ("LastCalled", "hearing", "LLastCalled$Hearing;", true)
  | 7 => ("LastCalled", "search", "LLastCalled$Search;", true)
  | _ => ("LastCalled", "refused", "[I", true)
def tyX11 : Nat → FieldType := fun k => match k with
  | 0 => .object "LastCalled$Hamlet"
  | 1 => .object "LastCalled$Hamlet"
  | 2 => .array (.object "LastCalled$Hamlet")
  | 3 => .array .boolean
  | 4 => .object "LastCalled$Text"
  | 5 => .object "LastCalled$Fraction"
  | 6 => .object "LastCalled$Hearing"
  | 7 => .object "LastCalled$Search"
  | _ => .array .int
theorem nmX11 : ∀ a, a < 9 → ∀ b, b < 9 → a ≠ b → (TX11 a).2.1 ≠ (TX11 b).2.1 := by decide +kernel
theorem tyX11_ok : ∀ k, k < 9 → parseFieldDescriptor (TX11 k).2.2.1 = some (tyX11 k) := by decide +kernel
abbrev cX11_init : ByteArray := prog_1_method_1_code
def yX11_init : MethodName := ⟨RX11, "<init>", "()V"⟩
abbrev cX11_hamlet : ByteArray := prog_1_method_2_code
def yX11_hamlet : MethodName := ⟨RX11, "hamlet", "(I)I"⟩
abbrev cX11_one : ByteArray := prog_1_method_3_code
def yX11_one : MethodName := ⟨RX11, "one", "(II)I"⟩
abbrev cX11_type : ByteArray := prog_1_method_4_code
def yX11_type : MethodName := ⟨RX11, "type", "(I)I"⟩
abbrev cX11_clear : ByteArray := prog_1_method_5_code
def yX11_clear : MethodName := ⟨RX11, "clear", "()I"⟩
abbrev cX11_read : ByteArray := prog_1_method_6_code
def yX11_read : MethodName := ⟨RX11, "read", "()I"⟩
abbrev cX11_call : ByteArray := prog_1_method_7_code
def yX11_call : MethodName := ⟨RX11, "call", "(II)I"⟩
abbrev cX11_goes : ByteArray := prog_1_method_8_code
def yX11_goes : MethodName := ⟨RX11, "goes", "(II)I"⟩
abbrev cX11_day : ByteArray := prog_1_method_9_code
def yX11_day : MethodName := ⟨RX11, "day", "()I"⟩
abbrev cX11_undo : ByteArray := prog_1_method_10_code
def yX11_undo : MethodName := ⟨RX11, "undo", "()I"⟩
abbrev cX11_of : ByteArray := prog_1_method_11_code
def yX11_of : MethodName := ⟨RX11, "of", "(II)I"⟩
abbrev cX11_turn : ByteArray := prog_1_method_12_code
def yX11_turn : MethodName := ⟨RX11, "turn", "(II)I"⟩
abbrev cX11_bearers : ByteArray := prog_1_method_13_code
def yX11_bearers : MethodName := ⟨RX11, "bearers", "(I)I"⟩
abbrev cX11_names : ByteArray := prog_1_method_14_code
def yX11_names : MethodName := ⟨RX11, "names", "(I)I"⟩
abbrev cX11_calls : ByteArray := prog_1_method_15_code
def yX11_calls : MethodName := ⟨RX11, "calls", "(III)I"⟩
abbrev cX11_own : ByteArray := prog_1_method_16_code
def yX11_own : MethodName := ⟨RX11, "own", "(I)I"⟩
abbrev cX11_ring : ByteArray := prog_1_method_17_code
def yX11_ring : MethodName := ⟨RX11, "ring", "(I)I"⟩
abbrev cX11_deed : ByteArray := prog_1_method_18_code
def yX11_deed : MethodName := ⟨RX11, "deed", "(II)I"⟩
abbrev cX11_owes : ByteArray := prog_1_method_19_code
def yX11_owes : MethodName := ⟨RX11, "owes", "(I)I"⟩
abbrev cX11_unpaid : ByteArray := prog_1_method_20_code
def yX11_unpaid : MethodName := ⟨RX11, "unpaid", "()I"⟩
abbrev cX11_ears : ByteArray := prog_1_method_21_code
def yX11_ears : MethodName := ⟨RX11, "ears", "(IIII)I"⟩
abbrev cX11_note : ByteArray := prog_1_method_22_code
def yX11_note : MethodName := ⟨RX11, "note", "(IIIII)I"⟩
abbrev cX11_forget : ByteArray := prog_1_method_23_code
def yX11_forget : MethodName := ⟨RX11, "forget", "(I)I"⟩
abbrev cX11_is : ByteArray := prog_1_method_24_code
def yX11_is : MethodName := ⟨RX11, "is", "(I)I"⟩
abbrev cX11_stood : ByteArray := prog_1_method_25_code
def yX11_stood : MethodName := ⟨RX11, "stood", "(I)I"⟩
abbrev cX11_next : ByteArray := prog_1_method_26_code
def yX11_next : MethodName := ⟨RX11, "next", "(I)I"⟩
abbrev cX11_trippers : ByteArray := prog_1_method_27_code
def yX11_trippers : MethodName := ⟨RX11, "trippers", "(IIII)I"⟩
abbrev cX11_weeks : ByteArray := prog_1_method_28_code
def yX11_weeks : MethodName := ⟨RX11, "weeks", "(II)I"⟩
abbrev cX11_part : ByteArray := prog_1_method_29_code
def yX11_part : MethodName := ⟨RX11, "part", "(I)J"⟩
abbrev cX11_image : ByteArray := prog_1_method_30_code
def yX11_image : MethodName := ⟨RX11, "image", "(I)I"⟩
abbrev cX11_from : ByteArray := prog_1_method_31_code
def yX11_from : MethodName := ⟨RX11, "from", "(I)I"⟩
abbrev cX11_status : ByteArray := prog_1_method_32_code
def yX11_status : MethodName := ⟨RX11, "status", "(I)I"⟩
abbrev cX11_count : ByteArray := prog_1_method_33_code
def yX11_count : MethodName := ⟨RX11, "count", "(I)I"⟩
abbrev cX11_digest : ByteArray := prog_1_method_34_code
def yX11_digest : MethodName := ⟨RX11, "digest", "()J"⟩
abbrev cX11_within : ByteArray := prog_1_method_35_code
def yX11_within : MethodName := ⟨RX11, "within", "(II)Z"⟩
abbrev cX11_bit : ByteArray := prog_1_method_36_code
def yX11_bit : MethodName := ⟨RX11, "bit", "(II)I"⟩
abbrev cX11_isThere : ByteArray := prog_1_method_37_code
def yX11_isThere : MethodName := ⟨RX11, "isThere", "(I)Z"⟩
abbrev cX11_refuse : ByteArray := prog_1_method_38_code
def yX11_refuse : MethodName := ⟨RX11, "refuse", "(I)I"⟩
abbrev cX11_amount : ByteArray := prog_1_method_39_code
def yX11_amount : MethodName := ⟨RX11, "amount", "(I)I"⟩
abbrev cX11_turnersAt : ByteArray := prog_1_method_40_code
def yX11_turnersAt : MethodName := ⟨RX11, "turnersAt", "(II)I"⟩
abbrev cX11_settle : ByteArray := prog_1_method_41_code
def yX11_settle : MethodName := ⟨RX11, "settle", "([III)V"⟩
abbrev cX11_bearersBehind : ByteArray := prog_1_method_42_code
def yX11_bearersBehind : MethodName := ⟨RX11, "bearersBehind", "(II)I"⟩
abbrev cX11_owners : ByteArray := prog_1_method_43_code
def yX11_owners : MethodName := ⟨RX11, "owners", "([I)I"⟩
abbrev cX11_stopped : ByteArray := prog_1_method_44_code
def yX11_stopped : MethodName := ⟨RX11, "stopped", "(III)I"⟩
abbrev cX11_fits : ByteArray := prog_1_method_45_code
def yX11_fits : MethodName := ⟨RX11, "fits", "(III)Z"⟩
abbrev cX11_placesThatFit : ByteArray := prog_1_method_46_code
def yX11_placesThatFit : MethodName := ⟨RX11, "placesThatFit", "(I)I"⟩
abbrev cX11_placesTurningAt : ByteArray := prog_1_method_47_code
def yX11_placesTurningAt : MethodName := ⟨RX11, "placesTurningAt", "(II)I"⟩
def RX12 : String := "LastCalledModel"
def TX12 : u_T := fun k => match k with
  | 0 => ("LastCalledModel", "now", "[I", true)
  | 1 => ("LastCalledModel", "kept", "[I", true)
  | 2 => ("LastCalledModel", "isKept", "[Z", true)
  | 3 => ("LastCalledModel", "refused", "[I", true)
  | 4 => ("LastCalledModel", "above", "J", false)
  | 5 => ("LastCalledModel", "below", "J", false)
  | 6 => ("LastCalledModel", "named", "[I", true)
  | 7 => ("LastCalledModel", "fewest", "I", false)
  | 8 => ("LastCalledModel", "firstCall", "I", false)
  | 9 => ("LastCalledModel", "mostOwn", "I", false)
  | 10 => ("LastCalledModel", "bearing", "[I", true)
  | 11 => ("LastCalledModel", "bytes", "[I", true)
  | 12 => ("LastCalledModel", "bytesLong", "I", false)
  | 13 => ("LastCalledModel", "tokenAt", "I", false)
  | 14 => ("LastCalledModel", "tokenLong", "I", false)
  | 15 => ("LastCalledModel", "token", "I", false)
  | 16 => ("LastCalledModel", "value", "I", false)
  | 17 => ("LastCalledModel", "anew", "[I", true)
  | _ => ("LastCalledModel", "values", "[I", true)
def tyX12 : Nat → FieldType := fun k => match k with
  | 0 => .array .int
  | 1 => .array .int
  | 2 => .array .boolean
  | 3 => .array .int
  | 4 => .long
  | 5 => .long
  | 6 => .array .int
  | 7 => .int
  | 8 => .int
  | 9 => .int
  | 10 => .array .int
  | 11 => .array .int
  | 12 => .int
  | 13 => .int
  | 14 => .int
  | 15 => .int
  | 16 => .int
  | 17 => .array .int
  | _ => .array .int
theorem nmX12 : ∀ a, a < 19 → ∀ b, b < 19 → a ≠ b → (TX12 a).2.1 ≠ (TX12 b).2.1 := by decide +kernel
theorem tyX12_ok : ∀ k, k < 19 → parseFieldDescriptor (TX12 k).2.2.1 = some (tyX12 k) := by decide +kernel
abbrev cX12_init : ByteArray := prog_14_method_1_code
def yX12_init : MethodName := ⟨RX12, "<init>", "()V"⟩
abbrev cX12_in : ByteArray := prog_14_method_3_code
def yX12_in : MethodName := ⟨RX12, "in", "(JJJ)Z"⟩
abbrev cX12_bad : ByteArray := prog_14_method_4_code
def yX12_bad : MethodName := ⟨RX12, "bad", "(I)I"⟩
abbrev cX12_no : ByteArray := prog_14_method_5_code
def yX12_no : MethodName := ⟨RX12, "no", "()I"⟩
abbrev cX12_full : ByteArray := prog_14_method_6_code
def yX12_full : MethodName := ⟨RX12, "full", "()I"⟩
abbrev cX12_bits : ByteArray := prog_14_method_7_code
def yX12_bits : MethodName := ⟨RX12, "bits", "(I)I"⟩
abbrev cX12_has : ByteArray := prog_14_method_8_code
def yX12_has : MethodName := ⟨RX12, "has", "(II)Z"⟩
abbrev cX12_begin : ByteArray := prog_14_method_9_code
def yX12_begin : MethodName := ⟨RX12, "begin", "([II)V"⟩
abbrev cX12_many : ByteArray := prog_14_method_10_code
def yX12_many : MethodName := ⟨RX12, "many", "()I"⟩
abbrev cX12_isOne : ByteArray := prog_14_method_11_code
def yX12_isOne : MethodName := ⟨RX12, "isOne", "(I)Z"⟩
abbrev cX12_isPlace : ByteArray := prog_14_method_12_code
def yX12_isPlace : MethodName := ⟨RX12, "isPlace", "(I)Z"⟩
abbrev cX12_hamlet : ByteArray := prog_14_method_13_code
def yX12_hamlet : MethodName := ⟨RX12, "hamlet", "(I)I"⟩
abbrev cX12_layOne : ByteArray := prog_14_method_14_code
def yX12_layOne : MethodName := ⟨RX12, "layOne", "([III)V"⟩
abbrev cX12_one : ByteArray := prog_14_method_15_code
def yX12_one : MethodName := ⟨RX12, "one", "(II)I"⟩
abbrev cX12_turnsAs : ByteArray := prog_14_method_16_code
def yX12_turnsAs : MethodName := ⟨RX12, "turnsAs", "(IIZZI)Z"⟩
abbrev cX12_farOf : ByteArray := prog_14_method_17_code
def yX12_farOf : MethodName := ⟨RX12, "farOf", "(II)I"⟩
abbrev cX12_layHand : ByteArray := prog_14_method_18_code
def yX12_layHand : MethodName := ⟨RX12, "layHand", "()V"⟩
abbrev cX12_bearersOf : ByteArray := prog_14_method_19_code
def yX12_bearersOf : MethodName := ⟨RX12, "bearersOf", "(I)I"⟩
abbrev cX12_turning : ByteArray := prog_14_method_20_code
def yX12_turning : MethodName := ⟨RX12, "turning", "(II)I"⟩
abbrev cX12_goTurn : ByteArray := prog_14_method_21_code
def yX12_goTurn : MethodName := ⟨RX12, "goTurn", "(II)V"⟩
abbrev cX12_goCall : ByteArray := prog_14_method_22_code
def yX12_goCall : MethodName := ⟨RX12, "goCall", "(II)I"⟩
abbrev cX12_ownNow : ByteArray := prog_14_method_23_code
def yX12_ownNow : MethodName := ⟨RX12, "ownNow", "()I"⟩
abbrev cX12_keep : ByteArray := prog_14_method_24_code
def yX12_keep : MethodName := ⟨RX12, "keep", "()V"⟩
abbrev cX12_call : ByteArray := prog_14_method_25_code
def yX12_call : MethodName := ⟨RX12, "call", "(II)I"⟩
abbrev cX12_goes : ByteArray := prog_14_method_26_code
def yX12_goes : MethodName := ⟨RX12, "goes", "(II)I"⟩
abbrev cX12_day : ByteArray := prog_14_method_27_code
def yX12_day : MethodName := ⟨RX12, "day", "()I"⟩
abbrev cX12_undo : ByteArray := prog_14_method_28_code
def yX12_undo : MethodName := ⟨RX12, "undo", "()I"⟩
abbrev cX12_of : ByteArray := prog_14_method_29_code
def yX12_of : MethodName := ⟨RX12, "of", "(II)I"⟩
abbrev cX12_turn : ByteArray := prog_14_method_30_code
def yX12_turn : MethodName := ⟨RX12, "turn", "(II)I"⟩
abbrev cX12_bearers : ByteArray := prog_14_method_31_code
def yX12_bearers : MethodName := ⟨RX12, "bearers", "(I)I"⟩
abbrev cX12_names : ByteArray := prog_14_method_32_code
def yX12_names : MethodName := ⟨RX12, "names", "(I)I"⟩
abbrev cX12_goCodes : ByteArray := prog_14_method_33_code
def yX12_goCodes : MethodName := ⟨RX12, "goCodes", "(II)V"⟩
abbrev cX12_layCalls : ByteArray := prog_14_method_34_code
def yX12_layCalls : MethodName := ⟨RX12, "layCalls", "(II)V"⟩
abbrev cX12_calls : ByteArray := prog_14_method_35_code
def yX12_calls : MethodName := ⟨RX12, "calls", "(III)I"⟩
abbrev cX12_judgeOwn : ByteArray := prog_14_method_36_code
def yX12_judgeOwn : MethodName := ⟨RX12, "judgeOwn", "(II)V"⟩
abbrev cX12_layOwn : ByteArray := prog_14_method_37_code
def yX12_layOwn : MethodName := ⟨RX12, "layOwn", "()V"⟩
abbrev cX12_own : ByteArray := prog_14_method_38_code
def yX12_own : MethodName := ⟨RX12, "own", "(I)I"⟩
abbrev cX12_ring : ByteArray := prog_14_method_39_code
def yX12_ring : MethodName := ⟨RX12, "ring", "(I)I"⟩
abbrev cX12_deed : ByteArray := prog_14_method_40_code
def yX12_deed : MethodName := ⟨RX12, "deed", "(II)I"⟩
abbrev cX12_penceOn : ByteArray := prog_14_method_41_code
def yX12_penceOn : MethodName := ⟨RX12, "penceOn", "(I)I"⟩
abbrev cX12_fraction : ByteArray := prog_14_method_42_code
def yX12_fraction : MethodName := ⟨RX12, "fraction", "(JJ)V"⟩
abbrev cX12_owes : ByteArray := prog_14_method_43_code
def yX12_owes : MethodName := ⟨RX12, "owes", "(I)I"⟩
abbrev cX12_unpaid : ByteArray := prog_14_method_44_code
def yX12_unpaid : MethodName := ⟨RX12, "unpaid", "()I"⟩
abbrev cX12_ears : ByteArray := prog_14_method_45_code
def yX12_ears : MethodName := ⟨RX12, "ears", "(IIII)I"⟩
abbrev cX12_note : ByteArray := prog_14_method_46_code
def yX12_note : MethodName := ⟨RX12, "note", "(IIIII)I"⟩
abbrev cX12_forget : ByteArray := prog_14_method_47_code
def yX12_forget : MethodName := ⟨RX12, "forget", "(I)I"⟩
abbrev cX12_areSo : ByteArray := prog_14_method_48_code
def yX12_areSo : MethodName := ⟨RX12, "areSo", "(III)Z"⟩
abbrev cX12_is : ByteArray := prog_14_method_49_code
def yX12_is : MethodName := ⟨RX12, "is", "(I)I"⟩
abbrev cX12_placesOf : ByteArray := prog_14_method_50_code
def yX12_placesOf : MethodName := ⟨RX12, "placesOf", "(I)I"⟩
abbrev cX12_stood : ByteArray := prog_14_method_51_code
def yX12_stood : MethodName := ⟨RX12, "stood", "(I)I"⟩
abbrev cX12_next : ByteArray := prog_14_method_52_code
def yX12_next : MethodName := ⟨RX12, "next", "(I)I"⟩
abbrev cX12_trippers : ByteArray := prog_14_method_53_code
def yX12_trippers : MethodName := ⟨RX12, "trippers", "(IIII)I"⟩
abbrev cX12_weeks : ByteArray := prog_14_method_54_code
def yX12_weeks : MethodName := ⟨RX12, "weeks", "(II)I"⟩
abbrev cX12_type : ByteArray := prog_14_method_55_code
def yX12_type : MethodName := ⟨RX12, "type", "(I)I"⟩
abbrev cX12_clear : ByteArray := prog_14_method_56_code
def yX12_clear : MethodName := ⟨RX12, "clear", "()I"⟩
abbrev cX12_isSmall : ByteArray := prog_14_method_57_code
def yX12_isSmall : MethodName := ⟨RX12, "isSmall", "(I)Z"⟩
abbrev cX12_isFigure : ByteArray := prog_14_method_58_code
def yX12_isFigure : MethodName := ⟨RX12, "isFigure", "(I)Z"⟩
abbrev cX12_lookAt : ByteArray := prog_14_method_59_code
def yX12_lookAt : MethodName := ⟨RX12, "lookAt", "(I)V"⟩
abbrev cX12_goBehind : ByteArray := prog_14_method_60_code
def yX12_goBehind : MethodName := ⟨RX12, "goBehind", "()V"⟩
abbrev cX12_spells : ByteArray := prog_14_method_61_code
def yX12_spells : MethodName := ⟨RX12, "spells", "(IIIIIII)Z"⟩
abbrev cX12_takes : ByteArray := prog_14_method_62_code
def yX12_takes : MethodName := ⟨RX12, "takes", "(III)Z"⟩
abbrev cX12_takesHamlet : ByteArray := prog_14_method_63_code
def yX12_takesHamlet : MethodName := ⟨RX12, "takesHamlet", "()Z"⟩
abbrev cX12_takesOne : ByteArray := prog_14_method_64_code
def yX12_takesOne : MethodName := ⟨RX12, "takesOne", "()Z"⟩
abbrev cX12_takesBears : ByteArray := prog_14_method_65_code
def yX12_takesBears : MethodName := ⟨RX12, "takesBears", "(Z)Z"⟩
abbrev cX12_takesItem : ByteArray := prog_14_method_66_code
def yX12_takesItem : MethodName := ⟨RX12, "takesItem", "()Z"⟩
abbrev cX12_read : ByteArray := prog_14_method_67_code
def yX12_read : MethodName := ⟨RX12, "read", "()I"⟩
abbrev cX12_part : ByteArray := prog_14_method_68_code
def yX12_part : MethodName := ⟨RX12, "part", "(I)J"⟩
abbrev cX12_image : ByteArray := prog_14_method_69_code
def yX12_image : MethodName := ⟨RX12, "image", "(I)I"⟩
abbrev cX12_from : ByteArray := prog_14_method_70_code
def yX12_from : MethodName := ⟨RX12, "from", "(I)I"⟩
abbrev cX12_status : ByteArray := prog_14_method_71_code
def yX12_status : MethodName := ⟨RX12, "status", "(I)I"⟩
abbrev cX12_counted : ByteArray := prog_14_method_72_code
def yX12_counted : MethodName := ⟨RX12, "counted", "(I)I"⟩
abbrev cX12_count : ByteArray := prog_14_method_73_code
def yX12_count : MethodName := ⟨RX12, "count", "(I)I"⟩
abbrev cX12_sums : ByteArray := prog_14_method_74_code
def yX12_sums : MethodName := ⟨RX12, "sums", "(JII)J"⟩
abbrev cX12_digest : ByteArray := prog_14_method_75_code
def yX12_digest : MethodName := ⟨RX12, "digest", "()J"⟩
def RJ6 : String := "java/lang/Integer"
def TJ6 : u_T := fun k => match k with
  | _ => ("", "", "", false)
def tyJ6 : Nat → FieldType := fun k => match k with
  | _ => .int
theorem nmJ6 : ∀ a, a < 0 → ∀ b, b < 0 → a ≠ b → (TJ6 a).2.1 ≠ (TJ6 b).2.1 := by decide +kernel
theorem tyJ6_ok : ∀ k, k < 0 → parseFieldDescriptor (TJ6 k).2.2.1 = some (tyJ6 k) := by decide +kernel
abbrev cJ6_bitCount_0f7a4 : ByteArray := prog_15_method_49_code
def yJ6_bitCount_0f7a4 : MethodName := ⟨RJ6, "bitCount", "(I)I"⟩
def RJ9 : String := "java/lang/Math"
def TJ9 : u_T := fun k => match k with
  | _ => ("", "", "", false)
def tyJ9 : Nat → FieldType := fun k => match k with
  | _ => .int
theorem nmJ9 : ∀ a, a < 0 → ∀ b, b < 0 → a ≠ b → (TJ9 a).2.1 ≠ (TJ9 b).2.1 := by decide +kernel
theorem tyJ9_ok : ∀ k, k < 0 → parseFieldDescriptor (TJ9 k).2.2.1 = some (tyJ9 k) := by decide +kernel
abbrev cJ9_abs_0f7a4 : ByteArray := prog_16_method_59_code
def yJ9_abs_0f7a4 : MethodName := ⟨RJ9, "abs", "(I)I"⟩
abbrev cJ9_max_7cf53 : ByteArray := prog_16_method_65_code
def yJ9_max_7cf53 : MethodName := ⟨RJ9, "max", "(II)I"⟩
def RJ0 : String := "java/lang/String"
def TJ0 : u_T := fun k => match k with
  | _ => ("", "", "", false)
def tyJ0 : Nat → FieldType := fun k => match k with
  | _ => .int
theorem nmJ0 : ∀ a, a < 0 → ∀ b, b < 0 → a ≠ b → (TJ0 a).2.1 ≠ (TJ0 b).2.1 := by decide +kernel
theorem tyJ0_ok : ∀ k, k < 0 → parseFieldDescriptor (TJ0 k).2.2.1 = some (tyJ0 k) := by decide +kernel
abbrev cJ0_length_8abf5 : ByteArray := prog_17_method_54_code
def yJ0_length_8abf5 : MethodName := ⟨RJ0, "length", "()I"⟩
abbrev cJ0_charAt_5068e : ByteArray := prog_17_method_56_code
def yJ0_charAt_5068e : MethodName := ⟨RJ0, "charAt", "(I)C"⟩
abbrev cJ0_coder_7d493 : ByteArray := prog_17_method_152_code
def yJ0_coder_7d493 : MethodName := ⟨RJ0, "coder", "()B"⟩
abbrev cJ0_isLatin1_aae02 : ByteArray := prog_17_method_154_code
def yJ0_isLatin1_aae02 : MethodName := ⟨RJ0, "isLatin1", "()Z"⟩
abbrev cJ0_checkIndex_df160 : ByteArray := prog_17_method_155_code
def yJ0_checkIndex_df160 : MethodName := ⟨RJ0, "checkIndex", "(II)V"⟩
def RJ1 : String := "java/lang/StringLatin1"
def TJ1 : u_T := fun k => match k with
  | _ => ("", "", "", false)
def tyJ1 : Nat → FieldType := fun k => match k with
  | _ => .int
theorem nmJ1 : ∀ a, a < 0 → ∀ b, b < 0 → a ≠ b → (TJ1 a).2.1 ≠ (TJ1 b).2.1 := by decide +kernel
theorem tyJ1_ok : ∀ k, k < 0 → parseFieldDescriptor (TJ1 k).2.2.1 = some (tyJ1 k) := by decide +kernel
abbrev cJ1_charAt_3b067 : ByteArray := prog_18_method_2_code
def yJ1_charAt_3b067 : MethodName := ⟨RJ1, "charAt", "([BI)C"⟩
def RJ2 : String := "java/lang/StringUTF16"
def TJ2 : u_T := fun k => match k with
  | _ => ("", "", "", false)
def tyJ2 : Nat → FieldType := fun k => match k with
  | _ => .int
theorem nmJ2 : ∀ a, a < 0 → ∀ b, b < 0 → a ≠ b → (TJ2 a).2.1 ≠ (TJ2 b).2.1 := by decide +kernel
theorem tyJ2_ok : ∀ k, k < 0 → parseFieldDescriptor (TJ2 k).2.2.1 = some (tyJ2 k) := by decide +kernel
abbrev cJ2_getChar_3b067 : ByteArray := prog_19_method_5_code
def yJ2_getChar_3b067 : MethodName := ⟨RJ2, "getChar", "([BI)C"⟩
abbrev cJ2_length_9d52b : ByteArray := prog_19_method_6_code
def yJ2_length_9d52b : MethodName := ⟨RJ2, "length", "([B)I"⟩
abbrev cJ2_charAt_3b067 : ByteArray := prog_19_method_83_code
def yJ2_charAt_3b067 : MethodName := ⟨RJ2, "charAt", "([BI)C"⟩
abbrev cJ2_checkIndex_2214a : ByteArray := prog_19_method_91_code
def yJ2_checkIndex_2214a : MethodName := ⟨RJ2, "checkIndex", "(I[B)V"⟩
def RJ10 : String := "java/lang/System"
def TJ10 : u_T := fun k => match k with
  | _ => ("", "", "", false)
def tyJ10 : Nat → FieldType := fun k => match k with
  | _ => .int
theorem nmJ10 : ∀ a, a < 0 → ∀ b, b < 0 → a ≠ b → (TJ10 a).2.1 ≠ (TJ10 b).2.1 := by decide +kernel
theorem tyJ10_ok : ∀ k, k < 0 → parseFieldDescriptor (TJ10 k).2.2.1 = some (tyJ10 k) := by decide +kernel
def RJ7 : String := "java/util/Arrays"
def TJ7 : u_T := fun k => match k with
  | _ => ("", "", "", false)
def tyJ7 : Nat → FieldType := fun k => match k with
  | _ => .int
theorem nmJ7 : ∀ a, a < 0 → ∀ b, b < 0 → a ≠ b → (TJ7 a).2.1 ≠ (TJ7 b).2.1 := by decide +kernel
theorem tyJ7_ok : ∀ k, k < 0 → parseFieldDescriptor (TJ7 k).2.2.1 = some (tyJ7 k) := by decide +kernel
abbrev cJ7_fill_53178 : ByteArray := prog_21_method_103_code
def yJ7_fill_53178 : MethodName := ⟨RJ7, "fill", "([II)V"⟩
def RJ3 : String := "jdk/internal/util/Preconditions"
def TJ3 : u_T := fun k => match k with
  | _ => ("", "", "", false)
def tyJ3 : Nat → FieldType := fun k => match k with
  | _ => .int
theorem nmJ3 : ∀ a, a < 0 → ∀ b, b < 0 → a ≠ b → (TJ3 a).2.1 ≠ (TJ3 b).2.1 := by decide +kernel
theorem tyJ3_ok : ∀ k, k < 0 → parseFieldDescriptor (TJ3 k).2.2.1 = some (tyJ3 k) := by decide +kernel
abbrev cJ3_checkIndex_8e157 : ByteArray := prog_22_method_11_code
def yJ3_checkIndex_8e157 : MethodName := ⟨RJ3, "checkIndex", "(IILjava/util/function/BiFunction;)I"⟩
def RL : String := "LastCalledLaw"
abbrev cL_law : ByteArray := code
def yL_law : MethodName := ⟨RL, "law", "([I)Z"⟩
abbrev vwCl : List vw_C := [(RX0, TX0, 0), (RX1, TX1, 0), (RX2, TX2, 0), (RX3, TX3, 0), (RX4, TX4, 2), (RX5, TX5, 12), (RX6, TX6, 4), (RX7, TX7, 0), (RX8, TX8, 4), (RX9, TX9, 0), (RX10, TX10, 6), (RX11, TX11, 9), (RX12, TX12, 19)]
end
section
theorem dX0_init_0 : decode cX0_init 0 = .ok (.aload_n 0, 1) := by decide +kernel
theorem dX0_init_1 : decode cX0_init 1 = .ok (.invokespecial 1, 3) := by decide +kernel
theorem dX0_init_4 : decode cX0_init 4 = .ok (.return_, 1) := by decide +kernel
theorem dX0_turns_0 : decode cX0_turns 0 = .ok (.iload_n 2, 1) := by decide +kernel
theorem dX0_turns_1 : decode cX0_turns 1 = .ok (.ifCond .eq 19, 3) := by decide +kernel
theorem dX0_turns_4 : decode cX0_turns 4 = .ok (.aload_n 0, 1) := by decide +kernel
theorem dX0_turns_5 : decode cX0_turns 5 = .ok (.iload_n 1, 1) := by decide +kernel
theorem dX0_turns_6 : decode cX0_turns 6 = .ok (.iload_n 2, 1) := by decide +kernel
theorem dX0_turns_7 : decode cX0_turns 7 = .ok (.iload_n 3, 1) := by decide +kernel
theorem dX0_turns_8 : decode cX0_turns 8 = .ok (.iload 4, 2) := by decide +kernel
theorem dX0_turns_10 : decode cX0_turns 10 = .ok (.invokespecial 7, 3) := by decide +kernel
theorem dX0_turns_13 : decode cX0_turns 13 = .ok (.ifCond .eq 7, 3) := by decide +kernel
theorem dX0_turns_16 : decode cX0_turns 16 = .ok (.iconst 1, 1) := by decide +kernel
theorem dX0_turns_17 : decode cX0_turns 17 = .ok (.goto 4, 3) := by decide +kernel
theorem dX0_turns_20 : decode cX0_turns 20 = .ok (.iconst 0, 1) := by decide +kernel
theorem dX0_turns_21 : decode cX0_turns 21 = .ok (.ireturn, 1) := by decide +kernel
theorem dX1_init_0 : decode cX1_init 0 = .ok (.aload_n 0, 1) := by decide +kernel
theorem dX1_init_1 : decode cX1_init 1 = .ok (.invokespecial 1, 3) := by decide +kernel
theorem dX1_init_4 : decode cX1_init 4 = .ok (.return_, 1) := by decide +kernel
theorem dX1_turns_0 : decode cX1_turns 0 = .ok (.aload_n 0, 1) := by decide +kernel
theorem dX1_turns_1 : decode cX1_turns 1 = .ok (.iload_n 1, 1) := by decide +kernel
theorem dX1_turns_2 : decode cX1_turns 2 = .ok (.iconst 3, 1) := by decide +kernel
theorem dX1_turns_3 : decode cX1_turns 3 = .ok (.isub, 1) := by decide +kernel
theorem dX1_turns_4 : decode cX1_turns 4 = .ok (.iload_n 2, 1) := by decide +kernel
theorem dX1_turns_5 : decode cX1_turns 5 = .ok (.iload_n 3, 1) := by decide +kernel
theorem dX1_turns_6 : decode cX1_turns 6 = .ok (.iload 4, 2) := by decide +kernel
theorem dX1_turns_8 : decode cX1_turns 8 = .ok (.invokespecial 7, 3) := by decide +kernel
theorem dX1_turns_11 : decode cX1_turns 11 = .ok (.ireturn, 1) := by decide +kernel
theorem dX2_init_0 : decode cX2_init 0 = .ok (.aload_n 0, 1) := by decide +kernel
theorem dX2_init_1 : decode cX2_init 1 = .ok (.invokespecial 1, 3) := by decide +kernel
theorem dX2_init_4 : decode cX2_init 4 = .ok (.return_, 1) := by decide +kernel
theorem dX2_turns_0 : decode cX2_turns 0 = .ok (.aload_n 0, 1) := by decide +kernel
theorem dX2_turns_1 : decode cX2_turns 1 = .ok (.iload_n 1, 1) := by decide +kernel
theorem dX2_turns_2 : decode cX2_turns 2 = .ok (.iload_n 2, 1) := by decide +kernel
theorem dX2_turns_3 : decode cX2_turns 3 = .ok (.iload_n 3, 1) := by decide +kernel
theorem dX2_turns_4 : decode cX2_turns 4 = .ok (.iload 4, 2) := by decide +kernel
theorem dX2_turns_6 : decode cX2_turns 6 = .ok (.invokespecial 7, 3) := by decide +kernel
theorem dX2_turns_9 : decode cX2_turns 9 = .ok (.ifCond .ne 13, 3) := by decide +kernel
theorem dX2_turns_12 : decode cX2_turns 12 = .ok (.iload_n 3, 1) := by decide +kernel
theorem dX2_turns_13 : decode cX2_turns 13 = .ok (.ifCond .eq 13, 3) := by decide +kernel
theorem dX2_turns_16 : decode cX2_turns 16 = .ok (.iload_n 1, 1) := by decide +kernel
theorem dX2_turns_17 : decode cX2_turns 17 = .ok (.bipush 6, 2) := by decide +kernel
theorem dX2_turns_19 : decode cX2_turns 19 = .ok (.if_icmp .gt 7, 3) := by decide +kernel
theorem dX2_turns_22 : decode cX2_turns 22 = .ok (.iconst 1, 1) := by decide +kernel
theorem dX2_turns_23 : decode cX2_turns 23 = .ok (.goto 4, 3) := by decide +kernel
theorem dX2_turns_26 : decode cX2_turns 26 = .ok (.iconst 0, 1) := by decide +kernel
theorem dX2_turns_27 : decode cX2_turns 27 = .ok (.ireturn, 1) := by decide +kernel
theorem dX3_init_0 : decode cX3_init 0 = .ok (.aload_n 0, 1) := by decide +kernel
theorem dX3_init_1 : decode cX3_init 1 = .ok (.invokespecial 1, 3) := by decide +kernel
theorem dX3_init_4 : decode cX3_init 4 = .ok (.return_, 1) := by decide +kernel
theorem dX3_turns_0 : decode cX3_turns 0 = .ok (.aload_n 0, 1) := by decide +kernel
theorem dX3_turns_1 : decode cX3_turns 1 = .ok (.iload_n 1, 1) := by decide +kernel
theorem dX3_turns_2 : decode cX3_turns 2 = .ok (.iconst 2, 1) := by decide +kernel
theorem dX3_turns_3 : decode cX3_turns 3 = .ok (.iadd, 1) := by decide +kernel
theorem dX3_turns_4 : decode cX3_turns 4 = .ok (.iload_n 2, 1) := by decide +kernel
theorem dX3_turns_5 : decode cX3_turns 5 = .ok (.iload_n 3, 1) := by decide +kernel
theorem dX3_turns_6 : decode cX3_turns 6 = .ok (.iload 4, 2) := by decide +kernel
theorem dX3_turns_8 : decode cX3_turns 8 = .ok (.invokespecial 7, 3) := by decide +kernel
theorem dX3_turns_11 : decode cX3_turns 11 = .ok (.ireturn, 1) := by decide +kernel
theorem dX4_init_0 : decode cX4_init 0 = .ok (.aload_n 0, 1) := by decide +kernel
theorem dX4_init_1 : decode cX4_init 1 = .ok (.invokespecial 1, 3) := by decide +kernel
theorem dX4_init_4 : decode cX4_init 4 = .ok (.aload_n 0, 1) := by decide +kernel
theorem dX4_init_5 : decode cX4_init 5 = .ok (.lconst 0, 1) := by decide +kernel
theorem dX4_init_6 : decode cX4_init 6 = .ok (.putfield 7, 3) := by decide +kernel
theorem dX4_init_9 : decode cX4_init 9 = .ok (.aload_n 0, 1) := by decide +kernel
theorem dX4_init_10 : decode cX4_init 10 = .ok (.lconst 1, 1) := by decide +kernel
theorem dX4_init_11 : decode cX4_init 11 = .ok (.putfield 13, 3) := by decide +kernel
theorem dX4_init_14 : decode cX4_init 14 = .ok (.return_, 1) := by decide +kernel
theorem dX4_become_0 : decode cX4_become 0 = .ok (.lload_n 1, 1) := by decide +kernel
theorem dX4_become_1 : decode cX4_become 1 = .ok (.lconst 0, 1) := by decide +kernel
theorem dX4_become_2 : decode cX4_become 2 = .ok (.lcmp, 1) := by decide +kernel
theorem dX4_become_3 : decode cX4_become 3 = .ok (.ifCond .lt 9, 3) := by decide +kernel
theorem dX4_become_6 : decode cX4_become 6 = .ok (.lload_n 3, 1) := by decide +kernel
theorem dX4_become_7 : decode cX4_become 7 = .ok (.lconst 0, 1) := by decide +kernel
theorem dX4_become_8 : decode cX4_become 8 = .ok (.lcmp, 1) := by decide +kernel
theorem dX4_become_9 : decode cX4_become 9 = .ok (.ifCond .gt 4, 3) := by decide +kernel
theorem dX4_become_12 : decode cX4_become 12 = .ok (.return_, 1) := by decide +kernel
theorem dX4_become_13 : decode cX4_become 13 = .ok (.lload_n 1, 1) := by decide +kernel
theorem dX4_become_14 : decode cX4_become 14 = .ok (.lload_n 3, 1) := by decide +kernel
theorem dX4_become_15 : decode cX4_become 15 = .ok (.invokestatic 16, 3) := by decide +kernel
theorem dX4_become_18 : decode cX4_become 18 = .ok (.lstore 5, 2) := by decide +kernel
theorem dX4_become_20 : decode cX4_become 20 = .ok (.aload_n 0, 1) := by decide +kernel
theorem dX4_become_21 : decode cX4_become 21 = .ok (.lload_n 1, 1) := by decide +kernel
theorem dX4_become_22 : decode cX4_become 22 = .ok (.lload 5, 2) := by decide +kernel
theorem dX4_become_24 : decode cX4_become 24 = .ok (.ldiv, 1) := by decide +kernel
theorem dX4_become_25 : decode cX4_become 25 = .ok (.putfield 7, 3) := by decide +kernel
theorem dX4_become_28 : decode cX4_become 28 = .ok (.aload_n 0, 1) := by decide +kernel
theorem dX4_become_29 : decode cX4_become 29 = .ok (.lload_n 3, 1) := by decide +kernel
theorem dX4_become_30 : decode cX4_become 30 = .ok (.lload 5, 2) := by decide +kernel
theorem dX4_become_32 : decode cX4_become 32 = .ok (.ldiv, 1) := by decide +kernel
theorem dX4_become_33 : decode cX4_become 33 = .ok (.putfield 13, 3) := by decide +kernel
theorem dX4_become_36 : decode cX4_become 36 = .ok (.return_, 1) := by decide +kernel
theorem dX4_commonDivisor_0 : decode cX4_commonDivisor 0 = .ok (.lload_n 0, 1) := by decide +kernel
theorem dX4_commonDivisor_1 : decode cX4_commonDivisor 1 = .ok (.lstore 4, 2) := by decide +kernel
theorem dX4_commonDivisor_3 : decode cX4_commonDivisor 3 = .ok (.lload_n 2, 1) := by decide +kernel
theorem dX4_commonDivisor_4 : decode cX4_commonDivisor 4 = .ok (.lstore 6, 2) := by decide +kernel
theorem dX4_commonDivisor_6 : decode cX4_commonDivisor 6 = .ok (.iconst 0, 1) := by decide +kernel
theorem dX4_commonDivisor_7 : decode cX4_commonDivisor 7 = .ok (.istore 8, 2) := by decide +kernel
theorem dX4_commonDivisor_9 : decode cX4_commonDivisor 9 = .ok (.iload 8, 2) := by decide +kernel
theorem dX4_commonDivisor_11 : decode cX4_commonDivisor 11 = .ok (.sipush 200, 3) := by decide +kernel
theorem dX4_commonDivisor_14 : decode cX4_commonDivisor 14 = .ok (.if_icmp .ge 31, 3) := by decide +kernel
theorem dX4_commonDivisor_17 : decode cX4_commonDivisor 17 = .ok (.lload 6, 2) := by decide +kernel
theorem dX4_commonDivisor_19 : decode cX4_commonDivisor 19 = .ok (.lconst 0, 1) := by decide +kernel
theorem dX4_commonDivisor_20 : decode cX4_commonDivisor 20 = .ok (.lcmp, 1) := by decide +kernel
theorem dX4_commonDivisor_21 : decode cX4_commonDivisor 21 = .ok (.ifCond .eq 24, 3) := by decide +kernel
theorem dX4_commonDivisor_24 : decode cX4_commonDivisor 24 = .ok (.lload 4, 2) := by decide +kernel
theorem dX4_commonDivisor_26 : decode cX4_commonDivisor 26 = .ok (.lload 6, 2) := by decide +kernel
theorem dX4_commonDivisor_28 : decode cX4_commonDivisor 28 = .ok (.lrem, 1) := by decide +kernel
theorem dX4_commonDivisor_29 : decode cX4_commonDivisor 29 = .ok (.lstore 9, 2) := by decide +kernel
theorem dX4_commonDivisor_31 : decode cX4_commonDivisor 31 = .ok (.lload 6, 2) := by decide +kernel
theorem dX4_commonDivisor_33 : decode cX4_commonDivisor 33 = .ok (.lstore 4, 2) := by decide +kernel
theorem dX4_commonDivisor_35 : decode cX4_commonDivisor 35 = .ok (.lload 9, 2) := by decide +kernel
theorem dX4_commonDivisor_37 : decode cX4_commonDivisor 37 = .ok (.lstore 6, 2) := by decide +kernel
theorem dX4_commonDivisor_39 : decode cX4_commonDivisor 39 = .ok (.iinc 8 1, 3) := by decide +kernel
theorem dX4_commonDivisor_42 : decode cX4_commonDivisor 42 = .ok (.goto (-33), 3) := by decide +kernel
theorem dX4_commonDivisor_45 : decode cX4_commonDivisor 45 = .ok (.lload 4, 2) := by decide +kernel
theorem dX4_commonDivisor_47 : decode cX4_commonDivisor 47 = .ok (.lconst 0, 1) := by decide +kernel
theorem dX4_commonDivisor_48 : decode cX4_commonDivisor 48 = .ok (.lcmp, 1) := by decide +kernel
theorem dX4_commonDivisor_49 : decode cX4_commonDivisor 49 = .ok (.ifCond .le 8, 3) := by decide +kernel
theorem dX4_commonDivisor_52 : decode cX4_commonDivisor 52 = .ok (.lload 4, 2) := by decide +kernel
theorem dX4_commonDivisor_54 : decode cX4_commonDivisor 54 = .ok (.goto 4, 3) := by decide +kernel
theorem dX4_commonDivisor_57 : decode cX4_commonDivisor 57 = .ok (.lconst 1, 1) := by decide +kernel
theorem dX4_commonDivisor_58 : decode cX4_commonDivisor 58 = .ok (.lreturn, 1) := by decide +kernel
theorem dX5_init_0 : decode cX5_init 0 = .ok (.aload_n 0, 1) := by decide +kernel
theorem dX5_init_1 : decode cX5_init 1 = .ok (.invokespecial 3, 3) := by decide +kernel
theorem dX5_init_4 : decode cX5_init 4 = .ok (.aload_n 0, 1) := by decide +kernel
theorem dX5_init_5 : decode cX5_init 5 = .ok (.bipush 7, 2) := by decide +kernel
theorem dX5_init_7 : decode cX5_init 7 = .ok (.newarray .int, 2) := by decide +kernel
theorem dX5_init_9 : decode cX5_init 9 = .ok (.putfield 9, 3) := by decide +kernel
theorem dX5_init_12 : decode cX5_init 12 = .ok (.aload_n 0, 1) := by decide +kernel
theorem dX5_init_13 : decode cX5_init 13 = .ok (.bipush 7, 2) := by decide +kernel
theorem dX5_init_15 : decode cX5_init 15 = .ok (.newarray .int, 2) := by decide +kernel
theorem dX5_init_17 : decode cX5_init 17 = .ok (.putfield 15, 3) := by decide +kernel
theorem dX5_init_20 : decode cX5_init 20 = .ok (.aload_n 0, 1) := by decide +kernel
theorem dX5_init_21 : decode cX5_init 21 = .ok (.bipush 7, 2) := by decide +kernel
theorem dX5_init_23 : decode cX5_init 23 = .ok (.newarray .int, 2) := by decide +kernel
theorem dX5_init_25 : decode cX5_init 25 = .ok (.putfield 18, 3) := by decide +kernel
theorem dX5_init_28 : decode cX5_init 28 = .ok (.aload_n 0, 1) := by decide +kernel
theorem dX5_init_29 : decode cX5_init 29 = .ok (.bipush 6, 2) := by decide +kernel
theorem dX5_init_31 : decode cX5_init 31 = .ok (.newarray .int, 2) := by decide +kernel
theorem dX5_init_33 : decode cX5_init 33 = .ok (.putfield 21, 3) := by decide +kernel
theorem dX5_init_36 : decode cX5_init 36 = .ok (.aload_n 0, 1) := by decide +kernel
theorem dX5_init_37 : decode cX5_init 37 = .ok (.bipush 6, 2) := by decide +kernel
theorem dX5_init_39 : decode cX5_init 39 = .ok (.newarray .int, 2) := by decide +kernel
theorem dX5_init_41 : decode cX5_init 41 = .ok (.putfield 24, 3) := by decide +kernel
theorem dX5_init_44 : decode cX5_init 44 = .ok (.aload_n 0, 1) := by decide +kernel
theorem dX5_init_45 : decode cX5_init 45 = .ok (.bipush 30, 2) := by decide +kernel
theorem dX5_init_47 : decode cX5_init 47 = .ok (.newarray .int, 2) := by decide +kernel
theorem dX5_init_49 : decode cX5_init 49 = .ok (.putfield 27, 3) := by decide +kernel
theorem dX5_init_52 : decode cX5_init 52 = .ok (.aload_n 0, 1) := by decide +kernel
theorem dX5_init_53 : decode cX5_init 53 = .ok (.bipush 120, 2) := by decide +kernel
theorem dX5_init_55 : decode cX5_init 55 = .ok (.newarray .int, 2) := by decide +kernel
theorem dX5_init_57 : decode cX5_init 57 = .ok (.putfield 30, 3) := by decide +kernel
theorem dX5_init_60 : decode cX5_init 60 = .ok (.return_, 1) := by decide +kernel
theorem dX5_begin_0 : decode cX5_begin 0 = .ok (.aload_n 0, 1) := by decide +kernel
theorem dX5_begin_1 : decode cX5_begin 1 = .ok (.iload_n 1, 1) := by decide +kernel
theorem dX5_begin_2 : decode cX5_begin 2 = .ok (.putfield 33, 3) := by decide +kernel
theorem dX5_begin_5 : decode cX5_begin 5 = .ok (.aload_n 0, 1) := by decide +kernel
theorem dX5_begin_6 : decode cX5_begin 6 = .ok (.iconst 0, 1) := by decide +kernel
theorem dX5_begin_7 : decode cX5_begin 7 = .ok (.putfield 37, 3) := by decide +kernel
theorem dX5_begin_10 : decode cX5_begin 10 = .ok (.aload_n 0, 1) := by decide +kernel
theorem dX5_begin_11 : decode cX5_begin 11 = .ok (.getfield 18, 3) := by decide +kernel
theorem dX5_begin_14 : decode cX5_begin 14 = .ok (.iconst 0, 1) := by decide +kernel
theorem dX5_begin_15 : decode cX5_begin 15 = .ok (.invokestatic 40, 3) := by decide +kernel
theorem dX5_begin_18 : decode cX5_begin 18 = .ok (.aload_n 0, 1) := by decide +kernel
theorem dX5_begin_19 : decode cX5_begin 19 = .ok (.iconst 0, 1) := by decide +kernel
theorem dX5_begin_20 : decode cX5_begin 20 = .ok (.putfield 46, 3) := by decide +kernel
theorem dX5_begin_23 : decode cX5_begin 23 = .ok (.aload_n 0, 1) := by decide +kernel
theorem dX5_begin_24 : decode cX5_begin 24 = .ok (.iconst 0, 1) := by decide +kernel
theorem dX5_begin_25 : decode cX5_begin 25 = .ok (.putfield 49, 3) := by decide +kernel
theorem dX5_begin_28 : decode cX5_begin 28 = .ok (.aload_n 0, 1) := by decide +kernel
theorem dX5_begin_29 : decode cX5_begin 29 = .ok (.iconst 0, 1) := by decide +kernel
theorem dX5_begin_30 : decode cX5_begin 30 = .ok (.putfield 52, 3) := by decide +kernel
theorem dX5_begin_33 : decode cX5_begin 33 = .ok (.return_, 1) := by decide +kernel
theorem dX5_copyFrom_0 : decode cX5_copyFrom 0 = .ok (.aload_n 0, 1) := by decide +kernel
theorem dX5_copyFrom_1 : decode cX5_copyFrom 1 = .ok (.aload_n 1, 1) := by decide +kernel
theorem dX5_copyFrom_2 : decode cX5_copyFrom 2 = .ok (.getfield 33, 3) := by decide +kernel
theorem dX5_copyFrom_5 : decode cX5_copyFrom 5 = .ok (.putfield 33, 3) := by decide +kernel
theorem dX5_copyFrom_8 : decode cX5_copyFrom 8 = .ok (.aload_n 0, 1) := by decide +kernel
theorem dX5_copyFrom_9 : decode cX5_copyFrom 9 = .ok (.aload_n 1, 1) := by decide +kernel
theorem dX5_copyFrom_10 : decode cX5_copyFrom 10 = .ok (.getfield 37, 3) := by decide +kernel
theorem dX5_copyFrom_13 : decode cX5_copyFrom 13 = .ok (.putfield 37, 3) := by decide +kernel
theorem dX5_copyFrom_16 : decode cX5_copyFrom 16 = .ok (.aload_n 0, 1) := by decide +kernel
theorem dX5_copyFrom_17 : decode cX5_copyFrom 17 = .ok (.aload_n 1, 1) := by decide +kernel
theorem dX5_copyFrom_18 : decode cX5_copyFrom 18 = .ok (.getfield 46, 3) := by decide +kernel
theorem dX5_copyFrom_21 : decode cX5_copyFrom 21 = .ok (.putfield 46, 3) := by decide +kernel
theorem dX5_copyFrom_24 : decode cX5_copyFrom 24 = .ok (.aload_n 0, 1) := by decide +kernel
theorem dX5_copyFrom_25 : decode cX5_copyFrom 25 = .ok (.aload_n 1, 1) := by decide +kernel
theorem dX5_copyFrom_26 : decode cX5_copyFrom 26 = .ok (.getfield 49, 3) := by decide +kernel
theorem dX5_copyFrom_29 : decode cX5_copyFrom 29 = .ok (.putfield 49, 3) := by decide +kernel
theorem dX5_copyFrom_32 : decode cX5_copyFrom 32 = .ok (.aload_n 0, 1) := by decide +kernel
theorem dX5_copyFrom_33 : decode cX5_copyFrom 33 = .ok (.aload_n 1, 1) := by decide +kernel
theorem dX5_copyFrom_34 : decode cX5_copyFrom 34 = .ok (.getfield 52, 3) := by decide +kernel
theorem dX5_copyFrom_37 : decode cX5_copyFrom 37 = .ok (.putfield 52, 3) := by decide +kernel
theorem dX5_copyFrom_40 : decode cX5_copyFrom 40 = .ok (.aload_n 1, 1) := by decide +kernel
theorem dX5_copyFrom_41 : decode cX5_copyFrom 41 = .ok (.getfield 9, 3) := by decide +kernel
theorem dX5_copyFrom_44 : decode cX5_copyFrom 44 = .ok (.iconst 0, 1) := by decide +kernel
theorem dX5_copyFrom_45 : decode cX5_copyFrom 45 = .ok (.aload_n 0, 1) := by decide +kernel
theorem dX5_copyFrom_46 : decode cX5_copyFrom 46 = .ok (.getfield 9, 3) := by decide +kernel
theorem dX5_copyFrom_49 : decode cX5_copyFrom 49 = .ok (.iconst 0, 1) := by decide +kernel
theorem dX5_copyFrom_50 : decode cX5_copyFrom 50 = .ok (.bipush 7, 2) := by decide +kernel
theorem dX5_copyFrom_52 : decode cX5_copyFrom 52 = .ok (.invokestatic 55, 3) := by decide +kernel
theorem dX5_copyFrom_55 : decode cX5_copyFrom 55 = .ok (.aload_n 1, 1) := by decide +kernel
theorem dX5_copyFrom_56 : decode cX5_copyFrom 56 = .ok (.getfield 15, 3) := by decide +kernel
theorem dX5_copyFrom_59 : decode cX5_copyFrom 59 = .ok (.iconst 0, 1) := by decide +kernel
theorem dX5_copyFrom_60 : decode cX5_copyFrom 60 = .ok (.aload_n 0, 1) := by decide +kernel
theorem dX5_copyFrom_61 : decode cX5_copyFrom 61 = .ok (.getfield 15, 3) := by decide +kernel
theorem dX5_copyFrom_64 : decode cX5_copyFrom 64 = .ok (.iconst 0, 1) := by decide +kernel
theorem dX5_copyFrom_65 : decode cX5_copyFrom 65 = .ok (.bipush 7, 2) := by decide +kernel
theorem dX5_copyFrom_67 : decode cX5_copyFrom 67 = .ok (.invokestatic 55, 3) := by decide +kernel
theorem dX5_copyFrom_70 : decode cX5_copyFrom 70 = .ok (.aload_n 1, 1) := by decide +kernel
theorem dX5_copyFrom_71 : decode cX5_copyFrom 71 = .ok (.getfield 18, 3) := by decide +kernel
theorem dX5_copyFrom_74 : decode cX5_copyFrom 74 = .ok (.iconst 0, 1) := by decide +kernel
theorem dX5_copyFrom_75 : decode cX5_copyFrom 75 = .ok (.aload_n 0, 1) := by decide +kernel
theorem dX5_copyFrom_76 : decode cX5_copyFrom 76 = .ok (.getfield 18, 3) := by decide +kernel
theorem dX5_copyFrom_79 : decode cX5_copyFrom 79 = .ok (.iconst 0, 1) := by decide +kernel
theorem dX5_copyFrom_80 : decode cX5_copyFrom 80 = .ok (.bipush 7, 2) := by decide +kernel
theorem dX5_copyFrom_82 : decode cX5_copyFrom 82 = .ok (.invokestatic 55, 3) := by decide +kernel
theorem dX5_copyFrom_85 : decode cX5_copyFrom 85 = .ok (.aload_n 1, 1) := by decide +kernel
theorem dX5_copyFrom_86 : decode cX5_copyFrom 86 = .ok (.getfield 21, 3) := by decide +kernel
theorem dX5_copyFrom_89 : decode cX5_copyFrom 89 = .ok (.iconst 0, 1) := by decide +kernel
theorem dX5_copyFrom_90 : decode cX5_copyFrom 90 = .ok (.aload_n 0, 1) := by decide +kernel
theorem dX5_copyFrom_91 : decode cX5_copyFrom 91 = .ok (.getfield 21, 3) := by decide +kernel
theorem dX5_copyFrom_94 : decode cX5_copyFrom 94 = .ok (.iconst 0, 1) := by decide +kernel
theorem dX5_copyFrom_95 : decode cX5_copyFrom 95 = .ok (.bipush 6, 2) := by decide +kernel
theorem dX5_copyFrom_97 : decode cX5_copyFrom 97 = .ok (.invokestatic 55, 3) := by decide +kernel
theorem dX5_copyFrom_100 : decode cX5_copyFrom 100 = .ok (.aload_n 1, 1) := by decide +kernel
theorem dX5_copyFrom_101 : decode cX5_copyFrom 101 = .ok (.getfield 24, 3) := by decide +kernel
theorem dX5_copyFrom_104 : decode cX5_copyFrom 104 = .ok (.iconst 0, 1) := by decide +kernel
theorem dX5_copyFrom_105 : decode cX5_copyFrom 105 = .ok (.aload_n 0, 1) := by decide +kernel
theorem dX5_copyFrom_106 : decode cX5_copyFrom 106 = .ok (.getfield 24, 3) := by decide +kernel
theorem dX5_copyFrom_109 : decode cX5_copyFrom 109 = .ok (.iconst 0, 1) := by decide +kernel
theorem dX5_copyFrom_110 : decode cX5_copyFrom 110 = .ok (.bipush 6, 2) := by decide +kernel
theorem dX5_copyFrom_112 : decode cX5_copyFrom 112 = .ok (.invokestatic 55, 3) := by decide +kernel
theorem dX5_copyFrom_115 : decode cX5_copyFrom 115 = .ok (.aload_n 1, 1) := by decide +kernel
theorem dX5_copyFrom_116 : decode cX5_copyFrom 116 = .ok (.getfield 27, 3) := by decide +kernel
theorem dX5_copyFrom_119 : decode cX5_copyFrom 119 = .ok (.iconst 0, 1) := by decide +kernel
theorem dX5_copyFrom_120 : decode cX5_copyFrom 120 = .ok (.aload_n 0, 1) := by decide +kernel
theorem dX5_copyFrom_121 : decode cX5_copyFrom 121 = .ok (.getfield 27, 3) := by decide +kernel
theorem dX5_copyFrom_124 : decode cX5_copyFrom 124 = .ok (.iconst 0, 1) := by decide +kernel
theorem dX5_copyFrom_125 : decode cX5_copyFrom 125 = .ok (.bipush 30, 2) := by decide +kernel
theorem dX5_copyFrom_127 : decode cX5_copyFrom 127 = .ok (.invokestatic 55, 3) := by decide +kernel
theorem dX5_copyFrom_130 : decode cX5_copyFrom 130 = .ok (.aload_n 1, 1) := by decide +kernel
theorem dX5_copyFrom_131 : decode cX5_copyFrom 131 = .ok (.getfield 30, 3) := by decide +kernel
theorem dX5_copyFrom_134 : decode cX5_copyFrom 134 = .ok (.iconst 0, 1) := by decide +kernel
theorem dX5_copyFrom_135 : decode cX5_copyFrom 135 = .ok (.aload_n 0, 1) := by decide +kernel
theorem dX5_copyFrom_136 : decode cX5_copyFrom 136 = .ok (.getfield 30, 3) := by decide +kernel
theorem dX5_copyFrom_139 : decode cX5_copyFrom 139 = .ok (.iconst 0, 1) := by decide +kernel
theorem dX5_copyFrom_140 : decode cX5_copyFrom 140 = .ok (.bipush 120, 2) := by decide +kernel
theorem dX5_copyFrom_142 : decode cX5_copyFrom 142 = .ok (.invokestatic 55, 3) := by decide +kernel
theorem dX5_copyFrom_145 : decode cX5_copyFrom 145 = .ok (.return_, 1) := by decide +kernel
theorem dX5_join_0 : decode cX5_join 0 = .ok (.aload_n 0, 1) := by decide +kernel
theorem dX5_join_1 : decode cX5_join 1 = .ok (.getfield 37, 3) := by decide +kernel
theorem dX5_join_4 : decode cX5_join 4 = .ok (.bipush 7, 2) := by decide +kernel
theorem dX5_join_6 : decode cX5_join 6 = .ok (.if_icmp .lt 4, 3) := by decide +kernel
theorem dX5_join_9 : decode cX5_join 9 = .ok (.return_, 1) := by decide +kernel
theorem dX5_join_10 : decode cX5_join 10 = .ok (.aload_n 0, 1) := by decide +kernel
theorem dX5_join_11 : decode cX5_join 11 = .ok (.getfield 9, 3) := by decide +kernel
theorem dX5_join_14 : decode cX5_join 14 = .ok (.aload_n 0, 1) := by decide +kernel
theorem dX5_join_15 : decode cX5_join 15 = .ok (.getfield 37, 3) := by decide +kernel
theorem dX5_join_18 : decode cX5_join 18 = .ok (.iload_n 1, 1) := by decide +kernel
theorem dX5_join_19 : decode cX5_join 19 = .ok (.iastore, 1) := by decide +kernel
theorem dX5_join_20 : decode cX5_join 20 = .ok (.aload_n 0, 1) := by decide +kernel
theorem dX5_join_21 : decode cX5_join 21 = .ok (.getfield 15, 3) := by decide +kernel
theorem dX5_join_24 : decode cX5_join 24 = .ok (.aload_n 0, 1) := by decide +kernel
theorem dX5_join_25 : decode cX5_join 25 = .ok (.getfield 37, 3) := by decide +kernel
theorem dX5_join_28 : decode cX5_join 28 = .ok (.iload_n 2, 1) := by decide +kernel
theorem dX5_join_29 : decode cX5_join 29 = .ok (.iastore, 1) := by decide +kernel
theorem dX5_join_30 : decode cX5_join 30 = .ok (.aload_n 0, 1) := by decide +kernel
theorem dX5_join_31 : decode cX5_join 31 = .ok (.getfield 18, 3) := by decide +kernel
theorem dX5_join_34 : decode cX5_join 34 = .ok (.aload_n 0, 1) := by decide +kernel
theorem dX5_join_35 : decode cX5_join 35 = .ok (.getfield 37, 3) := by decide +kernel
theorem dX5_join_38 : decode cX5_join 38 = .ok (.iconst 1, 1) := by decide +kernel
theorem dX5_join_39 : decode cX5_join 39 = .ok (.aload_n 0, 1) := by decide +kernel
theorem dX5_join_40 : decode cX5_join 40 = .ok (.getfield 37, 3) := by decide +kernel
theorem dX5_join_43 : decode cX5_join 43 = .ok (.ishl, 1) := by decide +kernel
theorem dX5_join_44 : decode cX5_join 44 = .ok (.iastore, 1) := by decide +kernel
theorem dX5_join_45 : decode cX5_join 45 = .ok (.aload_n 0, 1) := by decide +kernel
theorem dX5_join_46 : decode cX5_join 46 = .ok (.dup, 1) := by decide +kernel
theorem dX5_join_47 : decode cX5_join 47 = .ok (.getfield 37, 3) := by decide +kernel
theorem dX5_join_50 : decode cX5_join 50 = .ok (.iconst 1, 1) := by decide +kernel
theorem dX5_join_51 : decode cX5_join 51 = .ok (.iadd, 1) := by decide +kernel
theorem dX5_join_52 : decode cX5_join 52 = .ok (.putfield 37, 3) := by decide +kernel
theorem dX5_join_55 : decode cX5_join 55 = .ok (.aload_n 0, 1) := by decide +kernel
theorem dX5_join_56 : decode cX5_join 56 = .ok (.iconst 0, 1) := by decide +kernel
theorem dX5_join_57 : decode cX5_join 57 = .ok (.putfield 52, 3) := by decide +kernel
theorem dX5_join_60 : decode cX5_join 60 = .ok (.return_, 1) := by decide +kernel
theorem dX5_nameOf_0 : decode cX5_nameOf 0 = .ok (.iconst 0, 1) := by decide +kernel
theorem dX5_nameOf_1 : decode cX5_nameOf 1 = .ok (.istore_n 2, 1) := by decide +kernel
theorem dX5_nameOf_2 : decode cX5_nameOf 2 = .ok (.iload_n 2, 1) := by decide +kernel
theorem dX5_nameOf_3 : decode cX5_nameOf 3 = .ok (.aload_n 0, 1) := by decide +kernel
theorem dX5_nameOf_4 : decode cX5_nameOf 4 = .ok (.getfield 37, 3) := by decide +kernel
theorem dX5_nameOf_7 : decode cX5_nameOf 7 = .ok (.if_icmp .ge 25, 3) := by decide +kernel
theorem dX5_nameOf_10 : decode cX5_nameOf 10 = .ok (.aload_n 0, 1) := by decide +kernel
theorem dX5_nameOf_11 : decode cX5_nameOf 11 = .ok (.getfield 18, 3) := by decide +kernel
theorem dX5_nameOf_14 : decode cX5_nameOf 14 = .ok (.iload_n 2, 1) := by decide +kernel
theorem dX5_nameOf_15 : decode cX5_nameOf 15 = .ok (.iaload, 1) := by decide +kernel
theorem dX5_nameOf_16 : decode cX5_nameOf 16 = .ok (.iload_n 1, 1) := by decide +kernel
theorem dX5_nameOf_17 : decode cX5_nameOf 17 = .ok (.invokestatic 61, 3) := by decide +kernel
theorem dX5_nameOf_20 : decode cX5_nameOf 20 = .ok (.iconst 1, 1) := by decide +kernel
theorem dX5_nameOf_21 : decode cX5_nameOf 21 = .ok (.if_icmp .ne 5, 3) := by decide +kernel
theorem dX5_nameOf_24 : decode cX5_nameOf 24 = .ok (.iload_n 2, 1) := by decide +kernel
theorem dX5_nameOf_25 : decode cX5_nameOf 25 = .ok (.ireturn, 1) := by decide +kernel
theorem dX5_nameOf_26 : decode cX5_nameOf 26 = .ok (.iinc 2 1, 3) := by decide +kernel
theorem dX5_nameOf_29 : decode cX5_nameOf 29 = .ok (.goto (-27), 3) := by decide +kernel
theorem dX5_nameOf_32 : decode cX5_nameOf 32 = .ok (.iconst (-1), 1) := by decide +kernel
theorem dX5_nameOf_33 : decode cX5_nameOf 33 = .ok (.ireturn, 1) := by decide +kernel
theorem dX5_give_0 : decode cX5_give 0 = .ok (.iconst 0, 1) := by decide +kernel
theorem dX5_give_1 : decode cX5_give 1 = .ok (.istore_n 3, 1) := by decide +kernel
theorem dX5_give_2 : decode cX5_give 2 = .ok (.iload_n 3, 1) := by decide +kernel
theorem dX5_give_3 : decode cX5_give 3 = .ok (.aload_n 0, 1) := by decide +kernel
theorem dX5_give_4 : decode cX5_give 4 = .ok (.getfield 37, 3) := by decide +kernel
theorem dX5_give_7 : decode cX5_give 7 = .ok (.if_icmp .ge 23, 3) := by decide +kernel
theorem dX5_give_10 : decode cX5_give 10 = .ok (.aload_n 0, 1) := by decide +kernel
theorem dX5_give_11 : decode cX5_give 11 = .ok (.getfield 18, 3) := by decide +kernel
theorem dX5_give_14 : decode cX5_give 14 = .ok (.iload_n 3, 1) := by decide +kernel
theorem dX5_give_15 : decode cX5_give 15 = .ok (.dup2, 1) := by decide +kernel
theorem dX5_give_16 : decode cX5_give 16 = .ok (.iaload, 1) := by decide +kernel
theorem dX5_give_17 : decode cX5_give 17 = .ok (.iconst 1, 1) := by decide +kernel
theorem dX5_give_18 : decode cX5_give 18 = .ok (.iload_n 1, 1) := by decide +kernel
theorem dX5_give_19 : decode cX5_give 19 = .ok (.ishl, 1) := by decide +kernel
theorem dX5_give_20 : decode cX5_give 20 = .ok (.iconst (-1), 1) := by decide +kernel
theorem dX5_give_21 : decode cX5_give 21 = .ok (.ixor, 1) := by decide +kernel
theorem dX5_give_22 : decode cX5_give 22 = .ok (.iand, 1) := by decide +kernel
theorem dX5_give_23 : decode cX5_give 23 = .ok (.iastore, 1) := by decide +kernel
theorem dX5_give_24 : decode cX5_give 24 = .ok (.iinc 3 1, 3) := by decide +kernel
theorem dX5_give_27 : decode cX5_give 27 = .ok (.goto (-25), 3) := by decide +kernel
theorem dX5_give_30 : decode cX5_give 30 = .ok (.iload_n 2, 1) := by decide +kernel
theorem dX5_give_31 : decode cX5_give 31 = .ok (.aload_n 0, 1) := by decide +kernel
theorem dX5_give_32 : decode cX5_give 32 = .ok (.getfield 37, 3) := by decide +kernel
theorem dX5_give_35 : decode cX5_give 35 = .ok (.invokestatic 65, 3) := by decide +kernel
theorem dX5_give_38 : decode cX5_give 38 = .ok (.ifCond .eq 15, 3) := by decide +kernel
theorem dX5_give_41 : decode cX5_give 41 = .ok (.aload_n 0, 1) := by decide +kernel
theorem dX5_give_42 : decode cX5_give 42 = .ok (.getfield 18, 3) := by decide +kernel
theorem dX5_give_45 : decode cX5_give 45 = .ok (.iload_n 2, 1) := by decide +kernel
theorem dX5_give_46 : decode cX5_give 46 = .ok (.dup2, 1) := by decide +kernel
theorem dX5_give_47 : decode cX5_give 47 = .ok (.iaload, 1) := by decide +kernel
theorem dX5_give_48 : decode cX5_give 48 = .ok (.iconst 1, 1) := by decide +kernel
theorem dX5_give_49 : decode cX5_give 49 = .ok (.iload_n 1, 1) := by decide +kernel
theorem dX5_give_50 : decode cX5_give 50 = .ok (.ishl, 1) := by decide +kernel
theorem dX5_give_51 : decode cX5_give 51 = .ok (.ior, 1) := by decide +kernel
theorem dX5_give_52 : decode cX5_give 52 = .ok (.iastore, 1) := by decide +kernel
theorem dX5_give_53 : decode cX5_give 53 = .ok (.return_, 1) := by decide +kernel
theorem dX5_penceOn_0 : decode cX5_penceOn 0 = .ok (.iconst 0, 1) := by decide +kernel
theorem dX5_penceOn_1 : decode cX5_penceOn 1 = .ok (.istore_n 2, 1) := by decide +kernel
theorem dX5_penceOn_2 : decode cX5_penceOn 2 = .ok (.iconst 0, 1) := by decide +kernel
theorem dX5_penceOn_3 : decode cX5_penceOn 3 = .ok (.istore_n 3, 1) := by decide +kernel
theorem dX5_penceOn_4 : decode cX5_penceOn 4 = .ok (.iload_n 3, 1) := by decide +kernel
theorem dX5_penceOn_5 : decode cX5_penceOn 5 = .ok (.aload_n 0, 1) := by decide +kernel
theorem dX5_penceOn_6 : decode cX5_penceOn 6 = .ok (.getfield 46, 3) := by decide +kernel
theorem dX5_penceOn_9 : decode cX5_penceOn 9 = .ok (.if_icmp .ge 28, 3) := by decide +kernel
theorem dX5_penceOn_12 : decode cX5_penceOn 12 = .ok (.aload_n 0, 1) := by decide +kernel
theorem dX5_penceOn_13 : decode cX5_penceOn 13 = .ok (.getfield 21, 3) := by decide +kernel
theorem dX5_penceOn_16 : decode cX5_penceOn 16 = .ok (.iload_n 3, 1) := by decide +kernel
theorem dX5_penceOn_17 : decode cX5_penceOn 17 = .ok (.iaload, 1) := by decide +kernel
theorem dX5_penceOn_18 : decode cX5_penceOn 18 = .ok (.iload_n 1, 1) := by decide +kernel
theorem dX5_penceOn_19 : decode cX5_penceOn 19 = .ok (.if_icmp .ne 12, 3) := by decide +kernel
theorem dX5_penceOn_22 : decode cX5_penceOn 22 = .ok (.iload_n 2, 1) := by decide +kernel
theorem dX5_penceOn_23 : decode cX5_penceOn 23 = .ok (.aload_n 0, 1) := by decide +kernel
theorem dX5_penceOn_24 : decode cX5_penceOn 24 = .ok (.getfield 24, 3) := by decide +kernel
theorem dX5_penceOn_27 : decode cX5_penceOn 27 = .ok (.iload_n 3, 1) := by decide +kernel
theorem dX5_penceOn_28 : decode cX5_penceOn 28 = .ok (.iaload, 1) := by decide +kernel
theorem dX5_penceOn_29 : decode cX5_penceOn 29 = .ok (.iadd, 1) := by decide +kernel
theorem dX5_penceOn_30 : decode cX5_penceOn 30 = .ok (.istore_n 2, 1) := by decide +kernel
theorem dX5_penceOn_31 : decode cX5_penceOn 31 = .ok (.iinc 3 1, 3) := by decide +kernel
theorem dX5_penceOn_34 : decode cX5_penceOn 34 = .ok (.goto (-30), 3) := by decide +kernel
theorem dX5_penceOn_37 : decode cX5_penceOn 37 = .ok (.iload_n 2, 1) := by decide +kernel
theorem dX5_penceOn_38 : decode cX5_penceOn 38 = .ok (.ireturn, 1) := by decide +kernel
theorem dX5_write_0 : decode cX5_write 0 = .ok (.aload_n 0, 1) := by decide +kernel
theorem dX5_write_1 : decode cX5_write 1 = .ok (.getfield 49, 3) := by decide +kernel
theorem dX5_write_4 : decode cX5_write 4 = .ok (.bipush 6, 2) := by decide +kernel
theorem dX5_write_6 : decode cX5_write 6 = .ok (.if_icmp .lt 4, 3) := by decide +kernel
theorem dX5_write_9 : decode cX5_write 9 = .ok (.return_, 1) := by decide +kernel
theorem dX5_write_10 : decode cX5_write 10 = .ok (.aload_n 0, 1) := by decide +kernel
theorem dX5_write_11 : decode cX5_write 11 = .ok (.getfield 49, 3) := by decide +kernel
theorem dX5_write_14 : decode cX5_write 14 = .ok (.iconst 5, 1) := by decide +kernel
theorem dX5_write_15 : decode cX5_write 15 = .ok (.imul, 1) := by decide +kernel
theorem dX5_write_16 : decode cX5_write 16 = .ok (.istore 6, 2) := by decide +kernel
theorem dX5_write_18 : decode cX5_write 18 = .ok (.aload_n 0, 1) := by decide +kernel
theorem dX5_write_19 : decode cX5_write 19 = .ok (.getfield 27, 3) := by decide +kernel
theorem dX5_write_22 : decode cX5_write 22 = .ok (.iload 6, 2) := by decide +kernel
theorem dX5_write_24 : decode cX5_write 24 = .ok (.iload_n 1, 1) := by decide +kernel
theorem dX5_write_25 : decode cX5_write 25 = .ok (.iastore, 1) := by decide +kernel
theorem dX5_write_26 : decode cX5_write 26 = .ok (.aload_n 0, 1) := by decide +kernel
theorem dX5_write_27 : decode cX5_write 27 = .ok (.getfield 27, 3) := by decide +kernel
theorem dX5_write_30 : decode cX5_write 30 = .ok (.iload 6, 2) := by decide +kernel
theorem dX5_write_32 : decode cX5_write 32 = .ok (.iconst 1, 1) := by decide +kernel
theorem dX5_write_33 : decode cX5_write 33 = .ok (.iadd, 1) := by decide +kernel
theorem dX5_write_34 : decode cX5_write 34 = .ok (.iload_n 2, 1) := by decide +kernel
theorem dX5_write_35 : decode cX5_write 35 = .ok (.iastore, 1) := by decide +kernel
theorem dX5_write_36 : decode cX5_write 36 = .ok (.aload_n 0, 1) := by decide +kernel
theorem dX5_write_37 : decode cX5_write 37 = .ok (.getfield 27, 3) := by decide +kernel
theorem dX5_write_40 : decode cX5_write 40 = .ok (.iload 6, 2) := by decide +kernel
theorem dX5_write_42 : decode cX5_write 42 = .ok (.iconst 2, 1) := by decide +kernel
theorem dX5_write_43 : decode cX5_write 43 = .ok (.iadd, 1) := by decide +kernel
theorem dX5_write_44 : decode cX5_write 44 = .ok (.iload_n 3, 1) := by decide +kernel
theorem dX5_write_45 : decode cX5_write 45 = .ok (.iastore, 1) := by decide +kernel
theorem dX5_write_46 : decode cX5_write 46 = .ok (.aload_n 0, 1) := by decide +kernel
theorem dX5_write_47 : decode cX5_write 47 = .ok (.getfield 27, 3) := by decide +kernel
theorem dX5_write_50 : decode cX5_write 50 = .ok (.iload 6, 2) := by decide +kernel
theorem dX5_write_52 : decode cX5_write 52 = .ok (.iconst 3, 1) := by decide +kernel
theorem dX5_write_53 : decode cX5_write 53 = .ok (.iadd, 1) := by decide +kernel
theorem dX5_write_54 : decode cX5_write 54 = .ok (.iload 4, 2) := by decide +kernel
theorem dX5_write_56 : decode cX5_write 56 = .ok (.iastore, 1) := by decide +kernel
theorem dX5_write_57 : decode cX5_write 57 = .ok (.aload_n 0, 1) := by decide +kernel
theorem dX5_write_58 : decode cX5_write 58 = .ok (.getfield 27, 3) := by decide +kernel
theorem dX5_write_61 : decode cX5_write 61 = .ok (.iload 6, 2) := by decide +kernel
theorem dX5_write_63 : decode cX5_write 63 = .ok (.iconst 4, 1) := by decide +kernel
theorem dX5_write_64 : decode cX5_write 64 = .ok (.iadd, 1) := by decide +kernel
theorem dX5_write_65 : decode cX5_write 65 = .ok (.iload 5, 2) := by decide +kernel
theorem dX5_write_67 : decode cX5_write 67 = .ok (.iastore, 1) := by decide +kernel
theorem dX5_write_68 : decode cX5_write 68 = .ok (.aload_n 0, 1) := by decide +kernel
theorem dX5_write_69 : decode cX5_write 69 = .ok (.dup, 1) := by decide +kernel
theorem dX5_write_70 : decode cX5_write 70 = .ok (.getfield 49, 3) := by decide +kernel
theorem dX5_write_73 : decode cX5_write 73 = .ok (.iconst 1, 1) := by decide +kernel
theorem dX5_write_74 : decode cX5_write 74 = .ok (.iadd, 1) := by decide +kernel
theorem dX5_write_75 : decode cX5_write 75 = .ok (.putfield 49, 3) := by decide +kernel
theorem dX5_write_78 : decode cX5_write 78 = .ok (.return_, 1) := by decide +kernel
theorem dX5_remember_0 : decode cX5_remember 0 = .ok (.aload_n 0, 1) := by decide +kernel
theorem dX5_remember_1 : decode cX5_remember 1 = .ok (.getfield 52, 3) := by decide +kernel
theorem dX5_remember_4 : decode cX5_remember 4 = .ok (.bipush 8, 2) := by decide +kernel
theorem dX5_remember_6 : decode cX5_remember 6 = .ok (.if_icmp .lt 30, 3) := by decide +kernel
theorem dX5_remember_9 : decode cX5_remember 9 = .ok (.aload_n 0, 1) := by decide +kernel
theorem dX5_remember_10 : decode cX5_remember 10 = .ok (.bipush 7, 2) := by decide +kernel
theorem dX5_remember_12 : decode cX5_remember 12 = .ok (.putfield 52, 3) := by decide +kernel
theorem dX5_remember_15 : decode cX5_remember 15 = .ok (.aload_n 0, 1) := by decide +kernel
theorem dX5_remember_16 : decode cX5_remember 16 = .ok (.getfield 30, 3) := by decide +kernel
theorem dX5_remember_19 : decode cX5_remember 19 = .ok (.bipush 15, 2) := by decide +kernel
theorem dX5_remember_21 : decode cX5_remember 21 = .ok (.aload_n 0, 1) := by decide +kernel
theorem dX5_remember_22 : decode cX5_remember 22 = .ok (.getfield 30, 3) := by decide +kernel
theorem dX5_remember_25 : decode cX5_remember 25 = .ok (.iconst 0, 1) := by decide +kernel
theorem dX5_remember_26 : decode cX5_remember 26 = .ok (.aload_n 0, 1) := by decide +kernel
theorem dX5_remember_27 : decode cX5_remember 27 = .ok (.getfield 52, 3) := by decide +kernel
theorem dX5_remember_30 : decode cX5_remember 30 = .ok (.bipush 15, 2) := by decide +kernel
theorem dX5_remember_32 : decode cX5_remember 32 = .ok (.imul, 1) := by decide +kernel
theorem dX5_remember_33 : decode cX5_remember 33 = .ok (.invokestatic 55, 3) := by decide +kernel
theorem dX5_remember_36 : decode cX5_remember 36 = .ok (.aload_n 0, 1) := by decide +kernel
theorem dX5_remember_37 : decode cX5_remember 37 = .ok (.getfield 52, 3) := by decide +kernel
theorem dX5_remember_40 : decode cX5_remember 40 = .ok (.bipush 15, 2) := by decide +kernel
theorem dX5_remember_42 : decode cX5_remember 42 = .ok (.imul, 1) := by decide +kernel
theorem dX5_remember_43 : decode cX5_remember 43 = .ok (.istore_n 1, 1) := by decide +kernel
theorem dX5_remember_44 : decode cX5_remember 44 = .ok (.aload_n 0, 1) := by decide +kernel
theorem dX5_remember_45 : decode cX5_remember 45 = .ok (.getfield 18, 3) := by decide +kernel
theorem dX5_remember_48 : decode cX5_remember 48 = .ok (.iconst 0, 1) := by decide +kernel
theorem dX5_remember_49 : decode cX5_remember 49 = .ok (.aload_n 0, 1) := by decide +kernel
theorem dX5_remember_50 : decode cX5_remember 50 = .ok (.getfield 30, 3) := by decide +kernel
theorem dX5_remember_53 : decode cX5_remember 53 = .ok (.iload_n 1, 1) := by decide +kernel
theorem dX5_remember_54 : decode cX5_remember 54 = .ok (.bipush 7, 2) := by decide +kernel
theorem dX5_remember_56 : decode cX5_remember 56 = .ok (.invokestatic 55, 3) := by decide +kernel
theorem dX5_remember_59 : decode cX5_remember 59 = .ok (.aload_n 0, 1) := by decide +kernel
theorem dX5_remember_60 : decode cX5_remember 60 = .ok (.getfield 15, 3) := by decide +kernel
theorem dX5_remember_63 : decode cX5_remember 63 = .ok (.iconst 0, 1) := by decide +kernel
theorem dX5_remember_64 : decode cX5_remember 64 = .ok (.aload_n 0, 1) := by decide +kernel
theorem dX5_remember_65 : decode cX5_remember 65 = .ok (.getfield 30, 3) := by decide +kernel
theorem dX5_remember_68 : decode cX5_remember 68 = .ok (.iload_n 1, 1) := by decide +kernel
theorem dX5_remember_69 : decode cX5_remember 69 = .ok (.bipush 7, 2) := by decide +kernel
theorem dX5_remember_71 : decode cX5_remember 71 = .ok (.iadd, 1) := by decide +kernel
theorem dX5_remember_72 : decode cX5_remember 72 = .ok (.bipush 7, 2) := by decide +kernel
theorem dX5_remember_74 : decode cX5_remember 74 = .ok (.invokestatic 55, 3) := by decide +kernel
theorem dX5_remember_77 : decode cX5_remember 77 = .ok (.aload_n 0, 1) := by decide +kernel
theorem dX5_remember_78 : decode cX5_remember 78 = .ok (.getfield 30, 3) := by decide +kernel
theorem dX5_remember_81 : decode cX5_remember 81 = .ok (.iload_n 1, 1) := by decide +kernel
theorem dX5_remember_82 : decode cX5_remember 82 = .ok (.bipush 14, 2) := by decide +kernel
theorem dX5_remember_84 : decode cX5_remember 84 = .ok (.iadd, 1) := by decide +kernel
theorem dX5_remember_85 : decode cX5_remember 85 = .ok (.aload_n 0, 1) := by decide +kernel
theorem dX5_remember_86 : decode cX5_remember 86 = .ok (.getfield 33, 3) := by decide +kernel
theorem dX5_remember_89 : decode cX5_remember 89 = .ok (.iastore, 1) := by decide +kernel
theorem dX5_remember_90 : decode cX5_remember 90 = .ok (.aload_n 0, 1) := by decide +kernel
theorem dX5_remember_91 : decode cX5_remember 91 = .ok (.dup, 1) := by decide +kernel
theorem dX5_remember_92 : decode cX5_remember 92 = .ok (.getfield 52, 3) := by decide +kernel
theorem dX5_remember_95 : decode cX5_remember 95 = .ok (.iconst 1, 1) := by decide +kernel
theorem dX5_remember_96 : decode cX5_remember 96 = .ok (.iadd, 1) := by decide +kernel
theorem dX5_remember_97 : decode cX5_remember 97 = .ok (.putfield 52, 3) := by decide +kernel
theorem dX5_remember_100 : decode cX5_remember 100 = .ok (.return_, 1) := by decide +kernel
theorem dX5_goBack_0 : decode cX5_goBack 0 = .ok (.aload_n 0, 1) := by decide +kernel
theorem dX5_goBack_1 : decode cX5_goBack 1 = .ok (.getfield 52, 3) := by decide +kernel
theorem dX5_goBack_4 : decode cX5_goBack 4 = .ok (.ifCond .gt 4, 3) := by decide +kernel
theorem dX5_goBack_7 : decode cX5_goBack 7 = .ok (.return_, 1) := by decide +kernel
theorem dX5_goBack_8 : decode cX5_goBack 8 = .ok (.aload_n 0, 1) := by decide +kernel
theorem dX5_goBack_9 : decode cX5_goBack 9 = .ok (.dup, 1) := by decide +kernel
theorem dX5_goBack_10 : decode cX5_goBack 10 = .ok (.getfield 52, 3) := by decide +kernel
theorem dX5_goBack_13 : decode cX5_goBack 13 = .ok (.iconst 1, 1) := by decide +kernel
theorem dX5_goBack_14 : decode cX5_goBack 14 = .ok (.isub, 1) := by decide +kernel
theorem dX5_goBack_15 : decode cX5_goBack 15 = .ok (.putfield 52, 3) := by decide +kernel
theorem dX5_goBack_18 : decode cX5_goBack 18 = .ok (.aload_n 0, 1) := by decide +kernel
theorem dX5_goBack_19 : decode cX5_goBack 19 = .ok (.getfield 52, 3) := by decide +kernel
theorem dX5_goBack_22 : decode cX5_goBack 22 = .ok (.bipush 15, 2) := by decide +kernel
theorem dX5_goBack_24 : decode cX5_goBack 24 = .ok (.imul, 1) := by decide +kernel
theorem dX5_goBack_25 : decode cX5_goBack 25 = .ok (.istore_n 1, 1) := by decide +kernel
theorem dX5_goBack_26 : decode cX5_goBack 26 = .ok (.aload_n 0, 1) := by decide +kernel
theorem dX5_goBack_27 : decode cX5_goBack 27 = .ok (.getfield 30, 3) := by decide +kernel
theorem dX5_goBack_30 : decode cX5_goBack 30 = .ok (.iload_n 1, 1) := by decide +kernel
theorem dX5_goBack_31 : decode cX5_goBack 31 = .ok (.aload_n 0, 1) := by decide +kernel
theorem dX5_goBack_32 : decode cX5_goBack 32 = .ok (.getfield 18, 3) := by decide +kernel
theorem dX5_goBack_35 : decode cX5_goBack 35 = .ok (.iconst 0, 1) := by decide +kernel
theorem dX5_goBack_36 : decode cX5_goBack 36 = .ok (.bipush 7, 2) := by decide +kernel
theorem dX5_goBack_38 : decode cX5_goBack 38 = .ok (.invokestatic 55, 3) := by decide +kernel
theorem dX5_goBack_41 : decode cX5_goBack 41 = .ok (.aload_n 0, 1) := by decide +kernel
theorem dX5_goBack_42 : decode cX5_goBack 42 = .ok (.getfield 30, 3) := by decide +kernel
theorem dX5_goBack_45 : decode cX5_goBack 45 = .ok (.iload_n 1, 1) := by decide +kernel
theorem dX5_goBack_46 : decode cX5_goBack 46 = .ok (.bipush 7, 2) := by decide +kernel
theorem dX5_goBack_48 : decode cX5_goBack 48 = .ok (.iadd, 1) := by decide +kernel
theorem dX5_goBack_49 : decode cX5_goBack 49 = .ok (.aload_n 0, 1) := by decide +kernel
theorem dX5_goBack_50 : decode cX5_goBack 50 = .ok (.getfield 15, 3) := by decide +kernel
theorem dX5_goBack_53 : decode cX5_goBack 53 = .ok (.iconst 0, 1) := by decide +kernel
theorem dX5_goBack_54 : decode cX5_goBack 54 = .ok (.bipush 7, 2) := by decide +kernel
theorem dX5_goBack_56 : decode cX5_goBack 56 = .ok (.invokestatic 55, 3) := by decide +kernel
theorem dX5_goBack_59 : decode cX5_goBack 59 = .ok (.aload_n 0, 1) := by decide +kernel
theorem dX5_goBack_60 : decode cX5_goBack 60 = .ok (.aload_n 0, 1) := by decide +kernel
theorem dX5_goBack_61 : decode cX5_goBack 61 = .ok (.getfield 30, 3) := by decide +kernel
theorem dX5_goBack_64 : decode cX5_goBack 64 = .ok (.iload_n 1, 1) := by decide +kernel
theorem dX5_goBack_65 : decode cX5_goBack 65 = .ok (.bipush 14, 2) := by decide +kernel
theorem dX5_goBack_67 : decode cX5_goBack 67 = .ok (.iadd, 1) := by decide +kernel
theorem dX5_goBack_68 : decode cX5_goBack 68 = .ok (.iaload, 1) := by decide +kernel
theorem dX5_goBack_69 : decode cX5_goBack 69 = .ok (.putfield 33, 3) := by decide +kernel
theorem dX5_goBack_72 : decode cX5_goBack 72 = .ok (.return_, 1) := by decide +kernel
theorem dX5_mixInto_0 : decode cX5_mixInto 0 = .ok (.lload_n 1, 1) := by decide +kernel
theorem dX5_mixInto_1 : decode cX5_mixInto 1 = .ok (.lstore_n 3, 1) := by decide +kernel
theorem dX5_mixInto_2 : decode cX5_mixInto 2 = .ok (.iconst 0, 1) := by decide +kernel
theorem dX5_mixInto_3 : decode cX5_mixInto 3 = .ok (.istore 5, 2) := by decide +kernel
theorem dX5_mixInto_5 : decode cX5_mixInto 5 = .ok (.iload 5, 2) := by decide +kernel
theorem dX5_mixInto_7 : decode cX5_mixInto 7 = .ok (.aload_n 0, 1) := by decide +kernel
theorem dX5_mixInto_8 : decode cX5_mixInto 8 = .ok (.getfield 37, 3) := by decide +kernel
theorem dX5_mixInto_11 : decode cX5_mixInto 11 = .ok (.if_icmp .ge 53, 3) := by decide +kernel
theorem dX5_mixInto_14 : decode cX5_mixInto 14 = .ok (.ldc2_w 69, 3) := by decide +kernel
theorem dX5_mixInto_17 : decode cX5_mixInto 17 = .ok (.lload_n 3, 1) := by decide +kernel
theorem dX5_mixInto_18 : decode cX5_mixInto 18 = .ok (.lmul, 1) := by decide +kernel
theorem dX5_mixInto_19 : decode cX5_mixInto 19 = .ok (.aload_n 0, 1) := by decide +kernel
theorem dX5_mixInto_20 : decode cX5_mixInto 20 = .ok (.getfield 9, 3) := by decide +kernel
theorem dX5_mixInto_23 : decode cX5_mixInto 23 = .ok (.iload 5, 2) := by decide +kernel
theorem dX5_mixInto_25 : decode cX5_mixInto 25 = .ok (.iaload, 1) := by decide +kernel
theorem dX5_mixInto_26 : decode cX5_mixInto 26 = .ok (.i2l, 1) := by decide +kernel
theorem dX5_mixInto_27 : decode cX5_mixInto 27 = .ok (.ladd, 1) := by decide +kernel
theorem dX5_mixInto_28 : decode cX5_mixInto 28 = .ok (.lstore_n 3, 1) := by decide +kernel
theorem dX5_mixInto_29 : decode cX5_mixInto 29 = .ok (.ldc2_w 69, 3) := by decide +kernel
theorem dX5_mixInto_32 : decode cX5_mixInto 32 = .ok (.lload_n 3, 1) := by decide +kernel
theorem dX5_mixInto_33 : decode cX5_mixInto 33 = .ok (.lmul, 1) := by decide +kernel
theorem dX5_mixInto_34 : decode cX5_mixInto 34 = .ok (.aload_n 0, 1) := by decide +kernel
theorem dX5_mixInto_35 : decode cX5_mixInto 35 = .ok (.getfield 15, 3) := by decide +kernel
theorem dX5_mixInto_38 : decode cX5_mixInto 38 = .ok (.iload 5, 2) := by decide +kernel
theorem dX5_mixInto_40 : decode cX5_mixInto 40 = .ok (.iaload, 1) := by decide +kernel
theorem dX5_mixInto_41 : decode cX5_mixInto 41 = .ok (.i2l, 1) := by decide +kernel
theorem dX5_mixInto_42 : decode cX5_mixInto 42 = .ok (.ladd, 1) := by decide +kernel
theorem dX5_mixInto_43 : decode cX5_mixInto 43 = .ok (.lstore_n 3, 1) := by decide +kernel
theorem dX5_mixInto_44 : decode cX5_mixInto 44 = .ok (.ldc2_w 69, 3) := by decide +kernel
theorem dX5_mixInto_47 : decode cX5_mixInto 47 = .ok (.lload_n 3, 1) := by decide +kernel
theorem dX5_mixInto_48 : decode cX5_mixInto 48 = .ok (.lmul, 1) := by decide +kernel
theorem dX5_mixInto_49 : decode cX5_mixInto 49 = .ok (.aload_n 0, 1) := by decide +kernel
theorem dX5_mixInto_50 : decode cX5_mixInto 50 = .ok (.iload 5, 2) := by decide +kernel
theorem dX5_mixInto_52 : decode cX5_mixInto 52 = .ok (.invokevirtual 71, 3) := by decide +kernel
theorem dX5_mixInto_55 : decode cX5_mixInto 55 = .ok (.i2l, 1) := by decide +kernel
theorem dX5_mixInto_56 : decode cX5_mixInto 56 = .ok (.ladd, 1) := by decide +kernel
theorem dX5_mixInto_57 : decode cX5_mixInto 57 = .ok (.lstore_n 3, 1) := by decide +kernel
theorem dX5_mixInto_58 : decode cX5_mixInto 58 = .ok (.iinc 5 1, 3) := by decide +kernel
theorem dX5_mixInto_61 : decode cX5_mixInto 61 = .ok (.goto (-56), 3) := by decide +kernel
theorem dX5_mixInto_64 : decode cX5_mixInto 64 = .ok (.iconst 0, 1) := by decide +kernel
theorem dX5_mixInto_65 : decode cX5_mixInto 65 = .ok (.istore 5, 2) := by decide +kernel
theorem dX5_mixInto_67 : decode cX5_mixInto 67 = .ok (.iload 5, 2) := by decide +kernel
theorem dX5_mixInto_69 : decode cX5_mixInto 69 = .ok (.aload_n 0, 1) := by decide +kernel
theorem dX5_mixInto_70 : decode cX5_mixInto 70 = .ok (.getfield 46, 3) := by decide +kernel
theorem dX5_mixInto_73 : decode cX5_mixInto 73 = .ok (.if_icmp .ge 39, 3) := by decide +kernel
theorem dX5_mixInto_76 : decode cX5_mixInto 76 = .ok (.ldc2_w 69, 3) := by decide +kernel
theorem dX5_mixInto_79 : decode cX5_mixInto 79 = .ok (.lload_n 3, 1) := by decide +kernel
theorem dX5_mixInto_80 : decode cX5_mixInto 80 = .ok (.lmul, 1) := by decide +kernel
theorem dX5_mixInto_81 : decode cX5_mixInto 81 = .ok (.aload_n 0, 1) := by decide +kernel
theorem dX5_mixInto_82 : decode cX5_mixInto 82 = .ok (.getfield 21, 3) := by decide +kernel
theorem dX5_mixInto_85 : decode cX5_mixInto 85 = .ok (.iload 5, 2) := by decide +kernel
theorem dX5_mixInto_87 : decode cX5_mixInto 87 = .ok (.iaload, 1) := by decide +kernel
theorem dX5_mixInto_88 : decode cX5_mixInto 88 = .ok (.i2l, 1) := by decide +kernel
theorem dX5_mixInto_89 : decode cX5_mixInto 89 = .ok (.ladd, 1) := by decide +kernel
theorem dX5_mixInto_90 : decode cX5_mixInto 90 = .ok (.lstore_n 3, 1) := by decide +kernel
theorem dX5_mixInto_91 : decode cX5_mixInto 91 = .ok (.ldc2_w 69, 3) := by decide +kernel
theorem dX5_mixInto_94 : decode cX5_mixInto 94 = .ok (.lload_n 3, 1) := by decide +kernel
theorem dX5_mixInto_95 : decode cX5_mixInto 95 = .ok (.lmul, 1) := by decide +kernel
theorem dX5_mixInto_96 : decode cX5_mixInto 96 = .ok (.aload_n 0, 1) := by decide +kernel
theorem dX5_mixInto_97 : decode cX5_mixInto 97 = .ok (.getfield 24, 3) := by decide +kernel
theorem dX5_mixInto_100 : decode cX5_mixInto 100 = .ok (.iload 5, 2) := by decide +kernel
theorem dX5_mixInto_102 : decode cX5_mixInto 102 = .ok (.iaload, 1) := by decide +kernel
theorem dX5_mixInto_103 : decode cX5_mixInto 103 = .ok (.i2l, 1) := by decide +kernel
theorem dX5_mixInto_104 : decode cX5_mixInto 104 = .ok (.ladd, 1) := by decide +kernel
theorem dX5_mixInto_105 : decode cX5_mixInto 105 = .ok (.lstore_n 3, 1) := by decide +kernel
theorem dX5_mixInto_106 : decode cX5_mixInto 106 = .ok (.iinc 5 1, 3) := by decide +kernel
theorem dX5_mixInto_109 : decode cX5_mixInto 109 = .ok (.goto (-42), 3) := by decide +kernel
theorem dX5_mixInto_112 : decode cX5_mixInto 112 = .ok (.iconst 0, 1) := by decide +kernel
theorem dX5_mixInto_113 : decode cX5_mixInto 113 = .ok (.istore 5, 2) := by decide +kernel
theorem dX5_mixInto_115 : decode cX5_mixInto 115 = .ok (.iload 5, 2) := by decide +kernel
theorem dX5_mixInto_117 : decode cX5_mixInto 117 = .ok (.aload_n 0, 1) := by decide +kernel
theorem dX5_mixInto_118 : decode cX5_mixInto 118 = .ok (.getfield 49, 3) := by decide +kernel
theorem dX5_mixInto_121 : decode cX5_mixInto 121 = .ok (.iconst 5, 1) := by decide +kernel
theorem dX5_mixInto_122 : decode cX5_mixInto 122 = .ok (.imul, 1) := by decide +kernel
theorem dX5_mixInto_123 : decode cX5_mixInto 123 = .ok (.if_icmp .ge 24, 3) := by decide +kernel
theorem dX5_mixInto_126 : decode cX5_mixInto 126 = .ok (.ldc2_w 69, 3) := by decide +kernel
theorem dX5_mixInto_129 : decode cX5_mixInto 129 = .ok (.lload_n 3, 1) := by decide +kernel
theorem dX5_mixInto_130 : decode cX5_mixInto 130 = .ok (.lmul, 1) := by decide +kernel
theorem dX5_mixInto_131 : decode cX5_mixInto 131 = .ok (.aload_n 0, 1) := by decide +kernel
theorem dX5_mixInto_132 : decode cX5_mixInto 132 = .ok (.getfield 27, 3) := by decide +kernel
theorem dX5_mixInto_135 : decode cX5_mixInto 135 = .ok (.iload 5, 2) := by decide +kernel
theorem dX5_mixInto_137 : decode cX5_mixInto 137 = .ok (.iaload, 1) := by decide +kernel
theorem dX5_mixInto_138 : decode cX5_mixInto 138 = .ok (.i2l, 1) := by decide +kernel
theorem dX5_mixInto_139 : decode cX5_mixInto 139 = .ok (.ladd, 1) := by decide +kernel
theorem dX5_mixInto_140 : decode cX5_mixInto 140 = .ok (.lstore_n 3, 1) := by decide +kernel
theorem dX5_mixInto_141 : decode cX5_mixInto 141 = .ok (.iinc 5 1, 3) := by decide +kernel
theorem dX5_mixInto_144 : decode cX5_mixInto 144 = .ok (.goto (-29), 3) := by decide +kernel
theorem dX5_mixInto_147 : decode cX5_mixInto 147 = .ok (.lload_n 3, 1) := by decide +kernel
theorem dX5_mixInto_148 : decode cX5_mixInto 148 = .ok (.lreturn, 1) := by decide +kernel
theorem dX6_init_0 : decode cX6_init 0 = .ok (.aload_n 0, 1) := by decide +kernel
theorem dX6_init_1 : decode cX6_init 1 = .ok (.invokespecial 3, 3) := by decide +kernel
theorem dX6_init_4 : decode cX6_init 4 = .ok (.aload_n 0, 1) := by decide +kernel
theorem dX6_init_5 : decode cX6_init 5 = .ok (.bipush 6, 2) := by decide +kernel
theorem dX6_init_7 : decode cX6_init 7 = .ok (.anewarray 9, 3) := by decide +kernel
theorem dX6_init_10 : decode cX6_init 10 = .ok (.dup, 1) := by decide +kernel
theorem dX6_init_11 : decode cX6_init 11 = .ok (.iconst 0, 1) := by decide +kernel
theorem dX6_init_12 : decode cX6_init 12 = .ok (.new 9, 3) := by decide +kernel
theorem dX6_init_15 : decode cX6_init 15 = .ok (.dup, 1) := by decide +kernel
theorem dX6_init_16 : decode cX6_init 16 = .ok (.invokespecial 11, 3) := by decide +kernel
theorem dX6_init_19 : decode cX6_init 19 = .ok (.aastore, 1) := by decide +kernel
theorem dX6_init_20 : decode cX6_init 20 = .ok (.dup, 1) := by decide +kernel
theorem dX6_init_21 : decode cX6_init 21 = .ok (.iconst 1, 1) := by decide +kernel
theorem dX6_init_22 : decode cX6_init 22 = .ok (.new 12, 3) := by decide +kernel
theorem dX6_init_25 : decode cX6_init 25 = .ok (.dup, 1) := by decide +kernel
theorem dX6_init_26 : decode cX6_init 26 = .ok (.invokespecial 14, 3) := by decide +kernel
theorem dX6_init_29 : decode cX6_init 29 = .ok (.aastore, 1) := by decide +kernel
theorem dX6_init_30 : decode cX6_init 30 = .ok (.dup, 1) := by decide +kernel
theorem dX6_init_31 : decode cX6_init 31 = .ok (.iconst 2, 1) := by decide +kernel
theorem dX6_init_32 : decode cX6_init 32 = .ok (.new 15, 3) := by decide +kernel
theorem dX6_init_35 : decode cX6_init 35 = .ok (.dup, 1) := by decide +kernel
theorem dX6_init_36 : decode cX6_init 36 = .ok (.invokespecial 17, 3) := by decide +kernel
theorem dX6_init_39 : decode cX6_init 39 = .ok (.aastore, 1) := by decide +kernel
theorem dX6_init_40 : decode cX6_init 40 = .ok (.dup, 1) := by decide +kernel
theorem dX6_init_41 : decode cX6_init 41 = .ok (.iconst 3, 1) := by decide +kernel
theorem dX6_init_42 : decode cX6_init 42 = .ok (.new 18, 3) := by decide +kernel
theorem dX6_init_45 : decode cX6_init 45 = .ok (.dup, 1) := by decide +kernel
theorem dX6_init_46 : decode cX6_init 46 = .ok (.invokespecial 20, 3) := by decide +kernel
theorem dX6_init_49 : decode cX6_init 49 = .ok (.aastore, 1) := by decide +kernel
theorem dX6_init_50 : decode cX6_init 50 = .ok (.dup, 1) := by decide +kernel
theorem dX6_init_51 : decode cX6_init 51 = .ok (.iconst 4, 1) := by decide +kernel
theorem dX6_init_52 : decode cX6_init 52 = .ok (.new 21, 3) := by decide +kernel
theorem dX6_init_55 : decode cX6_init 55 = .ok (.dup, 1) := by decide +kernel
theorem dX6_init_56 : decode cX6_init 56 = .ok (.invokespecial 23, 3) := by decide +kernel
theorem dX6_init_59 : decode cX6_init 59 = .ok (.aastore, 1) := by decide +kernel
theorem dX6_init_60 : decode cX6_init 60 = .ok (.dup, 1) := by decide +kernel
theorem dX6_init_61 : decode cX6_init 61 = .ok (.iconst 5, 1) := by decide +kernel
theorem dX6_init_62 : decode cX6_init 62 = .ok (.new 24, 3) := by decide +kernel
theorem dX6_init_65 : decode cX6_init 65 = .ok (.dup, 1) := by decide +kernel
theorem dX6_init_66 : decode cX6_init 66 = .ok (.invokespecial 26, 3) := by decide +kernel
theorem dX6_init_69 : decode cX6_init 69 = .ok (.aastore, 1) := by decide +kernel
theorem dX6_init_70 : decode cX6_init 70 = .ok (.putfield 27, 3) := by decide +kernel
theorem dX6_init_73 : decode cX6_init 73 = .ok (.aload_n 0, 1) := by decide +kernel
theorem dX6_init_74 : decode cX6_init 74 = .ok (.bipush 10, 2) := by decide +kernel
theorem dX6_init_76 : decode cX6_init 76 = .ok (.newarray .int, 2) := by decide +kernel
theorem dX6_init_78 : decode cX6_init 78 = .ok (.putfield 33, 3) := by decide +kernel
theorem dX6_init_81 : decode cX6_init 81 = .ok (.aload_n 0, 1) := by decide +kernel
theorem dX6_init_82 : decode cX6_init 82 = .ok (.bipush 10, 2) := by decide +kernel
theorem dX6_init_84 : decode cX6_init 84 = .ok (.newarray .int, 2) := by decide +kernel
theorem dX6_init_86 : decode cX6_init 86 = .ok (.putfield 37, 3) := by decide +kernel
theorem dX6_init_89 : decode cX6_init 89 = .ok (.aload_n 0, 1) := by decide +kernel
theorem dX6_init_90 : decode cX6_init 90 = .ok (.bipush 10, 2) := by decide +kernel
theorem dX6_init_92 : decode cX6_init 92 = .ok (.newarray .int, 2) := by decide +kernel
theorem dX6_init_94 : decode cX6_init 94 = .ok (.putfield 40, 3) := by decide +kernel
theorem dX6_init_97 : decode cX6_init 97 = .ok (.return_, 1) := by decide +kernel
theorem dX6_turnsAs_0 : decode cX6_turnsAs 0 = .ok (.iload_n 1, 1) := by decide +kernel
theorem dX6_turnsAs_1 : decode cX6_turnsAs 1 = .ok (.aload_n 0, 1) := by decide +kernel
theorem dX6_turnsAs_2 : decode cX6_turnsAs 2 = .ok (.getfield 27, 3) := by decide +kernel
theorem dX6_turnsAs_5 : decode cX6_turnsAs 5 = .ok (.arraylength, 1) := by decide +kernel
theorem dX6_turnsAs_6 : decode cX6_turnsAs 6 = .ok (.invokestatic 43, 3) := by decide +kernel
theorem dX6_turnsAs_9 : decode cX6_turnsAs 9 = .ok (.ifCond .eq 25, 3) := by decide +kernel
theorem dX6_turnsAs_12 : decode cX6_turnsAs 12 = .ok (.aload_n 0, 1) := by decide +kernel
theorem dX6_turnsAs_13 : decode cX6_turnsAs 13 = .ok (.getfield 27, 3) := by decide +kernel
theorem dX6_turnsAs_16 : decode cX6_turnsAs 16 = .ok (.iload_n 1, 1) := by decide +kernel
theorem dX6_turnsAs_17 : decode cX6_turnsAs 17 = .ok (.aaload, 1) := by decide +kernel
theorem dX6_turnsAs_18 : decode cX6_turnsAs 18 = .ok (.iload_n 2, 1) := by decide +kernel
theorem dX6_turnsAs_19 : decode cX6_turnsAs 19 = .ok (.iload_n 3, 1) := by decide +kernel
theorem dX6_turnsAs_20 : decode cX6_turnsAs 20 = .ok (.iload 4, 2) := by decide +kernel
theorem dX6_turnsAs_22 : decode cX6_turnsAs 22 = .ok (.iload 5, 2) := by decide +kernel
theorem dX6_turnsAs_24 : decode cX6_turnsAs 24 = .ok (.invokevirtual 47, 3) := by decide +kernel
theorem dX6_turnsAs_27 : decode cX6_turnsAs 27 = .ok (.ifCond .eq 7, 3) := by decide +kernel
theorem dX6_turnsAs_30 : decode cX6_turnsAs 30 = .ok (.iconst 1, 1) := by decide +kernel
theorem dX6_turnsAs_31 : decode cX6_turnsAs 31 = .ok (.goto 4, 3) := by decide +kernel
theorem dX6_turnsAs_34 : decode cX6_turnsAs 34 = .ok (.iconst 0, 1) := by decide +kernel
theorem dX6_turnsAs_35 : decode cX6_turnsAs 35 = .ok (.ireturn, 1) := by decide +kernel
theorem dX6_listen_0 : decode cX6_listen 0 = .ok (.iconst 0, 1) := by decide +kernel
theorem dX6_listen_1 : decode cX6_listen 1 = .ok (.istore_n 2, 1) := by decide +kernel
theorem dX6_listen_2 : decode cX6_listen 2 = .ok (.iload_n 2, 1) := by decide +kernel
theorem dX6_listen_3 : decode cX6_listen 3 = .ok (.bipush 10, 2) := by decide +kernel
theorem dX6_listen_5 : decode cX6_listen 5 = .ok (.if_icmp .ge 15, 3) := by decide +kernel
theorem dX6_listen_8 : decode cX6_listen 8 = .ok (.aload_n 0, 1) := by decide +kernel
theorem dX6_listen_9 : decode cX6_listen 9 = .ok (.aload_n 1, 1) := by decide +kernel
theorem dX6_listen_10 : decode cX6_listen 10 = .ok (.iload_n 2, 1) := by decide +kernel
theorem dX6_listen_11 : decode cX6_listen 11 = .ok (.invokevirtual 51, 3) := by decide +kernel
theorem dX6_listen_14 : decode cX6_listen 14 = .ok (.iinc 2 1, 3) := by decide +kernel
theorem dX6_listen_17 : decode cX6_listen 17 = .ok (.goto (-15), 3) := by decide +kernel
theorem dX6_listen_20 : decode cX6_listen 20 = .ok (.return_, 1) := by decide +kernel
theorem dX6_listenAt_0 : decode cX6_listenAt 0 = .ok (.iload_n 2, 1) := by decide +kernel
theorem dX6_listenAt_1 : decode cX6_listenAt 1 = .ok (.bipush 10, 2) := by decide +kernel
theorem dX6_listenAt_3 : decode cX6_listenAt 3 = .ok (.invokestatic 43, 3) := by decide +kernel
theorem dX6_listenAt_6 : decode cX6_listenAt 6 = .ok (.ifCond .ne 4, 3) := by decide +kernel
theorem dX6_listenAt_9 : decode cX6_listenAt 9 = .ok (.return_, 1) := by decide +kernel
theorem dX6_listenAt_10 : decode cX6_listenAt 10 = .ok (.aload_n 0, 1) := by decide +kernel
theorem dX6_listenAt_11 : decode cX6_listenAt 11 = .ok (.getfield 33, 3) := by decide +kernel
theorem dX6_listenAt_14 : decode cX6_listenAt 14 = .ok (.iload_n 2, 1) := by decide +kernel
theorem dX6_listenAt_15 : decode cX6_listenAt 15 = .ok (.iconst 0, 1) := by decide +kernel
theorem dX6_listenAt_16 : decode cX6_listenAt 16 = .ok (.iastore, 1) := by decide +kernel
theorem dX6_listenAt_17 : decode cX6_listenAt 17 = .ok (.aload_n 0, 1) := by decide +kernel
theorem dX6_listenAt_18 : decode cX6_listenAt 18 = .ok (.getfield 37, 3) := by decide +kernel
theorem dX6_listenAt_21 : decode cX6_listenAt 21 = .ok (.iload_n 2, 1) := by decide +kernel
theorem dX6_listenAt_22 : decode cX6_listenAt 22 = .ok (.iconst 0, 1) := by decide +kernel
theorem dX6_listenAt_23 : decode cX6_listenAt 23 = .ok (.iastore, 1) := by decide +kernel
theorem dX6_listenAt_24 : decode cX6_listenAt 24 = .ok (.aload_n 0, 1) := by decide +kernel
theorem dX6_listenAt_25 : decode cX6_listenAt 25 = .ok (.getfield 40, 3) := by decide +kernel
theorem dX6_listenAt_28 : decode cX6_listenAt 28 = .ok (.iload_n 2, 1) := by decide +kernel
theorem dX6_listenAt_29 : decode cX6_listenAt 29 = .ok (.iconst 0, 1) := by decide +kernel
theorem dX6_listenAt_30 : decode cX6_listenAt 30 = .ok (.iastore, 1) := by decide +kernel
theorem dX6_listenAt_31 : decode cX6_listenAt 31 = .ok (.iconst 0, 1) := by decide +kernel
theorem dX6_listenAt_32 : decode cX6_listenAt 32 = .ok (.istore_n 3, 1) := by decide +kernel
theorem dX6_listenAt_33 : decode cX6_listenAt 33 = .ok (.iload_n 3, 1) := by decide +kernel
theorem dX6_listenAt_34 : decode cX6_listenAt 34 = .ok (.aload_n 1, 1) := by decide +kernel
theorem dX6_listenAt_35 : decode cX6_listenAt 35 = .ok (.getfield 55, 3) := by decide +kernel
theorem dX6_listenAt_38 : decode cX6_listenAt 38 = .ok (.if_icmp .ge 129, 3) := by decide +kernel
theorem dX6_listenAt_41 : decode cX6_listenAt 41 = .ok (.aload_n 1, 1) := by decide +kernel
theorem dX6_listenAt_42 : decode cX6_listenAt 42 = .ok (.getfield 61, 3) := by decide +kernel
theorem dX6_listenAt_45 : decode cX6_listenAt 45 = .ok (.iload_n 3, 1) := by decide +kernel
theorem dX6_listenAt_46 : decode cX6_listenAt 46 = .ok (.iaload, 1) := by decide +kernel
theorem dX6_listenAt_47 : decode cX6_listenAt 47 = .ok (.istore 4, 2) := by decide +kernel
theorem dX6_listenAt_49 : decode cX6_listenAt 49 = .ok (.aload_n 1, 1) := by decide +kernel
theorem dX6_listenAt_50 : decode cX6_listenAt 50 = .ok (.getfield 63, 3) := by decide +kernel
theorem dX6_listenAt_53 : decode cX6_listenAt 53 = .ok (.iload_n 3, 1) := by decide +kernel
theorem dX6_listenAt_54 : decode cX6_listenAt 54 = .ok (.iaload, 1) := by decide +kernel
theorem dX6_listenAt_55 : decode cX6_listenAt 55 = .ok (.iload_n 2, 1) := by decide +kernel
theorem dX6_listenAt_56 : decode cX6_listenAt 56 = .ok (.isub, 1) := by decide +kernel
theorem dX6_listenAt_57 : decode cX6_listenAt 57 = .ok (.invokestatic 66, 3) := by decide +kernel
theorem dX6_listenAt_60 : decode cX6_listenAt 60 = .ok (.istore 5, 2) := by decide +kernel
theorem dX6_listenAt_62 : decode cX6_listenAt 62 = .ok (.aload_n 0, 1) := by decide +kernel
theorem dX6_listenAt_63 : decode cX6_listenAt 63 = .ok (.getfield 33, 3) := by decide +kernel
theorem dX6_listenAt_66 : decode cX6_listenAt 66 = .ok (.iload_n 2, 1) := by decide +kernel
theorem dX6_listenAt_67 : decode cX6_listenAt 67 = .ok (.dup2, 1) := by decide +kernel
theorem dX6_listenAt_68 : decode cX6_listenAt 68 = .ok (.iaload, 1) := by decide +kernel
theorem dX6_listenAt_69 : decode cX6_listenAt 69 = .ok (.aload_n 0, 1) := by decide +kernel
theorem dX6_listenAt_70 : decode cX6_listenAt 70 = .ok (.iload 4, 2) := by decide +kernel
theorem dX6_listenAt_72 : decode cX6_listenAt 72 = .ok (.iload 5, 2) := by decide +kernel
theorem dX6_listenAt_74 : decode cX6_listenAt 74 = .ok (.iconst 1, 1) := by decide +kernel
theorem dX6_listenAt_75 : decode cX6_listenAt 75 = .ok (.iconst 0, 1) := by decide +kernel
theorem dX6_listenAt_76 : decode cX6_listenAt 76 = .ok (.aload_n 1, 1) := by decide +kernel
theorem dX6_listenAt_77 : decode cX6_listenAt 77 = .ok (.getfield 72, 3) := by decide +kernel
theorem dX6_listenAt_80 : decode cX6_listenAt 80 = .ok (.invokevirtual 75, 3) := by decide +kernel
theorem dX6_listenAt_83 : decode cX6_listenAt 83 = .ok (.ifCond .eq 9, 3) := by decide +kernel
theorem dX6_listenAt_86 : decode cX6_listenAt 86 = .ok (.iconst 1, 1) := by decide +kernel
theorem dX6_listenAt_87 : decode cX6_listenAt 87 = .ok (.iload_n 3, 1) := by decide +kernel
theorem dX6_listenAt_88 : decode cX6_listenAt 88 = .ok (.ishl, 1) := by decide +kernel
theorem dX6_listenAt_89 : decode cX6_listenAt 89 = .ok (.goto 4, 3) := by decide +kernel
theorem dX6_listenAt_92 : decode cX6_listenAt 92 = .ok (.iconst 0, 1) := by decide +kernel
theorem dX6_listenAt_93 : decode cX6_listenAt 93 = .ok (.ior, 1) := by decide +kernel
theorem dX6_listenAt_94 : decode cX6_listenAt 94 = .ok (.iastore, 1) := by decide +kernel
theorem dX6_listenAt_95 : decode cX6_listenAt 95 = .ok (.aload_n 0, 1) := by decide +kernel
theorem dX6_listenAt_96 : decode cX6_listenAt 96 = .ok (.getfield 37, 3) := by decide +kernel
theorem dX6_listenAt_99 : decode cX6_listenAt 99 = .ok (.iload_n 2, 1) := by decide +kernel
theorem dX6_listenAt_100 : decode cX6_listenAt 100 = .ok (.dup2, 1) := by decide +kernel
theorem dX6_listenAt_101 : decode cX6_listenAt 101 = .ok (.iaload, 1) := by decide +kernel
theorem dX6_listenAt_102 : decode cX6_listenAt 102 = .ok (.aload_n 0, 1) := by decide +kernel
theorem dX6_listenAt_103 : decode cX6_listenAt 103 = .ok (.iload 4, 2) := by decide +kernel
theorem dX6_listenAt_105 : decode cX6_listenAt 105 = .ok (.iload 5, 2) := by decide +kernel
theorem dX6_listenAt_107 : decode cX6_listenAt 107 = .ok (.iconst 0, 1) := by decide +kernel
theorem dX6_listenAt_108 : decode cX6_listenAt 108 = .ok (.iconst 0, 1) := by decide +kernel
theorem dX6_listenAt_109 : decode cX6_listenAt 109 = .ok (.aload_n 1, 1) := by decide +kernel
theorem dX6_listenAt_110 : decode cX6_listenAt 110 = .ok (.getfield 72, 3) := by decide +kernel
theorem dX6_listenAt_113 : decode cX6_listenAt 113 = .ok (.invokevirtual 75, 3) := by decide +kernel
theorem dX6_listenAt_116 : decode cX6_listenAt 116 = .ok (.ifCond .eq 9, 3) := by decide +kernel
theorem dX6_listenAt_119 : decode cX6_listenAt 119 = .ok (.iconst 1, 1) := by decide +kernel
theorem dX6_listenAt_120 : decode cX6_listenAt 120 = .ok (.iload_n 3, 1) := by decide +kernel
theorem dX6_listenAt_121 : decode cX6_listenAt 121 = .ok (.ishl, 1) := by decide +kernel
theorem dX6_listenAt_122 : decode cX6_listenAt 122 = .ok (.goto 4, 3) := by decide +kernel
theorem dX6_listenAt_125 : decode cX6_listenAt 125 = .ok (.iconst 0, 1) := by decide +kernel
theorem dX6_listenAt_126 : decode cX6_listenAt 126 = .ok (.ior, 1) := by decide +kernel
theorem dX6_listenAt_127 : decode cX6_listenAt 127 = .ok (.iastore, 1) := by decide +kernel
theorem dX6_listenAt_128 : decode cX6_listenAt 128 = .ok (.aload_n 0, 1) := by decide +kernel
theorem dX6_listenAt_129 : decode cX6_listenAt 129 = .ok (.getfield 40, 3) := by decide +kernel
theorem dX6_listenAt_132 : decode cX6_listenAt 132 = .ok (.iload_n 2, 1) := by decide +kernel
theorem dX6_listenAt_133 : decode cX6_listenAt 133 = .ok (.dup2, 1) := by decide +kernel
theorem dX6_listenAt_134 : decode cX6_listenAt 134 = .ok (.iaload, 1) := by decide +kernel
theorem dX6_listenAt_135 : decode cX6_listenAt 135 = .ok (.aload_n 0, 1) := by decide +kernel
theorem dX6_listenAt_136 : decode cX6_listenAt 136 = .ok (.iload 4, 2) := by decide +kernel
theorem dX6_listenAt_138 : decode cX6_listenAt 138 = .ok (.iload 5, 2) := by decide +kernel
theorem dX6_listenAt_140 : decode cX6_listenAt 140 = .ok (.iconst 0, 1) := by decide +kernel
theorem dX6_listenAt_141 : decode cX6_listenAt 141 = .ok (.iconst 1, 1) := by decide +kernel
theorem dX6_listenAt_142 : decode cX6_listenAt 142 = .ok (.aload_n 1, 1) := by decide +kernel
theorem dX6_listenAt_143 : decode cX6_listenAt 143 = .ok (.getfield 72, 3) := by decide +kernel
theorem dX6_listenAt_146 : decode cX6_listenAt 146 = .ok (.invokevirtual 75, 3) := by decide +kernel
theorem dX6_listenAt_149 : decode cX6_listenAt 149 = .ok (.ifCond .eq 9, 3) := by decide +kernel
theorem dX6_listenAt_152 : decode cX6_listenAt 152 = .ok (.iconst 1, 1) := by decide +kernel
theorem dX6_listenAt_153 : decode cX6_listenAt 153 = .ok (.iload_n 3, 1) := by decide +kernel
theorem dX6_listenAt_154 : decode cX6_listenAt 154 = .ok (.ishl, 1) := by decide +kernel
theorem dX6_listenAt_155 : decode cX6_listenAt 155 = .ok (.goto 4, 3) := by decide +kernel
theorem dX6_listenAt_158 : decode cX6_listenAt 158 = .ok (.iconst 0, 1) := by decide +kernel
theorem dX6_listenAt_159 : decode cX6_listenAt 159 = .ok (.ior, 1) := by decide +kernel
theorem dX6_listenAt_160 : decode cX6_listenAt 160 = .ok (.iastore, 1) := by decide +kernel
theorem dX6_listenAt_161 : decode cX6_listenAt 161 = .ok (.iinc 3 1, 3) := by decide +kernel
theorem dX6_listenAt_164 : decode cX6_listenAt 164 = .ok (.goto (-131), 3) := by decide +kernel
theorem dX6_listenAt_167 : decode cX6_listenAt 167 = .ok (.return_, 1) := by decide +kernel
theorem dX6_turners_0 : decode cX6_turners 0 = .ok (.iload_n 2, 1) := by decide +kernel
theorem dX6_turners_1 : decode cX6_turners 1 = .ok (.aload_n 1, 1) := by decide +kernel
theorem dX6_turners_2 : decode cX6_turners 2 = .ok (.arraylength, 1) := by decide +kernel
theorem dX6_turners_3 : decode cX6_turners 3 = .ok (.invokestatic 43, 3) := by decide +kernel
theorem dX6_turners_6 : decode cX6_turners 6 = .ok (.ifCond .eq 12, 3) := by decide +kernel
theorem dX6_turners_9 : decode cX6_turners 9 = .ok (.iload_n 3, 1) := by decide +kernel
theorem dX6_turners_10 : decode cX6_turners 10 = .ok (.bipush 10, 2) := by decide +kernel
theorem dX6_turners_12 : decode cX6_turners 12 = .ok (.invokestatic 43, 3) := by decide +kernel
theorem dX6_turners_15 : decode cX6_turners 15 = .ok (.ifCond .ne 5, 3) := by decide +kernel
theorem dX6_turners_18 : decode cX6_turners 18 = .ok (.iconst 0, 1) := by decide +kernel
theorem dX6_turners_19 : decode cX6_turners 19 = .ok (.ireturn, 1) := by decide +kernel
theorem dX6_turners_20 : decode cX6_turners 20 = .ok (.aload_n 1, 1) := by decide +kernel
theorem dX6_turners_21 : decode cX6_turners 21 = .ok (.iload_n 2, 1) := by decide +kernel
theorem dX6_turners_22 : decode cX6_turners 22 = .ok (.iaload, 1) := by decide +kernel
theorem dX6_turners_23 : decode cX6_turners 23 = .ok (.istore 4, 2) := by decide +kernel
theorem dX6_turners_25 : decode cX6_turners 25 = .ok (.iload 4, 2) := by decide +kernel
theorem dX6_turners_27 : decode cX6_turners 27 = .ok (.ifCond .ne 10, 3) := by decide +kernel
theorem dX6_turners_30 : decode cX6_turners 30 = .ok (.aload_n 0, 1) := by decide +kernel
theorem dX6_turners_31 : decode cX6_turners 31 = .ok (.getfield 40, 3) := by decide +kernel
theorem dX6_turners_34 : decode cX6_turners 34 = .ok (.iload_n 3, 1) := by decide +kernel
theorem dX6_turners_35 : decode cX6_turners 35 = .ok (.iaload, 1) := by decide +kernel
theorem dX6_turners_36 : decode cX6_turners 36 = .ok (.ireturn, 1) := by decide +kernel
theorem dX6_turners_37 : decode cX6_turners 37 = .ok (.aload_n 0, 1) := by decide +kernel
theorem dX6_turners_38 : decode cX6_turners 38 = .ok (.getfield 33, 3) := by decide +kernel
theorem dX6_turners_41 : decode cX6_turners 41 = .ok (.iload_n 3, 1) := by decide +kernel
theorem dX6_turners_42 : decode cX6_turners 42 = .ok (.iaload, 1) := by decide +kernel
theorem dX6_turners_43 : decode cX6_turners 43 = .ok (.iload 4, 2) := by decide +kernel
theorem dX6_turners_45 : decode cX6_turners 45 = .ok (.iand, 1) := by decide +kernel
theorem dX6_turners_46 : decode cX6_turners 46 = .ok (.aload_n 0, 1) := by decide +kernel
theorem dX6_turners_47 : decode cX6_turners 47 = .ok (.getfield 37, 3) := by decide +kernel
theorem dX6_turners_50 : decode cX6_turners 50 = .ok (.iload_n 3, 1) := by decide +kernel
theorem dX6_turners_51 : decode cX6_turners 51 = .ok (.iaload, 1) := by decide +kernel
theorem dX6_turners_52 : decode cX6_turners 52 = .ok (.iload 4, 2) := by decide +kernel
theorem dX6_turners_54 : decode cX6_turners 54 = .ok (.iconst (-1), 1) := by decide +kernel
theorem dX6_turners_55 : decode cX6_turners 55 = .ok (.ixor, 1) := by decide +kernel
theorem dX6_turners_56 : decode cX6_turners 56 = .ok (.iand, 1) := by decide +kernel
theorem dX6_turners_57 : decode cX6_turners 57 = .ok (.ior, 1) := by decide +kernel
theorem dX6_turners_58 : decode cX6_turners 58 = .ok (.ireturn, 1) := by decide +kernel
theorem dX7_init_0 : decode cX7_init 0 = .ok (.aload_n 0, 1) := by decide +kernel
theorem dX7_init_1 : decode cX7_init 1 = .ok (.invokespecial 1, 3) := by decide +kernel
theorem dX7_init_4 : decode cX7_init 4 = .ok (.return_, 1) := by decide +kernel
theorem dX7_turns_0 : decode cX7_turns 0 = .ok (.iload_n 1, 1) := by decide +kernel
theorem dX7_turns_1 : decode cX7_turns 1 = .ok (.iconst 3, 1) := by decide +kernel
theorem dX7_turns_2 : decode cX7_turns 2 = .ok (.if_icmp .gt 7, 3) := by decide +kernel
theorem dX7_turns_5 : decode cX7_turns 5 = .ok (.iconst 1, 1) := by decide +kernel
theorem dX7_turns_6 : decode cX7_turns 6 = .ok (.goto 4, 3) := by decide +kernel
theorem dX7_turns_9 : decode cX7_turns 9 = .ok (.iconst 0, 1) := by decide +kernel
theorem dX7_turns_10 : decode cX7_turns 10 = .ok (.ireturn, 1) := by decide +kernel
theorem dX8_init_0 : decode cX8_init 0 = .ok (.aload_n 0, 1) := by decide +kernel
theorem dX8_init_1 : decode cX8_init 1 = .ok (.invokespecial 3, 3) := by decide +kernel
theorem dX8_init_4 : decode cX8_init 4 = .ok (.aload_n 0, 1) := by decide +kernel
theorem dX8_init_5 : decode cX8_init 5 = .ok (.bipush 7, 2) := by decide +kernel
theorem dX8_init_7 : decode cX8_init 7 = .ok (.newarray .int, 2) := by decide +kernel
theorem dX8_init_9 : decode cX8_init 9 = .ok (.putfield 9, 3) := by decide +kernel
theorem dX8_init_12 : decode cX8_init 12 = .ok (.return_, 1) := by decide +kernel
theorem dX8_toBear_0 : decode cX8_toBear 0 = .ok (.aload_n 0, 1) := by decide +kernel
theorem dX8_toBear_1 : decode cX8_toBear 1 = .ok (.iconst 0, 1) := by decide +kernel
theorem dX8_toBear_2 : decode cX8_toBear 2 = .ok (.putfield 15, 3) := by decide +kernel
theorem dX8_toBear_5 : decode cX8_toBear 5 = .ok (.aload_n 0, 1) := by decide +kernel
theorem dX8_toBear_6 : decode cX8_toBear 6 = .ok (.iconst (-1), 1) := by decide +kernel
theorem dX8_toBear_7 : decode cX8_toBear 7 = .ok (.putfield 19, 3) := by decide +kernel
theorem dX8_toBear_10 : decode cX8_toBear 10 = .ok (.aload_n 1, 1) := by decide +kernel
theorem dX8_toBear_11 : decode cX8_toBear 11 = .ok (.iload_n 3, 1) := by decide +kernel
theorem dX8_toBear_12 : decode cX8_toBear 12 = .ok (.invokevirtual 22, 3) := by decide +kernel
theorem dX8_toBear_15 : decode cX8_toBear 15 = .ok (.iload 4, 2) := by decide +kernel
theorem dX8_toBear_17 : decode cX8_toBear 17 = .ok (.if_icmp .ne 4, 3) := by decide +kernel
theorem dX8_toBear_20 : decode cX8_toBear 20 = .ok (.return_, 1) := by decide +kernel
theorem dX8_toBear_21 : decode cX8_toBear 21 = .ok (.aload_n 0, 1) := by decide +kernel
theorem dX8_toBear_22 : decode cX8_toBear 22 = .ok (.iconst 1, 1) := by decide +kernel
theorem dX8_toBear_23 : decode cX8_toBear 23 = .ok (.putfield 15, 3) := by decide +kernel
theorem dX8_toBear_26 : decode cX8_toBear 26 = .ok (.aload_n 0, 1) := by decide +kernel
theorem dX8_toBear_27 : decode cX8_toBear 27 = .ok (.aload_n 0, 1) := by decide +kernel
theorem dX8_toBear_28 : decode cX8_toBear 28 = .ok (.aload_n 1, 1) := by decide +kernel
theorem dX8_toBear_29 : decode cX8_toBear 29 = .ok (.getfield 28, 3) := by decide +kernel
theorem dX8_toBear_32 : decode cX8_toBear 32 = .ok (.aload_n 2, 1) := by decide +kernel
theorem dX8_toBear_33 : decode cX8_toBear 33 = .ok (.iload_n 3, 1) := by decide +kernel
theorem dX8_toBear_34 : decode cX8_toBear 34 = .ok (.iload 4, 2) := by decide +kernel
theorem dX8_toBear_36 : decode cX8_toBear 36 = .ok (.invokevirtual 31, 3) := by decide +kernel
theorem dX8_toBear_39 : decode cX8_toBear 39 = .ok (.putfield 19, 3) := by decide +kernel
theorem dX8_toBear_42 : decode cX8_toBear 42 = .ok (.aload_n 0, 1) := by decide +kernel
theorem dX8_toBear_43 : decode cX8_toBear 43 = .ok (.getfield 19, 3) := by decide +kernel
theorem dX8_toBear_46 : decode cX8_toBear 46 = .ok (.iconst (-1), 1) := by decide +kernel
theorem dX8_toBear_47 : decode cX8_toBear 47 = .ok (.if_icmp .eq 4, 3) := by decide +kernel
theorem dX8_toBear_50 : decode cX8_toBear 50 = .ok (.return_, 1) := by decide +kernel
theorem dX8_toBear_51 : decode cX8_toBear 51 = .ok (.aload_n 0, 1) := by decide +kernel
theorem dX8_toBear_52 : decode cX8_toBear 52 = .ok (.iconst 2, 1) := by decide +kernel
theorem dX8_toBear_53 : decode cX8_toBear 53 = .ok (.putfield 15, 3) := by decide +kernel
theorem dX8_toBear_56 : decode cX8_toBear 56 = .ok (.iconst 0, 1) := by decide +kernel
theorem dX8_toBear_57 : decode cX8_toBear 57 = .ok (.istore 5, 2) := by decide +kernel
theorem dX8_toBear_59 : decode cX8_toBear 59 = .ok (.iload 5, 2) := by decide +kernel
theorem dX8_toBear_61 : decode cX8_toBear 61 = .ok (.bipush 10, 2) := by decide +kernel
theorem dX8_toBear_63 : decode cX8_toBear 63 = .ok (.aload_n 1, 1) := by decide +kernel
theorem dX8_toBear_64 : decode cX8_toBear 64 = .ok (.getfield 35, 3) := by decide +kernel
theorem dX8_toBear_67 : decode cX8_toBear 67 = .ok (.imul, 1) := by decide +kernel
theorem dX8_toBear_68 : decode cX8_toBear 68 = .ok (.if_icmp .ge 40, 3) := by decide +kernel
theorem dX8_toBear_71 : decode cX8_toBear 71 = .ok (.aload_n 0, 1) := by decide +kernel
theorem dX8_toBear_72 : decode cX8_toBear 72 = .ok (.aload_n 1, 1) := by decide +kernel
theorem dX8_toBear_73 : decode cX8_toBear 73 = .ok (.aload_n 2, 1) := by decide +kernel
theorem dX8_toBear_74 : decode cX8_toBear 74 = .ok (.iload 5, 2) := by decide +kernel
theorem dX8_toBear_76 : decode cX8_toBear 76 = .ok (.invokevirtual 38, 3) := by decide +kernel
theorem dX8_toBear_79 : decode cX8_toBear 79 = .ok (.aload_n 0, 1) := by decide +kernel
theorem dX8_toBear_80 : decode cX8_toBear 80 = .ok (.aload_n 0, 1) := by decide +kernel
theorem dX8_toBear_81 : decode cX8_toBear 81 = .ok (.getfield 9, 3) := by decide +kernel
theorem dX8_toBear_84 : decode cX8_toBear 84 = .ok (.aload_n 2, 1) := by decide +kernel
theorem dX8_toBear_85 : decode cX8_toBear 85 = .ok (.iload_n 3, 1) := by decide +kernel
theorem dX8_toBear_86 : decode cX8_toBear 86 = .ok (.iload 4, 2) := by decide +kernel
theorem dX8_toBear_88 : decode cX8_toBear 88 = .ok (.invokevirtual 31, 3) := by decide +kernel
theorem dX8_toBear_91 : decode cX8_toBear 91 = .ok (.iconst (-1), 1) := by decide +kernel
theorem dX8_toBear_92 : decode cX8_toBear 92 = .ok (.if_icmp .eq 10, 3) := by decide +kernel
theorem dX8_toBear_95 : decode cX8_toBear 95 = .ok (.aload_n 0, 1) := by decide +kernel
theorem dX8_toBear_96 : decode cX8_toBear 96 = .ok (.iload 5, 2) := by decide +kernel
theorem dX8_toBear_98 : decode cX8_toBear 98 = .ok (.putfield 19, 3) := by decide +kernel
theorem dX8_toBear_101 : decode cX8_toBear 101 = .ok (.return_, 1) := by decide +kernel
theorem dX8_toBear_102 : decode cX8_toBear 102 = .ok (.iinc 5 1, 3) := by decide +kernel
theorem dX8_toBear_105 : decode cX8_toBear 105 = .ok (.goto (-46), 3) := by decide +kernel
theorem dX8_toBear_108 : decode cX8_toBear 108 = .ok (.aload_n 0, 1) := by decide +kernel
theorem dX8_toBear_109 : decode cX8_toBear 109 = .ok (.iconst (-1), 1) := by decide +kernel
theorem dX8_toBear_110 : decode cX8_toBear 110 = .ok (.putfield 15, 3) := by decide +kernel
theorem dX8_toBear_113 : decode cX8_toBear 113 = .ok (.return_, 1) := by decide +kernel
theorem dX8_lastCall_0 : decode cX8_lastCall 0 = .ok (.iconst 0, 1) := by decide +kernel
theorem dX8_lastCall_1 : decode cX8_lastCall 1 = .ok (.istore 5, 2) := by decide +kernel
theorem dX8_lastCall_3 : decode cX8_lastCall 3 = .ok (.iload 5, 2) := by decide +kernel
theorem dX8_lastCall_5 : decode cX8_lastCall 5 = .ok (.bipush 10, 2) := by decide +kernel
theorem dX8_lastCall_7 : decode cX8_lastCall 7 = .ok (.if_icmp .ge 35, 3) := by decide +kernel
theorem dX8_lastCall_10 : decode cX8_lastCall 10 = .ok (.aload_n 2, 1) := by decide +kernel
theorem dX8_lastCall_11 : decode cX8_lastCall 11 = .ok (.aload_n 1, 1) := by decide +kernel
theorem dX8_lastCall_12 : decode cX8_lastCall 12 = .ok (.iload 4, 2) := by decide +kernel
theorem dX8_lastCall_14 : decode cX8_lastCall 14 = .ok (.iload 5, 2) := by decide +kernel
theorem dX8_lastCall_16 : decode cX8_lastCall 16 = .ok (.invokevirtual 42, 3) := by decide +kernel
theorem dX8_lastCall_19 : decode cX8_lastCall 19 = .ok (.iload_n 3, 1) := by decide +kernel
theorem dX8_lastCall_20 : decode cX8_lastCall 20 = .ok (.invokestatic 48, 3) := by decide +kernel
theorem dX8_lastCall_23 : decode cX8_lastCall 23 = .ok (.iconst 1, 1) := by decide +kernel
theorem dX8_lastCall_24 : decode cX8_lastCall 24 = .ok (.if_icmp .ne 12, 3) := by decide +kernel
theorem dX8_lastCall_27 : decode cX8_lastCall 27 = .ok (.bipush 10, 2) := by decide +kernel
theorem dX8_lastCall_29 : decode cX8_lastCall 29 = .ok (.iload 4, 2) := by decide +kernel
theorem dX8_lastCall_31 : decode cX8_lastCall 31 = .ok (.imul, 1) := by decide +kernel
theorem dX8_lastCall_32 : decode cX8_lastCall 32 = .ok (.iload 5, 2) := by decide +kernel
theorem dX8_lastCall_34 : decode cX8_lastCall 34 = .ok (.iadd, 1) := by decide +kernel
theorem dX8_lastCall_35 : decode cX8_lastCall 35 = .ok (.ireturn, 1) := by decide +kernel
theorem dX8_lastCall_36 : decode cX8_lastCall 36 = .ok (.iinc 5 1, 3) := by decide +kernel
theorem dX8_lastCall_39 : decode cX8_lastCall 39 = .ok (.goto (-36), 3) := by decide +kernel
theorem dX8_lastCall_42 : decode cX8_lastCall 42 = .ok (.iconst (-1), 1) := by decide +kernel
theorem dX8_lastCall_43 : decode cX8_lastCall 43 = .ok (.ireturn, 1) := by decide +kernel
theorem dX8_ownAgain_0 : decode cX8_ownAgain 0 = .ok (.aload_n 0, 1) := by decide +kernel
theorem dX8_ownAgain_1 : decode cX8_ownAgain 1 = .ok (.iconst 0, 1) := by decide +kernel
theorem dX8_ownAgain_2 : decode cX8_ownAgain 2 = .ok (.putfield 15, 3) := by decide +kernel
theorem dX8_ownAgain_5 : decode cX8_ownAgain 5 = .ok (.aload_n 0, 1) := by decide +kernel
theorem dX8_ownAgain_6 : decode cX8_ownAgain 6 = .ok (.iconst (-1), 1) := by decide +kernel
theorem dX8_ownAgain_7 : decode cX8_ownAgain 7 = .ok (.putfield 19, 3) := by decide +kernel
theorem dX8_ownAgain_10 : decode cX8_ownAgain 10 = .ok (.aload_n 0, 1) := by decide +kernel
theorem dX8_ownAgain_11 : decode cX8_ownAgain 11 = .ok (.aload_n 1, 1) := by decide +kernel
theorem dX8_ownAgain_12 : decode cX8_ownAgain 12 = .ok (.getfield 28, 3) := by decide +kernel
theorem dX8_ownAgain_15 : decode cX8_ownAgain 15 = .ok (.invokestatic 52, 3) := by decide +kernel
theorem dX8_ownAgain_18 : decode cX8_ownAgain 18 = .ok (.invokestatic 56, 3) := by decide +kernel
theorem dX8_ownAgain_21 : decode cX8_ownAgain 21 = .ok (.putfield 61, 3) := by decide +kernel
theorem dX8_ownAgain_24 : decode cX8_ownAgain 24 = .ok (.bipush 10, 2) := by decide +kernel
theorem dX8_ownAgain_26 : decode cX8_ownAgain 26 = .ok (.aload_n 1, 1) := by decide +kernel
theorem dX8_ownAgain_27 : decode cX8_ownAgain 27 = .ok (.getfield 35, 3) := by decide +kernel
theorem dX8_ownAgain_30 : decode cX8_ownAgain 30 = .ok (.imul, 1) := by decide +kernel
theorem dX8_ownAgain_31 : decode cX8_ownAgain 31 = .ok (.istore_n 3, 1) := by decide +kernel
theorem dX8_ownAgain_32 : decode cX8_ownAgain 32 = .ok (.aload_n 0, 1) := by decide +kernel
theorem dX8_ownAgain_33 : decode cX8_ownAgain 33 = .ok (.aload_n 1, 1) := by decide +kernel
theorem dX8_ownAgain_34 : decode cX8_ownAgain 34 = .ok (.getfield 28, 3) := by decide +kernel
theorem dX8_ownAgain_37 : decode cX8_ownAgain 37 = .ok (.aload_n 2, 1) := by decide +kernel
theorem dX8_ownAgain_38 : decode cX8_ownAgain 38 = .ok (.iload_n 3, 1) := by decide +kernel
theorem dX8_ownAgain_39 : decode cX8_ownAgain 39 = .ok (.iconst (-1), 1) := by decide +kernel
theorem dX8_ownAgain_40 : decode cX8_ownAgain 40 = .ok (.invokevirtual 64, 3) := by decide +kernel
theorem dX8_ownAgain_43 : decode cX8_ownAgain 43 = .ok (.iconst 0, 1) := by decide +kernel
theorem dX8_ownAgain_44 : decode cX8_ownAgain 44 = .ok (.istore 4, 2) := by decide +kernel
theorem dX8_ownAgain_46 : decode cX8_ownAgain 46 = .ok (.iload 4, 2) := by decide +kernel
theorem dX8_ownAgain_48 : decode cX8_ownAgain 48 = .ok (.iload_n 3, 1) := by decide +kernel
theorem dX8_ownAgain_49 : decode cX8_ownAgain 49 = .ok (.if_icmp .ge 29, 3) := by decide +kernel
theorem dX8_ownAgain_52 : decode cX8_ownAgain 52 = .ok (.aload_n 0, 1) := by decide +kernel
theorem dX8_ownAgain_53 : decode cX8_ownAgain 53 = .ok (.aload_n 1, 1) := by decide +kernel
theorem dX8_ownAgain_54 : decode cX8_ownAgain 54 = .ok (.aload_n 2, 1) := by decide +kernel
theorem dX8_ownAgain_55 : decode cX8_ownAgain 55 = .ok (.iload 4, 2) := by decide +kernel
theorem dX8_ownAgain_57 : decode cX8_ownAgain 57 = .ok (.invokevirtual 38, 3) := by decide +kernel
theorem dX8_ownAgain_60 : decode cX8_ownAgain 60 = .ok (.aload_n 0, 1) := by decide +kernel
theorem dX8_ownAgain_61 : decode cX8_ownAgain 61 = .ok (.aload_n 0, 1) := by decide +kernel
theorem dX8_ownAgain_62 : decode cX8_ownAgain 62 = .ok (.getfield 9, 3) := by decide +kernel
theorem dX8_ownAgain_65 : decode cX8_ownAgain 65 = .ok (.aload_n 2, 1) := by decide +kernel
theorem dX8_ownAgain_66 : decode cX8_ownAgain 66 = .ok (.iload_n 3, 1) := by decide +kernel
theorem dX8_ownAgain_67 : decode cX8_ownAgain 67 = .ok (.iload 4, 2) := by decide +kernel
theorem dX8_ownAgain_69 : decode cX8_ownAgain 69 = .ok (.invokevirtual 64, 3) := by decide +kernel
theorem dX8_ownAgain_72 : decode cX8_ownAgain 72 = .ok (.iinc 4 1, 3) := by decide +kernel
theorem dX8_ownAgain_75 : decode cX8_ownAgain 75 = .ok (.goto (-29), 3) := by decide +kernel
theorem dX8_ownAgain_78 : decode cX8_ownAgain 78 = .ok (.return_, 1) := by decide +kernel
theorem dX8_tryLastCalls_0 : decode cX8_tryLastCalls 0 = .ok (.aload_n 1, 1) := by decide +kernel
theorem dX8_tryLastCalls_1 : decode cX8_tryLastCalls 1 = .ok (.invokestatic 52, 3) := by decide +kernel
theorem dX8_tryLastCalls_4 : decode cX8_tryLastCalls 4 = .ok (.istore 5, 2) := by decide +kernel
theorem dX8_tryLastCalls_6 : decode cX8_tryLastCalls 6 = .ok (.iconst 0, 1) := by decide +kernel
theorem dX8_tryLastCalls_7 : decode cX8_tryLastCalls 7 = .ok (.istore 6, 2) := by decide +kernel
theorem dX8_tryLastCalls_9 : decode cX8_tryLastCalls 9 = .ok (.iload 6, 2) := by decide +kernel
theorem dX8_tryLastCalls_11 : decode cX8_tryLastCalls 11 = .ok (.iload_n 3, 1) := by decide +kernel
theorem dX8_tryLastCalls_12 : decode cX8_tryLastCalls 12 = .ok (.if_icmp .ge 92, 3) := by decide +kernel
theorem dX8_tryLastCalls_15 : decode cX8_tryLastCalls 15 = .ok (.iload 6, 2) := by decide +kernel
theorem dX8_tryLastCalls_17 : decode cX8_tryLastCalls 17 = .ok (.bipush 10, 2) := by decide +kernel
theorem dX8_tryLastCalls_19 : decode cX8_tryLastCalls 19 = .ok (.idiv, 1) := by decide +kernel
theorem dX8_tryLastCalls_20 : decode cX8_tryLastCalls 20 = .ok (.istore 7, 2) := by decide +kernel
theorem dX8_tryLastCalls_22 : decode cX8_tryLastCalls 22 = .ok (.aload_n 2, 1) := by decide +kernel
theorem dX8_tryLastCalls_23 : decode cX8_tryLastCalls 23 = .ok (.aload_n 1, 1) := by decide +kernel
theorem dX8_tryLastCalls_24 : decode cX8_tryLastCalls 24 = .ok (.iload 7, 2) := by decide +kernel
theorem dX8_tryLastCalls_26 : decode cX8_tryLastCalls 26 = .ok (.iload 6, 2) := by decide +kernel
theorem dX8_tryLastCalls_28 : decode cX8_tryLastCalls 28 = .ok (.bipush 10, 2) := by decide +kernel
theorem dX8_tryLastCalls_30 : decode cX8_tryLastCalls 30 = .ok (.irem, 1) := by decide +kernel
theorem dX8_tryLastCalls_31 : decode cX8_tryLastCalls 31 = .ok (.invokevirtual 42, 3) := by decide +kernel
theorem dX8_tryLastCalls_34 : decode cX8_tryLastCalls 34 = .ok (.istore 8, 2) := by decide +kernel
theorem dX8_tryLastCalls_36 : decode cX8_tryLastCalls 36 = .ok (.aload_n 0, 1) := by decide +kernel
theorem dX8_tryLastCalls_37 : decode cX8_tryLastCalls 37 = .ok (.iload 5, 2) := by decide +kernel
theorem dX8_tryLastCalls_39 : decode cX8_tryLastCalls 39 = .ok (.iload 7, 2) := by decide +kernel
theorem dX8_tryLastCalls_41 : decode cX8_tryLastCalls 41 = .ok (.iload 8, 2) := by decide +kernel
theorem dX8_tryLastCalls_43 : decode cX8_tryLastCalls 43 = .ok (.invokevirtual 68, 3) := by decide +kernel
theorem dX8_tryLastCalls_46 : decode cX8_tryLastCalls 46 = .ok (.invokestatic 56, 3) := by decide +kernel
theorem dX8_tryLastCalls_49 : decode cX8_tryLastCalls 49 = .ok (.istore 9, 2) := by decide +kernel
theorem dX8_tryLastCalls_51 : decode cX8_tryLastCalls 51 = .ok (.iload 9, 2) := by decide +kernel
theorem dX8_tryLastCalls_53 : decode cX8_tryLastCalls 53 = .ok (.aload_n 0, 1) := by decide +kernel
theorem dX8_tryLastCalls_54 : decode cX8_tryLastCalls 54 = .ok (.getfield 61, 3) := by decide +kernel
theorem dX8_tryLastCalls_57 : decode cX8_tryLastCalls 57 = .ok (.if_icmp .le 41, 3) := by decide +kernel
theorem dX8_tryLastCalls_60 : decode cX8_tryLastCalls 60 = .ok (.aload_n 0, 1) := by decide +kernel
theorem dX8_tryLastCalls_61 : decode cX8_tryLastCalls 61 = .ok (.iload 9, 2) := by decide +kernel
theorem dX8_tryLastCalls_63 : decode cX8_tryLastCalls 63 = .ok (.putfield 61, 3) := by decide +kernel
theorem dX8_tryLastCalls_66 : decode cX8_tryLastCalls 66 = .ok (.aload_n 0, 1) := by decide +kernel
theorem dX8_tryLastCalls_67 : decode cX8_tryLastCalls 67 = .ok (.iload 4, 2) := by decide +kernel
theorem dX8_tryLastCalls_69 : decode cX8_tryLastCalls 69 = .ok (.iconst (-1), 1) := by decide +kernel
theorem dX8_tryLastCalls_70 : decode cX8_tryLastCalls 70 = .ok (.if_icmp .ne 7, 3) := by decide +kernel
theorem dX8_tryLastCalls_73 : decode cX8_tryLastCalls 73 = .ok (.iconst 1, 1) := by decide +kernel
theorem dX8_tryLastCalls_74 : decode cX8_tryLastCalls 74 = .ok (.goto 4, 3) := by decide +kernel
theorem dX8_tryLastCalls_77 : decode cX8_tryLastCalls 77 = .ok (.iconst 2, 1) := by decide +kernel
theorem dX8_tryLastCalls_78 : decode cX8_tryLastCalls 78 = .ok (.putfield 15, 3) := by decide +kernel
theorem dX8_tryLastCalls_81 : decode cX8_tryLastCalls 81 = .ok (.aload_n 0, 1) := by decide +kernel
theorem dX8_tryLastCalls_82 : decode cX8_tryLastCalls 82 = .ok (.iload 4, 2) := by decide +kernel
theorem dX8_tryLastCalls_84 : decode cX8_tryLastCalls 84 = .ok (.iconst (-1), 1) := by decide +kernel
theorem dX8_tryLastCalls_85 : decode cX8_tryLastCalls 85 = .ok (.if_icmp .ne 8, 3) := by decide +kernel
theorem dX8_tryLastCalls_88 : decode cX8_tryLastCalls 88 = .ok (.iload 6, 2) := by decide +kernel
theorem dX8_tryLastCalls_90 : decode cX8_tryLastCalls 90 = .ok (.goto 5, 3) := by decide +kernel
theorem dX8_tryLastCalls_93 : decode cX8_tryLastCalls 93 = .ok (.iload 4, 2) := by decide +kernel
theorem dX8_tryLastCalls_95 : decode cX8_tryLastCalls 95 = .ok (.putfield 19, 3) := by decide +kernel
theorem dX8_tryLastCalls_98 : decode cX8_tryLastCalls 98 = .ok (.iinc 6 1, 3) := by decide +kernel
theorem dX8_tryLastCalls_101 : decode cX8_tryLastCalls 101 = .ok (.goto (-92), 3) := by decide +kernel
theorem dX8_tryLastCalls_104 : decode cX8_tryLastCalls 104 = .ok (.return_, 1) := by decide +kernel
theorem dX8_ownersBehind_0 : decode cX8_ownersBehind 0 = .ok (.iload_n 3, 1) := by decide +kernel
theorem dX8_ownersBehind_1 : decode cX8_ownersBehind 1 = .ok (.ifCond .ne 5, 3) := by decide +kernel
theorem dX8_ownersBehind_4 : decode cX8_ownersBehind 4 = .ok (.iload_n 1, 1) := by decide +kernel
theorem dX8_ownersBehind_5 : decode cX8_ownersBehind 5 = .ok (.ireturn, 1) := by decide +kernel
theorem dX8_ownersBehind_6 : decode cX8_ownersBehind 6 = .ok (.iconst 1, 1) := by decide +kernel
theorem dX8_ownersBehind_7 : decode cX8_ownersBehind 7 = .ok (.iload_n 2, 1) := by decide +kernel
theorem dX8_ownersBehind_8 : decode cX8_ownersBehind 8 = .ok (.ishl, 1) := by decide +kernel
theorem dX8_ownersBehind_9 : decode cX8_ownersBehind 9 = .ok (.istore 4, 2) := by decide +kernel
theorem dX8_ownersBehind_11 : decode cX8_ownersBehind 11 = .ok (.iload_n 1, 1) := by decide +kernel
theorem dX8_ownersBehind_12 : decode cX8_ownersBehind 12 = .ok (.iload_n 3, 1) := by decide +kernel
theorem dX8_ownersBehind_13 : decode cX8_ownersBehind 13 = .ok (.iload 4, 2) := by decide +kernel
theorem dX8_ownersBehind_15 : decode cX8_ownersBehind 15 = .ok (.ior, 1) := by decide +kernel
theorem dX8_ownersBehind_16 : decode cX8_ownersBehind 16 = .ok (.iconst (-1), 1) := by decide +kernel
theorem dX8_ownersBehind_17 : decode cX8_ownersBehind 17 = .ok (.ixor, 1) := by decide +kernel
theorem dX8_ownersBehind_18 : decode cX8_ownersBehind 18 = .ok (.iand, 1) := by decide +kernel
theorem dX8_ownersBehind_19 : decode cX8_ownersBehind 19 = .ok (.iload_n 3, 1) := by decide +kernel
theorem dX8_ownersBehind_20 : decode cX8_ownersBehind 20 = .ok (.iload 4, 2) := by decide +kernel
theorem dX8_ownersBehind_22 : decode cX8_ownersBehind 22 = .ok (.iand, 1) := by decide +kernel
theorem dX8_ownersBehind_23 : decode cX8_ownersBehind 23 = .ok (.ior, 1) := by decide +kernel
theorem dX8_ownersBehind_24 : decode cX8_ownersBehind 24 = .ok (.ireturn, 1) := by decide +kernel
theorem dX8_callOnce_0 : decode cX8_callOnce 0 = .ok (.aload_n 1, 1) := by decide +kernel
theorem dX8_callOnce_1 : decode cX8_callOnce 1 = .ok (.getfield 28, 3) := by decide +kernel
theorem dX8_callOnce_4 : decode cX8_callOnce 4 = .ok (.iconst 0, 1) := by decide +kernel
theorem dX8_callOnce_5 : decode cX8_callOnce 5 = .ok (.aload_n 0, 1) := by decide +kernel
theorem dX8_callOnce_6 : decode cX8_callOnce 6 = .ok (.getfield 9, 3) := by decide +kernel
theorem dX8_callOnce_9 : decode cX8_callOnce 9 = .ok (.iconst 0, 1) := by decide +kernel
theorem dX8_callOnce_10 : decode cX8_callOnce 10 = .ok (.bipush 7, 2) := by decide +kernel
theorem dX8_callOnce_12 : decode cX8_callOnce 12 = .ok (.invokestatic 72, 3) := by decide +kernel
theorem dX8_callOnce_15 : decode cX8_callOnce 15 = .ok (.iload_n 3, 1) := by decide +kernel
theorem dX8_callOnce_16 : decode cX8_callOnce 16 = .ok (.bipush 10, 2) := by decide +kernel
theorem dX8_callOnce_18 : decode cX8_callOnce 18 = .ok (.idiv, 1) := by decide +kernel
theorem dX8_callOnce_19 : decode cX8_callOnce 19 = .ok (.istore 4, 2) := by decide +kernel
theorem dX8_callOnce_21 : decode cX8_callOnce 21 = .ok (.aload_n 0, 1) := by decide +kernel
theorem dX8_callOnce_22 : decode cX8_callOnce 22 = .ok (.getfield 9, 3) := by decide +kernel
theorem dX8_callOnce_25 : decode cX8_callOnce 25 = .ok (.iload 4, 2) := by decide +kernel
theorem dX8_callOnce_27 : decode cX8_callOnce 27 = .ok (.aload_n 2, 1) := by decide +kernel
theorem dX8_callOnce_28 : decode cX8_callOnce 28 = .ok (.aload_n 0, 1) := by decide +kernel
theorem dX8_callOnce_29 : decode cX8_callOnce 29 = .ok (.getfield 9, 3) := by decide +kernel
theorem dX8_callOnce_32 : decode cX8_callOnce 32 = .ok (.iload 4, 2) := by decide +kernel
theorem dX8_callOnce_34 : decode cX8_callOnce 34 = .ok (.iload_n 3, 1) := by decide +kernel
theorem dX8_callOnce_35 : decode cX8_callOnce 35 = .ok (.bipush 10, 2) := by decide +kernel
theorem dX8_callOnce_37 : decode cX8_callOnce 37 = .ok (.irem, 1) := by decide +kernel
theorem dX8_callOnce_38 : decode cX8_callOnce 38 = .ok (.invokevirtual 42, 3) := by decide +kernel
theorem dX8_callOnce_41 : decode cX8_callOnce 41 = .ok (.invokestatic 78, 3) := by decide +kernel
theorem dX8_callOnce_44 : decode cX8_callOnce 44 = .ok (.return_, 1) := by decide +kernel
theorem dX8_ownersBehindWeeks_0 : decode cX8_ownersBehindWeeks 0 = .ok (.aload_n 1, 1) := by decide +kernel
theorem dX8_ownersBehindWeeks_1 : decode cX8_ownersBehindWeeks 1 = .ok (.getfield 35, 3) := by decide +kernel
theorem dX8_ownersBehindWeeks_4 : decode cX8_ownersBehindWeeks 4 = .ok (.ifCond .gt 5, 3) := by decide +kernel
theorem dX8_ownersBehindWeeks_7 : decode cX8_ownersBehindWeeks 7 = .ok (.iconst 0, 1) := by decide +kernel
theorem dX8_ownersBehindWeeks_8 : decode cX8_ownersBehindWeeks 8 = .ok (.ireturn, 1) := by decide +kernel
theorem dX8_ownersBehindWeeks_9 : decode cX8_ownersBehindWeeks 9 = .ok (.aload_n 1, 1) := by decide +kernel
theorem dX8_ownersBehindWeeks_10 : decode cX8_ownersBehindWeeks 10 = .ok (.getfield 28, 3) := by decide +kernel
theorem dX8_ownersBehindWeeks_13 : decode cX8_ownersBehindWeeks 13 = .ok (.iconst 0, 1) := by decide +kernel
theorem dX8_ownersBehindWeeks_14 : decode cX8_ownersBehindWeeks 14 = .ok (.aload_n 0, 1) := by decide +kernel
theorem dX8_ownersBehindWeeks_15 : decode cX8_ownersBehindWeeks 15 = .ok (.getfield 9, 3) := by decide +kernel
theorem dX8_ownersBehindWeeks_18 : decode cX8_ownersBehindWeeks 18 = .ok (.iconst 0, 1) := by decide +kernel
theorem dX8_ownersBehindWeeks_19 : decode cX8_ownersBehindWeeks 19 = .ok (.bipush 7, 2) := by decide +kernel
theorem dX8_ownersBehindWeeks_21 : decode cX8_ownersBehindWeeks 21 = .ok (.invokestatic 72, 3) := by decide +kernel
theorem dX8_ownersBehindWeeks_24 : decode cX8_ownersBehindWeeks 24 = .ok (.iload_n 3, 1) := by decide +kernel
theorem dX8_ownersBehindWeeks_25 : decode cX8_ownersBehindWeeks 25 = .ok (.i2l, 1) := by decide +kernel
theorem dX8_ownersBehindWeeks_26 : decode cX8_ownersBehindWeeks 26 = .ok (.lstore 5, 2) := by decide +kernel
theorem dX8_ownersBehindWeeks_28 : decode cX8_ownersBehindWeeks 28 = .ok (.iconst 0, 1) := by decide +kernel
theorem dX8_ownersBehindWeeks_29 : decode cX8_ownersBehindWeeks 29 = .ok (.istore 7, 2) := by decide +kernel
theorem dX8_ownersBehindWeeks_31 : decode cX8_ownersBehindWeeks 31 = .ok (.iload 7, 2) := by decide +kernel
theorem dX8_ownersBehindWeeks_33 : decode cX8_ownersBehindWeeks 33 = .ok (.iload 4, 2) := by decide +kernel
theorem dX8_ownersBehindWeeks_35 : decode cX8_ownersBehindWeeks 35 = .ok (.if_icmp .ge 74, 3) := by decide +kernel
theorem dX8_ownersBehindWeeks_38 : decode cX8_ownersBehindWeeks 38 = .ok (.lload 5, 2) := by decide +kernel
theorem dX8_ownersBehindWeeks_40 : decode cX8_ownersBehindWeeks 40 = .ok (.ldc2_w 82, 3) := by decide +kernel
theorem dX8_ownersBehindWeeks_43 : decode cX8_ownersBehindWeeks 43 = .ok (.lmul, 1) := by decide +kernel
theorem dX8_ownersBehindWeeks_44 : decode cX8_ownersBehindWeeks 44 = .ok (.ldc2_w 84, 3) := by decide +kernel
theorem dX8_ownersBehindWeeks_47 : decode cX8_ownersBehindWeeks 47 = .ok (.ladd, 1) := by decide +kernel
theorem dX8_ownersBehindWeeks_48 : decode cX8_ownersBehindWeeks 48 = .ok (.ldc2_w 86, 3) := by decide +kernel
theorem dX8_ownersBehindWeeks_51 : decode cX8_ownersBehindWeeks 51 = .ok (.lrem, 1) := by decide +kernel
theorem dX8_ownersBehindWeeks_52 : decode cX8_ownersBehindWeeks 52 = .ok (.lstore 5, 2) := by decide +kernel
theorem dX8_ownersBehindWeeks_54 : decode cX8_ownersBehindWeeks 54 = .ok (.lload 5, 2) := by decide +kernel
theorem dX8_ownersBehindWeeks_56 : decode cX8_ownersBehindWeeks 56 = .ok (.ldc2_w 88, 3) := by decide +kernel
theorem dX8_ownersBehindWeeks_59 : decode cX8_ownersBehindWeeks 59 = .ok (.ldiv, 1) := by decide +kernel
theorem dX8_ownersBehindWeeks_60 : decode cX8_ownersBehindWeeks 60 = .ok (.aload_n 1, 1) := by decide +kernel
theorem dX8_ownersBehindWeeks_61 : decode cX8_ownersBehindWeeks 61 = .ok (.getfield 35, 3) := by decide +kernel
theorem dX8_ownersBehindWeeks_64 : decode cX8_ownersBehindWeeks 64 = .ok (.i2l, 1) := by decide +kernel
theorem dX8_ownersBehindWeeks_65 : decode cX8_ownersBehindWeeks 65 = .ok (.lrem, 1) := by decide +kernel
theorem dX8_ownersBehindWeeks_66 : decode cX8_ownersBehindWeeks 66 = .ok (.l2i, 1) := by decide +kernel
theorem dX8_ownersBehindWeeks_67 : decode cX8_ownersBehindWeeks 67 = .ok (.istore 8, 2) := by decide +kernel
theorem dX8_ownersBehindWeeks_69 : decode cX8_ownersBehindWeeks 69 = .ok (.lload 5, 2) := by decide +kernel
theorem dX8_ownersBehindWeeks_71 : decode cX8_ownersBehindWeeks 71 = .ok (.ldc2_w 90, 3) := by decide +kernel
theorem dX8_ownersBehindWeeks_74 : decode cX8_ownersBehindWeeks 74 = .ok (.ldiv, 1) := by decide +kernel
theorem dX8_ownersBehindWeeks_75 : decode cX8_ownersBehindWeeks 75 = .ok (.ldc2_w 92, 3) := by decide +kernel
theorem dX8_ownersBehindWeeks_78 : decode cX8_ownersBehindWeeks 78 = .ok (.lrem, 1) := by decide +kernel
theorem dX8_ownersBehindWeeks_79 : decode cX8_ownersBehindWeeks 79 = .ok (.l2i, 1) := by decide +kernel
theorem dX8_ownersBehindWeeks_80 : decode cX8_ownersBehindWeeks 80 = .ok (.istore 9, 2) := by decide +kernel
theorem dX8_ownersBehindWeeks_82 : decode cX8_ownersBehindWeeks 82 = .ok (.aload_n 0, 1) := by decide +kernel
theorem dX8_ownersBehindWeeks_83 : decode cX8_ownersBehindWeeks 83 = .ok (.getfield 9, 3) := by decide +kernel
theorem dX8_ownersBehindWeeks_86 : decode cX8_ownersBehindWeeks 86 = .ok (.iload 8, 2) := by decide +kernel
theorem dX8_ownersBehindWeeks_88 : decode cX8_ownersBehindWeeks 88 = .ok (.aload_n 2, 1) := by decide +kernel
theorem dX8_ownersBehindWeeks_89 : decode cX8_ownersBehindWeeks 89 = .ok (.aload_n 0, 1) := by decide +kernel
theorem dX8_ownersBehindWeeks_90 : decode cX8_ownersBehindWeeks 90 = .ok (.getfield 9, 3) := by decide +kernel
theorem dX8_ownersBehindWeeks_93 : decode cX8_ownersBehindWeeks 93 = .ok (.iload 8, 2) := by decide +kernel
theorem dX8_ownersBehindWeeks_95 : decode cX8_ownersBehindWeeks 95 = .ok (.iload 9, 2) := by decide +kernel
theorem dX8_ownersBehindWeeks_97 : decode cX8_ownersBehindWeeks 97 = .ok (.invokevirtual 42, 3) := by decide +kernel
theorem dX8_ownersBehindWeeks_100 : decode cX8_ownersBehindWeeks 100 = .ok (.invokestatic 78, 3) := by decide +kernel
theorem dX8_ownersBehindWeeks_103 : decode cX8_ownersBehindWeeks 103 = .ok (.iinc 7 1, 3) := by decide +kernel
theorem dX8_ownersBehindWeeks_106 : decode cX8_ownersBehindWeeks 106 = .ok (.goto (-75), 3) := by decide +kernel
theorem dX8_ownersBehindWeeks_109 : decode cX8_ownersBehindWeeks 109 = .ok (.aload_n 0, 1) := by decide +kernel
theorem dX8_ownersBehindWeeks_110 : decode cX8_ownersBehindWeeks 110 = .ok (.getfield 9, 3) := by decide +kernel
theorem dX8_ownersBehindWeeks_113 : decode cX8_ownersBehindWeeks 113 = .ok (.invokestatic 52, 3) := by decide +kernel
theorem dX8_ownersBehindWeeks_116 : decode cX8_ownersBehindWeeks 116 = .ok (.invokestatic 56, 3) := by decide +kernel
theorem dX8_ownersBehindWeeks_119 : decode cX8_ownersBehindWeeks 119 = .ok (.ireturn, 1) := by decide +kernel
theorem dX9_init_0 : decode cX9_init 0 = .ok (.aload_n 0, 1) := by decide +kernel
theorem dX9_init_1 : decode cX9_init 1 = .ok (.invokespecial 1, 3) := by decide +kernel
theorem dX9_init_4 : decode cX9_init 4 = .ok (.return_, 1) := by decide +kernel
theorem dX9_turns_0 : decode cX9_turns 0 = .ok (.iload 4, 2) := by decide +kernel
theorem dX9_turns_2 : decode cX9_turns 2 = .ok (.iconst 2, 1) := by decide +kernel
theorem dX9_turns_3 : decode cX9_turns 3 = .ok (.irem, 1) := by decide +kernel
theorem dX9_turns_4 : decode cX9_turns 4 = .ok (.ifCond .ne 19, 3) := by decide +kernel
theorem dX9_turns_7 : decode cX9_turns 7 = .ok (.aload_n 0, 1) := by decide +kernel
theorem dX9_turns_8 : decode cX9_turns 8 = .ok (.iload_n 1, 1) := by decide +kernel
theorem dX9_turns_9 : decode cX9_turns 9 = .ok (.iload_n 2, 1) := by decide +kernel
theorem dX9_turns_10 : decode cX9_turns 10 = .ok (.iload_n 3, 1) := by decide +kernel
theorem dX9_turns_11 : decode cX9_turns 11 = .ok (.iload 4, 2) := by decide +kernel
theorem dX9_turns_13 : decode cX9_turns 13 = .ok (.invokespecial 7, 3) := by decide +kernel
theorem dX9_turns_16 : decode cX9_turns 16 = .ok (.ifCond .eq 7, 3) := by decide +kernel
theorem dX9_turns_19 : decode cX9_turns 19 = .ok (.iconst 1, 1) := by decide +kernel
theorem dX9_turns_20 : decode cX9_turns 20 = .ok (.goto 4, 3) := by decide +kernel
theorem dX9_turns_23 : decode cX9_turns 23 = .ok (.iconst 0, 1) := by decide +kernel
theorem dX9_turns_24 : decode cX9_turns 24 = .ok (.ireturn, 1) := by decide +kernel
theorem dX10_init_0 : decode cX10_init 0 = .ok (.aload_n 0, 1) := by decide +kernel
theorem dX10_init_1 : decode cX10_init 1 = .ok (.invokespecial 3, 3) := by decide +kernel
theorem dX10_init_4 : decode cX10_init 4 = .ok (.aload_n 0, 1) := by decide +kernel
theorem dX10_init_5 : decode cX10_init 5 = .ok (.sipush 150, 3) := by decide +kernel
theorem dX10_init_8 : decode cX10_init 8 = .ok (.newarray .byte, 2) := by decide +kernel
theorem dX10_init_10 : decode cX10_init 10 = .ok (.putfield 9, 3) := by decide +kernel
theorem dX10_init_13 : decode cX10_init 13 = .ok (.return_, 1) := by decide +kernel
theorem dX10_append_0 : decode cX10_append 0 = .ok (.aload_n 0, 1) := by decide +kernel
theorem dX10_append_1 : decode cX10_append 1 = .ok (.getfield 15, 3) := by decide +kernel
theorem dX10_append_4 : decode cX10_append 4 = .ok (.sipush 150, 3) := by decide +kernel
theorem dX10_append_7 : decode cX10_append 7 = .ok (.if_icmp .ge 24, 3) := by decide +kernel
theorem dX10_append_10 : decode cX10_append 10 = .ok (.aload_n 0, 1) := by decide +kernel
theorem dX10_append_11 : decode cX10_append 11 = .ok (.getfield 9, 3) := by decide +kernel
theorem dX10_append_14 : decode cX10_append 14 = .ok (.aload_n 0, 1) := by decide +kernel
theorem dX10_append_15 : decode cX10_append 15 = .ok (.getfield 15, 3) := by decide +kernel
theorem dX10_append_18 : decode cX10_append 18 = .ok (.iload_n 1, 1) := by decide +kernel
theorem dX10_append_19 : decode cX10_append 19 = .ok (.i2b, 1) := by decide +kernel
theorem dX10_append_20 : decode cX10_append 20 = .ok (.bastore, 1) := by decide +kernel
theorem dX10_append_21 : decode cX10_append 21 = .ok (.aload_n 0, 1) := by decide +kernel
theorem dX10_append_22 : decode cX10_append 22 = .ok (.dup, 1) := by decide +kernel
theorem dX10_append_23 : decode cX10_append 23 = .ok (.getfield 15, 3) := by decide +kernel
theorem dX10_append_26 : decode cX10_append 26 = .ok (.iconst 1, 1) := by decide +kernel
theorem dX10_append_27 : decode cX10_append 27 = .ok (.iadd, 1) := by decide +kernel
theorem dX10_append_28 : decode cX10_append 28 = .ok (.putfield 15, 3) := by decide +kernel
theorem dX10_append_31 : decode cX10_append 31 = .ok (.return_, 1) := by decide +kernel
theorem dX10_tell_0 : decode cX10_tell 0 = .ok (.aload_n 0, 1) := by decide +kernel
theorem dX10_tell_1 : decode cX10_tell 1 = .ok (.iconst 0, 1) := by decide +kernel
theorem dX10_tell_2 : decode cX10_tell 2 = .ok (.putfield 19, 3) := by decide +kernel
theorem dX10_tell_5 : decode cX10_tell 5 = .ok (.aload_n 0, 1) := by decide +kernel
theorem dX10_tell_6 : decode cX10_tell 6 = .ok (.invokevirtual 22, 3) := by decide +kernel
theorem dX10_tell_9 : decode cX10_tell 9 = .ok (.aload_n 0, 1) := by decide +kernel
theorem dX10_tell_10 : decode cX10_tell 10 = .ok (.ldc 25, 2) := by decide +kernel
theorem dX10_tell_12 : decode cX10_tell 12 = .ok (.invokevirtual 27, 3) := by decide +kernel
theorem dX10_tell_15 : decode cX10_tell 15 = .ok (.ifCond .eq 12, 3) := by decide +kernel
theorem dX10_tell_18 : decode cX10_tell 18 = .ok (.aload_n 0, 1) := by decide +kernel
theorem dX10_tell_19 : decode cX10_tell 19 = .ok (.bipush 100, 2) := by decide +kernel
theorem dX10_tell_21 : decode cX10_tell 21 = .ok (.invokevirtual 31, 3) := by decide +kernel
theorem dX10_tell_24 : decode cX10_tell 24 = .ok (.ifCond .ne 5, 3) := by decide +kernel
theorem dX10_tell_27 : decode cX10_tell 27 = .ok (.iconst (-1), 1) := by decide +kernel
theorem dX10_tell_28 : decode cX10_tell 28 = .ok (.ireturn, 1) := by decide +kernel
theorem dX10_tell_29 : decode cX10_tell 29 = .ok (.aload_n 1, 1) := by decide +kernel
theorem dX10_tell_30 : decode cX10_tell 30 = .ok (.aload_n 0, 1) := by decide +kernel
theorem dX10_tell_31 : decode cX10_tell 31 = .ok (.getfield 35, 3) := by decide +kernel
theorem dX10_tell_34 : decode cX10_tell 34 = .ok (.invokevirtual 38, 3) := by decide +kernel
theorem dX10_tell_37 : decode cX10_tell 37 = .ok (.iconst 1, 1) := by decide +kernel
theorem dX10_tell_38 : decode cX10_tell 38 = .ok (.istore_n 2, 1) := by decide +kernel
theorem dX10_tell_39 : decode cX10_tell 39 = .ok (.iload_n 2, 1) := by decide +kernel
theorem dX10_tell_40 : decode cX10_tell 40 = .ok (.sipush 150, 3) := by decide +kernel
theorem dX10_tell_43 : decode cX10_tell 43 = .ok (.if_icmp .gt 46, 3) := by decide +kernel
theorem dX10_tell_46 : decode cX10_tell 46 = .ok (.aload_n 0, 1) := by decide +kernel
theorem dX10_tell_47 : decode cX10_tell 47 = .ok (.invokevirtual 22, 3) := by decide +kernel
theorem dX10_tell_50 : decode cX10_tell 50 = .ok (.aload_n 0, 1) := by decide +kernel
theorem dX10_tell_51 : decode cX10_tell 51 = .ok (.getfield 44, 3) := by decide +kernel
theorem dX10_tell_54 : decode cX10_tell 54 = .ok (.iconst 3, 1) := by decide +kernel
theorem dX10_tell_55 : decode cX10_tell 55 = .ok (.if_icmp .eq 5, 3) := by decide +kernel
theorem dX10_tell_58 : decode cX10_tell 58 = .ok (.iconst (-1), 1) := by decide +kernel
theorem dX10_tell_59 : decode cX10_tell 59 = .ok (.ireturn, 1) := by decide +kernel
theorem dX10_tell_60 : decode cX10_tell 60 = .ok (.aload_n 0, 1) := by decide +kernel
theorem dX10_tell_61 : decode cX10_tell 61 = .ok (.invokevirtual 22, 3) := by decide +kernel
theorem dX10_tell_64 : decode cX10_tell 64 = .ok (.aload_n 0, 1) := by decide +kernel
theorem dX10_tell_65 : decode cX10_tell 65 = .ok (.getfield 44, 3) := by decide +kernel
theorem dX10_tell_68 : decode cX10_tell 68 = .ok (.ifCond .ne 5, 3) := by decide +kernel
theorem dX10_tell_71 : decode cX10_tell 71 = .ok (.iload_n 2, 1) := by decide +kernel
theorem dX10_tell_72 : decode cX10_tell 72 = .ok (.ireturn, 1) := by decide +kernel
theorem dX10_tell_73 : decode cX10_tell 73 = .ok (.aload_n 0, 1) := by decide +kernel
theorem dX10_tell_74 : decode cX10_tell 74 = .ok (.aload_n 1, 1) := by decide +kernel
theorem dX10_tell_75 : decode cX10_tell 75 = .ok (.invokevirtual 47, 3) := by decide +kernel
theorem dX10_tell_78 : decode cX10_tell 78 = .ok (.ifCond .ne 5, 3) := by decide +kernel
theorem dX10_tell_81 : decode cX10_tell 81 = .ok (.iconst (-1), 1) := by decide +kernel
theorem dX10_tell_82 : decode cX10_tell 82 = .ok (.ireturn, 1) := by decide +kernel
theorem dX10_tell_83 : decode cX10_tell 83 = .ok (.iinc 2 1, 3) := by decide +kernel
theorem dX10_tell_86 : decode cX10_tell 86 = .ok (.goto (-47), 3) := by decide +kernel
theorem dX10_tell_89 : decode cX10_tell 89 = .ok (.iconst (-1), 1) := by decide +kernel
theorem dX10_tell_90 : decode cX10_tell 90 = .ok (.ireturn, 1) := by decide +kernel
theorem dX10_isItem_0 : decode cX10_isItem 0 = .ok (.aload_n 0, 1) := by decide +kernel
theorem dX10_isItem_1 : decode cX10_isItem 1 = .ok (.ldc 51, 2) := by decide +kernel
theorem dX10_isItem_3 : decode cX10_isItem 3 = .ok (.invokevirtual 27, 3) := by decide +kernel
theorem dX10_isItem_6 : decode cX10_isItem 6 = .ok (.ifCond .eq 26, 3) := by decide +kernel
theorem dX10_isItem_9 : decode cX10_isItem 9 = .ok (.aload_n 1, 1) := by decide +kernel
theorem dX10_isItem_10 : decode cX10_isItem 10 = .ok (.getfield 53, 3) := by decide +kernel
theorem dX10_isItem_13 : decode cX10_isItem 13 = .ok (.bipush 7, 2) := by decide +kernel
theorem dX10_isItem_15 : decode cX10_isItem 15 = .ok (.if_icmp .ge 15, 3) := by decide +kernel
theorem dX10_isItem_18 : decode cX10_isItem 18 = .ok (.aload_n 0, 1) := by decide +kernel
theorem dX10_isItem_19 : decode cX10_isItem 19 = .ok (.aload_n 1, 1) := by decide +kernel
theorem dX10_isItem_20 : decode cX10_isItem 20 = .ok (.invokevirtual 56, 3) := by decide +kernel
theorem dX10_isItem_23 : decode cX10_isItem 23 = .ok (.ifCond .eq 7, 3) := by decide +kernel
theorem dX10_isItem_26 : decode cX10_isItem 26 = .ok (.iconst 1, 1) := by decide +kernel
theorem dX10_isItem_27 : decode cX10_isItem 27 = .ok (.goto 4, 3) := by decide +kernel
theorem dX10_isItem_30 : decode cX10_isItem 30 = .ok (.iconst 0, 1) := by decide +kernel
theorem dX10_isItem_31 : decode cX10_isItem 31 = .ok (.ireturn, 1) := by decide +kernel
theorem dX10_isItem_32 : decode cX10_isItem 32 = .ok (.aload_n 0, 1) := by decide +kernel
theorem dX10_isItem_33 : decode cX10_isItem 33 = .ok (.ldc 59, 2) := by decide +kernel
theorem dX10_isItem_35 : decode cX10_isItem 35 = .ok (.invokevirtual 27, 3) := by decide +kernel
theorem dX10_isItem_38 : decode cX10_isItem 38 = .ok (.ifCond .eq 9, 3) := by decide +kernel
theorem dX10_isItem_41 : decode cX10_isItem 41 = .ok (.aload_n 0, 1) := by decide +kernel
theorem dX10_isItem_42 : decode cX10_isItem 42 = .ok (.aload_n 1, 1) := by decide +kernel
theorem dX10_isItem_43 : decode cX10_isItem 43 = .ok (.invokevirtual 61, 3) := by decide +kernel
theorem dX10_isItem_46 : decode cX10_isItem 46 = .ok (.ireturn, 1) := by decide +kernel
theorem dX10_isItem_47 : decode cX10_isItem 47 = .ok (.aload_n 0, 1) := by decide +kernel
theorem dX10_isItem_48 : decode cX10_isItem 48 = .ok (.ldc 64, 2) := by decide +kernel
theorem dX10_isItem_50 : decode cX10_isItem 50 = .ok (.invokevirtual 27, 3) := by decide +kernel
theorem dX10_isItem_53 : decode cX10_isItem 53 = .ok (.ifCond .eq 15, 3) := by decide +kernel
theorem dX10_isItem_56 : decode cX10_isItem 56 = .ok (.aload_n 0, 1) := by decide +kernel
theorem dX10_isItem_57 : decode cX10_isItem 57 = .ok (.aload_n 1, 1) := by decide +kernel
theorem dX10_isItem_58 : decode cX10_isItem 58 = .ok (.invokevirtual 66, 3) := by decide +kernel
theorem dX10_isItem_61 : decode cX10_isItem 61 = .ok (.ifCond .eq 7, 3) := by decide +kernel
theorem dX10_isItem_64 : decode cX10_isItem 64 = .ok (.iconst 1, 1) := by decide +kernel
theorem dX10_isItem_65 : decode cX10_isItem 65 = .ok (.goto 4, 3) := by decide +kernel
theorem dX10_isItem_68 : decode cX10_isItem 68 = .ok (.iconst 0, 1) := by decide +kernel
theorem dX10_isItem_69 : decode cX10_isItem 69 = .ok (.ireturn, 1) := by decide +kernel
theorem dX10_isOne_0 : decode cX10_isOne 0 = .ok (.aload_n 0, 1) := by decide +kernel
theorem dX10_isOne_1 : decode cX10_isOne 1 = .ok (.bipush 6, 2) := by decide +kernel
theorem dX10_isOne_3 : decode cX10_isOne 3 = .ok (.invokevirtual 31, 3) := by decide +kernel
theorem dX10_isOne_6 : decode cX10_isOne 6 = .ok (.ifCond .ne 5, 3) := by decide +kernel
theorem dX10_isOne_9 : decode cX10_isOne 9 = .ok (.iconst 0, 1) := by decide +kernel
theorem dX10_isOne_10 : decode cX10_isOne 10 = .ok (.ireturn, 1) := by decide +kernel
theorem dX10_isOne_11 : decode cX10_isOne 11 = .ok (.aload_n 0, 1) := by decide +kernel
theorem dX10_isOne_12 : decode cX10_isOne 12 = .ok (.getfield 35, 3) := by decide +kernel
theorem dX10_isOne_15 : decode cX10_isOne 15 = .ok (.istore_n 2, 1) := by decide +kernel
theorem dX10_isOne_16 : decode cX10_isOne 16 = .ok (.aload_n 0, 1) := by decide +kernel
theorem dX10_isOne_17 : decode cX10_isOne 17 = .ok (.bipush 10, 2) := by decide +kernel
theorem dX10_isOne_19 : decode cX10_isOne 19 = .ok (.invokevirtual 31, 3) := by decide +kernel
theorem dX10_isOne_22 : decode cX10_isOne 22 = .ok (.ifCond .ne 5, 3) := by decide +kernel
theorem dX10_isOne_25 : decode cX10_isOne 25 = .ok (.iconst 0, 1) := by decide +kernel
theorem dX10_isOne_26 : decode cX10_isOne 26 = .ok (.ireturn, 1) := by decide +kernel
theorem dX10_isOne_27 : decode cX10_isOne 27 = .ok (.aload_n 1, 1) := by decide +kernel
theorem dX10_isOne_28 : decode cX10_isOne 28 = .ok (.iload_n 2, 1) := by decide +kernel
theorem dX10_isOne_29 : decode cX10_isOne 29 = .ok (.aload_n 0, 1) := by decide +kernel
theorem dX10_isOne_30 : decode cX10_isOne 30 = .ok (.getfield 35, 3) := by decide +kernel
theorem dX10_isOne_33 : decode cX10_isOne 33 = .ok (.invokevirtual 69, 3) := by decide +kernel
theorem dX10_isOne_36 : decode cX10_isOne 36 = .ok (.iconst 1, 1) := by decide +kernel
theorem dX10_isOne_37 : decode cX10_isOne 37 = .ok (.ireturn, 1) := by decide +kernel
theorem dX10_isBears_0 : decode cX10_isBears 0 = .ok (.aload_n 0, 1) := by decide +kernel
theorem dX10_isBears_1 : decode cX10_isBears 1 = .ok (.aload_n 1, 1) := by decide +kernel
theorem dX10_isBears_2 : decode cX10_isBears 2 = .ok (.getfield 53, 3) := by decide +kernel
theorem dX10_isBears_5 : decode cX10_isBears 5 = .ok (.invokevirtual 31, 3) := by decide +kernel
theorem dX10_isBears_8 : decode cX10_isBears 8 = .ok (.ifCond .ne 5, 3) := by decide +kernel
theorem dX10_isBears_11 : decode cX10_isBears 11 = .ok (.iconst 0, 1) := by decide +kernel
theorem dX10_isBears_12 : decode cX10_isBears 12 = .ok (.ireturn, 1) := by decide +kernel
theorem dX10_isBears_13 : decode cX10_isBears 13 = .ok (.aload_n 0, 1) := by decide +kernel
theorem dX10_isBears_14 : decode cX10_isBears 14 = .ok (.getfield 35, 3) := by decide +kernel
theorem dX10_isBears_17 : decode cX10_isBears 17 = .ok (.istore_n 2, 1) := by decide +kernel
theorem dX10_isBears_18 : decode cX10_isBears 18 = .ok (.aload_n 0, 1) := by decide +kernel
theorem dX10_isBears_19 : decode cX10_isBears 19 = .ok (.aload_n 1, 1) := by decide +kernel
theorem dX10_isBears_20 : decode cX10_isBears 20 = .ok (.getfield 53, 3) := by decide +kernel
theorem dX10_isBears_23 : decode cX10_isBears 23 = .ok (.invokevirtual 31, 3) := by decide +kernel
theorem dX10_isBears_26 : decode cX10_isBears 26 = .ok (.ifCond .ne 5, 3) := by decide +kernel
theorem dX10_isBears_29 : decode cX10_isBears 29 = .ok (.iconst 0, 1) := by decide +kernel
theorem dX10_isBears_30 : decode cX10_isBears 30 = .ok (.ireturn, 1) := by decide +kernel
theorem dX10_isBears_31 : decode cX10_isBears 31 = .ok (.aload_n 1, 1) := by decide +kernel
theorem dX10_isBears_32 : decode cX10_isBears 32 = .ok (.iload_n 2, 1) := by decide +kernel
theorem dX10_isBears_33 : decode cX10_isBears 33 = .ok (.aload_n 0, 1) := by decide +kernel
theorem dX10_isBears_34 : decode cX10_isBears 34 = .ok (.getfield 35, 3) := by decide +kernel
theorem dX10_isBears_37 : decode cX10_isBears 37 = .ok (.invokevirtual 73, 3) := by decide +kernel
theorem dX10_isBears_40 : decode cX10_isBears 40 = .ok (.iconst 1, 1) := by decide +kernel
theorem dX10_isBears_41 : decode cX10_isBears 41 = .ok (.ireturn, 1) := by decide +kernel
theorem dX10_isNone_0 : decode cX10_isNone 0 = .ok (.aload_n 0, 1) := by decide +kernel
theorem dX10_isNone_1 : decode cX10_isNone 1 = .ok (.aload_n 1, 1) := by decide +kernel
theorem dX10_isNone_2 : decode cX10_isNone 2 = .ok (.getfield 53, 3) := by decide +kernel
theorem dX10_isNone_5 : decode cX10_isNone 5 = .ok (.invokevirtual 31, 3) := by decide +kernel
theorem dX10_isNone_8 : decode cX10_isNone 8 = .ok (.ifCond .ne 5, 3) := by decide +kernel
theorem dX10_isNone_11 : decode cX10_isNone 11 = .ok (.iconst 0, 1) := by decide +kernel
theorem dX10_isNone_12 : decode cX10_isNone 12 = .ok (.ireturn, 1) := by decide +kernel
theorem dX10_isNone_13 : decode cX10_isNone 13 = .ok (.aload_n 1, 1) := by decide +kernel
theorem dX10_isNone_14 : decode cX10_isNone 14 = .ok (.aload_n 0, 1) := by decide +kernel
theorem dX10_isNone_15 : decode cX10_isNone 15 = .ok (.getfield 35, 3) := by decide +kernel
theorem dX10_isNone_18 : decode cX10_isNone 18 = .ok (.iconst (-1), 1) := by decide +kernel
theorem dX10_isNone_19 : decode cX10_isNone 19 = .ok (.invokevirtual 73, 3) := by decide +kernel
theorem dX10_isNone_22 : decode cX10_isNone 22 = .ok (.iconst 1, 1) := by decide +kernel
theorem dX10_isNone_23 : decode cX10_isNone 23 = .ok (.ireturn, 1) := by decide +kernel
theorem dX10_isNumberNext_0 : decode cX10_isNumberNext 0 = .ok (.aload_n 0, 1) := by decide +kernel
theorem dX10_isNumberNext_1 : decode cX10_isNumberNext 1 = .ok (.invokevirtual 22, 3) := by decide +kernel
theorem dX10_isNumberNext_4 : decode cX10_isNumberNext 4 = .ok (.aload_n 0, 1) := by decide +kernel
theorem dX10_isNumberNext_5 : decode cX10_isNumberNext 5 = .ok (.getfield 44, 3) := by decide +kernel
theorem dX10_isNumberNext_8 : decode cX10_isNumberNext 8 = .ok (.iconst 2, 1) := by decide +kernel
theorem dX10_isNumberNext_9 : decode cX10_isNumberNext 9 = .ok (.if_icmp .ne 16, 3) := by decide +kernel
theorem dX10_isNumberNext_12 : decode cX10_isNumberNext 12 = .ok (.aload_n 0, 1) := by decide +kernel
theorem dX10_isNumberNext_13 : decode cX10_isNumberNext 13 = .ok (.getfield 19, 3) := by decide +kernel
theorem dX10_isNumberNext_16 : decode cX10_isNumberNext 16 = .ok (.aload_n 0, 1) := by decide +kernel
theorem dX10_isNumberNext_17 : decode cX10_isNumberNext 17 = .ok (.getfield 76, 3) := by decide +kernel
theorem dX10_isNumberNext_20 : decode cX10_isNumberNext 20 = .ok (.isub, 1) := by decide +kernel
theorem dX10_isNumberNext_21 : decode cX10_isNumberNext 21 = .ok (.iconst 2, 1) := by decide +kernel
theorem dX10_isNumberNext_22 : decode cX10_isNumberNext 22 = .ok (.if_icmp .le 5, 3) := by decide +kernel
theorem dX10_isNumberNext_25 : decode cX10_isNumberNext 25 = .ok (.iconst 0, 1) := by decide +kernel
theorem dX10_isNumberNext_26 : decode cX10_isNumberNext 26 = .ok (.ireturn, 1) := by decide +kernel
theorem dX10_isNumberNext_27 : decode cX10_isNumberNext 27 = .ok (.aload_n 0, 1) := by decide +kernel
theorem dX10_isNumberNext_28 : decode cX10_isNumberNext 28 = .ok (.iconst 0, 1) := by decide +kernel
theorem dX10_isNumberNext_29 : decode cX10_isNumberNext 29 = .ok (.putfield 35, 3) := by decide +kernel
theorem dX10_isNumberNext_32 : decode cX10_isNumberNext 32 = .ok (.aload_n 0, 1) := by decide +kernel
theorem dX10_isNumberNext_33 : decode cX10_isNumberNext 33 = .ok (.getfield 76, 3) := by decide +kernel
theorem dX10_isNumberNext_36 : decode cX10_isNumberNext 36 = .ok (.istore_n 2, 1) := by decide +kernel
theorem dX10_isNumberNext_37 : decode cX10_isNumberNext 37 = .ok (.iload_n 2, 1) := by decide +kernel
theorem dX10_isNumberNext_38 : decode cX10_isNumberNext 38 = .ok (.aload_n 0, 1) := by decide +kernel
theorem dX10_isNumberNext_39 : decode cX10_isNumberNext 39 = .ok (.getfield 19, 3) := by decide +kernel
theorem dX10_isNumberNext_42 : decode cX10_isNumberNext 42 = .ok (.if_icmp .ge 30, 3) := by decide +kernel
theorem dX10_isNumberNext_45 : decode cX10_isNumberNext 45 = .ok (.aload_n 0, 1) := by decide +kernel
theorem dX10_isNumberNext_46 : decode cX10_isNumberNext 46 = .ok (.bipush 10, 2) := by decide +kernel
theorem dX10_isNumberNext_48 : decode cX10_isNumberNext 48 = .ok (.aload_n 0, 1) := by decide +kernel
theorem dX10_isNumberNext_49 : decode cX10_isNumberNext 49 = .ok (.getfield 35, 3) := by decide +kernel
theorem dX10_isNumberNext_52 : decode cX10_isNumberNext 52 = .ok (.imul, 1) := by decide +kernel
theorem dX10_isNumberNext_53 : decode cX10_isNumberNext 53 = .ok (.aload_n 0, 1) := by decide +kernel
theorem dX10_isNumberNext_54 : decode cX10_isNumberNext 54 = .ok (.getfield 9, 3) := by decide +kernel
theorem dX10_isNumberNext_57 : decode cX10_isNumberNext 57 = .ok (.iload_n 2, 1) := by decide +kernel
theorem dX10_isNumberNext_58 : decode cX10_isNumberNext 58 = .ok (.baload, 1) := by decide +kernel
theorem dX10_isNumberNext_59 : decode cX10_isNumberNext 59 = .ok (.bipush 48, 2) := by decide +kernel
theorem dX10_isNumberNext_61 : decode cX10_isNumberNext 61 = .ok (.isub, 1) := by decide +kernel
theorem dX10_isNumberNext_62 : decode cX10_isNumberNext 62 = .ok (.iadd, 1) := by decide +kernel
theorem dX10_isNumberNext_63 : decode cX10_isNumberNext 63 = .ok (.putfield 35, 3) := by decide +kernel
theorem dX10_isNumberNext_66 : decode cX10_isNumberNext 66 = .ok (.iinc 2 1, 3) := by decide +kernel
theorem dX10_isNumberNext_69 : decode cX10_isNumberNext 69 = .ok (.goto (-32), 3) := by decide +kernel
theorem dX10_isNumberNext_72 : decode cX10_isNumberNext 72 = .ok (.aload_n 0, 1) := by decide +kernel
theorem dX10_isNumberNext_73 : decode cX10_isNumberNext 73 = .ok (.getfield 35, 3) := by decide +kernel
theorem dX10_isNumberNext_76 : decode cX10_isNumberNext 76 = .ok (.iload_n 1, 1) := by decide +kernel
theorem dX10_isNumberNext_77 : decode cX10_isNumberNext 77 = .ok (.if_icmp .ge 7, 3) := by decide +kernel
theorem dX10_isNumberNext_80 : decode cX10_isNumberNext 80 = .ok (.iconst 1, 1) := by decide +kernel
theorem dX10_isNumberNext_81 : decode cX10_isNumberNext 81 = .ok (.goto 4, 3) := by decide +kernel
theorem dX10_isNumberNext_84 : decode cX10_isNumberNext 84 = .ok (.iconst 0, 1) := by decide +kernel
theorem dX10_isNumberNext_85 : decode cX10_isNumberNext 85 = .ok (.ireturn, 1) := by decide +kernel
theorem dX10_isWord_0 : decode cX10_isWord 0 = .ok (.aload_n 0, 1) := by decide +kernel
theorem dX10_isWord_1 : decode cX10_isWord 1 = .ok (.getfield 44, 3) := by decide +kernel
theorem dX10_isWord_4 : decode cX10_isWord 4 = .ok (.iconst 1, 1) := by decide +kernel
theorem dX10_isWord_5 : decode cX10_isWord 5 = .ok (.if_icmp .ne 19, 3) := by decide +kernel
theorem dX10_isWord_8 : decode cX10_isWord 8 = .ok (.aload_n 0, 1) := by decide +kernel
theorem dX10_isWord_9 : decode cX10_isWord 9 = .ok (.getfield 19, 3) := by decide +kernel
theorem dX10_isWord_12 : decode cX10_isWord 12 = .ok (.aload_n 0, 1) := by decide +kernel
theorem dX10_isWord_13 : decode cX10_isWord 13 = .ok (.getfield 76, 3) := by decide +kernel
theorem dX10_isWord_16 : decode cX10_isWord 16 = .ok (.isub, 1) := by decide +kernel
theorem dX10_isWord_17 : decode cX10_isWord 17 = .ok (.aload_n 1, 1) := by decide +kernel
theorem dX10_isWord_18 : decode cX10_isWord 18 = .ok (.invokevirtual 79, 3) := by decide +kernel
theorem dX10_isWord_21 : decode cX10_isWord 21 = .ok (.if_icmp .eq 5, 3) := by decide +kernel
theorem dX10_isWord_24 : decode cX10_isWord 24 = .ok (.iconst 0, 1) := by decide +kernel
theorem dX10_isWord_25 : decode cX10_isWord 25 = .ok (.ireturn, 1) := by decide +kernel
theorem dX10_isWord_26 : decode cX10_isWord 26 = .ok (.iconst 0, 1) := by decide +kernel
theorem dX10_isWord_27 : decode cX10_isWord 27 = .ok (.istore_n 2, 1) := by decide +kernel
theorem dX10_isWord_28 : decode cX10_isWord 28 = .ok (.iload_n 2, 1) := by decide +kernel
theorem dX10_isWord_29 : decode cX10_isWord 29 = .ok (.aload_n 1, 1) := by decide +kernel
theorem dX10_isWord_30 : decode cX10_isWord 30 = .ok (.invokevirtual 79, 3) := by decide +kernel
theorem dX10_isWord_33 : decode cX10_isWord 33 = .ok (.if_icmp .ge 30, 3) := by decide +kernel
theorem dX10_isWord_36 : decode cX10_isWord 36 = .ok (.aload_n 0, 1) := by decide +kernel
theorem dX10_isWord_37 : decode cX10_isWord 37 = .ok (.getfield 9, 3) := by decide +kernel
theorem dX10_isWord_40 : decode cX10_isWord 40 = .ok (.aload_n 0, 1) := by decide +kernel
theorem dX10_isWord_41 : decode cX10_isWord 41 = .ok (.getfield 76, 3) := by decide +kernel
theorem dX10_isWord_44 : decode cX10_isWord 44 = .ok (.iload_n 2, 1) := by decide +kernel
theorem dX10_isWord_45 : decode cX10_isWord 45 = .ok (.iadd, 1) := by decide +kernel
theorem dX10_isWord_46 : decode cX10_isWord 46 = .ok (.baload, 1) := by decide +kernel
theorem dX10_isWord_47 : decode cX10_isWord 47 = .ok (.aload_n 1, 1) := by decide +kernel
theorem dX10_isWord_48 : decode cX10_isWord 48 = .ok (.iload_n 2, 1) := by decide +kernel
theorem dX10_isWord_49 : decode cX10_isWord 49 = .ok (.invokevirtual 84, 3) := by decide +kernel
theorem dX10_isWord_52 : decode cX10_isWord 52 = .ok (.if_icmp .eq 5, 3) := by decide +kernel
theorem dX10_isWord_55 : decode cX10_isWord 55 = .ok (.iconst 0, 1) := by decide +kernel
theorem dX10_isWord_56 : decode cX10_isWord 56 = .ok (.ireturn, 1) := by decide +kernel
theorem dX10_isWord_57 : decode cX10_isWord 57 = .ok (.iinc 2 1, 3) := by decide +kernel
theorem dX10_isWord_60 : decode cX10_isWord 60 = .ok (.goto (-32), 3) := by decide +kernel
theorem dX10_isWord_63 : decode cX10_isWord 63 = .ok (.iconst 1, 1) := by decide +kernel
theorem dX10_isWord_64 : decode cX10_isWord 64 = .ok (.ireturn, 1) := by decide +kernel
theorem dX10_advance_0 : decode cX10_advance 0 = .ok (.aload_n 0, 1) := by decide +kernel
theorem dX10_advance_1 : decode cX10_advance 1 = .ok (.aload_n 0, 1) := by decide +kernel
theorem dX10_advance_2 : decode cX10_advance 2 = .ok (.getfield 19, 3) := by decide +kernel
theorem dX10_advance_5 : decode cX10_advance 5 = .ok (.putfield 76, 3) := by decide +kernel
theorem dX10_advance_8 : decode cX10_advance 8 = .ok (.aload_n 0, 1) := by decide +kernel
theorem dX10_advance_9 : decode cX10_advance 9 = .ok (.getfield 76, 3) := by decide +kernel
theorem dX10_advance_12 : decode cX10_advance 12 = .ok (.aload_n 0, 1) := by decide +kernel
theorem dX10_advance_13 : decode cX10_advance 13 = .ok (.getfield 15, 3) := by decide +kernel
theorem dX10_advance_16 : decode cX10_advance 16 = .ok (.if_icmp .ge 30, 3) := by decide +kernel
theorem dX10_advance_19 : decode cX10_advance 19 = .ok (.aload_n 0, 1) := by decide +kernel
theorem dX10_advance_20 : decode cX10_advance 20 = .ok (.getfield 9, 3) := by decide +kernel
theorem dX10_advance_23 : decode cX10_advance 23 = .ok (.aload_n 0, 1) := by decide +kernel
theorem dX10_advance_24 : decode cX10_advance 24 = .ok (.getfield 76, 3) := by decide +kernel
theorem dX10_advance_27 : decode cX10_advance 27 = .ok (.baload, 1) := by decide +kernel
theorem dX10_advance_28 : decode cX10_advance 28 = .ok (.bipush 32, 2) := by decide +kernel
theorem dX10_advance_30 : decode cX10_advance 30 = .ok (.if_icmp .ne 16, 3) := by decide +kernel
theorem dX10_advance_33 : decode cX10_advance 33 = .ok (.aload_n 0, 1) := by decide +kernel
theorem dX10_advance_34 : decode cX10_advance 34 = .ok (.dup, 1) := by decide +kernel
theorem dX10_advance_35 : decode cX10_advance 35 = .ok (.getfield 76, 3) := by decide +kernel
theorem dX10_advance_38 : decode cX10_advance 38 = .ok (.iconst 1, 1) := by decide +kernel
theorem dX10_advance_39 : decode cX10_advance 39 = .ok (.iadd, 1) := by decide +kernel
theorem dX10_advance_40 : decode cX10_advance 40 = .ok (.putfield 76, 3) := by decide +kernel
theorem dX10_advance_43 : decode cX10_advance 43 = .ok (.goto (-35), 3) := by decide +kernel
theorem dX10_advance_46 : decode cX10_advance 46 = .ok (.aload_n 0, 1) := by decide +kernel
theorem dX10_advance_47 : decode cX10_advance 47 = .ok (.aload_n 0, 1) := by decide +kernel
theorem dX10_advance_48 : decode cX10_advance 48 = .ok (.getfield 76, 3) := by decide +kernel
theorem dX10_advance_51 : decode cX10_advance 51 = .ok (.putfield 19, 3) := by decide +kernel
theorem dX10_advance_54 : decode cX10_advance 54 = .ok (.aload_n 0, 1) := by decide +kernel
theorem dX10_advance_55 : decode cX10_advance 55 = .ok (.iconst 0, 1) := by decide +kernel
theorem dX10_advance_56 : decode cX10_advance 56 = .ok (.putfield 44, 3) := by decide +kernel
theorem dX10_advance_59 : decode cX10_advance 59 = .ok (.aload_n 0, 1) := by decide +kernel
theorem dX10_advance_60 : decode cX10_advance 60 = .ok (.getfield 76, 3) := by decide +kernel
theorem dX10_advance_63 : decode cX10_advance 63 = .ok (.aload_n 0, 1) := by decide +kernel
theorem dX10_advance_64 : decode cX10_advance 64 = .ok (.getfield 15, 3) := by decide +kernel
theorem dX10_advance_67 : decode cX10_advance 67 = .ok (.if_icmp .ge 29, 3) := by decide +kernel
theorem dX10_advance_70 : decode cX10_advance 70 = .ok (.aload_n 0, 1) := by decide +kernel
theorem dX10_advance_71 : decode cX10_advance 71 = .ok (.aload_n 0, 1) := by decide +kernel
theorem dX10_advance_72 : decode cX10_advance 72 = .ok (.getfield 9, 3) := by decide +kernel
theorem dX10_advance_75 : decode cX10_advance 75 = .ok (.aload_n 0, 1) := by decide +kernel
theorem dX10_advance_76 : decode cX10_advance 76 = .ok (.getfield 76, 3) := by decide +kernel
theorem dX10_advance_79 : decode cX10_advance 79 = .ok (.baload, 1) := by decide +kernel
theorem dX10_advance_80 : decode cX10_advance 80 = .ok (.invokestatic 88, 3) := by decide +kernel
theorem dX10_advance_83 : decode cX10_advance 83 = .ok (.putfield 44, 3) := by decide +kernel
theorem dX10_advance_86 : decode cX10_advance 86 = .ok (.aload_n 0, 1) := by decide +kernel
theorem dX10_advance_87 : decode cX10_advance 87 = .ok (.dup, 1) := by decide +kernel
theorem dX10_advance_88 : decode cX10_advance 88 = .ok (.getfield 19, 3) := by decide +kernel
theorem dX10_advance_91 : decode cX10_advance 91 = .ok (.iconst 1, 1) := by decide +kernel
theorem dX10_advance_92 : decode cX10_advance 92 = .ok (.iadd, 1) := by decide +kernel
theorem dX10_advance_93 : decode cX10_advance 93 = .ok (.putfield 19, 3) := by decide +kernel
theorem dX10_advance_96 : decode cX10_advance 96 = .ok (.aload_n 0, 1) := by decide +kernel
theorem dX10_advance_97 : decode cX10_advance 97 = .ok (.getfield 44, 3) := by decide +kernel
theorem dX10_advance_100 : decode cX10_advance 100 = .ok (.iconst 1, 1) := by decide +kernel
theorem dX10_advance_101 : decode cX10_advance 101 = .ok (.if_icmp .eq 11, 3) := by decide +kernel
theorem dX10_advance_104 : decode cX10_advance 104 = .ok (.aload_n 0, 1) := by decide +kernel
theorem dX10_advance_105 : decode cX10_advance 105 = .ok (.getfield 44, 3) := by decide +kernel
theorem dX10_advance_108 : decode cX10_advance 108 = .ok (.iconst 2, 1) := by decide +kernel
theorem dX10_advance_109 : decode cX10_advance 109 = .ok (.if_icmp .ne 7, 3) := by decide +kernel
theorem dX10_advance_112 : decode cX10_advance 112 = .ok (.iconst 1, 1) := by decide +kernel
theorem dX10_advance_113 : decode cX10_advance 113 = .ok (.goto 4, 3) := by decide +kernel
theorem dX10_advance_116 : decode cX10_advance 116 = .ok (.iconst 0, 1) := by decide +kernel
theorem dX10_advance_117 : decode cX10_advance 117 = .ok (.istore_n 1, 1) := by decide +kernel
theorem dX10_advance_118 : decode cX10_advance 118 = .ok (.iload_n 1, 1) := by decide +kernel
theorem dX10_advance_119 : decode cX10_advance 119 = .ok (.ifCond .eq 46, 3) := by decide +kernel
theorem dX10_advance_122 : decode cX10_advance 122 = .ok (.aload_n 0, 1) := by decide +kernel
theorem dX10_advance_123 : decode cX10_advance 123 = .ok (.getfield 19, 3) := by decide +kernel
theorem dX10_advance_126 : decode cX10_advance 126 = .ok (.aload_n 0, 1) := by decide +kernel
theorem dX10_advance_127 : decode cX10_advance 127 = .ok (.getfield 15, 3) := by decide +kernel
theorem dX10_advance_130 : decode cX10_advance 130 = .ok (.if_icmp .ge 35, 3) := by decide +kernel
theorem dX10_advance_133 : decode cX10_advance 133 = .ok (.aload_n 0, 1) := by decide +kernel
theorem dX10_advance_134 : decode cX10_advance 134 = .ok (.getfield 9, 3) := by decide +kernel
theorem dX10_advance_137 : decode cX10_advance 137 = .ok (.aload_n 0, 1) := by decide +kernel
theorem dX10_advance_138 : decode cX10_advance 138 = .ok (.getfield 19, 3) := by decide +kernel
theorem dX10_advance_141 : decode cX10_advance 141 = .ok (.baload, 1) := by decide +kernel
theorem dX10_advance_142 : decode cX10_advance 142 = .ok (.invokestatic 88, 3) := by decide +kernel
theorem dX10_advance_145 : decode cX10_advance 145 = .ok (.aload_n 0, 1) := by decide +kernel
theorem dX10_advance_146 : decode cX10_advance 146 = .ok (.getfield 44, 3) := by decide +kernel
theorem dX10_advance_149 : decode cX10_advance 149 = .ok (.if_icmp .ne 16, 3) := by decide +kernel
theorem dX10_advance_152 : decode cX10_advance 152 = .ok (.aload_n 0, 1) := by decide +kernel
theorem dX10_advance_153 : decode cX10_advance 153 = .ok (.dup, 1) := by decide +kernel
theorem dX10_advance_154 : decode cX10_advance 154 = .ok (.getfield 19, 3) := by decide +kernel
theorem dX10_advance_157 : decode cX10_advance 157 = .ok (.iconst 1, 1) := by decide +kernel
theorem dX10_advance_158 : decode cX10_advance 158 = .ok (.iadd, 1) := by decide +kernel
theorem dX10_advance_159 : decode cX10_advance 159 = .ok (.putfield 19, 3) := by decide +kernel
theorem dX10_advance_162 : decode cX10_advance 162 = .ok (.goto (-44), 3) := by decide +kernel
theorem dX10_advance_165 : decode cX10_advance 165 = .ok (.return_, 1) := by decide +kernel
theorem dX10_sortOf_0 : decode cX10_sortOf 0 = .ok (.iload_n 0, 1) := by decide +kernel
theorem dX10_sortOf_1 : decode cX10_sortOf 1 = .ok (.bipush 97, 2) := by decide +kernel
theorem dX10_sortOf_3 : decode cX10_sortOf 3 = .ok (.if_icmp .lt 11, 3) := by decide +kernel
theorem dX10_sortOf_6 : decode cX10_sortOf 6 = .ok (.iload_n 0, 1) := by decide +kernel
theorem dX10_sortOf_7 : decode cX10_sortOf 7 = .ok (.bipush 122, 2) := by decide +kernel
theorem dX10_sortOf_9 : decode cX10_sortOf 9 = .ok (.if_icmp .gt 5, 3) := by decide +kernel
theorem dX10_sortOf_12 : decode cX10_sortOf 12 = .ok (.iconst 1, 1) := by decide +kernel
theorem dX10_sortOf_13 : decode cX10_sortOf 13 = .ok (.ireturn, 1) := by decide +kernel
theorem dX10_sortOf_14 : decode cX10_sortOf 14 = .ok (.iload_n 0, 1) := by decide +kernel
theorem dX10_sortOf_15 : decode cX10_sortOf 15 = .ok (.bipush 48, 2) := by decide +kernel
theorem dX10_sortOf_17 : decode cX10_sortOf 17 = .ok (.if_icmp .lt 11, 3) := by decide +kernel
theorem dX10_sortOf_20 : decode cX10_sortOf 20 = .ok (.iload_n 0, 1) := by decide +kernel
theorem dX10_sortOf_21 : decode cX10_sortOf 21 = .ok (.bipush 57, 2) := by decide +kernel
theorem dX10_sortOf_23 : decode cX10_sortOf 23 = .ok (.if_icmp .gt 5, 3) := by decide +kernel
theorem dX10_sortOf_26 : decode cX10_sortOf 26 = .ok (.iconst 2, 1) := by decide +kernel
theorem dX10_sortOf_27 : decode cX10_sortOf 27 = .ok (.ireturn, 1) := by decide +kernel
theorem dX10_sortOf_28 : decode cX10_sortOf 28 = .ok (.iload_n 0, 1) := by decide +kernel
theorem dX10_sortOf_29 : decode cX10_sortOf 29 = .ok (.bipush 59, 2) := by decide +kernel
theorem dX10_sortOf_31 : decode cX10_sortOf 31 = .ok (.if_icmp .ne 7, 3) := by decide +kernel
theorem dX10_sortOf_34 : decode cX10_sortOf 34 = .ok (.iconst 3, 1) := by decide +kernel
theorem dX10_sortOf_35 : decode cX10_sortOf 35 = .ok (.goto 4, 3) := by decide +kernel
theorem dX10_sortOf_38 : decode cX10_sortOf 38 = .ok (.iconst 4, 1) := by decide +kernel
theorem dX10_sortOf_39 : decode cX10_sortOf 39 = .ok (.ireturn, 1) := by decide +kernel
theorem dJ6_bitCount_0f7a4_0 : decode cJ6_bitCount_0f7a4 0 = .ok (.iload_n 0, 1) := by decide +kernel
theorem dJ6_bitCount_0f7a4_1 : decode cJ6_bitCount_0f7a4 1 = .ok (.iload_n 0, 1) := by decide +kernel
theorem dJ6_bitCount_0f7a4_2 : decode cJ6_bitCount_0f7a4 2 = .ok (.iconst 1, 1) := by decide +kernel
theorem dJ6_bitCount_0f7a4_3 : decode cJ6_bitCount_0f7a4 3 = .ok (.iushr, 1) := by decide +kernel
theorem dJ6_bitCount_0f7a4_4 : decode cJ6_bitCount_0f7a4 4 = .ok (.ldc_w 265, 3) := by decide +kernel
theorem dJ6_bitCount_0f7a4_7 : decode cJ6_bitCount_0f7a4 7 = .ok (.iand, 1) := by decide +kernel
theorem dJ6_bitCount_0f7a4_8 : decode cJ6_bitCount_0f7a4 8 = .ok (.isub, 1) := by decide +kernel
theorem dJ6_bitCount_0f7a4_9 : decode cJ6_bitCount_0f7a4 9 = .ok (.istore_n 0, 1) := by decide +kernel
theorem dJ6_bitCount_0f7a4_10 : decode cJ6_bitCount_0f7a4 10 = .ok (.iload_n 0, 1) := by decide +kernel
theorem dJ6_bitCount_0f7a4_11 : decode cJ6_bitCount_0f7a4 11 = .ok (.ldc_w 266, 3) := by decide +kernel
theorem dJ6_bitCount_0f7a4_14 : decode cJ6_bitCount_0f7a4 14 = .ok (.iand, 1) := by decide +kernel
theorem dJ6_bitCount_0f7a4_15 : decode cJ6_bitCount_0f7a4 15 = .ok (.iload_n 0, 1) := by decide +kernel
theorem dJ6_bitCount_0f7a4_16 : decode cJ6_bitCount_0f7a4 16 = .ok (.iconst 2, 1) := by decide +kernel
theorem dJ6_bitCount_0f7a4_17 : decode cJ6_bitCount_0f7a4 17 = .ok (.iushr, 1) := by decide +kernel
theorem dJ6_bitCount_0f7a4_18 : decode cJ6_bitCount_0f7a4 18 = .ok (.ldc_w 266, 3) := by decide +kernel
theorem dJ6_bitCount_0f7a4_21 : decode cJ6_bitCount_0f7a4 21 = .ok (.iand, 1) := by decide +kernel
theorem dJ6_bitCount_0f7a4_22 : decode cJ6_bitCount_0f7a4 22 = .ok (.iadd, 1) := by decide +kernel
theorem dJ6_bitCount_0f7a4_23 : decode cJ6_bitCount_0f7a4 23 = .ok (.istore_n 0, 1) := by decide +kernel
theorem dJ6_bitCount_0f7a4_24 : decode cJ6_bitCount_0f7a4 24 = .ok (.iload_n 0, 1) := by decide +kernel
theorem dJ6_bitCount_0f7a4_25 : decode cJ6_bitCount_0f7a4 25 = .ok (.iload_n 0, 1) := by decide +kernel
theorem dJ6_bitCount_0f7a4_26 : decode cJ6_bitCount_0f7a4 26 = .ok (.iconst 4, 1) := by decide +kernel
theorem dJ6_bitCount_0f7a4_27 : decode cJ6_bitCount_0f7a4 27 = .ok (.iushr, 1) := by decide +kernel
theorem dJ6_bitCount_0f7a4_28 : decode cJ6_bitCount_0f7a4 28 = .ok (.iadd, 1) := by decide +kernel
theorem dJ6_bitCount_0f7a4_29 : decode cJ6_bitCount_0f7a4 29 = .ok (.ldc_w 267, 3) := by decide +kernel
theorem dJ6_bitCount_0f7a4_32 : decode cJ6_bitCount_0f7a4 32 = .ok (.iand, 1) := by decide +kernel
theorem dJ6_bitCount_0f7a4_33 : decode cJ6_bitCount_0f7a4 33 = .ok (.istore_n 0, 1) := by decide +kernel
theorem dJ6_bitCount_0f7a4_34 : decode cJ6_bitCount_0f7a4 34 = .ok (.iload_n 0, 1) := by decide +kernel
theorem dJ6_bitCount_0f7a4_35 : decode cJ6_bitCount_0f7a4 35 = .ok (.iload_n 0, 1) := by decide +kernel
theorem dJ6_bitCount_0f7a4_36 : decode cJ6_bitCount_0f7a4 36 = .ok (.bipush 8, 2) := by decide +kernel
theorem dJ6_bitCount_0f7a4_38 : decode cJ6_bitCount_0f7a4 38 = .ok (.iushr, 1) := by decide +kernel
theorem dJ6_bitCount_0f7a4_39 : decode cJ6_bitCount_0f7a4 39 = .ok (.iadd, 1) := by decide +kernel
theorem dJ6_bitCount_0f7a4_40 : decode cJ6_bitCount_0f7a4 40 = .ok (.istore_n 0, 1) := by decide +kernel
theorem dJ6_bitCount_0f7a4_41 : decode cJ6_bitCount_0f7a4 41 = .ok (.iload_n 0, 1) := by decide +kernel
theorem dJ6_bitCount_0f7a4_42 : decode cJ6_bitCount_0f7a4 42 = .ok (.iload_n 0, 1) := by decide +kernel
theorem dJ6_bitCount_0f7a4_43 : decode cJ6_bitCount_0f7a4 43 = .ok (.bipush 16, 2) := by decide +kernel
theorem dJ6_bitCount_0f7a4_45 : decode cJ6_bitCount_0f7a4 45 = .ok (.iushr, 1) := by decide +kernel
theorem dJ6_bitCount_0f7a4_46 : decode cJ6_bitCount_0f7a4 46 = .ok (.iadd, 1) := by decide +kernel
theorem dJ6_bitCount_0f7a4_47 : decode cJ6_bitCount_0f7a4 47 = .ok (.istore_n 0, 1) := by decide +kernel
theorem dJ6_bitCount_0f7a4_48 : decode cJ6_bitCount_0f7a4 48 = .ok (.iload_n 0, 1) := by decide +kernel
theorem dJ6_bitCount_0f7a4_49 : decode cJ6_bitCount_0f7a4 49 = .ok (.bipush 63, 2) := by decide +kernel
theorem dJ6_bitCount_0f7a4_51 : decode cJ6_bitCount_0f7a4 51 = .ok (.iand, 1) := by decide +kernel
theorem dJ6_bitCount_0f7a4_52 : decode cJ6_bitCount_0f7a4 52 = .ok (.ireturn, 1) := by decide +kernel
theorem dJ9_abs_0f7a4_0 : decode cJ9_abs_0f7a4 0 = .ok (.iload_n 0, 1) := by decide +kernel
theorem dJ9_abs_0f7a4_1 : decode cJ9_abs_0f7a4 1 = .ok (.ifCond .ge 8, 3) := by decide +kernel
theorem dJ9_abs_0f7a4_4 : decode cJ9_abs_0f7a4 4 = .ok (.iload_n 0, 1) := by decide +kernel
theorem dJ9_abs_0f7a4_5 : decode cJ9_abs_0f7a4 5 = .ok (.ineg, 1) := by decide +kernel
theorem dJ9_abs_0f7a4_6 : decode cJ9_abs_0f7a4 6 = .ok (.goto 4, 3) := by decide +kernel
theorem dJ9_abs_0f7a4_9 : decode cJ9_abs_0f7a4 9 = .ok (.iload_n 0, 1) := by decide +kernel
theorem dJ9_abs_0f7a4_10 : decode cJ9_abs_0f7a4 10 = .ok (.ireturn, 1) := by decide +kernel
theorem dJ9_max_7cf53_0 : decode cJ9_max_7cf53 0 = .ok (.iload_n 0, 1) := by decide +kernel
theorem dJ9_max_7cf53_1 : decode cJ9_max_7cf53 1 = .ok (.iload_n 1, 1) := by decide +kernel
theorem dJ9_max_7cf53_2 : decode cJ9_max_7cf53 2 = .ok (.if_icmp .lt 7, 3) := by decide +kernel
theorem dJ9_max_7cf53_5 : decode cJ9_max_7cf53 5 = .ok (.iload_n 0, 1) := by decide +kernel
theorem dJ9_max_7cf53_6 : decode cJ9_max_7cf53 6 = .ok (.goto 4, 3) := by decide +kernel
theorem dJ9_max_7cf53_9 : decode cJ9_max_7cf53 9 = .ok (.iload_n 1, 1) := by decide +kernel
theorem dJ9_max_7cf53_10 : decode cJ9_max_7cf53 10 = .ok (.ireturn, 1) := by decide +kernel
theorem dJ0_length_8abf5_0 : decode cJ0_length_8abf5 0 = .ok (.aload_n 0, 1) := by decide +kernel
theorem dJ0_length_8abf5_1 : decode cJ0_length_8abf5 1 = .ok (.getfield 9, 3) := by decide +kernel
theorem dJ0_length_8abf5_4 : decode cJ0_length_8abf5 4 = .ok (.arraylength, 1) := by decide +kernel
theorem dJ0_length_8abf5_5 : decode cJ0_length_8abf5 5 = .ok (.aload_n 0, 1) := by decide +kernel
theorem dJ0_length_8abf5_6 : decode cJ0_length_8abf5 6 = .ok (.invokevirtual 335, 3) := by decide +kernel
theorem dJ0_length_8abf5_9 : decode cJ0_length_8abf5 9 = .ok (.ishr, 1) := by decide +kernel
theorem dJ0_length_8abf5_10 : decode cJ0_length_8abf5 10 = .ok (.ireturn, 1) := by decide +kernel
theorem dJ0_charAt_5068e_0 : decode cJ0_charAt_5068e 0 = .ok (.aload_n 0, 1) := by decide +kernel
theorem dJ0_charAt_5068e_1 : decode cJ0_charAt_5068e 1 = .ok (.invokevirtual 492, 3) := by decide +kernel
theorem dJ0_charAt_5068e_4 : decode cJ0_charAt_5068e 4 = .ok (.ifCond .eq 12, 3) := by decide +kernel
theorem dJ0_charAt_5068e_7 : decode cJ0_charAt_5068e 7 = .ok (.aload_n 0, 1) := by decide +kernel
theorem dJ0_charAt_5068e_8 : decode cJ0_charAt_5068e 8 = .ok (.getfield 9, 3) := by decide +kernel
theorem dJ0_charAt_5068e_11 : decode cJ0_charAt_5068e 11 = .ok (.iload_n 1, 1) := by decide +kernel
theorem dJ0_charAt_5068e_12 : decode cJ0_charAt_5068e 12 = .ok (.invokestatic 495, 3) := by decide +kernel
theorem dJ0_charAt_5068e_15 : decode cJ0_charAt_5068e 15 = .ok (.ireturn, 1) := by decide +kernel
theorem dJ0_charAt_5068e_16 : decode cJ0_charAt_5068e 16 = .ok (.aload_n 0, 1) := by decide +kernel
theorem dJ0_charAt_5068e_17 : decode cJ0_charAt_5068e 17 = .ok (.getfield 9, 3) := by decide +kernel
theorem dJ0_charAt_5068e_20 : decode cJ0_charAt_5068e 20 = .ok (.iload_n 1, 1) := by decide +kernel
theorem dJ0_charAt_5068e_21 : decode cJ0_charAt_5068e 21 = .ok (.invokestatic 498, 3) := by decide +kernel
theorem dJ0_charAt_5068e_24 : decode cJ0_charAt_5068e 24 = .ok (.ireturn, 1) := by decide +kernel
theorem dJ0_coder_7d493_0 : decode cJ0_coder_7d493 0 = .ok (.getstatic 38, 3) := by decide +kernel
theorem dJ0_coder_7d493_3 : decode cJ0_coder_7d493 3 = .ok (.ifCond .eq 10, 3) := by decide +kernel
theorem dJ0_coder_7d493_6 : decode cJ0_coder_7d493 6 = .ok (.aload_n 0, 1) := by decide +kernel
theorem dJ0_coder_7d493_7 : decode cJ0_coder_7d493 7 = .ok (.getfield 15, 3) := by decide +kernel
theorem dJ0_coder_7d493_10 : decode cJ0_coder_7d493 10 = .ok (.goto 4, 3) := by decide +kernel
theorem dJ0_coder_7d493_13 : decode cJ0_coder_7d493 13 = .ok (.iconst 1, 1) := by decide +kernel
theorem dJ0_coder_7d493_14 : decode cJ0_coder_7d493 14 = .ok (.ireturn, 1) := by decide +kernel
theorem dJ0_isLatin1_aae02_0 : decode cJ0_isLatin1_aae02 0 = .ok (.getstatic 38, 3) := by decide +kernel
theorem dJ0_isLatin1_aae02_3 : decode cJ0_isLatin1_aae02 3 = .ok (.ifCond .eq 14, 3) := by decide +kernel
theorem dJ0_isLatin1_aae02_6 : decode cJ0_isLatin1_aae02 6 = .ok (.aload_n 0, 1) := by decide +kernel
theorem dJ0_isLatin1_aae02_7 : decode cJ0_isLatin1_aae02 7 = .ok (.getfield 15, 3) := by decide +kernel
theorem dJ0_isLatin1_aae02_10 : decode cJ0_isLatin1_aae02 10 = .ok (.ifCond .ne 7, 3) := by decide +kernel
theorem dJ0_isLatin1_aae02_13 : decode cJ0_isLatin1_aae02 13 = .ok (.iconst 1, 1) := by decide +kernel
theorem dJ0_isLatin1_aae02_14 : decode cJ0_isLatin1_aae02 14 = .ok (.goto 4, 3) := by decide +kernel
theorem dJ0_isLatin1_aae02_17 : decode cJ0_isLatin1_aae02 17 = .ok (.iconst 0, 1) := by decide +kernel
theorem dJ0_isLatin1_aae02_18 : decode cJ0_isLatin1_aae02 18 = .ok (.ireturn, 1) := by decide +kernel
theorem dJ0_checkIndex_df160_0 : decode cJ0_checkIndex_df160 0 = .ok (.iload_n 0, 1) := by decide +kernel
theorem dJ0_checkIndex_df160_1 : decode cJ0_checkIndex_df160 1 = .ok (.iload_n 1, 1) := by decide +kernel
theorem dJ0_checkIndex_df160_2 : decode cJ0_checkIndex_df160 2 = .ok (.getstatic 1053, 3) := by decide +kernel
theorem dJ0_checkIndex_df160_5 : decode cJ0_checkIndex_df160 5 = .ok (.invokestatic 1059, 3) := by decide +kernel
theorem dJ0_checkIndex_df160_8 : decode cJ0_checkIndex_df160 8 = .ok (.pop, 1) := by decide +kernel
theorem dJ0_checkIndex_df160_9 : decode cJ0_checkIndex_df160 9 = .ok (.return_, 1) := by decide +kernel
theorem dJ1_charAt_3b067_0 : decode cJ1_charAt_3b067 0 = .ok (.iload_n 1, 1) := by decide +kernel
theorem dJ1_charAt_3b067_1 : decode cJ1_charAt_3b067 1 = .ok (.aload_n 0, 1) := by decide +kernel
theorem dJ1_charAt_3b067_2 : decode cJ1_charAt_3b067 2 = .ok (.arraylength, 1) := by decide +kernel
theorem dJ1_charAt_3b067_3 : decode cJ1_charAt_3b067 3 = .ok (.invokestatic 9, 3) := by decide +kernel
theorem dJ1_charAt_3b067_6 : decode cJ1_charAt_3b067 6 = .ok (.aload_n 0, 1) := by decide +kernel
theorem dJ1_charAt_3b067_7 : decode cJ1_charAt_3b067 7 = .ok (.iload_n 1, 1) := by decide +kernel
theorem dJ1_charAt_3b067_8 : decode cJ1_charAt_3b067 8 = .ok (.baload, 1) := by decide +kernel
theorem dJ1_charAt_3b067_9 : decode cJ1_charAt_3b067 9 = .ok (.sipush 255, 3) := by decide +kernel
theorem dJ1_charAt_3b067_12 : decode cJ1_charAt_3b067 12 = .ok (.iand, 1) := by decide +kernel
theorem dJ1_charAt_3b067_13 : decode cJ1_charAt_3b067 13 = .ok (.i2c, 1) := by decide +kernel
theorem dJ1_charAt_3b067_14 : decode cJ1_charAt_3b067 14 = .ok (.ireturn, 1) := by decide +kernel
theorem dJ2_getChar_3b067_0 : decode cJ2_getChar_3b067 0 = .ok (.getstatic 44, 3) := by decide +kernel
theorem dJ2_getChar_3b067_3 : decode cJ2_getChar_3b067 3 = .ok (.ifCond .ne 25, 3) := by decide +kernel
theorem dJ2_getChar_3b067_6 : decode cJ2_getChar_3b067 6 = .ok (.iload_n 1, 1) := by decide +kernel
theorem dJ2_getChar_3b067_7 : decode cJ2_getChar_3b067 7 = .ok (.ifCond .lt 11, 3) := by decide +kernel
theorem dJ2_getChar_3b067_10 : decode cJ2_getChar_3b067 10 = .ok (.iload_n 1, 1) := by decide +kernel
theorem dJ2_getChar_3b067_11 : decode cJ2_getChar_3b067 11 = .ok (.aload_n 0, 1) := by decide +kernel
theorem dJ2_getChar_3b067_12 : decode cJ2_getChar_3b067 12 = .ok (.invokestatic 48, 3) := by decide +kernel
theorem dJ2_getChar_3b067_15 : decode cJ2_getChar_3b067 15 = .ok (.if_icmp .lt 13, 3) := by decide +kernel
theorem dJ2_getChar_3b067_18 : decode cJ2_getChar_3b067 18 = .ok (.new 52, 3) := by decide +kernel
theorem dJ2_getChar_3b067_21 : decode cJ2_getChar_3b067 21 = .ok (.dup, 1) := by decide +kernel
theorem dJ2_getChar_3b067_22 : decode cJ2_getChar_3b067 22 = .ok (.ldc 54, 2) := by decide +kernel
theorem dJ2_getChar_3b067_24 : decode cJ2_getChar_3b067 24 = .ok (.invokespecial 56, 3) := by decide +kernel
theorem dJ2_getChar_3b067_27 : decode cJ2_getChar_3b067 27 = .ok (.athrow, 1) := by decide +kernel
theorem dJ2_getChar_3b067_28 : decode cJ2_getChar_3b067 28 = .ok (.iload_n 1, 1) := by decide +kernel
theorem dJ2_getChar_3b067_29 : decode cJ2_getChar_3b067 29 = .ok (.iconst 1, 1) := by decide +kernel
theorem dJ2_getChar_3b067_30 : decode cJ2_getChar_3b067 30 = .ok (.ishl, 1) := by decide +kernel
theorem dJ2_getChar_3b067_31 : decode cJ2_getChar_3b067 31 = .ok (.istore_n 1, 1) := by decide +kernel
theorem dJ2_getChar_3b067_32 : decode cJ2_getChar_3b067 32 = .ok (.aload_n 0, 1) := by decide +kernel
theorem dJ2_getChar_3b067_33 : decode cJ2_getChar_3b067 33 = .ok (.iload_n 1, 1) := by decide +kernel
theorem dJ2_getChar_3b067_34 : decode cJ2_getChar_3b067 34 = .ok (.iinc 1 1, 3) := by decide +kernel
theorem dJ2_getChar_3b067_37 : decode cJ2_getChar_3b067 37 = .ok (.baload, 1) := by decide +kernel
theorem dJ2_getChar_3b067_38 : decode cJ2_getChar_3b067 38 = .ok (.sipush 255, 3) := by decide +kernel
theorem dJ2_getChar_3b067_41 : decode cJ2_getChar_3b067 41 = .ok (.iand, 1) := by decide +kernel
theorem dJ2_getChar_3b067_42 : decode cJ2_getChar_3b067 42 = .ok (.getstatic 59, 3) := by decide +kernel
theorem dJ2_getChar_3b067_45 : decode cJ2_getChar_3b067 45 = .ok (.ishl, 1) := by decide +kernel
theorem dJ2_getChar_3b067_46 : decode cJ2_getChar_3b067 46 = .ok (.aload_n 0, 1) := by decide +kernel
theorem dJ2_getChar_3b067_47 : decode cJ2_getChar_3b067 47 = .ok (.iload_n 1, 1) := by decide +kernel
theorem dJ2_getChar_3b067_48 : decode cJ2_getChar_3b067 48 = .ok (.baload, 1) := by decide +kernel
theorem dJ2_getChar_3b067_49 : decode cJ2_getChar_3b067 49 = .ok (.sipush 255, 3) := by decide +kernel
theorem dJ2_getChar_3b067_52 : decode cJ2_getChar_3b067 52 = .ok (.iand, 1) := by decide +kernel
theorem dJ2_getChar_3b067_53 : decode cJ2_getChar_3b067 53 = .ok (.getstatic 63, 3) := by decide +kernel
theorem dJ2_getChar_3b067_56 : decode cJ2_getChar_3b067 56 = .ok (.ishl, 1) := by decide +kernel
theorem dJ2_getChar_3b067_57 : decode cJ2_getChar_3b067 57 = .ok (.ior, 1) := by decide +kernel
theorem dJ2_getChar_3b067_58 : decode cJ2_getChar_3b067 58 = .ok (.i2c, 1) := by decide +kernel
theorem dJ2_getChar_3b067_59 : decode cJ2_getChar_3b067 59 = .ok (.ireturn, 1) := by decide +kernel
theorem dJ2_length_9d52b_0 : decode cJ2_length_9d52b 0 = .ok (.aload_n 0, 1) := by decide +kernel
theorem dJ2_length_9d52b_1 : decode cJ2_length_9d52b 1 = .ok (.arraylength, 1) := by decide +kernel
theorem dJ2_length_9d52b_2 : decode cJ2_length_9d52b 2 = .ok (.iconst 1, 1) := by decide +kernel
theorem dJ2_length_9d52b_3 : decode cJ2_length_9d52b 3 = .ok (.ishr, 1) := by decide +kernel
theorem dJ2_length_9d52b_4 : decode cJ2_length_9d52b 4 = .ok (.ireturn, 1) := by decide +kernel
theorem dJ2_charAt_3b067_0 : decode cJ2_charAt_3b067 0 = .ok (.iload_n 1, 1) := by decide +kernel
theorem dJ2_charAt_3b067_1 : decode cJ2_charAt_3b067 1 = .ok (.aload_n 0, 1) := by decide +kernel
theorem dJ2_charAt_3b067_2 : decode cJ2_charAt_3b067 2 = .ok (.invokestatic 67, 3) := by decide +kernel
theorem dJ2_charAt_3b067_5 : decode cJ2_charAt_3b067 5 = .ok (.aload_n 0, 1) := by decide +kernel
theorem dJ2_charAt_3b067_6 : decode cJ2_charAt_3b067 6 = .ok (.iload_n 1, 1) := by decide +kernel
theorem dJ2_charAt_3b067_7 : decode cJ2_charAt_3b067 7 = .ok (.invokestatic 71, 3) := by decide +kernel
theorem dJ2_charAt_3b067_10 : decode cJ2_charAt_3b067 10 = .ok (.ireturn, 1) := by decide +kernel
theorem dJ2_checkIndex_2214a_0 : decode cJ2_checkIndex_2214a 0 = .ok (.iload_n 0, 1) := by decide +kernel
theorem dJ2_checkIndex_2214a_1 : decode cJ2_checkIndex_2214a 1 = .ok (.aload_n 1, 1) := by decide +kernel
theorem dJ2_checkIndex_2214a_2 : decode cJ2_checkIndex_2214a 2 = .ok (.invokestatic 48, 3) := by decide +kernel
theorem dJ2_checkIndex_2214a_5 : decode cJ2_checkIndex_2214a 5 = .ok (.invokestatic 414, 3) := by decide +kernel
theorem dJ2_checkIndex_2214a_8 : decode cJ2_checkIndex_2214a 8 = .ok (.return_, 1) := by decide +kernel
theorem dJ7_fill_53178_0 : decode cJ7_fill_53178 0 = .ok (.iconst 0, 1) := by decide +kernel
theorem dJ7_fill_53178_1 : decode cJ7_fill_53178 1 = .ok (.istore_n 2, 1) := by decide +kernel
theorem dJ7_fill_53178_2 : decode cJ7_fill_53178 2 = .ok (.aload_n 0, 1) := by decide +kernel
theorem dJ7_fill_53178_3 : decode cJ7_fill_53178 3 = .ok (.arraylength, 1) := by decide +kernel
theorem dJ7_fill_53178_4 : decode cJ7_fill_53178 4 = .ok (.istore_n 3, 1) := by decide +kernel
theorem dJ7_fill_53178_5 : decode cJ7_fill_53178 5 = .ok (.iload_n 2, 1) := by decide +kernel
theorem dJ7_fill_53178_6 : decode cJ7_fill_53178 6 = .ok (.iload_n 3, 1) := by decide +kernel
theorem dJ7_fill_53178_7 : decode cJ7_fill_53178 7 = .ok (.if_icmp .ge 13, 3) := by decide +kernel
theorem dJ7_fill_53178_10 : decode cJ7_fill_53178 10 = .ok (.aload_n 0, 1) := by decide +kernel
theorem dJ7_fill_53178_11 : decode cJ7_fill_53178 11 = .ok (.iload_n 2, 1) := by decide +kernel
theorem dJ7_fill_53178_12 : decode cJ7_fill_53178 12 = .ok (.iload_n 1, 1) := by decide +kernel
theorem dJ7_fill_53178_13 : decode cJ7_fill_53178 13 = .ok (.iastore, 1) := by decide +kernel
theorem dJ7_fill_53178_14 : decode cJ7_fill_53178 14 = .ok (.iinc 2 1, 3) := by decide +kernel
theorem dJ7_fill_53178_17 : decode cJ7_fill_53178 17 = .ok (.goto (-12), 3) := by decide +kernel
theorem dJ7_fill_53178_20 : decode cJ7_fill_53178 20 = .ok (.return_, 1) := by decide +kernel
theorem dJ3_checkIndex_8e157_0 : decode cJ3_checkIndex_8e157 0 = .ok (.iload_n 0, 1) := by decide +kernel
theorem dJ3_checkIndex_8e157_1 : decode cJ3_checkIndex_8e157 1 = .ok (.ifCond .lt 8, 3) := by decide +kernel
theorem dJ3_checkIndex_8e157_4 : decode cJ3_checkIndex_8e157 4 = .ok (.iload_n 0, 1) := by decide +kernel
theorem dJ3_checkIndex_8e157_5 : decode cJ3_checkIndex_8e157 5 = .ok (.iload_n 1, 1) := by decide +kernel
theorem dJ3_checkIndex_8e157_6 : decode cJ3_checkIndex_8e157 6 = .ok (.if_icmp .lt 10, 3) := by decide +kernel
theorem dJ3_checkIndex_8e157_9 : decode cJ3_checkIndex_8e157 9 = .ok (.aload_n 2, 1) := by decide +kernel
theorem dJ3_checkIndex_8e157_10 : decode cJ3_checkIndex_8e157 10 = .ok (.iload_n 0, 1) := by decide +kernel
theorem dJ3_checkIndex_8e157_11 : decode cJ3_checkIndex_8e157 11 = .ok (.iload_n 1, 1) := by decide +kernel
theorem dJ3_checkIndex_8e157_12 : decode cJ3_checkIndex_8e157 12 = .ok (.invokestatic 95, 3) := by decide +kernel
theorem dJ3_checkIndex_8e157_15 : decode cJ3_checkIndex_8e157 15 = .ok (.athrow, 1) := by decide +kernel
theorem dJ3_checkIndex_8e157_16 : decode cJ3_checkIndex_8e157 16 = .ok (.iload_n 0, 1) := by decide +kernel
theorem dJ3_checkIndex_8e157_17 : decode cJ3_checkIndex_8e157 17 = .ok (.ireturn, 1) := by decide +kernel
end
section
theorem dX11_init_0 : decode cX11_init 0 = .ok (.aload_n 0, 1) := by decide +kernel
theorem dX11_init_1 : decode cX11_init 1 = .ok (.invokespecial 1, 3) := by decide +kernel
theorem dX11_init_4 : decode cX11_init 4 = .ok (.aload_n 0, 1) := by decide +kernel
theorem dX11_init_5 : decode cX11_init 5 = .ok (.new 7, 3) := by decide +kernel
theorem dX11_init_8 : decode cX11_init 8 = .ok (.dup, 1) := by decide +kernel
theorem dX11_init_9 : decode cX11_init 9 = .ok (.invokespecial 9, 3) := by decide +kernel
theorem dX11_init_12 : decode cX11_init 12 = .ok (.putfield 10, 3) := by decide +kernel
theorem dX11_init_15 : decode cX11_init 15 = .ok (.aload_n 0, 1) := by decide +kernel
theorem dX11_init_16 : decode cX11_init 16 = .ok (.new 7, 3) := by decide +kernel
theorem dX11_init_19 : decode cX11_init 19 = .ok (.dup, 1) := by decide +kernel
theorem dX11_init_20 : decode cX11_init 20 = .ok (.invokespecial 9, 3) := by decide +kernel
theorem dX11_init_23 : decode cX11_init 23 = .ok (.putfield 16, 3) := by decide +kernel
theorem dX11_init_26 : decode cX11_init 26 = .ok (.aload_n 0, 1) := by decide +kernel
theorem dX11_init_27 : decode cX11_init 27 = .ok (.iconst 2, 1) := by decide +kernel
theorem dX11_init_28 : decode cX11_init 28 = .ok (.anewarray 7, 3) := by decide +kernel
theorem dX11_init_31 : decode cX11_init 31 = .ok (.dup, 1) := by decide +kernel
theorem dX11_init_32 : decode cX11_init 32 = .ok (.iconst 0, 1) := by decide +kernel
theorem dX11_init_33 : decode cX11_init 33 = .ok (.new 7, 3) := by decide +kernel
theorem dX11_init_36 : decode cX11_init 36 = .ok (.dup, 1) := by decide +kernel
theorem dX11_init_37 : decode cX11_init 37 = .ok (.invokespecial 9, 3) := by decide +kernel
theorem dX11_init_40 : decode cX11_init 40 = .ok (.aastore, 1) := by decide +kernel
theorem dX11_init_41 : decode cX11_init 41 = .ok (.dup, 1) := by decide +kernel
theorem dX11_init_42 : decode cX11_init 42 = .ok (.iconst 1, 1) := by decide +kernel
theorem dX11_init_43 : decode cX11_init 43 = .ok (.new 7, 3) := by decide +kernel
theorem dX11_init_46 : decode cX11_init 46 = .ok (.dup, 1) := by decide +kernel
theorem dX11_init_47 : decode cX11_init 47 = .ok (.invokespecial 9, 3) := by decide +kernel
theorem dX11_init_50 : decode cX11_init 50 = .ok (.aastore, 1) := by decide +kernel
theorem dX11_init_51 : decode cX11_init 51 = .ok (.putfield 19, 3) := by decide +kernel
theorem dX11_init_54 : decode cX11_init 54 = .ok (.aload_n 0, 1) := by decide +kernel
theorem dX11_init_55 : decode cX11_init 55 = .ok (.iconst 2, 1) := by decide +kernel
theorem dX11_init_56 : decode cX11_init 56 = .ok (.newarray .boolean, 2) := by decide +kernel
theorem dX11_init_58 : decode cX11_init 58 = .ok (.putfield 23, 3) := by decide +kernel
theorem dX11_init_61 : decode cX11_init 61 = .ok (.aload_n 0, 1) := by decide +kernel
theorem dX11_init_62 : decode cX11_init 62 = .ok (.new 27, 3) := by decide +kernel
theorem dX11_init_65 : decode cX11_init 65 = .ok (.dup, 1) := by decide +kernel
theorem dX11_init_66 : decode cX11_init 66 = .ok (.invokespecial 29, 3) := by decide +kernel
theorem dX11_init_69 : decode cX11_init 69 = .ok (.putfield 30, 3) := by decide +kernel
theorem dX11_init_72 : decode cX11_init 72 = .ok (.aload_n 0, 1) := by decide +kernel
theorem dX11_init_73 : decode cX11_init 73 = .ok (.new 34, 3) := by decide +kernel
theorem dX11_init_76 : decode cX11_init 76 = .ok (.dup, 1) := by decide +kernel
theorem dX11_init_77 : decode cX11_init 77 = .ok (.invokespecial 36, 3) := by decide +kernel
theorem dX11_init_80 : decode cX11_init 80 = .ok (.putfield 37, 3) := by decide +kernel
theorem dX11_init_83 : decode cX11_init 83 = .ok (.aload_n 0, 1) := by decide +kernel
theorem dX11_init_84 : decode cX11_init 84 = .ok (.new 41, 3) := by decide +kernel
theorem dX11_init_87 : decode cX11_init 87 = .ok (.dup, 1) := by decide +kernel
theorem dX11_init_88 : decode cX11_init 88 = .ok (.invokespecial 43, 3) := by decide +kernel
theorem dX11_init_91 : decode cX11_init 91 = .ok (.putfield 44, 3) := by decide +kernel
theorem dX11_init_94 : decode cX11_init 94 = .ok (.aload_n 0, 1) := by decide +kernel
theorem dX11_init_95 : decode cX11_init 95 = .ok (.new 48, 3) := by decide +kernel
theorem dX11_init_98 : decode cX11_init 98 = .ok (.dup, 1) := by decide +kernel
theorem dX11_init_99 : decode cX11_init 99 = .ok (.invokespecial 50, 3) := by decide +kernel
theorem dX11_init_102 : decode cX11_init 102 = .ok (.putfield 51, 3) := by decide +kernel
theorem dX11_init_105 : decode cX11_init 105 = .ok (.aload_n 0, 1) := by decide +kernel
theorem dX11_init_106 : decode cX11_init 106 = .ok (.iconst 3, 1) := by decide +kernel
theorem dX11_init_107 : decode cX11_init 107 = .ok (.newarray .int, 2) := by decide +kernel
theorem dX11_init_109 : decode cX11_init 109 = .ok (.putfield 55, 3) := by decide +kernel
theorem dX11_init_112 : decode cX11_init 112 = .ok (.return_, 1) := by decide +kernel
theorem dX11_hamlet_0 : decode cX11_hamlet 0 = .ok (.iload_n 1, 1) := by decide +kernel
theorem dX11_hamlet_1 : decode cX11_hamlet 1 = .ok (.bipush 100, 2) := by decide +kernel
theorem dX11_hamlet_3 : decode cX11_hamlet 3 = .ok (.invokestatic 59, 3) := by decide +kernel
theorem dX11_hamlet_6 : decode cX11_hamlet 6 = .ok (.ifCond .ne 10, 3) := by decide +kernel
theorem dX11_hamlet_9 : decode cX11_hamlet 9 = .ok (.aload_n 0, 1) := by decide +kernel
theorem dX11_hamlet_10 : decode cX11_hamlet 10 = .ok (.bipush (-2), 2) := by decide +kernel
theorem dX11_hamlet_12 : decode cX11_hamlet 12 = .ok (.invokevirtual 63, 3) := by decide +kernel
theorem dX11_hamlet_15 : decode cX11_hamlet 15 = .ok (.ireturn, 1) := by decide +kernel
theorem dX11_hamlet_16 : decode cX11_hamlet 16 = .ok (.aload_n 0, 1) := by decide +kernel
theorem dX11_hamlet_17 : decode cX11_hamlet 17 = .ok (.getfield 10, 3) := by decide +kernel
theorem dX11_hamlet_20 : decode cX11_hamlet 20 = .ok (.getfield 67, 3) := by decide +kernel
theorem dX11_hamlet_23 : decode cX11_hamlet 23 = .ok (.istore_n 2, 1) := by decide +kernel
theorem dX11_hamlet_24 : decode cX11_hamlet 24 = .ok (.aload_n 0, 1) := by decide +kernel
theorem dX11_hamlet_25 : decode cX11_hamlet 25 = .ok (.getfield 10, 3) := by decide +kernel
theorem dX11_hamlet_28 : decode cX11_hamlet 28 = .ok (.iload_n 1, 1) := by decide +kernel
theorem dX11_hamlet_29 : decode cX11_hamlet 29 = .ok (.invokevirtual 71, 3) := by decide +kernel
theorem dX11_hamlet_32 : decode cX11_hamlet 32 = .ok (.iload_n 2, 1) := by decide +kernel
theorem dX11_hamlet_33 : decode cX11_hamlet 33 = .ok (.ireturn, 1) := by decide +kernel
theorem dX11_one_0 : decode cX11_one 0 = .ok (.iload_n 1, 1) := by decide +kernel
theorem dX11_one_1 : decode cX11_one 1 = .ok (.bipush 6, 2) := by decide +kernel
theorem dX11_one_3 : decode cX11_one 3 = .ok (.invokestatic 59, 3) := by decide +kernel
theorem dX11_one_6 : decode cX11_one 6 = .ok (.ifCond .eq 12, 3) := by decide +kernel
theorem dX11_one_9 : decode cX11_one 9 = .ok (.iload_n 2, 1) := by decide +kernel
theorem dX11_one_10 : decode cX11_one 10 = .ok (.bipush 10, 2) := by decide +kernel
theorem dX11_one_12 : decode cX11_one 12 = .ok (.invokestatic 59, 3) := by decide +kernel
theorem dX11_one_15 : decode cX11_one 15 = .ok (.ifCond .ne 10, 3) := by decide +kernel
theorem dX11_one_18 : decode cX11_one 18 = .ok (.aload_n 0, 1) := by decide +kernel
theorem dX11_one_19 : decode cX11_one 19 = .ok (.bipush (-2), 2) := by decide +kernel
theorem dX11_one_21 : decode cX11_one 21 = .ok (.invokevirtual 63, 3) := by decide +kernel
theorem dX11_one_24 : decode cX11_one 24 = .ok (.ireturn, 1) := by decide +kernel
theorem dX11_one_25 : decode cX11_one 25 = .ok (.aload_n 0, 1) := by decide +kernel
theorem dX11_one_26 : decode cX11_one 26 = .ok (.getfield 10, 3) := by decide +kernel
theorem dX11_one_29 : decode cX11_one 29 = .ok (.getfield 67, 3) := by decide +kernel
theorem dX11_one_32 : decode cX11_one 32 = .ok (.bipush 7, 2) := by decide +kernel
theorem dX11_one_34 : decode cX11_one 34 = .ok (.if_icmp .lt 10, 3) := by decide +kernel
theorem dX11_one_37 : decode cX11_one 37 = .ok (.aload_n 0, 1) := by decide +kernel
theorem dX11_one_38 : decode cX11_one 38 = .ok (.bipush (-4), 2) := by decide +kernel
theorem dX11_one_40 : decode cX11_one 40 = .ok (.invokevirtual 63, 3) := by decide +kernel
theorem dX11_one_43 : decode cX11_one 43 = .ok (.ireturn, 1) := by decide +kernel
theorem dX11_one_44 : decode cX11_one 44 = .ok (.aload_n 0, 1) := by decide +kernel
theorem dX11_one_45 : decode cX11_one 45 = .ok (.getfield 10, 3) := by decide +kernel
theorem dX11_one_48 : decode cX11_one 48 = .ok (.iload_n 1, 1) := by decide +kernel
theorem dX11_one_49 : decode cX11_one 49 = .ok (.iload_n 2, 1) := by decide +kernel
theorem dX11_one_50 : decode cX11_one 50 = .ok (.invokevirtual 75, 3) := by decide +kernel
theorem dX11_one_53 : decode cX11_one 53 = .ok (.aload_n 0, 1) := by decide +kernel
theorem dX11_one_54 : decode cX11_one 54 = .ok (.getfield 10, 3) := by decide +kernel
theorem dX11_one_57 : decode cX11_one 57 = .ok (.getfield 67, 3) := by decide +kernel
theorem dX11_one_60 : decode cX11_one 60 = .ok (.iconst 1, 1) := by decide +kernel
theorem dX11_one_61 : decode cX11_one 61 = .ok (.isub, 1) := by decide +kernel
theorem dX11_one_62 : decode cX11_one 62 = .ok (.ireturn, 1) := by decide +kernel
theorem dX11_type_0 : decode cX11_type 0 = .ok (.iload_n 1, 1) := by decide +kernel
theorem dX11_type_1 : decode cX11_type 1 = .ok (.sipush 128, 3) := by decide +kernel
theorem dX11_type_4 : decode cX11_type 4 = .ok (.invokestatic 59, 3) := by decide +kernel
theorem dX11_type_7 : decode cX11_type 7 = .ok (.ifCond .ne 10, 3) := by decide +kernel
theorem dX11_type_10 : decode cX11_type 10 = .ok (.aload_n 0, 1) := by decide +kernel
theorem dX11_type_11 : decode cX11_type 11 = .ok (.bipush (-2), 2) := by decide +kernel
theorem dX11_type_13 : decode cX11_type 13 = .ok (.invokevirtual 63, 3) := by decide +kernel
theorem dX11_type_16 : decode cX11_type 16 = .ok (.ireturn, 1) := by decide +kernel
theorem dX11_type_17 : decode cX11_type 17 = .ok (.aload_n 0, 1) := by decide +kernel
theorem dX11_type_18 : decode cX11_type 18 = .ok (.getfield 30, 3) := by decide +kernel
theorem dX11_type_21 : decode cX11_type 21 = .ok (.getfield 79, 3) := by decide +kernel
theorem dX11_type_24 : decode cX11_type 24 = .ok (.sipush 150, 3) := by decide +kernel
theorem dX11_type_27 : decode cX11_type 27 = .ok (.if_icmp .lt 10, 3) := by decide +kernel
theorem dX11_type_30 : decode cX11_type 30 = .ok (.aload_n 0, 1) := by decide +kernel
theorem dX11_type_31 : decode cX11_type 31 = .ok (.bipush (-4), 2) := by decide +kernel
theorem dX11_type_33 : decode cX11_type 33 = .ok (.invokevirtual 63, 3) := by decide +kernel
theorem dX11_type_36 : decode cX11_type 36 = .ok (.ireturn, 1) := by decide +kernel
theorem dX11_type_37 : decode cX11_type 37 = .ok (.aload_n 0, 1) := by decide +kernel
theorem dX11_type_38 : decode cX11_type 38 = .ok (.getfield 30, 3) := by decide +kernel
theorem dX11_type_41 : decode cX11_type 41 = .ok (.iload_n 1, 1) := by decide +kernel
theorem dX11_type_42 : decode cX11_type 42 = .ok (.invokevirtual 82, 3) := by decide +kernel
theorem dX11_type_45 : decode cX11_type 45 = .ok (.aload_n 0, 1) := by decide +kernel
theorem dX11_type_46 : decode cX11_type 46 = .ok (.getfield 30, 3) := by decide +kernel
theorem dX11_type_49 : decode cX11_type 49 = .ok (.getfield 79, 3) := by decide +kernel
theorem dX11_type_52 : decode cX11_type 52 = .ok (.ireturn, 1) := by decide +kernel
theorem dX11_clear_0 : decode cX11_clear 0 = .ok (.aload_n 0, 1) := by decide +kernel
theorem dX11_clear_1 : decode cX11_clear 1 = .ok (.getfield 30, 3) := by decide +kernel
theorem dX11_clear_4 : decode cX11_clear 4 = .ok (.getfield 79, 3) := by decide +kernel
theorem dX11_clear_7 : decode cX11_clear 7 = .ok (.istore_n 1, 1) := by decide +kernel
theorem dX11_clear_8 : decode cX11_clear 8 = .ok (.aload_n 0, 1) := by decide +kernel
theorem dX11_clear_9 : decode cX11_clear 9 = .ok (.getfield 30, 3) := by decide +kernel
theorem dX11_clear_12 : decode cX11_clear 12 = .ok (.iconst 0, 1) := by decide +kernel
theorem dX11_clear_13 : decode cX11_clear 13 = .ok (.putfield 79, 3) := by decide +kernel
theorem dX11_clear_16 : decode cX11_clear 16 = .ok (.iload_n 1, 1) := by decide +kernel
theorem dX11_clear_17 : decode cX11_clear 17 = .ok (.ireturn, 1) := by decide +kernel
theorem dX11_read_0 : decode cX11_read 0 = .ok (.aload_n 0, 1) := by decide +kernel
theorem dX11_read_1 : decode cX11_read 1 = .ok (.getfield 30, 3) := by decide +kernel
theorem dX11_read_4 : decode cX11_read 4 = .ok (.aload_n 0, 1) := by decide +kernel
theorem dX11_read_5 : decode cX11_read 5 = .ok (.getfield 16, 3) := by decide +kernel
theorem dX11_read_8 : decode cX11_read 8 = .ok (.invokevirtual 85, 3) := by decide +kernel
theorem dX11_read_11 : decode cX11_read 11 = .ok (.istore_n 1, 1) := by decide +kernel
theorem dX11_read_12 : decode cX11_read 12 = .ok (.iload_n 1, 1) := by decide +kernel
theorem dX11_read_13 : decode cX11_read 13 = .ok (.ifCond .ge 14, 3) := by decide +kernel
theorem dX11_read_16 : decode cX11_read 16 = .ok (.bipush (-10), 2) := by decide +kernel
theorem dX11_read_18 : decode cX11_read 18 = .ok (.aload_n 0, 1) := by decide +kernel
theorem dX11_read_19 : decode cX11_read 19 = .ok (.getfield 30, 3) := by decide +kernel
theorem dX11_read_22 : decode cX11_read 22 = .ok (.getfield 89, 3) := by decide +kernel
theorem dX11_read_25 : decode cX11_read 25 = .ok (.isub, 1) := by decide +kernel
theorem dX11_read_26 : decode cX11_read 26 = .ok (.ireturn, 1) := by decide +kernel
theorem dX11_read_27 : decode cX11_read 27 = .ok (.aload_n 0, 1) := by decide +kernel
theorem dX11_read_28 : decode cX11_read 28 = .ok (.getfield 10, 3) := by decide +kernel
theorem dX11_read_31 : decode cX11_read 31 = .ok (.aload_n 0, 1) := by decide +kernel
theorem dX11_read_32 : decode cX11_read 32 = .ok (.getfield 16, 3) := by decide +kernel
theorem dX11_read_35 : decode cX11_read 35 = .ok (.invokevirtual 92, 3) := by decide +kernel
theorem dX11_read_38 : decode cX11_read 38 = .ok (.iload_n 1, 1) := by decide +kernel
theorem dX11_read_39 : decode cX11_read 39 = .ok (.ireturn, 1) := by decide +kernel
theorem dX11_call_0 : decode cX11_call 0 = .ok (.aload_n 0, 1) := by decide +kernel
theorem dX11_call_1 : decode cX11_call 1 = .ok (.iload_n 1, 1) := by decide +kernel
theorem dX11_call_2 : decode cX11_call 2 = .ok (.invokevirtual 96, 3) := by decide +kernel
theorem dX11_call_5 : decode cX11_call 5 = .ok (.ifCond .eq 12, 3) := by decide +kernel
theorem dX11_call_8 : decode cX11_call 8 = .ok (.iload_n 2, 1) := by decide +kernel
theorem dX11_call_9 : decode cX11_call 9 = .ok (.bipush 10, 2) := by decide +kernel
theorem dX11_call_11 : decode cX11_call 11 = .ok (.invokestatic 59, 3) := by decide +kernel
theorem dX11_call_14 : decode cX11_call 14 = .ok (.ifCond .ne 10, 3) := by decide +kernel
theorem dX11_call_17 : decode cX11_call 17 = .ok (.aload_n 0, 1) := by decide +kernel
theorem dX11_call_18 : decode cX11_call 18 = .ok (.bipush (-2), 2) := by decide +kernel
theorem dX11_call_20 : decode cX11_call 20 = .ok (.invokevirtual 63, 3) := by decide +kernel
theorem dX11_call_23 : decode cX11_call 23 = .ok (.ireturn, 1) := by decide +kernel
theorem dX11_call_24 : decode cX11_call 24 = .ok (.aload_n 0, 1) := by decide +kernel
theorem dX11_call_25 : decode cX11_call 25 = .ok (.iload_n 1, 1) := by decide +kernel
theorem dX11_call_26 : decode cX11_call 26 = .ok (.iload_n 2, 1) := by decide +kernel
theorem dX11_call_27 : decode cX11_call 27 = .ok (.invokevirtual 100, 3) := by decide +kernel
theorem dX11_call_30 : decode cX11_call 30 = .ok (.istore_n 3, 1) := by decide +kernel
theorem dX11_call_31 : decode cX11_call 31 = .ok (.aload_n 0, 1) := by decide +kernel
theorem dX11_call_32 : decode cX11_call 32 = .ok (.getfield 10, 3) := by decide +kernel
theorem dX11_call_35 : decode cX11_call 35 = .ok (.invokevirtual 104, 3) := by decide +kernel
theorem dX11_call_38 : decode cX11_call 38 = .ok (.aload_n 0, 1) := by decide +kernel
theorem dX11_call_39 : decode cX11_call 39 = .ok (.getfield 10, 3) := by decide +kernel
theorem dX11_call_42 : decode cX11_call 42 = .ok (.getfield 107, 3) := by decide +kernel
theorem dX11_call_45 : decode cX11_call 45 = .ok (.iload_n 1, 1) := by decide +kernel
theorem dX11_call_46 : decode cX11_call 46 = .ok (.iload_n 3, 1) := by decide +kernel
theorem dX11_call_47 : decode cX11_call 47 = .ok (.invokestatic 110, 3) := by decide +kernel
theorem dX11_call_50 : decode cX11_call 50 = .ok (.iload_n 3, 1) := by decide +kernel
theorem dX11_call_51 : decode cX11_call 51 = .ok (.ireturn, 1) := by decide +kernel
theorem dX11_goes_0 : decode cX11_goes 0 = .ok (.aload_n 0, 1) := by decide +kernel
theorem dX11_goes_1 : decode cX11_goes 1 = .ok (.iload_n 1, 1) := by decide +kernel
theorem dX11_goes_2 : decode cX11_goes 2 = .ok (.invokevirtual 96, 3) := by decide +kernel
theorem dX11_goes_5 : decode cX11_goes 5 = .ok (.ifCond .eq 12, 3) := by decide +kernel
theorem dX11_goes_8 : decode cX11_goes 8 = .ok (.iload_n 2, 1) := by decide +kernel
theorem dX11_goes_9 : decode cX11_goes 9 = .ok (.bipush 10, 2) := by decide +kernel
theorem dX11_goes_11 : decode cX11_goes 11 = .ok (.invokestatic 59, 3) := by decide +kernel
theorem dX11_goes_14 : decode cX11_goes 14 = .ok (.ifCond .ne 10, 3) := by decide +kernel
theorem dX11_goes_17 : decode cX11_goes 17 = .ok (.aload_n 0, 1) := by decide +kernel
theorem dX11_goes_18 : decode cX11_goes 18 = .ok (.bipush (-2), 2) := by decide +kernel
theorem dX11_goes_20 : decode cX11_goes 20 = .ok (.invokevirtual 63, 3) := by decide +kernel
theorem dX11_goes_23 : decode cX11_goes 23 = .ok (.ireturn, 1) := by decide +kernel
theorem dX11_goes_24 : decode cX11_goes 24 = .ok (.aload_n 0, 1) := by decide +kernel
theorem dX11_goes_25 : decode cX11_goes 25 = .ok (.getfield 10, 3) := by decide +kernel
theorem dX11_goes_28 : decode cX11_goes 28 = .ok (.getfield 114, 3) := by decide +kernel
theorem dX11_goes_31 : decode cX11_goes 31 = .ok (.iload_n 1, 1) := by decide +kernel
theorem dX11_goes_32 : decode cX11_goes 32 = .ok (.iaload, 1) := by decide +kernel
theorem dX11_goes_33 : decode cX11_goes 33 = .ok (.istore_n 3, 1) := by decide +kernel
theorem dX11_goes_34 : decode cX11_goes 34 = .ok (.aload_n 0, 1) := by decide +kernel
theorem dX11_goes_35 : decode cX11_goes 35 = .ok (.getfield 10, 3) := by decide +kernel
theorem dX11_goes_38 : decode cX11_goes 38 = .ok (.invokevirtual 104, 3) := by decide +kernel
theorem dX11_goes_41 : decode cX11_goes 41 = .ok (.aload_n 0, 1) := by decide +kernel
theorem dX11_goes_42 : decode cX11_goes 42 = .ok (.getfield 10, 3) := by decide +kernel
theorem dX11_goes_45 : decode cX11_goes 45 = .ok (.getfield 114, 3) := by decide +kernel
theorem dX11_goes_48 : decode cX11_goes 48 = .ok (.iload_n 1, 1) := by decide +kernel
theorem dX11_goes_49 : decode cX11_goes 49 = .ok (.iload_n 2, 1) := by decide +kernel
theorem dX11_goes_50 : decode cX11_goes 50 = .ok (.iastore, 1) := by decide +kernel
theorem dX11_goes_51 : decode cX11_goes 51 = .ok (.iload_n 3, 1) := by decide +kernel
theorem dX11_goes_52 : decode cX11_goes 52 = .ok (.ireturn, 1) := by decide +kernel
theorem dX11_day_0 : decode cX11_day 0 = .ok (.aload_n 0, 1) := by decide +kernel
theorem dX11_day_1 : decode cX11_day 1 = .ok (.getfield 10, 3) := by decide +kernel
theorem dX11_day_4 : decode cX11_day 4 = .ok (.invokevirtual 104, 3) := by decide +kernel
theorem dX11_day_7 : decode cX11_day 7 = .ok (.aload_n 0, 1) := by decide +kernel
theorem dX11_day_8 : decode cX11_day 8 = .ok (.getfield 10, 3) := by decide +kernel
theorem dX11_day_11 : decode cX11_day 11 = .ok (.dup, 1) := by decide +kernel
theorem dX11_day_12 : decode cX11_day 12 = .ok (.getfield 117, 3) := by decide +kernel
theorem dX11_day_15 : decode cX11_day 15 = .ok (.iconst 1, 1) := by decide +kernel
theorem dX11_day_16 : decode cX11_day 16 = .ok (.iadd, 1) := by decide +kernel
theorem dX11_day_17 : decode cX11_day 17 = .ok (.putfield 117, 3) := by decide +kernel
theorem dX11_day_20 : decode cX11_day 20 = .ok (.aload_n 0, 1) := by decide +kernel
theorem dX11_day_21 : decode cX11_day 21 = .ok (.getfield 10, 3) := by decide +kernel
theorem dX11_day_24 : decode cX11_day 24 = .ok (.getfield 117, 3) := by decide +kernel
theorem dX11_day_27 : decode cX11_day 27 = .ok (.ireturn, 1) := by decide +kernel
theorem dX11_undo_0 : decode cX11_undo 0 = .ok (.aload_n 0, 1) := by decide +kernel
theorem dX11_undo_1 : decode cX11_undo 1 = .ok (.getfield 10, 3) := by decide +kernel
theorem dX11_undo_4 : decode cX11_undo 4 = .ok (.getfield 120, 3) := by decide +kernel
theorem dX11_undo_7 : decode cX11_undo 7 = .ok (.ifCond .gt 10, 3) := by decide +kernel
theorem dX11_undo_10 : decode cX11_undo 10 = .ok (.aload_n 0, 1) := by decide +kernel
theorem dX11_undo_11 : decode cX11_undo 11 = .ok (.bipush (-3), 2) := by decide +kernel
theorem dX11_undo_13 : decode cX11_undo 13 = .ok (.invokevirtual 63, 3) := by decide +kernel
theorem dX11_undo_16 : decode cX11_undo 16 = .ok (.ireturn, 1) := by decide +kernel
theorem dX11_undo_17 : decode cX11_undo 17 = .ok (.aload_n 0, 1) := by decide +kernel
theorem dX11_undo_18 : decode cX11_undo 18 = .ok (.getfield 10, 3) := by decide +kernel
theorem dX11_undo_21 : decode cX11_undo 21 = .ok (.invokevirtual 123, 3) := by decide +kernel
theorem dX11_undo_24 : decode cX11_undo 24 = .ok (.aload_n 0, 1) := by decide +kernel
theorem dX11_undo_25 : decode cX11_undo 25 = .ok (.getfield 10, 3) := by decide +kernel
theorem dX11_undo_28 : decode cX11_undo 28 = .ok (.getfield 117, 3) := by decide +kernel
theorem dX11_undo_31 : decode cX11_undo 31 = .ok (.ireturn, 1) := by decide +kernel
theorem dX11_of_0 : decode cX11_of 0 = .ok (.aload_n 0, 1) := by decide +kernel
theorem dX11_of_1 : decode cX11_of 1 = .ok (.iload_n 1, 1) := by decide +kernel
theorem dX11_of_2 : decode cX11_of 2 = .ok (.invokevirtual 96, 3) := by decide +kernel
theorem dX11_of_5 : decode cX11_of 5 = .ok (.ifCond .eq 11, 3) := by decide +kernel
theorem dX11_of_8 : decode cX11_of 8 = .ok (.iload_n 2, 1) := by decide +kernel
theorem dX11_of_9 : decode cX11_of 9 = .ok (.iconst 3, 1) := by decide +kernel
theorem dX11_of_10 : decode cX11_of 10 = .ok (.invokestatic 59, 3) := by decide +kernel
theorem dX11_of_13 : decode cX11_of 13 = .ok (.ifCond .ne 13, 3) := by decide +kernel
theorem dX11_of_16 : decode cX11_of 16 = .ok (.aload_n 0, 1) := by decide +kernel
theorem dX11_of_17 : decode cX11_of 17 = .ok (.bipush (-2), 2) := by decide +kernel
theorem dX11_of_19 : decode cX11_of 19 = .ok (.invokevirtual 63, 3) := by decide +kernel
theorem dX11_of_22 : decode cX11_of 22 = .ok (.pop, 1) := by decide +kernel
theorem dX11_of_23 : decode cX11_of 23 = .ok (.bipush (-10), 2) := by decide +kernel
theorem dX11_of_25 : decode cX11_of 25 = .ok (.ireturn, 1) := by decide +kernel
theorem dX11_of_26 : decode cX11_of 26 = .ok (.iload_n 2, 1) := by decide +kernel
theorem dX11_of_27 : decode cX11_of 27 = .ok (.ifCond .ne 13, 3) := by decide +kernel
theorem dX11_of_30 : decode cX11_of 30 = .ok (.aload_n 0, 1) := by decide +kernel
theorem dX11_of_31 : decode cX11_of 31 = .ok (.getfield 10, 3) := by decide +kernel
theorem dX11_of_34 : decode cX11_of 34 = .ok (.getfield 126, 3) := by decide +kernel
theorem dX11_of_37 : decode cX11_of 37 = .ok (.iload_n 1, 1) := by decide +kernel
theorem dX11_of_38 : decode cX11_of 38 = .ok (.iaload, 1) := by decide +kernel
theorem dX11_of_39 : decode cX11_of 39 = .ok (.ireturn, 1) := by decide +kernel
theorem dX11_of_40 : decode cX11_of 40 = .ok (.iload_n 2, 1) := by decide +kernel
theorem dX11_of_41 : decode cX11_of 41 = .ok (.iconst 1, 1) := by decide +kernel
theorem dX11_of_42 : decode cX11_of 42 = .ok (.if_icmp .ne 15, 3) := by decide +kernel
theorem dX11_of_45 : decode cX11_of 45 = .ok (.aload_n 0, 1) := by decide +kernel
theorem dX11_of_46 : decode cX11_of 46 = .ok (.getfield 10, 3) := by decide +kernel
theorem dX11_of_49 : decode cX11_of 49 = .ok (.getfield 114, 3) := by decide +kernel
theorem dX11_of_52 : decode cX11_of 52 = .ok (.iload_n 1, 1) := by decide +kernel
theorem dX11_of_53 : decode cX11_of 53 = .ok (.iaload, 1) := by decide +kernel
theorem dX11_of_54 : decode cX11_of 54 = .ok (.goto 11, 3) := by decide +kernel
theorem dX11_of_57 : decode cX11_of 57 = .ok (.aload_n 0, 1) := by decide +kernel
theorem dX11_of_58 : decode cX11_of 58 = .ok (.getfield 10, 3) := by decide +kernel
theorem dX11_of_61 : decode cX11_of 61 = .ok (.iload_n 1, 1) := by decide +kernel
theorem dX11_of_62 : decode cX11_of 62 = .ok (.invokevirtual 129, 3) := by decide +kernel
theorem dX11_of_65 : decode cX11_of 65 = .ok (.ireturn, 1) := by decide +kernel
theorem dX11_turn_0 : decode cX11_turn 0 = .ok (.aload_n 0, 1) := by decide +kernel
theorem dX11_turn_1 : decode cX11_turn 1 = .ok (.iload_n 1, 1) := by decide +kernel
theorem dX11_turn_2 : decode cX11_turn 2 = .ok (.invokevirtual 96, 3) := by decide +kernel
theorem dX11_turn_5 : decode cX11_turn 5 = .ok (.ifCond .eq 12, 3) := by decide +kernel
theorem dX11_turn_8 : decode cX11_turn 8 = .ok (.iload_n 2, 1) := by decide +kernel
theorem dX11_turn_9 : decode cX11_turn 9 = .ok (.bipush 10, 2) := by decide +kernel
theorem dX11_turn_11 : decode cX11_turn 11 = .ok (.invokestatic 59, 3) := by decide +kernel
theorem dX11_turn_14 : decode cX11_turn 14 = .ok (.ifCond .ne 10, 3) := by decide +kernel
theorem dX11_turn_17 : decode cX11_turn 17 = .ok (.aload_n 0, 1) := by decide +kernel
theorem dX11_turn_18 : decode cX11_turn 18 = .ok (.bipush (-2), 2) := by decide +kernel
theorem dX11_turn_20 : decode cX11_turn 20 = .ok (.invokevirtual 63, 3) := by decide +kernel
theorem dX11_turn_23 : decode cX11_turn 23 = .ok (.ireturn, 1) := by decide +kernel
theorem dX11_turn_24 : decode cX11_turn 24 = .ok (.aload_n 0, 1) := by decide +kernel
theorem dX11_turn_25 : decode cX11_turn 25 = .ok (.iload_n 1, 1) := by decide +kernel
theorem dX11_turn_26 : decode cX11_turn 26 = .ok (.iload_n 2, 1) := by decide +kernel
theorem dX11_turn_27 : decode cX11_turn 27 = .ok (.invokevirtual 100, 3) := by decide +kernel
theorem dX11_turn_30 : decode cX11_turn 30 = .ok (.ireturn, 1) := by decide +kernel
theorem dX11_bearers_0 : decode cX11_bearers 0 = .ok (.aload_n 0, 1) := by decide +kernel
theorem dX11_bearers_1 : decode cX11_bearers 1 = .ok (.iload_n 1, 1) := by decide +kernel
theorem dX11_bearers_2 : decode cX11_bearers 2 = .ok (.invokevirtual 96, 3) := by decide +kernel
theorem dX11_bearers_5 : decode cX11_bearers 5 = .ok (.ifCond .eq 15, 3) := by decide +kernel
theorem dX11_bearers_8 : decode cX11_bearers 8 = .ok (.aload_n 0, 1) := by decide +kernel
theorem dX11_bearers_9 : decode cX11_bearers 9 = .ok (.getfield 10, 3) := by decide +kernel
theorem dX11_bearers_12 : decode cX11_bearers 12 = .ok (.getfield 107, 3) := by decide +kernel
theorem dX11_bearers_15 : decode cX11_bearers 15 = .ok (.iload_n 1, 1) := by decide +kernel
theorem dX11_bearers_16 : decode cX11_bearers 16 = .ok (.iaload, 1) := by decide +kernel
theorem dX11_bearers_17 : decode cX11_bearers 17 = .ok (.goto 9, 3) := by decide +kernel
theorem dX11_bearers_20 : decode cX11_bearers 20 = .ok (.aload_n 0, 1) := by decide +kernel
theorem dX11_bearers_21 : decode cX11_bearers 21 = .ok (.bipush (-2), 2) := by decide +kernel
theorem dX11_bearers_23 : decode cX11_bearers 23 = .ok (.invokevirtual 63, 3) := by decide +kernel
theorem dX11_bearers_26 : decode cX11_bearers 26 = .ok (.ireturn, 1) := by decide +kernel
theorem dX11_names_0 : decode cX11_names 0 = .ok (.iload_n 1, 1) := by decide +kernel
theorem dX11_names_1 : decode cX11_names 1 = .ok (.iconst 2, 1) := by decide +kernel
theorem dX11_names_2 : decode cX11_names 2 = .ok (.invokestatic 59, 3) := by decide +kernel
theorem dX11_names_5 : decode cX11_names 5 = .ok (.ifCond .ne 10, 3) := by decide +kernel
theorem dX11_names_8 : decode cX11_names 8 = .ok (.aload_n 0, 1) := by decide +kernel
theorem dX11_names_9 : decode cX11_names 9 = .ok (.bipush (-2), 2) := by decide +kernel
theorem dX11_names_11 : decode cX11_names 11 = .ok (.invokevirtual 63, 3) := by decide +kernel
theorem dX11_names_14 : decode cX11_names 14 = .ok (.ireturn, 1) := by decide +kernel
theorem dX11_names_15 : decode cX11_names 15 = .ok (.iconst 0, 1) := by decide +kernel
theorem dX11_names_16 : decode cX11_names 16 = .ok (.istore_n 2, 1) := by decide +kernel
theorem dX11_names_17 : decode cX11_names 17 = .ok (.iconst 0, 1) := by decide +kernel
theorem dX11_names_18 : decode cX11_names 18 = .ok (.istore_n 3, 1) := by decide +kernel
theorem dX11_names_19 : decode cX11_names 19 = .ok (.iload_n 3, 1) := by decide +kernel
theorem dX11_names_20 : decode cX11_names 20 = .ok (.aload_n 0, 1) := by decide +kernel
theorem dX11_names_21 : decode cX11_names 21 = .ok (.getfield 10, 3) := by decide +kernel
theorem dX11_names_24 : decode cX11_names 24 = .ok (.getfield 67, 3) := by decide +kernel
theorem dX11_names_27 : decode cX11_names 27 = .ok (.if_icmp .ge 47, 3) := by decide +kernel
theorem dX11_names_30 : decode cX11_names 30 = .ok (.aload_n 0, 1) := by decide +kernel
theorem dX11_names_31 : decode cX11_names 31 = .ok (.getfield 10, 3) := by decide +kernel
theorem dX11_names_34 : decode cX11_names 34 = .ok (.getfield 107, 3) := by decide +kernel
theorem dX11_names_37 : decode cX11_names 37 = .ok (.iload_n 3, 1) := by decide +kernel
theorem dX11_names_38 : decode cX11_names 38 = .ok (.iaload, 1) := by decide +kernel
theorem dX11_names_39 : decode cX11_names 39 = .ok (.invokestatic 132, 3) := by decide +kernel
theorem dX11_names_42 : decode cX11_names 42 = .ok (.istore 4, 2) := by decide +kernel
theorem dX11_names_44 : decode cX11_names 44 = .ok (.iload_n 1, 1) := by decide +kernel
theorem dX11_names_45 : decode cX11_names 45 = .ok (.ifCond .ne 11, 3) := by decide +kernel
theorem dX11_names_48 : decode cX11_names 48 = .ok (.iload 4, 2) := by decide +kernel
theorem dX11_names_50 : decode cX11_names 50 = .ok (.ifCond .ne 18, 3) := by decide +kernel
theorem dX11_names_53 : decode cX11_names 53 = .ok (.goto 9, 3) := by decide +kernel
theorem dX11_names_56 : decode cX11_names 56 = .ok (.iload 4, 2) := by decide +kernel
theorem dX11_names_58 : decode cX11_names 58 = .ok (.iconst 2, 1) := by decide +kernel
theorem dX11_names_59 : decode cX11_names 59 = .ok (.if_icmp .lt 9, 3) := by decide +kernel
theorem dX11_names_62 : decode cX11_names 62 = .ok (.iload_n 2, 1) := by decide +kernel
theorem dX11_names_63 : decode cX11_names 63 = .ok (.iconst 1, 1) := by decide +kernel
theorem dX11_names_64 : decode cX11_names 64 = .ok (.iload_n 3, 1) := by decide +kernel
theorem dX11_names_65 : decode cX11_names 65 = .ok (.ishl, 1) := by decide +kernel
theorem dX11_names_66 : decode cX11_names 66 = .ok (.ior, 1) := by decide +kernel
theorem dX11_names_67 : decode cX11_names 67 = .ok (.istore_n 2, 1) := by decide +kernel
theorem dX11_names_68 : decode cX11_names 68 = .ok (.iinc 3 1, 3) := by decide +kernel
theorem dX11_names_71 : decode cX11_names 71 = .ok (.goto (-52), 3) := by decide +kernel
theorem dX11_names_74 : decode cX11_names 74 = .ok (.iload_n 2, 1) := by decide +kernel
theorem dX11_names_75 : decode cX11_names 75 = .ok (.ireturn, 1) := by decide +kernel
theorem dX11_calls_0 : decode cX11_calls 0 = .ok (.aload_n 0, 1) := by decide +kernel
theorem dX11_calls_1 : decode cX11_calls 1 = .ok (.iload_n 1, 1) := by decide +kernel
theorem dX11_calls_2 : decode cX11_calls 2 = .ok (.invokevirtual 96, 3) := by decide +kernel
theorem dX11_calls_5 : decode cX11_calls 5 = .ok (.ifCond .eq 19, 3) := by decide +kernel
theorem dX11_calls_8 : decode cX11_calls 8 = .ok (.aload_n 0, 1) := by decide +kernel
theorem dX11_calls_9 : decode cX11_calls 9 = .ok (.iload_n 2, 1) := by decide +kernel
theorem dX11_calls_10 : decode cX11_calls 10 = .ok (.invokevirtual 96, 3) := by decide +kernel
theorem dX11_calls_13 : decode cX11_calls 13 = .ok (.ifCond .eq 11, 3) := by decide +kernel
theorem dX11_calls_16 : decode cX11_calls 16 = .ok (.iload_n 3, 1) := by decide +kernel
theorem dX11_calls_17 : decode cX11_calls 17 = .ok (.iconst 2, 1) := by decide +kernel
theorem dX11_calls_18 : decode cX11_calls 18 = .ok (.invokestatic 59, 3) := by decide +kernel
theorem dX11_calls_21 : decode cX11_calls 21 = .ok (.ifCond .ne 10, 3) := by decide +kernel
theorem dX11_calls_24 : decode cX11_calls 24 = .ok (.aload_n 0, 1) := by decide +kernel
theorem dX11_calls_25 : decode cX11_calls 25 = .ok (.bipush (-2), 2) := by decide +kernel
theorem dX11_calls_27 : decode cX11_calls 27 = .ok (.invokevirtual 63, 3) := by decide +kernel
theorem dX11_calls_30 : decode cX11_calls 30 = .ok (.ireturn, 1) := by decide +kernel
theorem dX11_calls_31 : decode cX11_calls 31 = .ok (.aload_n 0, 1) := by decide +kernel
theorem dX11_calls_32 : decode cX11_calls 32 = .ok (.getfield 44, 3) := by decide +kernel
theorem dX11_calls_35 : decode cX11_calls 35 = .ok (.aload_n 0, 1) := by decide +kernel
theorem dX11_calls_36 : decode cX11_calls 36 = .ok (.getfield 10, 3) := by decide +kernel
theorem dX11_calls_39 : decode cX11_calls 39 = .ok (.invokevirtual 137, 3) := by decide +kernel
theorem dX11_calls_42 : decode cX11_calls 42 = .ok (.aload_n 0, 1) := by decide +kernel
theorem dX11_calls_43 : decode cX11_calls 43 = .ok (.getfield 51, 3) := by decide +kernel
theorem dX11_calls_46 : decode cX11_calls 46 = .ok (.aload_n 0, 1) := by decide +kernel
theorem dX11_calls_47 : decode cX11_calls 47 = .ok (.getfield 10, 3) := by decide +kernel
theorem dX11_calls_50 : decode cX11_calls 50 = .ok (.aload_n 0, 1) := by decide +kernel
theorem dX11_calls_51 : decode cX11_calls 51 = .ok (.getfield 44, 3) := by decide +kernel
theorem dX11_calls_54 : decode cX11_calls 54 = .ok (.iload_n 1, 1) := by decide +kernel
theorem dX11_calls_55 : decode cX11_calls 55 = .ok (.iload_n 2, 1) := by decide +kernel
theorem dX11_calls_56 : decode cX11_calls 56 = .ok (.invokevirtual 140, 3) := by decide +kernel
theorem dX11_calls_59 : decode cX11_calls 59 = .ok (.iload_n 3, 1) := by decide +kernel
theorem dX11_calls_60 : decode cX11_calls 60 = .ok (.ifCond .ne 13, 3) := by decide +kernel
theorem dX11_calls_63 : decode cX11_calls 63 = .ok (.aload_n 0, 1) := by decide +kernel
theorem dX11_calls_64 : decode cX11_calls 64 = .ok (.getfield 51, 3) := by decide +kernel
theorem dX11_calls_67 : decode cX11_calls 67 = .ok (.getfield 144, 3) := by decide +kernel
theorem dX11_calls_70 : decode cX11_calls 70 = .ok (.goto 10, 3) := by decide +kernel
theorem dX11_calls_73 : decode cX11_calls 73 = .ok (.aload_n 0, 1) := by decide +kernel
theorem dX11_calls_74 : decode cX11_calls 74 = .ok (.getfield 51, 3) := by decide +kernel
theorem dX11_calls_77 : decode cX11_calls 77 = .ok (.getfield 147, 3) := by decide +kernel
theorem dX11_calls_80 : decode cX11_calls 80 = .ok (.ireturn, 1) := by decide +kernel
theorem dX11_own_0 : decode cX11_own 0 = .ok (.iload_n 1, 1) := by decide +kernel
theorem dX11_own_1 : decode cX11_own 1 = .ok (.iconst 3, 1) := by decide +kernel
theorem dX11_own_2 : decode cX11_own 2 = .ok (.invokestatic 59, 3) := by decide +kernel
theorem dX11_own_5 : decode cX11_own 5 = .ok (.ifCond .ne 10, 3) := by decide +kernel
theorem dX11_own_8 : decode cX11_own 8 = .ok (.aload_n 0, 1) := by decide +kernel
theorem dX11_own_9 : decode cX11_own 9 = .ok (.bipush (-2), 2) := by decide +kernel
theorem dX11_own_11 : decode cX11_own 11 = .ok (.invokevirtual 63, 3) := by decide +kernel
theorem dX11_own_14 : decode cX11_own 14 = .ok (.ireturn, 1) := by decide +kernel
theorem dX11_own_15 : decode cX11_own 15 = .ok (.aload_n 0, 1) := by decide +kernel
theorem dX11_own_16 : decode cX11_own 16 = .ok (.getfield 44, 3) := by decide +kernel
theorem dX11_own_19 : decode cX11_own 19 = .ok (.aload_n 0, 1) := by decide +kernel
theorem dX11_own_20 : decode cX11_own 20 = .ok (.getfield 10, 3) := by decide +kernel
theorem dX11_own_23 : decode cX11_own 23 = .ok (.invokevirtual 137, 3) := by decide +kernel
theorem dX11_own_26 : decode cX11_own 26 = .ok (.aload_n 0, 1) := by decide +kernel
theorem dX11_own_27 : decode cX11_own 27 = .ok (.getfield 51, 3) := by decide +kernel
theorem dX11_own_30 : decode cX11_own 30 = .ok (.aload_n 0, 1) := by decide +kernel
theorem dX11_own_31 : decode cX11_own 31 = .ok (.getfield 10, 3) := by decide +kernel
theorem dX11_own_34 : decode cX11_own 34 = .ok (.aload_n 0, 1) := by decide +kernel
theorem dX11_own_35 : decode cX11_own 35 = .ok (.getfield 44, 3) := by decide +kernel
theorem dX11_own_38 : decode cX11_own 38 = .ok (.invokevirtual 150, 3) := by decide +kernel
theorem dX11_own_41 : decode cX11_own 41 = .ok (.iload_n 1, 1) := by decide +kernel
theorem dX11_own_42 : decode cX11_own 42 = .ok (.ifCond .ne 11, 3) := by decide +kernel
theorem dX11_own_45 : decode cX11_own 45 = .ok (.aload_n 0, 1) := by decide +kernel
theorem dX11_own_46 : decode cX11_own 46 = .ok (.getfield 51, 3) := by decide +kernel
theorem dX11_own_49 : decode cX11_own 49 = .ok (.getfield 144, 3) := by decide +kernel
theorem dX11_own_52 : decode cX11_own 52 = .ok (.ireturn, 1) := by decide +kernel
theorem dX11_own_53 : decode cX11_own 53 = .ok (.iload_n 1, 1) := by decide +kernel
theorem dX11_own_54 : decode cX11_own 54 = .ok (.iconst 1, 1) := by decide +kernel
theorem dX11_own_55 : decode cX11_own 55 = .ok (.if_icmp .ne 13, 3) := by decide +kernel
theorem dX11_own_58 : decode cX11_own 58 = .ok (.aload_n 0, 1) := by decide +kernel
theorem dX11_own_59 : decode cX11_own 59 = .ok (.getfield 51, 3) := by decide +kernel
theorem dX11_own_62 : decode cX11_own 62 = .ok (.getfield 154, 3) := by decide +kernel
theorem dX11_own_65 : decode cX11_own 65 = .ok (.goto 10, 3) := by decide +kernel
theorem dX11_own_68 : decode cX11_own 68 = .ok (.aload_n 0, 1) := by decide +kernel
theorem dX11_own_69 : decode cX11_own 69 = .ok (.getfield 51, 3) := by decide +kernel
theorem dX11_own_72 : decode cX11_own 72 = .ok (.getfield 147, 3) := by decide +kernel
theorem dX11_own_75 : decode cX11_own 75 = .ok (.ireturn, 1) := by decide +kernel
theorem dX11_ring_0 : decode cX11_ring 0 = .ok (.aload_n 0, 1) := by decide +kernel
theorem dX11_ring_1 : decode cX11_ring 1 = .ok (.iload_n 1, 1) := by decide +kernel
theorem dX11_ring_2 : decode cX11_ring 2 = .ok (.invokevirtual 96, 3) := by decide +kernel
theorem dX11_ring_5 : decode cX11_ring 5 = .ok (.ifCond .ne 10, 3) := by decide +kernel
theorem dX11_ring_8 : decode cX11_ring 8 = .ok (.aload_n 0, 1) := by decide +kernel
theorem dX11_ring_9 : decode cX11_ring 9 = .ok (.bipush (-2), 2) := by decide +kernel
theorem dX11_ring_11 : decode cX11_ring 11 = .ok (.invokevirtual 63, 3) := by decide +kernel
theorem dX11_ring_14 : decode cX11_ring 14 = .ok (.ireturn, 1) := by decide +kernel
theorem dX11_ring_15 : decode cX11_ring 15 = .ok (.iload_n 1, 1) := by decide +kernel
theorem dX11_ring_16 : decode cX11_ring 16 = .ok (.istore_n 2, 1) := by decide +kernel
theorem dX11_ring_17 : decode cX11_ring 17 = .ok (.iconst 1, 1) := by decide +kernel
theorem dX11_ring_18 : decode cX11_ring 18 = .ok (.istore_n 3, 1) := by decide +kernel
theorem dX11_ring_19 : decode cX11_ring 19 = .ok (.iload_n 3, 1) := by decide +kernel
theorem dX11_ring_20 : decode cX11_ring 20 = .ok (.aload_n 0, 1) := by decide +kernel
theorem dX11_ring_21 : decode cX11_ring 21 = .ok (.getfield 10, 3) := by decide +kernel
theorem dX11_ring_24 : decode cX11_ring 24 = .ok (.getfield 67, 3) := by decide +kernel
theorem dX11_ring_27 : decode cX11_ring 27 = .ok (.if_icmp .gt 32, 3) := by decide +kernel
theorem dX11_ring_30 : decode cX11_ring 30 = .ok (.aload_n 0, 1) := by decide +kernel
theorem dX11_ring_31 : decode cX11_ring 31 = .ok (.getfield 10, 3) := by decide +kernel
theorem dX11_ring_34 : decode cX11_ring 34 = .ok (.iload_n 2, 1) := by decide +kernel
theorem dX11_ring_35 : decode cX11_ring 35 = .ok (.invokevirtual 129, 3) := by decide +kernel
theorem dX11_ring_38 : decode cX11_ring 38 = .ok (.istore_n 2, 1) := by decide +kernel
theorem dX11_ring_39 : decode cX11_ring 39 = .ok (.iload_n 2, 1) := by decide +kernel
theorem dX11_ring_40 : decode cX11_ring 40 = .ok (.iload_n 1, 1) := by decide +kernel
theorem dX11_ring_41 : decode cX11_ring 41 = .ok (.if_icmp .ne 5, 3) := by decide +kernel
theorem dX11_ring_44 : decode cX11_ring 44 = .ok (.iload_n 3, 1) := by decide +kernel
theorem dX11_ring_45 : decode cX11_ring 45 = .ok (.ireturn, 1) := by decide +kernel
theorem dX11_ring_46 : decode cX11_ring 46 = .ok (.iload_n 2, 1) := by decide +kernel
theorem dX11_ring_47 : decode cX11_ring 47 = .ok (.iconst (-1), 1) := by decide +kernel
theorem dX11_ring_48 : decode cX11_ring 48 = .ok (.if_icmp .ne 5, 3) := by decide +kernel
theorem dX11_ring_51 : decode cX11_ring 51 = .ok (.iconst 0, 1) := by decide +kernel
theorem dX11_ring_52 : decode cX11_ring 52 = .ok (.ireturn, 1) := by decide +kernel
theorem dX11_ring_53 : decode cX11_ring 53 = .ok (.iinc 3 1, 3) := by decide +kernel
theorem dX11_ring_56 : decode cX11_ring 56 = .ok (.goto (-37), 3) := by decide +kernel
theorem dX11_ring_59 : decode cX11_ring 59 = .ok (.iconst 0, 1) := by decide +kernel
theorem dX11_ring_60 : decode cX11_ring 60 = .ok (.ireturn, 1) := by decide +kernel
theorem dX11_deed_0 : decode cX11_deed 0 = .ok (.aload_n 0, 1) := by decide +kernel
theorem dX11_deed_1 : decode cX11_deed 1 = .ok (.iload_n 1, 1) := by decide +kernel
theorem dX11_deed_2 : decode cX11_deed 2 = .ok (.invokevirtual 96, 3) := by decide +kernel
theorem dX11_deed_5 : decode cX11_deed 5 = .ok (.ifCond .eq 14, 3) := by decide +kernel
theorem dX11_deed_8 : decode cX11_deed 8 = .ok (.iload_n 2, 1) := by decide +kernel
theorem dX11_deed_9 : decode cX11_deed 9 = .ok (.iconst 1, 1) := by decide +kernel
theorem dX11_deed_10 : decode cX11_deed 10 = .ok (.if_icmp .lt 9, 3) := by decide +kernel
theorem dX11_deed_13 : decode cX11_deed 13 = .ok (.iload_n 2, 1) := by decide +kernel
theorem dX11_deed_14 : decode cX11_deed 14 = .ok (.bipush 60, 2) := by decide +kernel
theorem dX11_deed_16 : decode cX11_deed 16 = .ok (.if_icmp .le 10, 3) := by decide +kernel
theorem dX11_deed_19 : decode cX11_deed 19 = .ok (.aload_n 0, 1) := by decide +kernel
theorem dX11_deed_20 : decode cX11_deed 20 = .ok (.bipush (-2), 2) := by decide +kernel
theorem dX11_deed_22 : decode cX11_deed 22 = .ok (.invokevirtual 63, 3) := by decide +kernel
theorem dX11_deed_25 : decode cX11_deed 25 = .ok (.ireturn, 1) := by decide +kernel
theorem dX11_deed_26 : decode cX11_deed 26 = .ok (.aload_n 0, 1) := by decide +kernel
theorem dX11_deed_27 : decode cX11_deed 27 = .ok (.getfield 10, 3) := by decide +kernel
theorem dX11_deed_30 : decode cX11_deed 30 = .ok (.getfield 157, 3) := by decide +kernel
theorem dX11_deed_33 : decode cX11_deed 33 = .ok (.bipush 6, 2) := by decide +kernel
theorem dX11_deed_35 : decode cX11_deed 35 = .ok (.if_icmp .lt 10, 3) := by decide +kernel
theorem dX11_deed_38 : decode cX11_deed 38 = .ok (.aload_n 0, 1) := by decide +kernel
theorem dX11_deed_39 : decode cX11_deed 39 = .ok (.bipush (-4), 2) := by decide +kernel
theorem dX11_deed_41 : decode cX11_deed 41 = .ok (.invokevirtual 63, 3) := by decide +kernel
theorem dX11_deed_44 : decode cX11_deed 44 = .ok (.ireturn, 1) := by decide +kernel
theorem dX11_deed_45 : decode cX11_deed 45 = .ok (.aload_n 0, 1) := by decide +kernel
theorem dX11_deed_46 : decode cX11_deed 46 = .ok (.getfield 10, 3) := by decide +kernel
theorem dX11_deed_49 : decode cX11_deed 49 = .ok (.getfield 160, 3) := by decide +kernel
theorem dX11_deed_52 : decode cX11_deed 52 = .ok (.aload_n 0, 1) := by decide +kernel
theorem dX11_deed_53 : decode cX11_deed 53 = .ok (.getfield 10, 3) := by decide +kernel
theorem dX11_deed_56 : decode cX11_deed 56 = .ok (.getfield 157, 3) := by decide +kernel
theorem dX11_deed_59 : decode cX11_deed 59 = .ok (.iload_n 1, 1) := by decide +kernel
theorem dX11_deed_60 : decode cX11_deed 60 = .ok (.iastore, 1) := by decide +kernel
theorem dX11_deed_61 : decode cX11_deed 61 = .ok (.aload_n 0, 1) := by decide +kernel
theorem dX11_deed_62 : decode cX11_deed 62 = .ok (.getfield 10, 3) := by decide +kernel
theorem dX11_deed_65 : decode cX11_deed 65 = .ok (.getfield 163, 3) := by decide +kernel
theorem dX11_deed_68 : decode cX11_deed 68 = .ok (.aload_n 0, 1) := by decide +kernel
theorem dX11_deed_69 : decode cX11_deed 69 = .ok (.getfield 10, 3) := by decide +kernel
theorem dX11_deed_72 : decode cX11_deed 72 = .ok (.getfield 157, 3) := by decide +kernel
theorem dX11_deed_75 : decode cX11_deed 75 = .ok (.iload_n 2, 1) := by decide +kernel
theorem dX11_deed_76 : decode cX11_deed 76 = .ok (.iastore, 1) := by decide +kernel
theorem dX11_deed_77 : decode cX11_deed 77 = .ok (.aload_n 0, 1) := by decide +kernel
theorem dX11_deed_78 : decode cX11_deed 78 = .ok (.getfield 10, 3) := by decide +kernel
theorem dX11_deed_81 : decode cX11_deed 81 = .ok (.dup, 1) := by decide +kernel
theorem dX11_deed_82 : decode cX11_deed 82 = .ok (.getfield 157, 3) := by decide +kernel
theorem dX11_deed_85 : decode cX11_deed 85 = .ok (.iconst 1, 1) := by decide +kernel
theorem dX11_deed_86 : decode cX11_deed 86 = .ok (.iadd, 1) := by decide +kernel
theorem dX11_deed_87 : decode cX11_deed 87 = .ok (.putfield 157, 3) := by decide +kernel
theorem dX11_deed_90 : decode cX11_deed 90 = .ok (.aload_n 0, 1) := by decide +kernel
theorem dX11_deed_91 : decode cX11_deed 91 = .ok (.getfield 10, 3) := by decide +kernel
theorem dX11_deed_94 : decode cX11_deed 94 = .ok (.getfield 157, 3) := by decide +kernel
theorem dX11_deed_97 : decode cX11_deed 97 = .ok (.ireturn, 1) := by decide +kernel
theorem dX11_owes_0 : decode cX11_owes 0 = .ok (.aload_n 0, 1) := by decide +kernel
theorem dX11_owes_1 : decode cX11_owes 1 = .ok (.iload_n 1, 1) := by decide +kernel
theorem dX11_owes_2 : decode cX11_owes 2 = .ok (.invokevirtual 96, 3) := by decide +kernel
theorem dX11_owes_5 : decode cX11_owes 5 = .ok (.ifCond .ne 10, 3) := by decide +kernel
theorem dX11_owes_8 : decode cX11_owes 8 = .ok (.aload_n 0, 1) := by decide +kernel
theorem dX11_owes_9 : decode cX11_owes 9 = .ok (.bipush (-2), 2) := by decide +kernel
theorem dX11_owes_11 : decode cX11_owes 11 = .ok (.invokevirtual 63, 3) := by decide +kernel
theorem dX11_owes_14 : decode cX11_owes 14 = .ok (.ireturn, 1) := by decide +kernel
theorem dX11_owes_15 : decode cX11_owes 15 = .ok (.aload_n 0, 1) := by decide +kernel
theorem dX11_owes_16 : decode cX11_owes 16 = .ok (.getfield 10, 3) := by decide +kernel
theorem dX11_owes_19 : decode cX11_owes 19 = .ok (.iload_n 1, 1) := by decide +kernel
theorem dX11_owes_20 : decode cX11_owes 20 = .ok (.invokevirtual 129, 3) := by decide +kernel
theorem dX11_owes_23 : decode cX11_owes 23 = .ok (.istore_n 2, 1) := by decide +kernel
theorem dX11_owes_24 : decode cX11_owes 24 = .ok (.iload_n 2, 1) := by decide +kernel
theorem dX11_owes_25 : decode cX11_owes 25 = .ok (.iconst (-1), 1) := by decide +kernel
theorem dX11_owes_26 : decode cX11_owes 26 = .ok (.if_icmp .ne 15, 3) := by decide +kernel
theorem dX11_owes_29 : decode cX11_owes 29 = .ok (.aload_n 0, 1) := by decide +kernel
theorem dX11_owes_30 : decode cX11_owes 30 = .ok (.getfield 37, 3) := by decide +kernel
theorem dX11_owes_33 : decode cX11_owes 33 = .ok (.lconst 0, 1) := by decide +kernel
theorem dX11_owes_34 : decode cX11_owes 34 = .ok (.lconst 1, 1) := by decide +kernel
theorem dX11_owes_35 : decode cX11_owes 35 = .ok (.invokevirtual 166, 3) := by decide +kernel
theorem dX11_owes_38 : decode cX11_owes 38 = .ok (.goto 32, 3) := by decide +kernel
theorem dX11_owes_41 : decode cX11_owes 41 = .ok (.aload_n 0, 1) := by decide +kernel
theorem dX11_owes_42 : decode cX11_owes 42 = .ok (.getfield 37, 3) := by decide +kernel
theorem dX11_owes_45 : decode cX11_owes 45 = .ok (.aload_n 0, 1) := by decide +kernel
theorem dX11_owes_46 : decode cX11_owes 46 = .ok (.getfield 10, 3) := by decide +kernel
theorem dX11_owes_49 : decode cX11_owes 49 = .ok (.iload_n 2, 1) := by decide +kernel
theorem dX11_owes_50 : decode cX11_owes 50 = .ok (.invokevirtual 170, 3) := by decide +kernel
theorem dX11_owes_53 : decode cX11_owes 53 = .ok (.i2l, 1) := by decide +kernel
theorem dX11_owes_54 : decode cX11_owes 54 = .ok (.aload_n 0, 1) := by decide +kernel
theorem dX11_owes_55 : decode cX11_owes 55 = .ok (.getfield 10, 3) := by decide +kernel
theorem dX11_owes_58 : decode cX11_owes 58 = .ok (.getfield 107, 3) := by decide +kernel
theorem dX11_owes_61 : decode cX11_owes 61 = .ok (.iload_n 2, 1) := by decide +kernel
theorem dX11_owes_62 : decode cX11_owes 62 = .ok (.iaload, 1) := by decide +kernel
theorem dX11_owes_63 : decode cX11_owes 63 = .ok (.invokestatic 132, 3) := by decide +kernel
theorem dX11_owes_66 : decode cX11_owes 66 = .ok (.i2l, 1) := by decide +kernel
theorem dX11_owes_67 : decode cX11_owes 67 = .ok (.invokevirtual 166, 3) := by decide +kernel
theorem dX11_owes_70 : decode cX11_owes 70 = .ok (.iconst 1, 1) := by decide +kernel
theorem dX11_owes_71 : decode cX11_owes 71 = .ok (.ireturn, 1) := by decide +kernel
theorem dX11_unpaid_0 : decode cX11_unpaid 0 = .ok (.iconst 0, 1) := by decide +kernel
theorem dX11_unpaid_1 : decode cX11_unpaid 1 = .ok (.istore_n 1, 1) := by decide +kernel
theorem dX11_unpaid_2 : decode cX11_unpaid 2 = .ok (.iconst 0, 1) := by decide +kernel
theorem dX11_unpaid_3 : decode cX11_unpaid 3 = .ok (.istore_n 2, 1) := by decide +kernel
theorem dX11_unpaid_4 : decode cX11_unpaid 4 = .ok (.iload_n 2, 1) := by decide +kernel
theorem dX11_unpaid_5 : decode cX11_unpaid 5 = .ok (.aload_n 0, 1) := by decide +kernel
theorem dX11_unpaid_6 : decode cX11_unpaid 6 = .ok (.getfield 10, 3) := by decide +kernel
theorem dX11_unpaid_9 : decode cX11_unpaid 9 = .ok (.getfield 67, 3) := by decide +kernel
theorem dX11_unpaid_12 : decode cX11_unpaid 12 = .ok (.if_icmp .ge 32, 3) := by decide +kernel
theorem dX11_unpaid_15 : decode cX11_unpaid 15 = .ok (.aload_n 0, 1) := by decide +kernel
theorem dX11_unpaid_16 : decode cX11_unpaid 16 = .ok (.getfield 10, 3) := by decide +kernel
theorem dX11_unpaid_19 : decode cX11_unpaid 19 = .ok (.getfield 107, 3) := by decide +kernel
theorem dX11_unpaid_22 : decode cX11_unpaid 22 = .ok (.iload_n 2, 1) := by decide +kernel
theorem dX11_unpaid_23 : decode cX11_unpaid 23 = .ok (.iaload, 1) := by decide +kernel
theorem dX11_unpaid_24 : decode cX11_unpaid 24 = .ok (.ifCond .ne 14, 3) := by decide +kernel
theorem dX11_unpaid_27 : decode cX11_unpaid 27 = .ok (.iload_n 1, 1) := by decide +kernel
theorem dX11_unpaid_28 : decode cX11_unpaid 28 = .ok (.aload_n 0, 1) := by decide +kernel
theorem dX11_unpaid_29 : decode cX11_unpaid 29 = .ok (.getfield 10, 3) := by decide +kernel
theorem dX11_unpaid_32 : decode cX11_unpaid 32 = .ok (.iload_n 2, 1) := by decide +kernel
theorem dX11_unpaid_33 : decode cX11_unpaid 33 = .ok (.invokevirtual 170, 3) := by decide +kernel
theorem dX11_unpaid_36 : decode cX11_unpaid 36 = .ok (.iadd, 1) := by decide +kernel
theorem dX11_unpaid_37 : decode cX11_unpaid 37 = .ok (.istore_n 1, 1) := by decide +kernel
theorem dX11_unpaid_38 : decode cX11_unpaid 38 = .ok (.iinc 2 1, 3) := by decide +kernel
theorem dX11_unpaid_41 : decode cX11_unpaid 41 = .ok (.goto (-37), 3) := by decide +kernel
theorem dX11_unpaid_44 : decode cX11_unpaid 44 = .ok (.iload_n 1, 1) := by decide +kernel
theorem dX11_unpaid_45 : decode cX11_unpaid 45 = .ok (.ireturn, 1) := by decide +kernel
theorem dX11_ears_0 : decode cX11_ears 0 = .ok (.aload_n 0, 1) := by decide +kernel
theorem dX11_ears_1 : decode cX11_ears 1 = .ok (.iload_n 1, 1) := by decide +kernel
theorem dX11_ears_2 : decode cX11_ears 2 = .ok (.invokevirtual 96, 3) := by decide +kernel
theorem dX11_ears_5 : decode cX11_ears 5 = .ok (.ifCond .eq 34, 3) := by decide +kernel
theorem dX11_ears_8 : decode cX11_ears 8 = .ok (.aload_n 0, 1) := by decide +kernel
theorem dX11_ears_9 : decode cX11_ears 9 = .ok (.iload_n 2, 1) := by decide +kernel
theorem dX11_ears_10 : decode cX11_ears 10 = .ok (.invokevirtual 96, 3) := by decide +kernel
theorem dX11_ears_13 : decode cX11_ears 13 = .ok (.ifCond .eq 26, 3) := by decide +kernel
theorem dX11_ears_16 : decode cX11_ears 16 = .ok (.iload_n 1, 1) := by decide +kernel
theorem dX11_ears_17 : decode cX11_ears 17 = .ok (.iload_n 2, 1) := by decide +kernel
theorem dX11_ears_18 : decode cX11_ears 18 = .ok (.if_icmp .eq 21, 3) := by decide +kernel
theorem dX11_ears_21 : decode cX11_ears 21 = .ok (.aload_n 0, 1) := by decide +kernel
theorem dX11_ears_22 : decode cX11_ears 22 = .ok (.iload_n 3, 1) := by decide +kernel
theorem dX11_ears_23 : decode cX11_ears 23 = .ok (.invokevirtual 96, 3) := by decide +kernel
theorem dX11_ears_26 : decode cX11_ears 26 = .ok (.ifCond .eq 13, 3) := by decide +kernel
theorem dX11_ears_29 : decode cX11_ears 29 = .ok (.iload 4, 2) := by decide +kernel
theorem dX11_ears_31 : decode cX11_ears 31 = .ok (.bipush 10, 2) := by decide +kernel
theorem dX11_ears_33 : decode cX11_ears 33 = .ok (.invokestatic 59, 3) := by decide +kernel
theorem dX11_ears_36 : decode cX11_ears 36 = .ok (.ifCond .ne 10, 3) := by decide +kernel
theorem dX11_ears_39 : decode cX11_ears 39 = .ok (.aload_n 0, 1) := by decide +kernel
theorem dX11_ears_40 : decode cX11_ears 40 = .ok (.bipush (-2), 2) := by decide +kernel
theorem dX11_ears_42 : decode cX11_ears 42 = .ok (.invokevirtual 63, 3) := by decide +kernel
theorem dX11_ears_45 : decode cX11_ears 45 = .ok (.ireturn, 1) := by decide +kernel
theorem dX11_ears_46 : decode cX11_ears 46 = .ok (.aload_n 0, 1) := by decide +kernel
theorem dX11_ears_47 : decode cX11_ears 47 = .ok (.iload_n 3, 1) := by decide +kernel
theorem dX11_ears_48 : decode cX11_ears 48 = .ok (.iload 4, 2) := by decide +kernel
theorem dX11_ears_50 : decode cX11_ears 50 = .ok (.invokevirtual 100, 3) := by decide +kernel
theorem dX11_ears_53 : decode cX11_ears 53 = .ok (.istore 5, 2) := by decide +kernel
theorem dX11_ears_55 : decode cX11_ears 55 = .ok (.aload_n 0, 1) := by decide +kernel
theorem dX11_ears_56 : decode cX11_ears 56 = .ok (.getfield 10, 3) := by decide +kernel
theorem dX11_ears_59 : decode cX11_ears 59 = .ok (.getfield 107, 3) := by decide +kernel
theorem dX11_ears_62 : decode cX11_ears 62 = .ok (.iload_n 3, 1) := by decide +kernel
theorem dX11_ears_63 : decode cX11_ears 63 = .ok (.iaload, 1) := by decide +kernel
theorem dX11_ears_64 : decode cX11_ears 64 = .ok (.istore 6, 2) := by decide +kernel
theorem dX11_ears_66 : decode cX11_ears 66 = .ok (.iconst 0, 1) := by decide +kernel
theorem dX11_ears_67 : decode cX11_ears 67 = .ok (.istore 7, 2) := by decide +kernel
theorem dX11_ears_69 : decode cX11_ears 69 = .ok (.iconst 0, 1) := by decide +kernel
theorem dX11_ears_70 : decode cX11_ears 70 = .ok (.istore 8, 2) := by decide +kernel
theorem dX11_ears_72 : decode cX11_ears 72 = .ok (.iload 8, 2) := by decide +kernel
theorem dX11_ears_74 : decode cX11_ears 74 = .ok (.iconst 4, 1) := by decide +kernel
theorem dX11_ears_75 : decode cX11_ears 75 = .ok (.if_icmp .ge 109, 3) := by decide +kernel
theorem dX11_ears_78 : decode cX11_ears 78 = .ok (.iload 6, 2) := by decide +kernel
theorem dX11_ears_80 : decode cX11_ears 80 = .ok (.iload 5, 2) := by decide +kernel
theorem dX11_ears_82 : decode cX11_ears 82 = .ok (.iload 8, 2) := by decide +kernel
theorem dX11_ears_84 : decode cX11_ears 84 = .ok (.iload_n 1, 1) := by decide +kernel
theorem dX11_ears_85 : decode cX11_ears 85 = .ok (.iload_n 2, 1) := by decide +kernel
theorem dX11_ears_86 : decode cX11_ears 86 = .ok (.invokestatic 173, 3) := by decide +kernel
theorem dX11_ears_89 : decode cX11_ears 89 = .ok (.iconst (-1), 1) := by decide +kernel
theorem dX11_ears_90 : decode cX11_ears 90 = .ok (.ixor, 1) := by decide +kernel
theorem dX11_ears_91 : decode cX11_ears 91 = .ok (.iand, 1) := by decide +kernel
theorem dX11_ears_92 : decode cX11_ears 92 = .ok (.invokestatic 177, 3) := by decide +kernel
theorem dX11_ears_95 : decode cX11_ears 95 = .ok (.istore 9, 2) := by decide +kernel
theorem dX11_ears_97 : decode cX11_ears 97 = .ok (.iload 6, 2) := by decide +kernel
theorem dX11_ears_99 : decode cX11_ears 99 = .ok (.iload 5, 2) := by decide +kernel
theorem dX11_ears_101 : decode cX11_ears 101 = .ok (.iload 8, 2) := by decide +kernel
theorem dX11_ears_103 : decode cX11_ears 103 = .ok (.iconst 1, 1) := by decide +kernel
theorem dX11_ears_104 : decode cX11_ears 104 = .ok (.ixor, 1) := by decide +kernel
theorem dX11_ears_105 : decode cX11_ears 105 = .ok (.iload_n 1, 1) := by decide +kernel
theorem dX11_ears_106 : decode cX11_ears 106 = .ok (.iload_n 2, 1) := by decide +kernel
theorem dX11_ears_107 : decode cX11_ears 107 = .ok (.invokestatic 173, 3) := by decide +kernel
theorem dX11_ears_110 : decode cX11_ears 110 = .ok (.iconst (-1), 1) := by decide +kernel
theorem dX11_ears_111 : decode cX11_ears 111 = .ok (.ixor, 1) := by decide +kernel
theorem dX11_ears_112 : decode cX11_ears 112 = .ok (.iand, 1) := by decide +kernel
theorem dX11_ears_113 : decode cX11_ears 113 = .ok (.invokestatic 177, 3) := by decide +kernel
theorem dX11_ears_116 : decode cX11_ears 116 = .ok (.istore 10, 2) := by decide +kernel
theorem dX11_ears_118 : decode cX11_ears 118 = .ok (.iload 6, 2) := by decide +kernel
theorem dX11_ears_120 : decode cX11_ears 120 = .ok (.iload 5, 2) := by decide +kernel
theorem dX11_ears_122 : decode cX11_ears 122 = .ok (.iload 8, 2) := by decide +kernel
theorem dX11_ears_124 : decode cX11_ears 124 = .ok (.iconst 2, 1) := by decide +kernel
theorem dX11_ears_125 : decode cX11_ears 125 = .ok (.ixor, 1) := by decide +kernel
theorem dX11_ears_126 : decode cX11_ears 126 = .ok (.iload_n 1, 1) := by decide +kernel
theorem dX11_ears_127 : decode cX11_ears 127 = .ok (.iload_n 2, 1) := by decide +kernel
theorem dX11_ears_128 : decode cX11_ears 128 = .ok (.invokestatic 173, 3) := by decide +kernel
theorem dX11_ears_131 : decode cX11_ears 131 = .ok (.iconst (-1), 1) := by decide +kernel
theorem dX11_ears_132 : decode cX11_ears 132 = .ok (.ixor, 1) := by decide +kernel
theorem dX11_ears_133 : decode cX11_ears 133 = .ok (.iand, 1) := by decide +kernel
theorem dX11_ears_134 : decode cX11_ears 134 = .ok (.invokestatic 177, 3) := by decide +kernel
theorem dX11_ears_137 : decode cX11_ears 137 = .ok (.istore 11, 2) := by decide +kernel
theorem dX11_ears_139 : decode cX11_ears 139 = .ok (.iload 10, 2) := by decide +kernel
theorem dX11_ears_141 : decode cX11_ears 141 = .ok (.iload_n 1, 1) := by decide +kernel
theorem dX11_ears_142 : decode cX11_ears 142 = .ok (.invokestatic 180, 3) := by decide +kernel
theorem dX11_ears_145 : decode cX11_ears 145 = .ok (.iload 9, 2) := by decide +kernel
theorem dX11_ears_147 : decode cX11_ears 147 = .ok (.iload_n 1, 1) := by decide +kernel
theorem dX11_ears_148 : decode cX11_ears 148 = .ok (.invokestatic 180, 3) := by decide +kernel
theorem dX11_ears_151 : decode cX11_ears 151 = .ok (.if_icmp .gt 27, 3) := by decide +kernel
theorem dX11_ears_154 : decode cX11_ears 154 = .ok (.iload 11, 2) := by decide +kernel
theorem dX11_ears_156 : decode cX11_ears 156 = .ok (.iload_n 2, 1) := by decide +kernel
theorem dX11_ears_157 : decode cX11_ears 157 = .ok (.invokestatic 180, 3) := by decide +kernel
theorem dX11_ears_160 : decode cX11_ears 160 = .ok (.iload 9, 2) := by decide +kernel
theorem dX11_ears_162 : decode cX11_ears 162 = .ok (.iload_n 2, 1) := by decide +kernel
theorem dX11_ears_163 : decode cX11_ears 163 = .ok (.invokestatic 180, 3) := by decide +kernel
theorem dX11_ears_166 : decode cX11_ears 166 = .ok (.if_icmp .gt 12, 3) := by decide +kernel
theorem dX11_ears_169 : decode cX11_ears 169 = .ok (.iload 7, 2) := by decide +kernel
theorem dX11_ears_171 : decode cX11_ears 171 = .ok (.iconst 1, 1) := by decide +kernel
theorem dX11_ears_172 : decode cX11_ears 172 = .ok (.iload 8, 2) := by decide +kernel
theorem dX11_ears_174 : decode cX11_ears 174 = .ok (.ishl, 1) := by decide +kernel
theorem dX11_ears_175 : decode cX11_ears 175 = .ok (.ior, 1) := by decide +kernel
theorem dX11_ears_176 : decode cX11_ears 176 = .ok (.istore 7, 2) := by decide +kernel
theorem dX11_ears_178 : decode cX11_ears 178 = .ok (.iinc 8 1, 3) := by decide +kernel
theorem dX11_ears_181 : decode cX11_ears 181 = .ok (.goto (-109), 3) := by decide +kernel
theorem dX11_ears_184 : decode cX11_ears 184 = .ok (.iload 7, 2) := by decide +kernel
theorem dX11_ears_186 : decode cX11_ears 186 = .ok (.ireturn, 1) := by decide +kernel
theorem dX11_note_0 : decode cX11_note 0 = .ok (.aload_n 0, 1) := by decide +kernel
theorem dX11_note_1 : decode cX11_note 1 = .ok (.iload_n 1, 1) := by decide +kernel
theorem dX11_note_2 : decode cX11_note 2 = .ok (.invokevirtual 96, 3) := by decide +kernel
theorem dX11_note_5 : decode cX11_note 5 = .ok (.ifCond .eq 39, 3) := by decide +kernel
theorem dX11_note_8 : decode cX11_note 8 = .ok (.iload_n 2, 1) := by decide +kernel
theorem dX11_note_9 : decode cX11_note 9 = .ok (.bipush 10, 2) := by decide +kernel
theorem dX11_note_11 : decode cX11_note 11 = .ok (.invokestatic 59, 3) := by decide +kernel
theorem dX11_note_14 : decode cX11_note 14 = .ok (.ifCond .eq 30, 3) := by decide +kernel
theorem dX11_note_17 : decode cX11_note 17 = .ok (.iload_n 3, 1) := by decide +kernel
theorem dX11_note_18 : decode cX11_note 18 = .ok (.bipush 100, 2) := by decide +kernel
theorem dX11_note_20 : decode cX11_note 20 = .ok (.invokestatic 59, 3) := by decide +kernel
theorem dX11_note_23 : decode cX11_note 23 = .ok (.ifCond .eq 21, 3) := by decide +kernel
theorem dX11_note_26 : decode cX11_note 26 = .ok (.iload 4, 2) := by decide +kernel
theorem dX11_note_28 : decode cX11_note 28 = .ok (.iconst 2, 1) := by decide +kernel
theorem dX11_note_29 : decode cX11_note 29 = .ok (.invokestatic 59, 3) := by decide +kernel
theorem dX11_note_32 : decode cX11_note 32 = .ok (.ifCond .eq 12, 3) := by decide +kernel
theorem dX11_note_35 : decode cX11_note 35 = .ok (.iload 5, 2) := by decide +kernel
theorem dX11_note_37 : decode cX11_note 37 = .ok (.iconst 2, 1) := by decide +kernel
theorem dX11_note_38 : decode cX11_note 38 = .ok (.invokestatic 59, 3) := by decide +kernel
theorem dX11_note_41 : decode cX11_note 41 = .ok (.ifCond .ne 10, 3) := by decide +kernel
theorem dX11_note_44 : decode cX11_note 44 = .ok (.aload_n 0, 1) := by decide +kernel
theorem dX11_note_45 : decode cX11_note 45 = .ok (.bipush (-2), 2) := by decide +kernel
theorem dX11_note_47 : decode cX11_note 47 = .ok (.invokevirtual 63, 3) := by decide +kernel
theorem dX11_note_50 : decode cX11_note 50 = .ok (.ireturn, 1) := by decide +kernel
theorem dX11_note_51 : decode cX11_note 51 = .ok (.aload_n 0, 1) := by decide +kernel
theorem dX11_note_52 : decode cX11_note 52 = .ok (.getfield 10, 3) := by decide +kernel
theorem dX11_note_55 : decode cX11_note 55 = .ok (.getfield 183, 3) := by decide +kernel
theorem dX11_note_58 : decode cX11_note 58 = .ok (.bipush 6, 2) := by decide +kernel
theorem dX11_note_60 : decode cX11_note 60 = .ok (.if_icmp .lt 10, 3) := by decide +kernel
theorem dX11_note_63 : decode cX11_note 63 = .ok (.aload_n 0, 1) := by decide +kernel
theorem dX11_note_64 : decode cX11_note 64 = .ok (.bipush (-4), 2) := by decide +kernel
theorem dX11_note_66 : decode cX11_note 66 = .ok (.invokevirtual 63, 3) := by decide +kernel
theorem dX11_note_69 : decode cX11_note 69 = .ok (.ireturn, 1) := by decide +kernel
theorem dX11_note_70 : decode cX11_note 70 = .ok (.aload_n 0, 1) := by decide +kernel
theorem dX11_note_71 : decode cX11_note 71 = .ok (.getfield 10, 3) := by decide +kernel
theorem dX11_note_74 : decode cX11_note 74 = .ok (.iload_n 1, 1) := by decide +kernel
theorem dX11_note_75 : decode cX11_note 75 = .ok (.iload_n 2, 1) := by decide +kernel
theorem dX11_note_76 : decode cX11_note 76 = .ok (.iload_n 3, 1) := by decide +kernel
theorem dX11_note_77 : decode cX11_note 77 = .ok (.iload 4, 2) := by decide +kernel
theorem dX11_note_79 : decode cX11_note 79 = .ok (.iload 5, 2) := by decide +kernel
theorem dX11_note_81 : decode cX11_note 81 = .ok (.invokevirtual 186, 3) := by decide +kernel
theorem dX11_note_84 : decode cX11_note 84 = .ok (.aload_n 0, 1) := by decide +kernel
theorem dX11_note_85 : decode cX11_note 85 = .ok (.getfield 10, 3) := by decide +kernel
theorem dX11_note_88 : decode cX11_note 88 = .ok (.getfield 183, 3) := by decide +kernel
theorem dX11_note_91 : decode cX11_note 91 = .ok (.ireturn, 1) := by decide +kernel
theorem dX11_forget_0 : decode cX11_forget 0 = .ok (.iload_n 1, 1) := by decide +kernel
theorem dX11_forget_1 : decode cX11_forget 1 = .ok (.iconst 2, 1) := by decide +kernel
theorem dX11_forget_2 : decode cX11_forget 2 = .ok (.invokestatic 59, 3) := by decide +kernel
theorem dX11_forget_5 : decode cX11_forget 5 = .ok (.ifCond .ne 10, 3) := by decide +kernel
theorem dX11_forget_8 : decode cX11_forget 8 = .ok (.aload_n 0, 1) := by decide +kernel
theorem dX11_forget_9 : decode cX11_forget 9 = .ok (.bipush (-2), 2) := by decide +kernel
theorem dX11_forget_11 : decode cX11_forget 11 = .ok (.invokevirtual 63, 3) := by decide +kernel
theorem dX11_forget_14 : decode cX11_forget 14 = .ok (.ireturn, 1) := by decide +kernel
theorem dX11_forget_15 : decode cX11_forget 15 = .ok (.iload_n 1, 1) := by decide +kernel
theorem dX11_forget_16 : decode cX11_forget 16 = .ok (.ifCond .ne 13, 3) := by decide +kernel
theorem dX11_forget_19 : decode cX11_forget 19 = .ok (.aload_n 0, 1) := by decide +kernel
theorem dX11_forget_20 : decode cX11_forget 20 = .ok (.getfield 10, 3) := by decide +kernel
theorem dX11_forget_23 : decode cX11_forget 23 = .ok (.getfield 157, 3) := by decide +kernel
theorem dX11_forget_26 : decode cX11_forget 26 = .ok (.goto 10, 3) := by decide +kernel
theorem dX11_forget_29 : decode cX11_forget 29 = .ok (.aload_n 0, 1) := by decide +kernel
theorem dX11_forget_30 : decode cX11_forget 30 = .ok (.getfield 10, 3) := by decide +kernel
theorem dX11_forget_33 : decode cX11_forget 33 = .ok (.getfield 183, 3) := by decide +kernel
theorem dX11_forget_36 : decode cX11_forget 36 = .ok (.istore_n 2, 1) := by decide +kernel
theorem dX11_forget_37 : decode cX11_forget 37 = .ok (.iload_n 1, 1) := by decide +kernel
theorem dX11_forget_38 : decode cX11_forget 38 = .ok (.ifCond .ne 14, 3) := by decide +kernel
theorem dX11_forget_41 : decode cX11_forget 41 = .ok (.aload_n 0, 1) := by decide +kernel
theorem dX11_forget_42 : decode cX11_forget 42 = .ok (.getfield 10, 3) := by decide +kernel
theorem dX11_forget_45 : decode cX11_forget 45 = .ok (.iconst 0, 1) := by decide +kernel
theorem dX11_forget_46 : decode cX11_forget 46 = .ok (.putfield 157, 3) := by decide +kernel
theorem dX11_forget_49 : decode cX11_forget 49 = .ok (.goto 11, 3) := by decide +kernel
theorem dX11_forget_52 : decode cX11_forget 52 = .ok (.aload_n 0, 1) := by decide +kernel
theorem dX11_forget_53 : decode cX11_forget 53 = .ok (.getfield 10, 3) := by decide +kernel
theorem dX11_forget_56 : decode cX11_forget 56 = .ok (.iconst 0, 1) := by decide +kernel
theorem dX11_forget_57 : decode cX11_forget 57 = .ok (.putfield 183, 3) := by decide +kernel
theorem dX11_forget_60 : decode cX11_forget 60 = .ok (.iload_n 2, 1) := by decide +kernel
theorem dX11_forget_61 : decode cX11_forget 61 = .ok (.ireturn, 1) := by decide +kernel
theorem dX11_is_0 : decode cX11_is 0 = .ok (.aload_n 0, 1) := by decide +kernel
theorem dX11_is_1 : decode cX11_is 1 = .ok (.iload_n 1, 1) := by decide +kernel
theorem dX11_is_2 : decode cX11_is 2 = .ok (.invokevirtual 96, 3) := by decide +kernel
theorem dX11_is_5 : decode cX11_is 5 = .ok (.ifCond .ne 10, 3) := by decide +kernel
theorem dX11_is_8 : decode cX11_is 8 = .ok (.aload_n 0, 1) := by decide +kernel
theorem dX11_is_9 : decode cX11_is 9 = .ok (.bipush (-2), 2) := by decide +kernel
theorem dX11_is_11 : decode cX11_is 11 = .ok (.invokevirtual 63, 3) := by decide +kernel
theorem dX11_is_14 : decode cX11_is 14 = .ok (.ireturn, 1) := by decide +kernel
theorem dX11_is_15 : decode cX11_is 15 = .ok (.iconst 0, 1) := by decide +kernel
theorem dX11_is_16 : decode cX11_is 16 = .ok (.istore_n 2, 1) := by decide +kernel
theorem dX11_is_17 : decode cX11_is 17 = .ok (.iconst 0, 1) := by decide +kernel
theorem dX11_is_18 : decode cX11_is 18 = .ok (.istore_n 3, 1) := by decide +kernel
theorem dX11_is_19 : decode cX11_is 19 = .ok (.iload_n 3, 1) := by decide +kernel
theorem dX11_is_20 : decode cX11_is 20 = .ok (.bipush 6, 2) := by decide +kernel
theorem dX11_is_22 : decode cX11_is 22 = .ok (.if_icmp .ge 33, 3) := by decide +kernel
theorem dX11_is_25 : decode cX11_is 25 = .ok (.aload_n 0, 1) := by decide +kernel
theorem dX11_is_26 : decode cX11_is 26 = .ok (.iload_n 1, 1) := by decide +kernel
theorem dX11_is_27 : decode cX11_is 27 = .ok (.iload_n 3, 1) := by decide +kernel
theorem dX11_is_28 : decode cX11_is 28 = .ok (.aload_n 0, 1) := by decide +kernel
theorem dX11_is_29 : decode cX11_is 29 = .ok (.getfield 10, 3) := by decide +kernel
theorem dX11_is_32 : decode cX11_is 32 = .ok (.getfield 114, 3) := by decide +kernel
theorem dX11_is_35 : decode cX11_is 35 = .ok (.iload_n 1, 1) := by decide +kernel
theorem dX11_is_36 : decode cX11_is 36 = .ok (.iaload, 1) := by decide +kernel
theorem dX11_is_37 : decode cX11_is 37 = .ok (.invokevirtual 190, 3) := by decide +kernel
theorem dX11_is_40 : decode cX11_is 40 = .ok (.ifCond .eq 9, 3) := by decide +kernel
theorem dX11_is_43 : decode cX11_is 43 = .ok (.iload_n 2, 1) := by decide +kernel
theorem dX11_is_44 : decode cX11_is 44 = .ok (.iconst 1, 1) := by decide +kernel
theorem dX11_is_45 : decode cX11_is 45 = .ok (.iload_n 3, 1) := by decide +kernel
theorem dX11_is_46 : decode cX11_is 46 = .ok (.ishl, 1) := by decide +kernel
theorem dX11_is_47 : decode cX11_is 47 = .ok (.ior, 1) := by decide +kernel
theorem dX11_is_48 : decode cX11_is 48 = .ok (.istore_n 2, 1) := by decide +kernel
theorem dX11_is_49 : decode cX11_is 49 = .ok (.iinc 3 1, 3) := by decide +kernel
theorem dX11_is_52 : decode cX11_is 52 = .ok (.goto (-33), 3) := by decide +kernel
theorem dX11_is_55 : decode cX11_is 55 = .ok (.iload_n 2, 1) := by decide +kernel
theorem dX11_is_56 : decode cX11_is 56 = .ok (.ireturn, 1) := by decide +kernel
theorem dX11_stood_0 : decode cX11_stood 0 = .ok (.aload_n 0, 1) := by decide +kernel
theorem dX11_stood_1 : decode cX11_stood 1 = .ok (.iload_n 1, 1) := by decide +kernel
theorem dX11_stood_2 : decode cX11_stood 2 = .ok (.invokevirtual 96, 3) := by decide +kernel
theorem dX11_stood_5 : decode cX11_stood 5 = .ok (.ifCond .eq 11, 3) := by decide +kernel
theorem dX11_stood_8 : decode cX11_stood 8 = .ok (.aload_n 0, 1) := by decide +kernel
theorem dX11_stood_9 : decode cX11_stood 9 = .ok (.iload_n 1, 1) := by decide +kernel
theorem dX11_stood_10 : decode cX11_stood 10 = .ok (.invokevirtual 194, 3) := by decide +kernel
theorem dX11_stood_13 : decode cX11_stood 13 = .ok (.goto 9, 3) := by decide +kernel
theorem dX11_stood_16 : decode cX11_stood 16 = .ok (.aload_n 0, 1) := by decide +kernel
theorem dX11_stood_17 : decode cX11_stood 17 = .ok (.bipush (-2), 2) := by decide +kernel
theorem dX11_stood_19 : decode cX11_stood 19 = .ok (.invokevirtual 63, 3) := by decide +kernel
theorem dX11_stood_22 : decode cX11_stood 22 = .ok (.ireturn, 1) := by decide +kernel
theorem dX11_next_0 : decode cX11_next 0 = .ok (.aload_n 0, 1) := by decide +kernel
theorem dX11_next_1 : decode cX11_next 1 = .ok (.iload_n 1, 1) := by decide +kernel
theorem dX11_next_2 : decode cX11_next 2 = .ok (.invokevirtual 96, 3) := by decide +kernel
theorem dX11_next_5 : decode cX11_next 5 = .ok (.ifCond .ne 10, 3) := by decide +kernel
theorem dX11_next_8 : decode cX11_next 8 = .ok (.aload_n 0, 1) := by decide +kernel
theorem dX11_next_9 : decode cX11_next 9 = .ok (.bipush (-2), 2) := by decide +kernel
theorem dX11_next_11 : decode cX11_next 11 = .ok (.invokevirtual 63, 3) := by decide +kernel
theorem dX11_next_14 : decode cX11_next 14 = .ok (.ireturn, 1) := by decide +kernel
theorem dX11_next_15 : decode cX11_next 15 = .ok (.aload_n 0, 1) := by decide +kernel
theorem dX11_next_16 : decode cX11_next 16 = .ok (.iload_n 1, 1) := by decide +kernel
theorem dX11_next_17 : decode cX11_next 17 = .ok (.invokevirtual 194, 3) := by decide +kernel
theorem dX11_next_20 : decode cX11_next 20 = .ok (.istore_n 2, 1) := by decide +kernel
theorem dX11_next_21 : decode cX11_next 21 = .ok (.bipush 11, 2) := by decide +kernel
theorem dX11_next_23 : decode cX11_next 23 = .ok (.istore_n 3, 1) := by decide +kernel
theorem dX11_next_24 : decode cX11_next 24 = .ok (.iconst (-1), 1) := by decide +kernel
theorem dX11_next_25 : decode cX11_next 25 = .ok (.istore 4, 2) := by decide +kernel
theorem dX11_next_27 : decode cX11_next 27 = .ok (.iconst 0, 1) := by decide +kernel
theorem dX11_next_28 : decode cX11_next 28 = .ok (.istore 5, 2) := by decide +kernel
theorem dX11_next_30 : decode cX11_next 30 = .ok (.iload 5, 2) := by decide +kernel
theorem dX11_next_32 : decode cX11_next 32 = .ok (.bipush 10, 2) := by decide +kernel
theorem dX11_next_34 : decode cX11_next 34 = .ok (.if_icmp .ge 56, 3) := by decide +kernel
theorem dX11_next_37 : decode cX11_next 37 = .ok (.iload_n 2, 1) := by decide +kernel
theorem dX11_next_38 : decode cX11_next 38 = .ok (.ifCond .eq 52, 3) := by decide +kernel
theorem dX11_next_41 : decode cX11_next 41 = .ok (.iload_n 2, 1) := by decide +kernel
theorem dX11_next_42 : decode cX11_next 42 = .ok (.aload_n 0, 1) := by decide +kernel
theorem dX11_next_43 : decode cX11_next 43 = .ok (.iload_n 1, 1) := by decide +kernel
theorem dX11_next_44 : decode cX11_next 44 = .ok (.iload 5, 2) := by decide +kernel
theorem dX11_next_46 : decode cX11_next 46 = .ok (.invokevirtual 197, 3) := by decide +kernel
theorem dX11_next_49 : decode cX11_next 49 = .ok (.iand, 1) := by decide +kernel
theorem dX11_next_50 : decode cX11_next 50 = .ok (.istore 6, 2) := by decide +kernel
theorem dX11_next_52 : decode cX11_next 52 = .ok (.iload 6, 2) := by decide +kernel
theorem dX11_next_54 : decode cX11_next 54 = .ok (.invokestatic 132, 3) := by decide +kernel
theorem dX11_next_57 : decode cX11_next 57 = .ok (.iload_n 2, 1) := by decide +kernel
theorem dX11_next_58 : decode cX11_next 58 = .ok (.iload 6, 2) := by decide +kernel
theorem dX11_next_60 : decode cX11_next 60 = .ok (.iconst (-1), 1) := by decide +kernel
theorem dX11_next_61 : decode cX11_next 61 = .ok (.ixor, 1) := by decide +kernel
theorem dX11_next_62 : decode cX11_next 62 = .ok (.iand, 1) := by decide +kernel
theorem dX11_next_63 : decode cX11_next 63 = .ok (.invokestatic 132, 3) := by decide +kernel
theorem dX11_next_66 : decode cX11_next 66 = .ok (.invokestatic 200, 3) := by decide +kernel
theorem dX11_next_69 : decode cX11_next 69 = .ok (.istore 7, 2) := by decide +kernel
theorem dX11_next_71 : decode cX11_next 71 = .ok (.iload 7, 2) := by decide +kernel
theorem dX11_next_73 : decode cX11_next 73 = .ok (.iload_n 3, 1) := by decide +kernel
theorem dX11_next_74 : decode cX11_next 74 = .ok (.if_icmp .ge 10, 3) := by decide +kernel
theorem dX11_next_77 : decode cX11_next 77 = .ok (.iload 7, 2) := by decide +kernel
theorem dX11_next_79 : decode cX11_next 79 = .ok (.istore_n 3, 1) := by decide +kernel
theorem dX11_next_80 : decode cX11_next 80 = .ok (.iload 5, 2) := by decide +kernel
theorem dX11_next_82 : decode cX11_next 82 = .ok (.istore 4, 2) := by decide +kernel
theorem dX11_next_84 : decode cX11_next 84 = .ok (.iinc 5 1, 3) := by decide +kernel
theorem dX11_next_87 : decode cX11_next 87 = .ok (.goto (-57), 3) := by decide +kernel
theorem dX11_next_90 : decode cX11_next 90 = .ok (.iload 4, 2) := by decide +kernel
theorem dX11_next_92 : decode cX11_next 92 = .ok (.ireturn, 1) := by decide +kernel
theorem dX11_trippers_0 : decode cX11_trippers 0 = .ok (.aload_n 0, 1) := by decide +kernel
theorem dX11_trippers_1 : decode cX11_trippers 1 = .ok (.iload_n 1, 1) := by decide +kernel
theorem dX11_trippers_2 : decode cX11_trippers 2 = .ok (.invokevirtual 96, 3) := by decide +kernel
theorem dX11_trippers_5 : decode cX11_trippers 5 = .ok (.ifCond .eq 30, 3) := by decide +kernel
theorem dX11_trippers_8 : decode cX11_trippers 8 = .ok (.aload_n 0, 1) := by decide +kernel
theorem dX11_trippers_9 : decode cX11_trippers 9 = .ok (.iload_n 2, 1) := by decide +kernel
theorem dX11_trippers_10 : decode cX11_trippers 10 = .ok (.invokevirtual 96, 3) := by decide +kernel
theorem dX11_trippers_13 : decode cX11_trippers 13 = .ok (.ifCond .eq 22, 3) := by decide +kernel
theorem dX11_trippers_16 : decode cX11_trippers 16 = .ok (.iload_n 3, 1) := by decide +kernel
theorem dX11_trippers_17 : decode cX11_trippers 17 = .ok (.bipush 10, 2) := by decide +kernel
theorem dX11_trippers_19 : decode cX11_trippers 19 = .ok (.invokestatic 59, 3) := by decide +kernel
theorem dX11_trippers_22 : decode cX11_trippers 22 = .ok (.ifCond .eq 13, 3) := by decide +kernel
theorem dX11_trippers_25 : decode cX11_trippers 25 = .ok (.iload 4, 2) := by decide +kernel
theorem dX11_trippers_27 : decode cX11_trippers 27 = .ok (.bipush 11, 2) := by decide +kernel
theorem dX11_trippers_29 : decode cX11_trippers 29 = .ok (.invokestatic 59, 3) := by decide +kernel
theorem dX11_trippers_32 : decode cX11_trippers 32 = .ok (.ifCond .ne 10, 3) := by decide +kernel
theorem dX11_trippers_35 : decode cX11_trippers 35 = .ok (.aload_n 0, 1) := by decide +kernel
theorem dX11_trippers_36 : decode cX11_trippers 36 = .ok (.bipush (-2), 2) := by decide +kernel
theorem dX11_trippers_38 : decode cX11_trippers 38 = .ok (.invokevirtual 63, 3) := by decide +kernel
theorem dX11_trippers_41 : decode cX11_trippers 41 = .ok (.ireturn, 1) := by decide +kernel
theorem dX11_trippers_42 : decode cX11_trippers 42 = .ok (.aload_n 0, 1) := by decide +kernel
theorem dX11_trippers_43 : decode cX11_trippers 43 = .ok (.iload_n 2, 1) := by decide +kernel
theorem dX11_trippers_44 : decode cX11_trippers 44 = .ok (.iload_n 3, 1) := by decide +kernel
theorem dX11_trippers_45 : decode cX11_trippers 45 = .ok (.invokevirtual 100, 3) := by decide +kernel
theorem dX11_trippers_48 : decode cX11_trippers 48 = .ok (.istore 5, 2) := by decide +kernel
theorem dX11_trippers_50 : decode cX11_trippers 50 = .ok (.lconst 1, 1) := by decide +kernel
theorem dX11_trippers_51 : decode cX11_trippers 51 = .ok (.lstore 6, 2) := by decide +kernel
theorem dX11_trippers_53 : decode cX11_trippers 53 = .ok (.lconst 1, 1) := by decide +kernel
theorem dX11_trippers_54 : decode cX11_trippers 54 = .ok (.lstore 8, 2) := by decide +kernel
theorem dX11_trippers_56 : decode cX11_trippers 56 = .ok (.iload 5, 2) := by decide +kernel
theorem dX11_trippers_58 : decode cX11_trippers 58 = .ok (.invokestatic 132, 3) := by decide +kernel
theorem dX11_trippers_61 : decode cX11_trippers 61 = .ok (.istore 10, 2) := by decide +kernel
theorem dX11_trippers_63 : decode cX11_trippers 63 = .ok (.iload 10, 2) := by decide +kernel
theorem dX11_trippers_65 : decode cX11_trippers 65 = .ok (.ifCond .le 25, 3) := by decide +kernel
theorem dX11_trippers_68 : decode cX11_trippers 68 = .ok (.lload 6, 2) := by decide +kernel
theorem dX11_trippers_70 : decode cX11_trippers 70 = .ok (.ldc2_w 205, 3) := by decide +kernel
theorem dX11_trippers_73 : decode cX11_trippers 73 = .ok (.lmul, 1) := by decide +kernel
theorem dX11_trippers_74 : decode cX11_trippers 74 = .ok (.lstore 6, 2) := by decide +kernel
theorem dX11_trippers_76 : decode cX11_trippers 76 = .ok (.lload 8, 2) := by decide +kernel
theorem dX11_trippers_78 : decode cX11_trippers 78 = .ok (.iload 4, 2) := by decide +kernel
theorem dX11_trippers_80 : decode cX11_trippers 80 = .ok (.i2l, 1) := by decide +kernel
theorem dX11_trippers_81 : decode cX11_trippers 81 = .ok (.lmul, 1) := by decide +kernel
theorem dX11_trippers_82 : decode cX11_trippers 82 = .ok (.lstore 8, 2) := by decide +kernel
theorem dX11_trippers_84 : decode cX11_trippers 84 = .ok (.iinc 10 (-1), 3) := by decide +kernel
theorem dX11_trippers_87 : decode cX11_trippers 87 = .ok (.goto (-24), 3) := by decide +kernel
theorem dX11_trippers_90 : decode cX11_trippers 90 = .ok (.iload 5, 2) := by decide +kernel
theorem dX11_trippers_92 : decode cX11_trippers 92 = .ok (.iload_n 1, 1) := by decide +kernel
theorem dX11_trippers_93 : decode cX11_trippers 93 = .ok (.invokestatic 180, 3) := by decide +kernel
theorem dX11_trippers_96 : decode cX11_trippers 96 = .ok (.bipush 10, 2) := by decide +kernel
theorem dX11_trippers_98 : decode cX11_trippers 98 = .ok (.iload 4, 2) := by decide +kernel
theorem dX11_trippers_100 : decode cX11_trippers 100 = .ok (.isub, 1) := by decide +kernel
theorem dX11_trippers_101 : decode cX11_trippers 101 = .ok (.imul, 1) := by decide +kernel
theorem dX11_trippers_102 : decode cX11_trippers 102 = .ok (.i2l, 1) := by decide +kernel
theorem dX11_trippers_103 : decode cX11_trippers 103 = .ok (.lload 6, 2) := by decide +kernel
theorem dX11_trippers_105 : decode cX11_trippers 105 = .ok (.ldc2_w 205, 3) := by decide +kernel
theorem dX11_trippers_108 : decode cX11_trippers 108 = .ok (.ldiv, 1) := by decide +kernel
theorem dX11_trippers_109 : decode cX11_trippers 109 = .ok (.lmul, 1) := by decide +kernel
theorem dX11_trippers_110 : decode cX11_trippers 110 = .ok (.lstore 10, 2) := by decide +kernel
theorem dX11_trippers_112 : decode cX11_trippers 112 = .ok (.lload 10, 2) := by decide +kernel
theorem dX11_trippers_114 : decode cX11_trippers 114 = .ok (.aload_n 0, 1) := by decide +kernel
theorem dX11_trippers_115 : decode cX11_trippers 115 = .ok (.getfield 10, 3) := by decide +kernel
theorem dX11_trippers_118 : decode cX11_trippers 118 = .ok (.getfield 107, 3) := by decide +kernel
theorem dX11_trippers_121 : decode cX11_trippers 121 = .ok (.iload_n 2, 1) := by decide +kernel
theorem dX11_trippers_122 : decode cX11_trippers 122 = .ok (.iaload, 1) := by decide +kernel
theorem dX11_trippers_123 : decode cX11_trippers 123 = .ok (.iload_n 1, 1) := by decide +kernel
theorem dX11_trippers_124 : decode cX11_trippers 124 = .ok (.invokestatic 180, 3) := by decide +kernel
theorem dX11_trippers_127 : decode cX11_trippers 127 = .ok (.i2l, 1) := by decide +kernel
theorem dX11_trippers_128 : decode cX11_trippers 128 = .ok (.lload 8, 2) := by decide +kernel
theorem dX11_trippers_130 : decode cX11_trippers 130 = .ok (.lmul, 1) := by decide +kernel
theorem dX11_trippers_131 : decode cX11_trippers 131 = .ok (.ladd, 1) := by decide +kernel
theorem dX11_trippers_132 : decode cX11_trippers 132 = .ok (.lstore 10, 2) := by decide +kernel
theorem dX11_trippers_134 : decode cX11_trippers 134 = .ok (.aload_n 0, 1) := by decide +kernel
theorem dX11_trippers_135 : decode cX11_trippers 135 = .ok (.getfield 37, 3) := by decide +kernel
theorem dX11_trippers_138 : decode cX11_trippers 138 = .ok (.lload 10, 2) := by decide +kernel
theorem dX11_trippers_140 : decode cX11_trippers 140 = .ok (.lload 6, 2) := by decide +kernel
theorem dX11_trippers_142 : decode cX11_trippers 142 = .ok (.invokevirtual 166, 3) := by decide +kernel
theorem dX11_trippers_145 : decode cX11_trippers 145 = .ok (.iconst 1, 1) := by decide +kernel
theorem dX11_trippers_146 : decode cX11_trippers 146 = .ok (.ireturn, 1) := by decide +kernel
theorem dX11_weeks_0 : decode cX11_weeks 0 = .ok (.iload_n 1, 1) := by decide +kernel
theorem dX11_weeks_1 : decode cX11_weeks 1 = .ok (.ldc 207, 2) := by decide +kernel
theorem dX11_weeks_3 : decode cX11_weeks 3 = .ok (.invokestatic 59, 3) := by decide +kernel
theorem dX11_weeks_6 : decode cX11_weeks 6 = .ok (.ifCond .eq 12, 3) := by decide +kernel
theorem dX11_weeks_9 : decode cX11_weeks 9 = .ok (.iload_n 2, 1) := by decide +kernel
theorem dX11_weeks_10 : decode cX11_weeks 10 = .ok (.bipush 61, 2) := by decide +kernel
theorem dX11_weeks_12 : decode cX11_weeks 12 = .ok (.invokestatic 59, 3) := by decide +kernel
theorem dX11_weeks_15 : decode cX11_weeks 15 = .ok (.ifCond .ne 10, 3) := by decide +kernel
theorem dX11_weeks_18 : decode cX11_weeks 18 = .ok (.aload_n 0, 1) := by decide +kernel
theorem dX11_weeks_19 : decode cX11_weeks 19 = .ok (.bipush (-2), 2) := by decide +kernel
theorem dX11_weeks_21 : decode cX11_weeks 21 = .ok (.invokevirtual 63, 3) := by decide +kernel
theorem dX11_weeks_24 : decode cX11_weeks 24 = .ok (.ireturn, 1) := by decide +kernel
theorem dX11_weeks_25 : decode cX11_weeks 25 = .ok (.aload_n 0, 1) := by decide +kernel
theorem dX11_weeks_26 : decode cX11_weeks 26 = .ok (.getfield 10, 3) := by decide +kernel
theorem dX11_weeks_29 : decode cX11_weeks 29 = .ok (.getfield 67, 3) := by decide +kernel
theorem dX11_weeks_32 : decode cX11_weeks 32 = .ok (.ifCond .ne 10, 3) := by decide +kernel
theorem dX11_weeks_35 : decode cX11_weeks 35 = .ok (.aload_n 0, 1) := by decide +kernel
theorem dX11_weeks_36 : decode cX11_weeks 36 = .ok (.bipush (-3), 2) := by decide +kernel
theorem dX11_weeks_38 : decode cX11_weeks 38 = .ok (.invokevirtual 63, 3) := by decide +kernel
theorem dX11_weeks_41 : decode cX11_weeks 41 = .ok (.ireturn, 1) := by decide +kernel
theorem dX11_weeks_42 : decode cX11_weeks 42 = .ok (.aload_n 0, 1) := by decide +kernel
theorem dX11_weeks_43 : decode cX11_weeks 43 = .ok (.getfield 44, 3) := by decide +kernel
theorem dX11_weeks_46 : decode cX11_weeks 46 = .ok (.aload_n 0, 1) := by decide +kernel
theorem dX11_weeks_47 : decode cX11_weeks 47 = .ok (.getfield 10, 3) := by decide +kernel
theorem dX11_weeks_50 : decode cX11_weeks 50 = .ok (.invokevirtual 137, 3) := by decide +kernel
theorem dX11_weeks_53 : decode cX11_weeks 53 = .ok (.aload_n 0, 1) := by decide +kernel
theorem dX11_weeks_54 : decode cX11_weeks 54 = .ok (.getfield 51, 3) := by decide +kernel
theorem dX11_weeks_57 : decode cX11_weeks 57 = .ok (.aload_n 0, 1) := by decide +kernel
theorem dX11_weeks_58 : decode cX11_weeks 58 = .ok (.getfield 10, 3) := by decide +kernel
theorem dX11_weeks_61 : decode cX11_weeks 61 = .ok (.aload_n 0, 1) := by decide +kernel
theorem dX11_weeks_62 : decode cX11_weeks 62 = .ok (.getfield 44, 3) := by decide +kernel
theorem dX11_weeks_65 : decode cX11_weeks 65 = .ok (.iload_n 1, 1) := by decide +kernel
theorem dX11_weeks_66 : decode cX11_weeks 66 = .ok (.iload_n 2, 1) := by decide +kernel
theorem dX11_weeks_67 : decode cX11_weeks 67 = .ok (.invokevirtual 208, 3) := by decide +kernel
theorem dX11_weeks_70 : decode cX11_weeks 70 = .ok (.ireturn, 1) := by decide +kernel
theorem dX11_part_0 : decode cX11_part 0 = .ok (.iload_n 1, 1) := by decide +kernel
theorem dX11_part_1 : decode cX11_part 1 = .ok (.iconst 2, 1) := by decide +kernel
theorem dX11_part_2 : decode cX11_part 2 = .ok (.invokestatic 59, 3) := by decide +kernel
theorem dX11_part_5 : decode cX11_part 5 = .ok (.ifCond .ne 11, 3) := by decide +kernel
theorem dX11_part_8 : decode cX11_part 8 = .ok (.aload_n 0, 1) := by decide +kernel
theorem dX11_part_9 : decode cX11_part 9 = .ok (.bipush (-2), 2) := by decide +kernel
theorem dX11_part_11 : decode cX11_part 11 = .ok (.invokevirtual 63, 3) := by decide +kernel
theorem dX11_part_14 : decode cX11_part 14 = .ok (.i2l, 1) := by decide +kernel
theorem dX11_part_15 : decode cX11_part 15 = .ok (.lreturn, 1) := by decide +kernel
theorem dX11_part_16 : decode cX11_part 16 = .ok (.iload_n 1, 1) := by decide +kernel
theorem dX11_part_17 : decode cX11_part 17 = .ok (.ifCond .ne 13, 3) := by decide +kernel
theorem dX11_part_20 : decode cX11_part 20 = .ok (.aload_n 0, 1) := by decide +kernel
theorem dX11_part_21 : decode cX11_part 21 = .ok (.getfield 37, 3) := by decide +kernel
theorem dX11_part_24 : decode cX11_part 24 = .ok (.getfield 212, 3) := by decide +kernel
theorem dX11_part_27 : decode cX11_part 27 = .ok (.goto 10, 3) := by decide +kernel
theorem dX11_part_30 : decode cX11_part 30 = .ok (.aload_n 0, 1) := by decide +kernel
theorem dX11_part_31 : decode cX11_part 31 = .ok (.getfield 37, 3) := by decide +kernel
theorem dX11_part_34 : decode cX11_part 34 = .ok (.getfield 216, 3) := by decide +kernel
theorem dX11_part_37 : decode cX11_part 37 = .ok (.lreturn, 1) := by decide +kernel
theorem dX11_image_0 : decode cX11_image 0 = .ok (.iload_n 1, 1) := by decide +kernel
theorem dX11_image_1 : decode cX11_image 1 = .ok (.iconst 2, 1) := by decide +kernel
theorem dX11_image_2 : decode cX11_image 2 = .ok (.invokestatic 59, 3) := by decide +kernel
theorem dX11_image_5 : decode cX11_image 5 = .ok (.ifCond .ne 10, 3) := by decide +kernel
theorem dX11_image_8 : decode cX11_image 8 = .ok (.aload_n 0, 1) := by decide +kernel
theorem dX11_image_9 : decode cX11_image 9 = .ok (.bipush (-2), 2) := by decide +kernel
theorem dX11_image_11 : decode cX11_image 11 = .ok (.invokevirtual 63, 3) := by decide +kernel
theorem dX11_image_14 : decode cX11_image 14 = .ok (.ireturn, 1) := by decide +kernel
theorem dX11_image_15 : decode cX11_image 15 = .ok (.aload_n 0, 1) := by decide +kernel
theorem dX11_image_16 : decode cX11_image 16 = .ok (.getfield 19, 3) := by decide +kernel
theorem dX11_image_19 : decode cX11_image 19 = .ok (.iload_n 1, 1) := by decide +kernel
theorem dX11_image_20 : decode cX11_image 20 = .ok (.aaload, 1) := by decide +kernel
theorem dX11_image_21 : decode cX11_image 21 = .ok (.aload_n 0, 1) := by decide +kernel
theorem dX11_image_22 : decode cX11_image 22 = .ok (.getfield 10, 3) := by decide +kernel
theorem dX11_image_25 : decode cX11_image 25 = .ok (.invokevirtual 92, 3) := by decide +kernel
theorem dX11_image_28 : decode cX11_image 28 = .ok (.aload_n 0, 1) := by decide +kernel
theorem dX11_image_29 : decode cX11_image 29 = .ok (.getfield 23, 3) := by decide +kernel
theorem dX11_image_32 : decode cX11_image 32 = .ok (.iload_n 1, 1) := by decide +kernel
theorem dX11_image_33 : decode cX11_image 33 = .ok (.iconst 1, 1) := by decide +kernel
theorem dX11_image_34 : decode cX11_image 34 = .ok (.bastore, 1) := by decide +kernel
theorem dX11_image_35 : decode cX11_image 35 = .ok (.iconst 1, 1) := by decide +kernel
theorem dX11_image_36 : decode cX11_image 36 = .ok (.ireturn, 1) := by decide +kernel
theorem dX11_from_0 : decode cX11_from 0 = .ok (.iload_n 1, 1) := by decide +kernel
theorem dX11_from_1 : decode cX11_from 1 = .ok (.iconst 2, 1) := by decide +kernel
theorem dX11_from_2 : decode cX11_from 2 = .ok (.invokestatic 59, 3) := by decide +kernel
theorem dX11_from_5 : decode cX11_from 5 = .ok (.ifCond .ne 10, 3) := by decide +kernel
theorem dX11_from_8 : decode cX11_from 8 = .ok (.aload_n 0, 1) := by decide +kernel
theorem dX11_from_9 : decode cX11_from 9 = .ok (.bipush (-2), 2) := by decide +kernel
theorem dX11_from_11 : decode cX11_from 11 = .ok (.invokevirtual 63, 3) := by decide +kernel
theorem dX11_from_14 : decode cX11_from 14 = .ok (.ireturn, 1) := by decide +kernel
theorem dX11_from_15 : decode cX11_from 15 = .ok (.aload_n 0, 1) := by decide +kernel
theorem dX11_from_16 : decode cX11_from 16 = .ok (.getfield 23, 3) := by decide +kernel
theorem dX11_from_19 : decode cX11_from 19 = .ok (.iload_n 1, 1) := by decide +kernel
theorem dX11_from_20 : decode cX11_from 20 = .ok (.baload, 1) := by decide +kernel
theorem dX11_from_21 : decode cX11_from 21 = .ok (.ifCond .ne 10, 3) := by decide +kernel
theorem dX11_from_24 : decode cX11_from 24 = .ok (.aload_n 0, 1) := by decide +kernel
theorem dX11_from_25 : decode cX11_from 25 = .ok (.bipush (-3), 2) := by decide +kernel
theorem dX11_from_27 : decode cX11_from 27 = .ok (.invokevirtual 63, 3) := by decide +kernel
theorem dX11_from_30 : decode cX11_from 30 = .ok (.ireturn, 1) := by decide +kernel
theorem dX11_from_31 : decode cX11_from 31 = .ok (.aload_n 0, 1) := by decide +kernel
theorem dX11_from_32 : decode cX11_from 32 = .ok (.getfield 10, 3) := by decide +kernel
theorem dX11_from_35 : decode cX11_from 35 = .ok (.aload_n 0, 1) := by decide +kernel
theorem dX11_from_36 : decode cX11_from 36 = .ok (.getfield 19, 3) := by decide +kernel
theorem dX11_from_39 : decode cX11_from 39 = .ok (.iload_n 1, 1) := by decide +kernel
theorem dX11_from_40 : decode cX11_from 40 = .ok (.aaload, 1) := by decide +kernel
theorem dX11_from_41 : decode cX11_from 41 = .ok (.invokevirtual 92, 3) := by decide +kernel
theorem dX11_from_44 : decode cX11_from 44 = .ok (.iconst 1, 1) := by decide +kernel
theorem dX11_from_45 : decode cX11_from 45 = .ok (.ireturn, 1) := by decide +kernel
theorem dX11_status_0 : decode cX11_status 0 = .ok (.iload_n 1, 1) := by decide +kernel
theorem dX11_status_1 : decode cX11_status 1 = .ok (.iconst 3, 1) := by decide +kernel
theorem dX11_status_2 : decode cX11_status 2 = .ok (.invokestatic 59, 3) := by decide +kernel
theorem dX11_status_5 : decode cX11_status 5 = .ok (.ifCond .ne 12, 3) := by decide +kernel
theorem dX11_status_8 : decode cX11_status 8 = .ok (.aload_n 0, 1) := by decide +kernel
theorem dX11_status_9 : decode cX11_status 9 = .ok (.bipush (-2), 2) := by decide +kernel
theorem dX11_status_11 : decode cX11_status 11 = .ok (.invokevirtual 63, 3) := by decide +kernel
theorem dX11_status_14 : decode cX11_status 14 = .ok (.pop, 1) := by decide +kernel
theorem dX11_status_15 : decode cX11_status 15 = .ok (.iconst (-1), 1) := by decide +kernel
theorem dX11_status_16 : decode cX11_status 16 = .ok (.ireturn, 1) := by decide +kernel
theorem dX11_status_17 : decode cX11_status 17 = .ok (.aload_n 0, 1) := by decide +kernel
theorem dX11_status_18 : decode cX11_status 18 = .ok (.getfield 55, 3) := by decide +kernel
theorem dX11_status_21 : decode cX11_status 21 = .ok (.iload_n 1, 1) := by decide +kernel
theorem dX11_status_22 : decode cX11_status 22 = .ok (.iaload, 1) := by decide +kernel
theorem dX11_status_23 : decode cX11_status 23 = .ok (.ireturn, 1) := by decide +kernel
theorem dX11_count_0 : decode cX11_count 0 = .ok (.iload_n 1, 1) := by decide +kernel
theorem dX11_count_1 : decode cX11_count 1 = .ok (.bipush 7, 2) := by decide +kernel
theorem dX11_count_3 : decode cX11_count 3 = .ok (.invokestatic 59, 3) := by decide +kernel
theorem dX11_count_6 : decode cX11_count 6 = .ok (.ifCond .eq 11, 3) := by decide +kernel
theorem dX11_count_9 : decode cX11_count 9 = .ok (.aload_n 0, 1) := by decide +kernel
theorem dX11_count_10 : decode cX11_count 10 = .ok (.iload_n 1, 1) := by decide +kernel
theorem dX11_count_11 : decode cX11_count 11 = .ok (.invokevirtual 219, 3) := by decide +kernel
theorem dX11_count_14 : decode cX11_count 14 = .ok (.goto 9, 3) := by decide +kernel
theorem dX11_count_17 : decode cX11_count 17 = .ok (.aload_n 0, 1) := by decide +kernel
theorem dX11_count_18 : decode cX11_count 18 = .ok (.bipush (-2), 2) := by decide +kernel
theorem dX11_count_20 : decode cX11_count 20 = .ok (.invokevirtual 63, 3) := by decide +kernel
theorem dX11_count_23 : decode cX11_count 23 = .ok (.ireturn, 1) := by decide +kernel
theorem dX11_digest_0 : decode cX11_digest 0 = .ok (.ldc2_w 222, 3) := by decide +kernel
theorem dX11_digest_3 : decode cX11_digest 3 = .ok (.lstore_n 1, 1) := by decide +kernel
theorem dX11_digest_4 : decode cX11_digest 4 = .ok (.iconst 0, 1) := by decide +kernel
theorem dX11_digest_5 : decode cX11_digest 5 = .ok (.istore_n 3, 1) := by decide +kernel
theorem dX11_digest_6 : decode cX11_digest 6 = .ok (.iload_n 3, 1) := by decide +kernel
theorem dX11_digest_7 : decode cX11_digest 7 = .ok (.bipush 7, 2) := by decide +kernel
theorem dX11_digest_9 : decode cX11_digest 9 = .ok (.if_icmp .ge 22, 3) := by decide +kernel
theorem dX11_digest_12 : decode cX11_digest 12 = .ok (.ldc2_w 224, 3) := by decide +kernel
theorem dX11_digest_15 : decode cX11_digest 15 = .ok (.lload_n 1, 1) := by decide +kernel
theorem dX11_digest_16 : decode cX11_digest 16 = .ok (.lmul, 1) := by decide +kernel
theorem dX11_digest_17 : decode cX11_digest 17 = .ok (.aload_n 0, 1) := by decide +kernel
theorem dX11_digest_18 : decode cX11_digest 18 = .ok (.iload_n 3, 1) := by decide +kernel
theorem dX11_digest_19 : decode cX11_digest 19 = .ok (.invokevirtual 219, 3) := by decide +kernel
theorem dX11_digest_22 : decode cX11_digest 22 = .ok (.i2l, 1) := by decide +kernel
theorem dX11_digest_23 : decode cX11_digest 23 = .ok (.ladd, 1) := by decide +kernel
theorem dX11_digest_24 : decode cX11_digest 24 = .ok (.lstore_n 1, 1) := by decide +kernel
theorem dX11_digest_25 : decode cX11_digest 25 = .ok (.iinc 3 1, 3) := by decide +kernel
theorem dX11_digest_28 : decode cX11_digest 28 = .ok (.goto (-22), 3) := by decide +kernel
theorem dX11_digest_31 : decode cX11_digest 31 = .ok (.aload_n 0, 1) := by decide +kernel
theorem dX11_digest_32 : decode cX11_digest 32 = .ok (.getfield 10, 3) := by decide +kernel
theorem dX11_digest_35 : decode cX11_digest 35 = .ok (.lload_n 1, 1) := by decide +kernel
theorem dX11_digest_36 : decode cX11_digest 36 = .ok (.invokevirtual 226, 3) := by decide +kernel
theorem dX11_digest_39 : decode cX11_digest 39 = .ok (.lstore_n 1, 1) := by decide +kernel
theorem dX11_digest_40 : decode cX11_digest 40 = .ok (.ldc2_w 224, 3) := by decide +kernel
theorem dX11_digest_43 : decode cX11_digest 43 = .ok (.lload_n 1, 1) := by decide +kernel
theorem dX11_digest_44 : decode cX11_digest 44 = .ok (.lmul, 1) := by decide +kernel
theorem dX11_digest_45 : decode cX11_digest 45 = .ok (.aload_n 0, 1) := by decide +kernel
theorem dX11_digest_46 : decode cX11_digest 46 = .ok (.getfield 37, 3) := by decide +kernel
theorem dX11_digest_49 : decode cX11_digest 49 = .ok (.getfield 212, 3) := by decide +kernel
theorem dX11_digest_52 : decode cX11_digest 52 = .ok (.ladd, 1) := by decide +kernel
theorem dX11_digest_53 : decode cX11_digest 53 = .ok (.lstore_n 1, 1) := by decide +kernel
theorem dX11_digest_54 : decode cX11_digest 54 = .ok (.ldc2_w 224, 3) := by decide +kernel
theorem dX11_digest_57 : decode cX11_digest 57 = .ok (.lload_n 1, 1) := by decide +kernel
theorem dX11_digest_58 : decode cX11_digest 58 = .ok (.lmul, 1) := by decide +kernel
theorem dX11_digest_59 : decode cX11_digest 59 = .ok (.aload_n 0, 1) := by decide +kernel
theorem dX11_digest_60 : decode cX11_digest 60 = .ok (.getfield 37, 3) := by decide +kernel
theorem dX11_digest_63 : decode cX11_digest 63 = .ok (.getfield 216, 3) := by decide +kernel
theorem dX11_digest_66 : decode cX11_digest 66 = .ok (.ladd, 1) := by decide +kernel
theorem dX11_digest_67 : decode cX11_digest 67 = .ok (.lreturn, 1) := by decide +kernel
theorem dX11_within_0 : decode cX11_within 0 = .ok (.iload_n 0, 1) := by decide +kernel
theorem dX11_within_1 : decode cX11_within 1 = .ok (.ifCond .lt 12, 3) := by decide +kernel
theorem dX11_within_4 : decode cX11_within 4 = .ok (.iload_n 0, 1) := by decide +kernel
theorem dX11_within_5 : decode cX11_within 5 = .ok (.iload_n 1, 1) := by decide +kernel
theorem dX11_within_6 : decode cX11_within 6 = .ok (.if_icmp .ge 7, 3) := by decide +kernel
theorem dX11_within_9 : decode cX11_within 9 = .ok (.iconst 1, 1) := by decide +kernel
theorem dX11_within_10 : decode cX11_within 10 = .ok (.goto 4, 3) := by decide +kernel
theorem dX11_within_13 : decode cX11_within 13 = .ok (.iconst 0, 1) := by decide +kernel
theorem dX11_within_14 : decode cX11_within 14 = .ok (.ireturn, 1) := by decide +kernel
theorem dX11_bit_0 : decode cX11_bit 0 = .ok (.iload_n 0, 1) := by decide +kernel
theorem dX11_bit_1 : decode cX11_bit 1 = .ok (.iload_n 1, 1) := by decide +kernel
theorem dX11_bit_2 : decode cX11_bit 2 = .ok (.ishr, 1) := by decide +kernel
theorem dX11_bit_3 : decode cX11_bit 3 = .ok (.iconst 1, 1) := by decide +kernel
theorem dX11_bit_4 : decode cX11_bit 4 = .ok (.iand, 1) := by decide +kernel
theorem dX11_bit_5 : decode cX11_bit 5 = .ok (.ireturn, 1) := by decide +kernel
theorem dX11_isThere_0 : decode cX11_isThere 0 = .ok (.iload_n 1, 1) := by decide +kernel
theorem dX11_isThere_1 : decode cX11_isThere 1 = .ok (.aload_n 0, 1) := by decide +kernel
theorem dX11_isThere_2 : decode cX11_isThere 2 = .ok (.getfield 10, 3) := by decide +kernel
theorem dX11_isThere_5 : decode cX11_isThere 5 = .ok (.getfield 67, 3) := by decide +kernel
theorem dX11_isThere_8 : decode cX11_isThere 8 = .ok (.invokestatic 59, 3) := by decide +kernel
theorem dX11_isThere_11 : decode cX11_isThere 11 = .ok (.ireturn, 1) := by decide +kernel
theorem dX11_refuse_0 : decode cX11_refuse 0 = .ok (.bipush (-2), 2) := by decide +kernel
theorem dX11_refuse_2 : decode cX11_refuse 2 = .ok (.iload_n 1, 1) := by decide +kernel
theorem dX11_refuse_3 : decode cX11_refuse 3 = .ok (.isub, 1) := by decide +kernel
theorem dX11_refuse_4 : decode cX11_refuse 4 = .ok (.istore_n 2, 1) := by decide +kernel
theorem dX11_refuse_5 : decode cX11_refuse 5 = .ok (.iload_n 2, 1) := by decide +kernel
theorem dX11_refuse_6 : decode cX11_refuse 6 = .ok (.aload_n 0, 1) := by decide +kernel
theorem dX11_refuse_7 : decode cX11_refuse 7 = .ok (.getfield 55, 3) := by decide +kernel
theorem dX11_refuse_10 : decode cX11_refuse 10 = .ok (.arraylength, 1) := by decide +kernel
theorem dX11_refuse_11 : decode cX11_refuse 11 = .ok (.invokestatic 59, 3) := by decide +kernel
theorem dX11_refuse_14 : decode cX11_refuse 14 = .ok (.ifCond .eq 13, 3) := by decide +kernel
theorem dX11_refuse_17 : decode cX11_refuse 17 = .ok (.aload_n 0, 1) := by decide +kernel
theorem dX11_refuse_18 : decode cX11_refuse 18 = .ok (.getfield 55, 3) := by decide +kernel
theorem dX11_refuse_21 : decode cX11_refuse 21 = .ok (.iload_n 2, 1) := by decide +kernel
theorem dX11_refuse_22 : decode cX11_refuse 22 = .ok (.dup2, 1) := by decide +kernel
theorem dX11_refuse_23 : decode cX11_refuse 23 = .ok (.iaload, 1) := by decide +kernel
theorem dX11_refuse_24 : decode cX11_refuse 24 = .ok (.iconst 1, 1) := by decide +kernel
theorem dX11_refuse_25 : decode cX11_refuse 25 = .ok (.iadd, 1) := by decide +kernel
theorem dX11_refuse_26 : decode cX11_refuse 26 = .ok (.iastore, 1) := by decide +kernel
theorem dX11_refuse_27 : decode cX11_refuse 27 = .ok (.iload_n 1, 1) := by decide +kernel
theorem dX11_refuse_28 : decode cX11_refuse 28 = .ok (.ireturn, 1) := by decide +kernel
theorem dX11_amount_0 : decode cX11_amount 0 = .ok (.iload_n 1, 1) := by decide +kernel
theorem dX11_amount_1 : decode cX11_amount 1 = .ok (.tableswitch 93 0 5 #[39, 47, 55, 69, 77, 85], 39) := by decide +kernel
theorem dX11_amount_40 : decode cX11_amount 40 = .ok (.aload_n 0, 1) := by decide +kernel
theorem dX11_amount_41 : decode cX11_amount 41 = .ok (.getfield 10, 3) := by decide +kernel
theorem dX11_amount_44 : decode cX11_amount 44 = .ok (.getfield 67, 3) := by decide +kernel
theorem dX11_amount_47 : decode cX11_amount 47 = .ok (.ireturn, 1) := by decide +kernel
theorem dX11_amount_48 : decode cX11_amount 48 = .ok (.aload_n 0, 1) := by decide +kernel
theorem dX11_amount_49 : decode cX11_amount 49 = .ok (.getfield 10, 3) := by decide +kernel
theorem dX11_amount_52 : decode cX11_amount 52 = .ok (.getfield 117, 3) := by decide +kernel
theorem dX11_amount_55 : decode cX11_amount 55 = .ok (.ireturn, 1) := by decide +kernel
theorem dX11_amount_56 : decode cX11_amount 56 = .ok (.aload_n 0, 1) := by decide +kernel
theorem dX11_amount_57 : decode cX11_amount 57 = .ok (.getfield 10, 3) := by decide +kernel
theorem dX11_amount_60 : decode cX11_amount 60 = .ok (.getfield 107, 3) := by decide +kernel
theorem dX11_amount_63 : decode cX11_amount 63 = .ok (.invokestatic 230, 3) := by decide +kernel
theorem dX11_amount_66 : decode cX11_amount 66 = .ok (.invokestatic 132, 3) := by decide +kernel
theorem dX11_amount_69 : decode cX11_amount 69 = .ok (.ireturn, 1) := by decide +kernel
theorem dX11_amount_70 : decode cX11_amount 70 = .ok (.aload_n 0, 1) := by decide +kernel
theorem dX11_amount_71 : decode cX11_amount 71 = .ok (.getfield 10, 3) := by decide +kernel
theorem dX11_amount_74 : decode cX11_amount 74 = .ok (.getfield 157, 3) := by decide +kernel
theorem dX11_amount_77 : decode cX11_amount 77 = .ok (.ireturn, 1) := by decide +kernel
theorem dX11_amount_78 : decode cX11_amount 78 = .ok (.aload_n 0, 1) := by decide +kernel
theorem dX11_amount_79 : decode cX11_amount 79 = .ok (.getfield 10, 3) := by decide +kernel
theorem dX11_amount_82 : decode cX11_amount 82 = .ok (.getfield 183, 3) := by decide +kernel
theorem dX11_amount_85 : decode cX11_amount 85 = .ok (.ireturn, 1) := by decide +kernel
theorem dX11_amount_86 : decode cX11_amount 86 = .ok (.aload_n 0, 1) := by decide +kernel
theorem dX11_amount_87 : decode cX11_amount 87 = .ok (.getfield 10, 3) := by decide +kernel
theorem dX11_amount_90 : decode cX11_amount 90 = .ok (.getfield 120, 3) := by decide +kernel
theorem dX11_amount_93 : decode cX11_amount 93 = .ok (.ireturn, 1) := by decide +kernel
theorem dX11_amount_94 : decode cX11_amount 94 = .ok (.aload_n 0, 1) := by decide +kernel
theorem dX11_amount_95 : decode cX11_amount 95 = .ok (.getfield 30, 3) := by decide +kernel
theorem dX11_amount_98 : decode cX11_amount 98 = .ok (.getfield 79, 3) := by decide +kernel
theorem dX11_amount_101 : decode cX11_amount 101 = .ok (.ireturn, 1) := by decide +kernel
theorem dX11_turnersAt_0 : decode cX11_turnersAt 0 = .ok (.aload_n 0, 1) := by decide +kernel
theorem dX11_turnersAt_1 : decode cX11_turnersAt 1 = .ok (.getfield 44, 3) := by decide +kernel
theorem dX11_turnersAt_4 : decode cX11_turnersAt 4 = .ok (.aload_n 0, 1) := by decide +kernel
theorem dX11_turnersAt_5 : decode cX11_turnersAt 5 = .ok (.getfield 10, 3) := by decide +kernel
theorem dX11_turnersAt_8 : decode cX11_turnersAt 8 = .ok (.iload_n 2, 1) := by decide +kernel
theorem dX11_turnersAt_9 : decode cX11_turnersAt 9 = .ok (.invokevirtual 234, 3) := by decide +kernel
theorem dX11_turnersAt_12 : decode cX11_turnersAt 12 = .ok (.aload_n 0, 1) := by decide +kernel
theorem dX11_turnersAt_13 : decode cX11_turnersAt 13 = .ok (.getfield 44, 3) := by decide +kernel
theorem dX11_turnersAt_16 : decode cX11_turnersAt 16 = .ok (.aload_n 0, 1) := by decide +kernel
theorem dX11_turnersAt_17 : decode cX11_turnersAt 17 = .ok (.getfield 10, 3) := by decide +kernel
theorem dX11_turnersAt_20 : decode cX11_turnersAt 20 = .ok (.getfield 107, 3) := by decide +kernel
theorem dX11_turnersAt_23 : decode cX11_turnersAt 23 = .ok (.iload_n 1, 1) := by decide +kernel
theorem dX11_turnersAt_24 : decode cX11_turnersAt 24 = .ok (.iload_n 2, 1) := by decide +kernel
theorem dX11_turnersAt_25 : decode cX11_turnersAt 25 = .ok (.invokevirtual 238, 3) := by decide +kernel
theorem dX11_turnersAt_28 : decode cX11_turnersAt 28 = .ok (.ireturn, 1) := by decide +kernel
theorem dX11_settle_0 : decode cX11_settle 0 = .ok (.iload_n 2, 1) := by decide +kernel
theorem dX11_settle_1 : decode cX11_settle 1 = .ok (.ifCond .eq 12, 3) := by decide +kernel
theorem dX11_settle_4 : decode cX11_settle 4 = .ok (.iload_n 1, 1) := by decide +kernel
theorem dX11_settle_5 : decode cX11_settle 5 = .ok (.aload_n 0, 1) := by decide +kernel
theorem dX11_settle_6 : decode cX11_settle 6 = .ok (.arraylength, 1) := by decide +kernel
theorem dX11_settle_7 : decode cX11_settle 7 = .ok (.invokestatic 59, 3) := by decide +kernel
theorem dX11_settle_10 : decode cX11_settle 10 = .ok (.ifCond .ne 4, 3) := by decide +kernel
theorem dX11_settle_13 : decode cX11_settle 13 = .ok (.return_, 1) := by decide +kernel
theorem dX11_settle_14 : decode cX11_settle 14 = .ok (.iconst 0, 1) := by decide +kernel
theorem dX11_settle_15 : decode cX11_settle 15 = .ok (.istore_n 3, 1) := by decide +kernel
theorem dX11_settle_16 : decode cX11_settle 16 = .ok (.iload_n 3, 1) := by decide +kernel
theorem dX11_settle_17 : decode cX11_settle 17 = .ok (.aload_n 0, 1) := by decide +kernel
theorem dX11_settle_18 : decode cX11_settle 18 = .ok (.arraylength, 1) := by decide +kernel
theorem dX11_settle_19 : decode cX11_settle 19 = .ok (.if_icmp .ge 18, 3) := by decide +kernel
theorem dX11_settle_22 : decode cX11_settle 22 = .ok (.aload_n 0, 1) := by decide +kernel
theorem dX11_settle_23 : decode cX11_settle 23 = .ok (.iload_n 3, 1) := by decide +kernel
theorem dX11_settle_24 : decode cX11_settle 24 = .ok (.dup2, 1) := by decide +kernel
theorem dX11_settle_25 : decode cX11_settle 25 = .ok (.iaload, 1) := by decide +kernel
theorem dX11_settle_26 : decode cX11_settle 26 = .ok (.iload_n 2, 1) := by decide +kernel
theorem dX11_settle_27 : decode cX11_settle 27 = .ok (.iconst (-1), 1) := by decide +kernel
theorem dX11_settle_28 : decode cX11_settle 28 = .ok (.ixor, 1) := by decide +kernel
theorem dX11_settle_29 : decode cX11_settle 29 = .ok (.iand, 1) := by decide +kernel
theorem dX11_settle_30 : decode cX11_settle 30 = .ok (.iastore, 1) := by decide +kernel
theorem dX11_settle_31 : decode cX11_settle 31 = .ok (.iinc 3 1, 3) := by decide +kernel
theorem dX11_settle_34 : decode cX11_settle 34 = .ok (.goto (-18), 3) := by decide +kernel
theorem dX11_settle_37 : decode cX11_settle 37 = .ok (.aload_n 0, 1) := by decide +kernel
theorem dX11_settle_38 : decode cX11_settle 38 = .ok (.iload_n 1, 1) := by decide +kernel
theorem dX11_settle_39 : decode cX11_settle 39 = .ok (.iload_n 2, 1) := by decide +kernel
theorem dX11_settle_40 : decode cX11_settle 40 = .ok (.iastore, 1) := by decide +kernel
theorem dX11_settle_41 : decode cX11_settle 41 = .ok (.return_, 1) := by decide +kernel
theorem dX11_bearersBehind_0 : decode cX11_bearersBehind 0 = .ok (.iload_n 1, 1) := by decide +kernel
theorem dX11_bearersBehind_1 : decode cX11_bearersBehind 1 = .ok (.ifCond .ne 7, 3) := by decide +kernel
theorem dX11_bearersBehind_4 : decode cX11_bearersBehind 4 = .ok (.iload_n 0, 1) := by decide +kernel
theorem dX11_bearersBehind_5 : decode cX11_bearersBehind 5 = .ok (.goto 4, 3) := by decide +kernel
theorem dX11_bearersBehind_8 : decode cX11_bearersBehind 8 = .ok (.iload_n 1, 1) := by decide +kernel
theorem dX11_bearersBehind_9 : decode cX11_bearersBehind 9 = .ok (.ireturn, 1) := by decide +kernel
theorem dX11_owners_0 : decode cX11_owners 0 = .ok (.iconst 0, 1) := by decide +kernel
theorem dX11_owners_1 : decode cX11_owners 1 = .ok (.istore_n 1, 1) := by decide +kernel
theorem dX11_owners_2 : decode cX11_owners 2 = .ok (.iconst 0, 1) := by decide +kernel
theorem dX11_owners_3 : decode cX11_owners 3 = .ok (.istore_n 2, 1) := by decide +kernel
theorem dX11_owners_4 : decode cX11_owners 4 = .ok (.iload_n 2, 1) := by decide +kernel
theorem dX11_owners_5 : decode cX11_owners 5 = .ok (.aload_n 0, 1) := by decide +kernel
theorem dX11_owners_6 : decode cX11_owners 6 = .ok (.arraylength, 1) := by decide +kernel
theorem dX11_owners_7 : decode cX11_owners 7 = .ok (.if_icmp .ge 19, 3) := by decide +kernel
theorem dX11_owners_10 : decode cX11_owners 10 = .ok (.iload_n 1, 1) := by decide +kernel
theorem dX11_owners_11 : decode cX11_owners 11 = .ok (.aload_n 0, 1) := by decide +kernel
theorem dX11_owners_12 : decode cX11_owners 12 = .ok (.iload_n 2, 1) := by decide +kernel
theorem dX11_owners_13 : decode cX11_owners 13 = .ok (.iaload, 1) := by decide +kernel
theorem dX11_owners_14 : decode cX11_owners 14 = .ok (.iconst 1, 1) := by decide +kernel
theorem dX11_owners_15 : decode cX11_owners 15 = .ok (.iload_n 2, 1) := by decide +kernel
theorem dX11_owners_16 : decode cX11_owners 16 = .ok (.ishl, 1) := by decide +kernel
theorem dX11_owners_17 : decode cX11_owners 17 = .ok (.iand, 1) := by decide +kernel
theorem dX11_owners_18 : decode cX11_owners 18 = .ok (.ior, 1) := by decide +kernel
theorem dX11_owners_19 : decode cX11_owners 19 = .ok (.istore_n 1, 1) := by decide +kernel
theorem dX11_owners_20 : decode cX11_owners 20 = .ok (.iinc 2 1, 3) := by decide +kernel
theorem dX11_owners_23 : decode cX11_owners 23 = .ok (.goto (-19), 3) := by decide +kernel
theorem dX11_owners_26 : decode cX11_owners 26 = .ok (.iload_n 1, 1) := by decide +kernel
theorem dX11_owners_27 : decode cX11_owners 27 = .ok (.ireturn, 1) := by decide +kernel
theorem dX11_stopped_0 : decode cX11_stopped 0 = .ok (.iload_n 0, 1) := by decide +kernel
theorem dX11_stopped_1 : decode cX11_stopped 1 = .ok (.iconst 0, 1) := by decide +kernel
theorem dX11_stopped_2 : decode cX11_stopped 2 = .ok (.invokestatic 180, 3) := by decide +kernel
theorem dX11_stopped_5 : decode cX11_stopped 5 = .ok (.iload_n 1, 1) := by decide +kernel
theorem dX11_stopped_6 : decode cX11_stopped 6 = .ok (.ishl, 1) := by decide +kernel
theorem dX11_stopped_7 : decode cX11_stopped 7 = .ok (.iload_n 0, 1) := by decide +kernel
theorem dX11_stopped_8 : decode cX11_stopped 8 = .ok (.iconst 1, 1) := by decide +kernel
theorem dX11_stopped_9 : decode cX11_stopped 9 = .ok (.invokestatic 180, 3) := by decide +kernel
theorem dX11_stopped_12 : decode cX11_stopped 12 = .ok (.iload_n 2, 1) := by decide +kernel
theorem dX11_stopped_13 : decode cX11_stopped 13 = .ok (.ishl, 1) := by decide +kernel
theorem dX11_stopped_14 : decode cX11_stopped 14 = .ok (.ior, 1) := by decide +kernel
theorem dX11_stopped_15 : decode cX11_stopped 15 = .ok (.ireturn, 1) := by decide +kernel
theorem dX11_fits_0 : decode cX11_fits 0 = .ok (.iconst 0, 1) := by decide +kernel
theorem dX11_fits_1 : decode cX11_fits 1 = .ok (.istore 4, 2) := by decide +kernel
theorem dX11_fits_3 : decode cX11_fits 3 = .ok (.iload 4, 2) := by decide +kernel
theorem dX11_fits_5 : decode cX11_fits 5 = .ok (.aload_n 0, 1) := by decide +kernel
theorem dX11_fits_6 : decode cX11_fits 6 = .ok (.getfield 10, 3) := by decide +kernel
theorem dX11_fits_9 : decode cX11_fits 9 = .ok (.getfield 183, 3) := by decide +kernel
theorem dX11_fits_12 : decode cX11_fits 12 = .ok (.if_icmp .ge 122, 3) := by decide +kernel
theorem dX11_fits_15 : decode cX11_fits 15 = .ok (.iload 4, 2) := by decide +kernel
theorem dX11_fits_17 : decode cX11_fits 17 = .ok (.iconst 5, 1) := by decide +kernel
theorem dX11_fits_18 : decode cX11_fits 18 = .ok (.imul, 1) := by decide +kernel
theorem dX11_fits_19 : decode cX11_fits 19 = .ok (.istore 5, 2) := by decide +kernel
theorem dX11_fits_21 : decode cX11_fits 21 = .ok (.aload_n 0, 1) := by decide +kernel
theorem dX11_fits_22 : decode cX11_fits 22 = .ok (.getfield 10, 3) := by decide +kernel
theorem dX11_fits_25 : decode cX11_fits 25 = .ok (.getfield 242, 3) := by decide +kernel
theorem dX11_fits_28 : decode cX11_fits 28 = .ok (.iload 5, 2) := by decide +kernel
theorem dX11_fits_30 : decode cX11_fits 30 = .ok (.iaload, 1) := by decide +kernel
theorem dX11_fits_31 : decode cX11_fits 31 = .ok (.iload_n 1, 1) := by decide +kernel
theorem dX11_fits_32 : decode cX11_fits 32 = .ok (.if_icmp .ne 96, 3) := by decide +kernel
theorem dX11_fits_35 : decode cX11_fits 35 = .ok (.iload_n 3, 1) := by decide +kernel
theorem dX11_fits_36 : decode cX11_fits 36 = .ok (.aload_n 0, 1) := by decide +kernel
theorem dX11_fits_37 : decode cX11_fits 37 = .ok (.getfield 10, 3) := by decide +kernel
theorem dX11_fits_40 : decode cX11_fits 40 = .ok (.getfield 242, 3) := by decide +kernel
theorem dX11_fits_43 : decode cX11_fits 43 = .ok (.iload 5, 2) := by decide +kernel
theorem dX11_fits_45 : decode cX11_fits 45 = .ok (.iconst 1, 1) := by decide +kernel
theorem dX11_fits_46 : decode cX11_fits 46 = .ok (.iadd, 1) := by decide +kernel
theorem dX11_fits_47 : decode cX11_fits 47 = .ok (.iaload, 1) := by decide +kernel
theorem dX11_fits_48 : decode cX11_fits 48 = .ok (.isub, 1) := by decide +kernel
theorem dX11_fits_49 : decode cX11_fits 49 = .ok (.invokestatic 245, 3) := by decide +kernel
theorem dX11_fits_52 : decode cX11_fits 52 = .ok (.istore 6, 2) := by decide +kernel
theorem dX11_fits_54 : decode cX11_fits 54 = .ok (.aload_n 0, 1) := by decide +kernel
theorem dX11_fits_55 : decode cX11_fits 55 = .ok (.getfield 44, 3) := by decide +kernel
theorem dX11_fits_58 : decode cX11_fits 58 = .ok (.iload_n 2, 1) := by decide +kernel
theorem dX11_fits_59 : decode cX11_fits 59 = .ok (.iload 6, 2) := by decide +kernel
theorem dX11_fits_61 : decode cX11_fits 61 = .ok (.aload_n 0, 1) := by decide +kernel
theorem dX11_fits_62 : decode cX11_fits 62 = .ok (.getfield 10, 3) := by decide +kernel
theorem dX11_fits_65 : decode cX11_fits 65 = .ok (.getfield 242, 3) := by decide +kernel
theorem dX11_fits_68 : decode cX11_fits 68 = .ok (.iload 5, 2) := by decide +kernel
theorem dX11_fits_70 : decode cX11_fits 70 = .ok (.iconst 3, 1) := by decide +kernel
theorem dX11_fits_71 : decode cX11_fits 71 = .ok (.iadd, 1) := by decide +kernel
theorem dX11_fits_72 : decode cX11_fits 72 = .ok (.iaload, 1) := by decide +kernel
theorem dX11_fits_73 : decode cX11_fits 73 = .ok (.iconst 1, 1) := by decide +kernel
theorem dX11_fits_74 : decode cX11_fits 74 = .ok (.if_icmp .ne 7, 3) := by decide +kernel
theorem dX11_fits_77 : decode cX11_fits 77 = .ok (.iconst 1, 1) := by decide +kernel
theorem dX11_fits_78 : decode cX11_fits 78 = .ok (.goto 4, 3) := by decide +kernel
theorem dX11_fits_81 : decode cX11_fits 81 = .ok (.iconst 0, 1) := by decide +kernel
theorem dX11_fits_82 : decode cX11_fits 82 = .ok (.iconst 0, 1) := by decide +kernel
theorem dX11_fits_83 : decode cX11_fits 83 = .ok (.aload_n 0, 1) := by decide +kernel
theorem dX11_fits_84 : decode cX11_fits 84 = .ok (.getfield 10, 3) := by decide +kernel
theorem dX11_fits_87 : decode cX11_fits 87 = .ok (.getfield 242, 3) := by decide +kernel
theorem dX11_fits_90 : decode cX11_fits 90 = .ok (.iload 5, 2) := by decide +kernel
theorem dX11_fits_92 : decode cX11_fits 92 = .ok (.iconst 2, 1) := by decide +kernel
theorem dX11_fits_93 : decode cX11_fits 93 = .ok (.iadd, 1) := by decide +kernel
theorem dX11_fits_94 : decode cX11_fits 94 = .ok (.iaload, 1) := by decide +kernel
theorem dX11_fits_95 : decode cX11_fits 95 = .ok (.invokevirtual 248, 3) := by decide +kernel
theorem dX11_fits_98 : decode cX11_fits 98 = .ok (.istore 7, 2) := by decide +kernel
theorem dX11_fits_100 : decode cX11_fits 100 = .ok (.iload 7, 2) := by decide +kernel
theorem dX11_fits_102 : decode cX11_fits 102 = .ok (.aload_n 0, 1) := by decide +kernel
theorem dX11_fits_103 : decode cX11_fits 103 = .ok (.getfield 10, 3) := by decide +kernel
theorem dX11_fits_106 : decode cX11_fits 106 = .ok (.getfield 242, 3) := by decide +kernel
theorem dX11_fits_109 : decode cX11_fits 109 = .ok (.iload 5, 2) := by decide +kernel
theorem dX11_fits_111 : decode cX11_fits 111 = .ok (.iconst 4, 1) := by decide +kernel
theorem dX11_fits_112 : decode cX11_fits 112 = .ok (.iadd, 1) := by decide +kernel
theorem dX11_fits_113 : decode cX11_fits 113 = .ok (.iaload, 1) := by decide +kernel
theorem dX11_fits_114 : decode cX11_fits 114 = .ok (.iconst 1, 1) := by decide +kernel
theorem dX11_fits_115 : decode cX11_fits 115 = .ok (.if_icmp .ne 7, 3) := by decide +kernel
theorem dX11_fits_118 : decode cX11_fits 118 = .ok (.iconst 1, 1) := by decide +kernel
theorem dX11_fits_119 : decode cX11_fits 119 = .ok (.goto 4, 3) := by decide +kernel
theorem dX11_fits_122 : decode cX11_fits 122 = .ok (.iconst 0, 1) := by decide +kernel
theorem dX11_fits_123 : decode cX11_fits 123 = .ok (.if_icmp .eq 5, 3) := by decide +kernel
theorem dX11_fits_126 : decode cX11_fits 126 = .ok (.iconst 0, 1) := by decide +kernel
theorem dX11_fits_127 : decode cX11_fits 127 = .ok (.ireturn, 1) := by decide +kernel
theorem dX11_fits_128 : decode cX11_fits 128 = .ok (.iinc 4 1, 3) := by decide +kernel
theorem dX11_fits_131 : decode cX11_fits 131 = .ok (.goto (-128), 3) := by decide +kernel
theorem dX11_fits_134 : decode cX11_fits 134 = .ok (.iconst 1, 1) := by decide +kernel
theorem dX11_fits_135 : decode cX11_fits 135 = .ok (.ireturn, 1) := by decide +kernel
theorem dX11_placesThatFit_0 : decode cX11_placesThatFit 0 = .ok (.iconst 0, 1) := by decide +kernel
theorem dX11_placesThatFit_1 : decode cX11_placesThatFit 1 = .ok (.istore_n 2, 1) := by decide +kernel
theorem dX11_placesThatFit_2 : decode cX11_placesThatFit 2 = .ok (.iconst 0, 1) := by decide +kernel
theorem dX11_placesThatFit_3 : decode cX11_placesThatFit 3 = .ok (.istore_n 3, 1) := by decide +kernel
theorem dX11_placesThatFit_4 : decode cX11_placesThatFit 4 = .ok (.iload_n 3, 1) := by decide +kernel
theorem dX11_placesThatFit_5 : decode cX11_placesThatFit 5 = .ok (.bipush 10, 2) := by decide +kernel
theorem dX11_placesThatFit_7 : decode cX11_placesThatFit 7 = .ok (.if_icmp .ge 33, 3) := by decide +kernel
theorem dX11_placesThatFit_10 : decode cX11_placesThatFit 10 = .ok (.aload_n 0, 1) := by decide +kernel
theorem dX11_placesThatFit_11 : decode cX11_placesThatFit 11 = .ok (.iload_n 1, 1) := by decide +kernel
theorem dX11_placesThatFit_12 : decode cX11_placesThatFit 12 = .ok (.aload_n 0, 1) := by decide +kernel
theorem dX11_placesThatFit_13 : decode cX11_placesThatFit 13 = .ok (.getfield 10, 3) := by decide +kernel
theorem dX11_placesThatFit_16 : decode cX11_placesThatFit 16 = .ok (.getfield 126, 3) := by decide +kernel
theorem dX11_placesThatFit_19 : decode cX11_placesThatFit 19 = .ok (.iload_n 1, 1) := by decide +kernel
theorem dX11_placesThatFit_20 : decode cX11_placesThatFit 20 = .ok (.iaload, 1) := by decide +kernel
theorem dX11_placesThatFit_21 : decode cX11_placesThatFit 21 = .ok (.iload_n 3, 1) := by decide +kernel
theorem dX11_placesThatFit_22 : decode cX11_placesThatFit 22 = .ok (.invokevirtual 190, 3) := by decide +kernel
theorem dX11_placesThatFit_25 : decode cX11_placesThatFit 25 = .ok (.ifCond .eq 9, 3) := by decide +kernel
theorem dX11_placesThatFit_28 : decode cX11_placesThatFit 28 = .ok (.iload_n 2, 1) := by decide +kernel
theorem dX11_placesThatFit_29 : decode cX11_placesThatFit 29 = .ok (.iconst 1, 1) := by decide +kernel
theorem dX11_placesThatFit_30 : decode cX11_placesThatFit 30 = .ok (.iload_n 3, 1) := by decide +kernel
theorem dX11_placesThatFit_31 : decode cX11_placesThatFit 31 = .ok (.ishl, 1) := by decide +kernel
theorem dX11_placesThatFit_32 : decode cX11_placesThatFit 32 = .ok (.ior, 1) := by decide +kernel
theorem dX11_placesThatFit_33 : decode cX11_placesThatFit 33 = .ok (.istore_n 2, 1) := by decide +kernel
theorem dX11_placesThatFit_34 : decode cX11_placesThatFit 34 = .ok (.iinc 3 1, 3) := by decide +kernel
theorem dX11_placesThatFit_37 : decode cX11_placesThatFit 37 = .ok (.goto (-33), 3) := by decide +kernel
theorem dX11_placesThatFit_40 : decode cX11_placesThatFit 40 = .ok (.iload_n 2, 1) := by decide +kernel
theorem dX11_placesThatFit_41 : decode cX11_placesThatFit 41 = .ok (.ireturn, 1) := by decide +kernel
theorem dX11_placesTurningAt_0 : decode cX11_placesTurningAt 0 = .ok (.iconst 0, 1) := by decide +kernel
theorem dX11_placesTurningAt_1 : decode cX11_placesTurningAt 1 = .ok (.istore_n 3, 1) := by decide +kernel
theorem dX11_placesTurningAt_2 : decode cX11_placesTurningAt 2 = .ok (.iconst 0, 1) := by decide +kernel
theorem dX11_placesTurningAt_3 : decode cX11_placesTurningAt 3 = .ok (.istore 4, 2) := by decide +kernel
theorem dX11_placesTurningAt_5 : decode cX11_placesTurningAt 5 = .ok (.iload 4, 2) := by decide +kernel
theorem dX11_placesTurningAt_7 : decode cX11_placesTurningAt 7 = .ok (.bipush 10, 2) := by decide +kernel
theorem dX11_placesTurningAt_9 : decode cX11_placesTurningAt 9 = .ok (.if_icmp .ge 51, 3) := by decide +kernel
theorem dX11_placesTurningAt_12 : decode cX11_placesTurningAt 12 = .ok (.aload_n 0, 1) := by decide +kernel
theorem dX11_placesTurningAt_13 : decode cX11_placesTurningAt 13 = .ok (.getfield 44, 3) := by decide +kernel
theorem dX11_placesTurningAt_16 : decode cX11_placesTurningAt 16 = .ok (.aload_n 0, 1) := by decide +kernel
theorem dX11_placesTurningAt_17 : decode cX11_placesTurningAt 17 = .ok (.getfield 10, 3) := by decide +kernel
theorem dX11_placesTurningAt_20 : decode cX11_placesTurningAt 20 = .ok (.getfield 126, 3) := by decide +kernel
theorem dX11_placesTurningAt_23 : decode cX11_placesTurningAt 23 = .ok (.iload_n 1, 1) := by decide +kernel
theorem dX11_placesTurningAt_24 : decode cX11_placesTurningAt 24 = .ok (.iaload, 1) := by decide +kernel
theorem dX11_placesTurningAt_25 : decode cX11_placesTurningAt 25 = .ok (.iload 4, 2) := by decide +kernel
theorem dX11_placesTurningAt_27 : decode cX11_placesTurningAt 27 = .ok (.iload_n 2, 1) := by decide +kernel
theorem dX11_placesTurningAt_28 : decode cX11_placesTurningAt 28 = .ok (.isub, 1) := by decide +kernel
theorem dX11_placesTurningAt_29 : decode cX11_placesTurningAt 29 = .ok (.invokestatic 245, 3) := by decide +kernel
theorem dX11_placesTurningAt_32 : decode cX11_placesTurningAt 32 = .ok (.iconst 0, 1) := by decide +kernel
theorem dX11_placesTurningAt_33 : decode cX11_placesTurningAt 33 = .ok (.iconst 0, 1) := by decide +kernel
theorem dX11_placesTurningAt_34 : decode cX11_placesTurningAt 34 = .ok (.aload_n 0, 1) := by decide +kernel
theorem dX11_placesTurningAt_35 : decode cX11_placesTurningAt 35 = .ok (.getfield 10, 3) := by decide +kernel
theorem dX11_placesTurningAt_38 : decode cX11_placesTurningAt 38 = .ok (.getfield 117, 3) := by decide +kernel
theorem dX11_placesTurningAt_41 : decode cX11_placesTurningAt 41 = .ok (.invokevirtual 248, 3) := by decide +kernel
theorem dX11_placesTurningAt_44 : decode cX11_placesTurningAt 44 = .ok (.ifCond .eq 10, 3) := by decide +kernel
theorem dX11_placesTurningAt_47 : decode cX11_placesTurningAt 47 = .ok (.iload_n 3, 1) := by decide +kernel
theorem dX11_placesTurningAt_48 : decode cX11_placesTurningAt 48 = .ok (.iconst 1, 1) := by decide +kernel
theorem dX11_placesTurningAt_49 : decode cX11_placesTurningAt 49 = .ok (.iload 4, 2) := by decide +kernel
theorem dX11_placesTurningAt_51 : decode cX11_placesTurningAt 51 = .ok (.ishl, 1) := by decide +kernel
theorem dX11_placesTurningAt_52 : decode cX11_placesTurningAt 52 = .ok (.ior, 1) := by decide +kernel
theorem dX11_placesTurningAt_53 : decode cX11_placesTurningAt 53 = .ok (.istore_n 3, 1) := by decide +kernel
theorem dX11_placesTurningAt_54 : decode cX11_placesTurningAt 54 = .ok (.iinc 4 1, 3) := by decide +kernel
theorem dX11_placesTurningAt_57 : decode cX11_placesTurningAt 57 = .ok (.goto (-52), 3) := by decide +kernel
theorem dX11_placesTurningAt_60 : decode cX11_placesTurningAt 60 = .ok (.iload_n 3, 1) := by decide +kernel
theorem dX11_placesTurningAt_61 : decode cX11_placesTurningAt 61 = .ok (.ireturn, 1) := by decide +kernel
end
section
theorem dX12_init_0 : decode cX12_init 0 = .ok (.aload_n 0, 1) := by decide +kernel
theorem dX12_init_1 : decode cX12_init 1 = .ok (.invokespecial 1, 3) := by decide +kernel
theorem dX12_init_4 : decode cX12_init 4 = .ok (.aload_n 0, 1) := by decide +kernel
theorem dX12_init_5 : decode cX12_init 5 = .ok (.sipush 188, 3) := by decide +kernel
theorem dX12_init_8 : decode cX12_init 8 = .ok (.newarray .int, 2) := by decide +kernel
theorem dX12_init_10 : decode cX12_init 10 = .ok (.putfield 7, 3) := by decide +kernel
theorem dX12_init_13 : decode cX12_init 13 = .ok (.aload_n 0, 1) := by decide +kernel
theorem dX12_init_14 : decode cX12_init 14 = .ok (.sipush 376, 3) := by decide +kernel
theorem dX12_init_17 : decode cX12_init 17 = .ok (.newarray .int, 2) := by decide +kernel
theorem dX12_init_19 : decode cX12_init 19 = .ok (.putfield 13, 3) := by decide +kernel
theorem dX12_init_22 : decode cX12_init 22 = .ok (.aload_n 0, 1) := by decide +kernel
theorem dX12_init_23 : decode cX12_init 23 = .ok (.iconst 2, 1) := by decide +kernel
theorem dX12_init_24 : decode cX12_init 24 = .ok (.newarray .boolean, 2) := by decide +kernel
theorem dX12_init_26 : decode cX12_init 26 = .ok (.putfield 16, 3) := by decide +kernel
theorem dX12_init_29 : decode cX12_init 29 = .ok (.aload_n 0, 1) := by decide +kernel
theorem dX12_init_30 : decode cX12_init 30 = .ok (.iconst 3, 1) := by decide +kernel
theorem dX12_init_31 : decode cX12_init 31 = .ok (.newarray .int, 2) := by decide +kernel
theorem dX12_init_33 : decode cX12_init 33 = .ok (.putfield 20, 3) := by decide +kernel
theorem dX12_init_36 : decode cX12_init 36 = .ok (.aload_n 0, 1) := by decide +kernel
theorem dX12_init_37 : decode cX12_init 37 = .ok (.lconst 1, 1) := by decide +kernel
theorem dX12_init_38 : decode cX12_init 38 = .ok (.putfield 23, 3) := by decide +kernel
theorem dX12_init_41 : decode cX12_init 41 = .ok (.aload_n 0, 1) := by decide +kernel
theorem dX12_init_42 : decode cX12_init 42 = .ok (.bipush 7, 2) := by decide +kernel
theorem dX12_init_44 : decode cX12_init 44 = .ok (.newarray .int, 2) := by decide +kernel
theorem dX12_init_46 : decode cX12_init 46 = .ok (.putfield 27, 3) := by decide +kernel
theorem dX12_init_49 : decode cX12_init 49 = .ok (.aload_n 0, 1) := by decide +kernel
theorem dX12_init_50 : decode cX12_init 50 = .ok (.iconst 4, 1) := by decide +kernel
theorem dX12_init_51 : decode cX12_init 51 = .ok (.newarray .int, 2) := by decide +kernel
theorem dX12_init_53 : decode cX12_init 53 = .ok (.putfield 30, 3) := by decide +kernel
theorem dX12_init_56 : decode cX12_init 56 = .ok (.aload_n 0, 1) := by decide +kernel
theorem dX12_init_57 : decode cX12_init 57 = .ok (.sipush 150, 3) := by decide +kernel
theorem dX12_init_60 : decode cX12_init 60 = .ok (.newarray .int, 2) := by decide +kernel
theorem dX12_init_62 : decode cX12_init 62 = .ok (.putfield 33, 3) := by decide +kernel
theorem dX12_init_65 : decode cX12_init 65 = .ok (.aload_n 0, 1) := by decide +kernel
theorem dX12_init_66 : decode cX12_init 66 = .ok (.bipush 68, 2) := by decide +kernel
theorem dX12_init_68 : decode cX12_init 68 = .ok (.newarray .int, 2) := by decide +kernel
theorem dX12_init_70 : decode cX12_init 70 = .ok (.putfield 36, 3) := by decide +kernel
theorem dX12_init_73 : decode cX12_init 73 = .ok (.aload_n 0, 1) := by decide +kernel
theorem dX12_init_74 : decode cX12_init 74 = .ok (.iconst 2, 1) := by decide +kernel
theorem dX12_init_75 : decode cX12_init 75 = .ok (.newarray .int, 2) := by decide +kernel
theorem dX12_init_77 : decode cX12_init 77 = .ok (.putfield 39, 3) := by decide +kernel
theorem dX12_init_80 : decode cX12_init 80 = .ok (.aload_n 0, 1) := by decide +kernel
theorem dX12_init_81 : decode cX12_init 81 = .ok (.getfield 7, 3) := by decide +kernel
theorem dX12_init_84 : decode cX12_init 84 = .ok (.iconst 0, 1) := by decide +kernel
theorem dX12_init_85 : decode cX12_init 85 = .ok (.invokestatic 42, 3) := by decide +kernel
theorem dX12_init_88 : decode cX12_init 88 = .ok (.return_, 1) := by decide +kernel
theorem dX12_in_0 : decode cX12_in 0 = .ok (.lload_n 0, 1) := by decide +kernel
theorem dX12_in_1 : decode cX12_in 1 = .ok (.lload_n 2, 1) := by decide +kernel
theorem dX12_in_2 : decode cX12_in 2 = .ok (.lcmp, 1) := by decide +kernel
theorem dX12_in_3 : decode cX12_in 3 = .ok (.ifCond .lt 14, 3) := by decide +kernel
theorem dX12_in_6 : decode cX12_in 6 = .ok (.lload_n 0, 1) := by decide +kernel
theorem dX12_in_7 : decode cX12_in 7 = .ok (.lload 4, 2) := by decide +kernel
theorem dX12_in_9 : decode cX12_in 9 = .ok (.lcmp, 1) := by decide +kernel
theorem dX12_in_10 : decode cX12_in 10 = .ok (.ifCond .gt 7, 3) := by decide +kernel
theorem dX12_in_13 : decode cX12_in 13 = .ok (.iconst 1, 1) := by decide +kernel
theorem dX12_in_14 : decode cX12_in 14 = .ok (.goto 4, 3) := by decide +kernel
theorem dX12_in_17 : decode cX12_in 17 = .ok (.iconst 0, 1) := by decide +kernel
theorem dX12_in_18 : decode cX12_in 18 = .ok (.ireturn, 1) := by decide +kernel
theorem dX12_bad_0 : decode cX12_bad 0 = .ok (.aload_n 0, 1) := by decide +kernel
theorem dX12_bad_1 : decode cX12_bad 1 = .ok (.getfield 20, 3) := by decide +kernel
theorem dX12_bad_4 : decode cX12_bad 4 = .ok (.iconst 0, 1) := by decide +kernel
theorem dX12_bad_5 : decode cX12_bad 5 = .ok (.dup2, 1) := by decide +kernel
theorem dX12_bad_6 : decode cX12_bad 6 = .ok (.iaload, 1) := by decide +kernel
theorem dX12_bad_7 : decode cX12_bad 7 = .ok (.iconst 1, 1) := by decide +kernel
theorem dX12_bad_8 : decode cX12_bad 8 = .ok (.iadd, 1) := by decide +kernel
theorem dX12_bad_9 : decode cX12_bad 9 = .ok (.iastore, 1) := by decide +kernel
theorem dX12_bad_10 : decode cX12_bad 10 = .ok (.iload_n 1, 1) := by decide +kernel
theorem dX12_bad_11 : decode cX12_bad 11 = .ok (.ireturn, 1) := by decide +kernel
theorem dX12_no_0 : decode cX12_no 0 = .ok (.aload_n 0, 1) := by decide +kernel
theorem dX12_no_1 : decode cX12_no 1 = .ok (.getfield 20, 3) := by decide +kernel
theorem dX12_no_4 : decode cX12_no 4 = .ok (.iconst 1, 1) := by decide +kernel
theorem dX12_no_5 : decode cX12_no 5 = .ok (.dup2, 1) := by decide +kernel
theorem dX12_no_6 : decode cX12_no 6 = .ok (.iaload, 1) := by decide +kernel
theorem dX12_no_7 : decode cX12_no 7 = .ok (.iconst 1, 1) := by decide +kernel
theorem dX12_no_8 : decode cX12_no 8 = .ok (.iadd, 1) := by decide +kernel
theorem dX12_no_9 : decode cX12_no 9 = .ok (.iastore, 1) := by decide +kernel
theorem dX12_no_10 : decode cX12_no 10 = .ok (.bipush (-3), 2) := by decide +kernel
theorem dX12_no_12 : decode cX12_no 12 = .ok (.ireturn, 1) := by decide +kernel
theorem dX12_full_0 : decode cX12_full 0 = .ok (.aload_n 0, 1) := by decide +kernel
theorem dX12_full_1 : decode cX12_full 1 = .ok (.getfield 20, 3) := by decide +kernel
theorem dX12_full_4 : decode cX12_full 4 = .ok (.iconst 2, 1) := by decide +kernel
theorem dX12_full_5 : decode cX12_full 5 = .ok (.dup2, 1) := by decide +kernel
theorem dX12_full_6 : decode cX12_full 6 = .ok (.iaload, 1) := by decide +kernel
theorem dX12_full_7 : decode cX12_full 7 = .ok (.iconst 1, 1) := by decide +kernel
theorem dX12_full_8 : decode cX12_full 8 = .ok (.iadd, 1) := by decide +kernel
theorem dX12_full_9 : decode cX12_full 9 = .ok (.iastore, 1) := by decide +kernel
theorem dX12_full_10 : decode cX12_full 10 = .ok (.bipush (-4), 2) := by decide +kernel
theorem dX12_full_12 : decode cX12_full 12 = .ok (.ireturn, 1) := by decide +kernel
theorem dX12_bits_0 : decode cX12_bits 0 = .ok (.iconst 0, 1) := by decide +kernel
theorem dX12_bits_1 : decode cX12_bits 1 = .ok (.istore_n 1, 1) := by decide +kernel
theorem dX12_bits_2 : decode cX12_bits 2 = .ok (.iload_n 0, 1) := by decide +kernel
theorem dX12_bits_3 : decode cX12_bits 3 = .ok (.istore_n 2, 1) := by decide +kernel
theorem dX12_bits_4 : decode cX12_bits 4 = .ok (.iload_n 2, 1) := by decide +kernel
theorem dX12_bits_5 : decode cX12_bits 5 = .ok (.ifCond .le 16, 3) := by decide +kernel
theorem dX12_bits_8 : decode cX12_bits 8 = .ok (.iload_n 1, 1) := by decide +kernel
theorem dX12_bits_9 : decode cX12_bits 9 = .ok (.iload_n 2, 1) := by decide +kernel
theorem dX12_bits_10 : decode cX12_bits 10 = .ok (.iconst 1, 1) := by decide +kernel
theorem dX12_bits_11 : decode cX12_bits 11 = .ok (.iand, 1) := by decide +kernel
theorem dX12_bits_12 : decode cX12_bits 12 = .ok (.iadd, 1) := by decide +kernel
theorem dX12_bits_13 : decode cX12_bits 13 = .ok (.istore_n 1, 1) := by decide +kernel
theorem dX12_bits_14 : decode cX12_bits 14 = .ok (.iload_n 2, 1) := by decide +kernel
theorem dX12_bits_15 : decode cX12_bits 15 = .ok (.iconst 1, 1) := by decide +kernel
theorem dX12_bits_16 : decode cX12_bits 16 = .ok (.ishr, 1) := by decide +kernel
theorem dX12_bits_17 : decode cX12_bits 17 = .ok (.istore_n 2, 1) := by decide +kernel
theorem dX12_bits_18 : decode cX12_bits 18 = .ok (.goto (-14), 3) := by decide +kernel
theorem dX12_bits_21 : decode cX12_bits 21 = .ok (.iload_n 1, 1) := by decide +kernel
theorem dX12_bits_22 : decode cX12_bits 22 = .ok (.ireturn, 1) := by decide +kernel
theorem dX12_has_0 : decode cX12_has 0 = .ok (.iload_n 0, 1) := by decide +kernel
theorem dX12_has_1 : decode cX12_has 1 = .ok (.iload_n 1, 1) := by decide +kernel
theorem dX12_has_2 : decode cX12_has 2 = .ok (.ishr, 1) := by decide +kernel
theorem dX12_has_3 : decode cX12_has 3 = .ok (.iconst 1, 1) := by decide +kernel
theorem dX12_has_4 : decode cX12_has 4 = .ok (.iand, 1) := by decide +kernel
theorem dX12_has_5 : decode cX12_has 5 = .ok (.iconst 1, 1) := by decide +kernel
theorem dX12_has_6 : decode cX12_has 6 = .ok (.if_icmp .ne 7, 3) := by decide +kernel
theorem dX12_has_9 : decode cX12_has 9 = .ok (.iconst 1, 1) := by decide +kernel
theorem dX12_has_10 : decode cX12_has 10 = .ok (.goto 4, 3) := by decide +kernel
theorem dX12_has_13 : decode cX12_has 13 = .ok (.iconst 0, 1) := by decide +kernel
theorem dX12_has_14 : decode cX12_has 14 = .ok (.ireturn, 1) := by decide +kernel
theorem dX12_begin_0 : decode cX12_begin 0 = .ok (.iconst 0, 1) := by decide +kernel
theorem dX12_begin_1 : decode cX12_begin 1 = .ok (.istore_n 2, 1) := by decide +kernel
theorem dX12_begin_2 : decode cX12_begin 2 = .ok (.iload_n 2, 1) := by decide +kernel
theorem dX12_begin_3 : decode cX12_begin 3 = .ok (.bipush 68, 2) := by decide +kernel
theorem dX12_begin_5 : decode cX12_begin 5 = .ok (.if_icmp .ge 13, 3) := by decide +kernel
theorem dX12_begin_8 : decode cX12_begin 8 = .ok (.aload_n 0, 1) := by decide +kernel
theorem dX12_begin_9 : decode cX12_begin 9 = .ok (.iload_n 2, 1) := by decide +kernel
theorem dX12_begin_10 : decode cX12_begin 10 = .ok (.iconst 0, 1) := by decide +kernel
theorem dX12_begin_11 : decode cX12_begin 11 = .ok (.iastore, 1) := by decide +kernel
theorem dX12_begin_12 : decode cX12_begin 12 = .ok (.iinc 2 1, 3) := by decide +kernel
theorem dX12_begin_15 : decode cX12_begin 15 = .ok (.goto (-13), 3) := by decide +kernel
theorem dX12_begin_18 : decode cX12_begin 18 = .ok (.aload_n 0, 1) := by decide +kernel
theorem dX12_begin_19 : decode cX12_begin 19 = .ok (.iconst 1, 1) := by decide +kernel
theorem dX12_begin_20 : decode cX12_begin 20 = .ok (.iload_n 1, 1) := by decide +kernel
theorem dX12_begin_21 : decode cX12_begin 21 = .ok (.iastore, 1) := by decide +kernel
theorem dX12_begin_22 : decode cX12_begin 22 = .ok (.return_, 1) := by decide +kernel
theorem dX12_many_0 : decode cX12_many 0 = .ok (.aload_n 0, 1) := by decide +kernel
theorem dX12_many_1 : decode cX12_many 1 = .ok (.getfield 7, 3) := by decide +kernel
theorem dX12_many_4 : decode cX12_many 4 = .ok (.iconst 0, 1) := by decide +kernel
theorem dX12_many_5 : decode cX12_many 5 = .ok (.iaload, 1) := by decide +kernel
theorem dX12_many_6 : decode cX12_many 6 = .ok (.ireturn, 1) := by decide +kernel
theorem dX12_isOne_0 : decode cX12_isOne 0 = .ok (.iload_n 1, 1) := by decide +kernel
theorem dX12_isOne_1 : decode cX12_isOne 1 = .ok (.i2l, 1) := by decide +kernel
theorem dX12_isOne_2 : decode cX12_isOne 2 = .ok (.lconst 0, 1) := by decide +kernel
theorem dX12_isOne_3 : decode cX12_isOne 3 = .ok (.aload_n 0, 1) := by decide +kernel
theorem dX12_isOne_4 : decode cX12_isOne 4 = .ok (.invokevirtual 46, 3) := by decide +kernel
theorem dX12_isOne_7 : decode cX12_isOne 7 = .ok (.iconst 1, 1) := by decide +kernel
theorem dX12_isOne_8 : decode cX12_isOne 8 = .ok (.isub, 1) := by decide +kernel
theorem dX12_isOne_9 : decode cX12_isOne 9 = .ok (.i2l, 1) := by decide +kernel
theorem dX12_isOne_10 : decode cX12_isOne 10 = .ok (.invokestatic 50, 3) := by decide +kernel
theorem dX12_isOne_13 : decode cX12_isOne 13 = .ok (.ireturn, 1) := by decide +kernel
theorem dX12_isPlace_0 : decode cX12_isPlace 0 = .ok (.iload_n 0, 1) := by decide +kernel
theorem dX12_isPlace_1 : decode cX12_isPlace 1 = .ok (.i2l, 1) := by decide +kernel
theorem dX12_isPlace_2 : decode cX12_isPlace 2 = .ok (.lconst 0, 1) := by decide +kernel
theorem dX12_isPlace_3 : decode cX12_isPlace 3 = .ok (.ldc2_w 54, 3) := by decide +kernel
theorem dX12_isPlace_6 : decode cX12_isPlace 6 = .ok (.invokestatic 50, 3) := by decide +kernel
theorem dX12_isPlace_9 : decode cX12_isPlace 9 = .ok (.ireturn, 1) := by decide +kernel
theorem dX12_hamlet_0 : decode cX12_hamlet 0 = .ok (.iload_n 1, 1) := by decide +kernel
theorem dX12_hamlet_1 : decode cX12_hamlet 1 = .ok (.i2l, 1) := by decide +kernel
theorem dX12_hamlet_2 : decode cX12_hamlet 2 = .ok (.lconst 0, 1) := by decide +kernel
theorem dX12_hamlet_3 : decode cX12_hamlet 3 = .ok (.ldc2_w 56, 3) := by decide +kernel
theorem dX12_hamlet_6 : decode cX12_hamlet 6 = .ok (.invokestatic 50, 3) := by decide +kernel
theorem dX12_hamlet_9 : decode cX12_hamlet 9 = .ok (.ifCond .ne 10, 3) := by decide +kernel
theorem dX12_hamlet_12 : decode cX12_hamlet 12 = .ok (.aload_n 0, 1) := by decide +kernel
theorem dX12_hamlet_13 : decode cX12_hamlet 13 = .ok (.bipush (-2), 2) := by decide +kernel
theorem dX12_hamlet_15 : decode cX12_hamlet 15 = .ok (.invokevirtual 58, 3) := by decide +kernel
theorem dX12_hamlet_18 : decode cX12_hamlet 18 = .ok (.ireturn, 1) := by decide +kernel
theorem dX12_hamlet_19 : decode cX12_hamlet 19 = .ok (.aload_n 0, 1) := by decide +kernel
theorem dX12_hamlet_20 : decode cX12_hamlet 20 = .ok (.invokevirtual 46, 3) := by decide +kernel
theorem dX12_hamlet_23 : decode cX12_hamlet 23 = .ok (.istore_n 2, 1) := by decide +kernel
theorem dX12_hamlet_24 : decode cX12_hamlet 24 = .ok (.aload_n 0, 1) := by decide +kernel
theorem dX12_hamlet_25 : decode cX12_hamlet 25 = .ok (.getfield 7, 3) := by decide +kernel
theorem dX12_hamlet_28 : decode cX12_hamlet 28 = .ok (.iload_n 1, 1) := by decide +kernel
theorem dX12_hamlet_29 : decode cX12_hamlet 29 = .ok (.invokestatic 42, 3) := by decide +kernel
theorem dX12_hamlet_32 : decode cX12_hamlet 32 = .ok (.iload_n 2, 1) := by decide +kernel
theorem dX12_hamlet_33 : decode cX12_hamlet 33 = .ok (.ireturn, 1) := by decide +kernel
theorem dX12_layOne_0 : decode cX12_layOne 0 = .ok (.aload_n 0, 1) := by decide +kernel
theorem dX12_layOne_1 : decode cX12_layOne 1 = .ok (.iconst 0, 1) := by decide +kernel
theorem dX12_layOne_2 : decode cX12_layOne 2 = .ok (.iaload, 1) := by decide +kernel
theorem dX12_layOne_3 : decode cX12_layOne 3 = .ok (.istore_n 3, 1) := by decide +kernel
theorem dX12_layOne_4 : decode cX12_layOne 4 = .ok (.aload_n 0, 1) := by decide +kernel
theorem dX12_layOne_5 : decode cX12_layOne 5 = .ok (.iconst 5, 1) := by decide +kernel
theorem dX12_layOne_6 : decode cX12_layOne 6 = .ok (.iload_n 3, 1) := by decide +kernel
theorem dX12_layOne_7 : decode cX12_layOne 7 = .ok (.iadd, 1) := by decide +kernel
theorem dX12_layOne_8 : decode cX12_layOne 8 = .ok (.iload_n 3, 1) := by decide +kernel
theorem dX12_layOne_9 : decode cX12_layOne 9 = .ok (.iastore, 1) := by decide +kernel
theorem dX12_layOne_10 : decode cX12_layOne 10 = .ok (.aload_n 0, 1) := by decide +kernel
theorem dX12_layOne_11 : decode cX12_layOne 11 = .ok (.bipush 12, 2) := by decide +kernel
theorem dX12_layOne_13 : decode cX12_layOne 13 = .ok (.iload_n 3, 1) := by decide +kernel
theorem dX12_layOne_14 : decode cX12_layOne 14 = .ok (.iadd, 1) := by decide +kernel
theorem dX12_layOne_15 : decode cX12_layOne 15 = .ok (.iload_n 2, 1) := by decide +kernel
theorem dX12_layOne_16 : decode cX12_layOne 16 = .ok (.iastore, 1) := by decide +kernel
theorem dX12_layOne_17 : decode cX12_layOne 17 = .ok (.aload_n 0, 1) := by decide +kernel
theorem dX12_layOne_18 : decode cX12_layOne 18 = .ok (.bipush 19, 2) := by decide +kernel
theorem dX12_layOne_20 : decode cX12_layOne 20 = .ok (.iload_n 3, 1) := by decide +kernel
theorem dX12_layOne_21 : decode cX12_layOne 21 = .ok (.iadd, 1) := by decide +kernel
theorem dX12_layOne_22 : decode cX12_layOne 22 = .ok (.iload_n 1, 1) := by decide +kernel
theorem dX12_layOne_23 : decode cX12_layOne 23 = .ok (.iastore, 1) := by decide +kernel
theorem dX12_layOne_24 : decode cX12_layOne 24 = .ok (.aload_n 0, 1) := by decide +kernel
theorem dX12_layOne_25 : decode cX12_layOne 25 = .ok (.iconst 0, 1) := by decide +kernel
theorem dX12_layOne_26 : decode cX12_layOne 26 = .ok (.dup2, 1) := by decide +kernel
theorem dX12_layOne_27 : decode cX12_layOne 27 = .ok (.iaload, 1) := by decide +kernel
theorem dX12_layOne_28 : decode cX12_layOne 28 = .ok (.iconst 1, 1) := by decide +kernel
theorem dX12_layOne_29 : decode cX12_layOne 29 = .ok (.iadd, 1) := by decide +kernel
theorem dX12_layOne_30 : decode cX12_layOne 30 = .ok (.iastore, 1) := by decide +kernel
theorem dX12_layOne_31 : decode cX12_layOne 31 = .ok (.return_, 1) := by decide +kernel
theorem dX12_one_0 : decode cX12_one 0 = .ok (.iload_n 1, 1) := by decide +kernel
theorem dX12_one_1 : decode cX12_one 1 = .ok (.i2l, 1) := by decide +kernel
theorem dX12_one_2 : decode cX12_one 2 = .ok (.lconst 0, 1) := by decide +kernel
theorem dX12_one_3 : decode cX12_one 3 = .ok (.ldc2_w 62, 3) := by decide +kernel
theorem dX12_one_6 : decode cX12_one 6 = .ok (.invokestatic 50, 3) := by decide +kernel
theorem dX12_one_9 : decode cX12_one 9 = .ok (.ifCond .eq 10, 3) := by decide +kernel
theorem dX12_one_12 : decode cX12_one 12 = .ok (.iload_n 2, 1) := by decide +kernel
theorem dX12_one_13 : decode cX12_one 13 = .ok (.invokestatic 64, 3) := by decide +kernel
theorem dX12_one_16 : decode cX12_one 16 = .ok (.ifCond .ne 10, 3) := by decide +kernel
theorem dX12_one_19 : decode cX12_one 19 = .ok (.aload_n 0, 1) := by decide +kernel
theorem dX12_one_20 : decode cX12_one 20 = .ok (.bipush (-2), 2) := by decide +kernel
theorem dX12_one_22 : decode cX12_one 22 = .ok (.invokevirtual 58, 3) := by decide +kernel
theorem dX12_one_25 : decode cX12_one 25 = .ok (.ireturn, 1) := by decide +kernel
theorem dX12_one_26 : decode cX12_one 26 = .ok (.aload_n 0, 1) := by decide +kernel
theorem dX12_one_27 : decode cX12_one 27 = .ok (.invokevirtual 46, 3) := by decide +kernel
theorem dX12_one_30 : decode cX12_one 30 = .ok (.bipush 7, 2) := by decide +kernel
theorem dX12_one_32 : decode cX12_one 32 = .ok (.if_icmp .ne 8, 3) := by decide +kernel
theorem dX12_one_35 : decode cX12_one 35 = .ok (.aload_n 0, 1) := by decide +kernel
theorem dX12_one_36 : decode cX12_one 36 = .ok (.invokevirtual 68, 3) := by decide +kernel
theorem dX12_one_39 : decode cX12_one 39 = .ok (.ireturn, 1) := by decide +kernel
theorem dX12_one_40 : decode cX12_one 40 = .ok (.aload_n 0, 1) := by decide +kernel
theorem dX12_one_41 : decode cX12_one 41 = .ok (.getfield 7, 3) := by decide +kernel
theorem dX12_one_44 : decode cX12_one 44 = .ok (.iload_n 1, 1) := by decide +kernel
theorem dX12_one_45 : decode cX12_one 45 = .ok (.iload_n 2, 1) := by decide +kernel
theorem dX12_one_46 : decode cX12_one 46 = .ok (.invokestatic 71, 3) := by decide +kernel
theorem dX12_one_49 : decode cX12_one 49 = .ok (.aload_n 0, 1) := by decide +kernel
theorem dX12_one_50 : decode cX12_one 50 = .ok (.getfield 7, 3) := by decide +kernel
theorem dX12_one_53 : decode cX12_one 53 = .ok (.iconst 4, 1) := by decide +kernel
theorem dX12_one_54 : decode cX12_one 54 = .ok (.iconst 0, 1) := by decide +kernel
theorem dX12_one_55 : decode cX12_one 55 = .ok (.iastore, 1) := by decide +kernel
theorem dX12_one_56 : decode cX12_one 56 = .ok (.aload_n 0, 1) := by decide +kernel
theorem dX12_one_57 : decode cX12_one 57 = .ok (.invokevirtual 46, 3) := by decide +kernel
theorem dX12_one_60 : decode cX12_one 60 = .ok (.iconst 1, 1) := by decide +kernel
theorem dX12_one_61 : decode cX12_one 61 = .ok (.isub, 1) := by decide +kernel
theorem dX12_one_62 : decode cX12_one 62 = .ok (.ireturn, 1) := by decide +kernel
theorem dX12_turnsAs_0 : decode cX12_turnsAs 0 = .ok (.iload_n 1, 1) := by decide +kernel
theorem dX12_turnsAs_1 : decode cX12_turnsAs 1 = .ok (.iconst 3, 1) := by decide +kernel
theorem dX12_turnsAs_2 : decode cX12_turnsAs 2 = .ok (.if_icmp .gt 11, 3) := by decide +kernel
theorem dX12_turnsAs_5 : decode cX12_turnsAs 5 = .ok (.iload_n 2, 1) := by decide +kernel
theorem dX12_turnsAs_6 : decode cX12_turnsAs 6 = .ok (.ifCond .eq 7, 3) := by decide +kernel
theorem dX12_turnsAs_9 : decode cX12_turnsAs 9 = .ok (.iconst 1, 1) := by decide +kernel
theorem dX12_turnsAs_10 : decode cX12_turnsAs 10 = .ok (.goto 4, 3) := by decide +kernel
theorem dX12_turnsAs_13 : decode cX12_turnsAs 13 = .ok (.iconst 0, 1) := by decide +kernel
theorem dX12_turnsAs_14 : decode cX12_turnsAs 14 = .ok (.istore 5, 2) := by decide +kernel
theorem dX12_turnsAs_16 : decode cX12_turnsAs 16 = .ok (.iload_n 0, 1) := by decide +kernel
theorem dX12_turnsAs_17 : decode cX12_turnsAs 17 = .ok (.tableswitch 101 1 5 #[35, 38, 49, 61, 80], 35) := by decide +kernel
theorem dX12_turnsAs_52 : decode cX12_turnsAs 52 = .ok (.iload 5, 2) := by decide +kernel
theorem dX12_turnsAs_54 : decode cX12_turnsAs 54 = .ok (.ireturn, 1) := by decide +kernel
theorem dX12_turnsAs_55 : decode cX12_turnsAs 55 = .ok (.iload_n 1, 1) := by decide +kernel
theorem dX12_turnsAs_56 : decode cX12_turnsAs 56 = .ok (.iconst 1, 1) := by decide +kernel
theorem dX12_turnsAs_57 : decode cX12_turnsAs 57 = .ok (.if_icmp .gt 7, 3) := by decide +kernel
theorem dX12_turnsAs_60 : decode cX12_turnsAs 60 = .ok (.iconst 1, 1) := by decide +kernel
theorem dX12_turnsAs_61 : decode cX12_turnsAs 61 = .ok (.goto 4, 3) := by decide +kernel
theorem dX12_turnsAs_64 : decode cX12_turnsAs 64 = .ok (.iconst 0, 1) := by decide +kernel
theorem dX12_turnsAs_65 : decode cX12_turnsAs 65 = .ok (.ireturn, 1) := by decide +kernel
theorem dX12_turnsAs_66 : decode cX12_turnsAs 66 = .ok (.iload_n 1, 1) := by decide +kernel
theorem dX12_turnsAs_67 : decode cX12_turnsAs 67 = .ok (.bipush 6, 2) := by decide +kernel
theorem dX12_turnsAs_69 : decode cX12_turnsAs 69 = .ok (.if_icmp .gt 7, 3) := by decide +kernel
theorem dX12_turnsAs_72 : decode cX12_turnsAs 72 = .ok (.iconst 1, 1) := by decide +kernel
theorem dX12_turnsAs_73 : decode cX12_turnsAs 73 = .ok (.goto 4, 3) := by decide +kernel
theorem dX12_turnsAs_76 : decode cX12_turnsAs 76 = .ok (.iconst 0, 1) := by decide +kernel
theorem dX12_turnsAs_77 : decode cX12_turnsAs 77 = .ok (.ireturn, 1) := by decide +kernel
theorem dX12_turnsAs_78 : decode cX12_turnsAs 78 = .ok (.iload_n 1, 1) := by decide +kernel
theorem dX12_turnsAs_79 : decode cX12_turnsAs 79 = .ok (.bipush 6, 2) := by decide +kernel
theorem dX12_turnsAs_81 : decode cX12_turnsAs 81 = .ok (.if_icmp .gt 14, 3) := by decide +kernel
theorem dX12_turnsAs_84 : decode cX12_turnsAs 84 = .ok (.iload 4, 2) := by decide +kernel
theorem dX12_turnsAs_86 : decode cX12_turnsAs 86 = .ok (.iconst 2, 1) := by decide +kernel
theorem dX12_turnsAs_87 : decode cX12_turnsAs 87 = .ok (.irem, 1) := by decide +kernel
theorem dX12_turnsAs_88 : decode cX12_turnsAs 88 = .ok (.ifCond .ne 7, 3) := by decide +kernel
theorem dX12_turnsAs_91 : decode cX12_turnsAs 91 = .ok (.iconst 1, 1) := by decide +kernel
theorem dX12_turnsAs_92 : decode cX12_turnsAs 92 = .ok (.goto 4, 3) := by decide +kernel
theorem dX12_turnsAs_95 : decode cX12_turnsAs 95 = .ok (.iconst 0, 1) := by decide +kernel
theorem dX12_turnsAs_96 : decode cX12_turnsAs 96 = .ok (.ireturn, 1) := by decide +kernel
theorem dX12_turnsAs_97 : decode cX12_turnsAs 97 = .ok (.iload 5, 2) := by decide +kernel
theorem dX12_turnsAs_99 : decode cX12_turnsAs 99 = .ok (.ifCond .ne 13, 3) := by decide +kernel
theorem dX12_turnsAs_102 : decode cX12_turnsAs 102 = .ok (.iload_n 3, 1) := by decide +kernel
theorem dX12_turnsAs_103 : decode cX12_turnsAs 103 = .ok (.ifCond .eq 13, 3) := by decide +kernel
theorem dX12_turnsAs_106 : decode cX12_turnsAs 106 = .ok (.iload_n 1, 1) := by decide +kernel
theorem dX12_turnsAs_107 : decode cX12_turnsAs 107 = .ok (.bipush 6, 2) := by decide +kernel
theorem dX12_turnsAs_109 : decode cX12_turnsAs 109 = .ok (.if_icmp .gt 7, 3) := by decide +kernel
theorem dX12_turnsAs_112 : decode cX12_turnsAs 112 = .ok (.iconst 1, 1) := by decide +kernel
theorem dX12_turnsAs_113 : decode cX12_turnsAs 113 = .ok (.goto 4, 3) := by decide +kernel
theorem dX12_turnsAs_116 : decode cX12_turnsAs 116 = .ok (.iconst 0, 1) := by decide +kernel
theorem dX12_turnsAs_117 : decode cX12_turnsAs 117 = .ok (.ireturn, 1) := by decide +kernel
theorem dX12_turnsAs_118 : decode cX12_turnsAs 118 = .ok (.iload_n 1, 1) := by decide +kernel
theorem dX12_turnsAs_119 : decode cX12_turnsAs 119 = .ok (.iconst 3, 1) := by decide +kernel
theorem dX12_turnsAs_120 : decode cX12_turnsAs 120 = .ok (.if_icmp .gt 7, 3) := by decide +kernel
theorem dX12_turnsAs_123 : decode cX12_turnsAs 123 = .ok (.iconst 1, 1) := by decide +kernel
theorem dX12_turnsAs_124 : decode cX12_turnsAs 124 = .ok (.goto 4, 3) := by decide +kernel
theorem dX12_turnsAs_127 : decode cX12_turnsAs 127 = .ok (.iconst 0, 1) := by decide +kernel
theorem dX12_turnsAs_128 : decode cX12_turnsAs 128 = .ok (.ireturn, 1) := by decide +kernel
theorem dX12_farOf_0 : decode cX12_farOf 0 = .ok (.iload_n 0, 1) := by decide +kernel
theorem dX12_farOf_1 : decode cX12_farOf 1 = .ok (.iload_n 1, 1) := by decide +kernel
theorem dX12_farOf_2 : decode cX12_farOf 2 = .ok (.if_icmp .ge 9, 3) := by decide +kernel
theorem dX12_farOf_5 : decode cX12_farOf 5 = .ok (.iload_n 1, 1) := by decide +kernel
theorem dX12_farOf_6 : decode cX12_farOf 6 = .ok (.iload_n 0, 1) := by decide +kernel
theorem dX12_farOf_7 : decode cX12_farOf 7 = .ok (.isub, 1) := by decide +kernel
theorem dX12_farOf_8 : decode cX12_farOf 8 = .ok (.goto 6, 3) := by decide +kernel
theorem dX12_farOf_11 : decode cX12_farOf 11 = .ok (.iload_n 0, 1) := by decide +kernel
theorem dX12_farOf_12 : decode cX12_farOf 12 = .ok (.iload_n 1, 1) := by decide +kernel
theorem dX12_farOf_13 : decode cX12_farOf 13 = .ok (.isub, 1) := by decide +kernel
theorem dX12_farOf_14 : decode cX12_farOf 14 = .ok (.ireturn, 1) := by decide +kernel
theorem dX12_layHand_0 : decode cX12_layHand 0 = .ok (.iconst 0, 1) := by decide +kernel
theorem dX12_layHand_1 : decode cX12_layHand 1 = .ok (.istore_n 1, 1) := by decide +kernel
theorem dX12_layHand_2 : decode cX12_layHand 2 = .ok (.iload_n 1, 1) := by decide +kernel
theorem dX12_layHand_3 : decode cX12_layHand 3 = .ok (.aload_n 0, 1) := by decide +kernel
theorem dX12_layHand_4 : decode cX12_layHand 4 = .ok (.invokevirtual 46, 3) := by decide +kernel
theorem dX12_layHand_7 : decode cX12_layHand 7 = .ok (.if_icmp .ge 23, 3) := by decide +kernel
theorem dX12_layHand_10 : decode cX12_layHand 10 = .ok (.aload_n 0, 1) := by decide +kernel
theorem dX12_layHand_11 : decode cX12_layHand 11 = .ok (.getfield 27, 3) := by decide +kernel
theorem dX12_layHand_14 : decode cX12_layHand 14 = .ok (.iload_n 1, 1) := by decide +kernel
theorem dX12_layHand_15 : decode cX12_layHand 15 = .ok (.aload_n 0, 1) := by decide +kernel
theorem dX12_layHand_16 : decode cX12_layHand 16 = .ok (.getfield 7, 3) := by decide +kernel
theorem dX12_layHand_19 : decode cX12_layHand 19 = .ok (.iconst 5, 1) := by decide +kernel
theorem dX12_layHand_20 : decode cX12_layHand 20 = .ok (.iload_n 1, 1) := by decide +kernel
theorem dX12_layHand_21 : decode cX12_layHand 21 = .ok (.iadd, 1) := by decide +kernel
theorem dX12_layHand_22 : decode cX12_layHand 22 = .ok (.iaload, 1) := by decide +kernel
theorem dX12_layHand_23 : decode cX12_layHand 23 = .ok (.iastore, 1) := by decide +kernel
theorem dX12_layHand_24 : decode cX12_layHand 24 = .ok (.iinc 1 1, 3) := by decide +kernel
theorem dX12_layHand_27 : decode cX12_layHand 27 = .ok (.goto (-25), 3) := by decide +kernel
theorem dX12_layHand_30 : decode cX12_layHand 30 = .ok (.return_, 1) := by decide +kernel
theorem dX12_bearersOf_0 : decode cX12_bearersOf 0 = .ok (.iconst 0, 1) := by decide +kernel
theorem dX12_bearersOf_1 : decode cX12_bearersOf 1 = .ok (.istore_n 2, 1) := by decide +kernel
theorem dX12_bearersOf_2 : decode cX12_bearersOf 2 = .ok (.iconst 0, 1) := by decide +kernel
theorem dX12_bearersOf_3 : decode cX12_bearersOf 3 = .ok (.istore_n 3, 1) := by decide +kernel
theorem dX12_bearersOf_4 : decode cX12_bearersOf 4 = .ok (.iload_n 3, 1) := by decide +kernel
theorem dX12_bearersOf_5 : decode cX12_bearersOf 5 = .ok (.aload_n 0, 1) := by decide +kernel
theorem dX12_bearersOf_6 : decode cX12_bearersOf 6 = .ok (.invokevirtual 46, 3) := by decide +kernel
theorem dX12_bearersOf_9 : decode cX12_bearersOf 9 = .ok (.if_icmp .ge 29, 3) := by decide +kernel
theorem dX12_bearersOf_12 : decode cX12_bearersOf 12 = .ok (.iload_n 2, 1) := by decide +kernel
theorem dX12_bearersOf_13 : decode cX12_bearersOf 13 = .ok (.aload_n 0, 1) := by decide +kernel
theorem dX12_bearersOf_14 : decode cX12_bearersOf 14 = .ok (.getfield 27, 3) := by decide +kernel
theorem dX12_bearersOf_17 : decode cX12_bearersOf 17 = .ok (.iload_n 3, 1) := by decide +kernel
theorem dX12_bearersOf_18 : decode cX12_bearersOf 18 = .ok (.iaload, 1) := by decide +kernel
theorem dX12_bearersOf_19 : decode cX12_bearersOf 19 = .ok (.iload_n 1, 1) := by decide +kernel
theorem dX12_bearersOf_20 : decode cX12_bearersOf 20 = .ok (.if_icmp .ne 9, 3) := by decide +kernel
theorem dX12_bearersOf_23 : decode cX12_bearersOf 23 = .ok (.iconst 1, 1) := by decide +kernel
theorem dX12_bearersOf_24 : decode cX12_bearersOf 24 = .ok (.iload_n 3, 1) := by decide +kernel
theorem dX12_bearersOf_25 : decode cX12_bearersOf 25 = .ok (.ishl, 1) := by decide +kernel
theorem dX12_bearersOf_26 : decode cX12_bearersOf 26 = .ok (.goto 4, 3) := by decide +kernel
theorem dX12_bearersOf_29 : decode cX12_bearersOf 29 = .ok (.iconst 0, 1) := by decide +kernel
theorem dX12_bearersOf_30 : decode cX12_bearersOf 30 = .ok (.ior, 1) := by decide +kernel
theorem dX12_bearersOf_31 : decode cX12_bearersOf 31 = .ok (.istore_n 2, 1) := by decide +kernel
theorem dX12_bearersOf_32 : decode cX12_bearersOf 32 = .ok (.iinc 3 1, 3) := by decide +kernel
theorem dX12_bearersOf_35 : decode cX12_bearersOf 35 = .ok (.goto (-31), 3) := by decide +kernel
theorem dX12_bearersOf_38 : decode cX12_bearersOf 38 = .ok (.iload_n 2, 1) := by decide +kernel
theorem dX12_bearersOf_39 : decode cX12_bearersOf 39 = .ok (.ireturn, 1) := by decide +kernel
theorem dX12_turning_0 : decode cX12_turning 0 = .ok (.aload_n 0, 1) := by decide +kernel
theorem dX12_turning_1 : decode cX12_turning 1 = .ok (.iload_n 1, 1) := by decide +kernel
theorem dX12_turning_2 : decode cX12_turning 2 = .ok (.invokevirtual 75, 3) := by decide +kernel
theorem dX12_turning_5 : decode cX12_turning 5 = .ok (.istore_n 3, 1) := by decide +kernel
theorem dX12_turning_6 : decode cX12_turning 6 = .ok (.iconst 0, 1) := by decide +kernel
theorem dX12_turning_7 : decode cX12_turning 7 = .ok (.istore 4, 2) := by decide +kernel
theorem dX12_turning_9 : decode cX12_turning 9 = .ok (.iconst 0, 1) := by decide +kernel
theorem dX12_turning_10 : decode cX12_turning 10 = .ok (.istore 5, 2) := by decide +kernel
theorem dX12_turning_12 : decode cX12_turning 12 = .ok (.iload 5, 2) := by decide +kernel
theorem dX12_turning_14 : decode cX12_turning 14 = .ok (.aload_n 0, 1) := by decide +kernel
theorem dX12_turning_15 : decode cX12_turning 15 = .ok (.invokevirtual 46, 3) := by decide +kernel
theorem dX12_turning_18 : decode cX12_turning 18 = .ok (.if_icmp .ge 77, 3) := by decide +kernel
theorem dX12_turning_21 : decode cX12_turning 21 = .ok (.aload_n 0, 1) := by decide +kernel
theorem dX12_turning_22 : decode cX12_turning 22 = .ok (.getfield 7, 3) := by decide +kernel
theorem dX12_turning_25 : decode cX12_turning 25 = .ok (.bipush 19, 2) := by decide +kernel
theorem dX12_turning_27 : decode cX12_turning 27 = .ok (.iload 5, 2) := by decide +kernel
theorem dX12_turning_29 : decode cX12_turning 29 = .ok (.iadd, 1) := by decide +kernel
theorem dX12_turning_30 : decode cX12_turning 30 = .ok (.iaload, 1) := by decide +kernel
theorem dX12_turning_31 : decode cX12_turning 31 = .ok (.aload_n 0, 1) := by decide +kernel
theorem dX12_turning_32 : decode cX12_turning 32 = .ok (.getfield 7, 3) := by decide +kernel
theorem dX12_turning_35 : decode cX12_turning 35 = .ok (.bipush 12, 2) := by decide +kernel
theorem dX12_turning_37 : decode cX12_turning 37 = .ok (.iload 5, 2) := by decide +kernel
theorem dX12_turning_39 : decode cX12_turning 39 = .ok (.iadd, 1) := by decide +kernel
theorem dX12_turning_40 : decode cX12_turning 40 = .ok (.iaload, 1) := by decide +kernel
theorem dX12_turning_41 : decode cX12_turning 41 = .ok (.iload_n 2, 1) := by decide +kernel
theorem dX12_turning_42 : decode cX12_turning 42 = .ok (.invokestatic 78, 3) := by decide +kernel
theorem dX12_turning_45 : decode cX12_turning 45 = .ok (.iload_n 3, 1) := by decide +kernel
theorem dX12_turning_46 : decode cX12_turning 46 = .ok (.iload 5, 2) := by decide +kernel
theorem dX12_turning_48 : decode cX12_turning 48 = .ok (.invokestatic 82, 3) := by decide +kernel
theorem dX12_turning_51 : decode cX12_turning 51 = .ok (.iload_n 3, 1) := by decide +kernel
theorem dX12_turning_52 : decode cX12_turning 52 = .ok (.ifCond .ne 7, 3) := by decide +kernel
theorem dX12_turning_55 : decode cX12_turning 55 = .ok (.iconst 1, 1) := by decide +kernel
theorem dX12_turning_56 : decode cX12_turning 56 = .ok (.goto 4, 3) := by decide +kernel
theorem dX12_turning_59 : decode cX12_turning 59 = .ok (.iconst 0, 1) := by decide +kernel
theorem dX12_turning_60 : decode cX12_turning 60 = .ok (.aload_n 0, 1) := by decide +kernel
theorem dX12_turning_61 : decode cX12_turning 61 = .ok (.getfield 7, 3) := by decide +kernel
theorem dX12_turning_64 : decode cX12_turning 64 = .ok (.iconst 1, 1) := by decide +kernel
theorem dX12_turning_65 : decode cX12_turning 65 = .ok (.iaload, 1) := by decide +kernel
theorem dX12_turning_66 : decode cX12_turning 66 = .ok (.invokestatic 86, 3) := by decide +kernel
theorem dX12_turning_69 : decode cX12_turning 69 = .ok (.istore 6, 2) := by decide +kernel
theorem dX12_turning_71 : decode cX12_turning 71 = .ok (.iload 4, 2) := by decide +kernel
theorem dX12_turning_73 : decode cX12_turning 73 = .ok (.iload 6, 2) := by decide +kernel
theorem dX12_turning_75 : decode cX12_turning 75 = .ok (.ifCond .eq 10, 3) := by decide +kernel
theorem dX12_turning_78 : decode cX12_turning 78 = .ok (.iconst 1, 1) := by decide +kernel
theorem dX12_turning_79 : decode cX12_turning 79 = .ok (.iload 5, 2) := by decide +kernel
theorem dX12_turning_81 : decode cX12_turning 81 = .ok (.ishl, 1) := by decide +kernel
theorem dX12_turning_82 : decode cX12_turning 82 = .ok (.goto 4, 3) := by decide +kernel
theorem dX12_turning_85 : decode cX12_turning 85 = .ok (.iconst 0, 1) := by decide +kernel
theorem dX12_turning_86 : decode cX12_turning 86 = .ok (.ior, 1) := by decide +kernel
theorem dX12_turning_87 : decode cX12_turning 87 = .ok (.istore 4, 2) := by decide +kernel
theorem dX12_turning_89 : decode cX12_turning 89 = .ok (.iinc 5 1, 3) := by decide +kernel
theorem dX12_turning_92 : decode cX12_turning 92 = .ok (.goto (-80), 3) := by decide +kernel
theorem dX12_turning_95 : decode cX12_turning 95 = .ok (.iload 4, 2) := by decide +kernel
theorem dX12_turning_97 : decode cX12_turning 97 = .ok (.ireturn, 1) := by decide +kernel
theorem dX12_goTurn_0 : decode cX12_goTurn 0 = .ok (.iconst 0, 1) := by decide +kernel
theorem dX12_goTurn_1 : decode cX12_goTurn 1 = .ok (.istore_n 3, 1) := by decide +kernel
theorem dX12_goTurn_2 : decode cX12_goTurn 2 = .ok (.iload_n 3, 1) := by decide +kernel
theorem dX12_goTurn_3 : decode cX12_goTurn 3 = .ok (.aload_n 0, 1) := by decide +kernel
theorem dX12_goTurn_4 : decode cX12_goTurn 4 = .ok (.invokevirtual 46, 3) := by decide +kernel
theorem dX12_goTurn_7 : decode cX12_goTurn 7 = .ok (.if_icmp .ge 51, 3) := by decide +kernel
theorem dX12_goTurn_10 : decode cX12_goTurn 10 = .ok (.iload_n 2, 1) := by decide +kernel
theorem dX12_goTurn_11 : decode cX12_goTurn 11 = .ok (.ifCond .eq 47, 3) := by decide +kernel
theorem dX12_goTurn_14 : decode cX12_goTurn 14 = .ok (.aload_n 0, 1) := by decide +kernel
theorem dX12_goTurn_15 : decode cX12_goTurn 15 = .ok (.getfield 27, 3) := by decide +kernel
theorem dX12_goTurn_18 : decode cX12_goTurn 18 = .ok (.iload_n 3, 1) := by decide +kernel
theorem dX12_goTurn_19 : decode cX12_goTurn 19 = .ok (.iload_n 2, 1) := by decide +kernel
theorem dX12_goTurn_20 : decode cX12_goTurn 20 = .ok (.iload_n 3, 1) := by decide +kernel
theorem dX12_goTurn_21 : decode cX12_goTurn 21 = .ok (.invokestatic 82, 3) := by decide +kernel
theorem dX12_goTurn_24 : decode cX12_goTurn 24 = .ok (.ifCond .eq 7, 3) := by decide +kernel
theorem dX12_goTurn_27 : decode cX12_goTurn 27 = .ok (.iload_n 1, 1) := by decide +kernel
theorem dX12_goTurn_28 : decode cX12_goTurn 28 = .ok (.goto 23, 3) := by decide +kernel
theorem dX12_goTurn_31 : decode cX12_goTurn 31 = .ok (.aload_n 0, 1) := by decide +kernel
theorem dX12_goTurn_32 : decode cX12_goTurn 32 = .ok (.getfield 27, 3) := by decide +kernel
theorem dX12_goTurn_35 : decode cX12_goTurn 35 = .ok (.iload_n 3, 1) := by decide +kernel
theorem dX12_goTurn_36 : decode cX12_goTurn 36 = .ok (.iaload, 1) := by decide +kernel
theorem dX12_goTurn_37 : decode cX12_goTurn 37 = .ok (.iload_n 1, 1) := by decide +kernel
theorem dX12_goTurn_38 : decode cX12_goTurn 38 = .ok (.if_icmp .ne 7, 3) := by decide +kernel
theorem dX12_goTurn_41 : decode cX12_goTurn 41 = .ok (.iconst (-1), 1) := by decide +kernel
theorem dX12_goTurn_42 : decode cX12_goTurn 42 = .ok (.goto 9, 3) := by decide +kernel
theorem dX12_goTurn_45 : decode cX12_goTurn 45 = .ok (.aload_n 0, 1) := by decide +kernel
theorem dX12_goTurn_46 : decode cX12_goTurn 46 = .ok (.getfield 27, 3) := by decide +kernel
theorem dX12_goTurn_49 : decode cX12_goTurn 49 = .ok (.iload_n 3, 1) := by decide +kernel
theorem dX12_goTurn_50 : decode cX12_goTurn 50 = .ok (.iaload, 1) := by decide +kernel
theorem dX12_goTurn_51 : decode cX12_goTurn 51 = .ok (.iastore, 1) := by decide +kernel
theorem dX12_goTurn_52 : decode cX12_goTurn 52 = .ok (.iinc 3 1, 3) := by decide +kernel
theorem dX12_goTurn_55 : decode cX12_goTurn 55 = .ok (.goto (-53), 3) := by decide +kernel
theorem dX12_goTurn_58 : decode cX12_goTurn 58 = .ok (.return_, 1) := by decide +kernel
theorem dX12_goCall_0 : decode cX12_goCall 0 = .ok (.aload_n 0, 1) := by decide +kernel
theorem dX12_goCall_1 : decode cX12_goCall 1 = .ok (.iload_n 1, 1) := by decide +kernel
theorem dX12_goCall_2 : decode cX12_goCall 2 = .ok (.iload_n 2, 1) := by decide +kernel
theorem dX12_goCall_3 : decode cX12_goCall 3 = .ok (.invokevirtual 90, 3) := by decide +kernel
theorem dX12_goCall_6 : decode cX12_goCall 6 = .ok (.istore_n 3, 1) := by decide +kernel
theorem dX12_goCall_7 : decode cX12_goCall 7 = .ok (.aload_n 0, 1) := by decide +kernel
theorem dX12_goCall_8 : decode cX12_goCall 8 = .ok (.iload_n 1, 1) := by decide +kernel
theorem dX12_goCall_9 : decode cX12_goCall 9 = .ok (.iload_n 3, 1) := by decide +kernel
theorem dX12_goCall_10 : decode cX12_goCall 10 = .ok (.invokevirtual 93, 3) := by decide +kernel
theorem dX12_goCall_13 : decode cX12_goCall 13 = .ok (.iload_n 3, 1) := by decide +kernel
theorem dX12_goCall_14 : decode cX12_goCall 14 = .ok (.ireturn, 1) := by decide +kernel
theorem dX12_ownNow_0 : decode cX12_ownNow 0 = .ok (.iconst 0, 1) := by decide +kernel
theorem dX12_ownNow_1 : decode cX12_ownNow 1 = .ok (.istore_n 1, 1) := by decide +kernel
theorem dX12_ownNow_2 : decode cX12_ownNow 2 = .ok (.iconst 0, 1) := by decide +kernel
theorem dX12_ownNow_3 : decode cX12_ownNow 3 = .ok (.istore_n 2, 1) := by decide +kernel
theorem dX12_ownNow_4 : decode cX12_ownNow 4 = .ok (.iload_n 2, 1) := by decide +kernel
theorem dX12_ownNow_5 : decode cX12_ownNow 5 = .ok (.aload_n 0, 1) := by decide +kernel
theorem dX12_ownNow_6 : decode cX12_ownNow 6 = .ok (.invokevirtual 46, 3) := by decide +kernel
theorem dX12_ownNow_9 : decode cX12_ownNow 9 = .ok (.if_icmp .ge 27, 3) := by decide +kernel
theorem dX12_ownNow_12 : decode cX12_ownNow 12 = .ok (.iload_n 1, 1) := by decide +kernel
theorem dX12_ownNow_13 : decode cX12_ownNow 13 = .ok (.aload_n 0, 1) := by decide +kernel
theorem dX12_ownNow_14 : decode cX12_ownNow 14 = .ok (.getfield 27, 3) := by decide +kernel
theorem dX12_ownNow_17 : decode cX12_ownNow 17 = .ok (.iload_n 2, 1) := by decide +kernel
theorem dX12_ownNow_18 : decode cX12_ownNow 18 = .ok (.iaload, 1) := by decide +kernel
theorem dX12_ownNow_19 : decode cX12_ownNow 19 = .ok (.iload_n 2, 1) := by decide +kernel
theorem dX12_ownNow_20 : decode cX12_ownNow 20 = .ok (.if_icmp .ne 7, 3) := by decide +kernel
theorem dX12_ownNow_23 : decode cX12_ownNow 23 = .ok (.iconst 1, 1) := by decide +kernel
theorem dX12_ownNow_24 : decode cX12_ownNow 24 = .ok (.goto 4, 3) := by decide +kernel
theorem dX12_ownNow_27 : decode cX12_ownNow 27 = .ok (.iconst 0, 1) := by decide +kernel
theorem dX12_ownNow_28 : decode cX12_ownNow 28 = .ok (.iadd, 1) := by decide +kernel
theorem dX12_ownNow_29 : decode cX12_ownNow 29 = .ok (.istore_n 1, 1) := by decide +kernel
theorem dX12_ownNow_30 : decode cX12_ownNow 30 = .ok (.iinc 2 1, 3) := by decide +kernel
theorem dX12_ownNow_33 : decode cX12_ownNow 33 = .ok (.goto (-29), 3) := by decide +kernel
theorem dX12_ownNow_36 : decode cX12_ownNow 36 = .ok (.iload_n 1, 1) := by decide +kernel
theorem dX12_ownNow_37 : decode cX12_ownNow 37 = .ok (.ireturn, 1) := by decide +kernel
theorem dX12_keep_0 : decode cX12_keep 0 = .ok (.aload_n 0, 1) := by decide +kernel
theorem dX12_keep_1 : decode cX12_keep 1 = .ok (.getfield 7, 3) := by decide +kernel
theorem dX12_keep_4 : decode cX12_keep 4 = .ok (.iconst 4, 1) := by decide +kernel
theorem dX12_keep_5 : decode cX12_keep 5 = .ok (.iaload, 1) := by decide +kernel
theorem dX12_keep_6 : decode cX12_keep 6 = .ok (.bipush 8, 2) := by decide +kernel
theorem dX12_keep_8 : decode cX12_keep 8 = .ok (.if_icmp .ne 43, 3) := by decide +kernel
theorem dX12_keep_11 : decode cX12_keep 11 = .ok (.iconst 0, 1) := by decide +kernel
theorem dX12_keep_12 : decode cX12_keep 12 = .ok (.istore_n 1, 1) := by decide +kernel
theorem dX12_keep_13 : decode cX12_keep 13 = .ok (.iload_n 1, 1) := by decide +kernel
theorem dX12_keep_14 : decode cX12_keep 14 = .ok (.bipush 105, 2) := by decide +kernel
theorem dX12_keep_16 : decode cX12_keep 16 = .ok (.if_icmp .ge 27, 3) := by decide +kernel
theorem dX12_keep_19 : decode cX12_keep 19 = .ok (.aload_n 0, 1) := by decide +kernel
theorem dX12_keep_20 : decode cX12_keep 20 = .ok (.getfield 7, 3) := by decide +kernel
theorem dX12_keep_23 : decode cX12_keep 23 = .ok (.bipush 68, 2) := by decide +kernel
theorem dX12_keep_25 : decode cX12_keep 25 = .ok (.iload_n 1, 1) := by decide +kernel
theorem dX12_keep_26 : decode cX12_keep 26 = .ok (.iadd, 1) := by decide +kernel
theorem dX12_keep_27 : decode cX12_keep 27 = .ok (.aload_n 0, 1) := by decide +kernel
theorem dX12_keep_28 : decode cX12_keep 28 = .ok (.getfield 7, 3) := by decide +kernel
theorem dX12_keep_31 : decode cX12_keep 31 = .ok (.bipush 83, 2) := by decide +kernel
theorem dX12_keep_33 : decode cX12_keep 33 = .ok (.iload_n 1, 1) := by decide +kernel
theorem dX12_keep_34 : decode cX12_keep 34 = .ok (.iadd, 1) := by decide +kernel
theorem dX12_keep_35 : decode cX12_keep 35 = .ok (.iaload, 1) := by decide +kernel
theorem dX12_keep_36 : decode cX12_keep 36 = .ok (.iastore, 1) := by decide +kernel
theorem dX12_keep_37 : decode cX12_keep 37 = .ok (.iinc 1 1, 3) := by decide +kernel
theorem dX12_keep_40 : decode cX12_keep 40 = .ok (.goto (-27), 3) := by decide +kernel
theorem dX12_keep_43 : decode cX12_keep 43 = .ok (.aload_n 0, 1) := by decide +kernel
theorem dX12_keep_44 : decode cX12_keep 44 = .ok (.getfield 7, 3) := by decide +kernel
theorem dX12_keep_47 : decode cX12_keep 47 = .ok (.iconst 4, 1) := by decide +kernel
theorem dX12_keep_48 : decode cX12_keep 48 = .ok (.bipush 7, 2) := by decide +kernel
theorem dX12_keep_50 : decode cX12_keep 50 = .ok (.iastore, 1) := by decide +kernel
theorem dX12_keep_51 : decode cX12_keep 51 = .ok (.bipush 68, 2) := by decide +kernel
theorem dX12_keep_53 : decode cX12_keep 53 = .ok (.bipush 15, 2) := by decide +kernel
theorem dX12_keep_55 : decode cX12_keep 55 = .ok (.aload_n 0, 1) := by decide +kernel
theorem dX12_keep_56 : decode cX12_keep 56 = .ok (.getfield 7, 3) := by decide +kernel
theorem dX12_keep_59 : decode cX12_keep 59 = .ok (.iconst 4, 1) := by decide +kernel
theorem dX12_keep_60 : decode cX12_keep 60 = .ok (.iaload, 1) := by decide +kernel
theorem dX12_keep_61 : decode cX12_keep 61 = .ok (.imul, 1) := by decide +kernel
theorem dX12_keep_62 : decode cX12_keep 62 = .ok (.iadd, 1) := by decide +kernel
theorem dX12_keep_63 : decode cX12_keep 63 = .ok (.istore_n 1, 1) := by decide +kernel
theorem dX12_keep_64 : decode cX12_keep 64 = .ok (.iconst 0, 1) := by decide +kernel
theorem dX12_keep_65 : decode cX12_keep 65 = .ok (.istore_n 2, 1) := by decide +kernel
theorem dX12_keep_66 : decode cX12_keep 66 = .ok (.iload_n 2, 1) := by decide +kernel
theorem dX12_keep_67 : decode cX12_keep 67 = .ok (.bipush 14, 2) := by decide +kernel
theorem dX12_keep_69 : decode cX12_keep 69 = .ok (.if_icmp .ge 25, 3) := by decide +kernel
theorem dX12_keep_72 : decode cX12_keep 72 = .ok (.aload_n 0, 1) := by decide +kernel
theorem dX12_keep_73 : decode cX12_keep 73 = .ok (.getfield 7, 3) := by decide +kernel
theorem dX12_keep_76 : decode cX12_keep 76 = .ok (.iload_n 1, 1) := by decide +kernel
theorem dX12_keep_77 : decode cX12_keep 77 = .ok (.iload_n 2, 1) := by decide +kernel
theorem dX12_keep_78 : decode cX12_keep 78 = .ok (.iadd, 1) := by decide +kernel
theorem dX12_keep_79 : decode cX12_keep 79 = .ok (.aload_n 0, 1) := by decide +kernel
theorem dX12_keep_80 : decode cX12_keep 80 = .ok (.getfield 7, 3) := by decide +kernel
theorem dX12_keep_83 : decode cX12_keep 83 = .ok (.iconst 5, 1) := by decide +kernel
theorem dX12_keep_84 : decode cX12_keep 84 = .ok (.iload_n 2, 1) := by decide +kernel
theorem dX12_keep_85 : decode cX12_keep 85 = .ok (.iadd, 1) := by decide +kernel
theorem dX12_keep_86 : decode cX12_keep 86 = .ok (.iaload, 1) := by decide +kernel
theorem dX12_keep_87 : decode cX12_keep 87 = .ok (.iastore, 1) := by decide +kernel
theorem dX12_keep_88 : decode cX12_keep 88 = .ok (.iinc 2 1, 3) := by decide +kernel
theorem dX12_keep_91 : decode cX12_keep 91 = .ok (.goto (-25), 3) := by decide +kernel
theorem dX12_keep_94 : decode cX12_keep 94 = .ok (.aload_n 0, 1) := by decide +kernel
theorem dX12_keep_95 : decode cX12_keep 95 = .ok (.getfield 7, 3) := by decide +kernel
theorem dX12_keep_98 : decode cX12_keep 98 = .ok (.iload_n 1, 1) := by decide +kernel
theorem dX12_keep_99 : decode cX12_keep 99 = .ok (.bipush 14, 2) := by decide +kernel
theorem dX12_keep_101 : decode cX12_keep 101 = .ok (.iadd, 1) := by decide +kernel
theorem dX12_keep_102 : decode cX12_keep 102 = .ok (.aload_n 0, 1) := by decide +kernel
theorem dX12_keep_103 : decode cX12_keep 103 = .ok (.getfield 7, 3) := by decide +kernel
theorem dX12_keep_106 : decode cX12_keep 106 = .ok (.iconst 1, 1) := by decide +kernel
theorem dX12_keep_107 : decode cX12_keep 107 = .ok (.iaload, 1) := by decide +kernel
theorem dX12_keep_108 : decode cX12_keep 108 = .ok (.iastore, 1) := by decide +kernel
theorem dX12_keep_109 : decode cX12_keep 109 = .ok (.aload_n 0, 1) := by decide +kernel
theorem dX12_keep_110 : decode cX12_keep 110 = .ok (.getfield 7, 3) := by decide +kernel
theorem dX12_keep_113 : decode cX12_keep 113 = .ok (.iconst 4, 1) := by decide +kernel
theorem dX12_keep_114 : decode cX12_keep 114 = .ok (.dup2, 1) := by decide +kernel
theorem dX12_keep_115 : decode cX12_keep 115 = .ok (.iaload, 1) := by decide +kernel
theorem dX12_keep_116 : decode cX12_keep 116 = .ok (.iconst 1, 1) := by decide +kernel
theorem dX12_keep_117 : decode cX12_keep 117 = .ok (.iadd, 1) := by decide +kernel
theorem dX12_keep_118 : decode cX12_keep 118 = .ok (.iastore, 1) := by decide +kernel
theorem dX12_keep_119 : decode cX12_keep 119 = .ok (.return_, 1) := by decide +kernel
theorem dX12_call_0 : decode cX12_call 0 = .ok (.aload_n 0, 1) := by decide +kernel
theorem dX12_call_1 : decode cX12_call 1 = .ok (.iload_n 1, 1) := by decide +kernel
theorem dX12_call_2 : decode cX12_call 2 = .ok (.invokevirtual 97, 3) := by decide +kernel
theorem dX12_call_5 : decode cX12_call 5 = .ok (.ifCond .eq 10, 3) := by decide +kernel
theorem dX12_call_8 : decode cX12_call 8 = .ok (.iload_n 2, 1) := by decide +kernel
theorem dX12_call_9 : decode cX12_call 9 = .ok (.invokestatic 64, 3) := by decide +kernel
theorem dX12_call_12 : decode cX12_call 12 = .ok (.ifCond .ne 10, 3) := by decide +kernel
theorem dX12_call_15 : decode cX12_call 15 = .ok (.aload_n 0, 1) := by decide +kernel
theorem dX12_call_16 : decode cX12_call 16 = .ok (.bipush (-2), 2) := by decide +kernel
theorem dX12_call_18 : decode cX12_call 18 = .ok (.invokevirtual 58, 3) := by decide +kernel
theorem dX12_call_21 : decode cX12_call 21 = .ok (.ireturn, 1) := by decide +kernel
theorem dX12_call_22 : decode cX12_call 22 = .ok (.aload_n 0, 1) := by decide +kernel
theorem dX12_call_23 : decode cX12_call 23 = .ok (.invokevirtual 100, 3) := by decide +kernel
theorem dX12_call_26 : decode cX12_call 26 = .ok (.aload_n 0, 1) := by decide +kernel
theorem dX12_call_27 : decode cX12_call 27 = .ok (.invokevirtual 103, 3) := by decide +kernel
theorem dX12_call_30 : decode cX12_call 30 = .ok (.aload_n 0, 1) := by decide +kernel
theorem dX12_call_31 : decode cX12_call 31 = .ok (.iload_n 1, 1) := by decide +kernel
theorem dX12_call_32 : decode cX12_call 32 = .ok (.iload_n 2, 1) := by decide +kernel
theorem dX12_call_33 : decode cX12_call 33 = .ok (.invokevirtual 106, 3) := by decide +kernel
theorem dX12_call_36 : decode cX12_call 36 = .ok (.istore_n 3, 1) := by decide +kernel
theorem dX12_call_37 : decode cX12_call 37 = .ok (.iconst 0, 1) := by decide +kernel
theorem dX12_call_38 : decode cX12_call 38 = .ok (.istore 4, 2) := by decide +kernel
theorem dX12_call_40 : decode cX12_call 40 = .ok (.iload 4, 2) := by decide +kernel
theorem dX12_call_42 : decode cX12_call 42 = .ok (.aload_n 0, 1) := by decide +kernel
theorem dX12_call_43 : decode cX12_call 43 = .ok (.invokevirtual 46, 3) := by decide +kernel
theorem dX12_call_46 : decode cX12_call 46 = .ok (.if_icmp .ge 25, 3) := by decide +kernel
theorem dX12_call_49 : decode cX12_call 49 = .ok (.aload_n 0, 1) := by decide +kernel
theorem dX12_call_50 : decode cX12_call 50 = .ok (.getfield 7, 3) := by decide +kernel
theorem dX12_call_53 : decode cX12_call 53 = .ok (.iconst 5, 1) := by decide +kernel
theorem dX12_call_54 : decode cX12_call 54 = .ok (.iload 4, 2) := by decide +kernel
theorem dX12_call_56 : decode cX12_call 56 = .ok (.iadd, 1) := by decide +kernel
theorem dX12_call_57 : decode cX12_call 57 = .ok (.aload_n 0, 1) := by decide +kernel
theorem dX12_call_58 : decode cX12_call 58 = .ok (.getfield 27, 3) := by decide +kernel
theorem dX12_call_61 : decode cX12_call 61 = .ok (.iload 4, 2) := by decide +kernel
theorem dX12_call_63 : decode cX12_call 63 = .ok (.iaload, 1) := by decide +kernel
theorem dX12_call_64 : decode cX12_call 64 = .ok (.iastore, 1) := by decide +kernel
theorem dX12_call_65 : decode cX12_call 65 = .ok (.iinc 4 1, 3) := by decide +kernel
theorem dX12_call_68 : decode cX12_call 68 = .ok (.goto (-28), 3) := by decide +kernel
theorem dX12_call_71 : decode cX12_call 71 = .ok (.iload_n 3, 1) := by decide +kernel
theorem dX12_call_72 : decode cX12_call 72 = .ok (.ireturn, 1) := by decide +kernel
theorem dX12_goes_0 : decode cX12_goes 0 = .ok (.aload_n 0, 1) := by decide +kernel
theorem dX12_goes_1 : decode cX12_goes 1 = .ok (.iload_n 1, 1) := by decide +kernel
theorem dX12_goes_2 : decode cX12_goes 2 = .ok (.invokevirtual 97, 3) := by decide +kernel
theorem dX12_goes_5 : decode cX12_goes 5 = .ok (.ifCond .eq 10, 3) := by decide +kernel
theorem dX12_goes_8 : decode cX12_goes 8 = .ok (.iload_n 2, 1) := by decide +kernel
theorem dX12_goes_9 : decode cX12_goes 9 = .ok (.invokestatic 64, 3) := by decide +kernel
theorem dX12_goes_12 : decode cX12_goes 12 = .ok (.ifCond .ne 10, 3) := by decide +kernel
theorem dX12_goes_15 : decode cX12_goes 15 = .ok (.aload_n 0, 1) := by decide +kernel
theorem dX12_goes_16 : decode cX12_goes 16 = .ok (.bipush (-2), 2) := by decide +kernel
theorem dX12_goes_18 : decode cX12_goes 18 = .ok (.invokevirtual 58, 3) := by decide +kernel
theorem dX12_goes_21 : decode cX12_goes 21 = .ok (.ireturn, 1) := by decide +kernel
theorem dX12_goes_22 : decode cX12_goes 22 = .ok (.aload_n 0, 1) := by decide +kernel
theorem dX12_goes_23 : decode cX12_goes 23 = .ok (.getfield 7, 3) := by decide +kernel
theorem dX12_goes_26 : decode cX12_goes 26 = .ok (.bipush 12, 2) := by decide +kernel
theorem dX12_goes_28 : decode cX12_goes 28 = .ok (.iload_n 1, 1) := by decide +kernel
theorem dX12_goes_29 : decode cX12_goes 29 = .ok (.iadd, 1) := by decide +kernel
theorem dX12_goes_30 : decode cX12_goes 30 = .ok (.iaload, 1) := by decide +kernel
theorem dX12_goes_31 : decode cX12_goes 31 = .ok (.istore_n 3, 1) := by decide +kernel
theorem dX12_goes_32 : decode cX12_goes 32 = .ok (.aload_n 0, 1) := by decide +kernel
theorem dX12_goes_33 : decode cX12_goes 33 = .ok (.invokevirtual 100, 3) := by decide +kernel
theorem dX12_goes_36 : decode cX12_goes 36 = .ok (.aload_n 0, 1) := by decide +kernel
theorem dX12_goes_37 : decode cX12_goes 37 = .ok (.getfield 7, 3) := by decide +kernel
theorem dX12_goes_40 : decode cX12_goes 40 = .ok (.bipush 12, 2) := by decide +kernel
theorem dX12_goes_42 : decode cX12_goes 42 = .ok (.iload_n 1, 1) := by decide +kernel
theorem dX12_goes_43 : decode cX12_goes 43 = .ok (.iadd, 1) := by decide +kernel
theorem dX12_goes_44 : decode cX12_goes 44 = .ok (.iload_n 2, 1) := by decide +kernel
theorem dX12_goes_45 : decode cX12_goes 45 = .ok (.iastore, 1) := by decide +kernel
theorem dX12_goes_46 : decode cX12_goes 46 = .ok (.iload_n 3, 1) := by decide +kernel
theorem dX12_goes_47 : decode cX12_goes 47 = .ok (.ireturn, 1) := by decide +kernel
theorem dX12_day_0 : decode cX12_day 0 = .ok (.aload_n 0, 1) := by decide +kernel
theorem dX12_day_1 : decode cX12_day 1 = .ok (.invokevirtual 100, 3) := by decide +kernel
theorem dX12_day_4 : decode cX12_day 4 = .ok (.aload_n 0, 1) := by decide +kernel
theorem dX12_day_5 : decode cX12_day 5 = .ok (.getfield 7, 3) := by decide +kernel
theorem dX12_day_8 : decode cX12_day 8 = .ok (.iconst 1, 1) := by decide +kernel
theorem dX12_day_9 : decode cX12_day 9 = .ok (.dup2, 1) := by decide +kernel
theorem dX12_day_10 : decode cX12_day 10 = .ok (.iaload, 1) := by decide +kernel
theorem dX12_day_11 : decode cX12_day 11 = .ok (.iconst 1, 1) := by decide +kernel
theorem dX12_day_12 : decode cX12_day 12 = .ok (.iadd, 1) := by decide +kernel
theorem dX12_day_13 : decode cX12_day 13 = .ok (.iastore, 1) := by decide +kernel
theorem dX12_day_14 : decode cX12_day 14 = .ok (.aload_n 0, 1) := by decide +kernel
theorem dX12_day_15 : decode cX12_day 15 = .ok (.getfield 7, 3) := by decide +kernel
theorem dX12_day_18 : decode cX12_day 18 = .ok (.iconst 1, 1) := by decide +kernel
theorem dX12_day_19 : decode cX12_day 19 = .ok (.iaload, 1) := by decide +kernel
theorem dX12_day_20 : decode cX12_day 20 = .ok (.ireturn, 1) := by decide +kernel
theorem dX12_undo_0 : decode cX12_undo 0 = .ok (.aload_n 0, 1) := by decide +kernel
theorem dX12_undo_1 : decode cX12_undo 1 = .ok (.getfield 7, 3) := by decide +kernel
theorem dX12_undo_4 : decode cX12_undo 4 = .ok (.iconst 4, 1) := by decide +kernel
theorem dX12_undo_5 : decode cX12_undo 5 = .ok (.iaload, 1) := by decide +kernel
theorem dX12_undo_6 : decode cX12_undo 6 = .ok (.ifCond .ne 8, 3) := by decide +kernel
theorem dX12_undo_9 : decode cX12_undo 9 = .ok (.aload_n 0, 1) := by decide +kernel
theorem dX12_undo_10 : decode cX12_undo 10 = .ok (.invokevirtual 109, 3) := by decide +kernel
theorem dX12_undo_13 : decode cX12_undo 13 = .ok (.ireturn, 1) := by decide +kernel
theorem dX12_undo_14 : decode cX12_undo 14 = .ok (.aload_n 0, 1) := by decide +kernel
theorem dX12_undo_15 : decode cX12_undo 15 = .ok (.getfield 7, 3) := by decide +kernel
theorem dX12_undo_18 : decode cX12_undo 18 = .ok (.iconst 4, 1) := by decide +kernel
theorem dX12_undo_19 : decode cX12_undo 19 = .ok (.dup2, 1) := by decide +kernel
theorem dX12_undo_20 : decode cX12_undo 20 = .ok (.iaload, 1) := by decide +kernel
theorem dX12_undo_21 : decode cX12_undo 21 = .ok (.iconst 1, 1) := by decide +kernel
theorem dX12_undo_22 : decode cX12_undo 22 = .ok (.isub, 1) := by decide +kernel
theorem dX12_undo_23 : decode cX12_undo 23 = .ok (.iastore, 1) := by decide +kernel
theorem dX12_undo_24 : decode cX12_undo 24 = .ok (.bipush 68, 2) := by decide +kernel
theorem dX12_undo_26 : decode cX12_undo 26 = .ok (.bipush 15, 2) := by decide +kernel
theorem dX12_undo_28 : decode cX12_undo 28 = .ok (.aload_n 0, 1) := by decide +kernel
theorem dX12_undo_29 : decode cX12_undo 29 = .ok (.getfield 7, 3) := by decide +kernel
theorem dX12_undo_32 : decode cX12_undo 32 = .ok (.iconst 4, 1) := by decide +kernel
theorem dX12_undo_33 : decode cX12_undo 33 = .ok (.iaload, 1) := by decide +kernel
theorem dX12_undo_34 : decode cX12_undo 34 = .ok (.imul, 1) := by decide +kernel
theorem dX12_undo_35 : decode cX12_undo 35 = .ok (.iadd, 1) := by decide +kernel
theorem dX12_undo_36 : decode cX12_undo 36 = .ok (.istore_n 1, 1) := by decide +kernel
theorem dX12_undo_37 : decode cX12_undo 37 = .ok (.iconst 0, 1) := by decide +kernel
theorem dX12_undo_38 : decode cX12_undo 38 = .ok (.istore_n 2, 1) := by decide +kernel
theorem dX12_undo_39 : decode cX12_undo 39 = .ok (.iload_n 2, 1) := by decide +kernel
theorem dX12_undo_40 : decode cX12_undo 40 = .ok (.bipush 14, 2) := by decide +kernel
theorem dX12_undo_42 : decode cX12_undo 42 = .ok (.if_icmp .ge 25, 3) := by decide +kernel
theorem dX12_undo_45 : decode cX12_undo 45 = .ok (.aload_n 0, 1) := by decide +kernel
theorem dX12_undo_46 : decode cX12_undo 46 = .ok (.getfield 7, 3) := by decide +kernel
theorem dX12_undo_49 : decode cX12_undo 49 = .ok (.iconst 5, 1) := by decide +kernel
theorem dX12_undo_50 : decode cX12_undo 50 = .ok (.iload_n 2, 1) := by decide +kernel
theorem dX12_undo_51 : decode cX12_undo 51 = .ok (.iadd, 1) := by decide +kernel
theorem dX12_undo_52 : decode cX12_undo 52 = .ok (.aload_n 0, 1) := by decide +kernel
theorem dX12_undo_53 : decode cX12_undo 53 = .ok (.getfield 7, 3) := by decide +kernel
theorem dX12_undo_56 : decode cX12_undo 56 = .ok (.iload_n 1, 1) := by decide +kernel
theorem dX12_undo_57 : decode cX12_undo 57 = .ok (.iload_n 2, 1) := by decide +kernel
theorem dX12_undo_58 : decode cX12_undo 58 = .ok (.iadd, 1) := by decide +kernel
theorem dX12_undo_59 : decode cX12_undo 59 = .ok (.iaload, 1) := by decide +kernel
theorem dX12_undo_60 : decode cX12_undo 60 = .ok (.iastore, 1) := by decide +kernel
theorem dX12_undo_61 : decode cX12_undo 61 = .ok (.iinc 2 1, 3) := by decide +kernel
theorem dX12_undo_64 : decode cX12_undo 64 = .ok (.goto (-25), 3) := by decide +kernel
theorem dX12_undo_67 : decode cX12_undo 67 = .ok (.aload_n 0, 1) := by decide +kernel
theorem dX12_undo_68 : decode cX12_undo 68 = .ok (.getfield 7, 3) := by decide +kernel
theorem dX12_undo_71 : decode cX12_undo 71 = .ok (.iconst 1, 1) := by decide +kernel
theorem dX12_undo_72 : decode cX12_undo 72 = .ok (.aload_n 0, 1) := by decide +kernel
theorem dX12_undo_73 : decode cX12_undo 73 = .ok (.getfield 7, 3) := by decide +kernel
theorem dX12_undo_76 : decode cX12_undo 76 = .ok (.iload_n 1, 1) := by decide +kernel
theorem dX12_undo_77 : decode cX12_undo 77 = .ok (.bipush 14, 2) := by decide +kernel
theorem dX12_undo_79 : decode cX12_undo 79 = .ok (.iadd, 1) := by decide +kernel
theorem dX12_undo_80 : decode cX12_undo 80 = .ok (.iaload, 1) := by decide +kernel
theorem dX12_undo_81 : decode cX12_undo 81 = .ok (.iastore, 1) := by decide +kernel
theorem dX12_undo_82 : decode cX12_undo 82 = .ok (.aload_n 0, 1) := by decide +kernel
theorem dX12_undo_83 : decode cX12_undo 83 = .ok (.getfield 7, 3) := by decide +kernel
theorem dX12_undo_86 : decode cX12_undo 86 = .ok (.iconst 1, 1) := by decide +kernel
theorem dX12_undo_87 : decode cX12_undo 87 = .ok (.iaload, 1) := by decide +kernel
theorem dX12_undo_88 : decode cX12_undo 88 = .ok (.ireturn, 1) := by decide +kernel
theorem dX12_of_0 : decode cX12_of 0 = .ok (.aload_n 0, 1) := by decide +kernel
theorem dX12_of_1 : decode cX12_of 1 = .ok (.iload_n 1, 1) := by decide +kernel
theorem dX12_of_2 : decode cX12_of 2 = .ok (.invokevirtual 97, 3) := by decide +kernel
theorem dX12_of_5 : decode cX12_of 5 = .ok (.ifCond .eq 15, 3) := by decide +kernel
theorem dX12_of_8 : decode cX12_of 8 = .ok (.iload_n 2, 1) := by decide +kernel
theorem dX12_of_9 : decode cX12_of 9 = .ok (.i2l, 1) := by decide +kernel
theorem dX12_of_10 : decode cX12_of 10 = .ok (.lconst 0, 1) := by decide +kernel
theorem dX12_of_11 : decode cX12_of 11 = .ok (.ldc2_w 112, 3) := by decide +kernel
theorem dX12_of_14 : decode cX12_of 14 = .ok (.invokestatic 50, 3) := by decide +kernel
theorem dX12_of_17 : decode cX12_of 17 = .ok (.ifCond .ne 10, 3) := by decide +kernel
theorem dX12_of_20 : decode cX12_of 20 = .ok (.aload_n 0, 1) := by decide +kernel
theorem dX12_of_21 : decode cX12_of 21 = .ok (.bipush (-10), 2) := by decide +kernel
theorem dX12_of_23 : decode cX12_of 23 = .ok (.invokevirtual 58, 3) := by decide +kernel
theorem dX12_of_26 : decode cX12_of 26 = .ok (.ireturn, 1) := by decide +kernel
theorem dX12_of_27 : decode cX12_of 27 = .ok (.aload_n 0, 1) := by decide +kernel
theorem dX12_of_28 : decode cX12_of 28 = .ok (.getfield 7, 3) := by decide +kernel
theorem dX12_of_31 : decode cX12_of 31 = .ok (.iload_n 2, 1) := by decide +kernel
theorem dX12_of_32 : decode cX12_of 32 = .ok (.ifCond .ne 8, 3) := by decide +kernel
theorem dX12_of_35 : decode cX12_of 35 = .ok (.bipush 19, 2) := by decide +kernel
theorem dX12_of_37 : decode cX12_of 37 = .ok (.goto 14, 3) := by decide +kernel
theorem dX12_of_40 : decode cX12_of 40 = .ok (.iload_n 2, 1) := by decide +kernel
theorem dX12_of_41 : decode cX12_of 41 = .ok (.iconst 1, 1) := by decide +kernel
theorem dX12_of_42 : decode cX12_of 42 = .ok (.if_icmp .ne 8, 3) := by decide +kernel
theorem dX12_of_45 : decode cX12_of 45 = .ok (.bipush 12, 2) := by decide +kernel
theorem dX12_of_47 : decode cX12_of 47 = .ok (.goto 4, 3) := by decide +kernel
theorem dX12_of_50 : decode cX12_of 50 = .ok (.iconst 5, 1) := by decide +kernel
theorem dX12_of_51 : decode cX12_of 51 = .ok (.iload_n 1, 1) := by decide +kernel
theorem dX12_of_52 : decode cX12_of 52 = .ok (.iadd, 1) := by decide +kernel
theorem dX12_of_53 : decode cX12_of 53 = .ok (.iaload, 1) := by decide +kernel
theorem dX12_of_54 : decode cX12_of 54 = .ok (.ireturn, 1) := by decide +kernel
theorem dX12_turn_0 : decode cX12_turn 0 = .ok (.aload_n 0, 1) := by decide +kernel
theorem dX12_turn_1 : decode cX12_turn 1 = .ok (.iload_n 1, 1) := by decide +kernel
theorem dX12_turn_2 : decode cX12_turn 2 = .ok (.invokevirtual 97, 3) := by decide +kernel
theorem dX12_turn_5 : decode cX12_turn 5 = .ok (.ifCond .eq 10, 3) := by decide +kernel
theorem dX12_turn_8 : decode cX12_turn 8 = .ok (.iload_n 2, 1) := by decide +kernel
theorem dX12_turn_9 : decode cX12_turn 9 = .ok (.invokestatic 64, 3) := by decide +kernel
theorem dX12_turn_12 : decode cX12_turn 12 = .ok (.ifCond .ne 10, 3) := by decide +kernel
theorem dX12_turn_15 : decode cX12_turn 15 = .ok (.aload_n 0, 1) := by decide +kernel
theorem dX12_turn_16 : decode cX12_turn 16 = .ok (.bipush (-2), 2) := by decide +kernel
theorem dX12_turn_18 : decode cX12_turn 18 = .ok (.invokevirtual 58, 3) := by decide +kernel
theorem dX12_turn_21 : decode cX12_turn 21 = .ok (.ireturn, 1) := by decide +kernel
theorem dX12_turn_22 : decode cX12_turn 22 = .ok (.aload_n 0, 1) := by decide +kernel
theorem dX12_turn_23 : decode cX12_turn 23 = .ok (.invokevirtual 103, 3) := by decide +kernel
theorem dX12_turn_26 : decode cX12_turn 26 = .ok (.aload_n 0, 1) := by decide +kernel
theorem dX12_turn_27 : decode cX12_turn 27 = .ok (.iload_n 1, 1) := by decide +kernel
theorem dX12_turn_28 : decode cX12_turn 28 = .ok (.iload_n 2, 1) := by decide +kernel
theorem dX12_turn_29 : decode cX12_turn 29 = .ok (.invokevirtual 90, 3) := by decide +kernel
theorem dX12_turn_32 : decode cX12_turn 32 = .ok (.ireturn, 1) := by decide +kernel
theorem dX12_bearers_0 : decode cX12_bearers 0 = .ok (.aload_n 0, 1) := by decide +kernel
theorem dX12_bearers_1 : decode cX12_bearers 1 = .ok (.iload_n 1, 1) := by decide +kernel
theorem dX12_bearers_2 : decode cX12_bearers 2 = .ok (.invokevirtual 97, 3) := by decide +kernel
theorem dX12_bearers_5 : decode cX12_bearers 5 = .ok (.ifCond .ne 10, 3) := by decide +kernel
theorem dX12_bearers_8 : decode cX12_bearers 8 = .ok (.aload_n 0, 1) := by decide +kernel
theorem dX12_bearers_9 : decode cX12_bearers 9 = .ok (.bipush (-2), 2) := by decide +kernel
theorem dX12_bearers_11 : decode cX12_bearers 11 = .ok (.invokevirtual 58, 3) := by decide +kernel
theorem dX12_bearers_14 : decode cX12_bearers 14 = .ok (.ireturn, 1) := by decide +kernel
theorem dX12_bearers_15 : decode cX12_bearers 15 = .ok (.aload_n 0, 1) := by decide +kernel
theorem dX12_bearers_16 : decode cX12_bearers 16 = .ok (.invokevirtual 103, 3) := by decide +kernel
theorem dX12_bearers_19 : decode cX12_bearers 19 = .ok (.aload_n 0, 1) := by decide +kernel
theorem dX12_bearers_20 : decode cX12_bearers 20 = .ok (.iload_n 1, 1) := by decide +kernel
theorem dX12_bearers_21 : decode cX12_bearers 21 = .ok (.invokevirtual 75, 3) := by decide +kernel
theorem dX12_bearers_24 : decode cX12_bearers 24 = .ok (.ireturn, 1) := by decide +kernel
theorem dX12_names_0 : decode cX12_names 0 = .ok (.iload_n 1, 1) := by decide +kernel
theorem dX12_names_1 : decode cX12_names 1 = .ok (.i2l, 1) := by decide +kernel
theorem dX12_names_2 : decode cX12_names 2 = .ok (.lconst 0, 1) := by decide +kernel
theorem dX12_names_3 : decode cX12_names 3 = .ok (.lconst 1, 1) := by decide +kernel
theorem dX12_names_4 : decode cX12_names 4 = .ok (.invokestatic 50, 3) := by decide +kernel
theorem dX12_names_7 : decode cX12_names 7 = .ok (.ifCond .ne 10, 3) := by decide +kernel
theorem dX12_names_10 : decode cX12_names 10 = .ok (.aload_n 0, 1) := by decide +kernel
theorem dX12_names_11 : decode cX12_names 11 = .ok (.bipush (-2), 2) := by decide +kernel
theorem dX12_names_13 : decode cX12_names 13 = .ok (.invokevirtual 58, 3) := by decide +kernel
theorem dX12_names_16 : decode cX12_names 16 = .ok (.ireturn, 1) := by decide +kernel
theorem dX12_names_17 : decode cX12_names 17 = .ok (.iconst 0, 1) := by decide +kernel
theorem dX12_names_18 : decode cX12_names 18 = .ok (.istore_n 2, 1) := by decide +kernel
theorem dX12_names_19 : decode cX12_names 19 = .ok (.aload_n 0, 1) := by decide +kernel
theorem dX12_names_20 : decode cX12_names 20 = .ok (.invokevirtual 103, 3) := by decide +kernel
theorem dX12_names_23 : decode cX12_names 23 = .ok (.iconst 0, 1) := by decide +kernel
theorem dX12_names_24 : decode cX12_names 24 = .ok (.istore_n 3, 1) := by decide +kernel
theorem dX12_names_25 : decode cX12_names 25 = .ok (.iload_n 3, 1) := by decide +kernel
theorem dX12_names_26 : decode cX12_names 26 = .ok (.aload_n 0, 1) := by decide +kernel
theorem dX12_names_27 : decode cX12_names 27 = .ok (.invokevirtual 46, 3) := by decide +kernel
theorem dX12_names_30 : decode cX12_names 30 = .ok (.if_icmp .ge 49, 3) := by decide +kernel
theorem dX12_names_33 : decode cX12_names 33 = .ok (.aload_n 0, 1) := by decide +kernel
theorem dX12_names_34 : decode cX12_names 34 = .ok (.iload_n 3, 1) := by decide +kernel
theorem dX12_names_35 : decode cX12_names 35 = .ok (.invokevirtual 75, 3) := by decide +kernel
theorem dX12_names_38 : decode cX12_names 38 = .ok (.invokestatic 114, 3) := by decide +kernel
theorem dX12_names_41 : decode cX12_names 41 = .ok (.istore 4, 2) := by decide +kernel
theorem dX12_names_43 : decode cX12_names 43 = .ok (.iload_n 2, 1) := by decide +kernel
theorem dX12_names_44 : decode cX12_names 44 = .ok (.iload_n 1, 1) := by decide +kernel
theorem dX12_names_45 : decode cX12_names 45 = .ok (.ifCond .ne 8, 3) := by decide +kernel
theorem dX12_names_48 : decode cX12_names 48 = .ok (.iload 4, 2) := by decide +kernel
theorem dX12_names_50 : decode cX12_names 50 = .ok (.ifCond .eq 14, 3) := by decide +kernel
theorem dX12_names_53 : decode cX12_names 53 = .ok (.iload_n 1, 1) := by decide +kernel
theorem dX12_names_54 : decode cX12_names 54 = .ok (.iconst 1, 1) := by decide +kernel
theorem dX12_names_55 : decode cX12_names 55 = .ok (.if_icmp .ne 15, 3) := by decide +kernel
theorem dX12_names_58 : decode cX12_names 58 = .ok (.iload 4, 2) := by decide +kernel
theorem dX12_names_60 : decode cX12_names 60 = .ok (.iconst 1, 1) := by decide +kernel
theorem dX12_names_61 : decode cX12_names 61 = .ok (.if_icmp .le 9, 3) := by decide +kernel
theorem dX12_names_64 : decode cX12_names 64 = .ok (.iconst 1, 1) := by decide +kernel
theorem dX12_names_65 : decode cX12_names 65 = .ok (.iload_n 3, 1) := by decide +kernel
theorem dX12_names_66 : decode cX12_names 66 = .ok (.ishl, 1) := by decide +kernel
theorem dX12_names_67 : decode cX12_names 67 = .ok (.goto 4, 3) := by decide +kernel
theorem dX12_names_70 : decode cX12_names 70 = .ok (.iconst 0, 1) := by decide +kernel
theorem dX12_names_71 : decode cX12_names 71 = .ok (.ior, 1) := by decide +kernel
theorem dX12_names_72 : decode cX12_names 72 = .ok (.istore_n 2, 1) := by decide +kernel
theorem dX12_names_73 : decode cX12_names 73 = .ok (.iinc 3 1, 3) := by decide +kernel
theorem dX12_names_76 : decode cX12_names 76 = .ok (.goto (-51), 3) := by decide +kernel
theorem dX12_names_79 : decode cX12_names 79 = .ok (.iload_n 2, 1) := by decide +kernel
theorem dX12_names_80 : decode cX12_names 80 = .ok (.ireturn, 1) := by decide +kernel
theorem dX12_goCodes_0 : decode cX12_goCodes 0 = .ok (.aload_n 0, 1) := by decide +kernel
theorem dX12_goCodes_1 : decode cX12_goCodes 1 = .ok (.invokevirtual 103, 3) := by decide +kernel
theorem dX12_goCodes_4 : decode cX12_goCodes 4 = .ok (.iload_n 1, 1) := by decide +kernel
theorem dX12_goCodes_5 : decode cX12_goCodes 5 = .ok (.iconst (-1), 1) := by decide +kernel
theorem dX12_goCodes_6 : decode cX12_goCodes 6 = .ok (.if_icmp .eq 16, 3) := by decide +kernel
theorem dX12_goCodes_9 : decode cX12_goCodes 9 = .ok (.aload_n 0, 1) := by decide +kernel
theorem dX12_goCodes_10 : decode cX12_goCodes 10 = .ok (.iload_n 1, 1) := by decide +kernel
theorem dX12_goCodes_11 : decode cX12_goCodes 11 = .ok (.bipush 10, 2) := by decide +kernel
theorem dX12_goCodes_13 : decode cX12_goCodes 13 = .ok (.idiv, 1) := by decide +kernel
theorem dX12_goCodes_14 : decode cX12_goCodes 14 = .ok (.iload_n 1, 1) := by decide +kernel
theorem dX12_goCodes_15 : decode cX12_goCodes 15 = .ok (.bipush 10, 2) := by decide +kernel
theorem dX12_goCodes_17 : decode cX12_goCodes 17 = .ok (.irem, 1) := by decide +kernel
theorem dX12_goCodes_18 : decode cX12_goCodes 18 = .ok (.invokevirtual 106, 3) := by decide +kernel
theorem dX12_goCodes_21 : decode cX12_goCodes 21 = .ok (.istore_n 3, 1) := by decide +kernel
theorem dX12_goCodes_22 : decode cX12_goCodes 22 = .ok (.iload_n 2, 1) := by decide +kernel
theorem dX12_goCodes_23 : decode cX12_goCodes 23 = .ok (.iconst (-1), 1) := by decide +kernel
theorem dX12_goCodes_24 : decode cX12_goCodes 24 = .ok (.if_icmp .eq 16, 3) := by decide +kernel
theorem dX12_goCodes_27 : decode cX12_goCodes 27 = .ok (.aload_n 0, 1) := by decide +kernel
theorem dX12_goCodes_28 : decode cX12_goCodes 28 = .ok (.iload_n 2, 1) := by decide +kernel
theorem dX12_goCodes_29 : decode cX12_goCodes 29 = .ok (.bipush 10, 2) := by decide +kernel
theorem dX12_goCodes_31 : decode cX12_goCodes 31 = .ok (.idiv, 1) := by decide +kernel
theorem dX12_goCodes_32 : decode cX12_goCodes 32 = .ok (.iload_n 2, 1) := by decide +kernel
theorem dX12_goCodes_33 : decode cX12_goCodes 33 = .ok (.bipush 10, 2) := by decide +kernel
theorem dX12_goCodes_35 : decode cX12_goCodes 35 = .ok (.irem, 1) := by decide +kernel
theorem dX12_goCodes_36 : decode cX12_goCodes 36 = .ok (.invokevirtual 106, 3) := by decide +kernel
theorem dX12_goCodes_39 : decode cX12_goCodes 39 = .ok (.istore_n 3, 1) := by decide +kernel
theorem dX12_goCodes_40 : decode cX12_goCodes 40 = .ok (.return_, 1) := by decide +kernel
theorem dX12_layCalls_0 : decode cX12_layCalls 0 = .ok (.bipush 10, 2) := by decide +kernel
theorem dX12_layCalls_2 : decode cX12_layCalls 2 = .ok (.aload_n 0, 1) := by decide +kernel
theorem dX12_layCalls_3 : decode cX12_layCalls 3 = .ok (.invokevirtual 46, 3) := by decide +kernel
theorem dX12_layCalls_6 : decode cX12_layCalls 6 = .ok (.imul, 1) := by decide +kernel
theorem dX12_layCalls_7 : decode cX12_layCalls 7 = .ok (.istore_n 3, 1) := by decide +kernel
theorem dX12_layCalls_8 : decode cX12_layCalls 8 = .ok (.aload_n 0, 1) := by decide +kernel
theorem dX12_layCalls_9 : decode cX12_layCalls 9 = .ok (.iconst (-1), 1) := by decide +kernel
theorem dX12_layCalls_10 : decode cX12_layCalls 10 = .ok (.iconst (-1), 1) := by decide +kernel
theorem dX12_layCalls_11 : decode cX12_layCalls 11 = .ok (.invokevirtual 117, 3) := by decide +kernel
theorem dX12_layCalls_14 : decode cX12_layCalls 14 = .ok (.aload_n 0, 1) := by decide +kernel
theorem dX12_layCalls_15 : decode cX12_layCalls 15 = .ok (.aload_n 0, 1) := by decide +kernel
theorem dX12_layCalls_16 : decode cX12_layCalls 16 = .ok (.getfield 27, 3) := by decide +kernel
theorem dX12_layCalls_19 : decode cX12_layCalls 19 = .ok (.iload_n 1, 1) := by decide +kernel
theorem dX12_layCalls_20 : decode cX12_layCalls 20 = .ok (.iaload, 1) := by decide +kernel
theorem dX12_layCalls_21 : decode cX12_layCalls 21 = .ok (.iload_n 2, 1) := by decide +kernel
theorem dX12_layCalls_22 : decode cX12_layCalls 22 = .ok (.if_icmp .ne 7, 3) := by decide +kernel
theorem dX12_layCalls_25 : decode cX12_layCalls 25 = .ok (.iconst 0, 1) := by decide +kernel
theorem dX12_layCalls_26 : decode cX12_layCalls 26 = .ok (.goto 4, 3) := by decide +kernel
theorem dX12_layCalls_29 : decode cX12_layCalls 29 = .ok (.iconst (-1), 1) := by decide +kernel
theorem dX12_layCalls_30 : decode cX12_layCalls 30 = .ok (.putfield 120, 3) := by decide +kernel
theorem dX12_layCalls_33 : decode cX12_layCalls 33 = .ok (.aload_n 0, 1) := by decide +kernel
theorem dX12_layCalls_34 : decode cX12_layCalls 34 = .ok (.iconst (-1), 1) := by decide +kernel
theorem dX12_layCalls_35 : decode cX12_layCalls 35 = .ok (.putfield 124, 3) := by decide +kernel
theorem dX12_layCalls_38 : decode cX12_layCalls 38 = .ok (.iconst 0, 1) := by decide +kernel
theorem dX12_layCalls_39 : decode cX12_layCalls 39 = .ok (.istore 4, 2) := by decide +kernel
theorem dX12_layCalls_41 : decode cX12_layCalls 41 = .ok (.iload 4, 2) := by decide +kernel
theorem dX12_layCalls_43 : decode cX12_layCalls 43 = .ok (.iload_n 3, 1) := by decide +kernel
theorem dX12_layCalls_44 : decode cX12_layCalls 44 = .ok (.if_icmp .ge 45, 3) := by decide +kernel
theorem dX12_layCalls_47 : decode cX12_layCalls 47 = .ok (.aload_n 0, 1) := by decide +kernel
theorem dX12_layCalls_48 : decode cX12_layCalls 48 = .ok (.getfield 120, 3) := by decide +kernel
theorem dX12_layCalls_51 : decode cX12_layCalls 51 = .ok (.iconst (-1), 1) := by decide +kernel
theorem dX12_layCalls_52 : decode cX12_layCalls 52 = .ok (.if_icmp .ne 37, 3) := by decide +kernel
theorem dX12_layCalls_55 : decode cX12_layCalls 55 = .ok (.aload_n 0, 1) := by decide +kernel
theorem dX12_layCalls_56 : decode cX12_layCalls 56 = .ok (.iload 4, 2) := by decide +kernel
theorem dX12_layCalls_58 : decode cX12_layCalls 58 = .ok (.iconst (-1), 1) := by decide +kernel
theorem dX12_layCalls_59 : decode cX12_layCalls 59 = .ok (.invokevirtual 117, 3) := by decide +kernel
theorem dX12_layCalls_62 : decode cX12_layCalls 62 = .ok (.aload_n 0, 1) := by decide +kernel
theorem dX12_layCalls_63 : decode cX12_layCalls 63 = .ok (.getfield 27, 3) := by decide +kernel
theorem dX12_layCalls_66 : decode cX12_layCalls 66 = .ok (.iload_n 1, 1) := by decide +kernel
theorem dX12_layCalls_67 : decode cX12_layCalls 67 = .ok (.iaload, 1) := by decide +kernel
theorem dX12_layCalls_68 : decode cX12_layCalls 68 = .ok (.iload_n 2, 1) := by decide +kernel
theorem dX12_layCalls_69 : decode cX12_layCalls 69 = .ok (.if_icmp .ne 14, 3) := by decide +kernel
theorem dX12_layCalls_72 : decode cX12_layCalls 72 = .ok (.aload_n 0, 1) := by decide +kernel
theorem dX12_layCalls_73 : decode cX12_layCalls 73 = .ok (.iconst 1, 1) := by decide +kernel
theorem dX12_layCalls_74 : decode cX12_layCalls 74 = .ok (.putfield 120, 3) := by decide +kernel
theorem dX12_layCalls_77 : decode cX12_layCalls 77 = .ok (.aload_n 0, 1) := by decide +kernel
theorem dX12_layCalls_78 : decode cX12_layCalls 78 = .ok (.iload 4, 2) := by decide +kernel
theorem dX12_layCalls_80 : decode cX12_layCalls 80 = .ok (.putfield 124, 3) := by decide +kernel
theorem dX12_layCalls_83 : decode cX12_layCalls 83 = .ok (.iinc 4 1, 3) := by decide +kernel
theorem dX12_layCalls_86 : decode cX12_layCalls 86 = .ok (.goto (-45), 3) := by decide +kernel
theorem dX12_layCalls_89 : decode cX12_layCalls 89 = .ok (.iconst 0, 1) := by decide +kernel
theorem dX12_layCalls_90 : decode cX12_layCalls 90 = .ok (.istore 4, 2) := by decide +kernel
theorem dX12_layCalls_92 : decode cX12_layCalls 92 = .ok (.iload 4, 2) := by decide +kernel
theorem dX12_layCalls_94 : decode cX12_layCalls 94 = .ok (.iload_n 3, 1) := by decide +kernel
theorem dX12_layCalls_95 : decode cX12_layCalls 95 = .ok (.if_icmp .ge 69, 3) := by decide +kernel
theorem dX12_layCalls_98 : decode cX12_layCalls 98 = .ok (.aload_n 0, 1) := by decide +kernel
theorem dX12_layCalls_99 : decode cX12_layCalls 99 = .ok (.getfield 120, 3) := by decide +kernel
theorem dX12_layCalls_102 : decode cX12_layCalls 102 = .ok (.iconst (-1), 1) := by decide +kernel
theorem dX12_layCalls_103 : decode cX12_layCalls 103 = .ok (.if_icmp .ne 61, 3) := by decide +kernel
theorem dX12_layCalls_106 : decode cX12_layCalls 106 = .ok (.iconst 0, 1) := by decide +kernel
theorem dX12_layCalls_107 : decode cX12_layCalls 107 = .ok (.istore 5, 2) := by decide +kernel
theorem dX12_layCalls_109 : decode cX12_layCalls 109 = .ok (.iload 5, 2) := by decide +kernel
theorem dX12_layCalls_111 : decode cX12_layCalls 111 = .ok (.iload_n 3, 1) := by decide +kernel
theorem dX12_layCalls_112 : decode cX12_layCalls 112 = .ok (.if_icmp .ge 46, 3) := by decide +kernel
theorem dX12_layCalls_115 : decode cX12_layCalls 115 = .ok (.aload_n 0, 1) := by decide +kernel
theorem dX12_layCalls_116 : decode cX12_layCalls 116 = .ok (.getfield 120, 3) := by decide +kernel
theorem dX12_layCalls_119 : decode cX12_layCalls 119 = .ok (.iconst (-1), 1) := by decide +kernel
theorem dX12_layCalls_120 : decode cX12_layCalls 120 = .ok (.if_icmp .ne 38, 3) := by decide +kernel
theorem dX12_layCalls_123 : decode cX12_layCalls 123 = .ok (.aload_n 0, 1) := by decide +kernel
theorem dX12_layCalls_124 : decode cX12_layCalls 124 = .ok (.iload 4, 2) := by decide +kernel
theorem dX12_layCalls_126 : decode cX12_layCalls 126 = .ok (.iload 5, 2) := by decide +kernel
theorem dX12_layCalls_128 : decode cX12_layCalls 128 = .ok (.invokevirtual 117, 3) := by decide +kernel
theorem dX12_layCalls_131 : decode cX12_layCalls 131 = .ok (.aload_n 0, 1) := by decide +kernel
theorem dX12_layCalls_132 : decode cX12_layCalls 132 = .ok (.getfield 27, 3) := by decide +kernel
theorem dX12_layCalls_135 : decode cX12_layCalls 135 = .ok (.iload_n 1, 1) := by decide +kernel
theorem dX12_layCalls_136 : decode cX12_layCalls 136 = .ok (.iaload, 1) := by decide +kernel
theorem dX12_layCalls_137 : decode cX12_layCalls 137 = .ok (.iload_n 2, 1) := by decide +kernel
theorem dX12_layCalls_138 : decode cX12_layCalls 138 = .ok (.if_icmp .ne 14, 3) := by decide +kernel
theorem dX12_layCalls_141 : decode cX12_layCalls 141 = .ok (.aload_n 0, 1) := by decide +kernel
theorem dX12_layCalls_142 : decode cX12_layCalls 142 = .ok (.iconst 2, 1) := by decide +kernel
theorem dX12_layCalls_143 : decode cX12_layCalls 143 = .ok (.putfield 120, 3) := by decide +kernel
theorem dX12_layCalls_146 : decode cX12_layCalls 146 = .ok (.aload_n 0, 1) := by decide +kernel
theorem dX12_layCalls_147 : decode cX12_layCalls 147 = .ok (.iload 4, 2) := by decide +kernel
theorem dX12_layCalls_149 : decode cX12_layCalls 149 = .ok (.putfield 124, 3) := by decide +kernel
theorem dX12_layCalls_152 : decode cX12_layCalls 152 = .ok (.iinc 5 1, 3) := by decide +kernel
theorem dX12_layCalls_155 : decode cX12_layCalls 155 = .ok (.goto (-46), 3) := by decide +kernel
theorem dX12_layCalls_158 : decode cX12_layCalls 158 = .ok (.iinc 4 1, 3) := by decide +kernel
theorem dX12_layCalls_161 : decode cX12_layCalls 161 = .ok (.goto (-69), 3) := by decide +kernel
theorem dX12_layCalls_164 : decode cX12_layCalls 164 = .ok (.return_, 1) := by decide +kernel
theorem dX12_calls_0 : decode cX12_calls 0 = .ok (.aload_n 0, 1) := by decide +kernel
theorem dX12_calls_1 : decode cX12_calls 1 = .ok (.iload_n 1, 1) := by decide +kernel
theorem dX12_calls_2 : decode cX12_calls 2 = .ok (.invokevirtual 97, 3) := by decide +kernel
theorem dX12_calls_5 : decode cX12_calls 5 = .ok (.ifCond .eq 21, 3) := by decide +kernel
theorem dX12_calls_8 : decode cX12_calls 8 = .ok (.aload_n 0, 1) := by decide +kernel
theorem dX12_calls_9 : decode cX12_calls 9 = .ok (.iload_n 2, 1) := by decide +kernel
theorem dX12_calls_10 : decode cX12_calls 10 = .ok (.invokevirtual 97, 3) := by decide +kernel
theorem dX12_calls_13 : decode cX12_calls 13 = .ok (.ifCond .eq 13, 3) := by decide +kernel
theorem dX12_calls_16 : decode cX12_calls 16 = .ok (.iload_n 3, 1) := by decide +kernel
theorem dX12_calls_17 : decode cX12_calls 17 = .ok (.i2l, 1) := by decide +kernel
theorem dX12_calls_18 : decode cX12_calls 18 = .ok (.lconst 0, 1) := by decide +kernel
theorem dX12_calls_19 : decode cX12_calls 19 = .ok (.lconst 1, 1) := by decide +kernel
theorem dX12_calls_20 : decode cX12_calls 20 = .ok (.invokestatic 50, 3) := by decide +kernel
theorem dX12_calls_23 : decode cX12_calls 23 = .ok (.ifCond .ne 10, 3) := by decide +kernel
theorem dX12_calls_26 : decode cX12_calls 26 = .ok (.aload_n 0, 1) := by decide +kernel
theorem dX12_calls_27 : decode cX12_calls 27 = .ok (.bipush (-2), 2) := by decide +kernel
theorem dX12_calls_29 : decode cX12_calls 29 = .ok (.invokevirtual 58, 3) := by decide +kernel
theorem dX12_calls_32 : decode cX12_calls 32 = .ok (.ireturn, 1) := by decide +kernel
theorem dX12_calls_33 : decode cX12_calls 33 = .ok (.aload_n 0, 1) := by decide +kernel
theorem dX12_calls_34 : decode cX12_calls 34 = .ok (.iload_n 1, 1) := by decide +kernel
theorem dX12_calls_35 : decode cX12_calls 35 = .ok (.iload_n 2, 1) := by decide +kernel
theorem dX12_calls_36 : decode cX12_calls 36 = .ok (.invokevirtual 127, 3) := by decide +kernel
theorem dX12_calls_39 : decode cX12_calls 39 = .ok (.iload_n 3, 1) := by decide +kernel
theorem dX12_calls_40 : decode cX12_calls 40 = .ok (.ifCond .ne 10, 3) := by decide +kernel
theorem dX12_calls_43 : decode cX12_calls 43 = .ok (.aload_n 0, 1) := by decide +kernel
theorem dX12_calls_44 : decode cX12_calls 44 = .ok (.getfield 120, 3) := by decide +kernel
theorem dX12_calls_47 : decode cX12_calls 47 = .ok (.goto 7, 3) := by decide +kernel
theorem dX12_calls_50 : decode cX12_calls 50 = .ok (.aload_n 0, 1) := by decide +kernel
theorem dX12_calls_51 : decode cX12_calls 51 = .ok (.getfield 124, 3) := by decide +kernel
theorem dX12_calls_54 : decode cX12_calls 54 = .ok (.ireturn, 1) := by decide +kernel
theorem dX12_judgeOwn_0 : decode cX12_judgeOwn 0 = .ok (.aload_n 0, 1) := by decide +kernel
theorem dX12_judgeOwn_1 : decode cX12_judgeOwn 1 = .ok (.invokevirtual 130, 3) := by decide +kernel
theorem dX12_judgeOwn_4 : decode cX12_judgeOwn 4 = .ok (.istore_n 3, 1) := by decide +kernel
theorem dX12_judgeOwn_5 : decode cX12_judgeOwn 5 = .ok (.iload_n 3, 1) := by decide +kernel
theorem dX12_judgeOwn_6 : decode cX12_judgeOwn 6 = .ok (.aload_n 0, 1) := by decide +kernel
theorem dX12_judgeOwn_7 : decode cX12_judgeOwn 7 = .ok (.getfield 133, 3) := by decide +kernel
theorem dX12_judgeOwn_10 : decode cX12_judgeOwn 10 = .ok (.if_icmp .le 18, 3) := by decide +kernel
theorem dX12_judgeOwn_13 : decode cX12_judgeOwn 13 = .ok (.aload_n 0, 1) := by decide +kernel
theorem dX12_judgeOwn_14 : decode cX12_judgeOwn 14 = .ok (.iload_n 3, 1) := by decide +kernel
theorem dX12_judgeOwn_15 : decode cX12_judgeOwn 15 = .ok (.putfield 133, 3) := by decide +kernel
theorem dX12_judgeOwn_18 : decode cX12_judgeOwn 18 = .ok (.aload_n 0, 1) := by decide +kernel
theorem dX12_judgeOwn_19 : decode cX12_judgeOwn 19 = .ok (.iload_n 1, 1) := by decide +kernel
theorem dX12_judgeOwn_20 : decode cX12_judgeOwn 20 = .ok (.putfield 120, 3) := by decide +kernel
theorem dX12_judgeOwn_23 : decode cX12_judgeOwn 23 = .ok (.aload_n 0, 1) := by decide +kernel
theorem dX12_judgeOwn_24 : decode cX12_judgeOwn 24 = .ok (.iload_n 2, 1) := by decide +kernel
theorem dX12_judgeOwn_25 : decode cX12_judgeOwn 25 = .ok (.putfield 124, 3) := by decide +kernel
theorem dX12_judgeOwn_28 : decode cX12_judgeOwn 28 = .ok (.return_, 1) := by decide +kernel
theorem dX12_layOwn_0 : decode cX12_layOwn 0 = .ok (.bipush 10, 2) := by decide +kernel
theorem dX12_layOwn_2 : decode cX12_layOwn 2 = .ok (.aload_n 0, 1) := by decide +kernel
theorem dX12_layOwn_3 : decode cX12_layOwn 3 = .ok (.invokevirtual 46, 3) := by decide +kernel
theorem dX12_layOwn_6 : decode cX12_layOwn 6 = .ok (.imul, 1) := by decide +kernel
theorem dX12_layOwn_7 : decode cX12_layOwn 7 = .ok (.istore_n 1, 1) := by decide +kernel
theorem dX12_layOwn_8 : decode cX12_layOwn 8 = .ok (.aload_n 0, 1) := by decide +kernel
theorem dX12_layOwn_9 : decode cX12_layOwn 9 = .ok (.iconst (-1), 1) := by decide +kernel
theorem dX12_layOwn_10 : decode cX12_layOwn 10 = .ok (.putfield 133, 3) := by decide +kernel
theorem dX12_layOwn_13 : decode cX12_layOwn 13 = .ok (.aload_n 0, 1) := by decide +kernel
theorem dX12_layOwn_14 : decode cX12_layOwn 14 = .ok (.iconst (-1), 1) := by decide +kernel
theorem dX12_layOwn_15 : decode cX12_layOwn 15 = .ok (.iconst (-1), 1) := by decide +kernel
theorem dX12_layOwn_16 : decode cX12_layOwn 16 = .ok (.invokevirtual 117, 3) := by decide +kernel
theorem dX12_layOwn_19 : decode cX12_layOwn 19 = .ok (.aload_n 0, 1) := by decide +kernel
theorem dX12_layOwn_20 : decode cX12_layOwn 20 = .ok (.iconst 0, 1) := by decide +kernel
theorem dX12_layOwn_21 : decode cX12_layOwn 21 = .ok (.iconst (-1), 1) := by decide +kernel
theorem dX12_layOwn_22 : decode cX12_layOwn 22 = .ok (.invokevirtual 136, 3) := by decide +kernel
theorem dX12_layOwn_25 : decode cX12_layOwn 25 = .ok (.iconst 0, 1) := by decide +kernel
theorem dX12_layOwn_26 : decode cX12_layOwn 26 = .ok (.istore_n 2, 1) := by decide +kernel
theorem dX12_layOwn_27 : decode cX12_layOwn 27 = .ok (.iload_n 2, 1) := by decide +kernel
theorem dX12_layOwn_28 : decode cX12_layOwn 28 = .ok (.iload_n 1, 1) := by decide +kernel
theorem dX12_layOwn_29 : decode cX12_layOwn 29 = .ok (.if_icmp .ge 21, 3) := by decide +kernel
theorem dX12_layOwn_32 : decode cX12_layOwn 32 = .ok (.aload_n 0, 1) := by decide +kernel
theorem dX12_layOwn_33 : decode cX12_layOwn 33 = .ok (.iload_n 2, 1) := by decide +kernel
theorem dX12_layOwn_34 : decode cX12_layOwn 34 = .ok (.iconst (-1), 1) := by decide +kernel
theorem dX12_layOwn_35 : decode cX12_layOwn 35 = .ok (.invokevirtual 117, 3) := by decide +kernel
theorem dX12_layOwn_38 : decode cX12_layOwn 38 = .ok (.aload_n 0, 1) := by decide +kernel
theorem dX12_layOwn_39 : decode cX12_layOwn 39 = .ok (.iconst 1, 1) := by decide +kernel
theorem dX12_layOwn_40 : decode cX12_layOwn 40 = .ok (.iload_n 2, 1) := by decide +kernel
theorem dX12_layOwn_41 : decode cX12_layOwn 41 = .ok (.invokevirtual 136, 3) := by decide +kernel
theorem dX12_layOwn_44 : decode cX12_layOwn 44 = .ok (.iinc 2 1, 3) := by decide +kernel
theorem dX12_layOwn_47 : decode cX12_layOwn 47 = .ok (.goto (-20), 3) := by decide +kernel
theorem dX12_layOwn_50 : decode cX12_layOwn 50 = .ok (.iconst 0, 1) := by decide +kernel
theorem dX12_layOwn_51 : decode cX12_layOwn 51 = .ok (.istore_n 2, 1) := by decide +kernel
theorem dX12_layOwn_52 : decode cX12_layOwn 52 = .ok (.iload_n 2, 1) := by decide +kernel
theorem dX12_layOwn_53 : decode cX12_layOwn 53 = .ok (.iload_n 1, 1) := by decide +kernel
theorem dX12_layOwn_54 : decode cX12_layOwn 54 = .ok (.if_icmp .ge 34, 3) := by decide +kernel
theorem dX12_layOwn_57 : decode cX12_layOwn 57 = .ok (.iconst 0, 1) := by decide +kernel
theorem dX12_layOwn_58 : decode cX12_layOwn 58 = .ok (.istore_n 3, 1) := by decide +kernel
theorem dX12_layOwn_59 : decode cX12_layOwn 59 = .ok (.iload_n 3, 1) := by decide +kernel
theorem dX12_layOwn_60 : decode cX12_layOwn 60 = .ok (.iload_n 1, 1) := by decide +kernel
theorem dX12_layOwn_61 : decode cX12_layOwn 61 = .ok (.if_icmp .ge 21, 3) := by decide +kernel
theorem dX12_layOwn_64 : decode cX12_layOwn 64 = .ok (.aload_n 0, 1) := by decide +kernel
theorem dX12_layOwn_65 : decode cX12_layOwn 65 = .ok (.iload_n 2, 1) := by decide +kernel
theorem dX12_layOwn_66 : decode cX12_layOwn 66 = .ok (.iload_n 3, 1) := by decide +kernel
theorem dX12_layOwn_67 : decode cX12_layOwn 67 = .ok (.invokevirtual 117, 3) := by decide +kernel
theorem dX12_layOwn_70 : decode cX12_layOwn 70 = .ok (.aload_n 0, 1) := by decide +kernel
theorem dX12_layOwn_71 : decode cX12_layOwn 71 = .ok (.iconst 2, 1) := by decide +kernel
theorem dX12_layOwn_72 : decode cX12_layOwn 72 = .ok (.iload_n 2, 1) := by decide +kernel
theorem dX12_layOwn_73 : decode cX12_layOwn 73 = .ok (.invokevirtual 136, 3) := by decide +kernel
theorem dX12_layOwn_76 : decode cX12_layOwn 76 = .ok (.iinc 3 1, 3) := by decide +kernel
theorem dX12_layOwn_79 : decode cX12_layOwn 79 = .ok (.goto (-20), 3) := by decide +kernel
theorem dX12_layOwn_82 : decode cX12_layOwn 82 = .ok (.iinc 2 1, 3) := by decide +kernel
theorem dX12_layOwn_85 : decode cX12_layOwn 85 = .ok (.goto (-33), 3) := by decide +kernel
theorem dX12_layOwn_88 : decode cX12_layOwn 88 = .ok (.return_, 1) := by decide +kernel
theorem dX12_own_0 : decode cX12_own 0 = .ok (.iload_n 1, 1) := by decide +kernel
theorem dX12_own_1 : decode cX12_own 1 = .ok (.i2l, 1) := by decide +kernel
theorem dX12_own_2 : decode cX12_own 2 = .ok (.lconst 0, 1) := by decide +kernel
theorem dX12_own_3 : decode cX12_own 3 = .ok (.ldc2_w 112, 3) := by decide +kernel
theorem dX12_own_6 : decode cX12_own 6 = .ok (.invokestatic 50, 3) := by decide +kernel
theorem dX12_own_9 : decode cX12_own 9 = .ok (.ifCond .ne 10, 3) := by decide +kernel
theorem dX12_own_12 : decode cX12_own 12 = .ok (.aload_n 0, 1) := by decide +kernel
theorem dX12_own_13 : decode cX12_own 13 = .ok (.bipush (-2), 2) := by decide +kernel
theorem dX12_own_15 : decode cX12_own 15 = .ok (.invokevirtual 58, 3) := by decide +kernel
theorem dX12_own_18 : decode cX12_own 18 = .ok (.ireturn, 1) := by decide +kernel
theorem dX12_own_19 : decode cX12_own 19 = .ok (.aload_n 0, 1) := by decide +kernel
theorem dX12_own_20 : decode cX12_own 20 = .ok (.invokevirtual 139, 3) := by decide +kernel
theorem dX12_own_23 : decode cX12_own 23 = .ok (.iload_n 1, 1) := by decide +kernel
theorem dX12_own_24 : decode cX12_own 24 = .ok (.ifCond .ne 10, 3) := by decide +kernel
theorem dX12_own_27 : decode cX12_own 27 = .ok (.aload_n 0, 1) := by decide +kernel
theorem dX12_own_28 : decode cX12_own 28 = .ok (.getfield 120, 3) := by decide +kernel
theorem dX12_own_31 : decode cX12_own 31 = .ok (.goto 19, 3) := by decide +kernel
theorem dX12_own_34 : decode cX12_own 34 = .ok (.iload_n 1, 1) := by decide +kernel
theorem dX12_own_35 : decode cX12_own 35 = .ok (.iconst 1, 1) := by decide +kernel
theorem dX12_own_36 : decode cX12_own 36 = .ok (.if_icmp .ne 10, 3) := by decide +kernel
theorem dX12_own_39 : decode cX12_own 39 = .ok (.aload_n 0, 1) := by decide +kernel
theorem dX12_own_40 : decode cX12_own 40 = .ok (.getfield 133, 3) := by decide +kernel
theorem dX12_own_43 : decode cX12_own 43 = .ok (.goto 7, 3) := by decide +kernel
theorem dX12_own_46 : decode cX12_own 46 = .ok (.aload_n 0, 1) := by decide +kernel
theorem dX12_own_47 : decode cX12_own 47 = .ok (.getfield 124, 3) := by decide +kernel
theorem dX12_own_50 : decode cX12_own 50 = .ok (.ireturn, 1) := by decide +kernel
theorem dX12_ring_0 : decode cX12_ring 0 = .ok (.aload_n 0, 1) := by decide +kernel
theorem dX12_ring_1 : decode cX12_ring 1 = .ok (.iload_n 1, 1) := by decide +kernel
theorem dX12_ring_2 : decode cX12_ring 2 = .ok (.invokevirtual 97, 3) := by decide +kernel
theorem dX12_ring_5 : decode cX12_ring 5 = .ok (.ifCond .ne 10, 3) := by decide +kernel
theorem dX12_ring_8 : decode cX12_ring 8 = .ok (.aload_n 0, 1) := by decide +kernel
theorem dX12_ring_9 : decode cX12_ring 9 = .ok (.bipush (-2), 2) := by decide +kernel
theorem dX12_ring_11 : decode cX12_ring 11 = .ok (.invokevirtual 58, 3) := by decide +kernel
theorem dX12_ring_14 : decode cX12_ring 14 = .ok (.ireturn, 1) := by decide +kernel
theorem dX12_ring_15 : decode cX12_ring 15 = .ok (.iload_n 1, 1) := by decide +kernel
theorem dX12_ring_16 : decode cX12_ring 16 = .ok (.istore_n 2, 1) := by decide +kernel
theorem dX12_ring_17 : decode cX12_ring 17 = .ok (.iconst 1, 1) := by decide +kernel
theorem dX12_ring_18 : decode cX12_ring 18 = .ok (.istore_n 3, 1) := by decide +kernel
theorem dX12_ring_19 : decode cX12_ring 19 = .ok (.iload_n 3, 1) := by decide +kernel
theorem dX12_ring_20 : decode cX12_ring 20 = .ok (.bipush 7, 2) := by decide +kernel
theorem dX12_ring_22 : decode cX12_ring 22 = .ok (.if_icmp .gt 39, 3) := by decide +kernel
theorem dX12_ring_25 : decode cX12_ring 25 = .ok (.aload_n 0, 1) := by decide +kernel
theorem dX12_ring_26 : decode cX12_ring 26 = .ok (.getfield 7, 3) := by decide +kernel
theorem dX12_ring_29 : decode cX12_ring 29 = .ok (.iconst 5, 1) := by decide +kernel
theorem dX12_ring_30 : decode cX12_ring 30 = .ok (.iload_n 2, 1) := by decide +kernel
theorem dX12_ring_31 : decode cX12_ring 31 = .ok (.iadd, 1) := by decide +kernel
theorem dX12_ring_32 : decode cX12_ring 32 = .ok (.iaload, 1) := by decide +kernel
theorem dX12_ring_33 : decode cX12_ring 33 = .ok (.istore_n 2, 1) := by decide +kernel
theorem dX12_ring_34 : decode cX12_ring 34 = .ok (.iload_n 2, 1) := by decide +kernel
theorem dX12_ring_35 : decode cX12_ring 35 = .ok (.iconst (-1), 1) := by decide +kernel
theorem dX12_ring_36 : decode cX12_ring 36 = .ok (.if_icmp .eq 8, 3) := by decide +kernel
theorem dX12_ring_39 : decode cX12_ring 39 = .ok (.iload_n 2, 1) := by decide +kernel
theorem dX12_ring_40 : decode cX12_ring 40 = .ok (.iload_n 1, 1) := by decide +kernel
theorem dX12_ring_41 : decode cX12_ring 41 = .ok (.if_icmp .ne 14, 3) := by decide +kernel
theorem dX12_ring_44 : decode cX12_ring 44 = .ok (.iload_n 2, 1) := by decide +kernel
theorem dX12_ring_45 : decode cX12_ring 45 = .ok (.iload_n 1, 1) := by decide +kernel
theorem dX12_ring_46 : decode cX12_ring 46 = .ok (.if_icmp .ne 7, 3) := by decide +kernel
theorem dX12_ring_49 : decode cX12_ring 49 = .ok (.iload_n 3, 1) := by decide +kernel
theorem dX12_ring_50 : decode cX12_ring 50 = .ok (.goto 4, 3) := by decide +kernel
theorem dX12_ring_53 : decode cX12_ring 53 = .ok (.iconst 0, 1) := by decide +kernel
theorem dX12_ring_54 : decode cX12_ring 54 = .ok (.ireturn, 1) := by decide +kernel
theorem dX12_ring_55 : decode cX12_ring 55 = .ok (.iinc 3 1, 3) := by decide +kernel
theorem dX12_ring_58 : decode cX12_ring 58 = .ok (.goto (-39), 3) := by decide +kernel
theorem dX12_ring_61 : decode cX12_ring 61 = .ok (.iconst 0, 1) := by decide +kernel
theorem dX12_ring_62 : decode cX12_ring 62 = .ok (.ireturn, 1) := by decide +kernel
theorem dX12_deed_0 : decode cX12_deed 0 = .ok (.aload_n 0, 1) := by decide +kernel
theorem dX12_deed_1 : decode cX12_deed 1 = .ok (.iload_n 1, 1) := by decide +kernel
theorem dX12_deed_2 : decode cX12_deed 2 = .ok (.invokevirtual 97, 3) := by decide +kernel
theorem dX12_deed_5 : decode cX12_deed 5 = .ok (.ifCond .eq 15, 3) := by decide +kernel
theorem dX12_deed_8 : decode cX12_deed 8 = .ok (.iload_n 2, 1) := by decide +kernel
theorem dX12_deed_9 : decode cX12_deed 9 = .ok (.i2l, 1) := by decide +kernel
theorem dX12_deed_10 : decode cX12_deed 10 = .ok (.lconst 1, 1) := by decide +kernel
theorem dX12_deed_11 : decode cX12_deed 11 = .ok (.ldc2_w 142, 3) := by decide +kernel
theorem dX12_deed_14 : decode cX12_deed 14 = .ok (.invokestatic 50, 3) := by decide +kernel
theorem dX12_deed_17 : decode cX12_deed 17 = .ok (.ifCond .ne 10, 3) := by decide +kernel
theorem dX12_deed_20 : decode cX12_deed 20 = .ok (.aload_n 0, 1) := by decide +kernel
theorem dX12_deed_21 : decode cX12_deed 21 = .ok (.bipush (-2), 2) := by decide +kernel
theorem dX12_deed_23 : decode cX12_deed 23 = .ok (.invokevirtual 58, 3) := by decide +kernel
theorem dX12_deed_26 : decode cX12_deed 26 = .ok (.ireturn, 1) := by decide +kernel
theorem dX12_deed_27 : decode cX12_deed 27 = .ok (.aload_n 0, 1) := by decide +kernel
theorem dX12_deed_28 : decode cX12_deed 28 = .ok (.getfield 7, 3) := by decide +kernel
theorem dX12_deed_31 : decode cX12_deed 31 = .ok (.iconst 2, 1) := by decide +kernel
theorem dX12_deed_32 : decode cX12_deed 32 = .ok (.iaload, 1) := by decide +kernel
theorem dX12_deed_33 : decode cX12_deed 33 = .ok (.bipush 6, 2) := by decide +kernel
theorem dX12_deed_35 : decode cX12_deed 35 = .ok (.if_icmp .ne 8, 3) := by decide +kernel
theorem dX12_deed_38 : decode cX12_deed 38 = .ok (.aload_n 0, 1) := by decide +kernel
theorem dX12_deed_39 : decode cX12_deed 39 = .ok (.invokevirtual 68, 3) := by decide +kernel
theorem dX12_deed_42 : decode cX12_deed 42 = .ok (.ireturn, 1) := by decide +kernel
theorem dX12_deed_43 : decode cX12_deed 43 = .ok (.aload_n 0, 1) := by decide +kernel
theorem dX12_deed_44 : decode cX12_deed 44 = .ok (.getfield 7, 3) := by decide +kernel
theorem dX12_deed_47 : decode cX12_deed 47 = .ok (.bipush 26, 2) := by decide +kernel
theorem dX12_deed_49 : decode cX12_deed 49 = .ok (.iconst 2, 1) := by decide +kernel
theorem dX12_deed_50 : decode cX12_deed 50 = .ok (.aload_n 0, 1) := by decide +kernel
theorem dX12_deed_51 : decode cX12_deed 51 = .ok (.getfield 7, 3) := by decide +kernel
theorem dX12_deed_54 : decode cX12_deed 54 = .ok (.iconst 2, 1) := by decide +kernel
theorem dX12_deed_55 : decode cX12_deed 55 = .ok (.iaload, 1) := by decide +kernel
theorem dX12_deed_56 : decode cX12_deed 56 = .ok (.imul, 1) := by decide +kernel
theorem dX12_deed_57 : decode cX12_deed 57 = .ok (.iadd, 1) := by decide +kernel
theorem dX12_deed_58 : decode cX12_deed 58 = .ok (.iload_n 1, 1) := by decide +kernel
theorem dX12_deed_59 : decode cX12_deed 59 = .ok (.iastore, 1) := by decide +kernel
theorem dX12_deed_60 : decode cX12_deed 60 = .ok (.aload_n 0, 1) := by decide +kernel
theorem dX12_deed_61 : decode cX12_deed 61 = .ok (.getfield 7, 3) := by decide +kernel
theorem dX12_deed_64 : decode cX12_deed 64 = .ok (.bipush 26, 2) := by decide +kernel
theorem dX12_deed_66 : decode cX12_deed 66 = .ok (.iconst 2, 1) := by decide +kernel
theorem dX12_deed_67 : decode cX12_deed 67 = .ok (.aload_n 0, 1) := by decide +kernel
theorem dX12_deed_68 : decode cX12_deed 68 = .ok (.getfield 7, 3) := by decide +kernel
theorem dX12_deed_71 : decode cX12_deed 71 = .ok (.iconst 2, 1) := by decide +kernel
theorem dX12_deed_72 : decode cX12_deed 72 = .ok (.iaload, 1) := by decide +kernel
theorem dX12_deed_73 : decode cX12_deed 73 = .ok (.imul, 1) := by decide +kernel
theorem dX12_deed_74 : decode cX12_deed 74 = .ok (.iadd, 1) := by decide +kernel
theorem dX12_deed_75 : decode cX12_deed 75 = .ok (.iconst 1, 1) := by decide +kernel
theorem dX12_deed_76 : decode cX12_deed 76 = .ok (.iadd, 1) := by decide +kernel
theorem dX12_deed_77 : decode cX12_deed 77 = .ok (.iload_n 2, 1) := by decide +kernel
theorem dX12_deed_78 : decode cX12_deed 78 = .ok (.iastore, 1) := by decide +kernel
theorem dX12_deed_79 : decode cX12_deed 79 = .ok (.aload_n 0, 1) := by decide +kernel
theorem dX12_deed_80 : decode cX12_deed 80 = .ok (.getfield 7, 3) := by decide +kernel
theorem dX12_deed_83 : decode cX12_deed 83 = .ok (.iconst 2, 1) := by decide +kernel
theorem dX12_deed_84 : decode cX12_deed 84 = .ok (.dup2, 1) := by decide +kernel
theorem dX12_deed_85 : decode cX12_deed 85 = .ok (.iaload, 1) := by decide +kernel
theorem dX12_deed_86 : decode cX12_deed 86 = .ok (.iconst 1, 1) := by decide +kernel
theorem dX12_deed_87 : decode cX12_deed 87 = .ok (.iadd, 1) := by decide +kernel
theorem dX12_deed_88 : decode cX12_deed 88 = .ok (.iastore, 1) := by decide +kernel
theorem dX12_deed_89 : decode cX12_deed 89 = .ok (.aload_n 0, 1) := by decide +kernel
theorem dX12_deed_90 : decode cX12_deed 90 = .ok (.getfield 7, 3) := by decide +kernel
theorem dX12_deed_93 : decode cX12_deed 93 = .ok (.iconst 2, 1) := by decide +kernel
theorem dX12_deed_94 : decode cX12_deed 94 = .ok (.iaload, 1) := by decide +kernel
theorem dX12_deed_95 : decode cX12_deed 95 = .ok (.ireturn, 1) := by decide +kernel
theorem dX12_penceOn_0 : decode cX12_penceOn 0 = .ok (.iconst 0, 1) := by decide +kernel
theorem dX12_penceOn_1 : decode cX12_penceOn 1 = .ok (.istore_n 2, 1) := by decide +kernel
theorem dX12_penceOn_2 : decode cX12_penceOn 2 = .ok (.iconst 0, 1) := by decide +kernel
theorem dX12_penceOn_3 : decode cX12_penceOn 3 = .ok (.istore_n 3, 1) := by decide +kernel
theorem dX12_penceOn_4 : decode cX12_penceOn 4 = .ok (.iload_n 3, 1) := by decide +kernel
theorem dX12_penceOn_5 : decode cX12_penceOn 5 = .ok (.aload_n 0, 1) := by decide +kernel
theorem dX12_penceOn_6 : decode cX12_penceOn 6 = .ok (.getfield 7, 3) := by decide +kernel
theorem dX12_penceOn_9 : decode cX12_penceOn 9 = .ok (.iconst 2, 1) := by decide +kernel
theorem dX12_penceOn_10 : decode cX12_penceOn 10 = .ok (.iaload, 1) := by decide +kernel
theorem dX12_penceOn_11 : decode cX12_penceOn 11 = .ok (.if_icmp .ge 44, 3) := by decide +kernel
theorem dX12_penceOn_14 : decode cX12_penceOn 14 = .ok (.iload_n 2, 1) := by decide +kernel
theorem dX12_penceOn_15 : decode cX12_penceOn 15 = .ok (.aload_n 0, 1) := by decide +kernel
theorem dX12_penceOn_16 : decode cX12_penceOn 16 = .ok (.getfield 7, 3) := by decide +kernel
theorem dX12_penceOn_19 : decode cX12_penceOn 19 = .ok (.bipush 26, 2) := by decide +kernel
theorem dX12_penceOn_21 : decode cX12_penceOn 21 = .ok (.iconst 2, 1) := by decide +kernel
theorem dX12_penceOn_22 : decode cX12_penceOn 22 = .ok (.iload_n 3, 1) := by decide +kernel
theorem dX12_penceOn_23 : decode cX12_penceOn 23 = .ok (.imul, 1) := by decide +kernel
theorem dX12_penceOn_24 : decode cX12_penceOn 24 = .ok (.iadd, 1) := by decide +kernel
theorem dX12_penceOn_25 : decode cX12_penceOn 25 = .ok (.iaload, 1) := by decide +kernel
theorem dX12_penceOn_26 : decode cX12_penceOn 26 = .ok (.iload_n 1, 1) := by decide +kernel
theorem dX12_penceOn_27 : decode cX12_penceOn 27 = .ok (.if_icmp .ne 19, 3) := by decide +kernel
theorem dX12_penceOn_30 : decode cX12_penceOn 30 = .ok (.aload_n 0, 1) := by decide +kernel
theorem dX12_penceOn_31 : decode cX12_penceOn 31 = .ok (.getfield 7, 3) := by decide +kernel
theorem dX12_penceOn_34 : decode cX12_penceOn 34 = .ok (.bipush 26, 2) := by decide +kernel
theorem dX12_penceOn_36 : decode cX12_penceOn 36 = .ok (.iconst 2, 1) := by decide +kernel
theorem dX12_penceOn_37 : decode cX12_penceOn 37 = .ok (.iload_n 3, 1) := by decide +kernel
theorem dX12_penceOn_38 : decode cX12_penceOn 38 = .ok (.imul, 1) := by decide +kernel
theorem dX12_penceOn_39 : decode cX12_penceOn 39 = .ok (.iadd, 1) := by decide +kernel
theorem dX12_penceOn_40 : decode cX12_penceOn 40 = .ok (.iconst 1, 1) := by decide +kernel
theorem dX12_penceOn_41 : decode cX12_penceOn 41 = .ok (.iadd, 1) := by decide +kernel
theorem dX12_penceOn_42 : decode cX12_penceOn 42 = .ok (.iaload, 1) := by decide +kernel
theorem dX12_penceOn_43 : decode cX12_penceOn 43 = .ok (.goto 4, 3) := by decide +kernel
theorem dX12_penceOn_46 : decode cX12_penceOn 46 = .ok (.iconst 0, 1) := by decide +kernel
theorem dX12_penceOn_47 : decode cX12_penceOn 47 = .ok (.iadd, 1) := by decide +kernel
theorem dX12_penceOn_48 : decode cX12_penceOn 48 = .ok (.istore_n 2, 1) := by decide +kernel
theorem dX12_penceOn_49 : decode cX12_penceOn 49 = .ok (.iinc 3 1, 3) := by decide +kernel
theorem dX12_penceOn_52 : decode cX12_penceOn 52 = .ok (.goto (-48), 3) := by decide +kernel
theorem dX12_penceOn_55 : decode cX12_penceOn 55 = .ok (.iload_n 2, 1) := by decide +kernel
theorem dX12_penceOn_56 : decode cX12_penceOn 56 = .ok (.ireturn, 1) := by decide +kernel
theorem dX12_fraction_0 : decode cX12_fraction 0 = .ok (.lload_n 1, 1) := by decide +kernel
theorem dX12_fraction_1 : decode cX12_fraction 1 = .ok (.lstore 5, 2) := by decide +kernel
theorem dX12_fraction_3 : decode cX12_fraction 3 = .ok (.lload_n 3, 1) := by decide +kernel
theorem dX12_fraction_4 : decode cX12_fraction 4 = .ok (.lstore 7, 2) := by decide +kernel
theorem dX12_fraction_6 : decode cX12_fraction 6 = .ok (.lload 7, 2) := by decide +kernel
theorem dX12_fraction_8 : decode cX12_fraction 8 = .ok (.lconst 0, 1) := by decide +kernel
theorem dX12_fraction_9 : decode cX12_fraction 9 = .ok (.lcmp, 1) := by decide +kernel
theorem dX12_fraction_10 : decode cX12_fraction 10 = .ok (.ifCond .eq 21, 3) := by decide +kernel
theorem dX12_fraction_13 : decode cX12_fraction 13 = .ok (.lload 5, 2) := by decide +kernel
theorem dX12_fraction_15 : decode cX12_fraction 15 = .ok (.lload 7, 2) := by decide +kernel
theorem dX12_fraction_17 : decode cX12_fraction 17 = .ok (.lrem, 1) := by decide +kernel
theorem dX12_fraction_18 : decode cX12_fraction 18 = .ok (.lstore 9, 2) := by decide +kernel
theorem dX12_fraction_20 : decode cX12_fraction 20 = .ok (.lload 7, 2) := by decide +kernel
theorem dX12_fraction_22 : decode cX12_fraction 22 = .ok (.lstore 5, 2) := by decide +kernel
theorem dX12_fraction_24 : decode cX12_fraction 24 = .ok (.lload 9, 2) := by decide +kernel
theorem dX12_fraction_26 : decode cX12_fraction 26 = .ok (.lstore 7, 2) := by decide +kernel
theorem dX12_fraction_28 : decode cX12_fraction 28 = .ok (.goto (-22), 3) := by decide +kernel
theorem dX12_fraction_31 : decode cX12_fraction 31 = .ok (.aload_n 0, 1) := by decide +kernel
theorem dX12_fraction_32 : decode cX12_fraction 32 = .ok (.lload_n 1, 1) := by decide +kernel
theorem dX12_fraction_33 : decode cX12_fraction 33 = .ok (.lload 5, 2) := by decide +kernel
theorem dX12_fraction_35 : decode cX12_fraction 35 = .ok (.ldiv, 1) := by decide +kernel
theorem dX12_fraction_36 : decode cX12_fraction 36 = .ok (.putfield 144, 3) := by decide +kernel
theorem dX12_fraction_39 : decode cX12_fraction 39 = .ok (.aload_n 0, 1) := by decide +kernel
theorem dX12_fraction_40 : decode cX12_fraction 40 = .ok (.lload_n 3, 1) := by decide +kernel
theorem dX12_fraction_41 : decode cX12_fraction 41 = .ok (.lload 5, 2) := by decide +kernel
theorem dX12_fraction_43 : decode cX12_fraction 43 = .ok (.ldiv, 1) := by decide +kernel
theorem dX12_fraction_44 : decode cX12_fraction 44 = .ok (.putfield 23, 3) := by decide +kernel
theorem dX12_fraction_47 : decode cX12_fraction 47 = .ok (.return_, 1) := by decide +kernel
theorem dX12_owes_0 : decode cX12_owes 0 = .ok (.aload_n 0, 1) := by decide +kernel
theorem dX12_owes_1 : decode cX12_owes 1 = .ok (.iload_n 1, 1) := by decide +kernel
theorem dX12_owes_2 : decode cX12_owes 2 = .ok (.invokevirtual 97, 3) := by decide +kernel
theorem dX12_owes_5 : decode cX12_owes 5 = .ok (.ifCond .ne 10, 3) := by decide +kernel
theorem dX12_owes_8 : decode cX12_owes 8 = .ok (.aload_n 0, 1) := by decide +kernel
theorem dX12_owes_9 : decode cX12_owes 9 = .ok (.bipush (-2), 2) := by decide +kernel
theorem dX12_owes_11 : decode cX12_owes 11 = .ok (.invokevirtual 58, 3) := by decide +kernel
theorem dX12_owes_14 : decode cX12_owes 14 = .ok (.ireturn, 1) := by decide +kernel
theorem dX12_owes_15 : decode cX12_owes 15 = .ok (.aload_n 0, 1) := by decide +kernel
theorem dX12_owes_16 : decode cX12_owes 16 = .ok (.getfield 7, 3) := by decide +kernel
theorem dX12_owes_19 : decode cX12_owes 19 = .ok (.iconst 5, 1) := by decide +kernel
theorem dX12_owes_20 : decode cX12_owes 20 = .ok (.iload_n 1, 1) := by decide +kernel
theorem dX12_owes_21 : decode cX12_owes 21 = .ok (.iadd, 1) := by decide +kernel
theorem dX12_owes_22 : decode cX12_owes 22 = .ok (.iaload, 1) := by decide +kernel
theorem dX12_owes_23 : decode cX12_owes 23 = .ok (.istore_n 2, 1) := by decide +kernel
theorem dX12_owes_24 : decode cX12_owes 24 = .ok (.aload_n 0, 1) := by decide +kernel
theorem dX12_owes_25 : decode cX12_owes 25 = .ok (.invokevirtual 103, 3) := by decide +kernel
theorem dX12_owes_28 : decode cX12_owes 28 = .ok (.iload_n 2, 1) := by decide +kernel
theorem dX12_owes_29 : decode cX12_owes 29 = .ok (.iconst (-1), 1) := by decide +kernel
theorem dX12_owes_30 : decode cX12_owes 30 = .ok (.if_icmp .ne 12, 3) := by decide +kernel
theorem dX12_owes_33 : decode cX12_owes 33 = .ok (.aload_n 0, 1) := by decide +kernel
theorem dX12_owes_34 : decode cX12_owes 34 = .ok (.lconst 0, 1) := by decide +kernel
theorem dX12_owes_35 : decode cX12_owes 35 = .ok (.lconst 1, 1) := by decide +kernel
theorem dX12_owes_36 : decode cX12_owes 36 = .ok (.invokevirtual 147, 3) := by decide +kernel
theorem dX12_owes_39 : decode cX12_owes 39 = .ok (.goto 22, 3) := by decide +kernel
theorem dX12_owes_42 : decode cX12_owes 42 = .ok (.aload_n 0, 1) := by decide +kernel
theorem dX12_owes_43 : decode cX12_owes 43 = .ok (.aload_n 0, 1) := by decide +kernel
theorem dX12_owes_44 : decode cX12_owes 44 = .ok (.iload_n 2, 1) := by decide +kernel
theorem dX12_owes_45 : decode cX12_owes 45 = .ok (.invokevirtual 151, 3) := by decide +kernel
theorem dX12_owes_48 : decode cX12_owes 48 = .ok (.i2l, 1) := by decide +kernel
theorem dX12_owes_49 : decode cX12_owes 49 = .ok (.aload_n 0, 1) := by decide +kernel
theorem dX12_owes_50 : decode cX12_owes 50 = .ok (.iload_n 2, 1) := by decide +kernel
theorem dX12_owes_51 : decode cX12_owes 51 = .ok (.invokevirtual 75, 3) := by decide +kernel
theorem dX12_owes_54 : decode cX12_owes 54 = .ok (.invokestatic 114, 3) := by decide +kernel
theorem dX12_owes_57 : decode cX12_owes 57 = .ok (.i2l, 1) := by decide +kernel
theorem dX12_owes_58 : decode cX12_owes 58 = .ok (.invokevirtual 147, 3) := by decide +kernel
theorem dX12_owes_61 : decode cX12_owes 61 = .ok (.iconst 1, 1) := by decide +kernel
theorem dX12_owes_62 : decode cX12_owes 62 = .ok (.ireturn, 1) := by decide +kernel
theorem dX12_unpaid_0 : decode cX12_unpaid 0 = .ok (.iconst 0, 1) := by decide +kernel
theorem dX12_unpaid_1 : decode cX12_unpaid 1 = .ok (.istore_n 1, 1) := by decide +kernel
theorem dX12_unpaid_2 : decode cX12_unpaid 2 = .ok (.aload_n 0, 1) := by decide +kernel
theorem dX12_unpaid_3 : decode cX12_unpaid 3 = .ok (.invokevirtual 103, 3) := by decide +kernel
theorem dX12_unpaid_6 : decode cX12_unpaid 6 = .ok (.iconst 0, 1) := by decide +kernel
theorem dX12_unpaid_7 : decode cX12_unpaid 7 = .ok (.istore_n 2, 1) := by decide +kernel
theorem dX12_unpaid_8 : decode cX12_unpaid 8 = .ok (.iload_n 2, 1) := by decide +kernel
theorem dX12_unpaid_9 : decode cX12_unpaid 9 = .ok (.aload_n 0, 1) := by decide +kernel
theorem dX12_unpaid_10 : decode cX12_unpaid 10 = .ok (.invokevirtual 46, 3) := by decide +kernel
theorem dX12_unpaid_13 : decode cX12_unpaid 13 = .ok (.if_icmp .ge 29, 3) := by decide +kernel
theorem dX12_unpaid_16 : decode cX12_unpaid 16 = .ok (.iload_n 1, 1) := by decide +kernel
theorem dX12_unpaid_17 : decode cX12_unpaid 17 = .ok (.aload_n 0, 1) := by decide +kernel
theorem dX12_unpaid_18 : decode cX12_unpaid 18 = .ok (.iload_n 2, 1) := by decide +kernel
theorem dX12_unpaid_19 : decode cX12_unpaid 19 = .ok (.invokevirtual 75, 3) := by decide +kernel
theorem dX12_unpaid_22 : decode cX12_unpaid 22 = .ok (.ifCond .ne 11, 3) := by decide +kernel
theorem dX12_unpaid_25 : decode cX12_unpaid 25 = .ok (.aload_n 0, 1) := by decide +kernel
theorem dX12_unpaid_26 : decode cX12_unpaid 26 = .ok (.iload_n 2, 1) := by decide +kernel
theorem dX12_unpaid_27 : decode cX12_unpaid 27 = .ok (.invokevirtual 151, 3) := by decide +kernel
theorem dX12_unpaid_30 : decode cX12_unpaid 30 = .ok (.goto 4, 3) := by decide +kernel
theorem dX12_unpaid_33 : decode cX12_unpaid 33 = .ok (.iconst 0, 1) := by decide +kernel
theorem dX12_unpaid_34 : decode cX12_unpaid 34 = .ok (.iadd, 1) := by decide +kernel
theorem dX12_unpaid_35 : decode cX12_unpaid 35 = .ok (.istore_n 1, 1) := by decide +kernel
theorem dX12_unpaid_36 : decode cX12_unpaid 36 = .ok (.iinc 2 1, 3) := by decide +kernel
theorem dX12_unpaid_39 : decode cX12_unpaid 39 = .ok (.goto (-31), 3) := by decide +kernel
theorem dX12_unpaid_42 : decode cX12_unpaid 42 = .ok (.iload_n 1, 1) := by decide +kernel
theorem dX12_unpaid_43 : decode cX12_unpaid 43 = .ok (.ireturn, 1) := by decide +kernel
theorem dX12_ears_0 : decode cX12_ears 0 = .ok (.aload_n 0, 1) := by decide +kernel
theorem dX12_ears_1 : decode cX12_ears 1 = .ok (.iload_n 1, 1) := by decide +kernel
theorem dX12_ears_2 : decode cX12_ears 2 = .ok (.invokevirtual 97, 3) := by decide +kernel
theorem dX12_ears_5 : decode cX12_ears 5 = .ok (.ifCond .eq 32, 3) := by decide +kernel
theorem dX12_ears_8 : decode cX12_ears 8 = .ok (.aload_n 0, 1) := by decide +kernel
theorem dX12_ears_9 : decode cX12_ears 9 = .ok (.iload_n 2, 1) := by decide +kernel
theorem dX12_ears_10 : decode cX12_ears 10 = .ok (.invokevirtual 97, 3) := by decide +kernel
theorem dX12_ears_13 : decode cX12_ears 13 = .ok (.ifCond .eq 24, 3) := by decide +kernel
theorem dX12_ears_16 : decode cX12_ears 16 = .ok (.iload_n 1, 1) := by decide +kernel
theorem dX12_ears_17 : decode cX12_ears 17 = .ok (.iload_n 2, 1) := by decide +kernel
theorem dX12_ears_18 : decode cX12_ears 18 = .ok (.if_icmp .eq 19, 3) := by decide +kernel
theorem dX12_ears_21 : decode cX12_ears 21 = .ok (.aload_n 0, 1) := by decide +kernel
theorem dX12_ears_22 : decode cX12_ears 22 = .ok (.iload_n 3, 1) := by decide +kernel
theorem dX12_ears_23 : decode cX12_ears 23 = .ok (.invokevirtual 97, 3) := by decide +kernel
theorem dX12_ears_26 : decode cX12_ears 26 = .ok (.ifCond .eq 11, 3) := by decide +kernel
theorem dX12_ears_29 : decode cX12_ears 29 = .ok (.iload 4, 2) := by decide +kernel
theorem dX12_ears_31 : decode cX12_ears 31 = .ok (.invokestatic 64, 3) := by decide +kernel
theorem dX12_ears_34 : decode cX12_ears 34 = .ok (.ifCond .ne 10, 3) := by decide +kernel
theorem dX12_ears_37 : decode cX12_ears 37 = .ok (.aload_n 0, 1) := by decide +kernel
theorem dX12_ears_38 : decode cX12_ears 38 = .ok (.bipush (-2), 2) := by decide +kernel
theorem dX12_ears_40 : decode cX12_ears 40 = .ok (.invokevirtual 58, 3) := by decide +kernel
theorem dX12_ears_43 : decode cX12_ears 43 = .ok (.ireturn, 1) := by decide +kernel
theorem dX12_ears_44 : decode cX12_ears 44 = .ok (.iconst 0, 1) := by decide +kernel
theorem dX12_ears_45 : decode cX12_ears 45 = .ok (.istore 5, 2) := by decide +kernel
theorem dX12_ears_47 : decode cX12_ears 47 = .ok (.iload 5, 2) := by decide +kernel
theorem dX12_ears_49 : decode cX12_ears 49 = .ok (.iconst 4, 1) := by decide +kernel
theorem dX12_ears_50 : decode cX12_ears 50 = .ok (.if_icmp .ge 55, 3) := by decide +kernel
theorem dX12_ears_53 : decode cX12_ears 53 = .ok (.aload_n 0, 1) := by decide +kernel
theorem dX12_ears_54 : decode cX12_ears 54 = .ok (.invokevirtual 103, 3) := by decide +kernel
theorem dX12_ears_57 : decode cX12_ears 57 = .ok (.aload_n 0, 1) := by decide +kernel
theorem dX12_ears_58 : decode cX12_ears 58 = .ok (.iload_n 3, 1) := by decide +kernel
theorem dX12_ears_59 : decode cX12_ears 59 = .ok (.aload_n 0, 1) := by decide +kernel
theorem dX12_ears_60 : decode cX12_ears 60 = .ok (.iload_n 3, 1) := by decide +kernel
theorem dX12_ears_61 : decode cX12_ears 61 = .ok (.iload 4, 2) := by decide +kernel
theorem dX12_ears_63 : decode cX12_ears 63 = .ok (.invokevirtual 90, 3) := by decide +kernel
theorem dX12_ears_66 : decode cX12_ears 66 = .ok (.iload 5, 2) := by decide +kernel
theorem dX12_ears_68 : decode cX12_ears 68 = .ok (.iconst 1, 1) := by decide +kernel
theorem dX12_ears_69 : decode cX12_ears 69 = .ok (.iand, 1) := by decide +kernel
theorem dX12_ears_70 : decode cX12_ears 70 = .ok (.iload_n 1, 1) := by decide +kernel
theorem dX12_ears_71 : decode cX12_ears 71 = .ok (.ishl, 1) := by decide +kernel
theorem dX12_ears_72 : decode cX12_ears 72 = .ok (.iconst (-1), 1) := by decide +kernel
theorem dX12_ears_73 : decode cX12_ears 73 = .ok (.ixor, 1) := by decide +kernel
theorem dX12_ears_74 : decode cX12_ears 74 = .ok (.iand, 1) := by decide +kernel
theorem dX12_ears_75 : decode cX12_ears 75 = .ok (.iload 5, 2) := by decide +kernel
theorem dX12_ears_77 : decode cX12_ears 77 = .ok (.iconst 1, 1) := by decide +kernel
theorem dX12_ears_78 : decode cX12_ears 78 = .ok (.ishr, 1) := by decide +kernel
theorem dX12_ears_79 : decode cX12_ears 79 = .ok (.iload_n 2, 1) := by decide +kernel
theorem dX12_ears_80 : decode cX12_ears 80 = .ok (.ishl, 1) := by decide +kernel
theorem dX12_ears_81 : decode cX12_ears 81 = .ok (.iconst (-1), 1) := by decide +kernel
theorem dX12_ears_82 : decode cX12_ears 82 = .ok (.ixor, 1) := by decide +kernel
theorem dX12_ears_83 : decode cX12_ears 83 = .ok (.iand, 1) := by decide +kernel
theorem dX12_ears_84 : decode cX12_ears 84 = .ok (.invokevirtual 93, 3) := by decide +kernel
theorem dX12_ears_87 : decode cX12_ears 87 = .ok (.aload_n 0, 1) := by decide +kernel
theorem dX12_ears_88 : decode cX12_ears 88 = .ok (.getfield 30, 3) := by decide +kernel
theorem dX12_ears_91 : decode cX12_ears 91 = .ok (.iload 5, 2) := by decide +kernel
theorem dX12_ears_93 : decode cX12_ears 93 = .ok (.aload_n 0, 1) := by decide +kernel
theorem dX12_ears_94 : decode cX12_ears 94 = .ok (.iload_n 3, 1) := by decide +kernel
theorem dX12_ears_95 : decode cX12_ears 95 = .ok (.invokevirtual 75, 3) := by decide +kernel
theorem dX12_ears_98 : decode cX12_ears 98 = .ok (.iastore, 1) := by decide +kernel
theorem dX12_ears_99 : decode cX12_ears 99 = .ok (.iinc 5 1, 3) := by decide +kernel
theorem dX12_ears_102 : decode cX12_ears 102 = .ok (.goto (-55), 3) := by decide +kernel
theorem dX12_ears_105 : decode cX12_ears 105 = .ok (.iconst 0, 1) := by decide +kernel
theorem dX12_ears_106 : decode cX12_ears 106 = .ok (.istore 5, 2) := by decide +kernel
theorem dX12_ears_108 : decode cX12_ears 108 = .ok (.iconst 0, 1) := by decide +kernel
theorem dX12_ears_109 : decode cX12_ears 109 = .ok (.istore 6, 2) := by decide +kernel
theorem dX12_ears_111 : decode cX12_ears 111 = .ok (.iload 6, 2) := by decide +kernel
theorem dX12_ears_113 : decode cX12_ears 113 = .ok (.iconst 4, 1) := by decide +kernel
theorem dX12_ears_114 : decode cX12_ears 114 = .ok (.if_icmp .ge 106, 3) := by decide +kernel
theorem dX12_ears_117 : decode cX12_ears 117 = .ok (.aload_n 0, 1) := by decide +kernel
theorem dX12_ears_118 : decode cX12_ears 118 = .ok (.getfield 30, 3) := by decide +kernel
theorem dX12_ears_121 : decode cX12_ears 121 = .ok (.iload 6, 2) := by decide +kernel
theorem dX12_ears_123 : decode cX12_ears 123 = .ok (.iaload, 1) := by decide +kernel
theorem dX12_ears_124 : decode cX12_ears 124 = .ok (.iload_n 1, 1) := by decide +kernel
theorem dX12_ears_125 : decode cX12_ears 125 = .ok (.invokestatic 82, 3) := by decide +kernel
theorem dX12_ears_128 : decode cX12_ears 128 = .ok (.ifCond .ne 19, 3) := by decide +kernel
theorem dX12_ears_131 : decode cX12_ears 131 = .ok (.aload_n 0, 1) := by decide +kernel
theorem dX12_ears_132 : decode cX12_ears 132 = .ok (.getfield 30, 3) := by decide +kernel
theorem dX12_ears_135 : decode cX12_ears 135 = .ok (.iload 6, 2) := by decide +kernel
theorem dX12_ears_137 : decode cX12_ears 137 = .ok (.iconst 1, 1) := by decide +kernel
theorem dX12_ears_138 : decode cX12_ears 138 = .ok (.ixor, 1) := by decide +kernel
end
section
theorem dX12_ears_139 : decode cX12_ears 139 = .ok (.iaload, 1) := by decide +kernel
theorem dX12_ears_140 : decode cX12_ears 140 = .ok (.iload_n 1, 1) := by decide +kernel
theorem dX12_ears_141 : decode cX12_ears 141 = .ok (.invokestatic 82, 3) := by decide +kernel
theorem dX12_ears_144 : decode cX12_ears 144 = .ok (.ifCond .ne 7, 3) := by decide +kernel
theorem dX12_ears_147 : decode cX12_ears 147 = .ok (.iconst 1, 1) := by decide +kernel
theorem dX12_ears_148 : decode cX12_ears 148 = .ok (.goto 4, 3) := by decide +kernel
theorem dX12_ears_151 : decode cX12_ears 151 = .ok (.iconst 0, 1) := by decide +kernel
theorem dX12_ears_152 : decode cX12_ears 152 = .ok (.istore 7, 2) := by decide +kernel
theorem dX12_ears_154 : decode cX12_ears 154 = .ok (.aload_n 0, 1) := by decide +kernel
theorem dX12_ears_155 : decode cX12_ears 155 = .ok (.getfield 30, 3) := by decide +kernel
theorem dX12_ears_158 : decode cX12_ears 158 = .ok (.iload 6, 2) := by decide +kernel
theorem dX12_ears_160 : decode cX12_ears 160 = .ok (.iaload, 1) := by decide +kernel
theorem dX12_ears_161 : decode cX12_ears 161 = .ok (.iload_n 2, 1) := by decide +kernel
theorem dX12_ears_162 : decode cX12_ears 162 = .ok (.invokestatic 82, 3) := by decide +kernel
theorem dX12_ears_165 : decode cX12_ears 165 = .ok (.ifCond .ne 19, 3) := by decide +kernel
theorem dX12_ears_168 : decode cX12_ears 168 = .ok (.aload_n 0, 1) := by decide +kernel
theorem dX12_ears_169 : decode cX12_ears 169 = .ok (.getfield 30, 3) := by decide +kernel
theorem dX12_ears_172 : decode cX12_ears 172 = .ok (.iload 6, 2) := by decide +kernel
theorem dX12_ears_174 : decode cX12_ears 174 = .ok (.iconst 2, 1) := by decide +kernel
theorem dX12_ears_175 : decode cX12_ears 175 = .ok (.ixor, 1) := by decide +kernel
theorem dX12_ears_176 : decode cX12_ears 176 = .ok (.iaload, 1) := by decide +kernel
theorem dX12_ears_177 : decode cX12_ears 177 = .ok (.iload_n 2, 1) := by decide +kernel
theorem dX12_ears_178 : decode cX12_ears 178 = .ok (.invokestatic 82, 3) := by decide +kernel
theorem dX12_ears_181 : decode cX12_ears 181 = .ok (.ifCond .ne 7, 3) := by decide +kernel
theorem dX12_ears_184 : decode cX12_ears 184 = .ok (.iconst 1, 1) := by decide +kernel
theorem dX12_ears_185 : decode cX12_ears 185 = .ok (.goto 4, 3) := by decide +kernel
theorem dX12_ears_188 : decode cX12_ears 188 = .ok (.iconst 0, 1) := by decide +kernel
theorem dX12_ears_189 : decode cX12_ears 189 = .ok (.istore 8, 2) := by decide +kernel
theorem dX12_ears_191 : decode cX12_ears 191 = .ok (.iload 5, 2) := by decide +kernel
theorem dX12_ears_193 : decode cX12_ears 193 = .ok (.iload 7, 2) := by decide +kernel
theorem dX12_ears_195 : decode cX12_ears 195 = .ok (.ifCond .eq 15, 3) := by decide +kernel
theorem dX12_ears_198 : decode cX12_ears 198 = .ok (.iload 8, 2) := by decide +kernel
theorem dX12_ears_200 : decode cX12_ears 200 = .ok (.ifCond .eq 10, 3) := by decide +kernel
theorem dX12_ears_203 : decode cX12_ears 203 = .ok (.iconst 1, 1) := by decide +kernel
theorem dX12_ears_204 : decode cX12_ears 204 = .ok (.iload 6, 2) := by decide +kernel
theorem dX12_ears_206 : decode cX12_ears 206 = .ok (.ishl, 1) := by decide +kernel
theorem dX12_ears_207 : decode cX12_ears 207 = .ok (.goto 4, 3) := by decide +kernel
theorem dX12_ears_210 : decode cX12_ears 210 = .ok (.iconst 0, 1) := by decide +kernel
theorem dX12_ears_211 : decode cX12_ears 211 = .ok (.ior, 1) := by decide +kernel
theorem dX12_ears_212 : decode cX12_ears 212 = .ok (.istore 5, 2) := by decide +kernel
theorem dX12_ears_214 : decode cX12_ears 214 = .ok (.iinc 6 1, 3) := by decide +kernel
theorem dX12_ears_217 : decode cX12_ears 217 = .ok (.goto (-106), 3) := by decide +kernel
theorem dX12_ears_220 : decode cX12_ears 220 = .ok (.iload 5, 2) := by decide +kernel
theorem dX12_ears_222 : decode cX12_ears 222 = .ok (.ireturn, 1) := by decide +kernel
theorem dX12_note_0 : decode cX12_note 0 = .ok (.aload_n 0, 1) := by decide +kernel
theorem dX12_note_1 : decode cX12_note 1 = .ok (.iload_n 1, 1) := by decide +kernel
theorem dX12_note_2 : decode cX12_note 2 = .ok (.invokevirtual 97, 3) := by decide +kernel
theorem dX12_note_5 : decode cX12_note 5 = .ok (.ifCond .eq 44, 3) := by decide +kernel
theorem dX12_note_8 : decode cX12_note 8 = .ok (.iload_n 2, 1) := by decide +kernel
theorem dX12_note_9 : decode cX12_note 9 = .ok (.invokestatic 64, 3) := by decide +kernel
theorem dX12_note_12 : decode cX12_note 12 = .ok (.ifCond .eq 37, 3) := by decide +kernel
theorem dX12_note_15 : decode cX12_note 15 = .ok (.iload_n 3, 1) := by decide +kernel
theorem dX12_note_16 : decode cX12_note 16 = .ok (.i2l, 1) := by decide +kernel
theorem dX12_note_17 : decode cX12_note 17 = .ok (.lconst 0, 1) := by decide +kernel
theorem dX12_note_18 : decode cX12_note 18 = .ok (.ldc2_w 56, 3) := by decide +kernel
theorem dX12_note_21 : decode cX12_note 21 = .ok (.invokestatic 50, 3) := by decide +kernel
theorem dX12_note_24 : decode cX12_note 24 = .ok (.ifCond .eq 25, 3) := by decide +kernel
theorem dX12_note_27 : decode cX12_note 27 = .ok (.iload 4, 2) := by decide +kernel
theorem dX12_note_29 : decode cX12_note 29 = .ok (.i2l, 1) := by decide +kernel
theorem dX12_note_30 : decode cX12_note 30 = .ok (.lconst 0, 1) := by decide +kernel
theorem dX12_note_31 : decode cX12_note 31 = .ok (.lconst 1, 1) := by decide +kernel
theorem dX12_note_32 : decode cX12_note 32 = .ok (.invokestatic 50, 3) := by decide +kernel
theorem dX12_note_35 : decode cX12_note 35 = .ok (.ifCond .eq 14, 3) := by decide +kernel
theorem dX12_note_38 : decode cX12_note 38 = .ok (.iload 5, 2) := by decide +kernel
theorem dX12_note_40 : decode cX12_note 40 = .ok (.i2l, 1) := by decide +kernel
theorem dX12_note_41 : decode cX12_note 41 = .ok (.lconst 0, 1) := by decide +kernel
theorem dX12_note_42 : decode cX12_note 42 = .ok (.lconst 1, 1) := by decide +kernel
theorem dX12_note_43 : decode cX12_note 43 = .ok (.invokestatic 50, 3) := by decide +kernel
theorem dX12_note_46 : decode cX12_note 46 = .ok (.ifCond .ne 10, 3) := by decide +kernel
theorem dX12_note_49 : decode cX12_note 49 = .ok (.aload_n 0, 1) := by decide +kernel
theorem dX12_note_50 : decode cX12_note 50 = .ok (.bipush (-2), 2) := by decide +kernel
theorem dX12_note_52 : decode cX12_note 52 = .ok (.invokevirtual 58, 3) := by decide +kernel
theorem dX12_note_55 : decode cX12_note 55 = .ok (.ireturn, 1) := by decide +kernel
theorem dX12_note_56 : decode cX12_note 56 = .ok (.aload_n 0, 1) := by decide +kernel
theorem dX12_note_57 : decode cX12_note 57 = .ok (.getfield 7, 3) := by decide +kernel
theorem dX12_note_60 : decode cX12_note 60 = .ok (.iconst 3, 1) := by decide +kernel
theorem dX12_note_61 : decode cX12_note 61 = .ok (.iaload, 1) := by decide +kernel
theorem dX12_note_62 : decode cX12_note 62 = .ok (.bipush 6, 2) := by decide +kernel
theorem dX12_note_64 : decode cX12_note 64 = .ok (.if_icmp .ne 8, 3) := by decide +kernel
theorem dX12_note_67 : decode cX12_note 67 = .ok (.aload_n 0, 1) := by decide +kernel
theorem dX12_note_68 : decode cX12_note 68 = .ok (.invokevirtual 68, 3) := by decide +kernel
theorem dX12_note_71 : decode cX12_note 71 = .ok (.ireturn, 1) := by decide +kernel
theorem dX12_note_72 : decode cX12_note 72 = .ok (.bipush 38, 2) := by decide +kernel
theorem dX12_note_74 : decode cX12_note 74 = .ok (.iconst 5, 1) := by decide +kernel
theorem dX12_note_75 : decode cX12_note 75 = .ok (.aload_n 0, 1) := by decide +kernel
theorem dX12_note_76 : decode cX12_note 76 = .ok (.getfield 7, 3) := by decide +kernel
theorem dX12_note_79 : decode cX12_note 79 = .ok (.iconst 3, 1) := by decide +kernel
theorem dX12_note_80 : decode cX12_note 80 = .ok (.iaload, 1) := by decide +kernel
theorem dX12_note_81 : decode cX12_note 81 = .ok (.imul, 1) := by decide +kernel
theorem dX12_note_82 : decode cX12_note 82 = .ok (.iadd, 1) := by decide +kernel
theorem dX12_note_83 : decode cX12_note 83 = .ok (.istore 6, 2) := by decide +kernel
theorem dX12_note_85 : decode cX12_note 85 = .ok (.aload_n 0, 1) := by decide +kernel
theorem dX12_note_86 : decode cX12_note 86 = .ok (.getfield 7, 3) := by decide +kernel
theorem dX12_note_89 : decode cX12_note 89 = .ok (.iload 6, 2) := by decide +kernel
theorem dX12_note_91 : decode cX12_note 91 = .ok (.iload_n 1, 1) := by decide +kernel
theorem dX12_note_92 : decode cX12_note 92 = .ok (.iastore, 1) := by decide +kernel
theorem dX12_note_93 : decode cX12_note 93 = .ok (.aload_n 0, 1) := by decide +kernel
theorem dX12_note_94 : decode cX12_note 94 = .ok (.getfield 7, 3) := by decide +kernel
theorem dX12_note_97 : decode cX12_note 97 = .ok (.iload 6, 2) := by decide +kernel
theorem dX12_note_99 : decode cX12_note 99 = .ok (.iconst 1, 1) := by decide +kernel
theorem dX12_note_100 : decode cX12_note 100 = .ok (.iadd, 1) := by decide +kernel
theorem dX12_note_101 : decode cX12_note 101 = .ok (.iload_n 2, 1) := by decide +kernel
theorem dX12_note_102 : decode cX12_note 102 = .ok (.iastore, 1) := by decide +kernel
theorem dX12_note_103 : decode cX12_note 103 = .ok (.aload_n 0, 1) := by decide +kernel
theorem dX12_note_104 : decode cX12_note 104 = .ok (.getfield 7, 3) := by decide +kernel
theorem dX12_note_107 : decode cX12_note 107 = .ok (.iload 6, 2) := by decide +kernel
theorem dX12_note_109 : decode cX12_note 109 = .ok (.iconst 2, 1) := by decide +kernel
theorem dX12_note_110 : decode cX12_note 110 = .ok (.iadd, 1) := by decide +kernel
theorem dX12_note_111 : decode cX12_note 111 = .ok (.iload_n 3, 1) := by decide +kernel
theorem dX12_note_112 : decode cX12_note 112 = .ok (.iastore, 1) := by decide +kernel
theorem dX12_note_113 : decode cX12_note 113 = .ok (.aload_n 0, 1) := by decide +kernel
theorem dX12_note_114 : decode cX12_note 114 = .ok (.getfield 7, 3) := by decide +kernel
theorem dX12_note_117 : decode cX12_note 117 = .ok (.iload 6, 2) := by decide +kernel
theorem dX12_note_119 : decode cX12_note 119 = .ok (.iconst 3, 1) := by decide +kernel
theorem dX12_note_120 : decode cX12_note 120 = .ok (.iadd, 1) := by decide +kernel
theorem dX12_note_121 : decode cX12_note 121 = .ok (.iload 4, 2) := by decide +kernel
theorem dX12_note_123 : decode cX12_note 123 = .ok (.iastore, 1) := by decide +kernel
theorem dX12_note_124 : decode cX12_note 124 = .ok (.aload_n 0, 1) := by decide +kernel
theorem dX12_note_125 : decode cX12_note 125 = .ok (.getfield 7, 3) := by decide +kernel
theorem dX12_note_128 : decode cX12_note 128 = .ok (.iload 6, 2) := by decide +kernel
theorem dX12_note_130 : decode cX12_note 130 = .ok (.iconst 4, 1) := by decide +kernel
theorem dX12_note_131 : decode cX12_note 131 = .ok (.iadd, 1) := by decide +kernel
theorem dX12_note_132 : decode cX12_note 132 = .ok (.iload 5, 2) := by decide +kernel
theorem dX12_note_134 : decode cX12_note 134 = .ok (.iastore, 1) := by decide +kernel
theorem dX12_note_135 : decode cX12_note 135 = .ok (.aload_n 0, 1) := by decide +kernel
theorem dX12_note_136 : decode cX12_note 136 = .ok (.getfield 7, 3) := by decide +kernel
theorem dX12_note_139 : decode cX12_note 139 = .ok (.iconst 3, 1) := by decide +kernel
theorem dX12_note_140 : decode cX12_note 140 = .ok (.dup2, 1) := by decide +kernel
theorem dX12_note_141 : decode cX12_note 141 = .ok (.iaload, 1) := by decide +kernel
theorem dX12_note_142 : decode cX12_note 142 = .ok (.iconst 1, 1) := by decide +kernel
theorem dX12_note_143 : decode cX12_note 143 = .ok (.iadd, 1) := by decide +kernel
theorem dX12_note_144 : decode cX12_note 144 = .ok (.iastore, 1) := by decide +kernel
theorem dX12_note_145 : decode cX12_note 145 = .ok (.aload_n 0, 1) := by decide +kernel
theorem dX12_note_146 : decode cX12_note 146 = .ok (.getfield 7, 3) := by decide +kernel
theorem dX12_note_149 : decode cX12_note 149 = .ok (.iconst 3, 1) := by decide +kernel
theorem dX12_note_150 : decode cX12_note 150 = .ok (.iaload, 1) := by decide +kernel
theorem dX12_note_151 : decode cX12_note 151 = .ok (.ireturn, 1) := by decide +kernel
theorem dX12_forget_0 : decode cX12_forget 0 = .ok (.iload_n 1, 1) := by decide +kernel
theorem dX12_forget_1 : decode cX12_forget 1 = .ok (.i2l, 1) := by decide +kernel
theorem dX12_forget_2 : decode cX12_forget 2 = .ok (.lconst 0, 1) := by decide +kernel
theorem dX12_forget_3 : decode cX12_forget 3 = .ok (.lconst 1, 1) := by decide +kernel
theorem dX12_forget_4 : decode cX12_forget 4 = .ok (.invokestatic 50, 3) := by decide +kernel
theorem dX12_forget_7 : decode cX12_forget 7 = .ok (.ifCond .ne 10, 3) := by decide +kernel
theorem dX12_forget_10 : decode cX12_forget 10 = .ok (.aload_n 0, 1) := by decide +kernel
theorem dX12_forget_11 : decode cX12_forget 11 = .ok (.bipush (-2), 2) := by decide +kernel
theorem dX12_forget_13 : decode cX12_forget 13 = .ok (.invokevirtual 58, 3) := by decide +kernel
theorem dX12_forget_16 : decode cX12_forget 16 = .ok (.ireturn, 1) := by decide +kernel
theorem dX12_forget_17 : decode cX12_forget 17 = .ok (.aload_n 0, 1) := by decide +kernel
theorem dX12_forget_18 : decode cX12_forget 18 = .ok (.getfield 7, 3) := by decide +kernel
theorem dX12_forget_21 : decode cX12_forget 21 = .ok (.iconst 2, 1) := by decide +kernel
theorem dX12_forget_22 : decode cX12_forget 22 = .ok (.iload_n 1, 1) := by decide +kernel
theorem dX12_forget_23 : decode cX12_forget 23 = .ok (.iadd, 1) := by decide +kernel
theorem dX12_forget_24 : decode cX12_forget 24 = .ok (.iaload, 1) := by decide +kernel
theorem dX12_forget_25 : decode cX12_forget 25 = .ok (.istore_n 2, 1) := by decide +kernel
theorem dX12_forget_26 : decode cX12_forget 26 = .ok (.aload_n 0, 1) := by decide +kernel
theorem dX12_forget_27 : decode cX12_forget 27 = .ok (.getfield 7, 3) := by decide +kernel
theorem dX12_forget_30 : decode cX12_forget 30 = .ok (.iconst 2, 1) := by decide +kernel
theorem dX12_forget_31 : decode cX12_forget 31 = .ok (.iload_n 1, 1) := by decide +kernel
theorem dX12_forget_32 : decode cX12_forget 32 = .ok (.iadd, 1) := by decide +kernel
theorem dX12_forget_33 : decode cX12_forget 33 = .ok (.iconst 0, 1) := by decide +kernel
theorem dX12_forget_34 : decode cX12_forget 34 = .ok (.iastore, 1) := by decide +kernel
theorem dX12_forget_35 : decode cX12_forget 35 = .ok (.iload_n 2, 1) := by decide +kernel
theorem dX12_forget_36 : decode cX12_forget 36 = .ok (.ireturn, 1) := by decide +kernel
theorem dX12_areSo_0 : decode cX12_areSo 0 = .ok (.iconst 1, 1) := by decide +kernel
theorem dX12_areSo_1 : decode cX12_areSo 1 = .ok (.istore 4, 2) := by decide +kernel
theorem dX12_areSo_3 : decode cX12_areSo 3 = .ok (.iconst 0, 1) := by decide +kernel
theorem dX12_areSo_4 : decode cX12_areSo 4 = .ok (.istore 5, 2) := by decide +kernel
theorem dX12_areSo_6 : decode cX12_areSo 6 = .ok (.iload 5, 2) := by decide +kernel
theorem dX12_areSo_8 : decode cX12_areSo 8 = .ok (.aload_n 0, 1) := by decide +kernel
theorem dX12_areSo_9 : decode cX12_areSo 9 = .ok (.getfield 7, 3) := by decide +kernel
theorem dX12_areSo_12 : decode cX12_areSo 12 = .ok (.iconst 3, 1) := by decide +kernel
theorem dX12_areSo_13 : decode cX12_areSo 13 = .ok (.iaload, 1) := by decide +kernel
theorem dX12_areSo_14 : decode cX12_areSo 14 = .ok (.if_icmp .ge 111, 3) := by decide +kernel
theorem dX12_areSo_17 : decode cX12_areSo 17 = .ok (.bipush 38, 2) := by decide +kernel
theorem dX12_areSo_19 : decode cX12_areSo 19 = .ok (.iconst 5, 1) := by decide +kernel
theorem dX12_areSo_20 : decode cX12_areSo 20 = .ok (.iload 5, 2) := by decide +kernel
theorem dX12_areSo_22 : decode cX12_areSo 22 = .ok (.imul, 1) := by decide +kernel
theorem dX12_areSo_23 : decode cX12_areSo 23 = .ok (.iadd, 1) := by decide +kernel
theorem dX12_areSo_24 : decode cX12_areSo 24 = .ok (.istore 6, 2) := by decide +kernel
theorem dX12_areSo_26 : decode cX12_areSo 26 = .ok (.iload_n 2, 1) := by decide +kernel
theorem dX12_areSo_27 : decode cX12_areSo 27 = .ok (.iload_n 3, 1) := by decide +kernel
theorem dX12_areSo_28 : decode cX12_areSo 28 = .ok (.aload_n 0, 1) := by decide +kernel
theorem dX12_areSo_29 : decode cX12_areSo 29 = .ok (.getfield 7, 3) := by decide +kernel
theorem dX12_areSo_32 : decode cX12_areSo 32 = .ok (.iload 6, 2) := by decide +kernel
theorem dX12_areSo_34 : decode cX12_areSo 34 = .ok (.iconst 1, 1) := by decide +kernel
theorem dX12_areSo_35 : decode cX12_areSo 35 = .ok (.iadd, 1) := by decide +kernel
theorem dX12_areSo_36 : decode cX12_areSo 36 = .ok (.iaload, 1) := by decide +kernel
theorem dX12_areSo_37 : decode cX12_areSo 37 = .ok (.invokestatic 78, 3) := by decide +kernel
theorem dX12_areSo_40 : decode cX12_areSo 40 = .ok (.aload_n 0, 1) := by decide +kernel
theorem dX12_areSo_41 : decode cX12_areSo 41 = .ok (.getfield 7, 3) := by decide +kernel
theorem dX12_areSo_44 : decode cX12_areSo 44 = .ok (.iload 6, 2) := by decide +kernel
theorem dX12_areSo_46 : decode cX12_areSo 46 = .ok (.iconst 3, 1) := by decide +kernel
theorem dX12_areSo_47 : decode cX12_areSo 47 = .ok (.iadd, 1) := by decide +kernel
theorem dX12_areSo_48 : decode cX12_areSo 48 = .ok (.iaload, 1) := by decide +kernel
theorem dX12_areSo_49 : decode cX12_areSo 49 = .ok (.iconst 1, 1) := by decide +kernel
theorem dX12_areSo_50 : decode cX12_areSo 50 = .ok (.if_icmp .ne 7, 3) := by decide +kernel
theorem dX12_areSo_53 : decode cX12_areSo 53 = .ok (.iconst 1, 1) := by decide +kernel
theorem dX12_areSo_54 : decode cX12_areSo 54 = .ok (.goto 4, 3) := by decide +kernel
theorem dX12_areSo_57 : decode cX12_areSo 57 = .ok (.iconst 0, 1) := by decide +kernel
theorem dX12_areSo_58 : decode cX12_areSo 58 = .ok (.iconst 0, 1) := by decide +kernel
theorem dX12_areSo_59 : decode cX12_areSo 59 = .ok (.aload_n 0, 1) := by decide +kernel
theorem dX12_areSo_60 : decode cX12_areSo 60 = .ok (.getfield 7, 3) := by decide +kernel
theorem dX12_areSo_63 : decode cX12_areSo 63 = .ok (.iload 6, 2) := by decide +kernel
theorem dX12_areSo_65 : decode cX12_areSo 65 = .ok (.iconst 2, 1) := by decide +kernel
theorem dX12_areSo_66 : decode cX12_areSo 66 = .ok (.iadd, 1) := by decide +kernel
theorem dX12_areSo_67 : decode cX12_areSo 67 = .ok (.iaload, 1) := by decide +kernel
theorem dX12_areSo_68 : decode cX12_areSo 68 = .ok (.invokestatic 86, 3) := by decide +kernel
theorem dX12_areSo_71 : decode cX12_areSo 71 = .ok (.istore 7, 2) := by decide +kernel
theorem dX12_areSo_73 : decode cX12_areSo 73 = .ok (.iload 4, 2) := by decide +kernel
theorem dX12_areSo_75 : decode cX12_areSo 75 = .ok (.ifCond .eq 41, 3) := by decide +kernel
theorem dX12_areSo_78 : decode cX12_areSo 78 = .ok (.aload_n 0, 1) := by decide +kernel
theorem dX12_areSo_79 : decode cX12_areSo 79 = .ok (.getfield 7, 3) := by decide +kernel
theorem dX12_areSo_82 : decode cX12_areSo 82 = .ok (.iload 6, 2) := by decide +kernel
theorem dX12_areSo_84 : decode cX12_areSo 84 = .ok (.iaload, 1) := by decide +kernel
theorem dX12_areSo_85 : decode cX12_areSo 85 = .ok (.iload_n 1, 1) := by decide +kernel
theorem dX12_areSo_86 : decode cX12_areSo 86 = .ok (.if_icmp .ne 26, 3) := by decide +kernel
theorem dX12_areSo_89 : decode cX12_areSo 89 = .ok (.iload 7, 2) := by decide +kernel
theorem dX12_areSo_91 : decode cX12_areSo 91 = .ok (.aload_n 0, 1) := by decide +kernel
theorem dX12_areSo_92 : decode cX12_areSo 92 = .ok (.getfield 7, 3) := by decide +kernel
theorem dX12_areSo_95 : decode cX12_areSo 95 = .ok (.iload 6, 2) := by decide +kernel
theorem dX12_areSo_97 : decode cX12_areSo 97 = .ok (.iconst 4, 1) := by decide +kernel
theorem dX12_areSo_98 : decode cX12_areSo 98 = .ok (.iadd, 1) := by decide +kernel
theorem dX12_areSo_99 : decode cX12_areSo 99 = .ok (.iaload, 1) := by decide +kernel
theorem dX12_areSo_100 : decode cX12_areSo 100 = .ok (.iconst 1, 1) := by decide +kernel
theorem dX12_areSo_101 : decode cX12_areSo 101 = .ok (.if_icmp .ne 7, 3) := by decide +kernel
theorem dX12_areSo_104 : decode cX12_areSo 104 = .ok (.iconst 1, 1) := by decide +kernel
theorem dX12_areSo_105 : decode cX12_areSo 105 = .ok (.goto 4, 3) := by decide +kernel
theorem dX12_areSo_108 : decode cX12_areSo 108 = .ok (.iconst 0, 1) := by decide +kernel
theorem dX12_areSo_109 : decode cX12_areSo 109 = .ok (.if_icmp .ne 7, 3) := by decide +kernel
theorem dX12_areSo_112 : decode cX12_areSo 112 = .ok (.iconst 1, 1) := by decide +kernel
theorem dX12_areSo_113 : decode cX12_areSo 113 = .ok (.goto 4, 3) := by decide +kernel
theorem dX12_areSo_116 : decode cX12_areSo 116 = .ok (.iconst 0, 1) := by decide +kernel
theorem dX12_areSo_117 : decode cX12_areSo 117 = .ok (.istore 4, 2) := by decide +kernel
theorem dX12_areSo_119 : decode cX12_areSo 119 = .ok (.iinc 5 1, 3) := by decide +kernel
theorem dX12_areSo_122 : decode cX12_areSo 122 = .ok (.goto (-116), 3) := by decide +kernel
theorem dX12_areSo_125 : decode cX12_areSo 125 = .ok (.iload 4, 2) := by decide +kernel
theorem dX12_areSo_127 : decode cX12_areSo 127 = .ok (.ireturn, 1) := by decide +kernel
theorem dX12_is_0 : decode cX12_is 0 = .ok (.aload_n 0, 1) := by decide +kernel
theorem dX12_is_1 : decode cX12_is 1 = .ok (.iload_n 1, 1) := by decide +kernel
theorem dX12_is_2 : decode cX12_is 2 = .ok (.invokevirtual 97, 3) := by decide +kernel
theorem dX12_is_5 : decode cX12_is 5 = .ok (.ifCond .ne 10, 3) := by decide +kernel
theorem dX12_is_8 : decode cX12_is 8 = .ok (.aload_n 0, 1) := by decide +kernel
theorem dX12_is_9 : decode cX12_is 9 = .ok (.bipush (-2), 2) := by decide +kernel
theorem dX12_is_11 : decode cX12_is 11 = .ok (.invokevirtual 58, 3) := by decide +kernel
theorem dX12_is_14 : decode cX12_is 14 = .ok (.ireturn, 1) := by decide +kernel
theorem dX12_is_15 : decode cX12_is 15 = .ok (.iconst 0, 1) := by decide +kernel
theorem dX12_is_16 : decode cX12_is 16 = .ok (.istore_n 2, 1) := by decide +kernel
theorem dX12_is_17 : decode cX12_is 17 = .ok (.iconst 0, 1) := by decide +kernel
theorem dX12_is_18 : decode cX12_is 18 = .ok (.istore_n 3, 1) := by decide +kernel
theorem dX12_is_19 : decode cX12_is 19 = .ok (.iload_n 3, 1) := by decide +kernel
theorem dX12_is_20 : decode cX12_is 20 = .ok (.bipush 6, 2) := by decide +kernel
theorem dX12_is_22 : decode cX12_is 22 = .ok (.if_icmp .ge 37, 3) := by decide +kernel
theorem dX12_is_25 : decode cX12_is 25 = .ok (.iload_n 2, 1) := by decide +kernel
theorem dX12_is_26 : decode cX12_is 26 = .ok (.aload_n 0, 1) := by decide +kernel
theorem dX12_is_27 : decode cX12_is 27 = .ok (.iload_n 1, 1) := by decide +kernel
theorem dX12_is_28 : decode cX12_is 28 = .ok (.iload_n 3, 1) := by decide +kernel
theorem dX12_is_29 : decode cX12_is 29 = .ok (.aload_n 0, 1) := by decide +kernel
theorem dX12_is_30 : decode cX12_is 30 = .ok (.getfield 7, 3) := by decide +kernel
theorem dX12_is_33 : decode cX12_is 33 = .ok (.bipush 12, 2) := by decide +kernel
theorem dX12_is_35 : decode cX12_is 35 = .ok (.iload_n 1, 1) := by decide +kernel
theorem dX12_is_36 : decode cX12_is 36 = .ok (.iadd, 1) := by decide +kernel
theorem dX12_is_37 : decode cX12_is 37 = .ok (.iaload, 1) := by decide +kernel
theorem dX12_is_38 : decode cX12_is 38 = .ok (.invokevirtual 154, 3) := by decide +kernel
theorem dX12_is_41 : decode cX12_is 41 = .ok (.ifCond .eq 9, 3) := by decide +kernel
theorem dX12_is_44 : decode cX12_is 44 = .ok (.iconst 1, 1) := by decide +kernel
theorem dX12_is_45 : decode cX12_is 45 = .ok (.iload_n 3, 1) := by decide +kernel
theorem dX12_is_46 : decode cX12_is 46 = .ok (.ishl, 1) := by decide +kernel
theorem dX12_is_47 : decode cX12_is 47 = .ok (.goto 4, 3) := by decide +kernel
theorem dX12_is_50 : decode cX12_is 50 = .ok (.iconst 0, 1) := by decide +kernel
theorem dX12_is_51 : decode cX12_is 51 = .ok (.ior, 1) := by decide +kernel
theorem dX12_is_52 : decode cX12_is 52 = .ok (.istore_n 2, 1) := by decide +kernel
theorem dX12_is_53 : decode cX12_is 53 = .ok (.iinc 3 1, 3) := by decide +kernel
theorem dX12_is_56 : decode cX12_is 56 = .ok (.goto (-37), 3) := by decide +kernel
theorem dX12_is_59 : decode cX12_is 59 = .ok (.iload_n 2, 1) := by decide +kernel
theorem dX12_is_60 : decode cX12_is 60 = .ok (.ireturn, 1) := by decide +kernel
theorem dX12_placesOf_0 : decode cX12_placesOf 0 = .ok (.iconst 0, 1) := by decide +kernel
theorem dX12_placesOf_1 : decode cX12_placesOf 1 = .ok (.istore_n 2, 1) := by decide +kernel
theorem dX12_placesOf_2 : decode cX12_placesOf 2 = .ok (.iconst 0, 1) := by decide +kernel
theorem dX12_placesOf_3 : decode cX12_placesOf 3 = .ok (.istore_n 3, 1) := by decide +kernel
theorem dX12_placesOf_4 : decode cX12_placesOf 4 = .ok (.iload_n 3, 1) := by decide +kernel
theorem dX12_placesOf_5 : decode cX12_placesOf 5 = .ok (.bipush 10, 2) := by decide +kernel
theorem dX12_placesOf_7 : decode cX12_placesOf 7 = .ok (.if_icmp .ge 37, 3) := by decide +kernel
theorem dX12_placesOf_10 : decode cX12_placesOf 10 = .ok (.iload_n 2, 1) := by decide +kernel
theorem dX12_placesOf_11 : decode cX12_placesOf 11 = .ok (.aload_n 0, 1) := by decide +kernel
theorem dX12_placesOf_12 : decode cX12_placesOf 12 = .ok (.iload_n 1, 1) := by decide +kernel
theorem dX12_placesOf_13 : decode cX12_placesOf 13 = .ok (.aload_n 0, 1) := by decide +kernel
theorem dX12_placesOf_14 : decode cX12_placesOf 14 = .ok (.getfield 7, 3) := by decide +kernel
theorem dX12_placesOf_17 : decode cX12_placesOf 17 = .ok (.bipush 19, 2) := by decide +kernel
theorem dX12_placesOf_19 : decode cX12_placesOf 19 = .ok (.iload_n 1, 1) := by decide +kernel
theorem dX12_placesOf_20 : decode cX12_placesOf 20 = .ok (.iadd, 1) := by decide +kernel
theorem dX12_placesOf_21 : decode cX12_placesOf 21 = .ok (.iaload, 1) := by decide +kernel
theorem dX12_placesOf_22 : decode cX12_placesOf 22 = .ok (.iload_n 3, 1) := by decide +kernel
theorem dX12_placesOf_23 : decode cX12_placesOf 23 = .ok (.invokevirtual 154, 3) := by decide +kernel
theorem dX12_placesOf_26 : decode cX12_placesOf 26 = .ok (.ifCond .eq 9, 3) := by decide +kernel
theorem dX12_placesOf_29 : decode cX12_placesOf 29 = .ok (.iconst 1, 1) := by decide +kernel
theorem dX12_placesOf_30 : decode cX12_placesOf 30 = .ok (.iload_n 3, 1) := by decide +kernel
theorem dX12_placesOf_31 : decode cX12_placesOf 31 = .ok (.ishl, 1) := by decide +kernel
theorem dX12_placesOf_32 : decode cX12_placesOf 32 = .ok (.goto 4, 3) := by decide +kernel
theorem dX12_placesOf_35 : decode cX12_placesOf 35 = .ok (.iconst 0, 1) := by decide +kernel
theorem dX12_placesOf_36 : decode cX12_placesOf 36 = .ok (.ior, 1) := by decide +kernel
theorem dX12_placesOf_37 : decode cX12_placesOf 37 = .ok (.istore_n 2, 1) := by decide +kernel
theorem dX12_placesOf_38 : decode cX12_placesOf 38 = .ok (.iinc 3 1, 3) := by decide +kernel
theorem dX12_placesOf_41 : decode cX12_placesOf 41 = .ok (.goto (-37), 3) := by decide +kernel
theorem dX12_placesOf_44 : decode cX12_placesOf 44 = .ok (.iload_n 2, 1) := by decide +kernel
theorem dX12_placesOf_45 : decode cX12_placesOf 45 = .ok (.ireturn, 1) := by decide +kernel
theorem dX12_stood_0 : decode cX12_stood 0 = .ok (.aload_n 0, 1) := by decide +kernel
theorem dX12_stood_1 : decode cX12_stood 1 = .ok (.iload_n 1, 1) := by decide +kernel
theorem dX12_stood_2 : decode cX12_stood 2 = .ok (.invokevirtual 97, 3) := by decide +kernel
theorem dX12_stood_5 : decode cX12_stood 5 = .ok (.ifCond .eq 11, 3) := by decide +kernel
theorem dX12_stood_8 : decode cX12_stood 8 = .ok (.aload_n 0, 1) := by decide +kernel
theorem dX12_stood_9 : decode cX12_stood 9 = .ok (.iload_n 1, 1) := by decide +kernel
theorem dX12_stood_10 : decode cX12_stood 10 = .ok (.invokevirtual 158, 3) := by decide +kernel
theorem dX12_stood_13 : decode cX12_stood 13 = .ok (.goto 9, 3) := by decide +kernel
theorem dX12_stood_16 : decode cX12_stood 16 = .ok (.aload_n 0, 1) := by decide +kernel
theorem dX12_stood_17 : decode cX12_stood 17 = .ok (.bipush (-2), 2) := by decide +kernel
theorem dX12_stood_19 : decode cX12_stood 19 = .ok (.invokevirtual 58, 3) := by decide +kernel
theorem dX12_stood_22 : decode cX12_stood 22 = .ok (.ireturn, 1) := by decide +kernel
theorem dX12_next_0 : decode cX12_next 0 = .ok (.aload_n 0, 1) := by decide +kernel
theorem dX12_next_1 : decode cX12_next 1 = .ok (.iload_n 1, 1) := by decide +kernel
theorem dX12_next_2 : decode cX12_next 2 = .ok (.invokevirtual 97, 3) := by decide +kernel
theorem dX12_next_5 : decode cX12_next 5 = .ok (.ifCond .ne 10, 3) := by decide +kernel
theorem dX12_next_8 : decode cX12_next 8 = .ok (.aload_n 0, 1) := by decide +kernel
theorem dX12_next_9 : decode cX12_next 9 = .ok (.bipush (-2), 2) := by decide +kernel
theorem dX12_next_11 : decode cX12_next 11 = .ok (.invokevirtual 58, 3) := by decide +kernel
theorem dX12_next_14 : decode cX12_next 14 = .ok (.ireturn, 1) := by decide +kernel
theorem dX12_next_15 : decode cX12_next 15 = .ok (.aload_n 0, 1) := by decide +kernel
theorem dX12_next_16 : decode cX12_next 16 = .ok (.iload_n 1, 1) := by decide +kernel
theorem dX12_next_17 : decode cX12_next 17 = .ok (.invokevirtual 158, 3) := by decide +kernel
theorem dX12_next_20 : decode cX12_next 20 = .ok (.istore_n 2, 1) := by decide +kernel
theorem dX12_next_21 : decode cX12_next 21 = .ok (.iconst (-1), 1) := by decide +kernel
theorem dX12_next_22 : decode cX12_next 22 = .ok (.istore_n 3, 1) := by decide +kernel
theorem dX12_next_23 : decode cX12_next 23 = .ok (.ldc 161, 2) := by decide +kernel
theorem dX12_next_25 : decode cX12_next 25 = .ok (.istore 4, 2) := by decide +kernel
theorem dX12_next_27 : decode cX12_next 27 = .ok (.iconst 0, 1) := by decide +kernel
theorem dX12_next_28 : decode cX12_next 28 = .ok (.istore 5, 2) := by decide +kernel
theorem dX12_next_30 : decode cX12_next 30 = .ok (.iload 5, 2) := by decide +kernel
theorem dX12_next_32 : decode cX12_next 32 = .ok (.bipush 10, 2) := by decide +kernel
theorem dX12_next_34 : decode cX12_next 34 = .ok (.if_icmp .ge 136, 3) := by decide +kernel
theorem dX12_next_37 : decode cX12_next 37 = .ok (.iload_n 2, 1) := by decide +kernel
theorem dX12_next_38 : decode cX12_next 38 = .ok (.ifCond .le 132, 3) := by decide +kernel
theorem dX12_next_41 : decode cX12_next 41 = .ok (.iconst 0, 1) := by decide +kernel
theorem dX12_next_42 : decode cX12_next 42 = .ok (.istore 6, 2) := by decide +kernel
theorem dX12_next_44 : decode cX12_next 44 = .ok (.iconst 0, 1) := by decide +kernel
theorem dX12_next_45 : decode cX12_next 45 = .ok (.istore 7, 2) := by decide +kernel
theorem dX12_next_47 : decode cX12_next 47 = .ok (.iload 7, 2) := by decide +kernel
theorem dX12_next_49 : decode cX12_next 49 = .ok (.bipush 10, 2) := by decide +kernel
theorem dX12_next_51 : decode cX12_next 51 = .ok (.if_icmp .ge 58, 3) := by decide +kernel
theorem dX12_next_54 : decode cX12_next 54 = .ok (.iload 6, 2) := by decide +kernel
theorem dX12_next_56 : decode cX12_next 56 = .ok (.iload_n 2, 1) := by decide +kernel
theorem dX12_next_57 : decode cX12_next 57 = .ok (.iload 7, 2) := by decide +kernel
theorem dX12_next_59 : decode cX12_next 59 = .ok (.invokestatic 82, 3) := by decide +kernel
theorem dX12_next_62 : decode cX12_next 62 = .ok (.ifCond .eq 37, 3) := by decide +kernel
theorem dX12_next_65 : decode cX12_next 65 = .ok (.aload_n 0, 1) := by decide +kernel
theorem dX12_next_66 : decode cX12_next 66 = .ok (.getfield 7, 3) := by decide +kernel
theorem dX12_next_69 : decode cX12_next 69 = .ok (.bipush 19, 2) := by decide +kernel
theorem dX12_next_71 : decode cX12_next 71 = .ok (.iload_n 1, 1) := by decide +kernel
theorem dX12_next_72 : decode cX12_next 72 = .ok (.iadd, 1) := by decide +kernel
theorem dX12_next_73 : decode cX12_next 73 = .ok (.iaload, 1) := by decide +kernel
theorem dX12_next_74 : decode cX12_next 74 = .ok (.iload 7, 2) := by decide +kernel
theorem dX12_next_76 : decode cX12_next 76 = .ok (.iload 5, 2) := by decide +kernel
theorem dX12_next_78 : decode cX12_next 78 = .ok (.invokestatic 78, 3) := by decide +kernel
theorem dX12_next_81 : decode cX12_next 81 = .ok (.iconst 0, 1) := by decide +kernel
theorem dX12_next_82 : decode cX12_next 82 = .ok (.iconst 0, 1) := by decide +kernel
theorem dX12_next_83 : decode cX12_next 83 = .ok (.aload_n 0, 1) := by decide +kernel
theorem dX12_next_84 : decode cX12_next 84 = .ok (.getfield 7, 3) := by decide +kernel
theorem dX12_next_87 : decode cX12_next 87 = .ok (.iconst 1, 1) := by decide +kernel
theorem dX12_next_88 : decode cX12_next 88 = .ok (.iaload, 1) := by decide +kernel
theorem dX12_next_89 : decode cX12_next 89 = .ok (.invokestatic 86, 3) := by decide +kernel
theorem dX12_next_92 : decode cX12_next 92 = .ok (.ifCond .eq 7, 3) := by decide +kernel
theorem dX12_next_95 : decode cX12_next 95 = .ok (.iconst 1, 1) := by decide +kernel
theorem dX12_next_96 : decode cX12_next 96 = .ok (.goto 4, 3) := by decide +kernel
theorem dX12_next_99 : decode cX12_next 99 = .ok (.iconst 0, 1) := by decide +kernel
theorem dX12_next_100 : decode cX12_next 100 = .ok (.iadd, 1) := by decide +kernel
theorem dX12_next_101 : decode cX12_next 101 = .ok (.istore 6, 2) := by decide +kernel
theorem dX12_next_103 : decode cX12_next 103 = .ok (.iinc 7 1, 3) := by decide +kernel
theorem dX12_next_106 : decode cX12_next 106 = .ok (.goto (-59), 3) := by decide +kernel
theorem dX12_next_109 : decode cX12_next 109 = .ok (.iconst 2, 1) := by decide +kernel
theorem dX12_next_110 : decode cX12_next 110 = .ok (.iload 6, 2) := by decide +kernel
theorem dX12_next_112 : decode cX12_next 112 = .ok (.imul, 1) := by decide +kernel
theorem dX12_next_113 : decode cX12_next 113 = .ok (.iload_n 2, 1) := by decide +kernel
theorem dX12_next_114 : decode cX12_next 114 = .ok (.invokestatic 114, 3) := by decide +kernel
theorem dX12_next_117 : decode cX12_next 117 = .ok (.if_icmp .le 8, 3) := by decide +kernel
theorem dX12_next_120 : decode cX12_next 120 = .ok (.iload 6, 2) := by decide +kernel
theorem dX12_next_122 : decode cX12_next 122 = .ok (.goto 10, 3) := by decide +kernel
theorem dX12_next_125 : decode cX12_next 125 = .ok (.iload_n 2, 1) := by decide +kernel
theorem dX12_next_126 : decode cX12_next 126 = .ok (.invokestatic 114, 3) := by decide +kernel
theorem dX12_next_129 : decode cX12_next 129 = .ok (.iload 6, 2) := by decide +kernel
theorem dX12_next_131 : decode cX12_next 131 = .ok (.isub, 1) := by decide +kernel
theorem dX12_next_132 : decode cX12_next 132 = .ok (.istore 7, 2) := by decide +kernel
theorem dX12_next_134 : decode cX12_next 134 = .ok (.iload 7, 2) := by decide +kernel
theorem dX12_next_136 : decode cX12_next 136 = .ok (.iload 4, 2) := by decide +kernel
theorem dX12_next_138 : decode cX12_next 138 = .ok (.if_icmp .ge 8, 3) := by decide +kernel
theorem dX12_next_141 : decode cX12_next 141 = .ok (.iload 5, 2) := by decide +kernel
theorem dX12_next_143 : decode cX12_next 143 = .ok (.goto 4, 3) := by decide +kernel
theorem dX12_next_146 : decode cX12_next 146 = .ok (.iload_n 3, 1) := by decide +kernel
theorem dX12_next_147 : decode cX12_next 147 = .ok (.istore_n 3, 1) := by decide +kernel
theorem dX12_next_148 : decode cX12_next 148 = .ok (.iload 7, 2) := by decide +kernel
theorem dX12_next_150 : decode cX12_next 150 = .ok (.iload 4, 2) := by decide +kernel
theorem dX12_next_152 : decode cX12_next 152 = .ok (.if_icmp .ge 8, 3) := by decide +kernel
theorem dX12_next_155 : decode cX12_next 155 = .ok (.iload 7, 2) := by decide +kernel
theorem dX12_next_157 : decode cX12_next 157 = .ok (.goto 5, 3) := by decide +kernel
theorem dX12_next_160 : decode cX12_next 160 = .ok (.iload 4, 2) := by decide +kernel
theorem dX12_next_162 : decode cX12_next 162 = .ok (.istore 4, 2) := by decide +kernel
theorem dX12_next_164 : decode cX12_next 164 = .ok (.iinc 5 1, 3) := by decide +kernel
theorem dX12_next_167 : decode cX12_next 167 = .ok (.goto (-137), 3) := by decide +kernel
theorem dX12_next_170 : decode cX12_next 170 = .ok (.iload_n 3, 1) := by decide +kernel
theorem dX12_next_171 : decode cX12_next 171 = .ok (.ireturn, 1) := by decide +kernel
theorem dX12_trippers_0 : decode cX12_trippers 0 = .ok (.aload_n 0, 1) := by decide +kernel
theorem dX12_trippers_1 : decode cX12_trippers 1 = .ok (.iload_n 1, 1) := by decide +kernel
theorem dX12_trippers_2 : decode cX12_trippers 2 = .ok (.invokevirtual 97, 3) := by decide +kernel
theorem dX12_trippers_5 : decode cX12_trippers 5 = .ok (.ifCond .eq 31, 3) := by decide +kernel
theorem dX12_trippers_8 : decode cX12_trippers 8 = .ok (.aload_n 0, 1) := by decide +kernel
theorem dX12_trippers_9 : decode cX12_trippers 9 = .ok (.iload_n 2, 1) := by decide +kernel
theorem dX12_trippers_10 : decode cX12_trippers 10 = .ok (.invokevirtual 97, 3) := by decide +kernel
theorem dX12_trippers_13 : decode cX12_trippers 13 = .ok (.ifCond .eq 23, 3) := by decide +kernel
theorem dX12_trippers_16 : decode cX12_trippers 16 = .ok (.iload_n 3, 1) := by decide +kernel
theorem dX12_trippers_17 : decode cX12_trippers 17 = .ok (.invokestatic 64, 3) := by decide +kernel
theorem dX12_trippers_20 : decode cX12_trippers 20 = .ok (.ifCond .eq 16, 3) := by decide +kernel
theorem dX12_trippers_23 : decode cX12_trippers 23 = .ok (.iload 4, 2) := by decide +kernel
theorem dX12_trippers_25 : decode cX12_trippers 25 = .ok (.i2l, 1) := by decide +kernel
theorem dX12_trippers_26 : decode cX12_trippers 26 = .ok (.lconst 0, 1) := by decide +kernel
theorem dX12_trippers_27 : decode cX12_trippers 27 = .ok (.ldc2_w 162, 3) := by decide +kernel
theorem dX12_trippers_30 : decode cX12_trippers 30 = .ok (.invokestatic 50, 3) := by decide +kernel
theorem dX12_trippers_33 : decode cX12_trippers 33 = .ok (.ifCond .ne 10, 3) := by decide +kernel
theorem dX12_trippers_36 : decode cX12_trippers 36 = .ok (.aload_n 0, 1) := by decide +kernel
theorem dX12_trippers_37 : decode cX12_trippers 37 = .ok (.bipush (-2), 2) := by decide +kernel
theorem dX12_trippers_39 : decode cX12_trippers 39 = .ok (.invokevirtual 58, 3) := by decide +kernel
theorem dX12_trippers_42 : decode cX12_trippers 42 = .ok (.ireturn, 1) := by decide +kernel
theorem dX12_trippers_43 : decode cX12_trippers 43 = .ok (.lconst 0, 1) := by decide +kernel
theorem dX12_trippers_44 : decode cX12_trippers 44 = .ok (.lstore 5, 2) := by decide +kernel
theorem dX12_trippers_46 : decode cX12_trippers 46 = .ok (.lconst 1, 1) := by decide +kernel
theorem dX12_trippers_47 : decode cX12_trippers 47 = .ok (.lstore 7, 2) := by decide +kernel
theorem dX12_trippers_49 : decode cX12_trippers 49 = .ok (.iconst 0, 1) := by decide +kernel
theorem dX12_trippers_50 : decode cX12_trippers 50 = .ok (.istore 9, 2) := by decide +kernel
theorem dX12_trippers_52 : decode cX12_trippers 52 = .ok (.iload 9, 2) := by decide +kernel
theorem dX12_trippers_54 : decode cX12_trippers 54 = .ok (.aload_n 0, 1) := by decide +kernel
theorem dX12_trippers_55 : decode cX12_trippers 55 = .ok (.invokevirtual 46, 3) := by decide +kernel
theorem dX12_trippers_58 : decode cX12_trippers 58 = .ok (.if_icmp .ge 17, 3) := by decide +kernel
theorem dX12_trippers_61 : decode cX12_trippers 61 = .ok (.lload 7, 2) := by decide +kernel
theorem dX12_trippers_63 : decode cX12_trippers 63 = .ok (.ldc2_w 162, 3) := by decide +kernel
theorem dX12_trippers_66 : decode cX12_trippers 66 = .ok (.lmul, 1) := by decide +kernel
theorem dX12_trippers_67 : decode cX12_trippers 67 = .ok (.lstore 7, 2) := by decide +kernel
theorem dX12_trippers_69 : decode cX12_trippers 69 = .ok (.iinc 9 1, 3) := by decide +kernel
theorem dX12_trippers_72 : decode cX12_trippers 72 = .ok (.goto (-20), 3) := by decide +kernel
theorem dX12_trippers_75 : decode cX12_trippers 75 = .ok (.iconst 0, 1) := by decide +kernel
theorem dX12_trippers_76 : decode cX12_trippers 76 = .ok (.istore 9, 2) := by decide +kernel
theorem dX12_trippers_78 : decode cX12_trippers 78 = .ok (.iload 9, 2) := by decide +kernel
theorem dX12_trippers_80 : decode cX12_trippers 80 = .ok (.iconst 1, 1) := by decide +kernel
theorem dX12_trippers_81 : decode cX12_trippers 81 = .ok (.aload_n 0, 1) := by decide +kernel
theorem dX12_trippers_82 : decode cX12_trippers 82 = .ok (.invokevirtual 46, 3) := by decide +kernel
theorem dX12_trippers_85 : decode cX12_trippers 85 = .ok (.ishl, 1) := by decide +kernel
theorem dX12_trippers_86 : decode cX12_trippers 86 = .ok (.if_icmp .ge 96, 3) := by decide +kernel
theorem dX12_trippers_89 : decode cX12_trippers 89 = .ok (.lconst 1, 1) := by decide +kernel
theorem dX12_trippers_90 : decode cX12_trippers 90 = .ok (.lstore 10, 2) := by decide +kernel
theorem dX12_trippers_92 : decode cX12_trippers 92 = .ok (.iconst 0, 1) := by decide +kernel
theorem dX12_trippers_93 : decode cX12_trippers 93 = .ok (.istore 12, 2) := by decide +kernel
theorem dX12_trippers_95 : decode cX12_trippers 95 = .ok (.iload 12, 2) := by decide +kernel
theorem dX12_trippers_97 : decode cX12_trippers 97 = .ok (.aload_n 0, 1) := by decide +kernel
theorem dX12_trippers_98 : decode cX12_trippers 98 = .ok (.invokevirtual 46, 3) := by decide +kernel
theorem dX12_trippers_101 : decode cX12_trippers 101 = .ok (.if_icmp .ge 36, 3) := by decide +kernel
theorem dX12_trippers_104 : decode cX12_trippers 104 = .ok (.lload 10, 2) := by decide +kernel
theorem dX12_trippers_106 : decode cX12_trippers 106 = .ok (.iload 9, 2) := by decide +kernel
theorem dX12_trippers_108 : decode cX12_trippers 108 = .ok (.iload 12, 2) := by decide +kernel
theorem dX12_trippers_110 : decode cX12_trippers 110 = .ok (.invokestatic 82, 3) := by decide +kernel
theorem dX12_trippers_113 : decode cX12_trippers 113 = .ok (.ifCond .eq 12, 3) := by decide +kernel
theorem dX12_trippers_116 : decode cX12_trippers 116 = .ok (.bipush 10, 2) := by decide +kernel
theorem dX12_trippers_118 : decode cX12_trippers 118 = .ok (.iload 4, 2) := by decide +kernel
theorem dX12_trippers_120 : decode cX12_trippers 120 = .ok (.isub, 1) := by decide +kernel
theorem dX12_trippers_121 : decode cX12_trippers 121 = .ok (.i2l, 1) := by decide +kernel
theorem dX12_trippers_122 : decode cX12_trippers 122 = .ok (.goto 6, 3) := by decide +kernel
theorem dX12_trippers_125 : decode cX12_trippers 125 = .ok (.iload 4, 2) := by decide +kernel
theorem dX12_trippers_127 : decode cX12_trippers 127 = .ok (.i2l, 1) := by decide +kernel
theorem dX12_trippers_128 : decode cX12_trippers 128 = .ok (.lmul, 1) := by decide +kernel
theorem dX12_trippers_129 : decode cX12_trippers 129 = .ok (.lstore 10, 2) := by decide +kernel
theorem dX12_trippers_131 : decode cX12_trippers 131 = .ok (.iinc 12 1, 3) := by decide +kernel
theorem dX12_trippers_134 : decode cX12_trippers 134 = .ok (.goto (-39), 3) := by decide +kernel
theorem dX12_trippers_137 : decode cX12_trippers 137 = .ok (.aload_n 0, 1) := by decide +kernel
theorem dX12_trippers_138 : decode cX12_trippers 138 = .ok (.invokevirtual 103, 3) := by decide +kernel
theorem dX12_trippers_141 : decode cX12_trippers 141 = .ok (.aload_n 0, 1) := by decide +kernel
theorem dX12_trippers_142 : decode cX12_trippers 142 = .ok (.iload_n 2, 1) := by decide +kernel
theorem dX12_trippers_143 : decode cX12_trippers 143 = .ok (.aload_n 0, 1) := by decide +kernel
theorem dX12_trippers_144 : decode cX12_trippers 144 = .ok (.iload_n 2, 1) := by decide +kernel
theorem dX12_trippers_145 : decode cX12_trippers 145 = .ok (.iload_n 3, 1) := by decide +kernel
theorem dX12_trippers_146 : decode cX12_trippers 146 = .ok (.invokevirtual 90, 3) := by decide +kernel
theorem dX12_trippers_149 : decode cX12_trippers 149 = .ok (.iload 9, 2) := by decide +kernel
theorem dX12_trippers_151 : decode cX12_trippers 151 = .ok (.iand, 1) := by decide +kernel
theorem dX12_trippers_152 : decode cX12_trippers 152 = .ok (.invokevirtual 93, 3) := by decide +kernel
theorem dX12_trippers_155 : decode cX12_trippers 155 = .ok (.lload 5, 2) := by decide +kernel
theorem dX12_trippers_157 : decode cX12_trippers 157 = .ok (.aload_n 0, 1) := by decide +kernel
theorem dX12_trippers_158 : decode cX12_trippers 158 = .ok (.getfield 27, 3) := by decide +kernel
theorem dX12_trippers_161 : decode cX12_trippers 161 = .ok (.iload_n 1, 1) := by decide +kernel
theorem dX12_trippers_162 : decode cX12_trippers 162 = .ok (.iaload, 1) := by decide +kernel
theorem dX12_trippers_163 : decode cX12_trippers 163 = .ok (.iload_n 2, 1) := by decide +kernel
theorem dX12_trippers_164 : decode cX12_trippers 164 = .ok (.if_icmp .ne 8, 3) := by decide +kernel
theorem dX12_trippers_167 : decode cX12_trippers 167 = .ok (.lload 10, 2) := by decide +kernel
theorem dX12_trippers_169 : decode cX12_trippers 169 = .ok (.goto 4, 3) := by decide +kernel
theorem dX12_trippers_172 : decode cX12_trippers 172 = .ok (.lconst 0, 1) := by decide +kernel
theorem dX12_trippers_173 : decode cX12_trippers 173 = .ok (.ladd, 1) := by decide +kernel
theorem dX12_trippers_174 : decode cX12_trippers 174 = .ok (.lstore 5, 2) := by decide +kernel
theorem dX12_trippers_176 : decode cX12_trippers 176 = .ok (.iinc 9 1, 3) := by decide +kernel
theorem dX12_trippers_179 : decode cX12_trippers 179 = .ok (.goto (-101), 3) := by decide +kernel
theorem dX12_trippers_182 : decode cX12_trippers 182 = .ok (.aload_n 0, 1) := by decide +kernel
theorem dX12_trippers_183 : decode cX12_trippers 183 = .ok (.lload 5, 2) := by decide +kernel
theorem dX12_trippers_185 : decode cX12_trippers 185 = .ok (.lload 7, 2) := by decide +kernel
theorem dX12_trippers_187 : decode cX12_trippers 187 = .ok (.invokevirtual 147, 3) := by decide +kernel
theorem dX12_trippers_190 : decode cX12_trippers 190 = .ok (.iconst 1, 1) := by decide +kernel
theorem dX12_trippers_191 : decode cX12_trippers 191 = .ok (.ireturn, 1) := by decide +kernel
theorem dX12_weeks_0 : decode cX12_weeks 0 = .ok (.iload_n 1, 1) := by decide +kernel
theorem dX12_weeks_1 : decode cX12_weeks 1 = .ok (.i2l, 1) := by decide +kernel
theorem dX12_weeks_2 : decode cX12_weeks 2 = .ok (.lconst 0, 1) := by decide +kernel
theorem dX12_weeks_3 : decode cX12_weeks 3 = .ok (.ldc2_w 164, 3) := by decide +kernel
theorem dX12_weeks_6 : decode cX12_weeks 6 = .ok (.invokestatic 50, 3) := by decide +kernel
theorem dX12_weeks_9 : decode cX12_weeks 9 = .ok (.ifCond .eq 15, 3) := by decide +kernel
theorem dX12_weeks_12 : decode cX12_weeks 12 = .ok (.iload_n 2, 1) := by decide +kernel
theorem dX12_weeks_13 : decode cX12_weeks 13 = .ok (.i2l, 1) := by decide +kernel
theorem dX12_weeks_14 : decode cX12_weeks 14 = .ok (.lconst 0, 1) := by decide +kernel
theorem dX12_weeks_15 : decode cX12_weeks 15 = .ok (.ldc2_w 142, 3) := by decide +kernel
theorem dX12_weeks_18 : decode cX12_weeks 18 = .ok (.invokestatic 50, 3) := by decide +kernel
theorem dX12_weeks_21 : decode cX12_weeks 21 = .ok (.ifCond .ne 10, 3) := by decide +kernel
theorem dX12_weeks_24 : decode cX12_weeks 24 = .ok (.aload_n 0, 1) := by decide +kernel
theorem dX12_weeks_25 : decode cX12_weeks 25 = .ok (.bipush (-2), 2) := by decide +kernel
theorem dX12_weeks_27 : decode cX12_weeks 27 = .ok (.invokevirtual 58, 3) := by decide +kernel
theorem dX12_weeks_30 : decode cX12_weeks 30 = .ok (.ireturn, 1) := by decide +kernel
theorem dX12_weeks_31 : decode cX12_weeks 31 = .ok (.aload_n 0, 1) := by decide +kernel
theorem dX12_weeks_32 : decode cX12_weeks 32 = .ok (.invokevirtual 46, 3) := by decide +kernel
theorem dX12_weeks_35 : decode cX12_weeks 35 = .ok (.ifCond .ne 8, 3) := by decide +kernel
theorem dX12_weeks_38 : decode cX12_weeks 38 = .ok (.aload_n 0, 1) := by decide +kernel
theorem dX12_weeks_39 : decode cX12_weeks 39 = .ok (.invokevirtual 109, 3) := by decide +kernel
theorem dX12_weeks_42 : decode cX12_weeks 42 = .ok (.ireturn, 1) := by decide +kernel
theorem dX12_weeks_43 : decode cX12_weeks 43 = .ok (.iload_n 1, 1) := by decide +kernel
theorem dX12_weeks_44 : decode cX12_weeks 44 = .ok (.i2l, 1) := by decide +kernel
theorem dX12_weeks_45 : decode cX12_weeks 45 = .ok (.lstore_n 3, 1) := by decide +kernel
theorem dX12_weeks_46 : decode cX12_weeks 46 = .ok (.aload_n 0, 1) := by decide +kernel
theorem dX12_weeks_47 : decode cX12_weeks 47 = .ok (.invokevirtual 103, 3) := by decide +kernel
theorem dX12_weeks_50 : decode cX12_weeks 50 = .ok (.iconst 0, 1) := by decide +kernel
theorem dX12_weeks_51 : decode cX12_weeks 51 = .ok (.istore 5, 2) := by decide +kernel
theorem dX12_weeks_53 : decode cX12_weeks 53 = .ok (.iload 5, 2) := by decide +kernel
theorem dX12_weeks_55 : decode cX12_weeks 55 = .ok (.iload_n 2, 1) := by decide +kernel
theorem dX12_weeks_56 : decode cX12_weeks 56 = .ok (.if_icmp .ge 51, 3) := by decide +kernel
theorem dX12_weeks_59 : decode cX12_weeks 59 = .ok (.lload_n 3, 1) := by decide +kernel
theorem dX12_weeks_60 : decode cX12_weeks 60 = .ok (.ldc2_w 166, 3) := by decide +kernel
theorem dX12_weeks_63 : decode cX12_weeks 63 = .ok (.lmul, 1) := by decide +kernel
theorem dX12_weeks_64 : decode cX12_weeks 64 = .ok (.ldc2_w 168, 3) := by decide +kernel
theorem dX12_weeks_67 : decode cX12_weeks 67 = .ok (.ladd, 1) := by decide +kernel
theorem dX12_weeks_68 : decode cX12_weeks 68 = .ok (.ldc2_w 170, 3) := by decide +kernel
theorem dX12_weeks_71 : decode cX12_weeks 71 = .ok (.lrem, 1) := by decide +kernel
theorem dX12_weeks_72 : decode cX12_weeks 72 = .ok (.lstore_n 3, 1) := by decide +kernel
theorem dX12_weeks_73 : decode cX12_weeks 73 = .ok (.aload_n 0, 1) := by decide +kernel
theorem dX12_weeks_74 : decode cX12_weeks 74 = .ok (.lload_n 3, 1) := by decide +kernel
theorem dX12_weeks_75 : decode cX12_weeks 75 = .ok (.ldc2_w 172, 3) := by decide +kernel
theorem dX12_weeks_78 : decode cX12_weeks 78 = .ok (.ldiv, 1) := by decide +kernel
theorem dX12_weeks_79 : decode cX12_weeks 79 = .ok (.aload_n 0, 1) := by decide +kernel
theorem dX12_weeks_80 : decode cX12_weeks 80 = .ok (.invokevirtual 46, 3) := by decide +kernel
theorem dX12_weeks_83 : decode cX12_weeks 83 = .ok (.i2l, 1) := by decide +kernel
theorem dX12_weeks_84 : decode cX12_weeks 84 = .ok (.lrem, 1) := by decide +kernel
theorem dX12_weeks_85 : decode cX12_weeks 85 = .ok (.l2i, 1) := by decide +kernel
theorem dX12_weeks_86 : decode cX12_weeks 86 = .ok (.lload_n 3, 1) := by decide +kernel
theorem dX12_weeks_87 : decode cX12_weeks 87 = .ok (.ldc2_w 174, 3) := by decide +kernel
theorem dX12_weeks_90 : decode cX12_weeks 90 = .ok (.ldiv, 1) := by decide +kernel
theorem dX12_weeks_91 : decode cX12_weeks 91 = .ok (.ldc2_w 162, 3) := by decide +kernel
theorem dX12_weeks_94 : decode cX12_weeks 94 = .ok (.lrem, 1) := by decide +kernel
theorem dX12_weeks_95 : decode cX12_weeks 95 = .ok (.l2i, 1) := by decide +kernel
theorem dX12_weeks_96 : decode cX12_weeks 96 = .ok (.invokevirtual 106, 3) := by decide +kernel
theorem dX12_weeks_99 : decode cX12_weeks 99 = .ok (.istore 6, 2) := by decide +kernel
theorem dX12_weeks_101 : decode cX12_weeks 101 = .ok (.iinc 5 1, 3) := by decide +kernel
theorem dX12_weeks_104 : decode cX12_weeks 104 = .ok (.goto (-51), 3) := by decide +kernel
theorem dX12_weeks_107 : decode cX12_weeks 107 = .ok (.aload_n 0, 1) := by decide +kernel
theorem dX12_weeks_108 : decode cX12_weeks 108 = .ok (.invokevirtual 130, 3) := by decide +kernel
theorem dX12_weeks_111 : decode cX12_weeks 111 = .ok (.ireturn, 1) := by decide +kernel
theorem dX12_type_0 : decode cX12_type 0 = .ok (.iload_n 1, 1) := by decide +kernel
theorem dX12_type_1 : decode cX12_type 1 = .ok (.i2l, 1) := by decide +kernel
theorem dX12_type_2 : decode cX12_type 2 = .ok (.lconst 0, 1) := by decide +kernel
theorem dX12_type_3 : decode cX12_type 3 = .ok (.ldc2_w 176, 3) := by decide +kernel
theorem dX12_type_6 : decode cX12_type 6 = .ok (.invokestatic 50, 3) := by decide +kernel
theorem dX12_type_9 : decode cX12_type 9 = .ok (.ifCond .ne 10, 3) := by decide +kernel
theorem dX12_type_12 : decode cX12_type 12 = .ok (.aload_n 0, 1) := by decide +kernel
theorem dX12_type_13 : decode cX12_type 13 = .ok (.bipush (-2), 2) := by decide +kernel
theorem dX12_type_15 : decode cX12_type 15 = .ok (.invokevirtual 58, 3) := by decide +kernel
theorem dX12_type_18 : decode cX12_type 18 = .ok (.ireturn, 1) := by decide +kernel
theorem dX12_type_19 : decode cX12_type 19 = .ok (.aload_n 0, 1) := by decide +kernel
theorem dX12_type_20 : decode cX12_type 20 = .ok (.getfield 178, 3) := by decide +kernel
theorem dX12_type_23 : decode cX12_type 23 = .ok (.sipush 150, 3) := by decide +kernel
theorem dX12_type_26 : decode cX12_type 26 = .ok (.if_icmp .ne 8, 3) := by decide +kernel
theorem dX12_type_29 : decode cX12_type 29 = .ok (.aload_n 0, 1) := by decide +kernel
theorem dX12_type_30 : decode cX12_type 30 = .ok (.invokevirtual 68, 3) := by decide +kernel
theorem dX12_type_33 : decode cX12_type 33 = .ok (.ireturn, 1) := by decide +kernel
theorem dX12_type_34 : decode cX12_type 34 = .ok (.aload_n 0, 1) := by decide +kernel
theorem dX12_type_35 : decode cX12_type 35 = .ok (.getfield 33, 3) := by decide +kernel
theorem dX12_type_38 : decode cX12_type 38 = .ok (.aload_n 0, 1) := by decide +kernel
theorem dX12_type_39 : decode cX12_type 39 = .ok (.getfield 178, 3) := by decide +kernel
theorem dX12_type_42 : decode cX12_type 42 = .ok (.iload_n 1, 1) := by decide +kernel
theorem dX12_type_43 : decode cX12_type 43 = .ok (.iastore, 1) := by decide +kernel
theorem dX12_type_44 : decode cX12_type 44 = .ok (.aload_n 0, 1) := by decide +kernel
theorem dX12_type_45 : decode cX12_type 45 = .ok (.dup, 1) := by decide +kernel
theorem dX12_type_46 : decode cX12_type 46 = .ok (.getfield 178, 3) := by decide +kernel
theorem dX12_type_49 : decode cX12_type 49 = .ok (.iconst 1, 1) := by decide +kernel
theorem dX12_type_50 : decode cX12_type 50 = .ok (.iadd, 1) := by decide +kernel
theorem dX12_type_51 : decode cX12_type 51 = .ok (.putfield 178, 3) := by decide +kernel
theorem dX12_type_54 : decode cX12_type 54 = .ok (.aload_n 0, 1) := by decide +kernel
theorem dX12_type_55 : decode cX12_type 55 = .ok (.getfield 178, 3) := by decide +kernel
theorem dX12_type_58 : decode cX12_type 58 = .ok (.ireturn, 1) := by decide +kernel
theorem dX12_clear_0 : decode cX12_clear 0 = .ok (.aload_n 0, 1) := by decide +kernel
theorem dX12_clear_1 : decode cX12_clear 1 = .ok (.getfield 178, 3) := by decide +kernel
theorem dX12_clear_4 : decode cX12_clear 4 = .ok (.istore_n 1, 1) := by decide +kernel
theorem dX12_clear_5 : decode cX12_clear 5 = .ok (.aload_n 0, 1) := by decide +kernel
theorem dX12_clear_6 : decode cX12_clear 6 = .ok (.iconst 0, 1) := by decide +kernel
theorem dX12_clear_7 : decode cX12_clear 7 = .ok (.putfield 178, 3) := by decide +kernel
theorem dX12_clear_10 : decode cX12_clear 10 = .ok (.iload_n 1, 1) := by decide +kernel
theorem dX12_clear_11 : decode cX12_clear 11 = .ok (.ireturn, 1) := by decide +kernel
theorem dX12_isSmall_0 : decode cX12_isSmall 0 = .ok (.iload_n 0, 1) := by decide +kernel
theorem dX12_isSmall_1 : decode cX12_isSmall 1 = .ok (.i2l, 1) := by decide +kernel
theorem dX12_isSmall_2 : decode cX12_isSmall 2 = .ok (.ldc2_w 181, 3) := by decide +kernel
theorem dX12_isSmall_5 : decode cX12_isSmall 5 = .ok (.ldc2_w 183, 3) := by decide +kernel
theorem dX12_isSmall_8 : decode cX12_isSmall 8 = .ok (.invokestatic 50, 3) := by decide +kernel
theorem dX12_isSmall_11 : decode cX12_isSmall 11 = .ok (.ireturn, 1) := by decide +kernel
theorem dX12_isFigure_0 : decode cX12_isFigure 0 = .ok (.iload_n 0, 1) := by decide +kernel
theorem dX12_isFigure_1 : decode cX12_isFigure 1 = .ok (.i2l, 1) := by decide +kernel
theorem dX12_isFigure_2 : decode cX12_isFigure 2 = .ok (.ldc2_w 185, 3) := by decide +kernel
theorem dX12_isFigure_5 : decode cX12_isFigure 5 = .ok (.ldc2_w 187, 3) := by decide +kernel
theorem dX12_isFigure_8 : decode cX12_isFigure 8 = .ok (.invokestatic 50, 3) := by decide +kernel
theorem dX12_isFigure_11 : decode cX12_isFigure 11 = .ok (.ireturn, 1) := by decide +kernel
theorem dX12_lookAt_0 : decode cX12_lookAt 0 = .ok (.aload_n 0, 1) := by decide +kernel
theorem dX12_lookAt_1 : decode cX12_lookAt 1 = .ok (.iload_n 1, 1) := by decide +kernel
theorem dX12_lookAt_2 : decode cX12_lookAt 2 = .ok (.putfield 189, 3) := by decide +kernel
theorem dX12_lookAt_5 : decode cX12_lookAt 5 = .ok (.aload_n 0, 1) := by decide +kernel
theorem dX12_lookAt_6 : decode cX12_lookAt 6 = .ok (.getfield 189, 3) := by decide +kernel
theorem dX12_lookAt_9 : decode cX12_lookAt 9 = .ok (.aload_n 0, 1) := by decide +kernel
theorem dX12_lookAt_10 : decode cX12_lookAt 10 = .ok (.getfield 178, 3) := by decide +kernel
theorem dX12_lookAt_13 : decode cX12_lookAt 13 = .ok (.if_icmp .ge 30, 3) := by decide +kernel
theorem dX12_lookAt_16 : decode cX12_lookAt 16 = .ok (.aload_n 0, 1) := by decide +kernel
theorem dX12_lookAt_17 : decode cX12_lookAt 17 = .ok (.getfield 33, 3) := by decide +kernel
theorem dX12_lookAt_20 : decode cX12_lookAt 20 = .ok (.aload_n 0, 1) := by decide +kernel
theorem dX12_lookAt_21 : decode cX12_lookAt 21 = .ok (.getfield 189, 3) := by decide +kernel
theorem dX12_lookAt_24 : decode cX12_lookAt 24 = .ok (.iaload, 1) := by decide +kernel
theorem dX12_lookAt_25 : decode cX12_lookAt 25 = .ok (.bipush 32, 2) := by decide +kernel
theorem dX12_lookAt_27 : decode cX12_lookAt 27 = .ok (.if_icmp .ne 16, 3) := by decide +kernel
theorem dX12_lookAt_30 : decode cX12_lookAt 30 = .ok (.aload_n 0, 1) := by decide +kernel
theorem dX12_lookAt_31 : decode cX12_lookAt 31 = .ok (.dup, 1) := by decide +kernel
theorem dX12_lookAt_32 : decode cX12_lookAt 32 = .ok (.getfield 189, 3) := by decide +kernel
theorem dX12_lookAt_35 : decode cX12_lookAt 35 = .ok (.iconst 1, 1) := by decide +kernel
theorem dX12_lookAt_36 : decode cX12_lookAt 36 = .ok (.iadd, 1) := by decide +kernel
theorem dX12_lookAt_37 : decode cX12_lookAt 37 = .ok (.putfield 189, 3) := by decide +kernel
theorem dX12_lookAt_40 : decode cX12_lookAt 40 = .ok (.goto (-35), 3) := by decide +kernel
theorem dX12_lookAt_43 : decode cX12_lookAt 43 = .ok (.aload_n 0, 1) := by decide +kernel
theorem dX12_lookAt_44 : decode cX12_lookAt 44 = .ok (.iconst 0, 1) := by decide +kernel
theorem dX12_lookAt_45 : decode cX12_lookAt 45 = .ok (.putfield 192, 3) := by decide +kernel
theorem dX12_lookAt_48 : decode cX12_lookAt 48 = .ok (.aload_n 0, 1) := by decide +kernel
theorem dX12_lookAt_49 : decode cX12_lookAt 49 = .ok (.iconst 0, 1) := by decide +kernel
theorem dX12_lookAt_50 : decode cX12_lookAt 50 = .ok (.putfield 195, 3) := by decide +kernel
theorem dX12_lookAt_53 : decode cX12_lookAt 53 = .ok (.aload_n 0, 1) := by decide +kernel
theorem dX12_lookAt_54 : decode cX12_lookAt 54 = .ok (.iconst 0, 1) := by decide +kernel
theorem dX12_lookAt_55 : decode cX12_lookAt 55 = .ok (.putfield 198, 3) := by decide +kernel
theorem dX12_lookAt_58 : decode cX12_lookAt 58 = .ok (.aload_n 0, 1) := by decide +kernel
theorem dX12_lookAt_59 : decode cX12_lookAt 59 = .ok (.getfield 189, 3) := by decide +kernel
theorem dX12_lookAt_62 : decode cX12_lookAt 62 = .ok (.aload_n 0, 1) := by decide +kernel
theorem dX12_lookAt_63 : decode cX12_lookAt 63 = .ok (.getfield 178, 3) := by decide +kernel
theorem dX12_lookAt_66 : decode cX12_lookAt 66 = .ok (.if_icmp .ne 4, 3) := by decide +kernel
theorem dX12_lookAt_69 : decode cX12_lookAt 69 = .ok (.return_, 1) := by decide +kernel
theorem dX12_lookAt_70 : decode cX12_lookAt 70 = .ok (.aload_n 0, 1) := by decide +kernel
theorem dX12_lookAt_71 : decode cX12_lookAt 71 = .ok (.getfield 33, 3) := by decide +kernel
theorem dX12_lookAt_74 : decode cX12_lookAt 74 = .ok (.aload_n 0, 1) := by decide +kernel
theorem dX12_lookAt_75 : decode cX12_lookAt 75 = .ok (.getfield 189, 3) := by decide +kernel
theorem dX12_lookAt_78 : decode cX12_lookAt 78 = .ok (.iaload, 1) := by decide +kernel
theorem dX12_lookAt_79 : decode cX12_lookAt 79 = .ok (.istore_n 2, 1) := by decide +kernel
theorem dX12_lookAt_80 : decode cX12_lookAt 80 = .ok (.aload_n 0, 1) := by decide +kernel
theorem dX12_lookAt_81 : decode cX12_lookAt 81 = .ok (.iload_n 2, 1) := by decide +kernel
theorem dX12_lookAt_82 : decode cX12_lookAt 82 = .ok (.invokestatic 201, 3) := by decide +kernel
theorem dX12_lookAt_85 : decode cX12_lookAt 85 = .ok (.ifCond .eq 7, 3) := by decide +kernel
theorem dX12_lookAt_88 : decode cX12_lookAt 88 = .ok (.iconst 1, 1) := by decide +kernel
theorem dX12_lookAt_89 : decode cX12_lookAt 89 = .ok (.goto 25, 3) := by decide +kernel
theorem dX12_lookAt_92 : decode cX12_lookAt 92 = .ok (.iload_n 2, 1) := by decide +kernel
theorem dX12_lookAt_93 : decode cX12_lookAt 93 = .ok (.invokestatic 204, 3) := by decide +kernel
theorem dX12_lookAt_96 : decode cX12_lookAt 96 = .ok (.ifCond .eq 7, 3) := by decide +kernel
theorem dX12_lookAt_99 : decode cX12_lookAt 99 = .ok (.iconst 2, 1) := by decide +kernel
theorem dX12_lookAt_100 : decode cX12_lookAt 100 = .ok (.goto 14, 3) := by decide +kernel
theorem dX12_lookAt_103 : decode cX12_lookAt 103 = .ok (.iload_n 2, 1) := by decide +kernel
theorem dX12_lookAt_104 : decode cX12_lookAt 104 = .ok (.bipush 59, 2) := by decide +kernel
theorem dX12_lookAt_106 : decode cX12_lookAt 106 = .ok (.if_icmp .ne 7, 3) := by decide +kernel
theorem dX12_lookAt_109 : decode cX12_lookAt 109 = .ok (.iconst 3, 1) := by decide +kernel
theorem dX12_lookAt_110 : decode cX12_lookAt 110 = .ok (.goto 4, 3) := by decide +kernel
theorem dX12_lookAt_113 : decode cX12_lookAt 113 = .ok (.iconst 4, 1) := by decide +kernel
theorem dX12_lookAt_114 : decode cX12_lookAt 114 = .ok (.putfield 195, 3) := by decide +kernel
theorem dX12_lookAt_117 : decode cX12_lookAt 117 = .ok (.aload_n 0, 1) := by decide +kernel
theorem dX12_lookAt_118 : decode cX12_lookAt 118 = .ok (.iconst 1, 1) := by decide +kernel
theorem dX12_lookAt_119 : decode cX12_lookAt 119 = .ok (.putfield 192, 3) := by decide +kernel
theorem dX12_lookAt_122 : decode cX12_lookAt 122 = .ok (.aload_n 0, 1) := by decide +kernel
theorem dX12_lookAt_123 : decode cX12_lookAt 123 = .ok (.getfield 195, 3) := by decide +kernel
theorem dX12_lookAt_126 : decode cX12_lookAt 126 = .ok (.iconst 3, 1) := by decide +kernel
theorem dX12_lookAt_127 : decode cX12_lookAt 127 = .ok (.if_icmp .ge 7, 3) := by decide +kernel
theorem dX12_lookAt_130 : decode cX12_lookAt 130 = .ok (.iconst 1, 1) := by decide +kernel
theorem dX12_lookAt_131 : decode cX12_lookAt 131 = .ok (.goto 4, 3) := by decide +kernel
theorem dX12_lookAt_134 : decode cX12_lookAt 134 = .ok (.iconst 0, 1) := by decide +kernel
theorem dX12_lookAt_135 : decode cX12_lookAt 135 = .ok (.istore_n 3, 1) := by decide +kernel
theorem dX12_lookAt_136 : decode cX12_lookAt 136 = .ok (.iload_n 3, 1) := by decide +kernel
theorem dX12_lookAt_137 : decode cX12_lookAt 137 = .ok (.ifCond .eq 78, 3) := by decide +kernel
theorem dX12_lookAt_140 : decode cX12_lookAt 140 = .ok (.aload_n 0, 1) := by decide +kernel
theorem dX12_lookAt_141 : decode cX12_lookAt 141 = .ok (.getfield 189, 3) := by decide +kernel
theorem dX12_lookAt_144 : decode cX12_lookAt 144 = .ok (.aload_n 0, 1) := by decide +kernel
theorem dX12_lookAt_145 : decode cX12_lookAt 145 = .ok (.getfield 192, 3) := by decide +kernel
theorem dX12_lookAt_148 : decode cX12_lookAt 148 = .ok (.iadd, 1) := by decide +kernel
theorem dX12_lookAt_149 : decode cX12_lookAt 149 = .ok (.aload_n 0, 1) := by decide +kernel
theorem dX12_lookAt_150 : decode cX12_lookAt 150 = .ok (.getfield 178, 3) := by decide +kernel
theorem dX12_lookAt_153 : decode cX12_lookAt 153 = .ok (.if_icmp .ge 62, 3) := by decide +kernel
theorem dX12_lookAt_156 : decode cX12_lookAt 156 = .ok (.aload_n 0, 1) := by decide +kernel
theorem dX12_lookAt_157 : decode cX12_lookAt 157 = .ok (.getfield 33, 3) := by decide +kernel
theorem dX12_lookAt_160 : decode cX12_lookAt 160 = .ok (.aload_n 0, 1) := by decide +kernel
theorem dX12_lookAt_161 : decode cX12_lookAt 161 = .ok (.getfield 189, 3) := by decide +kernel
theorem dX12_lookAt_164 : decode cX12_lookAt 164 = .ok (.aload_n 0, 1) := by decide +kernel
theorem dX12_lookAt_165 : decode cX12_lookAt 165 = .ok (.getfield 192, 3) := by decide +kernel
theorem dX12_lookAt_168 : decode cX12_lookAt 168 = .ok (.iadd, 1) := by decide +kernel
theorem dX12_lookAt_169 : decode cX12_lookAt 169 = .ok (.iaload, 1) := by decide +kernel
theorem dX12_lookAt_170 : decode cX12_lookAt 170 = .ok (.istore 4, 2) := by decide +kernel
theorem dX12_lookAt_172 : decode cX12_lookAt 172 = .ok (.aload_n 0, 1) := by decide +kernel
theorem dX12_lookAt_173 : decode cX12_lookAt 173 = .ok (.getfield 195, 3) := by decide +kernel
theorem dX12_lookAt_176 : decode cX12_lookAt 176 = .ok (.iconst 1, 1) := by decide +kernel
theorem dX12_lookAt_177 : decode cX12_lookAt 177 = .ok (.if_icmp .ne 11, 3) := by decide +kernel
theorem dX12_lookAt_180 : decode cX12_lookAt 180 = .ok (.iload 4, 2) := by decide +kernel
theorem dX12_lookAt_182 : decode cX12_lookAt 182 = .ok (.invokestatic 201, 3) := by decide +kernel
theorem dX12_lookAt_185 : decode cX12_lookAt 185 = .ok (.goto 8, 3) := by decide +kernel
theorem dX12_lookAt_188 : decode cX12_lookAt 188 = .ok (.iload 4, 2) := by decide +kernel
theorem dX12_lookAt_190 : decode cX12_lookAt 190 = .ok (.invokestatic 204, 3) := by decide +kernel
theorem dX12_lookAt_193 : decode cX12_lookAt 193 = .ok (.istore_n 3, 1) := by decide +kernel
theorem dX12_lookAt_194 : decode cX12_lookAt 194 = .ok (.aload_n 0, 1) := by decide +kernel
theorem dX12_lookAt_195 : decode cX12_lookAt 195 = .ok (.dup, 1) := by decide +kernel
theorem dX12_lookAt_196 : decode cX12_lookAt 196 = .ok (.getfield 192, 3) := by decide +kernel
theorem dX12_lookAt_199 : decode cX12_lookAt 199 = .ok (.iload_n 3, 1) := by decide +kernel
theorem dX12_lookAt_200 : decode cX12_lookAt 200 = .ok (.ifCond .eq 7, 3) := by decide +kernel
theorem dX12_lookAt_203 : decode cX12_lookAt 203 = .ok (.iconst 1, 1) := by decide +kernel
theorem dX12_lookAt_204 : decode cX12_lookAt 204 = .ok (.goto 4, 3) := by decide +kernel
theorem dX12_lookAt_207 : decode cX12_lookAt 207 = .ok (.iconst 0, 1) := by decide +kernel
theorem dX12_lookAt_208 : decode cX12_lookAt 208 = .ok (.iadd, 1) := by decide +kernel
theorem dX12_lookAt_209 : decode cX12_lookAt 209 = .ok (.putfield 192, 3) := by decide +kernel
theorem dX12_lookAt_212 : decode cX12_lookAt 212 = .ok (.goto (-76), 3) := by decide +kernel
theorem dX12_lookAt_215 : decode cX12_lookAt 215 = .ok (.iconst 0, 1) := by decide +kernel
theorem dX12_lookAt_216 : decode cX12_lookAt 216 = .ok (.istore 4, 2) := by decide +kernel
theorem dX12_lookAt_218 : decode cX12_lookAt 218 = .ok (.iload 4, 2) := by decide +kernel
theorem dX12_lookAt_220 : decode cX12_lookAt 220 = .ok (.aload_n 0, 1) := by decide +kernel
theorem dX12_lookAt_221 : decode cX12_lookAt 221 = .ok (.getfield 192, 3) := by decide +kernel
theorem dX12_lookAt_224 : decode cX12_lookAt 224 = .ok (.if_icmp .ge 50, 3) := by decide +kernel
theorem dX12_lookAt_227 : decode cX12_lookAt 227 = .ok (.iload 4, 2) := by decide +kernel
theorem dX12_lookAt_229 : decode cX12_lookAt 229 = .ok (.iconst 2, 1) := by decide +kernel
theorem dX12_lookAt_230 : decode cX12_lookAt 230 = .ok (.if_icmp .ge 44, 3) := by decide +kernel
theorem dX12_lookAt_233 : decode cX12_lookAt 233 = .ok (.aload_n 0, 1) := by decide +kernel
theorem dX12_lookAt_234 : decode cX12_lookAt 234 = .ok (.getfield 195, 3) := by decide +kernel
theorem dX12_lookAt_237 : decode cX12_lookAt 237 = .ok (.iconst 2, 1) := by decide +kernel
theorem dX12_lookAt_238 : decode cX12_lookAt 238 = .ok (.if_icmp .ne 36, 3) := by decide +kernel
theorem dX12_lookAt_241 : decode cX12_lookAt 241 = .ok (.aload_n 0, 1) := by decide +kernel
theorem dX12_lookAt_242 : decode cX12_lookAt 242 = .ok (.bipush 10, 2) := by decide +kernel
theorem dX12_lookAt_244 : decode cX12_lookAt 244 = .ok (.aload_n 0, 1) := by decide +kernel
theorem dX12_lookAt_245 : decode cX12_lookAt 245 = .ok (.getfield 198, 3) := by decide +kernel
theorem dX12_lookAt_248 : decode cX12_lookAt 248 = .ok (.imul, 1) := by decide +kernel
theorem dX12_lookAt_249 : decode cX12_lookAt 249 = .ok (.aload_n 0, 1) := by decide +kernel
theorem dX12_lookAt_250 : decode cX12_lookAt 250 = .ok (.getfield 33, 3) := by decide +kernel
theorem dX12_lookAt_253 : decode cX12_lookAt 253 = .ok (.aload_n 0, 1) := by decide +kernel
theorem dX12_lookAt_254 : decode cX12_lookAt 254 = .ok (.getfield 189, 3) := by decide +kernel
theorem dX12_lookAt_257 : decode cX12_lookAt 257 = .ok (.iload 4, 2) := by decide +kernel
theorem dX12_lookAt_259 : decode cX12_lookAt 259 = .ok (.iadd, 1) := by decide +kernel
theorem dX12_lookAt_260 : decode cX12_lookAt 260 = .ok (.iaload, 1) := by decide +kernel
theorem dX12_lookAt_261 : decode cX12_lookAt 261 = .ok (.iadd, 1) := by decide +kernel
theorem dX12_lookAt_262 : decode cX12_lookAt 262 = .ok (.bipush 48, 2) := by decide +kernel
theorem dX12_lookAt_264 : decode cX12_lookAt 264 = .ok (.isub, 1) := by decide +kernel
theorem dX12_lookAt_265 : decode cX12_lookAt 265 = .ok (.putfield 198, 3) := by decide +kernel
theorem dX12_lookAt_268 : decode cX12_lookAt 268 = .ok (.iinc 4 1, 3) := by decide +kernel
theorem dX12_lookAt_271 : decode cX12_lookAt 271 = .ok (.goto (-53), 3) := by decide +kernel
theorem dX12_lookAt_274 : decode cX12_lookAt 274 = .ok (.aload_n 0, 1) := by decide +kernel
theorem dX12_lookAt_275 : decode cX12_lookAt 275 = .ok (.aload_n 0, 1) := by decide +kernel
theorem dX12_lookAt_276 : decode cX12_lookAt 276 = .ok (.getfield 195, 3) := by decide +kernel
theorem dX12_lookAt_279 : decode cX12_lookAt 279 = .ok (.iconst 2, 1) := by decide +kernel
theorem dX12_lookAt_280 : decode cX12_lookAt 280 = .ok (.if_icmp .ne 15, 3) := by decide +kernel
theorem dX12_lookAt_283 : decode cX12_lookAt 283 = .ok (.aload_n 0, 1) := by decide +kernel
theorem dX12_lookAt_284 : decode cX12_lookAt 284 = .ok (.getfield 192, 3) := by decide +kernel
theorem dX12_lookAt_287 : decode cX12_lookAt 287 = .ok (.iconst 2, 1) := by decide +kernel
theorem dX12_lookAt_288 : decode cX12_lookAt 288 = .ok (.if_icmp .le 7, 3) := by decide +kernel
theorem dX12_lookAt_291 : decode cX12_lookAt 291 = .ok (.iconst 4, 1) := by decide +kernel
theorem dX12_lookAt_292 : decode cX12_lookAt 292 = .ok (.goto 7, 3) := by decide +kernel
theorem dX12_lookAt_295 : decode cX12_lookAt 295 = .ok (.aload_n 0, 1) := by decide +kernel
theorem dX12_lookAt_296 : decode cX12_lookAt 296 = .ok (.getfield 195, 3) := by decide +kernel
theorem dX12_lookAt_299 : decode cX12_lookAt 299 = .ok (.putfield 195, 3) := by decide +kernel
theorem dX12_lookAt_302 : decode cX12_lookAt 302 = .ok (.return_, 1) := by decide +kernel
theorem dX12_goBehind_0 : decode cX12_goBehind 0 = .ok (.aload_n 0, 1) := by decide +kernel
theorem dX12_goBehind_1 : decode cX12_goBehind 1 = .ok (.aload_n 0, 1) := by decide +kernel
theorem dX12_goBehind_2 : decode cX12_goBehind 2 = .ok (.getfield 189, 3) := by decide +kernel
theorem dX12_goBehind_5 : decode cX12_goBehind 5 = .ok (.aload_n 0, 1) := by decide +kernel
theorem dX12_goBehind_6 : decode cX12_goBehind 6 = .ok (.getfield 192, 3) := by decide +kernel
theorem dX12_goBehind_9 : decode cX12_goBehind 9 = .ok (.iadd, 1) := by decide +kernel
theorem dX12_goBehind_10 : decode cX12_goBehind 10 = .ok (.invokevirtual 207, 3) := by decide +kernel
theorem dX12_goBehind_13 : decode cX12_goBehind 13 = .ok (.return_, 1) := by decide +kernel
theorem dX12_spells_0 : decode cX12_spells 0 = .ok (.aload_n 0, 1) := by decide +kernel
theorem dX12_spells_1 : decode cX12_spells 1 = .ok (.getfield 195, 3) := by decide +kernel
theorem dX12_spells_4 : decode cX12_spells 4 = .ok (.iconst 1, 1) := by decide +kernel
theorem dX12_spells_5 : decode cX12_spells 5 = .ok (.if_icmp .ne 15, 3) := by decide +kernel
theorem dX12_spells_8 : decode cX12_spells 8 = .ok (.aload_n 0, 1) := by decide +kernel
theorem dX12_spells_9 : decode cX12_spells 9 = .ok (.getfield 192, 3) := by decide +kernel
theorem dX12_spells_12 : decode cX12_spells 12 = .ok (.iload_n 1, 1) := by decide +kernel
theorem dX12_spells_13 : decode cX12_spells 13 = .ok (.if_icmp .ne 7, 3) := by decide +kernel
theorem dX12_spells_16 : decode cX12_spells 16 = .ok (.iconst 1, 1) := by decide +kernel
theorem dX12_spells_17 : decode cX12_spells 17 = .ok (.goto 4, 3) := by decide +kernel
theorem dX12_spells_20 : decode cX12_spells 20 = .ok (.iconst 0, 1) := by decide +kernel
theorem dX12_spells_21 : decode cX12_spells 21 = .ok (.istore 8, 2) := by decide +kernel
theorem dX12_spells_23 : decode cX12_spells 23 = .ok (.iconst 0, 1) := by decide +kernel
theorem dX12_spells_24 : decode cX12_spells 24 = .ok (.istore 9, 2) := by decide +kernel
theorem dX12_spells_26 : decode cX12_spells 26 = .ok (.iload 9, 2) := by decide +kernel
theorem dX12_spells_28 : decode cX12_spells 28 = .ok (.iload_n 1, 1) := by decide +kernel
theorem dX12_spells_29 : decode cX12_spells 29 = .ok (.if_icmp .ge 90, 3) := by decide +kernel
theorem dX12_spells_32 : decode cX12_spells 32 = .ok (.iload 8, 2) := by decide +kernel
theorem dX12_spells_34 : decode cX12_spells 34 = .ok (.ifCond .eq 85, 3) := by decide +kernel
theorem dX12_spells_37 : decode cX12_spells 37 = .ok (.aload_n 0, 1) := by decide +kernel
theorem dX12_spells_38 : decode cX12_spells 38 = .ok (.getfield 33, 3) := by decide +kernel
theorem dX12_spells_41 : decode cX12_spells 41 = .ok (.aload_n 0, 1) := by decide +kernel
theorem dX12_spells_42 : decode cX12_spells 42 = .ok (.getfield 189, 3) := by decide +kernel
theorem dX12_spells_45 : decode cX12_spells 45 = .ok (.iload 9, 2) := by decide +kernel
theorem dX12_spells_47 : decode cX12_spells 47 = .ok (.iadd, 1) := by decide +kernel
theorem dX12_spells_48 : decode cX12_spells 48 = .ok (.iaload, 1) := by decide +kernel
theorem dX12_spells_49 : decode cX12_spells 49 = .ok (.iload 9, 2) := by decide +kernel
theorem dX12_spells_51 : decode cX12_spells 51 = .ok (.ifCond .ne 7, 3) := by decide +kernel
theorem dX12_spells_54 : decode cX12_spells 54 = .ok (.iload_n 2, 1) := by decide +kernel
theorem dX12_spells_55 : decode cX12_spells 55 = .ok (.goto 48, 3) := by decide +kernel
theorem dX12_spells_58 : decode cX12_spells 58 = .ok (.iload 9, 2) := by decide +kernel
theorem dX12_spells_60 : decode cX12_spells 60 = .ok (.iconst 1, 1) := by decide +kernel
theorem dX12_spells_61 : decode cX12_spells 61 = .ok (.if_icmp .ne 7, 3) := by decide +kernel
theorem dX12_spells_64 : decode cX12_spells 64 = .ok (.iload_n 3, 1) := by decide +kernel
theorem dX12_spells_65 : decode cX12_spells 65 = .ok (.goto 38, 3) := by decide +kernel
theorem dX12_spells_68 : decode cX12_spells 68 = .ok (.iload 9, 2) := by decide +kernel
theorem dX12_spells_70 : decode cX12_spells 70 = .ok (.iconst 2, 1) := by decide +kernel
theorem dX12_spells_71 : decode cX12_spells 71 = .ok (.if_icmp .ne 8, 3) := by decide +kernel
theorem dX12_spells_74 : decode cX12_spells 74 = .ok (.iload 4, 2) := by decide +kernel
theorem dX12_spells_76 : decode cX12_spells 76 = .ok (.goto 27, 3) := by decide +kernel
theorem dX12_spells_79 : decode cX12_spells 79 = .ok (.iload 9, 2) := by decide +kernel
theorem dX12_spells_81 : decode cX12_spells 81 = .ok (.iconst 3, 1) := by decide +kernel
theorem dX12_spells_82 : decode cX12_spells 82 = .ok (.if_icmp .ne 8, 3) := by decide +kernel
theorem dX12_spells_85 : decode cX12_spells 85 = .ok (.iload 5, 2) := by decide +kernel
theorem dX12_spells_87 : decode cX12_spells 87 = .ok (.goto 16, 3) := by decide +kernel
theorem dX12_spells_90 : decode cX12_spells 90 = .ok (.iload 9, 2) := by decide +kernel
theorem dX12_spells_92 : decode cX12_spells 92 = .ok (.iconst 4, 1) := by decide +kernel
theorem dX12_spells_93 : decode cX12_spells 93 = .ok (.if_icmp .ne 8, 3) := by decide +kernel
theorem dX12_spells_96 : decode cX12_spells 96 = .ok (.iload 6, 2) := by decide +kernel
theorem dX12_spells_98 : decode cX12_spells 98 = .ok (.goto 5, 3) := by decide +kernel
theorem dX12_spells_101 : decode cX12_spells 101 = .ok (.iload 7, 2) := by decide +kernel
theorem dX12_spells_103 : decode cX12_spells 103 = .ok (.if_icmp .ne 7, 3) := by decide +kernel
theorem dX12_spells_106 : decode cX12_spells 106 = .ok (.iconst 1, 1) := by decide +kernel
theorem dX12_spells_107 : decode cX12_spells 107 = .ok (.goto 4, 3) := by decide +kernel
theorem dX12_spells_110 : decode cX12_spells 110 = .ok (.iconst 0, 1) := by decide +kernel
theorem dX12_spells_111 : decode cX12_spells 111 = .ok (.istore 8, 2) := by decide +kernel
theorem dX12_spells_113 : decode cX12_spells 113 = .ok (.iinc 9 1, 3) := by decide +kernel
theorem dX12_spells_116 : decode cX12_spells 116 = .ok (.goto (-90), 3) := by decide +kernel
theorem dX12_spells_119 : decode cX12_spells 119 = .ok (.iload 8, 2) := by decide +kernel
theorem dX12_spells_121 : decode cX12_spells 121 = .ok (.ireturn, 1) := by decide +kernel
theorem dX12_takes_0 : decode cX12_takes 0 = .ok (.aload_n 0, 1) := by decide +kernel
theorem dX12_takes_1 : decode cX12_takes 1 = .ok (.getfield 195, 3) := by decide +kernel
theorem dX12_takes_4 : decode cX12_takes 4 = .ok (.iconst 2, 1) := by decide +kernel
theorem dX12_takes_5 : decode cX12_takes 5 = .ok (.if_icmp .ne 18, 3) := by decide +kernel
theorem dX12_takes_8 : decode cX12_takes 8 = .ok (.aload_n 0, 1) := by decide +kernel
theorem dX12_takes_9 : decode cX12_takes 9 = .ok (.getfield 198, 3) := by decide +kernel
theorem dX12_takes_12 : decode cX12_takes 12 = .ok (.i2l, 1) := by decide +kernel
theorem dX12_takes_13 : decode cX12_takes 13 = .ok (.iload_n 2, 1) := by decide +kernel
theorem dX12_takes_14 : decode cX12_takes 14 = .ok (.i2l, 1) := by decide +kernel
theorem dX12_takes_15 : decode cX12_takes 15 = .ok (.iload_n 3, 1) := by decide +kernel
theorem dX12_takes_16 : decode cX12_takes 16 = .ok (.i2l, 1) := by decide +kernel
theorem dX12_takes_17 : decode cX12_takes 17 = .ok (.invokestatic 50, 3) := by decide +kernel
theorem dX12_takes_20 : decode cX12_takes 20 = .ok (.ifCond .ne 5, 3) := by decide +kernel
theorem dX12_takes_23 : decode cX12_takes 23 = .ok (.iconst 0, 1) := by decide +kernel
theorem dX12_takes_24 : decode cX12_takes 24 = .ok (.ireturn, 1) := by decide +kernel
theorem dX12_takes_25 : decode cX12_takes 25 = .ok (.aload_n 0, 1) := by decide +kernel
theorem dX12_takes_26 : decode cX12_takes 26 = .ok (.getfield 39, 3) := by decide +kernel
theorem dX12_takes_29 : decode cX12_takes 29 = .ok (.iload_n 1, 1) := by decide +kernel
theorem dX12_takes_30 : decode cX12_takes 30 = .ok (.aload_n 0, 1) := by decide +kernel
theorem dX12_takes_31 : decode cX12_takes 31 = .ok (.getfield 198, 3) := by decide +kernel
theorem dX12_takes_34 : decode cX12_takes 34 = .ok (.iastore, 1) := by decide +kernel
theorem dX12_takes_35 : decode cX12_takes 35 = .ok (.aload_n 0, 1) := by decide +kernel
theorem dX12_takes_36 : decode cX12_takes 36 = .ok (.invokevirtual 211, 3) := by decide +kernel
theorem dX12_takes_39 : decode cX12_takes 39 = .ok (.iconst 1, 1) := by decide +kernel
theorem dX12_takes_40 : decode cX12_takes 40 = .ok (.ireturn, 1) := by decide +kernel
theorem dX12_takesHamlet_0 : decode cX12_takesHamlet 0 = .ok (.aload_n 0, 1) := by decide +kernel
theorem dX12_takesHamlet_1 : decode cX12_takesHamlet 1 = .ok (.bipush 6, 2) := by decide +kernel
theorem dX12_takesHamlet_3 : decode cX12_takesHamlet 3 = .ok (.bipush 104, 2) := by decide +kernel
theorem dX12_takesHamlet_5 : decode cX12_takesHamlet 5 = .ok (.bipush 97, 2) := by decide +kernel
theorem dX12_takesHamlet_7 : decode cX12_takesHamlet 7 = .ok (.bipush 109, 2) := by decide +kernel
theorem dX12_takesHamlet_9 : decode cX12_takesHamlet 9 = .ok (.bipush 108, 2) := by decide +kernel
theorem dX12_takesHamlet_11 : decode cX12_takesHamlet 11 = .ok (.bipush 101, 2) := by decide +kernel
theorem dX12_takesHamlet_13 : decode cX12_takesHamlet 13 = .ok (.bipush 116, 2) := by decide +kernel
theorem dX12_takesHamlet_15 : decode cX12_takesHamlet 15 = .ok (.invokevirtual 214, 3) := by decide +kernel
theorem dX12_takesHamlet_18 : decode cX12_takesHamlet 18 = .ok (.ifCond .ne 5, 3) := by decide +kernel
theorem dX12_takesHamlet_21 : decode cX12_takesHamlet 21 = .ok (.iconst 0, 1) := by decide +kernel
theorem dX12_takesHamlet_22 : decode cX12_takesHamlet 22 = .ok (.ireturn, 1) := by decide +kernel
theorem dX12_takesHamlet_23 : decode cX12_takesHamlet 23 = .ok (.aload_n 0, 1) := by decide +kernel
theorem dX12_takesHamlet_24 : decode cX12_takesHamlet 24 = .ok (.invokevirtual 211, 3) := by decide +kernel
theorem dX12_takesHamlet_27 : decode cX12_takesHamlet 27 = .ok (.aload_n 0, 1) := by decide +kernel
theorem dX12_takesHamlet_28 : decode cX12_takesHamlet 28 = .ok (.iconst 0, 1) := by decide +kernel
theorem dX12_takesHamlet_29 : decode cX12_takesHamlet 29 = .ok (.iconst 0, 1) := by decide +kernel
theorem dX12_takesHamlet_30 : decode cX12_takesHamlet 30 = .ok (.bipush 99, 2) := by decide +kernel
theorem dX12_takesHamlet_32 : decode cX12_takesHamlet 32 = .ok (.invokevirtual 218, 3) := by decide +kernel
theorem dX12_takesHamlet_35 : decode cX12_takesHamlet 35 = .ok (.ifCond .ne 5, 3) := by decide +kernel
theorem dX12_takesHamlet_38 : decode cX12_takesHamlet 38 = .ok (.iconst 0, 1) := by decide +kernel
theorem dX12_takesHamlet_39 : decode cX12_takesHamlet 39 = .ok (.ireturn, 1) := by decide +kernel
theorem dX12_takesHamlet_40 : decode cX12_takesHamlet 40 = .ok (.aload_n 0, 1) := by decide +kernel
theorem dX12_takesHamlet_41 : decode cX12_takesHamlet 41 = .ok (.getfield 36, 3) := by decide +kernel
theorem dX12_takesHamlet_44 : decode cX12_takesHamlet 44 = .ok (.aload_n 0, 1) := by decide +kernel
theorem dX12_takesHamlet_45 : decode cX12_takesHamlet 45 = .ok (.getfield 39, 3) := by decide +kernel
theorem dX12_takesHamlet_48 : decode cX12_takesHamlet 48 = .ok (.iconst 0, 1) := by decide +kernel
theorem dX12_takesHamlet_49 : decode cX12_takesHamlet 49 = .ok (.iaload, 1) := by decide +kernel
theorem dX12_takesHamlet_50 : decode cX12_takesHamlet 50 = .ok (.invokestatic 42, 3) := by decide +kernel
theorem dX12_takesHamlet_53 : decode cX12_takesHamlet 53 = .ok (.aload_n 0, 1) := by decide +kernel
theorem dX12_takesHamlet_54 : decode cX12_takesHamlet 54 = .ok (.getfield 195, 3) := by decide +kernel
theorem dX12_takesHamlet_57 : decode cX12_takesHamlet 57 = .ok (.iconst 3, 1) := by decide +kernel
theorem dX12_takesHamlet_58 : decode cX12_takesHamlet 58 = .ok (.if_icmp .ne 7, 3) := by decide +kernel
theorem dX12_takesHamlet_61 : decode cX12_takesHamlet 61 = .ok (.iconst 1, 1) := by decide +kernel
theorem dX12_takesHamlet_62 : decode cX12_takesHamlet 62 = .ok (.goto 4, 3) := by decide +kernel
theorem dX12_takesHamlet_65 : decode cX12_takesHamlet 65 = .ok (.iconst 0, 1) := by decide +kernel
theorem dX12_takesHamlet_66 : decode cX12_takesHamlet 66 = .ok (.ireturn, 1) := by decide +kernel
theorem dX12_takesOne_0 : decode cX12_takesOne 0 = .ok (.aload_n 0, 1) := by decide +kernel
theorem dX12_takesOne_1 : decode cX12_takesOne 1 = .ok (.getfield 36, 3) := by decide +kernel
theorem dX12_takesOne_4 : decode cX12_takesOne 4 = .ok (.iconst 0, 1) := by decide +kernel
theorem dX12_takesOne_5 : decode cX12_takesOne 5 = .ok (.iaload, 1) := by decide +kernel
theorem dX12_takesOne_6 : decode cX12_takesOne 6 = .ok (.bipush 7, 2) := by decide +kernel
theorem dX12_takesOne_8 : decode cX12_takesOne 8 = .ok (.if_icmp .ne 5, 3) := by decide +kernel
theorem dX12_takesOne_11 : decode cX12_takesOne 11 = .ok (.iconst 0, 1) := by decide +kernel
theorem dX12_takesOne_12 : decode cX12_takesOne 12 = .ok (.ireturn, 1) := by decide +kernel
theorem dX12_takesOne_13 : decode cX12_takesOne 13 = .ok (.aload_n 0, 1) := by decide +kernel
theorem dX12_takesOne_14 : decode cX12_takesOne 14 = .ok (.invokevirtual 211, 3) := by decide +kernel
theorem dX12_takesOne_17 : decode cX12_takesOne 17 = .ok (.aload_n 0, 1) := by decide +kernel
theorem dX12_takesOne_18 : decode cX12_takesOne 18 = .ok (.iconst 0, 1) := by decide +kernel
theorem dX12_takesOne_19 : decode cX12_takesOne 19 = .ok (.iconst 0, 1) := by decide +kernel
theorem dX12_takesOne_20 : decode cX12_takesOne 20 = .ok (.iconst 5, 1) := by decide +kernel
theorem dX12_takesOne_21 : decode cX12_takesOne 21 = .ok (.invokevirtual 218, 3) := by decide +kernel
theorem dX12_takesOne_24 : decode cX12_takesOne 24 = .ok (.ifCond .eq 14, 3) := by decide +kernel
theorem dX12_takesOne_27 : decode cX12_takesOne 27 = .ok (.aload_n 0, 1) := by decide +kernel
theorem dX12_takesOne_28 : decode cX12_takesOne 28 = .ok (.iconst 1, 1) := by decide +kernel
theorem dX12_takesOne_29 : decode cX12_takesOne 29 = .ok (.iconst 0, 1) := by decide +kernel
theorem dX12_takesOne_30 : decode cX12_takesOne 30 = .ok (.bipush 9, 2) := by decide +kernel
theorem dX12_takesOne_32 : decode cX12_takesOne 32 = .ok (.invokevirtual 218, 3) := by decide +kernel
theorem dX12_takesOne_35 : decode cX12_takesOne 35 = .ok (.ifCond .ne 5, 3) := by decide +kernel
theorem dX12_takesOne_38 : decode cX12_takesOne 38 = .ok (.iconst 0, 1) := by decide +kernel
theorem dX12_takesOne_39 : decode cX12_takesOne 39 = .ok (.ireturn, 1) := by decide +kernel
theorem dX12_takesOne_40 : decode cX12_takesOne 40 = .ok (.aload_n 0, 1) := by decide +kernel
theorem dX12_takesOne_41 : decode cX12_takesOne 41 = .ok (.getfield 36, 3) := by decide +kernel
theorem dX12_takesOne_44 : decode cX12_takesOne 44 = .ok (.aload_n 0, 1) := by decide +kernel
theorem dX12_takesOne_45 : decode cX12_takesOne 45 = .ok (.getfield 39, 3) := by decide +kernel
theorem dX12_takesOne_48 : decode cX12_takesOne 48 = .ok (.iconst 0, 1) := by decide +kernel
theorem dX12_takesOne_49 : decode cX12_takesOne 49 = .ok (.iaload, 1) := by decide +kernel
theorem dX12_takesOne_50 : decode cX12_takesOne 50 = .ok (.aload_n 0, 1) := by decide +kernel
theorem dX12_takesOne_51 : decode cX12_takesOne 51 = .ok (.getfield 39, 3) := by decide +kernel
theorem dX12_takesOne_54 : decode cX12_takesOne 54 = .ok (.iconst 1, 1) := by decide +kernel
theorem dX12_takesOne_55 : decode cX12_takesOne 55 = .ok (.iaload, 1) := by decide +kernel
theorem dX12_takesOne_56 : decode cX12_takesOne 56 = .ok (.invokestatic 71, 3) := by decide +kernel
theorem dX12_takesOne_59 : decode cX12_takesOne 59 = .ok (.iconst 1, 1) := by decide +kernel
theorem dX12_takesOne_60 : decode cX12_takesOne 60 = .ok (.ireturn, 1) := by decide +kernel
theorem dX12_takesBears_0 : decode cX12_takesBears 0 = .ok (.aload_n 0, 1) := by decide +kernel
theorem dX12_takesBears_1 : decode cX12_takesBears 1 = .ok (.invokevirtual 211, 3) := by decide +kernel
theorem dX12_takesBears_4 : decode cX12_takesBears 4 = .ok (.aload_n 0, 1) := by decide +kernel
theorem dX12_takesBears_5 : decode cX12_takesBears 5 = .ok (.getfield 39, 3) := by decide +kernel
theorem dX12_takesBears_8 : decode cX12_takesBears 8 = .ok (.iconst 1, 1) := by decide +kernel
theorem dX12_takesBears_9 : decode cX12_takesBears 9 = .ok (.iconst (-1), 1) := by decide +kernel
theorem dX12_takesBears_10 : decode cX12_takesBears 10 = .ok (.iastore, 1) := by decide +kernel
theorem dX12_takesBears_11 : decode cX12_takesBears 11 = .ok (.aload_n 0, 1) := by decide +kernel
theorem dX12_takesBears_12 : decode cX12_takesBears 12 = .ok (.iconst 0, 1) := by decide +kernel
theorem dX12_takesBears_13 : decode cX12_takesBears 13 = .ok (.iconst 0, 1) := by decide +kernel
theorem dX12_takesBears_14 : decode cX12_takesBears 14 = .ok (.aload_n 0, 1) := by decide +kernel
theorem dX12_takesBears_15 : decode cX12_takesBears 15 = .ok (.getfield 36, 3) := by decide +kernel
theorem dX12_takesBears_18 : decode cX12_takesBears 18 = .ok (.iconst 0, 1) := by decide +kernel
theorem dX12_takesBears_19 : decode cX12_takesBears 19 = .ok (.iaload, 1) := by decide +kernel
theorem dX12_takesBears_20 : decode cX12_takesBears 20 = .ok (.iconst 1, 1) := by decide +kernel
theorem dX12_takesBears_21 : decode cX12_takesBears 21 = .ok (.isub, 1) := by decide +kernel
theorem dX12_takesBears_22 : decode cX12_takesBears 22 = .ok (.invokevirtual 218, 3) := by decide +kernel
theorem dX12_takesBears_25 : decode cX12_takesBears 25 = .ok (.ifCond .eq 24, 3) := by decide +kernel
theorem dX12_takesBears_28 : decode cX12_takesBears 28 = .ok (.iload_n 1, 1) := by decide +kernel
theorem dX12_takesBears_29 : decode cX12_takesBears 29 = .ok (.ifCond .ne 22, 3) := by decide +kernel
theorem dX12_takesBears_32 : decode cX12_takesBears 32 = .ok (.aload_n 0, 1) := by decide +kernel
theorem dX12_takesBears_33 : decode cX12_takesBears 33 = .ok (.iconst 1, 1) := by decide +kernel
theorem dX12_takesBears_34 : decode cX12_takesBears 34 = .ok (.iconst 0, 1) := by decide +kernel
theorem dX12_takesBears_35 : decode cX12_takesBears 35 = .ok (.aload_n 0, 1) := by decide +kernel
theorem dX12_takesBears_36 : decode cX12_takesBears 36 = .ok (.getfield 36, 3) := by decide +kernel
theorem dX12_takesBears_39 : decode cX12_takesBears 39 = .ok (.iconst 0, 1) := by decide +kernel
theorem dX12_takesBears_40 : decode cX12_takesBears 40 = .ok (.iaload, 1) := by decide +kernel
theorem dX12_takesBears_41 : decode cX12_takesBears 41 = .ok (.iconst 1, 1) := by decide +kernel
theorem dX12_takesBears_42 : decode cX12_takesBears 42 = .ok (.isub, 1) := by decide +kernel
theorem dX12_takesBears_43 : decode cX12_takesBears 43 = .ok (.invokevirtual 218, 3) := by decide +kernel
theorem dX12_takesBears_46 : decode cX12_takesBears 46 = .ok (.ifCond .ne 5, 3) := by decide +kernel
theorem dX12_takesBears_49 : decode cX12_takesBears 49 = .ok (.iconst 0, 1) := by decide +kernel
theorem dX12_takesBears_50 : decode cX12_takesBears 50 = .ok (.ireturn, 1) := by decide +kernel
theorem dX12_takesBears_51 : decode cX12_takesBears 51 = .ok (.aload_n 0, 1) := by decide +kernel
theorem dX12_takesBears_52 : decode cX12_takesBears 52 = .ok (.getfield 36, 3) := by decide +kernel
theorem dX12_takesBears_55 : decode cX12_takesBears 55 = .ok (.iconst 5, 1) := by decide +kernel
theorem dX12_takesBears_56 : decode cX12_takesBears 56 = .ok (.aload_n 0, 1) := by decide +kernel
theorem dX12_takesBears_57 : decode cX12_takesBears 57 = .ok (.getfield 39, 3) := by decide +kernel
theorem dX12_takesBears_60 : decode cX12_takesBears 60 = .ok (.iconst 0, 1) := by decide +kernel
theorem dX12_takesBears_61 : decode cX12_takesBears 61 = .ok (.iaload, 1) := by decide +kernel
theorem dX12_takesBears_62 : decode cX12_takesBears 62 = .ok (.iadd, 1) := by decide +kernel
theorem dX12_takesBears_63 : decode cX12_takesBears 63 = .ok (.aload_n 0, 1) := by decide +kernel
theorem dX12_takesBears_64 : decode cX12_takesBears 64 = .ok (.getfield 39, 3) := by decide +kernel
theorem dX12_takesBears_67 : decode cX12_takesBears 67 = .ok (.iconst 1, 1) := by decide +kernel
theorem dX12_takesBears_68 : decode cX12_takesBears 68 = .ok (.iaload, 1) := by decide +kernel
theorem dX12_takesBears_69 : decode cX12_takesBears 69 = .ok (.iastore, 1) := by decide +kernel
theorem dX12_takesBears_70 : decode cX12_takesBears 70 = .ok (.iconst 1, 1) := by decide +kernel
theorem dX12_takesBears_71 : decode cX12_takesBears 71 = .ok (.ireturn, 1) := by decide +kernel
theorem dX12_takesItem_0 : decode cX12_takesItem 0 = .ok (.aload_n 0, 1) := by decide +kernel
theorem dX12_takesItem_1 : decode cX12_takesItem 1 = .ok (.iconst 3, 1) := by decide +kernel
theorem dX12_takesItem_2 : decode cX12_takesItem 2 = .ok (.bipush 111, 2) := by decide +kernel
theorem dX12_takesItem_4 : decode cX12_takesItem 4 = .ok (.bipush 110, 2) := by decide +kernel
theorem dX12_takesItem_6 : decode cX12_takesItem 6 = .ok (.bipush 101, 2) := by decide +kernel
theorem dX12_takesItem_8 : decode cX12_takesItem 8 = .ok (.iconst 0, 1) := by decide +kernel
theorem dX12_takesItem_9 : decode cX12_takesItem 9 = .ok (.iconst 0, 1) := by decide +kernel
theorem dX12_takesItem_10 : decode cX12_takesItem 10 = .ok (.iconst 0, 1) := by decide +kernel
theorem dX12_takesItem_11 : decode cX12_takesItem 11 = .ok (.invokevirtual 214, 3) := by decide +kernel
theorem dX12_takesItem_14 : decode cX12_takesItem 14 = .ok (.ifCond .eq 8, 3) := by decide +kernel
theorem dX12_takesItem_17 : decode cX12_takesItem 17 = .ok (.aload_n 0, 1) := by decide +kernel
theorem dX12_takesItem_18 : decode cX12_takesItem 18 = .ok (.invokevirtual 221, 3) := by decide +kernel
theorem dX12_takesItem_21 : decode cX12_takesItem 21 = .ok (.ireturn, 1) := by decide +kernel
theorem dX12_takesItem_22 : decode cX12_takesItem 22 = .ok (.aload_n 0, 1) := by decide +kernel
theorem dX12_takesItem_23 : decode cX12_takesItem 23 = .ok (.iconst 5, 1) := by decide +kernel
theorem dX12_takesItem_24 : decode cX12_takesItem 24 = .ok (.bipush 98, 2) := by decide +kernel
theorem dX12_takesItem_26 : decode cX12_takesItem 26 = .ok (.bipush 101, 2) := by decide +kernel
theorem dX12_takesItem_28 : decode cX12_takesItem 28 = .ok (.bipush 97, 2) := by decide +kernel
theorem dX12_takesItem_30 : decode cX12_takesItem 30 = .ok (.bipush 114, 2) := by decide +kernel
theorem dX12_takesItem_32 : decode cX12_takesItem 32 = .ok (.bipush 115, 2) := by decide +kernel
theorem dX12_takesItem_34 : decode cX12_takesItem 34 = .ok (.iconst 0, 1) := by decide +kernel
theorem dX12_takesItem_35 : decode cX12_takesItem 35 = .ok (.invokevirtual 214, 3) := by decide +kernel
theorem dX12_takesItem_38 : decode cX12_takesItem 38 = .ok (.ifCond .eq 9, 3) := by decide +kernel
theorem dX12_takesItem_41 : decode cX12_takesItem 41 = .ok (.aload_n 0, 1) := by decide +kernel
theorem dX12_takesItem_42 : decode cX12_takesItem 42 = .ok (.iconst 0, 1) := by decide +kernel
theorem dX12_takesItem_43 : decode cX12_takesItem 43 = .ok (.invokevirtual 225, 3) := by decide +kernel
theorem dX12_takesItem_46 : decode cX12_takesItem 46 = .ok (.ireturn, 1) := by decide +kernel
theorem dX12_takesItem_47 : decode cX12_takesItem 47 = .ok (.aload_n 0, 1) := by decide +kernel
theorem dX12_takesItem_48 : decode cX12_takesItem 48 = .ok (.iconst 4, 1) := by decide +kernel
theorem dX12_takesItem_49 : decode cX12_takesItem 49 = .ok (.bipush 110, 2) := by decide +kernel
theorem dX12_takesItem_51 : decode cX12_takesItem 51 = .ok (.bipush 111, 2) := by decide +kernel
theorem dX12_takesItem_53 : decode cX12_takesItem 53 = .ok (.bipush 110, 2) := by decide +kernel
theorem dX12_takesItem_55 : decode cX12_takesItem 55 = .ok (.bipush 101, 2) := by decide +kernel
theorem dX12_takesItem_57 : decode cX12_takesItem 57 = .ok (.iconst 0, 1) := by decide +kernel
theorem dX12_takesItem_58 : decode cX12_takesItem 58 = .ok (.iconst 0, 1) := by decide +kernel
theorem dX12_takesItem_59 : decode cX12_takesItem 59 = .ok (.invokevirtual 214, 3) := by decide +kernel
theorem dX12_takesItem_62 : decode cX12_takesItem 62 = .ok (.ifCond .eq 15, 3) := by decide +kernel
theorem dX12_takesItem_65 : decode cX12_takesItem 65 = .ok (.aload_n 0, 1) := by decide +kernel
theorem dX12_takesItem_66 : decode cX12_takesItem 66 = .ok (.iconst 1, 1) := by decide +kernel
theorem dX12_takesItem_67 : decode cX12_takesItem 67 = .ok (.invokevirtual 225, 3) := by decide +kernel
theorem dX12_takesItem_70 : decode cX12_takesItem 70 = .ok (.ifCond .eq 7, 3) := by decide +kernel
theorem dX12_takesItem_73 : decode cX12_takesItem 73 = .ok (.iconst 1, 1) := by decide +kernel
theorem dX12_takesItem_74 : decode cX12_takesItem 74 = .ok (.goto 4, 3) := by decide +kernel
theorem dX12_takesItem_77 : decode cX12_takesItem 77 = .ok (.iconst 0, 1) := by decide +kernel
theorem dX12_takesItem_78 : decode cX12_takesItem 78 = .ok (.ireturn, 1) := by decide +kernel
theorem dX12_read_0 : decode cX12_read 0 = .ok (.aload_n 0, 1) := by decide +kernel
theorem dX12_read_1 : decode cX12_read 1 = .ok (.iconst 0, 1) := by decide +kernel
theorem dX12_read_2 : decode cX12_read 2 = .ok (.invokevirtual 207, 3) := by decide +kernel
theorem dX12_read_5 : decode cX12_read 5 = .ok (.aload_n 0, 1) := by decide +kernel
theorem dX12_read_6 : decode cX12_read 6 = .ok (.invokevirtual 229, 3) := by decide +kernel
theorem dX12_read_9 : decode cX12_read 9 = .ok (.ifCond .ne 11, 3) := by decide +kernel
theorem dX12_read_12 : decode cX12_read 12 = .ok (.bipush (-10), 2) := by decide +kernel
theorem dX12_read_14 : decode cX12_read 14 = .ok (.aload_n 0, 1) := by decide +kernel
theorem dX12_read_15 : decode cX12_read 15 = .ok (.getfield 189, 3) := by decide +kernel
theorem dX12_read_18 : decode cX12_read 18 = .ok (.isub, 1) := by decide +kernel
theorem dX12_read_19 : decode cX12_read 19 = .ok (.ireturn, 1) := by decide +kernel
theorem dX12_read_20 : decode cX12_read 20 = .ok (.aload_n 0, 1) := by decide +kernel
theorem dX12_read_21 : decode cX12_read 21 = .ok (.invokevirtual 211, 3) := by decide +kernel
theorem dX12_read_24 : decode cX12_read 24 = .ok (.iconst 1, 1) := by decide +kernel
theorem dX12_read_25 : decode cX12_read 25 = .ok (.istore_n 1, 1) := by decide +kernel
theorem dX12_read_26 : decode cX12_read 26 = .ok (.aload_n 0, 1) := by decide +kernel
theorem dX12_read_27 : decode cX12_read 27 = .ok (.getfield 195, 3) := by decide +kernel
theorem dX12_read_30 : decode cX12_read 30 = .ok (.ifCond .eq 36, 3) := by decide +kernel
theorem dX12_read_33 : decode cX12_read 33 = .ok (.aload_n 0, 1) := by decide +kernel
theorem dX12_read_34 : decode cX12_read 34 = .ok (.invokevirtual 232, 3) := by decide +kernel
theorem dX12_read_37 : decode cX12_read 37 = .ok (.ifCond .eq 11, 3) := by decide +kernel
theorem dX12_read_40 : decode cX12_read 40 = .ok (.aload_n 0, 1) := by decide +kernel
theorem dX12_read_41 : decode cX12_read 41 = .ok (.getfield 195, 3) := by decide +kernel
theorem dX12_read_44 : decode cX12_read 44 = .ok (.iconst 3, 1) := by decide +kernel
theorem dX12_read_45 : decode cX12_read 45 = .ok (.if_icmp .eq 11, 3) := by decide +kernel
theorem dX12_read_48 : decode cX12_read 48 = .ok (.bipush (-10), 2) := by decide +kernel
theorem dX12_read_50 : decode cX12_read 50 = .ok (.aload_n 0, 1) := by decide +kernel
theorem dX12_read_51 : decode cX12_read 51 = .ok (.getfield 189, 3) := by decide +kernel
theorem dX12_read_54 : decode cX12_read 54 = .ok (.isub, 1) := by decide +kernel
theorem dX12_read_55 : decode cX12_read 55 = .ok (.ireturn, 1) := by decide +kernel
theorem dX12_read_56 : decode cX12_read 56 = .ok (.aload_n 0, 1) := by decide +kernel
theorem dX12_read_57 : decode cX12_read 57 = .ok (.invokevirtual 211, 3) := by decide +kernel
theorem dX12_read_60 : decode cX12_read 60 = .ok (.iinc 1 1, 3) := by decide +kernel
theorem dX12_read_63 : decode cX12_read 63 = .ok (.goto (-37), 3) := by decide +kernel
theorem dX12_read_66 : decode cX12_read 66 = .ok (.iconst 0, 1) := by decide +kernel
theorem dX12_read_67 : decode cX12_read 67 = .ok (.istore_n 2, 1) := by decide +kernel
theorem dX12_read_68 : decode cX12_read 68 = .ok (.iload_n 2, 1) := by decide +kernel
theorem dX12_read_69 : decode cX12_read 69 = .ok (.bipush 68, 2) := by decide +kernel
theorem dX12_read_71 : decode cX12_read 71 = .ok (.if_icmp .ge 21, 3) := by decide +kernel
theorem dX12_read_74 : decode cX12_read 74 = .ok (.aload_n 0, 1) := by decide +kernel
theorem dX12_read_75 : decode cX12_read 75 = .ok (.getfield 7, 3) := by decide +kernel
theorem dX12_read_78 : decode cX12_read 78 = .ok (.iload_n 2, 1) := by decide +kernel
theorem dX12_read_79 : decode cX12_read 79 = .ok (.aload_n 0, 1) := by decide +kernel
theorem dX12_read_80 : decode cX12_read 80 = .ok (.getfield 36, 3) := by decide +kernel
theorem dX12_read_83 : decode cX12_read 83 = .ok (.iload_n 2, 1) := by decide +kernel
theorem dX12_read_84 : decode cX12_read 84 = .ok (.iaload, 1) := by decide +kernel
theorem dX12_read_85 : decode cX12_read 85 = .ok (.iastore, 1) := by decide +kernel
theorem dX12_read_86 : decode cX12_read 86 = .ok (.iinc 2 1, 3) := by decide +kernel
theorem dX12_read_89 : decode cX12_read 89 = .ok (.goto (-21), 3) := by decide +kernel
theorem dX12_read_92 : decode cX12_read 92 = .ok (.iload_n 1, 1) := by decide +kernel
theorem dX12_read_93 : decode cX12_read 93 = .ok (.ireturn, 1) := by decide +kernel
theorem dX12_part_0 : decode cX12_part 0 = .ok (.iload_n 1, 1) := by decide +kernel
theorem dX12_part_1 : decode cX12_part 1 = .ok (.ifCond .ne 10, 3) := by decide +kernel
theorem dX12_part_4 : decode cX12_part 4 = .ok (.aload_n 0, 1) := by decide +kernel
theorem dX12_part_5 : decode cX12_part 5 = .ok (.getfield 144, 3) := by decide +kernel
theorem dX12_part_8 : decode cX12_part 8 = .ok (.goto 22, 3) := by decide +kernel
theorem dX12_part_11 : decode cX12_part 11 = .ok (.iload_n 1, 1) := by decide +kernel
theorem dX12_part_12 : decode cX12_part 12 = .ok (.iconst 1, 1) := by decide +kernel
theorem dX12_part_13 : decode cX12_part 13 = .ok (.if_icmp .ne 10, 3) := by decide +kernel
theorem dX12_part_16 : decode cX12_part 16 = .ok (.aload_n 0, 1) := by decide +kernel
theorem dX12_part_17 : decode cX12_part 17 = .ok (.getfield 23, 3) := by decide +kernel
theorem dX12_part_20 : decode cX12_part 20 = .ok (.goto 10, 3) := by decide +kernel
theorem dX12_part_23 : decode cX12_part 23 = .ok (.aload_n 0, 1) := by decide +kernel
theorem dX12_part_24 : decode cX12_part 24 = .ok (.bipush (-2), 2) := by decide +kernel
theorem dX12_part_26 : decode cX12_part 26 = .ok (.invokevirtual 58, 3) := by decide +kernel
theorem dX12_part_29 : decode cX12_part 29 = .ok (.i2l, 1) := by decide +kernel
theorem dX12_part_30 : decode cX12_part 30 = .ok (.lreturn, 1) := by decide +kernel
theorem dX12_image_0 : decode cX12_image 0 = .ok (.iload_n 1, 1) := by decide +kernel
theorem dX12_image_1 : decode cX12_image 1 = .ok (.i2l, 1) := by decide +kernel
theorem dX12_image_2 : decode cX12_image 2 = .ok (.lconst 0, 1) := by decide +kernel
theorem dX12_image_3 : decode cX12_image 3 = .ok (.lconst 1, 1) := by decide +kernel
theorem dX12_image_4 : decode cX12_image 4 = .ok (.invokestatic 50, 3) := by decide +kernel
theorem dX12_image_7 : decode cX12_image 7 = .ok (.ifCond .ne 10, 3) := by decide +kernel
theorem dX12_image_10 : decode cX12_image 10 = .ok (.aload_n 0, 1) := by decide +kernel
theorem dX12_image_11 : decode cX12_image 11 = .ok (.bipush (-2), 2) := by decide +kernel
theorem dX12_image_13 : decode cX12_image 13 = .ok (.invokevirtual 58, 3) := by decide +kernel
theorem dX12_image_16 : decode cX12_image 16 = .ok (.ireturn, 1) := by decide +kernel
theorem dX12_image_17 : decode cX12_image 17 = .ok (.iconst 0, 1) := by decide +kernel
theorem dX12_image_18 : decode cX12_image 18 = .ok (.istore_n 2, 1) := by decide +kernel
theorem dX12_image_19 : decode cX12_image 19 = .ok (.iload_n 2, 1) := by decide +kernel
theorem dX12_image_20 : decode cX12_image 20 = .ok (.sipush 188, 3) := by decide +kernel
theorem dX12_image_23 : decode cX12_image 23 = .ok (.if_icmp .ge 27, 3) := by decide +kernel
theorem dX12_image_26 : decode cX12_image 26 = .ok (.aload_n 0, 1) := by decide +kernel
theorem dX12_image_27 : decode cX12_image 27 = .ok (.getfield 13, 3) := by decide +kernel
theorem dX12_image_30 : decode cX12_image 30 = .ok (.sipush 188, 3) := by decide +kernel
theorem dX12_image_33 : decode cX12_image 33 = .ok (.iload_n 1, 1) := by decide +kernel
theorem dX12_image_34 : decode cX12_image 34 = .ok (.imul, 1) := by decide +kernel
theorem dX12_image_35 : decode cX12_image 35 = .ok (.iload_n 2, 1) := by decide +kernel
theorem dX12_image_36 : decode cX12_image 36 = .ok (.iadd, 1) := by decide +kernel
theorem dX12_image_37 : decode cX12_image 37 = .ok (.aload_n 0, 1) := by decide +kernel
theorem dX12_image_38 : decode cX12_image 38 = .ok (.getfield 7, 3) := by decide +kernel
theorem dX12_image_41 : decode cX12_image 41 = .ok (.iload_n 2, 1) := by decide +kernel
theorem dX12_image_42 : decode cX12_image 42 = .ok (.iaload, 1) := by decide +kernel
theorem dX12_image_43 : decode cX12_image 43 = .ok (.iastore, 1) := by decide +kernel
theorem dX12_image_44 : decode cX12_image 44 = .ok (.iinc 2 1, 3) := by decide +kernel
theorem dX12_image_47 : decode cX12_image 47 = .ok (.goto (-28), 3) := by decide +kernel
theorem dX12_image_50 : decode cX12_image 50 = .ok (.aload_n 0, 1) := by decide +kernel
theorem dX12_image_51 : decode cX12_image 51 = .ok (.getfield 16, 3) := by decide +kernel
theorem dX12_image_54 : decode cX12_image 54 = .ok (.iload_n 1, 1) := by decide +kernel
theorem dX12_image_55 : decode cX12_image 55 = .ok (.iconst 1, 1) := by decide +kernel
theorem dX12_image_56 : decode cX12_image 56 = .ok (.bastore, 1) := by decide +kernel
theorem dX12_image_57 : decode cX12_image 57 = .ok (.iconst 1, 1) := by decide +kernel
theorem dX12_image_58 : decode cX12_image 58 = .ok (.ireturn, 1) := by decide +kernel
theorem dX12_from_0 : decode cX12_from 0 = .ok (.iload_n 1, 1) := by decide +kernel
theorem dX12_from_1 : decode cX12_from 1 = .ok (.i2l, 1) := by decide +kernel
theorem dX12_from_2 : decode cX12_from 2 = .ok (.lconst 0, 1) := by decide +kernel
theorem dX12_from_3 : decode cX12_from 3 = .ok (.lconst 1, 1) := by decide +kernel
theorem dX12_from_4 : decode cX12_from 4 = .ok (.invokestatic 50, 3) := by decide +kernel
theorem dX12_from_7 : decode cX12_from 7 = .ok (.ifCond .ne 10, 3) := by decide +kernel
theorem dX12_from_10 : decode cX12_from 10 = .ok (.aload_n 0, 1) := by decide +kernel
theorem dX12_from_11 : decode cX12_from 11 = .ok (.bipush (-2), 2) := by decide +kernel
theorem dX12_from_13 : decode cX12_from 13 = .ok (.invokevirtual 58, 3) := by decide +kernel
theorem dX12_from_16 : decode cX12_from 16 = .ok (.ireturn, 1) := by decide +kernel
theorem dX12_from_17 : decode cX12_from 17 = .ok (.aload_n 0, 1) := by decide +kernel
theorem dX12_from_18 : decode cX12_from 18 = .ok (.getfield 16, 3) := by decide +kernel
theorem dX12_from_21 : decode cX12_from 21 = .ok (.iload_n 1, 1) := by decide +kernel
theorem dX12_from_22 : decode cX12_from 22 = .ok (.baload, 1) := by decide +kernel
theorem dX12_from_23 : decode cX12_from 23 = .ok (.ifCond .ne 8, 3) := by decide +kernel
theorem dX12_from_26 : decode cX12_from 26 = .ok (.aload_n 0, 1) := by decide +kernel
theorem dX12_from_27 : decode cX12_from 27 = .ok (.invokevirtual 109, 3) := by decide +kernel
theorem dX12_from_30 : decode cX12_from 30 = .ok (.ireturn, 1) := by decide +kernel
theorem dX12_from_31 : decode cX12_from 31 = .ok (.iconst 0, 1) := by decide +kernel
theorem dX12_from_32 : decode cX12_from 32 = .ok (.istore_n 2, 1) := by decide +kernel
theorem dX12_from_33 : decode cX12_from 33 = .ok (.iload_n 2, 1) := by decide +kernel
theorem dX12_from_34 : decode cX12_from 34 = .ok (.sipush 188, 3) := by decide +kernel
theorem dX12_from_37 : decode cX12_from 37 = .ok (.if_icmp .ge 27, 3) := by decide +kernel
theorem dX12_from_40 : decode cX12_from 40 = .ok (.aload_n 0, 1) := by decide +kernel
theorem dX12_from_41 : decode cX12_from 41 = .ok (.getfield 7, 3) := by decide +kernel
theorem dX12_from_44 : decode cX12_from 44 = .ok (.iload_n 2, 1) := by decide +kernel
theorem dX12_from_45 : decode cX12_from 45 = .ok (.aload_n 0, 1) := by decide +kernel
theorem dX12_from_46 : decode cX12_from 46 = .ok (.getfield 13, 3) := by decide +kernel
theorem dX12_from_49 : decode cX12_from 49 = .ok (.sipush 188, 3) := by decide +kernel
theorem dX12_from_52 : decode cX12_from 52 = .ok (.iload_n 1, 1) := by decide +kernel
theorem dX12_from_53 : decode cX12_from 53 = .ok (.imul, 1) := by decide +kernel
theorem dX12_from_54 : decode cX12_from 54 = .ok (.iload_n 2, 1) := by decide +kernel
theorem dX12_from_55 : decode cX12_from 55 = .ok (.iadd, 1) := by decide +kernel
theorem dX12_from_56 : decode cX12_from 56 = .ok (.iaload, 1) := by decide +kernel
theorem dX12_from_57 : decode cX12_from 57 = .ok (.iastore, 1) := by decide +kernel
theorem dX12_from_58 : decode cX12_from 58 = .ok (.iinc 2 1, 3) := by decide +kernel
theorem dX12_from_61 : decode cX12_from 61 = .ok (.goto (-28), 3) := by decide +kernel
theorem dX12_from_64 : decode cX12_from 64 = .ok (.iconst 1, 1) := by decide +kernel
theorem dX12_from_65 : decode cX12_from 65 = .ok (.ireturn, 1) := by decide +kernel
theorem dX12_status_0 : decode cX12_status 0 = .ok (.iload_n 1, 1) := by decide +kernel
theorem dX12_status_1 : decode cX12_status 1 = .ok (.i2l, 1) := by decide +kernel
theorem dX12_status_2 : decode cX12_status 2 = .ok (.lconst 0, 1) := by decide +kernel
theorem dX12_status_3 : decode cX12_status 3 = .ok (.ldc2_w 112, 3) := by decide +kernel
theorem dX12_status_6 : decode cX12_status 6 = .ok (.invokestatic 50, 3) := by decide +kernel
theorem dX12_status_9 : decode cX12_status 9 = .ok (.ifCond .eq 12, 3) := by decide +kernel
theorem dX12_status_12 : decode cX12_status 12 = .ok (.aload_n 0, 1) := by decide +kernel
theorem dX12_status_13 : decode cX12_status 13 = .ok (.getfield 20, 3) := by decide +kernel
theorem dX12_status_16 : decode cX12_status 16 = .ok (.iload_n 1, 1) := by decide +kernel
theorem dX12_status_17 : decode cX12_status 17 = .ok (.iaload, 1) := by decide +kernel
theorem dX12_status_18 : decode cX12_status 18 = .ok (.goto 8, 3) := by decide +kernel
theorem dX12_status_21 : decode cX12_status 21 = .ok (.aload_n 0, 1) := by decide +kernel
theorem dX12_status_22 : decode cX12_status 22 = .ok (.iconst (-1), 1) := by decide +kernel
theorem dX12_status_23 : decode cX12_status 23 = .ok (.invokevirtual 58, 3) := by decide +kernel
theorem dX12_status_26 : decode cX12_status 26 = .ok (.ireturn, 1) := by decide +kernel
theorem dX12_counted_0 : decode cX12_counted 0 = .ok (.aload_n 0, 1) := by decide +kernel
theorem dX12_counted_1 : decode cX12_counted 1 = .ok (.invokevirtual 103, 3) := by decide +kernel
theorem dX12_counted_4 : decode cX12_counted 4 = .ok (.iload_n 1, 1) := by decide +kernel
theorem dX12_counted_5 : decode cX12_counted 5 = .ok (.tableswitch 77 0 5 #[39, 44, 51, 56, 63, 70], 39) := by decide +kernel
theorem dX12_counted_44 : decode cX12_counted 44 = .ok (.aload_n 0, 1) := by decide +kernel
theorem dX12_counted_45 : decode cX12_counted 45 = .ok (.invokevirtual 46, 3) := by decide +kernel
theorem dX12_counted_48 : decode cX12_counted 48 = .ok (.ireturn, 1) := by decide +kernel
theorem dX12_counted_49 : decode cX12_counted 49 = .ok (.aload_n 0, 1) := by decide +kernel
theorem dX12_counted_50 : decode cX12_counted 50 = .ok (.getfield 7, 3) := by decide +kernel
theorem dX12_counted_53 : decode cX12_counted 53 = .ok (.iconst 1, 1) := by decide +kernel
theorem dX12_counted_54 : decode cX12_counted 54 = .ok (.iaload, 1) := by decide +kernel
theorem dX12_counted_55 : decode cX12_counted 55 = .ok (.ireturn, 1) := by decide +kernel
theorem dX12_counted_56 : decode cX12_counted 56 = .ok (.aload_n 0, 1) := by decide +kernel
theorem dX12_counted_57 : decode cX12_counted 57 = .ok (.invokevirtual 130, 3) := by decide +kernel
theorem dX12_counted_60 : decode cX12_counted 60 = .ok (.ireturn, 1) := by decide +kernel
theorem dX12_counted_61 : decode cX12_counted 61 = .ok (.aload_n 0, 1) := by decide +kernel
theorem dX12_counted_62 : decode cX12_counted 62 = .ok (.getfield 7, 3) := by decide +kernel
theorem dX12_counted_65 : decode cX12_counted 65 = .ok (.iconst 2, 1) := by decide +kernel
theorem dX12_counted_66 : decode cX12_counted 66 = .ok (.iaload, 1) := by decide +kernel
theorem dX12_counted_67 : decode cX12_counted 67 = .ok (.ireturn, 1) := by decide +kernel
theorem dX12_counted_68 : decode cX12_counted 68 = .ok (.aload_n 0, 1) := by decide +kernel
theorem dX12_counted_69 : decode cX12_counted 69 = .ok (.getfield 7, 3) := by decide +kernel
theorem dX12_counted_72 : decode cX12_counted 72 = .ok (.iconst 3, 1) := by decide +kernel
theorem dX12_counted_73 : decode cX12_counted 73 = .ok (.iaload, 1) := by decide +kernel
theorem dX12_counted_74 : decode cX12_counted 74 = .ok (.ireturn, 1) := by decide +kernel
theorem dX12_counted_75 : decode cX12_counted 75 = .ok (.aload_n 0, 1) := by decide +kernel
theorem dX12_counted_76 : decode cX12_counted 76 = .ok (.getfield 7, 3) := by decide +kernel
theorem dX12_counted_79 : decode cX12_counted 79 = .ok (.iconst 4, 1) := by decide +kernel
theorem dX12_counted_80 : decode cX12_counted 80 = .ok (.iaload, 1) := by decide +kernel
theorem dX12_counted_81 : decode cX12_counted 81 = .ok (.ireturn, 1) := by decide +kernel
theorem dX12_counted_82 : decode cX12_counted 82 = .ok (.aload_n 0, 1) := by decide +kernel
theorem dX12_counted_83 : decode cX12_counted 83 = .ok (.getfield 178, 3) := by decide +kernel
theorem dX12_counted_86 : decode cX12_counted 86 = .ok (.ireturn, 1) := by decide +kernel
theorem dX12_count_0 : decode cX12_count 0 = .ok (.iload_n 1, 1) := by decide +kernel
theorem dX12_count_1 : decode cX12_count 1 = .ok (.i2l, 1) := by decide +kernel
theorem dX12_count_2 : decode cX12_count 2 = .ok (.lconst 0, 1) := by decide +kernel
theorem dX12_count_3 : decode cX12_count 3 = .ok (.ldc2_w 235, 3) := by decide +kernel
theorem dX12_count_6 : decode cX12_count 6 = .ok (.invokestatic 50, 3) := by decide +kernel
theorem dX12_count_9 : decode cX12_count 9 = .ok (.ifCond .eq 11, 3) := by decide +kernel
theorem dX12_count_12 : decode cX12_count 12 = .ok (.aload_n 0, 1) := by decide +kernel
theorem dX12_count_13 : decode cX12_count 13 = .ok (.iload_n 1, 1) := by decide +kernel
theorem dX12_count_14 : decode cX12_count 14 = .ok (.invokevirtual 237, 3) := by decide +kernel
theorem dX12_count_17 : decode cX12_count 17 = .ok (.goto 9, 3) := by decide +kernel
theorem dX12_count_20 : decode cX12_count 20 = .ok (.aload_n 0, 1) := by decide +kernel
theorem dX12_count_21 : decode cX12_count 21 = .ok (.bipush (-2), 2) := by decide +kernel
theorem dX12_count_23 : decode cX12_count 23 = .ok (.invokevirtual 58, 3) := by decide +kernel
theorem dX12_count_26 : decode cX12_count 26 = .ok (.ireturn, 1) := by decide +kernel
theorem dX12_sums_0 : decode cX12_sums 0 = .ok (.lload_n 1, 1) := by decide +kernel
theorem dX12_sums_1 : decode cX12_sums 1 = .ok (.lstore 5, 2) := by decide +kernel
theorem dX12_sums_3 : decode cX12_sums 3 = .ok (.iconst 0, 1) := by decide +kernel
theorem dX12_sums_4 : decode cX12_sums 4 = .ok (.istore 7, 2) := by decide +kernel
theorem dX12_sums_6 : decode cX12_sums 6 = .ok (.iload 7, 2) := by decide +kernel
theorem dX12_sums_8 : decode cX12_sums 8 = .ok (.iload 4, 2) := by decide +kernel
theorem dX12_sums_10 : decode cX12_sums 10 = .ok (.if_icmp .ge 28, 3) := by decide +kernel
theorem dX12_sums_13 : decode cX12_sums 13 = .ok (.ldc2_w 240, 3) := by decide +kernel
theorem dX12_sums_16 : decode cX12_sums 16 = .ok (.lload 5, 2) := by decide +kernel
theorem dX12_sums_18 : decode cX12_sums 18 = .ok (.lmul, 1) := by decide +kernel
theorem dX12_sums_19 : decode cX12_sums 19 = .ok (.aload_n 0, 1) := by decide +kernel
theorem dX12_sums_20 : decode cX12_sums 20 = .ok (.getfield 7, 3) := by decide +kernel
theorem dX12_sums_23 : decode cX12_sums 23 = .ok (.iload_n 3, 1) := by decide +kernel
theorem dX12_sums_24 : decode cX12_sums 24 = .ok (.iload 7, 2) := by decide +kernel
theorem dX12_sums_26 : decode cX12_sums 26 = .ok (.iadd, 1) := by decide +kernel
theorem dX12_sums_27 : decode cX12_sums 27 = .ok (.iaload, 1) := by decide +kernel
theorem dX12_sums_28 : decode cX12_sums 28 = .ok (.i2l, 1) := by decide +kernel
theorem dX12_sums_29 : decode cX12_sums 29 = .ok (.ladd, 1) := by decide +kernel
theorem dX12_sums_30 : decode cX12_sums 30 = .ok (.lstore 5, 2) := by decide +kernel
theorem dX12_sums_32 : decode cX12_sums 32 = .ok (.iinc 7 1, 3) := by decide +kernel
theorem dX12_sums_35 : decode cX12_sums 35 = .ok (.goto (-29), 3) := by decide +kernel
theorem dX12_sums_38 : decode cX12_sums 38 = .ok (.lload 5, 2) := by decide +kernel
theorem dX12_sums_40 : decode cX12_sums 40 = .ok (.lreturn, 1) := by decide +kernel
theorem dX12_digest_0 : decode cX12_digest 0 = .ok (.ldc2_w 242, 3) := by decide +kernel
theorem dX12_digest_3 : decode cX12_digest 3 = .ok (.lstore_n 1, 1) := by decide +kernel
theorem dX12_digest_4 : decode cX12_digest 4 = .ok (.iconst 0, 1) := by decide +kernel
theorem dX12_digest_5 : decode cX12_digest 5 = .ok (.istore_n 3, 1) := by decide +kernel
theorem dX12_digest_6 : decode cX12_digest 6 = .ok (.iload_n 3, 1) := by decide +kernel
theorem dX12_digest_7 : decode cX12_digest 7 = .ok (.bipush 7, 2) := by decide +kernel
theorem dX12_digest_9 : decode cX12_digest 9 = .ok (.if_icmp .ge 22, 3) := by decide +kernel
theorem dX12_digest_12 : decode cX12_digest 12 = .ok (.ldc2_w 240, 3) := by decide +kernel
theorem dX12_digest_15 : decode cX12_digest 15 = .ok (.lload_n 1, 1) := by decide +kernel
theorem dX12_digest_16 : decode cX12_digest 16 = .ok (.lmul, 1) := by decide +kernel
theorem dX12_digest_17 : decode cX12_digest 17 = .ok (.aload_n 0, 1) := by decide +kernel
theorem dX12_digest_18 : decode cX12_digest 18 = .ok (.iload_n 3, 1) := by decide +kernel
theorem dX12_digest_19 : decode cX12_digest 19 = .ok (.invokevirtual 237, 3) := by decide +kernel
theorem dX12_digest_22 : decode cX12_digest 22 = .ok (.i2l, 1) := by decide +kernel
theorem dX12_digest_23 : decode cX12_digest 23 = .ok (.ladd, 1) := by decide +kernel
theorem dX12_digest_24 : decode cX12_digest 24 = .ok (.lstore_n 1, 1) := by decide +kernel
theorem dX12_digest_25 : decode cX12_digest 25 = .ok (.iinc 3 1, 3) := by decide +kernel
theorem dX12_digest_28 : decode cX12_digest 28 = .ok (.goto (-22), 3) := by decide +kernel
theorem dX12_digest_31 : decode cX12_digest 31 = .ok (.iconst 0, 1) := by decide +kernel
theorem dX12_digest_32 : decode cX12_digest 32 = .ok (.istore_n 3, 1) := by decide +kernel
theorem dX12_digest_33 : decode cX12_digest 33 = .ok (.iload_n 3, 1) := by decide +kernel
theorem dX12_digest_34 : decode cX12_digest 34 = .ok (.aload_n 0, 1) := by decide +kernel
theorem dX12_digest_35 : decode cX12_digest 35 = .ok (.invokevirtual 46, 3) := by decide +kernel
theorem dX12_digest_38 : decode cX12_digest 38 = .ok (.if_icmp .ge 55, 3) := by decide +kernel
theorem dX12_digest_41 : decode cX12_digest 41 = .ok (.ldc2_w 240, 3) := by decide +kernel
theorem dX12_digest_44 : decode cX12_digest 44 = .ok (.ldc2_w 240, 3) := by decide +kernel
theorem dX12_digest_47 : decode cX12_digest 47 = .ok (.ldc2_w 240, 3) := by decide +kernel
theorem dX12_digest_50 : decode cX12_digest 50 = .ok (.lload_n 1, 1) := by decide +kernel
theorem dX12_digest_51 : decode cX12_digest 51 = .ok (.lmul, 1) := by decide +kernel
theorem dX12_digest_52 : decode cX12_digest 52 = .ok (.aload_n 0, 1) := by decide +kernel
theorem dX12_digest_53 : decode cX12_digest 53 = .ok (.getfield 7, 3) := by decide +kernel
theorem dX12_digest_56 : decode cX12_digest 56 = .ok (.bipush 19, 2) := by decide +kernel
theorem dX12_digest_58 : decode cX12_digest 58 = .ok (.iload_n 3, 1) := by decide +kernel
theorem dX12_digest_59 : decode cX12_digest 59 = .ok (.iadd, 1) := by decide +kernel
theorem dX12_digest_60 : decode cX12_digest 60 = .ok (.iaload, 1) := by decide +kernel
theorem dX12_digest_61 : decode cX12_digest 61 = .ok (.i2l, 1) := by decide +kernel
theorem dX12_digest_62 : decode cX12_digest 62 = .ok (.ladd, 1) := by decide +kernel
theorem dX12_digest_63 : decode cX12_digest 63 = .ok (.lmul, 1) := by decide +kernel
theorem dX12_digest_64 : decode cX12_digest 64 = .ok (.aload_n 0, 1) := by decide +kernel
theorem dX12_digest_65 : decode cX12_digest 65 = .ok (.getfield 7, 3) := by decide +kernel
theorem dX12_digest_68 : decode cX12_digest 68 = .ok (.bipush 12, 2) := by decide +kernel
theorem dX12_digest_70 : decode cX12_digest 70 = .ok (.iload_n 3, 1) := by decide +kernel
theorem dX12_digest_71 : decode cX12_digest 71 = .ok (.iadd, 1) := by decide +kernel
theorem dX12_digest_72 : decode cX12_digest 72 = .ok (.iaload, 1) := by decide +kernel
theorem dX12_digest_73 : decode cX12_digest 73 = .ok (.i2l, 1) := by decide +kernel
theorem dX12_digest_74 : decode cX12_digest 74 = .ok (.ladd, 1) := by decide +kernel
theorem dX12_digest_75 : decode cX12_digest 75 = .ok (.lmul, 1) := by decide +kernel
theorem dX12_digest_76 : decode cX12_digest 76 = .ok (.aload_n 0, 1) := by decide +kernel
theorem dX12_digest_77 : decode cX12_digest 77 = .ok (.getfield 7, 3) := by decide +kernel
theorem dX12_digest_80 : decode cX12_digest 80 = .ok (.iconst 5, 1) := by decide +kernel
theorem dX12_digest_81 : decode cX12_digest 81 = .ok (.iload_n 3, 1) := by decide +kernel
theorem dX12_digest_82 : decode cX12_digest 82 = .ok (.iadd, 1) := by decide +kernel
theorem dX12_digest_83 : decode cX12_digest 83 = .ok (.iaload, 1) := by decide +kernel
theorem dX12_digest_84 : decode cX12_digest 84 = .ok (.i2l, 1) := by decide +kernel
theorem dX12_digest_85 : decode cX12_digest 85 = .ok (.ladd, 1) := by decide +kernel
theorem dX12_digest_86 : decode cX12_digest 86 = .ok (.lstore_n 1, 1) := by decide +kernel
theorem dX12_digest_87 : decode cX12_digest 87 = .ok (.iinc 3 1, 3) := by decide +kernel
theorem dX12_digest_90 : decode cX12_digest 90 = .ok (.goto (-57), 3) := by decide +kernel
theorem dX12_digest_93 : decode cX12_digest 93 = .ok (.aload_n 0, 1) := by decide +kernel
theorem dX12_digest_94 : decode cX12_digest 94 = .ok (.lload_n 1, 1) := by decide +kernel
theorem dX12_digest_95 : decode cX12_digest 95 = .ok (.bipush 26, 2) := by decide +kernel
theorem dX12_digest_97 : decode cX12_digest 97 = .ok (.iconst 2, 1) := by decide +kernel
theorem dX12_digest_98 : decode cX12_digest 98 = .ok (.aload_n 0, 1) := by decide +kernel
theorem dX12_digest_99 : decode cX12_digest 99 = .ok (.getfield 7, 3) := by decide +kernel
theorem dX12_digest_102 : decode cX12_digest 102 = .ok (.iconst 2, 1) := by decide +kernel
theorem dX12_digest_103 : decode cX12_digest 103 = .ok (.iaload, 1) := by decide +kernel
theorem dX12_digest_104 : decode cX12_digest 104 = .ok (.imul, 1) := by decide +kernel
theorem dX12_digest_105 : decode cX12_digest 105 = .ok (.invokevirtual 244, 3) := by decide +kernel
theorem dX12_digest_108 : decode cX12_digest 108 = .ok (.lstore_n 1, 1) := by decide +kernel
theorem dX12_digest_109 : decode cX12_digest 109 = .ok (.aload_n 0, 1) := by decide +kernel
theorem dX12_digest_110 : decode cX12_digest 110 = .ok (.lload_n 1, 1) := by decide +kernel
theorem dX12_digest_111 : decode cX12_digest 111 = .ok (.bipush 38, 2) := by decide +kernel
theorem dX12_digest_113 : decode cX12_digest 113 = .ok (.iconst 5, 1) := by decide +kernel
theorem dX12_digest_114 : decode cX12_digest 114 = .ok (.aload_n 0, 1) := by decide +kernel
theorem dX12_digest_115 : decode cX12_digest 115 = .ok (.getfield 7, 3) := by decide +kernel
theorem dX12_digest_118 : decode cX12_digest 118 = .ok (.iconst 3, 1) := by decide +kernel
theorem dX12_digest_119 : decode cX12_digest 119 = .ok (.iaload, 1) := by decide +kernel
theorem dX12_digest_120 : decode cX12_digest 120 = .ok (.imul, 1) := by decide +kernel
theorem dX12_digest_121 : decode cX12_digest 121 = .ok (.invokevirtual 244, 3) := by decide +kernel
theorem dX12_digest_124 : decode cX12_digest 124 = .ok (.lstore_n 1, 1) := by decide +kernel
theorem dX12_digest_125 : decode cX12_digest 125 = .ok (.ldc2_w 240, 3) := by decide +kernel
theorem dX12_digest_128 : decode cX12_digest 128 = .ok (.ldc2_w 240, 3) := by decide +kernel
theorem dX12_digest_131 : decode cX12_digest 131 = .ok (.lload_n 1, 1) := by decide +kernel
theorem dX12_digest_132 : decode cX12_digest 132 = .ok (.lmul, 1) := by decide +kernel
theorem dX12_digest_133 : decode cX12_digest 133 = .ok (.aload_n 0, 1) := by decide +kernel
theorem dX12_digest_134 : decode cX12_digest 134 = .ok (.getfield 144, 3) := by decide +kernel
theorem dX12_digest_137 : decode cX12_digest 137 = .ok (.ladd, 1) := by decide +kernel
theorem dX12_digest_138 : decode cX12_digest 138 = .ok (.lmul, 1) := by decide +kernel
theorem dX12_digest_139 : decode cX12_digest 139 = .ok (.aload_n 0, 1) := by decide +kernel
theorem dX12_digest_140 : decode cX12_digest 140 = .ok (.getfield 23, 3) := by decide +kernel
theorem dX12_digest_143 : decode cX12_digest 143 = .ok (.ladd, 1) := by decide +kernel
theorem dX12_digest_144 : decode cX12_digest 144 = .ok (.lreturn, 1) := by decide +kernel
end
section
theorem dL_law_0 : decode cL_law 0 = .ok (.new 7, 3) := by decide +kernel
theorem dL_law_3 : decode cL_law 3 = .ok (.dup, 1) := by decide +kernel
theorem dL_law_4 : decode cL_law 4 = .ok (.invokespecial 9, 3) := by decide +kernel
theorem dL_law_7 : decode cL_law 7 = .ok (.astore_n 1, 1) := by decide +kernel
theorem dL_law_8 : decode cL_law 8 = .ok (.new 10, 3) := by decide +kernel
theorem dL_law_11 : decode cL_law 11 = .ok (.dup, 1) := by decide +kernel
theorem dL_law_12 : decode cL_law 12 = .ok (.invokespecial 12, 3) := by decide +kernel
theorem dL_law_15 : decode cL_law 15 = .ok (.astore_n 2, 1) := by decide +kernel
theorem dL_law_16 : decode cL_law 16 = .ok (.iconst 0, 1) := by decide +kernel
theorem dL_law_17 : decode cL_law 17 = .ok (.istore_n 3, 1) := by decide +kernel
theorem dL_law_18 : decode cL_law 18 = .ok (.iload_n 3, 1) := by decide +kernel
theorem dL_law_19 : decode cL_law 19 = .ok (.aload_n 0, 1) := by decide +kernel
theorem dL_law_20 : decode cL_law 20 = .ok (.arraylength, 1) := by decide +kernel
theorem dL_law_21 : decode cL_law 21 = .ok (.bipush 6, 2) := by decide +kernel
theorem dL_law_23 : decode cL_law 23 = .ok (.isub, 1) := by decide +kernel
theorem dL_law_24 : decode cL_law 24 = .ok (.if_icmp .gt 1053, 3) := by decide +kernel
theorem dL_law_27 : decode cL_law 27 = .ok (.aload_n 0, 1) := by decide +kernel
theorem dL_law_28 : decode cL_law 28 = .ok (.iload_n 3, 1) := by decide +kernel
theorem dL_law_29 : decode cL_law 29 = .ok (.iaload, 1) := by decide +kernel
theorem dL_law_30 : decode cL_law 30 = .ok (.bipush 63, 2) := by decide +kernel
theorem dL_law_32 : decode cL_law 32 = .ok (.iand, 1) := by decide +kernel
theorem dL_law_33 : decode cL_law 33 = .ok (.tableswitch 1038 0 32 #[147, 170, 203, 226, 239, 252, 285, 318, 331, 344, 377, 410, 433, 456, 499, 522, 545, 578, 601, 614, 667, 730, 753, 776, 799, 822, 875, 908, 932, 955, 978, 1001, 1024], 147) := by decide +kernel
theorem dL_law_180 : decode cL_law 180 = .ok (.aload_n 1, 1) := by decide +kernel
theorem dL_law_181 : decode cL_law 181 = .ok (.aload_n 0, 1) := by decide +kernel
theorem dL_law_182 : decode cL_law 182 = .ok (.iload_n 3, 1) := by decide +kernel
theorem dL_law_183 : decode cL_law 183 = .ok (.iconst 1, 1) := by decide +kernel
theorem dL_law_184 : decode cL_law 184 = .ok (.iadd, 1) := by decide +kernel
theorem dL_law_185 : decode cL_law 185 = .ok (.iaload, 1) := by decide +kernel
theorem dL_law_186 : decode cL_law 186 = .ok (.invokevirtual 13, 3) := by decide +kernel
theorem dL_law_189 : decode cL_law 189 = .ok (.aload_n 2, 1) := by decide +kernel
theorem dL_law_190 : decode cL_law 190 = .ok (.aload_n 0, 1) := by decide +kernel
theorem dL_law_191 : decode cL_law 191 = .ok (.iload_n 3, 1) := by decide +kernel
theorem dL_law_192 : decode cL_law 192 = .ok (.iconst 1, 1) := by decide +kernel
theorem dL_law_193 : decode cL_law 193 = .ok (.iadd, 1) := by decide +kernel
theorem dL_law_194 : decode cL_law 194 = .ok (.iaload, 1) := by decide +kernel
theorem dL_law_195 : decode cL_law 195 = .ok (.invokevirtual 17, 3) := by decide +kernel
theorem dL_law_198 : decode cL_law 198 = .ok (.if_icmp .eq 873, 3) := by decide +kernel
theorem dL_law_201 : decode cL_law 201 = .ok (.iconst 0, 1) := by decide +kernel
theorem dL_law_202 : decode cL_law 202 = .ok (.ireturn, 1) := by decide +kernel
theorem dL_law_203 : decode cL_law 203 = .ok (.aload_n 1, 1) := by decide +kernel
theorem dL_law_204 : decode cL_law 204 = .ok (.aload_n 0, 1) := by decide +kernel
theorem dL_law_205 : decode cL_law 205 = .ok (.iload_n 3, 1) := by decide +kernel
theorem dL_law_206 : decode cL_law 206 = .ok (.iconst 1, 1) := by decide +kernel
theorem dL_law_207 : decode cL_law 207 = .ok (.iadd, 1) := by decide +kernel
theorem dL_law_208 : decode cL_law 208 = .ok (.iaload, 1) := by decide +kernel
theorem dL_law_209 : decode cL_law 209 = .ok (.aload_n 0, 1) := by decide +kernel
theorem dL_law_210 : decode cL_law 210 = .ok (.iload_n 3, 1) := by decide +kernel
theorem dL_law_211 : decode cL_law 211 = .ok (.iconst 2, 1) := by decide +kernel
theorem dL_law_212 : decode cL_law 212 = .ok (.iadd, 1) := by decide +kernel
theorem dL_law_213 : decode cL_law 213 = .ok (.iaload, 1) := by decide +kernel
theorem dL_law_214 : decode cL_law 214 = .ok (.invokevirtual 18, 3) := by decide +kernel
theorem dL_law_217 : decode cL_law 217 = .ok (.aload_n 2, 1) := by decide +kernel
theorem dL_law_218 : decode cL_law 218 = .ok (.aload_n 0, 1) := by decide +kernel
theorem dL_law_219 : decode cL_law 219 = .ok (.iload_n 3, 1) := by decide +kernel
theorem dL_law_220 : decode cL_law 220 = .ok (.iconst 1, 1) := by decide +kernel
theorem dL_law_221 : decode cL_law 221 = .ok (.iadd, 1) := by decide +kernel
theorem dL_law_222 : decode cL_law 222 = .ok (.iaload, 1) := by decide +kernel
theorem dL_law_223 : decode cL_law 223 = .ok (.aload_n 0, 1) := by decide +kernel
theorem dL_law_224 : decode cL_law 224 = .ok (.iload_n 3, 1) := by decide +kernel
theorem dL_law_225 : decode cL_law 225 = .ok (.iconst 2, 1) := by decide +kernel
theorem dL_law_226 : decode cL_law 226 = .ok (.iadd, 1) := by decide +kernel
theorem dL_law_227 : decode cL_law 227 = .ok (.iaload, 1) := by decide +kernel
theorem dL_law_228 : decode cL_law 228 = .ok (.invokevirtual 22, 3) := by decide +kernel
theorem dL_law_231 : decode cL_law 231 = .ok (.if_icmp .eq 840, 3) := by decide +kernel
theorem dL_law_234 : decode cL_law 234 = .ok (.iconst 0, 1) := by decide +kernel
theorem dL_law_235 : decode cL_law 235 = .ok (.ireturn, 1) := by decide +kernel
theorem dL_law_236 : decode cL_law 236 = .ok (.aload_n 1, 1) := by decide +kernel
theorem dL_law_237 : decode cL_law 237 = .ok (.aload_n 0, 1) := by decide +kernel
theorem dL_law_238 : decode cL_law 238 = .ok (.iload_n 3, 1) := by decide +kernel
theorem dL_law_239 : decode cL_law 239 = .ok (.iconst 1, 1) := by decide +kernel
theorem dL_law_240 : decode cL_law 240 = .ok (.iadd, 1) := by decide +kernel
theorem dL_law_241 : decode cL_law 241 = .ok (.iaload, 1) := by decide +kernel
theorem dL_law_242 : decode cL_law 242 = .ok (.invokevirtual 23, 3) := by decide +kernel
theorem dL_law_245 : decode cL_law 245 = .ok (.aload_n 2, 1) := by decide +kernel
theorem dL_law_246 : decode cL_law 246 = .ok (.aload_n 0, 1) := by decide +kernel
theorem dL_law_247 : decode cL_law 247 = .ok (.iload_n 3, 1) := by decide +kernel
theorem dL_law_248 : decode cL_law 248 = .ok (.iconst 1, 1) := by decide +kernel
theorem dL_law_249 : decode cL_law 249 = .ok (.iadd, 1) := by decide +kernel
theorem dL_law_250 : decode cL_law 250 = .ok (.iaload, 1) := by decide +kernel
theorem dL_law_251 : decode cL_law 251 = .ok (.invokevirtual 26, 3) := by decide +kernel
theorem dL_law_254 : decode cL_law 254 = .ok (.if_icmp .eq 817, 3) := by decide +kernel
theorem dL_law_257 : decode cL_law 257 = .ok (.iconst 0, 1) := by decide +kernel
theorem dL_law_258 : decode cL_law 258 = .ok (.ireturn, 1) := by decide +kernel
theorem dL_law_259 : decode cL_law 259 = .ok (.aload_n 1, 1) := by decide +kernel
theorem dL_law_260 : decode cL_law 260 = .ok (.invokevirtual 27, 3) := by decide +kernel
theorem dL_law_263 : decode cL_law 263 = .ok (.aload_n 2, 1) := by decide +kernel
theorem dL_law_264 : decode cL_law 264 = .ok (.invokevirtual 31, 3) := by decide +kernel
theorem dL_law_267 : decode cL_law 267 = .ok (.if_icmp .eq 804, 3) := by decide +kernel
theorem dL_law_270 : decode cL_law 270 = .ok (.iconst 0, 1) := by decide +kernel
theorem dL_law_271 : decode cL_law 271 = .ok (.ireturn, 1) := by decide +kernel
theorem dL_law_272 : decode cL_law 272 = .ok (.aload_n 1, 1) := by decide +kernel
theorem dL_law_273 : decode cL_law 273 = .ok (.invokevirtual 32, 3) := by decide +kernel
theorem dL_law_276 : decode cL_law 276 = .ok (.aload_n 2, 1) := by decide +kernel
theorem dL_law_277 : decode cL_law 277 = .ok (.invokevirtual 35, 3) := by decide +kernel
theorem dL_law_280 : decode cL_law 280 = .ok (.if_icmp .eq 791, 3) := by decide +kernel
theorem dL_law_283 : decode cL_law 283 = .ok (.iconst 0, 1) := by decide +kernel
theorem dL_law_284 : decode cL_law 284 = .ok (.ireturn, 1) := by decide +kernel
theorem dL_law_285 : decode cL_law 285 = .ok (.aload_n 1, 1) := by decide +kernel
theorem dL_law_286 : decode cL_law 286 = .ok (.aload_n 0, 1) := by decide +kernel
theorem dL_law_287 : decode cL_law 287 = .ok (.iload_n 3, 1) := by decide +kernel
theorem dL_law_288 : decode cL_law 288 = .ok (.iconst 1, 1) := by decide +kernel
theorem dL_law_289 : decode cL_law 289 = .ok (.iadd, 1) := by decide +kernel
theorem dL_law_290 : decode cL_law 290 = .ok (.iaload, 1) := by decide +kernel
theorem dL_law_291 : decode cL_law 291 = .ok (.aload_n 0, 1) := by decide +kernel
theorem dL_law_292 : decode cL_law 292 = .ok (.iload_n 3, 1) := by decide +kernel
theorem dL_law_293 : decode cL_law 293 = .ok (.iconst 2, 1) := by decide +kernel
theorem dL_law_294 : decode cL_law 294 = .ok (.iadd, 1) := by decide +kernel
theorem dL_law_295 : decode cL_law 295 = .ok (.iaload, 1) := by decide +kernel
theorem dL_law_296 : decode cL_law 296 = .ok (.invokevirtual 36, 3) := by decide +kernel
theorem dL_law_299 : decode cL_law 299 = .ok (.aload_n 2, 1) := by decide +kernel
theorem dL_law_300 : decode cL_law 300 = .ok (.aload_n 0, 1) := by decide +kernel
theorem dL_law_301 : decode cL_law 301 = .ok (.iload_n 3, 1) := by decide +kernel
theorem dL_law_302 : decode cL_law 302 = .ok (.iconst 1, 1) := by decide +kernel
theorem dL_law_303 : decode cL_law 303 = .ok (.iadd, 1) := by decide +kernel
theorem dL_law_304 : decode cL_law 304 = .ok (.iaload, 1) := by decide +kernel
theorem dL_law_305 : decode cL_law 305 = .ok (.aload_n 0, 1) := by decide +kernel
theorem dL_law_306 : decode cL_law 306 = .ok (.iload_n 3, 1) := by decide +kernel
theorem dL_law_307 : decode cL_law 307 = .ok (.iconst 2, 1) := by decide +kernel
theorem dL_law_308 : decode cL_law 308 = .ok (.iadd, 1) := by decide +kernel
theorem dL_law_309 : decode cL_law 309 = .ok (.iaload, 1) := by decide +kernel
theorem dL_law_310 : decode cL_law 310 = .ok (.invokevirtual 39, 3) := by decide +kernel
theorem dL_law_313 : decode cL_law 313 = .ok (.if_icmp .eq 758, 3) := by decide +kernel
theorem dL_law_316 : decode cL_law 316 = .ok (.iconst 0, 1) := by decide +kernel
theorem dL_law_317 : decode cL_law 317 = .ok (.ireturn, 1) := by decide +kernel
theorem dL_law_318 : decode cL_law 318 = .ok (.aload_n 1, 1) := by decide +kernel
theorem dL_law_319 : decode cL_law 319 = .ok (.aload_n 0, 1) := by decide +kernel
theorem dL_law_320 : decode cL_law 320 = .ok (.iload_n 3, 1) := by decide +kernel
theorem dL_law_321 : decode cL_law 321 = .ok (.iconst 1, 1) := by decide +kernel
theorem dL_law_322 : decode cL_law 322 = .ok (.iadd, 1) := by decide +kernel
theorem dL_law_323 : decode cL_law 323 = .ok (.iaload, 1) := by decide +kernel
theorem dL_law_324 : decode cL_law 324 = .ok (.aload_n 0, 1) := by decide +kernel
theorem dL_law_325 : decode cL_law 325 = .ok (.iload_n 3, 1) := by decide +kernel
theorem dL_law_326 : decode cL_law 326 = .ok (.iconst 2, 1) := by decide +kernel
theorem dL_law_327 : decode cL_law 327 = .ok (.iadd, 1) := by decide +kernel
theorem dL_law_328 : decode cL_law 328 = .ok (.iaload, 1) := by decide +kernel
theorem dL_law_329 : decode cL_law 329 = .ok (.invokevirtual 40, 3) := by decide +kernel
theorem dL_law_332 : decode cL_law 332 = .ok (.aload_n 2, 1) := by decide +kernel
theorem dL_law_333 : decode cL_law 333 = .ok (.aload_n 0, 1) := by decide +kernel
theorem dL_law_334 : decode cL_law 334 = .ok (.iload_n 3, 1) := by decide +kernel
theorem dL_law_335 : decode cL_law 335 = .ok (.iconst 1, 1) := by decide +kernel
theorem dL_law_336 : decode cL_law 336 = .ok (.iadd, 1) := by decide +kernel
theorem dL_law_337 : decode cL_law 337 = .ok (.iaload, 1) := by decide +kernel
theorem dL_law_338 : decode cL_law 338 = .ok (.aload_n 0, 1) := by decide +kernel
theorem dL_law_339 : decode cL_law 339 = .ok (.iload_n 3, 1) := by decide +kernel
theorem dL_law_340 : decode cL_law 340 = .ok (.iconst 2, 1) := by decide +kernel
theorem dL_law_341 : decode cL_law 341 = .ok (.iadd, 1) := by decide +kernel
theorem dL_law_342 : decode cL_law 342 = .ok (.iaload, 1) := by decide +kernel
theorem dL_law_343 : decode cL_law 343 = .ok (.invokevirtual 43, 3) := by decide +kernel
theorem dL_law_346 : decode cL_law 346 = .ok (.if_icmp .eq 725, 3) := by decide +kernel
theorem dL_law_349 : decode cL_law 349 = .ok (.iconst 0, 1) := by decide +kernel
theorem dL_law_350 : decode cL_law 350 = .ok (.ireturn, 1) := by decide +kernel
theorem dL_law_351 : decode cL_law 351 = .ok (.aload_n 1, 1) := by decide +kernel
theorem dL_law_352 : decode cL_law 352 = .ok (.invokevirtual 44, 3) := by decide +kernel
theorem dL_law_355 : decode cL_law 355 = .ok (.aload_n 2, 1) := by decide +kernel
theorem dL_law_356 : decode cL_law 356 = .ok (.invokevirtual 47, 3) := by decide +kernel
theorem dL_law_359 : decode cL_law 359 = .ok (.if_icmp .eq 712, 3) := by decide +kernel
theorem dL_law_362 : decode cL_law 362 = .ok (.iconst 0, 1) := by decide +kernel
theorem dL_law_363 : decode cL_law 363 = .ok (.ireturn, 1) := by decide +kernel
theorem dL_law_364 : decode cL_law 364 = .ok (.aload_n 1, 1) := by decide +kernel
theorem dL_law_365 : decode cL_law 365 = .ok (.invokevirtual 48, 3) := by decide +kernel
theorem dL_law_368 : decode cL_law 368 = .ok (.aload_n 2, 1) := by decide +kernel
theorem dL_law_369 : decode cL_law 369 = .ok (.invokevirtual 51, 3) := by decide +kernel
theorem dL_law_372 : decode cL_law 372 = .ok (.if_icmp .eq 699, 3) := by decide +kernel
theorem dL_law_375 : decode cL_law 375 = .ok (.iconst 0, 1) := by decide +kernel
theorem dL_law_376 : decode cL_law 376 = .ok (.ireturn, 1) := by decide +kernel
theorem dL_law_377 : decode cL_law 377 = .ok (.aload_n 1, 1) := by decide +kernel
theorem dL_law_378 : decode cL_law 378 = .ok (.aload_n 0, 1) := by decide +kernel
theorem dL_law_379 : decode cL_law 379 = .ok (.iload_n 3, 1) := by decide +kernel
theorem dL_law_380 : decode cL_law 380 = .ok (.iconst 1, 1) := by decide +kernel
theorem dL_law_381 : decode cL_law 381 = .ok (.iadd, 1) := by decide +kernel
theorem dL_law_382 : decode cL_law 382 = .ok (.iaload, 1) := by decide +kernel
theorem dL_law_383 : decode cL_law 383 = .ok (.aload_n 0, 1) := by decide +kernel
theorem dL_law_384 : decode cL_law 384 = .ok (.iload_n 3, 1) := by decide +kernel
theorem dL_law_385 : decode cL_law 385 = .ok (.iconst 2, 1) := by decide +kernel
theorem dL_law_386 : decode cL_law 386 = .ok (.iadd, 1) := by decide +kernel
theorem dL_law_387 : decode cL_law 387 = .ok (.iaload, 1) := by decide +kernel
theorem dL_law_388 : decode cL_law 388 = .ok (.invokevirtual 52, 3) := by decide +kernel
theorem dL_law_391 : decode cL_law 391 = .ok (.aload_n 2, 1) := by decide +kernel
theorem dL_law_392 : decode cL_law 392 = .ok (.aload_n 0, 1) := by decide +kernel
theorem dL_law_393 : decode cL_law 393 = .ok (.iload_n 3, 1) := by decide +kernel
theorem dL_law_394 : decode cL_law 394 = .ok (.iconst 1, 1) := by decide +kernel
theorem dL_law_395 : decode cL_law 395 = .ok (.iadd, 1) := by decide +kernel
theorem dL_law_396 : decode cL_law 396 = .ok (.iaload, 1) := by decide +kernel
theorem dL_law_397 : decode cL_law 397 = .ok (.aload_n 0, 1) := by decide +kernel
theorem dL_law_398 : decode cL_law 398 = .ok (.iload_n 3, 1) := by decide +kernel
theorem dL_law_399 : decode cL_law 399 = .ok (.iconst 2, 1) := by decide +kernel
theorem dL_law_400 : decode cL_law 400 = .ok (.iadd, 1) := by decide +kernel
theorem dL_law_401 : decode cL_law 401 = .ok (.iaload, 1) := by decide +kernel
theorem dL_law_402 : decode cL_law 402 = .ok (.invokevirtual 55, 3) := by decide +kernel
theorem dL_law_405 : decode cL_law 405 = .ok (.if_icmp .eq 666, 3) := by decide +kernel
theorem dL_law_408 : decode cL_law 408 = .ok (.iconst 0, 1) := by decide +kernel
theorem dL_law_409 : decode cL_law 409 = .ok (.ireturn, 1) := by decide +kernel
theorem dL_law_410 : decode cL_law 410 = .ok (.aload_n 1, 1) := by decide +kernel
theorem dL_law_411 : decode cL_law 411 = .ok (.aload_n 0, 1) := by decide +kernel
theorem dL_law_412 : decode cL_law 412 = .ok (.iload_n 3, 1) := by decide +kernel
theorem dL_law_413 : decode cL_law 413 = .ok (.iconst 1, 1) := by decide +kernel
theorem dL_law_414 : decode cL_law 414 = .ok (.iadd, 1) := by decide +kernel
theorem dL_law_415 : decode cL_law 415 = .ok (.iaload, 1) := by decide +kernel
theorem dL_law_416 : decode cL_law 416 = .ok (.aload_n 0, 1) := by decide +kernel
theorem dL_law_417 : decode cL_law 417 = .ok (.iload_n 3, 1) := by decide +kernel
theorem dL_law_418 : decode cL_law 418 = .ok (.iconst 2, 1) := by decide +kernel
theorem dL_law_419 : decode cL_law 419 = .ok (.iadd, 1) := by decide +kernel
theorem dL_law_420 : decode cL_law 420 = .ok (.iaload, 1) := by decide +kernel
theorem dL_law_421 : decode cL_law 421 = .ok (.invokevirtual 56, 3) := by decide +kernel
theorem dL_law_424 : decode cL_law 424 = .ok (.aload_n 2, 1) := by decide +kernel
theorem dL_law_425 : decode cL_law 425 = .ok (.aload_n 0, 1) := by decide +kernel
theorem dL_law_426 : decode cL_law 426 = .ok (.iload_n 3, 1) := by decide +kernel
theorem dL_law_427 : decode cL_law 427 = .ok (.iconst 1, 1) := by decide +kernel
theorem dL_law_428 : decode cL_law 428 = .ok (.iadd, 1) := by decide +kernel
theorem dL_law_429 : decode cL_law 429 = .ok (.iaload, 1) := by decide +kernel
theorem dL_law_430 : decode cL_law 430 = .ok (.aload_n 0, 1) := by decide +kernel
theorem dL_law_431 : decode cL_law 431 = .ok (.iload_n 3, 1) := by decide +kernel
theorem dL_law_432 : decode cL_law 432 = .ok (.iconst 2, 1) := by decide +kernel
theorem dL_law_433 : decode cL_law 433 = .ok (.iadd, 1) := by decide +kernel
theorem dL_law_434 : decode cL_law 434 = .ok (.iaload, 1) := by decide +kernel
theorem dL_law_435 : decode cL_law 435 = .ok (.invokevirtual 59, 3) := by decide +kernel
theorem dL_law_438 : decode cL_law 438 = .ok (.if_icmp .eq 633, 3) := by decide +kernel
theorem dL_law_441 : decode cL_law 441 = .ok (.iconst 0, 1) := by decide +kernel
theorem dL_law_442 : decode cL_law 442 = .ok (.ireturn, 1) := by decide +kernel
theorem dL_law_443 : decode cL_law 443 = .ok (.aload_n 1, 1) := by decide +kernel
theorem dL_law_444 : decode cL_law 444 = .ok (.aload_n 0, 1) := by decide +kernel
theorem dL_law_445 : decode cL_law 445 = .ok (.iload_n 3, 1) := by decide +kernel
theorem dL_law_446 : decode cL_law 446 = .ok (.iconst 1, 1) := by decide +kernel
theorem dL_law_447 : decode cL_law 447 = .ok (.iadd, 1) := by decide +kernel
theorem dL_law_448 : decode cL_law 448 = .ok (.iaload, 1) := by decide +kernel
theorem dL_law_449 : decode cL_law 449 = .ok (.invokevirtual 60, 3) := by decide +kernel
theorem dL_law_452 : decode cL_law 452 = .ok (.aload_n 2, 1) := by decide +kernel
theorem dL_law_453 : decode cL_law 453 = .ok (.aload_n 0, 1) := by decide +kernel
theorem dL_law_454 : decode cL_law 454 = .ok (.iload_n 3, 1) := by decide +kernel
theorem dL_law_455 : decode cL_law 455 = .ok (.iconst 1, 1) := by decide +kernel
theorem dL_law_456 : decode cL_law 456 = .ok (.iadd, 1) := by decide +kernel
theorem dL_law_457 : decode cL_law 457 = .ok (.iaload, 1) := by decide +kernel
theorem dL_law_458 : decode cL_law 458 = .ok (.invokevirtual 63, 3) := by decide +kernel
theorem dL_law_461 : decode cL_law 461 = .ok (.if_icmp .eq 610, 3) := by decide +kernel
theorem dL_law_464 : decode cL_law 464 = .ok (.iconst 0, 1) := by decide +kernel
theorem dL_law_465 : decode cL_law 465 = .ok (.ireturn, 1) := by decide +kernel
theorem dL_law_466 : decode cL_law 466 = .ok (.aload_n 1, 1) := by decide +kernel
theorem dL_law_467 : decode cL_law 467 = .ok (.aload_n 0, 1) := by decide +kernel
theorem dL_law_468 : decode cL_law 468 = .ok (.iload_n 3, 1) := by decide +kernel
theorem dL_law_469 : decode cL_law 469 = .ok (.iconst 1, 1) := by decide +kernel
theorem dL_law_470 : decode cL_law 470 = .ok (.iadd, 1) := by decide +kernel
theorem dL_law_471 : decode cL_law 471 = .ok (.iaload, 1) := by decide +kernel
theorem dL_law_472 : decode cL_law 472 = .ok (.invokevirtual 64, 3) := by decide +kernel
theorem dL_law_475 : decode cL_law 475 = .ok (.aload_n 2, 1) := by decide +kernel
theorem dL_law_476 : decode cL_law 476 = .ok (.aload_n 0, 1) := by decide +kernel
theorem dL_law_477 : decode cL_law 477 = .ok (.iload_n 3, 1) := by decide +kernel
theorem dL_law_478 : decode cL_law 478 = .ok (.iconst 1, 1) := by decide +kernel
theorem dL_law_479 : decode cL_law 479 = .ok (.iadd, 1) := by decide +kernel
theorem dL_law_480 : decode cL_law 480 = .ok (.iaload, 1) := by decide +kernel
theorem dL_law_481 : decode cL_law 481 = .ok (.invokevirtual 67, 3) := by decide +kernel
theorem dL_law_484 : decode cL_law 484 = .ok (.if_icmp .eq 587, 3) := by decide +kernel
theorem dL_law_487 : decode cL_law 487 = .ok (.iconst 0, 1) := by decide +kernel
theorem dL_law_488 : decode cL_law 488 = .ok (.ireturn, 1) := by decide +kernel
theorem dL_law_489 : decode cL_law 489 = .ok (.aload_n 1, 1) := by decide +kernel
theorem dL_law_490 : decode cL_law 490 = .ok (.aload_n 0, 1) := by decide +kernel
theorem dL_law_491 : decode cL_law 491 = .ok (.iload_n 3, 1) := by decide +kernel
theorem dL_law_492 : decode cL_law 492 = .ok (.iconst 1, 1) := by decide +kernel
theorem dL_law_493 : decode cL_law 493 = .ok (.iadd, 1) := by decide +kernel
theorem dL_law_494 : decode cL_law 494 = .ok (.iaload, 1) := by decide +kernel
theorem dL_law_495 : decode cL_law 495 = .ok (.aload_n 0, 1) := by decide +kernel
theorem dL_law_496 : decode cL_law 496 = .ok (.iload_n 3, 1) := by decide +kernel
theorem dL_law_497 : decode cL_law 497 = .ok (.iconst 2, 1) := by decide +kernel
theorem dL_law_498 : decode cL_law 498 = .ok (.iadd, 1) := by decide +kernel
theorem dL_law_499 : decode cL_law 499 = .ok (.iaload, 1) := by decide +kernel
theorem dL_law_500 : decode cL_law 500 = .ok (.aload_n 0, 1) := by decide +kernel
theorem dL_law_501 : decode cL_law 501 = .ok (.iload_n 3, 1) := by decide +kernel
theorem dL_law_502 : decode cL_law 502 = .ok (.iconst 3, 1) := by decide +kernel
theorem dL_law_503 : decode cL_law 503 = .ok (.iadd, 1) := by decide +kernel
theorem dL_law_504 : decode cL_law 504 = .ok (.iaload, 1) := by decide +kernel
theorem dL_law_505 : decode cL_law 505 = .ok (.invokevirtual 68, 3) := by decide +kernel
theorem dL_law_508 : decode cL_law 508 = .ok (.aload_n 2, 1) := by decide +kernel
theorem dL_law_509 : decode cL_law 509 = .ok (.aload_n 0, 1) := by decide +kernel
theorem dL_law_510 : decode cL_law 510 = .ok (.iload_n 3, 1) := by decide +kernel
theorem dL_law_511 : decode cL_law 511 = .ok (.iconst 1, 1) := by decide +kernel
theorem dL_law_512 : decode cL_law 512 = .ok (.iadd, 1) := by decide +kernel
theorem dL_law_513 : decode cL_law 513 = .ok (.iaload, 1) := by decide +kernel
theorem dL_law_514 : decode cL_law 514 = .ok (.aload_n 0, 1) := by decide +kernel
theorem dL_law_515 : decode cL_law 515 = .ok (.iload_n 3, 1) := by decide +kernel
theorem dL_law_516 : decode cL_law 516 = .ok (.iconst 2, 1) := by decide +kernel
theorem dL_law_517 : decode cL_law 517 = .ok (.iadd, 1) := by decide +kernel
theorem dL_law_518 : decode cL_law 518 = .ok (.iaload, 1) := by decide +kernel
theorem dL_law_519 : decode cL_law 519 = .ok (.aload_n 0, 1) := by decide +kernel
theorem dL_law_520 : decode cL_law 520 = .ok (.iload_n 3, 1) := by decide +kernel
theorem dL_law_521 : decode cL_law 521 = .ok (.iconst 3, 1) := by decide +kernel
theorem dL_law_522 : decode cL_law 522 = .ok (.iadd, 1) := by decide +kernel
theorem dL_law_523 : decode cL_law 523 = .ok (.iaload, 1) := by decide +kernel
theorem dL_law_524 : decode cL_law 524 = .ok (.invokevirtual 72, 3) := by decide +kernel
theorem dL_law_527 : decode cL_law 527 = .ok (.if_icmp .eq 544, 3) := by decide +kernel
theorem dL_law_530 : decode cL_law 530 = .ok (.iconst 0, 1) := by decide +kernel
theorem dL_law_531 : decode cL_law 531 = .ok (.ireturn, 1) := by decide +kernel
theorem dL_law_532 : decode cL_law 532 = .ok (.aload_n 1, 1) := by decide +kernel
theorem dL_law_533 : decode cL_law 533 = .ok (.aload_n 0, 1) := by decide +kernel
theorem dL_law_534 : decode cL_law 534 = .ok (.iload_n 3, 1) := by decide +kernel
theorem dL_law_535 : decode cL_law 535 = .ok (.iconst 1, 1) := by decide +kernel
theorem dL_law_536 : decode cL_law 536 = .ok (.iadd, 1) := by decide +kernel
theorem dL_law_537 : decode cL_law 537 = .ok (.iaload, 1) := by decide +kernel
theorem dL_law_538 : decode cL_law 538 = .ok (.invokevirtual 73, 3) := by decide +kernel
theorem dL_law_541 : decode cL_law 541 = .ok (.aload_n 2, 1) := by decide +kernel
theorem dL_law_542 : decode cL_law 542 = .ok (.aload_n 0, 1) := by decide +kernel
theorem dL_law_543 : decode cL_law 543 = .ok (.iload_n 3, 1) := by decide +kernel
theorem dL_law_544 : decode cL_law 544 = .ok (.iconst 1, 1) := by decide +kernel
theorem dL_law_545 : decode cL_law 545 = .ok (.iadd, 1) := by decide +kernel
theorem dL_law_546 : decode cL_law 546 = .ok (.iaload, 1) := by decide +kernel
theorem dL_law_547 : decode cL_law 547 = .ok (.invokevirtual 76, 3) := by decide +kernel
theorem dL_law_550 : decode cL_law 550 = .ok (.if_icmp .eq 521, 3) := by decide +kernel
theorem dL_law_553 : decode cL_law 553 = .ok (.iconst 0, 1) := by decide +kernel
theorem dL_law_554 : decode cL_law 554 = .ok (.ireturn, 1) := by decide +kernel
theorem dL_law_555 : decode cL_law 555 = .ok (.aload_n 1, 1) := by decide +kernel
theorem dL_law_556 : decode cL_law 556 = .ok (.aload_n 0, 1) := by decide +kernel
theorem dL_law_557 : decode cL_law 557 = .ok (.iload_n 3, 1) := by decide +kernel
theorem dL_law_558 : decode cL_law 558 = .ok (.iconst 1, 1) := by decide +kernel
theorem dL_law_559 : decode cL_law 559 = .ok (.iadd, 1) := by decide +kernel
theorem dL_law_560 : decode cL_law 560 = .ok (.iaload, 1) := by decide +kernel
theorem dL_law_561 : decode cL_law 561 = .ok (.invokevirtual 77, 3) := by decide +kernel
theorem dL_law_564 : decode cL_law 564 = .ok (.aload_n 2, 1) := by decide +kernel
theorem dL_law_565 : decode cL_law 565 = .ok (.aload_n 0, 1) := by decide +kernel
theorem dL_law_566 : decode cL_law 566 = .ok (.iload_n 3, 1) := by decide +kernel
theorem dL_law_567 : decode cL_law 567 = .ok (.iconst 1, 1) := by decide +kernel
theorem dL_law_568 : decode cL_law 568 = .ok (.iadd, 1) := by decide +kernel
theorem dL_law_569 : decode cL_law 569 = .ok (.iaload, 1) := by decide +kernel
theorem dL_law_570 : decode cL_law 570 = .ok (.invokevirtual 80, 3) := by decide +kernel
theorem dL_law_573 : decode cL_law 573 = .ok (.if_icmp .eq 498, 3) := by decide +kernel
theorem dL_law_576 : decode cL_law 576 = .ok (.iconst 0, 1) := by decide +kernel
theorem dL_law_577 : decode cL_law 577 = .ok (.ireturn, 1) := by decide +kernel
theorem dL_law_578 : decode cL_law 578 = .ok (.aload_n 1, 1) := by decide +kernel
theorem dL_law_579 : decode cL_law 579 = .ok (.aload_n 0, 1) := by decide +kernel
theorem dL_law_580 : decode cL_law 580 = .ok (.iload_n 3, 1) := by decide +kernel
theorem dL_law_581 : decode cL_law 581 = .ok (.iconst 1, 1) := by decide +kernel
theorem dL_law_582 : decode cL_law 582 = .ok (.iadd, 1) := by decide +kernel
theorem dL_law_583 : decode cL_law 583 = .ok (.iaload, 1) := by decide +kernel
theorem dL_law_584 : decode cL_law 584 = .ok (.aload_n 0, 1) := by decide +kernel
theorem dL_law_585 : decode cL_law 585 = .ok (.iload_n 3, 1) := by decide +kernel
theorem dL_law_586 : decode cL_law 586 = .ok (.iconst 2, 1) := by decide +kernel
theorem dL_law_587 : decode cL_law 587 = .ok (.iadd, 1) := by decide +kernel
theorem dL_law_588 : decode cL_law 588 = .ok (.iaload, 1) := by decide +kernel
theorem dL_law_589 : decode cL_law 589 = .ok (.invokevirtual 81, 3) := by decide +kernel
theorem dL_law_592 : decode cL_law 592 = .ok (.aload_n 2, 1) := by decide +kernel
theorem dL_law_593 : decode cL_law 593 = .ok (.aload_n 0, 1) := by decide +kernel
theorem dL_law_594 : decode cL_law 594 = .ok (.iload_n 3, 1) := by decide +kernel
theorem dL_law_595 : decode cL_law 595 = .ok (.iconst 1, 1) := by decide +kernel
theorem dL_law_596 : decode cL_law 596 = .ok (.iadd, 1) := by decide +kernel
theorem dL_law_597 : decode cL_law 597 = .ok (.iaload, 1) := by decide +kernel
theorem dL_law_598 : decode cL_law 598 = .ok (.aload_n 0, 1) := by decide +kernel
theorem dL_law_599 : decode cL_law 599 = .ok (.iload_n 3, 1) := by decide +kernel
theorem dL_law_600 : decode cL_law 600 = .ok (.iconst 2, 1) := by decide +kernel
theorem dL_law_601 : decode cL_law 601 = .ok (.iadd, 1) := by decide +kernel
theorem dL_law_602 : decode cL_law 602 = .ok (.iaload, 1) := by decide +kernel
theorem dL_law_603 : decode cL_law 603 = .ok (.invokevirtual 84, 3) := by decide +kernel
theorem dL_law_606 : decode cL_law 606 = .ok (.if_icmp .eq 465, 3) := by decide +kernel
theorem dL_law_609 : decode cL_law 609 = .ok (.iconst 0, 1) := by decide +kernel
theorem dL_law_610 : decode cL_law 610 = .ok (.ireturn, 1) := by decide +kernel
theorem dL_law_611 : decode cL_law 611 = .ok (.aload_n 1, 1) := by decide +kernel
theorem dL_law_612 : decode cL_law 612 = .ok (.aload_n 0, 1) := by decide +kernel
theorem dL_law_613 : decode cL_law 613 = .ok (.iload_n 3, 1) := by decide +kernel
theorem dL_law_614 : decode cL_law 614 = .ok (.iconst 1, 1) := by decide +kernel
theorem dL_law_615 : decode cL_law 615 = .ok (.iadd, 1) := by decide +kernel
theorem dL_law_616 : decode cL_law 616 = .ok (.iaload, 1) := by decide +kernel
theorem dL_law_617 : decode cL_law 617 = .ok (.invokevirtual 85, 3) := by decide +kernel
theorem dL_law_620 : decode cL_law 620 = .ok (.aload_n 2, 1) := by decide +kernel
theorem dL_law_621 : decode cL_law 621 = .ok (.aload_n 0, 1) := by decide +kernel
theorem dL_law_622 : decode cL_law 622 = .ok (.iload_n 3, 1) := by decide +kernel
theorem dL_law_623 : decode cL_law 623 = .ok (.iconst 1, 1) := by decide +kernel
theorem dL_law_624 : decode cL_law 624 = .ok (.iadd, 1) := by decide +kernel
theorem dL_law_625 : decode cL_law 625 = .ok (.iaload, 1) := by decide +kernel
theorem dL_law_626 : decode cL_law 626 = .ok (.invokevirtual 88, 3) := by decide +kernel
theorem dL_law_629 : decode cL_law 629 = .ok (.if_icmp .eq 442, 3) := by decide +kernel
theorem dL_law_632 : decode cL_law 632 = .ok (.iconst 0, 1) := by decide +kernel
theorem dL_law_633 : decode cL_law 633 = .ok (.ireturn, 1) := by decide +kernel
theorem dL_law_634 : decode cL_law 634 = .ok (.aload_n 1, 1) := by decide +kernel
theorem dL_law_635 : decode cL_law 635 = .ok (.invokevirtual 89, 3) := by decide +kernel
theorem dL_law_638 : decode cL_law 638 = .ok (.aload_n 2, 1) := by decide +kernel
theorem dL_law_639 : decode cL_law 639 = .ok (.invokevirtual 92, 3) := by decide +kernel
theorem dL_law_642 : decode cL_law 642 = .ok (.if_icmp .eq 429, 3) := by decide +kernel
theorem dL_law_645 : decode cL_law 645 = .ok (.iconst 0, 1) := by decide +kernel
theorem dL_law_646 : decode cL_law 646 = .ok (.ireturn, 1) := by decide +kernel
theorem dL_law_647 : decode cL_law 647 = .ok (.aload_n 1, 1) := by decide +kernel
theorem dL_law_648 : decode cL_law 648 = .ok (.aload_n 0, 1) := by decide +kernel
theorem dL_law_649 : decode cL_law 649 = .ok (.iload_n 3, 1) := by decide +kernel
theorem dL_law_650 : decode cL_law 650 = .ok (.iconst 1, 1) := by decide +kernel
theorem dL_law_651 : decode cL_law 651 = .ok (.iadd, 1) := by decide +kernel
theorem dL_law_652 : decode cL_law 652 = .ok (.iaload, 1) := by decide +kernel
theorem dL_law_653 : decode cL_law 653 = .ok (.aload_n 0, 1) := by decide +kernel
theorem dL_law_654 : decode cL_law 654 = .ok (.iload_n 3, 1) := by decide +kernel
theorem dL_law_655 : decode cL_law 655 = .ok (.iconst 2, 1) := by decide +kernel
theorem dL_law_656 : decode cL_law 656 = .ok (.iadd, 1) := by decide +kernel
theorem dL_law_657 : decode cL_law 657 = .ok (.iaload, 1) := by decide +kernel
theorem dL_law_658 : decode cL_law 658 = .ok (.aload_n 0, 1) := by decide +kernel
theorem dL_law_659 : decode cL_law 659 = .ok (.iload_n 3, 1) := by decide +kernel
theorem dL_law_660 : decode cL_law 660 = .ok (.iconst 3, 1) := by decide +kernel
theorem dL_law_661 : decode cL_law 661 = .ok (.iadd, 1) := by decide +kernel
theorem dL_law_662 : decode cL_law 662 = .ok (.iaload, 1) := by decide +kernel
theorem dL_law_663 : decode cL_law 663 = .ok (.aload_n 0, 1) := by decide +kernel
theorem dL_law_664 : decode cL_law 664 = .ok (.iload_n 3, 1) := by decide +kernel
theorem dL_law_665 : decode cL_law 665 = .ok (.iconst 4, 1) := by decide +kernel
theorem dL_law_666 : decode cL_law 666 = .ok (.iadd, 1) := by decide +kernel
theorem dL_law_667 : decode cL_law 667 = .ok (.iaload, 1) := by decide +kernel
theorem dL_law_668 : decode cL_law 668 = .ok (.invokevirtual 93, 3) := by decide +kernel
theorem dL_law_671 : decode cL_law 671 = .ok (.aload_n 2, 1) := by decide +kernel
theorem dL_law_672 : decode cL_law 672 = .ok (.aload_n 0, 1) := by decide +kernel
theorem dL_law_673 : decode cL_law 673 = .ok (.iload_n 3, 1) := by decide +kernel
theorem dL_law_674 : decode cL_law 674 = .ok (.iconst 1, 1) := by decide +kernel
theorem dL_law_675 : decode cL_law 675 = .ok (.iadd, 1) := by decide +kernel
theorem dL_law_676 : decode cL_law 676 = .ok (.iaload, 1) := by decide +kernel
theorem dL_law_677 : decode cL_law 677 = .ok (.aload_n 0, 1) := by decide +kernel
theorem dL_law_678 : decode cL_law 678 = .ok (.iload_n 3, 1) := by decide +kernel
theorem dL_law_679 : decode cL_law 679 = .ok (.iconst 2, 1) := by decide +kernel
theorem dL_law_680 : decode cL_law 680 = .ok (.iadd, 1) := by decide +kernel
theorem dL_law_681 : decode cL_law 681 = .ok (.iaload, 1) := by decide +kernel
theorem dL_law_682 : decode cL_law 682 = .ok (.aload_n 0, 1) := by decide +kernel
theorem dL_law_683 : decode cL_law 683 = .ok (.iload_n 3, 1) := by decide +kernel
theorem dL_law_684 : decode cL_law 684 = .ok (.iconst 3, 1) := by decide +kernel
theorem dL_law_685 : decode cL_law 685 = .ok (.iadd, 1) := by decide +kernel
theorem dL_law_686 : decode cL_law 686 = .ok (.iaload, 1) := by decide +kernel
theorem dL_law_687 : decode cL_law 687 = .ok (.aload_n 0, 1) := by decide +kernel
theorem dL_law_688 : decode cL_law 688 = .ok (.iload_n 3, 1) := by decide +kernel
theorem dL_law_689 : decode cL_law 689 = .ok (.iconst 4, 1) := by decide +kernel
theorem dL_law_690 : decode cL_law 690 = .ok (.iadd, 1) := by decide +kernel
theorem dL_law_691 : decode cL_law 691 = .ok (.iaload, 1) := by decide +kernel
theorem dL_law_692 : decode cL_law 692 = .ok (.invokevirtual 97, 3) := by decide +kernel
theorem dL_law_695 : decode cL_law 695 = .ok (.if_icmp .eq 376, 3) := by decide +kernel
theorem dL_law_698 : decode cL_law 698 = .ok (.iconst 0, 1) := by decide +kernel
theorem dL_law_699 : decode cL_law 699 = .ok (.ireturn, 1) := by decide +kernel
theorem dL_law_700 : decode cL_law 700 = .ok (.aload_n 1, 1) := by decide +kernel
theorem dL_law_701 : decode cL_law 701 = .ok (.aload_n 0, 1) := by decide +kernel
theorem dL_law_702 : decode cL_law 702 = .ok (.iload_n 3, 1) := by decide +kernel
theorem dL_law_703 : decode cL_law 703 = .ok (.iconst 1, 1) := by decide +kernel
theorem dL_law_704 : decode cL_law 704 = .ok (.iadd, 1) := by decide +kernel
theorem dL_law_705 : decode cL_law 705 = .ok (.iaload, 1) := by decide +kernel
theorem dL_law_706 : decode cL_law 706 = .ok (.aload_n 0, 1) := by decide +kernel
theorem dL_law_707 : decode cL_law 707 = .ok (.iload_n 3, 1) := by decide +kernel
theorem dL_law_708 : decode cL_law 708 = .ok (.iconst 2, 1) := by decide +kernel
theorem dL_law_709 : decode cL_law 709 = .ok (.iadd, 1) := by decide +kernel
theorem dL_law_710 : decode cL_law 710 = .ok (.iaload, 1) := by decide +kernel
theorem dL_law_711 : decode cL_law 711 = .ok (.aload_n 0, 1) := by decide +kernel
theorem dL_law_712 : decode cL_law 712 = .ok (.iload_n 3, 1) := by decide +kernel
theorem dL_law_713 : decode cL_law 713 = .ok (.iconst 3, 1) := by decide +kernel
theorem dL_law_714 : decode cL_law 714 = .ok (.iadd, 1) := by decide +kernel
theorem dL_law_715 : decode cL_law 715 = .ok (.iaload, 1) := by decide +kernel
theorem dL_law_716 : decode cL_law 716 = .ok (.aload_n 0, 1) := by decide +kernel
theorem dL_law_717 : decode cL_law 717 = .ok (.iload_n 3, 1) := by decide +kernel
theorem dL_law_718 : decode cL_law 718 = .ok (.iconst 4, 1) := by decide +kernel
theorem dL_law_719 : decode cL_law 719 = .ok (.iadd, 1) := by decide +kernel
theorem dL_law_720 : decode cL_law 720 = .ok (.iaload, 1) := by decide +kernel
theorem dL_law_721 : decode cL_law 721 = .ok (.aload_n 0, 1) := by decide +kernel
theorem dL_law_722 : decode cL_law 722 = .ok (.iload_n 3, 1) := by decide +kernel
theorem dL_law_723 : decode cL_law 723 = .ok (.iconst 5, 1) := by decide +kernel
theorem dL_law_724 : decode cL_law 724 = .ok (.iadd, 1) := by decide +kernel
theorem dL_law_725 : decode cL_law 725 = .ok (.iaload, 1) := by decide +kernel
theorem dL_law_726 : decode cL_law 726 = .ok (.invokevirtual 98, 3) := by decide +kernel
theorem dL_law_729 : decode cL_law 729 = .ok (.aload_n 2, 1) := by decide +kernel
theorem dL_law_730 : decode cL_law 730 = .ok (.aload_n 0, 1) := by decide +kernel
theorem dL_law_731 : decode cL_law 731 = .ok (.iload_n 3, 1) := by decide +kernel
theorem dL_law_732 : decode cL_law 732 = .ok (.iconst 1, 1) := by decide +kernel
theorem dL_law_733 : decode cL_law 733 = .ok (.iadd, 1) := by decide +kernel
theorem dL_law_734 : decode cL_law 734 = .ok (.iaload, 1) := by decide +kernel
theorem dL_law_735 : decode cL_law 735 = .ok (.aload_n 0, 1) := by decide +kernel
theorem dL_law_736 : decode cL_law 736 = .ok (.iload_n 3, 1) := by decide +kernel
theorem dL_law_737 : decode cL_law 737 = .ok (.iconst 2, 1) := by decide +kernel
theorem dL_law_738 : decode cL_law 738 = .ok (.iadd, 1) := by decide +kernel
theorem dL_law_739 : decode cL_law 739 = .ok (.iaload, 1) := by decide +kernel
theorem dL_law_740 : decode cL_law 740 = .ok (.aload_n 0, 1) := by decide +kernel
theorem dL_law_741 : decode cL_law 741 = .ok (.iload_n 3, 1) := by decide +kernel
theorem dL_law_742 : decode cL_law 742 = .ok (.iconst 3, 1) := by decide +kernel
theorem dL_law_743 : decode cL_law 743 = .ok (.iadd, 1) := by decide +kernel
theorem dL_law_744 : decode cL_law 744 = .ok (.iaload, 1) := by decide +kernel
theorem dL_law_745 : decode cL_law 745 = .ok (.aload_n 0, 1) := by decide +kernel
theorem dL_law_746 : decode cL_law 746 = .ok (.iload_n 3, 1) := by decide +kernel
theorem dL_law_747 : decode cL_law 747 = .ok (.iconst 4, 1) := by decide +kernel
theorem dL_law_748 : decode cL_law 748 = .ok (.iadd, 1) := by decide +kernel
theorem dL_law_749 : decode cL_law 749 = .ok (.iaload, 1) := by decide +kernel
theorem dL_law_750 : decode cL_law 750 = .ok (.aload_n 0, 1) := by decide +kernel
theorem dL_law_751 : decode cL_law 751 = .ok (.iload_n 3, 1) := by decide +kernel
theorem dL_law_752 : decode cL_law 752 = .ok (.iconst 5, 1) := by decide +kernel
theorem dL_law_753 : decode cL_law 753 = .ok (.iadd, 1) := by decide +kernel
theorem dL_law_754 : decode cL_law 754 = .ok (.iaload, 1) := by decide +kernel
theorem dL_law_755 : decode cL_law 755 = .ok (.invokevirtual 102, 3) := by decide +kernel
theorem dL_law_758 : decode cL_law 758 = .ok (.if_icmp .eq 313, 3) := by decide +kernel
theorem dL_law_761 : decode cL_law 761 = .ok (.iconst 0, 1) := by decide +kernel
theorem dL_law_762 : decode cL_law 762 = .ok (.ireturn, 1) := by decide +kernel
theorem dL_law_763 : decode cL_law 763 = .ok (.aload_n 1, 1) := by decide +kernel
theorem dL_law_764 : decode cL_law 764 = .ok (.aload_n 0, 1) := by decide +kernel
theorem dL_law_765 : decode cL_law 765 = .ok (.iload_n 3, 1) := by decide +kernel
theorem dL_law_766 : decode cL_law 766 = .ok (.iconst 1, 1) := by decide +kernel
theorem dL_law_767 : decode cL_law 767 = .ok (.iadd, 1) := by decide +kernel
theorem dL_law_768 : decode cL_law 768 = .ok (.iaload, 1) := by decide +kernel
theorem dL_law_769 : decode cL_law 769 = .ok (.invokevirtual 103, 3) := by decide +kernel
theorem dL_law_772 : decode cL_law 772 = .ok (.aload_n 2, 1) := by decide +kernel
theorem dL_law_773 : decode cL_law 773 = .ok (.aload_n 0, 1) := by decide +kernel
theorem dL_law_774 : decode cL_law 774 = .ok (.iload_n 3, 1) := by decide +kernel
theorem dL_law_775 : decode cL_law 775 = .ok (.iconst 1, 1) := by decide +kernel
theorem dL_law_776 : decode cL_law 776 = .ok (.iadd, 1) := by decide +kernel
theorem dL_law_777 : decode cL_law 777 = .ok (.iaload, 1) := by decide +kernel
theorem dL_law_778 : decode cL_law 778 = .ok (.invokevirtual 106, 3) := by decide +kernel
theorem dL_law_781 : decode cL_law 781 = .ok (.if_icmp .eq 290, 3) := by decide +kernel
theorem dL_law_784 : decode cL_law 784 = .ok (.iconst 0, 1) := by decide +kernel
theorem dL_law_785 : decode cL_law 785 = .ok (.ireturn, 1) := by decide +kernel
theorem dL_law_786 : decode cL_law 786 = .ok (.aload_n 1, 1) := by decide +kernel
theorem dL_law_787 : decode cL_law 787 = .ok (.aload_n 0, 1) := by decide +kernel
theorem dL_law_788 : decode cL_law 788 = .ok (.iload_n 3, 1) := by decide +kernel
theorem dL_law_789 : decode cL_law 789 = .ok (.iconst 1, 1) := by decide +kernel
theorem dL_law_790 : decode cL_law 790 = .ok (.iadd, 1) := by decide +kernel
theorem dL_law_791 : decode cL_law 791 = .ok (.iaload, 1) := by decide +kernel
theorem dL_law_792 : decode cL_law 792 = .ok (.invokevirtual 107, 3) := by decide +kernel
theorem dL_law_795 : decode cL_law 795 = .ok (.aload_n 2, 1) := by decide +kernel
theorem dL_law_796 : decode cL_law 796 = .ok (.aload_n 0, 1) := by decide +kernel
theorem dL_law_797 : decode cL_law 797 = .ok (.iload_n 3, 1) := by decide +kernel
theorem dL_law_798 : decode cL_law 798 = .ok (.iconst 1, 1) := by decide +kernel
theorem dL_law_799 : decode cL_law 799 = .ok (.iadd, 1) := by decide +kernel
theorem dL_law_800 : decode cL_law 800 = .ok (.iaload, 1) := by decide +kernel
theorem dL_law_801 : decode cL_law 801 = .ok (.invokevirtual 110, 3) := by decide +kernel
theorem dL_law_804 : decode cL_law 804 = .ok (.if_icmp .eq 267, 3) := by decide +kernel
theorem dL_law_807 : decode cL_law 807 = .ok (.iconst 0, 1) := by decide +kernel
theorem dL_law_808 : decode cL_law 808 = .ok (.ireturn, 1) := by decide +kernel
theorem dL_law_809 : decode cL_law 809 = .ok (.aload_n 1, 1) := by decide +kernel
theorem dL_law_810 : decode cL_law 810 = .ok (.aload_n 0, 1) := by decide +kernel
theorem dL_law_811 : decode cL_law 811 = .ok (.iload_n 3, 1) := by decide +kernel
theorem dL_law_812 : decode cL_law 812 = .ok (.iconst 1, 1) := by decide +kernel
theorem dL_law_813 : decode cL_law 813 = .ok (.iadd, 1) := by decide +kernel
theorem dL_law_814 : decode cL_law 814 = .ok (.iaload, 1) := by decide +kernel
theorem dL_law_815 : decode cL_law 815 = .ok (.invokevirtual 111, 3) := by decide +kernel
theorem dL_law_818 : decode cL_law 818 = .ok (.aload_n 2, 1) := by decide +kernel
theorem dL_law_819 : decode cL_law 819 = .ok (.aload_n 0, 1) := by decide +kernel
theorem dL_law_820 : decode cL_law 820 = .ok (.iload_n 3, 1) := by decide +kernel
theorem dL_law_821 : decode cL_law 821 = .ok (.iconst 1, 1) := by decide +kernel
theorem dL_law_822 : decode cL_law 822 = .ok (.iadd, 1) := by decide +kernel
theorem dL_law_823 : decode cL_law 823 = .ok (.iaload, 1) := by decide +kernel
theorem dL_law_824 : decode cL_law 824 = .ok (.invokevirtual 114, 3) := by decide +kernel
theorem dL_law_827 : decode cL_law 827 = .ok (.if_icmp .eq 244, 3) := by decide +kernel
theorem dL_law_830 : decode cL_law 830 = .ok (.iconst 0, 1) := by decide +kernel
theorem dL_law_831 : decode cL_law 831 = .ok (.ireturn, 1) := by decide +kernel
theorem dL_law_832 : decode cL_law 832 = .ok (.aload_n 1, 1) := by decide +kernel
theorem dL_law_833 : decode cL_law 833 = .ok (.aload_n 0, 1) := by decide +kernel
theorem dL_law_834 : decode cL_law 834 = .ok (.iload_n 3, 1) := by decide +kernel
theorem dL_law_835 : decode cL_law 835 = .ok (.iconst 1, 1) := by decide +kernel
theorem dL_law_836 : decode cL_law 836 = .ok (.iadd, 1) := by decide +kernel
theorem dL_law_837 : decode cL_law 837 = .ok (.iaload, 1) := by decide +kernel
theorem dL_law_838 : decode cL_law 838 = .ok (.invokevirtual 115, 3) := by decide +kernel
theorem dL_law_841 : decode cL_law 841 = .ok (.aload_n 2, 1) := by decide +kernel
theorem dL_law_842 : decode cL_law 842 = .ok (.aload_n 0, 1) := by decide +kernel
theorem dL_law_843 : decode cL_law 843 = .ok (.iload_n 3, 1) := by decide +kernel
theorem dL_law_844 : decode cL_law 844 = .ok (.iconst 1, 1) := by decide +kernel
theorem dL_law_845 : decode cL_law 845 = .ok (.iadd, 1) := by decide +kernel
theorem dL_law_846 : decode cL_law 846 = .ok (.iaload, 1) := by decide +kernel
theorem dL_law_847 : decode cL_law 847 = .ok (.invokevirtual 118, 3) := by decide +kernel
theorem dL_law_850 : decode cL_law 850 = .ok (.if_icmp .eq 221, 3) := by decide +kernel
theorem dL_law_853 : decode cL_law 853 = .ok (.iconst 0, 1) := by decide +kernel
theorem dL_law_854 : decode cL_law 854 = .ok (.ireturn, 1) := by decide +kernel
theorem dL_law_855 : decode cL_law 855 = .ok (.aload_n 1, 1) := by decide +kernel
theorem dL_law_856 : decode cL_law 856 = .ok (.aload_n 0, 1) := by decide +kernel
theorem dL_law_857 : decode cL_law 857 = .ok (.iload_n 3, 1) := by decide +kernel
theorem dL_law_858 : decode cL_law 858 = .ok (.iconst 1, 1) := by decide +kernel
theorem dL_law_859 : decode cL_law 859 = .ok (.iadd, 1) := by decide +kernel
theorem dL_law_860 : decode cL_law 860 = .ok (.iaload, 1) := by decide +kernel
theorem dL_law_861 : decode cL_law 861 = .ok (.aload_n 0, 1) := by decide +kernel
theorem dL_law_862 : decode cL_law 862 = .ok (.iload_n 3, 1) := by decide +kernel
theorem dL_law_863 : decode cL_law 863 = .ok (.iconst 2, 1) := by decide +kernel
theorem dL_law_864 : decode cL_law 864 = .ok (.iadd, 1) := by decide +kernel
theorem dL_law_865 : decode cL_law 865 = .ok (.iaload, 1) := by decide +kernel
theorem dL_law_866 : decode cL_law 866 = .ok (.aload_n 0, 1) := by decide +kernel
theorem dL_law_867 : decode cL_law 867 = .ok (.iload_n 3, 1) := by decide +kernel
theorem dL_law_868 : decode cL_law 868 = .ok (.iconst 3, 1) := by decide +kernel
theorem dL_law_869 : decode cL_law 869 = .ok (.iadd, 1) := by decide +kernel
theorem dL_law_870 : decode cL_law 870 = .ok (.iaload, 1) := by decide +kernel
theorem dL_law_871 : decode cL_law 871 = .ok (.aload_n 0, 1) := by decide +kernel
theorem dL_law_872 : decode cL_law 872 = .ok (.iload_n 3, 1) := by decide +kernel
theorem dL_law_873 : decode cL_law 873 = .ok (.iconst 4, 1) := by decide +kernel
theorem dL_law_874 : decode cL_law 874 = .ok (.iadd, 1) := by decide +kernel
theorem dL_law_875 : decode cL_law 875 = .ok (.iaload, 1) := by decide +kernel
theorem dL_law_876 : decode cL_law 876 = .ok (.invokevirtual 119, 3) := by decide +kernel
theorem dL_law_879 : decode cL_law 879 = .ok (.aload_n 2, 1) := by decide +kernel
theorem dL_law_880 : decode cL_law 880 = .ok (.aload_n 0, 1) := by decide +kernel
theorem dL_law_881 : decode cL_law 881 = .ok (.iload_n 3, 1) := by decide +kernel
theorem dL_law_882 : decode cL_law 882 = .ok (.iconst 1, 1) := by decide +kernel
theorem dL_law_883 : decode cL_law 883 = .ok (.iadd, 1) := by decide +kernel
theorem dL_law_884 : decode cL_law 884 = .ok (.iaload, 1) := by decide +kernel
theorem dL_law_885 : decode cL_law 885 = .ok (.aload_n 0, 1) := by decide +kernel
theorem dL_law_886 : decode cL_law 886 = .ok (.iload_n 3, 1) := by decide +kernel
theorem dL_law_887 : decode cL_law 887 = .ok (.iconst 2, 1) := by decide +kernel
theorem dL_law_888 : decode cL_law 888 = .ok (.iadd, 1) := by decide +kernel
theorem dL_law_889 : decode cL_law 889 = .ok (.iaload, 1) := by decide +kernel
theorem dL_law_890 : decode cL_law 890 = .ok (.aload_n 0, 1) := by decide +kernel
theorem dL_law_891 : decode cL_law 891 = .ok (.iload_n 3, 1) := by decide +kernel
theorem dL_law_892 : decode cL_law 892 = .ok (.iconst 3, 1) := by decide +kernel
theorem dL_law_893 : decode cL_law 893 = .ok (.iadd, 1) := by decide +kernel
theorem dL_law_894 : decode cL_law 894 = .ok (.iaload, 1) := by decide +kernel
theorem dL_law_895 : decode cL_law 895 = .ok (.aload_n 0, 1) := by decide +kernel
theorem dL_law_896 : decode cL_law 896 = .ok (.iload_n 3, 1) := by decide +kernel
theorem dL_law_897 : decode cL_law 897 = .ok (.iconst 4, 1) := by decide +kernel
theorem dL_law_898 : decode cL_law 898 = .ok (.iadd, 1) := by decide +kernel
theorem dL_law_899 : decode cL_law 899 = .ok (.iaload, 1) := by decide +kernel
theorem dL_law_900 : decode cL_law 900 = .ok (.invokevirtual 122, 3) := by decide +kernel
theorem dL_law_903 : decode cL_law 903 = .ok (.if_icmp .eq 168, 3) := by decide +kernel
theorem dL_law_906 : decode cL_law 906 = .ok (.iconst 0, 1) := by decide +kernel
theorem dL_law_907 : decode cL_law 907 = .ok (.ireturn, 1) := by decide +kernel
theorem dL_law_908 : decode cL_law 908 = .ok (.aload_n 1, 1) := by decide +kernel
theorem dL_law_909 : decode cL_law 909 = .ok (.aload_n 0, 1) := by decide +kernel
theorem dL_law_910 : decode cL_law 910 = .ok (.iload_n 3, 1) := by decide +kernel
theorem dL_law_911 : decode cL_law 911 = .ok (.iconst 1, 1) := by decide +kernel
theorem dL_law_912 : decode cL_law 912 = .ok (.iadd, 1) := by decide +kernel
theorem dL_law_913 : decode cL_law 913 = .ok (.iaload, 1) := by decide +kernel
theorem dL_law_914 : decode cL_law 914 = .ok (.aload_n 0, 1) := by decide +kernel
theorem dL_law_915 : decode cL_law 915 = .ok (.iload_n 3, 1) := by decide +kernel
theorem dL_law_916 : decode cL_law 916 = .ok (.iconst 2, 1) := by decide +kernel
theorem dL_law_917 : decode cL_law 917 = .ok (.iadd, 1) := by decide +kernel
theorem dL_law_918 : decode cL_law 918 = .ok (.iaload, 1) := by decide +kernel
theorem dL_law_919 : decode cL_law 919 = .ok (.invokevirtual 123, 3) := by decide +kernel
theorem dL_law_922 : decode cL_law 922 = .ok (.aload_n 2, 1) := by decide +kernel
theorem dL_law_923 : decode cL_law 923 = .ok (.aload_n 0, 1) := by decide +kernel
theorem dL_law_924 : decode cL_law 924 = .ok (.iload_n 3, 1) := by decide +kernel
theorem dL_law_925 : decode cL_law 925 = .ok (.iconst 1, 1) := by decide +kernel
theorem dL_law_926 : decode cL_law 926 = .ok (.iadd, 1) := by decide +kernel
theorem dL_law_927 : decode cL_law 927 = .ok (.iaload, 1) := by decide +kernel
theorem dL_law_928 : decode cL_law 928 = .ok (.aload_n 0, 1) := by decide +kernel
theorem dL_law_929 : decode cL_law 929 = .ok (.iload_n 3, 1) := by decide +kernel
theorem dL_law_930 : decode cL_law 930 = .ok (.iconst 2, 1) := by decide +kernel
theorem dL_law_931 : decode cL_law 931 = .ok (.iadd, 1) := by decide +kernel
theorem dL_law_932 : decode cL_law 932 = .ok (.iaload, 1) := by decide +kernel
theorem dL_law_933 : decode cL_law 933 = .ok (.invokevirtual 126, 3) := by decide +kernel
theorem dL_law_936 : decode cL_law 936 = .ok (.if_icmp .eq 135, 3) := by decide +kernel
theorem dL_law_939 : decode cL_law 939 = .ok (.iconst 0, 1) := by decide +kernel
theorem dL_law_940 : decode cL_law 940 = .ok (.ireturn, 1) := by decide +kernel
theorem dL_law_941 : decode cL_law 941 = .ok (.aload_n 1, 1) := by decide +kernel
theorem dL_law_942 : decode cL_law 942 = .ok (.aload_n 0, 1) := by decide +kernel
theorem dL_law_943 : decode cL_law 943 = .ok (.iload_n 3, 1) := by decide +kernel
theorem dL_law_944 : decode cL_law 944 = .ok (.iconst 1, 1) := by decide +kernel
theorem dL_law_945 : decode cL_law 945 = .ok (.iadd, 1) := by decide +kernel
theorem dL_law_946 : decode cL_law 946 = .ok (.iaload, 1) := by decide +kernel
theorem dL_law_947 : decode cL_law 947 = .ok (.invokevirtual 127, 3) := by decide +kernel
theorem dL_law_950 : decode cL_law 950 = .ok (.aload_n 2, 1) := by decide +kernel
theorem dL_law_951 : decode cL_law 951 = .ok (.aload_n 0, 1) := by decide +kernel
theorem dL_law_952 : decode cL_law 952 = .ok (.iload_n 3, 1) := by decide +kernel
theorem dL_law_953 : decode cL_law 953 = .ok (.iconst 1, 1) := by decide +kernel
theorem dL_law_954 : decode cL_law 954 = .ok (.iadd, 1) := by decide +kernel
theorem dL_law_955 : decode cL_law 955 = .ok (.iaload, 1) := by decide +kernel
theorem dL_law_956 : decode cL_law 956 = .ok (.invokevirtual 131, 3) := by decide +kernel
theorem dL_law_959 : decode cL_law 959 = .ok (.lcmp, 1) := by decide +kernel
theorem dL_law_960 : decode cL_law 960 = .ok (.ifCond .eq 111, 3) := by decide +kernel
theorem dL_law_963 : decode cL_law 963 = .ok (.iconst 0, 1) := by decide +kernel
theorem dL_law_964 : decode cL_law 964 = .ok (.ireturn, 1) := by decide +kernel
theorem dL_law_965 : decode cL_law 965 = .ok (.aload_n 1, 1) := by decide +kernel
theorem dL_law_966 : decode cL_law 966 = .ok (.aload_n 0, 1) := by decide +kernel
theorem dL_law_967 : decode cL_law 967 = .ok (.iload_n 3, 1) := by decide +kernel
theorem dL_law_968 : decode cL_law 968 = .ok (.iconst 1, 1) := by decide +kernel
theorem dL_law_969 : decode cL_law 969 = .ok (.iadd, 1) := by decide +kernel
theorem dL_law_970 : decode cL_law 970 = .ok (.iaload, 1) := by decide +kernel
theorem dL_law_971 : decode cL_law 971 = .ok (.invokevirtual 132, 3) := by decide +kernel
theorem dL_law_974 : decode cL_law 974 = .ok (.aload_n 2, 1) := by decide +kernel
theorem dL_law_975 : decode cL_law 975 = .ok (.aload_n 0, 1) := by decide +kernel
theorem dL_law_976 : decode cL_law 976 = .ok (.iload_n 3, 1) := by decide +kernel
theorem dL_law_977 : decode cL_law 977 = .ok (.iconst 1, 1) := by decide +kernel
theorem dL_law_978 : decode cL_law 978 = .ok (.iadd, 1) := by decide +kernel
theorem dL_law_979 : decode cL_law 979 = .ok (.iaload, 1) := by decide +kernel
theorem dL_law_980 : decode cL_law 980 = .ok (.invokevirtual 135, 3) := by decide +kernel
theorem dL_law_983 : decode cL_law 983 = .ok (.if_icmp .eq 88, 3) := by decide +kernel
theorem dL_law_986 : decode cL_law 986 = .ok (.iconst 0, 1) := by decide +kernel
theorem dL_law_987 : decode cL_law 987 = .ok (.ireturn, 1) := by decide +kernel
theorem dL_law_988 : decode cL_law 988 = .ok (.aload_n 1, 1) := by decide +kernel
theorem dL_law_989 : decode cL_law 989 = .ok (.aload_n 0, 1) := by decide +kernel
theorem dL_law_990 : decode cL_law 990 = .ok (.iload_n 3, 1) := by decide +kernel
theorem dL_law_991 : decode cL_law 991 = .ok (.iconst 1, 1) := by decide +kernel
theorem dL_law_992 : decode cL_law 992 = .ok (.iadd, 1) := by decide +kernel
theorem dL_law_993 : decode cL_law 993 = .ok (.iaload, 1) := by decide +kernel
theorem dL_law_994 : decode cL_law 994 = .ok (.invokevirtual 136, 3) := by decide +kernel
theorem dL_law_997 : decode cL_law 997 = .ok (.aload_n 2, 1) := by decide +kernel
theorem dL_law_998 : decode cL_law 998 = .ok (.aload_n 0, 1) := by decide +kernel
theorem dL_law_999 : decode cL_law 999 = .ok (.iload_n 3, 1) := by decide +kernel
theorem dL_law_1000 : decode cL_law 1000 = .ok (.iconst 1, 1) := by decide +kernel
theorem dL_law_1001 : decode cL_law 1001 = .ok (.iadd, 1) := by decide +kernel
theorem dL_law_1002 : decode cL_law 1002 = .ok (.iaload, 1) := by decide +kernel
theorem dL_law_1003 : decode cL_law 1003 = .ok (.invokevirtual 139, 3) := by decide +kernel
theorem dL_law_1006 : decode cL_law 1006 = .ok (.if_icmp .eq 65, 3) := by decide +kernel
theorem dL_law_1009 : decode cL_law 1009 = .ok (.iconst 0, 1) := by decide +kernel
theorem dL_law_1010 : decode cL_law 1010 = .ok (.ireturn, 1) := by decide +kernel
theorem dL_law_1011 : decode cL_law 1011 = .ok (.aload_n 1, 1) := by decide +kernel
theorem dL_law_1012 : decode cL_law 1012 = .ok (.aload_n 0, 1) := by decide +kernel
theorem dL_law_1013 : decode cL_law 1013 = .ok (.iload_n 3, 1) := by decide +kernel
theorem dL_law_1014 : decode cL_law 1014 = .ok (.iconst 1, 1) := by decide +kernel
theorem dL_law_1015 : decode cL_law 1015 = .ok (.iadd, 1) := by decide +kernel
theorem dL_law_1016 : decode cL_law 1016 = .ok (.iaload, 1) := by decide +kernel
theorem dL_law_1017 : decode cL_law 1017 = .ok (.invokevirtual 140, 3) := by decide +kernel
theorem dL_law_1020 : decode cL_law 1020 = .ok (.aload_n 2, 1) := by decide +kernel
theorem dL_law_1021 : decode cL_law 1021 = .ok (.aload_n 0, 1) := by decide +kernel
theorem dL_law_1022 : decode cL_law 1022 = .ok (.iload_n 3, 1) := by decide +kernel
theorem dL_law_1023 : decode cL_law 1023 = .ok (.iconst 1, 1) := by decide +kernel
theorem dL_law_1024 : decode cL_law 1024 = .ok (.iadd, 1) := by decide +kernel
theorem dL_law_1025 : decode cL_law 1025 = .ok (.iaload, 1) := by decide +kernel
theorem dL_law_1026 : decode cL_law 1026 = .ok (.invokevirtual 143, 3) := by decide +kernel
theorem dL_law_1029 : decode cL_law 1029 = .ok (.if_icmp .eq 42, 3) := by decide +kernel
theorem dL_law_1032 : decode cL_law 1032 = .ok (.iconst 0, 1) := by decide +kernel
theorem dL_law_1033 : decode cL_law 1033 = .ok (.ireturn, 1) := by decide +kernel
theorem dL_law_1034 : decode cL_law 1034 = .ok (.aload_n 1, 1) := by decide +kernel
theorem dL_law_1035 : decode cL_law 1035 = .ok (.aload_n 0, 1) := by decide +kernel
theorem dL_law_1036 : decode cL_law 1036 = .ok (.iload_n 3, 1) := by decide +kernel
theorem dL_law_1037 : decode cL_law 1037 = .ok (.iconst 1, 1) := by decide +kernel
theorem dL_law_1038 : decode cL_law 1038 = .ok (.iadd, 1) := by decide +kernel
theorem dL_law_1039 : decode cL_law 1039 = .ok (.iaload, 1) := by decide +kernel
theorem dL_law_1040 : decode cL_law 1040 = .ok (.invokevirtual 144, 3) := by decide +kernel
theorem dL_law_1043 : decode cL_law 1043 = .ok (.aload_n 2, 1) := by decide +kernel
theorem dL_law_1044 : decode cL_law 1044 = .ok (.aload_n 0, 1) := by decide +kernel
theorem dL_law_1045 : decode cL_law 1045 = .ok (.iload_n 3, 1) := by decide +kernel
theorem dL_law_1046 : decode cL_law 1046 = .ok (.iconst 1, 1) := by decide +kernel
theorem dL_law_1047 : decode cL_law 1047 = .ok (.iadd, 1) := by decide +kernel
theorem dL_law_1048 : decode cL_law 1048 = .ok (.iaload, 1) := by decide +kernel
theorem dL_law_1049 : decode cL_law 1049 = .ok (.invokevirtual 147, 3) := by decide +kernel
theorem dL_law_1052 : decode cL_law 1052 = .ok (.if_icmp .eq 19, 3) := by decide +kernel
theorem dL_law_1055 : decode cL_law 1055 = .ok (.iconst 0, 1) := by decide +kernel
theorem dL_law_1056 : decode cL_law 1056 = .ok (.ireturn, 1) := by decide +kernel
theorem dL_law_1057 : decode cL_law 1057 = .ok (.aload_n 1, 1) := by decide +kernel
theorem dL_law_1058 : decode cL_law 1058 = .ok (.invokevirtual 148, 3) := by decide +kernel
theorem dL_law_1061 : decode cL_law 1061 = .ok (.aload_n 2, 1) := by decide +kernel
theorem dL_law_1062 : decode cL_law 1062 = .ok (.invokevirtual 152, 3) := by decide +kernel
theorem dL_law_1065 : decode cL_law 1065 = .ok (.lcmp, 1) := by decide +kernel
theorem dL_law_1066 : decode cL_law 1066 = .ok (.ifCond .eq 5, 3) := by decide +kernel
theorem dL_law_1069 : decode cL_law 1069 = .ok (.iconst 0, 1) := by decide +kernel
theorem dL_law_1070 : decode cL_law 1070 = .ok (.ireturn, 1) := by decide +kernel
theorem dL_law_1071 : decode cL_law 1071 = .ok (.iinc 3 6, 3) := by decide +kernel
theorem dL_law_1074 : decode cL_law 1074 = .ok (.goto (-1056), 3) := by decide +kernel
theorem dL_law_1077 : decode cL_law 1077 = .ok (.iconst 1, 1) := by decide +kernel
theorem dL_law_1078 : decode cL_law 1078 = .ok (.ireturn, 1) := by decide +kernel
end
section
/-! ===== words ===== -/
def lw_G : List Cond := lw_tbl.filter goodWord
theorem lw_Gm {w : Cond} (h : w ∈ tables_1) (g : goodWord w = true) : w ∈ lw_G := List.mem_filter.mpr ⟨List.mem_append_right _ h, g⟩
theorem lw_t1 {w : Cond} (h : w ∈ tables_1_1) : w ∈ tables_1 := List.mem_append_left _ h
theorem lw_t2 {w : Cond} (h : w ∈ tables_1_2) : w ∈ tables_1 := List.mem_append_right _ (List.mem_append_left _ h)
theorem lw_t3 {w : Cond} (h : w ∈ tables_1_3) : w ∈ tables_1 := List.mem_append_right _ (List.mem_append_right _ (List.mem_append_left _ h))
theorem lw_t4 {w : Cond} (h : w ∈ tables_1_4) : w ∈ tables_1 := List.mem_append_right _ (List.mem_append_right _ (List.mem_append_right _ (List.mem_append_left _ h)))
theorem lw_t5 {w : Cond} (h : w ∈ tables_1_5) : w ∈ tables_1 := List.mem_append_right _ (List.mem_append_right _ (List.mem_append_right _ (List.mem_append_right _ h)))
theorem lw_s1 {w : Cond} {q : MethodName × Nat} (hq : q ∈ lw_privs) (e : w = Cond.selects q.1.cls q.1 q.1) (g : goodWord w = true) : w ∈ lw_G := List.mem_filter.mpr ⟨List.mem_append_left _ (List.mem_map.mpr ⟨q, hq, e.symm⟩), g⟩
def nx_l : List (String × Nat × MethodName × String) := [("LastCalled", 9, ⟨"LastCalled$Hamlet", "<init>", "()V"⟩, "LastCalled"), ("LastCalled", 29, ⟨"LastCalled$Text", "<init>", "()V"⟩, "LastCalled"), ("LastCalled", 36, ⟨"LastCalled$Fraction", "<init>", "()V"⟩, "LastCalled"), ("LastCalled", 43, ⟨"LastCalled$Hearing", "<init>", "()V"⟩, "LastCalled"), ("LastCalled$Hearing", 11, ⟨"LastCalled$Plain", "<init>", "()V"⟩, "LastCalled"), ("LastCalled$Hearing", 14, ⟨"LastCalled$Careful", "<init>", "()V"⟩, "LastCalled"), ("LastCalled$Careful", 1, ⟨"LastCalled$Plain", "<init>", "()V"⟩, "LastCalled"), ("LastCalled$Hearing", 17, ⟨"LastCalled$Deaf", "<init>", "()V"⟩, "LastCalled"), ("LastCalled$Deaf", 1, ⟨"LastCalled$Plain", "<init>", "()V"⟩, "LastCalled"), ("LastCalled$Hearing", 20, ⟨"LastCalled$Child", "<init>", "()V"⟩, "LastCalled"), ("LastCalled$Child", 1, ⟨"LastCalled$Plain", "<init>", "()V"⟩, "LastCalled"), ("LastCalled$Hearing", 23, ⟨"LastCalled$Sheep", "<init>", "()V"⟩, "LastCalled"), ("LastCalled$Sheep", 1, ⟨"LastCalled$Child", "<init>", "()V"⟩, "LastCalled"), ("LastCalled$Hearing", 26, ⟨"LastCalled$Cliff", "<init>", "()V"⟩, "LastCalled"), ("LastCalled$Cliff", 1, ⟨"LastCalled$Careful", "<init>", "()V"⟩, "LastCalled"), ("LastCalled", 50, ⟨"LastCalled$Search", "<init>", "()V"⟩, "LastCalled"), ("LastCalled$Hamlet", 65, ⟨"LastCalled", "within", "(II)Z"⟩, "LastCalled"), ("LastCalled$Hearing", 43, ⟨"LastCalled", "within", "(II)Z"⟩, "LastCalled"), ("LastCalled$Hamlet", 61, ⟨"LastCalled", "bit", "(II)I"⟩, "LastCalled"), ("LastCalled$Search", 48, ⟨"LastCalled", "bit", "(II)I"⟩, "LastCalled"), ("LastCalled$Search", 78, ⟨"LastCalled", "settle", "([III)V"⟩, "LastCalled"), ("LastCalled$Search", 52, ⟨"LastCalled", "owners", "([I)I"⟩, "LastCalled")]
def nx_U (U : State) : Prop := ∀ q ∈ nx_l, va_Nw (.methodLinkNest q.1 q.2.1 q.2.2.1 q.2.2.2) U
/-! ===== the world's constants: classes' numbers and slots, array classes, the literals' cells ===== -/
abbrev Ew : Type := va_G × (Nat → ClassId) × (Nat → Nat) × (Nat → Nat)
def kT (E : Ew) : List (ClassId × FieldType) := [(E.2.1 0, .int), (E.2.1 1, .byte), (E.2.1 2, .boolean), (E.2.1 3, .object "LastCalled$Hamlet"), (E.2.1 4, .object "LastCalled$Plain")]
def kL : List Nat := [6, 3, 5, 4]
def kB : List (List Int32) := [[104, 97, 109, 108, 101, 116], [111, 110, 101], [98, 101, 97, 114, 115], [110, 111, 110, 101]]
def kRs (E : Ew) (U : State) : Prop := vk_R "LastCalled$Text" 25 "hamlet" (E.2.2.1 0) U ∧ vk_R "LastCalled$Text" 51 "one" (E.2.2.1 1) U ∧ vk_R "LastCalled$Text" 59 "bears" (E.2.2.1 2) U ∧ vk_R "LastCalled$Text" 64 "none" (E.2.2.1 3) U
def Ev (E : Ew) (A : Nat → Prop) (U : State) (H : Heap) : Prop := nx_U U ∧ kRs E U ∧ vk_S 4 kL kB E.2.2.1 E.2.2.2 A U H ∧ va_Z "java/lang/String" "COMPACT_STRINGS" "Z" (.int 1) A U H
theorem Ev_go {E : Ew} {A B : Nat → Prop} {s U : State} {H : Heap} (h : Ev E A s s.heap) (hW : s.WarmedH U.vm) (hk : ∀ q : Nat, q < s.heap.size → ¬ A q → H[q]? = s.heap[q]?) (hAB : ∀ q, B q → A q) : Ev E B U H := by
  obtain ⟨h1, ⟨r0, r1, r2, r3⟩, h3, h4⟩ := h
  exact ⟨fun q hq => va_Nw.warmM hW (h1 q hq), ⟨vk_R.warm hW r0, vk_R.warm hW r1, vk_R.warm hW r2, vk_R.warm hW r3⟩, ((h3.kept hk).moved hW.alike).narrow hAB, ((h4.kept hk).moved hW.alike).narrow hAB⟩
theorem Ev_same {E : Ew} {A : Nat → Prop} {s U : State} {H : Heap} (h : Ev E A s H) (hv : U.vm = s.vm) : Ev E A U H := by
  obtain ⟨h1, ⟨r0, r1, r2, r3⟩, h3, h4⟩ := h
  have ha : s.vm.Alike U.vm := by rw [hv]; exact Vm.Alike.refl s.vm
  exact ⟨fun q hq => va_Nw.same rfl hv.symm (h1 q hq), ⟨vk_R.same hv r0, vk_R.same hv r1, vk_R.same hv r2, vk_R.same hv r3⟩, h3.moved ha, h4.moved ha⟩
/-! ===== contracts ===== -/
def FnP (E : Ew) (as : List Value) (ws : va_W) (sz : Nat) : Array Value → State → Prop := va_Pc as (fun U => U.heap.size = sz ∧ va_P E.1 vwCl ws U.heap ∧ va_K E.1 vwCl (kT E) U ∧ va_D (fun _ => True) ws ∧ Ev E (va_A ws sz) U U.heap)
def FnQ (E : Ew) (ws ws' : va_W) (v : Option Value) (sz : Nat) : Array Value → State → Outcome → State → Prop := fun _ st oc t => (oc = .returned v ∧ va_P E.1 vwCl ws' t.heap) ∧ va_F (va_A ws sz) st t
def rmd (d : Nat) : Room := { frames := d, cells := 0, slots := 0, locals := 40 * d }
/-- method y, called with 'as' where the world holds 'ws', returns v and leaves ws' -/
def Fn (l : Launch) (E : Ew) (d : Nat) (y : MethodName) (cc : ByteArray) (nL : Nat) (ret : Option FieldType) (as : List Value) (ws : va_W) (v : Option Value) (ws' : va_W) : Prop :=
  ws'.map Prod.fst = ws.map Prod.fst ∧ ∀ sz : Nat, Met l y (.code y cc nL ret :: lw_G) (rmd d) (FnP E as ws sz) (FnQ E ws ws' v sz) 0 0 (va_A ws sz)
abbrev Kx : Type := Program × Launch × Env × Room × State × MethodId × Array Value × List Frame × Method × Code × (Nat → Prop) × Nat × Nat × (State → Prop)
abbrev kp (K : Kx) := K.1
abbrev kl (K : Kx) := K.2.1
abbrev ke (K : Kx) := K.2.2.1
abbrev kR (K : Kx) := K.2.2.2.1
abbrev ks (K : Kx) := K.2.2.2.2.1
abbrev km (K : Kx) := K.2.2.2.2.2.1
abbrev ka (K : Kx) := K.2.2.2.2.2.2.1
abbrev kb (K : Kx) := K.2.2.2.2.2.2.2.1
abbrev kt (K : Kx) := K.2.2.2.2.2.2.2.2.1
abbrev kc (K : Kx) := K.2.2.2.2.2.2.2.2.2.1
abbrev kA (K : Kx) := K.2.2.2.2.2.2.2.2.2.2.1
abbrev kn (K : Kx) := K.2.2.2.2.2.2.2.2.2.2.2.1
abbrev ko (K : Kx) := K.2.2.2.2.2.2.2.2.2.2.2.2.1
abbrev kQ (K : Kx) := K.2.2.2.2.2.2.2.2.2.2.2.2.2
def G (K : Kx) (E : Ew) (nL : Nat) (ws : va_W) (lv : List (Nat × Value)) (pc : Nat) (st : List Value) : Prop :=
  ∀ (H : Heap) (locs : List Loc) (ls : Array Slot), va_P E.1 vwCl ws H → va_D (kA K) ws → va_S (kA K) (ks K).heap H locs → lv_has ls nL lv → W (kp K) (kl K) (ke K) (kR K) (ks K) (km K) (ka K) (kb K) (kt K) (kc K) H locs (kn K) (ko K) (kQ K) (F0 (km K) pc ls st)
def Cx (K : Kx) (E : Ew) (cc : ByteArray) (nL : Nat) (own : String) (d : Nat) : Prop :=
  (kp K).tables.exec = Jvm.exec ∧ (kc K).code = cc ∧ (kc K).maxLocals = nL ∧ (ks K).vm.findClass own = some (km K).cls ∧ (∀ w ∈ lw_G, w.before (ka K) (ks K) = true) ∧ va_K E.1 vwCl (kT E) (ks K) ∧ (∀ q, (ks K).heap.size ≤ q → kA K q) ∧ Ev E (kA K) (ks K) (ks K).heap ∧ d ≤ (kR K).frames ∧ 40 * d ≤ (kR K).locals ∧ kn K ≤ (kR K).cells ∧ ko K ≤ (kR K).slots
section GR
variable {K : Kx} {E : Ew} {cc : ByteArray} {nL d pc : Nat} {own : String} {ws : va_W} {lv : List (Nat × Value)} {st : List Value}
theorem g_val {v v' : Value} (h : v' = v) (k : G K E nL ws lv pc (v' :: st)) : G K E nL ws lv pc (v :: st) := h ▸ k
theorem g_ws {ws' : va_W} (h : ws' = ws) (k : G K E nL ws' lv pc st) : G K E nL ws lv pc st := h ▸ k
theorem g_lv {lv' : List (Nat × Value)} (ks : List Nat) (h : lv_pick lv ks = lv') (k : G K E nL ws lv' pc st) : G K E nL ws lv pc st := fun H locs ls hP hD hS hl => k H locs ls hP hD hS (lv_sub hl ks h)
theorem g_lve {lv' : List (Nat × Value)} (h : lv' = lv) (k : G K E nL ws lv' pc st) : G K E nL ws lv pc st := h ▸ k
theorem g_iconst (hC : Cx K E cc nL own d) {n : Int} {v : Int32} (hd : decode cc pc = .ok (.iconst n, 1)) (hv : Int32.ofInt n = v) (k : G K E nL ws lv (pc + 1) (.int v :: st)) : G K E nL ws lv pc (st) := fun H locs ls hP hD hS hl => lv_iconst hC.1 hC.2.1 hd hv (k H locs ls hP hD hS hl)
theorem g_bipush (hC : Cx K E cc nL own d) {n : Int} {v : Int32} (hd : decode cc pc = .ok (.bipush n, 2)) (hv : (Int8.ofInt n).toInt32 = v) (k : G K E nL ws lv (pc + 2) (.int v :: st)) : G K E nL ws lv pc (st) := fun H locs ls hP hD hS hl => lv_bipush hC.1 hC.2.1 hd hv (k H locs ls hP hD hS hl)
theorem g_sipush (hC : Cx K E cc nL own d) {n : Int} {v : Int32} (hd : decode cc pc = .ok (.sipush n, 3)) (hv : (Int16.ofInt n).toInt32 = v) (k : G K E nL ws lv (pc + 3) (.int v :: st)) : G K E nL ws lv pc (st) := fun H locs ls hP hD hS hl => lv_sipush hC.1 hC.2.1 hd hv (k H locs ls hP hD hS hl)
theorem g_lconst (hC : Cx K E cc nL own d) {n : Fin 2} {v : Int64} (hd : decode cc pc = .ok (.lconst n, 1)) (hv : Int64.ofNat (n : Nat) = v) (k : G K E nL ws lv (pc + 1) (.long v :: st)) : G K E nL ws lv pc (st) := fun H locs ls hP hD hS hl => lv_lconst hC.1 hC.2.1 hd hv (k H locs ls hP hD hS hl)
theorem g_ldc (hC : Cx K E cc nL own d) {v : Int32} {index : Nat} (hd : decode cc pc = .ok (.ldc index, 2)) (hm : Cond.constant own index v ∈ lw_G) (k : G K E nL ws lv (pc + 2) (.int v :: st)) : G K E nL ws lv pc (st) := fun H locs ls hP hD hS hl => lv_ldc hC.1 hC.2.1 hC.2.2.2.1 (hC.2.2.2.2.1 _ hm) hd (k H locs ls hP hD hS hl)
theorem g_ldc2 (hC : Cx K E cc nL own d) {v : Int64} {index : Nat} (hd : decode cc pc = .ok (.ldc2_w index, 3)) (hm : Cond.constantLong own index v ∈ lw_G) (k : G K E nL ws lv (pc + 3) (.long v :: st)) : G K E nL ws lv pc (st) := fun H locs ls hP hD hS hl => lv_ldc2 hC.1 hC.2.1 hC.2.2.2.1 (hC.2.2.2.2.1 _ hm) hd (k H locs ls hP hD hS hl)
theorem g_iload_n (hC : Cx K E cc nL own d) {j : Fin 4} {i : Nat} {x : Int32} (hd : decode cc pc = .ok (.iload_n j, 1)) (hj : (j : Nat) = i) (q : Nat) (hq : lv[q]? = some (i, .int x)) (k : G K E nL ws lv (pc + 1) (.int x :: st)) : G K E nL ws lv pc (st) := fun H locs ls hP hD hS hl => lv_iload_n hC.1 hC.2.1 hd hj (lv_at hl q hq) (k H locs ls hP hD hS hl)
theorem g_iload (hC : Cx K E cc nL own d) {i : Nat} {x : Int32} (hd : decode cc pc = .ok (.iload i, 2)) (q : Nat) (hq : lv[q]? = some (i, .int x)) (k : G K E nL ws lv (pc + 2) (.int x :: st)) : G K E nL ws lv pc (st) := fun H locs ls hP hD hS hl => lv_iload hC.1 hC.2.1 hd (lv_at hl q hq) (k H locs ls hP hD hS hl)
theorem g_istore_n (hC : Cx K E cc nL own d) {j : Fin 4} {i : Nat} {x : Int32} (lv' : List (Nat × Value)) (hd : decode cc pc = .ok (.istore_n j, 1)) (hj : (j : Nat) = i) (hn : i < nL) (hv : (i, .int x) :: lv.filter (fun q => !(q.1 == i) && !(q.1 + 1 == i && q.2.category == 2)) = lv') (k : G K E nL ws lv' (pc + 1) st) : G K E nL ws lv pc (.int x :: st) := fun H locs ls hP hD hS hl => lv_istore_n hC.1 hC.2.1 hd hj hl hn hv (fun ls' hl' => k H locs ls' hP hD hS hl')
theorem g_istore (hC : Cx K E cc nL own d) {i : Nat} {x : Int32} (lv' : List (Nat × Value)) (hd : decode cc pc = .ok (.istore i, 2)) (hn : i < nL) (hv : (i, .int x) :: lv.filter (fun q => !(q.1 == i) && !(q.1 + 1 == i && q.2.category == 2)) = lv') (k : G K E nL ws lv' (pc + 2) st) : G K E nL ws lv pc (.int x :: st) := fun H locs ls hP hD hS hl => lv_istore hC.1 hC.2.1 hd hl hn hv (fun ls' hl' => k H locs ls' hP hD hS hl')
theorem g_lload_n (hC : Cx K E cc nL own d) {j : Fin 4} {i : Nat} {x : Int64} (hd : decode cc pc = .ok (.lload_n j, 1)) (hj : (j : Nat) = i) (q : Nat) (hq : lv[q]? = some (i, .long x)) (k : G K E nL ws lv (pc + 1) (.long x :: st)) : G K E nL ws lv pc (st) := fun H locs ls hP hD hS hl => lv_lload_n hC.1 hC.2.1 hd hj (lv_at hl q hq) (k H locs ls hP hD hS hl)
theorem g_lload (hC : Cx K E cc nL own d) {i : Nat} {x : Int64} (hd : decode cc pc = .ok (.lload i, 2)) (q : Nat) (hq : lv[q]? = some (i, .long x)) (k : G K E nL ws lv (pc + 2) (.long x :: st)) : G K E nL ws lv pc (st) := fun H locs ls hP hD hS hl => lv_lload hC.1 hC.2.1 hd (lv_at hl q hq) (k H locs ls hP hD hS hl)
theorem g_lstore_n (hC : Cx K E cc nL own d) {j : Fin 4} {i : Nat} {x : Int64} (lv' : List (Nat × Value)) (hd : decode cc pc = .ok (.lstore_n j, 1)) (hj : (j : Nat) = i) (hn : i + 1 < nL) (hv : (i, .long x) :: lv.filter (fun q => !(q.1 == i) && (!(q.1 == i + 1) && !(q.1 + 1 == i && q.2.category == 2))) = lv') (k : G K E nL ws lv' (pc + 1) st) : G K E nL ws lv pc (.long x :: st) := fun H locs ls hP hD hS hl => lv_lstore_n hC.1 hC.2.1 hd hj hl hn hv (fun ls' hl' => k H locs ls' hP hD hS hl')
theorem g_lstore (hC : Cx K E cc nL own d) {i : Nat} {x : Int64} (lv' : List (Nat × Value)) (hd : decode cc pc = .ok (.lstore i, 2)) (hn : i + 1 < nL) (hv : (i, .long x) :: lv.filter (fun q => !(q.1 == i) && (!(q.1 == i + 1) && !(q.1 + 1 == i && q.2.category == 2))) = lv') (k : G K E nL ws lv' (pc + 2) st) : G K E nL ws lv pc (.long x :: st) := fun H locs ls hP hD hS hl => lv_lstore hC.1 hC.2.1 hd hl hn hv (fun ls' hl' => k H locs ls' hP hD hS hl')
theorem g_aload_n (hC : Cx K E cc nL own d) {j : Fin 4} {i : Nat} {x : Nat} (hd : decode cc pc = .ok (.aload_n j, 1)) (hj : (j : Nat) = i) (q : Nat) (hq : lv[q]? = some (i, .ref x)) (k : G K E nL ws lv (pc + 1) (.ref x :: st)) : G K E nL ws lv pc (st) := fun H locs ls hP hD hS hl => lv_aload_n hC.1 hC.2.1 hd hj (lv_at hl q hq) (k H locs ls hP hD hS hl)
theorem g_aload (hC : Cx K E cc nL own d) {i : Nat} {x : Nat} (hd : decode cc pc = .ok (.aload i, 2)) (q : Nat) (hq : lv[q]? = some (i, .ref x)) (k : G K E nL ws lv (pc + 2) (.ref x :: st)) : G K E nL ws lv pc (st) := fun H locs ls hP hD hS hl => lv_aload hC.1 hC.2.1 hd (lv_at hl q hq) (k H locs ls hP hD hS hl)
theorem g_astore_n (hC : Cx K E cc nL own d) {j : Fin 4} {i : Nat} {x : Nat} (lv' : List (Nat × Value)) (hd : decode cc pc = .ok (.astore_n j, 1)) (hj : (j : Nat) = i) (hn : i < nL) (hv : (i, .ref x) :: lv.filter (fun q => !(q.1 == i) && !(q.1 + 1 == i && q.2.category == 2)) = lv') (k : G K E nL ws lv' (pc + 1) st) : G K E nL ws lv pc (.ref x :: st) := fun H locs ls hP hD hS hl => lv_astore_n hC.1 hC.2.1 hd hj hl hn hv (fun ls' hl' => k H locs ls' hP hD hS hl')
theorem g_astore (hC : Cx K E cc nL own d) {i : Nat} {x : Nat} (lv' : List (Nat × Value)) (hd : decode cc pc = .ok (.astore i, 2)) (hn : i < nL) (hv : (i, .ref x) :: lv.filter (fun q => !(q.1 == i) && !(q.1 + 1 == i && q.2.category == 2)) = lv') (k : G K E nL ws lv' (pc + 2) st) : G K E nL ws lv pc (.ref x :: st) := fun H locs ls hP hD hS hl => lv_astore hC.1 hC.2.1 hd hl hn hv (fun ls' hl' => k H locs ls' hP hD hS hl')
theorem g_iinc (hC : Cx K E cc nL own d) {i q : Nat} {n : Int} {x v : Int32} (lv' : List (Nat × Value)) (hd : decode cc pc = .ok (.iinc i n, 3)) (hq : lv[q]? = some (i, .int x)) (hv : x + Int32.ofInt n = v) (hn : i < nL) (hl' : (i, Value.int v) :: lv.filter (fun q => !(q.1 == i) && !(q.1 + 1 == i && q.2.category == 2)) = lv') (k : G K E nL ws lv' (pc + 3) st) : G K E nL ws lv pc st := fun H locs ls hP hD hS hl => lv_iinc hC.1 hC.2.1 hd hl hq hv hn hl' (fun ls' h => k H locs ls' hP hD hS h)
theorem g_iadd (hC : Cx K E cc nL own d) {x y : Int32} (hd : decode cc pc = .ok (.iadd, 1)) (k : G K E nL ws lv (pc + 1) (.int (x + y) :: st)) : G K E nL ws lv pc (.int y :: .int x :: st) := fun H locs ls hP hD hS hl => lv_iadd hC.1 hC.2.1 hd (k H locs ls hP hD hS hl)
theorem g_isub (hC : Cx K E cc nL own d) {x y : Int32} (hd : decode cc pc = .ok (.isub, 1)) (k : G K E nL ws lv (pc + 1) (.int (x - y) :: st)) : G K E nL ws lv pc (.int y :: .int x :: st) := fun H locs ls hP hD hS hl => lv_isub hC.1 hC.2.1 hd (k H locs ls hP hD hS hl)
theorem g_imul (hC : Cx K E cc nL own d) {x y : Int32} (hd : decode cc pc = .ok (.imul, 1)) (k : G K E nL ws lv (pc + 1) (.int (x * y) :: st)) : G K E nL ws lv pc (.int y :: .int x :: st) := fun H locs ls hP hD hS hl => lv_imul hC.1 hC.2.1 hd (k H locs ls hP hD hS hl)
theorem g_iand (hC : Cx K E cc nL own d) {x y : Int32} (hd : decode cc pc = .ok (.iand, 1)) (k : G K E nL ws lv (pc + 1) (.int (x &&& y) :: st)) : G K E nL ws lv pc (.int y :: .int x :: st) := fun H locs ls hP hD hS hl => lv_iand hC.1 hC.2.1 hd (k H locs ls hP hD hS hl)
theorem g_ior (hC : Cx K E cc nL own d) {x y : Int32} (hd : decode cc pc = .ok (.ior, 1)) (k : G K E nL ws lv (pc + 1) (.int (x ||| y) :: st)) : G K E nL ws lv pc (.int y :: .int x :: st) := fun H locs ls hP hD hS hl => lv_ior hC.1 hC.2.1 hd (k H locs ls hP hD hS hl)
theorem g_ixor (hC : Cx K E cc nL own d) {x y : Int32} (hd : decode cc pc = .ok (.ixor, 1)) (k : G K E nL ws lv (pc + 1) (.int (x ^^^ y) :: st)) : G K E nL ws lv pc (.int y :: .int x :: st) := fun H locs ls hP hD hS hl => lv_ixor hC.1 hC.2.1 hd (k H locs ls hP hD hS hl)
theorem g_ishl (hC : Cx K E cc nL own d) {x y : Int32} (hd : decode cc pc = .ok (.ishl, 1)) (k : G K E nL ws lv (pc + 1) (.int (x <<< (y &&& 31)) :: st)) : G K E nL ws lv pc (.int y :: .int x :: st) := fun H locs ls hP hD hS hl => lv_ishl hC.1 hC.2.1 hd (k H locs ls hP hD hS hl)
theorem g_ishr (hC : Cx K E cc nL own d) {x y : Int32} (hd : decode cc pc = .ok (.ishr, 1)) (k : G K E nL ws lv (pc + 1) (.int (x >>> (y &&& 31)) :: st)) : G K E nL ws lv pc (.int y :: .int x :: st) := fun H locs ls hP hD hS hl => lv_ishr hC.1 hC.2.1 hd (k H locs ls hP hD hS hl)
theorem g_idiv (hC : Cx K E cc nL own d) {x y : Int32} (hd : decode cc pc = .ok (.idiv, 1)) (hne : ¬ y = 0) (k : G K E nL ws lv (pc + 1) (.int (x / y) :: st)) : G K E nL ws lv pc (.int y :: .int x :: st) := fun H locs ls hP hD hS hl => lv_idiv hC.1 hC.2.1 hd hne (k H locs ls hP hD hS hl)
theorem g_irem (hC : Cx K E cc nL own d) {x y : Int32} (hd : decode cc pc = .ok (.irem, 1)) (hne : ¬ y = 0) (k : G K E nL ws lv (pc + 1) (.int (x - x / y * y) :: st)) : G K E nL ws lv pc (.int y :: .int x :: st) := fun H locs ls hP hD hS hl => lv_irem hC.1 hC.2.1 hd hne (k H locs ls hP hD hS hl)
theorem g_ladd (hC : Cx K E cc nL own d) {x y : Int64} (hd : decode cc pc = .ok (.ladd, 1)) (k : G K E nL ws lv (pc + 1) (.long (x + y) :: st)) : G K E nL ws lv pc (.long y :: .long x :: st) := fun H locs ls hP hD hS hl => lv_ladd hC.1 hC.2.1 hd (k H locs ls hP hD hS hl)
theorem g_lsub (hC : Cx K E cc nL own d) {x y : Int64} (hd : decode cc pc = .ok (.lsub, 1)) (k : G K E nL ws lv (pc + 1) (.long (x - y) :: st)) : G K E nL ws lv pc (.long y :: .long x :: st) := fun H locs ls hP hD hS hl => lv_lsub hC.1 hC.2.1 hd (k H locs ls hP hD hS hl)
theorem g_lmul (hC : Cx K E cc nL own d) {x y : Int64} (hd : decode cc pc = .ok (.lmul, 1)) (k : G K E nL ws lv (pc + 1) (.long (x * y) :: st)) : G K E nL ws lv pc (.long y :: .long x :: st) := fun H locs ls hP hD hS hl => lv_lmul hC.1 hC.2.1 hd (k H locs ls hP hD hS hl)
theorem g_ldiv (hC : Cx K E cc nL own d) {x y : Int64} (hd : decode cc pc = .ok (.ldiv, 1)) (hne : ¬ y = 0) (k : G K E nL ws lv (pc + 1) (.long (x / y) :: st)) : G K E nL ws lv pc (.long y :: .long x :: st) := fun H locs ls hP hD hS hl => lv_ldiv hC.1 hC.2.1 hd hne (k H locs ls hP hD hS hl)
theorem g_lrem (hC : Cx K E cc nL own d) {x y : Int64} (hd : decode cc pc = .ok (.lrem, 1)) (hne : ¬ y = 0) (k : G K E nL ws lv (pc + 1) (.long (x - x / y * y) :: st)) : G K E nL ws lv pc (.long y :: .long x :: st) := fun H locs ls hP hD hS hl => lv_lrem hC.1 hC.2.1 hd hne (k H locs ls hP hD hS hl)
theorem g_ineg (hC : Cx K E cc nL own d) {x : Int32} (hd : decode cc pc = .ok (.ineg, 1)) (k : G K E nL ws lv (pc + 1) (.int (-x) :: st)) : G K E nL ws lv pc (.int x :: st) := fun H locs ls hP hD hS hl => lv_ineg hC.1 hC.2.1 hd (k H locs ls hP hD hS hl)
theorem g_i2l (hC : Cx K E cc nL own d) {x : Int32} (hd : decode cc pc = .ok (.i2l, 1)) (k : G K E nL ws lv (pc + 1) (.long x.toInt64 :: st)) : G K E nL ws lv pc (.int x :: st) := fun H locs ls hP hD hS hl => lv_i2l hC.1 hC.2.1 hd rfl (k H locs ls hP hD hS hl)
theorem g_l2i (hC : Cx K E cc nL own d) {x : Int64} (hd : decode cc pc = .ok (.l2i, 1)) (k : G K E nL ws lv (pc + 1) (.int x.toInt32 :: st)) : G K E nL ws lv pc (.long x :: st) := fun H locs ls hP hD hS hl => lv_l2i hC.1 hC.2.1 hd rfl (k H locs ls hP hD hS hl)
theorem g_i2b (hC : Cx K E cc nL own d) {x : Int32} (hd : decode cc pc = .ok (.i2b, 1)) (k : G K E nL ws lv (pc + 1) (.int x.toInt8.toInt32 :: st)) : G K E nL ws lv pc (.int x :: st) := fun H locs ls hP hD hS hl => lv_i2b hC.1 hC.2.1 hd rfl (k H locs ls hP hD hS hl)
theorem g_i2c (hC : Cx K E cc nL own d) {x : Int32} (hd : decode cc pc = .ok (.i2c, 1)) (k : G K E nL ws lv (pc + 1) (.int (x.toUInt32 % 65536).toInt32 :: st)) : G K E nL ws lv pc (.int x :: st) := fun H locs ls hP hD hS hl => lv_i2c hC.1 hC.2.1 hd rfl (k H locs ls hP hD hS hl)
theorem g_iushr (hC : Cx K E cc nL own d) {x y : Int32} (hd : decode cc pc = .ok (.iushr, 1)) (k : G K E nL ws lv (pc + 1) (.int (x.toUInt32 >>> (y.toUInt32 &&& Int32.toUInt32 31)).toInt32 :: st)) : G K E nL ws lv pc (.int y :: .int x :: st) := fun H locs ls hP hD hS hl => lv_iushr hC.1 hC.2.1 hd rfl (k H locs ls hP hD hS hl)
theorem g_lcmp (hC : Cx K E cc nL own d) {x y : Int64} (hd : decode cc pc = .ok (.lcmp, 1)) (k : G K E nL ws lv (pc + 1) (.int (lg_cmp x y) :: st)) : G K E nL ws lv pc (.long y :: .long x :: st) := fun H locs ls hP hD hS hl => W.lcmp hC.1 hC.2.1 hd (k H locs ls hP hD hS hl)
theorem g_dup (hC : Cx K E cc nL own d) {a : Value} (hd : decode cc pc = .ok (.dup, 1)) (ha : a.category = 1) (k : G K E nL ws lv (pc + 1) (a :: a :: st)) : G K E nL ws lv pc (a :: st) := fun H locs ls hP hD hS hl => lv_dup hC.1 hC.2.1 hd ha (k H locs ls hP hD hS hl)
theorem g_pop (hC : Cx K E cc nL own d) {a : Value} (hd : decode cc pc = .ok (.pop, 1)) (ha : a.category = 1) (k : G K E nL ws lv (pc + 1) (st)) : G K E nL ws lv pc (a :: st) := fun H locs ls hP hD hS hl => lv_pop hC.1 hC.2.1 hd ha (k H locs ls hP hD hS hl)
theorem g_dup2 (hC : Cx K E cc nL own d) {a b : Value} (hd : decode cc pc = .ok (.dup2, 1)) (ha : a.category = 1) (hb : b.category = 1) (k : G K E nL ws lv (pc + 1) (a :: b :: a :: b :: st)) : G K E nL ws lv pc (a :: b :: st) := fun H locs ls hP hD hS hl => lv_dup2_11 hC.1 hC.2.1 hd ha hb (k H locs ls hP hD hS hl)
theorem g_if_eq (hC : Cx K E cc nL own d) {x : Int32} {off : Int} {tgt : Nat} (hd : decode cc pc = .ok (.ifCond .eq off, 3)) (ht : (pc : Int) + off = (tgt : Int)) (kt : x = 0 → G K E nL ws lv tgt st) (kf : ¬ x = 0 → G K E nL ws lv (pc + 3) st) : G K E nL ws lv pc (.int x :: st) := fun H locs ls hP hD hS hl => lv_if_eq hC.1 hC.2.1 hd ht (fun h => kt h H locs ls hP hD hS hl) (fun h => kf h H locs ls hP hD hS hl)
theorem g_icmp_eq (hC : Cx K E cc nL own d) {x y : Int32} {off : Int} {tgt : Nat} (hd : decode cc pc = .ok (.if_icmp .eq off, 3)) (ht : (pc : Int) + off = (tgt : Int)) (kt : x = y → G K E nL ws lv tgt st) (kf : ¬ x = y → G K E nL ws lv (pc + 3) st) : G K E nL ws lv pc (.int y :: .int x :: st) := fun H locs ls hP hD hS hl => lv_icmp_eq hC.1 hC.2.1 hd ht (fun h => kt h H locs ls hP hD hS hl) (fun h => kf h H locs ls hP hD hS hl)
theorem g_if_ne (hC : Cx K E cc nL own d) {x : Int32} {off : Int} {tgt : Nat} (hd : decode cc pc = .ok (.ifCond .ne off, 3)) (ht : (pc : Int) + off = (tgt : Int)) (kt : ¬ x = 0 → G K E nL ws lv tgt st) (kf : x = 0 → G K E nL ws lv (pc + 3) st) : G K E nL ws lv pc (.int x :: st) := fun H locs ls hP hD hS hl => lv_if_ne hC.1 hC.2.1 hd ht (fun h => kt h H locs ls hP hD hS hl) (fun h => kf h H locs ls hP hD hS hl)
theorem g_icmp_ne (hC : Cx K E cc nL own d) {x y : Int32} {off : Int} {tgt : Nat} (hd : decode cc pc = .ok (.if_icmp .ne off, 3)) (ht : (pc : Int) + off = (tgt : Int)) (kt : ¬ x = y → G K E nL ws lv tgt st) (kf : x = y → G K E nL ws lv (pc + 3) st) : G K E nL ws lv pc (.int y :: .int x :: st) := fun H locs ls hP hD hS hl => lv_icmp_ne hC.1 hC.2.1 hd ht (fun h => kt h H locs ls hP hD hS hl) (fun h => kf h H locs ls hP hD hS hl)
theorem g_if_lt (hC : Cx K E cc nL own d) {x : Int32} {off : Int} {tgt : Nat} (hd : decode cc pc = .ok (.ifCond .lt off, 3)) (ht : (pc : Int) + off = (tgt : Int)) (kt : x < 0 → G K E nL ws lv tgt st) (kf : ¬ x < 0 → G K E nL ws lv (pc + 3) st) : G K E nL ws lv pc (.int x :: st) := fun H locs ls hP hD hS hl => lv_if_lt hC.1 hC.2.1 hd ht (fun h => kt h H locs ls hP hD hS hl) (fun h => kf h H locs ls hP hD hS hl)
theorem g_icmp_lt (hC : Cx K E cc nL own d) {x y : Int32} {off : Int} {tgt : Nat} (hd : decode cc pc = .ok (.if_icmp .lt off, 3)) (ht : (pc : Int) + off = (tgt : Int)) (kt : x < y → G K E nL ws lv tgt st) (kf : ¬ x < y → G K E nL ws lv (pc + 3) st) : G K E nL ws lv pc (.int y :: .int x :: st) := fun H locs ls hP hD hS hl => lv_icmp_lt hC.1 hC.2.1 hd ht (fun h => kt h H locs ls hP hD hS hl) (fun h => kf h H locs ls hP hD hS hl)
theorem g_if_ge (hC : Cx K E cc nL own d) {x : Int32} {off : Int} {tgt : Nat} (hd : decode cc pc = .ok (.ifCond .ge off, 3)) (ht : (pc : Int) + off = (tgt : Int)) (kt : 0 ≤ x → G K E nL ws lv tgt st) (kf : ¬ 0 ≤ x → G K E nL ws lv (pc + 3) st) : G K E nL ws lv pc (.int x :: st) := fun H locs ls hP hD hS hl => lv_if_ge hC.1 hC.2.1 hd ht (fun h => kt h H locs ls hP hD hS hl) (fun h => kf h H locs ls hP hD hS hl)
theorem g_icmp_ge (hC : Cx K E cc nL own d) {x y : Int32} {off : Int} {tgt : Nat} (hd : decode cc pc = .ok (.if_icmp .ge off, 3)) (ht : (pc : Int) + off = (tgt : Int)) (kt : y ≤ x → G K E nL ws lv tgt st) (kf : ¬ y ≤ x → G K E nL ws lv (pc + 3) st) : G K E nL ws lv pc (.int y :: .int x :: st) := fun H locs ls hP hD hS hl => lv_icmp_ge hC.1 hC.2.1 hd ht (fun h => kt h H locs ls hP hD hS hl) (fun h => kf h H locs ls hP hD hS hl)
theorem g_if_gt (hC : Cx K E cc nL own d) {x : Int32} {off : Int} {tgt : Nat} (hd : decode cc pc = .ok (.ifCond .gt off, 3)) (ht : (pc : Int) + off = (tgt : Int)) (kt : 0 < x → G K E nL ws lv tgt st) (kf : ¬ 0 < x → G K E nL ws lv (pc + 3) st) : G K E nL ws lv pc (.int x :: st) := fun H locs ls hP hD hS hl => lv_if_gt hC.1 hC.2.1 hd ht (fun h => kt h H locs ls hP hD hS hl) (fun h => kf h H locs ls hP hD hS hl)
theorem g_icmp_gt (hC : Cx K E cc nL own d) {x y : Int32} {off : Int} {tgt : Nat} (hd : decode cc pc = .ok (.if_icmp .gt off, 3)) (ht : (pc : Int) + off = (tgt : Int)) (kt : y < x → G K E nL ws lv tgt st) (kf : ¬ y < x → G K E nL ws lv (pc + 3) st) : G K E nL ws lv pc (.int y :: .int x :: st) := fun H locs ls hP hD hS hl => lv_icmp_gt hC.1 hC.2.1 hd ht (fun h => kt h H locs ls hP hD hS hl) (fun h => kf h H locs ls hP hD hS hl)
theorem g_if_le (hC : Cx K E cc nL own d) {x : Int32} {off : Int} {tgt : Nat} (hd : decode cc pc = .ok (.ifCond .le off, 3)) (ht : (pc : Int) + off = (tgt : Int)) (kt : x ≤ 0 → G K E nL ws lv tgt st) (kf : ¬ x ≤ 0 → G K E nL ws lv (pc + 3) st) : G K E nL ws lv pc (.int x :: st) := fun H locs ls hP hD hS hl => lv_if_le hC.1 hC.2.1 hd ht (fun h => kt h H locs ls hP hD hS hl) (fun h => kf h H locs ls hP hD hS hl)
theorem g_icmp_le (hC : Cx K E cc nL own d) {x y : Int32} {off : Int} {tgt : Nat} (hd : decode cc pc = .ok (.if_icmp .le off, 3)) (ht : (pc : Int) + off = (tgt : Int)) (kt : x ≤ y → G K E nL ws lv tgt st) (kf : ¬ x ≤ y → G K E nL ws lv (pc + 3) st) : G K E nL ws lv pc (.int y :: .int x :: st) := fun H locs ls hP hD hS hl => lv_icmp_le hC.1 hC.2.1 hd ht (fun h => kt h H locs ls hP hD hS hl) (fun h => kf h H locs ls hP hD hS hl)
theorem g_icmp_eqN (hC : Cx K E cc nL own d) {a b : Nat} {off : Int} {tgt : Nat} (hd : decode cc pc = .ok (.if_icmp .eq off, 3)) (ht : (pc : Int) + off = (tgt : Int)) (ha : a < 2147483648) (hb : b < 2147483648) (kt : a = b → G K E nL ws lv tgt st) (kf : a ≠ b → G K E nL ws lv (pc + 3) st) : G K E nL ws lv pc (.int (nI b) :: .int (nI a) :: st) := g_icmp_eq hC hd ht (fun h => kt (by have := (nI_eq ha hb).mp h; omega)) (fun h => kf (by have := mt (nI_eq ha hb).mpr h; omega))
theorem g_if_eqN (hC : Cx K E cc nL own d) {a : Nat} {off : Int} {tgt : Nat} (hd : decode cc pc = .ok (.ifCond .eq off, 3)) (ht : (pc : Int) + off = (tgt : Int)) (ha : a < 2147483648) (kt : a = 0 → G K E nL ws lv tgt st) (kf : a ≠ 0 → G K E nL ws lv (pc + 3) st) : G K E nL ws lv pc (.int (nI a) :: st) := by
  have hb : (0 : Nat) < 2147483648 := by decide
  exact g_if_eq hC hd ht (fun h => kt (by have := (nI_eq ha hb).mp h; omega)) (fun h => kf (by have := mt (nI_eq ha hb).mpr h; omega))
theorem g_icmp_neN (hC : Cx K E cc nL own d) {a b : Nat} {off : Int} {tgt : Nat} (hd : decode cc pc = .ok (.if_icmp .ne off, 3)) (ht : (pc : Int) + off = (tgt : Int)) (ha : a < 2147483648) (hb : b < 2147483648) (kt : a ≠ b → G K E nL ws lv tgt st) (kf : a = b → G K E nL ws lv (pc + 3) st) : G K E nL ws lv pc (.int (nI b) :: .int (nI a) :: st) := g_icmp_ne hC hd ht (fun h => kt (by have := (not_congr (nI_eq ha hb)).mp h; omega)) (fun h => kf (by have := mt (not_congr (nI_eq ha hb)).mpr (fun q => q h); omega))
theorem g_if_neN (hC : Cx K E cc nL own d) {a : Nat} {off : Int} {tgt : Nat} (hd : decode cc pc = .ok (.ifCond .ne off, 3)) (ht : (pc : Int) + off = (tgt : Int)) (ha : a < 2147483648) (kt : a ≠ 0 → G K E nL ws lv tgt st) (kf : a = 0 → G K E nL ws lv (pc + 3) st) : G K E nL ws lv pc (.int (nI a) :: st) := by
  have hb : (0 : Nat) < 2147483648 := by decide
  exact g_if_ne hC hd ht (fun h => kt (by have := (not_congr (nI_eq ha hb)).mp h; omega)) (fun h => kf (by have := mt (not_congr (nI_eq ha hb)).mpr (fun q => q h); omega))
theorem g_icmp_ltN (hC : Cx K E cc nL own d) {a b : Nat} {off : Int} {tgt : Nat} (hd : decode cc pc = .ok (.if_icmp .lt off, 3)) (ht : (pc : Int) + off = (tgt : Int)) (ha : a < 2147483648) (hb : b < 2147483648) (kt : a < b → G K E nL ws lv tgt st) (kf : b ≤ a → G K E nL ws lv (pc + 3) st) : G K E nL ws lv pc (.int (nI b) :: .int (nI a) :: st) := g_icmp_lt hC hd ht (fun h => kt (by have := (nI_ltI ha hb).mp h; omega)) (fun h => kf (by have := mt (nI_ltI ha hb).mpr h; omega))
theorem g_if_ltN (hC : Cx K E cc nL own d) {a : Nat} {off : Int} {tgt : Nat} (hd : decode cc pc = .ok (.ifCond .lt off, 3)) (ht : (pc : Int) + off = (tgt : Int)) (ha : a < 2147483648) (kt : a < 0 → G K E nL ws lv tgt st) (kf : 0 ≤ a → G K E nL ws lv (pc + 3) st) : G K E nL ws lv pc (.int (nI a) :: st) := by
  have hb : (0 : Nat) < 2147483648 := by decide
  exact g_if_lt hC hd ht (fun h => kt (by have := (nI_ltI ha hb).mp h; omega)) (fun h => kf (by have := mt (nI_ltI ha hb).mpr h; omega))
theorem g_icmp_geN (hC : Cx K E cc nL own d) {a b : Nat} {off : Int} {tgt : Nat} (hd : decode cc pc = .ok (.if_icmp .ge off, 3)) (ht : (pc : Int) + off = (tgt : Int)) (ha : a < 2147483648) (hb : b < 2147483648) (kt : b ≤ a → G K E nL ws lv tgt st) (kf : a < b → G K E nL ws lv (pc + 3) st) : G K E nL ws lv pc (.int (nI b) :: .int (nI a) :: st) := g_icmp_ge hC hd ht (fun h => kt (by have := (nI_leI hb ha).mp h; omega)) (fun h => kf (by have := mt (nI_leI hb ha).mpr h; omega))
theorem g_if_geN (hC : Cx K E cc nL own d) {a : Nat} {off : Int} {tgt : Nat} (hd : decode cc pc = .ok (.ifCond .ge off, 3)) (ht : (pc : Int) + off = (tgt : Int)) (ha : a < 2147483648) (kt : 0 ≤ a → G K E nL ws lv tgt st) (kf : a < 0 → G K E nL ws lv (pc + 3) st) : G K E nL ws lv pc (.int (nI a) :: st) := by
  have hb : (0 : Nat) < 2147483648 := by decide
  exact g_if_ge hC hd ht (fun h => kt (by have := (nI_leI hb ha).mp h; omega)) (fun h => kf (by have := mt (nI_leI hb ha).mpr h; omega))
theorem g_icmp_gtN (hC : Cx K E cc nL own d) {a b : Nat} {off : Int} {tgt : Nat} (hd : decode cc pc = .ok (.if_icmp .gt off, 3)) (ht : (pc : Int) + off = (tgt : Int)) (ha : a < 2147483648) (hb : b < 2147483648) (kt : b < a → G K E nL ws lv tgt st) (kf : a ≤ b → G K E nL ws lv (pc + 3) st) : G K E nL ws lv pc (.int (nI b) :: .int (nI a) :: st) := g_icmp_gt hC hd ht (fun h => kt (by have := (nI_ltI hb ha).mp h; omega)) (fun h => kf (by have := mt (nI_ltI hb ha).mpr h; omega))
theorem g_if_gtN (hC : Cx K E cc nL own d) {a : Nat} {off : Int} {tgt : Nat} (hd : decode cc pc = .ok (.ifCond .gt off, 3)) (ht : (pc : Int) + off = (tgt : Int)) (ha : a < 2147483648) (kt : 0 < a → G K E nL ws lv tgt st) (kf : a ≤ 0 → G K E nL ws lv (pc + 3) st) : G K E nL ws lv pc (.int (nI a) :: st) := by
  have hb : (0 : Nat) < 2147483648 := by decide
  exact g_if_gt hC hd ht (fun h => kt (by have := (nI_ltI hb ha).mp h; omega)) (fun h => kf (by have := mt (nI_ltI hb ha).mpr h; omega))
theorem g_icmp_leN (hC : Cx K E cc nL own d) {a b : Nat} {off : Int} {tgt : Nat} (hd : decode cc pc = .ok (.if_icmp .le off, 3)) (ht : (pc : Int) + off = (tgt : Int)) (ha : a < 2147483648) (hb : b < 2147483648) (kt : a ≤ b → G K E nL ws lv tgt st) (kf : b < a → G K E nL ws lv (pc + 3) st) : G K E nL ws lv pc (.int (nI b) :: .int (nI a) :: st) := g_icmp_le hC hd ht (fun h => kt (by have := (nI_leI ha hb).mp h; omega)) (fun h => kf (by have := mt (nI_leI ha hb).mpr h; omega))
theorem g_if_leN (hC : Cx K E cc nL own d) {a : Nat} {off : Int} {tgt : Nat} (hd : decode cc pc = .ok (.ifCond .le off, 3)) (ht : (pc : Int) + off = (tgt : Int)) (ha : a < 2147483648) (kt : a ≤ 0 → G K E nL ws lv tgt st) (kf : 0 < a → G K E nL ws lv (pc + 3) st) : G K E nL ws lv pc (.int (nI a) :: st) := by
  have hb : (0 : Nat) < 2147483648 := by decide
  exact g_if_le hC hd ht (fun h => kt (by have := (nI_leI ha hb).mp h; omega)) (fun h => kf (by have := mt (nI_leI ha hb).mpr h; omega))
theorem g_goto (hC : Cx K E cc nL own d) {off : Int} {tgt : Nat} (hd : decode cc pc = .ok (.goto off, 3)) (ht : (pc : Int) + off = (tgt : Int)) (k : G K E nL ws lv tgt st) : G K E nL ws lv pc st := fun H locs ls hP hD hS hl => lv_goto hC.1 hC.2.1 hd ht (k H locs ls hP hD hS hl)
theorem g_tabOut (hC : Cx K E cc nL own d) {dflt lo hi : Int} {offs : Array Int} {len : Nat} {x : Int32} {tgt : Nat} (hd : decode cc pc = .ok (.tableswitch dflt lo hi offs, len)) (h : x.toInt < lo ∨ hi < x.toInt) (ht : (pc : Int) + dflt = (tgt : Int)) (k : G K E nL ws lv tgt st) : G K E nL ws lv pc (.int x :: st) := fun H locs ls hP hD hS hl => lv_tableOut hC.1 hC.2.1 hd h ht (k H locs ls hP hD hS hl)
theorem g_tabIn (hC : Cx K E cc nL own d) {dflt lo hi : Int} {offs : Array Int} {len : Nat} {x : Int32} {off : Int} {tgt : Nat} (hd : decode cc pc = .ok (.tableswitch dflt lo hi offs, len)) (h1 : ¬ x.toInt < lo) (h2 : ¬ hi < x.toInt) (ho : offs[(x.toInt - lo).toNat]? = some off) (ht : (pc : Int) + off = (tgt : Int)) (k : G K E nL ws lv tgt st) : G K E nL ws lv pc (.int x :: st) := fun H locs ls hP hD hS hl => lv_tableIn hC.1 hC.2.1 hd h1 h2 ho ht (k H locs ls hP hD hS hl)
theorem g_iaddN (hC : Cx K E cc nL own d) {a b : Nat} (hd : decode cc pc = .ok (.iadd, 1)) (k : G K E nL ws lv (pc + 1) (.int (nI (a + b)) :: st)) : G K E nL ws lv pc (.int (nI b) :: .int (nI a) :: st) := g_iadd hC hd (by rw [nI_add]; exact k)
theorem g_isubN (hC : Cx K E cc nL own d) {a b : Nat} (hd : decode cc pc = .ok (.isub, 1)) (h : b ≤ a) (k : G K E nL ws lv (pc + 1) (.int (nI (a - b)) :: st)) : G K E nL ws lv pc (.int (nI b) :: .int (nI a) :: st) := g_isub hC hd (by rw [pk_sub h]; exact k)
theorem g_imulN (hC : Cx K E cc nL own d) {a b : Nat} (hd : decode cc pc = .ok (.imul, 1)) (k : G K E nL ws lv (pc + 1) (.int (nI (a * b)) :: st)) : G K E nL ws lv pc (.int (nI b) :: .int (nI a) :: st) := g_imul hC hd (by rw [pk_mul]; exact k)
theorem g_idivN (hC : Cx K E cc nL own d) {a b : Nat} (hd : decode cc pc = .ok (.idiv, 1)) (ha : a < 2147483648) (h0 : 0 < b) (hb : b < 2147483648) (k : G K E nL ws lv (pc + 1) (.int (nI (a / b)) :: st)) : G K E nL ws lv pc (.int (nI b) :: .int (nI a) :: st) := g_idiv hC hd (nI_ne0 h0 hb) (by rw [pk_div ha h0 hb]; exact k)
theorem g_iremN (hC : Cx K E cc nL own d) {a b : Nat} (hd : decode cc pc = .ok (.irem, 1)) (ha : a < 2147483648) (h0 : 0 < b) (hb : b < 2147483648) (k : G K E nL ws lv (pc + 1) (.int (nI (a % b)) :: st)) : G K E nL ws lv pc (.int (nI b) :: .int (nI a) :: st) := g_irem hC hd (nI_ne0 h0 hb) (by rw [pk_rem ha h0 hb]; exact k)
theorem g_iincN (hC : Cx K E cc nL own d) {i q a : Nat} (n : Nat) {z : Int} (lv' : List (Nat × Value)) (hd : decode cc pc = .ok (.iinc i z, 3)) (hz : Int32.ofInt z = nI n) (hq : lv[q]? = some (i, .int (nI a))) (hn : i < nL) (hl' : (i, Value.int (nI (a + n))) :: lv.filter (fun q => !(q.1 == i) && !(q.1 + 1 == i && q.2.category == 2)) = lv') (k : G K E nL ws lv' (pc + 3) st) : G K E nL ws lv pc st := g_iinc hC lv' hd hq (by rw [hz, nI_add]) hn hl' k
theorem g_get (hC : Cx K E cc nL own d) (q0 ci f : Nat) {a index n : Nat} {fs : List Value} {C : String} {T : u_T} {v : Value} (hin : ∀ w ∈ u_ws C T n, w ∈ lw_G) (hm : Cond.fieldLink own index (T f).1 (T f).2.1 (T f).2.2.1 ∈ lw_G) (hd : decode cc pc = .ok (.getfield index, 3)) (he : ws[q0]? = some (a, .inr (ci, fs))) (hc : vwCl[ci]? = some (C, T, n)) (hf : f < n) (hv : fs[f]? = some v) (k : G K E nL ws lv (pc + 3) (v :: st)) : G K E nL ws lv pc (.ref a :: st) := fun H locs ls hP hD hS hl => va_get (D := E.1) hC.1 hC.2.1 hC.2.2.2.2.1 hin hC.2.2.2.1 hC.2.2.2.2.2.1 hP q0 he hc f hf (hC.2.2.2.2.1 _ hm) (fun _ h => h) hv hd (k H locs ls hP hD hS hl)
theorem g_put (hC : Cx K E cc nL own d) (q0 ci f : Nat) {a index n : Nat} {fs : List Value} {C : String} {T : u_T} {v : Value} (ws' : va_W) (ty : FieldType) {ty0 : Nat → FieldType} (hin : ∀ w ∈ u_ws C T n, w ∈ lw_G) (hty : ∀ k, k < n → parseFieldDescriptor (T k).2.2.1 = some (ty0 k)) (hnm : ∀ a, a < n → ∀ b, b < n → a ≠ b → (T a).2.1 ≠ (T b).2.1) (hm : Cond.fieldLink own index (T f).1 (T f).2.1 (T f).2.2.1 ∈ lw_G) (hd : decode cc pc = .ok (.putfield index, 3)) (he : ws[q0]? = some (a, .inr (ci, fs))) (hc : vwCl[ci]? = some (C, T, n)) (hf : f < n) (hfin : (T f).2.2.2 = false) (hpd : parseFieldDescriptor (T f).2.2.1 = some ty) (hn : narrow ty v = v) (hfit : fits ty v = true) (hl0 : f < fs.length) (hw : ws.set q0 (a, .inr (ci, fs.set f v)) = ws') (k : G K E nL ws' lv (pc + 3) st) : G K E nL ws lv pc (v :: .ref a :: st) := by
  subst hw
  exact fun H locs ls hP hD hS hl => va_put (D := E.1) hC.1 hC.2.1 hC.2.2.2.2.1 hin ty0 hty hnm hC.2.2.2.1 hC.2.2.2.2.2.1 hP hD hS q0 he hc f hf (hC.2.2.2.2.1 _ hm) (fun _ h => h) hfin hpd hn hfit hl0 hd (fun H1 l1 h1 h2 h3 => k H1 l1 ls h1 h2 h3 hl)
theorem g_iald (hC : Cx K E cc nL own d) (q0 : Nat) {a n : Nat} {f : Nat → Int32} {i : Int32} (hd : decode cc pc = .ok (.iaload, 1)) (he : ws[q0]? = some (a, .inl (E.2.1 0, n, .inl f))) (hi : vp_in i n) (k : G K E nL ws lv (pc + 1) (.int (f i.toNatClampNeg) :: st)) : G K E nL ws lv pc (.int i :: .ref a :: st) := fun H locs ls hP hD hS hl => va_iald (D := E.1) hC.1 hC.2.1 hC.2.2.2.2.2.1 hP q0 0 he rfl hi hd (k H locs ls hP hD hS hl)
theorem g_ialdN (hC : Cx K E cc nL own d) (q0 : Nat) {a n j : Nat} {f : Nat → Int32} (hd : decode cc pc = .ok (.iaload, 1)) (he : ws[q0]? = some (a, .inl (E.2.1 0, n, .inl f))) (hn : n < 2147483648) (hi : j < n) (k : G K E nL ws lv (pc + 1) (.int (f j) :: st)) : G K E nL ws lv pc (.int (nI j) :: .ref a :: st) := g_iald hC q0 hd he (vp_in_nI hi hn) (by rw [nI_clamp (Nat.lt_trans hi hn)]; exact k)
theorem g_bald (hC : Cx K E cc nL own d) (q0 : Nat) {a n : Nat} {f : Nat → Int32} {i : Int32} (hd : decode cc pc = .ok (.baload, 1)) (he : ws[q0]? = some (a, .inl (E.2.1 1, n, .inl f))) (hi : vp_in i n) (k : G K E nL ws lv (pc + 1) (.int (f i.toNatClampNeg) :: st)) : G K E nL ws lv pc (.int i :: .ref a :: st) := fun H locs ls hP hD hS hl => va_bald (D := E.1) hC.1 hC.2.1 hC.2.2.2.2.2.1 hP q0 1 he rfl hi hd (k H locs ls hP hD hS hl)
theorem g_baldN (hC : Cx K E cc nL own d) (q0 : Nat) {a n j : Nat} {f : Nat → Int32} (hd : decode cc pc = .ok (.baload, 1)) (he : ws[q0]? = some (a, .inl (E.2.1 1, n, .inl f))) (hn : n < 2147483648) (hi : j < n) (k : G K E nL ws lv (pc + 1) (.int (f j) :: st)) : G K E nL ws lv pc (.int (nI j) :: .ref a :: st) := g_bald hC q0 hd he (vp_in_nI hi hn) (by rw [nI_clamp (Nat.lt_trans hi hn)]; exact k)
theorem g_zald (hC : Cx K E cc nL own d) (q0 : Nat) {a n : Nat} {f : Nat → Int32} {i : Int32} (hd : decode cc pc = .ok (.baload, 1)) (he : ws[q0]? = some (a, .inl (E.2.1 2, n, .inl f))) (hi : vp_in i n) (k : G K E nL ws lv (pc + 1) (.int (f i.toNatClampNeg) :: st)) : G K E nL ws lv pc (.int i :: .ref a :: st) := fun H locs ls hP hD hS hl => va_zald (D := E.1) hC.1 hC.2.1 hC.2.2.2.2.2.1 hP q0 2 he rfl hi hd (k H locs ls hP hD hS hl)
theorem g_zaldN (hC : Cx K E cc nL own d) (q0 : Nat) {a n j : Nat} {f : Nat → Int32} (hd : decode cc pc = .ok (.baload, 1)) (he : ws[q0]? = some (a, .inl (E.2.1 2, n, .inl f))) (hn : n < 2147483648) (hi : j < n) (k : G K E nL ws lv (pc + 1) (.int (f j) :: st)) : G K E nL ws lv pc (.int (nI j) :: .ref a :: st) := g_zald hC q0 hd he (vp_in_nI hi hn) (by rw [nI_clamp (Nat.lt_trans hi hn)]; exact k)
theorem g_iastN (hC : Cx K E cc nL own d) (q0 : Nat) (ws' : va_W) {a n j : Nat} {f : Nat → Int32} {x : Int32} (hd : decode cc pc = .ok (.iastore, 1)) (he : ws[q0]? = some (a, .inl (E.2.1 0, n, .inl f))) (hn : n < 2147483648) (hi : j < n) (hw : ws.set q0 (a, .inl (E.2.1 0, n, .inl (upd f j x))) = ws') (k : G K E nL ws' lv (pc + 1) st) : G K E nL ws lv pc (.int x :: .int (nI j) :: .ref a :: st) := by
  subst hw
  exact fun H locs ls hP hD hS hl => va_iast (D := E.1) hC.1 hC.2.1 hC.2.2.2.2.2.1 hP hD hS q0 0 he rfl (vp_in_nI hi hn) hd (fun H1 l1 h1 h2 h3 => k H1 l1 ls (by rw [nI_clamp (Nat.lt_trans hi hn)] at h1; exact h1) (by rw [nI_clamp (Nat.lt_trans hi hn)] at h2; exact h2) h3 hl)
theorem g_bastN (hC : Cx K E cc nL own d) (q0 : Nat) (ws' : va_W) {a n j : Nat} {f : Nat → Int32} {x : Int32} (hd : decode cc pc = .ok (.bastore, 1)) (he : ws[q0]? = some (a, .inl (E.2.1 1, n, .inl f))) (hn : n < 2147483648) (hi : j < n) (hw : ws.set q0 (a, .inl (E.2.1 1, n, .inl (upd f j (vp_nar .byte x)))) = ws') (k : G K E nL ws' lv (pc + 1) st) : G K E nL ws lv pc (.int x :: .int (nI j) :: .ref a :: st) := by
  subst hw
  exact fun H locs ls hP hD hS hl => va_bast (D := E.1) hC.1 hC.2.1 hC.2.2.2.2.2.1 hP hD hS q0 1 he rfl (vp_in_nI hi hn) hd (fun H1 l1 h1 h2 h3 => k H1 l1 ls (by rw [nI_clamp (Nat.lt_trans hi hn)] at h1; exact h1) (by rw [nI_clamp (Nat.lt_trans hi hn)] at h2; exact h2) h3 hl)
theorem g_zastN (hC : Cx K E cc nL own d) (q0 : Nat) (ws' : va_W) {a n j : Nat} {f : Nat → Int32} {x : Int32} (hd : decode cc pc = .ok (.bastore, 1)) (he : ws[q0]? = some (a, .inl (E.2.1 2, n, .inl f))) (hn : n < 2147483648) (hi : j < n) (hw : ws.set q0 (a, .inl (E.2.1 2, n, .inl (upd f j (vp_nar .boolean x)))) = ws') (k : G K E nL ws' lv (pc + 1) st) : G K E nL ws lv pc (.int x :: .int (nI j) :: .ref a :: st) := by
  subst hw
  exact fun H locs ls hP hD hS hl => va_zast (D := E.1) hC.1 hC.2.1 hC.2.2.2.2.2.1 hP hD hS q0 2 he rfl (vp_in_nI hi hn) hd (fun H1 l1 h1 h2 h3 => k H1 l1 ls (by rw [nI_clamp (Nat.lt_trans hi hn)] at h1; exact h1) (by rw [nI_clamp (Nat.lt_trans hi hn)] at h2; exact h2) h3 hl)
theorem g_alen (hC : Cx K E cc nL own d) (q0 t0 : Nat) {a : Nat} {cA : ClassId} {x : vp_A} {ty : FieldType} (hd : decode cc pc = .ok (.arraylength, 1)) (he : ws[q0]? = some (a, .inl (cA, x))) (ht : (kT E)[t0]? = some (cA, ty)) (k : G K E nL ws lv (pc + 1) (.int (nI x.1) :: st)) : G K E nL ws lv pc (.ref a :: st) := fun H locs ls hP hD hS hl => va_alen (D := E.1) hC.1 hC.2.1 hC.2.2.2.2.2.1 hP q0 t0 he ht rfl hd (k H locs ls hP hD hS hl)
theorem g_aald (hC : Cx K E cc nL own d) (q0 t0 : Nat) {a n j : Nat} {f : Nat → Option Nat} {C : String} {cA : ClassId} {b : Nat} (hd : decode cc pc = .ok (.aaload, 1)) (he : ws[q0]? = some (a, .inl (cA, n, .inr (.inr (.inr (.inr f)))))) (ht : (kT E)[t0]? = some (cA, .object C)) (hn : n < 2147483648) (hi : j < n) (hf : f j = some b) (k : G K E nL ws lv (pc + 1) (.ref b :: st)) : G K E nL ws lv pc (.int (nI j) :: .ref a :: st) := fun H locs ls hP hD hS hl => va_aldq (D := E.1) hC.1 hC.2.1 hC.2.2.2.2.2.1 hP q0 t0 he ht (vp_in_nI hi hn) hd (by rw [nI_clamp (Nat.lt_trans hi hn), hf]; exact (k H locs ls hP hD hS hl))
end GR
/-! ===== worlds behind a call ===== -/
def wput : va_W → List Nat → va_W → va_W
  | ws, i :: is, x :: xs => wput (ws.set i x) is xs
  | ws, _, _ => ws
theorem wput_get : ∀ (is : List Nat) (xs ws : va_W) (k : Nat) (q : Nat × va_E), is.length = xs.length → (wput ws is xs)[k]? = some q → (∃ j : Nat, is[j]? = some k ∧ xs[j]? = some q) ∨ (k ∉ is ∧ ws[k]? = some q) := by
  intro is
  induction is with
  | nil => intro xs ws k q _ h; exact Or.inr ⟨List.not_mem_nil, by cases xs <;> exact h⟩
  | cons i is ih =>
    intro xs ws k q hl h
    cases xs with
    | nil => simp at hl
    | cons x xs =>
      rcases ih xs (ws.set i x) k q (by simpa using hl) h with ⟨j, h1, h2⟩ | ⟨h1, h2⟩
      · exact Or.inl ⟨j + 1, by simpa using h1, by simpa using h2⟩
      · by_cases hk : k = i
        · subst hk
          rw [List.getElem?_set] at h2
          simp only [if_true] at h2
          split at h2
          · exact Or.inl ⟨0, by simp, by simpa using h2⟩
          · cases h2
        · rw [List.getElem?_set_ne (fun e => hk e.symm)] at h2
          exact Or.inr ⟨by simp [hk, h1], h2⟩
theorem wsel {is : List Nat} {ws wc : va_W} (h : is.map (fun i => ws[i]?) = wc.map some) {j : Nat} {q : Nat × va_E} (hj : wc[j]? = some q) : ∃ i : Nat, is[j]? = some i ∧ ws[i]? = some q := by
  have h1 : (is.map (fun i => ws[i]?))[j]? = (wc.map some)[j]? := by rw [h]
  rw [List.getElem?_map, List.getElem?_map, hj] at h1
  cases hi : is[j]? with
  | none => rw [hi] at h1; simp at h1
  | some i => rw [hi] at h1; simp at h1; exact ⟨i, rfl, h1⟩
theorem wput_P {D : va_G} {cl : List vw_C} {A : Nat → Prop} {is : List Nat} {ws wc wc' : va_W} {H H1 : Heap} (hP : va_P D cl ws H) (hD : va_D A ws) (hs : is.map (fun i => ws[i]?) = wc.map some) (hf : wc'.map Prod.fst = wc.map Prod.fst) (hP1 : va_P D cl wc' H1) (hk : ∀ q : Nat, q < H.size → ¬ va_A wc H.size q → H1[q]? = H[q]?) : va_P D cl (wput ws is wc') H1 := by
  intro k q hq
  have hlen : is.length = wc'.length := by
    have h1 := congrArg List.length hs
    have h2 := congrArg List.length hf
    simp only [List.length_map] at h1 h2
    omega
  rcases wput_get is wc' ws k q hlen hq with ⟨j, -, hx⟩ | ⟨hn, hw⟩
  · exact hP1 j q hx
  · have h := hP k q hw
    refine h.kept (hk q.1 h.lt (fun hA => ?_))
    rcases hA with ⟨j, e, hj⟩ | hge
    · obtain ⟨i, h1, h2⟩ := wsel hs hj
      have hki : k = i := hD.1 k i q (q.1, e) hw h2 rfl
      exact hn (hki ▸ List.mem_of_getElem? h1)
    · exact absurd h.lt (Nat.not_lt.mpr hge)
theorem va_D_fst {A : Nat → Prop} {ws ws' : va_W} (hD : va_D A ws) (hf : ws'.map Prod.fst = ws.map Prod.fst) : va_D A ws' := by
  have key : ∀ (k : Nat) (q : Nat × va_E), ws'[k]? = some q → ∃ r : Nat × va_E, ws[k]? = some r ∧ r.1 = q.1 := by
    intro k q hq
    have h1 : (ws'.map Prod.fst)[k]? = (ws.map Prod.fst)[k]? := by rw [hf]
    rw [List.getElem?_map, List.getElem?_map, hq] at h1
    cases hr : ws[k]? with
    | none => rw [hr] at h1; simp at h1
    | some r => rw [hr] at h1; simp at h1; exact ⟨r, rfl, h1.symm⟩
  refine ⟨fun i j p q hp hq e => ?_, fun k q hq => ?_⟩
  · obtain ⟨p', h1, e1⟩ := key i p hp
    obtain ⟨q', h2, e2⟩ := key j q hq
    exact hD.1 i j p' q' h1 h2 (by rw [e1, e2, e])
  · obtain ⟨r, h1, e1⟩ := key k q hq
    exact e1 ▸ hD.2 k r h1
theorem wsel_P {D : va_G} {cl : List vw_C} {is : List Nat} {ws wc : va_W} {H : Heap} (hP : va_P D cl ws H) (hs : is.map (fun i => ws[i]?) = wc.map some) : va_P D cl wc H := fun j q hj => by
  obtain ⟨i, -, h⟩ := wsel hs hj
  exact hP i q h
theorem lw_gin {X : List Cond} (h : ∀ w ∈ X, w ∈ lw_G) : GoodIn lw_G X := fun w hw => ⟨h w hw, good_of_word (List.mem_filter.mp (h w hw)).2⟩
/-- what the words say of a method: static ones, instance ones -/
abbrev wdD (y : MethodName) (n : Nat) : Prop := y.cls ≠ "java/lang/invoke/MethodHandle" ∧ y.cls ≠ "java/lang/invoke/VarHandle" ∧ (parseMethodDescriptor y.desc).map (fun d => d.parameters.length) = some n
def wdS (y : MethodName) (cc : ByteArray) (nL : Nat) (ret : Option FieldType) (n : Nat) : Prop := Cond.static y ∈ lw_G ∧ Cond.initialized y.cls ∈ lw_G ∧ Cond.code y cc nL ret ∈ lw_G ∧ nL ≤ 21 ∧ wdD y n
def wdV (y : MethodName) (cc : ByteArray) (nL : Nat) (ret : Option FieldType) (n : Nat) : Prop := (Cond.instanceMethod y ∈ lw_G ∧ Cond.selects y.cls y y ∈ lw_G) ∧ Cond.initialized y.cls ∈ lw_G ∧ Cond.code y cc nL ret ∈ lw_G ∧ nL ≤ 21 ∧ wdD y n
section GC
variable {K : Kx} {E : Ew} {cc cc' : ByteArray} {nL nL' d d' pc index n : Nat} {own : String} {ws ws' wc wc' : va_W} {lv : List (Nat × Value)} {st as rest : List Value} {y : MethodName} {ret : Option FieldType} {v : Option Value} {is : List Nat}
theorem g_blind {sz : Nat} : FrameBlind (FnP E as wc sz) := fun a U g mk q => by
  obtain ⟨q0, q1, qP, qK, qD, qE⟩ := q
  exact ⟨q0, q1, qP, va_K.moved (u := U) (U := U.calling g mk a) (Vm.Alike.refl U.vm) qK, qD, Ev_same qE rfl⟩
theorem g_pre (hC : Cx K E cc nL own d) {H : Heap} {locs : List Loc} (hP : va_P E.1 vwCl ws H) (hD : va_D (kA K) ws) (hS : va_S (kA K) (ks K).heap H locs) (hnd : va_nd is = true) (hs : is.map (fun i => ws[i]?) = wc.map some) : ∀ U : State, U.heap = H → (ks K).WarmedH U.vm → FnP E as wc H.size as.toArray U := fun U hU hW =>
  ⟨rfl, by rw [hU], by rw [hU]; exact wsel_P hP hs, va_K.moved hW.alike hC.2.2.2.2.2.1, (hD.sub is hnd hs).weaken (fun _ _ _ _ => trivial), by rw [hU]; exact Ev_go hC.2.2.2.2.2.2.2.1 hW hS.2.1 (va_free hD hS hC.2.2.2.2.2.2.1 is hs)⟩
theorem g_after (hC : Cx K E cc nL own d) {H : Heap} {locs : List Loc} {ls : Array Slot} {a : Array Value} {st0 : List Value} (hr : va_Run (kp K) (kl K) (ke K) (kR K) (ks K) (km K) (ka K) (kb K) (kt K) (kc K) H locs (kn K) (ko K) 0 0 (F0 (km K) pc ls st0) rest (FnQ E wc wc' v H.size a) (va_A wc H.size)) (hP : va_P E.1 vwCl ws H) (hD : va_D (kA K) ws) (hS : va_S (kA K) (ks K).heap H locs) (hl : lv_has ls nL lv) (hs : is.map (fun i => ws[i]?) = wc.map some) (hf : wc'.map Prod.fst = wc.map Prod.fst) (hw : wput ws is wc' = ws') (hf' : ws'.map Prod.fst = ws.map Prod.fst)
    (k : G K E nL ws' lv (pc + 3) (v.toList ++ rest)) : W (kp K) (kl K) (ke K) (kR K) (ks K) (km K) (ka K) (kb K) (kt K) (kc K) H locs (kn K) (ko K) (kQ K) (F0 (km K) pc ls st0) := by
  intro T hT X
  obtain ⟨v', st₀, t, T', L, h0, X', hL, e1, e2, ⟨⟨hv, hp⟩, hz, hk⟩, stp⟩ := hr T hT X
  cases hv
  rw [h0] at hz hk
  have hFc := va_free hD hS hC.2.2.2.2.2.2.1 is hs
  have hP1 : va_P E.1 vwCl ws' T'.heap := by rw [← hw, e1]; exact wput_P hP hD hs hf hp hk
  obtain ⟨t2, a1, b1⟩ := k T'.heap (locs ++ L) ls hP1 (va_D_fst hD hf')
    ⟨Nat.le_trans hS.1 (by rw [e1]; exact hz), fun q h1 h2 => by rw [e1, hk q (Nat.lt_of_lt_of_le h1 hS.1) (fun z => h2 (hFc q z))]; exact hS.2.1 q h1 h2, fun q hq => by
      rcases List.mem_append.mp hq with h | h
      · exact hS.2.2 q h
      · exact hFc _ (hL q h)⟩ hl T' rfl X'
  exact ⟨t2, stp t2 a1, b1⟩
theorem g_room (hC : Cx K E cc nL own d) (hdd : d' + 1 ≤ d) (hn : nL' ≤ 21) : (rmd d').frames + 1 ≤ (kR K).frames ∧ 8 + (nL' + 11) + (rmd d').locals ≤ (kR K).locals := by
  have h1 := hC.2.2.2.2.2.2.2.2.1
  have h2 := hC.2.2.2.2.2.2.2.2.2.1
  exact ⟨Nat.le_trans hdd h1, by show 8 + (nL' + 11) + 40 * d' ≤ _; omega⟩
theorem g_sub {y : MethodName} (hcd : Cond.code y cc' nL' ret ∈ lw_G) : GoodIn lw_G (Cond.code y cc' nL' ret :: lw_G) := lw_gin (fun w hw => by
  rcases List.mem_cons.mp hw with h | h
  · rw [h]; exact hcd
  · exact h)
theorem g_callS (hC : Cx K E cc nL own d) (hF : Fn (kl K) E d' y cc' nL' ret as wc v wc') (hw : wdS y cc' nL' ret n) (hm : Cond.methodLink own index y ∈ lw_G) (hd : decode cc pc = .ok (.invokestatic index, 3)) (is : List Nat) (ws' : va_W) (hdd : d' + 1 ≤ d) (hst : st = as.reverse ++ rest) (hrest : (rest.map fun v => v.category).sum ≤ 8) (hn : as.length = n) (hnd : va_nd is = true) (hs : is.map (fun i => ws[i]?) = wc.map some) (hp : wput ws is wc' = ws') (hf : ws'.map Prod.fst = ws.map Prod.fst) (k : G K E nL ws' lv (pc + 3) (v.toList ++ rest)) : G K E nL ws lv pc st := by
  intro H locs ls hP hD hS hl
  obtain ⟨w1, w2, w3, w4, w5⟩ := hw
  exact g_after hC (va_runS (As := as) (rest := rest) (g := F0 (km K) pc ls st) ⟨hC.1, hC.2.1, hC.2.2.1, hC.2.2.2.1, hC.2.2.2.2.1⟩ (hF.2 H.size) ⟨callB_of n hC.2.2.2.2.1 (g_sub w3) rfl rfl rfl (hC.2.2.2.2.1 _ w2) (hC.2.2.2.2.1 _ hm) w5 (g_room hC hdd w4), hC.2.2.2.2.1 _ w1⟩ ⟨g_blind, g_pre hC hP hD hS hnd hs⟩ rfl hn hl.1 hst (lv_room hrest) hd ⟨hC.2.2.2.2.2.2.2.2.2.2.1, hC.2.2.2.2.2.2.2.2.2.2.2⟩) hP hD hS hl hs hF.1 hp hf k
theorem g_callSN (hC : Cx K E cc nL own d) {host : String} (hF : Fn (kl K) E d' y cc' nL' ret as wc v wc') (hw : wdS y cc' nL' ret n) (hm : (own, index, y, host) ∈ nx_l) (hd : decode cc pc = .ok (.invokestatic index, 3)) (is : List Nat) (ws' : va_W) (hdd : d' + 1 ≤ d) (hst : st = as.reverse ++ rest) (hrest : (rest.map fun v => v.category).sum ≤ 8) (hn : as.length = n) (hnd : va_nd is = true) (hs : is.map (fun i => ws[i]?) = wc.map some) (hp : wput ws is wc' = ws') (hf : ws'.map Prod.fst = ws.map Prod.fst) (k : G K E nL ws' lv (pc + 3) (v.toList ++ rest)) : G K E nL ws lv pc st := by
  intro H locs ls hP hD hS hl
  obtain ⟨w1, w2, w3, w4, w5⟩ := hw
  exact g_after hC (va_runSN (As := as) (rest := rest) (g := F0 (km K) pc ls st) ⟨hC.1, hC.2.1, hC.2.2.1, hC.2.2.2.1, hC.2.2.2.2.1⟩ (hF.2 H.size) ⟨va_cnB (host := host) n hC.2.2.2.2.1 (g_sub w3) rfl rfl rfl (hC.2.2.2.2.2.2.2.1.1 _ hm) (hC.2.2.2.2.1 _ w2) w5 (g_room hC hdd w4), hC.2.2.2.2.1 _ w1, trivial⟩ ⟨g_blind, g_pre hC hP hD hS hnd hs⟩ rfl hn hl.1 hst (lv_room hrest) hd ⟨hC.2.2.2.2.2.2.2.2.2.2.1, hC.2.2.2.2.2.2.2.2.2.2.2⟩) hP hD hS hl hs hF.1 hp hf k
theorem g_callV (hC : Cx K E cc nL own d) {b : Nat} (hF : Fn (kl K) E d' y cc' nL' ret (.ref b :: as) wc v wc') (hw : wdV y cc' nL' ret n) (hm : Cond.methodLink own index y ∈ lw_G) (hd : decode cc pc = .ok (.invokevirtual index, 3)) (is : List Nat) (ws' : va_W) (q0 ci : Nat) {fs : List Value} {T : u_T} {N : Nat} (he : ws[q0]? = some (b, .inr (ci, fs))) (hc : vwCl[ci]? = some (y.cls, T, N)) (hdd : d' + 1 ≤ d) (hst : st = as.reverse ++ .ref b :: rest) (hrest : (rest.map fun v => v.category).sum ≤ 8) (hn : as.length = n) (hnd : va_nd is = true) (hs : is.map (fun i => ws[i]?) = wc.map some) (hp : wput ws is wc' = ws') (hf : ws'.map Prod.fst = ws.map Prod.fst) (k : G K E nL ws' lv (pc + 3) (v.toList ++ rest)) : G K E nL ws lv pc st := by
  intro H locs ls hP hD hS hl
  obtain ⟨⟨w0, w1⟩, w2, w3, w4, w5⟩ := hw
  exact g_after hC (va_runV (As := as) (rest := rest) (g := F0 (km K) pc ls st) (b := b) ⟨hC.1, hC.2.1, hC.2.2.1, hC.2.2.2.1, hC.2.2.2.2.1⟩ (hF.2 H.size) ⟨callB_of n hC.2.2.2.2.1 (g_sub w3) rfl rfl rfl (hC.2.2.2.2.1 _ w2) (hC.2.2.2.2.1 _ hm) w5 (g_room hC hdd w4), hC.2.2.2.2.1 _ w0, hC.2.2.2.2.1 _ w1⟩ ⟨g_blind, va_recv hC.2.2.2.2.2.1 hP (ci := ci) (q0 := q0) hc he, g_pre (as := .ref b :: as) hC hP hD hS hnd hs⟩ rfl hn hl.1 hst (lv_room hrest) hd ⟨hC.2.2.2.2.2.2.2.2.2.2.1, hC.2.2.2.2.2.2.2.2.2.2.2⟩) hP hD hS hl hs hF.1 hp hf k
theorem g_copy (hC : Cx K E cc nL own d) (q0 q1 : Nat) {t0 : Nat} (ws' : va_W) {a0 a n0 n1 sp dp m : Nat} {f g : Nat → Int32} (hm : Cond.methodLink own index arraycopyName ∈ lw_G) (hnat : Cond.native arraycopyName ∈ lw_G) (hstat : Cond.static arraycopyName ∈ lw_G) (hini : Cond.initialized "java/lang/System" ∈ lw_G) (hd : decode cc pc = .ok (.invokestatic index, 3)) (h0 : ws[q0]? = some (a0, .inl (E.2.1 0, n0, .inl f))) (h1 : ws[q1]? = some (a, .inl (E.2.1 0, n1, .inl g))) (hn0 : n0 < 2147483648) (hn1 : n1 < 2147483648) (h4 : sp + m ≤ n0) (h5 : dp + m ≤ n1) (hdd : 1 ≤ d) (hrest : (st.map fun v => v.category).sum ≤ 8) (hw : ws.set q1 (a, .inl (E.2.1 0, n1, .inl (va_cpy f g sp dp m))) = ws') (k : G K E nL ws' lv (pc + 3) st) : G K E nL ws lv pc (.int (nI m) :: .int (nI dp) :: .ref a :: .int (nI sp) :: .ref a0 :: st) := by
  subst hw
  intro H locs ls hP hD hS hl
  have e1 : (nI sp).toNatClampNeg = sp := nI_clamp (by omega)
  have e2 : (nI dp).toNatClampNeg = dp := nI_clamp (by omega)
  have e3 : (nI m).toNatClampNeg = m := nI_clamp (by omega)
  have h9 := hC.2.2.2.2.2.2.2.2.2.1
  have h8 : nativeFrameWords "java/lang/System" "arraycopy" 5 ≤ 20 := by decide +kernel
  have h7 : (st.map fun v => v.category).sum + (nativeFrameWords "java/lang/System" "arraycopy" 5 + 11) ≤ (kR K).locals := by omega
  exact va_copyi (D := E.1) (sp := nI sp) (dp := nI dp) (n := nI m) hC.1 hC.2.1 (by rw [hC.2.2.1]; exact hl.1.symm) hC.2.2.2.1 (hC.2.2.2.2.1 _ hm) (hC.2.2.2.2.1 _ hnat) (hC.2.2.2.2.1 _ hstat) (hC.2.2.2.2.1 _ hini) hC.2.2.2.2.2.1 hP hD hS q0 q1 0 0 h0 h1 rfl rfl rfl (nI_pos (by omega)) (nI_pos (by omega)) (nI_pos (by omega)) (by rw [e1, e3]; exact h4) (by rw [e2, e3]; exact h5) (fun _ _ => rfl) (Nat.le_trans hdd hC.2.2.2.2.2.2.2.2.1) h7 hd (fun H1 l1 g1 g2 g3 => k H1 l1 ls (by rw [e1, e2, e3] at g1; exact g1) (by rw [e1, e2, e3] at g2; exact g2) g3 hl)
end GC
/-! ===== a method's proof: from its entry to its return ===== -/
section GE
variable {l : Launch} {E : Ew} {d : Nat} {y : MethodName} {cc : ByteArray} {nL : Nat} {as : List Value} {ws ws' : va_W}
theorem fn_I {r : Int32} (hy : plainName y.cls = true) (hnl : (lg_sl as).length ≤ nL) (hf : ws'.map Prod.fst = ws.map Prod.fst) (body : ∀ K : Kx, Cx K E cc nL y.cls d → (∀ (lv : List (Nat × Value)) (pc : Nat), decode cc pc = .ok (.ireturn, 1) → G K E nL ws' lv pc [.int r]) → G K E nL ws (lv_args 0 as) 0 []) : Fn l E d y cc nL (some .int) as ws (some (.int r)) ws' := by
  refine ⟨hf, fun sz => Met.ofW (cc := cc) (maxL := nL) (ret := (some .int)) hy rfl ?_⟩
  intro p e s m args below meth c s₁ B hml hv
  obtain ⟨rfl, hsz, hP, hK, hD0, hE⟩ := hv
  subst hsz
  have hD := hD0.self (sz := s.heap.size)
  have hlocks := B.notSynchronized
  have hC : Cx (p, l, e, rmd d, s, m, as.toArray, below, meth, c, va_A ws s.heap.size, 0, 0, MQ below (FnQ E ws ws' (some (.int r)) s.heap.size) as.toArray s 0 0 (va_A ws s.heap.size)) E cc nL y.cls d := ⟨B.exec, B.bytes, hml, findClass_of_methodNamed B.named, fun w hw => atoms_spec (ws := .code y cc nL (some .int) :: lw_G) B.pre w (List.mem_cons_of_mem _ hw), hK, fun q h => Or.inr h, hE, Nat.le_refl _, Nat.le_refl _, Nat.le_refl _, Nat.le_refl _⟩
  have h := body _ hC (fun lv pc hd H locs ls hP hD hS hl => W.iret B.exec B.bytes B.returns (fun t ht hW => ⟨⟨rfl, by rw [ht]; exact hP⟩, hS.F ht⟩) hS.2.2 hd hlocks)
  rw [lg_entry_eq]
  exact h s.heap [] _ hP hD va_S.rf (lv_entry as hnl)
theorem fn_Z {r : Int32} {ty : FieldType} (hy : plainName y.cls = true) (hnl : (lg_sl as).length ≤ nL) (hf : ws'.map Prod.fst = ws.map Prod.fst) (hn : narrow ty (.int r) = .int r) (body : ∀ K : Kx, Cx K E cc nL y.cls d → (∀ (lv : List (Nat × Value)) (pc : Nat), decode cc pc = .ok (.ireturn, 1) → G K E nL ws' lv pc [.int r]) → G K E nL ws (lv_args 0 as) 0 []) : Fn l E d y cc nL (some ty) as ws (some (.int r)) ws' := by
  refine ⟨hf, fun sz => Met.ofW (cc := cc) (maxL := nL) (ret := (some ty)) hy rfl ?_⟩
  intro p e s m args below meth c s₁ B hml hv
  obtain ⟨rfl, hsz, hP, hK, hD0, hE⟩ := hv
  subst hsz
  have hD := hD0.self (sz := s.heap.size)
  have hlocks := B.notSynchronized
  have hC : Cx (p, l, e, rmd d, s, m, as.toArray, below, meth, c, va_A ws s.heap.size, 0, 0, MQ below (FnQ E ws ws' (some (.int r)) s.heap.size) as.toArray s 0 0 (va_A ws s.heap.size)) E cc nL y.cls d := ⟨B.exec, B.bytes, hml, findClass_of_methodNamed B.named, fun w hw => atoms_spec (ws := .code y cc nL (some ty) :: lw_G) B.pre w (List.mem_cons_of_mem _ hw), hK, fun q h => Or.inr h, hE, Nat.le_refl _, Nat.le_refl _, Nat.le_refl _, Nat.le_refl _⟩
  have h := body _ hC (fun lv pc hd H locs ls hP hD hS hl => W.zret B.exec B.bytes B.returns hn (fun t ht hW => ⟨⟨rfl, by rw [ht]; exact hP⟩, hS.F ht⟩) hS.2.2 hd hlocks)
  rw [lg_entry_eq]
  exact h s.heap [] _ hP hD va_S.rf (lv_entry as hnl)
theorem fn_L {r : Int64} (hy : plainName y.cls = true) (hnl : (lg_sl as).length ≤ nL) (hf : ws'.map Prod.fst = ws.map Prod.fst) (body : ∀ K : Kx, Cx K E cc nL y.cls d → (∀ (lv : List (Nat × Value)) (pc : Nat), decode cc pc = .ok (.lreturn, 1) → G K E nL ws' lv pc [.long r]) → G K E nL ws (lv_args 0 as) 0 []) : Fn l E d y cc nL (some .long) as ws (some (.long r)) ws' := by
  refine ⟨hf, fun sz => Met.ofW (cc := cc) (maxL := nL) (ret := (some .long)) hy rfl ?_⟩
  intro p e s m args below meth c s₁ B hml hv
  obtain ⟨rfl, hsz, hP, hK, hD0, hE⟩ := hv
  subst hsz
  have hD := hD0.self (sz := s.heap.size)
  have hlocks := B.notSynchronized
  have hC : Cx (p, l, e, rmd d, s, m, as.toArray, below, meth, c, va_A ws s.heap.size, 0, 0, MQ below (FnQ E ws ws' (some (.long r)) s.heap.size) as.toArray s 0 0 (va_A ws s.heap.size)) E cc nL y.cls d := ⟨B.exec, B.bytes, hml, findClass_of_methodNamed B.named, fun w hw => atoms_spec (ws := .code y cc nL (some .long) :: lw_G) B.pre w (List.mem_cons_of_mem _ hw), hK, fun q h => Or.inr h, hE, Nat.le_refl _, Nat.le_refl _, Nat.le_refl _, Nat.le_refl _⟩
  have h := body _ hC (fun lv pc hd H locs ls hP hD hS hl => W.lret B.exec B.bytes B.returns (fun t ht hW => ⟨⟨rfl, by rw [ht]; exact hP⟩, hS.F ht⟩) hS.2.2 hd hlocks)
  rw [lg_entry_eq]
  exact h s.heap [] _ hP hD va_S.rf (lv_entry as hnl)
theorem fn_V (hy : plainName y.cls = true) (hnl : (lg_sl as).length ≤ nL) (hf : ws'.map Prod.fst = ws.map Prod.fst) (body : ∀ K : Kx, Cx K E cc nL y.cls d → (∀ (lv : List (Nat × Value)) (pc : Nat), decode cc pc = .ok (.return_, 1) → G K E nL ws' lv pc []) → G K E nL ws (lv_args 0 as) 0 []) : Fn l E d y cc nL none as ws none ws' := by
  refine ⟨hf, fun sz => Met.ofW (cc := cc) (maxL := nL) (ret := none) hy rfl ?_⟩
  intro p e s m args below meth c s₁ B hml hv
  obtain ⟨rfl, hsz, hP, hK, hD0, hE⟩ := hv
  subst hsz
  have hD := hD0.self (sz := s.heap.size)
  have hlocks := B.notSynchronized
  have hC : Cx (p, l, e, rmd d, s, m, as.toArray, below, meth, c, va_A ws s.heap.size, 0, 0, MQ below (FnQ E ws ws' none s.heap.size) as.toArray s 0 0 (va_A ws s.heap.size)) E cc nL y.cls d := ⟨B.exec, B.bytes, hml, findClass_of_methodNamed B.named, fun w hw => atoms_spec (ws := .code y cc nL none :: lw_G) B.pre w (List.mem_cons_of_mem _ hw), hK, fun q h => Or.inr h, hE, Nat.le_refl _, Nat.le_refl _, Nat.le_refl _, Nat.le_refl _⟩
  have h := body _ hC (fun lv pc hd H locs ls hP hD hS hl => W.vret B.exec B.bytes B.returns (fun t ht hW => ⟨⟨rfl, by rw [ht]; exact hP⟩, hS.F ht⟩) hS.2.2 hd hlocks)
  rw [lg_entry_eq]
  exact h s.heap [] _ hP hD va_S.rf (lv_entry as hnl)
end GE
end
section
theorem m1_0 : (Jvm.Cond.initialized "LastCalledLaw") ∈ lw_G := lw_Gm (lw_t1 (List.mem_of_getElem? (i := 0) rfl)) rfl
theorem m1_1 : (Jvm.Cond.initialized "LastCalled") ∈ lw_G := lw_Gm (lw_t1 (List.mem_of_getElem? (i := 1) rfl)) rfl
theorem m1_2 : (Jvm.Cond.initialized "LastCalled$Hamlet") ∈ lw_G := lw_Gm (lw_t1 (List.mem_of_getElem? (i := 2) rfl)) rfl
theorem m1_3 : (Jvm.Cond.initialized "LastCalled$Text") ∈ lw_G := lw_Gm (lw_t1 (List.mem_of_getElem? (i := 3) rfl)) rfl
theorem m1_4 : (Jvm.Cond.initialized "LastCalled$Fraction") ∈ lw_G := lw_Gm (lw_t1 (List.mem_of_getElem? (i := 4) rfl)) rfl
theorem m1_5 : (Jvm.Cond.initialized "LastCalled$Hearing") ∈ lw_G := lw_Gm (lw_t1 (List.mem_of_getElem? (i := 5) rfl)) rfl
theorem m1_6 : (Jvm.Cond.initialized "LastCalled$Plain") ∈ lw_G := lw_Gm (lw_t1 (List.mem_of_getElem? (i := 6) rfl)) rfl
theorem m1_7 : (Jvm.Cond.initialized "LastCalled$Careful") ∈ lw_G := lw_Gm (lw_t1 (List.mem_of_getElem? (i := 7) rfl)) rfl
theorem m1_8 : (Jvm.Cond.initialized "LastCalled$Deaf") ∈ lw_G := lw_Gm (lw_t1 (List.mem_of_getElem? (i := 8) rfl)) rfl
theorem m1_9 : (Jvm.Cond.initialized "LastCalled$Child") ∈ lw_G := lw_Gm (lw_t1 (List.mem_of_getElem? (i := 9) rfl)) rfl
theorem m1_10 : (Jvm.Cond.initialized "LastCalled$Sheep") ∈ lw_G := lw_Gm (lw_t1 (List.mem_of_getElem? (i := 10) rfl)) rfl
theorem m1_11 : (Jvm.Cond.initialized "LastCalled$Cliff") ∈ lw_G := lw_Gm (lw_t1 (List.mem_of_getElem? (i := 11) rfl)) rfl
theorem m1_12 : (Jvm.Cond.initialized "LastCalled$Search") ∈ lw_G := lw_Gm (lw_t1 (List.mem_of_getElem? (i := 12) rfl)) rfl
theorem m1_13 : (Jvm.Cond.initialized "LastCalledModel") ∈ lw_G := lw_Gm (lw_t1 (List.mem_of_getElem? (i := 13) rfl)) rfl
theorem m1_14 : (Jvm.Cond.initialized "java/util/Arrays") ∈ lw_G := lw_Gm (lw_t1 (List.mem_of_getElem? (i := 14) rfl)) rfl
theorem m1_15 : (Jvm.Cond.initialized "java/lang/String") ∈ lw_G := lw_Gm (lw_t1 (List.mem_of_getElem? (i := 15) rfl)) rfl
theorem m1_16 : (Jvm.Cond.initialized "java/lang/StringLatin1") ∈ lw_G := lw_Gm (lw_t1 (List.mem_of_getElem? (i := 16) rfl)) rfl
theorem m1_17 : (Jvm.Cond.initialized "jdk/internal/util/Preconditions") ∈ lw_G := lw_Gm (lw_t1 (List.mem_of_getElem? (i := 17) rfl)) rfl
theorem m1_18 : (Jvm.Cond.initialized "java/lang/StringUTF16") ∈ lw_G := lw_Gm (lw_t1 (List.mem_of_getElem? (i := 18) rfl)) rfl
theorem m1_19 : (Jvm.Cond.initialized "java/lang/System") ∈ lw_G := lw_Gm (lw_t1 (List.mem_of_getElem? (i := 19) rfl)) rfl
theorem m1_20 : (Jvm.Cond.initialized "java/lang/Math") ∈ lw_G := lw_Gm (lw_t1 (List.mem_of_getElem? (i := 20) rfl)) rfl
theorem m1_21 : (Jvm.Cond.initialized "java/lang/Integer") ∈ lw_G := lw_Gm (lw_t1 (List.mem_of_getElem? (i := 21) rfl)) rfl
theorem m1_22 : (Jvm.Cond.classLink "LastCalledLaw" (7 : Nat) "LastCalled") ∈ lw_G := lw_Gm (lw_t1 (List.mem_of_getElem? (i := 22) rfl)) rfl
theorem m1_23 : (Jvm.Cond.instantiable "LastCalled" (9 : Nat)) ∈ lw_G := lw_Gm (lw_t1 (List.mem_of_getElem? (i := 23) rfl)) rfl
theorem m1_24 : (Jvm.Cond.methodLink "LastCalledLaw" (9 : Nat) ({ cls := "LastCalled", name := "<init>", desc := "()V" } : Jvm.MethodName)) ∈ lw_G := lw_Gm (lw_t1 (List.mem_of_getElem? (i := 24) rfl)) rfl
theorem m1_25 : (Jvm.Cond.instanceMethod ({ cls := "LastCalled", name := "<init>", desc := "()V" } : Jvm.MethodName)) ∈ lw_G := lw_Gm (lw_t1 (List.mem_of_getElem? (i := 25) rfl)) rfl
theorem m1_26 : (Jvm.Cond.code ({ cls := "LastCalled", name := "<init>", desc := "()V" } : Jvm.MethodName) prog_1_method_1_code (1 : Nat) (Option.none : Option Jvm.ClassFile.FieldType)) ∈ lw_G := lw_Gm (lw_t1 (List.mem_of_getElem? (i := 26) rfl)) rfl
theorem m1_27 : (Jvm.Cond.methodLink "LastCalled" (1 : Nat) ({ cls := "java/lang/Object", name := "<init>", desc := "()V" } : Jvm.MethodName)) ∈ lw_G := lw_Gm (lw_t1 (List.mem_of_getElem? (i := 27) rfl)) rfl
theorem m1_28 : (Jvm.Cond.instanceMethod ({ cls := "java/lang/Object", name := "<init>", desc := "()V" } : Jvm.MethodName)) ∈ lw_G := lw_Gm (lw_t1 (List.mem_of_getElem? (i := 28) rfl)) rfl
theorem m1_29 : (Jvm.Cond.code ({ cls := "java/lang/Object", name := "<init>", desc := "()V" } : Jvm.MethodName) object_method_1_code (1 : Nat) (Option.none : Option Jvm.ClassFile.FieldType)) ∈ lw_G := lw_Gm (lw_t1 (List.mem_of_getElem? (i := 29) rfl)) rfl
theorem m1_30 : (Jvm.Cond.classLink "LastCalled" (7 : Nat) "LastCalled$Hamlet") ∈ lw_G := lw_Gm (lw_t1 (List.mem_of_getElem? (i := 30) rfl)) rfl
theorem m1_31 : (Jvm.Cond.instantiable "LastCalled$Hamlet" (12 : Nat)) ∈ lw_G := lw_Gm (lw_t1 (List.mem_of_getElem? (i := 31) rfl)) rfl
theorem m1_33 : (Jvm.Cond.instanceMethod ({ cls := "LastCalled$Hamlet", name := "<init>", desc := "()V" } : Jvm.MethodName)) ∈ lw_G := lw_Gm (lw_t1 (List.mem_of_getElem? (i := 33) rfl)) rfl
theorem m1_34 : (Jvm.Cond.code ({ cls := "LastCalled$Hamlet", name := "<init>", desc := "()V" } : Jvm.MethodName) prog_7_method_1_code (1 : Nat) (Option.none : Option Jvm.ClassFile.FieldType)) ∈ lw_G := lw_Gm (lw_t1 (List.mem_of_getElem? (i := 34) rfl)) rfl
theorem m1_35 : (Jvm.Cond.methodLink "LastCalled$Hamlet" (3 : Nat) ({ cls := "java/lang/Object", name := "<init>", desc := "()V" } : Jvm.MethodName)) ∈ lw_G := lw_Gm (lw_t1 (List.mem_of_getElem? (i := 35) rfl)) rfl
theorem m1_36 : (Jvm.Cond.fieldLink "LastCalled$Hamlet" (33 : Nat) "LastCalled$Hamlet" "date" "I") ∈ lw_G := lw_Gm (lw_t1 (List.mem_of_getElem? (i := 36) rfl)) rfl
theorem m1_37 : (Jvm.Cond.fieldLink "LastCalled$Hearing" (72 : Nat) "LastCalled$Hamlet" "date" "I") ∈ lw_G := lw_Gm (lw_t1 (List.mem_of_getElem? (i := 37) rfl)) rfl
theorem m1_38 : (Jvm.Cond.fieldLink "LastCalled" (117 : Nat) "LastCalled$Hamlet" "date" "I") ∈ lw_G := lw_Gm (lw_t1 (List.mem_of_getElem? (i := 38) rfl)) rfl
theorem m1_39 : (Jvm.Cond.fieldLink "LastCalled$Hamlet" (37 : Nat) "LastCalled$Hamlet" "people" "I") ∈ lw_G := lw_Gm (lw_t1 (List.mem_of_getElem? (i := 39) rfl)) rfl
theorem m1_40 : (Jvm.Cond.fieldLink "LastCalled" (67 : Nat) "LastCalled$Hamlet" "people" "I") ∈ lw_G := lw_Gm (lw_t1 (List.mem_of_getElem? (i := 40) rfl)) rfl
theorem m1_41 : (Jvm.Cond.fieldLink "LastCalled$Search" (35 : Nat) "LastCalled$Hamlet" "people" "I") ∈ lw_G := lw_Gm (lw_t1 (List.mem_of_getElem? (i := 41) rfl)) rfl
theorem m1_42 : (Jvm.Cond.fieldLink "LastCalled$Text" (53 : Nat) "LastCalled$Hamlet" "people" "I") ∈ lw_G := lw_Gm (lw_t1 (List.mem_of_getElem? (i := 42) rfl)) rfl
theorem m1_43 : (Jvm.Cond.fieldLink "LastCalled$Hearing" (55 : Nat) "LastCalled$Hamlet" "people" "I") ∈ lw_G := lw_Gm (lw_t1 (List.mem_of_getElem? (i := 43) rfl)) rfl
theorem m1_44 : (Jvm.Cond.fieldLink "LastCalled$Hamlet" (9 : Nat) "LastCalled$Hamlet" "kinds" "[I") ∈ lw_G := lw_Gm (lw_t1 (List.mem_of_getElem? (i := 44) rfl)) rfl
theorem m1_45 : (Jvm.Cond.fieldLink "LastCalled$Hearing" (61 : Nat) "LastCalled$Hamlet" "kinds" "[I") ∈ lw_G := lw_Gm (lw_t1 (List.mem_of_getElem? (i := 45) rfl)) rfl
theorem m1_46 : (Jvm.Cond.fieldLink "LastCalled" (126 : Nat) "LastCalled$Hamlet" "kinds" "[I") ∈ lw_G := lw_Gm (lw_t1 (List.mem_of_getElem? (i := 46) rfl)) rfl
theorem m1_47 : (Jvm.Cond.fieldLink "LastCalled$Hamlet" (15 : Nat) "LastCalled$Hamlet" "places" "[I") ∈ lw_G := lw_Gm (lw_t1 (List.mem_of_getElem? (i := 47) rfl)) rfl
theorem m1_48 : (Jvm.Cond.fieldLink "LastCalled$Hearing" (63 : Nat) "LastCalled$Hamlet" "places" "[I") ∈ lw_G := lw_Gm (lw_t1 (List.mem_of_getElem? (i := 48) rfl)) rfl
theorem m1_49 : (Jvm.Cond.fieldLink "LastCalled" (114 : Nat) "LastCalled$Hamlet" "places" "[I") ∈ lw_G := lw_Gm (lw_t1 (List.mem_of_getElem? (i := 49) rfl)) rfl
theorem m1_50 : (Jvm.Cond.fieldLink "LastCalled$Hamlet" (18 : Nat) "LastCalled$Hamlet" "bearing" "[I") ∈ lw_G := lw_Gm (lw_t1 (List.mem_of_getElem? (i := 50) rfl)) rfl
theorem m1_51 : (Jvm.Cond.fieldLink "LastCalled$Search" (28 : Nat) "LastCalled$Hamlet" "bearing" "[I") ∈ lw_G := lw_Gm (lw_t1 (List.mem_of_getElem? (i := 51) rfl)) rfl
theorem m1_52 : (Jvm.Cond.fieldLink "LastCalled" (107 : Nat) "LastCalled$Hamlet" "bearing" "[I") ∈ lw_G := lw_Gm (lw_t1 (List.mem_of_getElem? (i := 52) rfl)) rfl
theorem m1_53 : (Jvm.Cond.fieldLink "LastCalled$Hamlet" (46 : Nat) "LastCalled$Hamlet" "deeds" "I") ∈ lw_G := lw_Gm (lw_t1 (List.mem_of_getElem? (i := 53) rfl)) rfl
theorem m1_54 : (Jvm.Cond.fieldLink "LastCalled" (157 : Nat) "LastCalled$Hamlet" "deeds" "I") ∈ lw_G := lw_Gm (lw_t1 (List.mem_of_getElem? (i := 54) rfl)) rfl
theorem m1_55 : (Jvm.Cond.fieldLink "LastCalled$Hamlet" (21 : Nat) "LastCalled$Hamlet" "deedNames" "[I") ∈ lw_G := lw_Gm (lw_t1 (List.mem_of_getElem? (i := 55) rfl)) rfl
theorem m1_56 : (Jvm.Cond.fieldLink "LastCalled" (160 : Nat) "LastCalled$Hamlet" "deedNames" "[I") ∈ lw_G := lw_Gm (lw_t1 (List.mem_of_getElem? (i := 56) rfl)) rfl
theorem m1_57 : (Jvm.Cond.fieldLink "LastCalled$Hamlet" (24 : Nat) "LastCalled$Hamlet" "deedPence" "[I") ∈ lw_G := lw_Gm (lw_t1 (List.mem_of_getElem? (i := 57) rfl)) rfl
theorem m1_58 : (Jvm.Cond.fieldLink "LastCalled" (163 : Nat) "LastCalled$Hamlet" "deedPence" "[I") ∈ lw_G := lw_Gm (lw_t1 (List.mem_of_getElem? (i := 58) rfl)) rfl
theorem m1_59 : (Jvm.Cond.fieldLink "LastCalled$Hamlet" (49 : Nat) "LastCalled$Hamlet" "notes" "I") ∈ lw_G := lw_Gm (lw_t1 (List.mem_of_getElem? (i := 59) rfl)) rfl
theorem m1_60 : (Jvm.Cond.fieldLink "LastCalled" (183 : Nat) "LastCalled$Hamlet" "notes" "I") ∈ lw_G := lw_Gm (lw_t1 (List.mem_of_getElem? (i := 60) rfl)) rfl
theorem m1_61 : (Jvm.Cond.fieldLink "LastCalled$Hamlet" (27 : Nat) "LastCalled$Hamlet" "noted" "[I") ∈ lw_G := lw_Gm (lw_t1 (List.mem_of_getElem? (i := 61) rfl)) rfl
theorem m1_62 : (Jvm.Cond.fieldLink "LastCalled" (242 : Nat) "LastCalled$Hamlet" "noted" "[I") ∈ lw_G := lw_Gm (lw_t1 (List.mem_of_getElem? (i := 62) rfl)) rfl
theorem m1_63 : (Jvm.Cond.fieldLink "LastCalled$Hamlet" (52 : Nat) "LastCalled$Hamlet" "pasts" "I") ∈ lw_G := lw_Gm (lw_t1 (List.mem_of_getElem? (i := 63) rfl)) rfl
theorem m1_64 : (Jvm.Cond.fieldLink "LastCalled" (120 : Nat) "LastCalled$Hamlet" "pasts" "I") ∈ lw_G := lw_Gm (lw_t1 (List.mem_of_getElem? (i := 64) rfl)) rfl
theorem m1_65 : (Jvm.Cond.fieldLink "LastCalled$Hamlet" (30 : Nat) "LastCalled$Hamlet" "past" "[I") ∈ lw_G := lw_Gm (lw_t1 (List.mem_of_getElem? (i := 65) rfl)) rfl
theorem m1_66 : (Jvm.Cond.lays "LastCalled$Hamlet" "LastCalled$Hamlet" "date" "I") ∈ lw_G := lw_Gm (lw_t1 (List.mem_of_getElem? (i := 66) rfl)) rfl
theorem m1_68 : (Jvm.Cond.lays "LastCalled$Hamlet" "LastCalled$Hamlet" "people" "I") ∈ lw_G := lw_Gm (lw_t1 (List.mem_of_getElem? (i := 68) rfl)) rfl
theorem m1_70 : (Jvm.Cond.laysFinal "LastCalled$Hamlet" "LastCalled$Hamlet" "kinds" "[I") ∈ lw_G := lw_Gm (lw_t1 (List.mem_of_getElem? (i := 70) rfl)) rfl
theorem m1_72 : (Jvm.Cond.laysFinal "LastCalled$Hamlet" "LastCalled$Hamlet" "places" "[I") ∈ lw_G := lw_Gm (lw_t1 (List.mem_of_getElem? (i := 72) rfl)) rfl
theorem m1_74 : (Jvm.Cond.laysFinal "LastCalled$Hamlet" "LastCalled$Hamlet" "bearing" "[I") ∈ lw_G := lw_Gm (lw_t1 (List.mem_of_getElem? (i := 74) rfl)) rfl
theorem m1_76 : (Jvm.Cond.lays "LastCalled$Hamlet" "LastCalled$Hamlet" "deeds" "I") ∈ lw_G := lw_Gm (lw_t1 (List.mem_of_getElem? (i := 76) rfl)) rfl
theorem m1_78 : (Jvm.Cond.laysFinal "LastCalled$Hamlet" "LastCalled$Hamlet" "deedNames" "[I") ∈ lw_G := lw_Gm (lw_t1 (List.mem_of_getElem? (i := 78) rfl)) rfl
theorem m1_80 : (Jvm.Cond.laysFinal "LastCalled$Hamlet" "LastCalled$Hamlet" "deedPence" "[I") ∈ lw_G := lw_Gm (lw_t1 (List.mem_of_getElem? (i := 80) rfl)) rfl
theorem m1_82 : (Jvm.Cond.lays "LastCalled$Hamlet" "LastCalled$Hamlet" "notes" "I") ∈ lw_G := lw_Gm (lw_t1 (List.mem_of_getElem? (i := 82) rfl)) rfl
theorem m1_84 : (Jvm.Cond.laysFinal "LastCalled$Hamlet" "LastCalled$Hamlet" "noted" "[I") ∈ lw_G := lw_Gm (lw_t1 (List.mem_of_getElem? (i := 84) rfl)) rfl
theorem m1_86 : (Jvm.Cond.lays "LastCalled$Hamlet" "LastCalled$Hamlet" "pasts" "I") ∈ lw_G := lw_Gm (lw_t1 (List.mem_of_getElem? (i := 86) rfl)) rfl
theorem m1_88 : (Jvm.Cond.laysFinal "LastCalled$Hamlet" "LastCalled$Hamlet" "past" "[I") ∈ lw_G := lw_Gm (lw_t1 (List.mem_of_getElem? (i := 88) rfl)) rfl
theorem m1_90 : (Jvm.Cond.superclass "LastCalled$Hamlet" "java/lang/Object") ∈ lw_G := lw_Gm (lw_t1 (List.mem_of_getElem? (i := 90) rfl)) rfl
theorem m1_91 : (Jvm.Cond.arrayClass Jvm.ClassFile.FieldType.int) ∈ lw_G := lw_Gm (lw_t1 (List.mem_of_getElem? (i := 91) rfl)) rfl
theorem m1_93 : (Jvm.Cond.classLink "LastCalled" (27 : Nat) "LastCalled$Text") ∈ lw_G := lw_Gm (lw_t1 (List.mem_of_getElem? (i := 93) rfl)) rfl
theorem m1_94 : (Jvm.Cond.instantiable "LastCalled$Text" (6 : Nat)) ∈ lw_G := lw_Gm (lw_t1 (List.mem_of_getElem? (i := 94) rfl)) rfl
theorem m1_96 : (Jvm.Cond.instanceMethod ({ cls := "LastCalled$Text", name := "<init>", desc := "()V" } : Jvm.MethodName)) ∈ lw_G := lw_Gm (lw_t1 (List.mem_of_getElem? (i := 96) rfl)) rfl
theorem m1_97 : (Jvm.Cond.code ({ cls := "LastCalled$Text", name := "<init>", desc := "()V" } : Jvm.MethodName) prog_12_method_1_code (1 : Nat) (Option.none : Option Jvm.ClassFile.FieldType)) ∈ lw_G := lw_Gm (lw_t1 (List.mem_of_getElem? (i := 97) rfl)) rfl
theorem m1_98 : (Jvm.Cond.methodLink "LastCalled$Text" (3 : Nat) ({ cls := "java/lang/Object", name := "<init>", desc := "()V" } : Jvm.MethodName)) ∈ lw_G := lw_Gm (lw_t1 (List.mem_of_getElem? (i := 98) rfl)) rfl
theorem m1_99 : (Jvm.Cond.fieldLink "LastCalled$Text" (9 : Nat) "LastCalled$Text" "bytes" "[B") ∈ lw_G := lw_Gm (lw_t1 (List.mem_of_getElem? (i := 99) rfl)) rfl
theorem m1_100 : (Jvm.Cond.fieldLink "LastCalled$Text" (15 : Nat) "LastCalled$Text" "length" "I") ∈ lw_G := lw_Gm (lw_t1 (List.mem_of_getElem? (i := 100) rfl)) rfl
theorem m1_101 : (Jvm.Cond.fieldLink "LastCalled" (79 : Nat) "LastCalled$Text" "length" "I") ∈ lw_G := lw_Gm (lw_t1 (List.mem_of_getElem? (i := 101) rfl)) rfl
theorem m1_102 : (Jvm.Cond.fieldLink "LastCalled$Text" (44 : Nat) "LastCalled$Text" "sort" "I") ∈ lw_G := lw_Gm (lw_t1 (List.mem_of_getElem? (i := 102) rfl)) rfl
theorem m1_103 : (Jvm.Cond.fieldLink "LastCalled" (89 : Nat) "LastCalled$Text" "start" "I") ∈ lw_G := lw_Gm (lw_t1 (List.mem_of_getElem? (i := 103) rfl)) rfl
theorem m1_104 : (Jvm.Cond.fieldLink "LastCalled$Text" (76 : Nat) "LastCalled$Text" "start" "I") ∈ lw_G := lw_Gm (lw_t1 (List.mem_of_getElem? (i := 104) rfl)) rfl
theorem m1_105 : (Jvm.Cond.fieldLink "LastCalled$Text" (19 : Nat) "LastCalled$Text" "end" "I") ∈ lw_G := lw_Gm (lw_t1 (List.mem_of_getElem? (i := 105) rfl)) rfl
theorem m1_106 : (Jvm.Cond.fieldLink "LastCalled$Text" (35 : Nat) "LastCalled$Text" "value" "I") ∈ lw_G := lw_Gm (lw_t1 (List.mem_of_getElem? (i := 106) rfl)) rfl
theorem m1_107 : (Jvm.Cond.laysFinal "LastCalled$Text" "LastCalled$Text" "bytes" "[B") ∈ lw_G := lw_Gm (lw_t1 (List.mem_of_getElem? (i := 107) rfl)) rfl
theorem m1_109 : (Jvm.Cond.lays "LastCalled$Text" "LastCalled$Text" "length" "I") ∈ lw_G := lw_Gm (lw_t1 (List.mem_of_getElem? (i := 109) rfl)) rfl
theorem m1_111 : (Jvm.Cond.lays "LastCalled$Text" "LastCalled$Text" "sort" "I") ∈ lw_G := lw_Gm (lw_t1 (List.mem_of_getElem? (i := 111) rfl)) rfl
theorem m1_113 : (Jvm.Cond.lays "LastCalled$Text" "LastCalled$Text" "start" "I") ∈ lw_G := lw_Gm (lw_t1 (List.mem_of_getElem? (i := 113) rfl)) rfl
theorem m1_115 : (Jvm.Cond.lays "LastCalled$Text" "LastCalled$Text" "end" "I") ∈ lw_G := lw_Gm (lw_t1 (List.mem_of_getElem? (i := 115) rfl)) rfl
theorem m1_117 : (Jvm.Cond.lays "LastCalled$Text" "LastCalled$Text" "value" "I") ∈ lw_G := lw_Gm (lw_t1 (List.mem_of_getElem? (i := 117) rfl)) rfl
theorem m1_119 : (Jvm.Cond.superclass "LastCalled$Text" "java/lang/Object") ∈ lw_G := lw_Gm (lw_t1 (List.mem_of_getElem? (i := 119) rfl)) rfl
theorem m1_120 : (Jvm.Cond.arrayClass Jvm.ClassFile.FieldType.boolean) ∈ lw_G := lw_Gm (lw_t1 (List.mem_of_getElem? (i := 120) rfl)) rfl
theorem m1_121 : (Jvm.Cond.arrayClass Jvm.ClassFile.FieldType.byte) ∈ lw_G := lw_Gm (lw_t1 (List.mem_of_getElem? (i := 121) rfl)) rfl
theorem m1_122 : (Jvm.Cond.classLink "LastCalled" (34 : Nat) "LastCalled$Fraction") ∈ lw_G := lw_Gm (lw_t1 (List.mem_of_getElem? (i := 122) rfl)) rfl
theorem m1_123 : (Jvm.Cond.instantiable "LastCalled$Fraction" (2 : Nat)) ∈ lw_G := lw_Gm (lw_t1 (List.mem_of_getElem? (i := 123) rfl)) rfl
theorem m1_125 : (Jvm.Cond.instanceMethod ({ cls := "LastCalled$Fraction", name := "<init>", desc := "()V" } : Jvm.MethodName)) ∈ lw_G := lw_Gm (lw_t1 (List.mem_of_getElem? (i := 125) rfl)) rfl
theorem m1_126 : (Jvm.Cond.code ({ cls := "LastCalled$Fraction", name := "<init>", desc := "()V" } : Jvm.MethodName) prog_6_method_1_code (1 : Nat) (Option.none : Option Jvm.ClassFile.FieldType)) ∈ lw_G := lw_Gm (lw_t1 (List.mem_of_getElem? (i := 126) rfl)) rfl
theorem m1_127 : (Jvm.Cond.methodLink "LastCalled$Fraction" (1 : Nat) ({ cls := "java/lang/Object", name := "<init>", desc := "()V" } : Jvm.MethodName)) ∈ lw_G := lw_Gm (lw_t1 (List.mem_of_getElem? (i := 127) rfl)) rfl
theorem m1_128 : (Jvm.Cond.fieldLink "LastCalled$Fraction" (7 : Nat) "LastCalled$Fraction" "above" "J") ∈ lw_G := lw_Gm (lw_t1 (List.mem_of_getElem? (i := 128) rfl)) rfl
theorem m1_129 : (Jvm.Cond.fieldLink "LastCalled" (212 : Nat) "LastCalled$Fraction" "above" "J") ∈ lw_G := lw_Gm (lw_t1 (List.mem_of_getElem? (i := 129) rfl)) rfl
theorem m1_130 : (Jvm.Cond.fieldLink "LastCalled$Fraction" (13 : Nat) "LastCalled$Fraction" "below" "J") ∈ lw_G := lw_Gm (lw_t1 (List.mem_of_getElem? (i := 130) rfl)) rfl
theorem m1_131 : (Jvm.Cond.fieldLink "LastCalled" (216 : Nat) "LastCalled$Fraction" "below" "J") ∈ lw_G := lw_Gm (lw_t1 (List.mem_of_getElem? (i := 131) rfl)) rfl
theorem m1_132 : (Jvm.Cond.lays "LastCalled$Fraction" "LastCalled$Fraction" "above" "J") ∈ lw_G := lw_Gm (lw_t1 (List.mem_of_getElem? (i := 132) rfl)) rfl
theorem m1_134 : (Jvm.Cond.lays "LastCalled$Fraction" "LastCalled$Fraction" "below" "J") ∈ lw_G := lw_Gm (lw_t1 (List.mem_of_getElem? (i := 134) rfl)) rfl
theorem m1_136 : (Jvm.Cond.superclass "LastCalled$Fraction" "java/lang/Object") ∈ lw_G := lw_Gm (lw_t1 (List.mem_of_getElem? (i := 136) rfl)) rfl
theorem m1_137 : (Jvm.Cond.classLink "LastCalled" (41 : Nat) "LastCalled$Hearing") ∈ lw_G := lw_Gm (lw_t1 (List.mem_of_getElem? (i := 137) rfl)) rfl
theorem m1_138 : (Jvm.Cond.instantiable "LastCalled$Hearing" (4 : Nat)) ∈ lw_G := lw_Gm (lw_t1 (List.mem_of_getElem? (i := 138) rfl)) rfl
theorem m1_140 : (Jvm.Cond.instanceMethod ({ cls := "LastCalled$Hearing", name := "<init>", desc := "()V" } : Jvm.MethodName)) ∈ lw_G := lw_Gm (lw_t1 (List.mem_of_getElem? (i := 140) rfl)) rfl
theorem m1_141 : (Jvm.Cond.code ({ cls := "LastCalled$Hearing", name := "<init>", desc := "()V" } : Jvm.MethodName) prog_8_method_1_code (1 : Nat) (Option.none : Option Jvm.ClassFile.FieldType)) ∈ lw_G := lw_Gm (lw_t1 (List.mem_of_getElem? (i := 141) rfl)) rfl
theorem m1_142 : (Jvm.Cond.methodLink "LastCalled$Hearing" (3 : Nat) ({ cls := "java/lang/Object", name := "<init>", desc := "()V" } : Jvm.MethodName)) ∈ lw_G := lw_Gm (lw_t1 (List.mem_of_getElem? (i := 142) rfl)) rfl
theorem m1_143 : (Jvm.Cond.classLink "LastCalled$Hearing" (9 : Nat) "LastCalled$Plain") ∈ lw_G := lw_Gm (lw_t1 (List.mem_of_getElem? (i := 143) rfl)) rfl
theorem m1_145 : (Jvm.Cond.instantiable "LastCalled$Plain" (0 : Nat)) ∈ lw_G := lw_Gm (lw_t1 (List.mem_of_getElem? (i := 145) rfl)) rfl
theorem m1_147 : (Jvm.Cond.instanceMethod ({ cls := "LastCalled$Plain", name := "<init>", desc := "()V" } : Jvm.MethodName)) ∈ lw_G := lw_Gm (lw_t1 (List.mem_of_getElem? (i := 147) rfl)) rfl
theorem m1_148 : (Jvm.Cond.code ({ cls := "LastCalled$Plain", name := "<init>", desc := "()V" } : Jvm.MethodName) prog_9_method_1_code (1 : Nat) (Option.none : Option Jvm.ClassFile.FieldType)) ∈ lw_G := lw_Gm (lw_t1 (List.mem_of_getElem? (i := 148) rfl)) rfl
theorem m1_149 : (Jvm.Cond.methodLink "LastCalled$Plain" (1 : Nat) ({ cls := "java/lang/Object", name := "<init>", desc := "()V" } : Jvm.MethodName)) ∈ lw_G := lw_Gm (lw_t1 (List.mem_of_getElem? (i := 149) rfl)) rfl
theorem m1_150 : (Jvm.Cond.superclass "LastCalled$Plain" "java/lang/Object") ∈ lw_G := lw_Gm (lw_t1 (List.mem_of_getElem? (i := 150) rfl)) rfl
theorem m1_151 : (Jvm.Cond.classLink "LastCalled$Hearing" (12 : Nat) "LastCalled$Careful") ∈ lw_G := lw_Gm (lw_t1 (List.mem_of_getElem? (i := 151) rfl)) rfl
theorem m1_152 : (Jvm.Cond.instantiable "LastCalled$Careful" (0 : Nat)) ∈ lw_G := lw_Gm (lw_t1 (List.mem_of_getElem? (i := 152) rfl)) rfl
theorem m1_154 : (Jvm.Cond.instanceMethod ({ cls := "LastCalled$Careful", name := "<init>", desc := "()V" } : Jvm.MethodName)) ∈ lw_G := lw_Gm (lw_t1 (List.mem_of_getElem? (i := 154) rfl)) rfl
theorem m1_155 : (Jvm.Cond.code ({ cls := "LastCalled$Careful", name := "<init>", desc := "()V" } : Jvm.MethodName) prog_2_method_1_code (1 : Nat) (Option.none : Option Jvm.ClassFile.FieldType)) ∈ lw_G := lw_Gm (lw_t1 (List.mem_of_getElem? (i := 155) rfl)) rfl
theorem m1_157 : (Jvm.Cond.superclass "LastCalled$Careful" "LastCalled$Plain") ∈ lw_G := lw_Gm (lw_t1 (List.mem_of_getElem? (i := 157) rfl)) rfl
theorem m1_158 : (Jvm.Cond.classLink "LastCalled$Hearing" (15 : Nat) "LastCalled$Deaf") ∈ lw_G := lw_Gm (lw_t1 (List.mem_of_getElem? (i := 158) rfl)) rfl
theorem m1_159 : (Jvm.Cond.instantiable "LastCalled$Deaf" (0 : Nat)) ∈ lw_G := lw_Gm (lw_t1 (List.mem_of_getElem? (i := 159) rfl)) rfl
theorem m1_161 : (Jvm.Cond.instanceMethod ({ cls := "LastCalled$Deaf", name := "<init>", desc := "()V" } : Jvm.MethodName)) ∈ lw_G := lw_Gm (lw_t1 (List.mem_of_getElem? (i := 161) rfl)) rfl
theorem m1_162 : (Jvm.Cond.code ({ cls := "LastCalled$Deaf", name := "<init>", desc := "()V" } : Jvm.MethodName) prog_5_method_1_code (1 : Nat) (Option.none : Option Jvm.ClassFile.FieldType)) ∈ lw_G := lw_Gm (lw_t1 (List.mem_of_getElem? (i := 162) rfl)) rfl
theorem m1_164 : (Jvm.Cond.superclass "LastCalled$Deaf" "LastCalled$Plain") ∈ lw_G := lw_Gm (lw_t1 (List.mem_of_getElem? (i := 164) rfl)) rfl
theorem m1_165 : (Jvm.Cond.classLink "LastCalled$Hearing" (18 : Nat) "LastCalled$Child") ∈ lw_G := lw_Gm (lw_t1 (List.mem_of_getElem? (i := 165) rfl)) rfl
theorem m1_166 : (Jvm.Cond.instantiable "LastCalled$Child" (0 : Nat)) ∈ lw_G := lw_Gm (lw_t1 (List.mem_of_getElem? (i := 166) rfl)) rfl
theorem m1_168 : (Jvm.Cond.instanceMethod ({ cls := "LastCalled$Child", name := "<init>", desc := "()V" } : Jvm.MethodName)) ∈ lw_G := lw_Gm (lw_t1 (List.mem_of_getElem? (i := 168) rfl)) rfl
theorem m1_169 : (Jvm.Cond.code ({ cls := "LastCalled$Child", name := "<init>", desc := "()V" } : Jvm.MethodName) prog_3_method_1_code (1 : Nat) (Option.none : Option Jvm.ClassFile.FieldType)) ∈ lw_G := lw_Gm (lw_t1 (List.mem_of_getElem? (i := 169) rfl)) rfl
theorem m1_171 : (Jvm.Cond.superclass "LastCalled$Child" "LastCalled$Plain") ∈ lw_G := lw_Gm (lw_t1 (List.mem_of_getElem? (i := 171) rfl)) rfl
theorem m1_172 : (Jvm.Cond.classLink "LastCalled$Hearing" (21 : Nat) "LastCalled$Sheep") ∈ lw_G := lw_Gm (lw_t1 (List.mem_of_getElem? (i := 172) rfl)) rfl
theorem m1_173 : (Jvm.Cond.instantiable "LastCalled$Sheep" (0 : Nat)) ∈ lw_G := lw_Gm (lw_t1 (List.mem_of_getElem? (i := 173) rfl)) rfl
theorem m1_175 : (Jvm.Cond.instanceMethod ({ cls := "LastCalled$Sheep", name := "<init>", desc := "()V" } : Jvm.MethodName)) ∈ lw_G := lw_Gm (lw_t1 (List.mem_of_getElem? (i := 175) rfl)) rfl
theorem m1_176 : (Jvm.Cond.code ({ cls := "LastCalled$Sheep", name := "<init>", desc := "()V" } : Jvm.MethodName) prog_11_method_1_code (1 : Nat) (Option.none : Option Jvm.ClassFile.FieldType)) ∈ lw_G := lw_Gm (lw_t1 (List.mem_of_getElem? (i := 176) rfl)) rfl
theorem m1_178 : (Jvm.Cond.superclass "LastCalled$Sheep" "LastCalled$Child") ∈ lw_G := lw_Gm (lw_t1 (List.mem_of_getElem? (i := 178) rfl)) rfl
theorem m1_179 : (Jvm.Cond.classLink "LastCalled$Hearing" (24 : Nat) "LastCalled$Cliff") ∈ lw_G := lw_Gm (lw_t1 (List.mem_of_getElem? (i := 179) rfl)) rfl
theorem m1_180 : (Jvm.Cond.instantiable "LastCalled$Cliff" (0 : Nat)) ∈ lw_G := lw_Gm (lw_t1 (List.mem_of_getElem? (i := 180) rfl)) rfl
theorem m1_182 : (Jvm.Cond.instanceMethod ({ cls := "LastCalled$Cliff", name := "<init>", desc := "()V" } : Jvm.MethodName)) ∈ lw_G := lw_Gm (lw_t1 (List.mem_of_getElem? (i := 182) rfl)) rfl
theorem m1_183 : (Jvm.Cond.code ({ cls := "LastCalled$Cliff", name := "<init>", desc := "()V" } : Jvm.MethodName) prog_4_method_1_code (1 : Nat) (Option.none : Option Jvm.ClassFile.FieldType)) ∈ lw_G := lw_Gm (lw_t1 (List.mem_of_getElem? (i := 183) rfl)) rfl
theorem m1_185 : (Jvm.Cond.superclass "LastCalled$Cliff" "LastCalled$Careful") ∈ lw_G := lw_Gm (lw_t1 (List.mem_of_getElem? (i := 185) rfl)) rfl
theorem m1_186 : (Jvm.Cond.fieldLink "LastCalled$Hearing" (27 : Nat) "LastCalled$Hearing" "kinds" "[LLastCalled$Plain;") ∈ lw_G := lw_Gm (lw_t1 (List.mem_of_getElem? (i := 186) rfl)) rfl
theorem m1_187 : (Jvm.Cond.fieldLink "LastCalled$Hearing" (33 : Nat) "LastCalled$Hearing" "atOwn" "[I") ∈ lw_G := lw_Gm (lw_t1 (List.mem_of_getElem? (i := 187) rfl)) rfl
theorem m1_188 : (Jvm.Cond.fieldLink "LastCalled$Hearing" (37 : Nat) "LastCalled$Hearing" "atOthers" "[I") ∈ lw_G := lw_Gm (lw_t1 (List.mem_of_getElem? (i := 188) rfl)) rfl
theorem m1_189 : (Jvm.Cond.fieldLink "LastCalled$Hearing" (40 : Nat) "LastCalled$Hearing" "atNobodys" "[I") ∈ lw_G := lw_Gm (lw_t1 (List.mem_of_getElem? (i := 189) rfl)) rfl
theorem m1_190 : (Jvm.Cond.laysFinal "LastCalled$Hearing" "LastCalled$Hearing" "kinds" "[LLastCalled$Plain;") ∈ lw_G := lw_Gm (lw_t1 (List.mem_of_getElem? (i := 190) rfl)) rfl
theorem m1_192 : (Jvm.Cond.laysFinal "LastCalled$Hearing" "LastCalled$Hearing" "atOwn" "[I") ∈ lw_G := lw_Gm (lw_t1 (List.mem_of_getElem? (i := 192) rfl)) rfl
theorem m1_194 : (Jvm.Cond.laysFinal "LastCalled$Hearing" "LastCalled$Hearing" "atOthers" "[I") ∈ lw_G := lw_Gm (lw_t1 (List.mem_of_getElem? (i := 194) rfl)) rfl
theorem m1_196 : (Jvm.Cond.laysFinal "LastCalled$Hearing" "LastCalled$Hearing" "atNobodys" "[I") ∈ lw_G := lw_Gm (lw_t1 (List.mem_of_getElem? (i := 196) rfl)) rfl
theorem m1_198 : (Jvm.Cond.superclass "LastCalled$Hearing" "java/lang/Object") ∈ lw_G := lw_Gm (lw_t1 (List.mem_of_getElem? (i := 198) rfl)) rfl
theorem m1_199 : (Jvm.Cond.classLink "LastCalled" (48 : Nat) "LastCalled$Search") ∈ lw_G := lw_Gm (lw_t1 (List.mem_of_getElem? (i := 199) rfl)) rfl
theorem m1_200 : (Jvm.Cond.instantiable "LastCalled$Search" (4 : Nat)) ∈ lw_G := lw_Gm (lw_t1 (List.mem_of_getElem? (i := 200) rfl)) rfl
theorem m1_202 : (Jvm.Cond.instanceMethod ({ cls := "LastCalled$Search", name := "<init>", desc := "()V" } : Jvm.MethodName)) ∈ lw_G := lw_Gm (lw_t1 (List.mem_of_getElem? (i := 202) rfl)) rfl
theorem m1_203 : (Jvm.Cond.code ({ cls := "LastCalled$Search", name := "<init>", desc := "()V" } : Jvm.MethodName) prog_10_method_1_code (1 : Nat) (Option.none : Option Jvm.ClassFile.FieldType)) ∈ lw_G := lw_Gm (lw_t1 (List.mem_of_getElem? (i := 203) rfl)) rfl
theorem m1_204 : (Jvm.Cond.methodLink "LastCalled$Search" (3 : Nat) ({ cls := "java/lang/Object", name := "<init>", desc := "()V" } : Jvm.MethodName)) ∈ lw_G := lw_Gm (lw_t1 (List.mem_of_getElem? (i := 204) rfl)) rfl
theorem m1_205 : (Jvm.Cond.fieldLink "LastCalled$Search" (9 : Nat) "LastCalled$Search" "behind" "[I") ∈ lw_G := lw_Gm (lw_t1 (List.mem_of_getElem? (i := 205) rfl)) rfl
theorem m1_206 : (Jvm.Cond.fieldLink "LastCalled$Search" (15 : Nat) "LastCalled$Search" "fewest" "I") ∈ lw_G := lw_Gm (lw_t1 (List.mem_of_getElem? (i := 206) rfl)) rfl
theorem m1_207 : (Jvm.Cond.fieldLink "LastCalled" (144 : Nat) "LastCalled$Search" "fewest" "I") ∈ lw_G := lw_Gm (lw_t1 (List.mem_of_getElem? (i := 207) rfl)) rfl
theorem m1_208 : (Jvm.Cond.fieldLink "LastCalled$Search" (19 : Nat) "LastCalled$Search" "first" "I") ∈ lw_G := lw_Gm (lw_t1 (List.mem_of_getElem? (i := 208) rfl)) rfl
theorem m1_209 : (Jvm.Cond.fieldLink "LastCalled" (147 : Nat) "LastCalled$Search" "first" "I") ∈ lw_G := lw_Gm (lw_t1 (List.mem_of_getElem? (i := 209) rfl)) rfl
theorem m1_210 : (Jvm.Cond.fieldLink "LastCalled$Search" (61 : Nat) "LastCalled$Search" "most" "I") ∈ lw_G := lw_Gm (lw_t1 (List.mem_of_getElem? (i := 210) rfl)) rfl
theorem m1_211 : (Jvm.Cond.fieldLink "LastCalled" (154 : Nat) "LastCalled$Search" "most" "I") ∈ lw_G := lw_Gm (lw_t1 (List.mem_of_getElem? (i := 211) rfl)) rfl
theorem m1_212 : (Jvm.Cond.laysFinal "LastCalled$Search" "LastCalled$Search" "behind" "[I") ∈ lw_G := lw_Gm (lw_t1 (List.mem_of_getElem? (i := 212) rfl)) rfl
theorem m1_214 : (Jvm.Cond.lays "LastCalled$Search" "LastCalled$Search" "fewest" "I") ∈ lw_G := lw_Gm (lw_t1 (List.mem_of_getElem? (i := 214) rfl)) rfl
theorem m1_216 : (Jvm.Cond.lays "LastCalled$Search" "LastCalled$Search" "first" "I") ∈ lw_G := lw_Gm (lw_t1 (List.mem_of_getElem? (i := 216) rfl)) rfl
theorem m1_218 : (Jvm.Cond.lays "LastCalled$Search" "LastCalled$Search" "most" "I") ∈ lw_G := lw_Gm (lw_t1 (List.mem_of_getElem? (i := 218) rfl)) rfl
theorem m1_220 : (Jvm.Cond.superclass "LastCalled$Search" "java/lang/Object") ∈ lw_G := lw_Gm (lw_t1 (List.mem_of_getElem? (i := 220) rfl)) rfl
theorem m1_221 : (Jvm.Cond.fieldLink "LastCalled" (10 : Nat) "LastCalled" "now" "LLastCalled$Hamlet;") ∈ lw_G := lw_Gm (lw_t1 (List.mem_of_getElem? (i := 221) rfl)) rfl
theorem m1_222 : (Jvm.Cond.fieldLink "LastCalled" (16 : Nat) "LastCalled" "draft" "LLastCalled$Hamlet;") ∈ lw_G := lw_Gm (lw_t1 (List.mem_of_getElem? (i := 222) rfl)) rfl
theorem m1_223 : (Jvm.Cond.fieldLink "LastCalled" (19 : Nat) "LastCalled" "images" "[LLastCalled$Hamlet;") ∈ lw_G := lw_Gm (lw_t1 (List.mem_of_getElem? (i := 223) rfl)) rfl
theorem m1_224 : (Jvm.Cond.fieldLink "LastCalled" (23 : Nat) "LastCalled" "kept" "[Z") ∈ lw_G := lw_Gm (lw_t1 (List.mem_of_getElem? (i := 224) rfl)) rfl
theorem m1_225 : (Jvm.Cond.fieldLink "LastCalled" (30 : Nat) "LastCalled" "text" "LLastCalled$Text;") ∈ lw_G := lw_Gm (lw_t1 (List.mem_of_getElem? (i := 225) rfl)) rfl
theorem m1_226 : (Jvm.Cond.fieldLink "LastCalled" (37 : Nat) "LastCalled" "fraction" "LLastCalled$Fraction;") ∈ lw_G := lw_Gm (lw_t1 (List.mem_of_getElem? (i := 226) rfl)) rfl
theorem m1_227 : (Jvm.Cond.fieldLink "LastCalled" (44 : Nat) "LastCalled" "hearing" "LLastCalled$Hearing;") ∈ lw_G := lw_Gm (lw_t1 (List.mem_of_getElem? (i := 227) rfl)) rfl
theorem m1_228 : (Jvm.Cond.fieldLink "LastCalled" (51 : Nat) "LastCalled" "search" "LLastCalled$Search;") ∈ lw_G := lw_Gm (lw_t1 (List.mem_of_getElem? (i := 228) rfl)) rfl
theorem m1_229 : (Jvm.Cond.fieldLink "LastCalled" (55 : Nat) "LastCalled" "refused" "[I") ∈ lw_G := lw_Gm (lw_t1 (List.mem_of_getElem? (i := 229) rfl)) rfl
theorem m1_230 : (Jvm.Cond.laysFinal "LastCalled" "LastCalled" "now" "LLastCalled$Hamlet;") ∈ lw_G := lw_Gm (lw_t1 (List.mem_of_getElem? (i := 230) rfl)) rfl
theorem m1_232 : (Jvm.Cond.laysFinal "LastCalled" "LastCalled" "draft" "LLastCalled$Hamlet;") ∈ lw_G := lw_Gm (lw_t1 (List.mem_of_getElem? (i := 232) rfl)) rfl
theorem m1_234 : (Jvm.Cond.laysFinal "LastCalled" "LastCalled" "images" "[LLastCalled$Hamlet;") ∈ lw_G := lw_Gm (lw_t1 (List.mem_of_getElem? (i := 234) rfl)) rfl
theorem m1_236 : (Jvm.Cond.laysFinal "LastCalled" "LastCalled" "kept" "[Z") ∈ lw_G := lw_Gm (lw_t1 (List.mem_of_getElem? (i := 236) rfl)) rfl
theorem m1_238 : (Jvm.Cond.laysFinal "LastCalled" "LastCalled" "text" "LLastCalled$Text;") ∈ lw_G := lw_Gm (lw_t1 (List.mem_of_getElem? (i := 238) rfl)) rfl
theorem m2_0 : (Jvm.Cond.laysFinal "LastCalled" "LastCalled" "fraction" "LLastCalled$Fraction;") ∈ lw_G := lw_Gm (lw_t2 (List.mem_of_getElem? (i := 0) rfl)) rfl
theorem m2_2 : (Jvm.Cond.laysFinal "LastCalled" "LastCalled" "hearing" "LLastCalled$Hearing;") ∈ lw_G := lw_Gm (lw_t2 (List.mem_of_getElem? (i := 2) rfl)) rfl
theorem m2_4 : (Jvm.Cond.laysFinal "LastCalled" "LastCalled" "search" "LLastCalled$Search;") ∈ lw_G := lw_Gm (lw_t2 (List.mem_of_getElem? (i := 4) rfl)) rfl
theorem m2_6 : (Jvm.Cond.laysFinal "LastCalled" "LastCalled" "refused" "[I") ∈ lw_G := lw_Gm (lw_t2 (List.mem_of_getElem? (i := 6) rfl)) rfl
theorem m2_8 : (Jvm.Cond.superclass "LastCalled" "java/lang/Object") ∈ lw_G := lw_Gm (lw_t2 (List.mem_of_getElem? (i := 8) rfl)) rfl
theorem m2_9 : (Jvm.Cond.methodLink "LastCalledLaw" (13 : Nat) ({ cls := "LastCalled", name := "hamlet", desc := "(I)I" } : Jvm.MethodName)) ∈ lw_G := lw_Gm (lw_t2 (List.mem_of_getElem? (i := 9) rfl)) rfl
theorem m2_10 : (Jvm.Cond.instanceMethod ({ cls := "LastCalled", name := "hamlet", desc := "(I)I" } : Jvm.MethodName)) ∈ lw_G := lw_Gm (lw_t2 (List.mem_of_getElem? (i := 10) rfl)) rfl
theorem m2_11 : (Jvm.Cond.selects "LastCalled" ({ cls := "LastCalled", name := "hamlet", desc := "(I)I" } : Jvm.MethodName) ({ cls := "LastCalled", name := "hamlet", desc := "(I)I" } : Jvm.MethodName)) ∈ lw_G := lw_Gm (lw_t2 (List.mem_of_getElem? (i := 11) rfl)) rfl
theorem m2_12 : (Jvm.Cond.code ({ cls := "LastCalled", name := "hamlet", desc := "(I)I" } : Jvm.MethodName) prog_1_method_2_code (3 : Nat) (Option.some Jvm.ClassFile.FieldType.int)) ∈ lw_G := lw_Gm (lw_t2 (List.mem_of_getElem? (i := 12) rfl)) rfl
theorem m2_13 : (Jvm.Cond.methodLink "LastCalled" (59 : Nat) ({ cls := "LastCalled", name := "within", desc := "(II)Z" } : Jvm.MethodName)) ∈ lw_G := lw_Gm (lw_t2 (List.mem_of_getElem? (i := 13) rfl)) rfl
theorem m2_14 : (Jvm.Cond.static ({ cls := "LastCalled", name := "within", desc := "(II)Z" } : Jvm.MethodName)) ∈ lw_G := lw_Gm (lw_t2 (List.mem_of_getElem? (i := 14) rfl)) rfl
theorem m2_15 : (Jvm.Cond.code ({ cls := "LastCalled", name := "within", desc := "(II)Z" } : Jvm.MethodName) prog_1_method_35_code (2 : Nat) (Option.some Jvm.ClassFile.FieldType.boolean)) ∈ lw_G := lw_Gm (lw_t2 (List.mem_of_getElem? (i := 15) rfl)) rfl
theorem m2_16 : (Jvm.Cond.methodLink "LastCalled" (63 : Nat) ({ cls := "LastCalled", name := "refuse", desc := "(I)I" } : Jvm.MethodName)) ∈ lw_G := lw_Gm (lw_t2 (List.mem_of_getElem? (i := 16) rfl)) rfl
theorem m2_18 : (Jvm.Cond.instanceMethod ({ cls := "LastCalled", name := "refuse", desc := "(I)I" } : Jvm.MethodName)) ∈ lw_G := lw_Gm (lw_t2 (List.mem_of_getElem? (i := 18) rfl)) rfl
theorem m2_19 : (Jvm.Cond.code ({ cls := "LastCalled", name := "refuse", desc := "(I)I" } : Jvm.MethodName) prog_1_method_38_code (3 : Nat) (Option.some Jvm.ClassFile.FieldType.int)) ∈ lw_G := lw_Gm (lw_t2 (List.mem_of_getElem? (i := 19) rfl)) rfl
theorem m2_20 : (Jvm.Cond.methodLink "LastCalled" (71 : Nat) ({ cls := "LastCalled$Hamlet", name := "begin", desc := "(I)V" } : Jvm.MethodName)) ∈ lw_G := lw_Gm (lw_t2 (List.mem_of_getElem? (i := 20) rfl)) rfl
theorem m2_21 : (Jvm.Cond.instanceMethod ({ cls := "LastCalled$Hamlet", name := "begin", desc := "(I)V" } : Jvm.MethodName)) ∈ lw_G := lw_Gm (lw_t2 (List.mem_of_getElem? (i := 21) rfl)) rfl
theorem m2_22 : (Jvm.Cond.selects "LastCalled$Hamlet" ({ cls := "LastCalled$Hamlet", name := "begin", desc := "(I)V" } : Jvm.MethodName) ({ cls := "LastCalled$Hamlet", name := "begin", desc := "(I)V" } : Jvm.MethodName)) ∈ lw_G := lw_Gm (lw_t2 (List.mem_of_getElem? (i := 22) rfl)) rfl
theorem m2_23 : (Jvm.Cond.code ({ cls := "LastCalled$Hamlet", name := "begin", desc := "(I)V" } : Jvm.MethodName) prog_7_method_2_code (2 : Nat) (Option.none : Option Jvm.ClassFile.FieldType)) ∈ lw_G := lw_Gm (lw_t2 (List.mem_of_getElem? (i := 23) rfl)) rfl
theorem m2_24 : (Jvm.Cond.methodLink "LastCalled$Hamlet" (40 : Nat) ({ cls := "java/util/Arrays", name := "fill", desc := "([II)V" } : Jvm.MethodName)) ∈ lw_G := lw_Gm (lw_t2 (List.mem_of_getElem? (i := 24) rfl)) rfl
theorem m2_25 : (Jvm.Cond.static ({ cls := "java/util/Arrays", name := "fill", desc := "([II)V" } : Jvm.MethodName)) ∈ lw_G := lw_Gm (lw_t2 (List.mem_of_getElem? (i := 25) rfl)) rfl
theorem m2_26 : (Jvm.Cond.code ({ cls := "java/util/Arrays", name := "fill", desc := "([II)V" } : Jvm.MethodName) prog_21_method_103_code (4 : Nat) (Option.none : Option Jvm.ClassFile.FieldType)) ∈ lw_G := lw_Gm (lw_t2 (List.mem_of_getElem? (i := 26) rfl)) rfl
theorem m2_27 : (Jvm.Cond.methodLink "LastCalledLaw" (18 : Nat) ({ cls := "LastCalled", name := "one", desc := "(II)I" } : Jvm.MethodName)) ∈ lw_G := lw_Gm (lw_t2 (List.mem_of_getElem? (i := 27) rfl)) rfl
theorem m2_28 : (Jvm.Cond.instanceMethod ({ cls := "LastCalled", name := "one", desc := "(II)I" } : Jvm.MethodName)) ∈ lw_G := lw_Gm (lw_t2 (List.mem_of_getElem? (i := 28) rfl)) rfl
theorem m2_29 : (Jvm.Cond.selects "LastCalled" ({ cls := "LastCalled", name := "one", desc := "(II)I" } : Jvm.MethodName) ({ cls := "LastCalled", name := "one", desc := "(II)I" } : Jvm.MethodName)) ∈ lw_G := lw_Gm (lw_t2 (List.mem_of_getElem? (i := 29) rfl)) rfl
theorem m2_30 : (Jvm.Cond.code ({ cls := "LastCalled", name := "one", desc := "(II)I" } : Jvm.MethodName) prog_1_method_3_code (3 : Nat) (Option.some Jvm.ClassFile.FieldType.int)) ∈ lw_G := lw_Gm (lw_t2 (List.mem_of_getElem? (i := 30) rfl)) rfl
theorem m2_31 : (Jvm.Cond.methodLink "LastCalled" (75 : Nat) ({ cls := "LastCalled$Hamlet", name := "join", desc := "(II)V" } : Jvm.MethodName)) ∈ lw_G := lw_Gm (lw_t2 (List.mem_of_getElem? (i := 31) rfl)) rfl
theorem m2_32 : (Jvm.Cond.instanceMethod ({ cls := "LastCalled$Hamlet", name := "join", desc := "(II)V" } : Jvm.MethodName)) ∈ lw_G := lw_Gm (lw_t2 (List.mem_of_getElem? (i := 32) rfl)) rfl
theorem m2_33 : (Jvm.Cond.selects "LastCalled$Hamlet" ({ cls := "LastCalled$Hamlet", name := "join", desc := "(II)V" } : Jvm.MethodName) ({ cls := "LastCalled$Hamlet", name := "join", desc := "(II)V" } : Jvm.MethodName)) ∈ lw_G := lw_Gm (lw_t2 (List.mem_of_getElem? (i := 33) rfl)) rfl
theorem m2_34 : (Jvm.Cond.code ({ cls := "LastCalled$Hamlet", name := "join", desc := "(II)V" } : Jvm.MethodName) prog_7_method_4_code (3 : Nat) (Option.none : Option Jvm.ClassFile.FieldType)) ∈ lw_G := lw_Gm (lw_t2 (List.mem_of_getElem? (i := 34) rfl)) rfl
theorem m2_35 : (Jvm.Cond.methodLink "LastCalledLaw" (23 : Nat) ({ cls := "LastCalled", name := "type", desc := "(I)I" } : Jvm.MethodName)) ∈ lw_G := lw_Gm (lw_t2 (List.mem_of_getElem? (i := 35) rfl)) rfl
theorem m2_36 : (Jvm.Cond.instanceMethod ({ cls := "LastCalled", name := "type", desc := "(I)I" } : Jvm.MethodName)) ∈ lw_G := lw_Gm (lw_t2 (List.mem_of_getElem? (i := 36) rfl)) rfl
theorem m2_37 : (Jvm.Cond.selects "LastCalled" ({ cls := "LastCalled", name := "type", desc := "(I)I" } : Jvm.MethodName) ({ cls := "LastCalled", name := "type", desc := "(I)I" } : Jvm.MethodName)) ∈ lw_G := lw_Gm (lw_t2 (List.mem_of_getElem? (i := 37) rfl)) rfl
theorem m2_38 : (Jvm.Cond.code ({ cls := "LastCalled", name := "type", desc := "(I)I" } : Jvm.MethodName) prog_1_method_4_code (2 : Nat) (Option.some Jvm.ClassFile.FieldType.int)) ∈ lw_G := lw_Gm (lw_t2 (List.mem_of_getElem? (i := 38) rfl)) rfl
theorem m2_39 : (Jvm.Cond.methodLink "LastCalled" (82 : Nat) ({ cls := "LastCalled$Text", name := "append", desc := "(I)V" } : Jvm.MethodName)) ∈ lw_G := lw_Gm (lw_t2 (List.mem_of_getElem? (i := 39) rfl)) rfl
theorem m2_40 : (Jvm.Cond.instanceMethod ({ cls := "LastCalled$Text", name := "append", desc := "(I)V" } : Jvm.MethodName)) ∈ lw_G := lw_Gm (lw_t2 (List.mem_of_getElem? (i := 40) rfl)) rfl
theorem m2_41 : (Jvm.Cond.selects "LastCalled$Text" ({ cls := "LastCalled$Text", name := "append", desc := "(I)V" } : Jvm.MethodName) ({ cls := "LastCalled$Text", name := "append", desc := "(I)V" } : Jvm.MethodName)) ∈ lw_G := lw_Gm (lw_t2 (List.mem_of_getElem? (i := 41) rfl)) rfl
theorem m2_42 : (Jvm.Cond.code ({ cls := "LastCalled$Text", name := "append", desc := "(I)V" } : Jvm.MethodName) prog_12_method_2_code (2 : Nat) (Option.none : Option Jvm.ClassFile.FieldType)) ∈ lw_G := lw_Gm (lw_t2 (List.mem_of_getElem? (i := 42) rfl)) rfl
theorem m2_43 : (Jvm.Cond.methodLink "LastCalledLaw" (27 : Nat) ({ cls := "LastCalled", name := "clear", desc := "()I" } : Jvm.MethodName)) ∈ lw_G := lw_Gm (lw_t2 (List.mem_of_getElem? (i := 43) rfl)) rfl
theorem m2_44 : (Jvm.Cond.instanceMethod ({ cls := "LastCalled", name := "clear", desc := "()I" } : Jvm.MethodName)) ∈ lw_G := lw_Gm (lw_t2 (List.mem_of_getElem? (i := 44) rfl)) rfl
theorem m2_45 : (Jvm.Cond.selects "LastCalled" ({ cls := "LastCalled", name := "clear", desc := "()I" } : Jvm.MethodName) ({ cls := "LastCalled", name := "clear", desc := "()I" } : Jvm.MethodName)) ∈ lw_G := lw_Gm (lw_t2 (List.mem_of_getElem? (i := 45) rfl)) rfl
theorem m2_46 : (Jvm.Cond.code ({ cls := "LastCalled", name := "clear", desc := "()I" } : Jvm.MethodName) prog_1_method_5_code (2 : Nat) (Option.some Jvm.ClassFile.FieldType.int)) ∈ lw_G := lw_Gm (lw_t2 (List.mem_of_getElem? (i := 46) rfl)) rfl
theorem m2_47 : (Jvm.Cond.methodLink "LastCalledLaw" (32 : Nat) ({ cls := "LastCalled", name := "read", desc := "()I" } : Jvm.MethodName)) ∈ lw_G := lw_Gm (lw_t2 (List.mem_of_getElem? (i := 47) rfl)) rfl
theorem m2_48 : (Jvm.Cond.instanceMethod ({ cls := "LastCalled", name := "read", desc := "()I" } : Jvm.MethodName)) ∈ lw_G := lw_Gm (lw_t2 (List.mem_of_getElem? (i := 48) rfl)) rfl
theorem m2_49 : (Jvm.Cond.selects "LastCalled" ({ cls := "LastCalled", name := "read", desc := "()I" } : Jvm.MethodName) ({ cls := "LastCalled", name := "read", desc := "()I" } : Jvm.MethodName)) ∈ lw_G := lw_Gm (lw_t2 (List.mem_of_getElem? (i := 49) rfl)) rfl
theorem m2_50 : (Jvm.Cond.code ({ cls := "LastCalled", name := "read", desc := "()I" } : Jvm.MethodName) prog_1_method_6_code (2 : Nat) (Option.some Jvm.ClassFile.FieldType.int)) ∈ lw_G := lw_Gm (lw_t2 (List.mem_of_getElem? (i := 50) rfl)) rfl
theorem m2_51 : (Jvm.Cond.methodLink "LastCalled" (85 : Nat) ({ cls := "LastCalled$Text", name := "tell", desc := "(LLastCalled$Hamlet;)I" } : Jvm.MethodName)) ∈ lw_G := lw_Gm (lw_t2 (List.mem_of_getElem? (i := 51) rfl)) rfl
theorem m2_52 : (Jvm.Cond.instanceMethod ({ cls := "LastCalled$Text", name := "tell", desc := "(LLastCalled$Hamlet;)I" } : Jvm.MethodName)) ∈ lw_G := lw_Gm (lw_t2 (List.mem_of_getElem? (i := 52) rfl)) rfl
theorem m2_53 : (Jvm.Cond.selects "LastCalled$Text" ({ cls := "LastCalled$Text", name := "tell", desc := "(LLastCalled$Hamlet;)I" } : Jvm.MethodName) ({ cls := "LastCalled$Text", name := "tell", desc := "(LLastCalled$Hamlet;)I" } : Jvm.MethodName)) ∈ lw_G := lw_Gm (lw_t2 (List.mem_of_getElem? (i := 53) rfl)) rfl
theorem m2_54 : (Jvm.Cond.code ({ cls := "LastCalled$Text", name := "tell", desc := "(LLastCalled$Hamlet;)I" } : Jvm.MethodName) prog_12_method_3_code (3 : Nat) (Option.some Jvm.ClassFile.FieldType.int)) ∈ lw_G := lw_Gm (lw_t2 (List.mem_of_getElem? (i := 54) rfl)) rfl
theorem m2_55 : (Jvm.Cond.methodLink "LastCalled$Text" (22 : Nat) ({ cls := "LastCalled$Text", name := "advance", desc := "()V" } : Jvm.MethodName)) ∈ lw_G := lw_Gm (lw_t2 (List.mem_of_getElem? (i := 55) rfl)) rfl
theorem m2_57 : (Jvm.Cond.instanceMethod ({ cls := "LastCalled$Text", name := "advance", desc := "()V" } : Jvm.MethodName)) ∈ lw_G := lw_Gm (lw_t2 (List.mem_of_getElem? (i := 57) rfl)) rfl
theorem m2_58 : (Jvm.Cond.code ({ cls := "LastCalled$Text", name := "advance", desc := "()V" } : Jvm.MethodName) prog_12_method_10_code (2 : Nat) (Option.none : Option Jvm.ClassFile.FieldType)) ∈ lw_G := lw_Gm (lw_t2 (List.mem_of_getElem? (i := 58) rfl)) rfl
theorem m2_59 : (Jvm.Cond.methodLink "LastCalled$Text" (88 : Nat) ({ cls := "LastCalled$Text", name := "sortOf", desc := "(I)I" } : Jvm.MethodName)) ∈ lw_G := lw_Gm (lw_t2 (List.mem_of_getElem? (i := 59) rfl)) rfl
theorem m2_60 : (Jvm.Cond.static ({ cls := "LastCalled$Text", name := "sortOf", desc := "(I)I" } : Jvm.MethodName)) ∈ lw_G := lw_Gm (lw_t2 (List.mem_of_getElem? (i := 60) rfl)) rfl
theorem m2_61 : (Jvm.Cond.code ({ cls := "LastCalled$Text", name := "sortOf", desc := "(I)I" } : Jvm.MethodName) prog_12_method_11_code (1 : Nat) (Option.some Jvm.ClassFile.FieldType.int)) ∈ lw_G := lw_Gm (lw_t2 (List.mem_of_getElem? (i := 61) rfl)) rfl
theorem m2_63 : (Jvm.Cond.methodLink "LastCalled$Text" (27 : Nat) ({ cls := "LastCalled$Text", name := "isWord", desc := "(Ljava/lang/String;)Z" } : Jvm.MethodName)) ∈ lw_G := lw_Gm (lw_t2 (List.mem_of_getElem? (i := 63) rfl)) rfl
theorem m2_65 : (Jvm.Cond.instanceMethod ({ cls := "LastCalled$Text", name := "isWord", desc := "(Ljava/lang/String;)Z" } : Jvm.MethodName)) ∈ lw_G := lw_Gm (lw_t2 (List.mem_of_getElem? (i := 65) rfl)) rfl
theorem m2_66 : (Jvm.Cond.code ({ cls := "LastCalled$Text", name := "isWord", desc := "(Ljava/lang/String;)Z" } : Jvm.MethodName) prog_12_method_9_code (3 : Nat) (Option.some Jvm.ClassFile.FieldType.boolean)) ∈ lw_G := lw_Gm (lw_t2 (List.mem_of_getElem? (i := 66) rfl)) rfl
theorem m2_67 : (Jvm.Cond.methodLink "LastCalled$Text" (79 : Nat) ({ cls := "java/lang/String", name := "length", desc := "()I" } : Jvm.MethodName)) ∈ lw_G := lw_Gm (lw_t2 (List.mem_of_getElem? (i := 67) rfl)) rfl
theorem m2_68 : (Jvm.Cond.instanceMethod ({ cls := "java/lang/String", name := "length", desc := "()I" } : Jvm.MethodName)) ∈ lw_G := lw_Gm (lw_t2 (List.mem_of_getElem? (i := 68) rfl)) rfl
theorem m2_69 : (Jvm.Cond.selects "java/lang/String" ({ cls := "java/lang/String", name := "length", desc := "()I" } : Jvm.MethodName) ({ cls := "java/lang/String", name := "length", desc := "()I" } : Jvm.MethodName)) ∈ lw_G := lw_Gm (lw_t2 (List.mem_of_getElem? (i := 69) rfl)) rfl
theorem m2_70 : (Jvm.Cond.code ({ cls := "java/lang/String", name := "length", desc := "()I" } : Jvm.MethodName) prog_17_method_54_code (1 : Nat) (Option.some Jvm.ClassFile.FieldType.int)) ∈ lw_G := lw_Gm (lw_t2 (List.mem_of_getElem? (i := 70) rfl)) rfl
theorem m2_71 : (Jvm.Cond.methodLink "java/lang/String" (335 : Nat) ({ cls := "java/lang/String", name := "coder", desc := "()B" } : Jvm.MethodName)) ∈ lw_G := lw_Gm (lw_t2 (List.mem_of_getElem? (i := 71) rfl)) rfl
theorem m2_72 : (Jvm.Cond.instanceMethod ({ cls := "java/lang/String", name := "coder", desc := "()B" } : Jvm.MethodName)) ∈ lw_G := lw_Gm (lw_t2 (List.mem_of_getElem? (i := 72) rfl)) rfl
theorem m2_73 : (Jvm.Cond.selects "java/lang/String" ({ cls := "java/lang/String", name := "coder", desc := "()B" } : Jvm.MethodName) ({ cls := "java/lang/String", name := "coder", desc := "()B" } : Jvm.MethodName)) ∈ lw_G := lw_Gm (lw_t2 (List.mem_of_getElem? (i := 73) rfl)) rfl
theorem m2_74 : (Jvm.Cond.code ({ cls := "java/lang/String", name := "coder", desc := "()B" } : Jvm.MethodName) prog_17_method_152_code (1 : Nat) (Option.some Jvm.ClassFile.FieldType.byte)) ∈ lw_G := lw_Gm (lw_t2 (List.mem_of_getElem? (i := 74) rfl)) rfl
theorem m2_75 : (Jvm.Cond.fieldLink "java/lang/String" (38 : Nat) "java/lang/String" "COMPACT_STRINGS" "Z") ∈ lw_G := lw_Gm (lw_t2 (List.mem_of_getElem? (i := 75) rfl)) rfl
theorem m2_77 : (Jvm.Cond.methodLink "LastCalled$Text" (84 : Nat) ({ cls := "java/lang/String", name := "charAt", desc := "(I)C" } : Jvm.MethodName)) ∈ lw_G := lw_Gm (lw_t2 (List.mem_of_getElem? (i := 77) rfl)) rfl
theorem m2_78 : (Jvm.Cond.instanceMethod ({ cls := "java/lang/String", name := "charAt", desc := "(I)C" } : Jvm.MethodName)) ∈ lw_G := lw_Gm (lw_t2 (List.mem_of_getElem? (i := 78) rfl)) rfl
theorem m2_79 : (Jvm.Cond.selects "java/lang/String" ({ cls := "java/lang/String", name := "charAt", desc := "(I)C" } : Jvm.MethodName) ({ cls := "java/lang/String", name := "charAt", desc := "(I)C" } : Jvm.MethodName)) ∈ lw_G := lw_Gm (lw_t2 (List.mem_of_getElem? (i := 79) rfl)) rfl
theorem m2_80 : (Jvm.Cond.code ({ cls := "java/lang/String", name := "charAt", desc := "(I)C" } : Jvm.MethodName) prog_17_method_56_code (2 : Nat) (Option.some Jvm.ClassFile.FieldType.char)) ∈ lw_G := lw_Gm (lw_t2 (List.mem_of_getElem? (i := 80) rfl)) rfl
theorem m2_81 : (Jvm.Cond.methodLink "java/lang/String" (492 : Nat) ({ cls := "java/lang/String", name := "isLatin1", desc := "()Z" } : Jvm.MethodName)) ∈ lw_G := lw_Gm (lw_t2 (List.mem_of_getElem? (i := 81) rfl)) rfl
theorem m2_82 : (Jvm.Cond.instanceMethod ({ cls := "java/lang/String", name := "isLatin1", desc := "()Z" } : Jvm.MethodName)) ∈ lw_G := lw_Gm (lw_t2 (List.mem_of_getElem? (i := 82) rfl)) rfl
theorem m2_83 : (Jvm.Cond.selects "java/lang/String" ({ cls := "java/lang/String", name := "isLatin1", desc := "()Z" } : Jvm.MethodName) ({ cls := "java/lang/String", name := "isLatin1", desc := "()Z" } : Jvm.MethodName)) ∈ lw_G := lw_Gm (lw_t2 (List.mem_of_getElem? (i := 83) rfl)) rfl
theorem m2_84 : (Jvm.Cond.code ({ cls := "java/lang/String", name := "isLatin1", desc := "()Z" } : Jvm.MethodName) prog_17_method_154_code (1 : Nat) (Option.some Jvm.ClassFile.FieldType.boolean)) ∈ lw_G := lw_Gm (lw_t2 (List.mem_of_getElem? (i := 84) rfl)) rfl
theorem m2_85 : (Jvm.Cond.methodLink "java/lang/String" (495 : Nat) ({ cls := "java/lang/StringLatin1", name := "charAt", desc := "([BI)C" } : Jvm.MethodName)) ∈ lw_G := lw_Gm (lw_t2 (List.mem_of_getElem? (i := 85) rfl)) rfl
theorem m2_86 : (Jvm.Cond.static ({ cls := "java/lang/StringLatin1", name := "charAt", desc := "([BI)C" } : Jvm.MethodName)) ∈ lw_G := lw_Gm (lw_t2 (List.mem_of_getElem? (i := 86) rfl)) rfl
theorem m2_87 : (Jvm.Cond.code ({ cls := "java/lang/StringLatin1", name := "charAt", desc := "([BI)C" } : Jvm.MethodName) prog_18_method_2_code (2 : Nat) (Option.some Jvm.ClassFile.FieldType.char)) ∈ lw_G := lw_Gm (lw_t2 (List.mem_of_getElem? (i := 87) rfl)) rfl
theorem m2_88 : (Jvm.Cond.methodLink "java/lang/StringLatin1" (9 : Nat) ({ cls := "java/lang/String", name := "checkIndex", desc := "(II)V" } : Jvm.MethodName)) ∈ lw_G := lw_Gm (lw_t2 (List.mem_of_getElem? (i := 88) rfl)) rfl
theorem m2_89 : (Jvm.Cond.static ({ cls := "java/lang/String", name := "checkIndex", desc := "(II)V" } : Jvm.MethodName)) ∈ lw_G := lw_Gm (lw_t2 (List.mem_of_getElem? (i := 89) rfl)) rfl
theorem m2_90 : (Jvm.Cond.code ({ cls := "java/lang/String", name := "checkIndex", desc := "(II)V" } : Jvm.MethodName) prog_17_method_155_code (2 : Nat) (Option.none : Option Jvm.ClassFile.FieldType)) ∈ lw_G := lw_Gm (lw_t2 (List.mem_of_getElem? (i := 90) rfl)) rfl
theorem m2_91 : (Jvm.Cond.fieldLink "java/lang/String" (1053 : Nat) "jdk/internal/util/Preconditions" "SIOOBE_FORMATTER" "Ljava/util/function/BiFunction;") ∈ lw_G := lw_Gm (lw_t2 (List.mem_of_getElem? (i := 91) rfl)) rfl
theorem m2_93 : (Jvm.Cond.methodLink "java/lang/String" (1059 : Nat) ({ cls := "jdk/internal/util/Preconditions", name := "checkIndex", desc := "(IILjava/util/function/BiFunction;)I" } : Jvm.MethodName)) ∈ lw_G := lw_Gm (lw_t2 (List.mem_of_getElem? (i := 93) rfl)) rfl
theorem m2_94 : (Jvm.Cond.static ({ cls := "jdk/internal/util/Preconditions", name := "checkIndex", desc := "(IILjava/util/function/BiFunction;)I" } : Jvm.MethodName)) ∈ lw_G := lw_Gm (lw_t2 (List.mem_of_getElem? (i := 94) rfl)) rfl
theorem m2_95 : (Jvm.Cond.code ({ cls := "jdk/internal/util/Preconditions", name := "checkIndex", desc := "(IILjava/util/function/BiFunction;)I" } : Jvm.MethodName) prog_22_method_11_code (3 : Nat) (Option.some Jvm.ClassFile.FieldType.int)) ∈ lw_G := lw_Gm (lw_t2 (List.mem_of_getElem? (i := 95) rfl)) rfl
theorem m2_96 : (Jvm.Cond.methodLink "java/lang/String" (498 : Nat) ({ cls := "java/lang/StringUTF16", name := "charAt", desc := "([BI)C" } : Jvm.MethodName)) ∈ lw_G := lw_Gm (lw_t2 (List.mem_of_getElem? (i := 96) rfl)) rfl
theorem m2_97 : (Jvm.Cond.static ({ cls := "java/lang/StringUTF16", name := "charAt", desc := "([BI)C" } : Jvm.MethodName)) ∈ lw_G := lw_Gm (lw_t2 (List.mem_of_getElem? (i := 97) rfl)) rfl
theorem m2_98 : (Jvm.Cond.code ({ cls := "java/lang/StringUTF16", name := "charAt", desc := "([BI)C" } : Jvm.MethodName) prog_19_method_83_code (2 : Nat) (Option.some Jvm.ClassFile.FieldType.char)) ∈ lw_G := lw_Gm (lw_t2 (List.mem_of_getElem? (i := 98) rfl)) rfl
theorem m2_99 : (Jvm.Cond.methodLink "java/lang/StringUTF16" (67 : Nat) ({ cls := "java/lang/StringUTF16", name := "checkIndex", desc := "(I[B)V" } : Jvm.MethodName)) ∈ lw_G := lw_Gm (lw_t2 (List.mem_of_getElem? (i := 99) rfl)) rfl
theorem m2_100 : (Jvm.Cond.static ({ cls := "java/lang/StringUTF16", name := "checkIndex", desc := "(I[B)V" } : Jvm.MethodName)) ∈ lw_G := lw_Gm (lw_t2 (List.mem_of_getElem? (i := 100) rfl)) rfl
theorem m2_101 : (Jvm.Cond.code ({ cls := "java/lang/StringUTF16", name := "checkIndex", desc := "(I[B)V" } : Jvm.MethodName) prog_19_method_91_code (2 : Nat) (Option.none : Option Jvm.ClassFile.FieldType)) ∈ lw_G := lw_Gm (lw_t2 (List.mem_of_getElem? (i := 101) rfl)) rfl
theorem m2_102 : (Jvm.Cond.methodLink "java/lang/StringUTF16" (48 : Nat) ({ cls := "java/lang/StringUTF16", name := "length", desc := "([B)I" } : Jvm.MethodName)) ∈ lw_G := lw_Gm (lw_t2 (List.mem_of_getElem? (i := 102) rfl)) rfl
theorem m2_103 : (Jvm.Cond.static ({ cls := "java/lang/StringUTF16", name := "length", desc := "([B)I" } : Jvm.MethodName)) ∈ lw_G := lw_Gm (lw_t2 (List.mem_of_getElem? (i := 103) rfl)) rfl
theorem m2_104 : (Jvm.Cond.code ({ cls := "java/lang/StringUTF16", name := "length", desc := "([B)I" } : Jvm.MethodName) prog_19_method_6_code (1 : Nat) (Option.some Jvm.ClassFile.FieldType.int)) ∈ lw_G := lw_Gm (lw_t2 (List.mem_of_getElem? (i := 104) rfl)) rfl
theorem m2_105 : (Jvm.Cond.methodLink "java/lang/StringUTF16" (414 : Nat) ({ cls := "java/lang/String", name := "checkIndex", desc := "(II)V" } : Jvm.MethodName)) ∈ lw_G := lw_Gm (lw_t2 (List.mem_of_getElem? (i := 105) rfl)) rfl
theorem m2_106 : (Jvm.Cond.methodLink "java/lang/StringUTF16" (71 : Nat) ({ cls := "java/lang/StringUTF16", name := "getChar", desc := "([BI)C" } : Jvm.MethodName)) ∈ lw_G := lw_Gm (lw_t2 (List.mem_of_getElem? (i := 106) rfl)) rfl
theorem m2_107 : (Jvm.Cond.static ({ cls := "java/lang/StringUTF16", name := "getChar", desc := "([BI)C" } : Jvm.MethodName)) ∈ lw_G := lw_Gm (lw_t2 (List.mem_of_getElem? (i := 107) rfl)) rfl
theorem m2_108 : (Jvm.Cond.code ({ cls := "java/lang/StringUTF16", name := "getChar", desc := "([BI)C" } : Jvm.MethodName) prog_19_method_5_code (2 : Nat) (Option.some Jvm.ClassFile.FieldType.char)) ∈ lw_G := lw_Gm (lw_t2 (List.mem_of_getElem? (i := 108) rfl)) rfl
theorem m2_109 : (Jvm.Cond.fieldLink "java/lang/StringUTF16" (44 : Nat) "java/lang/StringUTF16" "$assertionsDisabled" "Z") ∈ lw_G := lw_Gm (lw_t2 (List.mem_of_getElem? (i := 109) rfl)) rfl
theorem m2_111 : (Jvm.Cond.fieldLink "java/lang/StringUTF16" (59 : Nat) "java/lang/StringUTF16" "HI_BYTE_SHIFT" "I") ∈ lw_G := lw_Gm (lw_t2 (List.mem_of_getElem? (i := 111) rfl)) rfl
theorem m2_113 : (Jvm.Cond.fieldLink "java/lang/StringUTF16" (63 : Nat) "java/lang/StringUTF16" "LO_BYTE_SHIFT" "I") ∈ lw_G := lw_Gm (lw_t2 (List.mem_of_getElem? (i := 113) rfl)) rfl
theorem m2_115 : (Jvm.Cond.methodLink "LastCalled$Text" (31 : Nat) ({ cls := "LastCalled$Text", name := "isNumberNext", desc := "(I)Z" } : Jvm.MethodName)) ∈ lw_G := lw_Gm (lw_t2 (List.mem_of_getElem? (i := 115) rfl)) rfl
theorem m2_117 : (Jvm.Cond.instanceMethod ({ cls := "LastCalled$Text", name := "isNumberNext", desc := "(I)Z" } : Jvm.MethodName)) ∈ lw_G := lw_Gm (lw_t2 (List.mem_of_getElem? (i := 117) rfl)) rfl
theorem m2_118 : (Jvm.Cond.code ({ cls := "LastCalled$Text", name := "isNumberNext", desc := "(I)Z" } : Jvm.MethodName) prog_12_method_8_code (3 : Nat) (Option.some Jvm.ClassFile.FieldType.boolean)) ∈ lw_G := lw_Gm (lw_t2 (List.mem_of_getElem? (i := 118) rfl)) rfl
theorem m2_119 : (Jvm.Cond.methodLink "LastCalled$Text" (38 : Nat) ({ cls := "LastCalled$Hamlet", name := "begin", desc := "(I)V" } : Jvm.MethodName)) ∈ lw_G := lw_Gm (lw_t2 (List.mem_of_getElem? (i := 119) rfl)) rfl
theorem m2_120 : (Jvm.Cond.methodLink "LastCalled$Text" (47 : Nat) ({ cls := "LastCalled$Text", name := "isItem", desc := "(LLastCalled$Hamlet;)Z" } : Jvm.MethodName)) ∈ lw_G := lw_Gm (lw_t2 (List.mem_of_getElem? (i := 120) rfl)) rfl
theorem m2_122 : (Jvm.Cond.instanceMethod ({ cls := "LastCalled$Text", name := "isItem", desc := "(LLastCalled$Hamlet;)Z" } : Jvm.MethodName)) ∈ lw_G := lw_Gm (lw_t2 (List.mem_of_getElem? (i := 122) rfl)) rfl
theorem m2_123 : (Jvm.Cond.code ({ cls := "LastCalled$Text", name := "isItem", desc := "(LLastCalled$Hamlet;)Z" } : Jvm.MethodName) prog_12_method_4_code (2 : Nat) (Option.some Jvm.ClassFile.FieldType.boolean)) ∈ lw_G := lw_Gm (lw_t2 (List.mem_of_getElem? (i := 123) rfl)) rfl
theorem m2_125 : (Jvm.Cond.methodLink "LastCalled$Text" (56 : Nat) ({ cls := "LastCalled$Text", name := "isOne", desc := "(LLastCalled$Hamlet;)Z" } : Jvm.MethodName)) ∈ lw_G := lw_Gm (lw_t2 (List.mem_of_getElem? (i := 125) rfl)) rfl
theorem m2_127 : (Jvm.Cond.instanceMethod ({ cls := "LastCalled$Text", name := "isOne", desc := "(LLastCalled$Hamlet;)Z" } : Jvm.MethodName)) ∈ lw_G := lw_Gm (lw_t2 (List.mem_of_getElem? (i := 127) rfl)) rfl
theorem m2_128 : (Jvm.Cond.code ({ cls := "LastCalled$Text", name := "isOne", desc := "(LLastCalled$Hamlet;)Z" } : Jvm.MethodName) prog_12_method_5_code (3 : Nat) (Option.some Jvm.ClassFile.FieldType.boolean)) ∈ lw_G := lw_Gm (lw_t2 (List.mem_of_getElem? (i := 128) rfl)) rfl
theorem m2_129 : (Jvm.Cond.methodLink "LastCalled$Text" (69 : Nat) ({ cls := "LastCalled$Hamlet", name := "join", desc := "(II)V" } : Jvm.MethodName)) ∈ lw_G := lw_Gm (lw_t2 (List.mem_of_getElem? (i := 129) rfl)) rfl
theorem m2_131 : (Jvm.Cond.methodLink "LastCalled$Text" (61 : Nat) ({ cls := "LastCalled$Text", name := "isBears", desc := "(LLastCalled$Hamlet;)Z" } : Jvm.MethodName)) ∈ lw_G := lw_Gm (lw_t2 (List.mem_of_getElem? (i := 131) rfl)) rfl
theorem m2_133 : (Jvm.Cond.instanceMethod ({ cls := "LastCalled$Text", name := "isBears", desc := "(LLastCalled$Hamlet;)Z" } : Jvm.MethodName)) ∈ lw_G := lw_Gm (lw_t2 (List.mem_of_getElem? (i := 133) rfl)) rfl
theorem m2_134 : (Jvm.Cond.code ({ cls := "LastCalled$Text", name := "isBears", desc := "(LLastCalled$Hamlet;)Z" } : Jvm.MethodName) prog_12_method_6_code (3 : Nat) (Option.some Jvm.ClassFile.FieldType.boolean)) ∈ lw_G := lw_Gm (lw_t2 (List.mem_of_getElem? (i := 134) rfl)) rfl
theorem m2_135 : (Jvm.Cond.methodLink "LastCalled$Text" (73 : Nat) ({ cls := "LastCalled$Hamlet", name := "give", desc := "(II)V" } : Jvm.MethodName)) ∈ lw_G := lw_Gm (lw_t2 (List.mem_of_getElem? (i := 135) rfl)) rfl
theorem m2_136 : (Jvm.Cond.instanceMethod ({ cls := "LastCalled$Hamlet", name := "give", desc := "(II)V" } : Jvm.MethodName)) ∈ lw_G := lw_Gm (lw_t2 (List.mem_of_getElem? (i := 136) rfl)) rfl
theorem m2_137 : (Jvm.Cond.selects "LastCalled$Hamlet" ({ cls := "LastCalled$Hamlet", name := "give", desc := "(II)V" } : Jvm.MethodName) ({ cls := "LastCalled$Hamlet", name := "give", desc := "(II)V" } : Jvm.MethodName)) ∈ lw_G := lw_Gm (lw_t2 (List.mem_of_getElem? (i := 137) rfl)) rfl
theorem m2_138 : (Jvm.Cond.code ({ cls := "LastCalled$Hamlet", name := "give", desc := "(II)V" } : Jvm.MethodName) prog_7_method_6_code (4 : Nat) (Option.none : Option Jvm.ClassFile.FieldType)) ∈ lw_G := lw_Gm (lw_t2 (List.mem_of_getElem? (i := 138) rfl)) rfl
theorem m2_141 : (Jvm.Cond.methodLink "LastCalled$Text" (66 : Nat) ({ cls := "LastCalled$Text", name := "isNone", desc := "(LLastCalled$Hamlet;)Z" } : Jvm.MethodName)) ∈ lw_G := lw_Gm (lw_t2 (List.mem_of_getElem? (i := 141) rfl)) rfl
theorem m2_143 : (Jvm.Cond.instanceMethod ({ cls := "LastCalled$Text", name := "isNone", desc := "(LLastCalled$Hamlet;)Z" } : Jvm.MethodName)) ∈ lw_G := lw_Gm (lw_t2 (List.mem_of_getElem? (i := 143) rfl)) rfl
theorem m2_144 : (Jvm.Cond.code ({ cls := "LastCalled$Text", name := "isNone", desc := "(LLastCalled$Hamlet;)Z" } : Jvm.MethodName) prog_12_method_7_code (2 : Nat) (Option.some Jvm.ClassFile.FieldType.boolean)) ∈ lw_G := lw_Gm (lw_t2 (List.mem_of_getElem? (i := 144) rfl)) rfl
theorem m2_145 : (Jvm.Cond.methodLink "LastCalled" (92 : Nat) ({ cls := "LastCalled$Hamlet", name := "copyFrom", desc := "(LLastCalled$Hamlet;)V" } : Jvm.MethodName)) ∈ lw_G := lw_Gm (lw_t2 (List.mem_of_getElem? (i := 145) rfl)) rfl
theorem m2_146 : (Jvm.Cond.instanceMethod ({ cls := "LastCalled$Hamlet", name := "copyFrom", desc := "(LLastCalled$Hamlet;)V" } : Jvm.MethodName)) ∈ lw_G := lw_Gm (lw_t2 (List.mem_of_getElem? (i := 146) rfl)) rfl
theorem m2_147 : (Jvm.Cond.selects "LastCalled$Hamlet" ({ cls := "LastCalled$Hamlet", name := "copyFrom", desc := "(LLastCalled$Hamlet;)V" } : Jvm.MethodName) ({ cls := "LastCalled$Hamlet", name := "copyFrom", desc := "(LLastCalled$Hamlet;)V" } : Jvm.MethodName)) ∈ lw_G := lw_Gm (lw_t2 (List.mem_of_getElem? (i := 147) rfl)) rfl
theorem m2_148 : (Jvm.Cond.code ({ cls := "LastCalled$Hamlet", name := "copyFrom", desc := "(LLastCalled$Hamlet;)V" } : Jvm.MethodName) prog_7_method_3_code (2 : Nat) (Option.none : Option Jvm.ClassFile.FieldType)) ∈ lw_G := lw_Gm (lw_t2 (List.mem_of_getElem? (i := 148) rfl)) rfl
theorem m2_149 : (Jvm.Cond.methodLink "LastCalled$Hamlet" (55 : Nat) ({ cls := "java/lang/System", name := "arraycopy", desc := "(Ljava/lang/Object;ILjava/lang/Object;II)V" } : Jvm.MethodName)) ∈ lw_G := lw_Gm (lw_t2 (List.mem_of_getElem? (i := 149) rfl)) rfl
theorem m2_150 : (Jvm.Cond.static ({ cls := "java/lang/System", name := "arraycopy", desc := "(Ljava/lang/Object;ILjava/lang/Object;II)V" } : Jvm.MethodName)) ∈ lw_G := lw_Gm (lw_t2 (List.mem_of_getElem? (i := 150) rfl)) rfl
theorem m2_151 : (Jvm.Cond.native ({ cls := "java/lang/System", name := "arraycopy", desc := "(Ljava/lang/Object;ILjava/lang/Object;II)V" } : Jvm.MethodName)) ∈ lw_G := lw_Gm (lw_t2 (List.mem_of_getElem? (i := 151) rfl)) rfl
theorem m2_152 : (Jvm.Cond.methodLink "LastCalledLaw" (36 : Nat) ({ cls := "LastCalled", name := "call", desc := "(II)I" } : Jvm.MethodName)) ∈ lw_G := lw_Gm (lw_t2 (List.mem_of_getElem? (i := 152) rfl)) rfl
theorem m2_153 : (Jvm.Cond.instanceMethod ({ cls := "LastCalled", name := "call", desc := "(II)I" } : Jvm.MethodName)) ∈ lw_G := lw_Gm (lw_t2 (List.mem_of_getElem? (i := 153) rfl)) rfl
theorem m2_154 : (Jvm.Cond.selects "LastCalled" ({ cls := "LastCalled", name := "call", desc := "(II)I" } : Jvm.MethodName) ({ cls := "LastCalled", name := "call", desc := "(II)I" } : Jvm.MethodName)) ∈ lw_G := lw_Gm (lw_t2 (List.mem_of_getElem? (i := 154) rfl)) rfl
theorem m2_155 : (Jvm.Cond.code ({ cls := "LastCalled", name := "call", desc := "(II)I" } : Jvm.MethodName) prog_1_method_7_code (4 : Nat) (Option.some Jvm.ClassFile.FieldType.int)) ∈ lw_G := lw_Gm (lw_t2 (List.mem_of_getElem? (i := 155) rfl)) rfl
theorem m2_156 : (Jvm.Cond.methodLink "LastCalled" (96 : Nat) ({ cls := "LastCalled", name := "isThere", desc := "(I)Z" } : Jvm.MethodName)) ∈ lw_G := lw_Gm (lw_t2 (List.mem_of_getElem? (i := 156) rfl)) rfl
theorem m2_158 : (Jvm.Cond.instanceMethod ({ cls := "LastCalled", name := "isThere", desc := "(I)Z" } : Jvm.MethodName)) ∈ lw_G := lw_Gm (lw_t2 (List.mem_of_getElem? (i := 158) rfl)) rfl
theorem m2_159 : (Jvm.Cond.code ({ cls := "LastCalled", name := "isThere", desc := "(I)Z" } : Jvm.MethodName) prog_1_method_37_code (2 : Nat) (Option.some Jvm.ClassFile.FieldType.boolean)) ∈ lw_G := lw_Gm (lw_t2 (List.mem_of_getElem? (i := 159) rfl)) rfl
theorem m2_160 : (Jvm.Cond.methodLink "LastCalled" (100 : Nat) ({ cls := "LastCalled", name := "turnersAt", desc := "(II)I" } : Jvm.MethodName)) ∈ lw_G := lw_Gm (lw_t2 (List.mem_of_getElem? (i := 160) rfl)) rfl
theorem m2_162 : (Jvm.Cond.instanceMethod ({ cls := "LastCalled", name := "turnersAt", desc := "(II)I" } : Jvm.MethodName)) ∈ lw_G := lw_Gm (lw_t2 (List.mem_of_getElem? (i := 162) rfl)) rfl
theorem m2_163 : (Jvm.Cond.code ({ cls := "LastCalled", name := "turnersAt", desc := "(II)I" } : Jvm.MethodName) prog_1_method_40_code (3 : Nat) (Option.some Jvm.ClassFile.FieldType.int)) ∈ lw_G := lw_Gm (lw_t2 (List.mem_of_getElem? (i := 163) rfl)) rfl
theorem m2_164 : (Jvm.Cond.methodLink "LastCalled" (234 : Nat) ({ cls := "LastCalled$Hearing", name := "listenAt", desc := "(LLastCalled$Hamlet;I)V" } : Jvm.MethodName)) ∈ lw_G := lw_Gm (lw_t2 (List.mem_of_getElem? (i := 164) rfl)) rfl
theorem m2_165 : (Jvm.Cond.instanceMethod ({ cls := "LastCalled$Hearing", name := "listenAt", desc := "(LLastCalled$Hamlet;I)V" } : Jvm.MethodName)) ∈ lw_G := lw_Gm (lw_t2 (List.mem_of_getElem? (i := 165) rfl)) rfl
theorem m2_166 : (Jvm.Cond.selects "LastCalled$Hearing" ({ cls := "LastCalled$Hearing", name := "listenAt", desc := "(LLastCalled$Hamlet;I)V" } : Jvm.MethodName) ({ cls := "LastCalled$Hearing", name := "listenAt", desc := "(LLastCalled$Hamlet;I)V" } : Jvm.MethodName)) ∈ lw_G := lw_Gm (lw_t2 (List.mem_of_getElem? (i := 166) rfl)) rfl
theorem m2_167 : (Jvm.Cond.code ({ cls := "LastCalled$Hearing", name := "listenAt", desc := "(LLastCalled$Hamlet;I)V" } : Jvm.MethodName) prog_8_method_4_code (6 : Nat) (Option.none : Option Jvm.ClassFile.FieldType)) ∈ lw_G := lw_Gm (lw_t2 (List.mem_of_getElem? (i := 167) rfl)) rfl
theorem m2_169 : (Jvm.Cond.methodLink "LastCalled$Hearing" (66 : Nat) ({ cls := "java/lang/Math", name := "abs", desc := "(I)I" } : Jvm.MethodName)) ∈ lw_G := lw_Gm (lw_t2 (List.mem_of_getElem? (i := 169) rfl)) rfl
theorem m2_170 : (Jvm.Cond.static ({ cls := "java/lang/Math", name := "abs", desc := "(I)I" } : Jvm.MethodName)) ∈ lw_G := lw_Gm (lw_t2 (List.mem_of_getElem? (i := 170) rfl)) rfl
theorem m2_171 : (Jvm.Cond.code ({ cls := "java/lang/Math", name := "abs", desc := "(I)I" } : Jvm.MethodName) prog_16_method_59_code (1 : Nat) (Option.some Jvm.ClassFile.FieldType.int)) ∈ lw_G := lw_Gm (lw_t2 (List.mem_of_getElem? (i := 171) rfl)) rfl
theorem m2_172 : (Jvm.Cond.methodLink "LastCalled$Hearing" (75 : Nat) ({ cls := "LastCalled$Hearing", name := "turnsAs", desc := "(IIZZI)Z" } : Jvm.MethodName)) ∈ lw_G := lw_Gm (lw_t2 (List.mem_of_getElem? (i := 172) rfl)) rfl
theorem m2_173 : (Jvm.Cond.instanceMethod ({ cls := "LastCalled$Hearing", name := "turnsAs", desc := "(IIZZI)Z" } : Jvm.MethodName)) ∈ lw_G := lw_Gm (lw_t2 (List.mem_of_getElem? (i := 173) rfl)) rfl
theorem m2_174 : (Jvm.Cond.selects "LastCalled$Hearing" ({ cls := "LastCalled$Hearing", name := "turnsAs", desc := "(IIZZI)Z" } : Jvm.MethodName) ({ cls := "LastCalled$Hearing", name := "turnsAs", desc := "(IIZZI)Z" } : Jvm.MethodName)) ∈ lw_G := lw_Gm (lw_t2 (List.mem_of_getElem? (i := 174) rfl)) rfl
theorem m2_175 : (Jvm.Cond.code ({ cls := "LastCalled$Hearing", name := "turnsAs", desc := "(IIZZI)Z" } : Jvm.MethodName) prog_8_method_2_code (6 : Nat) (Option.some Jvm.ClassFile.FieldType.boolean)) ∈ lw_G := lw_Gm (lw_t2 (List.mem_of_getElem? (i := 175) rfl)) rfl
theorem m2_176 : (Jvm.Cond.methodLink "LastCalled$Hearing" (47 : Nat) ({ cls := "LastCalled$Plain", name := "turns", desc := "(IZZI)Z" } : Jvm.MethodName)) ∈ lw_G := lw_Gm (lw_t2 (List.mem_of_getElem? (i := 176) rfl)) rfl
theorem m2_177 : (Jvm.Cond.instanceMethod ({ cls := "LastCalled$Plain", name := "turns", desc := "(IZZI)Z" } : Jvm.MethodName)) ∈ lw_G := lw_Gm (lw_t2 (List.mem_of_getElem? (i := 177) rfl)) rfl
theorem m2_178 : (Jvm.Cond.selects "LastCalled$Plain" ({ cls := "LastCalled$Plain", name := "turns", desc := "(IZZI)Z" } : Jvm.MethodName) ({ cls := "LastCalled$Plain", name := "turns", desc := "(IZZI)Z" } : Jvm.MethodName)) ∈ lw_G := lw_Gm (lw_t2 (List.mem_of_getElem? (i := 178) rfl)) rfl
theorem m2_179 : (Jvm.Cond.sameMethod "LastCalled$Plain" "LastCalled$Plain" "turns" "(IZZI)Z") ∈ lw_G := lw_Gm (lw_t2 (List.mem_of_getElem? (i := 179) rfl)) rfl
theorem m2_180 : (Jvm.Cond.selects "LastCalled$Careful" ({ cls := "LastCalled$Plain", name := "turns", desc := "(IZZI)Z" } : Jvm.MethodName) ({ cls := "LastCalled$Careful", name := "turns", desc := "(IZZI)Z" } : Jvm.MethodName)) ∈ lw_G := lw_Gm (lw_t2 (List.mem_of_getElem? (i := 180) rfl)) rfl
theorem m2_181 : (Jvm.Cond.instanceMethod ({ cls := "LastCalled$Careful", name := "turns", desc := "(IZZI)Z" } : Jvm.MethodName)) ∈ lw_G := lw_Gm (lw_t2 (List.mem_of_getElem? (i := 181) rfl)) rfl
theorem m2_182 : (Jvm.Cond.code ({ cls := "LastCalled$Careful", name := "turns", desc := "(IZZI)Z" } : Jvm.MethodName) prog_2_method_2_code (5 : Nat) (Option.some Jvm.ClassFile.FieldType.boolean)) ∈ lw_G := lw_Gm (lw_t2 (List.mem_of_getElem? (i := 182) rfl)) rfl
theorem m2_183 : (Jvm.Cond.methodLink "LastCalled$Careful" (7 : Nat) ({ cls := "LastCalled$Plain", name := "turns", desc := "(IZZI)Z" } : Jvm.MethodName)) ∈ lw_G := lw_Gm (lw_t2 (List.mem_of_getElem? (i := 183) rfl)) rfl
theorem m2_184 : (Jvm.Cond.selects "LastCalled$Child" ({ cls := "LastCalled$Plain", name := "turns", desc := "(IZZI)Z" } : Jvm.MethodName) ({ cls := "LastCalled$Child", name := "turns", desc := "(IZZI)Z" } : Jvm.MethodName)) ∈ lw_G := lw_Gm (lw_t2 (List.mem_of_getElem? (i := 184) rfl)) rfl
theorem m2_185 : (Jvm.Cond.instanceMethod ({ cls := "LastCalled$Child", name := "turns", desc := "(IZZI)Z" } : Jvm.MethodName)) ∈ lw_G := lw_Gm (lw_t2 (List.mem_of_getElem? (i := 185) rfl)) rfl
theorem m2_186 : (Jvm.Cond.code ({ cls := "LastCalled$Child", name := "turns", desc := "(IZZI)Z" } : Jvm.MethodName) prog_3_method_2_code (5 : Nat) (Option.some Jvm.ClassFile.FieldType.boolean)) ∈ lw_G := lw_Gm (lw_t2 (List.mem_of_getElem? (i := 186) rfl)) rfl
theorem m2_187 : (Jvm.Cond.methodLink "LastCalled$Child" (7 : Nat) ({ cls := "LastCalled$Plain", name := "turns", desc := "(IZZI)Z" } : Jvm.MethodName)) ∈ lw_G := lw_Gm (lw_t2 (List.mem_of_getElem? (i := 187) rfl)) rfl
theorem m2_188 : (Jvm.Cond.selects "LastCalled$Cliff" ({ cls := "LastCalled$Plain", name := "turns", desc := "(IZZI)Z" } : Jvm.MethodName) ({ cls := "LastCalled$Cliff", name := "turns", desc := "(IZZI)Z" } : Jvm.MethodName)) ∈ lw_G := lw_Gm (lw_t2 (List.mem_of_getElem? (i := 188) rfl)) rfl
theorem m2_189 : (Jvm.Cond.instanceMethod ({ cls := "LastCalled$Cliff", name := "turns", desc := "(IZZI)Z" } : Jvm.MethodName)) ∈ lw_G := lw_Gm (lw_t2 (List.mem_of_getElem? (i := 189) rfl)) rfl
theorem m2_190 : (Jvm.Cond.code ({ cls := "LastCalled$Cliff", name := "turns", desc := "(IZZI)Z" } : Jvm.MethodName) prog_4_method_2_code (5 : Nat) (Option.some Jvm.ClassFile.FieldType.boolean)) ∈ lw_G := lw_Gm (lw_t2 (List.mem_of_getElem? (i := 190) rfl)) rfl
theorem m2_191 : (Jvm.Cond.methodLink "LastCalled$Cliff" (7 : Nat) ({ cls := "LastCalled$Careful", name := "turns", desc := "(IZZI)Z" } : Jvm.MethodName)) ∈ lw_G := lw_Gm (lw_t2 (List.mem_of_getElem? (i := 191) rfl)) rfl
theorem m2_192 : (Jvm.Cond.selects "LastCalled$Deaf" ({ cls := "LastCalled$Plain", name := "turns", desc := "(IZZI)Z" } : Jvm.MethodName) ({ cls := "LastCalled$Deaf", name := "turns", desc := "(IZZI)Z" } : Jvm.MethodName)) ∈ lw_G := lw_Gm (lw_t2 (List.mem_of_getElem? (i := 192) rfl)) rfl
theorem m2_193 : (Jvm.Cond.instanceMethod ({ cls := "LastCalled$Deaf", name := "turns", desc := "(IZZI)Z" } : Jvm.MethodName)) ∈ lw_G := lw_Gm (lw_t2 (List.mem_of_getElem? (i := 193) rfl)) rfl
theorem m2_194 : (Jvm.Cond.code ({ cls := "LastCalled$Deaf", name := "turns", desc := "(IZZI)Z" } : Jvm.MethodName) prog_5_method_2_code (5 : Nat) (Option.some Jvm.ClassFile.FieldType.boolean)) ∈ lw_G := lw_Gm (lw_t2 (List.mem_of_getElem? (i := 194) rfl)) rfl
theorem m2_195 : (Jvm.Cond.methodLink "LastCalled$Deaf" (7 : Nat) ({ cls := "LastCalled$Plain", name := "turns", desc := "(IZZI)Z" } : Jvm.MethodName)) ∈ lw_G := lw_Gm (lw_t2 (List.mem_of_getElem? (i := 195) rfl)) rfl
theorem m2_196 : (Jvm.Cond.selects "LastCalled$Sheep" ({ cls := "LastCalled$Plain", name := "turns", desc := "(IZZI)Z" } : Jvm.MethodName) ({ cls := "LastCalled$Sheep", name := "turns", desc := "(IZZI)Z" } : Jvm.MethodName)) ∈ lw_G := lw_Gm (lw_t2 (List.mem_of_getElem? (i := 196) rfl)) rfl
theorem m2_197 : (Jvm.Cond.instanceMethod ({ cls := "LastCalled$Sheep", name := "turns", desc := "(IZZI)Z" } : Jvm.MethodName)) ∈ lw_G := lw_Gm (lw_t2 (List.mem_of_getElem? (i := 197) rfl)) rfl
theorem m2_198 : (Jvm.Cond.code ({ cls := "LastCalled$Sheep", name := "turns", desc := "(IZZI)Z" } : Jvm.MethodName) prog_11_method_2_code (5 : Nat) (Option.some Jvm.ClassFile.FieldType.boolean)) ∈ lw_G := lw_Gm (lw_t2 (List.mem_of_getElem? (i := 198) rfl)) rfl
theorem m2_199 : (Jvm.Cond.methodLink "LastCalled$Sheep" (7 : Nat) ({ cls := "LastCalled$Child", name := "turns", desc := "(IZZI)Z" } : Jvm.MethodName)) ∈ lw_G := lw_Gm (lw_t2 (List.mem_of_getElem? (i := 199) rfl)) rfl
theorem m2_200 : (Jvm.Cond.code ({ cls := "LastCalled$Plain", name := "turns", desc := "(IZZI)Z" } : Jvm.MethodName) prog_9_method_2_code (5 : Nat) (Option.some Jvm.ClassFile.FieldType.boolean)) ∈ lw_G := lw_Gm (lw_t2 (List.mem_of_getElem? (i := 200) rfl)) rfl
theorem m2_201 : (Jvm.Cond.methodLink "LastCalled" (238 : Nat) ({ cls := "LastCalled$Hearing", name := "turners", desc := "([III)I" } : Jvm.MethodName)) ∈ lw_G := lw_Gm (lw_t2 (List.mem_of_getElem? (i := 201) rfl)) rfl
theorem m2_202 : (Jvm.Cond.instanceMethod ({ cls := "LastCalled$Hearing", name := "turners", desc := "([III)I" } : Jvm.MethodName)) ∈ lw_G := lw_Gm (lw_t2 (List.mem_of_getElem? (i := 202) rfl)) rfl
theorem m2_203 : (Jvm.Cond.selects "LastCalled$Hearing" ({ cls := "LastCalled$Hearing", name := "turners", desc := "([III)I" } : Jvm.MethodName) ({ cls := "LastCalled$Hearing", name := "turners", desc := "([III)I" } : Jvm.MethodName)) ∈ lw_G := lw_Gm (lw_t2 (List.mem_of_getElem? (i := 203) rfl)) rfl
theorem m2_204 : (Jvm.Cond.code ({ cls := "LastCalled$Hearing", name := "turners", desc := "([III)I" } : Jvm.MethodName) prog_8_method_5_code (5 : Nat) (Option.some Jvm.ClassFile.FieldType.int)) ∈ lw_G := lw_Gm (lw_t2 (List.mem_of_getElem? (i := 204) rfl)) rfl
theorem m2_205 : (Jvm.Cond.methodLink "LastCalled" (104 : Nat) ({ cls := "LastCalled$Hamlet", name := "remember", desc := "()V" } : Jvm.MethodName)) ∈ lw_G := lw_Gm (lw_t2 (List.mem_of_getElem? (i := 205) rfl)) rfl
theorem m2_206 : (Jvm.Cond.instanceMethod ({ cls := "LastCalled$Hamlet", name := "remember", desc := "()V" } : Jvm.MethodName)) ∈ lw_G := lw_Gm (lw_t2 (List.mem_of_getElem? (i := 206) rfl)) rfl
theorem m2_207 : (Jvm.Cond.selects "LastCalled$Hamlet" ({ cls := "LastCalled$Hamlet", name := "remember", desc := "()V" } : Jvm.MethodName) ({ cls := "LastCalled$Hamlet", name := "remember", desc := "()V" } : Jvm.MethodName)) ∈ lw_G := lw_Gm (lw_t2 (List.mem_of_getElem? (i := 207) rfl)) rfl
theorem m2_208 : (Jvm.Cond.code ({ cls := "LastCalled$Hamlet", name := "remember", desc := "()V" } : Jvm.MethodName) prog_7_method_9_code (2 : Nat) (Option.none : Option Jvm.ClassFile.FieldType)) ∈ lw_G := lw_Gm (lw_t2 (List.mem_of_getElem? (i := 208) rfl)) rfl
theorem m2_209 : (Jvm.Cond.methodLink "LastCalled" (110 : Nat) ({ cls := "LastCalled", name := "settle", desc := "([III)V" } : Jvm.MethodName)) ∈ lw_G := lw_Gm (lw_t2 (List.mem_of_getElem? (i := 209) rfl)) rfl
theorem m2_210 : (Jvm.Cond.static ({ cls := "LastCalled", name := "settle", desc := "([III)V" } : Jvm.MethodName)) ∈ lw_G := lw_Gm (lw_t2 (List.mem_of_getElem? (i := 210) rfl)) rfl
theorem m2_211 : (Jvm.Cond.code ({ cls := "LastCalled", name := "settle", desc := "([III)V" } : Jvm.MethodName) prog_1_method_41_code (4 : Nat) (Option.none : Option Jvm.ClassFile.FieldType)) ∈ lw_G := lw_Gm (lw_t2 (List.mem_of_getElem? (i := 211) rfl)) rfl
theorem m2_212 : (Jvm.Cond.methodLink "LastCalledLaw" (40 : Nat) ({ cls := "LastCalled", name := "goes", desc := "(II)I" } : Jvm.MethodName)) ∈ lw_G := lw_Gm (lw_t2 (List.mem_of_getElem? (i := 212) rfl)) rfl
theorem m2_213 : (Jvm.Cond.instanceMethod ({ cls := "LastCalled", name := "goes", desc := "(II)I" } : Jvm.MethodName)) ∈ lw_G := lw_Gm (lw_t2 (List.mem_of_getElem? (i := 213) rfl)) rfl
theorem m2_214 : (Jvm.Cond.selects "LastCalled" ({ cls := "LastCalled", name := "goes", desc := "(II)I" } : Jvm.MethodName) ({ cls := "LastCalled", name := "goes", desc := "(II)I" } : Jvm.MethodName)) ∈ lw_G := lw_Gm (lw_t2 (List.mem_of_getElem? (i := 214) rfl)) rfl
theorem m2_215 : (Jvm.Cond.code ({ cls := "LastCalled", name := "goes", desc := "(II)I" } : Jvm.MethodName) prog_1_method_8_code (4 : Nat) (Option.some Jvm.ClassFile.FieldType.int)) ∈ lw_G := lw_Gm (lw_t2 (List.mem_of_getElem? (i := 215) rfl)) rfl
theorem m2_216 : (Jvm.Cond.methodLink "LastCalledLaw" (44 : Nat) ({ cls := "LastCalled", name := "day", desc := "()I" } : Jvm.MethodName)) ∈ lw_G := lw_Gm (lw_t2 (List.mem_of_getElem? (i := 216) rfl)) rfl
theorem m2_217 : (Jvm.Cond.instanceMethod ({ cls := "LastCalled", name := "day", desc := "()I" } : Jvm.MethodName)) ∈ lw_G := lw_Gm (lw_t2 (List.mem_of_getElem? (i := 217) rfl)) rfl
theorem m2_218 : (Jvm.Cond.selects "LastCalled" ({ cls := "LastCalled", name := "day", desc := "()I" } : Jvm.MethodName) ({ cls := "LastCalled", name := "day", desc := "()I" } : Jvm.MethodName)) ∈ lw_G := lw_Gm (lw_t2 (List.mem_of_getElem? (i := 218) rfl)) rfl
theorem m2_219 : (Jvm.Cond.code ({ cls := "LastCalled", name := "day", desc := "()I" } : Jvm.MethodName) prog_1_method_9_code (1 : Nat) (Option.some Jvm.ClassFile.FieldType.int)) ∈ lw_G := lw_Gm (lw_t2 (List.mem_of_getElem? (i := 219) rfl)) rfl
theorem m2_220 : (Jvm.Cond.methodLink "LastCalledLaw" (48 : Nat) ({ cls := "LastCalled", name := "undo", desc := "()I" } : Jvm.MethodName)) ∈ lw_G := lw_Gm (lw_t2 (List.mem_of_getElem? (i := 220) rfl)) rfl
theorem m2_221 : (Jvm.Cond.instanceMethod ({ cls := "LastCalled", name := "undo", desc := "()I" } : Jvm.MethodName)) ∈ lw_G := lw_Gm (lw_t2 (List.mem_of_getElem? (i := 221) rfl)) rfl
theorem m2_222 : (Jvm.Cond.selects "LastCalled" ({ cls := "LastCalled", name := "undo", desc := "()I" } : Jvm.MethodName) ({ cls := "LastCalled", name := "undo", desc := "()I" } : Jvm.MethodName)) ∈ lw_G := lw_Gm (lw_t2 (List.mem_of_getElem? (i := 222) rfl)) rfl
theorem m2_223 : (Jvm.Cond.code ({ cls := "LastCalled", name := "undo", desc := "()I" } : Jvm.MethodName) prog_1_method_10_code (1 : Nat) (Option.some Jvm.ClassFile.FieldType.int)) ∈ lw_G := lw_Gm (lw_t2 (List.mem_of_getElem? (i := 223) rfl)) rfl
theorem m2_224 : (Jvm.Cond.methodLink "LastCalled" (123 : Nat) ({ cls := "LastCalled$Hamlet", name := "goBack", desc := "()V" } : Jvm.MethodName)) ∈ lw_G := lw_Gm (lw_t2 (List.mem_of_getElem? (i := 224) rfl)) rfl
theorem m2_225 : (Jvm.Cond.instanceMethod ({ cls := "LastCalled$Hamlet", name := "goBack", desc := "()V" } : Jvm.MethodName)) ∈ lw_G := lw_Gm (lw_t2 (List.mem_of_getElem? (i := 225) rfl)) rfl
theorem m2_226 : (Jvm.Cond.selects "LastCalled$Hamlet" ({ cls := "LastCalled$Hamlet", name := "goBack", desc := "()V" } : Jvm.MethodName) ({ cls := "LastCalled$Hamlet", name := "goBack", desc := "()V" } : Jvm.MethodName)) ∈ lw_G := lw_Gm (lw_t2 (List.mem_of_getElem? (i := 226) rfl)) rfl
theorem m2_227 : (Jvm.Cond.code ({ cls := "LastCalled$Hamlet", name := "goBack", desc := "()V" } : Jvm.MethodName) prog_7_method_10_code (2 : Nat) (Option.none : Option Jvm.ClassFile.FieldType)) ∈ lw_G := lw_Gm (lw_t2 (List.mem_of_getElem? (i := 227) rfl)) rfl
theorem m2_228 : (Jvm.Cond.methodLink "LastCalledLaw" (52 : Nat) ({ cls := "LastCalled", name := "of", desc := "(II)I" } : Jvm.MethodName)) ∈ lw_G := lw_Gm (lw_t2 (List.mem_of_getElem? (i := 228) rfl)) rfl
theorem m2_229 : (Jvm.Cond.instanceMethod ({ cls := "LastCalled", name := "of", desc := "(II)I" } : Jvm.MethodName)) ∈ lw_G := lw_Gm (lw_t2 (List.mem_of_getElem? (i := 229) rfl)) rfl
theorem m2_230 : (Jvm.Cond.selects "LastCalled" ({ cls := "LastCalled", name := "of", desc := "(II)I" } : Jvm.MethodName) ({ cls := "LastCalled", name := "of", desc := "(II)I" } : Jvm.MethodName)) ∈ lw_G := lw_Gm (lw_t2 (List.mem_of_getElem? (i := 230) rfl)) rfl
theorem m2_231 : (Jvm.Cond.code ({ cls := "LastCalled", name := "of", desc := "(II)I" } : Jvm.MethodName) prog_1_method_11_code (3 : Nat) (Option.some Jvm.ClassFile.FieldType.int)) ∈ lw_G := lw_Gm (lw_t2 (List.mem_of_getElem? (i := 231) rfl)) rfl
theorem m2_232 : (Jvm.Cond.methodLink "LastCalled" (129 : Nat) ({ cls := "LastCalled$Hamlet", name := "nameOf", desc := "(I)I" } : Jvm.MethodName)) ∈ lw_G := lw_Gm (lw_t2 (List.mem_of_getElem? (i := 232) rfl)) rfl
theorem m2_233 : (Jvm.Cond.instanceMethod ({ cls := "LastCalled$Hamlet", name := "nameOf", desc := "(I)I" } : Jvm.MethodName)) ∈ lw_G := lw_Gm (lw_t2 (List.mem_of_getElem? (i := 233) rfl)) rfl
theorem m2_234 : (Jvm.Cond.selects "LastCalled$Hamlet" ({ cls := "LastCalled$Hamlet", name := "nameOf", desc := "(I)I" } : Jvm.MethodName) ({ cls := "LastCalled$Hamlet", name := "nameOf", desc := "(I)I" } : Jvm.MethodName)) ∈ lw_G := lw_Gm (lw_t2 (List.mem_of_getElem? (i := 234) rfl)) rfl
theorem m2_235 : (Jvm.Cond.code ({ cls := "LastCalled$Hamlet", name := "nameOf", desc := "(I)I" } : Jvm.MethodName) prog_7_method_5_code (3 : Nat) (Option.some Jvm.ClassFile.FieldType.int)) ∈ lw_G := lw_Gm (lw_t2 (List.mem_of_getElem? (i := 235) rfl)) rfl
theorem m2_237 : (Jvm.Cond.static ({ cls := "LastCalled", name := "bit", desc := "(II)I" } : Jvm.MethodName)) ∈ lw_G := lw_Gm (lw_t2 (List.mem_of_getElem? (i := 237) rfl)) rfl
theorem m2_238 : (Jvm.Cond.code ({ cls := "LastCalled", name := "bit", desc := "(II)I" } : Jvm.MethodName) prog_1_method_36_code (2 : Nat) (Option.some Jvm.ClassFile.FieldType.int)) ∈ lw_G := lw_Gm (lw_t2 (List.mem_of_getElem? (i := 238) rfl)) rfl
theorem m2_239 : (Jvm.Cond.methodLink "LastCalledLaw" (56 : Nat) ({ cls := "LastCalled", name := "turn", desc := "(II)I" } : Jvm.MethodName)) ∈ lw_G := lw_Gm (lw_t2 (List.mem_of_getElem? (i := 239) rfl)) rfl
theorem m3_0 : (Jvm.Cond.instanceMethod ({ cls := "LastCalled", name := "turn", desc := "(II)I" } : Jvm.MethodName)) ∈ lw_G := lw_Gm (lw_t3 (List.mem_of_getElem? (i := 0) rfl)) rfl
theorem m3_1 : (Jvm.Cond.selects "LastCalled" ({ cls := "LastCalled", name := "turn", desc := "(II)I" } : Jvm.MethodName) ({ cls := "LastCalled", name := "turn", desc := "(II)I" } : Jvm.MethodName)) ∈ lw_G := lw_Gm (lw_t3 (List.mem_of_getElem? (i := 1) rfl)) rfl
theorem m3_2 : (Jvm.Cond.code ({ cls := "LastCalled", name := "turn", desc := "(II)I" } : Jvm.MethodName) prog_1_method_12_code (3 : Nat) (Option.some Jvm.ClassFile.FieldType.int)) ∈ lw_G := lw_Gm (lw_t3 (List.mem_of_getElem? (i := 2) rfl)) rfl
theorem m3_3 : (Jvm.Cond.methodLink "LastCalledLaw" (60 : Nat) ({ cls := "LastCalled", name := "bearers", desc := "(I)I" } : Jvm.MethodName)) ∈ lw_G := lw_Gm (lw_t3 (List.mem_of_getElem? (i := 3) rfl)) rfl
theorem m3_4 : (Jvm.Cond.instanceMethod ({ cls := "LastCalled", name := "bearers", desc := "(I)I" } : Jvm.MethodName)) ∈ lw_G := lw_Gm (lw_t3 (List.mem_of_getElem? (i := 4) rfl)) rfl
theorem m3_5 : (Jvm.Cond.selects "LastCalled" ({ cls := "LastCalled", name := "bearers", desc := "(I)I" } : Jvm.MethodName) ({ cls := "LastCalled", name := "bearers", desc := "(I)I" } : Jvm.MethodName)) ∈ lw_G := lw_Gm (lw_t3 (List.mem_of_getElem? (i := 5) rfl)) rfl
theorem m3_6 : (Jvm.Cond.code ({ cls := "LastCalled", name := "bearers", desc := "(I)I" } : Jvm.MethodName) prog_1_method_13_code (2 : Nat) (Option.some Jvm.ClassFile.FieldType.int)) ∈ lw_G := lw_Gm (lw_t3 (List.mem_of_getElem? (i := 6) rfl)) rfl
theorem m3_7 : (Jvm.Cond.methodLink "LastCalledLaw" (64 : Nat) ({ cls := "LastCalled", name := "names", desc := "(I)I" } : Jvm.MethodName)) ∈ lw_G := lw_Gm (lw_t3 (List.mem_of_getElem? (i := 7) rfl)) rfl
theorem m3_8 : (Jvm.Cond.instanceMethod ({ cls := "LastCalled", name := "names", desc := "(I)I" } : Jvm.MethodName)) ∈ lw_G := lw_Gm (lw_t3 (List.mem_of_getElem? (i := 8) rfl)) rfl
theorem m3_9 : (Jvm.Cond.selects "LastCalled" ({ cls := "LastCalled", name := "names", desc := "(I)I" } : Jvm.MethodName) ({ cls := "LastCalled", name := "names", desc := "(I)I" } : Jvm.MethodName)) ∈ lw_G := lw_Gm (lw_t3 (List.mem_of_getElem? (i := 9) rfl)) rfl
theorem m3_10 : (Jvm.Cond.code ({ cls := "LastCalled", name := "names", desc := "(I)I" } : Jvm.MethodName) prog_1_method_14_code (5 : Nat) (Option.some Jvm.ClassFile.FieldType.int)) ∈ lw_G := lw_Gm (lw_t3 (List.mem_of_getElem? (i := 10) rfl)) rfl
theorem m3_11 : (Jvm.Cond.methodLink "LastCalled" (132 : Nat) ({ cls := "java/lang/Integer", name := "bitCount", desc := "(I)I" } : Jvm.MethodName)) ∈ lw_G := lw_Gm (lw_t3 (List.mem_of_getElem? (i := 11) rfl)) rfl
theorem m3_12 : (Jvm.Cond.static ({ cls := "java/lang/Integer", name := "bitCount", desc := "(I)I" } : Jvm.MethodName)) ∈ lw_G := lw_Gm (lw_t3 (List.mem_of_getElem? (i := 12) rfl)) rfl
theorem m3_13 : (Jvm.Cond.code ({ cls := "java/lang/Integer", name := "bitCount", desc := "(I)I" } : Jvm.MethodName) prog_15_method_49_code (1 : Nat) (Option.some Jvm.ClassFile.FieldType.int)) ∈ lw_G := lw_Gm (lw_t3 (List.mem_of_getElem? (i := 13) rfl)) rfl
theorem m3_14 : (Jvm.Cond.constant "java/lang/Integer" (265 : Nat) (1431655765 : Int32)) ∈ lw_G := lw_Gm (lw_t3 (List.mem_of_getElem? (i := 14) rfl)) rfl
theorem m3_15 : (Jvm.Cond.constant "java/lang/Integer" (266 : Nat) (858993459 : Int32)) ∈ lw_G := lw_Gm (lw_t3 (List.mem_of_getElem? (i := 15) rfl)) rfl
theorem m3_16 : (Jvm.Cond.constant "java/lang/Integer" (267 : Nat) (252645135 : Int32)) ∈ lw_G := lw_Gm (lw_t3 (List.mem_of_getElem? (i := 16) rfl)) rfl
theorem m3_17 : (Jvm.Cond.methodLink "LastCalledLaw" (68 : Nat) ({ cls := "LastCalled", name := "calls", desc := "(III)I" } : Jvm.MethodName)) ∈ lw_G := lw_Gm (lw_t3 (List.mem_of_getElem? (i := 17) rfl)) rfl
theorem m3_18 : (Jvm.Cond.instanceMethod ({ cls := "LastCalled", name := "calls", desc := "(III)I" } : Jvm.MethodName)) ∈ lw_G := lw_Gm (lw_t3 (List.mem_of_getElem? (i := 18) rfl)) rfl
theorem m3_19 : (Jvm.Cond.selects "LastCalled" ({ cls := "LastCalled", name := "calls", desc := "(III)I" } : Jvm.MethodName) ({ cls := "LastCalled", name := "calls", desc := "(III)I" } : Jvm.MethodName)) ∈ lw_G := lw_Gm (lw_t3 (List.mem_of_getElem? (i := 19) rfl)) rfl
theorem m3_20 : (Jvm.Cond.code ({ cls := "LastCalled", name := "calls", desc := "(III)I" } : Jvm.MethodName) prog_1_method_15_code (4 : Nat) (Option.some Jvm.ClassFile.FieldType.int)) ∈ lw_G := lw_Gm (lw_t3 (List.mem_of_getElem? (i := 20) rfl)) rfl
theorem m3_21 : (Jvm.Cond.methodLink "LastCalled" (137 : Nat) ({ cls := "LastCalled$Hearing", name := "listen", desc := "(LLastCalled$Hamlet;)V" } : Jvm.MethodName)) ∈ lw_G := lw_Gm (lw_t3 (List.mem_of_getElem? (i := 21) rfl)) rfl
theorem m3_22 : (Jvm.Cond.instanceMethod ({ cls := "LastCalled$Hearing", name := "listen", desc := "(LLastCalled$Hamlet;)V" } : Jvm.MethodName)) ∈ lw_G := lw_Gm (lw_t3 (List.mem_of_getElem? (i := 22) rfl)) rfl
theorem m3_23 : (Jvm.Cond.selects "LastCalled$Hearing" ({ cls := "LastCalled$Hearing", name := "listen", desc := "(LLastCalled$Hamlet;)V" } : Jvm.MethodName) ({ cls := "LastCalled$Hearing", name := "listen", desc := "(LLastCalled$Hamlet;)V" } : Jvm.MethodName)) ∈ lw_G := lw_Gm (lw_t3 (List.mem_of_getElem? (i := 23) rfl)) rfl
theorem m3_24 : (Jvm.Cond.code ({ cls := "LastCalled$Hearing", name := "listen", desc := "(LLastCalled$Hamlet;)V" } : Jvm.MethodName) prog_8_method_3_code (3 : Nat) (Option.none : Option Jvm.ClassFile.FieldType)) ∈ lw_G := lw_Gm (lw_t3 (List.mem_of_getElem? (i := 24) rfl)) rfl
theorem m3_25 : (Jvm.Cond.methodLink "LastCalled$Hearing" (51 : Nat) ({ cls := "LastCalled$Hearing", name := "listenAt", desc := "(LLastCalled$Hamlet;I)V" } : Jvm.MethodName)) ∈ lw_G := lw_Gm (lw_t3 (List.mem_of_getElem? (i := 25) rfl)) rfl
theorem m3_26 : (Jvm.Cond.methodLink "LastCalled" (140 : Nat) ({ cls := "LastCalled$Search", name := "toBear", desc := "(LLastCalled$Hamlet;LLastCalled$Hearing;II)V" } : Jvm.MethodName)) ∈ lw_G := lw_Gm (lw_t3 (List.mem_of_getElem? (i := 26) rfl)) rfl
theorem m3_27 : (Jvm.Cond.instanceMethod ({ cls := "LastCalled$Search", name := "toBear", desc := "(LLastCalled$Hamlet;LLastCalled$Hearing;II)V" } : Jvm.MethodName)) ∈ lw_G := lw_Gm (lw_t3 (List.mem_of_getElem? (i := 27) rfl)) rfl
theorem m3_28 : (Jvm.Cond.selects "LastCalled$Search" ({ cls := "LastCalled$Search", name := "toBear", desc := "(LLastCalled$Hamlet;LLastCalled$Hearing;II)V" } : Jvm.MethodName) ({ cls := "LastCalled$Search", name := "toBear", desc := "(LLastCalled$Hamlet;LLastCalled$Hearing;II)V" } : Jvm.MethodName)) ∈ lw_G := lw_Gm (lw_t3 (List.mem_of_getElem? (i := 28) rfl)) rfl
theorem m3_29 : (Jvm.Cond.code ({ cls := "LastCalled$Search", name := "toBear", desc := "(LLastCalled$Hamlet;LLastCalled$Hearing;II)V" } : Jvm.MethodName) prog_10_method_2_code (6 : Nat) (Option.none : Option Jvm.ClassFile.FieldType)) ∈ lw_G := lw_Gm (lw_t3 (List.mem_of_getElem? (i := 29) rfl)) rfl
theorem m3_30 : (Jvm.Cond.methodLink "LastCalled$Search" (22 : Nat) ({ cls := "LastCalled$Hamlet", name := "nameOf", desc := "(I)I" } : Jvm.MethodName)) ∈ lw_G := lw_Gm (lw_t3 (List.mem_of_getElem? (i := 30) rfl)) rfl
theorem m3_31 : (Jvm.Cond.methodLink "LastCalled$Search" (31 : Nat) ({ cls := "LastCalled$Search", name := "lastCall", desc := "([ILLastCalled$Hearing;II)I" } : Jvm.MethodName)) ∈ lw_G := lw_Gm (lw_t3 (List.mem_of_getElem? (i := 31) rfl)) rfl
theorem m3_33 : (Jvm.Cond.instanceMethod ({ cls := "LastCalled$Search", name := "lastCall", desc := "([ILLastCalled$Hearing;II)I" } : Jvm.MethodName)) ∈ lw_G := lw_Gm (lw_t3 (List.mem_of_getElem? (i := 33) rfl)) rfl
theorem m3_34 : (Jvm.Cond.code ({ cls := "LastCalled$Search", name := "lastCall", desc := "([ILLastCalled$Hearing;II)I" } : Jvm.MethodName) prog_10_method_3_code (6 : Nat) (Option.some Jvm.ClassFile.FieldType.int)) ∈ lw_G := lw_Gm (lw_t3 (List.mem_of_getElem? (i := 34) rfl)) rfl
theorem m3_35 : (Jvm.Cond.methodLink "LastCalled$Search" (42 : Nat) ({ cls := "LastCalled$Hearing", name := "turners", desc := "([III)I" } : Jvm.MethodName)) ∈ lw_G := lw_Gm (lw_t3 (List.mem_of_getElem? (i := 35) rfl)) rfl
theorem m3_37 : (Jvm.Cond.methodLink "LastCalled$Search" (38 : Nat) ({ cls := "LastCalled$Search", name := "callOnce", desc := "(LLastCalled$Hamlet;LLastCalled$Hearing;I)V" } : Jvm.MethodName)) ∈ lw_G := lw_Gm (lw_t3 (List.mem_of_getElem? (i := 37) rfl)) rfl
theorem m3_39 : (Jvm.Cond.instanceMethod ({ cls := "LastCalled$Search", name := "callOnce", desc := "(LLastCalled$Hamlet;LLastCalled$Hearing;I)V" } : Jvm.MethodName)) ∈ lw_G := lw_Gm (lw_t3 (List.mem_of_getElem? (i := 39) rfl)) rfl
theorem m3_40 : (Jvm.Cond.code ({ cls := "LastCalled$Search", name := "callOnce", desc := "(LLastCalled$Hamlet;LLastCalled$Hearing;I)V" } : Jvm.MethodName) prog_10_method_7_code (5 : Nat) (Option.none : Option Jvm.ClassFile.FieldType)) ∈ lw_G := lw_Gm (lw_t3 (List.mem_of_getElem? (i := 40) rfl)) rfl
theorem m3_41 : (Jvm.Cond.methodLink "LastCalled$Search" (72 : Nat) ({ cls := "java/lang/System", name := "arraycopy", desc := "(Ljava/lang/Object;ILjava/lang/Object;II)V" } : Jvm.MethodName)) ∈ lw_G := lw_Gm (lw_t3 (List.mem_of_getElem? (i := 41) rfl)) rfl
theorem m3_43 : (Jvm.Cond.methodLink "LastCalledLaw" (73 : Nat) ({ cls := "LastCalled", name := "own", desc := "(I)I" } : Jvm.MethodName)) ∈ lw_G := lw_Gm (lw_t3 (List.mem_of_getElem? (i := 43) rfl)) rfl
theorem m3_44 : (Jvm.Cond.instanceMethod ({ cls := "LastCalled", name := "own", desc := "(I)I" } : Jvm.MethodName)) ∈ lw_G := lw_Gm (lw_t3 (List.mem_of_getElem? (i := 44) rfl)) rfl
theorem m3_45 : (Jvm.Cond.selects "LastCalled" ({ cls := "LastCalled", name := "own", desc := "(I)I" } : Jvm.MethodName) ({ cls := "LastCalled", name := "own", desc := "(I)I" } : Jvm.MethodName)) ∈ lw_G := lw_Gm (lw_t3 (List.mem_of_getElem? (i := 45) rfl)) rfl
theorem m3_46 : (Jvm.Cond.code ({ cls := "LastCalled", name := "own", desc := "(I)I" } : Jvm.MethodName) prog_1_method_16_code (2 : Nat) (Option.some Jvm.ClassFile.FieldType.int)) ∈ lw_G := lw_Gm (lw_t3 (List.mem_of_getElem? (i := 46) rfl)) rfl
theorem m3_47 : (Jvm.Cond.methodLink "LastCalled" (150 : Nat) ({ cls := "LastCalled$Search", name := "ownAgain", desc := "(LLastCalled$Hamlet;LLastCalled$Hearing;)V" } : Jvm.MethodName)) ∈ lw_G := lw_Gm (lw_t3 (List.mem_of_getElem? (i := 47) rfl)) rfl
theorem m3_48 : (Jvm.Cond.instanceMethod ({ cls := "LastCalled$Search", name := "ownAgain", desc := "(LLastCalled$Hamlet;LLastCalled$Hearing;)V" } : Jvm.MethodName)) ∈ lw_G := lw_Gm (lw_t3 (List.mem_of_getElem? (i := 48) rfl)) rfl
theorem m3_49 : (Jvm.Cond.selects "LastCalled$Search" ({ cls := "LastCalled$Search", name := "ownAgain", desc := "(LLastCalled$Hamlet;LLastCalled$Hearing;)V" } : Jvm.MethodName) ({ cls := "LastCalled$Search", name := "ownAgain", desc := "(LLastCalled$Hamlet;LLastCalled$Hearing;)V" } : Jvm.MethodName)) ∈ lw_G := lw_Gm (lw_t3 (List.mem_of_getElem? (i := 49) rfl)) rfl
theorem m3_50 : (Jvm.Cond.code ({ cls := "LastCalled$Search", name := "ownAgain", desc := "(LLastCalled$Hamlet;LLastCalled$Hearing;)V" } : Jvm.MethodName) prog_10_method_4_code (5 : Nat) (Option.none : Option Jvm.ClassFile.FieldType)) ∈ lw_G := lw_Gm (lw_t3 (List.mem_of_getElem? (i := 50) rfl)) rfl
theorem m3_52 : (Jvm.Cond.static ({ cls := "LastCalled", name := "owners", desc := "([I)I" } : Jvm.MethodName)) ∈ lw_G := lw_Gm (lw_t3 (List.mem_of_getElem? (i := 52) rfl)) rfl
theorem m3_53 : (Jvm.Cond.code ({ cls := "LastCalled", name := "owners", desc := "([I)I" } : Jvm.MethodName) prog_1_method_43_code (3 : Nat) (Option.some Jvm.ClassFile.FieldType.int)) ∈ lw_G := lw_Gm (lw_t3 (List.mem_of_getElem? (i := 53) rfl)) rfl
theorem m3_54 : (Jvm.Cond.methodLink "LastCalled$Search" (56 : Nat) ({ cls := "java/lang/Integer", name := "bitCount", desc := "(I)I" } : Jvm.MethodName)) ∈ lw_G := lw_Gm (lw_t3 (List.mem_of_getElem? (i := 54) rfl)) rfl
theorem m3_55 : (Jvm.Cond.methodLink "LastCalled$Search" (64 : Nat) ({ cls := "LastCalled$Search", name := "tryLastCalls", desc := "([ILLastCalled$Hearing;II)V" } : Jvm.MethodName)) ∈ lw_G := lw_Gm (lw_t3 (List.mem_of_getElem? (i := 55) rfl)) rfl
theorem m3_57 : (Jvm.Cond.instanceMethod ({ cls := "LastCalled$Search", name := "tryLastCalls", desc := "([ILLastCalled$Hearing;II)V" } : Jvm.MethodName)) ∈ lw_G := lw_Gm (lw_t3 (List.mem_of_getElem? (i := 57) rfl)) rfl
theorem m3_58 : (Jvm.Cond.code ({ cls := "LastCalled$Search", name := "tryLastCalls", desc := "([ILLastCalled$Hearing;II)V" } : Jvm.MethodName) prog_10_method_5_code (10 : Nat) (Option.none : Option Jvm.ClassFile.FieldType)) ∈ lw_G := lw_Gm (lw_t3 (List.mem_of_getElem? (i := 58) rfl)) rfl
theorem m3_59 : (Jvm.Cond.methodLink "LastCalled$Search" (68 : Nat) ({ cls := "LastCalled$Search", name := "ownersBehind", desc := "(III)I" } : Jvm.MethodName)) ∈ lw_G := lw_Gm (lw_t3 (List.mem_of_getElem? (i := 59) rfl)) rfl
theorem m3_61 : (Jvm.Cond.instanceMethod ({ cls := "LastCalled$Search", name := "ownersBehind", desc := "(III)I" } : Jvm.MethodName)) ∈ lw_G := lw_Gm (lw_t3 (List.mem_of_getElem? (i := 61) rfl)) rfl
theorem m3_62 : (Jvm.Cond.code ({ cls := "LastCalled$Search", name := "ownersBehind", desc := "(III)I" } : Jvm.MethodName) prog_10_method_6_code (5 : Nat) (Option.some Jvm.ClassFile.FieldType.int)) ∈ lw_G := lw_Gm (lw_t3 (List.mem_of_getElem? (i := 62) rfl)) rfl
theorem m3_63 : (Jvm.Cond.methodLink "LastCalledLaw" (77 : Nat) ({ cls := "LastCalled", name := "ring", desc := "(I)I" } : Jvm.MethodName)) ∈ lw_G := lw_Gm (lw_t3 (List.mem_of_getElem? (i := 63) rfl)) rfl
theorem m3_64 : (Jvm.Cond.instanceMethod ({ cls := "LastCalled", name := "ring", desc := "(I)I" } : Jvm.MethodName)) ∈ lw_G := lw_Gm (lw_t3 (List.mem_of_getElem? (i := 64) rfl)) rfl
theorem m3_65 : (Jvm.Cond.selects "LastCalled" ({ cls := "LastCalled", name := "ring", desc := "(I)I" } : Jvm.MethodName) ({ cls := "LastCalled", name := "ring", desc := "(I)I" } : Jvm.MethodName)) ∈ lw_G := lw_Gm (lw_t3 (List.mem_of_getElem? (i := 65) rfl)) rfl
theorem m3_66 : (Jvm.Cond.code ({ cls := "LastCalled", name := "ring", desc := "(I)I" } : Jvm.MethodName) prog_1_method_17_code (4 : Nat) (Option.some Jvm.ClassFile.FieldType.int)) ∈ lw_G := lw_Gm (lw_t3 (List.mem_of_getElem? (i := 66) rfl)) rfl
theorem m3_67 : (Jvm.Cond.methodLink "LastCalledLaw" (81 : Nat) ({ cls := "LastCalled", name := "deed", desc := "(II)I" } : Jvm.MethodName)) ∈ lw_G := lw_Gm (lw_t3 (List.mem_of_getElem? (i := 67) rfl)) rfl
theorem m3_68 : (Jvm.Cond.instanceMethod ({ cls := "LastCalled", name := "deed", desc := "(II)I" } : Jvm.MethodName)) ∈ lw_G := lw_Gm (lw_t3 (List.mem_of_getElem? (i := 68) rfl)) rfl
theorem m3_69 : (Jvm.Cond.selects "LastCalled" ({ cls := "LastCalled", name := "deed", desc := "(II)I" } : Jvm.MethodName) ({ cls := "LastCalled", name := "deed", desc := "(II)I" } : Jvm.MethodName)) ∈ lw_G := lw_Gm (lw_t3 (List.mem_of_getElem? (i := 69) rfl)) rfl
theorem m3_70 : (Jvm.Cond.code ({ cls := "LastCalled", name := "deed", desc := "(II)I" } : Jvm.MethodName) prog_1_method_18_code (3 : Nat) (Option.some Jvm.ClassFile.FieldType.int)) ∈ lw_G := lw_Gm (lw_t3 (List.mem_of_getElem? (i := 70) rfl)) rfl
theorem m3_71 : (Jvm.Cond.methodLink "LastCalledLaw" (85 : Nat) ({ cls := "LastCalled", name := "owes", desc := "(I)I" } : Jvm.MethodName)) ∈ lw_G := lw_Gm (lw_t3 (List.mem_of_getElem? (i := 71) rfl)) rfl
theorem m3_72 : (Jvm.Cond.instanceMethod ({ cls := "LastCalled", name := "owes", desc := "(I)I" } : Jvm.MethodName)) ∈ lw_G := lw_Gm (lw_t3 (List.mem_of_getElem? (i := 72) rfl)) rfl
theorem m3_73 : (Jvm.Cond.selects "LastCalled" ({ cls := "LastCalled", name := "owes", desc := "(I)I" } : Jvm.MethodName) ({ cls := "LastCalled", name := "owes", desc := "(I)I" } : Jvm.MethodName)) ∈ lw_G := lw_Gm (lw_t3 (List.mem_of_getElem? (i := 73) rfl)) rfl
theorem m3_74 : (Jvm.Cond.code ({ cls := "LastCalled", name := "owes", desc := "(I)I" } : Jvm.MethodName) prog_1_method_19_code (3 : Nat) (Option.some Jvm.ClassFile.FieldType.int)) ∈ lw_G := lw_Gm (lw_t3 (List.mem_of_getElem? (i := 74) rfl)) rfl
theorem m3_75 : (Jvm.Cond.methodLink "LastCalled" (166 : Nat) ({ cls := "LastCalled$Fraction", name := "become", desc := "(JJ)V" } : Jvm.MethodName)) ∈ lw_G := lw_Gm (lw_t3 (List.mem_of_getElem? (i := 75) rfl)) rfl
theorem m3_76 : (Jvm.Cond.instanceMethod ({ cls := "LastCalled$Fraction", name := "become", desc := "(JJ)V" } : Jvm.MethodName)) ∈ lw_G := lw_Gm (lw_t3 (List.mem_of_getElem? (i := 76) rfl)) rfl
theorem m3_77 : (Jvm.Cond.selects "LastCalled$Fraction" ({ cls := "LastCalled$Fraction", name := "become", desc := "(JJ)V" } : Jvm.MethodName) ({ cls := "LastCalled$Fraction", name := "become", desc := "(JJ)V" } : Jvm.MethodName)) ∈ lw_G := lw_Gm (lw_t3 (List.mem_of_getElem? (i := 77) rfl)) rfl
theorem m3_78 : (Jvm.Cond.code ({ cls := "LastCalled$Fraction", name := "become", desc := "(JJ)V" } : Jvm.MethodName) prog_6_method_2_code (7 : Nat) (Option.none : Option Jvm.ClassFile.FieldType)) ∈ lw_G := lw_Gm (lw_t3 (List.mem_of_getElem? (i := 78) rfl)) rfl
theorem m3_79 : (Jvm.Cond.methodLink "LastCalled$Fraction" (16 : Nat) ({ cls := "LastCalled$Fraction", name := "commonDivisor", desc := "(JJ)J" } : Jvm.MethodName)) ∈ lw_G := lw_Gm (lw_t3 (List.mem_of_getElem? (i := 79) rfl)) rfl
theorem m3_80 : (Jvm.Cond.static ({ cls := "LastCalled$Fraction", name := "commonDivisor", desc := "(JJ)J" } : Jvm.MethodName)) ∈ lw_G := lw_Gm (lw_t3 (List.mem_of_getElem? (i := 80) rfl)) rfl
theorem m3_81 : (Jvm.Cond.code ({ cls := "LastCalled$Fraction", name := "commonDivisor", desc := "(JJ)J" } : Jvm.MethodName) prog_6_method_3_code (11 : Nat) (Option.some Jvm.ClassFile.FieldType.long)) ∈ lw_G := lw_Gm (lw_t3 (List.mem_of_getElem? (i := 81) rfl)) rfl
theorem m3_82 : (Jvm.Cond.methodLink "LastCalled" (170 : Nat) ({ cls := "LastCalled$Hamlet", name := "penceOn", desc := "(I)I" } : Jvm.MethodName)) ∈ lw_G := lw_Gm (lw_t3 (List.mem_of_getElem? (i := 82) rfl)) rfl
theorem m3_83 : (Jvm.Cond.instanceMethod ({ cls := "LastCalled$Hamlet", name := "penceOn", desc := "(I)I" } : Jvm.MethodName)) ∈ lw_G := lw_Gm (lw_t3 (List.mem_of_getElem? (i := 83) rfl)) rfl
theorem m3_84 : (Jvm.Cond.selects "LastCalled$Hamlet" ({ cls := "LastCalled$Hamlet", name := "penceOn", desc := "(I)I" } : Jvm.MethodName) ({ cls := "LastCalled$Hamlet", name := "penceOn", desc := "(I)I" } : Jvm.MethodName)) ∈ lw_G := lw_Gm (lw_t3 (List.mem_of_getElem? (i := 84) rfl)) rfl
theorem m3_85 : (Jvm.Cond.code ({ cls := "LastCalled$Hamlet", name := "penceOn", desc := "(I)I" } : Jvm.MethodName) prog_7_method_7_code (4 : Nat) (Option.some Jvm.ClassFile.FieldType.int)) ∈ lw_G := lw_Gm (lw_t3 (List.mem_of_getElem? (i := 85) rfl)) rfl
theorem m3_86 : (Jvm.Cond.methodLink "LastCalledLaw" (89 : Nat) ({ cls := "LastCalled", name := "unpaid", desc := "()I" } : Jvm.MethodName)) ∈ lw_G := lw_Gm (lw_t3 (List.mem_of_getElem? (i := 86) rfl)) rfl
theorem m3_87 : (Jvm.Cond.instanceMethod ({ cls := "LastCalled", name := "unpaid", desc := "()I" } : Jvm.MethodName)) ∈ lw_G := lw_Gm (lw_t3 (List.mem_of_getElem? (i := 87) rfl)) rfl
theorem m3_88 : (Jvm.Cond.selects "LastCalled" ({ cls := "LastCalled", name := "unpaid", desc := "()I" } : Jvm.MethodName) ({ cls := "LastCalled", name := "unpaid", desc := "()I" } : Jvm.MethodName)) ∈ lw_G := lw_Gm (lw_t3 (List.mem_of_getElem? (i := 88) rfl)) rfl
theorem m3_89 : (Jvm.Cond.code ({ cls := "LastCalled", name := "unpaid", desc := "()I" } : Jvm.MethodName) prog_1_method_20_code (3 : Nat) (Option.some Jvm.ClassFile.FieldType.int)) ∈ lw_G := lw_Gm (lw_t3 (List.mem_of_getElem? (i := 89) rfl)) rfl
theorem m3_90 : (Jvm.Cond.methodLink "LastCalledLaw" (93 : Nat) ({ cls := "LastCalled", name := "ears", desc := "(IIII)I" } : Jvm.MethodName)) ∈ lw_G := lw_Gm (lw_t3 (List.mem_of_getElem? (i := 90) rfl)) rfl
theorem m3_91 : (Jvm.Cond.instanceMethod ({ cls := "LastCalled", name := "ears", desc := "(IIII)I" } : Jvm.MethodName)) ∈ lw_G := lw_Gm (lw_t3 (List.mem_of_getElem? (i := 91) rfl)) rfl
theorem m3_92 : (Jvm.Cond.selects "LastCalled" ({ cls := "LastCalled", name := "ears", desc := "(IIII)I" } : Jvm.MethodName) ({ cls := "LastCalled", name := "ears", desc := "(IIII)I" } : Jvm.MethodName)) ∈ lw_G := lw_Gm (lw_t3 (List.mem_of_getElem? (i := 92) rfl)) rfl
theorem m3_93 : (Jvm.Cond.code ({ cls := "LastCalled", name := "ears", desc := "(IIII)I" } : Jvm.MethodName) prog_1_method_21_code (12 : Nat) (Option.some Jvm.ClassFile.FieldType.int)) ∈ lw_G := lw_Gm (lw_t3 (List.mem_of_getElem? (i := 93) rfl)) rfl
theorem m3_94 : (Jvm.Cond.methodLink "LastCalled" (173 : Nat) ({ cls := "LastCalled", name := "stopped", desc := "(III)I" } : Jvm.MethodName)) ∈ lw_G := lw_Gm (lw_t3 (List.mem_of_getElem? (i := 94) rfl)) rfl
theorem m3_95 : (Jvm.Cond.static ({ cls := "LastCalled", name := "stopped", desc := "(III)I" } : Jvm.MethodName)) ∈ lw_G := lw_Gm (lw_t3 (List.mem_of_getElem? (i := 95) rfl)) rfl
theorem m3_96 : (Jvm.Cond.code ({ cls := "LastCalled", name := "stopped", desc := "(III)I" } : Jvm.MethodName) prog_1_method_44_code (3 : Nat) (Option.some Jvm.ClassFile.FieldType.int)) ∈ lw_G := lw_Gm (lw_t3 (List.mem_of_getElem? (i := 96) rfl)) rfl
theorem m3_97 : (Jvm.Cond.methodLink "LastCalled" (180 : Nat) ({ cls := "LastCalled", name := "bit", desc := "(II)I" } : Jvm.MethodName)) ∈ lw_G := lw_Gm (lw_t3 (List.mem_of_getElem? (i := 97) rfl)) rfl
theorem m3_98 : (Jvm.Cond.methodLink "LastCalled" (177 : Nat) ({ cls := "LastCalled", name := "bearersBehind", desc := "(II)I" } : Jvm.MethodName)) ∈ lw_G := lw_Gm (lw_t3 (List.mem_of_getElem? (i := 98) rfl)) rfl
theorem m3_99 : (Jvm.Cond.static ({ cls := "LastCalled", name := "bearersBehind", desc := "(II)I" } : Jvm.MethodName)) ∈ lw_G := lw_Gm (lw_t3 (List.mem_of_getElem? (i := 99) rfl)) rfl
theorem m3_100 : (Jvm.Cond.code ({ cls := "LastCalled", name := "bearersBehind", desc := "(II)I" } : Jvm.MethodName) prog_1_method_42_code (2 : Nat) (Option.some Jvm.ClassFile.FieldType.int)) ∈ lw_G := lw_Gm (lw_t3 (List.mem_of_getElem? (i := 100) rfl)) rfl
theorem m3_101 : (Jvm.Cond.methodLink "LastCalledLaw" (98 : Nat) ({ cls := "LastCalled", name := "note", desc := "(IIIII)I" } : Jvm.MethodName)) ∈ lw_G := lw_Gm (lw_t3 (List.mem_of_getElem? (i := 101) rfl)) rfl
theorem m3_102 : (Jvm.Cond.instanceMethod ({ cls := "LastCalled", name := "note", desc := "(IIIII)I" } : Jvm.MethodName)) ∈ lw_G := lw_Gm (lw_t3 (List.mem_of_getElem? (i := 102) rfl)) rfl
theorem m3_103 : (Jvm.Cond.selects "LastCalled" ({ cls := "LastCalled", name := "note", desc := "(IIIII)I" } : Jvm.MethodName) ({ cls := "LastCalled", name := "note", desc := "(IIIII)I" } : Jvm.MethodName)) ∈ lw_G := lw_Gm (lw_t3 (List.mem_of_getElem? (i := 103) rfl)) rfl
theorem m3_104 : (Jvm.Cond.code ({ cls := "LastCalled", name := "note", desc := "(IIIII)I" } : Jvm.MethodName) prog_1_method_22_code (6 : Nat) (Option.some Jvm.ClassFile.FieldType.int)) ∈ lw_G := lw_Gm (lw_t3 (List.mem_of_getElem? (i := 104) rfl)) rfl
theorem m3_105 : (Jvm.Cond.methodLink "LastCalled" (186 : Nat) ({ cls := "LastCalled$Hamlet", name := "write", desc := "(IIIII)V" } : Jvm.MethodName)) ∈ lw_G := lw_Gm (lw_t3 (List.mem_of_getElem? (i := 105) rfl)) rfl
theorem m3_106 : (Jvm.Cond.instanceMethod ({ cls := "LastCalled$Hamlet", name := "write", desc := "(IIIII)V" } : Jvm.MethodName)) ∈ lw_G := lw_Gm (lw_t3 (List.mem_of_getElem? (i := 106) rfl)) rfl
theorem m3_107 : (Jvm.Cond.selects "LastCalled$Hamlet" ({ cls := "LastCalled$Hamlet", name := "write", desc := "(IIIII)V" } : Jvm.MethodName) ({ cls := "LastCalled$Hamlet", name := "write", desc := "(IIIII)V" } : Jvm.MethodName)) ∈ lw_G := lw_Gm (lw_t3 (List.mem_of_getElem? (i := 107) rfl)) rfl
theorem m3_108 : (Jvm.Cond.code ({ cls := "LastCalled$Hamlet", name := "write", desc := "(IIIII)V" } : Jvm.MethodName) prog_7_method_8_code (7 : Nat) (Option.none : Option Jvm.ClassFile.FieldType)) ∈ lw_G := lw_Gm (lw_t3 (List.mem_of_getElem? (i := 108) rfl)) rfl
theorem m3_109 : (Jvm.Cond.methodLink "LastCalledLaw" (103 : Nat) ({ cls := "LastCalled", name := "forget", desc := "(I)I" } : Jvm.MethodName)) ∈ lw_G := lw_Gm (lw_t3 (List.mem_of_getElem? (i := 109) rfl)) rfl
theorem m3_110 : (Jvm.Cond.instanceMethod ({ cls := "LastCalled", name := "forget", desc := "(I)I" } : Jvm.MethodName)) ∈ lw_G := lw_Gm (lw_t3 (List.mem_of_getElem? (i := 110) rfl)) rfl
theorem m3_111 : (Jvm.Cond.selects "LastCalled" ({ cls := "LastCalled", name := "forget", desc := "(I)I" } : Jvm.MethodName) ({ cls := "LastCalled", name := "forget", desc := "(I)I" } : Jvm.MethodName)) ∈ lw_G := lw_Gm (lw_t3 (List.mem_of_getElem? (i := 111) rfl)) rfl
theorem m3_112 : (Jvm.Cond.code ({ cls := "LastCalled", name := "forget", desc := "(I)I" } : Jvm.MethodName) prog_1_method_23_code (3 : Nat) (Option.some Jvm.ClassFile.FieldType.int)) ∈ lw_G := lw_Gm (lw_t3 (List.mem_of_getElem? (i := 112) rfl)) rfl
theorem m3_113 : (Jvm.Cond.methodLink "LastCalledLaw" (107 : Nat) ({ cls := "LastCalled", name := "is", desc := "(I)I" } : Jvm.MethodName)) ∈ lw_G := lw_Gm (lw_t3 (List.mem_of_getElem? (i := 113) rfl)) rfl
theorem m3_114 : (Jvm.Cond.instanceMethod ({ cls := "LastCalled", name := "is", desc := "(I)I" } : Jvm.MethodName)) ∈ lw_G := lw_Gm (lw_t3 (List.mem_of_getElem? (i := 114) rfl)) rfl
theorem m3_115 : (Jvm.Cond.selects "LastCalled" ({ cls := "LastCalled", name := "is", desc := "(I)I" } : Jvm.MethodName) ({ cls := "LastCalled", name := "is", desc := "(I)I" } : Jvm.MethodName)) ∈ lw_G := lw_Gm (lw_t3 (List.mem_of_getElem? (i := 115) rfl)) rfl
theorem m3_116 : (Jvm.Cond.code ({ cls := "LastCalled", name := "is", desc := "(I)I" } : Jvm.MethodName) prog_1_method_24_code (4 : Nat) (Option.some Jvm.ClassFile.FieldType.int)) ∈ lw_G := lw_Gm (lw_t3 (List.mem_of_getElem? (i := 116) rfl)) rfl
theorem m3_117 : (Jvm.Cond.methodLink "LastCalled" (190 : Nat) ({ cls := "LastCalled", name := "fits", desc := "(III)Z" } : Jvm.MethodName)) ∈ lw_G := lw_Gm (lw_t3 (List.mem_of_getElem? (i := 117) rfl)) rfl
theorem m3_119 : (Jvm.Cond.instanceMethod ({ cls := "LastCalled", name := "fits", desc := "(III)Z" } : Jvm.MethodName)) ∈ lw_G := lw_Gm (lw_t3 (List.mem_of_getElem? (i := 119) rfl)) rfl
theorem m3_120 : (Jvm.Cond.code ({ cls := "LastCalled", name := "fits", desc := "(III)Z" } : Jvm.MethodName) prog_1_method_45_code (8 : Nat) (Option.some Jvm.ClassFile.FieldType.boolean)) ∈ lw_G := lw_Gm (lw_t3 (List.mem_of_getElem? (i := 120) rfl)) rfl
theorem m3_121 : (Jvm.Cond.methodLink "LastCalled" (245 : Nat) ({ cls := "java/lang/Math", name := "abs", desc := "(I)I" } : Jvm.MethodName)) ∈ lw_G := lw_Gm (lw_t3 (List.mem_of_getElem? (i := 121) rfl)) rfl
theorem m3_122 : (Jvm.Cond.methodLink "LastCalled" (248 : Nat) ({ cls := "LastCalled$Hearing", name := "turnsAs", desc := "(IIZZI)Z" } : Jvm.MethodName)) ∈ lw_G := lw_Gm (lw_t3 (List.mem_of_getElem? (i := 122) rfl)) rfl
theorem m3_123 : (Jvm.Cond.methodLink "LastCalledLaw" (111 : Nat) ({ cls := "LastCalled", name := "stood", desc := "(I)I" } : Jvm.MethodName)) ∈ lw_G := lw_Gm (lw_t3 (List.mem_of_getElem? (i := 123) rfl)) rfl
theorem m3_124 : (Jvm.Cond.instanceMethod ({ cls := "LastCalled", name := "stood", desc := "(I)I" } : Jvm.MethodName)) ∈ lw_G := lw_Gm (lw_t3 (List.mem_of_getElem? (i := 124) rfl)) rfl
theorem m3_125 : (Jvm.Cond.selects "LastCalled" ({ cls := "LastCalled", name := "stood", desc := "(I)I" } : Jvm.MethodName) ({ cls := "LastCalled", name := "stood", desc := "(I)I" } : Jvm.MethodName)) ∈ lw_G := lw_Gm (lw_t3 (List.mem_of_getElem? (i := 125) rfl)) rfl
theorem m3_126 : (Jvm.Cond.code ({ cls := "LastCalled", name := "stood", desc := "(I)I" } : Jvm.MethodName) prog_1_method_25_code (2 : Nat) (Option.some Jvm.ClassFile.FieldType.int)) ∈ lw_G := lw_Gm (lw_t3 (List.mem_of_getElem? (i := 126) rfl)) rfl
theorem m3_127 : (Jvm.Cond.methodLink "LastCalled" (194 : Nat) ({ cls := "LastCalled", name := "placesThatFit", desc := "(I)I" } : Jvm.MethodName)) ∈ lw_G := lw_Gm (lw_t3 (List.mem_of_getElem? (i := 127) rfl)) rfl
theorem m3_129 : (Jvm.Cond.instanceMethod ({ cls := "LastCalled", name := "placesThatFit", desc := "(I)I" } : Jvm.MethodName)) ∈ lw_G := lw_Gm (lw_t3 (List.mem_of_getElem? (i := 129) rfl)) rfl
theorem m3_130 : (Jvm.Cond.code ({ cls := "LastCalled", name := "placesThatFit", desc := "(I)I" } : Jvm.MethodName) prog_1_method_46_code (4 : Nat) (Option.some Jvm.ClassFile.FieldType.int)) ∈ lw_G := lw_Gm (lw_t3 (List.mem_of_getElem? (i := 130) rfl)) rfl
theorem m3_131 : (Jvm.Cond.methodLink "LastCalledLaw" (115 : Nat) ({ cls := "LastCalled", name := "next", desc := "(I)I" } : Jvm.MethodName)) ∈ lw_G := lw_Gm (lw_t3 (List.mem_of_getElem? (i := 131) rfl)) rfl
theorem m3_132 : (Jvm.Cond.instanceMethod ({ cls := "LastCalled", name := "next", desc := "(I)I" } : Jvm.MethodName)) ∈ lw_G := lw_Gm (lw_t3 (List.mem_of_getElem? (i := 132) rfl)) rfl
theorem m3_133 : (Jvm.Cond.selects "LastCalled" ({ cls := "LastCalled", name := "next", desc := "(I)I" } : Jvm.MethodName) ({ cls := "LastCalled", name := "next", desc := "(I)I" } : Jvm.MethodName)) ∈ lw_G := lw_Gm (lw_t3 (List.mem_of_getElem? (i := 133) rfl)) rfl
theorem m3_134 : (Jvm.Cond.code ({ cls := "LastCalled", name := "next", desc := "(I)I" } : Jvm.MethodName) prog_1_method_26_code (8 : Nat) (Option.some Jvm.ClassFile.FieldType.int)) ∈ lw_G := lw_Gm (lw_t3 (List.mem_of_getElem? (i := 134) rfl)) rfl
theorem m3_135 : (Jvm.Cond.methodLink "LastCalled" (197 : Nat) ({ cls := "LastCalled", name := "placesTurningAt", desc := "(II)I" } : Jvm.MethodName)) ∈ lw_G := lw_Gm (lw_t3 (List.mem_of_getElem? (i := 135) rfl)) rfl
theorem m3_137 : (Jvm.Cond.instanceMethod ({ cls := "LastCalled", name := "placesTurningAt", desc := "(II)I" } : Jvm.MethodName)) ∈ lw_G := lw_Gm (lw_t3 (List.mem_of_getElem? (i := 137) rfl)) rfl
theorem m3_138 : (Jvm.Cond.code ({ cls := "LastCalled", name := "placesTurningAt", desc := "(II)I" } : Jvm.MethodName) prog_1_method_47_code (5 : Nat) (Option.some Jvm.ClassFile.FieldType.int)) ∈ lw_G := lw_Gm (lw_t3 (List.mem_of_getElem? (i := 138) rfl)) rfl
theorem m3_139 : (Jvm.Cond.methodLink "LastCalled" (200 : Nat) ({ cls := "java/lang/Math", name := "max", desc := "(II)I" } : Jvm.MethodName)) ∈ lw_G := lw_Gm (lw_t3 (List.mem_of_getElem? (i := 139) rfl)) rfl
theorem m3_140 : (Jvm.Cond.static ({ cls := "java/lang/Math", name := "max", desc := "(II)I" } : Jvm.MethodName)) ∈ lw_G := lw_Gm (lw_t3 (List.mem_of_getElem? (i := 140) rfl)) rfl
theorem m3_141 : (Jvm.Cond.code ({ cls := "java/lang/Math", name := "max", desc := "(II)I" } : Jvm.MethodName) prog_16_method_65_code (2 : Nat) (Option.some Jvm.ClassFile.FieldType.int)) ∈ lw_G := lw_Gm (lw_t3 (List.mem_of_getElem? (i := 141) rfl)) rfl
theorem m3_142 : (Jvm.Cond.methodLink "LastCalledLaw" (119 : Nat) ({ cls := "LastCalled", name := "trippers", desc := "(IIII)I" } : Jvm.MethodName)) ∈ lw_G := lw_Gm (lw_t3 (List.mem_of_getElem? (i := 142) rfl)) rfl
theorem m3_143 : (Jvm.Cond.instanceMethod ({ cls := "LastCalled", name := "trippers", desc := "(IIII)I" } : Jvm.MethodName)) ∈ lw_G := lw_Gm (lw_t3 (List.mem_of_getElem? (i := 143) rfl)) rfl
theorem m3_144 : (Jvm.Cond.selects "LastCalled" ({ cls := "LastCalled", name := "trippers", desc := "(IIII)I" } : Jvm.MethodName) ({ cls := "LastCalled", name := "trippers", desc := "(IIII)I" } : Jvm.MethodName)) ∈ lw_G := lw_Gm (lw_t3 (List.mem_of_getElem? (i := 144) rfl)) rfl
theorem m3_145 : (Jvm.Cond.code ({ cls := "LastCalled", name := "trippers", desc := "(IIII)I" } : Jvm.MethodName) prog_1_method_27_code (12 : Nat) (Option.some Jvm.ClassFile.FieldType.int)) ∈ lw_G := lw_Gm (lw_t3 (List.mem_of_getElem? (i := 145) rfl)) rfl
theorem m3_146 : (Jvm.Cond.constantLong "LastCalled" (205 : Nat) (10 : Int64)) ∈ lw_G := lw_Gm (lw_t3 (List.mem_of_getElem? (i := 146) rfl)) rfl
theorem m3_147 : (Jvm.Cond.methodLink "LastCalledLaw" (123 : Nat) ({ cls := "LastCalled", name := "weeks", desc := "(II)I" } : Jvm.MethodName)) ∈ lw_G := lw_Gm (lw_t3 (List.mem_of_getElem? (i := 147) rfl)) rfl
theorem m3_148 : (Jvm.Cond.instanceMethod ({ cls := "LastCalled", name := "weeks", desc := "(II)I" } : Jvm.MethodName)) ∈ lw_G := lw_Gm (lw_t3 (List.mem_of_getElem? (i := 148) rfl)) rfl
theorem m3_149 : (Jvm.Cond.selects "LastCalled" ({ cls := "LastCalled", name := "weeks", desc := "(II)I" } : Jvm.MethodName) ({ cls := "LastCalled", name := "weeks", desc := "(II)I" } : Jvm.MethodName)) ∈ lw_G := lw_Gm (lw_t3 (List.mem_of_getElem? (i := 149) rfl)) rfl
theorem m3_150 : (Jvm.Cond.code ({ cls := "LastCalled", name := "weeks", desc := "(II)I" } : Jvm.MethodName) prog_1_method_28_code (3 : Nat) (Option.some Jvm.ClassFile.FieldType.int)) ∈ lw_G := lw_Gm (lw_t3 (List.mem_of_getElem? (i := 150) rfl)) rfl
theorem m3_151 : (Jvm.Cond.constant "LastCalled" (207 : Nat) (1000000 : Int32)) ∈ lw_G := lw_Gm (lw_t3 (List.mem_of_getElem? (i := 151) rfl)) rfl
theorem m3_152 : (Jvm.Cond.methodLink "LastCalled" (208 : Nat) ({ cls := "LastCalled$Search", name := "ownersBehindWeeks", desc := "(LLastCalled$Hamlet;LLastCalled$Hearing;II)I" } : Jvm.MethodName)) ∈ lw_G := lw_Gm (lw_t3 (List.mem_of_getElem? (i := 152) rfl)) rfl
theorem m3_153 : (Jvm.Cond.instanceMethod ({ cls := "LastCalled$Search", name := "ownersBehindWeeks", desc := "(LLastCalled$Hamlet;LLastCalled$Hearing;II)I" } : Jvm.MethodName)) ∈ lw_G := lw_Gm (lw_t3 (List.mem_of_getElem? (i := 153) rfl)) rfl
theorem m3_154 : (Jvm.Cond.selects "LastCalled$Search" ({ cls := "LastCalled$Search", name := "ownersBehindWeeks", desc := "(LLastCalled$Hamlet;LLastCalled$Hearing;II)I" } : Jvm.MethodName) ({ cls := "LastCalled$Search", name := "ownersBehindWeeks", desc := "(LLastCalled$Hamlet;LLastCalled$Hearing;II)I" } : Jvm.MethodName)) ∈ lw_G := lw_Gm (lw_t3 (List.mem_of_getElem? (i := 154) rfl)) rfl
theorem m3_155 : (Jvm.Cond.code ({ cls := "LastCalled$Search", name := "ownersBehindWeeks", desc := "(LLastCalled$Hamlet;LLastCalled$Hearing;II)I" } : Jvm.MethodName) prog_10_method_8_code (10 : Nat) (Option.some Jvm.ClassFile.FieldType.int)) ∈ lw_G := lw_Gm (lw_t3 (List.mem_of_getElem? (i := 155) rfl)) rfl
theorem m3_156 : (Jvm.Cond.constantLong "LastCalled$Search" (82 : Nat) (1103515245 : Int64)) ∈ lw_G := lw_Gm (lw_t3 (List.mem_of_getElem? (i := 156) rfl)) rfl
theorem m3_157 : (Jvm.Cond.constantLong "LastCalled$Search" (84 : Nat) (12345 : Int64)) ∈ lw_G := lw_Gm (lw_t3 (List.mem_of_getElem? (i := 157) rfl)) rfl
theorem m3_158 : (Jvm.Cond.constantLong "LastCalled$Search" (86 : Nat) (2147483648 : Int64)) ∈ lw_G := lw_Gm (lw_t3 (List.mem_of_getElem? (i := 158) rfl)) rfl
theorem m3_159 : (Jvm.Cond.constantLong "LastCalled$Search" (88 : Nat) (65536 : Int64)) ∈ lw_G := lw_Gm (lw_t3 (List.mem_of_getElem? (i := 159) rfl)) rfl
theorem m3_160 : (Jvm.Cond.constantLong "LastCalled$Search" (90 : Nat) (1048576 : Int64)) ∈ lw_G := lw_Gm (lw_t3 (List.mem_of_getElem? (i := 160) rfl)) rfl
theorem m3_161 : (Jvm.Cond.constantLong "LastCalled$Search" (92 : Nat) (10 : Int64)) ∈ lw_G := lw_Gm (lw_t3 (List.mem_of_getElem? (i := 161) rfl)) rfl
theorem m3_162 : (Jvm.Cond.methodLink "LastCalledLaw" (127 : Nat) ({ cls := "LastCalled", name := "part", desc := "(I)J" } : Jvm.MethodName)) ∈ lw_G := lw_Gm (lw_t3 (List.mem_of_getElem? (i := 162) rfl)) rfl
theorem m3_163 : (Jvm.Cond.instanceMethod ({ cls := "LastCalled", name := "part", desc := "(I)J" } : Jvm.MethodName)) ∈ lw_G := lw_Gm (lw_t3 (List.mem_of_getElem? (i := 163) rfl)) rfl
theorem m3_164 : (Jvm.Cond.selects "LastCalled" ({ cls := "LastCalled", name := "part", desc := "(I)J" } : Jvm.MethodName) ({ cls := "LastCalled", name := "part", desc := "(I)J" } : Jvm.MethodName)) ∈ lw_G := lw_Gm (lw_t3 (List.mem_of_getElem? (i := 164) rfl)) rfl
theorem m3_165 : (Jvm.Cond.code ({ cls := "LastCalled", name := "part", desc := "(I)J" } : Jvm.MethodName) prog_1_method_29_code (2 : Nat) (Option.some Jvm.ClassFile.FieldType.long)) ∈ lw_G := lw_Gm (lw_t3 (List.mem_of_getElem? (i := 165) rfl)) rfl
theorem m3_166 : (Jvm.Cond.methodLink "LastCalledLaw" (132 : Nat) ({ cls := "LastCalled", name := "image", desc := "(I)I" } : Jvm.MethodName)) ∈ lw_G := lw_Gm (lw_t3 (List.mem_of_getElem? (i := 166) rfl)) rfl
theorem m3_167 : (Jvm.Cond.instanceMethod ({ cls := "LastCalled", name := "image", desc := "(I)I" } : Jvm.MethodName)) ∈ lw_G := lw_Gm (lw_t3 (List.mem_of_getElem? (i := 167) rfl)) rfl
theorem m3_168 : (Jvm.Cond.selects "LastCalled" ({ cls := "LastCalled", name := "image", desc := "(I)I" } : Jvm.MethodName) ({ cls := "LastCalled", name := "image", desc := "(I)I" } : Jvm.MethodName)) ∈ lw_G := lw_Gm (lw_t3 (List.mem_of_getElem? (i := 168) rfl)) rfl
theorem m3_169 : (Jvm.Cond.code ({ cls := "LastCalled", name := "image", desc := "(I)I" } : Jvm.MethodName) prog_1_method_30_code (2 : Nat) (Option.some Jvm.ClassFile.FieldType.int)) ∈ lw_G := lw_Gm (lw_t3 (List.mem_of_getElem? (i := 169) rfl)) rfl
theorem m3_170 : (Jvm.Cond.methodLink "LastCalledLaw" (136 : Nat) ({ cls := "LastCalled", name := "from", desc := "(I)I" } : Jvm.MethodName)) ∈ lw_G := lw_Gm (lw_t3 (List.mem_of_getElem? (i := 170) rfl)) rfl
theorem m3_171 : (Jvm.Cond.instanceMethod ({ cls := "LastCalled", name := "from", desc := "(I)I" } : Jvm.MethodName)) ∈ lw_G := lw_Gm (lw_t3 (List.mem_of_getElem? (i := 171) rfl)) rfl
theorem m3_172 : (Jvm.Cond.selects "LastCalled" ({ cls := "LastCalled", name := "from", desc := "(I)I" } : Jvm.MethodName) ({ cls := "LastCalled", name := "from", desc := "(I)I" } : Jvm.MethodName)) ∈ lw_G := lw_Gm (lw_t3 (List.mem_of_getElem? (i := 172) rfl)) rfl
theorem m3_173 : (Jvm.Cond.code ({ cls := "LastCalled", name := "from", desc := "(I)I" } : Jvm.MethodName) prog_1_method_31_code (2 : Nat) (Option.some Jvm.ClassFile.FieldType.int)) ∈ lw_G := lw_Gm (lw_t3 (List.mem_of_getElem? (i := 173) rfl)) rfl
theorem m3_174 : (Jvm.Cond.methodLink "LastCalledLaw" (140 : Nat) ({ cls := "LastCalled", name := "status", desc := "(I)I" } : Jvm.MethodName)) ∈ lw_G := lw_Gm (lw_t3 (List.mem_of_getElem? (i := 174) rfl)) rfl
theorem m3_175 : (Jvm.Cond.instanceMethod ({ cls := "LastCalled", name := "status", desc := "(I)I" } : Jvm.MethodName)) ∈ lw_G := lw_Gm (lw_t3 (List.mem_of_getElem? (i := 175) rfl)) rfl
theorem m3_176 : (Jvm.Cond.selects "LastCalled" ({ cls := "LastCalled", name := "status", desc := "(I)I" } : Jvm.MethodName) ({ cls := "LastCalled", name := "status", desc := "(I)I" } : Jvm.MethodName)) ∈ lw_G := lw_Gm (lw_t3 (List.mem_of_getElem? (i := 176) rfl)) rfl
theorem m3_177 : (Jvm.Cond.code ({ cls := "LastCalled", name := "status", desc := "(I)I" } : Jvm.MethodName) prog_1_method_32_code (2 : Nat) (Option.some Jvm.ClassFile.FieldType.int)) ∈ lw_G := lw_Gm (lw_t3 (List.mem_of_getElem? (i := 177) rfl)) rfl
theorem m3_178 : (Jvm.Cond.methodLink "LastCalledLaw" (144 : Nat) ({ cls := "LastCalled", name := "count", desc := "(I)I" } : Jvm.MethodName)) ∈ lw_G := lw_Gm (lw_t3 (List.mem_of_getElem? (i := 178) rfl)) rfl
theorem m3_179 : (Jvm.Cond.instanceMethod ({ cls := "LastCalled", name := "count", desc := "(I)I" } : Jvm.MethodName)) ∈ lw_G := lw_Gm (lw_t3 (List.mem_of_getElem? (i := 179) rfl)) rfl
theorem m3_180 : (Jvm.Cond.selects "LastCalled" ({ cls := "LastCalled", name := "count", desc := "(I)I" } : Jvm.MethodName) ({ cls := "LastCalled", name := "count", desc := "(I)I" } : Jvm.MethodName)) ∈ lw_G := lw_Gm (lw_t3 (List.mem_of_getElem? (i := 180) rfl)) rfl
theorem m3_181 : (Jvm.Cond.code ({ cls := "LastCalled", name := "count", desc := "(I)I" } : Jvm.MethodName) prog_1_method_33_code (2 : Nat) (Option.some Jvm.ClassFile.FieldType.int)) ∈ lw_G := lw_Gm (lw_t3 (List.mem_of_getElem? (i := 181) rfl)) rfl
theorem m3_182 : (Jvm.Cond.methodLink "LastCalled" (219 : Nat) ({ cls := "LastCalled", name := "amount", desc := "(I)I" } : Jvm.MethodName)) ∈ lw_G := lw_Gm (lw_t3 (List.mem_of_getElem? (i := 182) rfl)) rfl
theorem m3_184 : (Jvm.Cond.instanceMethod ({ cls := "LastCalled", name := "amount", desc := "(I)I" } : Jvm.MethodName)) ∈ lw_G := lw_Gm (lw_t3 (List.mem_of_getElem? (i := 184) rfl)) rfl
theorem m3_185 : (Jvm.Cond.code ({ cls := "LastCalled", name := "amount", desc := "(I)I" } : Jvm.MethodName) prog_1_method_39_code (2 : Nat) (Option.some Jvm.ClassFile.FieldType.int)) ∈ lw_G := lw_Gm (lw_t3 (List.mem_of_getElem? (i := 185) rfl)) rfl
theorem m3_186 : (Jvm.Cond.methodLink "LastCalled" (230 : Nat) ({ cls := "LastCalled", name := "owners", desc := "([I)I" } : Jvm.MethodName)) ∈ lw_G := lw_Gm (lw_t3 (List.mem_of_getElem? (i := 186) rfl)) rfl
theorem m3_187 : (Jvm.Cond.methodLink "LastCalledLaw" (148 : Nat) ({ cls := "LastCalled", name := "digest", desc := "()J" } : Jvm.MethodName)) ∈ lw_G := lw_Gm (lw_t3 (List.mem_of_getElem? (i := 187) rfl)) rfl
theorem m3_188 : (Jvm.Cond.instanceMethod ({ cls := "LastCalled", name := "digest", desc := "()J" } : Jvm.MethodName)) ∈ lw_G := lw_Gm (lw_t3 (List.mem_of_getElem? (i := 188) rfl)) rfl
theorem m3_189 : (Jvm.Cond.selects "LastCalled" ({ cls := "LastCalled", name := "digest", desc := "()J" } : Jvm.MethodName) ({ cls := "LastCalled", name := "digest", desc := "()J" } : Jvm.MethodName)) ∈ lw_G := lw_Gm (lw_t3 (List.mem_of_getElem? (i := 189) rfl)) rfl
theorem m3_190 : (Jvm.Cond.code ({ cls := "LastCalled", name := "digest", desc := "()J" } : Jvm.MethodName) prog_1_method_34_code (4 : Nat) (Option.some Jvm.ClassFile.FieldType.long)) ∈ lw_G := lw_Gm (lw_t3 (List.mem_of_getElem? (i := 190) rfl)) rfl
theorem m3_191 : (Jvm.Cond.constantLong "LastCalled" (222 : Nat) (1201 : Int64)) ∈ lw_G := lw_Gm (lw_t3 (List.mem_of_getElem? (i := 191) rfl)) rfl
theorem m3_192 : (Jvm.Cond.constantLong "LastCalled" (224 : Nat) (31 : Int64)) ∈ lw_G := lw_Gm (lw_t3 (List.mem_of_getElem? (i := 192) rfl)) rfl
theorem m3_193 : (Jvm.Cond.methodLink "LastCalled" (226 : Nat) ({ cls := "LastCalled$Hamlet", name := "mixInto", desc := "(J)J" } : Jvm.MethodName)) ∈ lw_G := lw_Gm (lw_t3 (List.mem_of_getElem? (i := 193) rfl)) rfl
theorem m3_194 : (Jvm.Cond.instanceMethod ({ cls := "LastCalled$Hamlet", name := "mixInto", desc := "(J)J" } : Jvm.MethodName)) ∈ lw_G := lw_Gm (lw_t3 (List.mem_of_getElem? (i := 194) rfl)) rfl
theorem m3_195 : (Jvm.Cond.selects "LastCalled$Hamlet" ({ cls := "LastCalled$Hamlet", name := "mixInto", desc := "(J)J" } : Jvm.MethodName) ({ cls := "LastCalled$Hamlet", name := "mixInto", desc := "(J)J" } : Jvm.MethodName)) ∈ lw_G := lw_Gm (lw_t3 (List.mem_of_getElem? (i := 195) rfl)) rfl
theorem m3_196 : (Jvm.Cond.code ({ cls := "LastCalled$Hamlet", name := "mixInto", desc := "(J)J" } : Jvm.MethodName) prog_7_method_11_code (6 : Nat) (Option.some Jvm.ClassFile.FieldType.long)) ∈ lw_G := lw_Gm (lw_t3 (List.mem_of_getElem? (i := 196) rfl)) rfl
theorem m3_197 : (Jvm.Cond.constantLong "LastCalled$Hamlet" (69 : Nat) (31 : Int64)) ∈ lw_G := lw_Gm (lw_t3 (List.mem_of_getElem? (i := 197) rfl)) rfl
theorem m3_198 : (Jvm.Cond.methodLink "LastCalled$Hamlet" (71 : Nat) ({ cls := "LastCalled$Hamlet", name := "nameOf", desc := "(I)I" } : Jvm.MethodName)) ∈ lw_G := lw_Gm (lw_t3 (List.mem_of_getElem? (i := 198) rfl)) rfl
theorem m3_199 : (Jvm.Cond.classLink "LastCalledLaw" (10 : Nat) "LastCalledModel") ∈ lw_G := lw_Gm (lw_t3 (List.mem_of_getElem? (i := 199) rfl)) rfl
theorem m3_200 : (Jvm.Cond.instantiable "LastCalledModel" (19 : Nat)) ∈ lw_G := lw_Gm (lw_t3 (List.mem_of_getElem? (i := 200) rfl)) rfl
theorem m3_201 : (Jvm.Cond.methodLink "LastCalledLaw" (12 : Nat) ({ cls := "LastCalledModel", name := "<init>", desc := "()V" } : Jvm.MethodName)) ∈ lw_G := lw_Gm (lw_t3 (List.mem_of_getElem? (i := 201) rfl)) rfl
theorem m3_202 : (Jvm.Cond.instanceMethod ({ cls := "LastCalledModel", name := "<init>", desc := "()V" } : Jvm.MethodName)) ∈ lw_G := lw_Gm (lw_t3 (List.mem_of_getElem? (i := 202) rfl)) rfl
theorem m3_203 : (Jvm.Cond.code ({ cls := "LastCalledModel", name := "<init>", desc := "()V" } : Jvm.MethodName) prog_14_method_1_code (1 : Nat) (Option.none : Option Jvm.ClassFile.FieldType)) ∈ lw_G := lw_Gm (lw_t3 (List.mem_of_getElem? (i := 203) rfl)) rfl
theorem m3_204 : (Jvm.Cond.methodLink "LastCalledModel" (1 : Nat) ({ cls := "java/lang/Object", name := "<init>", desc := "()V" } : Jvm.MethodName)) ∈ lw_G := lw_Gm (lw_t3 (List.mem_of_getElem? (i := 204) rfl)) rfl
theorem m3_205 : (Jvm.Cond.methodLink "LastCalledModel" (42 : Nat) ({ cls := "LastCalledModel", name := "begin", desc := "([II)V" } : Jvm.MethodName)) ∈ lw_G := lw_Gm (lw_t3 (List.mem_of_getElem? (i := 205) rfl)) rfl
theorem m3_206 : (Jvm.Cond.static ({ cls := "LastCalledModel", name := "begin", desc := "([II)V" } : Jvm.MethodName)) ∈ lw_G := lw_Gm (lw_t3 (List.mem_of_getElem? (i := 206) rfl)) rfl
theorem m3_207 : (Jvm.Cond.code ({ cls := "LastCalledModel", name := "begin", desc := "([II)V" } : Jvm.MethodName) prog_14_method_9_code (3 : Nat) (Option.none : Option Jvm.ClassFile.FieldType)) ∈ lw_G := lw_Gm (lw_t3 (List.mem_of_getElem? (i := 207) rfl)) rfl
theorem m3_208 : (Jvm.Cond.fieldLink "LastCalledModel" (7 : Nat) "LastCalledModel" "now" "[I") ∈ lw_G := lw_Gm (lw_t3 (List.mem_of_getElem? (i := 208) rfl)) rfl
theorem m3_209 : (Jvm.Cond.fieldLink "LastCalledModel" (13 : Nat) "LastCalledModel" "kept" "[I") ∈ lw_G := lw_Gm (lw_t3 (List.mem_of_getElem? (i := 209) rfl)) rfl
theorem m3_210 : (Jvm.Cond.fieldLink "LastCalledModel" (16 : Nat) "LastCalledModel" "isKept" "[Z") ∈ lw_G := lw_Gm (lw_t3 (List.mem_of_getElem? (i := 210) rfl)) rfl
theorem m3_211 : (Jvm.Cond.fieldLink "LastCalledModel" (20 : Nat) "LastCalledModel" "refused" "[I") ∈ lw_G := lw_Gm (lw_t3 (List.mem_of_getElem? (i := 211) rfl)) rfl
theorem m3_212 : (Jvm.Cond.fieldLink "LastCalledModel" (144 : Nat) "LastCalledModel" "above" "J") ∈ lw_G := lw_Gm (lw_t3 (List.mem_of_getElem? (i := 212) rfl)) rfl
theorem m3_213 : (Jvm.Cond.fieldLink "LastCalledModel" (23 : Nat) "LastCalledModel" "below" "J") ∈ lw_G := lw_Gm (lw_t3 (List.mem_of_getElem? (i := 213) rfl)) rfl
theorem m3_214 : (Jvm.Cond.fieldLink "LastCalledModel" (27 : Nat) "LastCalledModel" "named" "[I") ∈ lw_G := lw_Gm (lw_t3 (List.mem_of_getElem? (i := 214) rfl)) rfl
theorem m3_215 : (Jvm.Cond.fieldLink "LastCalledModel" (120 : Nat) "LastCalledModel" "fewest" "I") ∈ lw_G := lw_Gm (lw_t3 (List.mem_of_getElem? (i := 215) rfl)) rfl
theorem m3_216 : (Jvm.Cond.fieldLink "LastCalledModel" (124 : Nat) "LastCalledModel" "firstCall" "I") ∈ lw_G := lw_Gm (lw_t3 (List.mem_of_getElem? (i := 216) rfl)) rfl
theorem m3_217 : (Jvm.Cond.fieldLink "LastCalledModel" (133 : Nat) "LastCalledModel" "mostOwn" "I") ∈ lw_G := lw_Gm (lw_t3 (List.mem_of_getElem? (i := 217) rfl)) rfl
theorem m3_218 : (Jvm.Cond.fieldLink "LastCalledModel" (30 : Nat) "LastCalledModel" "bearing" "[I") ∈ lw_G := lw_Gm (lw_t3 (List.mem_of_getElem? (i := 218) rfl)) rfl
theorem m3_219 : (Jvm.Cond.fieldLink "LastCalledModel" (33 : Nat) "LastCalledModel" "bytes" "[I") ∈ lw_G := lw_Gm (lw_t3 (List.mem_of_getElem? (i := 219) rfl)) rfl
theorem m3_220 : (Jvm.Cond.fieldLink "LastCalledModel" (178 : Nat) "LastCalledModel" "bytesLong" "I") ∈ lw_G := lw_Gm (lw_t3 (List.mem_of_getElem? (i := 220) rfl)) rfl
theorem m3_221 : (Jvm.Cond.fieldLink "LastCalledModel" (189 : Nat) "LastCalledModel" "tokenAt" "I") ∈ lw_G := lw_Gm (lw_t3 (List.mem_of_getElem? (i := 221) rfl)) rfl
theorem m3_222 : (Jvm.Cond.fieldLink "LastCalledModel" (192 : Nat) "LastCalledModel" "tokenLong" "I") ∈ lw_G := lw_Gm (lw_t3 (List.mem_of_getElem? (i := 222) rfl)) rfl
theorem m3_223 : (Jvm.Cond.fieldLink "LastCalledModel" (195 : Nat) "LastCalledModel" "token" "I") ∈ lw_G := lw_Gm (lw_t3 (List.mem_of_getElem? (i := 223) rfl)) rfl
theorem m3_224 : (Jvm.Cond.fieldLink "LastCalledModel" (198 : Nat) "LastCalledModel" "value" "I") ∈ lw_G := lw_Gm (lw_t3 (List.mem_of_getElem? (i := 224) rfl)) rfl
theorem m3_225 : (Jvm.Cond.fieldLink "LastCalledModel" (36 : Nat) "LastCalledModel" "anew" "[I") ∈ lw_G := lw_Gm (lw_t3 (List.mem_of_getElem? (i := 225) rfl)) rfl
theorem m3_226 : (Jvm.Cond.fieldLink "LastCalledModel" (39 : Nat) "LastCalledModel" "values" "[I") ∈ lw_G := lw_Gm (lw_t3 (List.mem_of_getElem? (i := 226) rfl)) rfl
theorem m3_227 : (Jvm.Cond.laysFinal "LastCalledModel" "LastCalledModel" "now" "[I") ∈ lw_G := lw_Gm (lw_t3 (List.mem_of_getElem? (i := 227) rfl)) rfl
theorem m3_229 : (Jvm.Cond.laysFinal "LastCalledModel" "LastCalledModel" "kept" "[I") ∈ lw_G := lw_Gm (lw_t3 (List.mem_of_getElem? (i := 229) rfl)) rfl
theorem m3_231 : (Jvm.Cond.laysFinal "LastCalledModel" "LastCalledModel" "isKept" "[Z") ∈ lw_G := lw_Gm (lw_t3 (List.mem_of_getElem? (i := 231) rfl)) rfl
theorem m3_233 : (Jvm.Cond.laysFinal "LastCalledModel" "LastCalledModel" "refused" "[I") ∈ lw_G := lw_Gm (lw_t3 (List.mem_of_getElem? (i := 233) rfl)) rfl
theorem m3_235 : (Jvm.Cond.lays "LastCalledModel" "LastCalledModel" "above" "J") ∈ lw_G := lw_Gm (lw_t3 (List.mem_of_getElem? (i := 235) rfl)) rfl
theorem m3_237 : (Jvm.Cond.lays "LastCalledModel" "LastCalledModel" "below" "J") ∈ lw_G := lw_Gm (lw_t3 (List.mem_of_getElem? (i := 237) rfl)) rfl
theorem m3_239 : (Jvm.Cond.laysFinal "LastCalledModel" "LastCalledModel" "named" "[I") ∈ lw_G := lw_Gm (lw_t3 (List.mem_of_getElem? (i := 239) rfl)) rfl
theorem m4_1 : (Jvm.Cond.lays "LastCalledModel" "LastCalledModel" "fewest" "I") ∈ lw_G := lw_Gm (lw_t4 (List.mem_of_getElem? (i := 1) rfl)) rfl
theorem m4_3 : (Jvm.Cond.lays "LastCalledModel" "LastCalledModel" "firstCall" "I") ∈ lw_G := lw_Gm (lw_t4 (List.mem_of_getElem? (i := 3) rfl)) rfl
theorem m4_5 : (Jvm.Cond.lays "LastCalledModel" "LastCalledModel" "mostOwn" "I") ∈ lw_G := lw_Gm (lw_t4 (List.mem_of_getElem? (i := 5) rfl)) rfl
theorem m4_7 : (Jvm.Cond.laysFinal "LastCalledModel" "LastCalledModel" "bearing" "[I") ∈ lw_G := lw_Gm (lw_t4 (List.mem_of_getElem? (i := 7) rfl)) rfl
theorem m4_9 : (Jvm.Cond.laysFinal "LastCalledModel" "LastCalledModel" "bytes" "[I") ∈ lw_G := lw_Gm (lw_t4 (List.mem_of_getElem? (i := 9) rfl)) rfl
theorem m4_11 : (Jvm.Cond.lays "LastCalledModel" "LastCalledModel" "bytesLong" "I") ∈ lw_G := lw_Gm (lw_t4 (List.mem_of_getElem? (i := 11) rfl)) rfl
theorem m4_13 : (Jvm.Cond.lays "LastCalledModel" "LastCalledModel" "tokenAt" "I") ∈ lw_G := lw_Gm (lw_t4 (List.mem_of_getElem? (i := 13) rfl)) rfl
theorem m4_15 : (Jvm.Cond.lays "LastCalledModel" "LastCalledModel" "tokenLong" "I") ∈ lw_G := lw_Gm (lw_t4 (List.mem_of_getElem? (i := 15) rfl)) rfl
theorem m4_17 : (Jvm.Cond.lays "LastCalledModel" "LastCalledModel" "token" "I") ∈ lw_G := lw_Gm (lw_t4 (List.mem_of_getElem? (i := 17) rfl)) rfl
theorem m4_19 : (Jvm.Cond.lays "LastCalledModel" "LastCalledModel" "value" "I") ∈ lw_G := lw_Gm (lw_t4 (List.mem_of_getElem? (i := 19) rfl)) rfl
theorem m4_21 : (Jvm.Cond.laysFinal "LastCalledModel" "LastCalledModel" "anew" "[I") ∈ lw_G := lw_Gm (lw_t4 (List.mem_of_getElem? (i := 21) rfl)) rfl
theorem m4_23 : (Jvm.Cond.laysFinal "LastCalledModel" "LastCalledModel" "values" "[I") ∈ lw_G := lw_Gm (lw_t4 (List.mem_of_getElem? (i := 23) rfl)) rfl
theorem m4_25 : (Jvm.Cond.superclass "LastCalledModel" "java/lang/Object") ∈ lw_G := lw_Gm (lw_t4 (List.mem_of_getElem? (i := 25) rfl)) rfl
theorem m4_26 : (Jvm.Cond.methodLink "LastCalledLaw" (17 : Nat) ({ cls := "LastCalledModel", name := "hamlet", desc := "(I)I" } : Jvm.MethodName)) ∈ lw_G := lw_Gm (lw_t4 (List.mem_of_getElem? (i := 26) rfl)) rfl
theorem m4_27 : (Jvm.Cond.instanceMethod ({ cls := "LastCalledModel", name := "hamlet", desc := "(I)I" } : Jvm.MethodName)) ∈ lw_G := lw_Gm (lw_t4 (List.mem_of_getElem? (i := 27) rfl)) rfl
theorem m4_28 : (Jvm.Cond.selects "LastCalledModel" ({ cls := "LastCalledModel", name := "hamlet", desc := "(I)I" } : Jvm.MethodName) ({ cls := "LastCalledModel", name := "hamlet", desc := "(I)I" } : Jvm.MethodName)) ∈ lw_G := lw_Gm (lw_t4 (List.mem_of_getElem? (i := 28) rfl)) rfl
theorem m4_29 : (Jvm.Cond.code ({ cls := "LastCalledModel", name := "hamlet", desc := "(I)I" } : Jvm.MethodName) prog_14_method_13_code (3 : Nat) (Option.some Jvm.ClassFile.FieldType.int)) ∈ lw_G := lw_Gm (lw_t4 (List.mem_of_getElem? (i := 29) rfl)) rfl
theorem m4_30 : (Jvm.Cond.constantLong "LastCalledModel" (56 : Nat) (99 : Int64)) ∈ lw_G := lw_Gm (lw_t4 (List.mem_of_getElem? (i := 30) rfl)) rfl
theorem m4_31 : (Jvm.Cond.methodLink "LastCalledModel" (50 : Nat) ({ cls := "LastCalledModel", name := "in", desc := "(JJJ)Z" } : Jvm.MethodName)) ∈ lw_G := lw_Gm (lw_t4 (List.mem_of_getElem? (i := 31) rfl)) rfl
theorem m4_32 : (Jvm.Cond.static ({ cls := "LastCalledModel", name := "in", desc := "(JJJ)Z" } : Jvm.MethodName)) ∈ lw_G := lw_Gm (lw_t4 (List.mem_of_getElem? (i := 32) rfl)) rfl
theorem m4_33 : (Jvm.Cond.code ({ cls := "LastCalledModel", name := "in", desc := "(JJJ)Z" } : Jvm.MethodName) prog_14_method_3_code (6 : Nat) (Option.some Jvm.ClassFile.FieldType.boolean)) ∈ lw_G := lw_Gm (lw_t4 (List.mem_of_getElem? (i := 33) rfl)) rfl
theorem m4_34 : (Jvm.Cond.methodLink "LastCalledModel" (58 : Nat) ({ cls := "LastCalledModel", name := "bad", desc := "(I)I" } : Jvm.MethodName)) ∈ lw_G := lw_Gm (lw_t4 (List.mem_of_getElem? (i := 34) rfl)) rfl
theorem m4_36 : (Jvm.Cond.instanceMethod ({ cls := "LastCalledModel", name := "bad", desc := "(I)I" } : Jvm.MethodName)) ∈ lw_G := lw_Gm (lw_t4 (List.mem_of_getElem? (i := 36) rfl)) rfl
theorem m4_37 : (Jvm.Cond.code ({ cls := "LastCalledModel", name := "bad", desc := "(I)I" } : Jvm.MethodName) prog_14_method_4_code (2 : Nat) (Option.some Jvm.ClassFile.FieldType.int)) ∈ lw_G := lw_Gm (lw_t4 (List.mem_of_getElem? (i := 37) rfl)) rfl
theorem m4_38 : (Jvm.Cond.methodLink "LastCalledModel" (46 : Nat) ({ cls := "LastCalledModel", name := "many", desc := "()I" } : Jvm.MethodName)) ∈ lw_G := lw_Gm (lw_t4 (List.mem_of_getElem? (i := 38) rfl)) rfl
theorem m4_40 : (Jvm.Cond.instanceMethod ({ cls := "LastCalledModel", name := "many", desc := "()I" } : Jvm.MethodName)) ∈ lw_G := lw_Gm (lw_t4 (List.mem_of_getElem? (i := 40) rfl)) rfl
theorem m4_41 : (Jvm.Cond.code ({ cls := "LastCalledModel", name := "many", desc := "()I" } : Jvm.MethodName) prog_14_method_10_code (1 : Nat) (Option.some Jvm.ClassFile.FieldType.int)) ∈ lw_G := lw_Gm (lw_t4 (List.mem_of_getElem? (i := 41) rfl)) rfl
theorem m4_42 : (Jvm.Cond.methodLink "LastCalledLaw" (22 : Nat) ({ cls := "LastCalledModel", name := "one", desc := "(II)I" } : Jvm.MethodName)) ∈ lw_G := lw_Gm (lw_t4 (List.mem_of_getElem? (i := 42) rfl)) rfl
theorem m4_43 : (Jvm.Cond.instanceMethod ({ cls := "LastCalledModel", name := "one", desc := "(II)I" } : Jvm.MethodName)) ∈ lw_G := lw_Gm (lw_t4 (List.mem_of_getElem? (i := 43) rfl)) rfl
theorem m4_44 : (Jvm.Cond.selects "LastCalledModel" ({ cls := "LastCalledModel", name := "one", desc := "(II)I" } : Jvm.MethodName) ({ cls := "LastCalledModel", name := "one", desc := "(II)I" } : Jvm.MethodName)) ∈ lw_G := lw_Gm (lw_t4 (List.mem_of_getElem? (i := 44) rfl)) rfl
theorem m4_45 : (Jvm.Cond.code ({ cls := "LastCalledModel", name := "one", desc := "(II)I" } : Jvm.MethodName) prog_14_method_15_code (3 : Nat) (Option.some Jvm.ClassFile.FieldType.int)) ∈ lw_G := lw_Gm (lw_t4 (List.mem_of_getElem? (i := 45) rfl)) rfl
theorem m4_46 : (Jvm.Cond.constantLong "LastCalledModel" (62 : Nat) (5 : Int64)) ∈ lw_G := lw_Gm (lw_t4 (List.mem_of_getElem? (i := 46) rfl)) rfl
theorem m4_47 : (Jvm.Cond.methodLink "LastCalledModel" (64 : Nat) ({ cls := "LastCalledModel", name := "isPlace", desc := "(I)Z" } : Jvm.MethodName)) ∈ lw_G := lw_Gm (lw_t4 (List.mem_of_getElem? (i := 47) rfl)) rfl
theorem m4_48 : (Jvm.Cond.static ({ cls := "LastCalledModel", name := "isPlace", desc := "(I)Z" } : Jvm.MethodName)) ∈ lw_G := lw_Gm (lw_t4 (List.mem_of_getElem? (i := 48) rfl)) rfl
theorem m4_49 : (Jvm.Cond.code ({ cls := "LastCalledModel", name := "isPlace", desc := "(I)Z" } : Jvm.MethodName) prog_14_method_12_code (1 : Nat) (Option.some Jvm.ClassFile.FieldType.boolean)) ∈ lw_G := lw_Gm (lw_t4 (List.mem_of_getElem? (i := 49) rfl)) rfl
theorem m4_50 : (Jvm.Cond.constantLong "LastCalledModel" (54 : Nat) (9 : Int64)) ∈ lw_G := lw_Gm (lw_t4 (List.mem_of_getElem? (i := 50) rfl)) rfl
theorem m4_51 : (Jvm.Cond.methodLink "LastCalledModel" (68 : Nat) ({ cls := "LastCalledModel", name := "full", desc := "()I" } : Jvm.MethodName)) ∈ lw_G := lw_Gm (lw_t4 (List.mem_of_getElem? (i := 51) rfl)) rfl
theorem m4_53 : (Jvm.Cond.instanceMethod ({ cls := "LastCalledModel", name := "full", desc := "()I" } : Jvm.MethodName)) ∈ lw_G := lw_Gm (lw_t4 (List.mem_of_getElem? (i := 53) rfl)) rfl
theorem m4_54 : (Jvm.Cond.code ({ cls := "LastCalledModel", name := "full", desc := "()I" } : Jvm.MethodName) prog_14_method_6_code (1 : Nat) (Option.some Jvm.ClassFile.FieldType.int)) ∈ lw_G := lw_Gm (lw_t4 (List.mem_of_getElem? (i := 54) rfl)) rfl
theorem m4_55 : (Jvm.Cond.methodLink "LastCalledModel" (71 : Nat) ({ cls := "LastCalledModel", name := "layOne", desc := "([III)V" } : Jvm.MethodName)) ∈ lw_G := lw_Gm (lw_t4 (List.mem_of_getElem? (i := 55) rfl)) rfl
theorem m4_56 : (Jvm.Cond.static ({ cls := "LastCalledModel", name := "layOne", desc := "([III)V" } : Jvm.MethodName)) ∈ lw_G := lw_Gm (lw_t4 (List.mem_of_getElem? (i := 56) rfl)) rfl
theorem m4_57 : (Jvm.Cond.code ({ cls := "LastCalledModel", name := "layOne", desc := "([III)V" } : Jvm.MethodName) prog_14_method_14_code (4 : Nat) (Option.none : Option Jvm.ClassFile.FieldType)) ∈ lw_G := lw_Gm (lw_t4 (List.mem_of_getElem? (i := 57) rfl)) rfl
theorem m4_58 : (Jvm.Cond.methodLink "LastCalledLaw" (39 : Nat) ({ cls := "LastCalledModel", name := "call", desc := "(II)I" } : Jvm.MethodName)) ∈ lw_G := lw_Gm (lw_t4 (List.mem_of_getElem? (i := 58) rfl)) rfl
theorem m4_59 : (Jvm.Cond.instanceMethod ({ cls := "LastCalledModel", name := "call", desc := "(II)I" } : Jvm.MethodName)) ∈ lw_G := lw_Gm (lw_t4 (List.mem_of_getElem? (i := 59) rfl)) rfl
theorem m4_60 : (Jvm.Cond.selects "LastCalledModel" ({ cls := "LastCalledModel", name := "call", desc := "(II)I" } : Jvm.MethodName) ({ cls := "LastCalledModel", name := "call", desc := "(II)I" } : Jvm.MethodName)) ∈ lw_G := lw_Gm (lw_t4 (List.mem_of_getElem? (i := 60) rfl)) rfl
theorem m4_61 : (Jvm.Cond.code ({ cls := "LastCalledModel", name := "call", desc := "(II)I" } : Jvm.MethodName) prog_14_method_25_code (5 : Nat) (Option.some Jvm.ClassFile.FieldType.int)) ∈ lw_G := lw_Gm (lw_t4 (List.mem_of_getElem? (i := 61) rfl)) rfl
theorem m4_62 : (Jvm.Cond.methodLink "LastCalledModel" (97 : Nat) ({ cls := "LastCalledModel", name := "isOne", desc := "(I)Z" } : Jvm.MethodName)) ∈ lw_G := lw_Gm (lw_t4 (List.mem_of_getElem? (i := 62) rfl)) rfl
theorem m4_64 : (Jvm.Cond.instanceMethod ({ cls := "LastCalledModel", name := "isOne", desc := "(I)Z" } : Jvm.MethodName)) ∈ lw_G := lw_Gm (lw_t4 (List.mem_of_getElem? (i := 64) rfl)) rfl
theorem m4_65 : (Jvm.Cond.code ({ cls := "LastCalledModel", name := "isOne", desc := "(I)Z" } : Jvm.MethodName) prog_14_method_11_code (2 : Nat) (Option.some Jvm.ClassFile.FieldType.boolean)) ∈ lw_G := lw_Gm (lw_t4 (List.mem_of_getElem? (i := 65) rfl)) rfl
theorem m4_66 : (Jvm.Cond.methodLink "LastCalledModel" (100 : Nat) ({ cls := "LastCalledModel", name := "keep", desc := "()V" } : Jvm.MethodName)) ∈ lw_G := lw_Gm (lw_t4 (List.mem_of_getElem? (i := 66) rfl)) rfl
theorem m4_68 : (Jvm.Cond.instanceMethod ({ cls := "LastCalledModel", name := "keep", desc := "()V" } : Jvm.MethodName)) ∈ lw_G := lw_Gm (lw_t4 (List.mem_of_getElem? (i := 68) rfl)) rfl
theorem m4_69 : (Jvm.Cond.code ({ cls := "LastCalledModel", name := "keep", desc := "()V" } : Jvm.MethodName) prog_14_method_24_code (3 : Nat) (Option.none : Option Jvm.ClassFile.FieldType)) ∈ lw_G := lw_Gm (lw_t4 (List.mem_of_getElem? (i := 69) rfl)) rfl
theorem m4_70 : (Jvm.Cond.methodLink "LastCalledModel" (103 : Nat) ({ cls := "LastCalledModel", name := "layHand", desc := "()V" } : Jvm.MethodName)) ∈ lw_G := lw_Gm (lw_t4 (List.mem_of_getElem? (i := 70) rfl)) rfl
theorem m4_72 : (Jvm.Cond.instanceMethod ({ cls := "LastCalledModel", name := "layHand", desc := "()V" } : Jvm.MethodName)) ∈ lw_G := lw_Gm (lw_t4 (List.mem_of_getElem? (i := 72) rfl)) rfl
theorem m4_73 : (Jvm.Cond.code ({ cls := "LastCalledModel", name := "layHand", desc := "()V" } : Jvm.MethodName) prog_14_method_18_code (2 : Nat) (Option.none : Option Jvm.ClassFile.FieldType)) ∈ lw_G := lw_Gm (lw_t4 (List.mem_of_getElem? (i := 73) rfl)) rfl
theorem m4_74 : (Jvm.Cond.methodLink "LastCalledModel" (106 : Nat) ({ cls := "LastCalledModel", name := "goCall", desc := "(II)I" } : Jvm.MethodName)) ∈ lw_G := lw_Gm (lw_t4 (List.mem_of_getElem? (i := 74) rfl)) rfl
theorem m4_76 : (Jvm.Cond.instanceMethod ({ cls := "LastCalledModel", name := "goCall", desc := "(II)I" } : Jvm.MethodName)) ∈ lw_G := lw_Gm (lw_t4 (List.mem_of_getElem? (i := 76) rfl)) rfl
theorem m4_77 : (Jvm.Cond.code ({ cls := "LastCalledModel", name := "goCall", desc := "(II)I" } : Jvm.MethodName) prog_14_method_22_code (4 : Nat) (Option.some Jvm.ClassFile.FieldType.int)) ∈ lw_G := lw_Gm (lw_t4 (List.mem_of_getElem? (i := 77) rfl)) rfl
theorem m4_78 : (Jvm.Cond.methodLink "LastCalledModel" (90 : Nat) ({ cls := "LastCalledModel", name := "turning", desc := "(II)I" } : Jvm.MethodName)) ∈ lw_G := lw_Gm (lw_t4 (List.mem_of_getElem? (i := 78) rfl)) rfl
theorem m4_80 : (Jvm.Cond.instanceMethod ({ cls := "LastCalledModel", name := "turning", desc := "(II)I" } : Jvm.MethodName)) ∈ lw_G := lw_Gm (lw_t4 (List.mem_of_getElem? (i := 80) rfl)) rfl
theorem m4_81 : (Jvm.Cond.code ({ cls := "LastCalledModel", name := "turning", desc := "(II)I" } : Jvm.MethodName) prog_14_method_20_code (7 : Nat) (Option.some Jvm.ClassFile.FieldType.int)) ∈ lw_G := lw_Gm (lw_t4 (List.mem_of_getElem? (i := 81) rfl)) rfl
theorem m4_82 : (Jvm.Cond.methodLink "LastCalledModel" (75 : Nat) ({ cls := "LastCalledModel", name := "bearersOf", desc := "(I)I" } : Jvm.MethodName)) ∈ lw_G := lw_Gm (lw_t4 (List.mem_of_getElem? (i := 82) rfl)) rfl
theorem m4_84 : (Jvm.Cond.instanceMethod ({ cls := "LastCalledModel", name := "bearersOf", desc := "(I)I" } : Jvm.MethodName)) ∈ lw_G := lw_Gm (lw_t4 (List.mem_of_getElem? (i := 84) rfl)) rfl
theorem m4_85 : (Jvm.Cond.code ({ cls := "LastCalledModel", name := "bearersOf", desc := "(I)I" } : Jvm.MethodName) prog_14_method_19_code (4 : Nat) (Option.some Jvm.ClassFile.FieldType.int)) ∈ lw_G := lw_Gm (lw_t4 (List.mem_of_getElem? (i := 85) rfl)) rfl
theorem m4_86 : (Jvm.Cond.methodLink "LastCalledModel" (78 : Nat) ({ cls := "LastCalledModel", name := "farOf", desc := "(II)I" } : Jvm.MethodName)) ∈ lw_G := lw_Gm (lw_t4 (List.mem_of_getElem? (i := 86) rfl)) rfl
theorem m4_87 : (Jvm.Cond.static ({ cls := "LastCalledModel", name := "farOf", desc := "(II)I" } : Jvm.MethodName)) ∈ lw_G := lw_Gm (lw_t4 (List.mem_of_getElem? (i := 87) rfl)) rfl
theorem m4_88 : (Jvm.Cond.code ({ cls := "LastCalledModel", name := "farOf", desc := "(II)I" } : Jvm.MethodName) prog_14_method_17_code (2 : Nat) (Option.some Jvm.ClassFile.FieldType.int)) ∈ lw_G := lw_Gm (lw_t4 (List.mem_of_getElem? (i := 88) rfl)) rfl
theorem m4_89 : (Jvm.Cond.methodLink "LastCalledModel" (82 : Nat) ({ cls := "LastCalledModel", name := "has", desc := "(II)Z" } : Jvm.MethodName)) ∈ lw_G := lw_Gm (lw_t4 (List.mem_of_getElem? (i := 89) rfl)) rfl
theorem m4_90 : (Jvm.Cond.static ({ cls := "LastCalledModel", name := "has", desc := "(II)Z" } : Jvm.MethodName)) ∈ lw_G := lw_Gm (lw_t4 (List.mem_of_getElem? (i := 90) rfl)) rfl
theorem m4_91 : (Jvm.Cond.code ({ cls := "LastCalledModel", name := "has", desc := "(II)Z" } : Jvm.MethodName) prog_14_method_8_code (2 : Nat) (Option.some Jvm.ClassFile.FieldType.boolean)) ∈ lw_G := lw_Gm (lw_t4 (List.mem_of_getElem? (i := 91) rfl)) rfl
theorem m4_92 : (Jvm.Cond.methodLink "LastCalledModel" (86 : Nat) ({ cls := "LastCalledModel", name := "turnsAs", desc := "(IIZZI)Z" } : Jvm.MethodName)) ∈ lw_G := lw_Gm (lw_t4 (List.mem_of_getElem? (i := 92) rfl)) rfl
theorem m4_93 : (Jvm.Cond.static ({ cls := "LastCalledModel", name := "turnsAs", desc := "(IIZZI)Z" } : Jvm.MethodName)) ∈ lw_G := lw_Gm (lw_t4 (List.mem_of_getElem? (i := 93) rfl)) rfl
theorem m4_94 : (Jvm.Cond.code ({ cls := "LastCalledModel", name := "turnsAs", desc := "(IIZZI)Z" } : Jvm.MethodName) prog_14_method_16_code (6 : Nat) (Option.some Jvm.ClassFile.FieldType.boolean)) ∈ lw_G := lw_Gm (lw_t4 (List.mem_of_getElem? (i := 94) rfl)) rfl
theorem m4_95 : (Jvm.Cond.methodLink "LastCalledModel" (93 : Nat) ({ cls := "LastCalledModel", name := "goTurn", desc := "(II)V" } : Jvm.MethodName)) ∈ lw_G := lw_Gm (lw_t4 (List.mem_of_getElem? (i := 95) rfl)) rfl
theorem m4_97 : (Jvm.Cond.instanceMethod ({ cls := "LastCalledModel", name := "goTurn", desc := "(II)V" } : Jvm.MethodName)) ∈ lw_G := lw_Gm (lw_t4 (List.mem_of_getElem? (i := 97) rfl)) rfl
theorem m4_98 : (Jvm.Cond.code ({ cls := "LastCalledModel", name := "goTurn", desc := "(II)V" } : Jvm.MethodName) prog_14_method_21_code (4 : Nat) (Option.none : Option Jvm.ClassFile.FieldType)) ∈ lw_G := lw_Gm (lw_t4 (List.mem_of_getElem? (i := 98) rfl)) rfl
theorem m4_99 : (Jvm.Cond.methodLink "LastCalledLaw" (43 : Nat) ({ cls := "LastCalledModel", name := "goes", desc := "(II)I" } : Jvm.MethodName)) ∈ lw_G := lw_Gm (lw_t4 (List.mem_of_getElem? (i := 99) rfl)) rfl
theorem m4_100 : (Jvm.Cond.instanceMethod ({ cls := "LastCalledModel", name := "goes", desc := "(II)I" } : Jvm.MethodName)) ∈ lw_G := lw_Gm (lw_t4 (List.mem_of_getElem? (i := 100) rfl)) rfl
theorem m4_101 : (Jvm.Cond.selects "LastCalledModel" ({ cls := "LastCalledModel", name := "goes", desc := "(II)I" } : Jvm.MethodName) ({ cls := "LastCalledModel", name := "goes", desc := "(II)I" } : Jvm.MethodName)) ∈ lw_G := lw_Gm (lw_t4 (List.mem_of_getElem? (i := 101) rfl)) rfl
theorem m4_102 : (Jvm.Cond.code ({ cls := "LastCalledModel", name := "goes", desc := "(II)I" } : Jvm.MethodName) prog_14_method_26_code (4 : Nat) (Option.some Jvm.ClassFile.FieldType.int)) ∈ lw_G := lw_Gm (lw_t4 (List.mem_of_getElem? (i := 102) rfl)) rfl
theorem m4_103 : (Jvm.Cond.methodLink "LastCalledLaw" (47 : Nat) ({ cls := "LastCalledModel", name := "day", desc := "()I" } : Jvm.MethodName)) ∈ lw_G := lw_Gm (lw_t4 (List.mem_of_getElem? (i := 103) rfl)) rfl
theorem m4_104 : (Jvm.Cond.instanceMethod ({ cls := "LastCalledModel", name := "day", desc := "()I" } : Jvm.MethodName)) ∈ lw_G := lw_Gm (lw_t4 (List.mem_of_getElem? (i := 104) rfl)) rfl
theorem m4_105 : (Jvm.Cond.selects "LastCalledModel" ({ cls := "LastCalledModel", name := "day", desc := "()I" } : Jvm.MethodName) ({ cls := "LastCalledModel", name := "day", desc := "()I" } : Jvm.MethodName)) ∈ lw_G := lw_Gm (lw_t4 (List.mem_of_getElem? (i := 105) rfl)) rfl
theorem m4_106 : (Jvm.Cond.code ({ cls := "LastCalledModel", name := "day", desc := "()I" } : Jvm.MethodName) prog_14_method_27_code (1 : Nat) (Option.some Jvm.ClassFile.FieldType.int)) ∈ lw_G := lw_Gm (lw_t4 (List.mem_of_getElem? (i := 106) rfl)) rfl
theorem m4_107 : (Jvm.Cond.methodLink "LastCalledLaw" (51 : Nat) ({ cls := "LastCalledModel", name := "undo", desc := "()I" } : Jvm.MethodName)) ∈ lw_G := lw_Gm (lw_t4 (List.mem_of_getElem? (i := 107) rfl)) rfl
theorem m4_108 : (Jvm.Cond.instanceMethod ({ cls := "LastCalledModel", name := "undo", desc := "()I" } : Jvm.MethodName)) ∈ lw_G := lw_Gm (lw_t4 (List.mem_of_getElem? (i := 108) rfl)) rfl
theorem m4_109 : (Jvm.Cond.selects "LastCalledModel" ({ cls := "LastCalledModel", name := "undo", desc := "()I" } : Jvm.MethodName) ({ cls := "LastCalledModel", name := "undo", desc := "()I" } : Jvm.MethodName)) ∈ lw_G := lw_Gm (lw_t4 (List.mem_of_getElem? (i := 109) rfl)) rfl
theorem m4_110 : (Jvm.Cond.code ({ cls := "LastCalledModel", name := "undo", desc := "()I" } : Jvm.MethodName) prog_14_method_28_code (3 : Nat) (Option.some Jvm.ClassFile.FieldType.int)) ∈ lw_G := lw_Gm (lw_t4 (List.mem_of_getElem? (i := 110) rfl)) rfl
theorem m4_111 : (Jvm.Cond.methodLink "LastCalledModel" (109 : Nat) ({ cls := "LastCalledModel", name := "no", desc := "()I" } : Jvm.MethodName)) ∈ lw_G := lw_Gm (lw_t4 (List.mem_of_getElem? (i := 111) rfl)) rfl
theorem m4_113 : (Jvm.Cond.instanceMethod ({ cls := "LastCalledModel", name := "no", desc := "()I" } : Jvm.MethodName)) ∈ lw_G := lw_Gm (lw_t4 (List.mem_of_getElem? (i := 113) rfl)) rfl
theorem m4_114 : (Jvm.Cond.code ({ cls := "LastCalledModel", name := "no", desc := "()I" } : Jvm.MethodName) prog_14_method_5_code (1 : Nat) (Option.some Jvm.ClassFile.FieldType.int)) ∈ lw_G := lw_Gm (lw_t4 (List.mem_of_getElem? (i := 114) rfl)) rfl
theorem m4_115 : (Jvm.Cond.methodLink "LastCalledLaw" (55 : Nat) ({ cls := "LastCalledModel", name := "of", desc := "(II)I" } : Jvm.MethodName)) ∈ lw_G := lw_Gm (lw_t4 (List.mem_of_getElem? (i := 115) rfl)) rfl
theorem m4_116 : (Jvm.Cond.instanceMethod ({ cls := "LastCalledModel", name := "of", desc := "(II)I" } : Jvm.MethodName)) ∈ lw_G := lw_Gm (lw_t4 (List.mem_of_getElem? (i := 116) rfl)) rfl
theorem m4_117 : (Jvm.Cond.selects "LastCalledModel" ({ cls := "LastCalledModel", name := "of", desc := "(II)I" } : Jvm.MethodName) ({ cls := "LastCalledModel", name := "of", desc := "(II)I" } : Jvm.MethodName)) ∈ lw_G := lw_Gm (lw_t4 (List.mem_of_getElem? (i := 117) rfl)) rfl
theorem m4_118 : (Jvm.Cond.code ({ cls := "LastCalledModel", name := "of", desc := "(II)I" } : Jvm.MethodName) prog_14_method_29_code (3 : Nat) (Option.some Jvm.ClassFile.FieldType.int)) ∈ lw_G := lw_Gm (lw_t4 (List.mem_of_getElem? (i := 118) rfl)) rfl
theorem m4_119 : (Jvm.Cond.constantLong "LastCalledModel" (112 : Nat) (2 : Int64)) ∈ lw_G := lw_Gm (lw_t4 (List.mem_of_getElem? (i := 119) rfl)) rfl
theorem m4_120 : (Jvm.Cond.methodLink "LastCalledLaw" (59 : Nat) ({ cls := "LastCalledModel", name := "turn", desc := "(II)I" } : Jvm.MethodName)) ∈ lw_G := lw_Gm (lw_t4 (List.mem_of_getElem? (i := 120) rfl)) rfl
theorem m4_121 : (Jvm.Cond.instanceMethod ({ cls := "LastCalledModel", name := "turn", desc := "(II)I" } : Jvm.MethodName)) ∈ lw_G := lw_Gm (lw_t4 (List.mem_of_getElem? (i := 121) rfl)) rfl
theorem m4_122 : (Jvm.Cond.selects "LastCalledModel" ({ cls := "LastCalledModel", name := "turn", desc := "(II)I" } : Jvm.MethodName) ({ cls := "LastCalledModel", name := "turn", desc := "(II)I" } : Jvm.MethodName)) ∈ lw_G := lw_Gm (lw_t4 (List.mem_of_getElem? (i := 122) rfl)) rfl
theorem m4_123 : (Jvm.Cond.code ({ cls := "LastCalledModel", name := "turn", desc := "(II)I" } : Jvm.MethodName) prog_14_method_30_code (3 : Nat) (Option.some Jvm.ClassFile.FieldType.int)) ∈ lw_G := lw_Gm (lw_t4 (List.mem_of_getElem? (i := 123) rfl)) rfl
theorem m4_124 : (Jvm.Cond.methodLink "LastCalledLaw" (63 : Nat) ({ cls := "LastCalledModel", name := "bearers", desc := "(I)I" } : Jvm.MethodName)) ∈ lw_G := lw_Gm (lw_t4 (List.mem_of_getElem? (i := 124) rfl)) rfl
theorem m4_125 : (Jvm.Cond.instanceMethod ({ cls := "LastCalledModel", name := "bearers", desc := "(I)I" } : Jvm.MethodName)) ∈ lw_G := lw_Gm (lw_t4 (List.mem_of_getElem? (i := 125) rfl)) rfl
theorem m4_126 : (Jvm.Cond.selects "LastCalledModel" ({ cls := "LastCalledModel", name := "bearers", desc := "(I)I" } : Jvm.MethodName) ({ cls := "LastCalledModel", name := "bearers", desc := "(I)I" } : Jvm.MethodName)) ∈ lw_G := lw_Gm (lw_t4 (List.mem_of_getElem? (i := 126) rfl)) rfl
theorem m4_127 : (Jvm.Cond.code ({ cls := "LastCalledModel", name := "bearers", desc := "(I)I" } : Jvm.MethodName) prog_14_method_31_code (2 : Nat) (Option.some Jvm.ClassFile.FieldType.int)) ∈ lw_G := lw_Gm (lw_t4 (List.mem_of_getElem? (i := 127) rfl)) rfl
theorem m4_128 : (Jvm.Cond.methodLink "LastCalledLaw" (67 : Nat) ({ cls := "LastCalledModel", name := "names", desc := "(I)I" } : Jvm.MethodName)) ∈ lw_G := lw_Gm (lw_t4 (List.mem_of_getElem? (i := 128) rfl)) rfl
theorem m4_129 : (Jvm.Cond.instanceMethod ({ cls := "LastCalledModel", name := "names", desc := "(I)I" } : Jvm.MethodName)) ∈ lw_G := lw_Gm (lw_t4 (List.mem_of_getElem? (i := 129) rfl)) rfl
theorem m4_130 : (Jvm.Cond.selects "LastCalledModel" ({ cls := "LastCalledModel", name := "names", desc := "(I)I" } : Jvm.MethodName) ({ cls := "LastCalledModel", name := "names", desc := "(I)I" } : Jvm.MethodName)) ∈ lw_G := lw_Gm (lw_t4 (List.mem_of_getElem? (i := 130) rfl)) rfl
theorem m4_131 : (Jvm.Cond.code ({ cls := "LastCalledModel", name := "names", desc := "(I)I" } : Jvm.MethodName) prog_14_method_32_code (5 : Nat) (Option.some Jvm.ClassFile.FieldType.int)) ∈ lw_G := lw_Gm (lw_t4 (List.mem_of_getElem? (i := 131) rfl)) rfl
theorem m4_132 : (Jvm.Cond.methodLink "LastCalledModel" (114 : Nat) ({ cls := "LastCalledModel", name := "bits", desc := "(I)I" } : Jvm.MethodName)) ∈ lw_G := lw_Gm (lw_t4 (List.mem_of_getElem? (i := 132) rfl)) rfl
theorem m4_133 : (Jvm.Cond.static ({ cls := "LastCalledModel", name := "bits", desc := "(I)I" } : Jvm.MethodName)) ∈ lw_G := lw_Gm (lw_t4 (List.mem_of_getElem? (i := 133) rfl)) rfl
theorem m4_134 : (Jvm.Cond.code ({ cls := "LastCalledModel", name := "bits", desc := "(I)I" } : Jvm.MethodName) prog_14_method_7_code (3 : Nat) (Option.some Jvm.ClassFile.FieldType.int)) ∈ lw_G := lw_Gm (lw_t4 (List.mem_of_getElem? (i := 134) rfl)) rfl
theorem m4_135 : (Jvm.Cond.methodLink "LastCalledLaw" (72 : Nat) ({ cls := "LastCalledModel", name := "calls", desc := "(III)I" } : Jvm.MethodName)) ∈ lw_G := lw_Gm (lw_t4 (List.mem_of_getElem? (i := 135) rfl)) rfl
theorem m4_136 : (Jvm.Cond.instanceMethod ({ cls := "LastCalledModel", name := "calls", desc := "(III)I" } : Jvm.MethodName)) ∈ lw_G := lw_Gm (lw_t4 (List.mem_of_getElem? (i := 136) rfl)) rfl
theorem m4_137 : (Jvm.Cond.selects "LastCalledModel" ({ cls := "LastCalledModel", name := "calls", desc := "(III)I" } : Jvm.MethodName) ({ cls := "LastCalledModel", name := "calls", desc := "(III)I" } : Jvm.MethodName)) ∈ lw_G := lw_Gm (lw_t4 (List.mem_of_getElem? (i := 137) rfl)) rfl
theorem m4_138 : (Jvm.Cond.code ({ cls := "LastCalledModel", name := "calls", desc := "(III)I" } : Jvm.MethodName) prog_14_method_35_code (4 : Nat) (Option.some Jvm.ClassFile.FieldType.int)) ∈ lw_G := lw_Gm (lw_t4 (List.mem_of_getElem? (i := 138) rfl)) rfl
theorem m4_139 : (Jvm.Cond.methodLink "LastCalledModel" (127 : Nat) ({ cls := "LastCalledModel", name := "layCalls", desc := "(II)V" } : Jvm.MethodName)) ∈ lw_G := lw_Gm (lw_t4 (List.mem_of_getElem? (i := 139) rfl)) rfl
theorem m4_141 : (Jvm.Cond.instanceMethod ({ cls := "LastCalledModel", name := "layCalls", desc := "(II)V" } : Jvm.MethodName)) ∈ lw_G := lw_Gm (lw_t4 (List.mem_of_getElem? (i := 141) rfl)) rfl
theorem m4_142 : (Jvm.Cond.code ({ cls := "LastCalledModel", name := "layCalls", desc := "(II)V" } : Jvm.MethodName) prog_14_method_34_code (6 : Nat) (Option.none : Option Jvm.ClassFile.FieldType)) ∈ lw_G := lw_Gm (lw_t4 (List.mem_of_getElem? (i := 142) rfl)) rfl
theorem m4_143 : (Jvm.Cond.methodLink "LastCalledModel" (117 : Nat) ({ cls := "LastCalledModel", name := "goCodes", desc := "(II)V" } : Jvm.MethodName)) ∈ lw_G := lw_Gm (lw_t4 (List.mem_of_getElem? (i := 143) rfl)) rfl
theorem m4_145 : (Jvm.Cond.instanceMethod ({ cls := "LastCalledModel", name := "goCodes", desc := "(II)V" } : Jvm.MethodName)) ∈ lw_G := lw_Gm (lw_t4 (List.mem_of_getElem? (i := 145) rfl)) rfl
theorem m4_146 : (Jvm.Cond.code ({ cls := "LastCalledModel", name := "goCodes", desc := "(II)V" } : Jvm.MethodName) prog_14_method_33_code (4 : Nat) (Option.none : Option Jvm.ClassFile.FieldType)) ∈ lw_G := lw_Gm (lw_t4 (List.mem_of_getElem? (i := 146) rfl)) rfl
theorem m4_147 : (Jvm.Cond.methodLink "LastCalledLaw" (76 : Nat) ({ cls := "LastCalledModel", name := "own", desc := "(I)I" } : Jvm.MethodName)) ∈ lw_G := lw_Gm (lw_t4 (List.mem_of_getElem? (i := 147) rfl)) rfl
theorem m4_148 : (Jvm.Cond.instanceMethod ({ cls := "LastCalledModel", name := "own", desc := "(I)I" } : Jvm.MethodName)) ∈ lw_G := lw_Gm (lw_t4 (List.mem_of_getElem? (i := 148) rfl)) rfl
theorem m4_149 : (Jvm.Cond.selects "LastCalledModel" ({ cls := "LastCalledModel", name := "own", desc := "(I)I" } : Jvm.MethodName) ({ cls := "LastCalledModel", name := "own", desc := "(I)I" } : Jvm.MethodName)) ∈ lw_G := lw_Gm (lw_t4 (List.mem_of_getElem? (i := 149) rfl)) rfl
theorem m4_150 : (Jvm.Cond.code ({ cls := "LastCalledModel", name := "own", desc := "(I)I" } : Jvm.MethodName) prog_14_method_38_code (2 : Nat) (Option.some Jvm.ClassFile.FieldType.int)) ∈ lw_G := lw_Gm (lw_t4 (List.mem_of_getElem? (i := 150) rfl)) rfl
theorem m4_151 : (Jvm.Cond.methodLink "LastCalledModel" (139 : Nat) ({ cls := "LastCalledModel", name := "layOwn", desc := "()V" } : Jvm.MethodName)) ∈ lw_G := lw_Gm (lw_t4 (List.mem_of_getElem? (i := 151) rfl)) rfl
theorem m4_153 : (Jvm.Cond.instanceMethod ({ cls := "LastCalledModel", name := "layOwn", desc := "()V" } : Jvm.MethodName)) ∈ lw_G := lw_Gm (lw_t4 (List.mem_of_getElem? (i := 153) rfl)) rfl
theorem m4_154 : (Jvm.Cond.code ({ cls := "LastCalledModel", name := "layOwn", desc := "()V" } : Jvm.MethodName) prog_14_method_37_code (4 : Nat) (Option.none : Option Jvm.ClassFile.FieldType)) ∈ lw_G := lw_Gm (lw_t4 (List.mem_of_getElem? (i := 154) rfl)) rfl
theorem m4_155 : (Jvm.Cond.methodLink "LastCalledModel" (136 : Nat) ({ cls := "LastCalledModel", name := "judgeOwn", desc := "(II)V" } : Jvm.MethodName)) ∈ lw_G := lw_Gm (lw_t4 (List.mem_of_getElem? (i := 155) rfl)) rfl
theorem m4_157 : (Jvm.Cond.instanceMethod ({ cls := "LastCalledModel", name := "judgeOwn", desc := "(II)V" } : Jvm.MethodName)) ∈ lw_G := lw_Gm (lw_t4 (List.mem_of_getElem? (i := 157) rfl)) rfl
theorem m4_158 : (Jvm.Cond.code ({ cls := "LastCalledModel", name := "judgeOwn", desc := "(II)V" } : Jvm.MethodName) prog_14_method_36_code (4 : Nat) (Option.none : Option Jvm.ClassFile.FieldType)) ∈ lw_G := lw_Gm (lw_t4 (List.mem_of_getElem? (i := 158) rfl)) rfl
theorem m4_159 : (Jvm.Cond.methodLink "LastCalledModel" (130 : Nat) ({ cls := "LastCalledModel", name := "ownNow", desc := "()I" } : Jvm.MethodName)) ∈ lw_G := lw_Gm (lw_t4 (List.mem_of_getElem? (i := 159) rfl)) rfl
theorem m4_161 : (Jvm.Cond.instanceMethod ({ cls := "LastCalledModel", name := "ownNow", desc := "()I" } : Jvm.MethodName)) ∈ lw_G := lw_Gm (lw_t4 (List.mem_of_getElem? (i := 161) rfl)) rfl
theorem m4_162 : (Jvm.Cond.code ({ cls := "LastCalledModel", name := "ownNow", desc := "()I" } : Jvm.MethodName) prog_14_method_23_code (3 : Nat) (Option.some Jvm.ClassFile.FieldType.int)) ∈ lw_G := lw_Gm (lw_t4 (List.mem_of_getElem? (i := 162) rfl)) rfl
theorem m4_163 : (Jvm.Cond.methodLink "LastCalledLaw" (80 : Nat) ({ cls := "LastCalledModel", name := "ring", desc := "(I)I" } : Jvm.MethodName)) ∈ lw_G := lw_Gm (lw_t4 (List.mem_of_getElem? (i := 163) rfl)) rfl
theorem m4_164 : (Jvm.Cond.instanceMethod ({ cls := "LastCalledModel", name := "ring", desc := "(I)I" } : Jvm.MethodName)) ∈ lw_G := lw_Gm (lw_t4 (List.mem_of_getElem? (i := 164) rfl)) rfl
theorem m4_165 : (Jvm.Cond.selects "LastCalledModel" ({ cls := "LastCalledModel", name := "ring", desc := "(I)I" } : Jvm.MethodName) ({ cls := "LastCalledModel", name := "ring", desc := "(I)I" } : Jvm.MethodName)) ∈ lw_G := lw_Gm (lw_t4 (List.mem_of_getElem? (i := 165) rfl)) rfl
theorem m4_166 : (Jvm.Cond.code ({ cls := "LastCalledModel", name := "ring", desc := "(I)I" } : Jvm.MethodName) prog_14_method_39_code (4 : Nat) (Option.some Jvm.ClassFile.FieldType.int)) ∈ lw_G := lw_Gm (lw_t4 (List.mem_of_getElem? (i := 166) rfl)) rfl
theorem m4_167 : (Jvm.Cond.methodLink "LastCalledLaw" (84 : Nat) ({ cls := "LastCalledModel", name := "deed", desc := "(II)I" } : Jvm.MethodName)) ∈ lw_G := lw_Gm (lw_t4 (List.mem_of_getElem? (i := 167) rfl)) rfl
theorem m4_168 : (Jvm.Cond.instanceMethod ({ cls := "LastCalledModel", name := "deed", desc := "(II)I" } : Jvm.MethodName)) ∈ lw_G := lw_Gm (lw_t4 (List.mem_of_getElem? (i := 168) rfl)) rfl
theorem m4_169 : (Jvm.Cond.selects "LastCalledModel" ({ cls := "LastCalledModel", name := "deed", desc := "(II)I" } : Jvm.MethodName) ({ cls := "LastCalledModel", name := "deed", desc := "(II)I" } : Jvm.MethodName)) ∈ lw_G := lw_Gm (lw_t4 (List.mem_of_getElem? (i := 169) rfl)) rfl
theorem m4_170 : (Jvm.Cond.code ({ cls := "LastCalledModel", name := "deed", desc := "(II)I" } : Jvm.MethodName) prog_14_method_40_code (3 : Nat) (Option.some Jvm.ClassFile.FieldType.int)) ∈ lw_G := lw_Gm (lw_t4 (List.mem_of_getElem? (i := 170) rfl)) rfl
theorem m4_171 : (Jvm.Cond.constantLong "LastCalledModel" (142 : Nat) (60 : Int64)) ∈ lw_G := lw_Gm (lw_t4 (List.mem_of_getElem? (i := 171) rfl)) rfl
theorem m4_172 : (Jvm.Cond.methodLink "LastCalledLaw" (88 : Nat) ({ cls := "LastCalledModel", name := "owes", desc := "(I)I" } : Jvm.MethodName)) ∈ lw_G := lw_Gm (lw_t4 (List.mem_of_getElem? (i := 172) rfl)) rfl
theorem m4_173 : (Jvm.Cond.instanceMethod ({ cls := "LastCalledModel", name := "owes", desc := "(I)I" } : Jvm.MethodName)) ∈ lw_G := lw_Gm (lw_t4 (List.mem_of_getElem? (i := 173) rfl)) rfl
theorem m4_174 : (Jvm.Cond.selects "LastCalledModel" ({ cls := "LastCalledModel", name := "owes", desc := "(I)I" } : Jvm.MethodName) ({ cls := "LastCalledModel", name := "owes", desc := "(I)I" } : Jvm.MethodName)) ∈ lw_G := lw_Gm (lw_t4 (List.mem_of_getElem? (i := 174) rfl)) rfl
theorem m4_175 : (Jvm.Cond.code ({ cls := "LastCalledModel", name := "owes", desc := "(I)I" } : Jvm.MethodName) prog_14_method_43_code (3 : Nat) (Option.some Jvm.ClassFile.FieldType.int)) ∈ lw_G := lw_Gm (lw_t4 (List.mem_of_getElem? (i := 175) rfl)) rfl
theorem m4_176 : (Jvm.Cond.methodLink "LastCalledModel" (147 : Nat) ({ cls := "LastCalledModel", name := "fraction", desc := "(JJ)V" } : Jvm.MethodName)) ∈ lw_G := lw_Gm (lw_t4 (List.mem_of_getElem? (i := 176) rfl)) rfl
theorem m4_178 : (Jvm.Cond.instanceMethod ({ cls := "LastCalledModel", name := "fraction", desc := "(JJ)V" } : Jvm.MethodName)) ∈ lw_G := lw_Gm (lw_t4 (List.mem_of_getElem? (i := 178) rfl)) rfl
theorem m4_179 : (Jvm.Cond.code ({ cls := "LastCalledModel", name := "fraction", desc := "(JJ)V" } : Jvm.MethodName) prog_14_method_42_code (11 : Nat) (Option.none : Option Jvm.ClassFile.FieldType)) ∈ lw_G := lw_Gm (lw_t4 (List.mem_of_getElem? (i := 179) rfl)) rfl
theorem m4_180 : (Jvm.Cond.methodLink "LastCalledModel" (151 : Nat) ({ cls := "LastCalledModel", name := "penceOn", desc := "(I)I" } : Jvm.MethodName)) ∈ lw_G := lw_Gm (lw_t4 (List.mem_of_getElem? (i := 180) rfl)) rfl
theorem m4_182 : (Jvm.Cond.instanceMethod ({ cls := "LastCalledModel", name := "penceOn", desc := "(I)I" } : Jvm.MethodName)) ∈ lw_G := lw_Gm (lw_t4 (List.mem_of_getElem? (i := 182) rfl)) rfl
theorem m4_183 : (Jvm.Cond.code ({ cls := "LastCalledModel", name := "penceOn", desc := "(I)I" } : Jvm.MethodName) prog_14_method_41_code (4 : Nat) (Option.some Jvm.ClassFile.FieldType.int)) ∈ lw_G := lw_Gm (lw_t4 (List.mem_of_getElem? (i := 183) rfl)) rfl
theorem m4_184 : (Jvm.Cond.methodLink "LastCalledLaw" (92 : Nat) ({ cls := "LastCalledModel", name := "unpaid", desc := "()I" } : Jvm.MethodName)) ∈ lw_G := lw_Gm (lw_t4 (List.mem_of_getElem? (i := 184) rfl)) rfl
theorem m4_185 : (Jvm.Cond.instanceMethod ({ cls := "LastCalledModel", name := "unpaid", desc := "()I" } : Jvm.MethodName)) ∈ lw_G := lw_Gm (lw_t4 (List.mem_of_getElem? (i := 185) rfl)) rfl
theorem m4_186 : (Jvm.Cond.selects "LastCalledModel" ({ cls := "LastCalledModel", name := "unpaid", desc := "()I" } : Jvm.MethodName) ({ cls := "LastCalledModel", name := "unpaid", desc := "()I" } : Jvm.MethodName)) ∈ lw_G := lw_Gm (lw_t4 (List.mem_of_getElem? (i := 186) rfl)) rfl
theorem m4_187 : (Jvm.Cond.code ({ cls := "LastCalledModel", name := "unpaid", desc := "()I" } : Jvm.MethodName) prog_14_method_44_code (3 : Nat) (Option.some Jvm.ClassFile.FieldType.int)) ∈ lw_G := lw_Gm (lw_t4 (List.mem_of_getElem? (i := 187) rfl)) rfl
theorem m4_188 : (Jvm.Cond.methodLink "LastCalledLaw" (97 : Nat) ({ cls := "LastCalledModel", name := "ears", desc := "(IIII)I" } : Jvm.MethodName)) ∈ lw_G := lw_Gm (lw_t4 (List.mem_of_getElem? (i := 188) rfl)) rfl
theorem m4_189 : (Jvm.Cond.instanceMethod ({ cls := "LastCalledModel", name := "ears", desc := "(IIII)I" } : Jvm.MethodName)) ∈ lw_G := lw_Gm (lw_t4 (List.mem_of_getElem? (i := 189) rfl)) rfl
theorem m4_190 : (Jvm.Cond.selects "LastCalledModel" ({ cls := "LastCalledModel", name := "ears", desc := "(IIII)I" } : Jvm.MethodName) ({ cls := "LastCalledModel", name := "ears", desc := "(IIII)I" } : Jvm.MethodName)) ∈ lw_G := lw_Gm (lw_t4 (List.mem_of_getElem? (i := 190) rfl)) rfl
theorem m4_191 : (Jvm.Cond.code ({ cls := "LastCalledModel", name := "ears", desc := "(IIII)I" } : Jvm.MethodName) prog_14_method_45_code (9 : Nat) (Option.some Jvm.ClassFile.FieldType.int)) ∈ lw_G := lw_Gm (lw_t4 (List.mem_of_getElem? (i := 191) rfl)) rfl
theorem m4_192 : (Jvm.Cond.methodLink "LastCalledLaw" (102 : Nat) ({ cls := "LastCalledModel", name := "note", desc := "(IIIII)I" } : Jvm.MethodName)) ∈ lw_G := lw_Gm (lw_t4 (List.mem_of_getElem? (i := 192) rfl)) rfl
theorem m4_193 : (Jvm.Cond.instanceMethod ({ cls := "LastCalledModel", name := "note", desc := "(IIIII)I" } : Jvm.MethodName)) ∈ lw_G := lw_Gm (lw_t4 (List.mem_of_getElem? (i := 193) rfl)) rfl
theorem m4_194 : (Jvm.Cond.selects "LastCalledModel" ({ cls := "LastCalledModel", name := "note", desc := "(IIIII)I" } : Jvm.MethodName) ({ cls := "LastCalledModel", name := "note", desc := "(IIIII)I" } : Jvm.MethodName)) ∈ lw_G := lw_Gm (lw_t4 (List.mem_of_getElem? (i := 194) rfl)) rfl
theorem m4_195 : (Jvm.Cond.code ({ cls := "LastCalledModel", name := "note", desc := "(IIIII)I" } : Jvm.MethodName) prog_14_method_46_code (7 : Nat) (Option.some Jvm.ClassFile.FieldType.int)) ∈ lw_G := lw_Gm (lw_t4 (List.mem_of_getElem? (i := 195) rfl)) rfl
theorem m4_196 : (Jvm.Cond.methodLink "LastCalledLaw" (106 : Nat) ({ cls := "LastCalledModel", name := "forget", desc := "(I)I" } : Jvm.MethodName)) ∈ lw_G := lw_Gm (lw_t4 (List.mem_of_getElem? (i := 196) rfl)) rfl
theorem m4_197 : (Jvm.Cond.instanceMethod ({ cls := "LastCalledModel", name := "forget", desc := "(I)I" } : Jvm.MethodName)) ∈ lw_G := lw_Gm (lw_t4 (List.mem_of_getElem? (i := 197) rfl)) rfl
theorem m4_198 : (Jvm.Cond.selects "LastCalledModel" ({ cls := "LastCalledModel", name := "forget", desc := "(I)I" } : Jvm.MethodName) ({ cls := "LastCalledModel", name := "forget", desc := "(I)I" } : Jvm.MethodName)) ∈ lw_G := lw_Gm (lw_t4 (List.mem_of_getElem? (i := 198) rfl)) rfl
theorem m4_199 : (Jvm.Cond.code ({ cls := "LastCalledModel", name := "forget", desc := "(I)I" } : Jvm.MethodName) prog_14_method_47_code (3 : Nat) (Option.some Jvm.ClassFile.FieldType.int)) ∈ lw_G := lw_Gm (lw_t4 (List.mem_of_getElem? (i := 199) rfl)) rfl
theorem m4_200 : (Jvm.Cond.methodLink "LastCalledLaw" (110 : Nat) ({ cls := "LastCalledModel", name := "is", desc := "(I)I" } : Jvm.MethodName)) ∈ lw_G := lw_Gm (lw_t4 (List.mem_of_getElem? (i := 200) rfl)) rfl
theorem m4_201 : (Jvm.Cond.instanceMethod ({ cls := "LastCalledModel", name := "is", desc := "(I)I" } : Jvm.MethodName)) ∈ lw_G := lw_Gm (lw_t4 (List.mem_of_getElem? (i := 201) rfl)) rfl
theorem m4_202 : (Jvm.Cond.selects "LastCalledModel" ({ cls := "LastCalledModel", name := "is", desc := "(I)I" } : Jvm.MethodName) ({ cls := "LastCalledModel", name := "is", desc := "(I)I" } : Jvm.MethodName)) ∈ lw_G := lw_Gm (lw_t4 (List.mem_of_getElem? (i := 202) rfl)) rfl
theorem m4_203 : (Jvm.Cond.code ({ cls := "LastCalledModel", name := "is", desc := "(I)I" } : Jvm.MethodName) prog_14_method_49_code (4 : Nat) (Option.some Jvm.ClassFile.FieldType.int)) ∈ lw_G := lw_Gm (lw_t4 (List.mem_of_getElem? (i := 203) rfl)) rfl
theorem m4_204 : (Jvm.Cond.methodLink "LastCalledModel" (154 : Nat) ({ cls := "LastCalledModel", name := "areSo", desc := "(III)Z" } : Jvm.MethodName)) ∈ lw_G := lw_Gm (lw_t4 (List.mem_of_getElem? (i := 204) rfl)) rfl
theorem m4_206 : (Jvm.Cond.instanceMethod ({ cls := "LastCalledModel", name := "areSo", desc := "(III)Z" } : Jvm.MethodName)) ∈ lw_G := lw_Gm (lw_t4 (List.mem_of_getElem? (i := 206) rfl)) rfl
theorem m4_207 : (Jvm.Cond.code ({ cls := "LastCalledModel", name := "areSo", desc := "(III)Z" } : Jvm.MethodName) prog_14_method_48_code (8 : Nat) (Option.some Jvm.ClassFile.FieldType.boolean)) ∈ lw_G := lw_Gm (lw_t4 (List.mem_of_getElem? (i := 207) rfl)) rfl
theorem m4_208 : (Jvm.Cond.methodLink "LastCalledLaw" (114 : Nat) ({ cls := "LastCalledModel", name := "stood", desc := "(I)I" } : Jvm.MethodName)) ∈ lw_G := lw_Gm (lw_t4 (List.mem_of_getElem? (i := 208) rfl)) rfl
theorem m4_209 : (Jvm.Cond.instanceMethod ({ cls := "LastCalledModel", name := "stood", desc := "(I)I" } : Jvm.MethodName)) ∈ lw_G := lw_Gm (lw_t4 (List.mem_of_getElem? (i := 209) rfl)) rfl
theorem m4_210 : (Jvm.Cond.selects "LastCalledModel" ({ cls := "LastCalledModel", name := "stood", desc := "(I)I" } : Jvm.MethodName) ({ cls := "LastCalledModel", name := "stood", desc := "(I)I" } : Jvm.MethodName)) ∈ lw_G := lw_Gm (lw_t4 (List.mem_of_getElem? (i := 210) rfl)) rfl
theorem m4_211 : (Jvm.Cond.code ({ cls := "LastCalledModel", name := "stood", desc := "(I)I" } : Jvm.MethodName) prog_14_method_51_code (2 : Nat) (Option.some Jvm.ClassFile.FieldType.int)) ∈ lw_G := lw_Gm (lw_t4 (List.mem_of_getElem? (i := 211) rfl)) rfl
theorem m4_212 : (Jvm.Cond.methodLink "LastCalledModel" (158 : Nat) ({ cls := "LastCalledModel", name := "placesOf", desc := "(I)I" } : Jvm.MethodName)) ∈ lw_G := lw_Gm (lw_t4 (List.mem_of_getElem? (i := 212) rfl)) rfl
theorem m4_214 : (Jvm.Cond.instanceMethod ({ cls := "LastCalledModel", name := "placesOf", desc := "(I)I" } : Jvm.MethodName)) ∈ lw_G := lw_Gm (lw_t4 (List.mem_of_getElem? (i := 214) rfl)) rfl
theorem m4_215 : (Jvm.Cond.code ({ cls := "LastCalledModel", name := "placesOf", desc := "(I)I" } : Jvm.MethodName) prog_14_method_50_code (4 : Nat) (Option.some Jvm.ClassFile.FieldType.int)) ∈ lw_G := lw_Gm (lw_t4 (List.mem_of_getElem? (i := 215) rfl)) rfl
theorem m4_216 : (Jvm.Cond.methodLink "LastCalledLaw" (118 : Nat) ({ cls := "LastCalledModel", name := "next", desc := "(I)I" } : Jvm.MethodName)) ∈ lw_G := lw_Gm (lw_t4 (List.mem_of_getElem? (i := 216) rfl)) rfl
theorem m4_217 : (Jvm.Cond.instanceMethod ({ cls := "LastCalledModel", name := "next", desc := "(I)I" } : Jvm.MethodName)) ∈ lw_G := lw_Gm (lw_t4 (List.mem_of_getElem? (i := 217) rfl)) rfl
theorem m4_218 : (Jvm.Cond.selects "LastCalledModel" ({ cls := "LastCalledModel", name := "next", desc := "(I)I" } : Jvm.MethodName) ({ cls := "LastCalledModel", name := "next", desc := "(I)I" } : Jvm.MethodName)) ∈ lw_G := lw_Gm (lw_t4 (List.mem_of_getElem? (i := 218) rfl)) rfl
theorem m4_219 : (Jvm.Cond.code ({ cls := "LastCalledModel", name := "next", desc := "(I)I" } : Jvm.MethodName) prog_14_method_52_code (8 : Nat) (Option.some Jvm.ClassFile.FieldType.int)) ∈ lw_G := lw_Gm (lw_t4 (List.mem_of_getElem? (i := 219) rfl)) rfl
theorem m4_220 : (Jvm.Cond.constant "LastCalledModel" (161 : Nat) (1000000 : Int32)) ∈ lw_G := lw_Gm (lw_t4 (List.mem_of_getElem? (i := 220) rfl)) rfl
theorem m4_221 : (Jvm.Cond.methodLink "LastCalledLaw" (122 : Nat) ({ cls := "LastCalledModel", name := "trippers", desc := "(IIII)I" } : Jvm.MethodName)) ∈ lw_G := lw_Gm (lw_t4 (List.mem_of_getElem? (i := 221) rfl)) rfl
theorem m4_222 : (Jvm.Cond.instanceMethod ({ cls := "LastCalledModel", name := "trippers", desc := "(IIII)I" } : Jvm.MethodName)) ∈ lw_G := lw_Gm (lw_t4 (List.mem_of_getElem? (i := 222) rfl)) rfl
theorem m4_223 : (Jvm.Cond.selects "LastCalledModel" ({ cls := "LastCalledModel", name := "trippers", desc := "(IIII)I" } : Jvm.MethodName) ({ cls := "LastCalledModel", name := "trippers", desc := "(IIII)I" } : Jvm.MethodName)) ∈ lw_G := lw_Gm (lw_t4 (List.mem_of_getElem? (i := 223) rfl)) rfl
theorem m4_224 : (Jvm.Cond.code ({ cls := "LastCalledModel", name := "trippers", desc := "(IIII)I" } : Jvm.MethodName) prog_14_method_53_code (13 : Nat) (Option.some Jvm.ClassFile.FieldType.int)) ∈ lw_G := lw_Gm (lw_t4 (List.mem_of_getElem? (i := 224) rfl)) rfl
theorem m4_225 : (Jvm.Cond.constantLong "LastCalledModel" (162 : Nat) (10 : Int64)) ∈ lw_G := lw_Gm (lw_t4 (List.mem_of_getElem? (i := 225) rfl)) rfl
theorem m4_226 : (Jvm.Cond.methodLink "LastCalledLaw" (126 : Nat) ({ cls := "LastCalledModel", name := "weeks", desc := "(II)I" } : Jvm.MethodName)) ∈ lw_G := lw_Gm (lw_t4 (List.mem_of_getElem? (i := 226) rfl)) rfl
theorem m4_227 : (Jvm.Cond.instanceMethod ({ cls := "LastCalledModel", name := "weeks", desc := "(II)I" } : Jvm.MethodName)) ∈ lw_G := lw_Gm (lw_t4 (List.mem_of_getElem? (i := 227) rfl)) rfl
theorem m4_228 : (Jvm.Cond.selects "LastCalledModel" ({ cls := "LastCalledModel", name := "weeks", desc := "(II)I" } : Jvm.MethodName) ({ cls := "LastCalledModel", name := "weeks", desc := "(II)I" } : Jvm.MethodName)) ∈ lw_G := lw_Gm (lw_t4 (List.mem_of_getElem? (i := 228) rfl)) rfl
theorem m4_229 : (Jvm.Cond.code ({ cls := "LastCalledModel", name := "weeks", desc := "(II)I" } : Jvm.MethodName) prog_14_method_54_code (7 : Nat) (Option.some Jvm.ClassFile.FieldType.int)) ∈ lw_G := lw_Gm (lw_t4 (List.mem_of_getElem? (i := 229) rfl)) rfl
theorem m4_230 : (Jvm.Cond.constantLong "LastCalledModel" (164 : Nat) (999999 : Int64)) ∈ lw_G := lw_Gm (lw_t4 (List.mem_of_getElem? (i := 230) rfl)) rfl
theorem m4_231 : (Jvm.Cond.constantLong "LastCalledModel" (166 : Nat) (1103515245 : Int64)) ∈ lw_G := lw_Gm (lw_t4 (List.mem_of_getElem? (i := 231) rfl)) rfl
theorem m4_232 : (Jvm.Cond.constantLong "LastCalledModel" (168 : Nat) (12345 : Int64)) ∈ lw_G := lw_Gm (lw_t4 (List.mem_of_getElem? (i := 232) rfl)) rfl
theorem m4_233 : (Jvm.Cond.constantLong "LastCalledModel" (170 : Nat) (2147483648 : Int64)) ∈ lw_G := lw_Gm (lw_t4 (List.mem_of_getElem? (i := 233) rfl)) rfl
theorem m4_234 : (Jvm.Cond.constantLong "LastCalledModel" (172 : Nat) (65536 : Int64)) ∈ lw_G := lw_Gm (lw_t4 (List.mem_of_getElem? (i := 234) rfl)) rfl
theorem m4_235 : (Jvm.Cond.constantLong "LastCalledModel" (174 : Nat) (1048576 : Int64)) ∈ lw_G := lw_Gm (lw_t4 (List.mem_of_getElem? (i := 235) rfl)) rfl
theorem m4_236 : (Jvm.Cond.methodLink "LastCalledLaw" (26 : Nat) ({ cls := "LastCalledModel", name := "type", desc := "(I)I" } : Jvm.MethodName)) ∈ lw_G := lw_Gm (lw_t4 (List.mem_of_getElem? (i := 236) rfl)) rfl
theorem m4_237 : (Jvm.Cond.instanceMethod ({ cls := "LastCalledModel", name := "type", desc := "(I)I" } : Jvm.MethodName)) ∈ lw_G := lw_Gm (lw_t4 (List.mem_of_getElem? (i := 237) rfl)) rfl
theorem m4_238 : (Jvm.Cond.selects "LastCalledModel" ({ cls := "LastCalledModel", name := "type", desc := "(I)I" } : Jvm.MethodName) ({ cls := "LastCalledModel", name := "type", desc := "(I)I" } : Jvm.MethodName)) ∈ lw_G := lw_Gm (lw_t4 (List.mem_of_getElem? (i := 238) rfl)) rfl
theorem m4_239 : (Jvm.Cond.code ({ cls := "LastCalledModel", name := "type", desc := "(I)I" } : Jvm.MethodName) prog_14_method_55_code (2 : Nat) (Option.some Jvm.ClassFile.FieldType.int)) ∈ lw_G := lw_Gm (lw_t4 (List.mem_of_getElem? (i := 239) rfl)) rfl
theorem m5_0 : (Jvm.Cond.constantLong "LastCalledModel" (176 : Nat) (127 : Int64)) ∈ lw_G := lw_Gm (lw_t5 (List.mem_of_getElem? (i := 0) rfl)) rfl
theorem m5_1 : (Jvm.Cond.methodLink "LastCalledLaw" (31 : Nat) ({ cls := "LastCalledModel", name := "clear", desc := "()I" } : Jvm.MethodName)) ∈ lw_G := lw_Gm (lw_t5 (List.mem_of_getElem? (i := 1) rfl)) rfl
theorem m5_2 : (Jvm.Cond.instanceMethod ({ cls := "LastCalledModel", name := "clear", desc := "()I" } : Jvm.MethodName)) ∈ lw_G := lw_Gm (lw_t5 (List.mem_of_getElem? (i := 2) rfl)) rfl
theorem m5_3 : (Jvm.Cond.selects "LastCalledModel" ({ cls := "LastCalledModel", name := "clear", desc := "()I" } : Jvm.MethodName) ({ cls := "LastCalledModel", name := "clear", desc := "()I" } : Jvm.MethodName)) ∈ lw_G := lw_Gm (lw_t5 (List.mem_of_getElem? (i := 3) rfl)) rfl
theorem m5_4 : (Jvm.Cond.code ({ cls := "LastCalledModel", name := "clear", desc := "()I" } : Jvm.MethodName) prog_14_method_56_code (2 : Nat) (Option.some Jvm.ClassFile.FieldType.int)) ∈ lw_G := lw_Gm (lw_t5 (List.mem_of_getElem? (i := 4) rfl)) rfl
theorem m5_5 : (Jvm.Cond.methodLink "LastCalledLaw" (35 : Nat) ({ cls := "LastCalledModel", name := "read", desc := "()I" } : Jvm.MethodName)) ∈ lw_G := lw_Gm (lw_t5 (List.mem_of_getElem? (i := 5) rfl)) rfl
theorem m5_6 : (Jvm.Cond.instanceMethod ({ cls := "LastCalledModel", name := "read", desc := "()I" } : Jvm.MethodName)) ∈ lw_G := lw_Gm (lw_t5 (List.mem_of_getElem? (i := 6) rfl)) rfl
theorem m5_7 : (Jvm.Cond.selects "LastCalledModel" ({ cls := "LastCalledModel", name := "read", desc := "()I" } : Jvm.MethodName) ({ cls := "LastCalledModel", name := "read", desc := "()I" } : Jvm.MethodName)) ∈ lw_G := lw_Gm (lw_t5 (List.mem_of_getElem? (i := 7) rfl)) rfl
theorem m5_8 : (Jvm.Cond.code ({ cls := "LastCalledModel", name := "read", desc := "()I" } : Jvm.MethodName) prog_14_method_67_code (3 : Nat) (Option.some Jvm.ClassFile.FieldType.int)) ∈ lw_G := lw_Gm (lw_t5 (List.mem_of_getElem? (i := 8) rfl)) rfl
theorem m5_9 : (Jvm.Cond.methodLink "LastCalledModel" (207 : Nat) ({ cls := "LastCalledModel", name := "lookAt", desc := "(I)V" } : Jvm.MethodName)) ∈ lw_G := lw_Gm (lw_t5 (List.mem_of_getElem? (i := 9) rfl)) rfl
theorem m5_11 : (Jvm.Cond.instanceMethod ({ cls := "LastCalledModel", name := "lookAt", desc := "(I)V" } : Jvm.MethodName)) ∈ lw_G := lw_Gm (lw_t5 (List.mem_of_getElem? (i := 11) rfl)) rfl
theorem m5_12 : (Jvm.Cond.code ({ cls := "LastCalledModel", name := "lookAt", desc := "(I)V" } : Jvm.MethodName) prog_14_method_59_code (5 : Nat) (Option.none : Option Jvm.ClassFile.FieldType)) ∈ lw_G := lw_Gm (lw_t5 (List.mem_of_getElem? (i := 12) rfl)) rfl
theorem m5_13 : (Jvm.Cond.methodLink "LastCalledModel" (201 : Nat) ({ cls := "LastCalledModel", name := "isSmall", desc := "(I)Z" } : Jvm.MethodName)) ∈ lw_G := lw_Gm (lw_t5 (List.mem_of_getElem? (i := 13) rfl)) rfl
theorem m5_14 : (Jvm.Cond.static ({ cls := "LastCalledModel", name := "isSmall", desc := "(I)Z" } : Jvm.MethodName)) ∈ lw_G := lw_Gm (lw_t5 (List.mem_of_getElem? (i := 14) rfl)) rfl
theorem m5_15 : (Jvm.Cond.code ({ cls := "LastCalledModel", name := "isSmall", desc := "(I)Z" } : Jvm.MethodName) prog_14_method_57_code (1 : Nat) (Option.some Jvm.ClassFile.FieldType.boolean)) ∈ lw_G := lw_Gm (lw_t5 (List.mem_of_getElem? (i := 15) rfl)) rfl
theorem m5_16 : (Jvm.Cond.constantLong "LastCalledModel" (181 : Nat) (97 : Int64)) ∈ lw_G := lw_Gm (lw_t5 (List.mem_of_getElem? (i := 16) rfl)) rfl
theorem m5_17 : (Jvm.Cond.constantLong "LastCalledModel" (183 : Nat) (122 : Int64)) ∈ lw_G := lw_Gm (lw_t5 (List.mem_of_getElem? (i := 17) rfl)) rfl
theorem m5_18 : (Jvm.Cond.methodLink "LastCalledModel" (204 : Nat) ({ cls := "LastCalledModel", name := "isFigure", desc := "(I)Z" } : Jvm.MethodName)) ∈ lw_G := lw_Gm (lw_t5 (List.mem_of_getElem? (i := 18) rfl)) rfl
theorem m5_19 : (Jvm.Cond.static ({ cls := "LastCalledModel", name := "isFigure", desc := "(I)Z" } : Jvm.MethodName)) ∈ lw_G := lw_Gm (lw_t5 (List.mem_of_getElem? (i := 19) rfl)) rfl
theorem m5_20 : (Jvm.Cond.code ({ cls := "LastCalledModel", name := "isFigure", desc := "(I)Z" } : Jvm.MethodName) prog_14_method_58_code (1 : Nat) (Option.some Jvm.ClassFile.FieldType.boolean)) ∈ lw_G := lw_Gm (lw_t5 (List.mem_of_getElem? (i := 20) rfl)) rfl
theorem m5_21 : (Jvm.Cond.constantLong "LastCalledModel" (185 : Nat) (48 : Int64)) ∈ lw_G := lw_Gm (lw_t5 (List.mem_of_getElem? (i := 21) rfl)) rfl
theorem m5_22 : (Jvm.Cond.constantLong "LastCalledModel" (187 : Nat) (57 : Int64)) ∈ lw_G := lw_Gm (lw_t5 (List.mem_of_getElem? (i := 22) rfl)) rfl
theorem m5_23 : (Jvm.Cond.methodLink "LastCalledModel" (229 : Nat) ({ cls := "LastCalledModel", name := "takesHamlet", desc := "()Z" } : Jvm.MethodName)) ∈ lw_G := lw_Gm (lw_t5 (List.mem_of_getElem? (i := 23) rfl)) rfl
theorem m5_25 : (Jvm.Cond.instanceMethod ({ cls := "LastCalledModel", name := "takesHamlet", desc := "()Z" } : Jvm.MethodName)) ∈ lw_G := lw_Gm (lw_t5 (List.mem_of_getElem? (i := 25) rfl)) rfl
theorem m5_26 : (Jvm.Cond.code ({ cls := "LastCalledModel", name := "takesHamlet", desc := "()Z" } : Jvm.MethodName) prog_14_method_63_code (1 : Nat) (Option.some Jvm.ClassFile.FieldType.boolean)) ∈ lw_G := lw_Gm (lw_t5 (List.mem_of_getElem? (i := 26) rfl)) rfl
theorem m5_27 : (Jvm.Cond.methodLink "LastCalledModel" (214 : Nat) ({ cls := "LastCalledModel", name := "spells", desc := "(IIIIIII)Z" } : Jvm.MethodName)) ∈ lw_G := lw_Gm (lw_t5 (List.mem_of_getElem? (i := 27) rfl)) rfl
theorem m5_29 : (Jvm.Cond.instanceMethod ({ cls := "LastCalledModel", name := "spells", desc := "(IIIIIII)Z" } : Jvm.MethodName)) ∈ lw_G := lw_Gm (lw_t5 (List.mem_of_getElem? (i := 29) rfl)) rfl
theorem m5_30 : (Jvm.Cond.code ({ cls := "LastCalledModel", name := "spells", desc := "(IIIIIII)Z" } : Jvm.MethodName) prog_14_method_61_code (10 : Nat) (Option.some Jvm.ClassFile.FieldType.boolean)) ∈ lw_G := lw_Gm (lw_t5 (List.mem_of_getElem? (i := 30) rfl)) rfl
theorem m5_31 : (Jvm.Cond.methodLink "LastCalledModel" (211 : Nat) ({ cls := "LastCalledModel", name := "goBehind", desc := "()V" } : Jvm.MethodName)) ∈ lw_G := lw_Gm (lw_t5 (List.mem_of_getElem? (i := 31) rfl)) rfl
theorem m5_33 : (Jvm.Cond.instanceMethod ({ cls := "LastCalledModel", name := "goBehind", desc := "()V" } : Jvm.MethodName)) ∈ lw_G := lw_Gm (lw_t5 (List.mem_of_getElem? (i := 33) rfl)) rfl
theorem m5_34 : (Jvm.Cond.code ({ cls := "LastCalledModel", name := "goBehind", desc := "()V" } : Jvm.MethodName) prog_14_method_60_code (1 : Nat) (Option.none : Option Jvm.ClassFile.FieldType)) ∈ lw_G := lw_Gm (lw_t5 (List.mem_of_getElem? (i := 34) rfl)) rfl
theorem m5_35 : (Jvm.Cond.methodLink "LastCalledModel" (218 : Nat) ({ cls := "LastCalledModel", name := "takes", desc := "(III)Z" } : Jvm.MethodName)) ∈ lw_G := lw_Gm (lw_t5 (List.mem_of_getElem? (i := 35) rfl)) rfl
theorem m5_37 : (Jvm.Cond.instanceMethod ({ cls := "LastCalledModel", name := "takes", desc := "(III)Z" } : Jvm.MethodName)) ∈ lw_G := lw_Gm (lw_t5 (List.mem_of_getElem? (i := 37) rfl)) rfl
theorem m5_38 : (Jvm.Cond.code ({ cls := "LastCalledModel", name := "takes", desc := "(III)Z" } : Jvm.MethodName) prog_14_method_62_code (4 : Nat) (Option.some Jvm.ClassFile.FieldType.boolean)) ∈ lw_G := lw_Gm (lw_t5 (List.mem_of_getElem? (i := 38) rfl)) rfl
theorem m5_39 : (Jvm.Cond.methodLink "LastCalledModel" (232 : Nat) ({ cls := "LastCalledModel", name := "takesItem", desc := "()Z" } : Jvm.MethodName)) ∈ lw_G := lw_Gm (lw_t5 (List.mem_of_getElem? (i := 39) rfl)) rfl
theorem m5_41 : (Jvm.Cond.instanceMethod ({ cls := "LastCalledModel", name := "takesItem", desc := "()Z" } : Jvm.MethodName)) ∈ lw_G := lw_Gm (lw_t5 (List.mem_of_getElem? (i := 41) rfl)) rfl
theorem m5_42 : (Jvm.Cond.code ({ cls := "LastCalledModel", name := "takesItem", desc := "()Z" } : Jvm.MethodName) prog_14_method_66_code (1 : Nat) (Option.some Jvm.ClassFile.FieldType.boolean)) ∈ lw_G := lw_Gm (lw_t5 (List.mem_of_getElem? (i := 42) rfl)) rfl
theorem m5_43 : (Jvm.Cond.methodLink "LastCalledModel" (221 : Nat) ({ cls := "LastCalledModel", name := "takesOne", desc := "()Z" } : Jvm.MethodName)) ∈ lw_G := lw_Gm (lw_t5 (List.mem_of_getElem? (i := 43) rfl)) rfl
theorem m5_45 : (Jvm.Cond.instanceMethod ({ cls := "LastCalledModel", name := "takesOne", desc := "()Z" } : Jvm.MethodName)) ∈ lw_G := lw_Gm (lw_t5 (List.mem_of_getElem? (i := 45) rfl)) rfl
theorem m5_46 : (Jvm.Cond.code ({ cls := "LastCalledModel", name := "takesOne", desc := "()Z" } : Jvm.MethodName) prog_14_method_64_code (1 : Nat) (Option.some Jvm.ClassFile.FieldType.boolean)) ∈ lw_G := lw_Gm (lw_t5 (List.mem_of_getElem? (i := 46) rfl)) rfl
theorem m5_47 : (Jvm.Cond.methodLink "LastCalledModel" (225 : Nat) ({ cls := "LastCalledModel", name := "takesBears", desc := "(Z)Z" } : Jvm.MethodName)) ∈ lw_G := lw_Gm (lw_t5 (List.mem_of_getElem? (i := 47) rfl)) rfl
theorem m5_49 : (Jvm.Cond.instanceMethod ({ cls := "LastCalledModel", name := "takesBears", desc := "(Z)Z" } : Jvm.MethodName)) ∈ lw_G := lw_Gm (lw_t5 (List.mem_of_getElem? (i := 49) rfl)) rfl
theorem m5_50 : (Jvm.Cond.code ({ cls := "LastCalledModel", name := "takesBears", desc := "(Z)Z" } : Jvm.MethodName) prog_14_method_65_code (2 : Nat) (Option.some Jvm.ClassFile.FieldType.boolean)) ∈ lw_G := lw_Gm (lw_t5 (List.mem_of_getElem? (i := 50) rfl)) rfl
theorem m5_51 : (Jvm.Cond.methodLink "LastCalledLaw" (131 : Nat) ({ cls := "LastCalledModel", name := "part", desc := "(I)J" } : Jvm.MethodName)) ∈ lw_G := lw_Gm (lw_t5 (List.mem_of_getElem? (i := 51) rfl)) rfl
theorem m5_52 : (Jvm.Cond.instanceMethod ({ cls := "LastCalledModel", name := "part", desc := "(I)J" } : Jvm.MethodName)) ∈ lw_G := lw_Gm (lw_t5 (List.mem_of_getElem? (i := 52) rfl)) rfl
theorem m5_53 : (Jvm.Cond.selects "LastCalledModel" ({ cls := "LastCalledModel", name := "part", desc := "(I)J" } : Jvm.MethodName) ({ cls := "LastCalledModel", name := "part", desc := "(I)J" } : Jvm.MethodName)) ∈ lw_G := lw_Gm (lw_t5 (List.mem_of_getElem? (i := 53) rfl)) rfl
theorem m5_54 : (Jvm.Cond.code ({ cls := "LastCalledModel", name := "part", desc := "(I)J" } : Jvm.MethodName) prog_14_method_68_code (2 : Nat) (Option.some Jvm.ClassFile.FieldType.long)) ∈ lw_G := lw_Gm (lw_t5 (List.mem_of_getElem? (i := 54) rfl)) rfl
theorem m5_55 : (Jvm.Cond.methodLink "LastCalledLaw" (135 : Nat) ({ cls := "LastCalledModel", name := "image", desc := "(I)I" } : Jvm.MethodName)) ∈ lw_G := lw_Gm (lw_t5 (List.mem_of_getElem? (i := 55) rfl)) rfl
theorem m5_56 : (Jvm.Cond.instanceMethod ({ cls := "LastCalledModel", name := "image", desc := "(I)I" } : Jvm.MethodName)) ∈ lw_G := lw_Gm (lw_t5 (List.mem_of_getElem? (i := 56) rfl)) rfl
theorem m5_57 : (Jvm.Cond.selects "LastCalledModel" ({ cls := "LastCalledModel", name := "image", desc := "(I)I" } : Jvm.MethodName) ({ cls := "LastCalledModel", name := "image", desc := "(I)I" } : Jvm.MethodName)) ∈ lw_G := lw_Gm (lw_t5 (List.mem_of_getElem? (i := 57) rfl)) rfl
theorem m5_58 : (Jvm.Cond.code ({ cls := "LastCalledModel", name := "image", desc := "(I)I" } : Jvm.MethodName) prog_14_method_69_code (3 : Nat) (Option.some Jvm.ClassFile.FieldType.int)) ∈ lw_G := lw_Gm (lw_t5 (List.mem_of_getElem? (i := 58) rfl)) rfl
theorem m5_59 : (Jvm.Cond.methodLink "LastCalledLaw" (139 : Nat) ({ cls := "LastCalledModel", name := "from", desc := "(I)I" } : Jvm.MethodName)) ∈ lw_G := lw_Gm (lw_t5 (List.mem_of_getElem? (i := 59) rfl)) rfl
theorem m5_60 : (Jvm.Cond.instanceMethod ({ cls := "LastCalledModel", name := "from", desc := "(I)I" } : Jvm.MethodName)) ∈ lw_G := lw_Gm (lw_t5 (List.mem_of_getElem? (i := 60) rfl)) rfl
theorem m5_61 : (Jvm.Cond.selects "LastCalledModel" ({ cls := "LastCalledModel", name := "from", desc := "(I)I" } : Jvm.MethodName) ({ cls := "LastCalledModel", name := "from", desc := "(I)I" } : Jvm.MethodName)) ∈ lw_G := lw_Gm (lw_t5 (List.mem_of_getElem? (i := 61) rfl)) rfl
theorem m5_62 : (Jvm.Cond.code ({ cls := "LastCalledModel", name := "from", desc := "(I)I" } : Jvm.MethodName) prog_14_method_70_code (3 : Nat) (Option.some Jvm.ClassFile.FieldType.int)) ∈ lw_G := lw_Gm (lw_t5 (List.mem_of_getElem? (i := 62) rfl)) rfl
theorem m5_63 : (Jvm.Cond.methodLink "LastCalledLaw" (143 : Nat) ({ cls := "LastCalledModel", name := "status", desc := "(I)I" } : Jvm.MethodName)) ∈ lw_G := lw_Gm (lw_t5 (List.mem_of_getElem? (i := 63) rfl)) rfl
theorem m5_64 : (Jvm.Cond.instanceMethod ({ cls := "LastCalledModel", name := "status", desc := "(I)I" } : Jvm.MethodName)) ∈ lw_G := lw_Gm (lw_t5 (List.mem_of_getElem? (i := 64) rfl)) rfl
theorem m5_65 : (Jvm.Cond.selects "LastCalledModel" ({ cls := "LastCalledModel", name := "status", desc := "(I)I" } : Jvm.MethodName) ({ cls := "LastCalledModel", name := "status", desc := "(I)I" } : Jvm.MethodName)) ∈ lw_G := lw_Gm (lw_t5 (List.mem_of_getElem? (i := 65) rfl)) rfl
theorem m5_66 : (Jvm.Cond.code ({ cls := "LastCalledModel", name := "status", desc := "(I)I" } : Jvm.MethodName) prog_14_method_71_code (2 : Nat) (Option.some Jvm.ClassFile.FieldType.int)) ∈ lw_G := lw_Gm (lw_t5 (List.mem_of_getElem? (i := 66) rfl)) rfl
theorem m5_67 : (Jvm.Cond.methodLink "LastCalledLaw" (147 : Nat) ({ cls := "LastCalledModel", name := "count", desc := "(I)I" } : Jvm.MethodName)) ∈ lw_G := lw_Gm (lw_t5 (List.mem_of_getElem? (i := 67) rfl)) rfl
theorem m5_68 : (Jvm.Cond.instanceMethod ({ cls := "LastCalledModel", name := "count", desc := "(I)I" } : Jvm.MethodName)) ∈ lw_G := lw_Gm (lw_t5 (List.mem_of_getElem? (i := 68) rfl)) rfl
theorem m5_69 : (Jvm.Cond.selects "LastCalledModel" ({ cls := "LastCalledModel", name := "count", desc := "(I)I" } : Jvm.MethodName) ({ cls := "LastCalledModel", name := "count", desc := "(I)I" } : Jvm.MethodName)) ∈ lw_G := lw_Gm (lw_t5 (List.mem_of_getElem? (i := 69) rfl)) rfl
theorem m5_70 : (Jvm.Cond.code ({ cls := "LastCalledModel", name := "count", desc := "(I)I" } : Jvm.MethodName) prog_14_method_73_code (2 : Nat) (Option.some Jvm.ClassFile.FieldType.int)) ∈ lw_G := lw_Gm (lw_t5 (List.mem_of_getElem? (i := 70) rfl)) rfl
theorem m5_71 : (Jvm.Cond.constantLong "LastCalledModel" (235 : Nat) (6 : Int64)) ∈ lw_G := lw_Gm (lw_t5 (List.mem_of_getElem? (i := 71) rfl)) rfl
theorem m5_72 : (Jvm.Cond.methodLink "LastCalledModel" (237 : Nat) ({ cls := "LastCalledModel", name := "counted", desc := "(I)I" } : Jvm.MethodName)) ∈ lw_G := lw_Gm (lw_t5 (List.mem_of_getElem? (i := 72) rfl)) rfl
theorem m5_74 : (Jvm.Cond.instanceMethod ({ cls := "LastCalledModel", name := "counted", desc := "(I)I" } : Jvm.MethodName)) ∈ lw_G := lw_Gm (lw_t5 (List.mem_of_getElem? (i := 74) rfl)) rfl
theorem m5_75 : (Jvm.Cond.code ({ cls := "LastCalledModel", name := "counted", desc := "(I)I" } : Jvm.MethodName) prog_14_method_72_code (2 : Nat) (Option.some Jvm.ClassFile.FieldType.int)) ∈ lw_G := lw_Gm (lw_t5 (List.mem_of_getElem? (i := 75) rfl)) rfl
theorem m5_76 : (Jvm.Cond.methodLink "LastCalledLaw" (152 : Nat) ({ cls := "LastCalledModel", name := "digest", desc := "()J" } : Jvm.MethodName)) ∈ lw_G := lw_Gm (lw_t5 (List.mem_of_getElem? (i := 76) rfl)) rfl
theorem m5_77 : (Jvm.Cond.instanceMethod ({ cls := "LastCalledModel", name := "digest", desc := "()J" } : Jvm.MethodName)) ∈ lw_G := lw_Gm (lw_t5 (List.mem_of_getElem? (i := 77) rfl)) rfl
theorem m5_78 : (Jvm.Cond.selects "LastCalledModel" ({ cls := "LastCalledModel", name := "digest", desc := "()J" } : Jvm.MethodName) ({ cls := "LastCalledModel", name := "digest", desc := "()J" } : Jvm.MethodName)) ∈ lw_G := lw_Gm (lw_t5 (List.mem_of_getElem? (i := 78) rfl)) rfl
theorem m5_79 : (Jvm.Cond.code ({ cls := "LastCalledModel", name := "digest", desc := "()J" } : Jvm.MethodName) prog_14_method_75_code (4 : Nat) (Option.some Jvm.ClassFile.FieldType.long)) ∈ lw_G := lw_Gm (lw_t5 (List.mem_of_getElem? (i := 79) rfl)) rfl
theorem m5_80 : (Jvm.Cond.constantLong "LastCalledModel" (242 : Nat) (1201 : Int64)) ∈ lw_G := lw_Gm (lw_t5 (List.mem_of_getElem? (i := 80) rfl)) rfl
theorem m5_81 : (Jvm.Cond.constantLong "LastCalledModel" (240 : Nat) (31 : Int64)) ∈ lw_G := lw_Gm (lw_t5 (List.mem_of_getElem? (i := 81) rfl)) rfl
theorem m5_82 : (Jvm.Cond.methodLink "LastCalledModel" (244 : Nat) ({ cls := "LastCalledModel", name := "sums", desc := "(JII)J" } : Jvm.MethodName)) ∈ lw_G := lw_Gm (lw_t5 (List.mem_of_getElem? (i := 82) rfl)) rfl
theorem m5_84 : (Jvm.Cond.instanceMethod ({ cls := "LastCalledModel", name := "sums", desc := "(JII)J" } : Jvm.MethodName)) ∈ lw_G := lw_Gm (lw_t5 (List.mem_of_getElem? (i := 84) rfl)) rfl
theorem m5_85 : (Jvm.Cond.code ({ cls := "LastCalledModel", name := "sums", desc := "(JII)J" } : Jvm.MethodName) prog_14_method_74_code (8 : Nat) (Option.some Jvm.ClassFile.FieldType.long)) ∈ lw_G := lw_Gm (lw_t5 (List.mem_of_getElem? (i := 85) rfl)) rfl
theorem m5_86 : (Jvm.Cond.sameMethod "LastCalled$Careful" "LastCalled$Careful" "turns" "(IZZI)Z") ∈ lw_G := lw_Gm (lw_t5 (List.mem_of_getElem? (i := 86) rfl)) rfl
theorem m5_87 : (Jvm.Cond.sameMethod "LastCalled$Child" "LastCalled$Child" "turns" "(IZZI)Z") ∈ lw_G := lw_Gm (lw_t5 (List.mem_of_getElem? (i := 87) rfl)) rfl
theorem m5_93 : (Jvm.Cond.fieldLink "java/lang/String" (9 : Nat) "java/lang/String" "value" "[B") ∈ lw_G := lw_Gm (lw_t5 (List.mem_of_getElem? (i := 93) rfl)) rfl
theorem m5_94 : (Jvm.Cond.fieldLink "java/lang/String" (15 : Nat) "java/lang/String" "coder" "B") ∈ lw_G := lw_Gm (lw_t5 (List.mem_of_getElem? (i := 94) rfl)) rfl
theorem ms_0 : Cond.selects "LastCalled" (⟨"LastCalled", "refuse", "(I)I"⟩ : MethodName) (⟨"LastCalled", "refuse", "(I)I"⟩ : MethodName) ∈ lw_G := lw_s1 (q := ((⟨"LastCalled", "refuse", "(I)I"⟩ : MethodName), 9)) (List.mem_of_getElem? (i := 0) rfl) rfl rfl
theorem ms_1 : Cond.selects "LastCalled$Text" (⟨"LastCalled$Text", "advance", "()V"⟩ : MethodName) (⟨"LastCalled$Text", "advance", "()V"⟩ : MethodName) ∈ lw_G := lw_s1 (q := ((⟨"LastCalled$Text", "advance", "()V"⟩ : MethodName), 6)) (List.mem_of_getElem? (i := 1) rfl) rfl rfl
theorem ms_2 : Cond.selects "LastCalled$Text" (⟨"LastCalled$Text", "isWord", "(Ljava/lang/String;)Z"⟩ : MethodName) (⟨"LastCalled$Text", "isWord", "(Ljava/lang/String;)Z"⟩ : MethodName) ∈ lw_G := lw_s1 (q := ((⟨"LastCalled$Text", "isWord", "(Ljava/lang/String;)Z"⟩ : MethodName), 6)) (List.mem_of_getElem? (i := 2) rfl) rfl rfl
theorem ms_3 : Cond.selects "LastCalled$Text" (⟨"LastCalled$Text", "isNumberNext", "(I)Z"⟩ : MethodName) (⟨"LastCalled$Text", "isNumberNext", "(I)Z"⟩ : MethodName) ∈ lw_G := lw_s1 (q := ((⟨"LastCalled$Text", "isNumberNext", "(I)Z"⟩ : MethodName), 6)) (List.mem_of_getElem? (i := 3) rfl) rfl rfl
theorem ms_4 : Cond.selects "LastCalled$Text" (⟨"LastCalled$Text", "isItem", "(LLastCalled$Hamlet;)Z"⟩ : MethodName) (⟨"LastCalled$Text", "isItem", "(LLastCalled$Hamlet;)Z"⟩ : MethodName) ∈ lw_G := lw_s1 (q := ((⟨"LastCalled$Text", "isItem", "(LLastCalled$Hamlet;)Z"⟩ : MethodName), 6)) (List.mem_of_getElem? (i := 4) rfl) rfl rfl
theorem ms_5 : Cond.selects "LastCalled$Text" (⟨"LastCalled$Text", "isOne", "(LLastCalled$Hamlet;)Z"⟩ : MethodName) (⟨"LastCalled$Text", "isOne", "(LLastCalled$Hamlet;)Z"⟩ : MethodName) ∈ lw_G := lw_s1 (q := ((⟨"LastCalled$Text", "isOne", "(LLastCalled$Hamlet;)Z"⟩ : MethodName), 6)) (List.mem_of_getElem? (i := 5) rfl) rfl rfl
theorem ms_6 : Cond.selects "LastCalled$Text" (⟨"LastCalled$Text", "isBears", "(LLastCalled$Hamlet;)Z"⟩ : MethodName) (⟨"LastCalled$Text", "isBears", "(LLastCalled$Hamlet;)Z"⟩ : MethodName) ∈ lw_G := lw_s1 (q := ((⟨"LastCalled$Text", "isBears", "(LLastCalled$Hamlet;)Z"⟩ : MethodName), 6)) (List.mem_of_getElem? (i := 6) rfl) rfl rfl
theorem ms_7 : Cond.selects "LastCalled$Text" (⟨"LastCalled$Text", "isNone", "(LLastCalled$Hamlet;)Z"⟩ : MethodName) (⟨"LastCalled$Text", "isNone", "(LLastCalled$Hamlet;)Z"⟩ : MethodName) ∈ lw_G := lw_s1 (q := ((⟨"LastCalled$Text", "isNone", "(LLastCalled$Hamlet;)Z"⟩ : MethodName), 6)) (List.mem_of_getElem? (i := 7) rfl) rfl rfl
theorem ms_8 : Cond.selects "LastCalled" (⟨"LastCalled", "isThere", "(I)Z"⟩ : MethodName) (⟨"LastCalled", "isThere", "(I)Z"⟩ : MethodName) ∈ lw_G := lw_s1 (q := ((⟨"LastCalled", "isThere", "(I)Z"⟩ : MethodName), 9)) (List.mem_of_getElem? (i := 8) rfl) rfl rfl
theorem ms_9 : Cond.selects "LastCalled" (⟨"LastCalled", "turnersAt", "(II)I"⟩ : MethodName) (⟨"LastCalled", "turnersAt", "(II)I"⟩ : MethodName) ∈ lw_G := lw_s1 (q := ((⟨"LastCalled", "turnersAt", "(II)I"⟩ : MethodName), 9)) (List.mem_of_getElem? (i := 9) rfl) rfl rfl
theorem ms_10 : Cond.selects "LastCalled$Search" (⟨"LastCalled$Search", "lastCall", "([ILLastCalled$Hearing;II)I"⟩ : MethodName) (⟨"LastCalled$Search", "lastCall", "([ILLastCalled$Hearing;II)I"⟩ : MethodName) ∈ lw_G := lw_s1 (q := ((⟨"LastCalled$Search", "lastCall", "([ILLastCalled$Hearing;II)I"⟩ : MethodName), 4)) (List.mem_of_getElem? (i := 10) rfl) rfl rfl
theorem ms_11 : Cond.selects "LastCalled$Search" (⟨"LastCalled$Search", "callOnce", "(LLastCalled$Hamlet;LLastCalled$Hearing;I)V"⟩ : MethodName) (⟨"LastCalled$Search", "callOnce", "(LLastCalled$Hamlet;LLastCalled$Hearing;I)V"⟩ : MethodName) ∈ lw_G := lw_s1 (q := ((⟨"LastCalled$Search", "callOnce", "(LLastCalled$Hamlet;LLastCalled$Hearing;I)V"⟩ : MethodName), 4)) (List.mem_of_getElem? (i := 11) rfl) rfl rfl
theorem ms_12 : Cond.selects "LastCalled$Search" (⟨"LastCalled$Search", "tryLastCalls", "([ILLastCalled$Hearing;II)V"⟩ : MethodName) (⟨"LastCalled$Search", "tryLastCalls", "([ILLastCalled$Hearing;II)V"⟩ : MethodName) ∈ lw_G := lw_s1 (q := ((⟨"LastCalled$Search", "tryLastCalls", "([ILLastCalled$Hearing;II)V"⟩ : MethodName), 4)) (List.mem_of_getElem? (i := 12) rfl) rfl rfl
theorem ms_13 : Cond.selects "LastCalled$Search" (⟨"LastCalled$Search", "ownersBehind", "(III)I"⟩ : MethodName) (⟨"LastCalled$Search", "ownersBehind", "(III)I"⟩ : MethodName) ∈ lw_G := lw_s1 (q := ((⟨"LastCalled$Search", "ownersBehind", "(III)I"⟩ : MethodName), 4)) (List.mem_of_getElem? (i := 13) rfl) rfl rfl
theorem ms_14 : Cond.selects "LastCalled" (⟨"LastCalled", "fits", "(III)Z"⟩ : MethodName) (⟨"LastCalled", "fits", "(III)Z"⟩ : MethodName) ∈ lw_G := lw_s1 (q := ((⟨"LastCalled", "fits", "(III)Z"⟩ : MethodName), 9)) (List.mem_of_getElem? (i := 14) rfl) rfl rfl
theorem ms_15 : Cond.selects "LastCalled" (⟨"LastCalled", "placesThatFit", "(I)I"⟩ : MethodName) (⟨"LastCalled", "placesThatFit", "(I)I"⟩ : MethodName) ∈ lw_G := lw_s1 (q := ((⟨"LastCalled", "placesThatFit", "(I)I"⟩ : MethodName), 9)) (List.mem_of_getElem? (i := 15) rfl) rfl rfl
theorem ms_16 : Cond.selects "LastCalled" (⟨"LastCalled", "placesTurningAt", "(II)I"⟩ : MethodName) (⟨"LastCalled", "placesTurningAt", "(II)I"⟩ : MethodName) ∈ lw_G := lw_s1 (q := ((⟨"LastCalled", "placesTurningAt", "(II)I"⟩ : MethodName), 9)) (List.mem_of_getElem? (i := 16) rfl) rfl rfl
theorem ms_17 : Cond.selects "LastCalled" (⟨"LastCalled", "amount", "(I)I"⟩ : MethodName) (⟨"LastCalled", "amount", "(I)I"⟩ : MethodName) ∈ lw_G := lw_s1 (q := ((⟨"LastCalled", "amount", "(I)I"⟩ : MethodName), 9)) (List.mem_of_getElem? (i := 17) rfl) rfl rfl
theorem ms_18 : Cond.selects "LastCalledModel" (⟨"LastCalledModel", "bad", "(I)I"⟩ : MethodName) (⟨"LastCalledModel", "bad", "(I)I"⟩ : MethodName) ∈ lw_G := lw_s1 (q := ((⟨"LastCalledModel", "bad", "(I)I"⟩ : MethodName), 19)) (List.mem_of_getElem? (i := 18) rfl) rfl rfl
theorem ms_19 : Cond.selects "LastCalledModel" (⟨"LastCalledModel", "many", "()I"⟩ : MethodName) (⟨"LastCalledModel", "many", "()I"⟩ : MethodName) ∈ lw_G := lw_s1 (q := ((⟨"LastCalledModel", "many", "()I"⟩ : MethodName), 19)) (List.mem_of_getElem? (i := 19) rfl) rfl rfl
theorem ms_20 : Cond.selects "LastCalledModel" (⟨"LastCalledModel", "full", "()I"⟩ : MethodName) (⟨"LastCalledModel", "full", "()I"⟩ : MethodName) ∈ lw_G := lw_s1 (q := ((⟨"LastCalledModel", "full", "()I"⟩ : MethodName), 19)) (List.mem_of_getElem? (i := 20) rfl) rfl rfl
theorem ms_21 : Cond.selects "LastCalledModel" (⟨"LastCalledModel", "isOne", "(I)Z"⟩ : MethodName) (⟨"LastCalledModel", "isOne", "(I)Z"⟩ : MethodName) ∈ lw_G := lw_s1 (q := ((⟨"LastCalledModel", "isOne", "(I)Z"⟩ : MethodName), 19)) (List.mem_of_getElem? (i := 21) rfl) rfl rfl
theorem ms_22 : Cond.selects "LastCalledModel" (⟨"LastCalledModel", "keep", "()V"⟩ : MethodName) (⟨"LastCalledModel", "keep", "()V"⟩ : MethodName) ∈ lw_G := lw_s1 (q := ((⟨"LastCalledModel", "keep", "()V"⟩ : MethodName), 19)) (List.mem_of_getElem? (i := 22) rfl) rfl rfl
theorem ms_23 : Cond.selects "LastCalledModel" (⟨"LastCalledModel", "layHand", "()V"⟩ : MethodName) (⟨"LastCalledModel", "layHand", "()V"⟩ : MethodName) ∈ lw_G := lw_s1 (q := ((⟨"LastCalledModel", "layHand", "()V"⟩ : MethodName), 19)) (List.mem_of_getElem? (i := 23) rfl) rfl rfl
theorem ms_24 : Cond.selects "LastCalledModel" (⟨"LastCalledModel", "goCall", "(II)I"⟩ : MethodName) (⟨"LastCalledModel", "goCall", "(II)I"⟩ : MethodName) ∈ lw_G := lw_s1 (q := ((⟨"LastCalledModel", "goCall", "(II)I"⟩ : MethodName), 19)) (List.mem_of_getElem? (i := 24) rfl) rfl rfl
theorem ms_25 : Cond.selects "LastCalledModel" (⟨"LastCalledModel", "turning", "(II)I"⟩ : MethodName) (⟨"LastCalledModel", "turning", "(II)I"⟩ : MethodName) ∈ lw_G := lw_s1 (q := ((⟨"LastCalledModel", "turning", "(II)I"⟩ : MethodName), 19)) (List.mem_of_getElem? (i := 25) rfl) rfl rfl
theorem ms_26 : Cond.selects "LastCalledModel" (⟨"LastCalledModel", "bearersOf", "(I)I"⟩ : MethodName) (⟨"LastCalledModel", "bearersOf", "(I)I"⟩ : MethodName) ∈ lw_G := lw_s1 (q := ((⟨"LastCalledModel", "bearersOf", "(I)I"⟩ : MethodName), 19)) (List.mem_of_getElem? (i := 26) rfl) rfl rfl
theorem ms_27 : Cond.selects "LastCalledModel" (⟨"LastCalledModel", "goTurn", "(II)V"⟩ : MethodName) (⟨"LastCalledModel", "goTurn", "(II)V"⟩ : MethodName) ∈ lw_G := lw_s1 (q := ((⟨"LastCalledModel", "goTurn", "(II)V"⟩ : MethodName), 19)) (List.mem_of_getElem? (i := 27) rfl) rfl rfl
theorem ms_28 : Cond.selects "LastCalledModel" (⟨"LastCalledModel", "no", "()I"⟩ : MethodName) (⟨"LastCalledModel", "no", "()I"⟩ : MethodName) ∈ lw_G := lw_s1 (q := ((⟨"LastCalledModel", "no", "()I"⟩ : MethodName), 19)) (List.mem_of_getElem? (i := 28) rfl) rfl rfl
theorem ms_29 : Cond.selects "LastCalledModel" (⟨"LastCalledModel", "layCalls", "(II)V"⟩ : MethodName) (⟨"LastCalledModel", "layCalls", "(II)V"⟩ : MethodName) ∈ lw_G := lw_s1 (q := ((⟨"LastCalledModel", "layCalls", "(II)V"⟩ : MethodName), 19)) (List.mem_of_getElem? (i := 29) rfl) rfl rfl
theorem ms_30 : Cond.selects "LastCalledModel" (⟨"LastCalledModel", "goCodes", "(II)V"⟩ : MethodName) (⟨"LastCalledModel", "goCodes", "(II)V"⟩ : MethodName) ∈ lw_G := lw_s1 (q := ((⟨"LastCalledModel", "goCodes", "(II)V"⟩ : MethodName), 19)) (List.mem_of_getElem? (i := 30) rfl) rfl rfl
theorem ms_31 : Cond.selects "LastCalledModel" (⟨"LastCalledModel", "layOwn", "()V"⟩ : MethodName) (⟨"LastCalledModel", "layOwn", "()V"⟩ : MethodName) ∈ lw_G := lw_s1 (q := ((⟨"LastCalledModel", "layOwn", "()V"⟩ : MethodName), 19)) (List.mem_of_getElem? (i := 31) rfl) rfl rfl
theorem ms_32 : Cond.selects "LastCalledModel" (⟨"LastCalledModel", "judgeOwn", "(II)V"⟩ : MethodName) (⟨"LastCalledModel", "judgeOwn", "(II)V"⟩ : MethodName) ∈ lw_G := lw_s1 (q := ((⟨"LastCalledModel", "judgeOwn", "(II)V"⟩ : MethodName), 19)) (List.mem_of_getElem? (i := 32) rfl) rfl rfl
theorem ms_33 : Cond.selects "LastCalledModel" (⟨"LastCalledModel", "ownNow", "()I"⟩ : MethodName) (⟨"LastCalledModel", "ownNow", "()I"⟩ : MethodName) ∈ lw_G := lw_s1 (q := ((⟨"LastCalledModel", "ownNow", "()I"⟩ : MethodName), 19)) (List.mem_of_getElem? (i := 33) rfl) rfl rfl
theorem ms_34 : Cond.selects "LastCalledModel" (⟨"LastCalledModel", "fraction", "(JJ)V"⟩ : MethodName) (⟨"LastCalledModel", "fraction", "(JJ)V"⟩ : MethodName) ∈ lw_G := lw_s1 (q := ((⟨"LastCalledModel", "fraction", "(JJ)V"⟩ : MethodName), 19)) (List.mem_of_getElem? (i := 34) rfl) rfl rfl
theorem ms_35 : Cond.selects "LastCalledModel" (⟨"LastCalledModel", "penceOn", "(I)I"⟩ : MethodName) (⟨"LastCalledModel", "penceOn", "(I)I"⟩ : MethodName) ∈ lw_G := lw_s1 (q := ((⟨"LastCalledModel", "penceOn", "(I)I"⟩ : MethodName), 19)) (List.mem_of_getElem? (i := 35) rfl) rfl rfl
theorem ms_36 : Cond.selects "LastCalledModel" (⟨"LastCalledModel", "areSo", "(III)Z"⟩ : MethodName) (⟨"LastCalledModel", "areSo", "(III)Z"⟩ : MethodName) ∈ lw_G := lw_s1 (q := ((⟨"LastCalledModel", "areSo", "(III)Z"⟩ : MethodName), 19)) (List.mem_of_getElem? (i := 36) rfl) rfl rfl
theorem ms_37 : Cond.selects "LastCalledModel" (⟨"LastCalledModel", "placesOf", "(I)I"⟩ : MethodName) (⟨"LastCalledModel", "placesOf", "(I)I"⟩ : MethodName) ∈ lw_G := lw_s1 (q := ((⟨"LastCalledModel", "placesOf", "(I)I"⟩ : MethodName), 19)) (List.mem_of_getElem? (i := 37) rfl) rfl rfl
theorem ms_38 : Cond.selects "LastCalledModel" (⟨"LastCalledModel", "lookAt", "(I)V"⟩ : MethodName) (⟨"LastCalledModel", "lookAt", "(I)V"⟩ : MethodName) ∈ lw_G := lw_s1 (q := ((⟨"LastCalledModel", "lookAt", "(I)V"⟩ : MethodName), 19)) (List.mem_of_getElem? (i := 38) rfl) rfl rfl
theorem ms_39 : Cond.selects "LastCalledModel" (⟨"LastCalledModel", "takesHamlet", "()Z"⟩ : MethodName) (⟨"LastCalledModel", "takesHamlet", "()Z"⟩ : MethodName) ∈ lw_G := lw_s1 (q := ((⟨"LastCalledModel", "takesHamlet", "()Z"⟩ : MethodName), 19)) (List.mem_of_getElem? (i := 39) rfl) rfl rfl
theorem ms_40 : Cond.selects "LastCalledModel" (⟨"LastCalledModel", "spells", "(IIIIIII)Z"⟩ : MethodName) (⟨"LastCalledModel", "spells", "(IIIIIII)Z"⟩ : MethodName) ∈ lw_G := lw_s1 (q := ((⟨"LastCalledModel", "spells", "(IIIIIII)Z"⟩ : MethodName), 19)) (List.mem_of_getElem? (i := 40) rfl) rfl rfl
theorem ms_41 : Cond.selects "LastCalledModel" (⟨"LastCalledModel", "goBehind", "()V"⟩ : MethodName) (⟨"LastCalledModel", "goBehind", "()V"⟩ : MethodName) ∈ lw_G := lw_s1 (q := ((⟨"LastCalledModel", "goBehind", "()V"⟩ : MethodName), 19)) (List.mem_of_getElem? (i := 41) rfl) rfl rfl
theorem ms_42 : Cond.selects "LastCalledModel" (⟨"LastCalledModel", "takes", "(III)Z"⟩ : MethodName) (⟨"LastCalledModel", "takes", "(III)Z"⟩ : MethodName) ∈ lw_G := lw_s1 (q := ((⟨"LastCalledModel", "takes", "(III)Z"⟩ : MethodName), 19)) (List.mem_of_getElem? (i := 42) rfl) rfl rfl
theorem ms_43 : Cond.selects "LastCalledModel" (⟨"LastCalledModel", "takesItem", "()Z"⟩ : MethodName) (⟨"LastCalledModel", "takesItem", "()Z"⟩ : MethodName) ∈ lw_G := lw_s1 (q := ((⟨"LastCalledModel", "takesItem", "()Z"⟩ : MethodName), 19)) (List.mem_of_getElem? (i := 43) rfl) rfl rfl
theorem ms_44 : Cond.selects "LastCalledModel" (⟨"LastCalledModel", "takesOne", "()Z"⟩ : MethodName) (⟨"LastCalledModel", "takesOne", "()Z"⟩ : MethodName) ∈ lw_G := lw_s1 (q := ((⟨"LastCalledModel", "takesOne", "()Z"⟩ : MethodName), 19)) (List.mem_of_getElem? (i := 44) rfl) rfl rfl
theorem ms_45 : Cond.selects "LastCalledModel" (⟨"LastCalledModel", "takesBears", "(Z)Z"⟩ : MethodName) (⟨"LastCalledModel", "takesBears", "(Z)Z"⟩ : MethodName) ∈ lw_G := lw_s1 (q := ((⟨"LastCalledModel", "takesBears", "(Z)Z"⟩ : MethodName), 19)) (List.mem_of_getElem? (i := 45) rfl) rfl rfl
theorem ms_46 : Cond.selects "LastCalledModel" (⟨"LastCalledModel", "counted", "(I)I"⟩ : MethodName) (⟨"LastCalledModel", "counted", "(I)I"⟩ : MethodName) ∈ lw_G := lw_s1 (q := ((⟨"LastCalledModel", "counted", "(I)I"⟩ : MethodName), 19)) (List.mem_of_getElem? (i := 46) rfl) rfl rfl
theorem ms_47 : Cond.selects "LastCalledModel" (⟨"LastCalledModel", "sums", "(JII)J"⟩ : MethodName) (⟨"LastCalledModel", "sums", "(JII)J"⟩ : MethodName) ∈ lw_G := lw_s1 (q := ((⟨"LastCalledModel", "sums", "(JII)J"⟩ : MethodName), 19)) (List.mem_of_getElem? (i := 47) rfl) rfl rfl
theorem wX11_hamlet : wdV yX11_hamlet cX11_hamlet 3 (some .int) 1 := ⟨⟨m2_10, m2_11⟩, m1_1, m2_12, by decide, by decide +kernel⟩
theorem wX11_within : wdS yX11_within cX11_within 2 (some .boolean) 2 := ⟨m2_14, m1_1, m2_15, by decide, by decide +kernel⟩
theorem wX11_refuse : wdV yX11_refuse cX11_refuse 3 (some .int) 1 := ⟨⟨m2_18, ms_0⟩, m1_1, m2_19, by decide, by decide +kernel⟩
theorem wX5_begin : wdV yX5_begin cX5_begin 2 none 1 := ⟨⟨m2_21, m2_22⟩, m1_2, m2_23, by decide, by decide +kernel⟩
theorem wJ7_fill_53178 : wdS yJ7_fill_53178 cJ7_fill_53178 4 none 2 := ⟨m2_25, m1_14, m2_26, by decide, by decide +kernel⟩
theorem wX11_one : wdV yX11_one cX11_one 3 (some .int) 2 := ⟨⟨m2_28, m2_29⟩, m1_1, m2_30, by decide, by decide +kernel⟩
theorem wX5_join : wdV yX5_join cX5_join 3 none 2 := ⟨⟨m2_32, m2_33⟩, m1_2, m2_34, by decide, by decide +kernel⟩
theorem wX11_type : wdV yX11_type cX11_type 2 (some .int) 1 := ⟨⟨m2_36, m2_37⟩, m1_1, m2_38, by decide, by decide +kernel⟩
theorem wX10_append : wdV yX10_append cX10_append 2 none 1 := ⟨⟨m2_40, m2_41⟩, m1_3, m2_42, by decide, by decide +kernel⟩
theorem wX11_clear : wdV yX11_clear cX11_clear 2 (some .int) 0 := ⟨⟨m2_44, m2_45⟩, m1_1, m2_46, by decide, by decide +kernel⟩
theorem wX11_read : wdV yX11_read cX11_read 2 (some .int) 0 := ⟨⟨m2_48, m2_49⟩, m1_1, m2_50, by decide, by decide +kernel⟩
theorem wX10_tell : wdV yX10_tell cX10_tell 3 (some .int) 1 := ⟨⟨m2_52, m2_53⟩, m1_3, m2_54, by decide, by decide +kernel⟩
theorem wX10_advance : wdV yX10_advance cX10_advance 2 none 0 := ⟨⟨m2_57, ms_1⟩, m1_3, m2_58, by decide, by decide +kernel⟩
theorem wX10_sortOf : wdS yX10_sortOf cX10_sortOf 1 (some .int) 1 := ⟨m2_60, m1_3, m2_61, by decide, by decide +kernel⟩
theorem wX10_isWord : wdV yX10_isWord cX10_isWord 3 (some .boolean) 1 := ⟨⟨m2_65, ms_2⟩, m1_3, m2_66, by decide, by decide +kernel⟩
theorem wJ0_length_8abf5 : wdV yJ0_length_8abf5 cJ0_length_8abf5 1 (some .int) 0 := ⟨⟨m2_68, m2_69⟩, m1_15, m2_70, by decide, by decide +kernel⟩
theorem wJ0_coder_7d493 : wdV yJ0_coder_7d493 cJ0_coder_7d493 1 (some .byte) 0 := ⟨⟨m2_72, m2_73⟩, m1_15, m2_74, by decide, by decide +kernel⟩
theorem wJ0_charAt_5068e : wdV yJ0_charAt_5068e cJ0_charAt_5068e 2 (some .char) 1 := ⟨⟨m2_78, m2_79⟩, m1_15, m2_80, by decide, by decide +kernel⟩
theorem wJ0_isLatin1_aae02 : wdV yJ0_isLatin1_aae02 cJ0_isLatin1_aae02 1 (some .boolean) 0 := ⟨⟨m2_82, m2_83⟩, m1_15, m2_84, by decide, by decide +kernel⟩
theorem wJ1_charAt_3b067 : wdS yJ1_charAt_3b067 cJ1_charAt_3b067 2 (some .char) 2 := ⟨m2_86, m1_16, m2_87, by decide, by decide +kernel⟩
theorem wJ0_checkIndex_df160 : wdS yJ0_checkIndex_df160 cJ0_checkIndex_df160 2 none 2 := ⟨m2_89, m1_15, m2_90, by decide, by decide +kernel⟩
theorem wJ3_checkIndex_8e157 : wdS yJ3_checkIndex_8e157 cJ3_checkIndex_8e157 3 (some .int) 3 := ⟨m2_94, m1_17, m2_95, by decide, by decide +kernel⟩
theorem wJ2_charAt_3b067 : wdS yJ2_charAt_3b067 cJ2_charAt_3b067 2 (some .char) 2 := ⟨m2_97, m1_18, m2_98, by decide, by decide +kernel⟩
theorem wJ2_checkIndex_2214a : wdS yJ2_checkIndex_2214a cJ2_checkIndex_2214a 2 none 2 := ⟨m2_100, m1_18, m2_101, by decide, by decide +kernel⟩
theorem wJ2_length_9d52b : wdS yJ2_length_9d52b cJ2_length_9d52b 1 (some .int) 1 := ⟨m2_103, m1_18, m2_104, by decide, by decide +kernel⟩
theorem wJ2_getChar_3b067 : wdS yJ2_getChar_3b067 cJ2_getChar_3b067 2 (some .char) 2 := ⟨m2_107, m1_18, m2_108, by decide, by decide +kernel⟩
theorem wX10_isNumberNext : wdV yX10_isNumberNext cX10_isNumberNext 3 (some .boolean) 1 := ⟨⟨m2_117, ms_3⟩, m1_3, m2_118, by decide, by decide +kernel⟩
theorem wX10_isItem : wdV yX10_isItem cX10_isItem 2 (some .boolean) 1 := ⟨⟨m2_122, ms_4⟩, m1_3, m2_123, by decide, by decide +kernel⟩
theorem wX10_isOne : wdV yX10_isOne cX10_isOne 3 (some .boolean) 1 := ⟨⟨m2_127, ms_5⟩, m1_3, m2_128, by decide, by decide +kernel⟩
theorem wX10_isBears : wdV yX10_isBears cX10_isBears 3 (some .boolean) 1 := ⟨⟨m2_133, ms_6⟩, m1_3, m2_134, by decide, by decide +kernel⟩
theorem wX5_give : wdV yX5_give cX5_give 4 none 2 := ⟨⟨m2_136, m2_137⟩, m1_2, m2_138, by decide, by decide +kernel⟩
theorem wX10_isNone : wdV yX10_isNone cX10_isNone 2 (some .boolean) 1 := ⟨⟨m2_143, ms_7⟩, m1_3, m2_144, by decide, by decide +kernel⟩
theorem wX5_copyFrom : wdV yX5_copyFrom cX5_copyFrom 2 none 1 := ⟨⟨m2_146, m2_147⟩, m1_2, m2_148, by decide, by decide +kernel⟩
theorem wX11_call : wdV yX11_call cX11_call 4 (some .int) 2 := ⟨⟨m2_153, m2_154⟩, m1_1, m2_155, by decide, by decide +kernel⟩
theorem wX11_isThere : wdV yX11_isThere cX11_isThere 2 (some .boolean) 1 := ⟨⟨m2_158, ms_8⟩, m1_1, m2_159, by decide, by decide +kernel⟩
theorem wX11_turnersAt : wdV yX11_turnersAt cX11_turnersAt 3 (some .int) 2 := ⟨⟨m2_162, ms_9⟩, m1_1, m2_163, by decide, by decide +kernel⟩
theorem wX6_listenAt : wdV yX6_listenAt cX6_listenAt 6 none 2 := ⟨⟨m2_165, m2_166⟩, m1_5, m2_167, by decide, by decide +kernel⟩
theorem wJ9_abs_0f7a4 : wdS yJ9_abs_0f7a4 cJ9_abs_0f7a4 1 (some .int) 1 := ⟨m2_170, m1_20, m2_171, by decide, by decide +kernel⟩
theorem wX6_turnsAs : wdV yX6_turnsAs cX6_turnsAs 6 (some .boolean) 5 := ⟨⟨m2_173, m2_174⟩, m1_5, m2_175, by decide, by decide +kernel⟩
theorem wX7_turns : wdV yX7_turns cX7_turns 5 (some .boolean) 4 := ⟨⟨m2_177, m2_178⟩, m1_6, m2_200, by decide, by decide +kernel⟩
theorem wX6_turners : wdV yX6_turners cX6_turners 5 (some .int) 3 := ⟨⟨m2_202, m2_203⟩, m1_5, m2_204, by decide, by decide +kernel⟩
theorem wX5_remember : wdV yX5_remember cX5_remember 2 none 0 := ⟨⟨m2_206, m2_207⟩, m1_2, m2_208, by decide, by decide +kernel⟩
theorem wX11_settle : wdS yX11_settle cX11_settle 4 none 3 := ⟨m2_210, m1_1, m2_211, by decide, by decide +kernel⟩
theorem wX11_goes : wdV yX11_goes cX11_goes 4 (some .int) 2 := ⟨⟨m2_213, m2_214⟩, m1_1, m2_215, by decide, by decide +kernel⟩
theorem wX11_day : wdV yX11_day cX11_day 1 (some .int) 0 := ⟨⟨m2_217, m2_218⟩, m1_1, m2_219, by decide, by decide +kernel⟩
theorem wX11_undo : wdV yX11_undo cX11_undo 1 (some .int) 0 := ⟨⟨m2_221, m2_222⟩, m1_1, m2_223, by decide, by decide +kernel⟩
theorem wX5_goBack : wdV yX5_goBack cX5_goBack 2 none 0 := ⟨⟨m2_225, m2_226⟩, m1_2, m2_227, by decide, by decide +kernel⟩
theorem wX11_of : wdV yX11_of cX11_of 3 (some .int) 2 := ⟨⟨m2_229, m2_230⟩, m1_1, m2_231, by decide, by decide +kernel⟩
theorem wX5_nameOf : wdV yX5_nameOf cX5_nameOf 3 (some .int) 1 := ⟨⟨m2_233, m2_234⟩, m1_2, m2_235, by decide, by decide +kernel⟩
theorem wX11_bit : wdS yX11_bit cX11_bit 2 (some .int) 2 := ⟨m2_237, m1_1, m2_238, by decide, by decide +kernel⟩
theorem wX11_turn : wdV yX11_turn cX11_turn 3 (some .int) 2 := ⟨⟨m3_0, m3_1⟩, m1_1, m3_2, by decide, by decide +kernel⟩
theorem wX11_bearers : wdV yX11_bearers cX11_bearers 2 (some .int) 1 := ⟨⟨m3_4, m3_5⟩, m1_1, m3_6, by decide, by decide +kernel⟩
theorem wX11_names : wdV yX11_names cX11_names 5 (some .int) 1 := ⟨⟨m3_8, m3_9⟩, m1_1, m3_10, by decide, by decide +kernel⟩
theorem wJ6_bitCount_0f7a4 : wdS yJ6_bitCount_0f7a4 cJ6_bitCount_0f7a4 1 (some .int) 1 := ⟨m3_12, m1_21, m3_13, by decide, by decide +kernel⟩
theorem wX11_calls : wdV yX11_calls cX11_calls 4 (some .int) 3 := ⟨⟨m3_18, m3_19⟩, m1_1, m3_20, by decide, by decide +kernel⟩
theorem wX6_listen : wdV yX6_listen cX6_listen 3 none 1 := ⟨⟨m3_22, m3_23⟩, m1_5, m3_24, by decide, by decide +kernel⟩
theorem wX8_toBear : wdV yX8_toBear cX8_toBear 6 none 4 := ⟨⟨m3_27, m3_28⟩, m1_12, m3_29, by decide, by decide +kernel⟩
theorem wX8_lastCall : wdV yX8_lastCall cX8_lastCall 6 (some .int) 4 := ⟨⟨m3_33, ms_10⟩, m1_12, m3_34, by decide, by decide +kernel⟩
theorem wX8_callOnce : wdV yX8_callOnce cX8_callOnce 5 none 3 := ⟨⟨m3_39, ms_11⟩, m1_12, m3_40, by decide, by decide +kernel⟩
theorem wX11_own : wdV yX11_own cX11_own 2 (some .int) 1 := ⟨⟨m3_44, m3_45⟩, m1_1, m3_46, by decide, by decide +kernel⟩
theorem wX8_ownAgain : wdV yX8_ownAgain cX8_ownAgain 5 none 2 := ⟨⟨m3_48, m3_49⟩, m1_12, m3_50, by decide, by decide +kernel⟩
theorem wX11_owners : wdS yX11_owners cX11_owners 3 (some .int) 1 := ⟨m3_52, m1_1, m3_53, by decide, by decide +kernel⟩
theorem wX8_tryLastCalls : wdV yX8_tryLastCalls cX8_tryLastCalls 10 none 4 := ⟨⟨m3_57, ms_12⟩, m1_12, m3_58, by decide, by decide +kernel⟩
theorem wX8_ownersBehind : wdV yX8_ownersBehind cX8_ownersBehind 5 (some .int) 3 := ⟨⟨m3_61, ms_13⟩, m1_12, m3_62, by decide, by decide +kernel⟩
theorem wX11_ring : wdV yX11_ring cX11_ring 4 (some .int) 1 := ⟨⟨m3_64, m3_65⟩, m1_1, m3_66, by decide, by decide +kernel⟩
theorem wX11_deed : wdV yX11_deed cX11_deed 3 (some .int) 2 := ⟨⟨m3_68, m3_69⟩, m1_1, m3_70, by decide, by decide +kernel⟩
theorem wX11_owes : wdV yX11_owes cX11_owes 3 (some .int) 1 := ⟨⟨m3_72, m3_73⟩, m1_1, m3_74, by decide, by decide +kernel⟩
theorem wX4_become : wdV yX4_become cX4_become 7 none 2 := ⟨⟨m3_76, m3_77⟩, m1_4, m3_78, by decide, by decide +kernel⟩
theorem wX4_commonDivisor : wdS yX4_commonDivisor cX4_commonDivisor 11 (some .long) 2 := ⟨m3_80, m1_4, m3_81, by decide, by decide +kernel⟩
theorem wX5_penceOn : wdV yX5_penceOn cX5_penceOn 4 (some .int) 1 := ⟨⟨m3_83, m3_84⟩, m1_2, m3_85, by decide, by decide +kernel⟩
theorem wX11_unpaid : wdV yX11_unpaid cX11_unpaid 3 (some .int) 0 := ⟨⟨m3_87, m3_88⟩, m1_1, m3_89, by decide, by decide +kernel⟩
theorem wX11_ears : wdV yX11_ears cX11_ears 12 (some .int) 4 := ⟨⟨m3_91, m3_92⟩, m1_1, m3_93, by decide, by decide +kernel⟩
theorem wX11_stopped : wdS yX11_stopped cX11_stopped 3 (some .int) 3 := ⟨m3_95, m1_1, m3_96, by decide, by decide +kernel⟩
theorem wX11_bearersBehind : wdS yX11_bearersBehind cX11_bearersBehind 2 (some .int) 2 := ⟨m3_99, m1_1, m3_100, by decide, by decide +kernel⟩
theorem wX11_note : wdV yX11_note cX11_note 6 (some .int) 5 := ⟨⟨m3_102, m3_103⟩, m1_1, m3_104, by decide, by decide +kernel⟩
theorem wX5_write : wdV yX5_write cX5_write 7 none 5 := ⟨⟨m3_106, m3_107⟩, m1_2, m3_108, by decide, by decide +kernel⟩
theorem wX11_forget : wdV yX11_forget cX11_forget 3 (some .int) 1 := ⟨⟨m3_110, m3_111⟩, m1_1, m3_112, by decide, by decide +kernel⟩
theorem wX11_is : wdV yX11_is cX11_is 4 (some .int) 1 := ⟨⟨m3_114, m3_115⟩, m1_1, m3_116, by decide, by decide +kernel⟩
theorem wX11_fits : wdV yX11_fits cX11_fits 8 (some .boolean) 3 := ⟨⟨m3_119, ms_14⟩, m1_1, m3_120, by decide, by decide +kernel⟩
theorem wX11_stood : wdV yX11_stood cX11_stood 2 (some .int) 1 := ⟨⟨m3_124, m3_125⟩, m1_1, m3_126, by decide, by decide +kernel⟩
theorem wX11_placesThatFit : wdV yX11_placesThatFit cX11_placesThatFit 4 (some .int) 1 := ⟨⟨m3_129, ms_15⟩, m1_1, m3_130, by decide, by decide +kernel⟩
theorem wX11_next : wdV yX11_next cX11_next 8 (some .int) 1 := ⟨⟨m3_132, m3_133⟩, m1_1, m3_134, by decide, by decide +kernel⟩
theorem wX11_placesTurningAt : wdV yX11_placesTurningAt cX11_placesTurningAt 5 (some .int) 2 := ⟨⟨m3_137, ms_16⟩, m1_1, m3_138, by decide, by decide +kernel⟩
theorem wJ9_max_7cf53 : wdS yJ9_max_7cf53 cJ9_max_7cf53 2 (some .int) 2 := ⟨m3_140, m1_20, m3_141, by decide, by decide +kernel⟩
theorem wX11_trippers : wdV yX11_trippers cX11_trippers 12 (some .int) 4 := ⟨⟨m3_143, m3_144⟩, m1_1, m3_145, by decide, by decide +kernel⟩
theorem wX11_weeks : wdV yX11_weeks cX11_weeks 3 (some .int) 2 := ⟨⟨m3_148, m3_149⟩, m1_1, m3_150, by decide, by decide +kernel⟩
theorem wX8_ownersBehindWeeks : wdV yX8_ownersBehindWeeks cX8_ownersBehindWeeks 10 (some .int) 4 := ⟨⟨m3_153, m3_154⟩, m1_12, m3_155, by decide, by decide +kernel⟩
theorem wX11_part : wdV yX11_part cX11_part 2 (some .long) 1 := ⟨⟨m3_163, m3_164⟩, m1_1, m3_165, by decide, by decide +kernel⟩
theorem wX11_image : wdV yX11_image cX11_image 2 (some .int) 1 := ⟨⟨m3_167, m3_168⟩, m1_1, m3_169, by decide, by decide +kernel⟩
theorem wX11_from : wdV yX11_from cX11_from 2 (some .int) 1 := ⟨⟨m3_171, m3_172⟩, m1_1, m3_173, by decide, by decide +kernel⟩
theorem wX11_status : wdV yX11_status cX11_status 2 (some .int) 1 := ⟨⟨m3_175, m3_176⟩, m1_1, m3_177, by decide, by decide +kernel⟩
theorem wX11_count : wdV yX11_count cX11_count 2 (some .int) 1 := ⟨⟨m3_179, m3_180⟩, m1_1, m3_181, by decide, by decide +kernel⟩
theorem wX11_amount : wdV yX11_amount cX11_amount 2 (some .int) 1 := ⟨⟨m3_184, ms_17⟩, m1_1, m3_185, by decide, by decide +kernel⟩
theorem wX11_digest : wdV yX11_digest cX11_digest 4 (some .long) 0 := ⟨⟨m3_188, m3_189⟩, m1_1, m3_190, by decide, by decide +kernel⟩
theorem wX5_mixInto : wdV yX5_mixInto cX5_mixInto 6 (some .long) 1 := ⟨⟨m3_194, m3_195⟩, m1_2, m3_196, by decide, by decide +kernel⟩
theorem wX12_begin : wdS yX12_begin cX12_begin 3 none 2 := ⟨m3_206, m1_13, m3_207, by decide, by decide +kernel⟩
theorem wX12_hamlet : wdV yX12_hamlet cX12_hamlet 3 (some .int) 1 := ⟨⟨m4_27, m4_28⟩, m1_13, m4_29, by decide, by decide +kernel⟩
theorem wX12_in : wdS yX12_in cX12_in 6 (some .boolean) 3 := ⟨m4_32, m1_13, m4_33, by decide, by decide +kernel⟩
theorem wX12_bad : wdV yX12_bad cX12_bad 2 (some .int) 1 := ⟨⟨m4_36, ms_18⟩, m1_13, m4_37, by decide, by decide +kernel⟩
theorem wX12_many : wdV yX12_many cX12_many 1 (some .int) 0 := ⟨⟨m4_40, ms_19⟩, m1_13, m4_41, by decide, by decide +kernel⟩
theorem wX12_one : wdV yX12_one cX12_one 3 (some .int) 2 := ⟨⟨m4_43, m4_44⟩, m1_13, m4_45, by decide, by decide +kernel⟩
theorem wX12_isPlace : wdS yX12_isPlace cX12_isPlace 1 (some .boolean) 1 := ⟨m4_48, m1_13, m4_49, by decide, by decide +kernel⟩
theorem wX12_full : wdV yX12_full cX12_full 1 (some .int) 0 := ⟨⟨m4_53, ms_20⟩, m1_13, m4_54, by decide, by decide +kernel⟩
theorem wX12_layOne : wdS yX12_layOne cX12_layOne 4 none 3 := ⟨m4_56, m1_13, m4_57, by decide, by decide +kernel⟩
theorem wX12_call : wdV yX12_call cX12_call 5 (some .int) 2 := ⟨⟨m4_59, m4_60⟩, m1_13, m4_61, by decide, by decide +kernel⟩
theorem wX12_isOne : wdV yX12_isOne cX12_isOne 2 (some .boolean) 1 := ⟨⟨m4_64, ms_21⟩, m1_13, m4_65, by decide, by decide +kernel⟩
theorem wX12_keep : wdV yX12_keep cX12_keep 3 none 0 := ⟨⟨m4_68, ms_22⟩, m1_13, m4_69, by decide, by decide +kernel⟩
theorem wX12_layHand : wdV yX12_layHand cX12_layHand 2 none 0 := ⟨⟨m4_72, ms_23⟩, m1_13, m4_73, by decide, by decide +kernel⟩
theorem wX12_goCall : wdV yX12_goCall cX12_goCall 4 (some .int) 2 := ⟨⟨m4_76, ms_24⟩, m1_13, m4_77, by decide, by decide +kernel⟩
theorem wX12_turning : wdV yX12_turning cX12_turning 7 (some .int) 2 := ⟨⟨m4_80, ms_25⟩, m1_13, m4_81, by decide, by decide +kernel⟩
theorem wX12_bearersOf : wdV yX12_bearersOf cX12_bearersOf 4 (some .int) 1 := ⟨⟨m4_84, ms_26⟩, m1_13, m4_85, by decide, by decide +kernel⟩
theorem wX12_farOf : wdS yX12_farOf cX12_farOf 2 (some .int) 2 := ⟨m4_87, m1_13, m4_88, by decide, by decide +kernel⟩
theorem wX12_has : wdS yX12_has cX12_has 2 (some .boolean) 2 := ⟨m4_90, m1_13, m4_91, by decide, by decide +kernel⟩
theorem wX12_turnsAs : wdS yX12_turnsAs cX12_turnsAs 6 (some .boolean) 5 := ⟨m4_93, m1_13, m4_94, by decide, by decide +kernel⟩
theorem wX12_goTurn : wdV yX12_goTurn cX12_goTurn 4 none 2 := ⟨⟨m4_97, ms_27⟩, m1_13, m4_98, by decide, by decide +kernel⟩
theorem wX12_goes : wdV yX12_goes cX12_goes 4 (some .int) 2 := ⟨⟨m4_100, m4_101⟩, m1_13, m4_102, by decide, by decide +kernel⟩
theorem wX12_day : wdV yX12_day cX12_day 1 (some .int) 0 := ⟨⟨m4_104, m4_105⟩, m1_13, m4_106, by decide, by decide +kernel⟩
theorem wX12_undo : wdV yX12_undo cX12_undo 3 (some .int) 0 := ⟨⟨m4_108, m4_109⟩, m1_13, m4_110, by decide, by decide +kernel⟩
theorem wX12_no : wdV yX12_no cX12_no 1 (some .int) 0 := ⟨⟨m4_113, ms_28⟩, m1_13, m4_114, by decide, by decide +kernel⟩
theorem wX12_of : wdV yX12_of cX12_of 3 (some .int) 2 := ⟨⟨m4_116, m4_117⟩, m1_13, m4_118, by decide, by decide +kernel⟩
theorem wX12_turn : wdV yX12_turn cX12_turn 3 (some .int) 2 := ⟨⟨m4_121, m4_122⟩, m1_13, m4_123, by decide, by decide +kernel⟩
theorem wX12_bearers : wdV yX12_bearers cX12_bearers 2 (some .int) 1 := ⟨⟨m4_125, m4_126⟩, m1_13, m4_127, by decide, by decide +kernel⟩
theorem wX12_names : wdV yX12_names cX12_names 5 (some .int) 1 := ⟨⟨m4_129, m4_130⟩, m1_13, m4_131, by decide, by decide +kernel⟩
theorem wX12_bits : wdS yX12_bits cX12_bits 3 (some .int) 1 := ⟨m4_133, m1_13, m4_134, by decide, by decide +kernel⟩
theorem wX12_calls : wdV yX12_calls cX12_calls 4 (some .int) 3 := ⟨⟨m4_136, m4_137⟩, m1_13, m4_138, by decide, by decide +kernel⟩
theorem wX12_layCalls : wdV yX12_layCalls cX12_layCalls 6 none 2 := ⟨⟨m4_141, ms_29⟩, m1_13, m4_142, by decide, by decide +kernel⟩
theorem wX12_goCodes : wdV yX12_goCodes cX12_goCodes 4 none 2 := ⟨⟨m4_145, ms_30⟩, m1_13, m4_146, by decide, by decide +kernel⟩
theorem wX12_own : wdV yX12_own cX12_own 2 (some .int) 1 := ⟨⟨m4_148, m4_149⟩, m1_13, m4_150, by decide, by decide +kernel⟩
theorem wX12_layOwn : wdV yX12_layOwn cX12_layOwn 4 none 0 := ⟨⟨m4_153, ms_31⟩, m1_13, m4_154, by decide, by decide +kernel⟩
theorem wX12_judgeOwn : wdV yX12_judgeOwn cX12_judgeOwn 4 none 2 := ⟨⟨m4_157, ms_32⟩, m1_13, m4_158, by decide, by decide +kernel⟩
theorem wX12_ownNow : wdV yX12_ownNow cX12_ownNow 3 (some .int) 0 := ⟨⟨m4_161, ms_33⟩, m1_13, m4_162, by decide, by decide +kernel⟩
theorem wX12_ring : wdV yX12_ring cX12_ring 4 (some .int) 1 := ⟨⟨m4_164, m4_165⟩, m1_13, m4_166, by decide, by decide +kernel⟩
theorem wX12_deed : wdV yX12_deed cX12_deed 3 (some .int) 2 := ⟨⟨m4_168, m4_169⟩, m1_13, m4_170, by decide, by decide +kernel⟩
theorem wX12_owes : wdV yX12_owes cX12_owes 3 (some .int) 1 := ⟨⟨m4_173, m4_174⟩, m1_13, m4_175, by decide, by decide +kernel⟩
theorem wX12_fraction : wdV yX12_fraction cX12_fraction 11 none 2 := ⟨⟨m4_178, ms_34⟩, m1_13, m4_179, by decide, by decide +kernel⟩
theorem wX12_penceOn : wdV yX12_penceOn cX12_penceOn 4 (some .int) 1 := ⟨⟨m4_182, ms_35⟩, m1_13, m4_183, by decide, by decide +kernel⟩
theorem wX12_unpaid : wdV yX12_unpaid cX12_unpaid 3 (some .int) 0 := ⟨⟨m4_185, m4_186⟩, m1_13, m4_187, by decide, by decide +kernel⟩
theorem wX12_ears : wdV yX12_ears cX12_ears 9 (some .int) 4 := ⟨⟨m4_189, m4_190⟩, m1_13, m4_191, by decide, by decide +kernel⟩
theorem wX12_note : wdV yX12_note cX12_note 7 (some .int) 5 := ⟨⟨m4_193, m4_194⟩, m1_13, m4_195, by decide, by decide +kernel⟩
theorem wX12_forget : wdV yX12_forget cX12_forget 3 (some .int) 1 := ⟨⟨m4_197, m4_198⟩, m1_13, m4_199, by decide, by decide +kernel⟩
theorem wX12_is : wdV yX12_is cX12_is 4 (some .int) 1 := ⟨⟨m4_201, m4_202⟩, m1_13, m4_203, by decide, by decide +kernel⟩
theorem wX12_areSo : wdV yX12_areSo cX12_areSo 8 (some .boolean) 3 := ⟨⟨m4_206, ms_36⟩, m1_13, m4_207, by decide, by decide +kernel⟩
theorem wX12_stood : wdV yX12_stood cX12_stood 2 (some .int) 1 := ⟨⟨m4_209, m4_210⟩, m1_13, m4_211, by decide, by decide +kernel⟩
theorem wX12_placesOf : wdV yX12_placesOf cX12_placesOf 4 (some .int) 1 := ⟨⟨m4_214, ms_37⟩, m1_13, m4_215, by decide, by decide +kernel⟩
theorem wX12_next : wdV yX12_next cX12_next 8 (some .int) 1 := ⟨⟨m4_217, m4_218⟩, m1_13, m4_219, by decide, by decide +kernel⟩
theorem wX12_trippers : wdV yX12_trippers cX12_trippers 13 (some .int) 4 := ⟨⟨m4_222, m4_223⟩, m1_13, m4_224, by decide, by decide +kernel⟩
theorem wX12_weeks : wdV yX12_weeks cX12_weeks 7 (some .int) 2 := ⟨⟨m4_227, m4_228⟩, m1_13, m4_229, by decide, by decide +kernel⟩
theorem wX12_type : wdV yX12_type cX12_type 2 (some .int) 1 := ⟨⟨m4_237, m4_238⟩, m1_13, m4_239, by decide, by decide +kernel⟩
theorem wX12_clear : wdV yX12_clear cX12_clear 2 (some .int) 0 := ⟨⟨m5_2, m5_3⟩, m1_13, m5_4, by decide, by decide +kernel⟩
theorem wX12_read : wdV yX12_read cX12_read 3 (some .int) 0 := ⟨⟨m5_6, m5_7⟩, m1_13, m5_8, by decide, by decide +kernel⟩
theorem wX12_lookAt : wdV yX12_lookAt cX12_lookAt 5 none 1 := ⟨⟨m5_11, ms_38⟩, m1_13, m5_12, by decide, by decide +kernel⟩
theorem wX12_isSmall : wdS yX12_isSmall cX12_isSmall 1 (some .boolean) 1 := ⟨m5_14, m1_13, m5_15, by decide, by decide +kernel⟩
theorem wX12_isFigure : wdS yX12_isFigure cX12_isFigure 1 (some .boolean) 1 := ⟨m5_19, m1_13, m5_20, by decide, by decide +kernel⟩
theorem wX12_takesHamlet : wdV yX12_takesHamlet cX12_takesHamlet 1 (some .boolean) 0 := ⟨⟨m5_25, ms_39⟩, m1_13, m5_26, by decide, by decide +kernel⟩
theorem wX12_spells : wdV yX12_spells cX12_spells 10 (some .boolean) 7 := ⟨⟨m5_29, ms_40⟩, m1_13, m5_30, by decide, by decide +kernel⟩
theorem wX12_goBehind : wdV yX12_goBehind cX12_goBehind 1 none 0 := ⟨⟨m5_33, ms_41⟩, m1_13, m5_34, by decide, by decide +kernel⟩
theorem wX12_takes : wdV yX12_takes cX12_takes 4 (some .boolean) 3 := ⟨⟨m5_37, ms_42⟩, m1_13, m5_38, by decide, by decide +kernel⟩
theorem wX12_takesItem : wdV yX12_takesItem cX12_takesItem 1 (some .boolean) 0 := ⟨⟨m5_41, ms_43⟩, m1_13, m5_42, by decide, by decide +kernel⟩
theorem wX12_takesOne : wdV yX12_takesOne cX12_takesOne 1 (some .boolean) 0 := ⟨⟨m5_45, ms_44⟩, m1_13, m5_46, by decide, by decide +kernel⟩
theorem wX12_takesBears : wdV yX12_takesBears cX12_takesBears 2 (some .boolean) 1 := ⟨⟨m5_49, ms_45⟩, m1_13, m5_50, by decide, by decide +kernel⟩
theorem wX12_part : wdV yX12_part cX12_part 2 (some .long) 1 := ⟨⟨m5_52, m5_53⟩, m1_13, m5_54, by decide, by decide +kernel⟩
theorem wX12_image : wdV yX12_image cX12_image 3 (some .int) 1 := ⟨⟨m5_56, m5_57⟩, m1_13, m5_58, by decide, by decide +kernel⟩
theorem wX12_from : wdV yX12_from cX12_from 3 (some .int) 1 := ⟨⟨m5_60, m5_61⟩, m1_13, m5_62, by decide, by decide +kernel⟩
theorem wX12_status : wdV yX12_status cX12_status 2 (some .int) 1 := ⟨⟨m5_64, m5_65⟩, m1_13, m5_66, by decide, by decide +kernel⟩
theorem wX12_count : wdV yX12_count cX12_count 2 (some .int) 1 := ⟨⟨m5_68, m5_69⟩, m1_13, m5_70, by decide, by decide +kernel⟩
theorem wX12_counted : wdV yX12_counted cX12_counted 2 (some .int) 1 := ⟨⟨m5_74, ms_46⟩, m1_13, m5_75, by decide, by decide +kernel⟩
theorem wX12_digest : wdV yX12_digest cX12_digest 4 (some .long) 0 := ⟨⟨m5_77, m5_78⟩, m1_13, m5_79, by decide, by decide +kernel⟩
theorem wX12_sums : wdV yX12_sums cX12_sums 8 (some .long) 3 := ⟨⟨m5_84, ms_47⟩, m1_13, m5_85, by decide, by decide +kernel⟩
theorem inX4 : ∀ w ∈ u_ws RX4 TX4 2, w ∈ lw_G := by
  intro w hw
  have h : w ∈ [u_lay RX4 TX4 0, u_lay RX4 TX4 1] := hw
  simp only [List.mem_cons, List.not_mem_nil, or_false] at h
  rcases h with rfl | rfl
  · exact m1_132
  · exact m1_134
theorem inX5 : ∀ w ∈ u_ws RX5 TX5 12, w ∈ lw_G := by
  intro w hw
  have h : w ∈ [u_lay RX5 TX5 0, u_lay RX5 TX5 1, u_lay RX5 TX5 2, u_lay RX5 TX5 3, u_lay RX5 TX5 4, u_lay RX5 TX5 5, u_lay RX5 TX5 6, u_lay RX5 TX5 7, u_lay RX5 TX5 8, u_lay RX5 TX5 9, u_lay RX5 TX5 10, u_lay RX5 TX5 11] := hw
  simp only [List.mem_cons, List.not_mem_nil, or_false] at h
  rcases h with rfl | rfl | rfl | rfl | rfl | rfl | rfl | rfl | rfl | rfl | rfl | rfl
  · exact m1_66
  · exact m1_68
  · exact m1_70
  · exact m1_72
  · exact m1_74
  · exact m1_76
  · exact m1_78
  · exact m1_80
  · exact m1_82
  · exact m1_84
  · exact m1_86
  · exact m1_88
theorem inX6 : ∀ w ∈ u_ws RX6 TX6 4, w ∈ lw_G := by
  intro w hw
  have h : w ∈ [u_lay RX6 TX6 0, u_lay RX6 TX6 1, u_lay RX6 TX6 2, u_lay RX6 TX6 3] := hw
  simp only [List.mem_cons, List.not_mem_nil, or_false] at h
  rcases h with rfl | rfl | rfl | rfl
  · exact m1_190
  · exact m1_192
  · exact m1_194
  · exact m1_196
theorem inX8 : ∀ w ∈ u_ws RX8 TX8 4, w ∈ lw_G := by
  intro w hw
  have h : w ∈ [u_lay RX8 TX8 0, u_lay RX8 TX8 1, u_lay RX8 TX8 2, u_lay RX8 TX8 3] := hw
  simp only [List.mem_cons, List.not_mem_nil, or_false] at h
  rcases h with rfl | rfl | rfl | rfl
  · exact m1_212
  · exact m1_214
  · exact m1_216
  · exact m1_218
theorem inX10 : ∀ w ∈ u_ws RX10 TX10 6, w ∈ lw_G := by
  intro w hw
  have h : w ∈ [u_lay RX10 TX10 0, u_lay RX10 TX10 1, u_lay RX10 TX10 2, u_lay RX10 TX10 3, u_lay RX10 TX10 4, u_lay RX10 TX10 5] := hw
  simp only [List.mem_cons, List.not_mem_nil, or_false] at h
  rcases h with rfl | rfl | rfl | rfl | rfl | rfl
  · exact m1_107
  · exact m1_109
  · exact m1_111
  · exact m1_113
  · exact m1_115
  · exact m1_117
theorem inX11 : ∀ w ∈ u_ws RX11 TX11 9, w ∈ lw_G := by
  intro w hw
  have h : w ∈ [u_lay RX11 TX11 0, u_lay RX11 TX11 1, u_lay RX11 TX11 2, u_lay RX11 TX11 3, u_lay RX11 TX11 4, u_lay RX11 TX11 5, u_lay RX11 TX11 6, u_lay RX11 TX11 7, u_lay RX11 TX11 8] := hw
  simp only [List.mem_cons, List.not_mem_nil, or_false] at h
  rcases h with rfl | rfl | rfl | rfl | rfl | rfl | rfl | rfl | rfl
  · exact m1_230
  · exact m1_232
  · exact m1_234
  · exact m1_236
  · exact m1_238
  · exact m2_0
  · exact m2_2
  · exact m2_4
  · exact m2_6
theorem inX12 : ∀ w ∈ u_ws RX12 TX12 19, w ∈ lw_G := by
  intro w hw
  have h : w ∈ [u_lay RX12 TX12 0, u_lay RX12 TX12 1, u_lay RX12 TX12 2, u_lay RX12 TX12 3, u_lay RX12 TX12 4, u_lay RX12 TX12 5, u_lay RX12 TX12 6, u_lay RX12 TX12 7, u_lay RX12 TX12 8, u_lay RX12 TX12 9, u_lay RX12 TX12 10, u_lay RX12 TX12 11, u_lay RX12 TX12 12, u_lay RX12 TX12 13, u_lay RX12 TX12 14, u_lay RX12 TX12 15, u_lay RX12 TX12 16, u_lay RX12 TX12 17, u_lay RX12 TX12 18] := hw
  simp only [List.mem_cons, List.not_mem_nil, or_false] at h
  rcases h with rfl | rfl | rfl | rfl | rfl | rfl | rfl | rfl | rfl | rfl | rfl | rfl | rfl | rfl | rfl | rfl | rfl | rfl | rfl
  · exact m3_227
  · exact m3_229
  · exact m3_231
  · exact m3_233
  · exact m3_235
  · exact m3_237
  · exact m3_239
  · exact m4_1
  · exact m4_3
  · exact m4_5
  · exact m4_7
  · exact m4_9
  · exact m4_11
  · exact m4_13
  · exact m4_15
  · exact m4_17
  · exact m4_19
  · exact m4_21
  · exact m4_23
theorem inX0 : ∀ w ∈ u_ws RX0 TX0 0, w ∈ lw_G := fun w hw => absurd hw List.not_mem_nil
theorem inX1 : ∀ w ∈ u_ws RX1 TX1 0, w ∈ lw_G := fun w hw => absurd hw List.not_mem_nil
theorem inX2 : ∀ w ∈ u_ws RX2 TX2 0, w ∈ lw_G := fun w hw => absurd hw List.not_mem_nil
theorem inX3 : ∀ w ∈ u_ws RX3 TX3 0, w ∈ lw_G := fun w hw => absurd hw List.not_mem_nil
theorem inX7 : ∀ w ∈ u_ws RX7 TX7 0, w ∈ lw_G := fun w hw => absurd hw List.not_mem_nil
theorem inX9 : ∀ w ∈ u_ws RX9 TX9 0, w ∈ lw_G := fun w hw => absurd hw List.not_mem_nil
end
