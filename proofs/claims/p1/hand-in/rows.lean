section
-- ===== PART A: goes FIRST, ahead of the names: the tables' words, and 'selects' of the private methods out of them =====
/-- a private method of a class that the tables say can be made, by its rows of tables_1 -/
def lw_okq (q : MethodName × Nat) : Prop := (q.1.cls ≠ "java/lang/invoke/MethodHandle" ∧ q.1.cls ≠ "java/lang/invoke/VarHandle") ∧ Cond.instantiable q.1.cls q.2 ∈ tables_1 ∧ Cond.privateMethod q.1 ∈ tables_1 ∧ Cond.instanceMethod q.1 ∈ tables_1
theorem lw_p0 : lw_okq (⟨"QuietChecker$Tokens", "skipBlanks", "()V"⟩, 9) := ⟨⟨by decide +kernel, by decide +kernel⟩, List.mem_of_getElem? (i := 148) (by decide +kernel), List.mem_of_getElem? (i := 348) (by decide +kernel), List.mem_of_getElem? (i := 349) (by decide +kernel)⟩
theorem lw_p1 : lw_okq (⟨"QuietChecker$Tokens", "scanToken", "()LQuietChecker$Kind;"⟩, 9) := ⟨⟨by decide +kernel, by decide +kernel⟩, List.mem_of_getElem? (i := 148) (by decide +kernel), List.mem_of_getElem? (i := 352) (by decide +kernel), List.mem_of_getElem? (i := 353) (by decide +kernel)⟩
theorem lw_p2 : lw_okq (⟨"QuietChecker$Tokens", "scanNumber", "()LQuietChecker$Kind;"⟩, 9) := ⟨⟨by decide +kernel, by decide +kernel⟩, List.mem_of_getElem? (i := 148) (by decide +kernel), List.mem_of_getElem? (i := 359) (by decide +kernel), List.mem_of_getElem? (i := 360) (by decide +kernel)⟩
theorem lw_p3 : lw_okq (⟨"QuietChecker$Tokens", "scanWord", "()LQuietChecker$Kind;"⟩, 9) := ⟨⟨by decide +kernel, by decide +kernel⟩, List.mem_of_getElem? (i := 148) (by decide +kernel), List.mem_of_getElem? (i := 372) (by decide +kernel), List.mem_of_getElem? (i := 373) (by decide +kernel)⟩
theorem lw_p4 : lw_okq (⟨"QuietChecker$Tokens", "isAt", "(ILjava/lang/String;)Z"⟩, 9) := ⟨⟨by decide +kernel, by decide +kernel⟩, List.mem_of_getElem? (i := 148) (by decide +kernel), List.mem_of_getElem? (i := 388) (by decide +kernel), List.mem_of_getElem? (i := 389) (by decide +kernel)⟩
theorem lw_p5 : lw_okq (⟨"QuietChecker$Tokens", "scanSign", "()LQuietChecker$Kind;"⟩, 9) := ⟨⟨by decide +kernel, by decide +kernel⟩, List.mem_of_getElem? (i := 148) (by decide +kernel), List.mem_of_getElem? (i := 432) (by decide +kernel), List.mem_of_getElem? (i := 433) (by decide +kernel)⟩
theorem lw_p6 : lw_okq (⟨"QuietChecker$Tokens", "add", "(LQuietChecker$Kind;I)V"⟩, 9) := ⟨⟨by decide +kernel, by decide +kernel⟩, List.mem_of_getElem? (i := 148) (by decide +kernel), List.mem_of_getElem? (i := 436) (by decide +kernel), List.mem_of_getElem? (i := 437) (by decide +kernel)⟩
theorem lw_p7 : lw_okq (⟨"QuietChecker$Parser", "goTo", "(I)V"⟩, 11) := ⟨⟨by decide +kernel, by decide +kernel⟩, List.mem_of_getElem? (i := 142) (by decide +kernel), List.mem_of_getElem? (i := 441) (by decide +kernel), List.mem_of_getElem? (i := 442) (by decide +kernel)⟩
theorem lw_p8 : lw_okq (⟨"QuietChecker$Parser", "beginFunction", "()V"⟩, 11) := ⟨⟨by decide +kernel, by decide +kernel⟩, List.mem_of_getElem? (i := 142) (by decide +kernel), List.mem_of_getElem? (i := 460) (by decide +kernel), List.mem_of_getElem? (i := 461) (by decide +kernel)⟩
theorem lw_p9 : lw_okq (⟨"QuietChecker$Parser", "advance", "()V"⟩, 11) := ⟨⟨by decide +kernel, by decide +kernel⟩, List.mem_of_getElem? (i := 142) (by decide +kernel), List.mem_of_getElem? (i := 464) (by decide +kernel), List.mem_of_getElem? (i := 465) (by decide +kernel)⟩
theorem lw_p10 : lw_okq (⟨"QuietChecker$Parser", "label", "()Z"⟩, 11) := ⟨⟨by decide +kernel, by decide +kernel⟩, List.mem_of_getElem? (i := 142) (by decide +kernel), List.mem_of_getElem? (i := 468) (by decide +kernel), List.mem_of_getElem? (i := 469) (by decide +kernel)⟩
theorem lw_p11 : lw_okq (⟨"QuietChecker$Parser", "expect", "(LQuietChecker$Kind;)V"⟩, 11) := ⟨⟨by decide +kernel, by decide +kernel⟩, List.mem_of_getElem? (i := 142) (by decide +kernel), List.mem_of_getElem? (i := 474) (by decide +kernel), List.mem_of_getElem? (i := 475) (by decide +kernel)⟩
theorem lw_p12 : lw_okq (⟨"QuietChecker$Parser", "fail", "(II)V"⟩, 11) := ⟨⟨by decide +kernel, by decide +kernel⟩, List.mem_of_getElem? (i := 142) (by decide +kernel), List.mem_of_getElem? (i := 478) (by decide +kernel), List.mem_of_getElem? (i := 479) (by decide +kernel)⟩
theorem lw_p13 : lw_okq (⟨"QuietChecker$Parser", "newName", "(LQuietChecker$Names;)I"⟩, 11) := ⟨⟨by decide +kernel, by decide +kernel⟩, List.mem_of_getElem? (i := 142) (by decide +kernel), List.mem_of_getElem? (i := 482) (by decide +kernel), List.mem_of_getElem? (i := 483) (by decide +kernel)⟩
theorem lw_p14 : lw_okq (⟨"QuietChecker$Names", "sameLetters", "(III)Z"⟩, 5) := ⟨⟨by decide +kernel, by decide +kernel⟩, List.mem_of_getElem? (i := 43) (by decide +kernel), List.mem_of_getElem? (i := 491) (by decide +kernel), List.mem_of_getElem? (i := 492) (by decide +kernel)⟩
theorem lw_p15 : lw_okq (⟨"QuietChecker$Parser", "parameters", "()V"⟩, 11) := ⟨⟨by decide +kernel, by decide +kernel⟩, List.mem_of_getElem? (i := 142) (by decide +kernel), List.mem_of_getElem? (i := 500) (by decide +kernel), List.mem_of_getElem? (i := 501) (by decide +kernel)⟩
def lw_privs_1 : List (MethodName × Nat) := [(⟨"QuietChecker$Tokens", "skipBlanks", "()V"⟩, 9), (⟨"QuietChecker$Tokens", "scanToken", "()LQuietChecker$Kind;"⟩, 9), (⟨"QuietChecker$Tokens", "scanNumber", "()LQuietChecker$Kind;"⟩, 9), (⟨"QuietChecker$Tokens", "scanWord", "()LQuietChecker$Kind;"⟩, 9), (⟨"QuietChecker$Tokens", "isAt", "(ILjava/lang/String;)Z"⟩, 9), (⟨"QuietChecker$Tokens", "scanSign", "()LQuietChecker$Kind;"⟩, 9), (⟨"QuietChecker$Tokens", "add", "(LQuietChecker$Kind;I)V"⟩, 9), (⟨"QuietChecker$Parser", "goTo", "(I)V"⟩, 11), (⟨"QuietChecker$Parser", "beginFunction", "()V"⟩, 11), (⟨"QuietChecker$Parser", "advance", "()V"⟩, 11), (⟨"QuietChecker$Parser", "label", "()Z"⟩, 11), (⟨"QuietChecker$Parser", "expect", "(LQuietChecker$Kind;)V"⟩, 11), (⟨"QuietChecker$Parser", "fail", "(II)V"⟩, 11), (⟨"QuietChecker$Parser", "newName", "(LQuietChecker$Names;)I"⟩, 11), (⟨"QuietChecker$Names", "sameLetters", "(III)Z"⟩, 5), (⟨"QuietChecker$Parser", "parameters", "()V"⟩, 11)]
theorem lw_r1 : ∀ q ∈ lw_privs_1, lw_okq q := List.forall_mem_cons.mpr ⟨lw_p0, List.forall_mem_cons.mpr ⟨lw_p1, List.forall_mem_cons.mpr ⟨lw_p2, List.forall_mem_cons.mpr ⟨lw_p3, List.forall_mem_cons.mpr ⟨lw_p4, List.forall_mem_cons.mpr ⟨lw_p5, List.forall_mem_cons.mpr ⟨lw_p6, List.forall_mem_cons.mpr ⟨lw_p7, List.forall_mem_cons.mpr ⟨lw_p8, List.forall_mem_cons.mpr ⟨lw_p9, List.forall_mem_cons.mpr ⟨lw_p10, List.forall_mem_cons.mpr ⟨lw_p11, List.forall_mem_cons.mpr ⟨lw_p12, List.forall_mem_cons.mpr ⟨lw_p13, List.forall_mem_cons.mpr ⟨lw_p14, List.forall_mem_cons.mpr ⟨lw_p15, fun _ h => absurd h List.not_mem_nil⟩⟩⟩⟩⟩⟩⟩⟩⟩⟩⟩⟩⟩⟩⟩⟩
theorem lw_p16 : lw_okq (⟨"QuietChecker$Parser", "local", "()V"⟩, 11) := ⟨⟨by decide +kernel, by decide +kernel⟩, List.mem_of_getElem? (i := 142) (by decide +kernel), List.mem_of_getElem? (i := 508) (by decide +kernel), List.mem_of_getElem? (i := 509) (by decide +kernel)⟩
theorem lw_p17 : lw_okq (⟨"QuietChecker$Parser", "statements", "(I)V"⟩, 11) := ⟨⟨by decide +kernel, by decide +kernel⟩, List.mem_of_getElem? (i := 142) (by decide +kernel), List.mem_of_getElem? (i := 537) (by decide +kernel), List.mem_of_getElem? (i := 538) (by decide +kernel)⟩
theorem lw_p18 : lw_okq (⟨"QuietChecker$Parser", "statement", "(I)V"⟩, 11) := ⟨⟨by decide +kernel, by decide +kernel⟩, List.mem_of_getElem? (i := 142) (by decide +kernel), List.mem_of_getElem? (i := 552) (by decide +kernel), List.mem_of_getElem? (i := 553) (by decide +kernel)⟩
theorem lw_p19 : lw_okq (⟨"QuietChecker$Parser", "assignment", "(I)V"⟩, 11) := ⟨⟨by decide +kernel, by decide +kernel⟩, List.mem_of_getElem? (i := 142) (by decide +kernel), List.mem_of_getElem? (i := 556) (by decide +kernel), List.mem_of_getElem? (i := 557) (by decide +kernel)⟩
theorem lw_p20 : lw_okq (⟨"QuietChecker$Parser", "known", "(IZ)I"⟩, 11) := ⟨⟨by decide +kernel, by decide +kernel⟩, List.mem_of_getElem? (i := 142) (by decide +kernel), List.mem_of_getElem? (i := 562) (by decide +kernel), List.mem_of_getElem? (i := 563) (by decide +kernel)⟩
theorem lw_p21 : lw_okq (⟨"QuietChecker$Parser", "mayOpen", "(II)Z"⟩, 11) := ⟨⟨by decide +kernel, by decide +kernel⟩, List.mem_of_getElem? (i := 142) (by decide +kernel), List.mem_of_getElem? (i := 571) (by decide +kernel), List.mem_of_getElem? (i := 572) (by decide +kernel)⟩
theorem lw_p22 : lw_okq (⟨"QuietChecker$Parser", "index", "(I)V"⟩, 11) := ⟨⟨by decide +kernel, by decide +kernel⟩, List.mem_of_getElem? (i := 142) (by decide +kernel), List.mem_of_getElem? (i := 579) (by decide +kernel), List.mem_of_getElem? (i := 580) (by decide +kernel)⟩
theorem lw_p23 : lw_okq (⟨"QuietChecker$Parser", "expression", "(I)Z"⟩, 11) := ⟨⟨by decide +kernel, by decide +kernel⟩, List.mem_of_getElem? (i := 142) (by decide +kernel), List.mem_of_getElem? (i := 583) (by decide +kernel), List.mem_of_getElem? (i := 584) (by decide +kernel)⟩
theorem lw_p24 : lw_okq (⟨"QuietChecker$Parser", "binary", "(II)Z"⟩, 11) := ⟨⟨by decide +kernel, by decide +kernel⟩, List.mem_of_getElem? (i := 142) (by decide +kernel), List.mem_of_getElem? (i := 587) (by decide +kernel), List.mem_of_getElem? (i := 588) (by decide +kernel)⟩
theorem lw_p25 : lw_okq (⟨"QuietChecker$Parser", "prefixed", "(I)Z"⟩, 11) := ⟨⟨by decide +kernel, by decide +kernel⟩, List.mem_of_getElem? (i := 142) (by decide +kernel), List.mem_of_getElem? (i := 591) (by decide +kernel), List.mem_of_getElem? (i := 592) (by decide +kernel)⟩
theorem lw_p26 : lw_okq (⟨"QuietChecker$Parser", "operand", "(I)Z"⟩, 11) := ⟨⟨by decide +kernel, by decide +kernel⟩, List.mem_of_getElem? (i := 142) (by decide +kernel), List.mem_of_getElem? (i := 605) (by decide +kernel), List.mem_of_getElem? (i := 606) (by decide +kernel)⟩
theorem lw_p27 : lw_okq (⟨"QuietChecker$Parser", "named", "(I)Z"⟩, 11) := ⟨⟨by decide +kernel, by decide +kernel⟩, List.mem_of_getElem? (i := 142) (by decide +kernel), List.mem_of_getElem? (i := 609) (by decide +kernel), List.mem_of_getElem? (i := 610) (by decide +kernel)⟩
theorem lw_p28 : lw_okq (⟨"QuietChecker$Parser", "call", "(II)Z"⟩, 11) := ⟨⟨by decide +kernel, by decide +kernel⟩, List.mem_of_getElem? (i := 142) (by decide +kernel), List.mem_of_getElem? (i := 613) (by decide +kernel), List.mem_of_getElem? (i := 614) (by decide +kernel)⟩
theorem lw_p29 : lw_okq (⟨"QuietChecker$Parser", "arguments", "(II)I"⟩, 11) := ⟨⟨by decide +kernel, by decide +kernel⟩, List.mem_of_getElem? (i := 142) (by decide +kernel), List.mem_of_getElem? (i := 617) (by decide +kernel), List.mem_of_getElem? (i := 618) (by decide +kernel)⟩
theorem lw_p30 : lw_okq (⟨"QuietChecker$Parser", "argument", "(III)V"⟩, 11) := ⟨⟨by decide +kernel, by decide +kernel⟩, List.mem_of_getElem? (i := 142) (by decide +kernel), List.mem_of_getElem? (i := 621) (by decide +kernel), List.mem_of_getElem? (i := 622) (by decide +kernel)⟩
theorem lw_p31 : lw_okq (⟨"QuietChecker$Parser", "tellLeak", "(II)V"⟩, 11) := ⟨⟨by decide +kernel, by decide +kernel⟩, List.mem_of_getElem? (i := 142) (by decide +kernel), List.mem_of_getElem? (i := 633) (by decide +kernel), List.mem_of_getElem? (i := 634) (by decide +kernel)⟩
def lw_privs_2 : List (MethodName × Nat) := [(⟨"QuietChecker$Parser", "local", "()V"⟩, 11), (⟨"QuietChecker$Parser", "statements", "(I)V"⟩, 11), (⟨"QuietChecker$Parser", "statement", "(I)V"⟩, 11), (⟨"QuietChecker$Parser", "assignment", "(I)V"⟩, 11), (⟨"QuietChecker$Parser", "known", "(IZ)I"⟩, 11), (⟨"QuietChecker$Parser", "mayOpen", "(II)Z"⟩, 11), (⟨"QuietChecker$Parser", "index", "(I)V"⟩, 11), (⟨"QuietChecker$Parser", "expression", "(I)Z"⟩, 11), (⟨"QuietChecker$Parser", "binary", "(II)Z"⟩, 11), (⟨"QuietChecker$Parser", "prefixed", "(I)Z"⟩, 11), (⟨"QuietChecker$Parser", "operand", "(I)Z"⟩, 11), (⟨"QuietChecker$Parser", "named", "(I)Z"⟩, 11), (⟨"QuietChecker$Parser", "call", "(II)Z"⟩, 11), (⟨"QuietChecker$Parser", "arguments", "(II)I"⟩, 11), (⟨"QuietChecker$Parser", "argument", "(III)V"⟩, 11), (⟨"QuietChecker$Parser", "tellLeak", "(II)V"⟩, 11)]
theorem lw_r2 : ∀ q ∈ lw_privs_2, lw_okq q := List.forall_mem_cons.mpr ⟨lw_p16, List.forall_mem_cons.mpr ⟨lw_p17, List.forall_mem_cons.mpr ⟨lw_p18, List.forall_mem_cons.mpr ⟨lw_p19, List.forall_mem_cons.mpr ⟨lw_p20, List.forall_mem_cons.mpr ⟨lw_p21, List.forall_mem_cons.mpr ⟨lw_p22, List.forall_mem_cons.mpr ⟨lw_p23, List.forall_mem_cons.mpr ⟨lw_p24, List.forall_mem_cons.mpr ⟨lw_p25, List.forall_mem_cons.mpr ⟨lw_p26, List.forall_mem_cons.mpr ⟨lw_p27, List.forall_mem_cons.mpr ⟨lw_p28, List.forall_mem_cons.mpr ⟨lw_p29, List.forall_mem_cons.mpr ⟨lw_p30, List.forall_mem_cons.mpr ⟨lw_p31, fun _ h => absurd h List.not_mem_nil⟩⟩⟩⟩⟩⟩⟩⟩⟩⟩⟩⟩⟩⟩⟩⟩
theorem lw_p32 : lw_okq (⟨"QuietChecker$Parser", "cellOfVariable", "(I)I"⟩, 11) := ⟨⟨by decide +kernel, by decide +kernel⟩, List.mem_of_getElem? (i := 142) (by decide +kernel), List.mem_of_getElem? (i := 639) (by decide +kernel), List.mem_of_getElem? (i := 640) (by decide +kernel)⟩
theorem lw_p33 : lw_okq (⟨"QuietChecker$Parser", "isSecret", "(I)Z"⟩, 11) := ⟨⟨by decide +kernel, by decide +kernel⟩, List.mem_of_getElem? (i := 142) (by decide +kernel), List.mem_of_getElem? (i := 649) (by decide +kernel), List.mem_of_getElem? (i := 650) (by decide +kernel)⟩
theorem lw_p34 : lw_okq (⟨"QuietChecker$Parser", "branch", "(II)V"⟩, 11) := ⟨⟨by decide +kernel, by decide +kernel⟩, List.mem_of_getElem? (i := 142) (by decide +kernel), List.mem_of_getElem? (i := 667) (by decide +kernel), List.mem_of_getElem? (i := 668) (by decide +kernel)⟩
theorem lw_p35 : lw_okq (⟨"QuietChecker$Parser", "condition", "(II)V"⟩, 11) := ⟨⟨by decide +kernel, by decide +kernel⟩, List.mem_of_getElem? (i := 142) (by decide +kernel), List.mem_of_getElem? (i := 671) (by decide +kernel), List.mem_of_getElem? (i := 672) (by decide +kernel)⟩
theorem lw_p36 : lw_okq (⟨"QuietChecker$Parser", "block", "(I)V"⟩, 11) := ⟨⟨by decide +kernel, by decide +kernel⟩, List.mem_of_getElem? (i := 142) (by decide +kernel), List.mem_of_getElem? (i := 675) (by decide +kernel), List.mem_of_getElem? (i := 676) (by decide +kernel)⟩
theorem lw_p37 : lw_okq (⟨"QuietChecker$Parser", "repetition", "(II)V"⟩, 11) := ⟨⟨by decide +kernel, by decide +kernel⟩, List.mem_of_getElem? (i := 142) (by decide +kernel), List.mem_of_getElem? (i := 688) (by decide +kernel), List.mem_of_getElem? (i := 689) (by decide +kernel)⟩
theorem lw_p38 : lw_okq (⟨"QuietChecker$Parser", "endFunction", "()V"⟩, 11) := ⟨⟨by decide +kernel, by decide +kernel⟩, List.mem_of_getElem? (i := 142) (by decide +kernel), List.mem_of_getElem? (i := 692) (by decide +kernel), List.mem_of_getElem? (i := 693) (by decide +kernel)⟩
theorem lw_p39 : lw_okq (⟨"QuietChecker$Parser", "declaration", "()V"⟩, 11) := ⟨⟨by decide +kernel, by decide +kernel⟩, List.mem_of_getElem? (i := 142) (by decide +kernel), List.mem_of_getElem? (i := 698) (by decide +kernel), List.mem_of_getElem? (i := 699) (by decide +kernel)⟩
theorem lw_p40 : lw_okq (⟨"QuietChecker$Parser", "arraySize", "()I"⟩, 11) := ⟨⟨by decide +kernel, by decide +kernel⟩, List.mem_of_getElem? (i := 142) (by decide +kernel), List.mem_of_getElem? (i := 702) (by decide +kernel), List.mem_of_getElem? (i := 703) (by decide +kernel)⟩
theorem lw_p41 : lw_okq (⟨"java/lang/Throwable", "fillInStackTrace", "(I)Ljava/lang/Throwable;"⟩, 6) := ⟨⟨by decide +kernel, by decide +kernel⟩, List.mem_of_getElem? (i := 767) (by decide +kernel), List.mem_of_getElem? (i := 765) (by decide +kernel), List.mem_of_getElem? (i := 766) (by decide +kernel)⟩
theorem lw_p42 : lw_okq (⟨"QuietChecker$Machine", "perform", "(II)V"⟩, 10) := ⟨⟨by decide +kernel, by decide +kernel⟩, List.mem_of_getElem? (i := 227) (by decide +kernel), List.mem_of_getElem? (i := 855) (by decide +kernel), List.mem_of_getElem? (i := 856) (by decide +kernel)⟩
theorem lw_p43 : lw_okq (⟨"QuietChecker$Machine", "step", "()V"⟩, 10) := ⟨⟨by decide +kernel, by decide +kernel⟩, List.mem_of_getElem? (i := 227) (by decide +kernel), List.mem_of_getElem? (i := 859) (by decide +kernel), List.mem_of_getElem? (i := 860) (by decide +kernel)⟩
theorem lw_p44 : lw_okq (⟨"QuietChecker$Machine", "push", "(I)V"⟩, 10) := ⟨⟨by decide +kernel, by decide +kernel⟩, List.mem_of_getElem? (i := 227) (by decide +kernel), List.mem_of_getElem? (i := 863) (by decide +kernel), List.mem_of_getElem? (i := 864) (by decide +kernel)⟩
theorem lw_p45 : lw_okq (⟨"QuietChecker$Machine", "held", "(I)I"⟩, 10) := ⟨⟨by decide +kernel, by decide +kernel⟩, List.mem_of_getElem? (i := 227) (by decide +kernel), List.mem_of_getElem? (i := 867) (by decide +kernel), List.mem_of_getElem? (i := 868) (by decide +kernel)⟩
theorem lw_p46 : lw_okq (⟨"QuietChecker$Machine", "pop", "()I"⟩, 10) := ⟨⟨by decide +kernel, by decide +kernel⟩, List.mem_of_getElem? (i := 227) (by decide +kernel), List.mem_of_getElem? (i := 871) (by decide +kernel), List.mem_of_getElem? (i := 872) (by decide +kernel)⟩
theorem lw_p47 : lw_okq (⟨"QuietChecker$Machine", "hold", "(II)V"⟩, 10) := ⟨⟨by decide +kernel, by decide +kernel⟩, List.mem_of_getElem? (i := 227) (by decide +kernel), List.mem_of_getElem? (i := 875) (by decide +kernel), List.mem_of_getElem? (i := 876) (by decide +kernel)⟩
def lw_privs_3 : List (MethodName × Nat) := [(⟨"QuietChecker$Parser", "cellOfVariable", "(I)I"⟩, 11), (⟨"QuietChecker$Parser", "isSecret", "(I)Z"⟩, 11), (⟨"QuietChecker$Parser", "branch", "(II)V"⟩, 11), (⟨"QuietChecker$Parser", "condition", "(II)V"⟩, 11), (⟨"QuietChecker$Parser", "block", "(I)V"⟩, 11), (⟨"QuietChecker$Parser", "repetition", "(II)V"⟩, 11), (⟨"QuietChecker$Parser", "endFunction", "()V"⟩, 11), (⟨"QuietChecker$Parser", "declaration", "()V"⟩, 11), (⟨"QuietChecker$Parser", "arraySize", "()I"⟩, 11), (⟨"java/lang/Throwable", "fillInStackTrace", "(I)Ljava/lang/Throwable;"⟩, 6), (⟨"QuietChecker$Machine", "perform", "(II)V"⟩, 10), (⟨"QuietChecker$Machine", "step", "()V"⟩, 10), (⟨"QuietChecker$Machine", "push", "(I)V"⟩, 10), (⟨"QuietChecker$Machine", "held", "(I)I"⟩, 10), (⟨"QuietChecker$Machine", "pop", "()I"⟩, 10), (⟨"QuietChecker$Machine", "hold", "(II)V"⟩, 10)]
theorem lw_r3 : ∀ q ∈ lw_privs_3, lw_okq q := List.forall_mem_cons.mpr ⟨lw_p32, List.forall_mem_cons.mpr ⟨lw_p33, List.forall_mem_cons.mpr ⟨lw_p34, List.forall_mem_cons.mpr ⟨lw_p35, List.forall_mem_cons.mpr ⟨lw_p36, List.forall_mem_cons.mpr ⟨lw_p37, List.forall_mem_cons.mpr ⟨lw_p38, List.forall_mem_cons.mpr ⟨lw_p39, List.forall_mem_cons.mpr ⟨lw_p40, List.forall_mem_cons.mpr ⟨lw_p41, List.forall_mem_cons.mpr ⟨lw_p42, List.forall_mem_cons.mpr ⟨lw_p43, List.forall_mem_cons.mpr ⟨lw_p44, List.forall_mem_cons.mpr ⟨lw_p45, List.forall_mem_cons.mpr ⟨lw_p46, List.forall_mem_cons.mpr ⟨lw_p47, fun _ h => absurd h List.not_mem_nil⟩⟩⟩⟩⟩⟩⟩⟩⟩⟩⟩⟩⟩⟩⟩⟩
theorem lw_p48 : lw_okq (⟨"QuietChecker$Machine", "readCell", "(I)V"⟩, 10) := ⟨⟨by decide +kernel, by decide +kernel⟩, List.mem_of_getElem? (i := 227) (by decide +kernel), List.mem_of_getElem? (i := 879) (by decide +kernel), List.mem_of_getElem? (i := 880) (by decide +kernel)⟩
theorem lw_p49 : lw_okq (⟨"QuietChecker$Machine", "touch", "(II)Z"⟩, 10) := ⟨⟨by decide +kernel, by decide +kernel⟩, List.mem_of_getElem? (i := 227) (by decide +kernel), List.mem_of_getElem? (i := 883) (by decide +kernel), List.mem_of_getElem? (i := 884) (by decide +kernel)⟩
theorem lw_p50 : lw_okq (⟨"QuietChecker$Machine", "jot", "(I)Z"⟩, 10) := ⟨⟨by decide +kernel, by decide +kernel⟩, List.mem_of_getElem? (i := 227) (by decide +kernel), List.mem_of_getElem? (i := 889) (by decide +kernel), List.mem_of_getElem? (i := 890) (by decide +kernel)⟩
theorem lw_p51 : lw_okq (⟨"QuietChecker$Machine", "writeCell", "(I)V"⟩, 10) := ⟨⟨by decide +kernel, by decide +kernel⟩, List.mem_of_getElem? (i := 227) (by decide +kernel), List.mem_of_getElem? (i := 893) (by decide +kernel), List.mem_of_getElem? (i := 894) (by decide +kernel)⟩
theorem lw_p52 : lw_okq (⟨"QuietChecker$Machine", "enter", "(I)V"⟩, 10) := ⟨⟨by decide +kernel, by decide +kernel⟩, List.mem_of_getElem? (i := 227) (by decide +kernel), List.mem_of_getElem? (i := 897) (by decide +kernel), List.mem_of_getElem? (i := 898) (by decide +kernel)⟩
theorem lw_p53 : lw_okq (⟨"QuietChecker$Machine", "leave", "()V"⟩, 10) := ⟨⟨by decide +kernel, by decide +kernel⟩, List.mem_of_getElem? (i := 227) (by decide +kernel), List.mem_of_getElem? (i := 1161) (by decide +kernel), List.mem_of_getElem? (i := 1162) (by decide +kernel)⟩
theorem lw_p54 : lw_okq (⟨"QuietChecker$Machine", "performOnStack", "(II)V"⟩, 10) := ⟨⟨by decide +kernel, by decide +kernel⟩, List.mem_of_getElem? (i := 227) (by decide +kernel), List.mem_of_getElem? (i := 1165) (by decide +kernel), List.mem_of_getElem? (i := 1166) (by decide +kernel)⟩
theorem lw_p55 : lw_okq (⟨"QuietChecker$Machine", "divide", "(IIZ)V"⟩, 10) := ⟨⟨by decide +kernel, by decide +kernel⟩, List.mem_of_getElem? (i := 227) (by decide +kernel), List.mem_of_getElem? (i := 1169) (by decide +kernel), List.mem_of_getElem? (i := 1170) (by decide +kernel)⟩
theorem lw_p56 : lw_okq (⟨"QuietChecker$Machine", "disturbCells", "(III)I"⟩, 10) := ⟨⟨by decide +kernel, by decide +kernel⟩, List.mem_of_getElem? (i := 227) (by decide +kernel), List.mem_of_getElem? (i := 1188) (by decide +kernel), List.mem_of_getElem? (i := 1189) (by decide +kernel)⟩
theorem lw_p57 : lw_okq (⟨"QuietCheckerModel", "next", "()V"⟩, 64) := ⟨⟨by decide +kernel, by decide +kernel⟩, List.mem_of_getElem? (i := 1227) (by decide +kernel), List.mem_of_getElem? (i := 1442) (by decide +kernel), List.mem_of_getElem? (i := 1443) (by decide +kernel)⟩
theorem lw_p58 : lw_okq (⟨"QuietCheckerModel", "charAt", "(I)I"⟩, 64) := ⟨⟨by decide +kernel, by decide +kernel⟩, List.mem_of_getElem? (i := 1227) (by decide +kernel), List.mem_of_getElem? (i := 1446) (by decide +kernel), List.mem_of_getElem? (i := 1447) (by decide +kernel)⟩
theorem lw_p59 : lw_okq (⟨"QuietCheckerModel", "digits", "()V"⟩, 64) := ⟨⟨by decide +kernel, by decide +kernel⟩, List.mem_of_getElem? (i := 1227) (by decide +kernel), List.mem_of_getElem? (i := 1453) (by decide +kernel), List.mem_of_getElem? (i := 1454) (by decide +kernel)⟩
theorem lw_p60 : lw_okq (⟨"QuietCheckerModel", "word", "()V"⟩, 64) := ⟨⟨by decide +kernel, by decide +kernel⟩, List.mem_of_getElem? (i := 1227) (by decide +kernel), List.mem_of_getElem? (i := 1463) (by decide +kernel), List.mem_of_getElem? (i := 1464) (by decide +kernel)⟩
theorem lw_p61 : lw_okq (⟨"QuietCheckerModel", "sign", "(I)V"⟩, 64) := ⟨⟨by decide +kernel, by decide +kernel⟩, List.mem_of_getElem? (i := 1227) (by decide +kernel), List.mem_of_getElem? (i := 1476) (by decide +kernel), List.mem_of_getElem? (i := 1477) (by decide +kernel)⟩
theorem lw_p62 : lw_okq (⟨"QuietCheckerModel", "say", "(III)V"⟩, 64) := ⟨⟨by decide +kernel, by decide +kernel⟩, List.mem_of_getElem? (i := 1227) (by decide +kernel), List.mem_of_getElem? (i := 1480) (by decide +kernel), List.mem_of_getElem? (i := 1481) (by decide +kernel)⟩
theorem lw_p63 : lw_okq (⟨"QuietCheckerModel", "plain", "(I)V"⟩, 64) := ⟨⟨by decide +kernel, by decide +kernel⟩, List.mem_of_getElem? (i := 1227) (by decide +kernel), List.mem_of_getElem? (i := 1484) (by decide +kernel), List.mem_of_getElem? (i := 1485) (by decide +kernel)⟩
def lw_privs_4 : List (MethodName × Nat) := [(⟨"QuietChecker$Machine", "readCell", "(I)V"⟩, 10), (⟨"QuietChecker$Machine", "touch", "(II)Z"⟩, 10), (⟨"QuietChecker$Machine", "jot", "(I)Z"⟩, 10), (⟨"QuietChecker$Machine", "writeCell", "(I)V"⟩, 10), (⟨"QuietChecker$Machine", "enter", "(I)V"⟩, 10), (⟨"QuietChecker$Machine", "leave", "()V"⟩, 10), (⟨"QuietChecker$Machine", "performOnStack", "(II)V"⟩, 10), (⟨"QuietChecker$Machine", "divide", "(IIZ)V"⟩, 10), (⟨"QuietChecker$Machine", "disturbCells", "(III)I"⟩, 10), (⟨"QuietCheckerModel", "next", "()V"⟩, 64), (⟨"QuietCheckerModel", "charAt", "(I)I"⟩, 64), (⟨"QuietCheckerModel", "digits", "()V"⟩, 64), (⟨"QuietCheckerModel", "word", "()V"⟩, 64), (⟨"QuietCheckerModel", "sign", "(I)V"⟩, 64), (⟨"QuietCheckerModel", "say", "(III)V"⟩, 64), (⟨"QuietCheckerModel", "plain", "(I)V"⟩, 64)]
theorem lw_r4 : ∀ q ∈ lw_privs_4, lw_okq q := List.forall_mem_cons.mpr ⟨lw_p48, List.forall_mem_cons.mpr ⟨lw_p49, List.forall_mem_cons.mpr ⟨lw_p50, List.forall_mem_cons.mpr ⟨lw_p51, List.forall_mem_cons.mpr ⟨lw_p52, List.forall_mem_cons.mpr ⟨lw_p53, List.forall_mem_cons.mpr ⟨lw_p54, List.forall_mem_cons.mpr ⟨lw_p55, List.forall_mem_cons.mpr ⟨lw_p56, List.forall_mem_cons.mpr ⟨lw_p57, List.forall_mem_cons.mpr ⟨lw_p58, List.forall_mem_cons.mpr ⟨lw_p59, List.forall_mem_cons.mpr ⟨lw_p60, List.forall_mem_cons.mpr ⟨lw_p61, List.forall_mem_cons.mpr ⟨lw_p62, List.forall_mem_cons.mpr ⟨lw_p63, fun _ h => absurd h List.not_mem_nil⟩⟩⟩⟩⟩⟩⟩⟩⟩⟩⟩⟩⟩⟩⟩⟩
theorem lw_p64 : lw_okq (⟨"QuietCheckerModel", "wait", "(IIIII)V"⟩, 64) := ⟨⟨by decide +kernel, by decide +kernel⟩, List.mem_of_getElem? (i := 1227) (by decide +kernel), List.mem_of_getElem? (i := 1488) (by decide +kernel), List.mem_of_getElem? (i := 1489) (by decide +kernel)⟩
theorem lw_p65 : lw_okq (⟨"QuietCheckerModel", "goOn", "()V"⟩, 64) := ⟨⟨by decide +kernel, by decide +kernel⟩, List.mem_of_getElem? (i := 1227) (by decide +kernel), List.mem_of_getElem? (i := 1492) (by decide +kernel), List.mem_of_getElem? (i := 1493) (by decide +kernel)⟩
theorem lw_p66 : lw_okq (⟨"QuietCheckerModel", "rows", "(IIII)V"⟩, 64) := ⟨⟨by decide +kernel, by decide +kernel⟩, List.mem_of_getElem? (i := 1227) (by decide +kernel), List.mem_of_getElem? (i := 1496) (by decide +kernel), List.mem_of_getElem? (i := 1497) (by decide +kernel)⟩
theorem lw_p67 : lw_okq (⟨"QuietCheckerModel", "told", "(I)V"⟩, 64) := ⟨⟨by decide +kernel, by decide +kernel⟩, List.mem_of_getElem? (i := 1227) (by decide +kernel), List.mem_of_getElem? (i := 1500) (by decide +kernel), List.mem_of_getElem? (i := 1501) (by decide +kernel)⟩
theorem lw_p68 : lw_okq (⟨"QuietCheckerModel", "top", "()V"⟩, 64) := ⟨⟨by decide +kernel, by decide +kernel⟩, List.mem_of_getElem? (i := 1227) (by decide +kernel), List.mem_of_getElem? (i := 1504) (by decide +kernel), List.mem_of_getElem? (i := 1505) (by decide +kernel)⟩
theorem lw_p69 : lw_okq (⟨"QuietCheckerModel", "label0", "()V"⟩, 64) := ⟨⟨by decide +kernel, by decide +kernel⟩, List.mem_of_getElem? (i := 1227) (by decide +kernel), List.mem_of_getElem? (i := 1508) (by decide +kernel), List.mem_of_getElem? (i := 1509) (by decide +kernel)⟩
theorem lw_p70 : lw_okq (⟨"QuietCheckerModel", "fail", "(I)V"⟩, 64) := ⟨⟨by decide +kernel, by decide +kernel⟩, List.mem_of_getElem? (i := 1227) (by decide +kernel), List.mem_of_getElem? (i := 1512) (by decide +kernel), List.mem_of_getElem? (i := 1513) (by decide +kernel)⟩
theorem lw_p71 : lw_okq (⟨"QuietCheckerModel", "find", "([I[II)I"⟩, 64) := ⟨⟨by decide +kernel, by decide +kernel⟩, List.mem_of_getElem? (i := 1227) (by decide +kernel), List.mem_of_getElem? (i := 1516) (by decide +kernel), List.mem_of_getElem? (i := 1517) (by decide +kernel)⟩
theorem lw_p72 : lw_okq (⟨"QuietCheckerModel", "same", "(IIII)Z"⟩, 64) := ⟨⟨by decide +kernel, by decide +kernel⟩, List.mem_of_getElem? (i := 1227) (by decide +kernel), List.mem_of_getElem? (i := 1520) (by decide +kernel), List.mem_of_getElem? (i := 1521) (by decide +kernel)⟩
theorem lw_p73 : lw_okq (⟨"QuietCheckerModel", "meets", "(I)Z"⟩, 64) := ⟨⟨by decide +kernel, by decide +kernel⟩, List.mem_of_getElem? (i := 1227) (by decide +kernel), List.mem_of_getElem? (i := 1524) (by decide +kernel), List.mem_of_getElem? (i := 1525) (by decide +kernel)⟩
theorem lw_p74 : lw_okq (⟨"QuietCheckerModel", "must", "(I)V"⟩, 64) := ⟨⟨by decide +kernel, by decide +kernel⟩, List.mem_of_getElem? (i := 1227) (by decide +kernel), List.mem_of_getElem? (i := 1529) (by decide +kernel), List.mem_of_getElem? (i := 1530) (by decide +kernel)⟩
theorem lw_p75 : lw_okq (⟨"QuietCheckerModel", "function", "()V"⟩, 64) := ⟨⟨by decide +kernel, by decide +kernel⟩, List.mem_of_getElem? (i := 1227) (by decide +kernel), List.mem_of_getElem? (i := 1533) (by decide +kernel), List.mem_of_getElem? (i := 1534) (by decide +kernel)⟩
theorem lw_p76 : lw_okq (⟨"QuietCheckerModel", "own", "()V"⟩, 64) := ⟨⟨by decide +kernel, by decide +kernel⟩, List.mem_of_getElem? (i := 1227) (by decide +kernel), List.mem_of_getElem? (i := 1537) (by decide +kernel), List.mem_of_getElem? (i := 1538) (by decide +kernel)⟩
theorem lw_p77 : lw_okq (⟨"QuietCheckerModel", "functionEnd", "(III)V"⟩, 64) := ⟨⟨by decide +kernel, by decide +kernel⟩, List.mem_of_getElem? (i := 1227) (by decide +kernel), List.mem_of_getElem? (i := 1541) (by decide +kernel), List.mem_of_getElem? (i := 1542) (by decide +kernel)⟩
theorem lw_p78 : lw_okq (⟨"QuietCheckerModel", "forbid", "(II)V"⟩, 64) := ⟨⟨by decide +kernel, by decide +kernel⟩, List.mem_of_getElem? (i := 1227) (by decide +kernel), List.mem_of_getElem? (i := 1545) (by decide +kernel), List.mem_of_getElem? (i := 1546) (by decide +kernel)⟩
theorem lw_p79 : lw_okq (⟨"QuietCheckerModel", "begins", "()Z"⟩, 64) := ⟨⟨by decide +kernel, by decide +kernel⟩, List.mem_of_getElem? (i := 1227) (by decide +kernel), List.mem_of_getElem? (i := 1549) (by decide +kernel), List.mem_of_getElem? (i := 1550) (by decide +kernel)⟩
def lw_privs_5 : List (MethodName × Nat) := [(⟨"QuietCheckerModel", "wait", "(IIIII)V"⟩, 64), (⟨"QuietCheckerModel", "goOn", "()V"⟩, 64), (⟨"QuietCheckerModel", "rows", "(IIII)V"⟩, 64), (⟨"QuietCheckerModel", "told", "(I)V"⟩, 64), (⟨"QuietCheckerModel", "top", "()V"⟩, 64), (⟨"QuietCheckerModel", "label0", "()V"⟩, 64), (⟨"QuietCheckerModel", "fail", "(I)V"⟩, 64), (⟨"QuietCheckerModel", "find", "([I[II)I"⟩, 64), (⟨"QuietCheckerModel", "same", "(IIII)Z"⟩, 64), (⟨"QuietCheckerModel", "meets", "(I)Z"⟩, 64), (⟨"QuietCheckerModel", "must", "(I)V"⟩, 64), (⟨"QuietCheckerModel", "function", "()V"⟩, 64), (⟨"QuietCheckerModel", "own", "()V"⟩, 64), (⟨"QuietCheckerModel", "functionEnd", "(III)V"⟩, 64), (⟨"QuietCheckerModel", "forbid", "(II)V"⟩, 64), (⟨"QuietCheckerModel", "begins", "()Z"⟩, 64)]
theorem lw_r5 : ∀ q ∈ lw_privs_5, lw_okq q := List.forall_mem_cons.mpr ⟨lw_p64, List.forall_mem_cons.mpr ⟨lw_p65, List.forall_mem_cons.mpr ⟨lw_p66, List.forall_mem_cons.mpr ⟨lw_p67, List.forall_mem_cons.mpr ⟨lw_p68, List.forall_mem_cons.mpr ⟨lw_p69, List.forall_mem_cons.mpr ⟨lw_p70, List.forall_mem_cons.mpr ⟨lw_p71, List.forall_mem_cons.mpr ⟨lw_p72, List.forall_mem_cons.mpr ⟨lw_p73, List.forall_mem_cons.mpr ⟨lw_p74, List.forall_mem_cons.mpr ⟨lw_p75, List.forall_mem_cons.mpr ⟨lw_p76, List.forall_mem_cons.mpr ⟨lw_p77, List.forall_mem_cons.mpr ⟨lw_p78, List.forall_mem_cons.mpr ⟨lw_p79, fun _ h => absurd h List.not_mem_nil⟩⟩⟩⟩⟩⟩⟩⟩⟩⟩⟩⟩⟩⟩⟩⟩
theorem lw_p80 : lw_okq (⟨"QuietCheckerModel", "statement", "()V"⟩, 64) := ⟨⟨by decide +kernel, by decide +kernel⟩, List.mem_of_getElem? (i := 1227) (by decide +kernel), List.mem_of_getElem? (i := 1553) (by decide +kernel), List.mem_of_getElem? (i := 1554) (by decide +kernel)⟩
theorem lw_p81 : lw_okq (⟨"QuietCheckerModel", "assignment", "()V"⟩, 64) := ⟨⟨by decide +kernel, by decide +kernel⟩, List.mem_of_getElem? (i := 1227) (by decide +kernel), List.mem_of_getElem? (i := 1557) (by decide +kernel), List.mem_of_getElem? (i := 1558) (by decide +kernel)⟩
theorem lw_p82 : lw_okq (⟨"QuietCheckerModel", "ahead", "()I"⟩, 64) := ⟨⟨by decide +kernel, by decide +kernel⟩, List.mem_of_getElem? (i := 1227) (by decide +kernel), List.mem_of_getElem? (i := 1561) (by decide +kernel), List.mem_of_getElem? (i := 1562) (by decide +kernel)⟩
theorem lw_p83 : lw_okq (⟨"QuietCheckerModel", "named", "(Z)I"⟩, 64) := ⟨⟨by decide +kernel, by decide +kernel⟩, List.mem_of_getElem? (i := 1227) (by decide +kernel), List.mem_of_getElem? (i := 1565) (by decide +kernel), List.mem_of_getElem? (i := 1566) (by decide +kernel)⟩
theorem lw_p84 : lw_okq (⟨"QuietCheckerModel", "deeper", "()V"⟩, 64) := ⟨⟨by decide +kernel, by decide +kernel⟩, List.mem_of_getElem? (i := 1227) (by decide +kernel), List.mem_of_getElem? (i := 1569) (by decide +kernel), List.mem_of_getElem? (i := 1570) (by decide +kernel)⟩
theorem lw_p85 : lw_okq (⟨"QuietCheckerModel", "branch", "(I)I"⟩, 64) := ⟨⟨by decide +kernel, by decide +kernel⟩, List.mem_of_getElem? (i := 1227) (by decide +kernel), List.mem_of_getElem? (i := 1573) (by decide +kernel), List.mem_of_getElem? (i := 1574) (by decide +kernel)⟩
theorem lw_p86 : lw_okq (⟨"QuietCheckerModel", "block", "()V"⟩, 64) := ⟨⟨by decide +kernel, by decide +kernel⟩, List.mem_of_getElem? (i := 1227) (by decide +kernel), List.mem_of_getElem? (i := 1577) (by decide +kernel), List.mem_of_getElem? (i := 1578) (by decide +kernel)⟩
theorem lw_p87 : lw_okq (⟨"QuietCheckerModel", "ifDone", "(I)V"⟩, 64) := ⟨⟨by decide +kernel, by decide +kernel⟩, List.mem_of_getElem? (i := 1227) (by decide +kernel), List.mem_of_getElem? (i := 1581) (by decide +kernel), List.mem_of_getElem? (i := 1582) (by decide +kernel)⟩
theorem lw_p88 : lw_okq (⟨"QuietCheckerModel", "expressions", "(IIIII)V"⟩, 64) := ⟨⟨by decide +kernel, by decide +kernel⟩, List.mem_of_getElem? (i := 1227) (by decide +kernel), List.mem_of_getElem? (i := 1585) (by decide +kernel), List.mem_of_getElem? (i := 1586) (by decide +kernel)⟩
theorem lw_p89 : lw_okq (⟨"QuietCheckerModel", "assigned", "(IZI)V"⟩, 64) := ⟨⟨by decide +kernel, by decide +kernel⟩, List.mem_of_getElem? (i := 1227) (by decide +kernel), List.mem_of_getElem? (i := 1589) (by decide +kernel), List.mem_of_getElem? (i := 1590) (by decide +kernel)⟩
theorem lw_p90 : lw_okq (⟨"QuietCheckerModel", "index", "()V"⟩, 64) := ⟨⟨by decide +kernel, by decide +kernel⟩, List.mem_of_getElem? (i := 1227) (by decide +kernel), List.mem_of_getElem? (i := 1593) (by decide +kernel), List.mem_of_getElem? (i := 1594) (by decide +kernel)⟩
theorem lw_p91 : lw_okq (⟨"QuietCheckerModel", "asked", "()V"⟩, 64) := ⟨⟨by decide +kernel, by decide +kernel⟩, List.mem_of_getElem? (i := 1227) (by decide +kernel), List.mem_of_getElem? (i := 1597) (by decide +kernel), List.mem_of_getElem? (i := 1598) (by decide +kernel)⟩
theorem lw_p92 : lw_okq (⟨"QuietCheckerModel", "first", "(Z)V"⟩, 64) := ⟨⟨by decide +kernel, by decide +kernel⟩, List.mem_of_getElem? (i := 1227) (by decide +kernel), List.mem_of_getElem? (i := 1601) (by decide +kernel), List.mem_of_getElem? (i := 1602) (by decide +kernel)⟩
theorem lw_p93 : lw_okq (⟨"QuietCheckerModel", "single", "()V"⟩, 64) := ⟨⟨by decide +kernel, by decide +kernel⟩, List.mem_of_getElem? (i := 1227) (by decide +kernel), List.mem_of_getElem? (i := 1605) (by decide +kernel), List.mem_of_getElem? (i := 1606) (by decide +kernel)⟩
theorem lw_p94 : lw_okq (⟨"QuietCheckerModel", "called", "()V"⟩, 64) := ⟨⟨by decide +kernel, by decide +kernel⟩, List.mem_of_getElem? (i := 1227) (by decide +kernel), List.mem_of_getElem? (i := 1609) (by decide +kernel), List.mem_of_getElem? (i := 1610) (by decide +kernel)⟩
theorem lw_p95 : lw_okq (⟨"QuietCheckerModel", "call", "()V"⟩, 64) := ⟨⟨by decide +kernel, by decide +kernel⟩, List.mem_of_getElem? (i := 1227) (by decide +kernel), List.mem_of_getElem? (i := 1613) (by decide +kernel), List.mem_of_getElem? (i := 1614) (by decide +kernel)⟩
def lw_privs_6 : List (MethodName × Nat) := [(⟨"QuietCheckerModel", "statement", "()V"⟩, 64), (⟨"QuietCheckerModel", "assignment", "()V"⟩, 64), (⟨"QuietCheckerModel", "ahead", "()I"⟩, 64), (⟨"QuietCheckerModel", "named", "(Z)I"⟩, 64), (⟨"QuietCheckerModel", "deeper", "()V"⟩, 64), (⟨"QuietCheckerModel", "branch", "(I)I"⟩, 64), (⟨"QuietCheckerModel", "block", "()V"⟩, 64), (⟨"QuietCheckerModel", "ifDone", "(I)V"⟩, 64), (⟨"QuietCheckerModel", "expressions", "(IIIII)V"⟩, 64), (⟨"QuietCheckerModel", "assigned", "(IZI)V"⟩, 64), (⟨"QuietCheckerModel", "index", "()V"⟩, 64), (⟨"QuietCheckerModel", "asked", "()V"⟩, 64), (⟨"QuietCheckerModel", "first", "(Z)V"⟩, 64), (⟨"QuietCheckerModel", "single", "()V"⟩, 64), (⟨"QuietCheckerModel", "called", "()V"⟩, 64), (⟨"QuietCheckerModel", "call", "()V"⟩, 64)]
theorem lw_r6 : ∀ q ∈ lw_privs_6, lw_okq q := List.forall_mem_cons.mpr ⟨lw_p80, List.forall_mem_cons.mpr ⟨lw_p81, List.forall_mem_cons.mpr ⟨lw_p82, List.forall_mem_cons.mpr ⟨lw_p83, List.forall_mem_cons.mpr ⟨lw_p84, List.forall_mem_cons.mpr ⟨lw_p85, List.forall_mem_cons.mpr ⟨lw_p86, List.forall_mem_cons.mpr ⟨lw_p87, List.forall_mem_cons.mpr ⟨lw_p88, List.forall_mem_cons.mpr ⟨lw_p89, List.forall_mem_cons.mpr ⟨lw_p90, List.forall_mem_cons.mpr ⟨lw_p91, List.forall_mem_cons.mpr ⟨lw_p92, List.forall_mem_cons.mpr ⟨lw_p93, List.forall_mem_cons.mpr ⟨lw_p94, List.forall_mem_cons.mpr ⟨lw_p95, fun _ h => absurd h List.not_mem_nil⟩⟩⟩⟩⟩⟩⟩⟩⟩⟩⟩⟩⟩⟩⟩⟩
theorem lw_p96 : lw_okq (⟨"QuietCheckerModel", "callEnd", "(II)V"⟩, 64) := ⟨⟨by decide +kernel, by decide +kernel⟩, List.mem_of_getElem? (i := 1227) (by decide +kernel), List.mem_of_getElem? (i := 1617) (by decide +kernel), List.mem_of_getElem? (i := 1618) (by decide +kernel)⟩
theorem lw_p97 : lw_okq (⟨"QuietCheckerModel", "levelOn", "(I)V"⟩, 64) := ⟨⟨by decide +kernel, by decide +kernel⟩, List.mem_of_getElem? (i := 1227) (by decide +kernel), List.mem_of_getElem? (i := 1621) (by decide +kernel), List.mem_of_getElem? (i := 1622) (by decide +kernel)⟩
theorem lw_p98 : lw_okq (⟨"QuietCheckerModel", "given", "(III)V"⟩, 64) := ⟨⟨by decide +kernel, by decide +kernel⟩, List.mem_of_getElem? (i := 1227) (by decide +kernel), List.mem_of_getElem? (i := 1628) (by decide +kernel), List.mem_of_getElem? (i := 1629) (by decide +kernel)⟩
theorem lw_p99 : lw_okq (⟨"QuietCheckerModel", "cellOf", "(II)I"⟩, 64) := ⟨⟨by decide +kernel, by decide +kernel⟩, List.mem_of_getElem? (i := 1227) (by decide +kernel), List.mem_of_getElem? (i := 1636) (by decide +kernel), List.mem_of_getElem? (i := 1637) (by decide +kernel)⟩
theorem lw_p100 : lw_okq (⟨"QuietCheckerModel", "fails", "(ZZ)Z"⟩, 64) := ⟨⟨by decide +kernel, by decide +kernel⟩, List.mem_of_getElem? (i := 1227) (by decide +kernel), List.mem_of_getElem? (i := 1640) (by decide +kernel), List.mem_of_getElem? (i := 1641) (by decide +kernel)⟩
theorem lw_p101 : lw_okq (⟨"QuietCheckerModel", "go", "(I)V"⟩, 64) := ⟨⟨by decide +kernel, by decide +kernel⟩, List.mem_of_getElem? (i := 1227) (by decide +kernel), List.mem_of_getElem? (i := 1648) (by decide +kernel), List.mem_of_getElem? (i := 1649) (by decide +kernel)⟩
theorem lw_p102 : lw_okq (⟨"QuietCheckerModel", "cell", "(II)I"⟩, 64) := ⟨⟨by decide +kernel, by decide +kernel⟩, List.mem_of_getElem? (i := 1227) (by decide +kernel), List.mem_of_getElem? (i := 1652) (by decide +kernel), List.mem_of_getElem? (i := 1653) (by decide +kernel)⟩
theorem lw_p103 : lw_okq (⟨"QuietCheckerModel", "tell", "(I)V"⟩, 64) := ⟨⟨by decide +kernel, by decide +kernel⟩, List.mem_of_getElem? (i := 1227) (by decide +kernel), List.mem_of_getElem? (i := 1656) (by decide +kernel), List.mem_of_getElem? (i := 1657) (by decide +kernel)⟩
theorem lw_p104 : lw_okq (⟨"QuietCheckerModel", "disguise", "(I)V"⟩, 64) := ⟨⟨by decide +kernel, by decide +kernel⟩, List.mem_of_getElem? (i := 1227) (by decide +kernel), List.mem_of_getElem? (i := 1667) (by decide +kernel), List.mem_of_getElem? (i := 1668) (by decide +kernel)⟩
def lw_privs_7 : List (MethodName × Nat) := [(⟨"QuietCheckerModel", "callEnd", "(II)V"⟩, 64), (⟨"QuietCheckerModel", "levelOn", "(I)V"⟩, 64), (⟨"QuietCheckerModel", "given", "(III)V"⟩, 64), (⟨"QuietCheckerModel", "cellOf", "(II)I"⟩, 64), (⟨"QuietCheckerModel", "fails", "(ZZ)Z"⟩, 64), (⟨"QuietCheckerModel", "go", "(I)V"⟩, 64), (⟨"QuietCheckerModel", "cell", "(II)I"⟩, 64), (⟨"QuietCheckerModel", "tell", "(I)V"⟩, 64), (⟨"QuietCheckerModel", "disguise", "(I)V"⟩, 64)]
theorem lw_r7 : ∀ q ∈ lw_privs_7, lw_okq q := List.forall_mem_cons.mpr ⟨lw_p96, List.forall_mem_cons.mpr ⟨lw_p97, List.forall_mem_cons.mpr ⟨lw_p98, List.forall_mem_cons.mpr ⟨lw_p99, List.forall_mem_cons.mpr ⟨lw_p100, List.forall_mem_cons.mpr ⟨lw_p101, List.forall_mem_cons.mpr ⟨lw_p102, List.forall_mem_cons.mpr ⟨lw_p103, List.forall_mem_cons.mpr ⟨lw_p104, fun _ h => absurd h List.not_mem_nil⟩⟩⟩⟩⟩⟩⟩⟩⟩
def lw_privs : List (MethodName × Nat) := lw_privs_1 ++ (lw_privs_2 ++ (lw_privs_3 ++ (lw_privs_4 ++ (lw_privs_5 ++ (lw_privs_6 ++ (lw_privs_7))))))
def lw_tbl : List Cond := k2_sels lw_privs ++ tables_1
theorem lw_privs_ok : ∀ q ∈ lw_privs, lw_okq q := by
  show ∀ q ∈ lw_privs_1 ++ (lw_privs_2 ++ (lw_privs_3 ++ (lw_privs_4 ++ (lw_privs_5 ++ (lw_privs_6 ++ (lw_privs_7)))))), lw_okq q
  exact List.forall_mem_append.mpr ⟨lw_r1, List.forall_mem_append.mpr ⟨lw_r2, List.forall_mem_append.mpr ⟨lw_r3, List.forall_mem_append.mpr ⟨lw_r4, List.forall_mem_append.mpr ⟨lw_r5, List.forall_mem_append.mpr ⟨lw_r6, lw_r7⟩⟩⟩⟩⟩⟩
end
section
/-! Names and tables of the classes and methods, written by gentab.py out of what TURN printed of the program -/
def pm_R0 : String := "QuietChecker$Machine"
def pm_T0 : u_T := fun k => match k with
  | 0 => ("QuietChecker$Machine", "program", "LQuietChecker$Program;", true)
  | 1 => ("QuietChecker$Machine", "cells", "[I", true)
  | 2 => ("QuietChecker$Machine", "notes", "[I", true)
  | 3 => ("QuietChecker$Machine", "noted", "I", false)
  | 4 => ("QuietChecker$Machine", "steps", "I", false)
  | 5 => ("QuietChecker$Machine", "end", "I", false)
  | 6 => ("QuietChecker$Machine", "stack", "[I", true)
  | 7 => ("QuietChecker$Machine", "height", "I", false)
  | 8 => ("QuietChecker$Machine", "next", "I", false)
  | _ => ("QuietChecker$Machine", "fuel", "I", false)
def pm_y0 : Nat → FieldType := fun k => match k with
  | 0 => .object "QuietChecker$Program"
  | 1 => .array .int
  | 2 => .array .int
  | 3 => .int
  | 4 => .int
  | 5 => .int
  | 6 => .array .int
  | 7 => .int
  | 8 => .int
  | _ => .int
theorem pm_nm0 : ∀ a, a < 10 → ∀ b, b < 10 → a ≠ b → (pm_T0 a).2.1 ≠ (pm_T0 b).2.1 := by decide +kernel
theorem pm_ty0 : ∀ k, k < 10 → parseFieldDescriptor (pm_T0 k).2.2.1 = some (pm_y0 k) := by decide +kernel
def pm_R1 : String := "QuietChecker$Names"
def pm_T1 : u_T := fun k => match k with
  | 0 => ("QuietChecker$Names", "text", "[C", true)
  | 1 => ("QuietChecker$Names", "places", "[I", true)
  | 2 => ("QuietChecker$Names", "sizes", "[I", true)
  | 3 => ("QuietChecker$Names", "secrets", "[Z", true)
  | _ => ("QuietChecker$Names", "count", "I", false)
def pm_y1 : Nat → FieldType := fun k => match k with
  | 0 => .array .char
  | 1 => .array .int
  | 2 => .array .int
  | 3 => .array .boolean
  | _ => .int
theorem pm_nm1 : ∀ a, a < 5 → ∀ b, b < 5 → a ≠ b → (pm_T1 a).2.1 ≠ (pm_T1 b).2.1 := by decide +kernel
theorem pm_ty1 : ∀ k, k < 5 → parseFieldDescriptor (pm_T1 k).2.2.1 = some (pm_y1 k) := by decide +kernel
def pm_R2 : String := "QuietChecker$Parser"
def pm_T2 : u_T := fun k => match k with
  | 0 => ("QuietChecker$Parser", "program", "LQuietChecker$Program;", true)
  | 1 => ("QuietChecker$Parser", "tokens", "LQuietChecker$Tokens;", true)
  | 2 => ("QuietChecker$Parser", "locals", "LQuietChecker$Names;", true)
  | 3 => ("QuietChecker$Parser", "inFunction", "Z", false)
  | 4 => ("QuietChecker$Parser", "functionName", "I", false)
  | 5 => ("QuietChecker$Parser", "functionSecret", "Z", false)
  | 6 => ("QuietChecker$Parser", "fault", "I", false)
  | 7 => ("QuietChecker$Parser", "leak", "I", false)
  | 8 => ("QuietChecker$Parser", "token", "I", false)
  | 9 => ("QuietChecker$Parser", "kind", "LQuietChecker$Kind;", false)
  | _ => ("QuietChecker$Parser", "place", "I", false)
def pm_y2 : Nat → FieldType := fun k => match k with
  | 0 => .object "QuietChecker$Program"
  | 1 => .object "QuietChecker$Tokens"
  | 2 => .object "QuietChecker$Names"
  | 3 => .boolean
  | 4 => .int
  | 5 => .boolean
  | 6 => .int
  | 7 => .int
  | 8 => .int
  | 9 => .object "QuietChecker$Kind"
  | _ => .int
theorem pm_nm2 : ∀ a, a < 11 → ∀ b, b < 11 → a ≠ b → (pm_T2 a).2.1 ≠ (pm_T2 b).2.1 := by decide +kernel
theorem pm_ty2 : ∀ k, k < 11 → parseFieldDescriptor (pm_T2 k).2.2.1 = some (pm_y2 k) := by decide +kernel
def pm_R3 : String := "QuietChecker$Program"
def pm_T3 : u_T := fun k => match k with
  | 0 => ("QuietChecker$Program", "text", "[C", true)
  | 1 => ("QuietChecker$Program", "length", "I", false)
  | 2 => ("QuietChecker$Program", "top", "LQuietChecker$Names;", true)
  | 3 => ("QuietChecker$Program", "sizes", "[I", true)
  | 4 => ("QuietChecker$Program", "arrayNumbers", "[I", true)
  | 5 => ("QuietChecker$Program", "arrays", "I", false)
  | 6 => ("QuietChecker$Program", "functions", "LQuietChecker$Names;", true)
  | 7 => ("QuietChecker$Program", "entries", "[I", true)
  | 8 => ("QuietChecker$Program", "parameters", "[I", true)
  | 9 => ("QuietChecker$Program", "secretParameters", "[Z", true)
  | 10 => ("QuietChecker$Program", "ops", "[I", true)
  | 11 => ("QuietChecker$Program", "details", "[I", true)
  | 12 => ("QuietChecker$Program", "codeLength", "I", false)
  | 13 => ("QuietChecker$Program", "start", "I", false)
  | 14 => ("QuietChecker$Program", "statements", "I", false)
  | _ => ("QuietChecker$Program", "whole", "Z", false)
def pm_y3 : Nat → FieldType := fun k => match k with
  | 0 => .array .char
  | 1 => .int
  | 2 => .object "QuietChecker$Names"
  | 3 => .array .int
  | 4 => .array .int
  | 5 => .int
  | 6 => .object "QuietChecker$Names"
  | 7 => .array .int
  | 8 => .array .int
  | 9 => .array .boolean
  | 10 => .array .int
  | 11 => .array .int
  | 12 => .int
  | 13 => .int
  | 14 => .int
  | _ => .boolean
theorem pm_nm3 : ∀ a, a < 16 → ∀ b, b < 16 → a ≠ b → (pm_T3 a).2.1 ≠ (pm_T3 b).2.1 := by decide +kernel
theorem pm_ty3 : ∀ k, k < 16 → parseFieldDescriptor (pm_T3 k).2.2.1 = some (pm_y3 k) := by decide +kernel
def pm_R4 : String := "QuietChecker$Tokens"
def pm_T4 : u_T := fun k => match k with
  | 0 => ("QuietChecker$Tokens", "kinds", "[LQuietChecker$Kind;", true)
  | 1 => ("QuietChecker$Tokens", "places", "[I", true)
  | 2 => ("QuietChecker$Tokens", "sizes", "[I", true)
  | 3 => ("QuietChecker$Tokens", "numbers", "[I", true)
  | 4 => ("QuietChecker$Tokens", "count", "I", false)
  | 5 => ("QuietChecker$Tokens", "text", "[C", true)
  | 6 => ("QuietChecker$Tokens", "length", "I", false)
  | 7 => ("QuietChecker$Tokens", "next", "I", false)
  | _ => ("QuietChecker$Tokens", "number", "I", false)
def pm_y4 : Nat → FieldType := fun k => match k with
  | 0 => .array (.object "QuietChecker$Kind")
  | 1 => .array .int
  | 2 => .array .int
  | 3 => .array .int
  | 4 => .int
  | 5 => .array .char
  | 6 => .int
  | 7 => .int
  | _ => .int
theorem pm_nm4 : ∀ a, a < 9 → ∀ b, b < 9 → a ≠ b → (pm_T4 a).2.1 ≠ (pm_T4 b).2.1 := by decide +kernel
theorem pm_ty4 : ∀ k, k < 9 → parseFieldDescriptor (pm_T4 k).2.2.1 = some (pm_y4 k) := by decide +kernel
def pm_R5 : String := "QuietChecker"
def pm_T5 : u_T := fun k => match k with
  | 0 => ("QuietChecker", "text", "[C", true)
  | 1 => ("QuietChecker", "length", "I", false)
  | 2 => ("QuietChecker", "program", "LQuietChecker$Program;", true)
  | 3 => ("QuietChecker", "parser", "LQuietChecker$Parser;", true)
  | 4 => ("QuietChecker", "inputs", "[I", true)
  | 5 => ("QuietChecker", "inputsOfRun", "[I", true)
  | 6 => ("QuietChecker", "latest", "LQuietChecker$Machine;", true)
  | 7 => ("QuietChecker", "other", "LQuietChecker$Machine;", true)
  | 8 => ("QuietChecker", "fuelOfRun", "I", false)
  | 9 => ("QuietChecker", "ran", "Z", false)
  | _ => ("QuietChecker", "fault", "I", false)
def pm_y5 : Nat → FieldType := fun k => match k with
  | 0 => .array .char
  | 1 => .int
  | 2 => .object "QuietChecker$Program"
  | 3 => .object "QuietChecker$Parser"
  | 4 => .array .int
  | 5 => .array .int
  | 6 => .object "QuietChecker$Machine"
  | 7 => .object "QuietChecker$Machine"
  | 8 => .int
  | 9 => .boolean
  | _ => .int
theorem pm_nm5 : ∀ a, a < 11 → ∀ b, b < 11 → a ≠ b → (pm_T5 a).2.1 ≠ (pm_T5 b).2.1 := by decide +kernel
theorem pm_ty5 : ∀ k, k < 11 → parseFieldDescriptor (pm_T5 k).2.2.1 = some (pm_y5 k) := by decide +kernel
def pm_R6 : String := "QuietCheckerModel"
def pm_T6 : u_T := fun k => match k with
  | 0 => ("QuietCheckerModel", "code", "I", false)
  | 1 => ("QuietCheckerModel", "text", "[C", true)
  | 2 => ("QuietCheckerModel", "kept", "[C", true)
  | 3 => ("QuietCheckerModel", "size", "I", false)
  | 4 => ("QuietCheckerModel", "keptSize", "I", false)
  | 5 => ("QuietCheckerModel", "at", "I", false)
  | 6 => ("QuietCheckerModel", "token", "I", false)
  | 7 => ("QuietCheckerModel", "from", "I", false)
  | 8 => ("QuietCheckerModel", "end", "I", false)
  | 9 => ("QuietCheckerModel", "number", "J", false)
  | 10 => ("QuietCheckerModel", "fault", "I", false)
  | 11 => ("QuietCheckerModel", "placed", "I", false)
  | 12 => ("QuietCheckerModel", "label", "I", false)
  | 13 => ("QuietCheckerModel", "tops", "I", false)
  | 14 => ("QuietCheckerModel", "arrays", "I", false)
  | 15 => ("QuietCheckerModel", "cells", "I", false)
  | 16 => ("QuietCheckerModel", "owns", "I", false)
  | 17 => ("QuietCheckerModel", "functions", "I", false)
  | 18 => ("QuietCheckerModel", "secrets", "I", false)
  | 19 => ("QuietCheckerModel", "statements", "I", false)
  | 20 => ("QuietCheckerModel", "open", "I", false)
  | 21 => ("QuietCheckerModel", "topAt", "[I", true)
  | 22 => ("QuietCheckerModel", "topLong", "[I", true)
  | 23 => ("QuietCheckerModel", "topSize", "[I", true)
  | 24 => ("QuietCheckerModel", "topNumber", "[I", true)
  | 25 => ("QuietCheckerModel", "topCell", "[I", true)
  | 26 => ("QuietCheckerModel", "topSecret", "[Z", true)
  | 27 => ("QuietCheckerModel", "ownSecret", "[Z", true)
  | 28 => ("QuietCheckerModel", "functionSecret", "[Z", true)
  | 29 => ("QuietCheckerModel", "ownAt", "[I", true)
  | 30 => ("QuietCheckerModel", "ownLong", "[I", true)
  | 31 => ("QuietCheckerModel", "functionAt", "[I", true)
  | 32 => ("QuietCheckerModel", "functionLong", "[I", true)
  | 33 => ("QuietCheckerModel", "functionBegin", "[I", true)
  | 34 => ("QuietCheckerModel", "parameters", "[I", true)
  | 35 => ("QuietCheckerModel", "ownsOf", "[I", true)
  | 36 => ("QuietCheckerModel", "parameterSecret", "[Z", true)
  | 37 => ("QuietCheckerModel", "within", "Z", false)
  | 38 => ("QuietCheckerModel", "orders", "I", false)
  | 39 => ("QuietCheckerModel", "order", "[I", true)
  | 40 => ("QuietCheckerModel", "one", "[I", true)
  | 41 => ("QuietCheckerModel", "two", "[I", true)
  | 42 => ("QuietCheckerModel", "secret", "Z", false)
  | 43 => ("QuietCheckerModel", "there", "Z", false)
  | 44 => ("QuietCheckerModel", "ran", "Z", false)
  | 45 => ("QuietCheckerModel", "inputs", "[I", true)
  | 46 => ("QuietCheckerModel", "now", "[I", true)
  | 47 => ("QuietCheckerModel", "notes", "[I", true)
  | 48 => ("QuietCheckerModel", "pile", "[I", true)
  | 49 => ("QuietCheckerModel", "frames", "[I", true)
  | 50 => ("QuietCheckerModel", "noted", "I", false)
  | 51 => ("QuietCheckerModel", "steps", "I", false)
  | 52 => ("QuietCheckerModel", "ending", "I", false)
  | 53 => ("QuietCheckerModel", "fuelOf", "I", false)
  | 54 => ("QuietCheckerModel", "depth", "I", false)
  | 55 => ("QuietCheckerModel", "before", "[I", true)
  | 56 => ("QuietCheckerModel", "saved", "[I", true)
  | 57 => ("QuietCheckerModel", "lastNotes", "[I", true)
  | 58 => ("QuietCheckerModel", "tasks", "I", false)
  | 59 => ("QuietCheckerModel", "task", "[I", true)
  | 60 => ("QuietCheckerModel", "taskA", "[I", true)
  | 61 => ("QuietCheckerModel", "taskB", "[I", true)
  | 62 => ("QuietCheckerModel", "taskC", "[I", true)
  | _ => ("QuietCheckerModel", "taskD", "[I", true)
def pm_y6 : Nat → FieldType := fun k => match k with
  | 0 => .int
  | 1 => .array .char
  | 2 => .array .char
  | 3 => .int
  | 4 => .int
  | 5 => .int
  | 6 => .int
  | 7 => .int
  | 8 => .int
  | 9 => .long
  | 10 => .int
  | 11 => .int
  | 12 => .int
  | 13 => .int
  | 14 => .int
  | 15 => .int
  | 16 => .int
  | 17 => .int
  | 18 => .int
  | 19 => .int
  | 20 => .int
  | 21 => .array .int
  | 22 => .array .int
  | 23 => .array .int
  | 24 => .array .int
  | 25 => .array .int
  | 26 => .array .boolean
  | 27 => .array .boolean
  | 28 => .array .boolean
  | 29 => .array .int
  | 30 => .array .int
  | 31 => .array .int
  | 32 => .array .int
  | 33 => .array .int
  | 34 => .array .int
  | 35 => .array .int
  | 36 => .array .boolean
  | 37 => .boolean
  | 38 => .int
  | 39 => .array .int
  | 40 => .array .int
  | 41 => .array .int
  | 42 => .boolean
  | 43 => .boolean
  | 44 => .boolean
  | 45 => .array .int
  | 46 => .array .int
  | 47 => .array .int
  | 48 => .array .int
  | 49 => .array .int
  | 50 => .int
  | 51 => .int
  | 52 => .int
  | 53 => .int
  | 54 => .int
  | 55 => .array .int
  | 56 => .array .int
  | 57 => .array .int
  | 58 => .int
  | 59 => .array .int
  | 60 => .array .int
  | 61 => .array .int
  | 62 => .array .int
  | _ => .array .int
theorem pm_nm6 : ∀ a, a < 64 → ∀ b, b < 64 → a ≠ b → (pm_T6 a).2.1 ≠ (pm_T6 b).2.1 := by decide +kernel
theorem pm_ty6 : ∀ k, k < 64 → parseFieldDescriptor (pm_T6 k).2.2.1 = some (pm_y6 k) := by decide +kernel
abbrev pm_cl : List vw_C := [(pm_R0, pm_T0, 10), (pm_R1, pm_T1, 5), (pm_R2, pm_T2, 11), (pm_R3, pm_T3, 16), (pm_R4, pm_T4, 9), (pm_R5, pm_T5, 11), (pm_R6, pm_T6, 64)]
def pm_ft (ci : Nat) : List FieldType := match ci with
  | 0 => [.object "QuietChecker$Program", .array .int, .array .int, .int, .int, .int, .array .int, .int, .int, .int]
  | 1 => [.array .char, .array .int, .array .int, .array .boolean, .int]
  | 2 => [.object "QuietChecker$Program", .object "QuietChecker$Tokens", .object "QuietChecker$Names", .boolean, .int, .boolean, .int, .int, .int, .object "QuietChecker$Kind", .int]
  | 3 => [.array .char, .int, .object "QuietChecker$Names", .array .int, .array .int, .int, .object "QuietChecker$Names", .array .int, .array .int, .array .boolean, .array .int, .array .int, .int, .int, .int, .boolean]
  | 4 => [.array (.object "QuietChecker$Kind"), .array .int, .array .int, .array .int, .int, .array .char, .int, .int, .int]
  | 5 => [.array .char, .int, .object "QuietChecker$Program", .object "QuietChecker$Parser", .array .int, .array .int, .object "QuietChecker$Machine", .object "QuietChecker$Machine", .int, .boolean, .int]
  | 6 => [.int, .array .char, .array .char, .int, .int, .int, .int, .int, .int, .long, .int, .int, .int, .int, .int, .int, .int, .int, .int, .int, .int, .array .int, .array .int, .array .int, .array .int, .array .int, .array .boolean, .array .boolean, .array .boolean, .array .int, .array .int, .array .int, .array .int, .array .int, .array .int, .array .int, .array .boolean, .boolean, .int, .array .int, .array .int, .array .int, .boolean, .boolean, .boolean, .array .int, .array .int, .array .int, .array .int, .array .int, .int, .int, .int, .int, .int, .array .int, .array .int, .array .int, .int, .array .int, .array .int, .array .int, .array .int, .array .int]
  | _ => []
def pm_own : List String := ["QuietChecker$Machine", "QuietChecker$Names", "QuietChecker$Parser", "QuietChecker$Program", "QuietChecker$Tokens", "QuietChecker", "QuietCheckerModel", "QuietChecker$Kind", "java/lang/String", "java/lang/StringLatin1", "java/util/Arrays", "java/lang/Math", "QuietCheckerLaw"]
def pm_on (k : Nat) : String := pm_own.getD k ""
def pm_mt : List (Nat × MethodName × ByteArray × Nat × Option FieldType × Bool × Nat) := [
  (6, ⟨"QuietCheckerModel", "thrown", "()I"⟩, prog_10_method_2_code, 1, (some .int), false, 0),
  (6, ⟨"QuietCheckerModel", "fails", "(ZZ)Z"⟩, prog_10_method_3_code, 3, (some .boolean), false, 2),
  (6, ⟨"QuietCheckerModel", "feed", "(JI)Z"⟩, prog_10_method_4_code, 8, (some .boolean), false, 2),
  (6, ⟨"QuietCheckerModel", "isLetter", "(I)Z"⟩, prog_10_method_5_code, 1, (some .boolean), true, 1),
  (6, ⟨"QuietCheckerModel", "isDigit", "(I)Z"⟩, prog_10_method_6_code, 1, (some .boolean), true, 1),
  (6, ⟨"QuietCheckerModel", "charAt", "(I)I"⟩, prog_10_method_7_code, 2, (some .int), false, 1),
  (6, ⟨"QuietCheckerModel", "next", "()V"⟩, prog_10_method_8_code, 3, none, false, 0),
  (6, ⟨"QuietCheckerModel", "digits", "()V"⟩, prog_10_method_9_code, 1, none, false, 0),
  (6, ⟨"QuietCheckerModel", "word", "()V"⟩, prog_10_method_10_code, 3, none, false, 0),
  (6, ⟨"QuietCheckerModel", "sign", "(I)V"⟩, prog_10_method_11_code, 5, none, false, 1),
  (6, ⟨"QuietCheckerModel", "fail", "(I)V"⟩, prog_10_method_12_code, 2, none, false, 1),
  (6, ⟨"QuietCheckerModel", "meets", "(I)Z"⟩, prog_10_method_13_code, 2, (some .boolean), false, 1),
  (6, ⟨"QuietCheckerModel", "must", "(I)V"⟩, prog_10_method_14_code, 2, none, false, 1),
  (6, ⟨"QuietCheckerModel", "forbid", "(II)V"⟩, prog_10_method_15_code, 3, none, false, 2),
  (6, ⟨"QuietCheckerModel", "same", "(IIII)Z"⟩, prog_10_method_16_code, 7, (some .boolean), false, 4),
  (6, ⟨"QuietCheckerModel", "find", "([I[II)I"⟩, prog_10_method_17_code, 6, (some .int), false, 3),
  (6, ⟨"QuietCheckerModel", "say", "(III)V"⟩, prog_10_method_18_code, 4, none, false, 3),
  (6, ⟨"QuietCheckerModel", "deeper", "()V"⟩, prog_10_method_19_code, 1, none, false, 0),
  (6, ⟨"QuietCheckerModel", "label0", "()V"⟩, prog_10_method_20_code, 1, none, false, 0),
  (6, ⟨"QuietCheckerModel", "top", "()V"⟩, prog_10_method_21_code, 4, none, false, 0),
  (6, ⟨"QuietCheckerModel", "own", "()V"⟩, prog_10_method_22_code, 1, none, false, 0),
  (6, ⟨"QuietCheckerModel", "wait", "(IIIII)V"⟩, prog_10_method_23_code, 6, none, false, 5),
  (6, ⟨"QuietCheckerModel", "plain", "(I)V"⟩, prog_10_method_24_code, 2, none, false, 1),
  (6, ⟨"QuietCheckerModel", "goOn", "()V"⟩, prog_10_method_25_code, 6, none, false, 0),
  (6, ⟨"QuietCheckerModel", "rows", "(IIII)V"⟩, prog_10_method_26_code, 6, none, false, 4),
  (6, ⟨"QuietCheckerModel", "expressions", "(IIIII)V"⟩, prog_10_method_27_code, 7, none, false, 5),
  (6, ⟨"QuietCheckerModel", "told", "(I)V"⟩, prog_10_method_28_code, 2, none, false, 1),
  (6, ⟨"QuietCheckerModel", "function", "()V"⟩, prog_10_method_29_code, 3, none, false, 0),
  (6, ⟨"QuietCheckerModel", "functionEnd", "(III)V"⟩, prog_10_method_30_code, 4, none, false, 3),
  (6, ⟨"QuietCheckerModel", "begins", "()Z"⟩, prog_10_method_31_code, 1, (some .boolean), false, 0),
  (6, ⟨"QuietCheckerModel", "statement", "()V"⟩, prog_10_method_32_code, 3, none, false, 0),
  (6, ⟨"QuietCheckerModel", "branch", "(I)I"⟩, prog_10_method_33_code, 2, (some .int), false, 1),
  (6, ⟨"QuietCheckerModel", "block", "()V"⟩, prog_10_method_34_code, 1, none, false, 0),
  (6, ⟨"QuietCheckerModel", "ifDone", "(I)V"⟩, prog_10_method_35_code, 2, none, false, 1),
  (6, ⟨"QuietCheckerModel", "named", "(Z)I"⟩, prog_10_method_36_code, 4, (some .int), false, 1),
  (6, ⟨"QuietCheckerModel", "ahead", "()I"⟩, prog_10_method_37_code, 3, (some .int), false, 0),
  (6, ⟨"QuietCheckerModel", "assignment", "()V"⟩, prog_10_method_38_code, 3, none, false, 0),
  (6, ⟨"QuietCheckerModel", "assigned", "(IZI)V"⟩, prog_10_method_39_code, 5, none, false, 3),
  (6, ⟨"QuietCheckerModel", "index", "()V"⟩, prog_10_method_40_code, 2, none, false, 0),
  (6, ⟨"QuietCheckerModel", "asked", "()V"⟩, prog_10_method_41_code, 2, none, false, 0),
  (6, ⟨"QuietCheckerModel", "first", "(Z)V"⟩, prog_10_method_42_code, 3, none, false, 1),
  (6, ⟨"QuietCheckerModel", "levelOf", "(I)I"⟩, prog_10_method_43_code, 1, (some .int), true, 1),
  (6, ⟨"QuietCheckerModel", "levelOn", "(I)V"⟩, prog_10_method_44_code, 2, none, false, 1),
  (6, ⟨"QuietCheckerModel", "single", "()V"⟩, prog_10_method_45_code, 2, none, false, 0),
  (6, ⟨"QuietCheckerModel", "called", "()V"⟩, prog_10_method_46_code, 3, none, false, 0),
  (6, ⟨"QuietCheckerModel", "call", "()V"⟩, prog_10_method_47_code, 2, none, false, 0),
  (6, ⟨"QuietCheckerModel", "given", "(III)V"⟩, prog_10_method_48_code, 4, none, false, 3),
  (6, ⟨"QuietCheckerModel", "callEnd", "(II)V"⟩, prog_10_method_49_code, 3, none, false, 2),
  (6, ⟨"QuietCheckerModel", "check", "()I"⟩, prog_10_method_50_code, 2, (some .int), false, 0),
  (6, ⟨"QuietCheckerModel", "cellOf", "(II)I"⟩, prog_10_method_51_code, 4, (some .int), false, 2),
  (6, ⟨"QuietCheckerModel", "put", "(III)V"⟩, prog_10_method_52_code, 4, none, false, 3),
  (6, ⟨"QuietCheckerModel", "worked", "(III)I"⟩, prog_10_method_53_code, 3, (some .int), true, 3),
  (6, ⟨"QuietCheckerModel", "tell", "(I)V"⟩, prog_10_method_54_code, 2, none, false, 1),
  (6, ⟨"QuietCheckerModel", "cell", "(II)I"⟩, prog_10_method_55_code, 3, (some .int), false, 2),
  (6, ⟨"QuietCheckerModel", "go", "(I)V"⟩, prog_10_method_56_code, 10, none, false, 1),
  (6, ⟨"QuietCheckerModel", "run", "(I)I"⟩, prog_10_method_57_code, 3, (some .int), false, 1),
  (6, ⟨"QuietCheckerModel", "disguise", "(I)V"⟩, prog_10_method_58_code, 6, none, false, 1),
  (6, ⟨"QuietCheckerModel", "twin", "(I)I"⟩, prog_10_method_59_code, 8, (some .int), false, 1),
  (6, ⟨"QuietCheckerModel", "value", "(II)I"⟩, prog_10_method_60_code, 3, (some .int), false, 2),
  (6, ⟨"QuietCheckerModel", "note", "(I)I"⟩, prog_10_method_61_code, 2, (some .int), false, 1),
  (6, ⟨"QuietCheckerModel", "letter", "(IZI)C"⟩, prog_10_method_62_code, 6, (some .char), false, 3),
  (6, ⟨"QuietCheckerModel", "count", "(I)I"⟩, prog_10_method_63_code, 2, (some .int), false, 1),
  (1, ⟨"QuietChecker$Names", "clear", "()V"⟩, prog_4_method_2_code, 1, none, false, 0),
  (1, ⟨"QuietChecker$Names", "isFull", "()Z"⟩, prog_4_method_3_code, 1, (some .boolean), false, 0),
  (1, ⟨"QuietChecker$Names", "has", "(I)Z"⟩, prog_4_method_4_code, 2, (some .boolean), false, 1),
  (1, ⟨"QuietChecker$Names", "add", "(IIZ)V"⟩, prog_4_method_5_code, 4, none, false, 3),
  (1, ⟨"QuietChecker$Names", "find", "(II)I"⟩, prog_4_method_6_code, 4, (some .int), false, 2),
  (1, ⟨"QuietChecker$Names", "sameLetters", "(III)Z"⟩, prog_4_method_7_code, 5, (some .boolean), false, 3),
  (1, ⟨"QuietChecker$Names", "isSecret", "(I)Z"⟩, prog_4_method_8_code, 2, (some .boolean), false, 1),
  (1, ⟨"QuietChecker$Names", "secretOnes", "()I"⟩, prog_4_method_9_code, 3, (some .int), false, 0),
  (1, ⟨"QuietChecker$Names", "hasCharacter", "(II)Z"⟩, prog_4_method_10_code, 3, (some .boolean), false, 2),
  (1, ⟨"QuietChecker$Names", "character", "(II)C"⟩, prog_4_method_11_code, 3, (some .char), false, 2),
  (3, ⟨"QuietChecker$Program", "cell", "(II)I"⟩, prog_7_method_2_code, 2, (some .int), true, 2),
  (3, ⟨"QuietChecker$Program", "local", "(II)I"⟩, prog_7_method_3_code, 2, (some .int), true, 2),
  (3, ⟨"QuietChecker$Program", "take", "([CI)V"⟩, prog_7_method_4_code, 3, none, false, 2),
  (3, ⟨"QuietChecker$Program", "clear", "()V"⟩, prog_7_method_5_code, 1, none, false, 0),
  (3, ⟨"QuietChecker$Program", "addTop", "(IIZI)V"⟩, prog_7_method_6_code, 5, none, false, 4),
  (3, ⟨"QuietChecker$Program", "beginFunction", "(LQuietChecker$Names;)V"⟩, prog_7_method_7_code, 3, none, false, 1),
  (3, ⟨"QuietChecker$Program", "isArray", "(I)Z"⟩, prog_7_method_8_code, 2, (some .boolean), false, 1),
  (3, ⟨"QuietChecker$Program", "hasCell", "(II)Z"⟩, prog_7_method_9_code, 3, (some .boolean), false, 2),
  (3, ⟨"QuietChecker$Program", "cellsOf", "(I)I"⟩, prog_7_method_10_code, 2, (some .int), false, 1),
  (3, ⟨"QuietChecker$Program", "parametersOf", "(I)I"⟩, prog_7_method_11_code, 2, (some .int), false, 1),
  (3, ⟨"QuietChecker$Program", "takesSecret", "(II)Z"⟩, prog_7_method_12_code, 3, (some .boolean), false, 2),
  (3, ⟨"QuietChecker$Program", "emit", "(II)I"⟩, prog_7_method_13_code, 3, (some .int), false, 2),
  (3, ⟨"QuietChecker$Program", "aim", "(I)V"⟩, prog_7_method_14_code, 2, none, false, 1),
  (7, ⟨"QuietChecker$Kind", "startsStatement", "()Z"⟩, prog_2_method_5_code, 1, (some .boolean), false, 0),
  (7, ⟨"QuietChecker$Kind", "tellsName", "()Z"⟩, prog_2_method_6_code, 1, (some .boolean), false, 0),
  (7, ⟨"QuietChecker$Kind", "isLabel", "()Z"⟩, prog_2_method_7_code, 1, (some .boolean), false, 0),
  (7, ⟨"QuietChecker$Kind", "prefixOp", "()I"⟩, prog_2_method_8_code, 1, (some .int), false, 0),
  (4, ⟨"QuietChecker$Tokens", "scan", "(I)V"⟩, prog_8_method_2_code, 5, none, false, 1),
  (4, ⟨"QuietChecker$Tokens", "add", "(LQuietChecker$Kind;I)V"⟩, prog_8_method_3_code, 3, none, false, 2),
  (4, ⟨"QuietChecker$Tokens", "skipBlanks", "()V"⟩, prog_8_method_4_code, 3, none, false, 0),
  (4, ⟨"QuietChecker$Tokens", "scanToken", "()LQuietChecker$Kind;"⟩, prog_8_method_5_code, 1, (some (.object "QuietChecker$Kind")), false, 0),
  (4, ⟨"QuietChecker$Tokens", "scanNumber", "()LQuietChecker$Kind;"⟩, prog_8_method_6_code, 4, (some (.object "QuietChecker$Kind")), false, 0),
  (4, ⟨"QuietChecker$Tokens", "scanWord", "()LQuietChecker$Kind;"⟩, prog_8_method_7_code, 7, (some (.object "QuietChecker$Kind")), false, 0),
  (4, ⟨"QuietChecker$Tokens", "scanSign", "()LQuietChecker$Kind;"⟩, prog_8_method_8_code, 7, (some (.object "QuietChecker$Kind")), false, 0),
  (4, ⟨"QuietChecker$Tokens", "isAt", "(ILjava/lang/String;)Z"⟩, prog_8_method_9_code, 4, (some .boolean), false, 2),
  (4, ⟨"QuietChecker$Tokens", "isDigit", "(C)Z"⟩, prog_8_method_10_code, 1, (some .boolean), true, 1),
  (4, ⟨"QuietChecker$Tokens", "isWordPart", "(C)Z"⟩, prog_8_method_11_code, 1, (some .boolean), true, 1),
  (2, ⟨"QuietChecker$Parser", "parse", "()I"⟩, prog_6_method_2_code, 2, (some .int), false, 0),
  (2, ⟨"QuietChecker$Parser", "goTo", "(I)V"⟩, prog_6_method_3_code, 2, none, false, 1),
  (2, ⟨"QuietChecker$Parser", "advance", "()V"⟩, prog_6_method_4_code, 1, none, false, 0),
  (2, ⟨"QuietChecker$Parser", "expect", "(LQuietChecker$Kind;)V"⟩, prog_6_method_5_code, 2, none, false, 1),
  (2, ⟨"QuietChecker$Parser", "fail", "(II)V"⟩, prog_6_method_6_code, 3, none, false, 2),
  (2, ⟨"QuietChecker$Parser", "tellLeak", "(II)V"⟩, prog_6_method_7_code, 4, none, false, 2),
  (2, ⟨"QuietChecker$Parser", "mayOpen", "(II)Z"⟩, prog_6_method_8_code, 3, (some .boolean), false, 2),
  (2, ⟨"QuietChecker$Parser", "label", "()Z"⟩, prog_6_method_9_code, 2, (some .boolean), false, 0),
  (2, ⟨"QuietChecker$Parser", "newName", "(LQuietChecker$Names;)I"⟩, prog_6_method_10_code, 3, (some .int), false, 1),
  (2, ⟨"QuietChecker$Parser", "declaration", "()V"⟩, prog_6_method_11_code, 4, none, false, 0),
  (2, ⟨"QuietChecker$Parser", "arraySize", "()I"⟩, prog_6_method_12_code, 2, (some .int), false, 0),
  (2, ⟨"QuietChecker$Parser", "beginFunction", "()V"⟩, prog_6_method_13_code, 2, none, false, 0),
  (2, ⟨"QuietChecker$Parser", "endFunction", "()V"⟩, prog_6_method_14_code, 2, none, false, 0),
  (2, ⟨"QuietChecker$Parser", "parameters", "()V"⟩, prog_6_method_15_code, 2, none, false, 0),
  (2, ⟨"QuietChecker$Parser", "local", "()V"⟩, prog_6_method_16_code, 3, none, false, 0),
  (2, ⟨"QuietChecker$Parser", "statements", "(I)V"⟩, prog_6_method_17_code, 3, none, false, 1),
  (2, ⟨"QuietChecker$Parser", "statement", "(I)V"⟩, prog_6_method_18_code, 4, none, false, 1),
  (2, ⟨"QuietChecker$Parser", "assignment", "(I)V"⟩, prog_6_method_19_code, 6, none, false, 1),
  (2, ⟨"QuietChecker$Parser", "branch", "(II)V"⟩, prog_6_method_20_code, 5, none, false, 2),
  (2, ⟨"QuietChecker$Parser", "repetition", "(II)V"⟩, prog_6_method_21_code, 5, none, false, 2),
  (2, ⟨"QuietChecker$Parser", "condition", "(II)V"⟩, prog_6_method_22_code, 3, none, false, 2),
  (2, ⟨"QuietChecker$Parser", "block", "(I)V"⟩, prog_6_method_23_code, 2, none, false, 1),
  (2, ⟨"QuietChecker$Parser", "index", "(I)V"⟩, prog_6_method_24_code, 3, none, false, 1),
  (2, ⟨"QuietChecker$Parser", "expression", "(I)Z"⟩, prog_6_method_25_code, 3, (some .boolean), false, 1),
  (2, ⟨"QuietChecker$Parser", "binary", "(II)Z"⟩, prog_6_method_26_code, 7, (some .boolean), false, 2),
  (2, ⟨"QuietChecker$Parser", "prefixed", "(I)Z"⟩, prog_6_method_27_code, 4, (some .boolean), false, 1),
  (2, ⟨"QuietChecker$Parser", "operand", "(I)Z"⟩, prog_6_method_28_code, 3, (some .boolean), false, 1),
  (2, ⟨"QuietChecker$Parser", "named", "(I)Z"⟩, prog_6_method_29_code, 5, (some .boolean), false, 1),
  (2, ⟨"QuietChecker$Parser", "call", "(II)Z"⟩, prog_6_method_30_code, 5, (some .boolean), false, 2),
  (2, ⟨"QuietChecker$Parser", "arguments", "(II)I"⟩, prog_6_method_31_code, 5, (some .int), false, 2),
  (2, ⟨"QuietChecker$Parser", "argument", "(III)V"⟩, prog_6_method_32_code, 5, none, false, 3),
  (2, ⟨"QuietChecker$Parser", "known", "(IZ)I"⟩, prog_6_method_33_code, 6, (some .int), false, 2),
  (2, ⟨"QuietChecker$Parser", "isSecret", "(I)Z"⟩, prog_6_method_34_code, 2, (some .boolean), false, 1),
  (2, ⟨"QuietChecker$Parser", "cellOfVariable", "(I)I"⟩, prog_6_method_35_code, 2, (some .int), false, 1),
  (0, ⟨"QuietChecker$Machine", "load", "([I)V"⟩, prog_3_method_2_code, 2, none, false, 1),
  (0, ⟨"QuietChecker$Machine", "disturbSecrets", "(I)V"⟩, prog_3_method_3_code, 4, none, false, 1),
  (0, ⟨"QuietChecker$Machine", "disturbCells", "(III)I"⟩, prog_3_method_4_code, 6, (some .int), false, 3),
  (0, ⟨"QuietChecker$Machine", "execute", "(I)V"⟩, prog_3_method_5_code, 7, none, false, 1),
  (0, ⟨"QuietChecker$Machine", "firstDifference", "(LQuietChecker$Machine;)I"⟩, prog_3_method_6_code, 4, (some .int), false, 1),
  (0, ⟨"QuietChecker$Machine", "perform", "(II)V"⟩, prog_3_method_7_code, 3, none, false, 2),
  (0, ⟨"QuietChecker$Machine", "performOnStack", "(II)V"⟩, prog_3_method_8_code, 5, none, false, 2),
  (0, ⟨"QuietChecker$Machine", "combine", "(III)I"⟩, prog_3_method_9_code, 3, (some .int), true, 3),
  (0, ⟨"QuietChecker$Machine", "divide", "(IIZ)V"⟩, prog_3_method_10_code, 4, none, false, 3),
  (0, ⟨"QuietChecker$Machine", "held", "(I)I"⟩, prog_3_method_11_code, 2, (some .int), false, 1),
  (0, ⟨"QuietChecker$Machine", "hold", "(II)V"⟩, prog_3_method_12_code, 3, none, false, 2),
  (0, ⟨"QuietChecker$Machine", "step", "()V"⟩, prog_3_method_13_code, 1, none, false, 0),
  (0, ⟨"QuietChecker$Machine", "jot", "(I)Z"⟩, prog_3_method_14_code, 2, (some .boolean), false, 1),
  (0, ⟨"QuietChecker$Machine", "touch", "(II)Z"⟩, prog_3_method_15_code, 3, (some .boolean), false, 2),
  (0, ⟨"QuietChecker$Machine", "readCell", "(I)V"⟩, prog_3_method_16_code, 3, none, false, 1),
  (0, ⟨"QuietChecker$Machine", "writeCell", "(I)V"⟩, prog_3_method_17_code, 4, none, false, 1),
  (0, ⟨"QuietChecker$Machine", "enter", "(I)V"⟩, prog_3_method_18_code, 4, none, false, 1),
  (0, ⟨"QuietChecker$Machine", "leave", "()V"⟩, prog_3_method_19_code, 2, none, false, 0),
  (0, ⟨"QuietChecker$Machine", "push", "(I)V"⟩, prog_3_method_20_code, 2, none, false, 1),
  (0, ⟨"QuietChecker$Machine", "pop", "()I"⟩, prog_3_method_21_code, 1, (some .int), false, 0),
  (5, ⟨"QuietChecker", "feed", "(JI)Z"⟩, prog_1_method_2_code, 5, (some .boolean), false, 2),
  (5, ⟨"QuietChecker", "check", "()I"⟩, prog_1_method_3_code, 2, (some .int), false, 0),
  (5, ⟨"QuietChecker", "put", "(III)V"⟩, prog_1_method_4_code, 4, none, false, 3),
  (5, ⟨"QuietChecker", "run", "(I)I"⟩, prog_1_method_5_code, 2, (some .int), false, 1),
  (5, ⟨"QuietChecker", "twin", "(I)I"⟩, prog_1_method_6_code, 2, (some .int), false, 1),
  (5, ⟨"QuietChecker", "value", "(II)I"⟩, prog_1_method_7_code, 3, (some .int), false, 2),
  (5, ⟨"QuietChecker", "note", "(I)I"⟩, prog_1_method_8_code, 2, (some .int), false, 1),
  (5, ⟨"QuietChecker", "letter", "(IZI)C"⟩, prog_1_method_9_code, 5, (some .char), false, 3),
  (5, ⟨"QuietChecker", "count", "(I)I"⟩, prog_1_method_10_code, 2, (some .int), false, 1),
  (5, ⟨"QuietChecker", "byteOf", "(JI)C"⟩, prog_1_method_11_code, 3, (some .char), true, 2),
  (5, ⟨"QuietChecker", "mayStandInText", "(C)Z"⟩, prog_1_method_12_code, 1, (some .boolean), true, 1),
  (8, ⟨"java/lang/String", "length", "()I"⟩, prog_22_method_54_code, 1, (some .int), false, 0),
  (8, ⟨"java/lang/String", "charAt", "(I)C"⟩, prog_22_method_56_code, 2, (some .char), false, 1),
  (8, ⟨"java/lang/String", "coder", "()B"⟩, prog_22_method_152_code, 1, (some .byte), false, 0),
  (8, ⟨"java/lang/String", "isLatin1", "()Z"⟩, prog_22_method_154_code, 1, (some .boolean), false, 0),
  (9, ⟨"java/lang/StringLatin1", "charAt", "([BI)C"⟩, prog_24_method_2_code, 2, (some .char), true, 2),
  (10, ⟨"java/util/Arrays", "rangeCheck", "(III)V"⟩, prog_28_method_30_code, 3, none, true, 3),
  (10, ⟨"java/util/Arrays", "fill", "([II)V"⟩, prog_28_method_103_code, 4, none, true, 2),
  (10, ⟨"java/util/Arrays", "fill", "([IIII)V"⟩, prog_28_method_104_code, 5, none, true, 4),
  (11, ⟨"java/lang/Math", "max", "(II)I"⟩, prog_20_method_65_code, 2, (some .int), true, 2),
  (11, ⟨"java/lang/Math", "min", "(II)I"⟩, prog_20_method_69_code, 2, (some .int), true, 2),
  (12, ⟨"QuietCheckerLaw", "law", "([I)Z"⟩, code, 7, (some .boolean), false, 1),
  (12, ⟨"QuietCheckerLaw", "put", "(LQuietChecker;III)I"⟩, method_3_code, 5, (some .int), true, 4),
  (12, ⟨"QuietCheckerLaw", "run", "(LQuietChecker;I[J)I"⟩, method_4_code, 4, (some .int), true, 3),
  (12, ⟨"QuietCheckerLaw", "twin", "(LQuietChecker;I[J)I"⟩, method_5_code, 4, (some .int), true, 3),
  (12, ⟨"QuietCheckerLaw", "value", "(LQuietChecker;II[J)I"⟩, method_6_code, 5, (some .int), true, 4),
  (12, ⟨"QuietCheckerLaw", "note", "(LQuietChecker;I[J)I"⟩, method_7_code, 4, (some .int), true, 3),
  (12, ⟨"QuietCheckerLaw", "letter", "(LQuietChecker;IZI[J)I"⟩, method_8_code, 6, (some .int), true, 5)]
def pm_m (mi : Nat) : Nat × MethodName × ByteArray × Nat × Option FieldType × Bool × Nat := pm_mt.getD mi (0, ⟨"", "", ""⟩, ⟨#[]⟩, 0, none, false, 0)
def pm_ow (mi : Nat) : Nat := (pm_m mi).1
def pm_nm (mi : Nat) : MethodName := (pm_m mi).2.1
def pm_by (mi : Nat) : ByteArray := (pm_m mi).2.2.1
def pm_mx (mi : Nat) : Nat := (pm_m mi).2.2.2.1
def pm_rt (mi : Nat) : Option FieldType := (pm_m mi).2.2.2.2.1
def pm_sc (mi : Nat) : Bool := (pm_m mi).2.2.2.2.2.1
def pm_np (mi : Nat) : Nat := (pm_m mi).2.2.2.2.2.2
/-- where the words on each method stand in lw_tbl: its code; instance or static; selects; its owner is initialised -/
def pm_mp : List (Nat × Nat × Nat × Nat) := [(1533, 1531, 1532, 114), (1747, 1746, 100, 114), (1537, 1535, 1536, 114), (1566, 1565, 0, 114), (1556, 1555, 0, 114), (1553, 1552, 58, 114), (1549, 1548, 57, 114), (1560, 1559, 59, 114), (1570, 1569, 60, 114), (1583, 1582, 61, 114), (1619, 1618, 70, 114), (1631, 1630, 73, 114), (1636, 1635, 74, 114), (1652, 1651, 78, 114), (1627, 1626, 72, 114), (1623, 1622, 71, 114), (1587, 1586, 62, 114), (1676, 1675, 84, 114), (1615, 1614, 69, 114), (1611, 1610, 68, 114), (1644, 1643, 76, 114), (1595, 1594, 64, 114), (1591, 1590, 63, 114), (1599, 1598, 65, 114), (1603, 1602, 66, 114), (1692, 1691, 88, 114), (1607, 1606, 67, 114), (1640, 1639, 75, 114), (1648, 1647, 77, 114), (1656, 1655, 79, 114), (1660, 1659, 80, 114), (1680, 1679, 85, 114), (1684, 1683, 86, 114), (1688, 1687, 87, 114), (1672, 1671, 83, 114), (1668, 1667, 82, 114), (1664, 1663, 81, 114), (1696, 1695, 89, 114), (1700, 1699, 90, 114), (1704, 1703, 91, 114), (1708, 1707, 92, 114), (1731, 1730, 0, 114), (1728, 1727, 97, 114), (1712, 1711, 93, 114), (1716, 1715, 94, 114), (1720, 1719, 95, 114), (1735, 1734, 98, 114), (1724, 1723, 96, 114), (1545, 1543, 1544, 114), (1743, 1742, 99, 114), (1739, 1737, 1738, 114), (1766, 1765, 0, 114), (1763, 1762, 103, 114), (1759, 1758, 102, 114), (1755, 1754, 101, 114), (1751, 1749, 1750, 114), (1774, 1773, 104, 114), (1770, 1768, 1769, 114), (1778, 1776, 1777, 114), (1782, 1780, 1781, 114), (1786, 1784, 1785, 114), (1790, 1788, 1789, 114), (446, 444, 445, 108), (602, 600, 601, 108), (635, 633, 634, 108), (619, 617, 618, 108), (594, 592, 593, 108), (598, 597, 14, 108), (631, 629, 630, 108), (822, 820, 821, 108), (1325, 1323, 1324, 108), (1329, 1327, 1328, 108), (749, 748, 0, 107), (752, 751, 0, 107), (425, 423, 424, 107), (442, 440, 441, 107), (813, 811, 812, 107), (626, 624, 625, 107), (673, 671, 672, 107), (900, 898, 899, 107), (904, 902, 903, 107), (736, 734, 735, 107), (732, 730, 731, 107), (682, 680, 681, 107), (790, 788, 789, 107), (648, 646, 647, 112), (552, 550, 551, 112), (558, 556, 557, 112), (702, 700, 701, 112), (450, 448, 449, 110), (543, 542, 6, 110), (455, 454, 0, 110), (459, 458, 1, 110), (466, 465, 2, 110), (479, 478, 3, 110), (539, 538, 5, 110), (495, 494, 4, 110), (462, 461, 0, 110), (471, 470, 0, 110), (438, 436, 437, 109), (548, 547, 7, 109), (571, 570, 9, 109), (581, 580, 11, 109), (585, 584, 12, 109), (740, 739, 31, 109), (678, 677, 21, 109), (575, 574, 10, 109), (589, 588, 13, 109), (805, 804, 39, 109), (809, 808, 40, 109), (567, 566, 8, 109), (799, 798, 38, 109), (607, 606, 15, 109), (615, 614, 16, 109), (644, 643, 17, 109), (659, 658, 18, 109), (663, 662, 19, 109), (774, 773, 34, 109), (795, 794, 37, 109), (778, 777, 35, 109), (782, 781, 36, 109), (686, 685, 22, 109), (690, 689, 23, 109), (694, 693, 24, 109), (698, 697, 25, 109), (712, 711, 26, 109), (716, 715, 27, 109), (720, 719, 28, 109), (724, 723, 29, 109), (728, 727, 30, 109), (669, 668, 20, 109), (756, 755, 33, 109), (746, 745, 32, 109), (951, 949, 950, 113), (1290, 1288, 1289, 113), (1295, 1294, 56, 113), (957, 955, 956, 113), (1300, 1298, 1299, 113), (962, 961, 42, 113), (1272, 1271, 54, 113), (1279, 1278, 0, 113), (1276, 1275, 55, 113), (974, 973, 45, 113), (982, 981, 47, 113), (966, 965, 43, 113), (996, 995, 50, 113), (990, 989, 49, 113), (986, 985, 48, 113), (1000, 999, 51, 113), (1004, 1003, 52, 113), (1268, 1267, 53, 113), (970, 969, 44, 113), (978, 977, 46, 113), (410, 408, 409, 106), (421, 419, 420, 106), (831, 829, 830, 106), (931, 929, 930, 106), (1286, 1284, 1285, 106), (1307, 1305, 1306, 106), (1314, 1312, 1313, 106), (1321, 1319, 1320, 106), (818, 816, 817, 106), (413, 412, 0, 106), (417, 416, 0, 106), (485, 483, 484, 118), (499, 497, 498, 118), (489, 487, 488, 118), (503, 501, 502, 118), (506, 505, 0, 119), (1012, 1011, 0, 117), (434, 433, 0, 117), (1009, 1008, 0, 117), (907, 906, 0, 115), (428, 427, 0, 115)]
/-- fields by owner and place in its pool: (place, class, slot, where the word stands) -/
def pm_gfl : List (List (Nat × Nat × Nat × Nat)) := [
  [(9, 0, 0, 337), (17, 0, 1, 338), (21, 0, 2, 340), (24, 0, 6, 348), (39, 3, 2, 181), (43, 1, 4, 158), (64, 0, 9, 351), (67, 0, 3, 342), (70, 0, 4, 344), (73, 0, 7, 349), (76, 3, 13, 205), (79, 0, 8, 350), (82, 0, 5, 346), (87, 3, 12, 203), (90, 3, 10, 198), (93, 3, 11, 200), (148, 3, 4, 186), (154, 3, 6, 192), (172, 3, 7, 194)],
  [(9, 1, 0, 153), (15, 1, 1, 154), (19, 1, 2, 155), (22, 1, 3, 156), (26, 1, 4, 157)],
  [(11, 2, 0, 297), (19, 3, 0, 177), (26, 2, 1, 298), (35, 2, 2, 299), (45, 2, 9, 306), (51, 2, 3, 300), (55, 2, 6, 303), (59, 2, 7, 304), (62, 3, 1, 178), (91, 3, 12, 201), (94, 3, 13, 204), (101, 3, 15, 210), (104, 4, 4, 269), (107, 2, 8, 305), (110, 4, 0, 261), (114, 4, 1, 263), (118, 2, 10, 307), (134, 4, 2, 265), (150, 3, 2, 183), (171, 4, 3, 267), (180, 2, 5, 302), (183, 3, 6, 191), (186, 2, 4, 301), (239, 3, 14, 209), (348, 1, 4, 161)],
  [(11, 3, 0, 176), (20, 3, 2, 180), (24, 3, 3, 184), (28, 3, 4, 185), (31, 3, 6, 189), (34, 3, 7, 193), (37, 3, 8, 195), (40, 3, 9, 196), (44, 3, 10, 197), (47, 3, 11, 199), (56, 3, 1, 179), (69, 3, 5, 187), (72, 3, 12, 202), (75, 3, 13, 206), (78, 3, 14, 207), (81, 3, 15, 212), (89, 1, 4, 159)],
  [(9, 4, 5, 270), (17, 4, 0, 260), (21, 4, 1, 262), (25, 4, 2, 264), (28, 4, 3, 266), (37, 4, 6, 271), (41, 4, 4, 268), (44, 4, 7, 272), (65, 4, 8, 273)],
  [(9, 5, 0, 373), (16, 5, 2, 375), (25, 5, 3, 376), (29, 5, 4, 377), (33, 5, 5, 378), (39, 5, 6, 379), (43, 5, 7, 380), (46, 5, 1, 374), (62, 5, 9, 382), (76, 5, 10, 383), (79, 3, 15, 211), (105, 5, 8, 381), (116, 0, 5, 347), (126, 0, 1, 339), (129, 0, 3, 343), (132, 0, 2, 341), (135, 3, 6, 190), (139, 3, 2, 182), (151, 1, 4, 160), (157, 3, 5, 188), (160, 3, 14, 208), (163, 0, 4, 345)],
  [(7, 6, 1, 1338), (13, 6, 2, 1339), (16, 6, 21, 1358), (20, 6, 22, 1359), (23, 6, 23, 1360), (26, 6, 24, 1361), (29, 6, 25, 1362), (32, 6, 26, 1363), (36, 6, 27, 1364), (39, 6, 28, 1365), (42, 6, 29, 1366), (45, 6, 30, 1367), (48, 6, 31, 1368), (51, 6, 32, 1369), (54, 6, 33, 1370), (57, 6, 34, 1371), (60, 6, 35, 1372), (63, 6, 36, 1373), (66, 6, 39, 1376), (69, 6, 40, 1377), (72, 6, 41, 1378), (75, 6, 45, 1382), (78, 6, 46, 1383), (81, 6, 47, 1384), (84, 6, 48, 1385), (87, 6, 49, 1386), (90, 6, 55, 1392), (93, 6, 56, 1393), (96, 6, 57, 1394), (99, 6, 59, 1396), (102, 6, 60, 1397), (105, 6, 61, 1398), (108, 6, 62, 1399), (111, 6, 63, 1400), (114, 6, 0, 1337), (118, 6, 3, 1340), (129, 6, 4, 1341), (132, 6, 5, 1342), (135, 6, 7, 1344), (142, 6, 6, 1343), (162, 6, 8, 1345), (165, 6, 9, 1346), (193, 6, 10, 1347), (205, 6, 11, 1348), (208, 6, 12, 1349), (215, 6, 38, 1375), (218, 6, 20, 1357), (221, 6, 42, 1379), (228, 6, 13, 1350), (240, 6, 14, 1351), (243, 6, 15, 1352), (246, 6, 18, 1355), (249, 6, 16, 1353), (252, 6, 58, 1395), (328, 6, 17, 1354), (334, 6, 37, 1374), (343, 6, 19, 1356), (366, 6, 44, 1381), (372, 6, 43, 1380), (383, 6, 50, 1387), (386, 6, 52, 1389), (392, 6, 51, 1388), (395, 6, 54, 1391), (405, 6, 53, 1390)],
  [],
  [],
  [],
  [],
  [],
  []]
/-- calls by owner and place in its pool: (place, method, where the word stands) -/
def pm_ivl : List (List (Nat × Nat × Nat)) := [
  [(27, 173, 952), (49, 68, 1291), (53, 135, 1292), (57, 80, 1296), (61, 72, 992), (96, 138, 959), (100, 144, 963), (103, 151, 967), (107, 142, 971), (110, 152, 975), (114, 143, 979), (117, 147, 983), (120, 148, 997), (123, 149, 1001), (126, 150, 1265), (129, 139, 1269), (132, 145, 993), (137, 141, 1273), (141, 140, 1277), (144, 79, 991), (151, 146, 987), (157, 64, 1005), (160, 73, 1006), (163, 171, 1007), (169, 81, 1264)],
  [(30, 63, 620), (34, 67, 595), (38, 64, 632), (42, 70, 1330)],
  [(48, 75, 439), (65, 89, 447), (69, 100, 545), (72, 86, 549), (79, 110, 564), (82, 114, 641), (85, 111, 796), (88, 108, 802), (97, 102, 578), (121, 103, 582), (137, 66, 591), (141, 63, 599), (144, 101, 568), (147, 106, 572), (153, 107, 586), (160, 109, 806), (167, 76, 810), (189, 62, 603), (190, 112, 604), (193, 77, 623), (199, 87, 638), (202, 113, 612), (208, 122, 687), (212, 104, 737), (220, 83, 679), (223, 65, 616), (236, 85, 645), (241, 115, 656), (244, 116, 660), (247, 105, 675), (254, 117, 771), (260, 118, 792), (263, 130, 666), (267, 121, 683), (273, 131, 753), (276, 132, 743), (280, 119, 775), (283, 120, 779), (289, 84, 787), (292, 123, 691), (301, 124, 695), (316, 88, 699), (319, 125, 709), (322, 126, 713), (325, 127, 717), (328, 128, 721), (331, 81, 741), (334, 68, 742), (335, 129, 725), (339, 82, 729), (342, 78, 670), (345, 72, 747), (349, 73, 750)],
  [(50, 173, 426), (66, 62, 443), (85, 63, 627), (92, 65, 814), (96, 68, 628), (100, 64, 674), (103, 80, 901), (107, 172, 905), (110, 81, 733)],
  [(31, 173, 451), (47, 91, 452), (50, 92, 456), (54, 90, 540), (68, 97, 460), (72, 93, 463), (75, 98, 469), (78, 94, 476), (81, 95, 536), (98, 164, 482), (103, 96, 492), (110, 165, 496)],
  [(50, 162, 411), (54, 163, 415), (58, 74, 422), (66, 170, 432), (72, 99, 435), (85, 79, 897), (92, 72, 923), (108, 133, 948), (112, 136, 954), (119, 134, 1287), (122, 137, 1297), (142, 70, 1322), (147, 71, 1326), (154, 69, 819)],
  [(138, 5, 1550), (145, 4, 1554), (149, 7, 1557), (152, 3, 1564), (155, 8, 1567), (158, 9, 1580), (196, 6, 1546), (199, 11, 1628), (202, 10, 1616), (211, 14, 1624), (225, 18, 1612), (231, 15, 1620), (237, 12, 1633), (255, 21, 1592), (259, 24, 1600), (263, 25, 1689), (266, 26, 1604), (269, 16, 1584), (273, 22, 1588), (276, 28, 1645), (279, 29, 1653), (283, 30, 1657), (286, 31, 1677), (289, 32, 1681), (292, 33, 1685), (295, 37, 1693), (299, 38, 1697), (302, 13, 1649), (306, 39, 1701), (309, 40, 1705), (313, 43, 1709), (316, 42, 1725), (319, 46, 1732), (322, 19, 1608), (325, 27, 1637), (331, 20, 1641), (337, 36, 1661), (340, 17, 1673), (346, 35, 1665), (350, 34, 1669), (354, 41, 1729), (357, 44, 1713), (360, 45, 1717), (363, 47, 1721), (369, 23, 1596), (375, 49, 1740), (379, 1, 1744), (389, 52, 1760), (398, 53, 1756), (401, 51, 1764), (408, 54, 1752), (411, 56, 1771)],
  [(153, 87, 555)],
  [(335, 166, 486), (492, 167, 500), (495, 168, 504)],
  [],
  [(13, 169, 1010), (304, 173, 1084)],
  [],
  [(7, 155, 828), (17, 156, 928), (23, 157, 1283), (26, 158, 1304), (30, 159, 1311), (33, 160, 1318), (43, 153, 407), (47, 2, 1534), (48, 154, 418), (52, 48, 1542), (58, 50, 1736), (59, 0, 1530), (65, 55, 1748), (68, 57, 1767), (72, 58, 1775), (75, 59, 1779), (79, 60, 1783), (80, 161, 815), (83, 61, 1787)]]
def pm_kll : List (List (Nat × Int64 × Nat)) := [
  [(85, 2, 958)],
  [],
  [],
  [],
  [(84, 4294967296, 467), (86, 10, 468)],
  [(166, 255, 414)],
  [(121, 255, 1538), (123, 10, 1539), (125, 31, 1540), (127, 127, 1541), (169, 48, 1561), (171, 4294967296, 1562), (173, 4294967295, 1563), (175, -1, 1571), (177, 7370082, 1572), (179, 7562595, 1573), (181, 6714734, 1574), (183, 125780071117422, 1575), (185, 26982, 1576), (187, 1701606245, 1577), (189, 512852847717, 1578), (191, 1936419184, 1579), (235, 64, 1632)],
  [],
  [],
  [],
  [],
  [],
  [(41, 4294967295, 1791)]]
end
section
/-! The instructions of each method, by their places; each is what decode says (checked at the end) -/
/-- QuietCheckerModel.thrown()I -/
def pm_l0 : List (Nat × Instr) := [(0, .aload_n 0), (1, .getfield 114), (4, .ireturn)]
/-- QuietCheckerModel.fails(ZZ)Z -/
def pm_l1 : List (Nat × Instr) := [(0, .aload_n 0), (1, .iload_n 1), (2, .ifCond .eq 7), (5, .iconst 1), (6, .goto 12), (9, .iload_n 2), (10, .ifCond .eq 7), (13, .iconst 2), (14, .goto 4), (17, .iconst 0), (18, .putfield 114), (21, .aload_n 0), (22, .getfield 114), (25, .ifCond .le 7), (28, .iconst 1), (29, .goto 4), (32, .iconst 0), (33, .ireturn)]
/-- QuietCheckerModel.feed(JI)Z -/
def pm_l2 : List (Nat × Instr) := [(0, .aload_n 0), (1, .iconst 0), (2, .putfield 114), (5, .iload_n 3), (6, .ifCond .le 25), (9, .iload_n 3), (10, .bipush 9), (12, .if_icmp .ge 19), (15, .aload_n 0), (16, .getfield 118), (19, .iload_n 3), (20, .iadd), (21, .sipush 3000), (24, .if_icmp .gt 7), (27, .iconst 1), (28, .goto 4), (31, .iconst 0), (32, .istore 4), (34, .iconst 0), (35, .istore 5), (37, .iload 5), (39, .iload_n 3), (40, .if_icmp .ge 61), (43, .iload 4), (45, .ifCond .eq 56), (48, .lload_n 1), (49, .bipush 8), (51, .iload 5), (53, .imul), (54, .lshr), (55, .ldc2_w 121), (58, .land), (59, .lstore 6), (61, .lload 6), (63, .ldc2_w 123), (66, .lcmp), (67, .ifCond .eq 21), (70, .lload 6), (72, .ldc2_w 125), (75, .lcmp), (76, .ifCond .le 16), (79, .lload 6), (81, .ldc2_w 127), (84, .lcmp), (85, .ifCond .ge 7), (88, .iconst 1), (89, .goto 4), (92, .iconst 0), (93, .istore 4), (95, .iinc 5 1), (98, .goto (-61)), (101, .iconst 0), (102, .istore 5), (104, .iload 5), (106, .iload_n 3), (107, .if_icmp .ge 43), (110, .iload 4), (112, .ifCond .eq 38), (115, .aload_n 0), (116, .getfield 7), (119, .aload_n 0), (120, .getfield 118), (123, .iload 5), (125, .iadd), (126, .lload_n 1), (127, .bipush 8), (129, .iload_n 3), (130, .iconst 1), (131, .isub), (132, .iload 5), (134, .isub), (135, .imul), (136, .lshr), (137, .ldc2_w 121), (140, .land), (141, .l2i), (142, .i2c), (143, .castore), (144, .iinc 5 1), (147, .goto (-43)), (150, .aload_n 0), (151, .iload 4), (153, .ifCond .eq 12), (156, .aload_n 0), (157, .getfield 118), (160, .iload_n 3), (161, .iadd), (162, .goto 7), (165, .aload_n 0), (166, .getfield 118), (169, .putfield 118), (172, .iload 4), (174, .ireturn)]
/-- QuietCheckerModel.isLetter(I)Z -/
def pm_l3 : List (Nat × Instr) := [(0, .iload_n 0), (1, .bipush 97), (3, .if_icmp .lt 9), (6, .iload_n 0), (7, .bipush 122), (9, .if_icmp .le 21), (12, .iload_n 0), (13, .bipush 65), (15, .if_icmp .lt 9), (18, .iload_n 0), (19, .bipush 90), (21, .if_icmp .le 9), (24, .iload_n 0), (25, .bipush 95), (27, .if_icmp .ne 7), (30, .iconst 1), (31, .goto 4), (34, .iconst 0), (35, .ireturn)]
/-- QuietCheckerModel.isDigit(I)Z -/
def pm_l4 : List (Nat × Instr) := [(0, .iload_n 0), (1, .bipush 48), (3, .if_icmp .lt 13), (6, .iload_n 0), (7, .bipush 57), (9, .if_icmp .gt 7), (12, .iconst 1), (13, .goto 4), (16, .iconst 0), (17, .ireturn)]
/-- QuietCheckerModel.charAt(I)I -/
def pm_l5 : List (Nat × Instr) := [(0, .iload_n 1), (1, .aload_n 0), (2, .getfield 129), (5, .if_icmp .ge 12), (8, .aload_n 0), (9, .getfield 13), (12, .iload_n 1), (13, .caload), (14, .goto 4), (17, .iconst 0), (18, .ireturn)]
/-- QuietCheckerModel.next()V -/
def pm_l6 : List (Nat × Instr) := [(0, .iconst 0), (1, .istore_n 1), (2, .aload_n 0), (3, .getfield 132), (6, .aload_n 0), (7, .getfield 129), (10, .if_icmp .ge 100), (13, .iload_n 1), (14, .ifCond .ne 45), (17, .aload_n 0), (18, .getfield 13), (21, .aload_n 0), (22, .getfield 132), (25, .caload), (26, .bipush 32), (28, .if_icmp .eq 31), (31, .aload_n 0), (32, .getfield 13), (35, .aload_n 0), (36, .getfield 132), (39, .caload), (40, .bipush 10), (42, .if_icmp .eq 17), (45, .aload_n 0), (46, .getfield 13), (49, .aload_n 0), (50, .getfield 132), (53, .caload), (54, .bipush 35), (56, .if_icmp .ne 54), (59, .aload_n 0), (60, .getfield 13), (63, .aload_n 0), (64, .getfield 132), (67, .caload), (68, .bipush 10), (70, .if_icmp .eq 25), (73, .iload_n 1), (74, .ifCond .ne 17), (77, .aload_n 0), (78, .getfield 13), (81, .aload_n 0), (82, .getfield 132), (85, .caload), (86, .bipush 35), (88, .if_icmp .ne 7), (91, .iconst 1), (92, .goto 4), (95, .iconst 0), (96, .istore_n 1), (97, .aload_n 0), (98, .dup), (99, .getfield 132), (102, .iconst 1), (103, .iadd), (104, .putfield 132), (107, .goto (-105)), (110, .aload_n 0), (111, .aload_n 0), (112, .getfield 132), (115, .putfield 135), (118, .aload_n 0), (119, .aload_n 0), (120, .getfield 132), (123, .invokevirtual 138), (126, .istore_n 2), (127, .aload_n 0), (128, .getfield 132), (131, .aload_n 0), (132, .getfield 129), (135, .if_icmp .ne 12), (138, .aload_n 0), (139, .bipush 12), (141, .putfield 142), (144, .goto 36), (147, .iload_n 2), (148, .invokestatic 145), (151, .ifCond .eq 10), (154, .aload_n 0), (155, .invokevirtual 149), (158, .goto 22), (161, .iload_n 2), (162, .invokestatic 152), (165, .ifCond .eq 10), (168, .aload_n 0), (169, .invokevirtual 155), (172, .goto 8), (175, .aload_n 0), (176, .iload_n 2), (177, .invokevirtual 158), (180, .aload_n 0), (181, .aload_n 0), (182, .getfield 132), (185, .putfield 162), (188, .return_)]
/-- QuietCheckerModel.digits()V -/
def pm_l7 : List (Nat × Instr) := [(0, .aload_n 0), (1, .lconst 0), (2, .putfield 165), (5, .aload_n 0), (6, .aload_n 0), (7, .getfield 132), (10, .invokevirtual 138), (13, .invokestatic 145), (16, .ifCond .eq 67), (19, .aload_n 0), (20, .ldc2_w 123), (23, .aload_n 0), (24, .getfield 165), (27, .lmul), (28, .aload_n 0), (29, .aload_n 0), (30, .getfield 132), (33, .invokevirtual 138), (36, .i2l), (37, .ladd), (38, .ldc2_w 169), (41, .lsub), (42, .putfield 165), (45, .aload_n 0), (46, .aload_n 0), (47, .getfield 165), (50, .ldc2_w 171), (53, .lcmp), (54, .ifCond .le 9), (57, .ldc2_w 171), (60, .goto 7), (63, .aload_n 0), (64, .getfield 165), (67, .putfield 165), (70, .aload_n 0), (71, .dup), (72, .getfield 132), (75, .iconst 1), (76, .iadd), (77, .putfield 132), (80, .goto (-75)), (83, .aload_n 0), (84, .aload_n 0), (85, .getfield 165), (88, .ldc2_w 173), (91, .lcmp), (92, .ifCond .gt 17), (95, .aload_n 0), (96, .aload_n 0), (97, .getfield 132), (100, .invokevirtual 138), (103, .invokestatic 152), (106, .ifCond .eq 7), (109, .iconst 1), (110, .goto 4), (113, .iconst 2), (114, .putfield 142), (117, .return_)]
/-- QuietCheckerModel.word()V -/
def pm_l8 : List (Nat × Instr) := [(0, .lconst 0), (1, .lstore_n 1), (2, .aload_n 0), (3, .aload_n 0), (4, .getfield 132), (7, .invokevirtual 138), (10, .invokestatic 152), (13, .ifCond .ne 17), (16, .aload_n 0), (17, .aload_n 0), (18, .getfield 132), (21, .invokevirtual 138), (24, .invokestatic 145), (27, .ifCond .eq 51), (30, .aload_n 0), (31, .getfield 132), (34, .aload_n 0), (35, .getfield 135), (38, .isub), (39, .bipush 6), (41, .if_icmp .ge 20), (44, .lload_n 1), (45, .bipush 8), (47, .lshl), (48, .aload_n 0), (49, .aload_n 0), (50, .getfield 132), (53, .invokevirtual 138), (56, .i2l), (57, .lor), (58, .goto 6), (61, .ldc2_w 175), (64, .lstore_n 1), (65, .aload_n 0), (66, .dup), (67, .getfield 132), (70, .iconst 1), (71, .iadd), (72, .putfield 132), (75, .goto (-73)), (78, .aload_n 0), (79, .aload_n 0), (80, .getfield 132), (83, .aload_n 0), (84, .getfield 135), (87, .isub), (88, .bipush 15), (90, .if_icmp .le 7), (93, .iconst 1), (94, .goto 106), (97, .lload_n 1), (98, .ldc2_w 177), (101, .lcmp), (102, .ifCond .ne 7), (105, .iconst 4), (106, .goto 94), (109, .lload_n 1), (110, .ldc2_w 179), (113, .lcmp), (114, .ifCond .ne 7), (117, .iconst 5), (118, .goto 82), (121, .lload_n 1), (122, .ldc2_w 181), (125, .lcmp), (126, .ifCond .ne 8), (129, .bipush 6), (131, .goto 69), (134, .lload_n 1), (135, .ldc2_w 183), (138, .lcmp), (139, .ifCond .ne 8), (142, .bipush 7), (144, .goto 56), (147, .lload_n 1), (148, .ldc2_w 185), (151, .lcmp), (152, .ifCond .ne 8), (155, .bipush 8), (157, .goto 43), (160, .lload_n 1), (161, .ldc2_w 187), (164, .lcmp), (165, .ifCond .ne 8), (168, .bipush 9), (170, .goto 30), (173, .lload_n 1), (174, .ldc2_w 189), (177, .lcmp), (178, .ifCond .ne 8), (181, .bipush 10), (183, .goto 17), (186, .lload_n 1), (187, .ldc2_w 191), (190, .lcmp), (191, .ifCond .ne 8), (194, .bipush 11), (196, .goto 4), (199, .iconst 3), (200, .putfield 142), (203, .return_)]
/-- QuietCheckerModel.sign(I)V -/
def pm_l9 : List (Nat × Instr) := [(0, .aload_n 0), (1, .aload_n 0), (2, .getfield 132), (5, .iconst 1), (6, .iadd), (7, .invokevirtual 138), (10, .istore_n 2), (11, .iload_n 1), (12, .bipush 60), (14, .if_icmp .eq 9), (17, .iload_n 1), (18, .bipush 62), (20, .if_icmp .ne 8), (23, .iload_n 2), (24, .iload_n 1), (25, .if_icmp .eq 27), (28, .iload_n 1), (29, .bipush 60), (31, .if_icmp .eq 15), (34, .iload_n 1), (35, .bipush 61), (37, .if_icmp .eq 9), (40, .iload_n 1), (41, .bipush 33), (43, .if_icmp .ne 13), (46, .iload_n 2), (47, .bipush 61), (49, .if_icmp .ne 7), (52, .iconst 1), (53, .goto 4), (56, .iconst 0), (57, .istore_n 3), (58, .aload_n 0), (59, .dup), (60, .getfield 132), (63, .iload_n 3), (64, .ifCond .eq 7), (67, .iconst 2), (68, .goto 4), (71, .iconst 1), (72, .iadd), (73, .putfield 132), (76, .iload_n 1), (77, .bipush 43), (79, .if_icmp .eq 129), (82, .iload_n 1), (83, .bipush 45), (85, .if_icmp .eq 123), (88, .iload_n 1), (89, .bipush 42), (91, .if_icmp .eq 117), (94, .iload_n 1), (95, .bipush 47), (97, .if_icmp .eq 111), (100, .iload_n 1), (101, .bipush 37), (103, .if_icmp .eq 105), (106, .iload_n 1), (107, .bipush 38), (109, .if_icmp .eq 99), (112, .iload_n 1), (113, .bipush 124), (115, .if_icmp .eq 93), (118, .iload_n 1), (119, .bipush 94), (121, .if_icmp .eq 87), (124, .iload_n 1), (125, .bipush 126), (127, .if_icmp .eq 81), (130, .iload_n 1), (131, .bipush 33), (133, .if_icmp .eq 75), (136, .iload_n 1), (137, .bipush 60), (139, .if_icmp .eq 69), (142, .iload_n 1), (143, .bipush 63), (145, .if_icmp .eq 63), (148, .iload_n 1), (149, .bipush 58), (151, .if_icmp .eq 57), (154, .iload_n 1), (155, .bipush 61), (157, .if_icmp .eq 51), (160, .iload_n 1), (161, .bipush 40), (163, .if_icmp .eq 45), (166, .iload_n 1), (167, .bipush 41), (169, .if_icmp .eq 39), (172, .iload_n 1), (173, .bipush 91), (175, .if_icmp .eq 33), (178, .iload_n 1), (179, .bipush 93), (181, .if_icmp .eq 27), (184, .iload_n 1), (185, .bipush 123), (187, .if_icmp .eq 21), (190, .iload_n 1), (191, .bipush 125), (193, .if_icmp .eq 15), (196, .iload_n 1), (197, .bipush 59), (199, .if_icmp .eq 9), (202, .iload_n 1), (203, .bipush 44), (205, .if_icmp .ne 7), (208, .iconst 1), (209, .goto 4), (212, .iconst 0), (213, .istore 4), (215, .aload_n 0), (216, .iload_n 3), (217, .ifCond .eq 13), (220, .sipush 256), (223, .iload_n 1), (224, .imul), (225, .iload_n 2), (226, .iadd), (227, .goto 13), (230, .iload 4), (232, .ifCond .eq 7), (235, .iload_n 1), (236, .goto 4), (239, .iconst 1), (240, .putfield 142), (243, .return_)]
/-- QuietCheckerModel.fail(I)V -/
def pm_l10 : List (Nat × Instr) := [(0, .aload_n 0), (1, .aload_n 0), (2, .getfield 193), (5, .ifCond .ne 15), (8, .iload_n 1), (9, .bipush 16), (11, .aload_n 0), (12, .getfield 135), (15, .imul), (16, .iadd), (17, .goto 7), (20, .aload_n 0), (21, .getfield 193), (24, .putfield 193), (27, .return_)]
/-- QuietCheckerModel.meets(I)Z -/
def pm_l11 : List (Nat × Instr) := [(0, .aload_n 0), (1, .getfield 193), (4, .ifCond .gt 11), (7, .aload_n 0), (8, .getfield 142), (11, .iload_n 1), (12, .if_icmp .eq 5), (15, .iconst 0), (16, .ireturn), (17, .aload_n 0), (18, .invokevirtual 196), (21, .iconst 1), (22, .ireturn)]
/-- QuietCheckerModel.must(I)V -/
def pm_l12 : List (Nat × Instr) := [(0, .aload_n 0), (1, .iload_n 1), (2, .invokevirtual 199), (5, .ifCond .ne 8), (8, .aload_n 0), (9, .iconst 1), (10, .invokevirtual 202), (13, .return_)]
/-- QuietCheckerModel.forbid(II)V -/
def pm_l13 : List (Nat × Instr) := [(0, .aload_n 0), (1, .getfield 205), (4, .ifCond .lt 28), (7, .aload_n 0), (8, .getfield 205), (11, .iload_n 2), (12, .if_icmp .lt 19), (15, .aload_n 0), (16, .getfield 205), (19, .iload_n 2), (20, .if_icmp .ne 12), (23, .aload_n 0), (24, .getfield 208), (27, .iload_n 1), (28, .if_icmp .ge 4), (31, .return_), (32, .aload_n 0), (33, .iload_n 2), (34, .putfield 205), (37, .aload_n 0), (38, .iload_n 1), (39, .putfield 208), (42, .return_)]
/-- QuietCheckerModel.same(IIII)Z -/
def pm_l14 : List (Nat × Instr) := [(0, .iload_n 2), (1, .iload 4), (3, .if_icmp .ne 7), (6, .iconst 1), (7, .goto 4), (10, .iconst 0), (11, .istore 5), (13, .iconst 0), (14, .istore 6), (16, .iload 6), (18, .iload_n 2), (19, .if_icmp .ge 42), (22, .iload 5), (24, .ifCond .eq 37), (27, .aload_n 0), (28, .getfield 13), (31, .iload_n 1), (32, .iload 6), (34, .iadd), (35, .caload), (36, .aload_n 0), (37, .getfield 13), (40, .iload_n 3), (41, .iload 6), (43, .iadd), (44, .caload), (45, .if_icmp .ne 7), (48, .iconst 1), (49, .goto 4), (52, .iconst 0), (53, .istore 5), (55, .iinc 6 1), (58, .goto (-42)), (61, .iload 5), (63, .ireturn)]
/-- QuietCheckerModel.find([I[II)I -/
def pm_l15 : List (Nat × Instr) := [(0, .iconst (-1)), (1, .istore 4), (3, .iconst 0), (4, .istore 5), (6, .iload 5), (8, .iload_n 3), (9, .if_icmp .ge 46), (12, .aload_n 0), (13, .aload_n 1), (14, .iload 5), (16, .iaload), (17, .aload_n 2), (18, .iload 5), (20, .iaload), (21, .aload_n 0), (22, .getfield 135), (25, .aload_n 0), (26, .getfield 162), (29, .aload_n 0), (30, .getfield 135), (33, .isub), (34, .invokevirtual 211), (37, .ifCond .eq 8), (40, .iload 5), (42, .goto 5), (45, .iload 4), (47, .istore 4), (49, .iinc 5 1), (52, .goto (-46)), (55, .iload 4), (57, .ireturn)]
/-- QuietCheckerModel.say(III)V -/
def pm_l16 : List (Nat × Instr) := [(0, .aload_n 0), (1, .getfield 66), (4, .aload_n 0), (5, .getfield 215), (8, .iload_n 1), (9, .iastore), (10, .aload_n 0), (11, .getfield 69), (14, .aload_n 0), (15, .getfield 215), (18, .iload_n 2), (19, .iastore), (20, .aload_n 0), (21, .getfield 72), (24, .aload_n 0), (25, .getfield 215), (28, .iload_n 3), (29, .iastore), (30, .aload_n 0), (31, .dup), (32, .getfield 215), (35, .iconst 1), (36, .iadd), (37, .putfield 215), (40, .return_)]
/-- QuietCheckerModel.deeper()V -/
def pm_l17 : List (Nat × Instr) := [(0, .aload_n 0), (1, .getfield 218), (4, .bipush 10), (6, .if_icmp .ne 8), (9, .aload_n 0), (10, .iconst 4), (11, .invokevirtual 202), (14, .aload_n 0), (15, .dup), (16, .getfield 218), (19, .iconst 1), (20, .iadd), (21, .putfield 218), (24, .return_)]
/-- QuietCheckerModel.label0()V -/
def pm_l18 : List (Nat × Instr) := [(0, .aload_n 0), (1, .aload_n 0), (2, .getfield 142), (5, .iconst 5), (6, .if_icmp .ne 7), (9, .iconst 1), (10, .goto 4), (13, .iconst 0), (14, .putfield 221), (17, .aload_n 0), (18, .getfield 142), (21, .iconst 4), (22, .if_icmp .eq 16), (25, .aload_n 0), (26, .getfield 142), (29, .iconst 5), (30, .if_icmp .eq 8), (33, .aload_n 0), (34, .iconst 1), (35, .invokevirtual 202), (38, .aload_n 0), (39, .getfield 193), (42, .ifCond .ne 7), (45, .aload_n 0), (46, .invokevirtual 196), (49, .return_)]
/-- QuietCheckerModel.top()V -/
def pm_l19 : List (Nat × Instr) := [(0, .aload_n 0), (1, .invokevirtual 225), (4, .aload_n 0), (5, .getfield 193), (8, .ifCond .ne 16), (11, .aload_n 0), (12, .getfield 142), (15, .iconst 3), (16, .if_icmp .eq 8), (19, .aload_n 0), (20, .iconst 1), (21, .invokevirtual 202), (24, .aload_n 0), (25, .getfield 193), (28, .ifCond .ne 27), (31, .aload_n 0), (32, .aload_n 0), (33, .getfield 16), (36, .aload_n 0), (37, .getfield 20), (40, .aload_n 0), (41, .getfield 228), (44, .invokevirtual 231), (47, .ifCond .lt 8), (50, .aload_n 0), (51, .iconst 3), (52, .invokevirtual 202), (55, .aload_n 0), (56, .getfield 193), (59, .ifCond .ne 17), (62, .aload_n 0), (63, .getfield 228), (66, .bipush 40), (68, .if_icmp .ne 8), (71, .aload_n 0), (72, .iconst 4), (73, .invokevirtual 202), (76, .aload_n 0), (77, .getfield 193), (80, .ifCond .le 4), (83, .return_), (84, .aload_n 0), (85, .getfield 228), (88, .istore_n 1), (89, .aload_n 0), (90, .getfield 16), (93, .iload_n 1), (94, .aload_n 0), (95, .getfield 135), (98, .iastore), (99, .aload_n 0), (100, .getfield 20), (103, .iload_n 1), (104, .aload_n 0), (105, .getfield 162), (108, .aload_n 0), (109, .getfield 135), (112, .isub), (113, .iastore), (114, .aload_n 0), (115, .getfield 32), (118, .iload_n 1), (119, .aload_n 0), (120, .getfield 221), (123, .bastore), (124, .aload_n 0), (125, .invokevirtual 196), (128, .aload_n 0), (129, .bipush 91), (131, .invokevirtual 199), (134, .istore_n 2), (135, .iconst 1), (136, .istore_n 3), (137, .iload_n 2), (138, .ifCond .eq 59), (141, .aload_n 0), (142, .getfield 142), (145, .iconst 2), (146, .if_icmp .ne 23), (149, .aload_n 0), (150, .getfield 165), (153, .lconst 1), (154, .lcmp), (155, .ifCond .lt 14), (158, .aload_n 0), (159, .getfield 165), (162, .ldc2_w 235), (165, .lcmp), (166, .ifCond .le 8), (169, .aload_n 0), (170, .iconst 1), (171, .invokevirtual 202), (174, .aload_n 0), (175, .getfield 165), (178, .l2i), (179, .istore_n 3), (180, .aload_n 0), (181, .getfield 193), (184, .ifCond .ne 7), (187, .aload_n 0), (188, .invokevirtual 196), (191, .aload_n 0), (192, .bipush 93), (194, .invokevirtual 237), (197, .aload_n 0), (198, .bipush 59), (200, .invokevirtual 237), (203, .aload_n 0), (204, .getfield 193), (207, .ifCond .le 4), (210, .return_), (211, .aload_n 0), (212, .getfield 23), (215, .iload_n 1), (216, .iload_n 2), (217, .ifCond .eq 7), (220, .iload_n 3), (221, .goto 4), (224, .iconst 0), (225, .iastore), (226, .aload_n 0), (227, .getfield 26), (230, .iload_n 1), (231, .iload_n 2), (232, .ifCond .eq 10), (235, .aload_n 0), (236, .getfield 240), (239, .goto 4), (242, .iconst (-1)), (243, .iastore), (244, .aload_n 0), (245, .getfield 29), (248, .iload_n 1), (249, .aload_n 0), (250, .getfield 243), (253, .iastore), (254, .aload_n 0), (255, .dup), (256, .getfield 243), (259, .iload_n 3), (260, .iadd), (261, .putfield 243), (264, .aload_n 0), (265, .iload_n 2), (266, .ifCond .eq 12), (269, .aload_n 0), (270, .getfield 240), (273, .iconst 1), (274, .iadd), (275, .goto 7), (278, .aload_n 0), (279, .getfield 240), (282, .putfield 240), (285, .aload_n 0), (286, .aload_n 0), (287, .getfield 32), (290, .iload_n 1), (291, .baload), (292, .ifCond .eq 12), (295, .aload_n 0), (296, .getfield 246), (299, .iconst 1), (300, .iadd), (301, .goto 7), (304, .aload_n 0), (305, .getfield 246), (308, .putfield 246), (311, .aload_n 0), (312, .dup), (313, .getfield 228), (316, .iconst 1), (317, .iadd), (318, .putfield 228), (321, .return_)]
/-- QuietCheckerModel.own()V -/
def pm_l20 : List (Nat × Instr) := [(0, .aload_n 0), (1, .invokevirtual 225), (4, .aload_n 0), (5, .getfield 193), (8, .ifCond .ne 16), (11, .aload_n 0), (12, .getfield 142), (15, .iconst 3), (16, .if_icmp .eq 8), (19, .aload_n 0), (20, .iconst 1), (21, .invokevirtual 202), (24, .aload_n 0), (25, .getfield 193), (28, .ifCond .ne 27), (31, .aload_n 0), (32, .aload_n 0), (33, .getfield 42), (36, .aload_n 0), (37, .getfield 45), (40, .aload_n 0), (41, .getfield 249), (44, .invokevirtual 231), (47, .ifCond .lt 8), (50, .aload_n 0), (51, .iconst 3), (52, .invokevirtual 202), (55, .aload_n 0), (56, .getfield 193), (59, .ifCond .ne 17), (62, .aload_n 0), (63, .getfield 249), (66, .bipush 12), (68, .if_icmp .ne 8), (71, .aload_n 0), (72, .iconst 4), (73, .invokevirtual 202), (76, .aload_n 0), (77, .getfield 193), (80, .ifCond .le 4), (83, .return_), (84, .aload_n 0), (85, .getfield 42), (88, .aload_n 0), (89, .getfield 249), (92, .aload_n 0), (93, .getfield 135), (96, .iastore), (97, .aload_n 0), (98, .getfield 45), (101, .aload_n 0), (102, .getfield 249), (105, .aload_n 0), (106, .getfield 162), (109, .aload_n 0), (110, .getfield 135), (113, .isub), (114, .iastore), (115, .aload_n 0), (116, .getfield 36), (119, .aload_n 0), (120, .getfield 249), (123, .aload_n 0), (124, .getfield 221), (127, .bastore), (128, .aload_n 0), (129, .dup), (130, .getfield 249), (133, .iconst 1), (134, .iadd), (135, .putfield 249), (138, .aload_n 0), (139, .invokevirtual 196), (142, .return_)]
/-- QuietCheckerModel.wait(IIIII)V -/
def pm_l21 : List (Nat × Instr) := [(0, .aload_n 0), (1, .getfield 99), (4, .aload_n 0), (5, .getfield 252), (8, .iload_n 1), (9, .iastore), (10, .aload_n 0), (11, .getfield 102), (14, .aload_n 0), (15, .getfield 252), (18, .iload_n 2), (19, .iastore), (20, .aload_n 0), (21, .getfield 105), (24, .aload_n 0), (25, .getfield 252), (28, .iload_n 3), (29, .iastore), (30, .aload_n 0), (31, .getfield 108), (34, .aload_n 0), (35, .getfield 252), (38, .iload 4), (40, .iastore), (41, .aload_n 0), (42, .getfield 111), (45, .aload_n 0), (46, .getfield 252), (49, .iload 5), (51, .iastore), (52, .aload_n 0), (53, .dup), (54, .getfield 252), (57, .iconst 1), (58, .iadd), (59, .putfield 252), (62, .return_)]
/-- QuietCheckerModel.plain(I)V -/
def pm_l22 : List (Nat × Instr) := [(0, .aload_n 0), (1, .iload_n 1), (2, .iconst 0), (3, .iconst 0), (4, .iconst 0), (5, .iconst 0), (6, .invokevirtual 255), (9, .return_)]
/-- QuietCheckerModel.goOn()V -/
def pm_l23 : List (Nat × Instr) := [(0, .aload_n 0), (1, .getfield 252), (4, .ifCond .le 104), (7, .aload_n 0), (8, .getfield 193), (11, .ifCond .ne 97), (14, .aload_n 0), (15, .dup), (16, .getfield 252), (19, .iconst 1), (20, .isub), (21, .putfield 252), (24, .aload_n 0), (25, .getfield 99), (28, .aload_n 0), (29, .getfield 252), (32, .iaload), (33, .istore_n 1), (34, .aload_n 0), (35, .getfield 102), (38, .aload_n 0), (39, .getfield 252), (42, .iaload), (43, .istore_n 2), (44, .aload_n 0), (45, .getfield 105), (48, .aload_n 0), (49, .getfield 252), (52, .iaload), (53, .istore_n 3), (54, .aload_n 0), (55, .getfield 108), (58, .aload_n 0), (59, .getfield 252), (62, .iaload), (63, .istore 4), (65, .aload_n 0), (66, .getfield 111), (69, .aload_n 0), (70, .getfield 252), (73, .iaload), (74, .istore 5), (76, .iload_n 1), (77, .bipush 13), (79, .if_icmp .ge 15), (82, .aload_n 0), (83, .iload_n 1), (84, .iload_n 2), (85, .iload_n 3), (86, .iload 4), (88, .invokevirtual 259), (91, .goto 14), (94, .aload_n 0), (95, .iload_n 1), (96, .iload_n 2), (97, .iload_n 3), (98, .iload 4), (100, .iload 5), (102, .invokevirtual 263), (105, .goto (-105)), (108, .return_)]
/-- QuietCheckerModel.rows(IIII)V -/
def pm_l24 : List (Nat × Instr) := [(0, .iload_n 1), (1, .tableswitch 259 1 11 #[59, 67, 92, 123, 134, 154, 167, 188, 196, 209, 230]), (60, .aload_n 0), (61, .iload_n 2), (62, .invokevirtual 266), (65, .goto 201), (68, .aload_n 0), (69, .getfield 142), (72, .bipush 12), (74, .if_icmp .eq 8), (77, .aload_n 0), (78, .iconst 1), (79, .invokevirtual 202), (82, .aload_n 0), (83, .bipush 16), (85, .iconst 0), (86, .iconst 0), (87, .invokevirtual 269), (90, .goto 176), (93, .aload_n 0), (94, .getfield 135), (97, .istore 5), (99, .aload_n 0), (100, .bipush 7), (102, .invokevirtual 237), (105, .aload_n 0), (106, .iconst 4), (107, .iload_n 2), (108, .iload_n 3), (109, .iload 5), (111, .iconst 0), (112, .invokevirtual 255), (115, .aload_n 0), (116, .bipush 17), (118, .invokevirtual 273), (121, .goto 145), (124, .aload_n 0), (125, .iload_n 2), (126, .iload_n 3), (127, .iload 4), (129, .invokevirtual 276), (132, .goto 134), (135, .aload_n 0), (136, .invokevirtual 279), (139, .ifCond .ne 4), (142, .return_), (143, .aload_n 0), (144, .iconst 5), (145, .invokevirtual 273), (148, .aload_n 0), (149, .invokevirtual 283), (152, .goto 114), (155, .aload_n 0), (156, .dup), (157, .getfield 218), (160, .iconst 1), (161, .isub), (162, .putfield 218), (165, .goto 101), (168, .aload_n 0), (169, .bipush 8), (171, .aload_n 0), (172, .iload_n 2), (173, .invokevirtual 286), (176, .iconst 0), (177, .iconst 0), (178, .iconst 0), (179, .invokevirtual 255), (182, .aload_n 0), (183, .invokevirtual 289), (186, .goto 80), (189, .aload_n 0), (190, .iload_n 2), (191, .invokevirtual 292), (194, .goto 72), (197, .aload_n 0), (198, .getfield 69), (201, .iload_n 2), (202, .aload_n 0), (203, .getfield 215), (206, .iastore), (207, .goto 59), (210, .aload_n 0), (211, .bipush 11), (213, .aload_n 0), (214, .iload_n 2), (215, .invokevirtual 286), (218, .iload_n 3), (219, .iconst 0), (220, .iconst 0), (221, .invokevirtual 255), (224, .aload_n 0), (225, .invokevirtual 289), (228, .goto 38), (231, .aload_n 0), (232, .bipush 13), (234, .iconst 0), (235, .iconst 0), (236, .invokevirtual 269), (239, .aload_n 0), (240, .bipush 15), (242, .iload_n 3), (243, .iconst 0), (244, .invokevirtual 269), (247, .aload_n 0), (248, .getfield 69), (251, .iload_n 2), (252, .aload_n 0), (253, .getfield 215), (256, .iastore), (257, .goto 9), (260, .aload_n 0), (261, .bipush 125), (263, .invokevirtual 237), (266, .return_)]
/-- QuietCheckerModel.expressions(IIIII)V -/
def pm_l25 : List (Nat × Instr) := [(0, .iload_n 1), (1, .tableswitch 463 13 28 #[79, 111, 131, 138, 171, 186, 193, 210, 252, 296, 304, 374, 381, 402, 421, 441]), (80, .aload_n 0), (81, .getfield 135), (84, .istore 6), (86, .aload_n 0), (87, .bipush 61), (89, .invokevirtual 237), (92, .aload_n 0), (93, .bipush 14), (95, .iload_n 2), (96, .iload_n 3), (97, .iload 6), (99, .iconst 0), (100, .invokevirtual 255), (103, .aload_n 0), (104, .bipush 17), (106, .invokevirtual 273), (109, .goto 363), (112, .aload_n 0), (113, .iload_n 2), (114, .iload_n 3), (115, .iconst 1), (116, .if_icmp .ne 7), (119, .iconst 1), (120, .goto 4), (123, .iconst 0), (124, .iload 4), (126, .invokevirtual 295), (129, .goto 343), (132, .aload_n 0), (133, .invokevirtual 299), (136, .goto 336), (139, .aload_n 0), (140, .getfield 221), (143, .ifCond .eq 10), (146, .aload_n 0), (147, .bipush 7), (149, .iload_n 2), (150, .invokevirtual 302), (153, .aload_n 0), (154, .bipush 93), (156, .invokevirtual 237), (159, .aload_n 0), (160, .dup), (161, .getfield 218), (164, .iconst 1), (165, .isub), (166, .putfield 218), (169, .goto 303), (172, .aload_n 0), (173, .bipush 18), (175, .invokevirtual 273), (178, .aload_n 0), (179, .bipush 21), (181, .invokevirtual 273), (184, .goto 288), (187, .aload_n 0), (188, .invokevirtual 306), (191, .goto 281), (194, .aload_n 0), (195, .iload_n 2), (196, .iconst 1), (197, .if_icmp .ne 7), (200, .iconst 1), (201, .goto 4), (204, .iconst 0), (205, .invokevirtual 309), (208, .goto 264), (211, .aload_n 0), (212, .dup), (213, .getfield 218), (216, .iconst 1), (217, .isub), (218, .putfield 218), (221, .aload_n 0), (222, .aload_n 0), (223, .getfield 221), (226, .ifCond .ne 8), (229, .iload_n 2), (230, .iconst 1), (231, .if_icmp .ne 7), (234, .iconst 1), (235, .goto 4), (238, .iconst 0), (239, .putfield 221), (242, .aload_n 0), (243, .bipush 10), (245, .iconst 0), (246, .iconst 0), (247, .invokevirtual 269), (250, .goto 222), (253, .iload_n 2), (254, .bipush 8), (256, .if_icmp .ge 13), (259, .aload_n 0), (260, .bipush 22), (262, .iload_n 2), (263, .iconst 0), (264, .iconst 0), (265, .iconst 0), (266, .invokevirtual 255), (269, .iload_n 2), (270, .bipush 8), (272, .if_icmp .ge 18), (275, .aload_n 0), (276, .bipush 21), (278, .iload_n 2), (279, .iconst 1), (280, .iadd), (281, .iconst 0), (282, .iconst 0), (283, .iconst 0), (284, .invokevirtual 255), (287, .goto 185), (290, .aload_n 0), (291, .invokevirtual 313), (294, .goto 178), (297, .aload_n 0), (298, .iload_n 2), (299, .invokevirtual 316), (302, .goto 170), (305, .aload_n 0), (306, .aload_n 0), (307, .getfield 221), (310, .ifCond .ne 9), (313, .iload 5), (315, .iconst 1), (316, .if_icmp .ne 7), (319, .iconst 1), (320, .goto 4), (323, .iconst 0), (324, .putfield 221), (327, .aload_n 0), (328, .getfield 221), (331, .ifCond .eq 23), (334, .iload_n 3), (335, .bipush 47), (337, .if_icmp .eq 9), (340, .iload_n 3), (341, .bipush 37), (343, .if_icmp .ne 11), (346, .aload_n 0), (347, .bipush 9), (349, .iload 4), (351, .invokevirtual 302), (354, .aload_n 0), (355, .bipush 8), (357, .iload_n 3), (358, .iconst 0), (359, .invokevirtual 269), (362, .aload_n 0), (363, .bipush 22), (365, .iload_n 2), (366, .iconst 0), (367, .iconst 0), (368, .iconst 0), (369, .invokevirtual 255), (372, .goto 100), (375, .aload_n 0), (376, .invokevirtual 313), (379, .goto 93), (382, .aload_n 0), (383, .dup), (384, .getfield 218), (387, .iconst 1), (388, .isub), (389, .putfield 218), (392, .aload_n 0), (393, .bipush 9), (395, .iload_n 2), (396, .iconst 0), (397, .invokevirtual 269), (400, .goto 72), (403, .aload_n 0), (404, .bipush 41), (406, .invokevirtual 237), (409, .aload_n 0), (410, .dup), (411, .getfield 218), (414, .iconst 1), (415, .isub), (416, .putfield 218), (419, .goto 53), (422, .aload_n 0), (423, .iconst 4), (424, .iload_n 2), (425, .iconst 0), (426, .invokevirtual 269), (429, .aload_n 0), (430, .aload_n 0), (431, .getfield 32), (434, .iload_n 2), (435, .baload), (436, .putfield 221), (439, .goto 33), (442, .aload_n 0), (443, .bipush 29), (445, .iload_n 2), (446, .iload_n 3), (447, .aload_n 0), (448, .getfield 135), (451, .iconst 0), (452, .invokevirtual 255), (455, .aload_n 0), (456, .bipush 17), (458, .invokevirtual 273), (461, .goto 11), (464, .aload_n 0), (465, .iload_n 2), (466, .iload_n 3), (467, .iload 4), (469, .invokevirtual 319), (472, .return_)]
/-- QuietCheckerModel.told(I)V -/
def pm_l26 : List (Nat × Instr) := [(0, .aload_n 0), (1, .getfield 193), (4, .ifCond .ne 26), (7, .aload_n 0), (8, .getfield 142), (11, .iconst 4), (12, .if_icmp .eq 11), (15, .aload_n 0), (16, .getfield 142), (19, .iconst 5), (20, .if_icmp .ne 10), (23, .aload_n 0), (24, .invokevirtual 322), (27, .goto (-27)), (30, .aload_n 0), (31, .getfield 193), (34, .ifCond .le 4), (37, .return_), (38, .aload_n 0), (39, .getfield 142), (42, .bipush 6), (44, .if_icmp .ne 17), (47, .aload_n 0), (48, .iconst 1), (49, .iload_n 1), (50, .iconst 0), (51, .iconst 0), (52, .iconst 0), (53, .invokevirtual 255), (56, .aload_n 0), (57, .invokevirtual 325), (60, .return_), (61, .aload_n 0), (62, .getfield 69), (65, .iload_n 1), (66, .aload_n 0), (67, .getfield 215), (70, .iastore), (71, .aload_n 0), (72, .iconst 2), (73, .invokevirtual 273), (76, .aload_n 0), (77, .iconst 5), (78, .invokevirtual 273), (81, .return_)]
/-- QuietCheckerModel.function()V -/
def pm_l27 : List (Nat × Instr) := [(0, .aload_n 0), (1, .invokevirtual 196), (4, .aload_n 0), (5, .invokevirtual 225), (8, .aload_n 0), (9, .getfield 328), (12, .istore_n 1), (13, .aload_n 0), (14, .getfield 193), (17, .ifCond .ne 16), (20, .aload_n 0), (21, .getfield 142), (24, .iconst 3), (25, .if_icmp .eq 8), (28, .aload_n 0), (29, .iconst 1), (30, .invokevirtual 202), (33, .aload_n 0), (34, .getfield 193), (37, .ifCond .ne 27), (40, .aload_n 0), (41, .aload_n 0), (42, .getfield 48), (45, .aload_n 0), (46, .getfield 51), (49, .aload_n 0), (50, .getfield 328), (53, .invokevirtual 231), (56, .ifCond .lt 8), (59, .aload_n 0), (60, .iconst 3), (61, .invokevirtual 202), (64, .aload_n 0), (65, .getfield 193), (68, .ifCond .ne 17), (71, .aload_n 0), (72, .getfield 328), (75, .bipush 6), (77, .if_icmp .ne 8), (80, .aload_n 0), (81, .iconst 4), (82, .invokevirtual 202), (85, .aload_n 0), (86, .getfield 193), (89, .ifCond .le 4), (92, .return_), (93, .aload_n 0), (94, .getfield 48), (97, .iload_n 1), (98, .aload_n 0), (99, .getfield 135), (102, .iastore), (103, .aload_n 0), (104, .getfield 51), (107, .iload_n 1), (108, .aload_n 0), (109, .getfield 162), (112, .aload_n 0), (113, .getfield 135), (116, .isub), (117, .iastore), (118, .aload_n 0), (119, .getfield 39), (122, .iload_n 1), (123, .aload_n 0), (124, .getfield 221), (127, .bastore), (128, .aload_n 0), (129, .iconst 0), (130, .putfield 249), (133, .aload_n 0), (134, .invokevirtual 196), (137, .aload_n 0), (138, .bipush 40), (140, .invokevirtual 237), (143, .aload_n 0), (144, .getfield 193), (147, .ifCond .ne 32), (150, .aload_n 0), (151, .getfield 142), (154, .bipush 41), (156, .if_icmp .eq 23), (159, .aload_n 0), (160, .invokevirtual 331), (163, .aload_n 0), (164, .bipush 44), (166, .invokevirtual 199), (169, .ifCond .eq 10), (172, .aload_n 0), (173, .invokevirtual 331), (176, .goto (-13)), (179, .aload_n 0), (180, .bipush 41), (182, .invokevirtual 237), (185, .aload_n 0), (186, .getfield 57), (189, .iload_n 1), (190, .aload_n 0), (191, .getfield 249), (194, .iastore), (195, .iconst 0), (196, .istore_n 2), (197, .iload_n 2), (198, .aload_n 0), (199, .getfield 249), (202, .if_icmp .ge 26), (205, .aload_n 0), (206, .getfield 63), (209, .bipush 12), (211, .iload_n 1), (212, .imul), (213, .iload_n 2), (214, .iadd), (215, .aload_n 0), (216, .getfield 36), (219, .iload_n 2), (220, .baload), (221, .bastore), (222, .iinc 2 1), (225, .goto (-28)), (228, .aload_n 0), (229, .bipush 123), (231, .invokevirtual 237), (234, .aload_n 0), (235, .iconst 1), (236, .putfield 334), (239, .aload_n 0), (240, .getfield 54), (243, .iload_n 1), (244, .aload_n 0), (245, .getfield 215), (248, .iastore), (249, .aload_n 0), (250, .getfield 193), (253, .ifCond .ne 32), (256, .aload_n 0), (257, .getfield 142), (260, .iconst 4), (261, .if_icmp .eq 11), (264, .aload_n 0), (265, .getfield 142), (268, .iconst 5), (269, .if_icmp .ne 16), (272, .aload_n 0), (273, .invokevirtual 331), (276, .aload_n 0), (277, .bipush 59), (279, .invokevirtual 237), (282, .goto (-33)), (285, .aload_n 0), (286, .getfield 218), (289, .istore_n 2), (290, .aload_n 0), (291, .iconst 0), (292, .putfield 218), (295, .aload_n 0), (296, .iconst 3), (297, .iload_n 1), (298, .iload_n 2), (299, .iconst 0), (300, .iconst 0), (301, .invokevirtual 255), (304, .aload_n 0), (305, .iconst 5), (306, .invokevirtual 273), (309, .return_)]
/-- QuietCheckerModel.functionEnd(III)V -/
def pm_l28 : List (Nat × Instr) := [(0, .aload_n 0), (1, .getfield 221), (4, .ifCond .eq 19), (7, .aload_n 0), (8, .getfield 39), (11, .iload_n 1), (12, .baload), (13, .ifCond .ne 10), (16, .aload_n 0), (17, .bipush 8), (19, .iload_n 3), (20, .invokevirtual 302), (23, .aload_n 0), (24, .bipush 12), (26, .iconst 0), (27, .iconst 0), (28, .invokevirtual 269), (31, .aload_n 0), (32, .bipush 59), (34, .invokevirtual 237), (37, .aload_n 0), (38, .bipush 125), (40, .invokevirtual 237), (43, .aload_n 0), (44, .iload_n 2), (45, .putfield 218), (48, .aload_n 0), (49, .getfield 60), (52, .iload_n 1), (53, .aload_n 0), (54, .getfield 249), (57, .iastore), (58, .aload_n 0), (59, .iconst 0), (60, .putfield 334), (63, .aload_n 0), (64, .aload_n 0), (65, .getfield 193), (68, .ifCond .ne 12), (71, .aload_n 0), (72, .getfield 328), (75, .iconst 1), (76, .iadd), (77, .goto 7), (80, .aload_n 0), (81, .getfield 328), (84, .putfield 328), (87, .return_)]
/-- QuietCheckerModel.begins()Z -/
def pm_l29 : List (Nat × Instr) := [(0, .aload_n 0), (1, .getfield 142), (4, .iconst 3), (5, .if_icmp .eq 30), (8, .aload_n 0), (9, .getfield 142), (12, .bipush 8), (14, .if_icmp .eq 21), (17, .aload_n 0), (18, .getfield 142), (21, .bipush 10), (23, .if_icmp .eq 12), (26, .aload_n 0), (27, .getfield 142), (30, .bipush 11), (32, .if_icmp .ne 7), (35, .iconst 1), (36, .goto 4), (39, .iconst 0), (40, .ireturn)]
/-- QuietCheckerModel.statement()V -/
def pm_l30 : List (Nat × Instr) := [(0, .aload_n 0), (1, .getfield 142), (4, .iconst 3), (5, .if_icmp .ne 8), (8, .aload_n 0), (9, .invokevirtual 337), (12, .return_), (13, .aload_n 0), (14, .getfield 142), (17, .istore_n 1), (18, .aload_n 0), (19, .getfield 135), (22, .istore_n 2), (23, .aload_n 0), (24, .invokevirtual 340), (27, .aload_n 0), (28, .getfield 193), (31, .ifCond .le 4), (34, .return_), (35, .aload_n 0), (36, .dup), (37, .getfield 343), (40, .iconst 1), (41, .iadd), (42, .putfield 343), (45, .aload_n 0), (46, .bipush 13), (48, .iconst 0), (49, .iconst 0), (50, .invokevirtual 269), (53, .aload_n 0), (54, .invokevirtual 196), (57, .iload_n 1), (58, .bipush 11), (60, .if_icmp .ne 20), (63, .aload_n 0), (64, .bipush 59), (66, .invokevirtual 237), (69, .aload_n 0), (70, .dup), (71, .getfield 218), (74, .iconst 1), (75, .isub), (76, .putfield 218), (79, .return_), (80, .aload_n 0), (81, .bipush 6), (83, .invokevirtual 273), (86, .aload_n 0), (87, .iload_n 1), (88, .bipush 8), (90, .if_icmp .ne 8), (93, .bipush 7), (95, .goto 5), (98, .bipush 10), (100, .iload_n 2), (101, .aload_n 0), (102, .getfield 215), (105, .iconst 0), (106, .iconst 0), (107, .invokevirtual 255), (110, .aload_n 0), (111, .bipush 17), (113, .invokevirtual 273), (116, .return_)]
/-- QuietCheckerModel.branch(I)I -/
def pm_l31 : List (Nat × Instr) := [(0, .aload_n 0), (1, .getfield 221), (4, .ifCond .eq 10), (7, .aload_n 0), (8, .bipush 6), (10, .iload_n 1), (11, .invokevirtual 302), (14, .aload_n 0), (15, .bipush 14), (17, .iconst 0), (18, .iload_n 1), (19, .invokevirtual 269), (22, .aload_n 0), (23, .getfield 215), (26, .iconst 1), (27, .isub), (28, .ireturn)]
/-- QuietCheckerModel.block()V -/
def pm_l32 : List (Nat × Instr) := [(0, .aload_n 0), (1, .bipush 123), (3, .invokevirtual 237), (6, .aload_n 0), (7, .bipush 12), (9, .invokevirtual 273), (12, .aload_n 0), (13, .iconst 5), (14, .invokevirtual 273), (17, .return_)]
/-- QuietCheckerModel.ifDone(I)V -/
def pm_l33 : List (Nat × Instr) := [(0, .aload_n 0), (1, .bipush 9), (3, .invokevirtual 199), (6, .ifCond .ne 14), (9, .aload_n 0), (10, .getfield 69), (13, .iload_n 1), (14, .aload_n 0), (15, .getfield 215), (18, .iastore), (19, .return_), (20, .aload_n 0), (21, .bipush 9), (23, .aload_n 0), (24, .getfield 215), (27, .iconst 0), (28, .iconst 0), (29, .iconst 0), (30, .invokevirtual 255), (33, .aload_n 0), (34, .bipush 15), (36, .iconst 0), (37, .iconst 0), (38, .invokevirtual 269), (41, .aload_n 0), (42, .getfield 69), (45, .iload_n 1), (46, .aload_n 0), (47, .getfield 215), (50, .iastore), (51, .aload_n 0), (52, .invokevirtual 289), (55, .return_)]
/-- QuietCheckerModel.named(Z)I -/
def pm_l34 : List (Nat × Instr) := [(0, .aload_n 0), (1, .getfield 334), (4, .ifCond .eq 22), (7, .aload_n 0), (8, .aload_n 0), (9, .getfield 42), (12, .aload_n 0), (13, .getfield 45), (16, .aload_n 0), (17, .getfield 249), (20, .invokevirtual 231), (23, .goto 4), (26, .iconst (-1)), (27, .istore_n 2), (28, .iload_n 2), (29, .ifCond .lt 16), (32, .iload_n 1), (33, .ifCond .eq 7), (36, .iconst (-1)), (37, .goto 7), (40, .bipush 100), (42, .iload_n 2), (43, .iadd), (44, .ireturn), (45, .aload_n 0), (46, .aload_n 0), (47, .getfield 16), (50, .aload_n 0), (51, .getfield 20), (54, .aload_n 0), (55, .getfield 228), (58, .invokevirtual 231), (61, .istore_n 3), (62, .iload_n 3), (63, .ifCond .lt 25), (66, .aload_n 0), (67, .getfield 23), (70, .iload_n 3), (71, .iaload), (72, .ifCond .le 7), (75, .iconst 1), (76, .goto 4), (79, .iconst 0), (80, .iload_n 1), (81, .if_icmp .ne 7), (84, .iload_n 3), (85, .goto 4), (88, .iconst (-1)), (89, .ireturn)]
/-- QuietCheckerModel.ahead()I -/
def pm_l35 : List (Nat × Instr) := [(0, .iconst 0), (1, .istore_n 1), (2, .aload_n 0), (3, .getfield 132), (6, .istore_n 2), (7, .iload_n 2), (8, .aload_n 0), (9, .getfield 129), (12, .if_icmp .ge 78), (15, .iload_n 1), (16, .ifCond .ne 36), (19, .aload_n 0), (20, .getfield 13), (23, .iload_n 2), (24, .caload), (25, .bipush 32), (27, .if_icmp .eq 25), (30, .aload_n 0), (31, .getfield 13), (34, .iload_n 2), (35, .caload), (36, .bipush 10), (38, .if_icmp .eq 14), (41, .aload_n 0), (42, .getfield 13), (45, .iload_n 2), (46, .caload), (47, .bipush 35), (49, .if_icmp .ne 41), (52, .aload_n 0), (53, .getfield 13), (56, .iload_n 2), (57, .caload), (58, .bipush 10), (60, .if_icmp .eq 22), (63, .iload_n 1), (64, .ifCond .ne 14), (67, .aload_n 0), (68, .getfield 13), (71, .iload_n 2), (72, .caload), (73, .bipush 35), (75, .if_icmp .ne 7), (78, .iconst 1), (79, .goto 4), (82, .iconst 0), (83, .istore_n 1), (84, .iinc 2 1), (87, .goto (-80)), (90, .aload_n 0), (91, .iload_n 2), (92, .invokevirtual 138), (95, .ireturn)]
/-- QuietCheckerModel.assignment()V -/
def pm_l36 : List (Nat × Instr) := [(0, .aload_n 0), (1, .invokevirtual 346), (4, .bipush 91), (6, .if_icmp .ne 7), (9, .iconst 1), (10, .goto 4), (13, .iconst 0), (14, .istore_n 1), (15, .aload_n 0), (16, .iload_n 1), (17, .invokevirtual 350), (20, .istore_n 2), (21, .iload_n 2), (22, .ifCond .ge 8), (25, .aload_n 0), (26, .iconst 2), (27, .invokevirtual 202), (30, .aload_n 0), (31, .invokevirtual 340), (34, .aload_n 0), (35, .getfield 193), (38, .ifCond .le 4), (41, .return_), (42, .aload_n 0), (43, .dup), (44, .getfield 343), (47, .iconst 1), (48, .iadd), (49, .putfield 343), (52, .aload_n 0), (53, .bipush 13), (55, .iconst 0), (56, .iconst 0), (57, .invokevirtual 269), (60, .aload_n 0), (61, .invokevirtual 196), (64, .aload_n 0), (65, .bipush 13), (67, .iload_n 2), (68, .iload_n 1), (69, .ifCond .eq 7), (72, .iconst 1), (73, .goto 4), (76, .iconst 0), (77, .iconst 0), (78, .iconst 0), (79, .invokevirtual 255), (82, .iload_n 1), (83, .ifCond .eq 9), (86, .aload_n 0), (87, .bipush 15), (89, .invokevirtual 273), (92, .return_)]
/-- QuietCheckerModel.assigned(IZI)V -/
def pm_l37 : List (Nat × Instr) := [(0, .iload_n 1), (1, .bipush 99), (3, .if_icmp .le 15), (6, .aload_n 0), (7, .getfield 36), (10, .iload_n 1), (11, .bipush 100), (13, .isub), (14, .baload), (15, .goto 9), (18, .aload_n 0), (19, .getfield 32), (22, .iload_n 1), (23, .baload), (24, .istore 4), (26, .aload_n 0), (27, .getfield 221), (30, .ifCond .eq 15), (33, .iload 4), (35, .ifCond .ne 10), (38, .aload_n 0), (39, .bipush 8), (41, .iload_n 3), (42, .invokevirtual 302), (45, .iload_n 2), (46, .ifCond .eq 14), (49, .aload_n 0), (50, .bipush 7), (52, .iload_n 1), (53, .iconst 0), (54, .invokevirtual 269), (57, .goto 35), (60, .iload_n 1), (61, .bipush 99), (63, .if_icmp .le 17), (66, .aload_n 0), (67, .bipush 6), (69, .iload_n 1), (70, .bipush 100), (72, .isub), (73, .iconst 0), (74, .invokevirtual 269), (77, .goto 15), (80, .aload_n 0), (81, .iconst 5), (82, .aload_n 0), (83, .getfield 29), (86, .iload_n 1), (87, .iaload), (88, .iconst 0), (89, .invokevirtual 269), (92, .aload_n 0), (93, .bipush 59), (95, .invokevirtual 237), (98, .aload_n 0), (99, .dup), (100, .getfield 218), (103, .iconst 1), (104, .isub), (105, .putfield 218), (108, .return_)]
/-- QuietCheckerModel.index()V -/
def pm_l38 : List (Nat × Instr) := [(0, .aload_n 0), (1, .getfield 135), (4, .istore_n 1), (5, .aload_n 0), (6, .invokevirtual 340), (9, .aload_n 0), (10, .getfield 193), (13, .ifCond .le 4), (16, .return_), (17, .aload_n 0), (18, .invokevirtual 196), (21, .aload_n 0), (22, .bipush 16), (24, .iload_n 1), (25, .iconst 0), (26, .iconst 0), (27, .iconst 0), (28, .invokevirtual 255), (31, .aload_n 0), (32, .bipush 17), (34, .invokevirtual 273), (37, .return_)]
/-- QuietCheckerModel.asked()V -/
def pm_l39 : List (Nat × Instr) := [(0, .aload_n 0), (1, .getfield 142), (4, .bipush 63), (6, .if_icmp .eq 4), (9, .return_), (10, .aload_n 0), (11, .getfield 221), (14, .istore_n 1), (15, .aload_n 0), (16, .invokevirtual 340), (19, .aload_n 0), (20, .getfield 193), (23, .ifCond .le 4), (26, .return_), (27, .aload_n 0), (28, .invokevirtual 196), (31, .aload_n 0), (32, .bipush 19), (34, .iload_n 1), (35, .ifCond .eq 7), (38, .iconst 1), (39, .goto 4), (42, .iconst 0), (43, .iconst 0), (44, .iconst 0), (45, .iconst 0), (46, .invokevirtual 255), (49, .aload_n 0), (50, .bipush 17), (52, .invokevirtual 273), (55, .return_)]
/-- QuietCheckerModel.first(Z)V -/
def pm_l40 : List (Nat × Instr) := [(0, .aload_n 0), (1, .getfield 221), (4, .ifCond .ne 7), (7, .iload_n 1), (8, .ifCond .eq 7), (11, .iconst 1), (12, .goto 4), (15, .iconst 0), (16, .istore_n 2), (17, .aload_n 0), (18, .dup), (19, .getfield 218), (22, .iconst 1), (23, .isub), (24, .putfield 218), (27, .aload_n 0), (28, .getfield 142), (31, .bipush 58), (33, .if_icmp .eq 9), (36, .aload_n 0), (37, .iconst 1), (38, .invokevirtual 202), (41, .return_), (42, .aload_n 0), (43, .invokevirtual 340), (46, .aload_n 0), (47, .getfield 193), (50, .ifCond .le 4), (53, .return_), (54, .aload_n 0), (55, .invokevirtual 196), (58, .aload_n 0), (59, .bipush 20), (61, .iload_n 2), (62, .ifCond .eq 7), (65, .iconst 1), (66, .goto 4), (69, .iconst 0), (70, .iconst 0), (71, .iconst 0), (72, .iconst 0), (73, .invokevirtual 255), (76, .aload_n 0), (77, .bipush 17), (79, .invokevirtual 273), (82, .return_)]
/-- QuietCheckerModel.levelOf(I)I -/
def pm_l41 : List (Nat × Instr) := [(0, .iload_n 0), (1, .lookupswitch 141 #[(37, 138), (38, 127), (42, 138), (43, 135), (45, 135), (47, 138), (60, 131), (94, 125), (124, 123), (8509, 129), (15420, 133), (15421, 131), (15677, 129), (15934, 133)]), (124, .iconst 0), (125, .ireturn), (126, .iconst 1), (127, .ireturn), (128, .iconst 2), (129, .ireturn), (130, .iconst 3), (131, .ireturn), (132, .iconst 4), (133, .ireturn), (134, .iconst 5), (135, .ireturn), (136, .bipush 6), (138, .ireturn), (139, .bipush 7), (141, .ireturn), (142, .bipush 9), (144, .ireturn)]
/-- QuietCheckerModel.levelOn(I)V -/
def pm_l42 : List (Nat × Instr) := [(0, .aload_n 0), (1, .getfield 142), (4, .invokestatic 354), (7, .iload_n 1), (8, .if_icmp .eq 4), (11, .return_), (12, .aload_n 0), (13, .bipush 23), (15, .iload_n 1), (16, .aload_n 0), (17, .getfield 142), (20, .aload_n 0), (21, .getfield 135), (24, .aload_n 0), (25, .getfield 221), (28, .ifCond .eq 7), (31, .iconst 1), (32, .goto 4), (35, .iconst 0), (36, .invokevirtual 255), (39, .aload_n 0), (40, .invokevirtual 196), (43, .aload_n 0), (44, .bipush 21), (46, .iload_n 1), (47, .iconst 1), (48, .iadd), (49, .iconst 0), (50, .iconst 0), (51, .iconst 0), (52, .invokevirtual 255), (55, .return_)]
/-- QuietCheckerModel.single()V -/
def pm_l43 : List (Nat × Instr) := [(0, .aload_n 0), (1, .getfield 142), (4, .istore_n 1), (5, .iload_n 1), (6, .bipush 45), (8, .if_icmp .eq 21), (11, .iload_n 1), (12, .bipush 126), (14, .if_icmp .eq 15), (17, .iload_n 1), (18, .bipush 33), (20, .if_icmp .eq 9), (23, .iload_n 1), (24, .bipush 40), (26, .if_icmp .ne 60), (29, .aload_n 0), (30, .invokevirtual 340), (33, .aload_n 0), (34, .getfield 193), (37, .ifCond .le 4), (40, .return_), (41, .aload_n 0), (42, .invokevirtual 196), (45, .aload_n 0), (46, .iload_n 1), (47, .bipush 40), (49, .if_icmp .ne 8), (52, .bipush 26), (54, .goto 5), (57, .bipush 25), (59, .iload_n 1), (60, .iconst 0), (61, .iconst 0), (62, .iconst 0), (63, .invokevirtual 255), (66, .aload_n 0), (67, .iload_n 1), (68, .bipush 40), (70, .if_icmp .ne 8), (73, .bipush 17), (75, .goto 5), (78, .bipush 24), (80, .invokevirtual 273), (83, .goto 48), (86, .iload_n 1), (87, .iconst 2), (88, .if_icmp .ne 26), (91, .aload_n 0), (92, .iconst 1), (93, .aload_n 0), (94, .getfield 165), (97, .l2i), (98, .iconst 0), (99, .invokevirtual 269), (102, .aload_n 0), (103, .iconst 0), (104, .putfield 221), (107, .aload_n 0), (108, .invokevirtual 196), (111, .goto 20), (114, .iload_n 1), (115, .iconst 3), (116, .if_icmp .ne 10), (119, .aload_n 0), (120, .invokevirtual 357), (123, .goto 8), (126, .aload_n 0), (127, .iconst 1), (128, .invokevirtual 202), (131, .return_)]
/-- QuietCheckerModel.called()V -/
def pm_l44 : List (Nat × Instr) := [(0, .aload_n 0), (1, .invokevirtual 346), (4, .istore_n 1), (5, .iload_n 1), (6, .bipush 40), (8, .if_icmp .ne 8), (11, .aload_n 0), (12, .invokevirtual 360), (15, .return_), (16, .aload_n 0), (17, .iload_n 1), (18, .bipush 91), (20, .if_icmp .ne 7), (23, .iconst 1), (24, .goto 4), (27, .iconst 0), (28, .invokevirtual 350), (31, .istore_n 2), (32, .iload_n 2), (33, .ifCond .ge 8), (36, .aload_n 0), (37, .iconst 2), (38, .invokevirtual 202), (41, .aload_n 0), (42, .getfield 193), (45, .ifCond .le 4), (48, .return_), (49, .aload_n 0), (50, .invokevirtual 196), (53, .iload_n 1), (54, .bipush 91), (56, .if_icmp .ne 20), (59, .aload_n 0), (60, .bipush 27), (62, .iload_n 2), (63, .iconst 0), (64, .iconst 0), (65, .iconst 0), (66, .invokevirtual 255), (69, .aload_n 0), (70, .bipush 15), (72, .invokevirtual 273), (75, .return_), (76, .aload_n 0), (77, .iload_n 2), (78, .bipush 99), (80, .if_icmp .le 7), (83, .iconst 3), (84, .goto 4), (87, .iconst 2), (88, .iload_n 2), (89, .bipush 99), (91, .if_icmp .le 10), (94, .iload_n 2), (95, .bipush 100), (97, .isub), (98, .goto 9), (101, .aload_n 0), (102, .getfield 29), (105, .iload_n 2), (106, .iaload), (107, .iconst 0), (108, .invokevirtual 269), (111, .aload_n 0), (112, .iload_n 2), (113, .bipush 99), (115, .if_icmp .le 15), (118, .aload_n 0), (119, .getfield 36), (122, .iload_n 2), (123, .bipush 100), (125, .isub), (126, .baload), (127, .goto 9), (130, .aload_n 0), (131, .getfield 32), (134, .iload_n 2), (135, .baload), (136, .putfield 221), (139, .return_)]
/-- QuietCheckerModel.call()V -/
def pm_l45 : List (Nat × Instr) := [(0, .aload_n 0), (1, .aload_n 0), (2, .getfield 48), (5, .aload_n 0), (6, .getfield 51), (9, .aload_n 0), (10, .getfield 328), (13, .invokevirtual 231), (16, .istore_n 1), (17, .iload_n 1), (18, .ifCond .ge 9), (21, .aload_n 0), (22, .iconst 2), (23, .invokevirtual 202), (26, .return_), (27, .aload_n 0), (28, .invokevirtual 196), (31, .aload_n 0), (32, .invokevirtual 340), (35, .aload_n 0), (36, .getfield 193), (39, .ifCond .le 4), (42, .return_), (43, .aload_n 0), (44, .invokevirtual 196), (47, .aload_n 0), (48, .getfield 142), (51, .bipush 41), (53, .if_icmp .eq 16), (56, .aload_n 0), (57, .bipush 28), (59, .iload_n 1), (60, .iconst 0), (61, .iconst 0), (62, .iconst 0), (63, .invokevirtual 255), (66, .goto 9), (69, .aload_n 0), (70, .iload_n 1), (71, .iconst 0), (72, .invokevirtual 363), (75, .return_)]
/-- QuietCheckerModel.given(III)V -/
def pm_l46 : List (Nat × Instr) := [(0, .aload_n 0), (1, .getfield 221), (4, .ifCond .eq 34), (7, .iload_n 2), (8, .aload_n 0), (9, .getfield 57), (12, .iload_n 1), (13, .iaload), (14, .if_icmp .ge 24), (17, .aload_n 0), (18, .getfield 63), (21, .bipush 12), (23, .iload_n 1), (24, .imul), (25, .iload_n 2), (26, .iadd), (27, .baload), (28, .ifCond .ne 10), (31, .aload_n 0), (32, .bipush 8), (34, .iload_n 3), (35, .invokevirtual 302), (38, .aload_n 0), (39, .bipush 44), (41, .invokevirtual 199), (44, .ifCond .eq 18), (47, .aload_n 0), (48, .bipush 28), (50, .iload_n 1), (51, .iload_n 2), (52, .iconst 1), (53, .iadd), (54, .iconst 0), (55, .iconst 0), (56, .invokevirtual 255), (59, .goto 11), (62, .aload_n 0), (63, .iload_n 1), (64, .iload_n 2), (65, .iconst 1), (66, .iadd), (67, .invokevirtual 363), (70, .return_)]
/-- QuietCheckerModel.callEnd(II)V -/
def pm_l47 : List (Nat × Instr) := [(0, .aload_n 0), (1, .getfield 193), (4, .ifCond .ne 27), (7, .aload_n 0), (8, .getfield 142), (11, .bipush 41), (13, .if_icmp .ne 18), (16, .iload_n 2), (17, .aload_n 0), (18, .getfield 57), (21, .iload_n 1), (22, .iaload), (23, .if_icmp .eq 8), (26, .aload_n 0), (27, .iconst 5), (28, .invokevirtual 202), (31, .aload_n 0), (32, .bipush 41), (34, .invokevirtual 237), (37, .aload_n 0), (38, .dup), (39, .getfield 218), (42, .iconst 1), (43, .isub), (44, .putfield 218), (47, .aload_n 0), (48, .bipush 11), (50, .iload_n 1), (51, .iconst 0), (52, .invokevirtual 269), (55, .aload_n 0), (56, .aload_n 0), (57, .getfield 39), (60, .iload_n 1), (61, .baload), (62, .putfield 221), (65, .return_)]
/-- QuietCheckerModel.check()I -/
def pm_l48 : List (Nat × Instr) := [(0, .aload_n 0), (1, .iconst 0), (2, .putfield 114), (5, .iconst 0), (6, .istore_n 1), (7, .iload_n 1), (8, .aload_n 0), (9, .getfield 118), (12, .if_icmp .ge 21), (15, .aload_n 0), (16, .getfield 13), (19, .iload_n 1), (20, .aload_n 0), (21, .getfield 7), (24, .iload_n 1), (25, .caload), (26, .castore), (27, .iinc 1 1), (30, .goto (-23)), (33, .aload_n 0), (34, .aload_n 0), (35, .getfield 118), (38, .putfield 129), (41, .aload_n 0), (42, .iconst 0), (43, .putfield 118), (46, .aload_n 0), (47, .aload_n 0), (48, .aload_n 0), (49, .aload_n 0), (50, .aload_n 0), (51, .aload_n 0), (52, .aload_n 0), (53, .aload_n 0), (54, .aload_n 0), (55, .aload_n 0), (56, .aload_n 0), (57, .iconst 0), (58, .dup_x1), (59, .putfield 215), (62, .dup_x1), (63, .putfield 218), (66, .dup_x1), (67, .putfield 343), (70, .dup_x1), (71, .putfield 246), (74, .dup_x1), (75, .putfield 328), (78, .dup_x1), (79, .putfield 249), (82, .dup_x1), (83, .putfield 243), (86, .dup_x1), (87, .putfield 240), (90, .dup_x1), (91, .putfield 228), (94, .dup_x1), (95, .putfield 193), (98, .putfield 132), (101, .aload_n 0), (102, .iconst (-1)), (103, .putfield 205), (106, .aload_n 0), (107, .iconst 0), (108, .putfield 208), (111, .aload_n 0), (112, .iconst 0), (113, .putfield 334), (116, .aload_n 0), (117, .iconst 0), (118, .putfield 366), (121, .aload_n 0), (122, .iconst 0), (123, .putfield 252), (126, .aload_n 0), (127, .invokevirtual 196), (130, .aload_n 0), (131, .bipush 15), (133, .iconst 0), (134, .iconst 0), (135, .invokevirtual 269), (138, .aload_n 0), (139, .iconst 1), (140, .invokevirtual 273), (143, .aload_n 0), (144, .invokevirtual 369), (147, .aload_n 0), (148, .aload_n 0), (149, .getfield 193), (152, .ifCond .ne 7), (155, .iconst 1), (156, .goto 4), (159, .iconst 0), (160, .putfield 372), (163, .aload_n 0), (164, .getfield 372), (167, .ifCond .ne 28), (170, .aload_n 0), (171, .aload_n 0), (172, .aload_n 0), (173, .aload_n 0), (174, .aload_n 0), (175, .iconst 0), (176, .dup_x1), (177, .putfield 343), (180, .dup_x1), (181, .putfield 246), (184, .dup_x1), (185, .putfield 328), (188, .dup_x1), (189, .putfield 240), (192, .putfield 228), (195, .aload_n 0), (196, .getfield 372), (199, .ifCond .eq 26), (202, .aload_n 0), (203, .getfield 205), (206, .ifCond .lt 19), (209, .aload_n 0), (210, .aload_n 0), (211, .getfield 208), (214, .bipush 16), (216, .aload_n 0), (217, .getfield 205), (220, .imul), (221, .iadd), (222, .putfield 193), (225, .iconst 0), (226, .istore_n 1), (227, .iload_n 1), (228, .aload_n 0), (229, .getfield 75), (232, .arraylength), (233, .if_icmp .ge 16), (236, .aload_n 0), (237, .getfield 75), (240, .iload_n 1), (241, .iconst 0), (242, .iastore), (243, .iinc 1 1), (246, .goto (-19)), (249, .aload_n 0), (250, .getfield 193), (253, .ireturn)]
/-- QuietCheckerModel.cellOf(II)I -/
def pm_l49 : List (Nat × Instr) := [(0, .aload_n 0), (1, .getfield 372), (4, .ifCond .eq 46), (7, .iload_n 1), (8, .ifCond .lt 42), (11, .iload_n 1), (12, .aload_n 0), (13, .getfield 228), (16, .if_icmp .ge 34), (19, .iload_n 2), (20, .ifCond .lt 30), (23, .iload_n 2), (24, .aload_n 0), (25, .getfield 23), (28, .iload_n 1), (29, .iaload), (30, .ifCond .le 12), (33, .aload_n 0), (34, .getfield 23), (37, .iload_n 1), (38, .iaload), (39, .goto 4), (42, .iconst 1), (43, .if_icmp .ge 7), (46, .iconst 1), (47, .goto 4), (50, .iconst 0), (51, .istore_n 3), (52, .iload_n 3), (53, .ifCond .eq 14), (56, .aload_n 0), (57, .getfield 29), (60, .iload_n 1), (61, .iaload), (62, .iload_n 2), (63, .iadd), (64, .goto 4), (67, .iconst (-1)), (68, .ireturn)]
/-- QuietCheckerModel.put(III)V -/
def pm_l50 : List (Nat × Instr) := [(0, .aload_n 0), (1, .aload_n 0), (2, .getfield 372), (5, .ifCond .ne 7), (8, .iconst 1), (9, .goto 4), (12, .iconst 0), (13, .aload_n 0), (14, .iload_n 1), (15, .iload_n 2), (16, .invokevirtual 375), (19, .ifCond .ge 7), (22, .iconst 1), (23, .goto 4), (26, .iconst 0), (27, .invokevirtual 379), (30, .ifCond .eq 4), (33, .return_), (34, .aload_n 0), (35, .getfield 75), (38, .aload_n 0), (39, .iload_n 1), (40, .iload_n 2), (41, .invokevirtual 375), (44, .iload_n 3), (45, .iastore), (46, .return_)]
/-- QuietCheckerModel.worked(III)I -/
def pm_l51 : List (Nat × Instr) := [(0, .iload_n 0), (1, .lookupswitch 201 #[(38, 123), (42, 193), (43, 185), (45, 189), (47, 197), (60, 149), (94, 119), (124, 115), (8509, 138), (15420, 171), (15421, 160), (15677, 127), (15934, 178)]), (116, .iload_n 1), (117, .iload_n 2), (118, .ior), (119, .ireturn), (120, .iload_n 1), (121, .iload_n 2), (122, .ixor), (123, .ireturn), (124, .iload_n 1), (125, .iload_n 2), (126, .iand), (127, .ireturn), (128, .iload_n 1), (129, .iload_n 2), (130, .if_icmp .ne 7), (133, .iconst 1), (134, .goto 4), (137, .iconst 0), (138, .ireturn), (139, .iload_n 1), (140, .iload_n 2), (141, .if_icmp .eq 7), (144, .iconst 1), (145, .goto 4), (148, .iconst 0), (149, .ireturn), (150, .iload_n 1), (151, .iload_n 2), (152, .if_icmp .ge 7), (155, .iconst 1), (156, .goto 4), (159, .iconst 0), (160, .ireturn), (161, .iload_n 1), (162, .iload_n 2), (163, .if_icmp .gt 7), (166, .iconst 1), (167, .goto 4), (170, .iconst 0), (171, .ireturn), (172, .iload_n 1), (173, .iload_n 2), (174, .bipush 31), (176, .iand), (177, .ishl), (178, .ireturn), (179, .iload_n 1), (180, .iload_n 2), (181, .bipush 31), (183, .iand), (184, .iushr), (185, .ireturn), (186, .iload_n 1), (187, .iload_n 2), (188, .iadd), (189, .ireturn), (190, .iload_n 1), (191, .iload_n 2), (192, .isub), (193, .ireturn), (194, .iload_n 1), (195, .iload_n 2), (196, .imul), (197, .ireturn), (198, .iload_n 1), (199, .iload_n 2), (200, .idiv), (201, .ireturn), (202, .iload_n 1), (203, .iload_n 2), (204, .irem), (205, .ireturn)]
/-- QuietCheckerModel.tell(I)V -/
def pm_l52 : List (Nat × Instr) := [(0, .aload_n 0), (1, .getfield 383), (4, .sipush 4000), (7, .if_icmp .ne 9), (10, .aload_n 0), (11, .iconst 4), (12, .putfield 386), (15, .return_), (16, .aload_n 0), (17, .getfield 81), (20, .aload_n 0), (21, .getfield 383), (24, .iload_n 1), (25, .iastore), (26, .aload_n 0), (27, .dup), (28, .getfield 383), (31, .iconst 1), (32, .iadd), (33, .putfield 383), (36, .return_)]
/-- QuietCheckerModel.cell(II)I -/
def pm_l53 : List (Nat × Instr) := [(0, .iload_n 2), (1, .ifCond .lt 13), (4, .iload_n 2), (5, .aload_n 0), (6, .getfield 23), (9, .iload_n 1), (10, .iaload), (11, .if_icmp .lt 10), (14, .aload_n 0), (15, .iconst 2), (16, .putfield 386), (19, .iconst (-1)), (20, .ireturn), (21, .aload_n 0), (22, .iconst (-1)), (23, .bipush 64), (25, .aload_n 0), (26, .getfield 26), (29, .iload_n 1), (30, .iaload), (31, .imul), (32, .iload_n 2), (33, .iadd), (34, .isub), (35, .invokevirtual 389), (38, .aload_n 0), (39, .getfield 386), (42, .iconst 4), (43, .if_icmp .ne 7), (46, .iconst (-1)), (47, .goto 11), (50, .aload_n 0), (51, .getfield 29), (54, .iload_n 1), (55, .iaload), (56, .iload_n 2), (57, .iadd), (58, .ireturn)]
/-- QuietCheckerModel.go(I)V -/
def pm_l54 : List (Nat × Instr) := [(0, .aload_n 0), (1, .iconst 0), (2, .putfield 383), (5, .aload_n 0), (6, .iconst 0), (7, .putfield 392), (10, .aload_n 0), (11, .iconst (-1)), (12, .putfield 386), (15, .aload_n 0), (16, .iconst 0), (17, .putfield 395), (20, .iconst 0), (21, .istore_n 2), (22, .iconst 0), (23, .istore_n 3), (24, .iconst 0), (25, .istore 4), (27, .aload_n 0), (28, .getfield 386), (31, .iconst (-1)), (32, .if_icmp .ne 736), (35, .aload_n 0), (36, .getfield 69), (39, .iload_n 2), (40, .iaload), (41, .istore 5), (43, .aload_n 0), (44, .getfield 66), (47, .iload_n 2), (48, .iaload), (49, .istore 6), (51, .iinc 2 1), (54, .iload 6), (56, .tableswitch 704 1 15 #[76, 90, 90, 128, 171, 190, 212, 252, 316, 382, 424, 558, 618, 647, 698]), (132, .aload_n 0), (133, .getfield 84), (136, .iload_n 3), (137, .iload 5), (139, .iastore), (140, .iinc 3 1), (143, .goto 622), (146, .aload_n 0), (147, .getfield 84), (150, .iload_n 3), (151, .iload 6), (153, .iconst 2), (154, .if_icmp .ne 13), (157, .aload_n 0), (158, .getfield 78), (161, .iload 5), (163, .iaload), (164, .goto 13), (167, .aload_n 0), (168, .getfield 84), (171, .iload 4), (173, .iload 5), (175, .iadd), (176, .iaload), (177, .iastore), (178, .iinc 3 1), (181, .goto 584), (184, .aload_n 0), (185, .iload 5), (187, .aload_n 0), (188, .getfield 84), (191, .iload_n 3), (192, .iconst 1), (193, .isub), (194, .iaload), (195, .invokevirtual 398), (198, .istore 7), (200, .aload_n 0), (201, .getfield 84), (204, .iload_n 3), (205, .iconst 1), (206, .isub), (207, .iload 7), (209, .ifCond .ge 7), (212, .iconst 0), (213, .goto 10), (216, .aload_n 0), (217, .getfield 78), (220, .iload 7), (222, .iaload), (223, .iastore), (224, .goto 541), (227, .iinc 3 (-1)), (230, .aload_n 0), (231, .getfield 78), (234, .iload 5), (236, .aload_n 0), (237, .getfield 84), (240, .iload_n 3), (241, .iaload), (242, .iastore), (243, .goto 522), (246, .iinc 3 (-1)), (249, .aload_n 0), (250, .getfield 84), (253, .iload 4), (255, .iload 5), (257, .iadd), (258, .aload_n 0), (259, .getfield 84), (262, .iload_n 3), (263, .iaload), (264, .iastore), (265, .goto 500), (268, .iinc 3 (-2)), (271, .aload_n 0), (272, .iload 5), (274, .aload_n 0), (275, .getfield 84), (278, .iload_n 3), (279, .iaload), (280, .invokevirtual 398), (283, .istore 8), (285, .iload 8), (287, .ifCond .lt 478), (290, .aload_n 0), (291, .getfield 78), (294, .iload 8), (296, .aload_n 0), (297, .getfield 84), (300, .iload_n 3), (301, .iconst 1), (302, .iadd), (303, .iaload), (304, .iastore), (305, .goto 460), (308, .iinc 3 (-1)), (311, .iload 5), (313, .bipush 47), (315, .if_icmp .eq 10), (318, .iload 5), (320, .bipush 37), (322, .if_icmp .ne 20), (325, .aload_n 0), (326, .getfield 84), (329, .iload_n 3), (330, .iaload), (331, .ifCond .ne 11), (334, .aload_n 0), (335, .iconst 3), (336, .putfield 386), (339, .goto 426), (342, .aload_n 0), (343, .getfield 84), (346, .iload_n 3), (347, .iconst 1), (348, .isub), (349, .iload 5), (351, .aload_n 0), (352, .getfield 84), (355, .iload_n 3), (356, .iconst 1), (357, .isub), (358, .iaload), (359, .aload_n 0), (360, .getfield 84), (363, .iload_n 3), (364, .iaload), (365, .invokestatic 401), (368, .iastore), (369, .goto 396), (372, .aload_n 0), (373, .getfield 84), (376, .iload_n 3), (377, .iconst 1), (378, .isub), (379, .iload 5), (381, .bipush 45), (383, .if_icmp .ne 15), (386, .aload_n 0), (387, .getfield 84), (390, .iload_n 3), (391, .iconst 1), (392, .isub), (393, .iaload), (394, .ineg), (395, .goto 39), (398, .iload 5), (400, .bipush 126), (402, .if_icmp .ne 16), (405, .aload_n 0), (406, .getfield 84), (409, .iload_n 3), (410, .iconst 1), (411, .isub), (412, .iaload), (413, .iconst (-1)), (414, .ixor), (415, .goto 19), (418, .aload_n 0), (419, .getfield 84), (422, .iload_n 3), (423, .iconst 1), (424, .isub), (425, .iaload), (426, .ifCond .ne 7), (429, .iconst 1), (430, .goto 4), (433, .iconst 0), (434, .iastore), (435, .goto 330), (438, .iinc 3 (-2)), (441, .aload_n 0), (442, .getfield 84), (445, .iload_n 3), (446, .iconst 1), (447, .isub), (448, .aload_n 0), (449, .getfield 84), (452, .iload_n 3), (453, .iconst 1), (454, .isub), (455, .iaload), (456, .ifCond .eq 12), (459, .aload_n 0), (460, .getfield 84), (463, .iload_n 3), (464, .iaload), (465, .goto 11), (468, .aload_n 0), (469, .getfield 84), (472, .iload_n 3), (473, .iconst 1), (474, .iadd), (475, .iaload), (476, .iastore), (477, .goto 288), (480, .aload_n 0), (481, .getfield 392), (484, .iload_n 1), (485, .if_icmp .ne 11), (488, .aload_n 0), (489, .iconst 1), (490, .putfield 386), (493, .goto 272), (496, .aload_n 0), (497, .dup), (498, .getfield 392), (501, .iconst 1), (502, .iadd), (503, .putfield 392), (506, .aload_n 0), (507, .getfield 87), (510, .iconst 2), (511, .aload_n 0), (512, .getfield 395), (515, .imul), (516, .iload_n 2), (517, .iastore), (518, .aload_n 0), (519, .getfield 87), (522, .iconst 2), (523, .aload_n 0), (524, .getfield 395), (527, .imul), (528, .iconst 1), (529, .iadd), (530, .iload 4), (532, .iastore), (533, .aload_n 0), (534, .dup), (535, .getfield 395), (538, .iconst 1), (539, .iadd), (540, .putfield 395), (543, .iload_n 3), (544, .aload_n 0), (545, .getfield 57), (548, .iload 5), (550, .iaload), (551, .isub), (552, .istore 4), (554, .aload_n 0), (555, .getfield 57), (558, .iload 5), (560, .iaload), (561, .istore 9), (563, .iload 9), (565, .aload_n 0), (566, .getfield 60), (569, .iload 5), (571, .iaload), (572, .if_icmp .ge 20), (575, .aload_n 0), (576, .getfield 84), (579, .iload 4), (581, .iload 9), (583, .iadd), (584, .iconst 0), (585, .iastore), (586, .iinc 9 1), (589, .goto (-26)), (592, .iload 4), (594, .aload_n 0), (595, .getfield 60), (598, .iload 5), (600, .iaload), (601, .iadd), (602, .istore_n 3), (603, .aload_n 0), (604, .getfield 54), (607, .iload 5), (609, .iaload), (610, .istore_n 2), (611, .goto 154), (614, .aload_n 0), (615, .getfield 84), (618, .iload 4), (620, .aload_n 0), (621, .getfield 84), (624, .iload_n 3), (625, .iconst 1), (626, .isub), (627, .iaload), (628, .iastore), (629, .iload 4), (631, .iconst 1), (632, .iadd), (633, .istore_n 3), (634, .aload_n 0), (635, .dup), (636, .getfield 395), (639, .iconst 1), (640, .isub), (641, .putfield 395), (644, .aload_n 0), (645, .getfield 87), (648, .iconst 2), (649, .aload_n 0), (650, .getfield 395), (653, .imul), (654, .iaload), (655, .istore_n 2), (656, .aload_n 0), (657, .getfield 87), (660, .iconst 2), (661, .aload_n 0), (662, .getfield 395), (665, .imul), (666, .iconst 1), (667, .iadd), (668, .iaload), (669, .istore 4), (671, .goto 94), (674, .aload_n 0), (675, .getfield 392), (678, .iload_n 1), (679, .if_icmp .ne 11), (682, .aload_n 0), (683, .iconst 1), (684, .putfield 386), (687, .goto 78), (690, .aload_n 0), (691, .dup), (692, .getfield 392), (695, .iconst 1), (696, .iadd), (697, .putfield 392), (700, .goto 65), (703, .iinc 3 (-1)), (706, .aload_n 0), (707, .iconst 2), (708, .aload_n 0), (709, .getfield 72), (712, .iload_n 2), (713, .iconst 1), (714, .isub), (715, .iaload), (716, .imul), (717, .aload_n 0), (718, .getfield 84), (721, .iload_n 3), (722, .iaload), (723, .ifCond .eq 7), (726, .iconst 1), (727, .goto 4), (730, .iconst 0), (731, .iadd), (732, .invokevirtual 389), (735, .aload_n 0), (736, .getfield 84), (739, .iload_n 3), (740, .iaload), (741, .ifCond .ne 8), (744, .iload 5), (746, .goto 4), (749, .iload_n 2), (750, .istore_n 2), (751, .goto 14), (754, .iload 5), (756, .istore_n 2), (757, .goto 8), (760, .aload_n 0), (761, .iconst 0), (762, .putfield 386), (765, .goto (-738)), (768, .return_)]
/-- QuietCheckerModel.run(I)I -/
def pm_l55 : List (Nat × Instr) := [(0, .aload_n 0), (1, .aload_n 0), (2, .getfield 372), (5, .ifCond .ne 7), (8, .iconst 1), (9, .goto 4), (12, .iconst 0), (13, .iload_n 1), (14, .ifCond .lt 10), (17, .iload_n 1), (18, .sipush 20000), (21, .if_icmp .le 7), (24, .iconst 1), (25, .goto 4), (28, .iconst 0), (29, .invokevirtual 379), (32, .ifCond .eq 5), (35, .iconst 0), (36, .ireturn), (37, .iconst 0), (38, .istore_n 2), (39, .iload_n 2), (40, .aload_n 0), (41, .getfield 243), (44, .if_icmp .ge 21), (47, .aload_n 0), (48, .getfield 78), (51, .iload_n 2), (52, .aload_n 0), (53, .getfield 75), (56, .iload_n 2), (57, .iaload), (58, .iastore), (59, .iinc 2 1), (62, .goto (-23)), (65, .aload_n 0), (66, .iload_n 1), (67, .putfield 405), (70, .iconst 0), (71, .istore_n 2), (72, .iload_n 2), (73, .aload_n 0), (74, .getfield 243), (77, .if_icmp .ge 21), (80, .aload_n 0), (81, .getfield 90), (84, .iload_n 2), (85, .aload_n 0), (86, .getfield 75), (89, .iload_n 2), (90, .iaload), (91, .iastore), (92, .iinc 2 1), (95, .goto (-23)), (98, .aload_n 0), (99, .iload_n 1), (100, .invokevirtual 408), (103, .aload_n 0), (104, .iconst 1), (105, .putfield 366), (108, .aload_n 0), (109, .getfield 386), (112, .ireturn)]
/-- QuietCheckerModel.disguise(I)V -/
def pm_l56 : List (Nat × Instr) := [(0, .iconst 0), (1, .istore_n 2), (2, .iconst 0), (3, .istore_n 3), (4, .iload_n 3), (5, .aload_n 0), (6, .getfield 228), (9, .if_icmp .ge 125), (12, .aload_n 0), (13, .getfield 23), (16, .iload_n 3), (17, .iaload), (18, .ifCond .ne 7), (21, .iconst 1), (22, .goto 9), (25, .aload_n 0), (26, .getfield 23), (29, .iload_n 3), (30, .iaload), (31, .istore 4), (33, .iconst 0), (34, .istore 5), (36, .iload 5), (38, .iload 4), (40, .if_icmp .ge 88), (43, .aload_n 0), (44, .getfield 78), (47, .aload_n 0), (48, .getfield 29), (51, .iload_n 3), (52, .iaload), (53, .iload 5), (55, .iadd), (56, .aload_n 0), (57, .getfield 32), (60, .iload_n 3), (61, .baload), (62, .ifCond .eq 28), (65, .aload_n 0), (66, .getfield 90), (69, .aload_n 0), (70, .getfield 29), (73, .iload_n 3), (74, .iaload), (75, .iload 5), (77, .iadd), (78, .iaload), (79, .iload_n 1), (80, .iconst 2), (81, .iload_n 2), (82, .imul), (83, .iconst 1), (84, .iadd), (85, .imul), (86, .ixor), (87, .goto 17), (90, .aload_n 0), (91, .getfield 90), (94, .aload_n 0), (95, .getfield 29), (98, .iload_n 3), (99, .iaload), (100, .iload 5), (102, .iadd), (103, .iaload), (104, .iastore), (105, .aload_n 0), (106, .getfield 32), (109, .iload_n 3), (110, .baload), (111, .ifCond .eq 9), (114, .iload_n 2), (115, .iconst 1), (116, .iadd), (117, .goto 4), (120, .iload_n 2), (121, .istore_n 2), (122, .iinc 5 1), (125, .goto (-89)), (128, .iinc 3 1), (131, .goto (-127)), (134, .return_)]
/-- QuietCheckerModel.twin(I)I -/
def pm_l57 : List (Nat × Instr) := [(0, .aload_n 0), (1, .aload_n 0), (2, .getfield 366), (5, .ifCond .ne 7), (8, .iconst 1), (9, .goto 4), (12, .iconst 0), (13, .iconst 0), (14, .invokevirtual 379), (17, .ifCond .eq 5), (20, .iconst 0), (21, .ireturn), (22, .aload_n 0), (23, .getfield 383), (26, .istore_n 2), (27, .aload_n 0), (28, .getfield 392), (31, .istore_n 3), (32, .aload_n 0), (33, .getfield 386), (36, .istore 4), (38, .iconst 0), (39, .istore 5), (41, .iload 5), (43, .iload_n 2), (44, .if_icmp .ge 23), (47, .aload_n 0), (48, .getfield 96), (51, .iload 5), (53, .aload_n 0), (54, .getfield 81), (57, .iload 5), (59, .iaload), (60, .iastore), (61, .iinc 5 1), (64, .goto (-23)), (67, .iconst 0), (68, .istore 5), (70, .iload 5), (72, .aload_n 0), (73, .getfield 243), (76, .if_icmp .ge 23), (79, .aload_n 0), (80, .getfield 93), (83, .iload 5), (85, .aload_n 0), (86, .getfield 78), (89, .iload 5), (91, .iaload), (92, .iastore), (93, .iinc 5 1), (96, .goto (-26)), (99, .aload_n 0), (100, .iload_n 1), (101, .invokevirtual 411), (104, .aload_n 0), (105, .aload_n 0), (106, .getfield 405), (109, .invokevirtual 408), (112, .iconst 0), (113, .istore 5), (115, .iload 5), (117, .iload_n 2), (118, .if_icmp .ge 35), (121, .iload 5), (123, .aload_n 0), (124, .getfield 383), (127, .if_icmp .ge 26), (130, .aload_n 0), (131, .getfield 81), (134, .iload 5), (136, .iaload), (137, .aload_n 0), (138, .getfield 96), (141, .iload 5), (143, .iaload), (144, .if_icmp .ne 9), (147, .iinc 5 1), (150, .goto (-35)), (153, .iload 5), (155, .iload_n 2), (156, .if_icmp .lt 12), (159, .iload 5), (161, .aload_n 0), (162, .getfield 383), (165, .if_icmp .ge 8), (168, .iload 5), (170, .goto 26), (173, .aload_n 0), (174, .getfield 386), (177, .iload 4), (179, .if_icmp .ne 11), (182, .aload_n 0), (183, .getfield 392), (186, .iload_n 3), (187, .if_icmp .eq 8), (190, .bipush (-2)), (192, .goto 4), (195, .iconst (-1)), (196, .istore 6), (198, .iconst 0), (199, .istore 7), (201, .iload 7), (203, .iload_n 2), (204, .if_icmp .ge 23), (207, .aload_n 0), (208, .getfield 81), (211, .iload 7), (213, .aload_n 0), (214, .getfield 96), (217, .iload 7), (219, .iaload), (220, .iastore), (221, .iinc 7 1), (224, .goto (-23)), (227, .aload_n 0), (228, .iload_n 2), (229, .putfield 383), (232, .aload_n 0), (233, .iload_n 3), (234, .putfield 392), (237, .aload_n 0), (238, .iload 4), (240, .putfield 386), (243, .iconst 0), (244, .istore 7), (246, .iload 7), (248, .aload_n 0), (249, .getfield 243), (252, .if_icmp .ge 23), (255, .aload_n 0), (256, .getfield 78), (259, .iload 7), (261, .aload_n 0), (262, .getfield 93), (265, .iload 7), (267, .iaload), (268, .iastore), (269, .iinc 7 1), (272, .goto (-26)), (275, .iload 6), (277, .ireturn)]
/-- QuietCheckerModel.value(II)I -/
def pm_l58 : List (Nat × Instr) := [(0, .aload_n 0), (1, .aload_n 0), (2, .getfield 366), (5, .ifCond .ne 7), (8, .iconst 1), (9, .goto 4), (12, .iconst 0), (13, .aload_n 0), (14, .getfield 366), (17, .ifCond .eq 16), (20, .aload_n 0), (21, .iload_n 1), (22, .iload_n 2), (23, .invokevirtual 375), (26, .ifCond .ge 7), (29, .iconst 1), (30, .goto 4), (33, .iconst 0), (34, .invokevirtual 379), (37, .ifCond .eq 5), (40, .iconst 0), (41, .ireturn), (42, .aload_n 0), (43, .getfield 78), (46, .aload_n 0), (47, .iload_n 1), (48, .iload_n 2), (49, .invokevirtual 375), (52, .iaload), (53, .ireturn)]
/-- QuietCheckerModel.note(I)I -/
def pm_l59 : List (Nat × Instr) := [(0, .aload_n 0), (1, .aload_n 0), (2, .getfield 366), (5, .ifCond .ne 7), (8, .iconst 1), (9, .goto 4), (12, .iconst 0), (13, .aload_n 0), (14, .getfield 366), (17, .ifCond .eq 19), (20, .iload_n 1), (21, .ifCond .lt 11), (24, .iload_n 1), (25, .aload_n 0), (26, .getfield 383), (29, .if_icmp .lt 7), (32, .iconst 1), (33, .goto 4), (36, .iconst 0), (37, .invokevirtual 379), (40, .ifCond .eq 5), (43, .iconst 0), (44, .ireturn), (45, .aload_n 0), (46, .getfield 81), (49, .iload_n 1), (50, .iaload), (51, .ireturn)]
/-- QuietCheckerModel.letter(IZI)C -/
def pm_l60 : List (Nat × Instr) := [(0, .iload_n 2), (1, .ifCond .eq 10), (4, .aload_n 0), (5, .getfield 328), (8, .goto 7), (11, .aload_n 0), (12, .getfield 228), (15, .istore 4), (17, .iload_n 1), (18, .ifCond .lt 13), (21, .iload_n 1), (22, .iload 4), (24, .if_icmp .ge 7), (27, .iconst 1), (28, .goto 4), (31, .iconst 0), (32, .istore 5), (34, .iload 5), (36, .ifCond .eq 34), (39, .iload_n 3), (40, .ifCond .lt 30), (43, .iload_n 3), (44, .iload_n 2), (45, .ifCond .eq 12), (48, .aload_n 0), (49, .getfield 51), (52, .iload_n 1), (53, .iaload), (54, .goto 9), (57, .aload_n 0), (58, .getfield 20), (61, .iload_n 1), (62, .iaload), (63, .if_icmp .ge 7), (66, .iconst 1), (67, .goto 4), (70, .iconst 0), (71, .istore 5), (73, .aload_n 0), (74, .iload 5), (76, .ifCond .ne 7), (79, .iconst 1), (80, .goto 4), (83, .iconst 0), (84, .iconst 0), (85, .invokevirtual 379), (88, .ifCond .eq 5), (91, .iconst 0), (92, .ireturn), (93, .aload_n 0), (94, .getfield 13), (97, .iload_n 2), (98, .ifCond .eq 12), (101, .aload_n 0), (102, .getfield 48), (105, .iload_n 1), (106, .iaload), (107, .goto 9), (110, .aload_n 0), (111, .getfield 16), (114, .iload_n 1), (115, .iaload), (116, .iload_n 3), (117, .iadd), (118, .caload), (119, .ireturn)]
/-- QuietCheckerModel.count(I)I -/
def pm_l61 : List (Nat × Instr) := [(0, .aload_n 0), (1, .iconst 0), (2, .putfield 114), (5, .iload_n 1), (6, .tableswitch 157 0 10 #[58, 63, 68, 73, 78, 83, 91, 104, 120, 136, 152]), (64, .aload_n 0), (65, .getfield 228), (68, .ireturn), (69, .aload_n 0), (70, .getfield 328), (73, .ireturn), (74, .aload_n 0), (75, .getfield 246), (78, .ireturn), (79, .aload_n 0), (80, .getfield 240), (83, .ireturn), (84, .aload_n 0), (85, .getfield 343), (88, .ireturn), (89, .aload_n 0), (90, .getfield 193), (93, .bipush 15), (95, .iand), (96, .ireturn), (97, .aload_n 0), (98, .getfield 372), (101, .ifCond .eq 7), (104, .iconst 1), (105, .goto 4), (108, .iconst 0), (109, .ireturn), (110, .aload_n 0), (111, .getfield 366), (114, .ifCond .eq 10), (117, .aload_n 0), (118, .getfield 383), (121, .goto 4), (124, .iconst (-1)), (125, .ireturn), (126, .aload_n 0), (127, .getfield 366), (130, .ifCond .eq 10), (133, .aload_n 0), (134, .getfield 392), (137, .goto 4), (140, .iconst (-1)), (141, .ireturn), (142, .aload_n 0), (143, .getfield 366), (146, .ifCond .eq 10), (149, .aload_n 0), (150, .getfield 386), (153, .goto 4), (156, .iconst (-1)), (157, .ireturn), (158, .aload_n 0), (159, .getfield 118), (162, .ireturn), (163, .iconst (-1)), (164, .ireturn)]
/-- QuietChecker$Names.clear()V -/
def pm_l62 : List (Nat × Instr) := [(0, .aload_n 0), (1, .iconst 0), (2, .putfield 26), (5, .return_)]
/-- QuietChecker$Names.isFull()Z -/
def pm_l63 : List (Nat × Instr) := [(0, .aload_n 0), (1, .getfield 26), (4, .aload_n 0), (5, .getfield 15), (8, .arraylength), (9, .if_icmp .lt 7), (12, .iconst 1), (13, .goto 4), (16, .iconst 0), (17, .ireturn)]
/-- QuietChecker$Names.has(I)Z -/
def pm_l64 : List (Nat × Instr) := [(0, .iload_n 1), (1, .ifCond .lt 15), (4, .iload_n 1), (5, .aload_n 0), (6, .getfield 26), (9, .if_icmp .ge 7), (12, .iconst 1), (13, .goto 4), (16, .iconst 0), (17, .ireturn)]
/-- QuietChecker$Names.add(IIZ)V -/
def pm_l65 : List (Nat × Instr) := [(0, .aload_n 0), (1, .invokevirtual 30), (4, .ifCond .eq 4), (7, .return_), (8, .aload_n 0), (9, .getfield 15), (12, .aload_n 0), (13, .getfield 26), (16, .iload_n 1), (17, .iastore), (18, .aload_n 0), (19, .getfield 19), (22, .aload_n 0), (23, .getfield 26), (26, .iload_n 2), (27, .iastore), (28, .aload_n 0), (29, .getfield 22), (32, .aload_n 0), (33, .getfield 26), (36, .iload_n 3), (37, .bastore), (38, .aload_n 0), (39, .dup), (40, .getfield 26), (43, .iconst 1), (44, .iadd), (45, .putfield 26), (48, .return_)]
/-- QuietChecker$Names.find(II)I -/
def pm_l66 : List (Nat × Instr) := [(0, .iconst 0), (1, .istore_n 3), (2, .iload_n 3), (3, .aload_n 0), (4, .getfield 26), (7, .if_icmp .ge 36), (10, .aload_n 0), (11, .getfield 19), (14, .iload_n 3), (15, .iaload), (16, .iload_n 2), (17, .if_icmp .ne 20), (20, .aload_n 0), (21, .aload_n 0), (22, .getfield 15), (25, .iload_n 3), (26, .iaload), (27, .iload_n 1), (28, .iload_n 2), (29, .invokevirtual 34), (32, .ifCond .eq 5), (35, .iload_n 3), (36, .ireturn), (37, .iinc 3 1), (40, .goto (-38)), (43, .iconst (-1)), (44, .ireturn)]
/-- QuietChecker$Names.sameLetters(III)Z -/
def pm_l67 : List (Nat × Instr) := [(0, .iload_n 1), (1, .iload_n 3), (2, .iadd), (3, .aload_n 0), (4, .getfield 9), (7, .arraylength), (8, .if_icmp .gt 14), (11, .iload_n 2), (12, .iload_n 3), (13, .iadd), (14, .aload_n 0), (15, .getfield 9), (18, .arraylength), (19, .if_icmp .le 5), (22, .iconst 0), (23, .ireturn), (24, .iconst 0), (25, .istore 4), (27, .iload 4), (29, .iload_n 3), (30, .if_icmp .ge 32), (33, .aload_n 0), (34, .getfield 9), (37, .iload_n 1), (38, .iload 4), (40, .iadd), (41, .caload), (42, .aload_n 0), (43, .getfield 9), (46, .iload_n 2), (47, .iload 4), (49, .iadd), (50, .caload), (51, .if_icmp .eq 5), (54, .iconst 0), (55, .ireturn), (56, .iinc 4 1), (59, .goto (-32)), (62, .iconst 1), (63, .ireturn)]
/-- QuietChecker$Names.isSecret(I)Z -/
def pm_l68 : List (Nat × Instr) := [(0, .aload_n 0), (1, .iload_n 1), (2, .invokevirtual 38), (5, .ifCond .eq 16), (8, .aload_n 0), (9, .getfield 22), (12, .iload_n 1), (13, .baload), (14, .ifCond .eq 7), (17, .iconst 1), (18, .goto 4), (21, .iconst 0), (22, .ireturn)]
/-- QuietChecker$Names.secretOnes()I -/
def pm_l69 : List (Nat × Instr) := [(0, .iconst 0), (1, .istore_n 1), (2, .iconst 0), (3, .istore_n 2), (4, .iload_n 2), (5, .aload_n 0), (6, .getfield 26), (9, .if_icmp .ge 21), (12, .aload_n 0), (13, .getfield 22), (16, .iload_n 2), (17, .baload), (18, .ifCond .eq 6), (21, .iinc 1 1), (24, .iinc 2 1), (27, .goto (-23)), (30, .iload_n 1), (31, .ireturn)]
/-- QuietChecker$Names.hasCharacter(II)Z -/
def pm_l70 : List (Nat × Instr) := [(0, .aload_n 0), (1, .iload_n 1), (2, .invokevirtual 38), (5, .ifCond .eq 21), (8, .iload_n 2), (9, .ifCond .lt 17), (12, .iload_n 2), (13, .aload_n 0), (14, .getfield 19), (17, .iload_n 1), (18, .iaload), (19, .if_icmp .ge 7), (22, .iconst 1), (23, .goto 4), (26, .iconst 0), (27, .ireturn)]
/-- QuietChecker$Names.character(II)C -/
def pm_l71 : List (Nat × Instr) := [(0, .aload_n 0), (1, .iload_n 1), (2, .iload_n 2), (3, .invokevirtual 42), (6, .ifCond .eq 19), (9, .aload_n 0), (10, .getfield 9), (13, .aload_n 0), (14, .getfield 15), (17, .iload_n 1), (18, .iaload), (19, .iload_n 2), (20, .iadd), (21, .caload), (22, .goto 4), (25, .iconst 0), (26, .ireturn)]
/-- QuietChecker$Program.cell(II)I -/
def pm_l72 : List (Nat × Instr) := [(0, .iload_n 0), (1, .bipush 64), (3, .imul), (4, .iload_n 1), (5, .iadd), (6, .ireturn)]
/-- QuietChecker$Program.local(II)I -/
def pm_l73 : List (Nat × Instr) := [(0, .sipush 2560), (3, .iload_n 0), (4, .bipush 12), (6, .imul), (7, .iadd), (8, .iload_n 1), (9, .iadd), (10, .ireturn)]
/-- QuietChecker$Program.take([CI)V -/
def pm_l74 : List (Nat × Instr) := [(0, .aload_n 0), (1, .iload_n 2), (2, .aload_n 1), (3, .arraylength), (4, .aload_n 0), (5, .getfield 11), (8, .arraylength), (9, .invokestatic 50), (12, .invokestatic 50), (15, .putfield 56), (18, .aload_n 1), (19, .iconst 0), (20, .aload_n 0), (21, .getfield 11), (24, .iconst 0), (25, .aload_n 0), (26, .getfield 56), (29, .invokestatic 60), (32, .return_)]
/-- QuietChecker$Program.clear()V -/
def pm_l75 : List (Nat × Instr) := [(0, .aload_n 0), (1, .getfield 20), (4, .invokevirtual 66), (7, .aload_n 0), (8, .getfield 31), (11, .invokevirtual 66), (14, .aload_n 0), (15, .iconst 0), (16, .putfield 69), (19, .aload_n 0), (20, .iconst 0), (21, .putfield 72), (24, .aload_n 0), (25, .iconst 0), (26, .putfield 75), (29, .aload_n 0), (30, .iconst 0), (31, .putfield 78), (34, .aload_n 0), (35, .iconst 0), (36, .putfield 81), (39, .return_)]
/-- QuietChecker$Program.addTop(IIZI)V -/
def pm_l76 : List (Nat × Instr) := [(0, .aload_n 0), (1, .getfield 20), (4, .invokevirtual 85), (7, .ifCond .eq 4), (10, .return_), (11, .aload_n 0), (12, .getfield 24), (15, .aload_n 0), (16, .getfield 20), (19, .getfield 89), (22, .iload 4), (24, .iastore), (25, .aload_n 0), (26, .getfield 28), (29, .aload_n 0), (30, .getfield 20), (33, .getfield 89), (36, .aload_n 0), (37, .getfield 69), (40, .iastore), (41, .iload 4), (43, .ifCond .le 13), (46, .aload_n 0), (47, .dup), (48, .getfield 69), (51, .iconst 1), (52, .iadd), (53, .putfield 69), (56, .aload_n 0), (57, .getfield 20), (60, .iload_n 1), (61, .iload_n 2), (62, .iload_n 3), (63, .invokevirtual 92), (66, .return_)]
/-- QuietChecker$Program.beginFunction(LQuietChecker$Names;)V -/
def pm_l77 : List (Nat × Instr) := [(0, .aload_n 0), (1, .getfield 31), (4, .invokevirtual 85), (7, .ifCond .eq 4), (10, .return_), (11, .aload_n 0), (12, .getfield 34), (15, .aload_n 0), (16, .getfield 31), (19, .getfield 89), (22, .aload_n 0), (23, .getfield 72), (26, .iastore), (27, .aload_n 0), (28, .getfield 37), (31, .aload_n 0), (32, .getfield 31), (35, .getfield 89), (38, .aload_n 1), (39, .getfield 89), (42, .iastore), (43, .iconst 0), (44, .istore_n 2), (45, .iload_n 2), (46, .bipush 12), (48, .if_icmp .ge 31), (51, .aload_n 0), (52, .getfield 40), (55, .aload_n 0), (56, .getfield 31), (59, .getfield 89), (62, .bipush 12), (64, .imul), (65, .iload_n 2), (66, .iadd), (67, .aload_n 1), (68, .iload_n 2), (69, .invokevirtual 96), (72, .bastore), (73, .iinc 2 1), (76, .goto (-31)), (79, .return_)]
/-- QuietChecker$Program.isArray(I)Z -/
def pm_l78 : List (Nat × Instr) := [(0, .aload_n 0), (1, .getfield 20), (4, .iload_n 1), (5, .invokevirtual 100), (8, .ifCond .eq 16), (11, .aload_n 0), (12, .getfield 24), (15, .iload_n 1), (16, .iaload), (17, .ifCond .le 7), (20, .iconst 1), (21, .goto 4), (24, .iconst 0), (25, .ireturn)]
/-- QuietChecker$Program.hasCell(II)Z -/
def pm_l79 : List (Nat × Instr) := [(0, .iload_n 2), (1, .ifCond .lt 16), (4, .iload_n 2), (5, .aload_n 0), (6, .iload_n 1), (7, .invokevirtual 103), (10, .if_icmp .ge 7), (13, .iconst 1), (14, .goto 4), (17, .iconst 0), (18, .ireturn)]
/-- QuietChecker$Program.cellsOf(I)I -/
def pm_l80 : List (Nat × Instr) := [(0, .aload_n 0), (1, .getfield 20), (4, .iload_n 1), (5, .invokevirtual 100), (8, .ifCond .eq 16), (11, .iconst 1), (12, .aload_n 0), (13, .getfield 24), (16, .iload_n 1), (17, .iaload), (18, .invokestatic 107), (21, .goto 4), (24, .iconst 0), (25, .ireturn)]
/-- QuietChecker$Program.parametersOf(I)I -/
def pm_l81 : List (Nat × Instr) := [(0, .aload_n 0), (1, .getfield 31), (4, .iload_n 1), (5, .invokevirtual 100), (8, .ifCond .eq 12), (11, .aload_n 0), (12, .getfield 37), (15, .iload_n 1), (16, .iaload), (17, .goto 4), (20, .iconst 0), (21, .ireturn)]
/-- QuietChecker$Program.takesSecret(II)Z -/
def pm_l82 : List (Nat × Instr) := [(0, .iload_n 2), (1, .ifCond .lt 30), (4, .iload_n 2), (5, .aload_n 0), (6, .iload_n 1), (7, .invokevirtual 110), (10, .if_icmp .ge 21), (13, .aload_n 0), (14, .getfield 40), (17, .iload_n 1), (18, .bipush 12), (20, .imul), (21, .iload_n 2), (22, .iadd), (23, .baload), (24, .ifCond .eq 7), (27, .iconst 1), (28, .goto 4), (31, .iconst 0), (32, .ireturn)]
/-- QuietChecker$Program.emit(II)I -/
def pm_l83 : List (Nat × Instr) := [(0, .aload_n 0), (1, .getfield 72), (4, .aload_n 0), (5, .getfield 44), (8, .arraylength), (9, .if_icmp .lt 5), (12, .iconst (-1)), (13, .ireturn), (14, .aload_n 0), (15, .getfield 44), (18, .aload_n 0), (19, .getfield 72), (22, .iload_n 1), (23, .iastore), (24, .aload_n 0), (25, .getfield 47), (28, .aload_n 0), (29, .getfield 72), (32, .iload_n 2), (33, .iastore), (34, .aload_n 0), (35, .dup), (36, .getfield 72), (39, .iconst 1), (40, .iadd), (41, .putfield 72), (44, .aload_n 0), (45, .getfield 72), (48, .iconst 1), (49, .isub), (50, .ireturn)]
/-- QuietChecker$Program.aim(I)V -/
def pm_l84 : List (Nat × Instr) := [(0, .iload_n 1), (1, .ifCond .lt 21), (4, .iload_n 1), (5, .aload_n 0), (6, .getfield 72), (9, .if_icmp .ge 13), (12, .aload_n 0), (13, .getfield 47), (16, .iload_n 1), (17, .aload_n 0), (18, .getfield 72), (21, .iastore), (22, .return_)]
/-- QuietChecker$Kind.startsStatement()Z -/
def pm_l85 : List (Nat × Instr) := [(0, .aload_n 0), (1, .getstatic 3), (4, .if_acmp .eq 24), (7, .aload_n 0), (8, .getstatic 28), (11, .if_acmp .eq 17), (14, .aload_n 0), (15, .getstatic 34), (18, .if_acmp .eq 10), (21, .aload_n 0), (22, .getstatic 37), (25, .if_acmp .ne 7), (28, .iconst 1), (29, .goto 4), (32, .iconst 0), (33, .ireturn)]
/-- QuietChecker$Kind.tellsName()Z -/
def pm_l86 : List (Nat × Instr) := [(0, .aload_n 0), (1, .getstatic 22), (4, .if_acmp .eq 10), (7, .aload_n 0), (8, .invokevirtual 153), (11, .ifCond .eq 7), (14, .iconst 1), (15, .goto 4), (18, .iconst 0), (19, .ireturn)]
/-- QuietChecker$Kind.isLabel()Z -/
def pm_l87 : List (Nat × Instr) := [(0, .aload_n 0), (1, .getstatic 16), (4, .if_acmp .eq 10), (7, .aload_n 0), (8, .getstatic 19), (11, .if_acmp .ne 7), (14, .iconst 1), (15, .goto 4), (18, .iconst 0), (19, .ireturn)]
/-- QuietChecker$Kind.prefixOp()I -/
def pm_l88 : List (Nat × Instr) := [(0, .aload_n 0), (1, .getstatic 70), (4, .if_acmp .ne 6), (7, .bipush 13), (9, .ireturn), (10, .aload_n 0), (11, .getstatic 82), (14, .if_acmp .ne 6), (17, .bipush 14), (19, .ireturn), (20, .aload_n 0), (21, .getstatic 85), (24, .if_acmp .ne 8), (27, .bipush 15), (29, .goto 4), (32, .iconst 0), (33, .ireturn)]
/-- QuietChecker$Tokens.scan(I)V -/
def pm_l89 : List (Nat × Instr) := [(0, .aload_n 0), (1, .iload_n 1), (2, .aload_n 0), (3, .getfield 9), (6, .arraylength), (7, .invokestatic 31), (10, .putfield 37), (13, .aload_n 0), (14, .iconst 0), (15, .putfield 41), (18, .aload_n 0), (19, .iconst 0), (20, .putfield 44), (23, .aload_n 0), (24, .invokevirtual 47), (27, .sipush 3000), (30, .istore_n 2), (31, .iload_n 2), (32, .ifCond .le 58), (35, .aload_n 0), (36, .getfield 44), (39, .aload_n 0), (40, .getfield 37), (43, .if_icmp .ge 47), (46, .aload_n 0), (47, .getfield 44), (50, .istore_n 3), (51, .aload_n 0), (52, .invokevirtual 50), (55, .astore 4), (57, .aload_n 0), (58, .aload 4), (60, .iload_n 3), (61, .invokevirtual 54), (64, .aload 4), (66, .getstatic 58), (69, .if_acmp .ne 11), (72, .aload_n 0), (73, .aload_n 0), (74, .getfield 37), (77, .putfield 44), (80, .aload_n 0), (81, .invokevirtual 47), (84, .iinc 2 (-1)), (87, .goto (-56)), (90, .aload_n 0), (91, .getstatic 62), (94, .aload_n 0), (95, .getfield 37), (98, .invokevirtual 54), (101, .return_)]
/-- QuietChecker$Tokens.add(LQuietChecker$Kind;I)V -/
def pm_l90 : List (Nat × Instr) := [(0, .aload_n 0), (1, .getfield 41), (4, .sipush 3001), (7, .if_icmp .ge 61), (10, .aload_n 0), (11, .getfield 17), (14, .aload_n 0), (15, .getfield 41), (18, .aload_n 1), (19, .aastore), (20, .aload_n 0), (21, .getfield 21), (24, .aload_n 0), (25, .getfield 41), (28, .iload_n 2), (29, .iastore), (30, .aload_n 0), (31, .getfield 25), (34, .aload_n 0), (35, .getfield 41), (38, .aload_n 0), (39, .getfield 44), (42, .iload_n 2), (43, .isub), (44, .iastore), (45, .aload_n 0), (46, .getfield 28), (49, .aload_n 0), (50, .getfield 41), (53, .aload_n 0), (54, .getfield 65), (57, .iastore), (58, .aload_n 0), (59, .dup), (60, .getfield 41), (63, .iconst 1), (64, .iadd), (65, .putfield 41), (68, .return_)]
/-- QuietChecker$Tokens.skipBlanks()V -/
def pm_l91 : List (Nat × Instr) := [(0, .iconst 0), (1, .istore_n 1), (2, .aload_n 0), (3, .getfield 44), (6, .aload_n 0), (7, .getfield 37), (10, .if_icmp .ge 59), (13, .aload_n 0), (14, .getfield 9), (17, .aload_n 0), (18, .getfield 44), (21, .caload), (22, .istore_n 2), (23, .iload_n 2), (24, .bipush 35), (26, .if_icmp .ne 8), (29, .iconst 1), (30, .istore_n 1), (31, .goto 25), (34, .iload_n 2), (35, .bipush 10), (37, .if_icmp .ne 8), (40, .iconst 0), (41, .istore_n 1), (42, .goto 14), (45, .iload_n 2), (46, .bipush 32), (48, .if_icmp .eq 8), (51, .iload_n 1), (52, .ifCond .ne 4), (55, .return_), (56, .aload_n 0), (57, .dup), (58, .getfield 44), (61, .iconst 1), (62, .iadd), (63, .putfield 44), (66, .goto (-64)), (69, .return_)]
/-- QuietChecker$Tokens.scanToken()LQuietChecker$Kind; -/
def pm_l92 : List (Nat × Instr) := [(0, .aload_n 0), (1, .getfield 9), (4, .aload_n 0), (5, .getfield 44), (8, .caload), (9, .invokestatic 68), (12, .ifCond .eq 8), (15, .aload_n 0), (16, .invokevirtual 72), (19, .areturn), (20, .aload_n 0), (21, .getfield 9), (24, .aload_n 0), (25, .getfield 44), (28, .caload), (29, .invokestatic 75), (32, .ifCond .eq 10), (35, .aload_n 0), (36, .invokevirtual 78), (39, .goto 7), (42, .aload_n 0), (43, .invokevirtual 81), (46, .areturn)]
/-- QuietChecker$Tokens.scanNumber()LQuietChecker$Kind; -/
def pm_l93 : List (Nat × Instr) := [(0, .lconst 0), (1, .lstore_n 1), (2, .aload_n 0), (3, .getfield 44), (6, .aload_n 0), (7, .getfield 37), (10, .if_icmp .ge 59), (13, .aload_n 0), (14, .getfield 9), (17, .aload_n 0), (18, .getfield 44), (21, .caload), (22, .invokestatic 68), (25, .ifCond .eq 44), (28, .lload_n 1), (29, .ldc2_w 84), (32, .lcmp), (33, .ifCond .ge 23), (36, .lload_n 1), (37, .ldc2_w 86), (40, .lmul), (41, .aload_n 0), (42, .getfield 9), (45, .aload_n 0), (46, .getfield 44), (49, .caload), (50, .bipush 48), (52, .isub), (53, .i2l), (54, .ladd), (55, .lstore_n 1), (56, .aload_n 0), (57, .dup), (58, .getfield 44), (61, .iconst 1), (62, .iadd), (63, .putfield 44), (66, .goto (-64)), (69, .aload_n 0), (70, .lload_n 1), (71, .l2i), (72, .putfield 65), (75, .aload_n 0), (76, .getfield 44), (79, .aload_n 0), (80, .getfield 37), (83, .if_icmp .ge 22), (86, .aload_n 0), (87, .getfield 9), (90, .aload_n 0), (91, .getfield 44), (94, .caload), (95, .invokestatic 75), (98, .ifCond .eq 7), (101, .iconst 1), (102, .goto 4), (105, .iconst 0), (106, .istore_n 3), (107, .iload_n 3), (108, .ifCond .ne 11), (111, .lload_n 1), (112, .ldc2_w 84), (115, .lcmp), (116, .ifCond .lt 9), (119, .getstatic 58), (122, .goto 6), (125, .getstatic 88), (128, .areturn)]
/-- QuietChecker$Tokens.scanWord()LQuietChecker$Kind; -/
def pm_l94 : List (Nat × Instr) := [(0, .aload_n 0), (1, .getfield 44), (4, .istore_n 1), (5, .aload_n 0), (6, .getfield 44), (9, .aload_n 0), (10, .getfield 37), (13, .if_icmp .ge 31), (16, .aload_n 0), (17, .getfield 9), (20, .aload_n 0), (21, .getfield 44), (24, .caload), (25, .invokestatic 75), (28, .ifCond .eq 16), (31, .aload_n 0), (32, .dup), (33, .getfield 44), (36, .iconst 1), (37, .iadd), (38, .putfield 44), (41, .goto (-36)), (44, .aload_n 0), (45, .getfield 44), (48, .iload_n 1), (49, .isub), (50, .istore_n 2), (51, .getstatic 91), (54, .astore_n 3), (55, .aload_n 3), (56, .arraylength), (57, .istore 4), (59, .iconst 0), (60, .istore 5), (62, .iload 5), (64, .iload 4), (66, .if_icmp .ge 43), (69, .aload_n 3), (70, .iload 5), (72, .aaload), (73, .astore 6), (75, .aload 6), (77, .getfield 94), (80, .invokevirtual 98), (83, .iload_n 2), (84, .if_icmp .ne 19), (87, .aload_n 0), (88, .iload_n 1), (89, .aload 6), (91, .getfield 94), (94, .invokevirtual 103), (97, .ifCond .eq 6), (100, .aload 6), (102, .areturn), (103, .iinc 5 1), (106, .goto (-44)), (109, .iload_n 2), (110, .bipush 15), (112, .if_icmp .le 9), (115, .getstatic 58), (118, .goto 6), (121, .getstatic 107), (124, .areturn)]
/-- QuietChecker$Tokens.scanSign()LQuietChecker$Kind; -/
def pm_l95 : List (Nat × Instr) := [(0, .getstatic 58), (3, .astore_n 1), (4, .getstatic 91), (7, .astore_n 2), (8, .aload_n 2), (9, .arraylength), (10, .istore_n 3), (11, .iconst 0), (12, .istore 4), (14, .iload 4), (16, .iload_n 3), (17, .if_icmp .ge 64), (20, .aload_n 2), (21, .iload 4), (23, .aaload), (24, .astore 5), (26, .aload 5), (28, .getfield 94), (31, .invokevirtual 98), (34, .aload_n 1), (35, .getfield 94), (38, .invokevirtual 98), (41, .if_icmp .le 7), (44, .iconst 1), (45, .goto 4), (48, .iconst 0), (49, .istore 6), (51, .iload 6), (53, .ifCond .eq 22), (56, .aload_n 0), (57, .aload_n 0), (58, .getfield 44), (61, .aload 5), (63, .getfield 94), (66, .invokevirtual 103), (69, .ifCond .eq 6), (72, .aload 5), (74, .astore_n 1), (75, .iinc 4 1), (78, .goto (-64)), (81, .aload_n 0), (82, .dup), (83, .getfield 44), (86, .aload_n 1), (87, .getfield 94), (90, .invokevirtual 98), (93, .iadd), (94, .putfield 44), (97, .aload_n 1), (98, .areturn)]
/-- QuietChecker$Tokens.isAt(ILjava/lang/String;)Z -/
def pm_l96 : List (Nat × Instr) := [(0, .iload_n 1), (1, .aload_n 2), (2, .invokevirtual 98), (5, .iadd), (6, .aload_n 0), (7, .getfield 37), (10, .if_icmp .le 5), (13, .iconst 0), (14, .ireturn), (15, .iconst 0), (16, .istore_n 3), (17, .iload_n 3), (18, .aload_n 2), (19, .invokevirtual 98), (22, .if_icmp .ge 27), (25, .aload_n 0), (26, .getfield 9), (29, .iload_n 1), (30, .iload_n 3), (31, .iadd), (32, .caload), (33, .aload_n 2), (34, .iload_n 3), (35, .invokevirtual 110), (38, .if_icmp .eq 5), (41, .iconst 0), (42, .ireturn), (43, .iinc 3 1), (46, .goto (-29)), (49, .iconst 1), (50, .ireturn)]
/-- QuietChecker$Tokens.isDigit(C)Z -/
def pm_l97 : List (Nat × Instr) := [(0, .iload_n 0), (1, .bipush 48), (3, .if_icmp .lt 13), (6, .iload_n 0), (7, .bipush 57), (9, .if_icmp .gt 7), (12, .iconst 1), (13, .goto 4), (16, .iconst 0), (17, .ireturn)]
/-- QuietChecker$Tokens.isWordPart(C)Z -/
def pm_l98 : List (Nat × Instr) := [(0, .iload_n 0), (1, .bipush 97), (3, .if_icmp .lt 9), (6, .iload_n 0), (7, .bipush 122), (9, .if_icmp .le 28), (12, .iload_n 0), (13, .bipush 65), (15, .if_icmp .lt 9), (18, .iload_n 0), (19, .bipush 90), (21, .if_icmp .le 16), (24, .iload_n 0), (25, .bipush 95), (27, .if_icmp .eq 10), (30, .iload_n 0), (31, .invokestatic 68), (34, .ifCond .eq 7), (37, .iconst 1), (38, .goto 4), (41, .iconst 0), (42, .ireturn)]
/-- QuietChecker$Parser.parse()I -/
def pm_l99 : List (Nat × Instr) := [(0, .aload_n 0), (1, .getfield 11), (4, .invokevirtual 48), (7, .aload_n 0), (8, .iconst 0), (9, .putfield 51), (12, .aload_n 0), (13, .iconst 0), (14, .putfield 55), (17, .aload_n 0), (18, .iconst 0), (19, .putfield 59), (22, .aload_n 0), (23, .getfield 26), (26, .aload_n 0), (27, .getfield 11), (30, .getfield 62), (33, .invokevirtual 65), (36, .aload_n 0), (37, .iconst 0), (38, .invokevirtual 69), (41, .sipush 3000), (44, .istore_n 1), (45, .iload_n 1), (46, .ifCond .le 49), (49, .aload_n 0), (50, .getfield 45), (53, .invokevirtual 72), (56, .ifCond .eq 39), (59, .aload_n 0), (60, .getfield 45), (63, .getstatic 76), (66, .if_acmp .ne 19), (69, .aload_n 0), (70, .invokevirtual 79), (73, .aload_n 0), (74, .iconst 0), (75, .invokevirtual 82), (78, .aload_n 0), (79, .invokevirtual 85), (82, .goto 7), (85, .aload_n 0), (86, .invokevirtual 88), (89, .iinc 1 (-1)), (92, .goto (-47)), (95, .aload_n 0), (96, .getfield 11), (99, .aload_n 0), (100, .getfield 11), (103, .getfield 91), (106, .putfield 94), (109, .aload_n 0), (110, .iconst 0), (111, .invokevirtual 82), (114, .aload_n 0), (115, .getstatic 39), (118, .invokevirtual 97), (121, .aload_n 0), (122, .getfield 55), (125, .ifCond .eq 15), (128, .aload_n 0), (129, .getfield 11), (132, .invokevirtual 48), (135, .aload_n 0), (136, .getfield 55), (139, .ireturn), (140, .aload_n 0), (141, .getfield 11), (144, .iconst 1), (145, .putfield 101), (148, .aload_n 0), (149, .getfield 59), (152, .ireturn)]
/-- QuietChecker$Parser.goTo(I)V -/
def pm_l100 : List (Nat × Instr) := [(0, .iload_n 1), (1, .ifCond .lt 45), (4, .iload_n 1), (5, .aload_n 0), (6, .getfield 26), (9, .getfield 104), (12, .if_icmp .ge 34), (15, .aload_n 0), (16, .iload_n 1), (17, .putfield 107), (20, .aload_n 0), (21, .aload_n 0), (22, .getfield 26), (25, .getfield 110), (28, .iload_n 1), (29, .aaload), (30, .putfield 45), (33, .aload_n 0), (34, .aload_n 0), (35, .getfield 26), (38, .getfield 114), (41, .iload_n 1), (42, .iaload), (43, .putfield 118), (46, .return_)]
/-- QuietChecker$Parser.advance()V -/
def pm_l101 : List (Nat × Instr) := [(0, .aload_n 0), (1, .aload_n 0), (2, .getfield 107), (5, .iconst 1), (6, .iadd), (7, .invokevirtual 69), (10, .return_)]
/-- QuietChecker$Parser.expect(LQuietChecker$Kind;)V -/
def pm_l102 : List (Nat × Instr) := [(0, .aload_n 0), (1, .getfield 45), (4, .aload_n 1), (5, .if_acmp .ne 16), (8, .aload_n 0), (9, .aload_n 0), (10, .getfield 107), (13, .iconst 1), (14, .iadd), (15, .invokevirtual 69), (18, .goto 12), (21, .aload_n 0), (22, .iconst 1), (23, .aload_n 0), (24, .getfield 118), (27, .invokevirtual 121), (30, .return_)]
/-- QuietChecker$Parser.fail(II)V -/
def pm_l103 : List (Nat × Instr) := [(0, .aload_n 0), (1, .getfield 55), (4, .ifCond .ne 33), (7, .aload_n 0), (8, .iload_n 1), (9, .bipush 16), (11, .iload_n 2), (12, .imul), (13, .iadd), (14, .putfield 55), (17, .aload_n 0), (18, .aload_n 0), (19, .getfield 26), (22, .getfield 104), (25, .iconst 1), (26, .isub), (27, .putfield 107), (30, .aload_n 0), (31, .getstatic 39), (34, .putfield 45), (37, .return_)]
/-- QuietChecker$Parser.tellLeak(II)V -/
def pm_l104 : List (Nat × Instr) := [(0, .iload_n 1), (1, .bipush 16), (3, .iload_n 2), (4, .imul), (5, .iadd), (6, .istore_n 3), (7, .aload_n 0), (8, .getfield 59), (11, .ifCond .eq 11), (14, .iload_n 3), (15, .aload_n 0), (16, .getfield 59), (19, .if_icmp .ge 8), (22, .aload_n 0), (23, .iload_n 3), (24, .putfield 59), (27, .return_)]
/-- QuietChecker$Parser.mayOpen(II)Z -/
def pm_l105 : List (Nat × Instr) := [(0, .iload_n 1), (1, .bipush 10), (3, .if_icmp .lt 9), (6, .aload_n 0), (7, .iconst 4), (8, .iload_n 2), (9, .invokevirtual 121), (12, .aload_n 0), (13, .getfield 55), (16, .ifCond .ne 7), (19, .iconst 1), (20, .goto 4), (23, .iconst 0), (24, .ireturn)]
/-- QuietChecker$Parser.label()Z -/
def pm_l106 : List (Nat × Instr) := [(0, .aload_n 0), (1, .getfield 45), (4, .getstatic 125), (7, .if_acmp .ne 7), (10, .iconst 1), (11, .goto 4), (14, .iconst 0), (15, .istore_n 1), (16, .aload_n 0), (17, .iload_n 1), (18, .ifCond .eq 9), (21, .getstatic 125), (24, .goto 6), (27, .getstatic 128), (30, .invokevirtual 97), (33, .iload_n 1), (34, .ireturn)]
/-- QuietChecker$Parser.newName(LQuietChecker$Names;)I -/
def pm_l107 : List (Nat × Instr) := [(0, .aload_n 0), (1, .getfield 107), (4, .istore_n 2), (5, .aload_n 0), (6, .getfield 45), (9, .getstatic 131), (12, .if_acmp .eq 15), (15, .aload_n 0), (16, .iconst 1), (17, .aload_n 0), (18, .getfield 118), (21, .invokevirtual 121), (24, .goto 52), (27, .aload_n 1), (28, .aload_n 0), (29, .getfield 118), (32, .aload_n 0), (33, .getfield 26), (36, .getfield 134), (39, .iload_n 2), (40, .iaload), (41, .invokevirtual 137), (44, .iconst (-1)), (45, .if_icmp .eq 15), (48, .aload_n 0), (49, .iconst 3), (50, .aload_n 0), (51, .getfield 118), (54, .invokevirtual 121), (57, .goto 19), (60, .aload_n 1), (61, .invokevirtual 141), (64, .ifCond .eq 12), (67, .aload_n 0), (68, .iconst 4), (69, .aload_n 0), (70, .getfield 118), (73, .invokevirtual 121), (76, .aload_n 0), (77, .invokevirtual 144), (80, .aload_n 0), (81, .getfield 55), (84, .ifCond .ne 7), (87, .iload_n 2), (88, .goto 4), (91, .iconst (-1)), (92, .ireturn)]
/-- QuietChecker$Parser.declaration()V -/
def pm_l108 : List (Nat × Instr) := [(0, .aload_n 0), (1, .invokevirtual 147), (4, .istore_n 1), (5, .aload_n 0), (6, .aload_n 0), (7, .getfield 11), (10, .getfield 150), (13, .invokevirtual 153), (16, .istore_n 2), (17, .aload_n 0), (18, .getfield 45), (21, .getstatic 157), (24, .if_acmp .ne 10), (27, .aload_n 0), (28, .invokevirtual 160), (31, .goto 4), (34, .iconst 0), (35, .istore_n 3), (36, .aload_n 0), (37, .getstatic 164), (40, .invokevirtual 97), (43, .iload_n 2), (44, .iconst (-1)), (45, .if_icmp .eq 30), (48, .aload_n 0), (49, .getfield 11), (52, .aload_n 0), (53, .getfield 26), (56, .getfield 114), (59, .iload_n 2), (60, .iaload), (61, .aload_n 0), (62, .getfield 26), (65, .getfield 134), (68, .iload_n 2), (69, .iaload), (70, .iload_n 1), (71, .iload_n 3), (72, .invokevirtual 167), (75, .return_)]
/-- QuietChecker$Parser.arraySize()I -/
def pm_l109 : List (Nat × Instr) := [(0, .aload_n 0), (1, .invokevirtual 144), (4, .aload_n 0), (5, .getfield 26), (8, .getfield 171), (11, .aload_n 0), (12, .getfield 107), (15, .iaload), (16, .istore_n 1), (17, .aload_n 0), (18, .getfield 45), (21, .getstatic 174), (24, .if_acmp .ne 14), (27, .iload_n 1), (28, .iconst 1), (29, .if_icmp .lt 9), (32, .iload_n 1), (33, .bipush 64), (35, .if_icmp .le 12), (38, .aload_n 0), (39, .iconst 1), (40, .aload_n 0), (41, .getfield 118), (44, .invokevirtual 121), (47, .aload_n 0), (48, .invokevirtual 144), (51, .aload_n 0), (52, .getstatic 177), (55, .invokevirtual 97), (58, .iload_n 1), (59, .ireturn)]
/-- QuietChecker$Parser.beginFunction()V -/
def pm_l110 : List (Nat × Instr) := [(0, .aload_n 0), (1, .invokevirtual 144), (4, .aload_n 0), (5, .aload_n 0), (6, .invokevirtual 147), (9, .putfield 180), (12, .aload_n 0), (13, .aload_n 0), (14, .aload_n 0), (15, .getfield 11), (18, .getfield 183), (21, .invokevirtual 153), (24, .putfield 186), (27, .aload_n 0), (28, .getfield 35), (31, .invokevirtual 189), (34, .aload_n 0), (35, .invokevirtual 190), (38, .aload_n 0), (39, .getfield 11), (42, .aload_n 0), (43, .getfield 35), (46, .invokevirtual 193), (49, .aload_n 0), (50, .iconst 1), (51, .putfield 51), (54, .aload_n 0), (55, .getstatic 196), (58, .invokevirtual 97), (61, .sipush 3000), (64, .istore_n 1), (65, .iload_n 1), (66, .ifCond .le 30), (69, .aload_n 0), (70, .getfield 45), (73, .invokevirtual 199), (76, .ifCond .eq 20), (79, .aload_n 0), (80, .invokevirtual 202), (83, .aload_n 0), (84, .getstatic 164), (87, .invokevirtual 97), (90, .iinc 1 (-1)), (93, .goto (-28)), (96, .return_)]
/-- QuietChecker$Parser.endFunction()V -/
def pm_l111 : List (Nat × Instr) := [(0, .aload_n 0), (1, .getfield 118), (4, .istore_n 1), (5, .aload_n 0), (6, .getstatic 205), (9, .invokevirtual 97), (12, .aload_n 0), (13, .iconst 0), (14, .invokevirtual 208), (17, .ifCond .eq 17), (20, .aload_n 0), (21, .getfield 180), (24, .ifCond .ne 10), (27, .aload_n 0), (28, .bipush 8), (30, .iload_n 1), (31, .invokevirtual 212), (34, .aload_n 0), (35, .getstatic 164), (38, .invokevirtual 97), (41, .aload_n 0), (42, .getstatic 215), (45, .invokevirtual 97), (48, .aload_n 0), (49, .getfield 11), (52, .bipush 11), (54, .iconst 0), (55, .invokevirtual 220), (58, .pop), (59, .aload_n 0), (60, .iconst 0), (61, .putfield 51), (64, .aload_n 0), (65, .getfield 186), (68, .iconst (-1)), (69, .if_icmp .eq 41), (72, .aload_n 0), (73, .getfield 11), (76, .getfield 183), (79, .aload_n 0), (80, .getfield 26), (83, .getfield 114), (86, .aload_n 0), (87, .getfield 186), (90, .iaload), (91, .aload_n 0), (92, .getfield 26), (95, .getfield 134), (98, .aload_n 0), (99, .getfield 186), (102, .iaload), (103, .aload_n 0), (104, .getfield 180), (107, .invokevirtual 223), (110, .return_)]
/-- QuietChecker$Parser.parameters()V -/
def pm_l112 : List (Nat × Instr) := [(0, .aload_n 0), (1, .getstatic 227), (4, .invokevirtual 97), (7, .aload_n 0), (8, .getfield 45), (11, .getstatic 230), (14, .if_acmp .eq 39), (17, .aload_n 0), (18, .invokevirtual 202), (21, .sipush 3000), (24, .istore_n 1), (25, .iload_n 1), (26, .ifCond .le 27), (29, .aload_n 0), (30, .getfield 45), (33, .getstatic 233), (36, .if_acmp .ne 17), (39, .aload_n 0), (40, .invokevirtual 144), (43, .aload_n 0), (44, .invokevirtual 202), (47, .iinc 1 (-1)), (50, .goto (-25)), (53, .aload_n 0), (54, .getstatic 230), (57, .invokevirtual 97), (60, .return_)]
/-- QuietChecker$Parser.local()V -/
def pm_l113 : List (Nat × Instr) := [(0, .aload_n 0), (1, .invokevirtual 147), (4, .istore_n 1), (5, .aload_n 0), (6, .aload_n 0), (7, .getfield 35), (10, .invokevirtual 153), (13, .istore_n 2), (14, .iload_n 2), (15, .iconst (-1)), (16, .if_icmp .eq 29), (19, .aload_n 0), (20, .getfield 35), (23, .aload_n 0), (24, .getfield 26), (27, .getfield 114), (30, .iload_n 2), (31, .iaload), (32, .aload_n 0), (33, .getfield 26), (36, .getfield 134), (39, .iload_n 2), (40, .iaload), (41, .iload_n 1), (42, .invokevirtual 223), (45, .return_)]
/-- QuietChecker$Parser.statements(I)V -/
def pm_l114 : List (Nat × Instr) := [(0, .sipush 3000), (3, .istore_n 2), (4, .iload_n 2), (5, .ifCond .le 37), (8, .aload_n 0), (9, .getfield 45), (12, .invokevirtual 236), (15, .ifCond .eq 27), (18, .aload_n 0), (19, .getfield 11), (22, .dup), (23, .getfield 239), (26, .iconst 1), (27, .iadd), (28, .putfield 239), (31, .aload_n 0), (32, .iload_n 1), (33, .invokevirtual 241), (36, .iinc 2 (-1)), (39, .goto (-35)), (42, .return_)]
/-- QuietChecker$Parser.statement(I)V -/
def pm_l115 : List (Nat × Instr) := [(0, .aload_n 0), (1, .getfield 45), (4, .getstatic 131), (7, .if_acmp .ne 9), (10, .aload_n 0), (11, .iload_n 1), (12, .invokevirtual 244), (15, .return_), (16, .aload_n 0), (17, .getfield 45), (20, .astore_n 2), (21, .aload_n 0), (22, .getfield 118), (25, .istore_n 3), (26, .aload_n 0), (27, .iload_n 1), (28, .iload_n 3), (29, .invokevirtual 247), (32, .ifCond .ne 4), (35, .return_), (36, .aload_n 0), (37, .getfield 11), (40, .iconst 1), (41, .iconst 0), (42, .invokevirtual 220), (45, .pop), (46, .aload_n 0), (47, .invokevirtual 144), (50, .aload_n 2), (51, .getstatic 251), (54, .if_acmp .ne 14), (57, .aload_n 0), (58, .iload_n 3), (59, .iload_n 1), (60, .iconst 1), (61, .iadd), (62, .invokevirtual 254), (65, .goto 28), (68, .aload_n 2), (69, .getstatic 257), (72, .if_acmp .ne 14), (75, .aload_n 0), (76, .iload_n 3), (77, .iload_n 1), (78, .iconst 1), (79, .iadd), (80, .invokevirtual 260), (83, .goto 10), (86, .aload_n 0), (87, .getstatic 164), (90, .invokevirtual 97), (93, .return_)]
/-- QuietChecker$Parser.assignment(I)V -/
def pm_l116 : List (Nat × Instr) := [(0, .aload_n 0), (1, .getfield 107), (4, .istore_n 2), (5, .aload_n 0), (6, .invokevirtual 144), (9, .aload_n 0), (10, .getfield 45), (13, .getstatic 157), (16, .if_acmp .ne 7), (19, .iconst 1), (20, .goto 4), (23, .iconst 0), (24, .istore_n 3), (25, .aload_n 0), (26, .iload_n 2), (27, .iload_n 3), (28, .invokevirtual 263), (31, .istore 4), (33, .iload 4), (35, .iconst (-1)), (36, .if_icmp .eq 20), (39, .aload_n 0), (40, .iload_n 1), (41, .aload_n 0), (42, .getfield 26), (45, .getfield 114), (48, .iload_n 2), (49, .iaload), (50, .invokevirtual 247), (53, .ifCond .ne 4), (56, .return_), (57, .aload_n 0), (58, .getfield 11), (61, .iconst 1), (62, .iconst 0), (63, .invokevirtual 220), (66, .pop), (67, .iload_n 3), (68, .ifCond .eq 10), (71, .aload_n 0), (72, .iload_n 1), (73, .iconst 1), (74, .iadd), (75, .invokevirtual 267), (78, .aload_n 0), (79, .getfield 118), (82, .istore 5), (84, .aload_n 0), (85, .getstatic 270), (88, .invokevirtual 97), (91, .aload_n 0), (92, .iload_n 1), (93, .iconst 1), (94, .iadd), (95, .invokevirtual 208), (98, .ifCond .eq 20), (101, .aload_n 0), (102, .iload 4), (104, .invokevirtual 273), (107, .ifCond .ne 11), (110, .aload_n 0), (111, .bipush 8), (113, .iload 5), (115, .invokevirtual 212), (118, .aload_n 0), (119, .getstatic 164), (122, .invokevirtual 97), (125, .aload_n 0), (126, .getfield 11), (129, .iload_n 3), (130, .ifCond .eq 8), (133, .bipush 6), (135, .goto 4), (138, .iconst 4), (139, .iload_n 3), (140, .ifCond .eq 8), (143, .iload 4), (145, .goto 9), (148, .aload_n 0), (149, .iload 4), (151, .invokevirtual 276), (154, .invokevirtual 220), (157, .pop), (158, .return_)]
/-- QuietChecker$Parser.branch(II)V -/
def pm_l117 : List (Nat × Instr) := [(0, .aload_n 0), (1, .iload_n 1), (2, .iload_n 2), (3, .invokevirtual 280), (6, .aload_n 0), (7, .getfield 11), (10, .bipush 8), (12, .iconst 0), (13, .invokevirtual 220), (16, .istore_n 3), (17, .aload_n 0), (18, .iload_n 2), (19, .invokevirtual 283), (22, .aload_n 0), (23, .getfield 45), (26, .getstatic 286), (29, .if_acmp .eq 12), (32, .aload_n 0), (33, .getfield 11), (36, .iload_n 3), (37, .invokevirtual 289), (40, .return_), (41, .aload_n 0), (42, .invokevirtual 144), (45, .aload_n 0), (46, .getfield 11), (49, .bipush 9), (51, .iconst 0), (52, .invokevirtual 220), (55, .istore 4), (57, .aload_n 0), (58, .getfield 11), (61, .iload_n 3), (62, .invokevirtual 289), (65, .aload_n 0), (66, .iload_n 2), (67, .invokevirtual 283), (70, .aload_n 0), (71, .getfield 11), (74, .iload 4), (76, .invokevirtual 289), (79, .return_)]
/-- QuietChecker$Parser.repetition(II)V -/
def pm_l118 : List (Nat × Instr) := [(0, .aload_n 0), (1, .getfield 11), (4, .getfield 91), (7, .istore_n 3), (8, .aload_n 0), (9, .iload_n 1), (10, .iload_n 2), (11, .invokevirtual 280), (14, .aload_n 0), (15, .getfield 11), (18, .bipush 8), (20, .iconst 0), (21, .invokevirtual 220), (24, .istore 4), (26, .aload_n 0), (27, .iload_n 2), (28, .invokevirtual 283), (31, .aload_n 0), (32, .getfield 11), (35, .iconst 1), (36, .iconst 0), (37, .invokevirtual 220), (40, .pop), (41, .aload_n 0), (42, .getfield 11), (45, .bipush 9), (47, .iload_n 3), (48, .invokevirtual 220), (51, .pop), (52, .aload_n 0), (53, .getfield 11), (56, .iload 4), (58, .invokevirtual 289), (61, .return_)]
/-- QuietChecker$Parser.condition(II)V -/
def pm_l119 : List (Nat × Instr) := [(0, .aload_n 0), (1, .iload_n 2), (2, .invokevirtual 208), (5, .ifCond .eq 10), (8, .aload_n 0), (9, .bipush 6), (11, .iload_n 1), (12, .invokevirtual 212), (15, .aload_n 0), (16, .getfield 11), (19, .bipush 7), (21, .iload_n 1), (22, .invokevirtual 220), (25, .pop), (26, .return_)]
/-- QuietChecker$Parser.block(I)V -/
def pm_l120 : List (Nat × Instr) := [(0, .aload_n 0), (1, .getstatic 196), (4, .invokevirtual 97), (7, .aload_n 0), (8, .iload_n 1), (9, .invokevirtual 82), (12, .aload_n 0), (13, .getstatic 215), (16, .invokevirtual 97), (19, .return_)]
/-- QuietChecker$Parser.index(I)V -/
def pm_l121 : List (Nat × Instr) := [(0, .aload_n 0), (1, .getfield 118), (4, .istore_n 2), (5, .aload_n 0), (6, .invokevirtual 144), (9, .aload_n 0), (10, .iload_n 1), (11, .invokevirtual 208), (14, .ifCond .eq 10), (17, .aload_n 0), (18, .bipush 7), (20, .iload_n 2), (21, .invokevirtual 212), (24, .aload_n 0), (25, .getstatic 177), (28, .invokevirtual 97), (31, .return_)]
/-- QuietChecker$Parser.expression(I)Z -/
def pm_l122 : List (Nat × Instr) := [(0, .aload_n 0), (1, .iconst 1), (2, .iload_n 1), (3, .invokevirtual 292), (6, .istore_n 2), (7, .aload_n 0), (8, .getfield 45), (11, .getstatic 295), (14, .if_acmp .ne 15), (17, .aload_n 0), (18, .iload_n 1), (19, .aload_n 0), (20, .getfield 118), (23, .invokevirtual 247), (26, .ifCond .ne 5), (29, .iload_n 2), (30, .ireturn), (31, .aload_n 0), (32, .invokevirtual 144), (35, .iload_n 2), (36, .aload_n 0), (37, .iload_n 1), (38, .iconst 1), (39, .iadd), (40, .invokevirtual 208), (43, .ior), (44, .istore_n 2), (45, .aload_n 0), (46, .getstatic 298), (49, .invokevirtual 97), (52, .iload_n 2), (53, .aload_n 0), (54, .iload_n 1), (55, .iconst 1), (56, .iadd), (57, .invokevirtual 208), (60, .ior), (61, .istore_n 2), (62, .aload_n 0), (63, .getfield 11), (66, .bipush 12), (68, .iconst 0), (69, .invokevirtual 220), (72, .pop), (73, .iload_n 2), (74, .ireturn)]
/-- QuietChecker$Parser.binary(II)Z -/
def pm_l123 : List (Nat × Instr) := [(0, .aload_n 0), (1, .iload_n 2), (2, .invokevirtual 301), (5, .istore_n 3), (6, .sipush 3000), (9, .istore 4), (11, .iload 4), (13, .ifCond .le 93), (16, .aload_n 0), (17, .getfield 45), (20, .getfield 304), (23, .iload_n 1), (24, .if_icmp .lt 82), (27, .aload_n 0), (28, .getfield 45), (31, .astore 5), (33, .aload_n 0), (34, .getfield 118), (37, .istore 6), (39, .aload_n 0), (40, .invokevirtual 144), (43, .iload_n 3), (44, .aload_n 0), (45, .aload 5), (47, .getfield 304), (50, .iconst 1), (51, .iadd), (52, .iload_n 2), (53, .invokevirtual 292), (56, .ior), (57, .istore_n 3), (58, .iload_n 3), (59, .ifCond .eq 27), (62, .aload 5), (64, .getstatic 307), (67, .if_acmp .eq 11), (70, .aload 5), (72, .getstatic 310), (75, .if_acmp .ne 11), (78, .aload_n 0), (79, .bipush 9), (81, .iload 6), (83, .invokevirtual 212), (86, .aload_n 0), (87, .getfield 11), (90, .aload 5), (92, .getfield 313), (95, .iconst 0), (96, .invokevirtual 220), (99, .pop), (100, .iinc 4 (-1)), (103, .goto (-92)), (106, .iload_n 3), (107, .ireturn)]
/-- QuietChecker$Parser.prefixed(I)Z -/
def pm_l124 : List (Nat × Instr) := [(0, .aload_n 0), (1, .getfield 45), (4, .invokevirtual 316), (7, .istore_n 2), (8, .iload_n 2), (9, .ifCond .ne 9), (12, .aload_n 0), (13, .iload_n 1), (14, .invokevirtual 319), (17, .ireturn), (18, .aload_n 0), (19, .iload_n 1), (20, .aload_n 0), (21, .getfield 118), (24, .invokevirtual 247), (27, .ifCond .ne 5), (30, .iconst 0), (31, .ireturn), (32, .aload_n 0), (33, .invokevirtual 144), (36, .aload_n 0), (37, .iload_n 1), (38, .iconst 1), (39, .iadd), (40, .invokevirtual 301), (43, .istore_n 3), (44, .aload_n 0), (45, .getfield 11), (48, .iload_n 2), (49, .iconst 0), (50, .invokevirtual 220), (53, .pop), (54, .iload_n 3), (55, .ireturn)]
/-- QuietChecker$Parser.operand(I)Z -/
def pm_l125 : List (Nat × Instr) := [(0, .aload_n 0), (1, .getfield 45), (4, .getstatic 131), (7, .if_acmp .ne 9), (10, .aload_n 0), (11, .iload_n 1), (12, .invokevirtual 322), (15, .ireturn), (16, .aload_n 0), (17, .getfield 45), (20, .getstatic 174), (23, .if_acmp .ne 30), (26, .aload_n 0), (27, .getfield 11), (30, .iconst 2), (31, .aload_n 0), (32, .getfield 26), (35, .getfield 171), (38, .aload_n 0), (39, .getfield 107), (42, .iaload), (43, .invokevirtual 220), (46, .pop), (47, .aload_n 0), (48, .invokevirtual 144), (51, .iconst 0), (52, .ireturn), (53, .aload_n 0), (54, .getfield 45), (57, .getstatic 227), (60, .if_acmp .eq 14), (63, .aload_n 0), (64, .iconst 1), (65, .aload_n 0), (66, .getfield 118), (69, .invokevirtual 121), (72, .iconst 0), (73, .ireturn), (74, .aload_n 0), (75, .iload_n 1), (76, .aload_n 0), (77, .getfield 118), (80, .invokevirtual 247), (83, .ifCond .ne 5), (86, .iconst 0), (87, .ireturn), (88, .aload_n 0), (89, .invokevirtual 144), (92, .aload_n 0), (93, .iload_n 1), (94, .iconst 1), (95, .iadd), (96, .invokevirtual 208), (99, .istore_n 2), (100, .aload_n 0), (101, .getstatic 230), (104, .invokevirtual 97), (107, .iload_n 2), (108, .ireturn)]
/-- QuietChecker$Parser.named(I)Z -/
def pm_l126 : List (Nat × Instr) := [(0, .aload_n 0), (1, .getfield 107), (4, .istore_n 2), (5, .aload_n 0), (6, .invokevirtual 144), (9, .aload_n 0), (10, .getfield 45), (13, .getstatic 227), (16, .if_acmp .ne 10), (19, .aload_n 0), (20, .iload_n 2), (21, .iload_n 1), (22, .invokevirtual 325), (25, .ireturn), (26, .aload_n 0), (27, .getfield 45), (30, .getstatic 157), (33, .if_acmp .ne 7), (36, .iconst 1), (37, .goto 4), (40, .iconst 0), (41, .istore_n 3), (42, .aload_n 0), (43, .iload_n 2), (44, .iload_n 3), (45, .invokevirtual 263), (48, .istore 4), (50, .iload 4), (52, .iconst (-1)), (53, .if_icmp .eq 19), (56, .iload_n 3), (57, .ifCond .eq 17), (60, .aload_n 0), (61, .iload_n 1), (62, .aload_n 0), (63, .getfield 118), (66, .invokevirtual 247), (69, .ifCond .ne 5), (72, .iconst 0), (73, .ireturn), (74, .iload_n 3), (75, .ifCond .eq 10), (78, .aload_n 0), (79, .iload_n 1), (80, .iconst 1), (81, .iadd), (82, .invokevirtual 267), (85, .aload_n 0), (86, .getfield 11), (89, .iload_n 3), (90, .ifCond .eq 7), (93, .iconst 5), (94, .goto 4), (97, .iconst 3), (98, .iload_n 3), (99, .ifCond .eq 8), (102, .iload 4), (104, .goto 9), (107, .aload_n 0), (108, .iload 4), (110, .invokevirtual 276), (113, .invokevirtual 220), (116, .pop), (117, .aload_n 0), (118, .iload 4), (120, .invokevirtual 273), (123, .ireturn)]
/-- QuietChecker$Parser.call(II)Z -/
def pm_l127 : List (Nat × Instr) := [(0, .aload_n 0), (1, .getfield 11), (4, .getfield 183), (7, .aload_n 0), (8, .getfield 26), (11, .getfield 114), (14, .iload_n 1), (15, .iaload), (16, .aload_n 0), (17, .getfield 26), (20, .getfield 134), (23, .iload_n 1), (24, .iaload), (25, .invokevirtual 137), (28, .istore_n 3), (29, .iload_n 3), (30, .iconst (-1)), (31, .if_icmp .ne 19), (34, .aload_n 0), (35, .iconst 2), (36, .aload_n 0), (37, .getfield 26), (40, .getfield 114), (43, .iload_n 1), (44, .iaload), (45, .invokevirtual 121), (48, .iconst 0), (49, .ireturn), (50, .aload_n 0), (51, .iload_n 2), (52, .aload_n 0), (53, .getfield 118), (56, .invokevirtual 247), (59, .ifCond .ne 5), (62, .iconst 0), (63, .ireturn), (64, .aload_n 0), (65, .invokevirtual 144), (68, .aload_n 0), (69, .getfield 45), (72, .getstatic 230), (75, .if_acmp .ne 7), (78, .iconst 0), (79, .goto 11), (82, .aload_n 0), (83, .iload_n 3), (84, .iload_n 2), (85, .iconst 1), (86, .iadd), (87, .invokevirtual 328), (90, .istore 4), (92, .aload_n 0), (93, .getfield 45), (96, .getstatic 230), (99, .if_acmp .ne 25), (102, .iload 4), (104, .aload_n 0), (105, .getfield 11), (108, .iload_n 3), (109, .invokevirtual 331), (112, .if_icmp .eq 12), (115, .aload_n 0), (116, .iconst 5), (117, .aload_n 0), (118, .getfield 118), (121, .invokevirtual 121), (124, .aload_n 0), (125, .getstatic 230), (128, .invokevirtual 97), (131, .aload_n 0), (132, .getfield 11), (135, .iconst 1), (136, .iconst 0), (137, .invokevirtual 220), (140, .pop), (141, .aload_n 0), (142, .getfield 11), (145, .bipush 10), (147, .iload_n 3), (148, .invokevirtual 220), (151, .pop), (152, .aload_n 0), (153, .getfield 11), (156, .getfield 183), (159, .iload_n 3), (160, .invokevirtual 334), (163, .ireturn)]
/-- QuietChecker$Parser.arguments(II)I -/
def pm_l128 : List (Nat × Instr) := [(0, .aload_n 0), (1, .iload_n 1), (2, .iconst 0), (3, .iload_n 2), (4, .invokevirtual 335), (7, .iconst 1), (8, .istore_n 3), (9, .sipush 3000), (12, .istore 4), (14, .iload 4), (16, .ifCond .le 33), (19, .aload_n 0), (20, .getfield 45), (23, .getstatic 233), (26, .if_acmp .ne 23), (29, .aload_n 0), (30, .invokevirtual 144), (33, .aload_n 0), (34, .iload_n 1), (35, .iload_n 3), (36, .iload_n 2), (37, .invokevirtual 335), (40, .iinc 3 1), (43, .iinc 4 (-1)), (46, .goto (-32)), (49, .iload_n 3), (50, .ireturn)]
/-- QuietChecker$Parser.argument(III)V -/
def pm_l129 : List (Nat × Instr) := [(0, .aload_n 0), (1, .getfield 118), (4, .istore 4), (6, .aload_n 0), (7, .iload_n 3), (8, .invokevirtual 208), (11, .ifCond .eq 23), (14, .aload_n 0), (15, .getfield 11), (18, .iload_n 1), (19, .iload_n 2), (20, .invokevirtual 339), (23, .ifCond .ne 11), (26, .aload_n 0), (27, .bipush 8), (29, .iload 4), (31, .invokevirtual 212), (34, .return_)]
/-- QuietChecker$Parser.known(IZ)I -/
def pm_l130 : List (Nat × Instr) := [(0, .aload_n 0), (1, .getfield 26), (4, .getfield 114), (7, .iload_n 1), (8, .iaload), (9, .istore_n 3), (10, .aload_n 0), (11, .getfield 51), (14, .ifCond .eq 23), (17, .aload_n 0), (18, .getfield 35), (21, .iload_n 3), (22, .aload_n 0), (23, .getfield 26), (26, .getfield 134), (29, .iload_n 1), (30, .iaload), (31, .invokevirtual 137), (34, .goto 4), (37, .iconst (-1)), (38, .istore 4), (40, .iload 4), (42, .iconst (-1)), (43, .if_icmp .eq 11), (46, .bipush 40), (48, .iload 4), (50, .iadd), (51, .goto 23), (54, .aload_n 0), (55, .getfield 11), (58, .getfield 150), (61, .iload_n 3), (62, .aload_n 0), (63, .getfield 26), (66, .getfield 134), (69, .iload_n 1), (70, .iaload), (71, .invokevirtual 137), (74, .istore 5), (76, .iload 5), (78, .iconst (-1)), (79, .if_icmp .eq 16), (82, .aload_n 0), (83, .getfield 11), (86, .iload 5), (88, .invokevirtual 342), (91, .iload_n 2), (92, .if_icmp .eq 11), (95, .aload_n 0), (96, .iconst 2), (97, .iload_n 3), (98, .invokevirtual 121), (101, .iconst (-1)), (102, .ireturn), (103, .iload 5), (105, .ireturn)]
/-- QuietChecker$Parser.isSecret(I)Z -/
def pm_l131 : List (Nat × Instr) := [(0, .iload_n 1), (1, .bipush 40), (3, .if_icmp .ge 17), (6, .aload_n 0), (7, .getfield 11), (10, .getfield 150), (13, .iload_n 1), (14, .invokevirtual 334), (17, .goto 14), (20, .aload_n 0), (21, .getfield 35), (24, .iload_n 1), (25, .bipush 40), (27, .isub), (28, .invokevirtual 334), (31, .ireturn)]
/-- QuietChecker$Parser.cellOfVariable(I)I -/
def pm_l132 : List (Nat × Instr) := [(0, .iload_n 1), (1, .bipush 40), (3, .if_icmp .ge 11), (6, .iload_n 1), (7, .iconst 0), (8, .invokestatic 345), (11, .goto 20), (14, .aload_n 0), (15, .getfield 11), (18, .getfield 183), (21, .getfield 348), (24, .iload_n 1), (25, .bipush 40), (27, .isub), (28, .invokestatic 349), (31, .ireturn)]
/-- QuietChecker$Machine.load([I)V -/
def pm_l133 : List (Nat × Instr) := [(0, .aload_n 1), (1, .iconst 0), (2, .aload_n 0), (3, .getfield 17), (6, .iconst 0), (7, .aload_n 1), (8, .arraylength), (9, .sipush 2560), (12, .invokestatic 27), (15, .invokestatic 33), (18, .return_)]
/-- QuietChecker$Machine.disturbSecrets(I)V -/
def pm_l134 : List (Nat × Instr) := [(0, .iconst 1), (1, .istore_n 2), (2, .iconst 0), (3, .istore_n 3), (4, .iload_n 3), (5, .aload_n 0), (6, .getfield 9), (9, .getfield 39), (12, .getfield 43), (15, .if_icmp .ge 31), (18, .aload_n 0), (19, .getfield 9), (22, .getfield 39), (25, .iload_n 3), (26, .invokevirtual 49), (29, .ifCond .eq 11), (32, .aload_n 0), (33, .iload_n 3), (34, .iload_n 1), (35, .iload_n 2), (36, .invokevirtual 53), (39, .istore_n 2), (40, .iinc 3 1), (43, .goto (-39)), (46, .return_)]
/-- QuietChecker$Machine.disturbCells(III)I -/
def pm_l135 : List (Nat × Instr) := [(0, .iload_n 3), (1, .istore 4), (3, .iconst 0), (4, .istore 5), (6, .iload 5), (8, .aload_n 0), (9, .getfield 9), (12, .iload_n 1), (13, .invokevirtual 57), (16, .if_icmp .ge 30), (19, .aload_n 0), (20, .getfield 17), (23, .iload_n 1), (24, .iload 5), (26, .invokestatic 61), (29, .dup2), (30, .iaload), (31, .iload_n 2), (32, .iload 4), (34, .imul), (35, .ixor), (36, .iastore), (37, .iinc 4 2), (40, .iinc 5 1), (43, .goto (-37)), (46, .iload 4), (48, .ireturn)]
/-- QuietChecker$Machine.execute(I)V -/
def pm_l136 : List (Nat × Instr) := [(0, .aload_n 0), (1, .iload_n 1), (2, .putfield 64), (5, .aload_n 0), (6, .iconst 0), (7, .putfield 67), (10, .aload_n 0), (11, .iconst 0), (12, .putfield 70), (15, .aload_n 0), (16, .iconst 0), (17, .putfield 73), (20, .aload_n 0), (21, .aload_n 0), (22, .getfield 9), (25, .getfield 76), (28, .putfield 79), (31, .aload_n 0), (32, .iconst (-1)), (33, .putfield 82), (36, .aload_n 0), (37, .getfield 64), (40, .i2l), (41, .ldc2_w 85), (44, .ladd), (45, .aload_n 0), (46, .getfield 9), (49, .getfield 87), (52, .i2l), (53, .lconst 1), (54, .ladd), (55, .lmul), (56, .lstore_n 2), (57, .lconst 0), (58, .lstore 4), (60, .lload 4), (62, .lload_n 2), (63, .lcmp), (64, .ifCond .ge 89), (67, .aload_n 0), (68, .getfield 82), (71, .iconst (-1)), (72, .if_icmp .ne 81), (75, .aload_n 0), (76, .getfield 79), (79, .ifCond .lt 17), (82, .aload_n 0), (83, .getfield 79), (86, .aload_n 0), (87, .getfield 9), (90, .getfield 87), (93, .if_icmp .lt 11), (96, .aload_n 0), (97, .iconst 0), (98, .putfield 82), (101, .goto 43), (104, .aload_n 0), (105, .getfield 79), (108, .istore 6), (110, .aload_n 0), (111, .dup), (112, .getfield 79), (115, .iconst 1), (116, .iadd), (117, .putfield 79), (120, .aload_n 0), (121, .aload_n 0), (122, .getfield 9), (125, .getfield 90), (128, .iload 6), (130, .iaload), (131, .aload_n 0), (132, .getfield 9), (135, .getfield 93), (138, .iload 6), (140, .iaload), (141, .invokevirtual 96), (144, .lload 4), (146, .lconst 1), (147, .ladd), (148, .lstore 4), (150, .goto (-90)), (153, .return_)]
/-- QuietChecker$Machine.firstDifference(LQuietChecker$Machine;)I -/
def pm_l137 : List (Nat × Instr) := [(0, .aload_n 0), (1, .getfield 67), (4, .aload_n 1), (5, .getfield 67), (8, .invokestatic 27), (11, .istore_n 2), (12, .iconst 0), (13, .istore_n 3), (14, .iload_n 3), (15, .iload_n 2), (16, .if_icmp .ge 26), (19, .aload_n 0), (20, .getfield 21), (23, .iload_n 3), (24, .iaload), (25, .aload_n 1), (26, .getfield 21), (29, .iload_n 3), (30, .iaload), (31, .if_icmp .eq 5), (34, .iload_n 3), (35, .ireturn), (36, .iinc 3 1), (39, .goto (-25)), (42, .aload_n 0), (43, .getfield 67), (46, .aload_n 1), (47, .getfield 67), (50, .if_icmp .eq 5), (53, .iload_n 2), (54, .ireturn), (55, .aload_n 0), (56, .getfield 82), (59, .aload_n 1), (60, .getfield 82), (63, .if_icmp .ne 18), (66, .aload_n 0), (67, .getfield 70), (70, .aload_n 1), (71, .getfield 70), (74, .if_icmp .ne 7), (77, .iconst (-1)), (78, .goto 5), (81, .bipush (-2)), (83, .ireturn)]
/-- QuietChecker$Machine.perform(II)V -/
def pm_l138 : List (Nat × Instr) := [(0, .iload_n 1), (1, .tableswitch 159 1 11 #[59, 66, 74, 86, 98, 106, 159, 122, 114, 144, 152]), (60, .aload_n 0), (61, .invokevirtual 100), (64, .goto 102), (67, .aload_n 0), (68, .iload_n 2), (69, .invokevirtual 103), (72, .goto 94), (75, .aload_n 0), (76, .aload_n 0), (77, .iload_n 2), (78, .invokevirtual 107), (81, .invokevirtual 103), (84, .goto 82), (87, .aload_n 0), (88, .iload_n 2), (89, .aload_n 0), (90, .invokevirtual 110), (93, .invokevirtual 114), (96, .goto 70), (99, .aload_n 0), (100, .iload_n 2), (101, .invokevirtual 117), (104, .goto 62), (107, .aload_n 0), (108, .iload_n 2), (109, .invokevirtual 120), (112, .goto 54), (115, .aload_n 0), (116, .iload_n 2), (117, .putfield 79), (120, .goto 46), (123, .aload_n 0), (124, .aload_n 0), (125, .invokevirtual 110), (128, .ifCond .ne 7), (131, .iload_n 2), (132, .goto 7), (135, .aload_n 0), (136, .getfield 79), (139, .putfield 79), (142, .goto 24), (145, .aload_n 0), (146, .iload_n 2), (147, .invokevirtual 123), (150, .goto 16), (153, .aload_n 0), (154, .invokevirtual 126), (157, .goto 9), (160, .aload_n 0), (161, .iload_n 1), (162, .iload_n 2), (163, .invokevirtual 129), (166, .return_)]
/-- QuietChecker$Machine.performOnStack(II)V -/
def pm_l139 : List (Nat × Instr) := [(0, .aload_n 0), (1, .invokevirtual 110), (4, .istore_n 3), (5, .iload_n 1), (6, .tableswitch 216 7 29 #[106, 216, 216, 216, 216, 132, 158, 167, 177, 216, 216, 216, 216, 216, 216, 216, 216, 216, 216, 216, 216, 193, 193]), (112, .aload_n 0), (113, .iconst 2), (114, .iload_n 2), (115, .imul), (116, .iload_n 3), (117, .ifCond .eq 7), (120, .iconst 1), (121, .goto 4), (124, .iconst 0), (125, .iadd), (126, .invokevirtual 132), (129, .pop), (130, .aload_n 0), (131, .iload_n 3), (132, .invokevirtual 103), (135, .goto 100), (138, .aload_n 0), (139, .invokevirtual 110), (142, .istore 4), (144, .aload_n 0), (145, .aload_n 0), (146, .invokevirtual 110), (149, .ifCond .eq 8), (152, .iload 4), (154, .goto 4), (157, .iload_n 3), (158, .invokevirtual 103), (161, .goto 74), (164, .aload_n 0), (165, .iload_n 3), (166, .ineg), (167, .invokevirtual 103), (170, .goto 65), (173, .aload_n 0), (174, .iload_n 3), (175, .iconst (-1)), (176, .ixor), (177, .invokevirtual 103), (180, .goto 55), (183, .aload_n 0), (184, .iload_n 3), (185, .ifCond .ne 7), (188, .iconst 1), (189, .goto 4), (192, .iconst 0), (193, .invokevirtual 103), (196, .goto 39), (199, .aload_n 0), (200, .aload_n 0), (201, .invokevirtual 110), (204, .iload_n 3), (205, .iload_n 1), (206, .bipush 28), (208, .if_icmp .ne 7), (211, .iconst 1), (212, .goto 4), (215, .iconst 0), (216, .invokevirtual 137), (219, .goto 16), (222, .aload_n 0), (223, .iload_n 1), (224, .aload_n 0), (225, .invokevirtual 110), (228, .iload_n 3), (229, .invokestatic 141), (232, .invokevirtual 103), (235, .return_)]
/-- QuietChecker$Machine.combine(III)I -/
def pm_l140 : List (Nat × Instr) := [(0, .iload_n 0), (1, .tableswitch 145 16 27 #[63, 67, 71, 75, 86, 97, 108, 119, 126, 133, 137, 141]), (64, .iload_n 1), (65, .iload_n 2), (66, .ior), (67, .ireturn), (68, .iload_n 1), (69, .iload_n 2), (70, .ixor), (71, .ireturn), (72, .iload_n 1), (73, .iload_n 2), (74, .iand), (75, .ireturn), (76, .iload_n 1), (77, .iload_n 2), (78, .if_icmp .ne 7), (81, .iconst 1), (82, .goto 4), (85, .iconst 0), (86, .ireturn), (87, .iload_n 1), (88, .iload_n 2), (89, .if_icmp .eq 7), (92, .iconst 1), (93, .goto 4), (96, .iconst 0), (97, .ireturn), (98, .iload_n 1), (99, .iload_n 2), (100, .if_icmp .ge 7), (103, .iconst 1), (104, .goto 4), (107, .iconst 0), (108, .ireturn), (109, .iload_n 1), (110, .iload_n 2), (111, .if_icmp .gt 7), (114, .iconst 1), (115, .goto 4), (118, .iconst 0), (119, .ireturn), (120, .iload_n 1), (121, .iload_n 2), (122, .bipush 31), (124, .iand), (125, .ishl), (126, .ireturn), (127, .iload_n 1), (128, .iload_n 2), (129, .bipush 31), (131, .iand), (132, .iushr), (133, .ireturn), (134, .iload_n 1), (135, .iload_n 2), (136, .iadd), (137, .ireturn), (138, .iload_n 1), (139, .iload_n 2), (140, .isub), (141, .ireturn), (142, .iload_n 1), (143, .iload_n 2), (144, .imul), (145, .ireturn), (146, .iconst 0), (147, .ireturn)]
/-- QuietChecker$Machine.divide(IIZ)V -/
def pm_l141 : List (Nat × Instr) := [(0, .iload_n 2), (1, .ifCond .ne 11), (4, .aload_n 0), (5, .iconst 3), (6, .putfield 82), (9, .goto 20), (12, .aload_n 0), (13, .iload_n 3), (14, .ifCond .eq 9), (17, .iload_n 1), (18, .iload_n 2), (19, .idiv), (20, .goto 6), (23, .iload_n 1), (24, .iload_n 2), (25, .irem), (26, .invokevirtual 103), (29, .return_)]
/-- QuietChecker$Machine.held(I)I -/
def pm_l142 : List (Nat × Instr) := [(0, .iload_n 1), (1, .ifCond .lt 21), (4, .iload_n 1), (5, .aload_n 0), (6, .getfield 17), (9, .arraylength), (10, .if_icmp .ge 12), (13, .aload_n 0), (14, .getfield 17), (17, .iload_n 1), (18, .iaload), (19, .goto 4), (22, .iconst 0), (23, .ireturn)]
/-- QuietChecker$Machine.hold(II)V -/
def pm_l143 : List (Nat × Instr) := [(0, .iload_n 1), (1, .ifCond .lt 19), (4, .iload_n 1), (5, .aload_n 0), (6, .getfield 17), (9, .arraylength), (10, .if_icmp .ge 10), (13, .aload_n 0), (14, .getfield 17), (17, .iload_n 1), (18, .iload_n 2), (19, .iastore), (20, .return_)]
/-- QuietChecker$Machine.step()V -/
def pm_l144 : List (Nat × Instr) := [(0, .aload_n 0), (1, .getfield 70), (4, .aload_n 0), (5, .getfield 64), (8, .if_icmp .lt 11), (11, .aload_n 0), (12, .iconst 1), (13, .putfield 82), (16, .goto 13), (19, .aload_n 0), (20, .dup), (21, .getfield 70), (24, .iconst 1), (25, .iadd), (26, .putfield 70), (29, .return_)]
/-- QuietChecker$Machine.jot(I)Z -/
def pm_l145 : List (Nat × Instr) := [(0, .aload_n 0), (1, .getfield 67), (4, .sipush 4000), (7, .if_icmp .lt 10), (10, .aload_n 0), (11, .iconst 4), (12, .putfield 82), (15, .iconst 0), (16, .ireturn), (17, .aload_n 0), (18, .getfield 21), (21, .aload_n 0), (22, .getfield 67), (25, .iload_n 1), (26, .iastore), (27, .aload_n 0), (28, .dup), (29, .getfield 67), (32, .iconst 1), (33, .iadd), (34, .putfield 67), (37, .iconst 1), (38, .ireturn)]
/-- QuietChecker$Machine.touch(II)Z -/
def pm_l146 : List (Nat × Instr) := [(0, .aload_n 0), (1, .getfield 9), (4, .iload_n 1), (5, .iload_n 2), (6, .invokevirtual 144), (9, .ifCond .ne 10), (12, .aload_n 0), (13, .iconst 2), (14, .putfield 82), (17, .iconst 0), (18, .ireturn), (19, .aload_n 0), (20, .iconst (-1)), (21, .aload_n 0), (22, .getfield 9), (25, .getfield 148), (28, .iload_n 1), (29, .iaload), (30, .iload_n 2), (31, .invokestatic 61), (34, .isub), (35, .invokevirtual 132), (38, .ireturn)]
/-- QuietChecker$Machine.readCell(I)V -/
def pm_l147 : List (Nat × Instr) := [(0, .aload_n 0), (1, .invokevirtual 110), (4, .istore_n 2), (5, .aload_n 0), (6, .iload_n 1), (7, .iload_n 2), (8, .invokevirtual 151), (11, .ifCond .eq 16), (14, .aload_n 0), (15, .aload_n 0), (16, .iload_n 1), (17, .iload_n 2), (18, .invokestatic 61), (21, .invokevirtual 107), (24, .invokevirtual 103), (27, .return_)]
/-- QuietChecker$Machine.writeCell(I)V -/
def pm_l148 : List (Nat × Instr) := [(0, .aload_n 0), (1, .invokevirtual 110), (4, .istore_n 2), (5, .aload_n 0), (6, .invokevirtual 110), (9, .istore_n 3), (10, .aload_n 0), (11, .iload_n 1), (12, .iload_n 3), (13, .invokevirtual 151), (16, .ifCond .eq 13), (19, .aload_n 0), (20, .iload_n 1), (21, .iload_n 3), (22, .invokestatic 61), (25, .iload_n 2), (26, .invokevirtual 114), (29, .return_)]
/-- QuietChecker$Machine.enter(I)V -/
def pm_l149 : List (Nat × Instr) := [(0, .aload_n 0), (1, .getfield 9), (4, .getfield 154), (7, .iload_n 1), (8, .invokevirtual 157), (11, .ifCond .ne 4), (14, .return_), (15, .iload_n 1), (16, .iconst 0), (17, .invokestatic 160), (20, .istore_n 2), (21, .aload_n 0), (22, .getfield 17), (25, .iload_n 2), (26, .iload_n 2), (27, .bipush 12), (29, .iadd), (30, .iconst 0), (31, .invokestatic 163), (34, .aload_n 0), (35, .getfield 9), (38, .iload_n 1), (39, .invokevirtual 169), (42, .iconst 1), (43, .isub), (44, .istore_n 3), (45, .iload_n 3), (46, .ifCond .lt 20), (49, .aload_n 0), (50, .iload_n 2), (51, .iload_n 3), (52, .iadd), (53, .aload_n 0), (54, .invokevirtual 110), (57, .invokevirtual 114), (60, .iinc 3 (-1)), (63, .goto (-18)), (66, .aload_n 0), (67, .aload_n 0), (68, .getfield 79), (71, .invokevirtual 103), (74, .aload_n 0), (75, .aload_n 0), (76, .getfield 9), (79, .getfield 172), (82, .iload_n 1), (83, .iaload), (84, .putfield 79), (87, .return_)]
/-- QuietChecker$Machine.leave()V -/
def pm_l150 : List (Nat × Instr) := [(0, .aload_n 0), (1, .invokevirtual 110), (4, .istore_n 1), (5, .aload_n 0), (6, .aload_n 0), (7, .invokevirtual 110), (10, .putfield 79), (13, .aload_n 0), (14, .iload_n 1), (15, .invokevirtual 103), (18, .return_)]
/-- QuietChecker$Machine.push(I)V -/
def pm_l151 : List (Nat × Instr) := [(0, .aload_n 0), (1, .getfield 73), (4, .aload_n 0), (5, .getfield 24), (8, .arraylength), (9, .if_icmp .ge 23), (12, .aload_n 0), (13, .getfield 24), (16, .aload_n 0), (17, .getfield 73), (20, .iload_n 1), (21, .iastore), (22, .aload_n 0), (23, .dup), (24, .getfield 73), (27, .iconst 1), (28, .iadd), (29, .putfield 73), (32, .return_)]
/-- QuietChecker$Machine.pop()I -/
def pm_l152 : List (Nat × Instr) := [(0, .aload_n 0), (1, .getfield 73), (4, .ifCond .ne 5), (7, .iconst 0), (8, .ireturn), (9, .aload_n 0), (10, .dup), (11, .getfield 73), (14, .iconst 1), (15, .isub), (16, .putfield 73), (19, .aload_n 0), (20, .getfield 24), (23, .aload_n 0), (24, .getfield 73), (27, .iaload), (28, .ireturn)]
/-- QuietChecker.feed(JI)Z -/
def pm_l153 : List (Nat × Instr) := [(0, .iload_n 3), (1, .iconst 1), (2, .if_icmp .lt 21), (5, .iload_n 3), (6, .bipush 8), (8, .if_icmp .gt 15), (11, .aload_n 0), (12, .getfield 46), (15, .iload_n 3), (16, .iadd), (17, .sipush 3000), (20, .if_icmp .le 5), (23, .iconst 0), (24, .ireturn), (25, .iconst 0), (26, .istore 4), (28, .iload 4), (30, .iload_n 3), (31, .if_icmp .ge 23), (34, .lload_n 1), (35, .iload 4), (37, .invokestatic 50), (40, .invokestatic 54), (43, .ifCond .ne 5), (46, .iconst 0), (47, .ireturn), (48, .iinc 4 1), (51, .goto (-23)), (54, .iload_n 3), (55, .iconst 1), (56, .isub), (57, .istore 4), (59, .iload 4), (61, .ifCond .lt 34), (64, .aload_n 0), (65, .getfield 9), (68, .aload_n 0), (69, .getfield 46), (72, .lload_n 1), (73, .iload 4), (75, .invokestatic 50), (78, .castore), (79, .aload_n 0), (80, .dup), (81, .getfield 46), (84, .iconst 1), (85, .iadd), (86, .putfield 46), (89, .iinc 4 (-1)), (92, .goto (-33)), (95, .iconst 1), (96, .ireturn)]
/-- QuietChecker.check()I -/
def pm_l154 : List (Nat × Instr) := [(0, .aload_n 0), (1, .getfield 16), (4, .aload_n 0), (5, .getfield 9), (8, .aload_n 0), (9, .getfield 46), (12, .invokevirtual 58), (15, .aload_n 0), (16, .iconst 0), (17, .putfield 46), (20, .aload_n 0), (21, .iconst 0), (22, .putfield 62), (25, .aload_n 0), (26, .getfield 29), (29, .iconst 0), (30, .invokestatic 66), (33, .aload_n 0), (34, .getfield 25), (37, .invokevirtual 72), (40, .istore_n 1), (41, .aload_n 0), (42, .iload_n 1), (43, .bipush 16), (45, .irem), (46, .putfield 76), (49, .iload_n 1), (50, .ireturn)]
/-- QuietChecker.put(III)V -/
def pm_l155 : List (Nat × Instr) := [(0, .aload_n 0), (1, .getfield 16), (4, .getfield 79), (7, .ifCond .ne 11), (10, .new 82), (13, .dup), (14, .invokespecial 84), (17, .athrow), (18, .aload_n 0), (19, .getfield 16), (22, .iload_n 1), (23, .iload_n 2), (24, .invokevirtual 85), (27, .ifCond .ne 11), (30, .new 89), (33, .dup), (34, .invokespecial 91), (37, .athrow), (38, .aload_n 0), (39, .getfield 29), (42, .iload_n 1), (43, .iload_n 2), (44, .invokestatic 92), (47, .iload_n 3), (48, .iastore), (49, .return_)]
/-- QuietChecker.run(I)I -/
def pm_l156 : List (Nat × Instr) := [(0, .aload_n 0), (1, .getfield 16), (4, .getfield 79), (7, .ifCond .ne 11), (10, .new 82), (13, .dup), (14, .invokespecial 84), (17, .athrow), (18, .iload_n 1), (19, .ifCond .lt 10), (22, .iload_n 1), (23, .sipush 20000), (26, .if_icmp .le 11), (29, .new 96), (32, .dup), (33, .invokespecial 98), (36, .athrow), (37, .aload_n 0), (38, .getfield 29), (41, .iconst 0), (42, .aload_n 0), (43, .getfield 33), (46, .iconst 0), (47, .sipush 2560), (50, .invokestatic 99), (53, .aload_n 0), (54, .iload_n 1), (55, .putfield 105), (58, .aload_n 0), (59, .iconst 1), (60, .putfield 62), (63, .aload_n 0), (64, .getfield 39), (67, .aload_n 0), (68, .getfield 33), (71, .invokevirtual 108), (74, .aload_n 0), (75, .getfield 39), (78, .aload_n 0), (79, .getfield 105), (82, .invokevirtual 112), (85, .aload_n 0), (86, .getfield 39), (89, .getfield 116), (92, .ireturn)]
/-- QuietChecker.twin(I)I -/
def pm_l157 : List (Nat × Instr) := [(0, .aload_n 0), (1, .getfield 62), (4, .ifCond .ne 11), (7, .new 82), (10, .dup), (11, .invokespecial 84), (14, .athrow), (15, .aload_n 0), (16, .getfield 43), (19, .aload_n 0), (20, .getfield 33), (23, .invokevirtual 108), (26, .aload_n 0), (27, .getfield 43), (30, .iload_n 1), (31, .invokevirtual 119), (34, .aload_n 0), (35, .getfield 43), (38, .aload_n 0), (39, .getfield 105), (42, .invokevirtual 112), (45, .aload_n 0), (46, .getfield 39), (49, .aload_n 0), (50, .getfield 43), (53, .invokevirtual 122), (56, .ireturn)]
/-- QuietChecker.value(II)I -/
def pm_l158 : List (Nat × Instr) := [(0, .aload_n 0), (1, .getfield 62), (4, .ifCond .ne 11), (7, .new 82), (10, .dup), (11, .invokespecial 84), (14, .athrow), (15, .aload_n 0), (16, .getfield 16), (19, .iload_n 1), (20, .iload_n 2), (21, .invokevirtual 85), (24, .ifCond .ne 11), (27, .new 89), (30, .dup), (31, .invokespecial 91), (34, .athrow), (35, .aload_n 0), (36, .getfield 39), (39, .getfield 126), (42, .iload_n 1), (43, .iload_n 2), (44, .invokestatic 92), (47, .iaload), (48, .ireturn)]
/-- QuietChecker.note(I)I -/
def pm_l159 : List (Nat × Instr) := [(0, .aload_n 0), (1, .getfield 62), (4, .ifCond .ne 11), (7, .new 82), (10, .dup), (11, .invokespecial 84), (14, .athrow), (15, .iload_n 1), (16, .ifCond .lt 14), (19, .iload_n 1), (20, .aload_n 0), (21, .getfield 39), (24, .getfield 129), (27, .if_icmp .lt 11), (30, .new 89), (33, .dup), (34, .invokespecial 91), (37, .athrow), (38, .aload_n 0), (39, .getfield 39), (42, .getfield 132), (45, .iload_n 1), (46, .iaload), (47, .ireturn)]
/-- QuietChecker.letter(IZI)C -/
def pm_l160 : List (Nat × Instr) := [(0, .iload_n 2), (1, .ifCond .eq 13), (4, .aload_n 0), (5, .getfield 16), (8, .getfield 135), (11, .goto 10), (14, .aload_n 0), (15, .getfield 16), (18, .getfield 139), (21, .astore 4), (23, .aload 4), (25, .iload_n 1), (26, .iload_n 3), (27, .invokevirtual 142), (30, .ifCond .ne 11), (33, .new 89), (36, .dup), (37, .invokespecial 91), (40, .athrow), (41, .aload 4), (43, .iload_n 1), (44, .iload_n 3), (45, .invokevirtual 147), (48, .ireturn)]
/-- QuietChecker.count(I)I -/
def pm_l161 : List (Nat × Instr) := [(0, .iload_n 1), (1, .tableswitch 191 0 10 #[59, 70, 81, 92, 100, 108, 113, 129, 148, 167, 186]), (60, .aload_n 0), (61, .getfield 16), (64, .getfield 139), (67, .getfield 151), (70, .ireturn), (71, .aload_n 0), (72, .getfield 16), (75, .getfield 135), (78, .getfield 151), (81, .ireturn), (82, .aload_n 0), (83, .getfield 16), (86, .getfield 139), (89, .invokevirtual 154), (92, .ireturn), (93, .aload_n 0), (94, .getfield 16), (97, .getfield 157), (100, .ireturn), (101, .aload_n 0), (102, .getfield 16), (105, .getfield 160), (108, .ireturn), (109, .aload_n 0), (110, .getfield 76), (113, .ireturn), (114, .aload_n 0), (115, .getfield 16), (118, .getfield 79), (121, .ifCond .eq 7), (124, .iconst 1), (125, .goto 4), (128, .iconst 0), (129, .ireturn), (130, .aload_n 0), (131, .getfield 62), (134, .ifCond .eq 13), (137, .aload_n 0), (138, .getfield 39), (141, .getfield 129), (144, .goto 4), (147, .iconst (-1)), (148, .ireturn), (149, .aload_n 0), (150, .getfield 62), (153, .ifCond .eq 13), (156, .aload_n 0), (157, .getfield 39), (160, .getfield 163), (163, .goto 4), (166, .iconst (-1)), (167, .ireturn), (168, .aload_n 0), (169, .getfield 62), (172, .ifCond .eq 13), (175, .aload_n 0), (176, .getfield 39), (179, .getfield 116), (182, .goto 4), (185, .iconst (-1)), (186, .ireturn), (187, .aload_n 0), (188, .getfield 46), (191, .ireturn), (192, .iconst (-1)), (193, .ireturn)]
/-- QuietChecker.byteOf(JI)C -/
def pm_l162 : List (Nat × Instr) := [(0, .lload_n 0), (1, .bipush 8), (3, .iload_n 2), (4, .imul), (5, .lushr), (6, .ldc2_w 166), (9, .land), (10, .l2i), (11, .i2c), (12, .ireturn)]
/-- QuietChecker.mayStandInText(C)Z -/
def pm_l163 : List (Nat × Instr) := [(0, .iload_n 0), (1, .bipush 10), (3, .if_icmp .eq 15), (6, .iload_n 0), (7, .bipush 32), (9, .if_icmp .lt 13), (12, .iload_n 0), (13, .bipush 126), (15, .if_icmp .gt 7), (18, .iconst 1), (19, .goto 4), (22, .iconst 0), (23, .ireturn)]
/-- java/lang/String.length()I -/
def pm_l164 : List (Nat × Instr) := [(0, .aload_n 0), (1, .getfield 9), (4, .arraylength), (5, .aload_n 0), (6, .invokevirtual 335), (9, .ishr), (10, .ireturn)]
/-- java/lang/String.charAt(I)C -/
def pm_l165 : List (Nat × Instr) := [(0, .aload_n 0), (1, .invokevirtual 492), (4, .ifCond .eq 12), (7, .aload_n 0), (8, .getfield 9), (11, .iload_n 1), (12, .invokestatic 495), (15, .ireturn), (16, .aload_n 0), (17, .getfield 9), (20, .iload_n 1), (21, .invokestatic 498), (24, .ireturn)]
/-- java/lang/String.coder()B -/
def pm_l166 : List (Nat × Instr) := [(0, .getstatic 38), (3, .ifCond .eq 10), (6, .aload_n 0), (7, .getfield 15), (10, .goto 4), (13, .iconst 1), (14, .ireturn)]
/-- java/lang/String.isLatin1()Z -/
def pm_l167 : List (Nat × Instr) := [(0, .getstatic 38), (3, .ifCond .eq 14), (6, .aload_n 0), (7, .getfield 15), (10, .ifCond .ne 7), (13, .iconst 1), (14, .goto 4), (17, .iconst 0), (18, .ireturn)]
/-- java/lang/StringLatin1.charAt([BI)C -/
def pm_l168 : List (Nat × Instr) := [(0, .iload_n 1), (1, .aload_n 0), (2, .arraylength), (3, .invokestatic 9), (6, .aload_n 0), (7, .iload_n 1), (8, .baload), (9, .sipush 255), (12, .iand), (13, .i2c), (14, .ireturn)]
/-- java/util/Arrays.rangeCheck(III)V -/
def pm_l169 : List (Nat × Instr) := [(0, .iload_n 1), (1, .iload_n 2), (2, .if_icmp .le 44), (5, .new 43), (8, .dup), (9, .new 45), (12, .dup), (13, .invokespecial 47), (16, .ldc 48), (18, .invokevirtual 50), (21, .iload_n 1), (22, .invokevirtual 54), (25, .ldc 57), (27, .invokevirtual 50), (30, .iload_n 2), (31, .invokevirtual 54), (34, .ldc 59), (36, .invokevirtual 50), (39, .invokevirtual 61), (42, .invokespecial 65), (45, .athrow), (46, .iload_n 1), (47, .ifCond .ge 12), (50, .new 68), (53, .dup), (54, .iload_n 1), (55, .invokespecial 70), (58, .athrow), (59, .iload_n 2), (60, .iload_n 0), (61, .if_icmp .le 12), (64, .new 68), (67, .dup), (68, .iload_n 2), (69, .invokespecial 70), (72, .athrow), (73, .return_)]
/-- java/util/Arrays.fill([II)V -/
def pm_l170 : List (Nat × Instr) := [(0, .iconst 0), (1, .istore_n 2), (2, .aload_n 0), (3, .arraylength), (4, .istore_n 3), (5, .iload_n 2), (6, .iload_n 3), (7, .if_icmp .ge 13), (10, .aload_n 0), (11, .iload_n 2), (12, .iload_n 1), (13, .iastore), (14, .iinc 2 1), (17, .goto (-12)), (20, .return_)]
/-- java/util/Arrays.fill([IIII)V -/
def pm_l171 : List (Nat × Instr) := [(0, .aload_n 0), (1, .arraylength), (2, .iload_n 1), (3, .iload_n 2), (4, .invokestatic 13), (7, .iload_n 1), (8, .istore 4), (10, .iload 4), (12, .iload_n 2), (13, .if_icmp .ge 14), (16, .aload_n 0), (17, .iload 4), (19, .iload_n 3), (20, .iastore), (21, .iinc 4 1), (24, .goto (-14)), (27, .return_)]
/-- java/lang/Math.max(II)I -/
def pm_l172 : List (Nat × Instr) := [(0, .iload_n 0), (1, .iload_n 1), (2, .if_icmp .lt 7), (5, .iload_n 0), (6, .goto 4), (9, .iload_n 1), (10, .ireturn)]
/-- java/lang/Math.min(II)I -/
def pm_l173 : List (Nat × Instr) := [(0, .iload_n 0), (1, .iload_n 1), (2, .if_icmp .gt 7), (5, .iload_n 0), (6, .goto 4), (9, .iload_n 1), (10, .ireturn)]
/-- QuietCheckerLaw.law([I)Z -/
def pm_l174 : List (Nat × Instr) := [(0, .new 8), (3, .dup), (4, .invokespecial 37), (7, .astore_n 1), (8, .new 38), (11, .dup), (12, .invokespecial 40), (15, .astore_n 2), (16, .iconst 1), (17, .newarray .long), (19, .astore_n 3), (20, .iconst 0), (21, .istore 4), (23, .iload 4), (25, .aload_n 0), (26, .arraylength), (27, .iconst 4), (28, .isub), (29, .if_icmp .gt 564), (32, .aload_n 0), (33, .iload 4), (35, .iaload), (36, .bipush 15), (38, .iand), (39, .tableswitch 548 0 8 #[49, 118, 131, 191, 247, 303, 371, 427, 523]), (88, .aload_n 1), (89, .aload_n 0), (90, .iload 4), (92, .iconst 1), (93, .iadd), (94, .iaload), (95, .i2l), (96, .bipush 32), (98, .lshl), (99, .aload_n 0), (100, .iload 4), (102, .iconst 2), (103, .iadd), (104, .iaload), (105, .i2l), (106, .ldc2_w 41), (109, .land), (110, .lor), (111, .aload_n 0), (112, .iload 4), (114, .iconst 3), (115, .iadd), (116, .iaload), (117, .invokevirtual 43), (120, .aload_n 2), (121, .aload_n 0), (122, .iload 4), (124, .iconst 1), (125, .iadd), (126, .iaload), (127, .i2l), (128, .bipush 32), (130, .lshl), (131, .aload_n 0), (132, .iload 4), (134, .iconst 2), (135, .iadd), (136, .iaload), (137, .i2l), (138, .ldc2_w 41), (141, .land), (142, .lor), (143, .aload_n 0), (144, .iload 4), (146, .iconst 3), (147, .iadd), (148, .iaload), (149, .invokevirtual 47), (152, .if_icmp .eq 435), (155, .iconst 0), (156, .ireturn), (157, .aload_n 1), (158, .invokevirtual 48), (161, .aload_n 2), (162, .invokevirtual 52), (165, .if_icmp .eq 422), (168, .iconst 0), (169, .ireturn), (170, .aload_n 1), (171, .aload_n 0), (172, .iload 4), (174, .iconst 1), (175, .iadd), (176, .iaload), (177, .aload_n 0), (178, .iload 4), (180, .iconst 2), (181, .iadd), (182, .iaload), (183, .aload_n 0), (184, .iload 4), (186, .iconst 3), (187, .iadd), (188, .iaload), (189, .invokestatic 53), (192, .istore 5), (194, .aload_n 2), (195, .aload_n 0), (196, .iload 4), (198, .iconst 1), (199, .iadd), (200, .iaload), (201, .aload_n 0), (202, .iload 4), (204, .iconst 2), (205, .iadd), (206, .iaload), (207, .aload_n 0), (208, .iload 4), (210, .iconst 3), (211, .iadd), (212, .iaload), (213, .invokevirtual 58), (216, .aload_n 2), (217, .invokevirtual 59), (220, .iload 5), (222, .if_icmp .eq 5), (225, .iconst 0), (226, .ireturn), (227, .goto 360), (230, .aload_n 1), (231, .aload_n 0), (232, .iload 4), (234, .iconst 1), (235, .iadd), (236, .iaload), (237, .aload_n 3), (238, .invokestatic 62), (241, .istore 5), (243, .aload_n 2), (244, .aload_n 0), (245, .iload 4), (247, .iconst 1), (248, .iadd), (249, .iaload), (250, .invokevirtual 65), (253, .istore 6), (255, .aload_n 2), (256, .invokevirtual 59), (259, .iload 5), (261, .if_icmp .eq 5), (264, .iconst 0), (265, .ireturn), (266, .iload 5), (268, .ifCond .ne 15), (271, .aload_n 3), (272, .iconst 0), (273, .laload), (274, .iload 6), (276, .i2l), (277, .lcmp), (278, .ifCond .eq 5), (281, .iconst 0), (282, .ireturn), (283, .goto 304), (286, .aload_n 1), (287, .aload_n 0), (288, .iload 4), (290, .iconst 1), (291, .iadd), (292, .iaload), (293, .aload_n 3), (294, .invokestatic 66), (297, .istore 5), (299, .aload_n 2), (300, .aload_n 0), (301, .iload 4), (303, .iconst 1), (304, .iadd), (305, .iaload), (306, .invokevirtual 68), (309, .istore 6), (311, .aload_n 2), (312, .invokevirtual 59), (315, .iload 5), (317, .if_icmp .eq 5), (320, .iconst 0), (321, .ireturn), (322, .iload 5), (324, .ifCond .ne 15), (327, .aload_n 3), (328, .iconst 0), (329, .laload), (330, .iload 6), (332, .i2l), (333, .lcmp), (334, .ifCond .eq 5), (337, .iconst 0), (338, .ireturn), (339, .goto 248), (342, .aload_n 1), (343, .aload_n 0), (344, .iload 4), (346, .iconst 1), (347, .iadd), (348, .iaload), (349, .aload_n 0), (350, .iload 4), (352, .iconst 2), (353, .iadd), (354, .iaload), (355, .aload_n 3), (356, .invokestatic 69), (359, .istore 5), (361, .aload_n 2), (362, .aload_n 0), (363, .iload 4), (365, .iconst 1), (366, .iadd), (367, .iaload), (368, .aload_n 0), (369, .iload 4), (371, .iconst 2), (372, .iadd), (373, .iaload), (374, .invokevirtual 72), (377, .istore 6), (379, .aload_n 2), (380, .invokevirtual 59), (383, .iload 5), (385, .if_icmp .eq 5), (388, .iconst 0), (389, .ireturn), (390, .iload 5), (392, .ifCond .ne 15), (395, .aload_n 3), (396, .iconst 0), (397, .laload), (398, .iload 6), (400, .i2l), (401, .lcmp), (402, .ifCond .eq 5), (405, .iconst 0), (406, .ireturn), (407, .goto 180), (410, .aload_n 1), (411, .aload_n 0), (412, .iload 4), (414, .iconst 1), (415, .iadd), (416, .iaload), (417, .aload_n 3), (418, .invokestatic 73), (421, .istore 5), (423, .aload_n 2), (424, .aload_n 0), (425, .iload 4), (427, .iconst 1), (428, .iadd), (429, .iaload), (430, .invokevirtual 75), (433, .istore 6), (435, .aload_n 2), (436, .invokevirtual 59), (439, .iload 5), (441, .if_icmp .eq 5), (444, .iconst 0), (445, .ireturn), (446, .iload 5), (448, .ifCond .ne 15), (451, .aload_n 3), (452, .iconst 0), (453, .laload), (454, .iload 6), (456, .i2l), (457, .lcmp), (458, .ifCond .eq 5), (461, .iconst 0), (462, .ireturn), (463, .goto 124), (466, .aload_n 1), (467, .aload_n 0), (468, .iload 4), (470, .iconst 1), (471, .iadd), (472, .iaload), (473, .aload_n 0), (474, .iload 4), (476, .iconst 2), (477, .iadd), (478, .iaload), (479, .ifCond .eq 7), (482, .iconst 1), (483, .goto 4), (486, .iconst 0), (487, .aload_n 0), (488, .iload 4), (490, .iconst 3), (491, .iadd), (492, .iaload), (493, .aload_n 3), (494, .invokestatic 76), (497, .istore 5), (499, .aload_n 2), (500, .aload_n 0), (501, .iload 4), (503, .iconst 1), (504, .iadd), (505, .iaload), (506, .aload_n 0), (507, .iload 4), (509, .iconst 2), (510, .iadd), (511, .iaload), (512, .ifCond .eq 7), (515, .iconst 1), (516, .goto 4), (519, .iconst 0), (520, .aload_n 0), (521, .iload 4), (523, .iconst 3), (524, .iadd), (525, .iaload), (526, .invokevirtual 79), (529, .istore 6), (531, .aload_n 2), (532, .invokevirtual 59), (535, .iload 5), (537, .if_icmp .eq 5), (540, .iconst 0), (541, .ireturn), (542, .iload 5), (544, .ifCond .ne 15), (547, .aload_n 3), (548, .iconst 0), (549, .laload), (550, .iload 6), (552, .i2l), (553, .lcmp), (554, .ifCond .eq 5), (557, .iconst 0), (558, .ireturn), (559, .goto 28), (562, .aload_n 1), (563, .aload_n 0), (564, .iload 4), (566, .iconst 1), (567, .iadd), (568, .iaload), (569, .invokevirtual 80), (572, .aload_n 2), (573, .aload_n 0), (574, .iload 4), (576, .iconst 1), (577, .iadd), (578, .iaload), (579, .invokevirtual 83), (582, .if_icmp .eq 5), (585, .iconst 0), (586, .ireturn), (587, .iinc 4 4), (590, .goto (-567)), (593, .iconst 1), (594, .ireturn)]
/-- QuietCheckerLaw.put(LQuietChecker;III)I -/
def pm_l175 : List (Nat × Instr) := [(0, .aload_n 0), (1, .iload_n 1), (2, .iload_n 2), (3, .iload_n 3), (4, .invokevirtual 7), (7, .goto 11), (10, .astore 4), (12, .iconst 1), (13, .ireturn), (14, .astore 4), (16, .iconst 2), (17, .ireturn), (18, .iconst 0), (19, .ireturn)]
/-- QuietCheckerLaw.run(LQuietChecker;I[J)I -/
def pm_l176 : List (Nat × Instr) := [(0, .aload_n 2), (1, .iconst 0), (2, .aload_n 0), (3, .iload_n 1), (4, .invokevirtual 17), (7, .i2l), (8, .lastore), (9, .goto 9), (12, .astore_n 3), (13, .iconst 1), (14, .ireturn), (15, .astore_n 3), (16, .iconst 2), (17, .ireturn), (18, .iconst 0), (19, .ireturn)]
/-- QuietCheckerLaw.twin(LQuietChecker;I[J)I -/
def pm_l177 : List (Nat × Instr) := [(0, .aload_n 2), (1, .iconst 0), (2, .aload_n 0), (3, .iload_n 1), (4, .invokevirtual 23), (7, .i2l), (8, .lastore), (9, .goto 6), (12, .astore_n 3), (13, .iconst 1), (14, .ireturn), (15, .iconst 0), (16, .ireturn)]
/-- QuietCheckerLaw.value(LQuietChecker;II[J)I -/
def pm_l178 : List (Nat × Instr) := [(0, .aload_n 3), (1, .iconst 0), (2, .aload_n 0), (3, .iload_n 1), (4, .iload_n 2), (5, .invokevirtual 26), (8, .i2l), (9, .lastore), (10, .goto 11), (13, .astore 4), (15, .iconst 1), (16, .ireturn), (17, .astore 4), (19, .iconst 2), (20, .ireturn), (21, .iconst 0), (22, .ireturn)]
/-- QuietCheckerLaw.note(LQuietChecker;I[J)I -/
def pm_l179 : List (Nat × Instr) := [(0, .aload_n 2), (1, .iconst 0), (2, .aload_n 0), (3, .iload_n 1), (4, .invokevirtual 30), (7, .i2l), (8, .lastore), (9, .goto 9), (12, .astore_n 3), (13, .iconst 1), (14, .ireturn), (15, .astore_n 3), (16, .iconst 2), (17, .ireturn), (18, .iconst 0), (19, .ireturn)]
/-- QuietCheckerLaw.letter(LQuietChecker;IZI[J)I -/
def pm_l180 : List (Nat × Instr) := [(0, .aload 4), (2, .iconst 0), (3, .aload_n 0), (4, .iload_n 1), (5, .iload_n 2), (6, .iload_n 3), (7, .invokevirtual 33), (10, .i2l), (11, .lastore), (12, .goto 7), (15, .astore 5), (17, .iconst 1), (18, .ireturn), (19, .iconst 0), (20, .ireturn)]
def pm_cds : List (List (Nat × Instr)) := [pm_l0, pm_l1, pm_l2, pm_l3, pm_l4, pm_l5, pm_l6, pm_l7, pm_l8, pm_l9, pm_l10, pm_l11, pm_l12, pm_l13, pm_l14, pm_l15, pm_l16, pm_l17, pm_l18, pm_l19, pm_l20, pm_l21, pm_l22, pm_l23, pm_l24, pm_l25, pm_l26, pm_l27, pm_l28, pm_l29, pm_l30, pm_l31, pm_l32, pm_l33, pm_l34, pm_l35, pm_l36, pm_l37, pm_l38, pm_l39, pm_l40, pm_l41, pm_l42, pm_l43, pm_l44, pm_l45, pm_l46, pm_l47, pm_l48, pm_l49, pm_l50, pm_l51, pm_l52, pm_l53, pm_l54, pm_l55, pm_l56, pm_l57, pm_l58, pm_l59, pm_l60, pm_l61, pm_l62, pm_l63, pm_l64, pm_l65, pm_l66, pm_l67, pm_l68, pm_l69, pm_l70, pm_l71, pm_l72, pm_l73, pm_l74, pm_l75, pm_l76, pm_l77, pm_l78, pm_l79, pm_l80, pm_l81, pm_l82, pm_l83, pm_l84, pm_l85, pm_l86, pm_l87, pm_l88, pm_l89, pm_l90, pm_l91, pm_l92, pm_l93, pm_l94, pm_l95, pm_l96, pm_l97, pm_l98, pm_l99, pm_l100, pm_l101, pm_l102, pm_l103, pm_l104, pm_l105, pm_l106, pm_l107, pm_l108, pm_l109, pm_l110, pm_l111, pm_l112, pm_l113, pm_l114, pm_l115, pm_l116, pm_l117, pm_l118, pm_l119, pm_l120, pm_l121, pm_l122, pm_l123, pm_l124, pm_l125, pm_l126, pm_l127, pm_l128, pm_l129, pm_l130, pm_l131, pm_l132, pm_l133, pm_l134, pm_l135, pm_l136, pm_l137, pm_l138, pm_l139, pm_l140, pm_l141, pm_l142, pm_l143, pm_l144, pm_l145, pm_l146, pm_l147, pm_l148, pm_l149, pm_l150, pm_l151, pm_l152, pm_l153, pm_l154, pm_l155, pm_l156, pm_l157, pm_l158, pm_l159, pm_l160, pm_l161, pm_l162, pm_l163, pm_l164, pm_l165, pm_l166, pm_l167, pm_l168, pm_l169, pm_l170, pm_l171, pm_l172, pm_l173, pm_l174, pm_l175, pm_l176, pm_l177, pm_l178, pm_l179, pm_l180]
def pm_code (mi : Nat) : List (Nat × Instr) := pm_cds.getD mi []
end
section
/-! A pure machine for the bytecode of methods that make nothing and throw nothing: its steps are functions; its heap is three functions (ints, longs, references) by the number of a cell and a place in it. Part 1: values, locals, steps without heap. -/
abbrev pm_H : Type := (Nat → Nat → Int32) × (Nat → Nat → Int64) × (Nat → Nat → Option Nat)
abbrev pm_L : Type := List (Nat × Value)
/-- a value of the pure machine names a cell by its number; rho gives the address -/
def pm_cv (rho : Nat → Nat) (v : Value) : Value := match v with
  | .ref a => .ref (rho a)
  | w => w
def pm_cL (rho : Nat → Nat) (L : pm_L) : pm_L := L.map (fun q => (q.1, pm_cv rho q.2))
def pm_cS (rho : Nat → Nat) (S : List Value) : List Value := S.map (pm_cv rho)
theorem pm_cv_cat (rho : Nat → Nat) (v : Value) : (pm_cv rho v).category = v.category := by cases v <;> rfl
/-- what a local holds -/
def pm_at : pm_L → Nat → Option Value
  | [], _ => none
  | q :: L, k => bif Nat.beq q.1 k then some q.2 else pm_at L k
def pm_atI (L : pm_L) (k : Nat) : Option Int32 := match pm_at L k with
  | some (.int x) => some x
  | _ => none
def pm_atL (L : pm_L) (k : Nat) : Option Int64 := match pm_at L k with
  | some (.long x) => some x
  | _ => none
def pm_atR (L : pm_L) (k : Nat) : Option Nat := match pm_at L k with
  | some (.ref x) => some x
  | _ => none
def pm_st1 (L : pm_L) (i : Nat) (v : Value) : pm_L := (i, v) :: L.filter (fun q => !(q.1 == i) && !(q.1 + 1 == i && q.2.category == 2))
def pm_st2 (L : pm_L) (i : Nat) (v : Value) : pm_L := (i, v) :: L.filter (fun q => !(q.1 == i) && (!(q.1 == i + 1) && !(q.1 + 1 == i && q.2.category == 2)))
theorem pm_at_mem : ∀ {L : pm_L} {k : Nat} {v : Value}, pm_at L k = some v → (k, v) ∈ L := by
  intro L
  induction L with
  | nil => intro k v h; cases h
  | cons q L ih =>
    intro k v h
    unfold pm_at at h
    cases hb : Nat.beq q.1 k with
    | true =>
      rw [hb] at h
      have h1 : q.1 = k := Nat.eq_of_beq_eq_true hb
      have h2 : q.2 = v := Option.some.inj h
      rw [← h1, ← h2]
      exact List.mem_cons_self
    | false =>
      rw [hb] at h
      exact List.mem_cons_of_mem _ (ih h)
theorem pm_lv {rho : Nat → Nat} {ls : Array Slot} {n : Nat} {L : pm_L} (hl : lv_has ls n (pm_cL rho L)) {k : Nat} {v : Value} (h : pm_at L k = some v) : ls[k]? = some (.val (pm_cv rho v)) :=
  hl.2.2 (k, pm_cv rho v) (List.mem_map.mpr ⟨(k, v), pm_at_mem h, rfl⟩)
theorem pm_lvI {rho : Nat → Nat} {ls : Array Slot} {n : Nat} {L : pm_L} (hl : lv_has ls n (pm_cL rho L)) {k : Nat} {x : Int32} (h : pm_atI L k = some x) : ls[k]? = some (.val (.int x)) := by
  unfold pm_atI at h
  split at h
  · rename_i y e
    cases h
    exact pm_lv hl e
  · cases h
theorem pm_lvL {rho : Nat → Nat} {ls : Array Slot} {n : Nat} {L : pm_L} (hl : lv_has ls n (pm_cL rho L)) {k : Nat} {x : Int64} (h : pm_atL L k = some x) : ls[k]? = some (.val (.long x)) := by
  unfold pm_atL at h
  split at h
  · rename_i y e
    cases h
    exact pm_lv hl e
  · cases h
theorem pm_lvR {rho : Nat → Nat} {ls : Array Slot} {n : Nat} {L : pm_L} (hl : lv_has ls n (pm_cL rho L)) {k : Nat} {x : Nat} (h : pm_atR L k = some x) : ls[k]? = some (.val (.ref (rho x))) := by
  unfold pm_atR at h
  split at h
  · rename_i y e
    cases h
    exact pm_lv hl e
  · cases h
theorem pm_st1_c (rho : Nat → Nat) (L : pm_L) (i : Nat) (v : Value) : (i, pm_cv rho v) :: (pm_cL rho L).filter (fun q => !(q.1 == i) && !(q.1 + 1 == i && q.2.category == 2)) = pm_cL rho (pm_st1 L i v) := by
  unfold pm_st1 pm_cL
  rw [List.map_cons, List.filter_map]
  congr 2
  apply List.filter_congr
  intro q _
  simp [pm_cv_cat]
theorem pm_st2_c (rho : Nat → Nat) (L : pm_L) (i : Nat) (v : Value) : (i, pm_cv rho v) :: (pm_cL rho L).filter (fun q => !(q.1 == i) && (!(q.1 == i + 1) && !(q.1 + 1 == i && q.2.category == 2))) = pm_cL rho (pm_st2 L i v) := by
  unfold pm_st2 pm_cL
  rw [List.map_cons, List.filter_map]
  congr 2
  apply List.filter_congr
  intro q _
  simp [pm_cv_cat]
/-- constants, loads: what is pushed -/
def pm_push (i : Instr) (L : pm_L) : Option Value := match i with
  | .iconst n => some (.int (Int32.ofInt n))
  | .bipush n => some (.int (Int8.ofInt n).toInt32)
  | .sipush n => some (.int (Int16.ofInt n).toInt32)
  | .lconst n => some (.long (Int64.ofNat (n : Nat)))
  | .iload_n k => (pm_atI L k).map Value.int
  | .iload k => (pm_atI L k).map Value.int
  | .lload_n k => (pm_atL L k).map Value.long
  | .lload k => (pm_atL L k).map Value.long
  | .aload_n k => (pm_atR L k).map Value.ref
  | .aload k => (pm_atR L k).map Value.ref
  | _ => none
/-- stores and iinc -/
def pm_sto (i : Instr) (mx : Nat) (L : pm_L) (S : List Value) : Option (pm_L × List Value) := match i with
  | .istore_n k => match S with
    | .int x :: S' => bif Nat.blt k mx then some (pm_st1 L k (.int x), S') else none
    | _ => none
  | .istore k => match S with
    | .int x :: S' => bif Nat.blt k mx then some (pm_st1 L k (.int x), S') else none
    | _ => none
  | .astore_n k => match S with
    | .ref x :: S' => bif Nat.blt k mx then some (pm_st1 L k (.ref x), S') else none
    | _ => none
  | .astore k => match S with
    | .ref x :: S' => bif Nat.blt k mx then some (pm_st1 L k (.ref x), S') else none
    | _ => none
  | .lstore_n k => match S with
    | .long x :: S' => bif Nat.blt (k + 1) mx then some (pm_st2 L k (.long x), S') else none
    | _ => none
  | .lstore k => match S with
    | .long x :: S' => bif Nat.blt (k + 1) mx then some (pm_st2 L k (.long x), S') else none
    | _ => none
  | .iinc k n => match pm_atI L k with
    | some x => bif Nat.blt k mx then some (pm_st1 L k (.int (x + Int32.ofInt n)), S) else none
    | none => none
  | _ => none
/-- arithmetic and the stack -/
def pm_ari (i : Instr) (S : List Value) : Option (List Value) := match i with
  | .iadd => match S with
    | .int y :: .int x :: S' => some (.int (x + y) :: S')
    | _ => none
  | .isub => match S with
    | .int y :: .int x :: S' => some (.int (x - y) :: S')
    | _ => none
  | .imul => match S with
    | .int y :: .int x :: S' => some (.int (x * y) :: S')
    | _ => none
  | .idiv => match S with
    | .int y :: .int x :: S' => if y = 0 then none else some (.int (x / y) :: S')
    | _ => none
  | .irem => match S with
    | .int y :: .int x :: S' => if y = 0 then none else some (.int (x - x / y * y) :: S')
    | _ => none
  | .iand => match S with
    | .int y :: .int x :: S' => some (.int (x &&& y) :: S')
    | _ => none
  | .ior => match S with
    | .int y :: .int x :: S' => some (.int (x ||| y) :: S')
    | _ => none
  | .ixor => match S with
    | .int y :: .int x :: S' => some (.int (x ^^^ y) :: S')
    | _ => none
  | .ineg => match S with
    | .int x :: S' => some (.int (-x) :: S')
    | _ => none
  | .ishl => match S with
    | .int y :: .int x :: S' => some (.int (x <<< (y &&& 31)) :: S')
    | _ => none
  | .ishr => match S with
    | .int y :: .int x :: S' => some (.int (x >>> (y &&& 31)) :: S')
    | _ => none
  | .iushr => match S with
    | .int y :: .int x :: S' => some (.int ((x.toUInt32 >>> (y.toUInt32 &&& Int32.toUInt32 31)).toInt32) :: S')
    | _ => none
  | .dup => match S with
    | .int x :: S' => some (.int x :: .int x :: S')
    | .ref x :: S' => some (.ref x :: .ref x :: S')
    | _ => none
  | .dup_x1 => match S with
    | .int x :: .ref y :: S' => some (.int x :: .ref y :: .int x :: S')
    | .int x :: .int y :: S' => some (.int x :: .int y :: .int x :: S')
    | _ => none
  | .dup2 => match S with
    | .int x :: .ref y :: S' => some (.int x :: .ref y :: .int x :: .ref y :: S')
    | _ => none
  | .pop => match S with
    | .int _ :: S' => some S'
    | .ref _ :: S' => some S'
    | _ => none
  | .i2l => match S with
    | .int x :: S' => some (.long x.toInt64 :: S')
    | _ => none
  | .l2i => match S with
    | .long x :: S' => some (.int x.toInt32 :: S')
    | _ => none
  | .i2c => match S with
    | .int x :: S' => some (.int ((x.toUInt32 % 65536).toInt32) :: S')
    | _ => none
  | .ladd => match S with
    | .long y :: .long x :: S' => some (.long (x + y) :: S')
    | _ => none
  | .lsub => match S with
    | .long y :: .long x :: S' => some (.long (x - y) :: S')
    | _ => none
  | .lmul => match S with
    | .long y :: .long x :: S' => some (.long (x * y) :: S')
    | _ => none
  | .land => match S with
    | .long y :: .long x :: S' => some (.long (x &&& y) :: S')
    | _ => none
  | .lor => match S with
    | .long y :: .long x :: S' => some (.long (x ||| y) :: S')
    | _ => none
  | .lshl => match S with
    | .int y :: .long x :: S' => some (.long (x <<< (y.toInt64 &&& 63)) :: S')
    | _ => none
  | .lshr => match S with
    | .int y :: .long x :: S' => some (.long (x >>> (y.toInt64 &&& 63)) :: S')
    | _ => none
  | .lushr => match S with
    | .int y :: .long x :: S' => some (.long ((x.toUInt64 >>> (y.toInt64.toUInt64 &&& Int64.toUInt64 63)).toInt64) :: S')
    | _ => none
  | .lcmp => match S with
    | .long y :: .long x :: S' => some (.int (lg_cmp x y) :: S')
    | _ => none
  | _ => none
end
section
/-! The pure machine's steps without heap are the machine's -/
/-- an instruction's length; 0 where it depends on its place (switches) -/
def pm_ln (i : Instr) : Nat := match i with
  | .bipush _ => 2
  | .iload _ => 2
  | .lload _ => 2
  | .aload _ => 2
  | .istore _ => 2
  | .lstore _ => 2
  | .astore _ => 2
  | .iinc _ _ => 3
  | .sipush _ => 3
  | .ldc2_w _ => 3
  | .getfield _ => 3
  | .putfield _ => 3
  | .getstatic _ => 3
  | .invokevirtual _ => 3
  | .invokestatic _ => 3
  | .invokespecial _ => 3
  | .goto _ => 3
  | .ifCond _ _ => 3
  | .if_icmp _ _ => 3
  | .if_acmp _ _ => 3
  | .new _ => 3
  | .newarray _ => 2
  | .anewarray _ => 3
  | .checkcast _ => 3
  | .instanceof _ => 3
  | .ldc _ => 2
  | .ldc_w _ => 3
  | .ifnull _ => 3
  | .ifnonnull _ => 3
  | .invokeinterface _ _ => 5
  | .putstatic _ => 3
  | .tableswitch _ _ _ _ => 0
  | .lookupswitch _ _ => 0
  | _ => 1
section PM1
variable {p : Program} {l : Launch} {e : Env} {R : Room} {s : State} {m : MethodId} {args : Array Value} {below : List Frame} {meth : Method} {c : Code} {H : Heap} {locs : List Loc} {cells slots : Nat} {Q : State → Prop} {cc : ByteArray} {pc : Nat} {ls : Array Slot} {rho : Nat → Nat} {n : Nat} {L : pm_L} {S : List Value}
theorem pm_push_snd (hx : p.tables.exec = Jvm.exec) (hb : c.code = cc) {i : Instr} {v : Value} (hdg : decode cc pc = .ok (i, pm_ln i)) (hl : lv_has ls n (pm_cL rho L)) (h : pm_push i L = some v)
    (k : W p l e R s m args below meth c H locs cells slots Q (F0 m (pc + pm_ln i) ls (pm_cS rho (v :: S)))) : W p l e R s m args below meth c H locs cells slots Q (F0 m pc ls (pm_cS rho S)) := by
  unfold pm_push at h
  split at h
  · cases h; exact lv_iconst hx hb hdg rfl k
  · cases h; exact lv_bipush hx hb hdg rfl k
  · cases h; exact lv_sipush hx hb hdg rfl k
  · cases h; exact lv_lconst hx hb hdg rfl k
  · obtain ⟨x, h1, rfl⟩ := Option.map_eq_some_iff.mp h; exact lv_iload_n hx hb hdg rfl (pm_lvI hl h1) k
  · obtain ⟨x, h1, rfl⟩ := Option.map_eq_some_iff.mp h; exact lv_iload hx hb hdg (pm_lvI hl h1) k
  · obtain ⟨x, h1, rfl⟩ := Option.map_eq_some_iff.mp h; exact lv_lload_n hx hb hdg rfl (pm_lvL hl h1) k
  · obtain ⟨x, h1, rfl⟩ := Option.map_eq_some_iff.mp h; exact lv_lload hx hb hdg (pm_lvL hl h1) k
  · obtain ⟨x, h1, rfl⟩ := Option.map_eq_some_iff.mp h; exact lv_aload_n hx hb hdg rfl (pm_lvR hl h1) k
  · obtain ⟨x, h1, rfl⟩ := Option.map_eq_some_iff.mp h; exact lv_aload hx hb hdg (pm_lvR hl h1) k
  · cases h
theorem pm_bif {α : Type} {b : Bool} {x y : α} (h : (bif b then some x else none) = some y) : b = true ∧ x = y := by
  cases b with
  | true => exact ⟨rfl, Option.some.inj h⟩
  | false => cases h
theorem pm_blt {a b : Nat} (h : Nat.blt a b = true) : a < b := Nat.lt_of_succ_le (Nat.le_of_ble_eq_true h)
theorem pm_sto_snd (hx : p.tables.exec = Jvm.exec) (hb : c.code = cc) {i : Instr} {L' : pm_L} {S' : List Value} (hdg : decode cc pc = .ok (i, pm_ln i)) (hl : lv_has ls n (pm_cL rho L)) (h : pm_sto i n L S = some (L', S'))
    (k : ∀ ls' : Array Slot, lv_has ls' n (pm_cL rho L') → W p l e R s m args below meth c H locs cells slots Q (F0 m (pc + pm_ln i) ls' (pm_cS rho S'))) : W p l e R s m args below meth c H locs cells slots Q (F0 m pc ls (pm_cS rho S)) := by
  unfold pm_sto at h
  split at h
  · split at h
    · obtain ⟨h1, h2⟩ := pm_bif h; cases h2
      exact lv_istore_n hx hb hdg rfl hl (pm_blt h1) (pm_st1_c rho L _ (.int _)) k
    · cases h
  · split at h
    · obtain ⟨h1, h2⟩ := pm_bif h; cases h2
      exact lv_istore hx hb hdg hl (pm_blt h1) (pm_st1_c rho L _ (.int _)) k
    · cases h
  · split at h
    · obtain ⟨h1, h2⟩ := pm_bif h; cases h2
      exact lv_astore_n hx hb hdg rfl hl (pm_blt h1) (pm_st1_c rho L _ (.ref _)) k
    · cases h
  · split at h
    · obtain ⟨h1, h2⟩ := pm_bif h; cases h2
      exact lv_astore hx hb hdg hl (pm_blt h1) (pm_st1_c rho L _ (.ref _)) k
    · cases h
  · split at h
    · obtain ⟨h1, h2⟩ := pm_bif h; cases h2
      exact lv_lstore_n hx hb hdg rfl hl (pm_blt h1) (pm_st2_c rho L _ (.long _)) k
    · cases h
  · split at h
    · obtain ⟨h1, h2⟩ := pm_bif h; cases h2
      exact lv_lstore hx hb hdg hl (pm_blt h1) (pm_st2_c rho L _ (.long _)) k
    · cases h
  · split at h
    · rename_i k0 n0 _ x hx0
      obtain ⟨h1, h2⟩ := pm_bif h; cases h2
      have hm : (k0, pm_cv rho (.int x)) ∈ pm_cL rho L := by
        unfold pm_atI at hx0
        split at hx0
        · rename_i y ey
          cases hx0
          exact List.mem_map.mpr ⟨(k0, .int x), pm_at_mem ey, rfl⟩
        · cases hx0
      obtain ⟨j, hj⟩ := List.getElem?_of_mem hm
      exact lv_iinc (k := j) hx hb hdg hl hj rfl (pm_blt h1) (pm_st1_c rho L _ (.int _)) k
    · cases h
  · cases h
theorem pm_ari_snd (hx : p.tables.exec = Jvm.exec) (hb : c.code = cc) {i : Instr} {S' : List Value} (hdg : decode cc pc = .ok (i, pm_ln i)) (h : pm_ari i S = some S')
    (k : W p l e R s m args below meth c H locs cells slots Q (F0 m (pc + pm_ln i) ls (pm_cS rho S'))) : W p l e R s m args below meth c H locs cells slots Q (F0 m pc ls (pm_cS rho S)) := by
  unfold pm_ari at h
  split at h
  · split at h
    · cases h; exact lv_iadd hx hb hdg k
    · cases h
  · split at h
    · cases h; exact lv_isub hx hb hdg k
    · cases h
  · split at h
    · cases h; exact lv_imul hx hb hdg k
    · cases h
  · split at h
    · split at h
      · cases h
      · rename_i hne
        cases h; exact lv_idiv hx hb hdg hne k
    · cases h
  · split at h
    · split at h
      · cases h
      · rename_i hne
        cases h; exact lv_irem hx hb hdg hne k
    · cases h
  · split at h
    · cases h; exact lv_iand hx hb hdg k
    · cases h
  · split at h
    · cases h; exact lv_ior hx hb hdg k
    · cases h
  · split at h
    · cases h; exact lv_ixor hx hb hdg k
    · cases h
  · split at h
    · cases h; exact lv_ineg hx hb hdg k
    · cases h
  · split at h
    · cases h; exact lv_ishl hx hb hdg k
    · cases h
  · split at h
    · cases h; exact lv_ishr hx hb hdg k
    · cases h
  · split at h
    · cases h; exact lv_iushr hx hb hdg rfl k
    · cases h
  · split at h
    · cases h; exact lv_dup hx hb hdg rfl k
    · cases h; exact lv_dup hx hb hdg rfl k
    · cases h
  · split at h
    · cases h; exact lv_dup_x1 hx hb hdg rfl rfl k
    · cases h; exact lv_dup_x1 hx hb hdg rfl rfl k
    · cases h
  · split at h
    · cases h; exact lv_dup2_11 hx hb hdg rfl rfl k
    · cases h
  · split at h
    · cases h; exact lv_pop (va := .int _) hx hb hdg rfl k
    · cases h; exact lv_pop (va := .ref _) hx hb hdg rfl k
    · cases h
  · split at h
    · cases h; exact lv_i2l hx hb hdg rfl k
    · cases h
  · split at h
    · cases h; exact lv_l2i hx hb hdg rfl k
    · cases h
  · split at h
    · cases h; exact lv_i2c hx hb hdg rfl k
    · cases h
  · split at h
    · cases h; exact lv_ladd hx hb hdg k
    · cases h
  · split at h
    · cases h; exact lv_lsub hx hb hdg k
    · cases h
  · split at h
    · cases h; exact lv_lmul hx hb hdg k
    · cases h
  · split at h
    · cases h; exact lv_land hx hb hdg k
    · cases h
  · split at h
    · cases h; exact lv_lor hx hb hdg k
    · cases h
  · split at h
    · cases h; exact lv_lshl hx hb hdg rfl k
    · cases h
  · split at h
    · cases h; exact lv_lshr hx hb hdg rfl k
    · cases h
  · split at h
    · cases h; exact lv_lushr hx hb hdg rfl k
    · cases h
  · split at h
    · cases h; exact W.lcmp hx hb hdg k
    · cases h
  · cases h
end PM1
end
section
/-! Branches -/
def pm_jmp (pc : Nat) (off : Int) : Option Nat := match (pc : Int) + off with
  | .ofNat t => some t
  | .negSucc _ => none
theorem pm_jmp_eq {pc t : Nat} {off : Int} (h : pm_jmp pc off = some t) : (pc : Int) + off = (t : Int) := by
  unfold pm_jmp at h
  split at h
  · rename_i t0 e0
    cases h
    exact e0
  · cases h
/-- a condition that the walk asks: where it goes -/
def pm_if (b : Bool) (pc : Nat) (off : Int) (S : List Value) : Option (Nat × List Value) := match pm_jmp pc off with
  | some t => some (bif b then t else pc + 3, S)
  | none => none
def pm_c0 (c : ClassFile.Cond) (x : Int32) : Bool := match c with
  | .eq => decide (x = 0)
  | .ne => !decide (x = 0)
  | .lt => decide (x < 0)
  | .ge => decide (0 ≤ x)
  | .gt => decide (0 < x)
  | .le => decide (x ≤ 0)
def pm_c2 (c : ClassFile.Cond) (x y : Int32) : Bool := match c with
  | .eq => decide (x = y)
  | .ne => !decide (x = y)
  | .lt => decide (x < y)
  | .ge => decide (y ≤ x)
  | .gt => decide (y < x)
  | .le => decide (x ≤ y)
/-- the constants that may be compared: numbers 1000 .. 1000 + 63 -/
def pm_kc (a : Nat) : Bool := Nat.ble 1000 a && Nat.blt a 1064
def pm_br (i : Instr) (pc : Nat) (S : List Value) : Option (Nat × List Value) := match i with
  | .goto off => (pm_jmp pc off).map (fun t => (t, S))
  | .ifCond c off => match S with
    | .int x :: S' => pm_if (pm_c0 c x) pc off S'
    | _ => none
  | .if_icmp c off => match S with
    | .int y :: .int x :: S' => pm_if (pm_c2 c x y) pc off S'
    | _ => none
  | .if_acmp c off => match S with
    | .ref y :: .ref x :: S' => bif pm_kc x && pm_kc y then
        (match c with
          | .eq => pm_if (Nat.beq x y) pc off S'
          | .ne => pm_if (!Nat.beq x y) pc off S')
        else none
    | _ => none
  | .tableswitch d lo hi offs => match S with
    | .int x :: S' => if x.toInt < lo ∨ hi < x.toInt then (pm_jmp pc d).map (fun t => (t, S')) else
        (match offs[(x.toInt - lo).toNat]? with
          | some off => (pm_jmp pc off).map (fun t => (t, S'))
          | none => none)
    | _ => none
  | .lookupswitch d ps => match S with
    | .int x :: S' => bif (ps.toList.zip (ps.toList.drop 1)).all (fun (a, next) => a.1 < next.1) then (pm_jmp pc (Op.lookupswitch.offset ps.toList d x.toInt)).map (fun t => (t, S')) else none
    | _ => none
  | _ => none
section PM2
variable {p : Program} {l : Launch} {e : Env} {R : Room} {s : State} {m : MethodId} {args : Array Value} {below : List Frame} {meth : Method} {c : Code} {H : Heap} {locs : List Loc} {cells slots : Nat} {Q : State → Prop} {cc : ByteArray} {pc : Nat} {ls : Array Slot} {rho : Nat → Nat} {S : List Value}
theorem pm_if_t {b : Bool} {pc pc' : Nat} {off : Int} {S S' : List Value} (h : pm_if b pc off S = some (pc', S')) : S' = S ∧ ∃ t : Nat, (pc : Int) + off = (t : Int) ∧ (bif b then t else pc + 3) = pc' := by
  unfold pm_if at h
  split at h
  · rename_i t e
    cases h
    exact ⟨rfl, t, pm_jmp_eq e, rfl⟩
  · cases h
theorem pm_dT {P : Prop} {i : Decidable P} {A : Nat → Prop} {t u : Nat} (h : A (bif decide P then t else u)) : (P → A t) ∧ (¬ P → A u) := by
  refine ⟨fun z => ?_, fun z => ?_⟩
  · rw [decide_eq_true z] at h; exact h
  · rw [decide_eq_false z] at h; exact h
theorem pm_dN {P : Prop} {i : Decidable P} {A : Nat → Prop} {t u : Nat} (h : A (bif !decide P then t else u)) : (¬ P → A t) ∧ (P → A u) := by
  refine ⟨fun z => ?_, fun z => ?_⟩
  · rw [decide_eq_false z] at h; exact h
  · rw [decide_eq_true z] at h; exact h
theorem pm_br_snd (hx : p.tables.exec = Jvm.exec) (hb : c.code = cc) {i : Instr} {len pc' : Nat} {S' : List Value} (hdg : decode cc pc = .ok (i, len)) (hlen : pm_ln i = 0 ∨ len = pm_ln i) (hinj : ∀ a b, pm_kc a = true → pm_kc b = true → rho a = rho b → a = b) (h : pm_br i pc S = some (pc', S'))
    (k : W p l e R s m args below meth c H locs cells slots Q (F0 m pc' ls (pm_cS rho S'))) : W p l e R s m args below meth c H locs cells slots Q (F0 m pc ls (pm_cS rho S)) := by
  unfold pm_br at h
  split at h
  · have hlen := hlen.resolve_left (fun z => by cases z)
    subst hlen
    obtain ⟨t, h1, h2⟩ := Option.map_eq_some_iff.mp h
    cases h2
    exact lv_goto hx hb hdg (pm_jmp_eq h1) k
  · have hlen := hlen.resolve_left (fun z => by cases z)
    subst hlen
    split at h
    · rename_i cd off _ x S1
      obtain ⟨rfl, t, h4, h5⟩ := pm_if_t h
      subst h5
      cases cd with
      | eq =>
        obtain ⟨k1, k2⟩ := pm_dT (A := fun z => W p l e R s m args below meth c H locs cells slots Q (F0 m z ls (pm_cS rho S'))) k
        exact lv_if_eq hx hb hdg h4 k1 k2
      | ne =>
        obtain ⟨k1, k2⟩ := pm_dN (A := fun z => W p l e R s m args below meth c H locs cells slots Q (F0 m z ls (pm_cS rho S'))) k
        exact lv_if_ne hx hb hdg h4 k1 k2
      | lt =>
        obtain ⟨k1, k2⟩ := pm_dT (A := fun z => W p l e R s m args below meth c H locs cells slots Q (F0 m z ls (pm_cS rho S'))) k
        exact lv_if_lt hx hb hdg h4 k1 k2
      | ge =>
        obtain ⟨k1, k2⟩ := pm_dT (A := fun z => W p l e R s m args below meth c H locs cells slots Q (F0 m z ls (pm_cS rho S'))) k
        exact lv_if_ge hx hb hdg h4 k1 k2
      | gt =>
        obtain ⟨k1, k2⟩ := pm_dT (A := fun z => W p l e R s m args below meth c H locs cells slots Q (F0 m z ls (pm_cS rho S'))) k
        exact lv_if_gt hx hb hdg h4 k1 k2
      | le =>
        obtain ⟨k1, k2⟩ := pm_dT (A := fun z => W p l e R s m args below meth c H locs cells slots Q (F0 m z ls (pm_cS rho S'))) k
        exact lv_if_le hx hb hdg h4 k1 k2
    · cases h
  · have hlen := hlen.resolve_left (fun z => by cases z)
    subst hlen
    split at h
    · rename_i cd off _ y x S1
      obtain ⟨rfl, t, h4, h5⟩ := pm_if_t h
      subst h5
      cases cd with
      | eq =>
        obtain ⟨k1, k2⟩ := pm_dT (A := fun z => W p l e R s m args below meth c H locs cells slots Q (F0 m z ls (pm_cS rho S'))) k
        exact lv_icmp_eq hx hb hdg h4 k1 k2
      | ne =>
        obtain ⟨k1, k2⟩ := pm_dN (A := fun z => W p l e R s m args below meth c H locs cells slots Q (F0 m z ls (pm_cS rho S'))) k
        exact lv_icmp_ne hx hb hdg h4 k1 k2
      | lt =>
        obtain ⟨k1, k2⟩ := pm_dT (A := fun z => W p l e R s m args below meth c H locs cells slots Q (F0 m z ls (pm_cS rho S'))) k
        exact lv_icmp_lt hx hb hdg h4 k1 k2
      | ge =>
        obtain ⟨k1, k2⟩ := pm_dT (A := fun z => W p l e R s m args below meth c H locs cells slots Q (F0 m z ls (pm_cS rho S'))) k
        exact lv_icmp_ge hx hb hdg h4 k1 k2
      | gt =>
        obtain ⟨k1, k2⟩ := pm_dT (A := fun z => W p l e R s m args below meth c H locs cells slots Q (F0 m z ls (pm_cS rho S'))) k
        exact lv_icmp_gt hx hb hdg h4 k1 k2
      | le =>
        obtain ⟨k1, k2⟩ := pm_dT (A := fun z => W p l e R s m args below meth c H locs cells slots Q (F0 m z ls (pm_cS rho S'))) k
        exact lv_icmp_le hx hb hdg h4 k1 k2
    · cases h
  · have hlen := hlen.resolve_left (fun z => by cases z)
    subst hlen
    split at h
    · rename_i cd off _ y x S1
      cases hk : (pm_kc x && pm_kc y) with
      | false => rw [hk] at h; cases h
      | true =>
        rw [hk] at h
        obtain ⟨hkx, hky⟩ := Bool.and_eq_true_iff.mp hk
        have hiff : (some (rho x) = some (rho y)) ↔ x = y := ⟨fun z => hinj x y hkx hky (Option.some.inj z), fun z => by rw [z]⟩
        cases cd with
        | eq =>
          obtain ⟨rfl, t, h4, h5⟩ := pm_if_t h
          subst h5
          refine lv_acmp_eq (rx := some (rho x)) (ry := some (rho y)) hx hb hdg h4 (fun z => ?_) (fun z => ?_)
          · have z2 := hiff.mp z
            rw [z2, Nat.beq_refl] at k
            exact k
          · have z2 : Nat.beq x y = false := by
              cases hq : Nat.beq x y with
              | false => rfl
              | true => exact absurd (hiff.mpr (Nat.eq_of_beq_eq_true hq)) z
            rw [z2] at k
            exact k
        | ne =>
          obtain ⟨rfl, t, h4, h5⟩ := pm_if_t h
          subst h5
          refine lv_acmp_ne (rx := some (rho x)) (ry := some (rho y)) hx hb hdg h4 (fun z => ?_) (fun z => ?_)
          · have z2 : Nat.beq x y = false := by
              cases hq : Nat.beq x y with
              | false => rfl
              | true => exact absurd (hiff.mpr (Nat.eq_of_beq_eq_true hq)) z
            rw [z2] at k
            exact k
          · have z2 := hiff.mp z
            rw [z2, Nat.beq_refl] at k
            exact k
    · cases h
  · split at h
    · split at h
      · rename_i hout
        obtain ⟨t, h1, h2⟩ := Option.map_eq_some_iff.mp h
        cases h2
        exact lv_tableOut hx hb hdg hout (pm_jmp_eq h1) k
      · rename_i hout
        split at h
        · rename_i off ho
          obtain ⟨t, h1, h2⟩ := Option.map_eq_some_iff.mp h
          cases h2
          exact lv_tableIn hx hb hdg (fun z => hout (Or.inl z)) (fun z => hout (Or.inr z)) ho (pm_jmp_eq h1) k
        · cases h
    · cases h
  · split at h
    · rename_i d ps _ x S1
      cases hq : (ps.toList.zip (ps.toList.drop 1)).all (fun (a, next) => a.1 < next.1) with
      | false => rw [hq] at h; cases h
      | true =>
        rw [hq] at h
        obtain ⟨t, h1, h2⟩ := Option.map_eq_some_iff.mp h
        cases h2
        exact lv_lookup hx hb hdg hq rfl (pm_jmp_eq h1) k
    · cases h
  · cases h
end PM2
end
section
/-! The instructions' table is what decode says -/
def pm_okc (b : ByteArray) (q : Nat × Instr) : Bool := match decode b q.1 with
  | .ok (i, len) => decide (i = q.2) && (Nat.beq (pm_ln i) 0 || Nat.beq len (pm_ln i))
  | .error _ => false
def pm_okr (lo hi : Nat) : Bool := (List.range (hi - lo)).all (fun k => (pm_code (lo + k)).all (pm_okc (pm_by (lo + k))))
theorem pm_okr_at {lo hi : Nat} (h : pm_okr lo hi = true) {mi : Nat} (h1 : lo ≤ mi) (h2 : mi < hi) : (pm_code mi).all (pm_okc (pm_by mi)) = true := by
  have h3 := List.all_eq_true.mp h (mi - lo) (List.mem_range.mpr (by omega))
  rw [show lo + (mi - lo) = mi by omega] at h3
  exact h3
theorem pm_okr_1 {mi : Nat} (h : (pm_code mi).all (pm_okc (pm_by mi)) = true) : pm_okr mi (mi + 1) = true := by
  unfold pm_okr
  rw [show mi + 1 - mi = 1 by omega]
  refine List.all_eq_true.mpr (fun k hk => ?_)
  have : k = 0 := by have := List.mem_range.mp hk; omega
  subst this
  exact h
theorem pm_all_cut {l : List (Nat × Instr)} {f : Nat × Instr → Bool} (n : Nat) (h1 : (l.take n).all f = true) (h2 : (l.drop n).all f = true) : l.all f = true := by
  rw [← List.take_append_drop n l, List.all_append, h1, h2]
  rfl
set_option maxRecDepth 100000 in
theorem pm_ok_0 : pm_okr 0 9 = true := by decide +kernel
set_option maxRecDepth 100000 in
theorem pm_ok_1 : pm_okr 9 19 = true := by decide +kernel
set_option maxRecDepth 100000 in
theorem pm_ok_2 : pm_okr 19 24 = true := by decide +kernel
set_option maxRecDepth 100000 in
theorem pm_ok_3 : pm_okr 24 25 = true := by decide +kernel
set_option maxRecDepth 100000 in
theorem pm_okp_25_0 : ((pm_code 25).take 203).all (pm_okc (pm_by 25)) = true := by decide +kernel
set_option maxRecDepth 100000 in
theorem pm_okp_25_1 : ((pm_code 25).drop 203).all (pm_okc (pm_by 25)) = true := by decide +kernel
theorem pm_ok_4 : pm_okr 25 26 = true := pm_okr_1 (pm_all_cut 203 pm_okp_25_0 pm_okp_25_1)
set_option maxRecDepth 100000 in
theorem pm_ok_5 : pm_okr 26 37 = true := by decide +kernel
set_option maxRecDepth 100000 in
theorem pm_ok_6 : pm_okr 37 48 = true := by decide +kernel
set_option maxRecDepth 100000 in
theorem pm_ok_7 : pm_okr 48 54 = true := by decide +kernel
set_option maxRecDepth 100000 in
theorem pm_okp_54_0 : ((pm_code 54).take 213).all (pm_okc (pm_by 54)) = true := by decide +kernel
set_option maxRecDepth 100000 in
theorem pm_okp_54_1 : (((pm_code 54).drop 213).take 105).all (pm_okc (pm_by 54)) = true := by decide +kernel
set_option maxRecDepth 100000 in
theorem pm_okp_54_2 : ((((pm_code 54).drop 213).drop 105).take 83).all (pm_okc (pm_by 54)) = true := by decide +kernel
set_option maxRecDepth 100000 in
theorem pm_okp_54_3 : ((((pm_code 54).drop 213).drop 105).drop 83).all (pm_okc (pm_by 54)) = true := by decide +kernel
theorem pm_ok_8 : pm_okr 54 55 = true := pm_okr_1 (pm_all_cut 213 pm_okp_54_0 (pm_all_cut 105 pm_okp_54_1 (pm_all_cut 83 pm_okp_54_2 pm_okp_54_3)))
set_option maxRecDepth 100000 in
theorem pm_ok_9 : pm_okr 55 67 = true := by decide +kernel
set_option maxRecDepth 100000 in
theorem pm_ok_10 : pm_okr 67 103 = true := by decide +kernel
set_option maxRecDepth 100000 in
theorem pm_ok_11 : pm_okr 103 126 = true := by decide +kernel
set_option maxRecDepth 100000 in
theorem pm_ok_12 : pm_okr 126 139 = true := by decide +kernel
set_option maxRecDepth 100000 in
theorem pm_ok_13 : pm_okr 139 161 = true := by decide +kernel
set_option maxRecDepth 100000 in
theorem pm_ok_14 : pm_okr 161 174 = true := by decide +kernel
set_option maxRecDepth 100000 in
theorem pm_okp_174_0 : ((pm_code 174).take 240).all (pm_okc (pm_by 174)) = true := by decide +kernel
set_option maxRecDepth 100000 in
theorem pm_okp_174_1 : (((pm_code 174).drop 240).take 114).all (pm_okc (pm_by 174)) = true := by decide +kernel
set_option maxRecDepth 100000 in
theorem pm_okp_174_2 : (((pm_code 174).drop 240).drop 114).all (pm_okc (pm_by 174)) = true := by decide +kernel
theorem pm_ok_15 : pm_okr 174 175 = true := pm_okr_1 (pm_all_cut 240 pm_okp_174_0 (pm_all_cut 114 pm_okp_174_1 pm_okp_174_2))
set_option maxRecDepth 100000 in
theorem pm_ok_16 : pm_okr 175 181 = true := by decide +kernel
set_option maxRecDepth 100000 in
theorem pm_cds_len : pm_cds.length = 181 := by decide +kernel
theorem pm_code_none {mi : Nat} (h : 181 ≤ mi) : pm_code mi = [] := by
  unfold pm_code
  rw [List.getD_eq_getElem?_getD, List.getElem?_eq_none (by rw [pm_cds_len]; exact h)]
  rfl
theorem pm_code_ok (mi : Nat) : (pm_code mi).all (pm_okc (pm_by mi)) = true := by
  rcases Nat.lt_or_ge mi 9 with h | h0
  · exact pm_okr_at pm_ok_0 (Nat.zero_le _) h
  rcases Nat.lt_or_ge mi 19 with h | h1
  · exact pm_okr_at pm_ok_1 h0 h
  rcases Nat.lt_or_ge mi 24 with h | h2
  · exact pm_okr_at pm_ok_2 h1 h
  rcases Nat.lt_or_ge mi 25 with h | h3
  · exact pm_okr_at pm_ok_3 h2 h
  rcases Nat.lt_or_ge mi 26 with h | h4
  · exact pm_okr_at pm_ok_4 h3 h
  rcases Nat.lt_or_ge mi 37 with h | h5
  · exact pm_okr_at pm_ok_5 h4 h
  rcases Nat.lt_or_ge mi 48 with h | h6
  · exact pm_okr_at pm_ok_6 h5 h
  rcases Nat.lt_or_ge mi 54 with h | h7
  · exact pm_okr_at pm_ok_7 h6 h
  rcases Nat.lt_or_ge mi 55 with h | h8
  · exact pm_okr_at pm_ok_8 h7 h
  rcases Nat.lt_or_ge mi 67 with h | h9
  · exact pm_okr_at pm_ok_9 h8 h
  rcases Nat.lt_or_ge mi 103 with h | h10
  · exact pm_okr_at pm_ok_10 h9 h
  rcases Nat.lt_or_ge mi 126 with h | h11
  · exact pm_okr_at pm_ok_11 h10 h
  rcases Nat.lt_or_ge mi 139 with h | h12
  · exact pm_okr_at pm_ok_12 h11 h
  rcases Nat.lt_or_ge mi 161 with h | h13
  · exact pm_okr_at pm_ok_13 h12 h
  rcases Nat.lt_or_ge mi 174 with h | h14
  · exact pm_okr_at pm_ok_14 h13 h
  rcases Nat.lt_or_ge mi 175 with h | h15
  · exact pm_okr_at pm_ok_15 h14 h
  rcases Nat.lt_or_ge mi 181 with h | h16
  · exact pm_okr_at pm_ok_16 h15 h
  rw [pm_code_none h16]
  rfl
/-- the instruction at a place -/
def pm_fd : List (Nat × Instr) → Nat → Option Instr
  | [], _ => none
  | q :: l, k => bif Nat.beq q.1 k then some q.2 else pm_fd l k
theorem pm_fd_mem : ∀ {l : List (Nat × Instr)} {k : Nat} {i : Instr}, pm_fd l k = some i → (k, i) ∈ l := by
  intro l
  induction l with
  | nil => intro k v h; cases h
  | cons q l ih =>
    intro k v h
    unfold pm_fd at h
    cases hb : Nat.beq q.1 k with
    | true =>
      rw [hb] at h
      have h1 : q.1 = k := Nat.eq_of_beq_eq_true hb
      have h2 : q.2 = v := Option.some.inj h
      rw [← h1, ← h2]
      exact List.mem_cons_self
    | false =>
      rw [hb] at h
      exact List.mem_cons_of_mem _ (ih h)
theorem pm_decode {mi pc : Nat} {i : Instr} (h : pm_fd (pm_code mi) pc = some i) : ∃ len, decode (pm_by mi) pc = .ok (i, len) ∧ (pm_ln i = 0 ∨ len = pm_ln i) := by
  have h1 := List.all_eq_true.mp (pm_code_ok mi) _ (pm_fd_mem h)
  unfold pm_okc at h1
  split at h1
  · rename_i j len e
    obtain ⟨h2, h3⟩ := Bool.and_eq_true_iff.mp h1
    have h4 : j = i := of_decide_eq_true h2
    subst h4
    refine ⟨len, e, ?_⟩
    rcases (Bool.or_eq_true_iff.mp h3) with h5 | h5
    · exact Or.inl (Nat.eq_of_beq_eq_true h5)
    · exact Or.inr (Nat.eq_of_beq_eq_true h5)
  · cases h1
/-- the words that every method has -/
def pm_G : List Cond := lw_tbl.filter goodWord
def pm_inG (k : Nat) (w : Cond) : Bool := decide (lw_tbl[k]? = some w) && goodWord w
theorem pm_mem {k : Nat} {w : Cond} (h : pm_inG k w = true) : w ∈ pm_G := by
  obtain ⟨h1, h2⟩ := Bool.and_eq_true_iff.mp h
  exact List.mem_filter.mpr ⟨List.mem_of_getElem? (of_decide_eq_true h1), h2⟩
def pm_ws (mi : Nat) : List Cond := Cond.code (pm_nm mi) (pm_by mi) (pm_mx mi) (pm_rt mi) :: pm_G
end
section
/-! The world of the pure machine: cells by number, shapes fixed, contents from the three functions -/
def pm_cat (ty : FieldType) : Nat := match ty with
  | .long => 1
  | .object _ => 2
  | .array _ => 2
  | _ => 0
def pm_fv (rho : Nat → Nat) (h : pm_H) (i k : Nat) (ty : FieldType) : Value := match pm_cat ty with
  | 0 => .int (h.1 i k)
  | 1 => .long (h.2.1 i k)
  | _ => va_rf ((h.2.2 i k).map rho)
def pm_fs (rho : Nat → Nat) (h : pm_H) (i ci : Nat) : List Value := (pm_ft ci).mapIdx (fun k ty => pm_fv rho h i k ty)
/-- a cell: shape (1, n): ints; (2, n): chars; (3, n): booleans; (4, n): longs; (5, n): references to constants; (10 + ci, _): an object of class ci -/
def pm_E (cy : Nat → ClassId) (rho : Nat → Nat) (h : pm_H) (sh : Nat × Nat) (i : Nat) : va_E := match sh.1 with
  | 0 => .inl (cy 0, sh.2, .inl (h.1 i))
  | 1 => .inl (cy 1, sh.2, .inl (h.1 i))
  | 2 => .inl (cy 2, sh.2, .inl (h.1 i))
  | 3 => .inl (cy 3, sh.2, .inl (h.1 i))
  | 4 => .inl (cy 4, sh.2, .inr (.inl (h.2.1 i)))
  | 5 => .inl (cy 5, sh.2, .inr (.inr (.inr (.inr (fun j => (h.2.2 i j).map rho)))))
  | k + 6 => .inr (k - 4, pm_fs rho h i (k - 4))
def pm_sh (sw : List (Nat × Nat)) (i : Nat) : Nat × Nat := sw.getD i (0, 0)
def pm_W (cy : Nat → ClassId) (rho : Nat → Nat) (sw : List (Nat × Nat)) (h : pm_H) : va_W := (List.range sw.length).map (fun i => (rho i, pm_E cy rho h (pm_sh sw i) i))
/-- the array classes by their kinds; kind 0 is byte -/
def pm_tys (cy : Nat → ClassId) : List (ClassId × FieldType) := [(cy 0, .byte), (cy 1, .int), (cy 2, .char), (cy 3, .boolean), (cy 4, .long), (cy 5, .object "QuietChecker$Kind")]
def pm_setI (h : pm_H) (i k : Nat) (v : Int32) : pm_H := (va_up h.1 i (va_up (h.1 i) k v), h.2.1, h.2.2)
def pm_setL (h : pm_H) (i k : Nat) (v : Int64) : pm_H := (h.1, va_up h.2.1 i (va_up (h.2.1 i) k v), h.2.2)
def pm_setR (h : pm_H) (i k : Nat) (v : Option Nat) : pm_H := (h.1, h.2.1, va_up h.2.2 i (va_up (h.2.2 i) k v))
/-- two heaps agree but at cell i -/
def pm_but (i : Nat) (h h' : pm_H) : Prop := ∀ j, j ≠ i → h'.1 j = h.1 j ∧ h'.2.1 j = h.2.1 j ∧ h'.2.2 j = h.2.2 j
theorem pm_but_I (h : pm_H) (i k : Nat) (v : Int32) : pm_but i h (pm_setI h i k v) := fun j hj => ⟨va_up_ne _ _ hj, rfl, rfl⟩
theorem pm_but_L (h : pm_H) (i k : Nat) (v : Int64) : pm_but i h (pm_setL h i k v) := fun j hj => ⟨rfl, va_up_ne _ _ hj, rfl⟩
theorem pm_but_R (h : pm_H) (i k : Nat) (v : Option Nat) : pm_but i h (pm_setR h i k v) := fun j hj => ⟨rfl, rfl, va_up_ne _ _ hj⟩
section PM3
variable {cy : Nat → ClassId} {rho : Nat → Nat} {sw : List (Nat × Nat)} {h h' : pm_H}
theorem pm_W_at {i : Nat} (hi : i < sw.length) : (pm_W cy rho sw h)[i]? = some (rho i, pm_E cy rho h (pm_sh sw i) i) := by
  unfold pm_W
  rw [List.getElem?_map, List.getElem?_range hi]
  rfl
theorem pm_W_len : (pm_W cy rho sw h).length = sw.length := by
  unfold pm_W
  rw [List.length_map, List.length_range]
theorem pm_E_but {sh : Nat × Nat} {i j : Nat} (hb : pm_but i h h') (hj : j ≠ i) : pm_E cy rho h' sh j = pm_E cy rho h sh j := by
  obtain ⟨h1, h2, h3⟩ := hb j hj
  unfold pm_E pm_fs pm_fv
  rw [h1, h2, h3]
theorem pm_W_set {i : Nat} (hb : pm_but i h h') (hi : i < sw.length) {e : va_E} (he : e = pm_E cy rho h' (pm_sh sw i) i) : (pm_W cy rho sw h).set i (rho i, e) = pm_W cy rho sw h' := by
  apply List.ext_getElem?
  intro j
  rw [List.getElem?_set]
  by_cases hij : i = j
  · subst hij
    rw [if_pos rfl, if_pos (by rw [pm_W_len]; exact hi), pm_W_at hi, he]
  · rw [if_neg hij]
    rcases Nat.lt_or_ge j sw.length with hl | hl
    · rw [pm_W_at hl, pm_W_at hl, pm_E_but hb (fun z => hij z.symm)]
    · rw [List.getElem?_eq_none (by rw [pm_W_len]; exact hl), List.getElem?_eq_none (by rw [pm_W_len]; exact hl)]
theorem pm_fs_at {i ci k : Nat} {ty : FieldType} (hk : (pm_ft ci)[k]? = some ty) : (pm_fs rho h i ci)[k]? = some (pm_fv rho h i k ty) := by
  unfold pm_fs
  rw [List.getElem?_mapIdx, hk]
  rfl
theorem pm_fs_len {i ci : Nat} : (pm_fs rho h i ci).length = (pm_ft ci).length := by
  unfold pm_fs
  rw [List.length_mapIdx]
/-- the field k of the object i gets v; all else stays -/
theorem pm_fs_set {i ci k : Nat} {ty : FieldType} {v : Value} (hk : (pm_ft ci)[k]? = some ty) (hv : pm_fv rho h' i k ty = v) (ho : ∀ j, j ≠ k → h'.1 i j = h.1 i j ∧ h'.2.1 i j = h.2.1 i j ∧ h'.2.2 i j = h.2.2 i j) : (pm_fs rho h i ci).set k v = pm_fs rho h' i ci := by
  apply List.ext_getElem?
  intro j
  rw [List.getElem?_set]
  by_cases hkj : k = j
  · subst hkj
    have hl : k < (pm_ft ci).length := (List.getElem?_eq_some_iff.mp hk).1
    rw [if_pos rfl, if_pos (by rw [pm_fs_len]; exact hl), pm_fs_at hk, hv]
  · rw [if_neg hkj]
    obtain ⟨h1, h2, h3⟩ := ho j (fun z => hkj z.symm)
    unfold pm_fs pm_fv
    rw [List.getElem?_mapIdx, List.getElem?_mapIdx, h1, h2, h3]
theorem pm_set_oI (h : pm_H) (i k : Nat) (v : Int32) : ∀ j, j ≠ k → (pm_setI h i k v).1 i j = h.1 i j ∧ (pm_setI h i k v).2.1 i j = h.2.1 i j ∧ (pm_setI h i k v).2.2 i j = h.2.2 i j := by
  intro j hj
  refine ⟨?_, rfl, rfl⟩
  show va_up h.1 i (va_up (h.1 i) k v) i j = _
  rw [va_up_self, va_up_ne _ _ hj]
theorem pm_set_oL (h : pm_H) (i k : Nat) (v : Int64) : ∀ j, j ≠ k → (pm_setL h i k v).1 i j = h.1 i j ∧ (pm_setL h i k v).2.1 i j = h.2.1 i j ∧ (pm_setL h i k v).2.2 i j = h.2.2 i j := by
  intro j hj
  refine ⟨rfl, ?_, rfl⟩
  show va_up h.2.1 i (va_up (h.2.1 i) k v) i j = _
  rw [va_up_self, va_up_ne _ _ hj]
theorem pm_set_oR (h : pm_H) (i k : Nat) (v : Option Nat) : ∀ j, j ≠ k → (pm_setR h i k v).1 i j = h.1 i j ∧ (pm_setR h i k v).2.1 i j = h.2.1 i j ∧ (pm_setR h i k v).2.2 i j = h.2.2 i j := by
  intro j hj
  refine ⟨rfl, rfl, ?_⟩
  show va_up h.2.2 i (va_up (h.2.2 i) k v) i j = _
  rw [va_up_self, va_up_ne _ _ hj]
end PM3
/-- what a class's tables say, all at once -/
def pm_clN (ci : Nat) : vw_C := pm_cl.getD ci ("", fun _ => ("", "", "", false), 0)
theorem pm_cl_at {ci : Nat} (h : ci < 7) : pm_cl[ci]? = some (pm_clN ci) := by
  match ci, h with
  | 0, _ => rfl
  | 1, _ => rfl
  | 2, _ => rfl
  | 3, _ => rfl
  | 4, _ => rfl
  | 5, _ => rfl
  | 6, _ => rfl
theorem pm_cl_nm {ci : Nat} (h : ci < 7) : ∀ a, a < (pm_clN ci).2.2 → ∀ b, b < (pm_clN ci).2.2 → a ≠ b → ((pm_clN ci).2.1 a).2.1 ≠ ((pm_clN ci).2.1 b).2.1 := by
  match ci, h with
  | 0, _ => exact pm_nm0
  | 1, _ => exact pm_nm1
  | 2, _ => exact pm_nm2
  | 3, _ => exact pm_nm3
  | 4, _ => exact pm_nm4
  | 5, _ => exact pm_nm5
  | 6, _ => exact pm_nm6
def pm_clY (ci : Nat) : Nat → FieldType := match ci with
  | 0 => pm_y0
  | 1 => pm_y1
  | 2 => pm_y2
  | 3 => pm_y3
  | 4 => pm_y4
  | 5 => pm_y5
  | _ => pm_y6
theorem pm_cl_ty {ci : Nat} (h : ci < 7) : ∀ k, k < (pm_clN ci).2.2 → parseFieldDescriptor ((pm_clN ci).2.1 k).2.2.1 = some (pm_clY ci k) := by
  match ci, h with
  | 0, _ => exact pm_ty0
  | 1, _ => exact pm_ty1
  | 2, _ => exact pm_ty2
  | 3, _ => exact pm_ty3
  | 4, _ => exact pm_ty4
  | 5, _ => exact pm_ty5
  | 6, _ => exact pm_ty6
set_option maxRecDepth 100000 in
theorem pm_ft_ok : ∀ ci, ci < 7 → pm_ft ci = (List.range (pm_clN ci).2.2).map (pm_clY ci) := by decide +kernel
theorem pm_ft_at {ci k : Nat} (h : ci < 7) {ty : FieldType} (hk : (pm_ft ci)[k]? = some ty) : k < (pm_clN ci).2.2 ∧ pm_clY ci k = ty := by
  rw [pm_ft_ok ci h, List.getElem?_map] at hk
  obtain ⟨j, h1, h2⟩ := Option.map_eq_some_iff.mp hk
  obtain ⟨h3, h4⟩ := List.getElem?_eq_some_iff.mp h1
  rw [List.length_range] at h3
  rw [List.getElem_range] at h4
  subst h4
  exact ⟨h3, h2⟩
end
section
/-! Tables: where the words on fields stand; the constants of the program (written by genk.py) -/
/-- where the words on the fields of each class stand in lw_tbl -/
def pm_uwp : List (List Nat) := [[352, 354, 356, 358, 360, 362, 364, 366, 368, 370], [162, 164, 166, 168, 170], [308, 310, 312, 314, 316, 318, 320, 322, 324, 326, 328], [213, 215, 217, 219, 221, 223, 225, 227, 229, 231, 233, 235, 237, 239, 241, 243], [274, 276, 278, 280, 282, 284, 286, 288, 290], [384, 386, 388, 390, 392, 394, 396, 398, 400, 402, 404], [1401, 1403, 1405, 1407, 1409, 1411, 1413, 1415, 1417, 1419, 1421, 1423, 1425, 1427, 1429, 1431, 1433, 1435, 1437, 1439, 1441, 1443, 1445, 1447, 1449, 1451, 1453, 1455, 1457, 1459, 1461, 1463, 1465, 1467, 1469, 1471, 1473, 1475, 1477, 1479, 1481, 1483, 1485, 1487, 1489, 1491, 1493, 1495, 1497, 1499, 1501, 1503, 1505, 1507, 1509, 1511, 1513, 1515, 1517, 1519, 1521, 1523, 1525, 1527]]
/-- statics that hold a constant: owner, name, type, its number -/
def pm_kst : List (String × String × String × Nat) := [("QuietChecker$Kind", "NAME", "LQuietChecker$Kind;", 1000), ("QuietChecker$Kind", "NUMBER", "LQuietChecker$Kind;", 1001), ("QuietChecker$Kind", "WRONG", "LQuietChecker$Kind;", 1002), ("QuietChecker$Kind", "END", "LQuietChecker$Kind;", 1003), ("QuietChecker$Kind", "PUB", "LQuietChecker$Kind;", 1004), ("QuietChecker$Kind", "SEC", "LQuietChecker$Kind;", 1005), ("QuietChecker$Kind", "FUN", "LQuietChecker$Kind;", 1006), ("QuietChecker$Kind", "RETURN", "LQuietChecker$Kind;", 1007), ("QuietChecker$Kind", "IF", "LQuietChecker$Kind;", 1008), ("QuietChecker$Kind", "ELSE", "LQuietChecker$Kind;", 1009), ("QuietChecker$Kind", "WHILE", "LQuietChecker$Kind;", 1010), ("QuietChecker$Kind", "SKIP", "LQuietChecker$Kind;", 1011), ("QuietChecker$Kind", "OR", "LQuietChecker$Kind;", 1012), ("QuietChecker$Kind", "XOR", "LQuietChecker$Kind;", 1013), ("QuietChecker$Kind", "AND", "LQuietChecker$Kind;", 1014), ("QuietChecker$Kind", "EQUAL", "LQuietChecker$Kind;", 1015), ("QuietChecker$Kind", "UNEQUAL", "LQuietChecker$Kind;", 1016), ("QuietChecker$Kind", "LESS", "LQuietChecker$Kind;", 1017), ("QuietChecker$Kind", "AT_MOST", "LQuietChecker$Kind;", 1018), ("QuietChecker$Kind", "SHIFT_LEFT", "LQuietChecker$Kind;", 1019), ("QuietChecker$Kind", "SHIFT_RIGHT", "LQuietChecker$Kind;", 1020), ("QuietChecker$Kind", "PLUS", "LQuietChecker$Kind;", 1021), ("QuietChecker$Kind", "MINUS", "LQuietChecker$Kind;", 1022), ("QuietChecker$Kind", "TIMES", "LQuietChecker$Kind;", 1023), ("QuietChecker$Kind", "OVER", "LQuietChecker$Kind;", 1024), ("QuietChecker$Kind", "REST", "LQuietChecker$Kind;", 1025), ("QuietChecker$Kind", "INVERT", "LQuietChecker$Kind;", 1026), ("QuietChecker$Kind", "NOT", "LQuietChecker$Kind;", 1027), ("QuietChecker$Kind", "ASK", "LQuietChecker$Kind;", 1028), ("QuietChecker$Kind", "COLON", "LQuietChecker$Kind;", 1029), ("QuietChecker$Kind", "ASSIGN", "LQuietChecker$Kind;", 1030), ("QuietChecker$Kind", "OPEN", "LQuietChecker$Kind;", 1031), ("QuietChecker$Kind", "CLOSE", "LQuietChecker$Kind;", 1032), ("QuietChecker$Kind", "OPEN_CELL", "LQuietChecker$Kind;", 1033), ("QuietChecker$Kind", "CLOSE_CELL", "LQuietChecker$Kind;", 1034), ("QuietChecker$Kind", "OPEN_BLOCK", "LQuietChecker$Kind;", 1035), ("QuietChecker$Kind", "CLOSE_BLOCK", "LQuietChecker$Kind;", 1036), ("QuietChecker$Kind", "SEMICOLON", "LQuietChecker$Kind;", 1037), ("QuietChecker$Kind", "COMMA", "LQuietChecker$Kind;", 1038), ("QuietChecker$Kind", "ALL", "[LQuietChecker$Kind;", 2000)]
/-- fields of constants -/
def pm_kfn : List (String × String × String) := [("QuietChecker$Kind", "spelling", "Ljava/lang/String;"), ("QuietChecker$Kind", "level", "I"), ("QuietChecker$Kind", "op", "I"), ("java/lang/String", "value", "[B"), ("java/lang/String", "coder", "B")]
/-- constants that are objects: number, class -/
def pm_kob : List (Nat × String) := [(1000, "QuietChecker$Kind"), (1001, "QuietChecker$Kind"), (1002, "QuietChecker$Kind"), (1003, "QuietChecker$Kind"), (1004, "QuietChecker$Kind"), (1005, "QuietChecker$Kind"), (1006, "QuietChecker$Kind"), (1007, "QuietChecker$Kind"), (1008, "QuietChecker$Kind"), (1009, "QuietChecker$Kind"), (1010, "QuietChecker$Kind"), (1011, "QuietChecker$Kind"), (1012, "QuietChecker$Kind"), (1013, "QuietChecker$Kind"), (1014, "QuietChecker$Kind"), (1015, "QuietChecker$Kind"), (1016, "QuietChecker$Kind"), (1017, "QuietChecker$Kind"), (1018, "QuietChecker$Kind"), (1019, "QuietChecker$Kind"), (1020, "QuietChecker$Kind"), (1021, "QuietChecker$Kind"), (1022, "QuietChecker$Kind"), (1023, "QuietChecker$Kind"), (1024, "QuietChecker$Kind"), (1025, "QuietChecker$Kind"), (1026, "QuietChecker$Kind"), (1027, "QuietChecker$Kind"), (1028, "QuietChecker$Kind"), (1029, "QuietChecker$Kind"), (1030, "QuietChecker$Kind"), (1031, "QuietChecker$Kind"), (1032, "QuietChecker$Kind"), (1033, "QuietChecker$Kind"), (1034, "QuietChecker$Kind"), (1035, "QuietChecker$Kind"), (1036, "QuietChecker$Kind"), (1037, "QuietChecker$Kind"), (1038, "QuietChecker$Kind")]
/-- what the fields of constants hold: number, field, value -/
def pm_kof : List (Nat × Nat × Value) := [(1000, 1, .int 0), (1000, 2, .int 0), (1001, 1, .int 0), (1001, 2, .int 0), (1002, 1, .int 0), (1002, 2, .int 0), (1003, 1, .int 0), (1003, 2, .int 0), (1004, 1, .int 0), (1004, 2, .int 0), (1005, 1, .int 0), (1005, 2, .int 0), (1006, 1, .int 0), (1006, 2, .int 0), (1007, 1, .int 0), (1007, 2, .int 0), (1008, 1, .int 0), (1008, 2, .int 0), (1009, 1, .int 0), (1009, 2, .int 0), (1010, 1, .int 0), (1010, 2, .int 0), (1011, 1, .int 0), (1011, 2, .int 0), (1012, 1, .int 1), (1012, 2, .int 16), (1013, 1, .int 2), (1013, 2, .int 17), (1014, 1, .int 3), (1014, 2, .int 18), (1015, 1, .int 4), (1015, 2, .int 19), (1016, 1, .int 4), (1016, 2, .int 20), (1017, 1, .int 5), (1017, 2, .int 21), (1018, 1, .int 5), (1018, 2, .int 22), (1019, 1, .int 6), (1019, 2, .int 23), (1020, 1, .int 6), (1020, 2, .int 24), (1021, 1, .int 7), (1021, 2, .int 25), (1022, 1, .int 7), (1022, 2, .int 26), (1023, 1, .int 8), (1023, 2, .int 27), (1024, 1, .int 8), (1024, 2, .int 28), (1025, 1, .int 8), (1025, 2, .int 29), (1026, 1, .int 0), (1026, 2, .int 0), (1027, 1, .int 0), (1027, 2, .int 0), (1028, 1, .int 0), (1028, 2, .int 0), (1029, 1, .int 0), (1029, 2, .int 0), (1030, 1, .int 0), (1030, 2, .int 0), (1031, 1, .int 0), (1031, 2, .int 0), (1032, 1, .int 0), (1032, 2, .int 0), (1033, 1, .int 0), (1033, 2, .int 0), (1034, 1, .int 0), (1034, 2, .int 0), (1035, 1, .int 0), (1035, 2, .int 0), (1036, 1, .int 0), (1036, 2, .int 0), (1037, 1, .int 0), (1037, 2, .int 0), (1038, 1, .int 0), (1038, 2, .int 0)]
/-- statics by owner and place in its pool: (place, which of pm_kst, where the word stands) -/
def pm_gsl : List (List (Nat × Nat × Nat)) := [
  [],
  [],
  [(39, 3, 295), (76, 6, 563), (125, 5, 576), (128, 4, 577), (131, 0, 590), (157, 33, 664), (164, 37, 639), (174, 1, 757), (177, 34, 766), (196, 35, 636), (205, 7, 800), (215, 36, 783), (227, 31, 608), (230, 32, 610), (233, 38, 621), (251, 8, 770), (257, 10, 791), (270, 30, 768), (286, 9, 785), (295, 28, 762), (298, 29, 764), (307, 24, 758), (310, 25, 760)],
  [],
  [(58, 2, 472), (62, 3, 544), (88, 1, 474), (107, 0, 534)],
  [],
  [],
  [(3, 0, 649), (16, 4, 559), (19, 5, 561), (22, 6, 553), (28, 8, 650), (34, 10, 652), (37, 11, 654), (70, 22, 703), (82, 26, 705), (85, 27, 707)],
  [],
  [],
  [],
  [],
  []]
/-- fields of constants by owner and place in its pool: (place, which of pm_kfn, where the word stands) -/
def pm_kfl : List (List (Nat × Nat × Nat)) := [
  [],
  [],
  [(304, 1, 1804), (313, 2, 1805)],
  [],
  [(94, 0, 1803)],
  [],
  [],
  [],
  [(9, 3, 1227), (15, 4, 1228)],
  [],
  [],
  [],
  []]
/-- the cells of the class: numbers 0 .. 38 -/
def pm_swC : List (Nat × Nat) := [(15, 0), (2, 3000), (13, 0), (2, 3000), (11, 0), (1, 40), (1, 40), (3, 40), (1, 40), (1, 40), (11, 0), (1, 6), (1, 6), (3, 6), (1, 6), (1, 6), (3, 72), (1, 3000), (1, 3000), (12, 0), (14, 0), (5, 3001), (1, 3001), (1, 3001), (1, 3001), (11, 0), (1, 12), (1, 12), (3, 12), (1, 2560), (1, 2560), (10, 0), (1, 2632), (1, 4000), (1, 3000), (10, 0), (1, 2632), (1, 4000), (1, 3000)]
/-- the cells of the model: numbers 0 .. 34 -/
def pm_swM : List (Nat × Nat) := [(16, 0), (2, 3000), (2, 3000), (1, 40), (1, 40), (1, 40), (1, 40), (1, 40), (3, 40), (3, 12), (3, 6), (1, 12), (1, 12), (1, 6), (1, 6), (1, 6), (1, 6), (1, 6), (3, 72), (1, 12000), (1, 12000), (1, 12000), (1, 2560), (1, 2560), (1, 4001), (1, 4000), (1, 40), (1, 2560), (1, 2560), (1, 4001), (1, 2000), (1, 2000), (1, 2000), (1, 2000), (1, 2000)]
/-- the model's references to its arrays: slot, cell -/
def pm_rfM : List (Nat × Nat) := [(1, 1), (2, 2), (21, 3), (22, 4), (23, 5), (24, 6), (25, 7), (26, 8), (27, 9), (28, 10), (29, 11), (30, 12), (31, 13), (32, 14), (33, 15), (34, 16), (35, 17), (36, 18), (39, 19), (40, 20), (41, 21), (45, 22), (46, 23), (47, 24), (48, 25), (49, 26), (55, 27), (56, 28), (57, 29), (59, 30), (60, 31), (61, 32), (62, 33), (63, 34)]
/-- calls of System.arraycopy: owner, place in its pool, where the word stands -/
def pm_acl : List (Nat × Nat × Nat) := [(5, 99, 947), (0, 33, 953), (3, 60, 429), (8, 212, 1139), (10, 150, 1085)]
def pm_acp : Nat × Nat × Nat := (431, 430, 116)
def pm_mLength : Nat := 164
def pm_mCharAt : Nat := 165
/-- the kinds' spellings -/
def pm_spl : List (List Int32) := [[], [], [], [], [112, 117, 98], [115, 101, 99], [102, 117, 110], [114, 101, 116, 117, 114, 110], [105, 102], [101, 108, 115, 101], [119, 104, 105, 108, 101], [115, 107, 105, 112], [124], [94], [38], [61, 61], [33, 61], [60], [60, 61], [60, 60], [62, 62], [43], [45], [42], [47], [37], [126], [33], [63], [58], [61], [40], [41], [91], [93], [123], [125], [59], [44]]
end
section
/-! The steps that read and write the heap -/
def pm_f4 : List (Nat × Nat × Nat × Nat) → Nat → Option (Nat × Nat)
  | [], _ => none
  | q :: l, k => bif Nat.beq q.1 k then some (q.2.1, q.2.2.1) else pm_f4 l k
def pm_f3 : List (Nat × Nat × Nat) → Nat → Option Nat
  | [], _ => none
  | q :: l, k => bif Nat.beq q.1 k then some q.2.1 else pm_f3 l k
def pm_fl : List (Nat × Int64 × Nat) → Nat → Option Int64
  | [], _ => none
  | q :: l, k => bif Nat.beq q.1 k then some q.2.1 else pm_fl l k
theorem pm_f4_mem : ∀ {l : List (Nat × Nat × Nat × Nat)} {k a b : Nat}, pm_f4 l k = some (a, b) → ∃ p, (k, a, b, p) ∈ l := by
  intro l
  induction l with
  | nil => intro k a b h; cases h
  | cons q l ih =>
    intro k a b h
    unfold pm_f4 at h
    cases hb : Nat.beq q.1 k with
    | true =>
      rw [hb] at h
      have h1 : q.1 = k := Nat.eq_of_beq_eq_true hb
      have h2 : (q.2.1, q.2.2.1) = (a, b) := Option.some.inj h
      cases h2
      subst h1
      exact ⟨q.2.2.2, List.mem_cons_self⟩
    | false =>
      rw [hb] at h
      obtain ⟨p, hp⟩ := ih h
      exact ⟨p, List.mem_cons_of_mem _ hp⟩
theorem pm_f3_mem : ∀ {l : List (Nat × Nat × Nat)} {k a : Nat}, pm_f3 l k = some a → ∃ p, (k, a, p) ∈ l := by
  intro l
  induction l with
  | nil => intro k a h; cases h
  | cons q l ih =>
    intro k a h
    unfold pm_f3 at h
    cases hb : Nat.beq q.1 k with
    | true =>
      rw [hb] at h
      have h1 : q.1 = k := Nat.eq_of_beq_eq_true hb
      have h2 : q.2.1 = a := Option.some.inj h
      subst h1; subst h2
      exact ⟨q.2.2, List.mem_cons_self⟩
    | false =>
      rw [hb] at h
      obtain ⟨p, hp⟩ := ih h
      exact ⟨p, List.mem_cons_of_mem _ hp⟩
theorem pm_fl_mem : ∀ {l : List (Nat × Int64 × Nat)} {k : Nat} {a : Int64}, pm_fl l k = some a → ∃ p, (k, a, p) ∈ l := by
  intro l
  induction l with
  | nil => intro k a h; cases h
  | cons q l ih =>
    intro k a h
    unfold pm_fl at h
    cases hb : Nat.beq q.1 k with
    | true =>
      rw [hb] at h
      have h1 : q.1 = k := Nat.eq_of_beq_eq_true hb
      have h2 : q.2.1 = a := Option.some.inj h
      subst h1; subst h2
      exact ⟨q.2.2, List.mem_cons_self⟩
    | false =>
      rw [hb] at h
      obtain ⟨p, hp⟩ := ih h
      exact ⟨p, List.mem_cons_of_mem _ hp⟩
def pm_gf (ow idx : Nat) : Option (Nat × Nat) := pm_f4 (pm_gfl.getD ow []) idx
def pm_gs (ow idx : Nat) : Option Nat := pm_f3 (pm_gsl.getD ow []) idx
def pm_kf (ow idx : Nat) : Option Nat := pm_f3 (pm_kfl.getD ow []) idx
def pm_kl (ow idx : Nat) : Option Int64 := pm_fl (pm_kll.getD ow []) idx
def pm_iv (ow idx : Nat) : Option Nat := pm_f3 (pm_ivl.getD ow []) idx
set_option maxRecDepth 100000 in
theorem pm_gf_all : (List.range 13).all (fun o => (pm_gfl.getD o []).all (fun e => Nat.blt e.2.1 7 && (Nat.blt e.2.2.1 (pm_clN e.2.1).2.2 && pm_inG e.2.2.2 (Cond.fieldLink (pm_on o) e.1 ((pm_clN e.2.1).2.1 e.2.2.1).1 ((pm_clN e.2.1).2.1 e.2.2.1).2.1 ((pm_clN e.2.1).2.1 e.2.2.1).2.2.1)))) = true := by decide +kernel
set_option maxRecDepth 100000 in
theorem pm_gs_all : (List.range 13).all (fun o => (pm_gsl.getD o []).all (fun e => Nat.blt e.2.1 pm_kst.length && pm_inG e.2.2 (Cond.fieldLink (pm_on o) e.1 (pm_kst.getD e.2.1 ("", "", "", 0)).1 (pm_kst.getD e.2.1 ("", "", "", 0)).2.1 (pm_kst.getD e.2.1 ("", "", "", 0)).2.2.1))) = true := by decide +kernel
set_option maxRecDepth 100000 in
theorem pm_kf_all : (List.range 13).all (fun o => (pm_kfl.getD o []).all (fun e => pm_inG e.2.2 (Cond.fieldLink (pm_on o) e.1 (pm_kfn.getD e.2.1 ("", "", "")).1 (pm_kfn.getD e.2.1 ("", "", "")).2.1 (pm_kfn.getD e.2.1 ("", "", "")).2.2))) = true := by decide +kernel
set_option maxRecDepth 100000 in
theorem pm_kl_all : (List.range 13).all (fun o => (pm_kll.getD o []).all (fun e => pm_inG e.2.2 (Cond.constantLong (pm_on o) e.1 e.2.1))) = true := by decide +kernel
set_option maxRecDepth 100000 in
theorem pm_uw_all : (List.range 7).all (fun ci => (List.range (pm_clN ci).2.2).all (fun k => pm_inG ((pm_uwp.getD ci []).getD k 0) (u_lay (pm_clN ci).1 (pm_clN ci).2.1 k))) = true := by decide +kernel
theorem pm_own12 {α : Type} {l : List (List α)} {o : Nat} {a : α} (hl : l.length = 13) (h : a ∈ l.getD o []) : o < 13 := by
  rcases Nat.lt_or_ge o 13 with h1 | h1
  · exact h1
  · rw [List.getD_eq_getElem?_getD, List.getElem?_eq_none (by omega)] at h
    cases h
theorem pm_gf_ok {o idx ci k : Nat} (h : pm_gf o idx = some (ci, k)) : ci < 7 ∧ k < (pm_clN ci).2.2 ∧ Cond.fieldLink (pm_on o) idx ((pm_clN ci).2.1 k).1 ((pm_clN ci).2.1 k).2.1 ((pm_clN ci).2.1 k).2.2.1 ∈ pm_G := by
  obtain ⟨p, hp⟩ := pm_f4_mem h
  have h1 := List.all_eq_true.mp (List.all_eq_true.mp pm_gf_all o (List.mem_range.mpr (pm_own12 (by rfl) hp))) _ hp
  obtain ⟨h2, h3⟩ := Bool.and_eq_true_iff.mp h1
  obtain ⟨h4, h5⟩ := Bool.and_eq_true_iff.mp h3
  exact ⟨pm_blt h2, pm_blt h4, pm_mem h5⟩
theorem pm_kl_ok {o idx : Nat} {v : Int64} (h : pm_kl o idx = some v) : Cond.constantLong (pm_on o) idx v ∈ pm_G := by
  obtain ⟨p, hp⟩ := pm_fl_mem h
  exact pm_mem (List.all_eq_true.mp (List.all_eq_true.mp pm_kl_all o (List.mem_range.mpr (pm_own12 (by rfl) hp))) _ hp)
theorem pm_gs_ok {o idx j : Nat} (h : pm_gs o idx = some j) : j < pm_kst.length ∧ Cond.fieldLink (pm_on o) idx (pm_kst.getD j ("", "", "", 0)).1 (pm_kst.getD j ("", "", "", 0)).2.1 (pm_kst.getD j ("", "", "", 0)).2.2.1 ∈ pm_G := by
  obtain ⟨p, hp⟩ := pm_f3_mem h
  have h1 := List.all_eq_true.mp (List.all_eq_true.mp pm_gs_all o (List.mem_range.mpr (pm_own12 (by rfl) hp))) _ hp
  obtain ⟨h2, h3⟩ := Bool.and_eq_true_iff.mp h1
  exact ⟨pm_blt h2, pm_mem h3⟩
theorem pm_kf_ok {o idx j : Nat} (h : pm_kf o idx = some j) : Cond.fieldLink (pm_on o) idx (pm_kfn.getD j ("", "", "")).1 (pm_kfn.getD j ("", "", "")).2.1 (pm_kfn.getD j ("", "", "")).2.2 ∈ pm_G := by
  obtain ⟨p, hp⟩ := pm_f3_mem h
  exact pm_mem (List.all_eq_true.mp (List.all_eq_true.mp pm_kf_all o (List.mem_range.mpr (pm_own12 (by rfl) hp))) _ hp)
theorem pm_uw {ci : Nat} (h : ci < 7) : ∀ w ∈ u_ws (pm_clN ci).1 (pm_clN ci).2.1 (pm_clN ci).2.2, w ∈ pm_G := by
  intro w hw
  unfold u_ws at hw
  obtain ⟨k, hk, rfl⟩ := List.mem_map.mp hw
  exact pm_mem (List.all_eq_true.mp (List.all_eq_true.mp pm_uw_all ci (List.mem_range.mpr h)) k hk)
end
section
/-! Heap steps of the pure machine, and that they are the machine's -/
def pm_inb (j : Int32) (n : Nat) : Bool := !decide (j < 0) && Nat.blt j.toNatClampNeg n
theorem pm_inb_vp {j : Int32} {n : Nat} (h : pm_inb j n = true) : vp_in j n := by
  obtain ⟨h1, h2⟩ := Bool.and_eq_true_iff.mp h
  have h3 : ¬ j < 0 := by
    intro z
    rw [decide_eq_true z] at h1
    cases h1
  exact fun z => z.elim h3 (fun z => Nat.lt_irrefl _ (Nat.lt_of_lt_of_le (pm_blt h2) z))
def pm_get (h : pm_H) (a k : Nat) (ty : FieldType) : Option Value := match pm_cat ty with
  | 0 => some (.int (h.1 a k))
  | 1 => some (.long (h.2.1 a k))
  | _ => (h.2.2 a k).map Value.ref
def pm_kv : List (Nat × Nat × Value) → Nat → Nat → Option Value
  | [], _, _ => none
  | q :: l, a, j => bif Nat.beq q.1 a && Nat.beq q.2.1 j then some q.2.2 else pm_kv l a j
theorem pm_kv_mem : ∀ {l : List (Nat × Nat × Value)} {a j : Nat} {v : Value}, pm_kv l a j = some v → (a, j, v) ∈ l := by
  intro l
  induction l with
  | nil => intro a j v h; cases h
  | cons q l ih =>
    intro a j v h
    unfold pm_kv at h
    cases hb : (Nat.beq q.1 a && Nat.beq q.2.1 j) with
    | true =>
      rw [hb] at h
      obtain ⟨h1, h2⟩ := Bool.and_eq_true_iff.mp hb
      have h1 := Nat.eq_of_beq_eq_true h1
      have h2 := Nat.eq_of_beq_eq_true h2
      have h3 : q.2.2 = v := Option.some.inj h
      subst h1; subst h2; subst h3
      exact List.mem_cons_self
    | false =>
      rw [hb] at h
      exact List.mem_cons_of_mem _ (ih h)
def pm_put (h : pm_H) (a k : Nat) (ty : FieldType) (v : Value) : Option pm_H := match ty with
  | .int => match v with
    | .int x => some (pm_setI h a k x)
    | _ => none
  | .boolean => match v with
    | .int x => if x = 0 ∨ x = 1 then some (pm_setI h a k x) else none
    | _ => none
  | .long => match v with
    | .long x => some (pm_setL h a k x)
    | _ => none
  | .object _ => match v with
    | .ref r => some (pm_setR h a k (some r))
    | _ => none
  | _ => none
/-- an object of class ci stands at a -/
def pm_isO (sw : List (Nat × Nat)) (a ci : Nat) : Bool := Nat.blt a sw.length && Nat.beq (pm_sh sw a).1 (10 + ci)
def pm_isA (sw : List (Nat × Nat)) (a kd : Nat) : Bool := Nat.blt a sw.length && Nat.beq (pm_sh sw a).1 kd
def pm_read (i : Instr) (sw : List (Nat × Nat)) (ow : Nat) (h : pm_H) (S : List Value) : Option (List Value) := match i with
  | .getfield idx => match S with
    | .ref a :: S' => bif Nat.blt a 1000 then
        (match pm_gf ow idx with
          | some (ci, k) => bif pm_isO sw a ci then
              (match (pm_ft ci)[k]? with
                | some ty => (pm_get h a k ty).map (fun v => v :: S')
                | none => none)
              else none
          | none => none)
        else
        (match pm_kf ow idx with
          | some j => (pm_kv pm_kof a j).map (fun v => v :: S')
          | none => none)
    | _ => none
  | .getstatic idx => (pm_gs ow idx).map (fun j => Value.ref (pm_kst.getD j ("", "", "", 0)).2.2.2 :: S)
  | .ldc2_w idx => (pm_kl ow idx).map (fun v => Value.long v :: S)
  | .arraylength => match S with
    | .ref a :: S' => bif Nat.blt a sw.length && Nat.blt (pm_sh sw a).1 6 then some (.int (Int32.ofNat (pm_sh sw a).2) :: S') else none
    | _ => none
  | .iaload => match S with
    | .int j :: .ref a :: S' => bif pm_isA sw a 1 && pm_inb j (pm_sh sw a).2 then some (.int (h.1 a j.toNatClampNeg) :: S') else none
    | _ => none
  | .caload => match S with
    | .int j :: .ref a :: S' => bif pm_isA sw a 2 && pm_inb j (pm_sh sw a).2 then some (.int (h.1 a j.toNatClampNeg) :: S') else none
    | _ => none
  | .baload => match S with
    | .int j :: .ref a :: S' => bif pm_isA sw a 3 && pm_inb j (pm_sh sw a).2 then some (.int (h.1 a j.toNatClampNeg) :: S') else none
    | _ => none
  | .laload => match S with
    | .int j :: .ref a :: S' => bif pm_isA sw a 4 && pm_inb j (pm_sh sw a).2 then some (.long (h.2.1 a j.toNatClampNeg) :: S') else none
    | _ => none
  | .aaload => match S with
    | .int j :: .ref a :: S' => bif pm_isA sw a 5 && pm_inb j (pm_sh sw a).2 then (h.2.2 a j.toNatClampNeg).map (fun r => Value.ref r :: S') else none
    | _ => none
  | _ => none
def pm_write (i : Instr) (sw : List (Nat × Nat)) (ow : Nat) (h : pm_H) (S : List Value) : Option (pm_H × List Value) := match i with
  | .putfield idx => match S with
    | v :: .ref a :: S' => match pm_gf ow idx with
        | some (ci, k) => bif pm_isO sw a ci && !((pm_clN ci).2.1 k).2.2.2 then
            (match (pm_ft ci)[k]? with
              | some ty => (pm_put h a k ty v).map (fun h' => (h', S'))
              | none => none)
            else none
        | none => none
    | _ => none
  | .iastore => match S with
    | .int x :: .int j :: .ref a :: S' => bif pm_isA sw a 1 && pm_inb j (pm_sh sw a).2 then some (pm_setI h a j.toNatClampNeg x, S') else none
    | _ => none
  | .castore => match S with
    | .int x :: .int j :: .ref a :: S' => bif pm_isA sw a 2 && pm_inb j (pm_sh sw a).2 then some (pm_setI h a j.toNatClampNeg (vp_nar .char x), S') else none
    | _ => none
  | .bastore => match S with
    | .int x :: .int j :: .ref a :: S' => bif pm_isA sw a 3 && pm_inb j (pm_sh sw a).2 then some (pm_setI h a j.toNatClampNeg (vp_nar .boolean x), S') else none
    | _ => none
  | .lastore => match S with
    | .long x :: .int j :: .ref a :: S' => bif pm_isA sw a 4 && pm_inb j (pm_sh sw a).2 then some (pm_setL h a j.toNatClampNeg x, S') else none
    | _ => none
  | .aastore => match S with
    | .ref x :: .int j :: .ref a :: S' => bif (pm_isA sw a 5 && pm_inb j (pm_sh sw a).2) && (Nat.ble 1000 x && Nat.blt x 1039) then some (pm_setR h a j.toNatClampNeg (some x), S') else none
    | _ => none
  | _ => none
/-- the constants: statics, objects, fields; those that are compared differ -/
def pm_KS (rho : Nat → Nat) (A : Nat → Prop) (U : State) (H : Heap) : Prop :=
  (∀ q ∈ pm_kst, va_Z q.1 q.2.1 q.2.2.1 (.ref (rho q.2.2.2)) A U H) ∧ (∀ q ∈ pm_kob, va_O q.2 (rho q.1) A U H) ∧
  (∀ q ∈ pm_kof, va_OF (pm_kfn.getD q.2.1 ("", "", "")).1 (pm_kfn.getD q.2.1 ("", "", "")).2.1 (pm_kfn.getD q.2.1 ("", "", "")).2.2 (pm_cv rho q.2.2) (rho q.1) A U H)
theorem pm_KS.moved {rho : Nat → Nat} {A : Nat → Prop} {u U : State} {H : Heap} (hvm : u.vm.Alike U.vm) (h : pm_KS rho A u H) : pm_KS rho A U H :=
  ⟨fun q hq => va_Z.moved hvm (h.1 q hq), fun q hq => va_O.moved hvm (h.2.1 q hq), fun q hq => va_OF.moved hvm (h.2.2 q hq)⟩
theorem pm_KS.kept {rho : Nat → Nat} {A : Nat → Prop} {U : State} {H H1 : Heap} (h : pm_KS rho A U H) (hq : ∀ a : Nat, a < H.size → ¬ A a → H1[a]? = H[a]?) : pm_KS rho A U H1 :=
  ⟨fun q h1 => (h.1 q h1).kept hq, fun q h1 => (h.2.1 q h1).kept hq, fun q h1 => (h.2.2 q h1).kept hq⟩
theorem pm_KS.narrow {rho : Nat → Nat} {A B : Nat → Prop} {U : State} {H : Heap} (h : pm_KS rho A U H) (hAB : ∀ q, B q → A q) : pm_KS rho B U H :=
  ⟨fun q h1 => (h.1 q h1).narrow hAB, fun q h1 => (h.2.1 q h1).narrow hAB, fun q h1 => (h.2.2 q h1).narrow hAB⟩
theorem pm_isO_t {sw : List (Nat × Nat)} {a ci : Nat} (h : pm_isO sw a ci = true) : a < sw.length ∧ (pm_sh sw a).1 = 10 + ci := by
  obtain ⟨h1, h2⟩ := Bool.and_eq_true_iff.mp h
  exact ⟨pm_blt h1, Nat.eq_of_beq_eq_true h2⟩
theorem pm_E_O {cy : Nat → ClassId} {rho : Nat → Nat} {h : pm_H} {sh : Nat × Nat} {i ci : Nat} (hs : sh.1 = 10 + ci) : pm_E cy rho h sh i = .inr (ci, pm_fs rho h i ci) := by
  obtain ⟨a, b⟩ := sh
  have : a = (ci + 4) + 6 := by
    have : a = 10 + ci := hs
    omega
  subst this
  show (Sum.inr ((ci + 4) - 4, pm_fs rho h i ((ci + 4) - 4)) : va_E) = _
  rw [Nat.add_sub_cancel]
theorem pm_get_cv {rho : Nat → Nat} {h : pm_H} {a k : Nat} {ty : FieldType} {v : Value} (hv : pm_get h a k ty = some v) : pm_fv rho h a k ty = pm_cv rho v := by
  unfold pm_get at hv
  unfold pm_fv
  generalize pm_cat ty = n at hv ⊢
  match n, hv with
  | 0, hv => cases hv; rfl
  | 1, hv => cases hv; rfl
  | n + 2, hv =>
    obtain ⟨r, hr, rfl⟩ := Option.map_eq_some_iff.mp hv
    show va_rf ((h.2.2 a k).map rho) = _
    rw [hr]
    rfl
end
section
section PM4
variable {p : Program} {l : Launch} {e : Env} {R : Room} {s : State} {m : MethodId} {args : Array Value} {below : List Frame} {meth : Method} {c : Code} {H : Heap} {locs : List Loc} {cells slots : Nat} {Q : State → Prop} {cc : ByteArray} {pc : Nat} {ls : Array Slot} {rho : Nat → Nat} {S S' : List Value} {D : va_G} {cy : Nat → ClassId} {sw : List (Nat × Nat)} {h h' : pm_H} {A : Nat → Prop} {Ts : List Cond} {ow : Nat}
theorem pm_kst_at {j : Nat} (hj : j < pm_kst.length) : pm_kst.getD j ("", "", "", 0) ∈ pm_kst := by
  rw [List.getD_eq_getElem?_getD, List.getElem?_eq_getElem hj]
  exact List.getElem_mem hj
theorem pm_read_snd (hx : p.tables.exec = Jvm.exec) (hb : c.code = cc) (hts : ∀ w ∈ Ts, w.before args s = true) (hG : ∀ w ∈ pm_G, w ∈ Ts) (hown : s.vm.findClass (pm_on ow) = some m.cls) (hK : va_K D pm_cl (pm_tys cy) s) (hP : va_P D pm_cl (pm_W cy rho sw h) H) (hS : va_S A s.heap H locs) (hKS : pm_KS rho A s s.heap)
    {i : Instr} (hdg : decode cc pc = .ok (i, pm_ln i)) (hr : pm_read i sw ow h S = some S')
    (k : W p l e R s m args below meth c H locs cells slots Q (F0 m (pc + pm_ln i) ls (pm_cS rho S'))) : W p l e R s m args below meth c H locs cells slots Q (F0 m pc ls (pm_cS rho S)) := by
  unfold pm_read at hr
  split at hr
  · split at hr
    · rename_i idx _ a S1
      cases ha : Nat.blt a 1000 with
      | true =>
        rw [ha] at hr
        dsimp only [cond] at hr
        split at hr
        · rename_i ci kk hgf
          obtain ⟨hci, hkk, hlink⟩ := pm_gf_ok hgf
          cases ho : pm_isO sw a ci with
          | false => rw [ho] at hr; cases hr
          | true =>
            rw [ho] at hr
            dsimp only [cond] at hr
            split at hr
            · rename_i ty hty
              obtain ⟨v, hv, rfl⟩ := Option.map_eq_some_iff.mp hr
              obtain ⟨hal, hsh⟩ := pm_isO_t ho
              refine va_get (ci := ci) hx hb hts (fun w hw => hG w (pm_uw hci w hw)) hown hK hP a ((pm_W_at hal).trans (by rw [pm_E_O hsh])) (pm_cl_at hci) kk hkk (hts _ (hG _ hlink)) (fun _ z => z) ((pm_fs_at hty).trans (by rw [pm_get_cv hv])) hdg k
            · cases hr
        · cases hr
      | false =>
        rw [ha] at hr
        dsimp only [cond] at hr
        split at hr
        · rename_i j hkf
          obtain ⟨v, hv, rfl⟩ := Option.map_eq_some_iff.mp hr
          exact vk_getf hx hb (hKS.2.2 _ (pm_kv_mem hv)) hS hown (hts _ (hG _ (pm_kf_ok hkf))) (fun _ z => z) hdg k
        · cases hr
    · cases hr
  · obtain ⟨j, hj, rfl⟩ := Option.map_eq_some_iff.mp hr
    obtain ⟨hjl, hlink⟩ := pm_gs_ok hj
    exact va_gets hx hb (hKS.1 _ (pm_kst_at hjl)) hS hown (hts _ (hG _ hlink)) (fun _ z => z) hdg k
  · obtain ⟨v, hv, rfl⟩ := Option.map_eq_some_iff.mp hr
    exact lv_ldc2 hx hb hown (hts _ (hG _ (pm_kl_ok hv))) hdg k
  · split at hr
    · rename_i _ a S1
      obtain ⟨hg, rfl⟩ := pm_bif hr
      obtain ⟨h1, h2⟩ := Bool.and_eq_true_iff.mp hg
      have hal := pm_blt h1
      have hsh := pm_blt h2
      have hat := pm_W_at (cy := cy) (rho := rho) (h := h) hal
      generalize pm_sh sw a = sh at *
      obtain ⟨sk, sn⟩ := sh
      dsimp only at hsh
      match sk, hsh with
      | 0, _ => exact va_alen hx hb hK hP a 0 hat rfl rfl hdg k
      | 1, _ => exact va_alen hx hb hK hP a 1 hat rfl rfl hdg k
      | 2, _ => exact va_alen hx hb hK hP a 2 hat rfl rfl hdg k
      | 3, _ => exact va_alen hx hb hK hP a 3 hat rfl rfl hdg k
      | 4, _ => exact va_alen hx hb hK hP a 4 hat rfl rfl hdg k
      | 5, _ => exact va_alen hx hb hK hP a 5 hat rfl rfl hdg k
    · cases hr
  · split at hr
    · rename_i _ j a S1
      obtain ⟨hg, rfl⟩ := pm_bif hr
      obtain ⟨h1, h2⟩ := Bool.and_eq_true_iff.mp hg
      obtain ⟨h3, h4⟩ := Bool.and_eq_true_iff.mp h1
      have hat := pm_W_at (cy := cy) (rho := rho) (h := h) (pm_blt h3)
      have hsh := Nat.eq_of_beq_eq_true h4
      generalize pm_sh sw a = sh at *
      obtain ⟨sk, sn⟩ := sh
      dsimp only at hsh
      subst hsh
      exact va_iald hx hb hK hP a 1 hat rfl (pm_inb_vp h2) hdg k
    · cases hr
  · split at hr
    · rename_i _ j a S1
      obtain ⟨hg, rfl⟩ := pm_bif hr
      obtain ⟨h1, h2⟩ := Bool.and_eq_true_iff.mp hg
      obtain ⟨h3, h4⟩ := Bool.and_eq_true_iff.mp h1
      have hat := pm_W_at (cy := cy) (rho := rho) (h := h) (pm_blt h3)
      have hsh := Nat.eq_of_beq_eq_true h4
      generalize pm_sh sw a = sh at *
      obtain ⟨sk, sn⟩ := sh
      dsimp only at hsh
      subst hsh
      exact va_cald hx hb hK hP a 2 hat rfl (pm_inb_vp h2) hdg k
    · cases hr
  · split at hr
    · rename_i _ j a S1
      obtain ⟨hg, rfl⟩ := pm_bif hr
      obtain ⟨h1, h2⟩ := Bool.and_eq_true_iff.mp hg
      obtain ⟨h3, h4⟩ := Bool.and_eq_true_iff.mp h1
      have hat := pm_W_at (cy := cy) (rho := rho) (h := h) (pm_blt h3)
      have hsh := Nat.eq_of_beq_eq_true h4
      generalize pm_sh sw a = sh at *
      obtain ⟨sk, sn⟩ := sh
      dsimp only at hsh
      subst hsh
      exact va_zald hx hb hK hP a 3 hat rfl (pm_inb_vp h2) hdg k
    · cases hr
  · split at hr
    · rename_i _ j a S1
      obtain ⟨hg, rfl⟩ := pm_bif hr
      obtain ⟨h1, h2⟩ := Bool.and_eq_true_iff.mp hg
      obtain ⟨h3, h4⟩ := Bool.and_eq_true_iff.mp h1
      have hat := pm_W_at (cy := cy) (rho := rho) (h := h) (pm_blt h3)
      have hsh := Nat.eq_of_beq_eq_true h4
      generalize pm_sh sw a = sh at *
      obtain ⟨sk, sn⟩ := sh
      dsimp only at hsh
      subst hsh
      exact va_lald hx hb hK hP a 4 hat rfl (pm_inb_vp h2) hdg k
    · cases hr
  · split at hr
    · rename_i _ j a S1
      cases hg : (pm_isA sw a 5 && pm_inb j (pm_sh sw a).2) with
      | false => rw [hg] at hr; cases hr
      | true =>
        rw [hg] at hr
        obtain ⟨r, hr1, rfl⟩ := Option.map_eq_some_iff.mp hr
        obtain ⟨h1, h2⟩ := Bool.and_eq_true_iff.mp hg
        obtain ⟨h3, h4⟩ := Bool.and_eq_true_iff.mp h1
        have hat := pm_W_at (cy := cy) (rho := rho) (h := h) (pm_blt h3)
        have hsh := Nat.eq_of_beq_eq_true h4
        generalize pm_sh sw a = sh at *
        obtain ⟨sk, sn⟩ := sh
        dsimp only at hsh
        subst hsh
        refine va_aldq hx hb hK hP a 5 hat rfl (pm_inb_vp h2) hdg ?_
        rw [hr1]
        exact k
    · cases hr
  · cases hr
end PM4
end
section
section PM5
variable {p : Program} {l : Launch} {e : Env} {R : Room} {s : State} {m : MethodId} {args : Array Value} {below : List Frame} {meth : Method} {c : Code} {H : Heap} {locs : List Loc} {cells slots : Nat} {Q : State → Prop} {cc : ByteArray} {pc : Nat} {ls : Array Slot} {rho : Nat → Nat} {S S' : List Value} {D : va_G} {cy : Nat → ClassId} {sw : List (Nat × Nat)} {h h' : pm_H} {A : Nat → Prop} {Ts : List Cond} {ow : Nat}
/-- what a put gives: the heaps agree elsewhere, the field holds the value, the value fits -/
theorem pm_put_t {a k : Nat} {ty : FieldType} {v : Value} (hp : pm_put h a k ty v = some h') : pm_but a h h' ∧ pm_fv rho h' a k ty = pm_cv rho v ∧ (∀ j, j ≠ k → h'.1 a j = h.1 a j ∧ h'.2.1 a j = h.2.1 a j ∧ h'.2.2 a j = h.2.2 a j) ∧ narrow ty (pm_cv rho v) = pm_cv rho v ∧ fits ty (pm_cv rho v) = true := by
  unfold pm_put at hp
  split at hp
  · split at hp
    · cases hp
      refine ⟨pm_but_I _ _ _ _, ?_, pm_set_oI _ _ _ _, rfl, rfl⟩
      show Value.int (va_up h.1 a (va_up (h.1 a) k _) a k) = _
      rw [va_up_self, va_up_self]; rfl
    · cases hp
  · split at hp
    · split at hp
      · rename_i x hx01
        cases hp
        refine ⟨pm_but_I _ _ _ _, ?_, pm_set_oI _ _ _ _, ?_, ?_⟩
        · show Value.int (va_up h.1 a (va_up (h.1 a) k _) a k) = _
          rw [va_up_self, va_up_self]; rfl
        · show narrow .boolean (.int x) = .int x
          rcases hx01 with rfl | rfl <;> decide
        · show fits .boolean (.int x) = true
          rcases hx01 with rfl | rfl <;> decide
      · cases hp
    · cases hp
  · split at hp
    · cases hp
      refine ⟨pm_but_L _ _ _ _, ?_, pm_set_oL _ _ _ _, rfl, rfl⟩
      show Value.long (va_up h.2.1 a (va_up (h.2.1 a) k _) a k) = _
      rw [va_up_self, va_up_self]; rfl
    · cases hp
  · split at hp
    · cases hp
      refine ⟨pm_but_R _ _ _ _, ?_, pm_set_oR _ _ _ _, rfl, rfl⟩
      show va_rf ((va_up h.2.2 a (va_up (h.2.2 a) k _) a k).map rho) = _
      rw [va_up_self, va_up_self]; rfl
    · cases hp
  · cases hp
/-- an object of a class stands there as that class wants it (the elements of an array of references) -/
theorem pm_any {t : Nat} {E : String} (hO : va_O E t A s s.heap) (hS : va_S A s.heap H locs) : va_Any E s H t := by
  obtain ⟨cell, h1, h2, h3, h4⟩ := hO.kept hS.2.1
  refine ⟨cell, h1, h2, ?_, fun comp hc => ?_⟩
  · obtain ⟨kC, hkC, -⟩ := Vm.findClass_spec h3
    exact ⟨kC, hkC⟩
  · have : comp = cell.cls := Option.some.inj (hc.symm.trans h3)
    subst this
    exact va_asg _ _
set_option maxRecDepth 100000 in
theorem pm_kob_all : (List.range 39).all (fun k => decide ((1000 + k, "QuietChecker$Kind") ∈ pm_kob)) = true := by decide +kernel
theorem pm_kob_kind {x : Nat} (h1 : 1000 ≤ x) (h2 : x < 1039) : (x, "QuietChecker$Kind") ∈ pm_kob := by
  have h3 := List.all_eq_true.mp pm_kob_all (x - 1000) (List.mem_range.mpr (by omega))
  rw [show 1000 + (x - 1000) = x by omega] at h3
  exact of_decide_eq_true h3
theorem pm_write_snd (hx : p.tables.exec = Jvm.exec) (hb : c.code = cc) (hts : ∀ w ∈ Ts, w.before args s = true) (hG : ∀ w ∈ pm_G, w ∈ Ts) (hown : s.vm.findClass (pm_on ow) = some m.cls) (hK : va_K D pm_cl (pm_tys cy) s) (hP : va_P D pm_cl (pm_W cy rho sw h) H) (hD : va_D A (pm_W cy rho sw h)) (hS : va_S A s.heap H locs) (hKS : pm_KS rho A s s.heap)
    {i : Instr} (hdg : decode cc pc = .ok (i, pm_ln i)) (hr : pm_write i sw ow h S = some (h', S'))
    (k : ∀ (H1 : Heap) (locs1 : List Loc), va_P D pm_cl (pm_W cy rho sw h') H1 → va_D A (pm_W cy rho sw h') → va_S A s.heap H1 locs1 → W p l e R s m args below meth c H1 locs1 cells slots Q (F0 m (pc + pm_ln i) ls (pm_cS rho S'))) : W p l e R s m args below meth c H locs cells slots Q (F0 m pc ls (pm_cS rho S)) := by
  unfold pm_write at hr
  split at hr
  · split at hr
    · rename_i idx _ v a S1
      split at hr
      · rename_i ci kk hgf
        obtain ⟨hci, hkk, hlink⟩ := pm_gf_ok hgf
        cases ho : (pm_isO sw a ci && !((pm_clN ci).2.1 kk).2.2.2) with
        | false => rw [ho] at hr; cases hr
        | true =>
          rw [ho] at hr
          dsimp only [cond] at hr
          obtain ⟨ho1, ho2⟩ := Bool.and_eq_true_iff.mp ho
          split at hr
          · rename_i ty hty
            obtain ⟨h1, hv, he⟩ := Option.map_eq_some_iff.mp hr
            cases he
            obtain ⟨hal, hsh⟩ := pm_isO_t ho1
            obtain ⟨q1, q2, q3, q4, q5⟩ := pm_put_t (rho := rho) hv
            obtain ⟨f1, f2⟩ := pm_ft_at hci hty
            refine va_put (ci := ci) (ty := ty) hx hb hts (fun w hw => hG w (pm_uw hci w hw)) (pm_clY ci) (pm_cl_ty hci) (pm_cl_nm hci) hown hK hP hD hS a ((pm_W_at hal).trans (by rw [pm_E_O hsh])) (pm_cl_at hci) kk hkk (hts _ (hG _ hlink)) (fun _ z => z) (by cases hz : ((pm_clN ci).2.1 kk).2.2.2 with | false => rfl | true => rw [hz] at ho2; cases ho2) ((pm_cl_ty hci kk f1).trans (by rw [f2])) q4 q5 (by rw [pm_fs_len]; exact (List.getElem?_eq_some_iff.mp hty).1) hdg (fun H1 locs1 hP1 hD1 hS1 => ?_)
            have hW : (pm_W cy rho sw h).set a (rho a, .inr (ci, (pm_fs rho h a ci).set kk (pm_cv rho v))) = pm_W cy rho sw h' := pm_W_set q1 hal (by rw [pm_E_O hsh, pm_fs_set hty q2 q3])
            rw [hW] at hP1 hD1
            exact k H1 locs1 hP1 hD1 hS1
          · cases hr
      · cases hr
    · cases hr
  · split at hr
    · rename_i _ x j a S1
      obtain ⟨hg, he⟩ := pm_bif hr
      cases he
      obtain ⟨h1, h2⟩ := Bool.and_eq_true_iff.mp hg
      obtain ⟨h3, h4⟩ := Bool.and_eq_true_iff.mp h1
      have hal := pm_blt h3
      have hat := pm_W_at (cy := cy) (rho := rho) (h := h) hal
      have hset : ∀ en, en = pm_E cy rho (pm_setI h a j.toNatClampNeg x) (pm_sh sw a) a → (pm_W cy rho sw h).set a (rho a, en) = pm_W cy rho sw (pm_setI h a j.toNatClampNeg x) := fun en hen => pm_W_set (pm_but_I _ _ _ _) hal hen
      have hsh := Nat.eq_of_beq_eq_true h4
      generalize pm_sh sw a = sh at *
      obtain ⟨sk, sn⟩ := sh
      dsimp only at hsh
      subst hsh
      refine va_iast hx hb hK hP hD hS a 1 hat rfl (pm_inb_vp h2) hdg (fun H1 locs1 hP1 hD1 hS1 => ?_)
      rw [hset _ (by show _ = Sum.inl (cy 1, sn, Sum.inl (va_up h.1 a _ a)); rw [va_up_self]; rfl)] at hP1 hD1
      exact k H1 locs1 hP1 hD1 hS1
    · cases hr
  · split at hr
    · rename_i _ x j a S1
      obtain ⟨hg, he⟩ := pm_bif hr
      cases he
      obtain ⟨h1, h2⟩ := Bool.and_eq_true_iff.mp hg
      obtain ⟨h3, h4⟩ := Bool.and_eq_true_iff.mp h1
      have hal := pm_blt h3
      have hat := pm_W_at (cy := cy) (rho := rho) (h := h) hal
      have hset : ∀ en, en = pm_E cy rho (pm_setI h a j.toNatClampNeg (vp_nar .char x)) (pm_sh sw a) a → (pm_W cy rho sw h).set a (rho a, en) = pm_W cy rho sw (pm_setI h a j.toNatClampNeg (vp_nar .char x)) := fun en hen => pm_W_set (pm_but_I _ _ _ _) hal hen
      have hsh := Nat.eq_of_beq_eq_true h4
      generalize pm_sh sw a = sh at *
      obtain ⟨sk, sn⟩ := sh
      dsimp only at hsh
      subst hsh
      refine va_cast hx hb hK hP hD hS a 2 hat rfl (pm_inb_vp h2) hdg (fun H1 locs1 hP1 hD1 hS1 => ?_)
      rw [hset _ (by show _ = Sum.inl (cy 2, sn, Sum.inl (va_up h.1 a _ a)); rw [va_up_self]; rfl)] at hP1 hD1
      exact k H1 locs1 hP1 hD1 hS1
    · cases hr
  · split at hr
    · rename_i _ x j a S1
      obtain ⟨hg, he⟩ := pm_bif hr
      cases he
      obtain ⟨h1, h2⟩ := Bool.and_eq_true_iff.mp hg
      obtain ⟨h3, h4⟩ := Bool.and_eq_true_iff.mp h1
      have hal := pm_blt h3
      have hat := pm_W_at (cy := cy) (rho := rho) (h := h) hal
      have hset : ∀ en, en = pm_E cy rho (pm_setI h a j.toNatClampNeg (vp_nar .boolean x)) (pm_sh sw a) a → (pm_W cy rho sw h).set a (rho a, en) = pm_W cy rho sw (pm_setI h a j.toNatClampNeg (vp_nar .boolean x)) := fun en hen => pm_W_set (pm_but_I _ _ _ _) hal hen
      have hsh := Nat.eq_of_beq_eq_true h4
      generalize pm_sh sw a = sh at *
      obtain ⟨sk, sn⟩ := sh
      dsimp only at hsh
      subst hsh
      refine va_zast hx hb hK hP hD hS a 3 hat rfl (pm_inb_vp h2) hdg (fun H1 locs1 hP1 hD1 hS1 => ?_)
      rw [hset _ (by show _ = Sum.inl (cy 3, sn, Sum.inl (va_up h.1 a _ a)); rw [va_up_self]; rfl)] at hP1 hD1
      exact k H1 locs1 hP1 hD1 hS1
    · cases hr
  · split at hr
    · rename_i _ x j a S1
      obtain ⟨hg, he⟩ := pm_bif hr
      cases he
      obtain ⟨h1, h2⟩ := Bool.and_eq_true_iff.mp hg
      obtain ⟨h3, h4⟩ := Bool.and_eq_true_iff.mp h1
      have hal := pm_blt h3
      have hat := pm_W_at (cy := cy) (rho := rho) (h := h) hal
      have hset : ∀ en, en = pm_E cy rho (pm_setL h a j.toNatClampNeg x) (pm_sh sw a) a → (pm_W cy rho sw h).set a (rho a, en) = pm_W cy rho sw (pm_setL h a j.toNatClampNeg x) := fun en hen => pm_W_set (pm_but_L _ _ _ _) hal hen
      have hsh := Nat.eq_of_beq_eq_true h4
      generalize pm_sh sw a = sh at *
      obtain ⟨sk, sn⟩ := sh
      dsimp only at hsh
      subst hsh
      refine va_last hx hb hK hP hD hS a 4 hat rfl (pm_inb_vp h2) hdg (fun H1 locs1 hP1 hD1 hS1 => ?_)
      rw [hset _ (by show _ = Sum.inl (cy 4, sn, Sum.inr (Sum.inl (va_up h.2.1 a _ a))); rw [va_up_self]; rfl)] at hP1 hD1
      exact k H1 locs1 hP1 hD1 hS1
    · cases hr
  · split at hr
    · rename_i _ x j a S1
      obtain ⟨hg, he⟩ := pm_bif hr
      cases he
      obtain ⟨hg1, hg2⟩ := Bool.and_eq_true_iff.mp hg
      obtain ⟨g1, g2⟩ := Bool.and_eq_true_iff.mp hg2
      obtain ⟨h1, h2⟩ := Bool.and_eq_true_iff.mp hg1
      obtain ⟨h3, h4⟩ := Bool.and_eq_true_iff.mp h1
      have hal := pm_blt h3
      have hat := pm_W_at (cy := cy) (rho := rho) (h := h) hal
      have hset : ∀ en, en = pm_E cy rho (pm_setR h a j.toNatClampNeg (some x)) (pm_sh sw a) a → (pm_W cy rho sw h).set a (rho a, en) = pm_W cy rho sw (pm_setR h a j.toNatClampNeg (some x)) := fun en hen => pm_W_set (pm_but_R _ _ _ _) hal hen
      have hsh := Nat.eq_of_beq_eq_true h4
      generalize pm_sh sw a = sh at *
      obtain ⟨sk, sn⟩ := sh
      dsimp only at hsh
      subst hsh
      have hO : va_O "QuietChecker$Kind" (rho x) A s s.heap := hKS.2.1 (x, "QuietChecker$Kind") (pm_kob_kind (Nat.le_of_ble_eq_true g1) (pm_blt g2))
      refine va_astqM hx hb hK hP hD hS a 5 hat rfl (pm_any hO hS) (pm_inb_vp h2) hdg (fun H1 locs1 hP1 hD1 hS1 => ?_)
      rw [hset _ (by
        show _ = Sum.inl (cy 5, sn, Sum.inr (Sum.inr (Sum.inr (Sum.inr (fun j' => (va_up h.2.2 a _ a j').map rho)))))
        rw [va_up_self]
        congr 7
        funext j'
        by_cases hj : j' = j.toNatClampNeg
        · subst hj; rw [va_up_self, va_up_self]; rfl
        · rw [va_up_ne _ _ hj, va_up_ne _ _ hj])] at hP1 hD1
      exact k H1 locs1 hP1 hD1 hS1
    · cases hr
  · cases hr
end PM5
end
section
/-! The run of the pure machine: steps, calls, answers -/
def pm_ret (i : Instr) (rt : Option FieldType) (S : List Value) : Option (Option Value) := match i with
  | .ireturn => match S with
    | [.int x] => (match rt with
      | some .int => some (some (.int x))
      | some .boolean => if x = 0 ∨ x = 1 then some (some (.int x)) else none
      | some .char => if vp_nar .char x = x then some (some (.int x)) else none
      | some .byte => if vp_nar .byte x = x then some (some (.int x)) else none
      | _ => none)
    | _ => none
  | .return_ => match S with
    | [] => (match rt with
      | none => some none
      | _ => none)
    | _ => none
  | .areturn => match S with
    | [.ref a] => (match rt with
      | some (.object _) => some (some (.ref a))
      | some (.array _) => some (some (.ref a))
      | _ => none)
    | _ => none
  | _ => none
/-- the receiver is an object of the method's class -/
def pm_rcv (sw : List (Nat × Nat)) (a o : Nat) : Bool := bif Nat.blt a 1000 then Nat.blt o 7 && pm_isO sw a o else (bif Nat.beq o 7 then Nat.blt a 1039 else false)
def pm_cats (S : List Value) : Nat := (S.map fun v => v.category).sum
/-- a call: the method, its arguments, the stack behind it -/
def pm_call (i : Instr) (sw : List (Nat × Nat)) (ow : Nat) (S : List Value) : Option (Nat × List Value × List Value) := match i with
  | .invokevirtual idx => match pm_iv ow idx with
    | some mj => (match S.drop (pm_np mj) with
      | .ref a :: S' => bif !pm_sc mj && (Nat.beq (S.take (pm_np mj)).length (pm_np mj) && (pm_rcv sw a (pm_ow mj) && (Nat.ble (pm_cats S') 8 && Nat.ble (lg_sl (.ref a :: (S.take (pm_np mj)).reverse)).length (pm_mx mj)))) then some (mj, .ref a :: (S.take (pm_np mj)).reverse, S') else none
      | _ => none)
    | none => none
  | .invokestatic idx => match pm_iv ow idx with
    | some mj => bif pm_sc mj && (Nat.beq (S.take (pm_np mj)).length (pm_np mj) && (Nat.ble (pm_cats (S.drop (pm_np mj))) 8 && Nat.ble (lg_sl (S.take (pm_np mj)).reverse).length (pm_mx mj))) then some (mj, (S.take (pm_np mj)).reverse, S.drop (pm_np mj)) else none
    | none => none
  | _ => none
abbrev pm_R : Type := (Nat × pm_L × List Value × pm_H) ⊕ (Option Value ⊕ (Nat × List Value × List Value))
def pm_step (sw : List (Nat × Nat)) (mi pc : Nat) (L : pm_L) (S : List Value) (h : pm_H) : Option pm_R := match pm_fd (pm_code mi) pc with
  | none => none
  | some i => match pm_push i L with
    | some v => some (.inl (pc + pm_ln i, L, v :: S, h))
    | none => match pm_ari i S with
      | some S' => some (.inl (pc + pm_ln i, L, S', h))
      | none => match pm_br i pc S with
        | some (pc', S') => some (.inl (pc', L, S', h))
        | none => match pm_sto i (pm_mx mi) L S with
          | some (L', S') => some (.inl (pc + pm_ln i, L', S', h))
          | none => match pm_read i sw (pm_ow mi) h S with
            | some S' => some (.inl (pc + pm_ln i, L, S', h))
            | none => match pm_write i sw (pm_ow mi) h S with
              | some (h', S') => some (.inl (pc + pm_ln i, L, S', h'))
              | none => match pm_ret i (pm_rt mi) S with
                | some v => some (.inr (.inl v))
                | none => match pm_call i sw (pm_ow mi) S with
                  | some q => some (.inr (.inr q))
                  | none => none
/-- System.arraycopy between two arrays of ints or of chars -/
def pm_isac (ow idx : Nat) : Bool := pm_acl.any (fun q => Nat.beq q.1 ow && Nat.beq q.2.1 idx)
def pm_cpfit (kd : Nat) (f : Nat → Int32) (sp n : Nat) : Bool := Nat.beq kd 1 || (Nat.beq kd 2 && (List.range n).all (fun i => fits .char (.int (f (sp + i)))))
def pm_cpy (i : Instr) (sw : List (Nat × Nat)) (ow : Nat) (h : pm_H) (S : List Value) : Option (pm_H × List Value) := match i with
  | .invokestatic idx => match S with
    | .int n :: .int dp :: .ref b :: .int sp :: .ref a :: S' => bif (pm_isac ow idx && (Nat.blt a sw.length && (Nat.blt b sw.length && Nat.beq (pm_sh sw a).1 (pm_sh sw b).1))) && ((!decide (sp < 0) && (!decide (dp < 0) && !decide (n < 0))) && ((Nat.ble (sp.toNatClampNeg + n.toNatClampNeg) (pm_sh sw a).2 && Nat.ble (dp.toNatClampNeg + n.toNatClampNeg) (pm_sh sw b).2) && (pm_cpfit (pm_sh sw a).1 (h.1 a) sp.toNatClampNeg n.toNatClampNeg && Nat.ble (pm_cats S') 8)))
        then some ((va_up h.1 b (va_cpy (h.1 a) (h.1 b) sp.toNatClampNeg dp.toNatClampNeg n.toNatClampNeg), h.2.1, h.2.2), S') else none
    | _ => none
  | _ => none
/-- calls that are answered by a contract of their own (none yet) -/
def pm_prim (_ : Nat) (_ : List Value) : Option Value := none
/-- n steps at most, d calls deep at most -/
def pm_run (sw : List (Nat × Nat)) : Nat → Nat → Nat → Nat → pm_L → List Value → pm_H → Option (Option Value × pm_H)
  | 0, _, _, _, _, _, _ => none
  | n + 1, d, mi, pc, L, S, h => match pm_step sw mi pc L S h with
    | none => match pm_fd (pm_code mi) pc with
      | none => none
      | some i => match pm_cpy i sw (pm_ow mi) h S with
        | none => none
        | some (h', S') => bif Nat.blt 0 d then pm_run sw n d mi (pc + 3) L S' h' else none
    | some (.inl (pc', L', S', h')) => pm_run sw n d mi pc' L' S' h'
    | some (.inr (.inl v)) => some (v, h)
    | some (.inr (.inr (mj, as, S'))) => match d with
      | 0 => none
      | d' + 1 => match pm_prim mj as with
        | some v => bif Nat.ble 4 d' then pm_run sw n (d' + 1) mi (pc + 3) L (v :: S') h else none
        | none => match pm_run sw n d' mj 0 (lv_args 0 as) [] h with
          | none => none
          | some (v, h') => pm_run sw n (d' + 1) mi (pc + 3) L (v.toList ++ S') h'
set_option maxRecDepth 100000 in
theorem pm_ac_all : pm_acl.all (fun q => pm_inG q.2.2 (Cond.methodLink (pm_on q.1) q.2.1 arraycopyName)) = true := by decide +kernel
set_option maxRecDepth 100000 in
theorem pm_ac_w : (pm_inG pm_acp.1 (Cond.native arraycopyName) && (pm_inG pm_acp.2.1 (Cond.static arraycopyName) && pm_inG pm_acp.2.2 (Cond.initialized "java/lang/System"))) = true := by decide +kernel
def pm_rm (d : Nat) : Room := { frames := d, cells := 0, slots := 0, locals := d * 40 }
set_option maxRecDepth 100000 in
theorem pm_iv_all : (List.range 13).all (fun o => (pm_ivl.getD o []).all (fun e => Nat.blt e.2.1 174 && pm_inG e.2.2 (Cond.methodLink (pm_on o) e.1 (pm_nm e.2.1)))) = true := by decide +kernel
/-- the words on a method, by their places -/
def pm_mA (mj : Nat) : Bool := bif pm_sc mj then pm_inG (pm_mp.getD mj (0, 0, 0, 0)).2.1 (Cond.static (pm_nm mj)) else (pm_inG (pm_mp.getD mj (0, 0, 0, 0)).2.1 (Cond.instanceMethod (pm_nm mj)) && pm_inG (pm_mp.getD mj (0, 0, 0, 0)).2.2.1 (Cond.selects (pm_on (pm_ow mj)) (pm_nm mj) (pm_nm mj)))
set_option maxRecDepth 100000 in
theorem pm_mA_1 : (List.range 64).all pm_mA = true := by decide +kernel
set_option maxRecDepth 100000 in
theorem pm_mA_2 : (List.range 110).all (fun k => pm_mA (64 + k)) = true := by decide +kernel
set_option maxRecDepth 100000 in
theorem pm_mB : (List.range 174).all (fun mj => pm_inG (pm_mp.getD mj (0, 0, 0, 0)).2.2.2 (Cond.initialized (pm_on (pm_ow mj)))) = true := by decide +kernel
set_option maxRecDepth 100000 in
theorem pm_mC : (List.range 174).all (fun mj => decide ((pm_nm mj).cls = pm_on (pm_ow mj))) = true := by decide +kernel
set_option maxRecDepth 100000 in
theorem pm_mD : (List.range 174).all (fun mj => decide ((parseMethodDescriptor (pm_nm mj).desc).map (fun d => d.parameters.length) = some (pm_np mj))) = true := by decide +kernel
set_option maxRecDepth 100000 in
theorem pm_mE : (List.range 174).all (fun mj => plainFor (pm_nm mj)) = true := by decide +kernel
set_option maxRecDepth 100000 in
theorem pm_mF : (List.range 174).all (fun mj => Nat.ble (pm_mx mj) 20) = true := by decide +kernel
set_option maxRecDepth 100000 in
theorem pm_mG : (List.range 174).all (fun mj => decide ((pm_nm mj).cls ≠ "java/lang/invoke/MethodHandle") && decide ((pm_nm mj).cls ≠ "java/lang/invoke/VarHandle")) = true := by decide +kernel
set_option maxRecDepth 100000 in
theorem pm_mH : (List.range 174).map (fun mj => lw_tbl[(pm_mp.getD mj (0, 0, 0, 0)).1]?) = (List.range 174).map (fun mj => some (Cond.code (pm_nm mj) (pm_by mj) (pm_mx mj) (pm_rt mj))) := by rfl
end
section
/-! THE RUN IS SOUND: what the pure machine answers, the machine answers -/
theorem pm_G_all {mj : Nat} (h : mj < 174) : Cond.code (pm_nm mj) (pm_by mj) (pm_mx mj) (pm_rt mj) ∈ pm_G := by
  have h1 : ((List.range 174).map (fun mj => lw_tbl[(pm_mp.getD mj (0, 0, 0, 0)).1]?))[mj]? = ((List.range 174).map (fun mj => some (Cond.code (pm_nm mj) (pm_by mj) (pm_mx mj) (pm_rt mj))))[mj]? := by rw [pm_mH]
  rw [List.getElem?_map, List.getElem?_map, List.getElem?_range h] at h1
  have h2 : lw_tbl[(pm_mp.getD mj (0, 0, 0, 0)).1]? = some (Cond.code (pm_nm mj) (pm_by mj) (pm_mx mj) (pm_rt mj)) := Option.some.inj h1
  exact List.mem_filter.mpr ⟨List.mem_of_getElem? h2, rfl⟩
theorem pm_mA_at {mj : Nat} (h : mj < 174) : pm_mA mj = true := by
  rcases Nat.lt_or_ge mj 64 with h1 | h1
  · exact List.all_eq_true.mp pm_mA_1 mj (List.mem_range.mpr h1)
  · have h2 := List.all_eq_true.mp pm_mA_2 (mj - 64) (List.mem_range.mpr (by omega))
    rw [show 64 + (mj - 64) = mj by omega] at h2
    exact h2
theorem pm_iv_ok {o idx mj : Nat} (h : pm_iv o idx = some mj) : mj < 174 ∧ Cond.methodLink (pm_on o) idx (pm_nm mj) ∈ pm_G := by
  obtain ⟨p, hp⟩ := pm_f3_mem h
  have h1 := List.all_eq_true.mp (List.all_eq_true.mp pm_iv_all o (List.mem_range.mpr (pm_own12 (by rfl) hp))) _ hp
  obtain ⟨h2, h3⟩ := Bool.and_eq_true_iff.mp h1
  exact ⟨pm_blt h2, pm_mem h3⟩
theorem pm_good_G : ∀ w ∈ pm_G, (w.onTables && w.keeps) = true ∨ ∃ ty, w = .arrayClass ty := fun w hw => good_of_word (List.mem_filter.mp hw).2
theorem pm_goodIn {mi mj : Nat} (hj : mj < 174) : GoodIn (pm_ws mi) (pm_ws mj) := by
  intro w hw
  have hw2 : w ∈ pm_G := by
    rcases List.mem_cons.mp hw with rfl | h1
    · exact pm_G_all hj
    · exact h1
  exact ⟨List.mem_cons_of_mem _ hw2, pm_good_G w hw2⟩
theorem pm_args_c (rho : Nat → Nat) : ∀ (as : List Value) (k : Nat), lv_args k (pm_cS rho as) = pm_cL rho (lv_args k as) := by
  intro as
  induction as with
  | nil => intro k; rfl
  | cons v as ih =>
    intro k
    show (k, pm_cv rho v) :: lv_args (if (pm_cv rho v).category = 2 then k + 2 else k + 1) (pm_cS rho as) = (k, pm_cv rho v) :: pm_cL rho (lv_args (if v.category = 2 then k + 2 else k + 1) as)
    rw [pm_cv_cat, ih]
theorem pm_sl_len (rho : Nat → Nat) (as : List Value) : (lg_sl (pm_cS rho as)).length = (lg_sl as).length := by
  induction as with
  | nil => rfl
  | cons v as ih =>
    unfold lg_sl pm_cS at *
    rw [List.map_cons, List.flatMap_cons, List.flatMap_cons, List.length_append, List.length_append, ih, pm_cv_cat]
    split <;> rfl
theorem pm_cats_c (rho : Nat → Nat) (S : List Value) : ((pm_cS rho S).map fun v => v.category).sum = pm_cats S := by
  unfold pm_cS pm_cats
  rw [List.map_map]
  congr 1
  apply List.map_congr_left
  intro v _
  exact pm_cv_cat rho v
theorem pm_ofW {l : Launch} {y : MethodName} {ws ws' : List Cond} {rm : Room} {Pc : Array Value → State → Prop} {Qc : Array Value → State → Outcome → State → Prop} {mc ms : Nat} {free : Addr → Prop} {cc : ByteArray} {maxL : Nat} {ret : Option FieldType}
    (hy : plainFor y = true) (hw : ws = Cond.code y cc maxL ret :: ws')
    (body : ∀ p e s m args below meth c s₁, BodyLoose p l y (headSpec ws rm) cc maxL ret e s m args below meth c s₁ → c.maxLocals = maxL → Pc args s →
      W p l e (headSpec ws rm).room s m args below meth c s.heap [] 0 0 (MQ below Qc args s mc ms free) (entryFrame m args maxL)) : Met l y ws rm Pc Qc mc ms free := by
  refine MetFree.of_bodySF (code := cc) (maxLocals := maxL) (ret := ret) hy ?_ ?_
  · intro args s m h hn
    obtain ⟨meth, c, h1, h2, h3, h4, h5, h6, -, -⟩ := Cond.code_spec hn (atoms_spec (ws := ws) h _ (by rw [hw]; exact List.mem_cons_self))
    exact ⟨meth, c, h1, h2, h3, h4, h5, h6⟩
  · intro p e s m args below meth c s₁ B hml hP _
    have hh0 : s₁.heap = s.heap := by rw [B.state]; rfl
    obtain ⟨t, a1, o, b1, b2, b3⟩ := body p e s m args below meth c s₁ B hml hP s₁ hh0 (Stand.of_body B)
    exact ⟨t, o, a1, b1, b2, ⟨b3.1, b3.2⟩⟩
/-- the state before a call: the world of h, and what the constants are -/
def pm_B (rho : Nat → Nat) (D : va_G) (cy : Nat → ClassId) (sw : List (Nat × Nat)) (h : pm_H) (sz : Nat) (U : State) : Prop :=
  U.heap.size = sz ∧ va_P D pm_cl (pm_W cy rho sw h) U.heap ∧ va_K D pm_cl (pm_tys cy) U ∧ va_D (fun _ => True) (pm_W cy rho sw h) ∧ pm_KS rho (va_A (pm_W cy rho sw h) sz) U U.heap
/-- and behind it: the answer, the world of h', nothing else written -/
def pm_Q (rho : Nat → Nat) (D : va_G) (cy : Nat → ClassId) (sw : List (Nat × Nat)) (h : pm_H) (sz : Nat) (v : Option Value) (h' : pm_H) : Array Value → State → Outcome → State → Prop := fun _ st o t =>
  o = .returned (v.map (pm_cv rho)) ∧ (va_P D pm_cl (pm_W cy rho sw h') t.heap ∧ va_D (va_A (pm_W cy rho sw h) sz) (pm_W cy rho sw h')) ∧ va_F (va_A (pm_W cy rho sw h) sz) st t
section PM6
variable {p : Program} {l : Launch} {e : Env} {R : Room} {s : State} {m : MethodId} {args : Array Value} {below : List Frame} {meth : Method} {c : Code} {H : Heap} {locs : List Loc} {cells slots : Nat} {Q : State → Prop} {pc : Nat} {ls : Array Slot} {rest st0 : List Value} {A0 A1 : Nat → Prop} {H0 : Heap} {free : Addr → Prop}
theorem pm_callk {Qa : State → Outcome → State → Prop} {B : State → Prop} {v0 : Option Value} (hr : va_Run p l e R s m args below meth c H locs cells slots 0 0 (F0 m pc ls st0) rest Qa free) (hQ : ∀ (st : State) (v : Option Value) (t : State), Qa st (.returned v) t → v = v0 ∧ B t ∧ va_F A1 st t) (hS : va_S A0 H0 H locs) (hA : ∀ q, q < H.size → A1 q → A0 q) (hf : ∀ q, free q → A0 q)
    (kk : ∀ (t : State) (locs1 : List Loc), B t → va_S A0 H0 t.heap locs1 → W p l e R s m args below meth c t.heap locs1 cells slots Q (F0 m (pc + 3) ls (v0.toList ++ rest))) : W p l e R s m args below meth c H locs cells slots Q (F0 m pc ls st0) := by
  intro T hT X
  obtain ⟨v, st₀, t, T', L, h0, X', hL, e1, e2, hq, st⟩ := hr T hT X
  obtain ⟨rfl, hb, hz, hk⟩ := hQ st₀ v t hq
  rw [h0] at hz hk
  obtain ⟨t2, a1, b1⟩ := kk t (locs ++ L) hb
    ⟨Nat.le_trans hS.1 hz, fun q h1 h2 => by rw [hk q (Nat.lt_of_lt_of_le h1 hS.1) (fun z => h2 (hA q (Nat.lt_of_lt_of_le h1 hS.1) z))]; exact hS.2.1 q h1 h2, fun q hq => by
      rcases List.mem_append.mp hq with h | h
      · exact hS.2.2 q h
      · exact hf _ (hL q h)⟩ T' e1 X'
  exact ⟨t2, st t2 a1, b1⟩
end PM6
theorem pm_cS_app (rho : Nat → Nat) (a b : List Value) : pm_cS rho (a ++ b) = pm_cS rho a ++ pm_cS rho b := List.map_append
theorem pm_cS_rev (rho : Nat → Nat) (a : List Value) : pm_cS rho a.reverse = (pm_cS rho a).reverse := List.map_reverse
theorem pm_toList_c (rho : Nat → Nat) (v : Option Value) : (v.map (pm_cv rho)).toList = pm_cS rho v.toList := by cases v <;> rfl
section PM7
variable {l : Launch} {rho : Nat → Nat} {D : va_G} {cy : Nat → ClassId} {sw : List (Nat × Nat)}
/-- one method's body from a place on -/
def pm_Bd (l : Launch) (rho : Nat → Nat) (D : va_G) (cy : Nat → ClassId) (sw : List (Nat × Nat)) (n : Nat) : Prop :=
  ∀ (d mi pc : Nat) (L : pm_L) (S : List Value) (h : pm_H) (v : Option Value) (h' : pm_H), pm_run sw n d mi pc L S h = some (v, h') → mi < 174 →
  ∀ (p : Program) (e : Env) (s : State) (m : MethodId) (args : Array Value) (below : List Frame) (meth : Method) (c : Code) (H : Heap) (locs : List Loc) (ls : Array Slot) (A : Nat → Prop) (Qc : Array Value → State → Outcome → State → Prop),
  p.tables.exec = Jvm.exec → c.code = pm_by mi → c.maxLocals = pm_mx mi → s.vm.findClass (pm_on (pm_ow mi)) = some m.cls → (∀ w ∈ pm_ws mi, w.before args s = true) → meth.sig.returnType = pm_rt mi → meth.locks = false →
  va_K D pm_cl (pm_tys cy) s → va_P D pm_cl (pm_W cy rho sw h) H → va_D A (pm_W cy rho sw h) → va_S A s.heap H locs → (∀ q, s.heap.size ≤ q → A q) → pm_KS rho A s s.heap → lv_has ls (pm_mx mi) (pm_cL rho L) →
  (∀ (t : State) (locs1 : List Loc), s.WarmedH t.vm → va_P D pm_cl (pm_W cy rho sw h') t.heap → va_D A (pm_W cy rho sw h') → va_S A s.heap t.heap locs1 → Qc args s (.returned (v.map (pm_cv rho))) t) →
  W p l e (pm_rm d) s m args below meth c H locs 0 0 (MQ below Qc args s 0 0 A) (F0 m pc ls (pm_cS rho S))
theorem pm_met_of {n d mj : Nat} {as : List Value} {h h' : pm_H} {v : Option Value} (hB : pm_Bd l rho D cy sw n) (hrun : pm_run sw n d mj 0 (lv_args 0 as) [] h = some (v, h')) (hj : mj < 174) (hfit : (lg_sl as).length ≤ pm_mx mj) (sz : Nat) :
    Met l (pm_nm mj) (pm_ws mj) (pm_rm d) (va_Pc (pm_cS rho as) (pm_B rho D cy sw h sz)) (pm_Q rho D cy sw h sz v h') 0 0 (va_A (pm_W cy rho sw h) sz) := by
  have hfor : plainFor (pm_nm mj) = true := List.all_eq_true.mp pm_mE mj (List.mem_range.mpr hj)
  refine pm_ofW (cc := pm_by mj) (maxL := pm_mx mj) (ret := pm_rt mj) hfor rfl ?_
  intro p e s m args below meth c s₁ B hml hv
  obtain ⟨rfl, rfl, hP, hK, hD0, hKS⟩ := hv
  have hcls : (pm_nm mj).cls = pm_on (pm_ow mj) := of_decide_eq_true (List.all_eq_true.mp pm_mC mj (List.mem_range.mpr hj))
  have hown : s.vm.findClass (pm_on (pm_ow mj)) = some m.cls := by
    rw [← hcls]
    exact findClass_of_methodNamed B.named
  have hl := lv_entry (pm_cS rho as) (n := pm_mx mj) (by rw [pm_sl_len]; exact hfit)
  rw [pm_args_c] at hl
  rw [lg_entry_eq]
  refine hB d mj 0 (lv_args 0 as) [] h v h' hrun hj p e s m _ below meth c s.heap [] _ (va_A (pm_W cy rho sw h) s.heap.size) _ B.exec B.bytes hml hown (atoms_spec (ws := pm_ws mj) B.pre) B.returns B.notSynchronized hK hP hD0.self va_S.rf (fun q hq => Or.inr hq) hKS hl ?_
  intro t locs1 _ hP1 hD1 hS1
  exact ⟨rfl, ⟨hP1, hD1⟩, hS1.F rfl⟩
end PM7
end
section
section PM8
variable {l : Launch} {rho : Nat → Nat} {D : va_G} {cy : Nat → ClassId} {sw : List (Nat × Nat)}
theorem pm_not {b : Bool} (h : (!b) = true) : b = false := by cases b with | false => rfl | true => cases h
theorem pm_cpy_snd {p : Program} {e : Env} {R : Room} {s : State} {m : MethodId} {args : Array Value} {below : List Frame} {meth : Method} {c : Code} {H : Heap} {locs : List Loc} {cells slots : Nat} {Q : State → Prop} {cc : ByteArray} {pc : Nat} {ls : Array Slot} {S S' : List Value} {h h' : pm_H} {A : Nat → Prop} {Ts : List Cond} {ow : Nat} (hx : p.tables.exec = Jvm.exec) (hb : c.code = cc) (hml : c.maxLocals = ls.size) (hts : ∀ w ∈ Ts, w.before args s = true) (hG : ∀ w ∈ pm_G, w ∈ Ts) (hown : s.vm.findClass (pm_on ow) = some m.cls) (hK : va_K D pm_cl (pm_tys cy) s) (hP : va_P D pm_cl (pm_W cy rho sw h) H) (hD : va_D A (pm_W cy rho sw h)) (hS : va_S A s.heap H locs) (hR : 1 ≤ R.frames ∧ 40 ≤ R.locals)
    {i : Instr} (hdg : decode cc pc = .ok (i, pm_ln i)) (hr : pm_cpy i sw ow h S = some (h', S'))
    (k : ∀ (H1 : Heap) (locs1 : List Loc), va_P D pm_cl (pm_W cy rho sw h') H1 → va_D A (pm_W cy rho sw h') → va_S A s.heap H1 locs1 → W p l e R s m args below meth c H1 locs1 cells slots Q (F0 m (pc + 3) ls (pm_cS rho S'))) : W p l e R s m args below meth c H locs cells slots Q (F0 m pc ls (pm_cS rho S)) := by
  unfold pm_cpy at hr
  split at hr
  · split at hr
    · rename_i idx _ n dp b sp a S1
      obtain ⟨hg, he⟩ := pm_bif hr
      cases he
      obtain ⟨g1, g2⟩ := Bool.and_eq_true_iff.mp hg
      obtain ⟨g3, g4⟩ := Bool.and_eq_true_iff.mp g1
      obtain ⟨g5, g6⟩ := Bool.and_eq_true_iff.mp g4
      obtain ⟨g7, g8⟩ := Bool.and_eq_true_iff.mp g6
      obtain ⟨g9, g10⟩ := Bool.and_eq_true_iff.mp g2
      obtain ⟨g11, g12⟩ := Bool.and_eq_true_iff.mp g9
      obtain ⟨g13, g14⟩ := Bool.and_eq_true_iff.mp g12
      obtain ⟨g15, g16⟩ := Bool.and_eq_true_iff.mp g10
      obtain ⟨g17, g18⟩ := Bool.and_eq_true_iff.mp g15
      obtain ⟨g19, g20⟩ := Bool.and_eq_true_iff.mp g16
      have g11 := of_decide_eq_false (pm_not g11)
      have g13 := of_decide_eq_false (pm_not g13)
      have g14 := of_decide_eq_false (pm_not g14)
      have g20 := Nat.le_of_ble_eq_true g20
      have hal := pm_blt g5
      have hbl := pm_blt g7
      have hsh := Nat.eq_of_beq_eq_true g8
      obtain ⟨q, hq1, hq2⟩ := List.any_eq_true.mp g3
      obtain ⟨hq3, hq4⟩ := Bool.and_eq_true_iff.mp hq2
      have hq3 := Nat.eq_of_beq_eq_true hq3
      have hq4 := Nat.eq_of_beq_eq_true hq4
      have hlink : Cond.methodLink (pm_on ow) idx arraycopyName ∈ pm_G := by
        have := pm_mem (List.all_eq_true.mp pm_ac_all q hq1)
        rw [hq3, hq4] at this
        exact this
      obtain ⟨w1, w2⟩ := Bool.and_eq_true_iff.mp pm_ac_w
      obtain ⟨w3, w4⟩ := Bool.and_eq_true_iff.mp w2
      have ha := pm_W_at (cy := cy) (rho := rho) (h := h) hal
      have hb' := pm_W_at (cy := cy) (rho := rho) (h := h) hbl
      have hbut : pm_but b h (va_up h.1 b (va_cpy (h.1 a) (h.1 b) sp.toNatClampNeg dp.toNatClampNeg n.toNatClampNeg), h.2.1, h.2.2) := fun j hj => ⟨va_up_ne _ _ hj, rfl, rfl⟩
      have hset : ∀ en, en = pm_E cy rho (va_up h.1 b (va_cpy (h.1 a) (h.1 b) sp.toNatClampNeg dp.toNatClampNeg n.toNatClampNeg), h.2.1, h.2.2) (pm_sh sw b) b → (pm_W cy rho sw h).set b (rho b, en) = pm_W cy rho sw (va_up h.1 b (va_cpy (h.1 a) (h.1 b) sp.toNatClampNeg dp.toNatClampNeg n.toNatClampNeg), h.2.1, h.2.2) := fun en hen => pm_W_set hbut hbl hen
      have hloc : ((pm_cS rho S').map fun v => v.category).sum + (nativeFrameWords "java/lang/System" "arraycopy" 5 + 11) ≤ R.locals := by
        rw [pm_cats_c]
        have : nativeFrameWords "java/lang/System" "arraycopy" 5 = 7 := by decide
        rw [this]
        omega
      generalize pm_sh sw a = sha at *
      generalize pm_sh sw b = shb at *
      obtain ⟨ka, na⟩ := sha
      obtain ⟨kb, nb⟩ := shb
      dsimp only at hsh g17 g18 g19
      subst hsh
      rcases Bool.or_eq_true_iff.mp g19 with hk | hk
      · have hk := Nat.eq_of_beq_eq_true hk
        subst hk
        refine va_copyi hx hb hml hown (hts _ (hG _ hlink)) (hts _ (hG _ (pm_mem w1))) (hts _ (hG _ (pm_mem w3))) (hts _ (hG _ (pm_mem w4))) hK hP hD hS a b 1 1 ha hb' rfl rfl rfl g11 g13 g14 (Nat.le_of_ble_eq_true g17) (Nat.le_of_ble_eq_true g18) (fun _ _ => rfl) hR.1 hloc hdg (fun H1 locs1 hP1 hD1 hS1 => ?_)
        rw [hset _ (by show _ = Sum.inl (cy 1, nb, Sum.inl (va_up h.1 b _ b)); rw [va_up_self])] at hP1 hD1
        exact k H1 locs1 hP1 hD1 hS1
      · obtain ⟨hk, hfit⟩ := Bool.and_eq_true_iff.mp hk
        have hk := Nat.eq_of_beq_eq_true hk
        subst hk
        refine va_copyi hx hb hml hown (hts _ (hG _ hlink)) (hts _ (hG _ (pm_mem w1))) (hts _ (hG _ (pm_mem w3))) (hts _ (hG _ (pm_mem w4))) hK hP hD hS a b 2 2 ha hb' rfl rfl rfl g11 g13 g14 (Nat.le_of_ble_eq_true g17) (Nat.le_of_ble_eq_true g18) (fun i hi => List.all_eq_true.mp hfit i (List.mem_range.mpr hi)) hR.1 hloc hdg (fun H1 locs1 hP1 hD1 hS1 => ?_)
        rw [hset _ (by show _ = Sum.inl (cy 2, nb, Sum.inl (va_up h.1 b _ b)); rw [va_up_self])] at hP1 hD1
        exact k H1 locs1 hP1 hD1 hS1
    · cases hr
  · cases hr
theorem pm_rcv_t {s : State} {H : Heap} {locs : List Loc} {A : Nat → Prop} {h : pm_H} {a o : Nat} (hr : pm_rcv sw a o = true) (hK : va_K D pm_cl (pm_tys cy) s) (hP : va_P D pm_cl (pm_W cy rho sw h) H) (hS : va_S A s.heap H locs) (hKS : pm_KS rho A s s.heap) : ∃ cell : Cell, H[rho a]? = some cell ∧ cell.vm.isStatics = false ∧ s.vm.findClass (pm_on o) = some cell.cls := by
  unfold pm_rcv at hr
  cases ha : Nat.blt a 1000 with
  | true =>
    rw [ha] at hr
    obtain ⟨h1, h2⟩ := Bool.and_eq_true_iff.mp hr
    have ho := pm_blt h1
    obtain ⟨hal, hsh⟩ := pm_isO_t h2
    have h3 := va_recv hK hP (pm_cl_at ho) ((pm_W_at hal).trans (by rw [pm_E_O hsh]))
    have h4 : (pm_clN o).1 = pm_on o := by
      match o, ho with
      | 0, _ => rfl
      | 1, _ => rfl
      | 2, _ => rfl
      | 3, _ => rfl
      | 4, _ => rfl
      | 5, _ => rfl
      | 6, _ => rfl
    rw [h4] at h3
    exact h3
  | false =>
    rw [ha] at hr
    dsimp only [cond] at hr
    cases ho : Nat.beq o 7 with
    | false => rw [ho] at hr; cases hr
    | true =>
      rw [ho] at hr
      have ho := Nat.eq_of_beq_eq_true ho
      subst ho
      have h1 : 1000 ≤ a := by
        rcases Nat.lt_or_ge a 1000 with h | h
        · have : Nat.blt a 1000 = true := Nat.ble_eq_true_of_le h
          rw [this] at ha
          cases ha
        · exact h
      obtain ⟨cell, q1, q2, q3, q4⟩ := (hKS.2.1 (a, "QuietChecker$Kind") (pm_kob_kind h1 (pm_blt hr))).kept hS.2.1
      exact ⟨cell, q1, q2, q3⟩
theorem pm_blind {as : List Value} {h : pm_H} {sz : Nat} : FrameBlind (va_Pc (pm_cS rho as) (pm_B rho D cy sw h sz)) := by
  intro a U g mk q
  obtain ⟨h1, h2, h3, h4, h5, h6⟩ := q
  exact ⟨h1, h2, h3, va_K.moved (u := U) (U := U.calling g mk a) (Vm.Alike.refl U.vm) h4, h5, pm_KS.moved (u := U) (U := U.calling g mk a) (Vm.Alike.refl U.vm) h6⟩
set_option maxHeartbeats 4000000 in
theorem pm_body (hinj : ∀ a b, pm_kc a = true → pm_kc b = true → rho a = rho b → a = b) (hprim : ∀ (mj : Nat) (as : List Value) (v : Value), pm_prim mj as = some v → ∀ (h : pm_H) (sz : Nat), Met l (pm_nm mj) (pm_ws mj) (pm_rm 4) (va_Pc (pm_cS rho as) (pm_B rho D cy sw h sz)) (pm_Q rho D cy sw h sz (some v) h) 0 0 (va_A (pm_W cy rho sw h) sz)) : ∀ n, pm_Bd l rho D cy sw n := by
  intro n
  induction n with
  | zero => intro d mi pc L S h v h' hrun; cases hrun
  | succ n ih =>
    intro d mi pc L S h v h' hrun hmi p e s m args below meth c H locs ls A Qc hx hb hml hown hts hrt hlk hK hP hD hS hA hKS hl hQ
    unfold pm_run at hrun
    have hG : ∀ w ∈ pm_G, w ∈ pm_ws mi := fun w hw => List.mem_cons_of_mem _ hw
    cases hst : pm_step sw mi pc L S h with
    | none =>
      rw [hst] at hrun
      dsimp only at hrun
      cases hfd : pm_fd (pm_code mi) pc with
      | none => rw [hfd] at hrun; cases hrun
      | some i =>
        rw [hfd] at hrun
        dsimp only at hrun
        obtain ⟨len, hdec, hlen⟩ := pm_decode hfd
        cases h9 : pm_cpy i sw (pm_ow mi) h S with
        | none => rw [h9] at hrun; cases hrun
        | some q =>
          obtain ⟨h9', S1⟩ := q
          rw [h9] at hrun
          dsimp only at hrun
          cases hd : Nat.blt 0 d with
          | false => rw [hd] at hrun; cases hrun
          | true =>
            rw [hd] at hrun
            have hd := pm_blt hd
            have hdg : decode (pm_by mi) pc = .ok (i, pm_ln i) := by
              rcases hlen with h1 | h1
              · unfold pm_cpy at h9; split at h9 <;> first | cases h1 | cases h9
              · rw [hdec, h1]
            exact pm_cpy_snd hx hb (hml.trans hl.1.symm) hts hG hown hK hP hD hS ⟨hd, by show 40 ≤ d * 40; omega⟩ hdg h9 (fun H1 locs1 hP1 hD1 hS1 => ih _ _ _ _ _ _ _ _ hrun hmi p e s m args below meth c H1 locs1 ls A Qc hx hb hml hown hts hrt hlk hK hP1 hD1 hS1 hA hKS hl hQ)
    | some r =>
      rw [hst] at hrun
      unfold pm_step at hst
      cases hfd : pm_fd (pm_code mi) pc with
      | none => rw [hfd] at hst; cases hst
      | some i =>
        rw [hfd] at hst
        dsimp only at hst
        obtain ⟨len, hdec, hlen⟩ := pm_decode hfd
        have hd1 : pm_ln i ≠ 0 → decode (pm_by mi) pc = .ok (i, pm_ln i) := fun z => by
          rcases hlen with h1 | h1
          · exact absurd h1 z
          · rw [hdec, h1]
        cases h1 : pm_push i L with
        | some v1 =>
          rw [h1] at hst
          cases hst
          exact pm_push_snd hx hb (hd1 (fun z => by unfold pm_push at h1; split at h1 <;> first | cases z | cases h1)) hl h1 (ih _ _ _ _ _ _ _ _ hrun hmi p e s m args below meth c H locs ls A Qc hx hb hml hown hts hrt hlk hK hP hD hS hA hKS hl hQ)
        | none =>
          rw [h1] at hst
          dsimp only at hst
          cases h2 : pm_ari i S with
          | some S1 =>
            rw [h2] at hst
            cases hst
            exact pm_ari_snd hx hb (hd1 (fun z => by unfold pm_ari at h2; split at h2 <;> first | cases z | cases h2)) h2 (ih _ _ _ _ _ _ _ _ hrun hmi p e s m args below meth c H locs ls A Qc hx hb hml hown hts hrt hlk hK hP hD hS hA hKS hl hQ)
          | none =>
            rw [h2] at hst
            dsimp only at hst
            cases h3 : pm_br i pc S with
            | some q =>
              obtain ⟨pc1, S1⟩ := q
              rw [h3] at hst
              cases hst
              exact pm_br_snd hx hb hdec hlen hinj h3 (ih _ _ _ _ _ _ _ _ hrun hmi p e s m args below meth c H locs ls A Qc hx hb hml hown hts hrt hlk hK hP hD hS hA hKS hl hQ)
            | none =>
              rw [h3] at hst
              dsimp only at hst
              cases h4 : pm_sto i (pm_mx mi) L S with
              | some q =>
                obtain ⟨L1, S1⟩ := q
                rw [h4] at hst
                cases hst
                exact pm_sto_snd hx hb (hd1 (fun z => by unfold pm_sto at h4; split at h4 <;> first | cases z | cases h4)) hl h4 (fun ls' hl' => ih _ _ _ _ _ _ _ _ hrun hmi p e s m args below meth c H locs ls' A Qc hx hb hml hown hts hrt hlk hK hP hD hS hA hKS hl' hQ)
              | none =>
                rw [h4] at hst
                dsimp only at hst
                cases h5 : pm_read i sw (pm_ow mi) h S with
                | some S1 =>
                  rw [h5] at hst
                  cases hst
                  exact pm_read_snd hx hb hts hG hown hK hP hS hKS (hd1 (fun z => by unfold pm_read at h5; split at h5 <;> first | cases z | cases h5)) h5 (ih _ _ _ _ _ _ _ _ hrun hmi p e s m args below meth c H locs ls A Qc hx hb hml hown hts hrt hlk hK hP hD hS hA hKS hl hQ)
                | none =>
                  rw [h5] at hst
                  dsimp only at hst
                  cases h6 : pm_write i sw (pm_ow mi) h S with
                  | some q =>
                    obtain ⟨h1', S1⟩ := q
                    rw [h6] at hst
                    cases hst
                    exact pm_write_snd hx hb hts hG hown hK hP hD hS hKS (hd1 (fun z => by unfold pm_write at h6; split at h6 <;> first | cases z | cases h6)) h6 (fun H1 locs1 hP1 hD1 hS1 => ih _ _ _ _ _ _ _ _ hrun hmi p e s m args below meth c H1 locs1 ls A Qc hx hb hml hown hts hrt hlk hK hP1 hD1 hS1 hA hKS hl hQ)
                  | none =>
                    rw [h6] at hst
                    dsimp only at hst
                    cases h7 : pm_ret i (pm_rt mi) S with
                    | some w =>
                      rw [h7] at hst
                      cases hst
                      cases hrun
                      have hdg := hd1 (fun z => by unfold pm_ret at h7; split at h7 <;> first | cases z | cases h7)
                      unfold pm_ret at h7
                      split at h7
                      · split at h7
                        · split at h7
                          · rename_i x _ ert
                            cases h7
                            exact W.iret hx hb (hrt.trans ert) (fun t ht hW => hQ t locs hW (by rw [ht]; exact hP) hD (by rw [ht]; exact hS)) hS.2.2 hdg hlk
                          · rename_i x _ ert
                            split at h7
                            · rename_i h01
                              cases h7
                              exact W.zret hx hb (hrt.trans ert) (by rcases h01 with rfl | rfl <;> decide) (fun t ht hW => hQ t locs hW (by rw [ht]; exact hP) hD (by rw [ht]; exact hS)) hS.2.2 hdg hlk
                            · cases h7
                          · rename_i x _ ert
                            split at h7
                            · rename_i hch
                              cases h7
                              exact W.zret hx hb (hrt.trans ert) (by show Value.int (vp_nar .char x) = _; rw [hch]) (fun t ht hW => hQ t locs hW (by rw [ht]; exact hP) hD (by rw [ht]; exact hS)) hS.2.2 hdg hlk
                            · cases h7
                          · rename_i x _ ert
                            split at h7
                            · rename_i hch
                              cases h7
                              exact W.zret hx hb (hrt.trans ert) (by show Value.int (vp_nar .byte x) = _; rw [hch]) (fun t ht hW => hQ t locs hW (by rw [ht]; exact hP) hD (by rw [ht]; exact hS)) hS.2.2 hdg hlk
                            · cases h7
                          · cases h7
                        · cases h7
                      · split at h7
                        · split at h7
                          · rename_i _ ert
                            cases h7
                            exact W.vret hx hb (hrt.trans ert) (fun t ht hW => hQ t locs hW (by rw [ht]; exact hP) hD (by rw [ht]; exact hS)) hS.2.2 hdg hlk
                          · cases h7
                        · cases h7
                      · split at h7
                        · split at h7
                          · rename_i a _ nm ert
                            cases h7
                            exact W.aret hx hb (hrt.trans ert) (Or.inl ⟨_, rfl⟩) (Or.inr ⟨_, rfl⟩) (fun t ht hW => hQ t locs hW (by rw [ht]; exact hP) hD (by rw [ht]; exact hS)) hS.2.2 hdg hlk
                          · rename_i a _ nm ert
                            cases h7
                            exact W.aret hx hb (hrt.trans ert) (Or.inr ⟨_, rfl⟩) (Or.inr ⟨_, rfl⟩) (fun t ht hW => hQ t locs hW (by rw [ht]; exact hP) hD (by rw [ht]; exact hS)) hS.2.2 hdg hlk
                          · cases h7
                        · cases h7
                      · cases h7
                    | none =>
                      rw [h7] at hst
                      dsimp only at hst
                      cases h8 : pm_call i sw (pm_ow mi) S with
                      | none => rw [h8] at hst; cases hst
                      | some q =>
                        obtain ⟨mj, as, S1⟩ := q
                        rw [h8] at hst
                        cases hst
                        dsimp only at hrun
                        cases d with
                        | zero => cases hrun
                        | succ d =>
                          dsimp only at hrun
                          have hcal : ∃ (d2 : Nat) (v2 : Option Value) (h2' : pm_H), d2 ≤ d ∧ ((lg_sl as).length ≤ pm_mx mj → mj < 174 → ∀ sz, Met l (pm_nm mj) (pm_ws mj) (pm_rm d2) (va_Pc (pm_cS rho as) (pm_B rho D cy sw h sz)) (pm_Q rho D cy sw h sz v2 h2') 0 0 (va_A (pm_W cy rho sw h) sz)) ∧ pm_run sw n (d + 1) mi (pc + 3) L (v2.toList ++ S1) h2' = some (v, h') := by
                            cases hpr : pm_prim mj as with
                            | some v2 =>
                              rw [hpr] at hrun
                              dsimp only at hrun
                              cases hd4 : Nat.ble 4 d with
                              | false => rw [hd4] at hrun; cases hrun
                              | true =>
                                rw [hd4] at hrun
                                exact ⟨4, some v2, h, Nat.le_of_ble_eq_true hd4, fun _ _ sz => hprim mj as v2 hpr h sz, hrun⟩
                            | none =>
                              rw [hpr] at hrun
                              dsimp only at hrun
                              cases hcal : pm_run sw n d mj 0 (lv_args 0 as) [] h with
                              | none => rw [hcal] at hrun; cases hrun
                              | some r2 =>
                                obtain ⟨v2, h2'⟩ := r2
                                rw [hcal] at hrun
                                exact ⟨d, v2, h2', Nat.le_refl _, fun hfit hj sz => pm_met_of ih hcal hj hfit sz, hrun⟩
                          clear hrun
                          obtain ⟨d2, v2, h2', hd2, hMet, hrun⟩ := hcal
                          have hFc : ∀ q, va_A (pm_W cy rho sw h) H.size q → A q := by
                            intro q hq
                            rcases hq with ⟨k, en, hk⟩ | hq
                            · exact hD.2 k _ hk
                            · exact hA q (Nat.le_trans hS.1 hq)
                          have hKS1 : pm_KS rho (va_A (pm_W cy rho sw h) H.size) s H := (hKS.kept hS.2.1).narrow hFc
                          have hpre : ∀ U : State, U.heap = H → s.WarmedH U.vm → pm_B rho D cy sw h H.size U := by
                            intro U hU hW
                            refine ⟨by rw [hU], by rw [hU]; exact hP, va_K.moved hW.alike hK, hD.weaken (fun _ _ _ _ => trivial), ?_⟩
                            rw [hU]
                            exact pm_KS.moved hW.alike hKS1
                          have hdg := hd1 (fun z => by unfold pm_call at h8; split at h8 <;> first | cases z | cases h8)
                          have hfin : ∀ (mj : Nat) (as S1 : List Value) (st0 : List Value) (a0 : Array Value), mj < 174 → va_Run p l e (pm_rm (d + 1)) s m args below meth c H locs 0 0 0 0 (F0 m pc ls st0) (pm_cS rho S1) (pm_Q rho D cy sw h H.size v2 h2' a0) (va_A (pm_W cy rho sw h) H.size) → pm_run sw n (d + 1) mi (pc + 3) L (v2.toList ++ S1) h2' = some (v, h') → W p l e (pm_rm (d + 1)) s m args below meth c H locs 0 0 (MQ below Qc args s 0 0 A) (F0 m pc ls st0) := by
                            intro mj as S1 st0 a0 hj hr hrun
                            refine pm_callk (B := fun t => va_P D pm_cl (pm_W cy rho sw h2') t.heap ∧ va_D (va_A (pm_W cy rho sw h) H.size) (pm_W cy rho sw h2')) (A1 := va_A (pm_W cy rho sw h) H.size) (v0 := v2.map (pm_cv rho)) hr ?_ hS (fun q _ z => hFc q z) hFc ?_
                            · intro st w t hq
                              obtain ⟨q1, q2, q3⟩ := hq
                              exact ⟨Outcome.returned.inj q1, q2, q3⟩
                            · intro t locs1 hBt hS1
                              rw [pm_toList_c, ← pm_cS_app]
                              exact ih _ _ _ _ _ _ _ _ hrun hmi p e s m args below meth c t.heap locs1 ls A Qc hx hb hml hown hts hrt hlk hK hBt.1 (hBt.2.weaken (fun _ q _ z => hFc q.1 z)) hS1 hA hKS hl hQ
                          have hcb : ∀ (idx mj : Nat), pm_iv (pm_ow mi) idx = some mj → mj < 174 ∧ CallB (pm_rm (d + 1)) s args (pm_on (pm_ow mi)) idx (pm_nm mj) (pm_by mj) (pm_mx mj) (pm_rt mj) (pm_ws mj) (pm_rm d2) 0 0 (pm_np mj) := by
                            intro idx mj hiv
                            obtain ⟨hj, hlink⟩ := pm_iv_ok hiv
                            have hcls : (pm_nm mj).cls = pm_on (pm_ow mj) := of_decide_eq_true (List.all_eq_true.mp pm_mC mj (List.mem_range.mpr hj))
                            obtain ⟨n1, n2⟩ := Bool.and_eq_true_iff.mp (List.all_eq_true.mp pm_mG mj (List.mem_range.mpr hj))
                            have hini : Cond.initialized (pm_on (pm_ow mj)) ∈ pm_G := pm_mem (List.all_eq_true.mp pm_mB mj (List.mem_range.mpr hj))
                            have hmx : pm_mx mj ≤ 20 := Nat.le_of_ble_eq_true (List.all_eq_true.mp pm_mF mj (List.mem_range.mpr hj))
                            exact ⟨hj, callB_of (pm_np mj) hts (pm_goodIn hj) rfl rfl rfl (by rw [hcls]; exact hts _ (hG _ hini)) (hts _ (hG _ hlink)) ⟨of_decide_eq_true n1, of_decide_eq_true n2, of_decide_eq_true (List.all_eq_true.mp pm_mD mj (List.mem_range.mpr hj))⟩ ⟨Nat.succ_le_succ hd2, by show 8 + (pm_mx mj + 11) + d2 * 40 ≤ (d + 1) * 40; omega⟩⟩
                          unfold pm_call at h8
                          split at h8
                          · split at h8
                            · rename_i idx _ mj0 hiv
                              split at h8
                              · rename_i _ a S2 hdr
                                obtain ⟨hg, he⟩ := pm_bif h8
                                cases he
                                obtain ⟨g1, g2⟩ := Bool.and_eq_true_iff.mp hg
                                obtain ⟨g3, g4⟩ := Bool.and_eq_true_iff.mp g2
                                obtain ⟨g5, g6⟩ := Bool.and_eq_true_iff.mp g4
                                obtain ⟨g7, g8⟩ := Bool.and_eq_true_iff.mp g6
                                obtain ⟨hj, cb⟩ := hcb idx mj hiv
                                have hM := hMet (Nat.le_of_ble_eq_true g8) hj H.size
                                have hA1 := pm_mA_at hj
                                unfold pm_mA at hA1
                                have hsc : pm_sc mj = false := by
                                  cases hz : pm_sc mj with
                                  | false => rfl
                                  | true => rw [hz] at g1; cases g1
                                rw [hsc] at hA1
                                obtain ⟨w1, w2⟩ := Bool.and_eq_true_iff.mp hA1
                                have hcls : (pm_nm mj).cls = pm_on (pm_ow mj) := of_decide_eq_true (List.all_eq_true.mp pm_mC mj (List.mem_range.mpr hj))
                                have hS0 : S = S.take (pm_np mj) ++ .ref a :: S1 := by
                                  have := (List.take_append_drop (pm_np mj) S).symm
                                  rw [hdr] at this
                                  exact this
                                refine hfin mj [] S1 _ _ hj (va_runV (C := pm_on (pm_ow mj)) (b := rho a) (As := pm_cS rho (S.take (pm_np mj)).reverse) (rest := pm_cS rho S1) ⟨hx, hb, hml, hown, hts⟩ hM ⟨cb, hts _ (hG _ (pm_mem w1)), hts _ (hG _ (pm_mem w2))⟩ ⟨pm_blind, pm_rcv_t g5 hK hP hS hKS, fun U hU hW => ⟨rfl, hpre U hU hW⟩⟩ rfl ?_ hl.1 ?_ (lv_room ?_) hdg ⟨Nat.le_refl _, Nat.le_refl _⟩) hrun
                                · show (pm_cS rho (S.take (pm_np mj)).reverse).length = _
                                  unfold pm_cS
                                  rw [List.length_map, List.length_reverse]
                                  exact Nat.eq_of_beq_eq_true g3
                                · show pm_cS rho S = (pm_cS rho (S.take (pm_np mj)).reverse).reverse ++ .ref (rho a) :: pm_cS rho S1
                                  rw [pm_cS_rev, List.reverse_reverse]
                                  calc pm_cS rho S = pm_cS rho (S.take (pm_np mj) ++ .ref a :: S1) := by rw [← hS0]
                                    _ = _ := pm_cS_app rho _ _
                                · rw [pm_cats_c]
                                  exact Nat.le_of_ble_eq_true g7
                              · cases h8
                            · cases h8
                          · split at h8
                            · rename_i idx _ mj0 hiv
                              obtain ⟨hg, he⟩ := pm_bif h8
                              cases he
                              obtain ⟨g1, g2⟩ := Bool.and_eq_true_iff.mp hg
                              obtain ⟨g3, g4⟩ := Bool.and_eq_true_iff.mp g2
                              obtain ⟨g7, g8⟩ := Bool.and_eq_true_iff.mp g4
                              obtain ⟨hj, cb⟩ := hcb idx mj hiv
                              have hM := hMet (Nat.le_of_ble_eq_true g8) hj H.size
                              have hA1 := pm_mA_at hj
                              unfold pm_mA at hA1
                              rw [g1] at hA1
                              have hS0 : S = S.take (pm_np mj) ++ S.drop (pm_np mj) := (List.take_append_drop (pm_np mj) S).symm
                              refine hfin mj [] (S.drop (pm_np mj)) _ _ hj (va_runS (As := pm_cS rho (S.take (pm_np mj)).reverse) (rest := pm_cS rho (S.drop (pm_np mj))) ⟨hx, hb, hml, hown, hts⟩ hM ⟨cb, hts _ (hG _ (pm_mem hA1))⟩ ⟨pm_blind, fun U hU hW => ⟨rfl, hpre U hU hW⟩⟩ rfl ?_ hl.1 ?_ (lv_room ?_) hdg ⟨Nat.le_refl _, Nat.le_refl _⟩) hrun
                              · show (pm_cS rho (S.take (pm_np mj)).reverse).length = _
                                unfold pm_cS
                                rw [List.length_map, List.length_reverse]
                                exact Nat.eq_of_beq_eq_true g3
                              · show pm_cS rho S = (pm_cS rho (S.take (pm_np mj)).reverse).reverse ++ pm_cS rho (S.drop (pm_np mj))
                                rw [pm_cS_rev, List.reverse_reverse]
                                calc pm_cS rho S = pm_cS rho (S.take (pm_np mj) ++ S.drop (pm_np mj)) := by rw [← hS0]
                                  _ = _ := pm_cS_app rho _ _
                              · rw [pm_cats_c]
                                exact Nat.le_of_ble_eq_true g7
                            · cases h8
                          · cases h8
/-- a method's contract out of its run -/
theorem pm_met (hinj : ∀ a b, pm_kc a = true → pm_kc b = true → rho a = rho b → a = b) (hprim : ∀ (mj : Nat) (as : List Value) (v : Value), pm_prim mj as = some v → ∀ (h : pm_H) (sz : Nat), Met l (pm_nm mj) (pm_ws mj) (pm_rm 4) (va_Pc (pm_cS rho as) (pm_B rho D cy sw h sz)) (pm_Q rho D cy sw h sz (some v) h) 0 0 (va_A (pm_W cy rho sw h) sz)) {n d mj : Nat} {as : List Value} {h h' : pm_H} {v : Option Value} (hrun : pm_run sw n d mj 0 (lv_args 0 as) [] h = some (v, h')) (hj : mj < 174) (hfit : (lg_sl as).length ≤ pm_mx mj) (sz : Nat) :
    Met l (pm_nm mj) (pm_ws mj) (pm_rm d) (va_Pc (pm_cS rho as) (pm_B rho D cy sw h sz)) (pm_Q rho D cy sw h sz v h') 0 0 (va_A (pm_W cy rho sw h) sz) := pm_met_of (pm_body hinj hprim n) hrun hj hfit sz
end PM8
end
section
/-! Tables of the constructors (written by genn.py): number = the number of the class -/
def pn_mt : List (MethodName × ByteArray × Nat × Nat) := [(⟨"QuietChecker$Machine", "<init>", "(LQuietChecker$Program;)V"⟩, prog_3_method_1_code, 2, 1), (⟨"QuietChecker$Names", "<init>", "([CI)V"⟩, prog_4_method_1_code, 3, 2), (⟨"QuietChecker$Parser", "<init>", "(LQuietChecker$Program;)V"⟩, prog_6_method_1_code, 2, 1), (⟨"QuietChecker$Program", "<init>", "()V"⟩, prog_7_method_1_code, 1, 0), (⟨"QuietChecker$Tokens", "<init>", "([C)V"⟩, prog_8_method_1_code, 2, 1), (⟨"QuietChecker", "<init>", "()V"⟩, prog_1_method_1_code, 1, 0), (⟨"QuietCheckerModel", "<init>", "()V"⟩, prog_10_method_1_code, 1, 0)]
def pn_m (ci : Nat) : MethodName × ByteArray × Nat × Nat := pn_mt.getD ci (⟨"", "", ""⟩, ⟨#[]⟩, 0, 0)
def pn_nm (ci : Nat) : MethodName := (pn_m ci).1
def pn_by (ci : Nat) : ByteArray := (pn_m ci).2.1
def pn_mx (ci : Nat) : Nat := (pn_m ci).2.2.1
def pn_np (ci : Nat) : Nat := (pn_m ci).2.2.2
def pn_l0 : List (Nat × Instr) := [(0, .aload_n 0), (1, .invokespecial 3), (4, .aload_n 0), (5, .aload_n 1), (6, .putfield 9), (9, .aload_n 0), (10, .sipush 2632), (13, .newarray .int), (15, .putfield 17), (18, .aload_n 0), (19, .sipush 4000), (22, .newarray .int), (24, .putfield 21), (27, .aload_n 0), (28, .sipush 3000), (31, .newarray .int), (33, .putfield 24), (36, .return_)]
def pn_l1 : List (Nat × Instr) := [(0, .aload_n 0), (1, .invokespecial 3), (4, .aload_n 0), (5, .aload_n 1), (6, .putfield 9), (9, .aload_n 0), (10, .iload_n 2), (11, .newarray .int), (13, .putfield 15), (16, .aload_n 0), (17, .iload_n 2), (18, .newarray .int), (20, .putfield 19), (23, .aload_n 0), (24, .iload_n 2), (25, .newarray .boolean), (27, .putfield 22), (30, .return_)]
def pn_l2 : List (Nat × Instr) := [(0, .aload_n 0), (1, .invokespecial 5), (4, .aload_n 0), (5, .aload_n 1), (6, .putfield 11), (9, .aload_n 0), (10, .new 17), (13, .dup), (14, .aload_n 1), (15, .getfield 19), (18, .invokespecial 23), (21, .putfield 26), (24, .aload_n 0), (25, .new 30), (28, .dup), (29, .aload_n 1), (30, .getfield 19), (33, .bipush 12), (35, .invokespecial 32), (38, .putfield 35), (41, .aload_n 0), (42, .getstatic 39), (45, .putfield 45), (48, .return_)]
def pn_l3 : List (Nat × Instr) := [(0, .aload_n 0), (1, .invokespecial 5), (4, .aload_n 0), (5, .sipush 3000), (8, .newarray .char), (10, .putfield 11), (13, .aload_n 0), (14, .new 15), (17, .dup), (18, .aload_n 0), (19, .getfield 11), (22, .bipush 40), (24, .invokespecial 17), (27, .putfield 20), (30, .aload_n 0), (31, .bipush 40), (33, .newarray .int), (35, .putfield 24), (38, .aload_n 0), (39, .bipush 40), (41, .newarray .int), (43, .putfield 28), (46, .aload_n 0), (47, .new 15), (50, .dup), (51, .aload_n 0), (52, .getfield 11), (55, .bipush 6), (57, .invokespecial 17), (60, .putfield 31), (63, .aload_n 0), (64, .bipush 6), (66, .newarray .int), (68, .putfield 34), (71, .aload_n 0), (72, .bipush 6), (74, .newarray .int), (76, .putfield 37), (79, .aload_n 0), (80, .bipush 72), (82, .newarray .boolean), (84, .putfield 40), (87, .aload_n 0), (88, .sipush 3000), (91, .newarray .int), (93, .putfield 44), (96, .aload_n 0), (97, .sipush 3000), (100, .newarray .int), (102, .putfield 47), (105, .return_)]
def pn_l4 : List (Nat × Instr) := [(0, .aload_n 0), (1, .invokespecial 3), (4, .aload_n 0), (5, .aload_n 1), (6, .putfield 9), (9, .aload_n 0), (10, .sipush 3001), (13, .anewarray 15), (16, .putfield 17), (19, .aload_n 0), (20, .sipush 3001), (23, .newarray .int), (25, .putfield 21), (28, .aload_n 0), (29, .sipush 3001), (32, .newarray .int), (34, .putfield 25), (37, .aload_n 0), (38, .sipush 3001), (41, .newarray .int), (43, .putfield 28), (46, .return_)]
def pn_l5 : List (Nat × Instr) := [(0, .aload_n 0), (1, .invokespecial 1), (4, .aload_n 0), (5, .sipush 3000), (8, .newarray .char), (10, .putfield 9), (13, .aload_n 0), (14, .new 13), (17, .dup), (18, .invokespecial 15), (21, .putfield 16), (24, .aload_n 0), (25, .new 20), (28, .dup), (29, .aload_n 0), (30, .getfield 16), (33, .invokespecial 22), (36, .putfield 25), (39, .aload_n 0), (40, .sipush 2560), (43, .newarray .int), (45, .putfield 29), (48, .aload_n 0), (49, .sipush 2560), (52, .newarray .int), (54, .putfield 33), (57, .aload_n 0), (58, .new 36), (61, .dup), (62, .aload_n 0), (63, .getfield 16), (66, .invokespecial 38), (69, .putfield 39), (72, .aload_n 0), (73, .new 36), (76, .dup), (77, .aload_n 0), (78, .getfield 16), (81, .invokespecial 38), (84, .putfield 43), (87, .return_)]
def pn_l6 : List (Nat × Instr) := [(0, .aload_n 0), (1, .invokespecial 1), (4, .aload_n 0), (5, .sipush 3000), (8, .newarray .char), (10, .putfield 7), (13, .aload_n 0), (14, .sipush 3000), (17, .newarray .char), (19, .putfield 13), (22, .aload_n 0), (23, .bipush 40), (25, .newarray .int), (27, .putfield 16), (30, .aload_n 0), (31, .bipush 40), (33, .newarray .int), (35, .putfield 20), (38, .aload_n 0), (39, .bipush 40), (41, .newarray .int), (43, .putfield 23), (46, .aload_n 0), (47, .bipush 40), (49, .newarray .int), (51, .putfield 26), (54, .aload_n 0), (55, .bipush 40), (57, .newarray .int), (59, .putfield 29), (62, .aload_n 0), (63, .bipush 40), (65, .newarray .boolean), (67, .putfield 32), (70, .aload_n 0), (71, .bipush 12), (73, .newarray .boolean), (75, .putfield 36), (78, .aload_n 0), (79, .bipush 6), (81, .newarray .boolean), (83, .putfield 39), (86, .aload_n 0), (87, .bipush 12), (89, .newarray .int), (91, .putfield 42), (94, .aload_n 0), (95, .bipush 12), (97, .newarray .int), (99, .putfield 45), (102, .aload_n 0), (103, .bipush 6), (105, .newarray .int), (107, .putfield 48), (110, .aload_n 0), (111, .bipush 6), (113, .newarray .int), (115, .putfield 51), (118, .aload_n 0), (119, .bipush 6), (121, .newarray .int), (123, .putfield 54), (126, .aload_n 0), (127, .bipush 6), (129, .newarray .int), (131, .putfield 57), (134, .aload_n 0), (135, .bipush 6), (137, .newarray .int), (139, .putfield 60), (142, .aload_n 0), (143, .bipush 72), (145, .newarray .boolean), (147, .putfield 63), (150, .aload_n 0), (151, .sipush 12000), (154, .newarray .int), (156, .putfield 66), (159, .aload_n 0), (160, .sipush 12000), (163, .newarray .int), (165, .putfield 69), (168, .aload_n 0), (169, .sipush 12000), (172, .newarray .int), (174, .putfield 72), (177, .aload_n 0), (178, .sipush 2560), (181, .newarray .int), (183, .putfield 75), (186, .aload_n 0), (187, .sipush 2560), (190, .newarray .int), (192, .putfield 78), (195, .aload_n 0), (196, .sipush 4001), (199, .newarray .int), (201, .putfield 81), (204, .aload_n 0), (205, .sipush 4000), (208, .newarray .int), (210, .putfield 84), (213, .aload_n 0), (214, .bipush 40), (216, .newarray .int), (218, .putfield 87), (221, .aload_n 0), (222, .sipush 2560), (225, .newarray .int), (227, .putfield 90), (230, .aload_n 0), (231, .sipush 2560), (234, .newarray .int), (236, .putfield 93), (239, .aload_n 0), (240, .sipush 4001), (243, .newarray .int), (245, .putfield 96), (248, .aload_n 0), (249, .sipush 2000), (252, .newarray .int), (254, .putfield 99), (257, .aload_n 0), (258, .sipush 2000), (261, .newarray .int), (263, .putfield 102), (266, .aload_n 0), (267, .sipush 2000), (270, .newarray .int), (272, .putfield 105), (275, .aload_n 0), (276, .sipush 2000), (279, .newarray .int), (281, .putfield 108), (284, .aload_n 0), (285, .sipush 2000), (288, .newarray .int), (290, .putfield 111), (293, .return_)]
def pn_code (ci : Nat) : List (Nat × Instr) := ([pn_l0, pn_l1, pn_l2, pn_l3, pn_l4, pn_l5, pn_l6] : List (List (Nat × Instr))).getD ci []
/-- where the words stand: code, instance, initialised, instantiable -/
def pn_mp : List (Nat × Nat × Nat × Nat) := [(335, 334, 113, 332), (151, 150, 108, 148), (250, 249, 109, 247), (145, 144, 107, 142), (256, 255, 110, 253), (137, 136, 106, 134), (1335, 1334, 114, 1332)]
/-- constructors called, by owner and place: (place, class or 7 for Object, where the word stands) -/
def pn_ivl : List (List (Nat × Nat × Nat)) := [
  [(3, 7, 336)],
  [(3, 7, 152)],
  [(5, 7, 251), (23, 4, 254), (32, 1, 294)],
  [(5, 7, 146), (17, 1, 149)],
  [(3, 7, 257)],
  [(1, 7, 138), (15, 3, 143), (22, 2, 248), (38, 0, 333)],
  [(1, 7, 1336)]]
def pn_cll : List (List (Nat × Nat × Nat)) := [
  [],
  [],
  [(17, 4, 252), (30, 1, 293)],
  [(15, 1, 147)],
  [(15, 7, 258)],
  [(13, 3, 141), (20, 2, 246), (36, 0, 331)],
  []]
/-- Object.<init>: instance, code -/
def pn_obp : Nat × Nat := (139, 140)
/-- the words on array classes: ints, chars, booleans, longs; the kinds -/
def pn_acp : List Nat := [1044, 174, 173, 175, 1792]
def pn_aop : Nat := 259
end
section
/-! Constructors: a pure machine that makes cells. A new cell gets the next number; its address is the next one of the heap. -/
set_option maxRecDepth 100000 in
theorem pn_code_all : (List.range 7).all (fun ci => (pn_code ci).all (pm_okc (pn_by ci))) = true := by decide +kernel
theorem pn_decode {ci pc : Nat} {i : Instr} (hc : ci < 7) (h : pm_fd (pn_code ci) pc = some i) : ∃ len, decode (pn_by ci) pc = .ok (i, len) ∧ (pm_ln i = 0 ∨ len = pm_ln i) := by
  have h1 := List.all_eq_true.mp (List.all_eq_true.mp pn_code_all ci (List.mem_range.mpr hc)) _ (pm_fd_mem h)
  unfold pm_okc at h1
  split at h1
  · rename_i j len e
    obtain ⟨h2, h3⟩ := Bool.and_eq_true_iff.mp h1
    have h4 : j = i := of_decide_eq_true h2
    subst h4
    refine ⟨len, e, ?_⟩
    rcases (Bool.or_eq_true_iff.mp h3) with h5 | h5
    · exact Or.inl (Nat.eq_of_beq_eq_true h5)
    · exact Or.inr (Nat.eq_of_beq_eq_true h5)
  · cases h1
def pn_zero (h : pm_H) (i : Nat) : pm_H := (va_up h.1 i (fun _ => 0), va_up h.2.1 i (fun _ => 0), va_up h.2.2 i (fun _ => none))
def pn_kd (t : ArrayType) : Nat := match t with
  | .int => 1
  | .char => 2
  | .boolean => 3
  | .long => 4
  | _ => 0
/-- what is made: its shape, the stack without its length -/
def pn_mk (i : Instr) (ow : Nat) (sw : List (Nat × Nat)) (S : List Value) : Option ((Nat × Nat) × List Value) := match i with
  | .new idx => match pm_f3 (pn_cll.getD ow []) idx with
    | some ci => bif Nat.blt ci 7 && Nat.blt sw.length 400 then some ((10 + ci, 0), S) else none
    | none => none
  | .newarray t => match S with
    | .int n :: S' => bif (!decide (n < 0) && Nat.ble n.toNatClampNeg 65536) && (Nat.blt sw.length 400 && Nat.blt 0 (pn_kd t)) then some ((pn_kd t, n.toNatClampNeg), S') else none
    | _ => none
  | .anewarray idx => match S with
    | .int n :: S' => match pm_f3 (pn_cll.getD ow []) idx with
      | some ci => bif Nat.beq ci 7 && ((!decide (n < 0) && Nat.ble n.toNatClampNeg 65536) && Nat.blt sw.length 400) then some ((5, n.toNatClampNeg), S') else none
      | none => none
    | _ => none
  | _ => none
/-- a final field -/
def pn_put (i : Instr) (sw : List (Nat × Nat)) (ow : Nat) (h : pm_H) (S : List Value) : Option (pm_H × List Value) := match i with
  | .putfield idx => match S with
    | .ref r :: .ref a :: S' => match pm_gf ow idx with
      | some (ci, k) => bif pm_isO sw a ci && (((pm_clN ci).2.1 k).2.2.2 && decide (((pm_clN ci).2.1 k).1 = pm_on ow)) then
          (match (pm_ft ci)[k]? with
            | some (.object _) => some (pm_setR h a k (some r), S')
            | some (.array _) => some (pm_setR h a k (some r), S')
            | _ => none)
          else none
      | none => none
    | _ => none
  | _ => none
def pn_sz (sh : Nat × Nat) : Nat := bif Nat.blt sh.1 6 then sh.2 else (pm_clN (sh.1 - 10)).2.2
def pn_tot : List (Nat × Nat) → Nat
  | [] => 0
  | q :: l => pn_sz q + pn_tot l
def pn_run : Nat → Nat → Nat → Nat → pm_L → List Value → List (Nat × Nat) → pm_H → Option (List (Nat × Nat) × pm_H)
  | 0, _, _, _, _, _, _, _ => none
  | n + 1, d, ci, pc, L, S, sw, h => match pm_fd (pn_code ci) pc with
    | none => none
    | some i => match pm_push i L with
      | some v => pn_run n d ci (pc + pm_ln i) L (v :: S) sw h
      | none => match pm_ari i S with
        | some S' => pn_run n d ci (pc + pm_ln i) L S' sw h
        | none => match pm_read i sw ci h S with
          | some S' => pn_run n d ci (pc + pm_ln i) L S' sw h
          | none => match pm_write i sw ci h S with
            | some (h', S') => pn_run n d ci (pc + pm_ln i) L S' sw h'
            | none => match pn_put i sw ci h S with
              | some (h', S') => pn_run n d ci (pc + pm_ln i) L S' sw h'
              | none => match pn_mk i ci sw S with
                | some (sh, S') => pn_run n d ci (pc + pm_ln i) L (.ref sw.length :: S') (sw ++ [sh]) (pn_zero h sw.length)
                | none => match i with
                  | .return_ => (match S with
                    | [] => some (sw, h)
                    | _ => none)
                  | .invokespecial idx => (match pm_f3 (pn_ivl.getD ci []) idx with
                    | some cj => (match d with
                      | 0 => none
                      | d' + 1 => bif Nat.beq cj 7 then (match S with
                          | .ref _ :: S' => bif Nat.ble (pm_cats S') 8 then pn_run n (d' + 1) ci (pc + 3) L S' sw h else none
                          | _ => none)
                        else (match S.drop (pn_np cj) with
                          | .ref a :: S' => bif (Nat.blt cj 7 && Nat.beq (S.take (pn_np cj)).length (pn_np cj)) && (Nat.ble (pm_cats S') 8 && Nat.ble (lg_sl (.ref a :: (S.take (pn_np cj)).reverse)).length (pn_mx cj)) then
                              (match pn_run n d' cj 0 (lv_args 0 (.ref a :: (S.take (pn_np cj)).reverse)) [] sw h with
                                | some (sw', h') => pn_run n (d' + 1) ci (pc + 3) L S' sw' h'
                                | none => none)
                              else none
                          | _ => none))
                    | none => none)
                  | _ => none
theorem pn_tot_app (a b : List (Nat × Nat)) : pn_tot (a ++ b) = pn_tot a + pn_tot b := by
  induction a with
  | nil => show pn_tot b = 0 + pn_tot b; omega
  | cons q a ih => show pn_sz q + pn_tot (a ++ b) = pn_sz q + pn_tot a + pn_tot b; omega
theorem pm_bifR {α : Type} {b : Bool} {x : Option α} {y : α} (h : (bif b then x else none) = some y) : b = true ∧ x = some y := by
  cases b with
  | true => exact ⟨rfl, h⟩
  | false => cases h
theorem pn_mono : ∀ (n d ci pc : Nat) (L : pm_L) (S : List Value) (sw : List (Nat × Nat)) (h : pm_H) (sw' : List (Nat × Nat)) (h' : pm_H), pn_run n d ci pc L S sw h = some (sw', h') → sw.length ≤ sw'.length ∧ pn_tot sw ≤ pn_tot sw' := by
  intro n
  induction n with
  | zero => intro d ci pc L S sw h sw' h' hr; cases hr
  | succ n ih =>
    intro d ci pc L S sw h sw' h' hr
    unfold pn_run at hr
    split at hr
    · cases hr
    split at hr
    · exact ih _ _ _ _ _ _ _ _ _ hr
    split at hr
    · exact ih _ _ _ _ _ _ _ _ _ hr
    split at hr
    · exact ih _ _ _ _ _ _ _ _ _ hr
    split at hr
    · exact ih _ _ _ _ _ _ _ _ _ hr
    split at hr
    · exact ih _ _ _ _ _ _ _ _ _ hr
    split at hr
    · have h1 := ih _ _ _ _ _ _ _ _ _ hr
      rw [List.length_append, pn_tot_app] at h1
      exact ⟨by omega, by omega⟩
    split at hr
    · split at hr
      · cases hr; exact ⟨Nat.le_refl _, Nat.le_refl _⟩
      · cases hr
    · split at hr
      · split at hr
        · cases hr
        · rename_i cj _ _ d'
          cases hb : Nat.beq cj 7 with
          | true =>
            rw [hb] at hr
            dsimp only [cond] at hr
            split at hr
            · exact ih _ _ _ _ _ _ _ _ _ (pm_bifR hr).2
            · cases hr
          | false =>
            rw [hb] at hr
            dsimp only [cond] at hr
            split at hr
            · have hr := (pm_bifR hr).2
              split at hr
              · rename_i sw2 h2 hc
                have h1 := ih _ _ _ _ _ _ _ _ _ hc
                have h3 := ih _ _ _ _ _ _ _ _ _ hr
                exact ⟨by omega, by omega⟩
              · cases hr
            · cases hr
      · cases hr
    · cases hr
end
section
/-! Constructors: the words, the new cells -/
def pn_ws (ci : Nat) : List Cond := Cond.code (pn_nm ci) (pn_by ci) (pn_mx ci) none :: pm_G
set_option maxRecDepth 100000 in
theorem pn_mA : (List.range 7).all (fun ci => pm_inG (pn_mp.getD ci (0, 0, 0, 0)).2.1 (Cond.instanceMethod (pn_nm ci)) && (pm_inG (pn_mp.getD ci (0, 0, 0, 0)).2.2.1 (Cond.initialized (pm_on ci)) && (pm_inG (pn_mp.getD ci (0, 0, 0, 0)).2.2.2 (Cond.instantiable (pm_on ci) (pm_clN ci).2.2) && (plainFor (pn_nm ci) && (decide ((pn_nm ci).cls = pm_on ci) && (decide ((pn_nm ci).name = "<init>") && (decide ((parseMethodDescriptor (pn_nm ci).desc).map (fun d => d.parameters.length) = some (pn_np ci)) && (Nat.ble (pn_mx ci) 20 && (decide ((pn_nm ci).cls ≠ "java/lang/invoke/MethodHandle") && (decide ((pn_nm ci).cls ≠ "java/lang/invoke/VarHandle") && decide ((pm_clN ci).1 = pm_on ci))))))))))) = true := by decide +kernel
set_option maxRecDepth 100000 in
theorem pn_mH : (List.range 7).map (fun ci => lw_tbl[(pn_mp.getD ci (0, 0, 0, 0)).1]?) = (List.range 7).map (fun ci => some (Cond.code (pn_nm ci) (pn_by ci) (pn_mx ci) none)) := by rfl
theorem pn_G_all {ci : Nat} (h : ci < 7) : Cond.code (pn_nm ci) (pn_by ci) (pn_mx ci) none ∈ pm_G := by
  have h1 : ((List.range 7).map (fun ci => lw_tbl[(pn_mp.getD ci (0, 0, 0, 0)).1]?))[ci]? = ((List.range 7).map (fun ci => some (Cond.code (pn_nm ci) (pn_by ci) (pn_mx ci) none)))[ci]? := by rw [pn_mH]
  rw [List.getElem?_map, List.getElem?_map, List.getElem?_range h] at h1
  exact List.mem_filter.mpr ⟨List.mem_of_getElem? (Option.some.inj h1), rfl⟩
set_option maxRecDepth 100000 in
theorem pn_ob : (pm_inG pn_obp.1 (Cond.instanceMethod Lib.objectInit) && pm_inG pn_obp.2 (Cond.code Lib.objectInit ⟨#[0xb1]⟩ 1 none)) = true := by decide +kernel
set_option maxRecDepth 100000 in
theorem pn_iv_all : (List.range 7).all (fun o => (pn_ivl.getD o []).all (fun e => Nat.blt e.2.1 8 && pm_inG e.2.2 (Cond.methodLink (pm_on o) e.1 (bif Nat.beq e.2.1 7 then Lib.objectInit else pn_nm e.2.1)))) = true := by decide +kernel
set_option maxRecDepth 100000 in
theorem pn_cl_all : (List.range 7).all (fun o => (pn_cll.getD o []).all (fun e => pm_inG e.2.2 (Cond.classLink (pm_on o) e.1 (bif Nat.beq e.2.1 7 then "QuietChecker$Kind" else pm_on e.2.1)))) = true := by decide +kernel
set_option maxRecDepth 100000 in
theorem pn_ac_all : (pm_inG (pn_acp.getD 0 0) (Cond.arrayClass .byte) && (pm_inG (pn_acp.getD 1 0) (Cond.arrayClass .int) && (pm_inG (pn_acp.getD 2 0) (Cond.arrayClass .char) && (pm_inG (pn_acp.getD 3 0) (Cond.arrayClass .boolean) && pm_inG (pn_acp.getD 4 0) (Cond.arrayClass .long))))) = true := by decide +kernel
set_option maxRecDepth 100000 in
theorem pn_ao : decide (lw_tbl[pn_aop]? = some (Cond.arrayOver (.object "QuietChecker$Kind"))) = true := by decide +kernel
theorem pn_own7 {α : Type} {l : List (List α)} {o : Nat} {a : α} (hl : l.length = 7) (h : a ∈ l.getD o []) : o < 7 := by
  rcases Nat.lt_or_ge o 7 with h1 | h1
  · exact h1
  · rw [List.getD_eq_getElem?_getD, List.getElem?_eq_none (by omega)] at h
    cases h
theorem pn_iv_ok {o idx cj : Nat} (h : pm_f3 (pn_ivl.getD o []) idx = some cj) : cj < 8 ∧ Cond.methodLink (pm_on o) idx (bif Nat.beq cj 7 then Lib.objectInit else pn_nm cj) ∈ pm_G := by
  obtain ⟨p, hp⟩ := pm_f3_mem h
  have h1 := List.all_eq_true.mp (List.all_eq_true.mp pn_iv_all o (List.mem_range.mpr (pn_own7 (by rfl) hp))) _ hp
  obtain ⟨h2, h3⟩ := Bool.and_eq_true_iff.mp h1
  exact ⟨pm_blt h2, pm_mem h3⟩
theorem pn_cl_ok {o idx cj : Nat} (h : pm_f3 (pn_cll.getD o []) idx = some cj) : Cond.classLink (pm_on o) idx (bif Nat.beq cj 7 then "QuietChecker$Kind" else pm_on cj) ∈ pm_G := by
  obtain ⟨p, hp⟩ := pm_f3_mem h
  exact pm_mem (List.all_eq_true.mp (List.all_eq_true.mp pn_cl_all o (List.mem_range.mpr (pn_own7 (by rfl) hp))) _ hp)
def pn_oky (ty : FieldType) : Bool := match ty with
  | .float => false
  | .double => false
  | _ => true
set_option maxRecDepth 100000 in
theorem pn_oky_all : (List.range 7).all (fun ci => (pm_ft ci).all pn_oky) = true := by decide +kernel
section PN1
variable {cy : Nat → ClassId} {rho : Nat → Nat} {sw : List (Nat × Nat)} {h : pm_H}
theorem pn_but (i : Nat) : pm_but i h (pn_zero h i) := fun j hj => ⟨va_up_ne _ _ hj, va_up_ne _ _ hj, va_up_ne _ _ hj⟩
theorem pn_dflt {i k : Nat} {ty : FieldType} (ho : pn_oky ty = true) : defaultValue ty = pm_fv rho (pn_zero h i) i k ty := by
  unfold pm_fv pn_zero
  dsimp only
  rw [va_up_self, va_up_self, va_up_self]
  cases ty <;> first | rfl | cases ho
theorem pn_sh_app {sh : Nat × Nat} {i : Nat} (hi : i < sw.length) : pm_sh (sw ++ [sh]) i = pm_sh sw i := by
  unfold pm_sh
  rw [List.getD_eq_getElem?_getD, List.getD_eq_getElem?_getD, List.getElem?_append_left hi]
theorem pn_sh_new {sh : Nat × Nat} : pm_sh (sw ++ [sh]) sw.length = sh := by
  unfold pm_sh
  rw [List.getD_eq_getElem?_getD, List.getElem?_append_right (Nat.le_refl _), Nat.sub_self]
  rfl
theorem pn_W_app {sh : Nat × Nat} : pm_W cy rho (sw ++ [sh]) (pn_zero h sw.length) = pm_W cy rho sw h ++ [(rho sw.length, pm_E cy rho (pn_zero h sw.length) sh sw.length)] := by
  apply List.ext_getElem?
  intro j
  rcases Nat.lt_trichotomy j sw.length with hj | hj | hj
  · rw [pm_W_at (by rw [List.length_append]; exact Nat.lt_add_right _ hj), List.getElem?_append_left (by rw [pm_W_len]; exact hj), pm_W_at hj, pn_sh_app hj, pm_E_but (pn_but _) (Nat.ne_of_lt hj)]
  · subst hj
    rw [pm_W_at (by rw [List.length_append]; exact Nat.lt_succ_self _), List.getElem?_append_right (by rw [pm_W_len]; exact Nat.le_refl _), pm_W_len, Nat.sub_self, pn_sh_new]
    rfl
  · rw [List.getElem?_eq_none (by rw [pm_W_len, List.length_append]; exact hj), List.getElem?_eq_none (by rw [List.length_append, pm_W_len]; exact hj)]
end PN1
section PN2
variable {p : Program} {l : Launch} {e : Env} {R : Room} {s : State} {m : MethodId} {args : Array Value} {below : List Frame} {meth : Method} {c : Code} {H : Heap} {locs : List Loc} {cells slots : Nat} {Q : State → Prop} {cc : ByteArray} {pc : Nat} {ls : Array Slot} {rho : Nat → Nat} {S S' : List Value} {D : va_G} {cy : Nat → ClassId} {sw : List (Nat × Nat)} {h h' : pm_H} {A : Nat → Prop} {Ts : List Cond} {ow : Nat}
/-- the world with a new cell at the heap's end -/
theorem pn_grown {H1 : Heap} {sh : Nat × Nat} (hP : va_P D pm_cl (pm_W cy rho sw h) H) (hD : va_D A (pm_W cy rho sw h)) (hS : va_S A s.heap H locs) (hA : ∀ q, s.heap.size ≤ q → A q) (hsz : H.size = rho sw.length) (z1 : H1.size = H.size + 1) (o1 : ∀ q : Nat, q < H.size → H1[q]? = H[q]?) (hat : va_at D pm_cl (rho sw.length, pm_E cy rho (pn_zero h sw.length) sh sw.length) H1) : va_P D pm_cl (pm_W cy rho (sw ++ [sh]) (pn_zero h sw.length)) H1 ∧ va_D A (pm_W cy rho (sw ++ [sh]) (pn_zero h sw.length)) ∧ va_S A s.heap H1 locs := by
  rw [pn_W_app]
  have hk : ∀ (k : Nat) (x : Nat × va_E), (pm_W cy rho sw h)[k]? = some x → H1[x.1]? = H[x.1]? := fun k x hx => o1 x.1 ((hP k x hx).lt)
  refine ⟨(hP.kept hk).app (fun k x hx => ?_), hD.push hP hsz.symm (by rw [← hsz]; exact hA _ hS.1), ⟨Nat.le_trans hS.1 (by omega), fun x h1 h2 => (o1 x (Nat.lt_of_lt_of_le h1 hS.1)).trans (hS.2.1 x h1 h2), hS.2.2⟩⟩
  have hz : k < 1 := (List.getElem?_eq_some_iff.mp hx).1
  rw [show k = 0 by omega] at hx
  cases hx
  exact hat
theorem pn_nlt {n : Int32} (h : (!decide (n < 0)) = true) : ¬ n < 0 := of_decide_eq_false (pm_not h)
set_option maxRecDepth 10000 in
theorem pn_mk_snd (hx : p.tables.exec = Jvm.exec) (hb : c.code = cc) (hts : ∀ w ∈ Ts, w.before args s = true) (hG : ∀ w ∈ pm_G, w ∈ Ts) (hown : s.vm.findClass (pm_on ow) = some m.cls) (hK : va_K D pm_cl (pm_tys cy) s) (hP : va_P D pm_cl (pm_W cy rho sw h) H) (hD : va_D A (pm_W cy rho sw h)) (hS : va_S A s.heap H locs) (hA : ∀ q, s.heap.size ≤ q → A q) (hsz : H.size = rho sw.length) (hAO : va_AO "QuietChecker$Kind" s)
    {i : Instr} {sh : Nat × Nat} (hdg : decode cc pc = .ok (i, pm_ln i)) (hr : pn_mk i ow sw S = some (sh, S')) (hc : cells + 1 ≤ R.cells) (hs : slots + pn_sz sh ≤ R.slots)
    (k : ∀ (H1 : Heap), va_P D pm_cl (pm_W cy rho (sw ++ [sh]) (pn_zero h sw.length)) H1 → va_D A (pm_W cy rho (sw ++ [sh]) (pn_zero h sw.length)) → va_S A s.heap H1 locs → H1.size = H.size + 1 → W p l e R s m args below meth c H1 locs (cells + 1) (slots + pn_sz sh) Q (F0 m (pc + pm_ln i) ls (.ref (rho sw.length) :: pm_cS rho S'))) : W p l e R s m args below meth c H locs cells slots Q (F0 m pc ls (pm_cS rho S)) := by
  unfold pn_mk at hr
  split at hr
  · split at hr
    · rename_i idx _ ci hcl
      obtain ⟨hg, he⟩ := pm_bif hr
      cases he
      obtain ⟨g1, g2⟩ := Bool.and_eq_true_iff.mp hg
      have hci := pm_blt g1
      have hne : Nat.beq ci 7 = false := by
        cases hz : Nat.beq ci 7 with
        | false => rfl
        | true => have := Nat.eq_of_beq_eq_true hz; omega
      have hlink := pn_cl_ok hcl
      rw [hne] at hlink
      dsimp only [cond] at hlink
      have hA1 := List.all_eq_true.mp pn_mA ci (List.mem_range.mpr hci)
      simp only [Bool.and_eq_true, decide_eq_true_eq] at hA1
      obtain ⟨-, w2, w3, -, -, -, -, -, -, -, w4⟩ := hA1
      have hKn := hK.1 ci _ (pm_cl_at hci)
      have hsl : pn_sz (10 + ci, 0) = (pm_clN ci).2.2 := by
        unfold pn_sz
        dsimp only
        have : Nat.blt (10 + ci) 6 = false := by
          cases hz : Nat.blt (10 + ci) 6 with
          | false => rfl
          | true => have := pm_blt hz; omega
        rw [this]
        dsimp only [cond]
        rw [Nat.add_sub_cancel_left]
      rw [hsl] at hs k
      rw [← hsz] at k
      refine W.newcK (C := pm_on ci) (n := (pm_clN ci).2.2) hx hb hown (hts _ (hG _ hlink)) (hts _ (hG _ (pm_mem w3))) (hts _ (hG _ (pm_mem w2))) rfl hdg hc hs (by rw [← w4]; exact hKn.2.1) rfl fun H1 kC hkC e1 z1 o1 => ?_
      obtain ⟨r1, r2, r3⟩ := pn_grown (sh := (10 + ci, 0)) hP hD hS hA hsz z1 o1 (by
        rw [pm_E_O rfl]
        refine ⟨pm_clN ci, pm_cl_at hci, ?_⟩
        rw [hsz] at e1
        refine (u_born (pm_clY ci) hts (fun w hw => hG w (pm_uw hci w hw)) hKn hkC e1 (pm_cl_ty hci)).to (fun j hj => ?_)
        have hft : (pm_ft ci)[j]? = some (pm_clY ci j) := by
          rw [pm_ft_ok ci hci, List.getElem?_map, List.getElem?_range hj]
          rfl
        have hok : pn_oky (pm_clY ci j) = true := List.all_eq_true.mp (List.all_eq_true.mp pn_oky_all ci (List.mem_range.mpr hci)) _ (List.mem_of_getElem? hft)
        show _ = (pm_fs rho (pn_zero h sw.length) sw.length ci).getD j .null
        rw [List.getD_eq_getElem?_getD, pm_fs_at hft, pn_dflt (rho := rho) (h := h) (i := sw.length) (k := j) hok]
        rfl)
      exact k H1 r1 r2 r3 z1
    · cases hr
  · split at hr
    · rename_i at0 _ n S1
      obtain ⟨hg, he⟩ := pm_bif hr
      cases he
      obtain ⟨g1, g2⟩ := Bool.and_eq_true_iff.mp hg
      obtain ⟨g3, g4⟩ := Bool.and_eq_true_iff.mp g1
      obtain ⟨g5, g6⟩ := Bool.and_eq_true_iff.mp g2
      have hn := pn_nlt g3
      have hn2 := Nat.le_of_ble_eq_true g4
      have hw := pn_ac_all
      simp only [Bool.and_eq_true] at hw
      obtain ⟨-, w1, w2, w3, w4⟩ := hw
      rw [← hsz] at k
      cases at0 with
      | int =>
        refine va_newaK hx hb (hts _ (hG _ (pm_mem w1))) rfl hdg rfl hn rfl (by show _ * 4 ≤ _; omega) hc hs rfl fun H1 cA e1 z1 o1 hAr hNm => ?_
        have hcA : cA = cy 1 := Option.some.inj (hNm.symm.trans (hK.2 1 (cy 1, .int) rfl).2)
        subst hcA
        obtain ⟨r1, r2, r3⟩ := pn_grown (sh := (1, n.toNatClampNeg)) hP hD hS hA hsz z1 o1 (by
          show H1[rho sw.length]? = some (vp_cell (cy 1) (n.toNatClampNeg, Sum.inl (va_up h.1 sw.length (fun _ => 0) sw.length)))
          rw [va_up_self, ← hsz]
          exact e1)
        exact k H1 r1 r2 r3 z1
      | char =>
        refine va_newaK hx hb (hts _ (hG _ (pm_mem w2))) rfl hdg rfl hn rfl (by show _ * 2 ≤ _; omega) hc hs rfl fun H1 cA e1 z1 o1 hAr hNm => ?_
        have hcA : cA = cy 2 := Option.some.inj (hNm.symm.trans (hK.2 2 (cy 2, .char) rfl).2)
        subst hcA
        obtain ⟨r1, r2, r3⟩ := pn_grown (sh := (2, n.toNatClampNeg)) hP hD hS hA hsz z1 o1 (by
          show H1[rho sw.length]? = some (vp_cell (cy 2) (n.toNatClampNeg, Sum.inl (va_up h.1 sw.length (fun _ => 0) sw.length)))
          rw [va_up_self, ← hsz]
          exact e1)
        exact k H1 r1 r2 r3 z1
      | boolean =>
        refine va_newaK hx hb (hts _ (hG _ (pm_mem w3))) rfl hdg rfl hn rfl (by show _ * 1 ≤ _; omega) hc hs rfl fun H1 cA e1 z1 o1 hAr hNm => ?_
        have hcA : cA = cy 3 := Option.some.inj (hNm.symm.trans (hK.2 3 (cy 3, .boolean) rfl).2)
        subst hcA
        obtain ⟨r1, r2, r3⟩ := pn_grown (sh := (3, n.toNatClampNeg)) hP hD hS hA hsz z1 o1 (by
          show H1[rho sw.length]? = some (vp_cell (cy 3) (n.toNatClampNeg, Sum.inl (va_up h.1 sw.length (fun _ => 0) sw.length)))
          rw [va_up_self, ← hsz]
          exact e1)
        exact k H1 r1 r2 r3 z1
      | long =>
        refine va_newaK hx hb (hts _ (hG _ (pm_mem w4))) rfl hdg rfl hn rfl (by show _ * 8 ≤ _; omega) hc hs rfl fun H1 cA e1 z1 o1 hAr hNm => ?_
        have hcA : cA = cy 4 := Option.some.inj (hNm.symm.trans (hK.2 4 (cy 4, .long) rfl).2)
        subst hcA
        obtain ⟨r1, r2, r3⟩ := pn_grown (sh := (4, n.toNatClampNeg)) hP hD hS hA hsz z1 o1 (by
          show H1[rho sw.length]? = some (vp_cell (cy 4) (n.toNatClampNeg, Sum.inr (Sum.inl (va_up h.2.1 sw.length (fun _ => 0) sw.length))))
          rw [va_up_self, ← hsz]
          exact e1)
        exact k H1 r1 r2 r3 z1
      | _ => cases g6
    · cases hr
  · split at hr
    · split at hr
      · rename_i idx _ n S1 _ ci hcl
        obtain ⟨hg, he⟩ := pm_bif hr
        cases he
        obtain ⟨g1, g2⟩ := Bool.and_eq_true_iff.mp hg
        obtain ⟨g3, g4⟩ := Bool.and_eq_true_iff.mp g2
        obtain ⟨g5, g6⟩ := Bool.and_eq_true_iff.mp g3
        have hn := pn_nlt g5
        have hn2 := Nat.le_of_ble_eq_true g6
        have hlink := pn_cl_ok hcl
        rw [g1] at hlink
        dsimp only [cond] at hlink
        rw [← hsz] at k
        refine W.anew hx hb hown (hts _ (hG _ hlink)) (va_AO.use hAO) rfl hdg rfl hn (by omega) hc hs fun cA kA comp f1 f2 f3 f4 => ?_
        generalize hH1 : H.push ({ cls := cA, slots := Array.replicate n.toNatClampNeg .null, vm := .none } : Cell) = H1
        have z1 : H1.size = H.size + 1 := by rw [← hH1, Array.size_push]
        have e1 : H1[H.size]? = some (arrV cA n.toNatClampNeg (fun _ => .null)) := by rw [← hH1, Array.getElem?_push_size, ← arrV_new]
        have o1 : ∀ q : Nat, q < H.size → H1[q]? = H[q]? := fun q hq => by rw [← hH1, Array.getElem?_push, if_neg (Nat.ne_of_lt hq)]
        have hcA : cA = cy 5 := by
          obtain ⟨_, _, _, _, _, q4⟩ := (hK.2 5 (cy 5, .object "QuietChecker$Kind") rfl).2
          exact Option.some.inj (f1.symm.trans q4)
        subst hcA
        obtain ⟨r1, r2, r3⟩ := pn_grown (sh := (5, n.toNatClampNeg)) hP hD hS hA hsz z1 o1 (by
          show H1[rho sw.length]? = some (vp_cell (cy 5) (n.toNatClampNeg, Sum.inr (Sum.inr (Sum.inr (Sum.inr (fun j => (va_up h.2.2 sw.length (fun _ => none) sw.length j).map rho))))))
          rw [va_up_self, vp_cell_q, ← hsz]
          exact e1)
        exact k H1 r1 r2 r3 z1
      · cases hr
    · cases hr
  · cases hr
theorem pn_put_snd (hx : p.tables.exec = Jvm.exec) (hb : c.code = cc) (hts : ∀ w ∈ Ts, w.before args s = true) (hG : ∀ w ∈ pm_G, w ∈ Ts) (hown : s.vm.findClass (pm_on ow) = some m.cls) (hin : meth.name = "<init>") (hK : va_K D pm_cl (pm_tys cy) s) (hP : va_P D pm_cl (pm_W cy rho sw h) H) (hD : va_D A (pm_W cy rho sw h)) (hS : va_S A s.heap H locs)
    {i : Instr} (hdg : decode cc pc = .ok (i, pm_ln i)) (hr : pn_put i sw ow h S = some (h', S'))
    (k : ∀ (H1 : Heap) (locs1 : List Loc), va_P D pm_cl (pm_W cy rho sw h') H1 → va_D A (pm_W cy rho sw h') → va_S A s.heap H1 locs1 → W p l e R s m args below meth c H1 locs1 cells slots Q (F0 m (pc + pm_ln i) ls (pm_cS rho S'))) : W p l e R s m args below meth c H locs cells slots Q (F0 m pc ls (pm_cS rho S)) := by
  unfold pn_put at hr
  split at hr
  · split at hr
    · rename_i idx _ r a S1
      split at hr
      · rename_i ci kk hgf
        obtain ⟨hci, hkk, hlink⟩ := pm_gf_ok hgf
        obtain ⟨ho, hr⟩ := pm_bifR hr
        obtain ⟨ho1, ho2⟩ := Bool.and_eq_true_iff.mp ho
        obtain ⟨ho3, ho4⟩ := Bool.and_eq_true_iff.mp ho2
        obtain ⟨hal, hsh⟩ := pm_isO_t ho1
        have key : ∀ ty, (pm_ft ci)[kk]? = some ty → pm_cat ty = 2 → narrow ty (.ref (rho r)) = .ref (rho r) → fits ty (.ref (rho r)) = true → (pm_setR h a kk (some r), S1) = (h', S') → W p l e R s m args below meth c H locs cells slots Q (F0 m pc ls (pm_cS rho (.ref r :: .ref a :: S1))) := by
          intro ty hty hcat hnw hft he
          cases he
          obtain ⟨f1, f2⟩ := pm_ft_at hci hty
          refine va_putF (ci := ci) (ty := ty) (v := .ref (rho r)) hx hb hts (fun w hw => hG w (pm_uw hci w hw)) (pm_clY ci) (pm_cl_ty hci) (pm_cl_nm hci) hown hK hP hD hS a ((pm_W_at hal).trans (by rw [pm_E_O hsh])) (pm_cl_at hci) kk hkk (hts _ (hG _ hlink)) (fun _ z => z) ho3 hin (of_decide_eq_true ho4) ((pm_cl_ty hci kk f1).trans (by rw [f2])) hnw hft (by rw [pm_fs_len]; exact (List.getElem?_eq_some_iff.mp hty).1) hdg (fun H1 locs1 hP1 hD1 hS1 => ?_)
          have hfv : pm_fv rho (pm_setR h a kk (some r)) a kk ty = .ref (rho r) := by
            unfold pm_fv
            rw [hcat]
            show va_rf ((va_up h.2.2 a (va_up (h.2.2 a) kk (some r)) a kk).map rho) = _
            rw [va_up_self, va_up_self]
            rfl
          have hW : (pm_W cy rho sw h).set a (rho a, .inr (ci, (pm_fs rho h a ci).set kk (.ref (rho r)))) = pm_W cy rho sw (pm_setR h a kk (some r)) := pm_W_set (pm_but_R _ _ _ _) hal (by rw [pm_E_O hsh, pm_fs_set hty hfv (pm_set_oR _ _ _ _)])
          rw [hW] at hP1 hD1
          exact k H1 locs1 hP1 hD1 hS1
        split at hr
        · rename_i nm hty
          exact key _ hty rfl rfl rfl (Option.some.inj hr)
        · rename_i nm hty
          exact key _ hty rfl rfl rfl (Option.some.inj hr)
        · cases hr
      · cases hr
    · cases hr
  · cases hr
/-- what the count of new cells says of the heap's size -/
theorem pn_sizes {g : JFrame} (k : H.size ≤ s.heap.size + cells → W p l e R s m args below meth c H locs cells slots Q g) : W p l e R s m args below meth c H locs cells slots Q g := fun T hT X => k (by rw [← hT]; exact X.same.2.2.1) T hT X
theorem pn_callk {A0 A1 : Nat → Prop} {H0 : Heap} {free : Addr → Prop} {rest st0 : List Value} {mc ms : Nat} {Qa : State → Outcome → State → Prop} {B : State → Prop} {v0 : Option Value} (hr : va_Run p l e R s m args below meth c H locs cells slots mc ms (F0 m pc ls st0) rest Qa free) (hQ : ∀ (st : State) (v : Option Value) (t : State), Qa st (.returned v) t → v = v0 ∧ B t ∧ va_F A1 st t) (hS : va_S A0 H0 H locs) (hA : ∀ q, q < H.size → A1 q → A0 q) (hf : ∀ q, free q → A0 q)
    (kk : ∀ (t : State) (locs1 : List Loc), B t → va_S A0 H0 t.heap locs1 → H.size ≤ t.heap.size → (∀ q : Nat, q < H.size → ¬ A1 q → t.heap[q]? = H[q]?) → s.vm.Alike t.vm → W p l e R s m args below meth c t.heap locs1 (cells + mc) (slots + ms) Q (F0 m (pc + 3) ls (v0.toList ++ rest))) : W p l e R s m args below meth c H locs cells slots Q (F0 m pc ls st0) := by
  intro T hT X
  obtain ⟨v, st₀, t, T', L, h0, X', hL, e1, e2, hq, st⟩ := hr T hT X
  obtain ⟨rfl, hb, hz, hk⟩ := hQ st₀ v t hq
  rw [h0] at hz hk
  obtain ⟨t2, a1, b1⟩ := kk t (locs ++ L) hb
    ⟨Nat.le_trans hS.1 hz, fun q h1 h2 => by rw [hk q (Nat.lt_of_lt_of_le h1 hS.1) (fun z => h2 (hA q (Nat.lt_of_lt_of_le h1 hS.1) z))]; exact hS.2.1 q h1 h2, fun q hq => by
      rcases List.mem_append.mp hq with h | h
      · exact hS.2.2 q h
      · exact hf _ (hL q h)⟩ hz hk (by rw [← e2]; exact X'.warmed.alike) T' e1 X'
  exact ⟨t2, st t2 a1, b1⟩
end PN2
end
section
def pn_rm (d mc ms : Nat) : Room := { frames := d, cells := mc, slots := ms, locals := d * 40 }
theorem pn_mk_400 {i : Instr} {ci : Nat} {sw : List (Nat × Nat)} {S S1 : List Value} {sh : Nat × Nat} (h8 : pn_mk i ci sw S = some (sh, S1)) : sw.length < 400 := by
  unfold pn_mk at h8
  split at h8
  · split at h8
    · obtain ⟨hg, -⟩ := pm_bif h8
      exact pm_blt (Bool.and_eq_true_iff.mp hg).2
    · cases h8
  · split at h8
    · obtain ⟨hg, -⟩ := pm_bif h8
      exact pm_blt (Bool.and_eq_true_iff.mp (Bool.and_eq_true_iff.mp hg).2).1
    · cases h8
  · split at h8
    · split at h8
      · obtain ⟨hg, -⟩ := pm_bif h8
        exact pm_blt (Bool.and_eq_true_iff.mp (Bool.and_eq_true_iff.mp hg).2).2
      · cases h8
    · cases h8
  · cases h8
theorem pn_le400 : ∀ (n d ci pc : Nat) (L : pm_L) (S : List Value) (sw : List (Nat × Nat)) (h : pm_H) (sw' : List (Nat × Nat)) (h' : pm_H), pn_run n d ci pc L S sw h = some (sw', h') → sw.length ≤ 400 → sw'.length ≤ 400 := by
  intro n
  induction n with
  | zero => intro d ci pc L S sw h sw' h' hr; cases hr
  | succ n ih =>
    intro d ci pc L S sw h sw' h' hr h4
    unfold pn_run at hr
    split at hr
    · cases hr
    split at hr
    · exact ih _ _ _ _ _ _ _ _ _ hr h4
    split at hr
    · exact ih _ _ _ _ _ _ _ _ _ hr h4
    split at hr
    · exact ih _ _ _ _ _ _ _ _ _ hr h4
    split at hr
    · exact ih _ _ _ _ _ _ _ _ _ hr h4
    split at hr
    · exact ih _ _ _ _ _ _ _ _ _ hr h4
    split at hr
    · rename_i hmk
      exact ih _ _ _ _ _ _ _ _ _ hr (by rw [List.length_append]; exact pn_mk_400 hmk)
    split at hr
    · split at hr
      · cases hr; exact h4
      · cases hr
    · split at hr
      · split at hr
        · cases hr
        · rename_i cj _ _ d'
          cases hb : Nat.beq cj 7 with
          | true =>
            rw [hb] at hr
            dsimp only [cond] at hr
            split at hr
            · exact ih _ _ _ _ _ _ _ _ _ (pm_bifR hr).2 h4
            · cases hr
          | false =>
            rw [hb] at hr
            dsimp only [cond] at hr
            split at hr
            · have hr := (pm_bifR hr).2
              split at hr
              · rename_i sw2 h2 hc
                exact ih _ _ _ _ _ _ _ _ _ hr (ih _ _ _ _ _ _ _ _ _ hc h4)
              · cases hr
            · cases hr
      · cases hr
    · cases hr
theorem pn_rho_add {rho : Nat → Nat} (hrho : ∀ i, i < 400 → rho (i + 1) = rho i + 1) (n : Nat) : ∀ k, n + k ≤ 400 → rho (n + k) = rho n + k := by
  intro k
  induction k with
  | zero => intro _; rfl
  | succ k ih =>
    intro hk
    rw [show n + (k + 1) = n + k + 1 by omega, hrho _ (by omega), ih (by omega)]
    omega
section PN3
variable {l : Launch} {rho : Nat → Nat} {D : va_G} {cy : Nat → ClassId}
def pn_Bd (l : Launch) (rho : Nat → Nat) (D : va_G) (cy : Nat → ClassId) (n : Nat) : Prop :=
  ∀ (d ci pc : Nat) (L : pm_L) (S : List Value) (sw : List (Nat × Nat)) (h : pm_H) (sw' : List (Nat × Nat)) (h' : pm_H), pn_run n d ci pc L S sw h = some (sw', h') → ci < 7 → 0 < sw.length → sw.length ≤ 400 →
  ∀ (p : Program) (e : Env) (s : State) (m : MethodId) (args : Array Value) (below : List Frame) (meth : Method) (c : Code) (H : Heap) (locs : List Loc) (ls : Array Slot) (A : Nat → Prop) (Qc : Array Value → State → Outcome → State → Prop) (cells slots mc ms : Nat),
  p.tables.exec = Jvm.exec → c.code = pn_by ci → c.maxLocals = pn_mx ci → s.vm.findClass (pm_on ci) = some m.cls → (∀ w ∈ pn_ws ci, w.before args s = true) → meth.sig.returnType = none → meth.locks = false → meth.name = "<init>" →
  va_K D pm_cl (pm_tys cy) s → va_P D pm_cl (pm_W cy rho sw h) H → va_D A (pm_W cy rho sw h) → va_S A s.heap H locs → (∀ q, s.heap.size ≤ q → A q) → pm_KS rho A s s.heap → va_AO "QuietChecker$Kind" s → lv_has ls (pn_mx ci) (pm_cL rho L) →
  rho sw.length = s.heap.size + cells → cells + (sw'.length - sw.length) = mc → slots + (pn_tot sw' - pn_tot sw) = ms →
  (∀ (t : State) (locs1 : List Loc), s.WarmedH t.vm → va_P D pm_cl (pm_W cy rho sw' h') t.heap → va_D A (pm_W cy rho sw' h') → va_S A s.heap t.heap locs1 → Qc args s (.returned none) t) →
  W p l e (pn_rm d mc ms) s m args below meth c H locs cells slots (MQ below Qc args s mc ms A) (F0 m pc ls (pm_cS rho S))
/-- before a constructor, and behind it -/
def pn_B (rho : Nat → Nat) (D : va_G) (cy : Nat → ClassId) (sw : List (Nat × Nat)) (h : pm_H) (U : State) : Prop := pm_B rho D cy sw h (rho sw.length) U ∧ va_AO "QuietChecker$Kind" U
def pn_Q (rho : Nat → Nat) (D : va_G) (cy : Nat → ClassId) (sw : List (Nat × Nat)) (h : pm_H) (sw' : List (Nat × Nat)) (h' : pm_H) : Array Value → State → Outcome → State → Prop := fun _ st o t =>
  o = .returned none ∧ (va_P D pm_cl (pm_W cy rho sw' h') t.heap ∧ va_D (va_A (pm_W cy rho sw h) (rho sw.length)) (pm_W cy rho sw' h')) ∧ va_F (va_A (pm_W cy rho sw h) (rho sw.length)) st t
theorem pn_met_of {n d cj : Nat} {as : List Value} {sw sw' : List (Nat × Nat)} {h h' : pm_H} (hB : pn_Bd l rho D cy n) (hrun : pn_run n d cj 0 (lv_args 0 as) [] sw h = some (sw', h')) (hj : cj < 7) (hl0 : 0 < sw.length) (h400 : sw.length ≤ 400) (hfit : (lg_sl as).length ≤ pn_mx cj) :
    Met l (pn_nm cj) (pn_ws cj) (pn_rm d (sw'.length - sw.length) (pn_tot sw' - pn_tot sw)) (va_Pc (pm_cS rho as) (pn_B rho D cy sw h)) (pn_Q rho D cy sw h sw' h') (sw'.length - sw.length) (pn_tot sw' - pn_tot sw) (va_A (pm_W cy rho sw h) (rho sw.length)) := by
  have hA1 := List.all_eq_true.mp pn_mA cj (List.mem_range.mpr hj)
  simp only [Bool.and_eq_true, decide_eq_true_eq] at hA1
  obtain ⟨-, -, -, hfor, hcls, hini, -, -, -, -, -⟩ := hA1
  refine pm_ofW (cc := pn_by cj) (maxL := pn_mx cj) (ret := none) hfor rfl ?_
  intro p e s m args below meth c s₁ B hml hv
  obtain ⟨rfl, ⟨hsz, hP, hK, hD0, hKS⟩, hAO⟩ := hv
  have hown : s.vm.findClass (pm_on cj) = some m.cls := by
    rw [← hcls]
    exact findClass_of_methodNamed B.named
  have hin : meth.name = "<init>" := by
    rw [(name_of_methodNamed B.named B.method).1]
    exact hini
  have hl := lv_entry (pm_cS rho as) (n := pn_mx cj) (by rw [pm_sl_len]; exact hfit)
  rw [pm_args_c] at hl
  rw [lg_entry_eq]
  refine hB d cj 0 (lv_args 0 as) [] sw h sw' h' hrun hj hl0 h400 p e s m _ below meth c s.heap [] _ (va_A (pm_W cy rho sw h) (rho sw.length)) _ 0 0 _ _ B.exec B.bytes hml hown (atoms_spec (ws := pn_ws cj) B.pre) B.returns B.notSynchronized hin hK hP hD0.self va_S.rf (fun q hq => Or.inr (by rw [← hsz]; exact hq)) hKS hAO hl (by rw [hsz]; rfl) (by omega) (by omega) ?_
  intro t locs1 _ hP1 hD1 hS1
  exact ⟨rfl, ⟨hP1, hD1⟩, hS1.F rfl⟩
theorem pn_blind {as : List Value} {sw : List (Nat × Nat)} {h : pm_H} : FrameBlind (va_Pc (pm_cS rho as) (pn_B rho D cy sw h)) := by
  intro a U g mk q
  obtain ⟨h1, ⟨h2, h3, h4, h5, h6⟩, h7⟩ := q
  exact ⟨h1, ⟨h2, h3, va_K.moved (u := U) (U := U.calling g mk a) (Vm.Alike.refl U.vm) h4, h5, pm_KS.moved (u := U) (U := U.calling g mk a) (Vm.Alike.refl U.vm) h6⟩, h7⟩
theorem pn_goodIn {ci cj : Nat} (hj : cj < 7) : GoodIn (pn_ws ci) (pn_ws cj) := by
  intro w hw
  have hw2 : w ∈ pm_G := by
    rcases List.mem_cons.mp hw with rfl | h1
    · exact pn_G_all hj
    · exact h1
  exact ⟨List.mem_cons_of_mem _ hw2, pm_good_G w hw2⟩
set_option maxHeartbeats 4000000 in
theorem pn_body (hrho : ∀ i, i < 400 → rho (i + 1) = rho i + 1) : ∀ n, pn_Bd l rho D cy n := by
  intro n
  induction n with
  | zero => intro d ci pc L S sw h sw' h' hrun; cases hrun
  | succ n ih =>
    intro d ci pc L S sw h sw' h' hrun hci hl0 h400 p e s m args below meth c H locs ls A Qc cells slots mc ms hx hb hml hown hts hrt hlk hin hK hP hD hS hA hKS hAO hl hcnt hmc hms hQ
    have hG : ∀ w ∈ pm_G, w ∈ pn_ws ci := fun w hw => List.mem_cons_of_mem _ hw
    obtain ⟨hmo1, hmo2⟩ := pn_mono _ _ _ _ _ _ _ _ _ _ hrun
    unfold pn_run at hrun
    cases hfd : pm_fd (pn_code ci) pc with
    | none => rw [hfd] at hrun; cases hrun
    | some i =>
      rw [hfd] at hrun
      dsimp only at hrun
      obtain ⟨len, hdec, hlen⟩ := pn_decode hci hfd
      have hd1 : pm_ln i ≠ 0 → decode (pn_by ci) pc = .ok (i, pm_ln i) := fun z => by
        rcases hlen with h1 | h1
        · exact absurd h1 z
        · rw [hdec, h1]
      cases h1 : pm_push i L with
      | some v1 =>
        rw [h1] at hrun
        exact pm_push_snd hx hb (hd1 (fun z => by unfold pm_push at h1; split at h1 <;> first | cases z | cases h1)) hl h1 (ih _ _ _ _ _ _ _ _ _ hrun hci hl0 h400 p e s m args below meth c H locs ls A Qc cells slots mc ms hx hb hml hown hts hrt hlk hin hK hP hD hS hA hKS hAO hl hcnt hmc hms hQ)
      | none =>
        rw [h1] at hrun
        dsimp only at hrun
        cases h2 : pm_ari i S with
        | some S1 =>
          rw [h2] at hrun
          exact pm_ari_snd hx hb (hd1 (fun z => by unfold pm_ari at h2; split at h2 <;> first | cases z | cases h2)) h2 (ih _ _ _ _ _ _ _ _ _ hrun hci hl0 h400 p e s m args below meth c H locs ls A Qc cells slots mc ms hx hb hml hown hts hrt hlk hin hK hP hD hS hA hKS hAO hl hcnt hmc hms hQ)
        | none =>
          rw [h2] at hrun
          dsimp only at hrun
          cases h5 : pm_read i sw ci h S with
          | some S1 =>
            rw [h5] at hrun
            exact pm_read_snd hx hb hts hG hown hK hP hS hKS (hd1 (fun z => by unfold pm_read at h5; split at h5 <;> first | cases z | cases h5)) h5 (ih _ _ _ _ _ _ _ _ _ hrun hci hl0 h400 p e s m args below meth c H locs ls A Qc cells slots mc ms hx hb hml hown hts hrt hlk hin hK hP hD hS hA hKS hAO hl hcnt hmc hms hQ)
          | none =>
            rw [h5] at hrun
            dsimp only at hrun
            cases h6 : pm_write i sw ci h S with
            | some q =>
              obtain ⟨h1', S1⟩ := q
              rw [h6] at hrun
              exact pm_write_snd hx hb hts hG hown hK hP hD hS hKS (hd1 (fun z => by unfold pm_write at h6; split at h6 <;> first | cases z | cases h6)) h6 (fun H1 locs1 hP1 hD1 hS1 => ih _ _ _ _ _ _ _ _ _ hrun hci hl0 h400 p e s m args below meth c H1 locs1 ls A Qc cells slots mc ms hx hb hml hown hts hrt hlk hin hK hP1 hD1 hS1 hA hKS hAO hl hcnt hmc hms hQ)
            | none =>
              rw [h6] at hrun
              dsimp only at hrun
              cases h7 : pn_put i sw ci h S with
              | some q =>
                obtain ⟨h1', S1⟩ := q
                rw [h7] at hrun
                exact pn_put_snd hx hb hts hG hown hin hK hP hD hS (hd1 (fun z => by unfold pn_put at h7; split at h7 <;> first | cases z | cases h7)) h7 (fun H1 locs1 hP1 hD1 hS1 => ih _ _ _ _ _ _ _ _ _ hrun hci hl0 h400 p e s m args below meth c H1 locs1 ls A Qc cells slots mc ms hx hb hml hown hts hrt hlk hin hK hP1 hD1 hS1 hA hKS hAO hl hcnt hmc hms hQ)
              | none =>
                rw [h7] at hrun
                dsimp only at hrun
                cases h8 : pn_mk i ci sw S with
                | some q =>
                  obtain ⟨sh, S1⟩ := q
                  rw [h8] at hrun
                  dsimp only at hrun
                  have hln : sw.length < 400 := pn_mk_400 h8
                  obtain ⟨m1, m2⟩ := pn_mono _ _ _ _ _ _ _ _ _ _ hrun
                  rw [List.length_append, List.length_singleton] at m1
                  rw [pn_tot_app] at m2
                  have hts1 : pn_tot [sh] = pn_sz sh := by show pn_sz sh + 0 = _; omega
                  rw [hts1] at m2
                  refine pn_sizes (fun hup => ?_)
                  have hlo : rho (sw.length - 1) < H.size := (hP (sw.length - 1) _ (pm_W_at (by omega))).lt
                  have hr1 := hrho (sw.length - 1) (by omega)
                  rw [show sw.length - 1 + 1 = sw.length by omega] at hr1
                  have hsz : H.size = rho sw.length := by omega
                  refine pn_mk_snd hx hb hts hG hown hK hP hD hS hA hsz hAO (hd1 (fun z => by unfold pn_mk at h8; split at h8 <;> first | cases z | cases h8)) h8 (by show cells + 1 ≤ mc; omega) (by show slots + pn_sz sh ≤ ms; omega) (fun H1 hP1 hD1 hS1 z1 => ?_)
                  exact ih _ _ _ _ _ _ _ _ _ hrun hci (by rw [List.length_append]; omega) (by rw [List.length_append]; exact hln) p e s m args below meth c H1 locs ls A Qc (cells + 1) (slots + pn_sz sh) mc ms hx hb hml hown hts hrt hlk hin hK hP1 hD1 hS1 hA hKS hAO hl (by rw [List.length_append, List.length_singleton, hrho _ hln]; omega) (by rw [List.length_append, List.length_singleton]; omega) (by rw [pn_tot_app, hts1]; omega) hQ
                | none =>
                  rw [h8] at hrun
                  dsimp only at hrun
                  split at hrun
                  · split at hrun
                    · cases hrun
                      have hdg := hd1 (fun z => by cases z)
                      have e1 : cells = mc := by omega
                      have e2 : slots = ms := by omega
                      subst e1
                      subst e2
                      exact W.vret hx hb hrt (fun t ht hW => hQ t locs hW (by rw [ht]; exact hP) hD (by rw [ht]; exact hS)) hS.2.2 hdg hlk
                    · cases hrun
                  · rename_i idx
                    have hdg := hd1 (fun z => by cases z)
                    split at hrun
                    · rename_i cj hiv
                      obtain ⟨hj8, hlink⟩ := pn_iv_ok hiv
                      cases d with
                      | zero => cases hrun
                      | succ d =>
                        dsimp only at hrun
                        cases hb7 : Nat.beq cj 7 with
                        | true =>
                          rw [hb7] at hrun hlink
                          dsimp only [cond] at hrun hlink
                          split at hrun
                          · obtain ⟨g1, hrun⟩ := pm_bifR hrun
                            obtain ⟨w1, w2⟩ := Bool.and_eq_true_iff.mp pn_ob
                            refine W.objInit hx hb hown (hts _ (hG _ hlink)) (hts _ (hG _ (pm_mem w1))) (hts _ (hG _ (pm_mem w2))) rfl (by rw [hml]; exact hl.1) rfl hdg (Nat.succ_le_succ (Nat.zero_le _)) ?_ ?_
                            · have := Nat.le_of_ble_eq_true g1
                              rw [← pm_cats_c rho] at this
                              exact Nat.le_trans (Nat.add_le_add_right (lv_room (m := m) (pc := pc) (ls := ls) (rest := []) this) 12) (show 8 + 12 ≤ (d + 1) * 40 by omega)
                            · exact ih _ _ _ _ _ _ _ _ _ hrun hci hl0 h400 p e s m args below meth c H locs ls A Qc cells slots mc ms hx hb hml hown hts hrt hlk hin hK hP hD hS hA hKS hAO hl hcnt hmc hms hQ
                          · cases hrun
                        | false =>
                          rw [hb7] at hrun hlink
                          dsimp only [cond] at hrun hlink
                          split at hrun
                          · rename_i a S1 hdr
                            obtain ⟨hg, hrun⟩ := pm_bifR hrun
                            obtain ⟨g1, g2⟩ := Bool.and_eq_true_iff.mp hg
                            obtain ⟨g3, g4⟩ := Bool.and_eq_true_iff.mp g1
                            obtain ⟨g5, g6⟩ := Bool.and_eq_true_iff.mp g2
                            have hj := pm_blt g3
                            split at hrun
                            · rename_i sw2 h2 hcal
                              obtain ⟨m1, m2⟩ := pn_mono _ _ _ _ _ _ _ _ _ _ hrun
                              obtain ⟨m3, m4⟩ := pn_mono _ _ _ _ _ _ _ _ _ _ hcal
                              have h402 := pn_le400 _ _ _ _ _ _ _ _ _ _ hcal h400
                              refine pn_sizes (fun hup => ?_)
                              have hlo : rho (sw.length - 1) < H.size := (hP (sw.length - 1) _ (pm_W_at (by omega))).lt
                              have hr1 := hrho (sw.length - 1) (by omega)
                              rw [show sw.length - 1 + 1 = sw.length by omega] at hr1
                              have hsz : H.size = rho sw.length := by omega
                              have hr2 := pn_rho_add hrho sw.length (sw2.length - sw.length) (by omega)
                              rw [show sw.length + (sw2.length - sw.length) = sw2.length by omega] at hr2
                              have hM := pn_met_of (l := l) (rho := rho) (D := D) (cy := cy) ih hcal hj hl0 h400 (Nat.le_of_ble_eq_true g6)
                              have hA1 := List.all_eq_true.mp pn_mA cj (List.mem_range.mpr hj)
                              simp only [Bool.and_eq_true, decide_eq_true_eq] at hA1
                              obtain ⟨w1, w2, -, -, wcls, wini, wpar, wmx, wn1, wn2, -⟩ := hA1
                              have hmx := Nat.le_of_ble_eq_true wmx
                              have hFc : ∀ q, va_A (pm_W cy rho sw h) (rho sw.length) q → A q := by
                                intro q hq
                                rcases hq with ⟨k, en, hk⟩ | hq
                                · exact hD.2 k _ hk
                                · exact hA q (by rw [← hsz] at hq; exact Nat.le_trans hS.1 hq)
                              have hKS1 : pm_KS rho (va_A (pm_W cy rho sw h) (rho sw.length)) s H := (hKS.kept hS.2.1).narrow hFc
                              have hpre : ∀ U : State, U.heap = H → s.WarmedH U.vm → pn_B rho D cy sw h U := by
                                intro U hU hW
                                refine ⟨⟨by rw [hU, hsz], by rw [hU]; exact hP, va_K.moved hW.alike hK, hD.weaken (fun _ _ _ _ => trivial), ?_⟩, va_AO.moved hW.alike hAO⟩
                                rw [hU]
                                exact pm_KS.moved hW.alike hKS1
                              have cb : CallB (pn_rm (d + 1) mc ms) s args (pm_on ci) idx (pn_nm cj) (pn_by cj) (pn_mx cj) none (pn_ws cj) (pn_rm d (sw2.length - sw.length) (pn_tot sw2 - pn_tot sw)) (sw2.length - sw.length) (pn_tot sw2 - pn_tot sw) (pn_np cj) := callB_of (pn_np cj) hts (pn_goodIn hj) rfl rfl rfl (by rw [wcls]; exact hts _ (hG _ (pm_mem w2))) (hts _ (hG _ hlink)) ⟨wn1, wn2, wpar⟩ ⟨Nat.le_refl _, by show 8 + (pn_mx cj + 11) + d * 40 ≤ (d + 1) * 40; omega⟩
                              have hS0 : S = S.take (pn_np cj) ++ .ref a :: S1 := by
                                have := (List.take_append_drop (pn_np cj) S).symm
                                rw [hdr] at this
                                exact this
                              have hrn := va_runI (b := rho a) (As := pm_cS rho (S.take (pn_np cj)).reverse) (rest := pm_cS rho S1) (g := F0 m pc ls (pm_cS rho S)) ⟨hx, hb, hml, hown, hts⟩ hM ⟨cb, wini, hts _ (hG _ (pm_mem w1))⟩ ⟨pn_blind, fun U hU hW => ⟨rfl, hpre U hU hW⟩⟩ rfl (by
                                show (pm_cS rho (S.take (pn_np cj)).reverse).length = _
                                unfold pm_cS
                                rw [List.length_map, List.length_reverse]
                                exact Nat.eq_of_beq_eq_true g4) hl.1 (by
                                show pm_cS rho S = (pm_cS rho (S.take (pn_np cj)).reverse).reverse ++ .ref (rho a) :: pm_cS rho S1
                                rw [pm_cS_rev, List.reverse_reverse]
                                calc pm_cS rho S = pm_cS rho (S.take (pn_np cj) ++ .ref a :: S1) := by rw [← hS0]
                                  _ = _ := pm_cS_app rho _ _) (lv_room (by rw [pm_cats_c]; exact Nat.le_of_ble_eq_true g5)) hdg (locs := locs) (below := below) (e := e) (meth := meth) (cells := cells) (slots := slots) ⟨by show cells + _ ≤ mc; omega, by show slots + _ ≤ ms; omega⟩
                              refine pn_callk (B := fun t => va_P D pm_cl (pm_W cy rho sw2 h2) t.heap ∧ va_D (va_A (pm_W cy rho sw h) (rho sw.length)) (pm_W cy rho sw2 h2)) (A1 := va_A (pm_W cy rho sw h) (rho sw.length)) (v0 := none) hrn ?_ hS (fun q _ z => hFc q z) hFc ?_
                              · intro st w t hq
                                obtain ⟨q1, q2, q3⟩ := hq
                                exact ⟨Outcome.returned.inj q1, q2, q3⟩
                              · intro t locs1 hBt hS1 _ _ _
                                exact ih _ _ _ _ _ _ _ _ _ hrun hci (by omega) h402 p e s m args below meth c t.heap locs1 ls A Qc _ _ mc ms hx hb hml hown hts hrt hlk hin hK hBt.1 (hBt.2.weaken (fun _ q _ z => hFc q.1 z)) hS1 hA hKS hAO hl (by omega) (by omega) (by omega) hQ
                            · cases hrun
                          · cases hrun
                    · cases hrun
                  · cases hrun
end PN3
end
section
/-! What the constructors make: the shapes, and the heap as a chain of steps (written by genctor.py) -/
def pm_h0 : pm_H := (fun _ _ => 0, fun _ _ => 0, fun _ _ => none)
/-- all ints and longs are 0 -/
def pz_Z (h : pm_H) : Prop := h.1 = (fun _ _ => 0) ∧ h.2.1 = (fun _ _ => 0)
theorem pz_h0 : pz_Z pm_h0 := ⟨rfl, rfl⟩
theorem pz_R {h : pm_H} {a k : Nat} {r : Option Nat} (z : pz_Z h) : pz_Z (pm_setR h a k r) := z
theorem pz_up {α : Type} (n : Nat) (z : α) : va_up (fun _ _ => z) n (fun _ => z) = (fun (_ : Nat) (_ : Nat) => z) := by
  funext i
  by_cases h : i = n
  · subst h; rw [va_up_self]
  · rw [va_up_ne _ _ h]
theorem pz_0 {h : pm_H} {n : Nat} (z : pz_Z h) : pz_Z (pn_zero h n) := by
  refine ⟨?_, ?_⟩
  · show va_up h.1 n (fun _ => 0) = _
    rw [z.1, pz_up]
  · show va_up h.2.1 n (fun _ => 0) = _
    rw [z.2, pz_up]
def pm_hC : pm_H := (pm_setR (pm_setR (pn_zero (pm_setR (pn_zero (pm_setR (pn_zero (pm_setR (pn_zero (pm_setR (pm_setR (pn_zero (pm_setR (pn_zero (pm_setR (pn_zero (pm_setR (pn_zero (pm_setR (pn_zero (pm_setR (pn_zero (pm_setR (pm_setR (pm_setR (pm_setR (pn_zero (pm_setR (pn_zero (pm_setR (pn_zero (pm_setR (pn_zero (pm_setR (pm_setR (pn_zero (pm_setR (pn_zero (pm_setR (pn_zero (pm_setR (pn_zero (pm_setR (pn_zero (pm_setR (pn_zero (pm_setR (pm_setR (pn_zero (pm_setR (pn_zero (pm_setR (pn_zero (pm_setR (pn_zero (pm_setR (pn_zero (pm_setR (pm_setR (pn_zero (pm_setR (pn_zero (pm_setR (pn_zero (pm_setR (pn_zero (pm_setR (pn_zero (pm_setR (pn_zero (pm_setR (pm_setR (pn_zero (pm_setR (pn_zero (pm_setR (pn_zero (pm_setR (pn_zero (pm_setR (pn_zero (pn_zero (pm_setR (pn_zero (pn_zero pm_h0 0) 1) 0 0 (some 1)) 2) 3) 2 0 (some 3)) 4) 4 0 (some 3)) 5) 4 1 (some 5)) 6) 4 2 (some 6)) 7) 4 3 (some 7)) 2 2 (some 4)) 8) 2 3 (some 8)) 9) 2 4 (some 9)) 10) 10 0 (some 3)) 11) 10 1 (some 11)) 12) 10 2 (some 12)) 13) 10 3 (some 13)) 2 6 (some 10)) 14) 2 7 (some 14)) 15) 2 8 (some 15)) 16) 2 9 (some 16)) 17) 2 10 (some 17)) 18) 2 11 (some 18)) 0 2 (some 2)) 19) 19 0 (some 2)) 20) 20 5 (some 3)) 21) 20 0 (some 21)) 22) 20 1 (some 22)) 23) 20 2 (some 23)) 24) 20 3 (some 24)) 19 1 (some 20)) 25) 25 0 (some 3)) 26) 25 1 (some 26)) 27) 25 2 (some 27)) 28) 25 3 (some 28)) 19 2 (some 25)) 19 9 (some 1003)) 0 3 (some 19)) 29) 0 4 (some 29)) 30) 0 5 (some 30)) 31) 31 0 (some 2)) 32) 31 1 (some 32)) 33) 31 2 (some 33)) 34) 31 6 (some 34)) 0 6 (some 31)) 35) 35 0 (some 2)) 36) 35 1 (some 36)) 37) 35 2 (some 37)) 38) 35 6 (some 38)) 0 7 (some 35))
set_option maxRecDepth 100000 in
set_option maxHeartbeats 4000000 in
theorem pn_runC : pn_run 400 6 5 0 (lv_args 0 [.ref 0]) [] ([(15, 0)]) (pn_zero pm_h0 0) = some (pm_swC, pm_hC) := by rfl
def pm_hM : pm_H := (pm_setR (pn_zero (pm_setR (pn_zero (pm_setR (pn_zero (pm_setR (pn_zero (pm_setR (pn_zero (pm_setR (pn_zero (pm_setR (pn_zero (pm_setR (pn_zero (pm_setR (pn_zero (pm_setR (pn_zero (pm_setR (pn_zero (pm_setR (pn_zero (pm_setR (pn_zero (pm_setR (pn_zero (pm_setR (pn_zero (pm_setR (pn_zero (pm_setR (pn_zero (pm_setR (pn_zero (pm_setR (pn_zero (pm_setR (pn_zero (pm_setR (pn_zero (pm_setR (pn_zero (pm_setR (pn_zero (pm_setR (pn_zero (pm_setR (pn_zero (pm_setR (pn_zero (pm_setR (pn_zero (pm_setR (pn_zero (pm_setR (pn_zero (pm_setR (pn_zero (pm_setR (pn_zero (pm_setR (pn_zero (pm_setR (pn_zero (pm_setR (pn_zero (pn_zero pm_hC 39) 40) 39 1 (some 40)) 41) 39 2 (some 41)) 42) 39 21 (some 42)) 43) 39 22 (some 43)) 44) 39 23 (some 44)) 45) 39 24 (some 45)) 46) 39 25 (some 46)) 47) 39 26 (some 47)) 48) 39 27 (some 48)) 49) 39 28 (some 49)) 50) 39 29 (some 50)) 51) 39 30 (some 51)) 52) 39 31 (some 52)) 53) 39 32 (some 53)) 54) 39 33 (some 54)) 55) 39 34 (some 55)) 56) 39 35 (some 56)) 57) 39 36 (some 57)) 58) 39 39 (some 58)) 59) 39 40 (some 59)) 60) 39 41 (some 60)) 61) 39 45 (some 61)) 62) 39 46 (some 62)) 63) 39 47 (some 63)) 64) 39 48 (some 64)) 65) 39 49 (some 65)) 66) 39 55 (some 66)) 67) 39 56 (some 67)) 68) 39 57 (some 68)) 69) 39 59 (some 69)) 70) 39 60 (some 70)) 71) 39 61 (some 71)) 72) 39 62 (some 72)) 73) 39 63 (some 73))
set_option maxRecDepth 100000 in
set_option maxHeartbeats 4000000 in
theorem pn_runM : pn_run 400 6 6 0 (lv_args 0 [.ref 39]) [] (pm_swC ++ [(16, 0)]) (pn_zero pm_hC 39) = some (pm_swC ++ pm_swM, pm_hM) := by rfl
/-- the whole world: the class, the model, the law's array of one long -/
def pm_swA : List (Nat × Nat) := pm_swC ++ pm_swM ++ [(4, 1)]
def pm_hA : pm_H := pn_zero pm_hM 74
def pm_PA : List (Nat × Nat × Nat) := [(0, 0, 1), (0, 2, 2), (0, 3, 19), (0, 4, 29), (0, 5, 30), (0, 6, 31), (0, 7, 35), (2, 0, 3), (2, 2, 4), (2, 3, 8), (2, 4, 9), (2, 6, 10), (2, 7, 14), (2, 8, 15), (2, 9, 16), (2, 10, 17), (2, 11, 18), (4, 0, 3), (4, 1, 5), (4, 2, 6), (4, 3, 7), (10, 0, 3), (10, 1, 11), (10, 2, 12), (10, 3, 13), (19, 0, 2), (19, 1, 20), (19, 2, 25), (19, 9, 1003), (20, 0, 21), (20, 1, 22), (20, 2, 23), (20, 3, 24), (20, 5, 3), (25, 0, 3), (25, 1, 26), (25, 2, 27), (25, 3, 28), (31, 0, 2), (31, 1, 32), (31, 2, 33), (31, 6, 34), (35, 0, 2), (35, 1, 36), (35, 2, 37), (35, 6, 38), (39, 1, 40), (39, 2, 41), (39, 21, 42), (39, 22, 43), (39, 23, 44), (39, 24, 45), (39, 25, 46), (39, 26, 47), (39, 27, 48), (39, 28, 49), (39, 29, 50), (39, 30, 51), (39, 31, 52), (39, 32, 53), (39, 33, 54), (39, 34, 55), (39, 35, 56), (39, 36, 57), (39, 39, 58), (39, 40, 59), (39, 41, 60), (39, 45, 61), (39, 46, 62), (39, 47, 63), (39, 48, 64), (39, 49, 65), (39, 55, 66), (39, 56, 67), (39, 57, 68), (39, 59, 69), (39, 60, 70), (39, 61, 71), (39, 62, 72), (39, 63, 73)]
set_option maxRecDepth 100000 in
theorem pm_PA_ok : pm_PA.all (fun q => decide (pm_hA.2.2 q.1 q.2.1 = some q.2.2)) = true := by decide +kernel
theorem pz_C : pz_Z pm_hC := (pz_R (pz_R (pz_0 (pz_R (pz_0 (pz_R (pz_0 (pz_R (pz_0 (pz_R (pz_R (pz_0 (pz_R (pz_0 (pz_R (pz_0 (pz_R (pz_0 (pz_R (pz_0 (pz_R (pz_0 (pz_R (pz_R (pz_R (pz_R (pz_0 (pz_R (pz_0 (pz_R (pz_0 (pz_R (pz_0 (pz_R (pz_R (pz_0 (pz_R (pz_0 (pz_R (pz_0 (pz_R (pz_0 (pz_R (pz_0 (pz_R (pz_0 (pz_R (pz_R (pz_0 (pz_R (pz_0 (pz_R (pz_0 (pz_R (pz_0 (pz_R (pz_0 (pz_R (pz_R (pz_0 (pz_R (pz_0 (pz_R (pz_0 (pz_R (pz_0 (pz_R (pz_0 (pz_R (pz_0 (pz_R (pz_R (pz_0 (pz_R (pz_0 (pz_R (pz_0 (pz_R (pz_0 (pz_R (pz_0 (pz_0 (pz_R (pz_0 (pz_0 pz_h0)))))))))))))))))))))))))))))))))))))))))))))))))))))))))))))))))))))))))))))))))))))
theorem pz_M : pz_Z pm_hM := (pz_R (pz_0 (pz_R (pz_0 (pz_R (pz_0 (pz_R (pz_0 (pz_R (pz_0 (pz_R (pz_0 (pz_R (pz_0 (pz_R (pz_0 (pz_R (pz_0 (pz_R (pz_0 (pz_R (pz_0 (pz_R (pz_0 (pz_R (pz_0 (pz_R (pz_0 (pz_R (pz_0 (pz_R (pz_0 (pz_R (pz_0 (pz_R (pz_0 (pz_R (pz_0 (pz_R (pz_0 (pz_R (pz_0 (pz_R (pz_0 (pz_R (pz_0 (pz_R (pz_0 (pz_R (pz_0 (pz_R (pz_0 (pz_R (pz_0 (pz_R (pz_0 (pz_R (pz_0 (pz_R (pz_0 (pz_R (pz_0 (pz_R (pz_0 (pz_R (pz_0 (pz_R (pz_0 (pz_0 pz_C)))))))))))))))))))))))))))))))))))))))))))))))))))))))))))))))))))))
theorem pz_A : pz_Z pm_hA := pz_0 pz_M
end
section
/-! ===== BEGIN exceptions that leave a method, and their catching by the caller (launches without stack traces) ===== -/
section VXA
/-! The laws vx_back, vx_callV, vx_callS, vx_callSW, vx_throw0, vx_throwS follow proofs of the library, with one case more: JvmDerived/Free/Laws.lean (Back.of_free), Shelf42/LK1.lean (callV, callS), Shelf/KitTraced.lean (throwNew0V, throwNewS). -/
/-- where a method has thrown q: the class by its name, the cell, what was written, the world -/
def vx_T (XC : String → State → State → Prop) (st : State) (q : Addr) (t : State) (mc ms : Nat) (free : Addr → Prop) : Prop :=
  ∃ (E : String) (ce : Cell) (L : List Loc), XC E st t ∧ t.heap[q]? = some ce ∧ ce.vm = .none ∧ st.vm.findClass E = some ce.cls ∧ st.WarmedH t.vm ∧ st.sameButNew ({ t with vm := st.vm } : State) L mc ms ∧ ∀ z ∈ L, free z.base
def vx_Q (Qc : Array Value → State → Outcome → State → Prop) (XC : String → State → State → Prop) (mc ms : Nat) (free : Addr → Prop) : Array Value → State → Outcome → State → Prop := fun a st o t =>
  (Qc a st o t ∧ ∃ L, FrameEnd st o t L mc ms ∧ ∀ q ∈ L, free q.base) ∨ ∃ q, o = .threw q ∧ vx_T XC st q t mc ms free
/-- a callee that returns or throws -/
def vx_Met (l : Launch) (y : MethodName) (ws : List Cond) (rm : Room) (Pc : Array Value → State → Prop) (Qc : Array Value → State → Outcome → State → Prop) (XC : String → State → State → Prop) (mc ms : Nat) (free : Addr → Prop) : Prop :=
  MetFree l y (headSpec ws rm) Pc (fun _ _ _ _ _ => True) (vx_Q Qc XC mc ms free)
def vx_Post (XC : String → State → State → Prop) (mc ms : Nat) (free : Addr → Prop) : Pt → Array Value → Addr → Pt → Prop := fun A a q B =>
  ∃ (g : JFrame) (mk : MethodId) (t : State) (L : List Loc) (E : String) (ce : Cell), B.U.heap = t.heap ∧ B.U.vm = t.vm ∧ XC E (A.U.calling g mk a) t ∧ t.heap[q]? = some ce ∧ ce.vm = .none ∧ A.U.vm.findClass E = some ce.cls ∧ B.locs = A.locs ++ L ∧ (∀ z ∈ L, free z.base) ∧ B.cells = A.cells + mc ∧ B.slots = A.slots + ms
def vx_Back (l : Launch) (R : Room) (p : Program) (e : Env) (below : List Frame) (s : State) (sargs : Array Value) (y : MethodName) (len W9 : Nat)
    (Pre : Pt → Array Value → Prop) (Post : Pt → Array Value → Option Value → Pt → Prop) (PostX : Pt → Array Value → Addr → Pt → Prop) : Prop :=
  ∀ (m : MethodId) (meth : Method) (c : Code) (A : Pt) (g : JFrame) (ig : Instr) (mk : MethodId) (a : Array Value),
    Stand p l e R s m sargs below meth c A.U A.locs A.cells A.slots → g.method = m → g.locals.size = c.maxLocals → decode c.code g.pc = .ok (ig, len) →
    2 * g.monitorRoom + (g.stack.map fun v => v.category).sum ≤ W9 → A.U.methodNamed? y = some mk → Pre A a →
    (∃ (v : Option Value) (B : Pt), Stand p l e R s m sargs below meth c B.U B.locs B.cells B.slots ∧ Post A a v B ∧
      Steps p.tables e below (doInvoke e (A.U.setTop g) [] mk a).1 (B.U.setTop { g with pc := g.pc + len, stack := v.toList ++ g.stack })) ∨
    (∃ (q : Addr) (B : Pt), Stand p l e R s m sargs below meth c B.U B.locs B.cells B.slots ∧ PostX A a q B ∧
      Steps p.tables e below (doInvoke e (A.U.setTop g) [] mk a).1 ((B.U.setTop g).pushFrame (.throwing q)))
section Payer
variable {l : Launch} {R : Room} {p : Program} {e : Env} {below : List Frame} {s : State} {sargs : Array Value} {y : MethodName} {len W9 : Nat}
theorem vx_back {ws : List Cond} {rm : Room} {Pc : Array Value → State → Prop} {Qc : Array Value → State → Outcome → State → Prop} {XC : String → State → State → Prop} {mc ms : Nat} {free : Addr → Prop} {bytes : ByteArray} {maxL : Nat} {ret : Option FieldType}
    (hM : vx_Met l y ws rm Pc Qc XC mc ms free) (hblind : FrameBlind Pc) (hrc : rm.cells = mc) (hrs : rm.slots = ms)
    (hframes : rm.frames + 1 ≤ R.frames) (hlocals : W9 + (maxL + 11) + rm.locals ≤ R.locals)
    (hws : ∀ w ∈ ws, ∀ a' U, s.WarmedH U.vm → w.before a' U = true) (hcode : Cond.code y bytes maxL ret ∈ ws) (hinit : ∀ a' U, s.WarmedH U.vm → (Cond.initialized y.cls).before a' U = true) :
    vx_Back l R p e below s sargs y len W9 (PreOf R mc ms Pc) (PostOf Qc mc ms free) (vx_Post XC mc ms free) := by
  intro m meth c A g ig mk a X hg hsize hdg hW hn hp
  have h1 : (headSpec ws rm).pre.before a A.U = true := atoms_intro fun w hw => hws w hw _ _ X.warmed
  have h2 : (Cond.code y bytes maxL ret).before a A.U = true := hws _ hcode _ _ X.warmed
  have h3 : (Cond.initialized y.cls).before a A.U = true := hinit _ _ X.warmed
  have h4 : A.cells + (headSpec ws rm).room.cells ≤ R.cells := by rw [show (headSpec ws rm).room.cells = mc from hrc]; exact hp.1
  have h5 : A.slots + (headSpec ws rm).room.slots ≤ R.slots := by rw [show (headSpec ws rm).room.slots = ms from hrs]; exact hp.2.1
  have hPc : Pc a (A.U.calling g mk a) := hblind _ _ _ _ hp.2.2
  obtain ⟨U, Ls, c0, s0⟩ := A
  dsimp only [Pt.U, Pt.locs, Pt.cells, Pt.slots] at h1 h2 h3 h4 h5 X hn hPc ⊢
  obtain ⟨methY, cY, hmY, hcY, -, hlY, -, -, -, -⟩ := Cond.code_spec hn h2
  obtain ⟨kY, hkY, -⟩ := className_of_methodNamed hn
  have hinitY : kY.init = .initialized := Cond.initialized_spec (findClass_of_methodNamed hn) hkY h3
  have h : At U g.method c below := by rw [hg]; exact X.here
  have hlocals9 : W9 + (maxL + 11) + (headSpec ws rm).room.locals ≤ R.locals := hlocals
  have happ : (headSpec ws rm).appliesLoose y e.platform (U.calling g mk a) = true :=
    Spec.appliesLoose_calling (g := g) h hdg hn hkY hinitY
      (X.room_calling (g := g) (R' := (headSpec ws rm).room) hsize hmY hcY hframes (by rw [hlY]; omega) h4 h5) h1
  obtain ⟨mid, hmid⟩ := h.above
  have hfr : (U.setTop g).frames = (.java g :: mid) ++ below := by rw [State.frames_setTop' g h.top, hmid]; rfl
  obtain ⟨o, s₂, hsteps, -, hend, hq⟩ := Steps.callFree hM p X.admits X.cas X.clock (acts := []) hfr happ hPc trivial
  have hq' : vx_Q Qc XC mc ms free a (U.calling g mk a) o s₂ := hq
  rw [State.frames_setTop' g h.top] at hend
  obtain ⟨g₀, hg0⟩ := Option.isSome_iff_exists.mp h.top
  obtain ⟨r, hr⟩ := State.topJava?_eq_some.mp hg0
  have hr' : (({ U with heap := s₂.heap, slotsUsed := s₂.slotsUsed } : State).setVm s₂.vm).frames = .java g₀ :: r := hr
  rcases hq' with ⟨hqc, L, hfe, hL⟩ | ⟨q, rfl, E, ce, L, hx, hce, hcv, hcl, hW₂, hsm, hL⟩
  · obtain ⟨⟨v, rfl⟩, hW₂, e2, q2, q3, q4, q5, q6⟩ := id hfe
    have e3 : s₂ = ({ (U.calling g mk a).setFrames s₂.frames with heap := s₂.heap, slotsUsed := s₂.slotsUsed } : State).setVm s₂.vm := by
      have : s₂ = ({ s₂ with vm := (U.calling g mk a).vm } : State).setVm s₂.vm := rfl
      rw [e2] at this
      exact this
    obtain ⟨c₂, i₂, len₂, hc₂, hd₂, hf₂⟩ := hend
    have hW' : U.WarmedH s₂.vm := hW₂
    have hcc : c₂ = c := by
      have h1 : s₂.code? g.method = U.code? g.method := by
        rw [State.code?_eq, State.code?_eq, hW'.alike.method?]
      exact Option.some.inj (hc₂.symm.trans (h1.trans h.code))
    subst hcc
    have hlen : len₂ = len := by rw [hdg] at hd₂; cases hd₂; rfl
    subst hlen
    have hs₂ : s₂ = (({ U with heap := s₂.heap, slotsUsed := s₂.slotsUsed } : State).setVm s₂.vm).setTop { g with pc := g.pc + len₂, stack := v.toList ++ g.stack } := by
      refine e3.trans ?_
      rw [hf₂, State.calling_eq h.top, State.setFrames_setFrames, State.setTop_of_frames _ hr', hr]
      rfl
    have hsame : U.sameButNew ({ U with heap := s₂.heap, slotsUsed := s₂.slotsUsed } : State) L mc ms := by
      refine ⟨?_, q2, q3, q4, q5, q6⟩
      obtain ⟨t, ht, -⟩ := State.frames_cons hr
      show ({ U with heap := s₂.heap, slotsUsed := s₂.slotsUsed } : State) = { U.setFrames U.frames with heap := s₂.heap, slotsUsed := s₂.slotsUsed }
      rw [State.setFrames_self ht]
    subst hg
    refine Or.inl ⟨v, ⟨(({ U with heap := s₂.heap, slotsUsed := s₂.slotsUsed } : State).setVm s₂.vm), Ls ++ L, c0 + mc, s0 + ms⟩,
      ⟨X.admits, X.cas, X.clock, X.frames, X.room, X.hears, X.method, X.code, (X.here.setHeapUsed s₂.heap s₂.slotsUsed).setVm hW'.alike, X.tail, State.WarmedH.trans X.warmed hW', X.limits, X.bytes, X.same.trans (hsame.setVm s.vm)⟩,
      ⟨g, mk, s₂, L, rfl, rfl, hqc, rfl, hL, rfl, rfl⟩, ?_⟩
    show Steps p.tables e below _ ((({ U with heap := s₂.heap, slotsUsed := s₂.slotsUsed } : State).setVm s₂.vm).setTop { g with pc := g.pc + len₂, stack := v.toList ++ g.stack })
    rw [← hs₂]
    exact hsteps
  · obtain ⟨e2, q2, q3, q4, q5, q6⟩ := id hsm
    have e3 : s₂ = ({ (U.calling g mk a).setFrames s₂.frames with heap := s₂.heap, slotsUsed := s₂.slotsUsed } : State).setVm s₂.vm := by
      have : s₂ = ({ s₂ with vm := (U.calling g mk a).vm } : State).setVm s₂.vm := rfl
      rw [e2] at this
      exact this
    have hf₂ : s₂.frames = .throwing q :: .java g :: U.frames.tail := hend
    have hW' : U.WarmedH s₂.vm := hW₂
    have hs₂ : s₂ = ((({ U with heap := s₂.heap, slotsUsed := s₂.slotsUsed } : State).setVm s₂.vm).setTop g).pushFrame (.throwing q) := by
      refine e3.trans ?_
      rw [hf₂, State.calling_eq h.top, State.setFrames_setFrames, State.pushFrame, State.frames_setTop _ hr', State.setTop_of_frames _ hr', State.setFrames_setFrames, hr]
      rfl
    have hsame : U.sameButNew ({ U with heap := s₂.heap, slotsUsed := s₂.slotsUsed } : State) L mc ms := by
      refine ⟨?_, q2, q3, q4, q5, q6⟩
      obtain ⟨t, ht, -⟩ := State.frames_cons hr
      show ({ U with heap := s₂.heap, slotsUsed := s₂.slotsUsed } : State) = { U.setFrames U.frames with heap := s₂.heap, slotsUsed := s₂.slotsUsed }
      rw [State.setFrames_self ht]
    subst hg
    refine Or.inr ⟨q, ⟨(({ U with heap := s₂.heap, slotsUsed := s₂.slotsUsed } : State).setVm s₂.vm), Ls ++ L, c0 + mc, s0 + ms⟩,
      ⟨X.admits, X.cas, X.clock, X.frames, X.room, X.hears, X.method, X.code, (X.here.setHeapUsed s₂.heap s₂.slotsUsed).setVm hW'.alike, X.tail, State.WarmedH.trans X.warmed hW', X.limits, X.bytes, X.same.trans (hsame.setVm s.vm)⟩,
      ⟨g, mk, s₂, L, E, ce, rfl, rfl, hx, hce, hcv, hcl, rfl, hL, rfl, rfl⟩, ?_⟩
    show Steps p.tables e below _ (((({ U with heap := s₂.heap, slotsUsed := s₂.slotsUsed } : State).setVm s₂.vm).setTop g).pushFrame (.throwing q))
    rw [← hs₂]
    exact hsteps
end Payer
section Calls
variable {p : Program} {l : Launch} {e : Env} {R : Room} {s : State} {m : MethodId} {args : Array Value} {below : List Frame} {meth : Method} {c : Code} {T : State} {locs : List Loc} {cells slots : Nat}
theorem vx_callV (X : Stand p l e R s m args below meth c T locs cells slots) (hexec : p.tables.exec = Jvm.exec) {own C : String} {index : Nat} {y : MethodName} {bytes : ByteArray} {maxL : Nat} {ret : Option FieldType}
    (hown : s.vm.findClass own = some m.cls) (hlink : (Cond.methodLink own index y).before args s = true) (hinst : (Cond.instanceMethod y).before args s = true) (hsel : (Cond.selects C y y).before args s = true)
    (hcode : (Cond.code y bytes maxL ret).before args s = true) (hy : y.cls ≠ "java/lang/invoke/MethodHandle" ∧ y.cls ≠ "java/lang/invoke/VarHandle")
    {W9 : Nat} {Pre : Pt → Array Value → Prop} {Post : Pt → Array Value → Option Value → Pt → Prop} {PostX : Pt → Array Value → Addr → Pt → Prop} (hK : vx_Back l R p e below s args y 3 W9 Pre Post PostX)
    {b : Addr} {cellB : Cell} (hcell : T.heap[b]? = some cellB) (hobj : cellB.vm.isStatics = false) (hcls : s.vm.findClass C = some cellB.cls)
    {g : JFrame} (hg : g.method = m) (hsize : g.locals.size = c.maxLocals) {argsL rest : List Value} (hlen : ∀ sig, parseMethodDescriptor y.desc = some sig → argsL.length = sig.parameters.length)
    (hstack : g.stack = argsL.reverse ++ .ref b :: rest) (hW : 2 * g.monitorRoom + (rest.map fun v => v.category).sum ≤ W9) (hdg : decode c.code g.pc = .ok (.invokevirtual index, 3))
    (hpre : ∀ vm₁, s.WarmedH vm₁ → Pre ⟨T.setVm vm₁, locs, cells, slots⟩ (Value.ref b :: argsL).toArray) :
    (∃ (v : Option Value) (vm₁ : Vm) (B : Pt), s.WarmedH vm₁ ∧ Stand p l e R s m args below meth c B.U B.locs B.cells B.slots ∧ Post ⟨T.setVm vm₁, locs, cells, slots⟩ (Value.ref b :: argsL).toArray v B ∧
      ∀ target, Steps p.tables e below (B.U.setTop { g with pc := g.pc + 3, stack := v.toList ++ rest }) target → Steps p.tables e below (T.setTop g) target) ∨
    (∃ (q : Addr) (vm₁ : Vm) (B : Pt), s.WarmedH vm₁ ∧ Stand p l e R s m args below meth c B.U B.locs B.cells B.slots ∧ PostX ⟨T.setVm vm₁, locs, cells, slots⟩ (Value.ref b :: argsL).toArray q B ∧
      Steps p.tables e below (T.setTop g) ((B.U.setTop { g with stack := rest }).pushFrame (.throwing q))) := by
  obtain ⟨mk, methM, hnamed, hmethM, hstM, habM⟩ := Cond.instanceMethod_spec hinst
  obtain ⟨methM', cM, hmethM', -, -, -, -, -, -, hsigM⟩ := Cond.code_spec hnamed hcode
  cases hmethM.symm.trans hmethM'
  obtain ⟨c2, r2, m2, q1, q2, q3, q4, kP, hkP, hkPi⟩ := Cond.selects_spec hsel
  cases hcls.symm.trans q1
  cases (State.methodFound?_of_named hnamed hy).symm.trans q2
  cases hnamed.symm.trans q3
  have hselP : selectMethod e.platform s.vm cellB.cls mk = .method mk := by rw [Launch.admits_selectMethod X.admits]; exact q4
  obtain ⟨vm₁, X₁, hstep₁⟩ := X.invokevirtual hexec hown hlink hnamed hmethM hstM hkP hkPi hy (a := b) (cell := cellB) hcell
    (fun z h => by rw [h] at hobj; cases hobj) hselP hmethM habM hkP hkPi (g := g) hg (argsL := argsL) (rest := rest) (hlen _ hsigM) hstack hdg
  rcases hK m meth c ⟨T.setVm vm₁, locs, cells, slots⟩ { g with stack := rest } (.invokevirtual index) mk (Value.ref b :: argsL).toArray X₁ hg hsize hdg hW (X₁.named hnamed) (hpre vm₁ X₁.warmed) with ⟨v, B, X', hpost, hsteps⟩ | ⟨q, B, X', hpost, hsteps⟩
  · exact Or.inl ⟨v, vm₁, B, X₁.warmed, X', hpost, fun target h => hstep₁ _ fun acts => by rw [doInvoke_state]; exact hsteps.trans h⟩
  · exact Or.inr ⟨q, vm₁, B, X₁.warmed, X', hpost, hstep₁ _ fun acts => by rw [doInvoke_state]; exact hsteps⟩
theorem vx_callS (X : Stand p l e R s m args below meth c T locs cells slots) (hexec : p.tables.exec = Jvm.exec) {own : String} {index : Nat} {y : MethodName} {bytes : ByteArray} {maxL : Nat} {ret : Option FieldType}
    (hown : s.vm.findClass own = some m.cls) (hlink : (Cond.methodLink own index y).before args s = true) (hstat : (Cond.static y).before args s = true) (hinit : (Cond.initialized y.cls).before args s = true)
    (hcode : (Cond.code y bytes maxL ret).before args s = true) (hy : y.cls ≠ "java/lang/invoke/MethodHandle" ∧ y.cls ≠ "java/lang/invoke/VarHandle")
    {W9 : Nat} {Pre : Pt → Array Value → Prop} {Post : Pt → Array Value → Option Value → Pt → Prop} {PostX : Pt → Array Value → Addr → Pt → Prop} (hK : vx_Back l R p e below s args y 3 W9 Pre Post PostX)
    {g : JFrame} (hg : g.method = m) (hsize : g.locals.size = c.maxLocals) {argsL rest : List Value} (hlen : ∀ sig, parseMethodDescriptor y.desc = some sig → argsL.length = sig.parameters.length)
    (hstack : g.stack = argsL.reverse ++ rest) (hW : 2 * g.monitorRoom + (rest.map fun v => v.category).sum ≤ W9) (hdg : decode c.code g.pc = .ok (.invokestatic index, 3))
    (hpre : ∀ vm₁, s.WarmedH vm₁ → Pre ⟨T.setVm vm₁, locs, cells, slots⟩ argsL.toArray) :
    (∃ (v : Option Value) (vm₁ : Vm) (B : Pt), s.WarmedH vm₁ ∧ Stand p l e R s m args below meth c B.U B.locs B.cells B.slots ∧ Post ⟨T.setVm vm₁, locs, cells, slots⟩ argsL.toArray v B ∧
      ∀ target, Steps p.tables e below (B.U.setTop { g with pc := g.pc + 3, stack := v.toList ++ rest }) target → Steps p.tables e below (T.setTop g) target) ∨
    (∃ (q : Addr) (vm₁ : Vm) (B : Pt), s.WarmedH vm₁ ∧ Stand p l e R s m args below meth c B.U B.locs B.cells B.slots ∧ PostX ⟨T.setVm vm₁, locs, cells, slots⟩ argsL.toArray q B ∧
      Steps p.tables e below (T.setTop g) ((B.U.setTop { g with stack := rest }).pushFrame (.throwing q))) := by
  obtain ⟨mk, hnamed⟩ := Cond.code_named hcode
  obtain ⟨methM, cM, hmethM, -, -, -, -, -, -, hsigM⟩ := Cond.code_spec hnamed hcode
  have hstatic : methM.isStatic = true := Cond.static_spec hnamed hmethM hstat
  obtain ⟨kP, hkP, -⟩ := className_of_methodNamed hnamed
  have hinitP : kP.init = .initialized := Cond.initialized_spec (findClass_of_methodNamed hnamed) hkP hinit
  obtain ⟨vm₁, X₁, hstep₁⟩ := X.invokestatic hexec hown hlink hnamed hmethM hstatic hkP hinitP hy (g := g) hg (argsL := argsL) (rest := rest) (hlen _ hsigM) hstack hdg
  rcases hK m meth c ⟨T.setVm vm₁, locs, cells, slots⟩ { g with stack := rest } (.invokestatic index) mk argsL.toArray X₁ hg hsize hdg hW (X₁.named hnamed) (hpre vm₁ X₁.warmed) with ⟨v, B, X', hpost, hsteps⟩ | ⟨q, B, X', hpost, hsteps⟩
  · exact Or.inl ⟨v, vm₁, B, X₁.warmed, X', hpost, fun target h => hstep₁ _ fun acts => by rw [doInvoke_state]; exact hsteps.trans h⟩
  · exact Or.inr ⟨q, vm₁, B, X₁.warmed, X', hpost, hstep₁ _ fun acts => by rw [doInvoke_state]; exact hsteps⟩
end Calls
theorem vx_cls {s : State} {T : State} {vm₁ : Vm} {E : String} {k : ClassId} (hW : s.WarmedH vm₁) (h : (T.setVm vm₁).vm.findClass E = some k) : s.vm.findClass E = some k := by
  have h1 : vm₁.findClass E = some k := h
  rw [hW.alike.findClass] at h1
  exact h1
/-- the method's frame g, with q thrown over it -/
def vx_W (p : Program) (l : Launch) (e : Env) (R : Room) (s : State) (m : MethodId) (args : Array Value) (below : List Frame) (meth : Method) (c : Code) (H : Heap) (locs : List Loc) (cells slots : Nat) (Q : State → Prop) (g : JFrame) (q : Addr) : Prop :=
  ∀ T : State, T.heap = H → Stand p l e R s m args below meth c T locs cells slots → ∃ t, Steps p.tables e below ((T.setTop g).pushFrame (.throwing q)) t ∧ Q t
def vx_Run (p : Program) (l : Launch) (e : Env) (R : Room) (s : State) (m : MethodId) (args : Array Value) (below : List Frame) (meth : Method) (c : Code) (H : Heap) (locs : List Loc) (cells slots mc ms : Nat) (g : JFrame) (rest : List Value) (Qa : State → Outcome → State → Prop) (XC : String → State → State → Prop) (free : Addr → Prop) : Prop :=
  ∀ T : State, T.heap = H → Stand p l e R s m args below meth c T locs cells slots →
    (∃ (v : Option Value) (st₀ t T' : State) (L : List Loc), st₀.heap = H ∧ Stand p l e R s m args below meth c T' (locs ++ L) (cells + mc) (slots + ms) ∧ (∀ q ∈ L, free q.base) ∧ T'.heap = t.heap ∧ T'.vm = t.vm ∧ Qa st₀ (.returned v) t ∧
      Goes p e below T g T' { g with pc := g.pc + 3, stack := v.toList ++ rest }) ∨
    (∃ (q : Addr) (st₀ t T' : State) (L : List Loc) (E : String) (ce : Cell), st₀.heap = H ∧ Stand p l e R s m args below meth c T' (locs ++ L) (cells + mc) (slots + ms) ∧ (∀ z ∈ L, free z.base) ∧ T'.heap = t.heap ∧ T'.vm = t.vm ∧ XC E st₀ t ∧ t.heap[q]? = some ce ∧ ce.vm = .none ∧ s.vm.findClass E = some ce.cls ∧
      Steps p.tables e below (T.setTop g) ((T'.setTop { g with stack := rest }).pushFrame (.throwing q)))
def vx_X {S : Type} (px : S → Prop) (B : String → S → State → Prop) (A : Nat → Prop) : String → State → State → Prop := fun E st t => ∃ u : S, px u ∧ B E u t ∧ va_F A st t
section Runs
variable {p : Program} {l : Launch} {e : Env} {R : Room} {s : State} {m : MethodId} {args : Array Value} {below : List Frame} {meth : Method} {c : Code} {H : Heap} {locs : List Loc} {cells slots : Nat}
variable {y : MethodName} {bytes cc : ByteArray} {maxL nL mc ms n index : Nat} {ret : Option FieldType} {ws : List Cond} {rm : Room} {Pc : Array Value → State → Prop} {Qc : Array Value → State → Outcome → State → Prop} {XC : String → State → State → Prop} {free : Addr → Prop} {Ts : List Cond} {own C : String} {b : Addr} {As rest : List Value} {g : JFrame}
theorem vx_callBack (cb : CallB R s args own index y bytes maxL ret ws rm mc ms n) (hM : vx_Met l y ws rm Pc Qc XC mc ms free) (hbl : FrameBlind Pc) : vx_Back l R p e below s args y 3 8 (PreOf R mc ms Pc) (PostOf Qc mc ms free) (vx_Post XC mc ms free) := by
  obtain ⟨hrc, hrs, hfr, hlo, hws, hcw, -, hini, -⟩ := cb
  exact vx_back (bytes := bytes) (maxL := maxL) (ret := ret) hM hbl hrc hrs hfr hlo hws hcw (fun a' U hW => word_at hW (Or.inl (by first | rfl | simp [Cond.onTables, Cond.keeps, Cond.steady])) hini)
theorem vx_runV (S : CallFix p m c cc nL s args Ts own) (hM : vx_Met l y ws rm Pc Qc XC mc ms free) (cw : CallW R s args own C index y bytes maxL ret ws rm mc ms n) (hp : PreV s H C b Pc As)
    (hg : g.method = m) (hn : As.length = n) (hsize : g.locals.size = nL) (hstack : g.stack = As.reverse ++ .ref b :: rest) (hW : 2 * g.monitorRoom + (rest.map fun v => v.category).sum ≤ 8) (hdg : decode cc g.pc = .ok (.invokevirtual index, 3)) (hf : cells + mc ≤ R.cells ∧ slots + ms ≤ R.slots) :
    vx_Run p l e R s m args below meth c H locs cells slots mc ms g rest (Qc (Value.ref b :: As).toArray) XC free := by
  have hK : vx_Back l R p e below s args y 3 8 (PreOf R mc ms Pc) (PostOf Qc mc ms free) (vx_Post XC mc ms free) := vx_callBack cw.1 hM hp.1
  obtain ⟨⟨-, -, -, -, -, -, hcode, -, hy, hlen, hl⟩, hin, hse⟩ := cw
  obtain ⟨hx, hb, hml, ho, -⟩ := S
  obtain ⟨-, ⟨cellB, hcB, hoB, hclB⟩, hPc⟩ := hp
  intro T hT X
  rcases vx_callV X hx (C := C) (bytes := bytes) (maxL := maxL) (ret := ret) ho hl hin hse hcode hy hK (by rw [hT]; exact hcB) hoB hclB hg (hsize.trans hml.symm) (argsL := As) (rest := rest) (fun sig h => hn.trans (hlen sig h)) hstack hW (by rw [hb]; exact hdg)
    (fun vm₁ hW₁ => ⟨hf.1, hf.2, hPc (T.setVm vm₁) hT hW₁⟩) with ⟨v, vm₁, ⟨U', l2, c2, s2⟩, hW₁, X', ⟨g', mk, t, L, e1, e2, hq, h1, hL, h2, h3⟩, st⟩ | ⟨q, vm₁, ⟨U', l2, c2, s2⟩, hW₁, X', ⟨g', mk, t, L, E, ce, e1, e2, hq, hce, hcv, hcl, h1, hL, h2, h3⟩, st⟩
  · dsimp only [Pt.U, Pt.locs, Pt.cells, Pt.slots] at X' e1 e2 h1 h2 h3 st
    subst h1; subst h2; subst h3
    exact Or.inl ⟨v, (T.setVm vm₁).calling g' mk (Value.ref b :: As).toArray, t, U', L, hT, X', hL, e1, e2, hq, st⟩
  · dsimp only [Pt.U, Pt.locs, Pt.cells, Pt.slots] at X' e1 e2 h1 h2 h3 st hcl
    subst h1; subst h2; subst h3
    exact Or.inr ⟨q, (T.setVm vm₁).calling g' mk (Value.ref b :: As).toArray, t, U', L, E, ce, hT, X', hL, e1, e2, hq, hce, hcv, vx_cls hW₁ hcl, st⟩
theorem vx_runS (S : CallFix p m c cc nL s args Ts own) (hM : vx_Met l y ws rm Pc Qc XC mc ms free) (cw : CallB R s args own index y bytes maxL ret ws rm mc ms n ∧ (Cond.static y).before args s = true) (hp : PreS s H Pc As)
    (hg : g.method = m) (hn : As.length = n) (hsize : g.locals.size = nL) (hstack : g.stack = As.reverse ++ rest) (hW : 2 * g.monitorRoom + (rest.map fun v => v.category).sum ≤ 8) (hdg : decode cc g.pc = .ok (.invokestatic index, 3)) (hf : cells + mc ≤ R.cells ∧ slots + ms ≤ R.slots) :
    vx_Run p l e R s m args below meth c H locs cells slots mc ms g rest (Qc As.toArray) XC free := by
  have hK : vx_Back l R p e below s args y 3 8 (PreOf R mc ms Pc) (PostOf Qc mc ms free) (vx_Post XC mc ms free) := vx_callBack cw.1 hM hp.1
  obtain ⟨⟨-, -, -, -, -, -, hcode, hini, hy, hlen, hl⟩, hstt⟩ := cw
  obtain ⟨hx, hb, hml, ho, -⟩ := S
  intro T hT X
  rcases vx_callS X hx (bytes := bytes) (maxL := maxL) (ret := ret) ho hl hstt hini hcode hy hK hg (hsize.trans hml.symm) (argsL := As) (rest := rest) (fun sig h => hn.trans (hlen sig h)) hstack hW (by rw [hb]; exact hdg)
    (fun vm₁ hW₁ => ⟨hf.1, hf.2, hp.2 (T.setVm vm₁) hT hW₁⟩) with ⟨v, vm₁, ⟨U', l2, c2, s2⟩, hW₁, X', ⟨g', mk, t, L, e1, e2, hq, h1, hL, h2, h3⟩, st⟩ | ⟨q, vm₁, ⟨U', l2, c2, s2⟩, hW₁, X', ⟨g', mk, t, L, E, ce, e1, e2, hq, hce, hcv, hcl, h1, hL, h2, h3⟩, st⟩
  · dsimp only [Pt.U, Pt.locs, Pt.cells, Pt.slots] at X' e1 e2 h1 h2 h3 st
    subst h1; subst h2; subst h3
    exact Or.inl ⟨v, (T.setVm vm₁).calling g' mk As.toArray, t, U', L, hT, X', hL, e1, e2, hq, st⟩
  · dsimp only [Pt.U, Pt.locs, Pt.cells, Pt.slots] at X' e1 e2 h1 h2 h3 st hcl
    subst h1; subst h2; subst h3
    exact Or.inr ⟨q, (T.setVm vm₁).calling g' mk As.toArray, t, U', L, E, ce, hT, X', hL, e1, e2, hq, hce, hcv, vx_cls hW₁ hcl, st⟩
end Runs
section Rows
variable {p : Program} {l : Launch} {e : Env} {R : Room} {s : State} {m : MethodId} {args : Array Value} {below : List Frame} {meth : Method} {c : Code} {H : Heap} {locs : List Loc} {cells slots : Nat} {Q : State → Prop}
variable {mc ms : Nat} {free : Addr → Prop} {A0 A1 : Nat → Prop} {H0 : Heap} {a : Array Value} {pc : Nat} {ls : Array Slot} {st0 rest : List Value}
theorem vx_keep {st₀ t T' : State} {L : List Loc} (h0 : st₀.heap = H) (e1 : T'.heap = t.heap) (hS : va_S A0 H0 H locs) (hA : ∀ q, q < H.size → A1 q → A0 q) (hf : ∀ q, free q → A0 q) (hL : ∀ q ∈ L, free q.base) (hF : va_F A1 st₀ t) :
    H.size ≤ T'.heap.size ∧ (∀ q : Nat, q < H.size → ¬ A1 q → T'.heap[q]? = H[q]?) ∧ va_S A0 H0 T'.heap (locs ++ L) := by
  obtain ⟨hz, hk⟩ := hF
  rw [h0] at hz hk
  exact ⟨by rw [e1]; exact hz, fun q h1 h2 => by rw [e1]; exact hk q h1 h2,
    ⟨Nat.le_trans hS.1 (by rw [e1]; exact hz), fun q h1 h2 => by rw [e1, hk q (Nat.lt_of_lt_of_le h1 hS.1) (fun z => h2 (hA q (Nat.lt_of_lt_of_le h1 hS.1) z))]; exact hS.2.1 q h1 h2, fun q hq => by
      rcases List.mem_append.mp hq with h | h
      · exact hS.2.2 q h
      · exact hf _ (hL q h)⟩⟩
theorem vx_calli {S SX : Type} {post : Int32 → S → Prop} {px : SX → Prop} {B : S → State → Prop} {BX : String → SX → State → Prop} {AX : Nat → Prop} (hr : vx_Run p l e R s m args below meth c H locs cells slots mc ms (F0 m pc ls st0) rest (va_Qi post B A1 a) (vx_X px BX AX) free) (hS : va_S A0 H0 H locs) (hA : ∀ q, q < H.size → A1 q → A0 q) (hf : ∀ q, free q → A0 q) (hAX : ∀ q, q < H.size → AX q → A0 q)
    (kx : ∀ (E : String) (ce : Cell) (q9 : Addr) (u : SX) (t : State) (H1 : Heap) (locs1 : List Loc), t.heap = H1 → s.vm.Alike t.vm → px u → BX E u t → H.size ≤ H1.size → (∀ q : Nat, q < H.size → ¬ AX q → H1[q]? = H[q]?) → va_S A0 H0 H1 locs1 → H1[q9]? = some ce → ce.vm = .none → s.vm.findClass E = some ce.cls → vx_W p l e R s m args below meth c H1 locs1 (cells + mc) (slots + ms) Q (F0 m pc ls rest) q9)
    (kk : ∀ (r : Int32) (u : S) (t : State) (H1 : Heap) (locs1 : List Loc), t.heap = H1 → s.vm.Alike t.vm → post r u → B u t → H.size ≤ H1.size → (∀ q : Nat, q < H.size → ¬ A1 q → H1[q]? = H[q]?) → va_S A0 H0 H1 locs1 → W p l e R s m args below meth c H1 locs1 (cells + mc) (slots + ms) Q (F0 m (pc + 3) ls (.int r :: rest))) : W p l e R s m args below meth c H locs cells slots Q (F0 m pc ls st0) := by
  intro T hT X
  rcases hr T hT X with ⟨v, st₀, t, T', L, h0, X', hL, e1, e2, ⟨⟨r, u, hv, hp, hb⟩, hF⟩, st⟩ | ⟨q, st₀, t, T', L, E, ce, h0, X', hL, e1, e2, ⟨u, hp, hb, hF⟩, hce, hcv, hcl, st⟩
  · cases hv
    obtain ⟨k1, k2, k3⟩ := vx_keep h0 e1 hS hA hf hL hF
    obtain ⟨t2, a1, b1⟩ := kk r u t T'.heap (locs ++ L) e1.symm (by rw [← e2]; exact X'.warmed.alike) hp hb k1 k2 k3 T' rfl X'
    exact ⟨t2, st t2 a1, b1⟩
  · obtain ⟨k1, k2, k3⟩ := vx_keep h0 e1 hS hAX hf hL hF
    obtain ⟨t2, a1, b1⟩ := kx E ce q u t T'.heap (locs ++ L) e1.symm (by rw [← e2]; exact X'.warmed.alike) hp hb k1 k2 k3 (by rw [e1]; exact hce) hcv hcl T' rfl X'
    exact ⟨t2, st.trans a1, b1⟩
theorem vx_calll {S SX : Type} {post : Int64 → S → Prop} {px : SX → Prop} {B : S → State → Prop} {BX : String → SX → State → Prop} {AX : Nat → Prop} (hr : vx_Run p l e R s m args below meth c H locs cells slots mc ms (F0 m pc ls st0) rest (va_Ql post B A1 a) (vx_X px BX AX) free) (hS : va_S A0 H0 H locs) (hA : ∀ q, q < H.size → A1 q → A0 q) (hf : ∀ q, free q → A0 q) (hAX : ∀ q, q < H.size → AX q → A0 q)
    (kx : ∀ (E : String) (ce : Cell) (q9 : Addr) (u : SX) (t : State) (H1 : Heap) (locs1 : List Loc), t.heap = H1 → s.vm.Alike t.vm → px u → BX E u t → H.size ≤ H1.size → (∀ q : Nat, q < H.size → ¬ AX q → H1[q]? = H[q]?) → va_S A0 H0 H1 locs1 → H1[q9]? = some ce → ce.vm = .none → s.vm.findClass E = some ce.cls → vx_W p l e R s m args below meth c H1 locs1 (cells + mc) (slots + ms) Q (F0 m pc ls rest) q9)
    (kk : ∀ (r : Int64) (u : S) (t : State) (H1 : Heap) (locs1 : List Loc), t.heap = H1 → s.vm.Alike t.vm → post r u → B u t → H.size ≤ H1.size → (∀ q : Nat, q < H.size → ¬ A1 q → H1[q]? = H[q]?) → va_S A0 H0 H1 locs1 → W p l e R s m args below meth c H1 locs1 (cells + mc) (slots + ms) Q (F0 m (pc + 3) ls (.long r :: rest))) : W p l e R s m args below meth c H locs cells slots Q (F0 m pc ls st0) := by
  intro T hT X
  rcases hr T hT X with ⟨v, st₀, t, T', L, h0, X', hL, e1, e2, ⟨⟨r, u, hv, hp, hb⟩, hF⟩, st⟩ | ⟨q, st₀, t, T', L, E, ce, h0, X', hL, e1, e2, ⟨u, hp, hb, hF⟩, hce, hcv, hcl, st⟩
  · cases hv
    obtain ⟨k1, k2, k3⟩ := vx_keep h0 e1 hS hA hf hL hF
    obtain ⟨t2, a1, b1⟩ := kk r u t T'.heap (locs ++ L) e1.symm (by rw [← e2]; exact X'.warmed.alike) hp hb k1 k2 k3 T' rfl X'
    exact ⟨t2, st t2 a1, b1⟩
  · obtain ⟨k1, k2, k3⟩ := vx_keep h0 e1 hS hAX hf hL hF
    obtain ⟨t2, a1, b1⟩ := kx E ce q u t T'.heap (locs ++ L) e1.symm (by rw [← e2]; exact X'.warmed.alike) hp hb k1 k2 k3 (by rw [e1]; exact hce) hcv hcl T' rfl X'
    exact ⟨t2, st.trans a1, b1⟩
theorem vx_callf {S SX : Type} {post : UInt32 → S → Prop} {px : SX → Prop} {B : S → State → Prop} {BX : String → SX → State → Prop} {AX : Nat → Prop} (hr : vx_Run p l e R s m args below meth c H locs cells slots mc ms (F0 m pc ls st0) rest (va_Qf post B A1 a) (vx_X px BX AX) free) (hS : va_S A0 H0 H locs) (hA : ∀ q, q < H.size → A1 q → A0 q) (hf : ∀ q, free q → A0 q) (hAX : ∀ q, q < H.size → AX q → A0 q)
    (kx : ∀ (E : String) (ce : Cell) (q9 : Addr) (u : SX) (t : State) (H1 : Heap) (locs1 : List Loc), t.heap = H1 → s.vm.Alike t.vm → px u → BX E u t → H.size ≤ H1.size → (∀ q : Nat, q < H.size → ¬ AX q → H1[q]? = H[q]?) → va_S A0 H0 H1 locs1 → H1[q9]? = some ce → ce.vm = .none → s.vm.findClass E = some ce.cls → vx_W p l e R s m args below meth c H1 locs1 (cells + mc) (slots + ms) Q (F0 m pc ls rest) q9)
    (kk : ∀ (r : UInt32) (u : S) (t : State) (H1 : Heap) (locs1 : List Loc), t.heap = H1 → s.vm.Alike t.vm → post r u → B u t → H.size ≤ H1.size → (∀ q : Nat, q < H.size → ¬ A1 q → H1[q]? = H[q]?) → va_S A0 H0 H1 locs1 → W p l e R s m args below meth c H1 locs1 (cells + mc) (slots + ms) Q (F0 m (pc + 3) ls (.float r :: rest))) : W p l e R s m args below meth c H locs cells slots Q (F0 m pc ls st0) := by
  intro T hT X
  rcases hr T hT X with ⟨v, st₀, t, T', L, h0, X', hL, e1, e2, ⟨⟨r, u, hv, hp, hb⟩, hF⟩, st⟩ | ⟨q, st₀, t, T', L, E, ce, h0, X', hL, e1, e2, ⟨u, hp, hb, hF⟩, hce, hcv, hcl, st⟩
  · cases hv
    obtain ⟨k1, k2, k3⟩ := vx_keep h0 e1 hS hA hf hL hF
    obtain ⟨t2, a1, b1⟩ := kk r u t T'.heap (locs ++ L) e1.symm (by rw [← e2]; exact X'.warmed.alike) hp hb k1 k2 k3 T' rfl X'
    exact ⟨t2, st t2 a1, b1⟩
  · obtain ⟨k1, k2, k3⟩ := vx_keep h0 e1 hS hAX hf hL hF
    obtain ⟨t2, a1, b1⟩ := kx E ce q u t T'.heap (locs ++ L) e1.symm (by rw [← e2]; exact X'.warmed.alike) hp hb k1 k2 k3 (by rw [e1]; exact hce) hcv hcl T' rfl X'
    exact ⟨t2, st.trans a1, b1⟩
theorem vx_calld {S SX : Type} {post : UInt64 → S → Prop} {px : SX → Prop} {B : S → State → Prop} {BX : String → SX → State → Prop} {AX : Nat → Prop} (hr : vx_Run p l e R s m args below meth c H locs cells slots mc ms (F0 m pc ls st0) rest (va_Qd post B A1 a) (vx_X px BX AX) free) (hS : va_S A0 H0 H locs) (hA : ∀ q, q < H.size → A1 q → A0 q) (hf : ∀ q, free q → A0 q) (hAX : ∀ q, q < H.size → AX q → A0 q)
    (kx : ∀ (E : String) (ce : Cell) (q9 : Addr) (u : SX) (t : State) (H1 : Heap) (locs1 : List Loc), t.heap = H1 → s.vm.Alike t.vm → px u → BX E u t → H.size ≤ H1.size → (∀ q : Nat, q < H.size → ¬ AX q → H1[q]? = H[q]?) → va_S A0 H0 H1 locs1 → H1[q9]? = some ce → ce.vm = .none → s.vm.findClass E = some ce.cls → vx_W p l e R s m args below meth c H1 locs1 (cells + mc) (slots + ms) Q (F0 m pc ls rest) q9)
    (kk : ∀ (r : UInt64) (u : S) (t : State) (H1 : Heap) (locs1 : List Loc), t.heap = H1 → s.vm.Alike t.vm → post r u → B u t → H.size ≤ H1.size → (∀ q : Nat, q < H.size → ¬ A1 q → H1[q]? = H[q]?) → va_S A0 H0 H1 locs1 → W p l e R s m args below meth c H1 locs1 (cells + mc) (slots + ms) Q (F0 m (pc + 3) ls (.double r :: rest))) : W p l e R s m args below meth c H locs cells slots Q (F0 m pc ls st0) := by
  intro T hT X
  rcases hr T hT X with ⟨v, st₀, t, T', L, h0, X', hL, e1, e2, ⟨⟨r, u, hv, hp, hb⟩, hF⟩, st⟩ | ⟨q, st₀, t, T', L, E, ce, h0, X', hL, e1, e2, ⟨u, hp, hb, hF⟩, hce, hcv, hcl, st⟩
  · cases hv
    obtain ⟨k1, k2, k3⟩ := vx_keep h0 e1 hS hA hf hL hF
    obtain ⟨t2, a1, b1⟩ := kk r u t T'.heap (locs ++ L) e1.symm (by rw [← e2]; exact X'.warmed.alike) hp hb k1 k2 k3 T' rfl X'
    exact ⟨t2, st t2 a1, b1⟩
  · obtain ⟨k1, k2, k3⟩ := vx_keep h0 e1 hS hAX hf hL hF
    obtain ⟨t2, a1, b1⟩ := kx E ce q u t T'.heap (locs ++ L) e1.symm (by rw [← e2]; exact X'.warmed.alike) hp hb k1 k2 k3 (by rw [e1]; exact hce) hcv hcl T' rfl X'
    exact ⟨t2, st.trans a1, b1⟩
theorem vx_callv {S SX : Type} {post : S → Prop} {px : SX → Prop} {B : S → State → Prop} {BX : String → SX → State → Prop} {AX : Nat → Prop} (hr : vx_Run p l e R s m args below meth c H locs cells slots mc ms (F0 m pc ls st0) rest (va_Qv post B A1 a) (vx_X px BX AX) free) (hS : va_S A0 H0 H locs) (hA : ∀ q, q < H.size → A1 q → A0 q) (hf : ∀ q, free q → A0 q) (hAX : ∀ q, q < H.size → AX q → A0 q)
    (kx : ∀ (E : String) (ce : Cell) (q9 : Addr) (u : SX) (t : State) (H1 : Heap) (locs1 : List Loc), t.heap = H1 → s.vm.Alike t.vm → px u → BX E u t → H.size ≤ H1.size → (∀ q : Nat, q < H.size → ¬ AX q → H1[q]? = H[q]?) → va_S A0 H0 H1 locs1 → H1[q9]? = some ce → ce.vm = .none → s.vm.findClass E = some ce.cls → vx_W p l e R s m args below meth c H1 locs1 (cells + mc) (slots + ms) Q (F0 m pc ls rest) q9)
    (kk : ∀ (u : S) (t : State) (H1 : Heap) (locs1 : List Loc), t.heap = H1 → s.vm.Alike t.vm → post u → B u t → H.size ≤ H1.size → (∀ q : Nat, q < H.size → ¬ A1 q → H1[q]? = H[q]?) → va_S A0 H0 H1 locs1 → W p l e R s m args below meth c H1 locs1 (cells + mc) (slots + ms) Q (F0 m (pc + 3) ls (rest))) : W p l e R s m args below meth c H locs cells slots Q (F0 m pc ls st0) := by
  intro T hT X
  rcases hr T hT X with ⟨v, st₀, t, T', L, h0, X', hL, e1, e2, ⟨⟨u, hv, hp, hb⟩, hF⟩, st⟩ | ⟨q, st₀, t, T', L, E, ce, h0, X', hL, e1, e2, ⟨u, hp, hb, hF⟩, hce, hcv, hcl, st⟩
  · cases hv
    obtain ⟨k1, k2, k3⟩ := vx_keep h0 e1 hS hA hf hL hF
    obtain ⟨t2, a1, b1⟩ := kk u t T'.heap (locs ++ L) e1.symm (by rw [← e2]; exact X'.warmed.alike) hp hb k1 k2 k3 T' rfl X'
    exact ⟨t2, st t2 a1, b1⟩
  · obtain ⟨k1, k2, k3⟩ := vx_keep h0 e1 hS hAX hf hL hF
    obtain ⟨t2, a1, b1⟩ := kx E ce q u t T'.heap (locs ++ L) e1.symm (by rw [← e2]; exact X'.warmed.alike) hp hb k1 k2 k3 (by rw [e1]; exact hce) hcv hcl T' rfl X'
    exact ⟨t2, st.trans a1, b1⟩
/-- caught by the row x of this method's table; the rows ahead don't take it -/
theorem vx_catch {own name : String} {E : String} {ce : Cell} {q : Addr} (hown : s.vm.findClass own = some m.cls) (pre : List ExceptionTableEntry) (x : ExceptionTableEntry) (suf : List ExceptionTableEntry) (hsplit : c.exceptionTable.toList = pre ++ x :: suf)
    (hpass : ∀ z ∈ pre, covers z pc = false ∨ (z.catchType ≠ 0 ∧ ∃ nm : String, (Cond.classLink own z.catchType nm).before args s = true ∧ va_Nc E nm s)) (hx : covers x pc = true) (h0 : x.catchType ≠ 0)
    (hlink : (Cond.classLink own x.catchType name).before args s = true) (hcast : (Cond.castable E name).before args s = true) (hcell : H[q]? = some ce) (hv : ce.vm = .none) (hcl : s.vm.findClass E = some ce.cls)
    (kk : W p l e R s m args below meth c H locs cells slots Q (F0 m x.handlerPc ls [.ref q])) : vx_W p l e R s m args below meth c H locs cells slots Q (F0 m pc ls rest) q := by
  intro T hT X
  have hpl : e.platform.magicAccessors = ({} : Platform).magicAccessors := by rw [X.admits.platform]
  obtain ⟨c3, c4, hc3, hc4, hasg⟩ := Cond.castable_spec hcast
  cases Option.some.inj (hc3.symm.trans hcl)
  obtain ⟨c5, hc5, hcl5⟩ := Cond.classLink_spec hown hlink e.platform hpl
  cases Option.some.inj (hc4.symm.trans hc5)
  obtain ⟨vm', X', st⟩ := Stand.thenCaughtThrough X q (g := F0 m pc ls rest) rfl (Steps.refl _) (by rw [hT]; exact hcell) (by rw [hv]; rfl) (by obtain ⟨k9, h9, -⟩ := Vm.findClass_spec hcl; exact ⟨k9, h9⟩) pre x suf hsplit
    (fun z hz => by
      rcases hpass z hz with h | ⟨hz0, nm, hl1, hn1⟩
      · exact Or.inl h
      · obtain ⟨c6, hc6, hcl6⟩ := Cond.classLink_spec hown hl1 e.platform hpl
        obtain ⟨a8, b8, h1, h2, h3⟩ := hn1
        cases Option.some.inj (h1.symm.trans hcl)
        cases Option.some.inj (h2.symm.trans hc6)
        exact Or.inr ⟨hz0, _, hcl6, h3⟩) hx (Or.inr ⟨h0, c4, hcl5, hasg⟩)
  obtain ⟨t, a1, b1⟩ := kk (T.setVm vm') hT X'
  exact ⟨t, st.trans a1, b1⟩
end Rows
section Ends
variable {p : Program} {l : Launch} {e : Env} {R : Room} {s : State} {m : MethodId} {args : Array Value} {below : List Frame} {meth : Method} {c : Code} {H : Heap} {locs : List Loc} {cells slots : Nat} {Q : State → Prop}
variable {mc ms : Nat} {free : Addr → Prop} {A0 A1 : Nat → Prop} {H0 : Heap} {a : Array Value} {ls : Array Slot} {st0 rest : List Value}
variable {Qc : Array Value → State → Outcome → State → Prop} {XC : String → State → State → Prop}
/-- what a body that may throw owes at its end -/
def vx_MQ (below : List Frame) (Qc : Array Value → State → Outcome → State → Prop) (XC : String → State → State → Prop) (a : Array Value) (s : State) (mc ms : Nat) (free : Addr → Prop) : State → Prop := fun t =>
  ∃ o, t.status = .running ∧ Ended t below o ∧ vx_Q Qc XC mc ms free a s o t
theorem vx_ret {g : JFrame} {mc ms : Nat} (k : W p l e R s m args below meth c H locs cells slots (MQ below Qc args s mc ms free) g) : W p l e R s m args below meth c H locs cells slots (vx_MQ below Qc XC args s mc ms free) g := by
  intro T hT X
  obtain ⟨t, a1, o, b1, b2, b3, b4⟩ := k T hT X
  exact ⟨t, a1, o, b1, b2, Or.inl ⟨b3, b4⟩⟩
/-- not caught here: it goes on to the caller -/
theorem vx_widen {g : JFrame} {q : Addr} {k n : Nat} (h1 : cells ≤ k) (h2 : slots ≤ n) (kk : vx_W p l e R s m args below meth c H locs k n Q g q) : vx_W p l e R s m args below meth c H locs cells slots Q g q := fun T hT X => kk T hT (stand_widen X h1 h2)
theorem vx_out {pc : Nat} {E : String} {ce : Cell} {q : Addr} {mc ms : Nat} (hout : ∀ x ∈ c.exceptionTable.toList, covers x pc = false) (hlocks : meth.locks = false) (hcell : H[q]? = some ce) (hv : ce.vm = .none) (hcl : s.vm.findClass E = some ce.cls)
    (hx : ∀ t : State, t.heap = H → s.vm.Alike t.vm → XC E s t) (hf : ∀ z ∈ locs, free z.base) (hc : cells ≤ mc) (hs : slots ≤ ms) :
    vx_W p l e R s m args below meth c H locs cells slots (vx_MQ below Qc XC args s mc ms free) (F0 m pc ls rest) q := by
  intro T hT X
  obtain ⟨st1, hrun, hend, hW, hsm⟩ := X.leaveThrown q (g := F0 m pc ls rest) rfl rfl rfl hout hlocks
  have hcell9 : (T.setFrames (.throwing q :: below)).heap[q]? = some ce := by
    show T.heap[q]? = some ce
    rw [hT]; exact hcell
  exact ⟨_, st1, .threw q, hrun, hend, Or.inr ⟨q, rfl, E, ce, locs, hx _ hT hW.alike, hcell9, hv, hcl, hW, hsm.mono hc hs, hf⟩⟩
theorem vx_frame {U : State} {k n : Nat} (h : s.sameButNew ({ U with vm := s.vm } : State) locs k n) : s.heap.size ≤ U.heap.size ∧ ∀ q : Nat, q < s.heap.size → (∀ z ∈ locs, z.base ≠ q) → U.heap[q]? = s.heap[q]? := by
  obtain ⟨-, h2, -, -, -, h6⟩ := h
  refine ⟨h2, fun q hq hz => ?_⟩
  obtain ⟨c9, e1, e2, e3, e4⟩ := h6 q _ (Array.getElem?_eq_getElem hq)
  have hs : c9.slots = (s.heap[q]).slots := Array.ext_getElem? fun i => e4 i fun hm => hz _ hm rfl
  have h9 : c9 = s.heap[q] := by
    rw [hs] at e2
    exact e2
  have e5 : U.heap[q]? = some c9 := e1
  rw [e5, h9, Array.getElem?_eq_getElem hq]
/-- the words of a throw but the four that speak of the heap -/
def vx_no (w : Cond) : Bool := decide (w ≠ .isRef (.static Bundle.tN "UNASSIGNED_STACK" Bundle.steD)) && decide (w ≠ .isRef (.static Bundle.tN "SUPPRESSED_SENTINEL" Bundle.listD)) && decide (w ≠ .laysStatic Bundle.tN "UNASSIGNED_STACK" Bundle.steD) && decide (w ≠ .laysStatic Bundle.tN "SUPPRESSED_SENTINEL" Bundle.listD)
def vx_at0 (own : String) (ic : Nat) (X : String) (names : List String) : List Cond := (Bundle.ownAtoms0 own ic X names).filter vx_no
def vx_atS (own : String) (ic : Nat) (X : String) (names : List String) : List Cond := (Bundle.ownAtoms own ic X names).filter vx_no
/-- a word that the tables alone decide, or a good one -/
def vx_ot (w : Cond) : Bool := w.onTables || goodWord w
theorem vx_ot_at {args a' : Array Value} {s U : State} {w : Cond} (hW : s.WarmedH U.vm) (hvm : s.vm = U.vm) (hg : vx_ot w = true) (h : w.before args s = true) : w.before a' U = true := by
  simp only [vx_ot, Bool.or_eq_true] at hg
  rcases hg with hg | hg
  · exact va_tabs hg hvm h
  · exact word_at hW (good_of_word hg) h
/-- a list's words: the good ones out of the method's own list, the others by premises of their own -/
theorem vx_hat {args : Array Value} {s : State} {L B : List Cond} (h1 : ∀ w ∈ L.filter goodWord, w.before args s = true) (h2 : ∀ w ∈ L.filter (fun w => !goodWord w), w ∈ B) (h3 : ∀ w ∈ B, w.before args s = true) : ∀ w ∈ L, w.before args s = true := by
  intro w hw
  by_cases g : goodWord w = true
  · exact h1 w (List.mem_filter.mpr ⟨hw, g⟩)
  · refine h3 w (h2 w (List.mem_filter.mpr ⟨hw, ?_⟩))
    show (!goodWord w) = true
    cases hgw : goodWord w
    · rfl
    · exact absurd hgw g
theorem vx_c {args : Array Value} {s : State} {w : Cond} {B : List Cond} (h : w.before args s = true) (t : ∀ w ∈ B, w.before args s = true) : ∀ w' ∈ w :: B, w'.before args s = true := fun w' h' => (List.mem_cons.mp h').elim (fun e => by rw [e]; exact h) (t w')
theorem vx_n {args : Array Value} {s : State} : ∀ w ∈ ([] : List Cond), w.before args s = true := fun _ h => nomatch h
theorem vx_own {args : Array Value} {s : State} {L : List Cond} (h1 : ∀ w ∈ L.filter vx_no, w.before args s = true)
    (hU : (Cond.isRef (.static Bundle.tN "UNASSIGNED_STACK" Bundle.steD)).before args s = true) (hN : (Cond.isRef (.static Bundle.tN "SUPPRESSED_SENTINEL" Bundle.listD)).before args s = true)
    (lU : (Cond.laysStatic Bundle.tN "UNASSIGNED_STACK" Bundle.steD).before args s = true) (lN : (Cond.laysStatic Bundle.tN "SUPPRESSED_SENTINEL" Bundle.listD).before args s = true) : ∀ w ∈ L, w.before args s = true := by
  intro w hw
  by_cases e1 : w = .isRef (.static Bundle.tN "UNASSIGNED_STACK" Bundle.steD)
  · rw [e1]; exact hU
  · by_cases e2 : w = .isRef (.static Bundle.tN "SUPPRESSED_SENTINEL" Bundle.listD)
    · rw [e2]; exact hN
    · by_cases e3 : w = .laysStatic Bundle.tN "UNASSIGNED_STACK" Bundle.steD
      · rw [e3]; exact lU
      · by_cases e4 : w = .laysStatic Bundle.tN "SUPPRESSED_SENTINEL" Bundle.listD
        · rw [e4]; exact lN
        · exact h1 w (List.mem_filter.mpr ⟨hw, by unfold vx_no; rw [decide_eq_true e1, decide_eq_true e2, decide_eq_true e3, decide_eq_true e4]; rfl⟩)
/-- where a static field lies, its class's statics cell in H -/
def vx_L (C n d : String) (A : Nat → Prop) (U : State) (H : Heap) : Prop := ∃ (c : ClassId) (k : Class) (i : Nat) (f : Field) (a : Nat) (cell : Cell), U.vm.findClass C = some c ∧ U.fieldFound? C n d = some (c, k, i, f) ∧ f.isStatic = true ∧ k.statics = some a ∧ H[a]? = some cell ∧ cell.vm.isStatics = true ∧ cell.cls = c ∧ f.slot < cell.slots.size ∧ k.staticTypes[f.slot]? = some f.type ∧ ¬ A a
theorem vx_L.moved {C n d : String} {A : Nat → Prop} {u U : State} {H : Heap} (hvm : u.vm.Alike U.vm) (h : vx_L C n d A u H) : vx_L C n d A U H := by
  obtain ⟨c, k, i, f, a, cell, h1, h2, h3, h4, h5, h6, h7, h8, h9, h10⟩ := h
  obtain ⟨k', hi', he⟩ := State.fieldFound?_setVm hvm h2
  exact ⟨c, k', i, f, a, cell, by rw [hvm.findClass]; exact h1, hi', h3, by rw [he]; exact h4, h5, h6, h7, h8, by rw [he]; exact h9, h10⟩
theorem vx_L.kept {C n d : String} {A : Nat → Prop} {U : State} {H H1 : Heap} (h : vx_L C n d A U H) (hq : ∀ a : Nat, a < H.size → ¬ A a → H1[a]? = H[a]?) : vx_L C n d A U H1 := by
  obtain ⟨c, k, i, f, a, cell, h1, h2, h3, h4, h5, h6, h7, h8, h9, h10⟩ := h
  exact ⟨c, k, i, f, a, cell, h1, h2, h3, h4, by rw [hq a (Array.getElem?_eq_some_iff.mp h5).1 h10]; exact h5, h6, h7, h8, h9, h10⟩
theorem vx_L.narrow {C n d : String} {A B : Nat → Prop} {U : State} {H : Heap} (h : vx_L C n d A U H) (hAB : ∀ q, B q → A q) : vx_L C n d B U H := by
  obtain ⟨c, k, i, f, a, cell, h1, h2, h3, h4, h5, h6, h7, h8, h9, h10⟩ := h
  exact ⟨c, k, i, f, a, cell, h1, h2, h3, h4, h5, h6, h7, h8, h9, fun z => h10 (hAB _ z)⟩
theorem vx_L.word {C n d : String} {A : Nat → Prop} {s : State} {args : Array Value} (h : vx_L C n d A s s.heap) : (Cond.laysStatic C n d).before args s = true := by
  obtain ⟨c, k, i, f, a, cell, h1, h2, h3, h4, h5, h6, h7, h8, h9, -⟩ := h
  show (Cond.laysStatic C n d).holds args s none s [] = true
  exact Cond.laysStatic_of h1 h2 h3 h4 h5 h6 h7 h8 h9
/-- .. and what it holds: null or some reference -/
def vx_Zq (C n d : String) (A : Nat → Prop) (U : State) (H : Heap) : Prop := va_Zq C n d A U H ∧ vx_L C n d A U H
theorem vx_Zq.moved {C n d : String} {A : Nat → Prop} {u U : State} {H : Heap} (hvm : u.vm.Alike U.vm) (h : vx_Zq C n d A u H) : vx_Zq C n d A U H := ⟨va_Zq.moved hvm h.1, vx_L.moved hvm h.2⟩
theorem vx_Zq.kept {C n d : String} {A : Nat → Prop} {U : State} {H H1 : Heap} (h : vx_Zq C n d A U H) (hq : ∀ a : Nat, a < H.size → ¬ A a → H1[a]? = H[a]?) : vx_Zq C n d A U H1 := ⟨va_Zq.kept h.1 hq, vx_L.kept h.2 hq⟩
theorem vx_Zq.narrow {C n d : String} {A B : Nat → Prop} {U : State} {H : Heap} (h : vx_Zq C n d A U H) (hAB : ∀ q, B q → A q) : vx_Zq C n d B U H := ⟨va_Zq.narrow h.1 hAB, vx_L.narrow h.2 hAB⟩
theorem vx_Zqof {args : Array Value} {s : State} {C n d : String} {A : Nat → Prop} (hl : (Cond.laysStatic C n d).before args s = true) (hini : (Cond.initialized C).before args s = true) (h : (Cond.isRef (.static C n d)).before args s = true) (hA : ∀ a : Nat, a < s.heap.size → ¬ A a) : vx_Zq C n d A s s.heap := by
  refine ⟨va_Zqof hl hini h hA, ?_⟩
  obtain ⟨c, k, i, f, a, cell, h1, h2, h3, h4, h5, h6, h7, h8, h9⟩ := Cond.laysStatic_spec hl
  exact ⟨c, k, i, f, a, cell, h1, h2, h3, h4, h5, h6, h7, h8, h9, hA a (Array.getElem?_eq_some_iff.mp h5).1⟩
theorem vx_isRef {C n d : String} {v : Value} {A : Nat → Prop} {s : State} {args : Array Value} (h : va_Z C n d v A s s.heap) (hv : v.isRef = true) : (Cond.isRef (.static C n d)).before args s = true := by
  obtain ⟨cf, kf, fi, f, a, cell, h1, h2, h3, h4, h5, h6, h7, -⟩ := h
  have he : (Term.static C n d).eval args s none [] s = some v := by
    simp [Term.eval, State.fieldNamed?, h1, h2, h4, h5, h6, h7]
  simp only [Cond.before, Cond.holds, Cond.value, he]
  cases v <;> simp_all [Value.isRef]
theorem vx_isRefq {C n d : String} {A : Nat → Prop} {s : State} {args : Array Value} (h : va_Zq C n d A s s.heap) : (Cond.isRef (.static C n d)).before args s = true := by
  rcases h with h | ⟨t, h⟩
  · exact vx_isRef h rfl
  · exact vx_isRef h rfl
/-- the same frame, seen from here: as if the method were called anew in this heap -/
theorem vx_rebase {T : State} (X : Stand p l e R s m args below meth c T locs cells slots) {R' : Room} (hf : R'.frames ≤ R.frames) (hl : R'.locals ≤ R.locals) (hc : cells + R'.cells ≤ R.cells) (hs : slots + R'.slots ≤ R.slots) :
    Stand p l e R' ((T.setVm s.vm).setFrames (.invoking m args :: below)) m args below meth c T [] 0 0 := by
  have htop : (T.setVm s.vm).topJava?.isSome := X.here.top
  have hF : ((T.setVm s.vm).setFrames (.invoking m args :: below)).frames = .invoking m args :: below := State.frames_setFrames _ (State.cur_lt_of_top htop)
  obtain ⟨g₀, hg0⟩ := Option.isSome_iff_exists.mp htop
  obtain ⟨r, hr⟩ := State.topJava?_eq_some.mp hg0
  have hl9 : e.platform.stackLimits (T.setVm s.vm).me = e.platform.stackLimits s.me := X.limits
  have hb9 : (T.setVm s.vm).me.stackBytes = s.me.stackBytes := X.bytes
  refine ⟨X.admits, X.cas, X.clock, hF, ?_, X.hears, X.method, X.code, X.here, X.tail, X.warmed, ?_, ?_, ?_⟩
  · have h := X.room
    have hU : ((T.setVm s.vm).setFrames (.invoking m args :: below)).localsInUse = s.localsInUse := by
      rw [State.localsInUse_invoking hF (meth := meth) (c := c) X.method X.code, State.localsInUse_invoking X.frames X.method X.code]
    simp only [State.hasRoom, Bool.and_eq_true, decide_eq_true_eq] at h ⊢
    obtain ⟨⟨⟨⟨h1, h2, h3, h4, h5, h6⟩, h7⟩, h8⟩, h9⟩ := h
    rw [X.frames, List.length_cons] at h2 h3
    have q1 := X.heapSize
    have q2 := X.used
    simp only [hF, hU, List.length_cons, State.stackLimits_setFrames, State.stackBytes_setFrames, hl9, hb9]
    refine ⟨⟨⟨⟨by omega, by omega, by omega, by omega, by omega, h6⟩, ?_⟩, ?_⟩, X.book⟩
    · show T.heap.size + R'.cells ≤ e.platform.maxCells
      omega
    · show T.slotsUsed + R'.slots ≤ e.platform.maxSlots
      omega
  · rw [State.stackLimits_setFrames]; rfl
  · rw [State.stackBytes_setFrames]; rfl
  · refine ⟨?_, Nat.le_refl _, Nat.le_refl _, ?_, ?_, fun a c9 h9 => ⟨c9, h9, rfl, rfl, fun _ _ => rfl⟩⟩
    · obtain ⟨t, ht, -⟩ := State.frames_cons hr
      show T.setVm s.vm = { ((T.setVm s.vm).setFrames (.invoking m args :: below)).setFrames (T.setVm s.vm).frames with heap := T.heap, slotsUsed := T.slotsUsed }
      rw [State.setFrames_setFrames, State.setFrames_self ht]
      rfl
    · show T.slotsUsed = T.slotsUsed + ((T.heap.toList.drop T.heap.size).map (·.slots.size)).sum
      rw [List.drop_eq_nil_of_le (Nat.le_of_eq Array.length_toList)]
      rfl
    · show ((T.heap.toList.drop T.heap.size).map (·.slots.size)).sum ≤ 0
      rw [List.drop_eq_nil_of_le (Nat.le_of_eq Array.length_toList)]
      exact Nat.le_refl _
/-- 'throw new E()': new; dup; invokespecial; athrow -/
theorem vx_throw0 {cc : ByteArray} {pc : Nat} (hexec : p.tables.exec = Jvm.exec) (hb : c.code = cc) (hl : l.stackTraces = false) {own cls : String} {names : List String} {ik ic mc ms : Nat} {A : Nat → Prop}
    (hown : s.vm.findClass own = some m.cls) (hcls : Bundle.fit cls = true) (hnames : ∀ n ∈ names, Bundle.fit n = true)
    (hk : (Cond.classLink own ik cls).before args s = true) (hini : (Cond.initialized cls).before args s = true) (hat : ∀ w ∈ vx_at0 own ic cls names, w.before args s = true)
    (hgood : ∀ w ∈ Cond.classLink own ik cls :: Cond.initialized cls :: vx_at0 own ic cls names, vx_ot w = true)
    (hU : vx_Zq Bundle.tN "UNASSIGNED_STACK" Bundle.steD A s s.heap) (hN : vx_Zq Bundle.tN "SUPPRESSED_SENTINEL" Bundle.listD A s s.heap) (hS : va_S A s.heap H locs) (hsize : ls.size = c.maxLocals)
    (d0 : decode cc pc = .ok (.new ik, 3)) (d3 : decode cc (pc + 3) = .ok (.dup, 1)) (d4 : decode cc (pc + 4) = .ok (.invokespecial ic, 3)) (d7 : decode cc (pc + 7) = .ok (.athrow, 1))
    (hout : ∀ x ∈ c.exceptionTable.toList, covers x (pc + 7) = false)
    (hRframes : names.length + 3 < R.frames) (hRlocals : (rest.map fun v => v.category).sum + (13 * (names.length + 1) + 42) ≤ R.locals) (hRcells : cells + 1 ≤ R.cells) (hRslots : slots + 6 ≤ R.slots) (hlocks : meth.locks = false)
    (hx : ∀ t : State, s.vm.Alike t.vm → H.size ≤ t.heap.size → (∀ q : Nat, q < H.size → t.heap[q]? = H[q]?) → XC cls s t)
    (hf : ∀ z ∈ locs, free z.base) (hc : cells + 1 ≤ mc) (hs : slots + 6 ≤ ms) :
    W p l e R s m args below meth c H locs cells slots (vx_MQ below Qc XC args s mc ms free) (F0 m pc ls rest) := by
  intro T hT X
  have htr : e.platform.stackTraces = false := (show e.platform.stackTraces = l.stackTraces by rw [X.admits.platform]).trans hl
  have Y := vx_rebase X (R' := { frames := R.frames, locals := R.locals, cells := 1, slots := 6 }) (Nat.le_refl _) (Nat.le_refl _) hRcells hRslots
  obtain ⟨s', hA⟩ : ∃ z, z = (T.setVm s.vm).setFrames (.invoking m args :: below) := ⟨_, rfl⟩
  rw [← hA] at Y
  have hvm : s'.vm = s.vm := by rw [hA]; rfl
  have hhp : s'.heap = H := by rw [hA]; exact hT
  have hW0 : s.WarmedH s'.vm := by rw [hvm]; exact State.WarmedH.refl s
  have hat' : ∀ w ∈ vx_at0 own ic cls names, w.before args s' = true := fun w hw => vx_ot_at hW0 hvm.symm (hgood w (List.mem_cons_of_mem _ (List.mem_cons_of_mem _ hw))) (hat w hw)
  have hk' : (Cond.classLink own ik cls).before args s' = true := vx_ot_at hW0 hvm.symm (hgood _ List.mem_cons_self) hk
  have hini' : (Cond.initialized cls).before args s' = true := vx_ot_at hW0 hvm.symm (hgood _ (List.mem_cons_of_mem _ List.mem_cons_self)) hini
  have hU' : vx_Zq Bundle.tN "UNASSIGNED_STACK" Bundle.steD A s' s'.heap := by rw [hhp]; exact vx_Zq.moved hW0.alike (hU.kept hS.2.1)
  have hN' : vx_Zq Bundle.tN "SUPPRESSED_SENTINEL" Bundle.listD A s' s'.heap := by rw [hhp]; exact vx_Zq.moved hW0.alike (hN.kept hS.2.1)
  have h : ∀ w ∈ Bundle.ownAtoms0 own ic cls names, w.before args s' = true := vx_own hat' (vx_isRefq hU'.1) (vx_isRefq hN'.1) hU'.2.word hN'.2.word
  have hown' : s'.vm.findClass own = some m.cls := by rw [hvm]; exact hown
  have hins : (Cond.instantiable cls 6).before args s' = true := h _ (by simp [Bundle.ownAtoms0])
  obtain ⟨vm₁, cX, kX, hfX, hkX, -, -, X₁, st1⟩ := Y.newCold hexec (own := own) (C := cls) (index := ik) (n := 6) hown' hk' hins hini'
    (g := F0 m pc ls rest) rfl (by rw [hb]; exact d0) (Nat.le_refl _) (Nat.le_refl _)
  generalize hT1 : (T.setVm vm₁).pushCell { cls := cX, slots := kX.instanceTypes.map defaultValue, vm := .none } = T1 at X₁ st1
  have hcat : (Value.ref T.heap.size).category = 1 := rfl
  have hcellA : T1.heap[T.heap.size]? = some (freshCell cX kX) := by rw [← hT1]; exact State.heap_pushCell_size _ _
  have d3' : decode c.code (pc + 3) = .ok (.dup, 1) := by rw [hb]; exact d3
  obtain ⟨U, hsteps, hrun, hend, hW, hsame, ce, hce, hO⟩ := X₁.ctorThrow0 hexec htr (own := own) (cls := cls) (names := names) (ic := ic) hown' hcls hnames h (fun x hx => nomatch hx) hfX hkX hcellA (by rw [hhp, hT]; exact Nat.le_refl _)
    (g := { method := m, pc := pc + 4, locals := ls, stack := .ref T.heap.size :: .ref T.heap.size :: rest, locked := none }) rfl hsize rfl rfl (rest := rest) rfl
    (by rw [hb]; exact d4) (by rw [hb]; exact d7) hout hRframes (by simp only [List.map_cons, List.sum_cons, hcat]; omega) hlocks
  obtain ⟨f1, f2⟩ := vx_frame hsame
  rw [hhp] at f1 f2
  have hWs : s.WarmedH U.vm := State.WarmedH.trans hW0 hW
  have hcl : s.vm.findClass cls = some ce.cls := by
    have h9 := hO.cls
    rw [hvm] at h9
    exact h9
  have hall : s.sameButNew ({ U with vm := s.vm } : State) locs mc ms := by
    subst hA
    obtain ⟨e1, e2⟩ := hsame
    rw [State.setFrames_setFrames] at e1
    have h2 : (T.setVm s.vm).sameButNew ({ U with vm := s.vm } : State) [] (0 + 1) (0 + 6) := ⟨e1, e2⟩
    have h3 := X.same.trans h2
    rw [List.append_nil] at h3
    exact h3.mono hc hs
  refine ⟨U, ?_, .threw T.heap.size, hrun, hend, Or.inr ⟨T.heap.size, rfl, cls, ce, locs, hx U hWs.alike f1 (fun q hq => f2 q hq (fun z hz => nomatch hz)), hce, hO.vm, hcl, hWs, hall, hf⟩⟩
  refine st1 _ ?_
  show Steps p.tables e below (T1.setTop { method := m, pc := pc + 3, locals := ls, stack := .ref T.heap.size :: rest, locked := none }) _
  jvm_step X₁.here [X₁.here.top, hexec, d3', Value.category]
  exact hsteps
/-- 'throw new E("text")': new; dup; ldc; invokespecial; athrow -/
theorem vx_throwS {cc : ByteArray} {pc : Nat} (hexec : p.tables.exec = Jvm.exec) (hb : c.code = cc) (hl : l.stackTraces = false) {own cls text : String} {names : List String} {ik is ic mc ms sa : Nat} {A : Nat → Prop}
    (hown : s.vm.findClass own = some m.cls) (hcls : Bundle.fit cls = true) (hnames : ∀ n ∈ names, Bundle.fit n = true)
    (hk : (Cond.classLink own ik cls).before args s = true) (hini : (Cond.initialized cls).before args s = true) (hstr : vk_R own is text sa s) (hat : ∀ w ∈ vx_atS own ic cls names, w.before args s = true)
    (hgood : ∀ w ∈ Cond.classLink own ik cls :: Cond.initialized cls :: vx_atS own ic cls names, vx_ot w = true)
    (hU : vx_Zq Bundle.tN "UNASSIGNED_STACK" Bundle.steD A s s.heap) (hN : vx_Zq Bundle.tN "SUPPRESSED_SENTINEL" Bundle.listD A s s.heap) (hS : va_S A s.heap H locs) (hsize : ls.size = c.maxLocals)
    (d0 : decode cc pc = .ok (.new ik, 3)) (d3 : decode cc (pc + 3) = .ok (.dup, 1)) (d4 : decode cc (pc + 4) = .ok (.ldc is, 2)) (d6 : decode cc (pc + 6) = .ok (.invokespecial ic, 3)) (d9 : decode cc (pc + 9) = .ok (.athrow, 1))
    (hout : ∀ x ∈ c.exceptionTable.toList, covers x (pc + 9) = false)
    (hRframes : names.length + 3 < R.frames) (hRlocals : (rest.map fun v => v.category).sum + (13 * (names.length + 1) + 43) ≤ R.locals) (hRcells : cells + 1 ≤ R.cells) (hRslots : slots + 6 ≤ R.slots) (hlocks : meth.locks = false)
    (hx : ∀ t : State, s.vm.Alike t.vm → H.size ≤ t.heap.size → (∀ q : Nat, q < H.size → t.heap[q]? = H[q]?) → XC cls s t)
    (hf : ∀ z ∈ locs, free z.base) (hc : cells + 1 ≤ mc) (hs : slots + 6 ≤ ms) :
    W p l e R s m args below meth c H locs cells slots (vx_MQ below Qc XC args s mc ms free) (F0 m pc ls rest) := by
  intro T hT X
  have htr : e.platform.stackTraces = false := (show e.platform.stackTraces = l.stackTraces by rw [X.admits.platform]).trans hl
  have Y := vx_rebase X (R' := { frames := R.frames, locals := R.locals, cells := 1, slots := 6 }) (Nat.le_refl _) (Nat.le_refl _) hRcells hRslots
  obtain ⟨s', hA⟩ : ∃ z, z = (T.setVm s.vm).setFrames (.invoking m args :: below) := ⟨_, rfl⟩
  rw [← hA] at Y
  have hvm : s'.vm = s.vm := by rw [hA]; rfl
  have hhp : s'.heap = H := by rw [hA]; exact hT
  have hW0 : s.WarmedH s'.vm := by rw [hvm]; exact State.WarmedH.refl s
  have hat' : ∀ w ∈ vx_atS own ic cls names, w.before args s' = true := fun w hw => vx_ot_at hW0 hvm.symm (hgood w (List.mem_cons_of_mem _ (List.mem_cons_of_mem _ hw))) (hat w hw)
  have hk' : (Cond.classLink own ik cls).before args s' = true := vx_ot_at hW0 hvm.symm (hgood _ List.mem_cons_self) hk
  have hini' : (Cond.initialized cls).before args s' = true := vx_ot_at hW0 hvm.symm (hgood _ (List.mem_cons_of_mem _ List.mem_cons_self)) hini
  have hU' : vx_Zq Bundle.tN "UNASSIGNED_STACK" Bundle.steD A s' s'.heap := by rw [hhp]; exact vx_Zq.moved hW0.alike (hU.kept hS.2.1)
  have hN' : vx_Zq Bundle.tN "SUPPRESSED_SENTINEL" Bundle.listD A s' s'.heap := by rw [hhp]; exact vx_Zq.moved hW0.alike (hN.kept hS.2.1)
  have h : ∀ w ∈ Bundle.ownAtoms own ic cls names, w.before args s' = true := vx_own hat' (vx_isRefq hU'.1) (vx_isRefq hN'.1) hU'.2.word hN'.2.word
  have hown' : s'.vm.findClass own = some m.cls := by rw [hvm]; exact hown
  have hins : (Cond.instantiable cls 6).before args s' = true := h _ (by simp [Bundle.ownAtoms])
  obtain ⟨vm₁, cX, kX, hfX, hkX, -, -, X₁, st1⟩ := Y.newCold hexec (own := own) (C := cls) (index := ik) (n := 6) hown' hk' hins hini'
    (g := F0 m pc ls rest) rfl (by rw [hb]; exact d0) (Nat.le_refl _) (Nat.le_refl _)
  generalize hT1 : (T.setVm vm₁).pushCell { cls := cX, slots := kX.instanceTypes.map defaultValue, vm := .none } = T1 at X₁ st1
  have hcat : (Value.ref T.heap.size).category = 1 := rfl
  have hcellA : T1.heap[T.heap.size]? = some (freshCell cX kX) := by rw [← hT1]; exact State.heap_pushCell_size _ _
  have d3' : decode c.code (pc + 3) = .ok (.dup, 1) := by rw [hb]; exact d3
  have d4' : decode c.code (pc + 4) = .ok (.ldc is, 2) := by rw [hb]; exact d4
  have hstr' : vk_R own is text sa s' := vk_R.warm hW0 hstr
  obtain ⟨U, hsteps, hrun, hend, hW, hsame, ce, hce, hO⟩ := X₁.ctorThrowS hexec htr (own := own) (cls := cls) (names := names) (ic := ic) hown' hcls hnames h (fun x hx => nomatch hx) hfX hkX hcellA (by rw [hhp, hT]; exact Nat.le_refl _) (msg := .ref sa) rfl
    (g := { method := m, pc := pc + 6, locals := ls, stack := .ref sa :: .ref T.heap.size :: .ref T.heap.size :: rest, locked := none }) rfl hsize rfl rfl (rest := rest) rfl
    (by rw [hb]; exact d6) (by rw [hb]; exact d9) hout hRframes (by simp only [List.map_cons, List.sum_cons, hcat]; omega) hlocks
  obtain ⟨f1, f2⟩ := vx_frame hsame
  rw [hhp] at f1 f2
  have hWs : s.WarmedH U.vm := State.WarmedH.trans hW0 hW
  have hcl : s.vm.findClass cls = some ce.cls := by
    have h9 := hO.cls
    rw [hvm] at h9
    exact h9
  have hall : s.sameButNew ({ U with vm := s.vm } : State) locs mc ms := by
    subst hA
    obtain ⟨e1, e2⟩ := hsame
    rw [State.setFrames_setFrames] at e1
    have h2 : (T.setVm s.vm).sameButNew ({ U with vm := s.vm } : State) [] (0 + 1) (0 + 6) := ⟨e1, e2⟩
    have h3 := X.same.trans h2
    rw [List.append_nil] at h3
    exact h3.mono hc hs
  refine ⟨U, ?_, .threw T.heap.size, hrun, hend, Or.inr ⟨T.heap.size, rfl, cls, ce, locs, hx U hWs.alike f1 (fun q hq => f2 q hq (fun z hz => nomatch hz)), hce, hO.vm, hcl, hWs, hall, hf⟩⟩
  refine st1 _ ?_
  show Steps p.tables e below (T1.setTop { method := m, pc := pc + 3, locals := ls, stack := .ref T.heap.size :: rest, locked := none }) _
  jvm_step X₁.here [X₁.here.top, hexec, d3', Value.category]
  exact X₁.ldcString hexec (own := own) (text := text) (index := is) (a := sa) hown' hstr'.1 hstr'.2
    (g := { method := m, pc := pc + 4, locals := ls, stack := .ref T.heap.size :: .ref T.heap.size :: rest, locked := none }) rfl d4' _ hsteps
/-- 'throw new E("text")', the text by a wide index -/
theorem vx_throwSW {cc : ByteArray} {pc : Nat} (hexec : p.tables.exec = Jvm.exec) (hb : c.code = cc) (hl : l.stackTraces = false) {own cls text : String} {names : List String} {ik is ic mc ms sa : Nat} {A : Nat → Prop}
    (hown : s.vm.findClass own = some m.cls) (hcls : Bundle.fit cls = true) (hnames : ∀ n ∈ names, Bundle.fit n = true)
    (hk : (Cond.classLink own ik cls).before args s = true) (hini : (Cond.initialized cls).before args s = true) (hstr : vk_R own is text sa s) (hat : ∀ w ∈ vx_atS own ic cls names, w.before args s = true)
    (hgood : ∀ w ∈ Cond.classLink own ik cls :: Cond.initialized cls :: vx_atS own ic cls names, vx_ot w = true)
    (hU : vx_Zq Bundle.tN "UNASSIGNED_STACK" Bundle.steD A s s.heap) (hN : vx_Zq Bundle.tN "SUPPRESSED_SENTINEL" Bundle.listD A s s.heap) (hS : va_S A s.heap H locs) (hsize : ls.size = c.maxLocals)
    (d0 : decode cc pc = .ok (.new ik, 3)) (d3 : decode cc (pc + 3) = .ok (.dup, 1)) (d4 : decode cc (pc + 4) = .ok (.ldc_w is, 3)) (d7 : decode cc (pc + 7) = .ok (.invokespecial ic, 3)) (d10 : decode cc (pc + 10) = .ok (.athrow, 1))
    (hout : ∀ x ∈ c.exceptionTable.toList, covers x (pc + 10) = false)
    (hRframes : names.length + 3 < R.frames) (hRlocals : (rest.map fun v => v.category).sum + (13 * (names.length + 1) + 43) ≤ R.locals) (hRcells : cells + 1 ≤ R.cells) (hRslots : slots + 6 ≤ R.slots) (hlocks : meth.locks = false)
    (hx : ∀ t : State, s.vm.Alike t.vm → H.size ≤ t.heap.size → (∀ q : Nat, q < H.size → t.heap[q]? = H[q]?) → XC cls s t)
    (hf : ∀ z ∈ locs, free z.base) (hc : cells + 1 ≤ mc) (hs : slots + 6 ≤ ms) :
    W p l e R s m args below meth c H locs cells slots (vx_MQ below Qc XC args s mc ms free) (F0 m pc ls rest) := by
  intro T hT X
  have htr : e.platform.stackTraces = false := (show e.platform.stackTraces = l.stackTraces by rw [X.admits.platform]).trans hl
  have Y := vx_rebase X (R' := { frames := R.frames, locals := R.locals, cells := 1, slots := 6 }) (Nat.le_refl _) (Nat.le_refl _) hRcells hRslots
  obtain ⟨s', hA⟩ : ∃ z, z = (T.setVm s.vm).setFrames (.invoking m args :: below) := ⟨_, rfl⟩
  rw [← hA] at Y
  have hvm : s'.vm = s.vm := by rw [hA]; rfl
  have hhp : s'.heap = H := by rw [hA]; exact hT
  have hW0 : s.WarmedH s'.vm := by rw [hvm]; exact State.WarmedH.refl s
  have hat' : ∀ w ∈ vx_atS own ic cls names, w.before args s' = true := fun w hw => vx_ot_at hW0 hvm.symm (hgood w (List.mem_cons_of_mem _ (List.mem_cons_of_mem _ hw))) (hat w hw)
  have hk' : (Cond.classLink own ik cls).before args s' = true := vx_ot_at hW0 hvm.symm (hgood _ List.mem_cons_self) hk
  have hini' : (Cond.initialized cls).before args s' = true := vx_ot_at hW0 hvm.symm (hgood _ (List.mem_cons_of_mem _ List.mem_cons_self)) hini
  have hU' : vx_Zq Bundle.tN "UNASSIGNED_STACK" Bundle.steD A s' s'.heap := by rw [hhp]; exact vx_Zq.moved hW0.alike (hU.kept hS.2.1)
  have hN' : vx_Zq Bundle.tN "SUPPRESSED_SENTINEL" Bundle.listD A s' s'.heap := by rw [hhp]; exact vx_Zq.moved hW0.alike (hN.kept hS.2.1)
  have h : ∀ w ∈ Bundle.ownAtoms own ic cls names, w.before args s' = true := vx_own hat' (vx_isRefq hU'.1) (vx_isRefq hN'.1) hU'.2.word hN'.2.word
  have hown' : s'.vm.findClass own = some m.cls := by rw [hvm]; exact hown
  have hins : (Cond.instantiable cls 6).before args s' = true := h _ (by simp [Bundle.ownAtoms])
  obtain ⟨vm₁, cX, kX, hfX, hkX, -, -, X₁, st1⟩ := Y.newCold hexec (own := own) (C := cls) (index := ik) (n := 6) hown' hk' hins hini'
    (g := F0 m pc ls rest) rfl (by rw [hb]; exact d0) (Nat.le_refl _) (Nat.le_refl _)
  generalize hT1 : (T.setVm vm₁).pushCell { cls := cX, slots := kX.instanceTypes.map defaultValue, vm := .none } = T1 at X₁ st1
  have hcat : (Value.ref T.heap.size).category = 1 := rfl
  have hcellA : T1.heap[T.heap.size]? = some (freshCell cX kX) := by rw [← hT1]; exact State.heap_pushCell_size _ _
  have d3' : decode c.code (pc + 3) = .ok (.dup, 1) := by rw [hb]; exact d3
  have d4' : decode c.code (pc + 4) = .ok (.ldc_w is, 3) := by rw [hb]; exact d4
  have hstr' : vk_R own is text sa s' := vk_R.warm hW0 hstr
  obtain ⟨U, hsteps, hrun, hend, hW, hsame, ce, hce, hO⟩ := X₁.ctorThrowS hexec htr (own := own) (cls := cls) (names := names) (ic := ic) hown' hcls hnames h (fun x hx => nomatch hx) hfX hkX hcellA (by rw [hhp, hT]; exact Nat.le_refl _) (msg := .ref sa) rfl
    (g := { method := m, pc := pc + 7, locals := ls, stack := .ref sa :: .ref T.heap.size :: .ref T.heap.size :: rest, locked := none }) rfl hsize rfl rfl (rest := rest) rfl
    (by rw [hb]; exact d7) (by rw [hb]; exact d10) hout hRframes (by simp only [List.map_cons, List.sum_cons, hcat]; omega) hlocks
  obtain ⟨f1, f2⟩ := vx_frame hsame
  rw [hhp] at f1 f2
  have hWs : s.WarmedH U.vm := State.WarmedH.trans hW0 hW
  have hcl : s.vm.findClass cls = some ce.cls := by
    have h9 := hO.cls
    rw [hvm] at h9
    exact h9
  have hall : s.sameButNew ({ U with vm := s.vm } : State) locs mc ms := by
    subst hA
    obtain ⟨e1, e2⟩ := hsame
    rw [State.setFrames_setFrames] at e1
    have h2 : (T.setVm s.vm).sameButNew ({ U with vm := s.vm } : State) [] (0 + 1) (0 + 6) := ⟨e1, e2⟩
    have h3 := X.same.trans h2
    rw [List.append_nil] at h3
    exact h3.mono hc hs
  refine ⟨U, ?_, .threw T.heap.size, hrun, hend, Or.inr ⟨T.heap.size, rfl, cls, ce, locs, hx U hWs.alike f1 (fun q hq => f2 q hq (fun z hz => nomatch hz)), hce, hO.vm, hcl, hWs, hall, hf⟩⟩
  refine st1 _ ?_
  show Steps p.tables e below (T1.setTop { method := m, pc := pc + 3, locals := ls, stack := .ref T.heap.size :: rest, locked := none }) _
  jvm_step X₁.here [X₁.here.top, hexec, d3', Value.category]
  exact X₁.ldcStringW hexec (own := own) (text := text) (index := is) (a := sa) hown' hstr'.1 hstr'.2
    (g := { method := m, pc := pc + 4, locals := ls, stack := .ref T.heap.size :: .ref T.heap.size :: rest, locked := none }) rfl d4' _ hsteps
end Ends
section Bodies
variable {l : Launch}
theorem vx_ofW {y : MethodName} {ws ws' : List Cond} {rm : Room} {Pc : Array Value → State → Prop} {Qc : Array Value → State → Outcome → State → Prop} {XC : String → State → State → Prop} {mc ms : Nat} {free : Addr → Prop} {cc : ByteArray} {maxL : Nat} {ret : Option FieldType}
    (hy : plainName y.cls = true) (hw : ws = Cond.code y cc maxL ret :: ws')
    (body : ∀ p e s m args below meth c s₁, BodyLoose p l y (headSpec ws rm) cc maxL ret e s m args below meth c s₁ → c.maxLocals = maxL → (∀ x ∈ c.exceptionTable.toList, False) → Pc args s →
      W p l e (headSpec ws rm).room s m args below meth c s.heap [] 0 0 (vx_MQ below Qc XC args s mc ms free) (entryFrame m args maxL)) : vx_Met l y ws rm Pc Qc XC mc ms free := by
  refine MetFree.of_bodyS (code := cc) (maxLocals := maxL) (ret := ret) hy ?_ ?_
  · intro args s m h hn
    obtain ⟨meth, c, h1, h2, h3, h4, h5, h6, -, -⟩ := Cond.code_spec hn (atoms_spec (ws := ws) h _ (by rw [hw]; exact List.mem_cons_self))
    exact ⟨meth, c, h1, h2, h3, h4, h5, h6⟩
  · intro p e s m args below meth c s₁ B hml hP _
    have hh0 : s₁.heap = s.heap := by rw [B.state]; rfl
    have ht : ∀ x ∈ c.exceptionTable.toList, False := by
      obtain ⟨meth9, c9, h1, h2, -, -, -, -, h7, -⟩ := Cond.code_spec B.named (atoms_spec (ws := ws) B.pre _ (by rw [hw]; exact List.mem_cons_self))
      cases Option.some.inj (h1.symm.trans B.method)
      cases Option.some.inj (h2.symm.trans (Stand.of_body B).code)
      intro x hx
      rw [Array.isEmpty_iff.mp h7] at hx
      cases hx
    obtain ⟨t, a1, o, b1, b2, b3⟩ := body p e s m args below meth c s₁ B hml ht hP s₁ hh0 (Stand.of_body B)
    exact ⟨t, o, a1, b1, b2, b3⟩
/-- the table of a body with handlers -/
theorem vx_table {p : Program} {x y : MethodName} {S : Spec} {cc bytes : ByteArray} {maxL maxL' : Nat} {ret ret' : Option FieldType} {e : Env} {s s₁ : State} {m : MethodId} {args : Array Value} {below : List Frame} {meth : Method} {c : Code} {hh : List (Nat × Nat × Nat × Nat)}
    (B : BodyLoose p l y S cc maxL ret e s m args below meth c s₁) (h : (Cond.codeWith y bytes maxL' ret' hh).before args s = true) : c.exceptionTable.toList = tableOf hh := by
  obtain ⟨m9, meth9, c9, hn9, h1, h2, -, -, h6, -⟩ := Cond.codeWith_spec h
  cases Option.some.inj (hn9.symm.trans B.named)
  cases Option.some.inj (h1.symm.trans B.method)
  cases Option.some.inj (h2.symm.trans (Stand.of_body B).code)
  rw [← h6, table_eq]
end Bodies
end VXA
/-! ===== END ===== -/
/-! ===== BEGIN a static call of a method with an exception table ===== -/
section VXS
variable {p : Program} {l : Launch} {e : Env} {R : Room} {s : State} {m : MethodId} {args : Array Value} {below : List Frame} {meth : Method} {c : Code} {T : State} {H : Heap} {locs : List Loc} {cells slots : Nat}
abbrev vx_CSW (R : Room) (s : State) (args : Array Value) (own : String) (index : Nat) (y : MethodName) (bytes : ByteArray) (maxL : Nat) (ret : Option FieldType) (hh : List (Nat × Nat × Nat × Nat)) (ws : List Cond) (rm : Room) (mc ms n : Nat) : Prop :=
  (rm.cells = mc ∧ rm.slots = ms ∧ rm.frames + 1 ≤ R.frames ∧ 8 + (maxL + 11) + rm.locals ≤ R.locals ∧ (∀ w ∈ ws, ∀ (a' : Array Value) (U : State), s.WarmedH U.vm → w.before a' U = true) ∧ Cond.codeWith y bytes maxL ret hh ∈ ws) ∧
  (Cond.codeWith y bytes maxL ret hh).before args s = true ∧ (Cond.initialized y.cls).before args s = true ∧ (y.cls ≠ "java/lang/invoke/MethodHandle" ∧ y.cls ≠ "java/lang/invoke/VarHandle") ∧
  (∀ sig, parseMethodDescriptor y.desc = some sig → n = sig.parameters.length) ∧ (Cond.methodLink own index y).before args s = true ∧ (Cond.static y).before args s = true
theorem vx_cwSW {own : String} {index maxL mc ms : Nat} {y : MethodName} {bytes : ByteArray} {ret : Option FieldType} {hh : List (Nat × Nat × Nat × Nat)} {Ts ws ws' : List Cond} {rm : Room} (n : Nat) (ht : ∀ w ∈ Ts, w.before args s = true) (hT : GoodIn Ts (va_wsS own index y ws)) (hw : ws = Cond.codeWith y bytes maxL ret hh :: ws') (hrc : rm.cells = mc) (hrs : rm.slots = ms)
    (hd : y.cls ≠ "java/lang/invoke/MethodHandle" ∧ y.cls ≠ "java/lang/invoke/VarHandle" ∧ (parseMethodDescriptor y.desc).map (fun d => d.parameters.length) = some n) (hR : rm.frames + 1 ≤ R.frames ∧ 8 + (maxL + 11) + rm.locals ≤ R.locals) :
    vx_CSW R s args own index y bytes maxL ret hh ws rm mc ms n := by
  have ok : ∀ w ∈ va_wsS own index y ws, w.before args s = true := fun w h => ht w (hT w h).1
  have hG : GoodIn Ts ws := fun w h => hT w (by unfold va_wsS; exact List.mem_append_right _ h)
  have hc : Cond.codeWith y bytes maxL ret hh ∈ ws := by rw [hw]; exact List.mem_cons_self
  refine ⟨⟨hrc, hrs, hR.1, hR.2, pay_in ht hG, hc⟩, ht _ (hG _ hc).1, ok _ (by simp [va_wsS]), ⟨hd.1, hd.2.1⟩, fun sig h => ?_, ok _ (by simp [va_wsS]), ok _ (by simp [va_wsS])⟩
  have h2 := hd.2.2
  rw [h] at h2
  exact (Option.some.inj h2).symm
theorem vx_callSW (X : Stand p l e R s m args below meth c T locs cells slots) (hexec : p.tables.exec = Jvm.exec) {own : String} {index : Nat} {y : MethodName} {bytes : ByteArray} {maxL : Nat} {ret : Option FieldType} {hh : List (Nat × Nat × Nat × Nat)}
    (hown : s.vm.findClass own = some m.cls) (hlink : (Cond.methodLink own index y).before args s = true) (hstat : (Cond.static y).before args s = true) (hinit : (Cond.initialized y.cls).before args s = true)
    (hcode : (Cond.codeWith y bytes maxL ret hh).before args s = true) (hy : y.cls ≠ "java/lang/invoke/MethodHandle" ∧ y.cls ≠ "java/lang/invoke/VarHandle")
    {W9 : Nat} {Pre : Pt → Array Value → Prop} {Post : Pt → Array Value → Option Value → Pt → Prop} (hK : Back l R p e below s args y 3 W9 Pre Post)
    {g : JFrame} (hg : g.method = m) (hsize : g.locals.size = c.maxLocals) {argsL rest : List Value} (hlen : ∀ sig, parseMethodDescriptor y.desc = some sig → argsL.length = sig.parameters.length)
    (hstack : g.stack = argsL.reverse ++ rest) (hW : 2 * g.monitorRoom + (rest.map fun v => v.category).sum ≤ W9) (hdg : decode c.code g.pc = .ok (.invokestatic index, 3))
    (hpre : ∀ vm₁, s.WarmedH vm₁ → Pre ⟨T.setVm vm₁, locs, cells, slots⟩ argsL.toArray) :
    ∃ (v : Option Value) (vm₁ : Vm) (B : Pt), s.WarmedH vm₁ ∧ Stand p l e R s m args below meth c B.U B.locs B.cells B.slots ∧ Post ⟨T.setVm vm₁, locs, cells, slots⟩ argsL.toArray v B ∧
      ∀ target, Steps p.tables e below (B.U.setTop { g with pc := g.pc + 3, stack := v.toList ++ rest }) target → Steps p.tables e below (T.setTop g) target := by
  obtain ⟨mk, methM, cM, hnamed, hmethM, -, -, -, -, -, -, hsigM⟩ := Cond.codeWith_spec hcode
  have hstatic : methM.isStatic = true := Cond.static_spec hnamed hmethM hstat
  obtain ⟨kP, hkP, -⟩ := className_of_methodNamed hnamed
  have hinitP : kP.init = .initialized := Cond.initialized_spec (findClass_of_methodNamed hnamed) hkP hinit
  obtain ⟨vm₁, X₁, hstep₁⟩ := X.invokestatic hexec hown hlink hnamed hmethM hstatic hkP hinitP hy (g := g) hg (argsL := argsL) (rest := rest) (hlen _ hsigM) hstack hdg
  obtain ⟨v, B, X', hpost, hsteps⟩ := hK m meth c ⟨T.setVm vm₁, locs, cells, slots⟩ { g with stack := rest } (.invokestatic index) mk argsL.toArray X₁ hg hsize hdg hW (X₁.named hnamed) (hpre vm₁ X₁.warmed)
  exact ⟨v, vm₁, B, X₁.warmed, X', hpost, fun target h => hstep₁ _ fun acts => by rw [doInvoke_state]; exact hsteps.trans h⟩
theorem vx_runSW {y : MethodName} {bytes cc : ByteArray} {maxL nL mc ms n index : Nat} {ret : Option FieldType} {hh : List (Nat × Nat × Nat × Nat)} {ws : List Cond} {rm : Room} {Pc : Array Value → State → Prop} {Qc : Array Value → State → Outcome → State → Prop} {free : Addr → Prop} {Ts : List Cond} {own : String} {As rest : List Value} {g : JFrame}
    (S : CallFix p m c cc nL s args Ts own) (hM : Met l y ws rm Pc Qc mc ms free) (cw : vx_CSW R s args own index y bytes maxL ret hh ws rm mc ms n) (hp : PreS s H Pc As)
    (hg : g.method = m) (hn : As.length = n) (hsize : g.locals.size = nL) (hstack : g.stack = As.reverse ++ rest) (hW : 2 * g.monitorRoom + (rest.map fun v => v.category).sum ≤ 8) (hdg : decode cc g.pc = .ok (.invokestatic index, 3)) (hf : cells + mc ≤ R.cells ∧ slots + ms ≤ R.slots) :
    va_Run p l e R s m args below meth c H locs cells slots mc ms g rest (Qc As.toArray) (free) := by
  obtain ⟨⟨hrc, hrs, hfr, hlo, hws, hcw⟩, hcode, hini, hy, hlen, hl, hstt⟩ := cw
  have hK : Back l R p e below s args y 3 8 (PreOf R mc ms Pc) (PostOf Qc mc ms free) := va_backW (hh := hh) (bytes := bytes) (maxL := maxL) (ret := ret) hM hp.1 hrc hrs hfr hlo hws hcw (fun a' U hW => word_at hW (Or.inl (by first | rfl | simp [Cond.onTables, Cond.keeps, Cond.steady])) hini)
  obtain ⟨hx, hb, hml, ho, -⟩ := S
  intro T hT X
  obtain ⟨v, vm₁, ⟨U', l2, c2, s2⟩, hW₁, X', ⟨g', mk, t, L, e1, e2, hq, h1, hL, h2, h3⟩, st⟩ := vx_callSW X hx (hh := hh) (bytes := bytes) (maxL := maxL) (ret := ret) ho hl hstt hini hcode hy hK hg (hsize.trans hml.symm) (argsL := As) (rest := rest) (fun sig h => hn.trans (hlen sig h)) hstack hW (by rw [hb]; exact hdg)
    (fun vm₁ hW₁ => ⟨hf.1, hf.2, hp.2 (T.setVm vm₁) hT hW₁⟩)
  dsimp only [Pt.U, Pt.locs, Pt.cells, Pt.slots] at X' e1 e2 h1 h2 h3 st
  subst h1; subst h2; subst h3
  exact ⟨v, (T.setVm vm₁).calling g' mk As.toArray, t, U', L, hT, X', hL, e1, e2, hq, st⟩
/-- not caught here, past rows that name other classes: it goes on to the caller -/
theorem vx_outP {p : Program} {l : Launch} {e : Env} {R : Room} {s : State} {m : MethodId} {args : Array Value} {below : List Frame} {meth : Method} {c : Code} {H : Heap} {locs : List Loc} {cells slots : Nat} {free : Addr → Prop} {ls : Array Slot} {rest : List Value} {Qc : Array Value → State → Outcome → State → Prop} {XC : String → State → State → Prop}
    {pc : Nat} {own E : String} {ce : Cell} {q : Addr} {mc ms : Nat} (hown : s.vm.findClass own = some m.cls) (hlocks : meth.locks = false)
    (hpass : ∀ z ∈ c.exceptionTable.toList, covers z pc = false ∨ (z.catchType ≠ 0 ∧ ∃ nm : String, (Cond.classLink own z.catchType nm).before args s = true ∧ va_Nc E nm s)) (hcell : H[q]? = some ce) (hv : ce.vm = .none) (hcl : s.vm.findClass E = some ce.cls)
    (hx : ∀ t : State, t.heap = H → s.vm.Alike t.vm → XC E s t) (hf : ∀ z ∈ locs, free z.base) (hc : cells ≤ mc) (hs : slots ≤ ms) :
    vx_W p l e R s m args below meth c H locs cells slots (vx_MQ below Qc XC args s mc ms free) (F0 m pc ls rest) q := by
  intro T hT X
  have hpl : e.platform.magicAccessors = ({} : Platform).magicAccessors := by rw [X.admits.platform]
  obtain ⟨vm', hW', X', st⟩ := Stand.outThrough X hlocks q (g := F0 m pc ls rest) rfl rfl rfl (cell := ce) (by rw [hT]; exact hcell) (by rw [hv]; rfl)
    (by obtain ⟨k9, h9, -⟩ := Vm.findClass_spec hcl; exact ⟨k9, h9⟩) (fun z hz => by
      rcases hpass z hz with h | ⟨hz0, nm, hl1, hn1⟩
      · exact Or.inl h
      · obtain ⟨c6, hc6, hcl6⟩ := Cond.classLink_spec hown hl1 e.platform hpl
        obtain ⟨a8, b8, h1, h2, h3⟩ := hn1
        cases Option.some.inj (h1.symm.trans hcl)
        cases Option.some.inj (h2.symm.trans hc6)
        exact Or.inr ⟨hz0, _, hcl6, h3⟩)
  obtain ⟨g₀, hfr⟩ := X'.frames_eq
  have hcell9 : ((T.setVm vm').setFrames (.throwing q :: below)).heap[q]? = some ce := by
    show T.heap[q]? = some ce
    rw [hT]; exact hcell
  have hend : Ended ((T.setVm vm').setFrames (.throwing q :: below)) below (.threw q) := State.frames_setFrames _ (State.cur_lt_of_frames hfr)
  refine ⟨(T.setVm vm').setFrames (.throwing q :: below), ?_, .threw q, X'.here.running, hend, Or.inr ⟨q, rfl, E, ce, locs, hx _ hT (X'.ends _).1.alike, hcell9, hv, hcl, (X'.ends _).1, (X'.ends _).2.mono hc hs, hf⟩⟩
  rw [X.pushThrowing_eq]
  exact st
/-- a thing of a world lies in the heap -/
theorem vx_lt {D : va_G} {cl : List vw_C} {ws : va_W} {H1 : Heap} (h : va_P D cl ws H1) {k : Nat} {q : Nat × va_E} (hk : ws[k]? = some q) : q.1 < H1.size := (h k q hk).lt
end VXS
/-! ===== END ===== -/
end
section
/-! A run of the pure machine up to a place: what holds there gives what holds here -/
def pp_run (sw : List (Nat × Nat)) (stop : Nat → Bool) : Nat → Nat → Nat → Nat → pm_L → List Value → pm_H → Option (Nat × pm_L × List Value × pm_H)
  | 0, _, _, _, _, _, _ => none
  | n + 1, d, mi, pc, L, S, h => bif stop pc then some (pc, L, S, h) else match pm_step sw mi pc L S h with
    | none => match pm_fd (pm_code mi) pc with
      | none => none
      | some i => match pm_cpy i sw (pm_ow mi) h S with
        | none => none
        | some (h', S') => bif Nat.blt 0 d then pp_run sw stop n d mi (pc + 3) L S' h' else none
    | some (.inl (pc', L', S', h')) => pp_run sw stop n d mi pc' L' S' h'
    | some (.inr (.inl _)) => none
    | some (.inr (.inr (mj, as, S'))) => match d with
      | 0 => none
      | d' + 1 => match pm_prim mj as with
        | some v => bif Nat.ble 4 d' then pp_run sw stop n (d' + 1) mi (pc + 3) L (v :: S') h else none
        | none => match pm_run sw n d' mj 0 (lv_args 0 as) [] h with
          | none => none
          | some (v, h') => pp_run sw stop n (d' + 1) mi (pc + 3) L (v.toList ++ S') h'
section PP1
variable {l : Launch} {rho : Nat → Nat} {D : va_G} {cy : Nat → ClassId} {sw : List (Nat × Nat)}
def pp_Bd (l : Launch) (rho : Nat → Nat) (D : va_G) (cy : Nat → ClassId) (sw : List (Nat × Nat)) (stop : Nat → Bool) (n : Nat) : Prop :=
  ∀ (d mi pc : Nat) (L : pm_L) (S : List Value) (h : pm_H) (pc9 : Nat) (L9 : pm_L) (S9 : List Value) (h' : pm_H), pp_run sw stop n d mi pc L S h = some (pc9, L9, S9, h') →
  ∀ (p : Program) (e : Env) (R : Room) (s : State) (m : MethodId) (args : Array Value) (below : List Frame) (meth : Method) (c : Code) (H : Heap) (locs : List Loc) (ls : Array Slot) (A : Nat → Prop) (Q : State → Prop) (cells slots : Nat) (Ts : List Cond),
  p.tables.exec = Jvm.exec → c.code = pm_by mi → c.maxLocals = pm_mx mi → s.vm.findClass (pm_on (pm_ow mi)) = some m.cls → (∀ w ∈ Ts, w.before args s = true) → (∀ w ∈ pm_G, w ∈ Ts) → (d ≤ R.frames ∧ d * 40 ≤ R.locals ∧ cells ≤ R.cells ∧ slots ≤ R.slots) →
  va_K D pm_cl (pm_tys cy) s → va_P D pm_cl (pm_W cy rho sw h) H → va_D A (pm_W cy rho sw h) → va_S A s.heap H locs → (∀ q, s.heap.size ≤ q → A q) → pm_KS rho A s s.heap → lv_has ls (pm_mx mi) (pm_cL rho L) →
  (∀ (H1 : Heap) (locs1 : List Loc) (ls1 : Array Slot), va_P D pm_cl (pm_W cy rho sw h') H1 → va_D A (pm_W cy rho sw h') → va_S A s.heap H1 locs1 → lv_has ls1 (pm_mx mi) (pm_cL rho L9) → W p l e R s m args below meth c H1 locs1 cells slots Q (F0 m pc9 ls1 (pm_cS rho S9))) →
  W p l e R s m args below meth c H locs cells slots Q (F0 m pc ls (pm_cS rho S))
theorem pp_goodIn {Ts : List Cond} {mj : Nat} (hG : ∀ w ∈ pm_G, w ∈ Ts) (hj : mj < 174) : GoodIn Ts (pm_ws mj) := by
  intro w hw
  have hw2 : w ∈ pm_G := by
    rcases List.mem_cons.mp hw with rfl | h1
    · exact pm_G_all hj
    · exact h1
  exact ⟨hG w hw2, pm_good_G w hw2⟩
set_option maxHeartbeats 4000000 in
theorem pp_body (hinj : ∀ a b, pm_kc a = true → pm_kc b = true → rho a = rho b → a = b) (hprim : ∀ (mj : Nat) (as : List Value) (v : Value), pm_prim mj as = some v → ∀ (h : pm_H) (sz : Nat), Met l (pm_nm mj) (pm_ws mj) (pm_rm 4) (va_Pc (pm_cS rho as) (pm_B rho D cy sw h sz)) (pm_Q rho D cy sw h sz (some v) h) 0 0 (va_A (pm_W cy rho sw h) sz)) (stop : Nat → Bool) : ∀ n, pp_Bd l rho D cy sw stop n := by
  intro n
  induction n with
  | zero => intro d mi pc L S h pc9 L9 S9 h' hrun; cases hrun
  | succ n ih =>
    intro d mi pc L S h pc9 L9 S9 h' hrun p e R s m args below meth c H locs ls A Q cells slots Ts hx hb hml hown hts hG hR hK hP hD hS hA hKS hl hQ
    unfold pp_run at hrun
    cases hstp : stop pc with
    | true =>
      rw [hstp] at hrun
      cases hrun
      exact hQ H locs ls hP hD hS hl
    | false =>
    rw [hstp] at hrun
    dsimp only [cond] at hrun
    cases hst : pm_step sw mi pc L S h with
    | none =>
      rw [hst] at hrun
      dsimp only at hrun
      cases hfd : pm_fd (pm_code mi) pc with
      | none => rw [hfd] at hrun; cases hrun
      | some i =>
        rw [hfd] at hrun
        dsimp only at hrun
        obtain ⟨len, hdec, hlen⟩ := pm_decode hfd
        cases h9 : pm_cpy i sw (pm_ow mi) h S with
        | none => rw [h9] at hrun; cases hrun
        | some q =>
          obtain ⟨h9', S1⟩ := q
          rw [h9] at hrun
          dsimp only at hrun
          cases hd : Nat.blt 0 d with
          | false => rw [hd] at hrun; cases hrun
          | true =>
            rw [hd] at hrun
            have hd := pm_blt hd
            have hdg : decode (pm_by mi) pc = .ok (i, pm_ln i) := by
              rcases hlen with h1 | h1
              · unfold pm_cpy at h9; split at h9 <;> first | cases h1 | cases h9
              · rw [hdec, h1]
            exact pm_cpy_snd hx hb (hml.trans hl.1.symm) hts hG hown hK hP hD hS ⟨by omega, by omega⟩ hdg h9 (fun H1 locs1 hP1 hD1 hS1 => ih _ _ _ _ _ _ _ _ _ _ hrun p e R s m args below meth c H1 locs1 ls A Q cells slots Ts hx hb hml hown hts hG hR hK hP1 hD1 hS1 hA hKS hl hQ)
    | some r =>
      rw [hst] at hrun
      unfold pm_step at hst
      cases hfd : pm_fd (pm_code mi) pc with
      | none => rw [hfd] at hst; cases hst
      | some i =>
        rw [hfd] at hst
        dsimp only at hst
        obtain ⟨len, hdec, hlen⟩ := pm_decode hfd
        have hd1 : pm_ln i ≠ 0 → decode (pm_by mi) pc = .ok (i, pm_ln i) := fun z => by
          rcases hlen with h1 | h1
          · exact absurd h1 z
          · rw [hdec, h1]
        cases h1 : pm_push i L with
        | some v1 =>
          rw [h1] at hst
          cases hst
          exact pm_push_snd hx hb (hd1 (fun z => by unfold pm_push at h1; split at h1 <;> first | cases z | cases h1)) hl h1 (ih _ _ _ _ _ _ _ _ _ _ hrun p e R s m args below meth c H locs ls A Q cells slots Ts hx hb hml hown hts hG hR hK hP hD hS hA hKS hl hQ)
        | none =>
          rw [h1] at hst
          dsimp only at hst
          cases h2 : pm_ari i S with
          | some S1 =>
            rw [h2] at hst
            cases hst
            exact pm_ari_snd hx hb (hd1 (fun z => by unfold pm_ari at h2; split at h2 <;> first | cases z | cases h2)) h2 (ih _ _ _ _ _ _ _ _ _ _ hrun p e R s m args below meth c H locs ls A Q cells slots Ts hx hb hml hown hts hG hR hK hP hD hS hA hKS hl hQ)
          | none =>
            rw [h2] at hst
            dsimp only at hst
            cases h3 : pm_br i pc S with
            | some q =>
              obtain ⟨pc1, S1⟩ := q
              rw [h3] at hst
              cases hst
              exact pm_br_snd hx hb hdec hlen hinj h3 (ih _ _ _ _ _ _ _ _ _ _ hrun p e R s m args below meth c H locs ls A Q cells slots Ts hx hb hml hown hts hG hR hK hP hD hS hA hKS hl hQ)
            | none =>
              rw [h3] at hst
              dsimp only at hst
              cases h4 : pm_sto i (pm_mx mi) L S with
              | some q =>
                obtain ⟨L1, S1⟩ := q
                rw [h4] at hst
                cases hst
                exact pm_sto_snd hx hb (hd1 (fun z => by unfold pm_sto at h4; split at h4 <;> first | cases z | cases h4)) hl h4 (fun ls' hl' => ih _ _ _ _ _ _ _ _ _ _ hrun p e R s m args below meth c H locs ls' A Q cells slots Ts hx hb hml hown hts hG hR hK hP hD hS hA hKS hl' hQ)
              | none =>
                rw [h4] at hst
                dsimp only at hst
                cases h5 : pm_read i sw (pm_ow mi) h S with
                | some S1 =>
                  rw [h5] at hst
                  cases hst
                  exact pm_read_snd hx hb hts hG hown hK hP hS hKS (hd1 (fun z => by unfold pm_read at h5; split at h5 <;> first | cases z | cases h5)) h5 (ih _ _ _ _ _ _ _ _ _ _ hrun p e R s m args below meth c H locs ls A Q cells slots Ts hx hb hml hown hts hG hR hK hP hD hS hA hKS hl hQ)
                | none =>
                  rw [h5] at hst
                  dsimp only at hst
                  cases h6 : pm_write i sw (pm_ow mi) h S with
                  | some q =>
                    obtain ⟨h1', S1⟩ := q
                    rw [h6] at hst
                    cases hst
                    exact pm_write_snd hx hb hts hG hown hK hP hD hS hKS (hd1 (fun z => by unfold pm_write at h6; split at h6 <;> first | cases z | cases h6)) h6 (fun H1 locs1 hP1 hD1 hS1 => ih _ _ _ _ _ _ _ _ _ _ hrun p e R s m args below meth c H1 locs1 ls A Q cells slots Ts hx hb hml hown hts hG hR hK hP1 hD1 hS1 hA hKS hl hQ)
                  | none =>
                    rw [h6] at hst
                    dsimp only at hst
                    cases h7 : pm_ret i (pm_rt mi) S with
                    | some w =>
                      rw [h7] at hst
                      cases hst
                      cases hrun
                    | none =>
                      rw [h7] at hst
                      dsimp only at hst
                      cases h8 : pm_call i sw (pm_ow mi) S with
                      | none => rw [h8] at hst; cases hst
                      | some q =>
                        obtain ⟨mj, as, S1⟩ := q
                        rw [h8] at hst
                        cases hst
                        dsimp only at hrun
                        cases d with
                        | zero => cases hrun
                        | succ d =>
                          dsimp only at hrun
                          have hcal : ∃ (d2 : Nat) (v2 : Option Value) (h2' : pm_H), d2 ≤ d ∧ ((lg_sl as).length ≤ pm_mx mj → mj < 174 → ∀ sz, Met l (pm_nm mj) (pm_ws mj) (pm_rm d2) (va_Pc (pm_cS rho as) (pm_B rho D cy sw h sz)) (pm_Q rho D cy sw h sz v2 h2') 0 0 (va_A (pm_W cy rho sw h) sz)) ∧ pp_run sw stop n (d + 1) mi (pc + 3) L (v2.toList ++ S1) h2' = some (pc9, L9, S9, h') := by
                            cases hpr : pm_prim mj as with
                            | some v2 =>
                              rw [hpr] at hrun
                              dsimp only at hrun
                              cases hd4 : Nat.ble 4 d with
                              | false => rw [hd4] at hrun; cases hrun
                              | true =>
                                rw [hd4] at hrun
                                exact ⟨4, some v2, h, Nat.le_of_ble_eq_true hd4, fun _ _ sz => hprim mj as v2 hpr h sz, hrun⟩
                            | none =>
                              rw [hpr] at hrun
                              dsimp only at hrun
                              cases hcal : pm_run sw n d mj 0 (lv_args 0 as) [] h with
                              | none => rw [hcal] at hrun; cases hrun
                              | some r2 =>
                                obtain ⟨v2, h2'⟩ := r2
                                rw [hcal] at hrun
                                exact ⟨d, v2, h2', Nat.le_refl _, fun hfit hj sz => pm_met_of (pm_body hinj hprim n) hcal hj hfit sz, hrun⟩
                          clear hrun
                          obtain ⟨d2, v2, h2', hd2, hMet, hrun⟩ := hcal
                          have hFc : ∀ q, va_A (pm_W cy rho sw h) H.size q → A q := by
                            intro q hq
                            rcases hq with ⟨k, en, hk⟩ | hq
                            · exact hD.2 k _ hk
                            · exact hA q (Nat.le_trans hS.1 hq)
                          have hKS1 : pm_KS rho (va_A (pm_W cy rho sw h) H.size) s H := (hKS.kept hS.2.1).narrow hFc
                          have hpre : ∀ U : State, U.heap = H → s.WarmedH U.vm → pm_B rho D cy sw h H.size U := by
                            intro U hU hW
                            refine ⟨by rw [hU], by rw [hU]; exact hP, va_K.moved hW.alike hK, hD.weaken (fun _ _ _ _ => trivial), ?_⟩
                            rw [hU]
                            exact pm_KS.moved hW.alike hKS1
                          have hdg := hd1 (fun z => by unfold pm_call at h8; split at h8 <;> first | cases z | cases h8)
                          have hfin : ∀ (mj : Nat) (as S1 : List Value) (st0 : List Value) (a0 : Array Value), mj < 174 → va_Run p l e R s m args below meth c H locs cells slots 0 0 (F0 m pc ls st0) (pm_cS rho S1) (pm_Q rho D cy sw h H.size v2 h2' a0) (va_A (pm_W cy rho sw h) H.size) → pp_run sw stop n (d + 1) mi (pc + 3) L (v2.toList ++ S1) h2' = some (pc9, L9, S9, h') → W p l e R s m args below meth c H locs cells slots Q (F0 m pc ls st0) := by
                            intro mj as S1 st0 a0 hj hr hrun
                            refine pm_callk (B := fun t => va_P D pm_cl (pm_W cy rho sw h2') t.heap ∧ va_D (va_A (pm_W cy rho sw h) H.size) (pm_W cy rho sw h2')) (A1 := va_A (pm_W cy rho sw h) H.size) (v0 := v2.map (pm_cv rho)) hr ?_ hS (fun q _ z => hFc q z) hFc ?_
                            · intro st w t hq
                              obtain ⟨q1, q2, q3⟩ := hq
                              exact ⟨Outcome.returned.inj q1, q2, q3⟩
                            · intro t locs1 hBt hS1
                              rw [pm_toList_c, ← pm_cS_app]
                              exact ih _ _ _ _ _ _ _ _ _ _ hrun p e R s m args below meth c t.heap locs1 ls A Q cells slots Ts hx hb hml hown hts hG hR hK hBt.1 (hBt.2.weaken (fun _ q _ z => hFc q.1 z)) hS1 hA hKS hl hQ
                          have hcb : ∀ (idx mj : Nat), pm_iv (pm_ow mi) idx = some mj → mj < 174 ∧ CallB R s args (pm_on (pm_ow mi)) idx (pm_nm mj) (pm_by mj) (pm_mx mj) (pm_rt mj) (pm_ws mj) (pm_rm d2) 0 0 (pm_np mj) := by
                            intro idx mj hiv
                            obtain ⟨hj, hlink⟩ := pm_iv_ok hiv
                            have hcls : (pm_nm mj).cls = pm_on (pm_ow mj) := of_decide_eq_true (List.all_eq_true.mp pm_mC mj (List.mem_range.mpr hj))
                            obtain ⟨n1, n2⟩ := Bool.and_eq_true_iff.mp (List.all_eq_true.mp pm_mG mj (List.mem_range.mpr hj))
                            have hini : Cond.initialized (pm_on (pm_ow mj)) ∈ pm_G := pm_mem (List.all_eq_true.mp pm_mB mj (List.mem_range.mpr hj))
                            have hmx : pm_mx mj ≤ 20 := Nat.le_of_ble_eq_true (List.all_eq_true.mp pm_mF mj (List.mem_range.mpr hj))
                            exact ⟨hj, callB_of (pm_np mj) hts (pp_goodIn hG hj) rfl rfl rfl (by rw [hcls]; exact hts _ (hG _ hini)) (hts _ (hG _ hlink)) ⟨of_decide_eq_true n1, of_decide_eq_true n2, of_decide_eq_true (List.all_eq_true.mp pm_mD mj (List.mem_range.mpr hj))⟩ ⟨by show d2 + 1 ≤ R.frames; omega, by show 8 + (pm_mx mj + 11) + d2 * 40 ≤ R.locals; omega⟩⟩
                          unfold pm_call at h8
                          split at h8
                          · split at h8
                            · rename_i idx _ mj0 hiv
                              split at h8
                              · rename_i _ a S2 hdr
                                obtain ⟨hg, he⟩ := pm_bif h8
                                cases he
                                obtain ⟨g1, g2⟩ := Bool.and_eq_true_iff.mp hg
                                obtain ⟨g3, g4⟩ := Bool.and_eq_true_iff.mp g2
                                obtain ⟨g5, g6⟩ := Bool.and_eq_true_iff.mp g4
                                obtain ⟨g7, g8⟩ := Bool.and_eq_true_iff.mp g6
                                obtain ⟨hj, cb⟩ := hcb idx mj hiv
                                have hM := hMet (Nat.le_of_ble_eq_true g8) hj H.size
                                have hA1 := pm_mA_at hj
                                unfold pm_mA at hA1
                                have hsc : pm_sc mj = false := by
                                  cases hz : pm_sc mj with
                                  | false => rfl
                                  | true => rw [hz] at g1; cases g1
                                rw [hsc] at hA1
                                obtain ⟨w1, w2⟩ := Bool.and_eq_true_iff.mp hA1
                                have hcls : (pm_nm mj).cls = pm_on (pm_ow mj) := of_decide_eq_true (List.all_eq_true.mp pm_mC mj (List.mem_range.mpr hj))
                                have hS0 : S = S.take (pm_np mj) ++ .ref a :: S1 := by
                                  have := (List.take_append_drop (pm_np mj) S).symm
                                  rw [hdr] at this
                                  exact this
                                refine hfin mj [] S1 _ _ hj (va_runV (C := pm_on (pm_ow mj)) (b := rho a) (As := pm_cS rho (S.take (pm_np mj)).reverse) (rest := pm_cS rho S1) ⟨hx, hb, hml, hown, hts⟩ hM ⟨cb, hts _ (hG _ (pm_mem w1)), hts _ (hG _ (pm_mem w2))⟩ ⟨pm_blind, pm_rcv_t g5 hK hP hS hKS, fun U hU hW => ⟨rfl, hpre U hU hW⟩⟩ rfl ?_ hl.1 ?_ (lv_room ?_) hdg ⟨hR.2.2.1, hR.2.2.2⟩) hrun
                                · show (pm_cS rho (S.take (pm_np mj)).reverse).length = _
                                  unfold pm_cS
                                  rw [List.length_map, List.length_reverse]
                                  exact Nat.eq_of_beq_eq_true g3
                                · show pm_cS rho S = (pm_cS rho (S.take (pm_np mj)).reverse).reverse ++ .ref (rho a) :: pm_cS rho S1
                                  rw [pm_cS_rev, List.reverse_reverse]
                                  calc pm_cS rho S = pm_cS rho (S.take (pm_np mj) ++ .ref a :: S1) := by rw [← hS0]
                                    _ = _ := pm_cS_app rho _ _
                                · rw [pm_cats_c]
                                  exact Nat.le_of_ble_eq_true g7
                              · cases h8
                            · cases h8
                          · split at h8
                            · rename_i idx _ mj0 hiv
                              obtain ⟨hg, he⟩ := pm_bif h8
                              cases he
                              obtain ⟨g1, g2⟩ := Bool.and_eq_true_iff.mp hg
                              obtain ⟨g3, g4⟩ := Bool.and_eq_true_iff.mp g2
                              obtain ⟨g7, g8⟩ := Bool.and_eq_true_iff.mp g4
                              obtain ⟨hj, cb⟩ := hcb idx mj hiv
                              have hM := hMet (Nat.le_of_ble_eq_true g8) hj H.size
                              have hA1 := pm_mA_at hj
                              unfold pm_mA at hA1
                              rw [g1] at hA1
                              have hS0 : S = S.take (pm_np mj) ++ S.drop (pm_np mj) := (List.take_append_drop (pm_np mj) S).symm
                              refine hfin mj [] (S.drop (pm_np mj)) _ _ hj (va_runS (As := pm_cS rho (S.take (pm_np mj)).reverse) (rest := pm_cS rho (S.drop (pm_np mj))) ⟨hx, hb, hml, hown, hts⟩ hM ⟨cb, hts _ (hG _ (pm_mem hA1))⟩ ⟨pm_blind, fun U hU hW => ⟨rfl, hpre U hU hW⟩⟩ rfl ?_ hl.1 ?_ (lv_room ?_) hdg ⟨hR.2.2.1, hR.2.2.2⟩) hrun
                              · show (pm_cS rho (S.take (pm_np mj)).reverse).length = _
                                unfold pm_cS
                                rw [List.length_map, List.length_reverse]
                                exact Nat.eq_of_beq_eq_true g3
                              · show pm_cS rho S = (pm_cS rho (S.take (pm_np mj)).reverse).reverse ++ pm_cS rho (S.drop (pm_np mj))
                                rw [pm_cS_rev, List.reverse_reverse]
                                calc pm_cS rho S = pm_cS rho (S.take (pm_np mj) ++ S.drop (pm_np mj)) := by rw [← hS0]
                                  _ = _ := pm_cS_app rho _ _
                              · rw [pm_cats_c]
                                exact Nat.le_of_ble_eq_true g7
                            · cases h8
                          · cases h8
end PP1
end
section
/-! Methods of the class that throw: run up to the throw or the return -/
def pt_stop (mi pc : Nat) : Bool := match pm_fd (pm_code mi) pc with
  | some (.new _) => true
  | some .ireturn => true
  | some .return_ => true
  | _ => false
/-- the exceptions that the class throws: place of the class link, number, place of the constructor's link -/
def pt_xl : List (Nat × Nat × Nat) := [(82, 0, 84), (89, 1, 91), (96, 2, 98)]
def pt_xn (k : Nat) : String := match k with
  | 0 => "java/lang/IllegalStateException"
  | 1 => "java/lang/IndexOutOfBoundsException"
  | _ => "java/lang/IllegalArgumentException"
def pt_xf : List (Nat × Nat × Nat) → Nat → Option (Nat × Nat)
  | [], _ => none
  | q :: l, k => bif Nat.beq q.1 k then some q.2 else pt_xf l k
/-- the answer: returned with v, or thrown -/
def pt_end (mi pc : Nat) (S : List Value) (h : pm_H) : Option ((Option Value × pm_H) ⊕ (Nat × pm_H)) := match pm_fd (pm_code mi) pc with
  | some (.new ik) => match pt_xf pt_xl ik with
    | some (x, ic) => bif (decide (pm_fd (pm_code mi) (pc + 3) = some .dup) && (decide (pm_fd (pm_code mi) (pc + 4) = some (.invokespecial ic)) && decide (pm_fd (pm_code mi) (pc + 7) = some .athrow))) && Nat.ble (pm_cats S) 8 then some (.inr (x, h)) else none
    | none => none
  | some i => match pm_ret i (pm_rt mi) S with
    | some v => some (.inl (v, h))
    | none => none
  | none => none
def pt_run (sw : List (Nat × Nat)) (n d mi : Nat) (as : List Value) (h : pm_H) : Option ((Option Value × pm_H) ⊕ (Nat × pm_H)) := match pp_run sw (pt_stop mi) n d mi 0 (lv_args 0 as) [] h with
  | some (pc, _, S, h') => pt_end mi pc S h'
  | none => none
def pt_Q (rho : Nat → Nat) (D : va_G) (cy : Nat → ClassId) (sw : List (Nat × Nat)) (h : pm_H) (sz : Nat) (r : (Option Value × pm_H) ⊕ (Nat × pm_H)) : Array Value → State → Outcome → State → Prop := match r with
  | .inl q => pm_Q rho D cy sw h sz q.1 q.2
  | .inr _ => fun _ _ _ _ => False
def pt_X (rho : Nat → Nat) (D : va_G) (cy : Nat → ClassId) (sw : List (Nat × Nat)) (h : pm_H) (sz : Nat) (r : (Option Value × pm_H) ⊕ (Nat × pm_H)) : String → State → State → Prop := match r with
  | .inl _ => fun _ _ _ => False
  | .inr q => fun E st t => E = pt_xn q.1 ∧ (va_P D pm_cl (pm_W cy rho sw q.2) t.heap ∧ va_D (va_A (pm_W cy rho sw h) sz) (pm_W cy rho sw q.2)) ∧ va_F (va_A (pm_W cy rho sw h) sz) st t
/-- words of a throw that the tables decide but no method's list carries -/
def pt_ex : List Cond := [.castable (pt_xn 0) (pt_xn 0), .castable (pt_xn 1) (pt_xn 1), .castable (pt_xn 2) (pt_xn 2), .declares ⟨"java/lang/RuntimeException", "<init>", "()V"⟩, .declares ⟨"java/lang/Exception", "<init>", "()V"⟩, .declares ⟨"java/lang/Throwable", "<init>", "()V"⟩]
theorem pt_ex_moved {u U : State} (hvm : u.vm.Alike U.vm) : ∀ w ∈ pt_ex, w.before #[] u = true → w.before #[] U = true := by
  intro w hw h
  unfold pt_ex at hw
  simp only [List.mem_cons, List.not_mem_nil, or_false] at hw
  rcases hw with rfl | rfl | rfl | rfl | rfl | rfl
  · rw [← Cond.castable_setVm hvm] at h; exact va_tabs rfl (rfl : (u.setVm U.vm).vm = U.vm) h
  · rw [← Cond.castable_setVm hvm] at h; exact va_tabs rfl (rfl : (u.setVm U.vm).vm = U.vm) h
  · rw [← Cond.castable_setVm hvm] at h; exact va_tabs rfl (rfl : (u.setVm U.vm).vm = U.vm) h
  · rw [← Cond.declares_setVm hvm] at h; exact va_tabs rfl (rfl : (u.setVm U.vm).vm = U.vm) h
  · rw [← Cond.declares_setVm hvm] at h; exact va_tabs rfl (rfl : (u.setVm U.vm).vm = U.vm) h
  · rw [← Cond.declares_setVm hvm] at h; exact va_tabs rfl (rfl : (u.setVm U.vm).vm = U.vm) h
theorem pt_ex_cast {x : Nat} (hx : x < 3) : Cond.castable (pt_xn x) (pt_xn x) ∈ pt_ex := by
  match x, hx with
  | 0, _ => exact List.mem_of_getElem? (i := 0) rfl
  | 1, _ => exact List.mem_of_getElem? (i := 1) rfl
  | 2, _ => exact List.mem_of_getElem? (i := 2) rfl
/-- what a throw needs of the tables and statics -/
def pt_K (A : Nat → Prop) (U : State) (H : Heap) : Prop := vx_Zq Bundle.tN "UNASSIGNED_STACK" Bundle.steD A U H ∧ vx_Zq Bundle.tN "SUPPRESSED_SENTINEL" Bundle.listD A U H ∧ (∀ w ∈ pt_ex, w.before #[] U = true) ∧ va_Nc (pt_xn 1) (pt_xn 0) U ∧ va_Nc (pt_xn 2) (pt_xn 0) U
theorem pt_K.moved {A : Nat → Prop} {u U : State} {H : Heap} (hvm : u.vm.Alike U.vm) (h : pt_K A u H) : pt_K A U H := ⟨vx_Zq.moved hvm h.1, vx_Zq.moved hvm h.2.1, fun w hw => pt_ex_moved hvm w hw (h.2.2.1 w hw), va_Nc.moved hvm h.2.2.2.1, va_Nc.moved hvm h.2.2.2.2⟩
theorem pt_K.kept {A : Nat → Prop} {U : State} {H H1 : Heap} (h : pt_K A U H) (hq : ∀ a : Nat, a < H.size → ¬ A a → H1[a]? = H[a]?) : pt_K A U H1 := ⟨h.1.kept hq, h.2.1.kept hq, h.2.2⟩
theorem pt_K.narrow {A B : Nat → Prop} {U : State} {H : Heap} (h : pt_K A U H) (hAB : ∀ q, B q → A q) : pt_K B U H := ⟨h.1.narrow hAB, h.2.1.narrow hAB, h.2.2⟩
def pt_nms : List String := ["java/lang/RuntimeException", "java/lang/Exception"]
set_option maxRecDepth 100000 in
theorem pt_w0 : pt_xl.all (fun q => (vx_at0 "QuietChecker" q.2.2 (pt_xn q.2.1) pt_nms).all (fun w => (decide (w ∈ pt_ex) && w.onTables) || (goodWord w && decide (w ∈ lw_tbl)))) = true := by decide +kernel
set_option maxRecDepth 100000 in
theorem pt_w1 : pt_xl.all (fun q => (decide (Cond.classLink "QuietChecker" q.1 (pt_xn q.2.1) ∈ lw_tbl) && decide (Cond.initialized (pt_xn q.2.1) ∈ lw_tbl)) && (Nat.blt q.2.1 3 && (Bundle.fit (pt_xn q.2.1) && pt_nms.all Bundle.fit))) = true := by decide +kernel
section PT1
variable {l : Launch} {rho : Nat → Nat} {D : va_G} {cy : Nat → ClassId} {sw : List (Nat × Nat)}
theorem pm_ret_snd {p : Program} {e : Env} {R : Room} {s : State} {m : MethodId} {args : Array Value} {below : List Frame} {meth : Method} {c : Code} {H : Heap} {locs : List Loc} {cells slots : Nat} {cc : ByteArray} {pc : Nat} {ls : Array Slot} {S : List Value} {A : Nat → Prop} {Qc : Array Value → State → Outcome → State → Prop} {rt : Option FieldType} (hx : p.tables.exec = Jvm.exec) (hb : c.code = cc) (hrt : meth.sig.returnType = rt) (hlk : meth.locks = false) {i : Instr} {w : Option Value} (hdg : decode cc pc = .ok (i, pm_ln i)) (h7 : pm_ret i rt S = some w) (hf : ∀ q ∈ locs, A q.base)
    (hQ : ∀ t : State, t.heap = H → s.WarmedH t.vm → Qc args s (.returned (w.map (pm_cv rho))) t) : W p l e R s m args below meth c H locs cells slots (MQ below Qc args s cells slots A) (F0 m pc ls (pm_cS rho S)) := by
  unfold pm_ret at h7
  split at h7
  · split at h7
    · split at h7
      · cases h7
        exact W.iret hx hb hrt hQ hf hdg hlk
      · split at h7
        · rename_i h01
          cases h7
          exact W.zret hx hb hrt (by rcases h01 with rfl | rfl <;> decide) hQ hf hdg hlk
        · cases h7
      · split at h7
        · rename_i x _ hch
          cases h7
          exact W.zret hx hb hrt (by show Value.int (vp_nar .char x) = _; rw [hch]) hQ hf hdg hlk
        · cases h7
      · split at h7
        · rename_i x _ hch
          cases h7
          exact W.zret hx hb hrt (by show Value.int (vp_nar .byte x) = _; rw [hch]) hQ hf hdg hlk
        · cases h7
      · cases h7
    · cases h7
  · split at h7
    · split at h7
      · cases h7
        exact W.vret hx hb hrt hQ hf hdg hlk
      · cases h7
    · cases h7
  · split at h7
    · split at h7
      · cases h7
        exact W.aret hx hb hrt (Or.inl ⟨_, rfl⟩) (Or.inr ⟨_, rfl⟩) hQ hf hdg hlk
      · cases h7
        exact W.aret hx hb hrt (Or.inr ⟨_, rfl⟩) (Or.inr ⟨_, rfl⟩) hQ hf hdg hlk
      · cases h7
    · cases h7
  · cases h7
theorem pt_xf_mem : ∀ {l : List (Nat × Nat × Nat)} {k a b : Nat}, pt_xf l k = some (a, b) → (k, a, b) ∈ l := by
  intro l
  induction l with
  | nil => intro k a b h; cases h
  | cons q l ih =>
    intro k a b h
    unfold pt_xf at h
    cases hb : Nat.beq q.1 k with
    | true =>
      rw [hb] at h
      have h1 : q.1 = k := Nat.eq_of_beq_eq_true hb
      have h2 : q.2 = (a, b) := Option.some.inj h
      obtain ⟨q1, q2⟩ := q
      dsimp only at h1 h2
      subst h1; subst h2
      exact List.mem_cons_self
    | false =>
      rw [hb] at h
      exact List.mem_cons_of_mem _ (ih h)
theorem pt_met (hinj : ∀ a b, pm_kc a = true → pm_kc b = true → rho a = rho b → a = b) (hprim : ∀ (mj : Nat) (as : List Value) (v : Value), pm_prim mj as = some v → ∀ (h : pm_H) (sz : Nat), Met l (pm_nm mj) (pm_ws mj) (pm_rm 4) (va_Pc (pm_cS rho as) (pm_B rho D cy sw h sz)) (pm_Q rho D cy sw h sz (some v) h) 0 0 (va_A (pm_W cy rho sw h) sz)) (htr : l.stackTraces = false) {n d mi : Nat} {as : List Value} {h : pm_H} {r : (Option Value × pm_H) ⊕ (Nat × pm_H)} (hrun : pt_run sw n d mi as h = some r) (hj : mi < 174) (how : pm_ow mi = 5) (hd : 6 ≤ d) (hfit : (lg_sl as).length ≤ pm_mx mi) (sz : Nat) :
    vx_Met l (pm_nm mi) (pm_ws mi) (pn_rm d 1 6) (va_Pc (pm_cS rho as) (fun U => pm_B rho D cy sw h sz U ∧ pt_K (va_A (pm_W cy rho sw h) sz) U U.heap)) (pt_Q rho D cy sw h sz r) (pt_X rho D cy sw h sz r) 1 6 (va_A (pm_W cy rho sw h) sz) := by
  have hcls : (pm_nm mi).cls = pm_on (pm_ow mi) := of_decide_eq_true (List.all_eq_true.mp pm_mC mi (List.mem_range.mpr hj))
  refine vx_ofW (cc := pm_by mi) (maxL := pm_mx mi) (ret := pm_rt mi) (by rw [hcls, how]; decide) rfl ?_
  intro p e s m args below meth c s₁ B hml htab hv
  obtain ⟨rfl, ⟨rfl, hP, hK, hD0, hKS⟩, hPT⟩ := hv
  have hown : s.vm.findClass (pm_on (pm_ow mi)) = some m.cls := by
    rw [← hcls]
    exact findClass_of_methodNamed B.named
  have hts := atoms_spec (ws := pm_ws mi) B.pre
  have hG : ∀ w ∈ pm_G, w ∈ pm_ws mi := fun w hw => List.mem_cons_of_mem _ hw
  have hl := lv_entry (pm_cS rho as) (n := pm_mx mi) (by rw [pm_sl_len]; exact hfit)
  rw [pm_args_c] at hl
  unfold pt_run at hrun
  cases hpp : pp_run sw (pt_stop mi) n d mi 0 (lv_args 0 as) [] h with
  | none => rw [hpp] at hrun; cases hrun
  | some q =>
    obtain ⟨pc, L, S, h'⟩ := q
    rw [hpp] at hrun
    dsimp only at hrun
    rw [lg_entry_eq]
    refine pp_body hinj hprim (pt_stop mi) n d mi 0 (lv_args 0 as) [] h pc L S h' hpp p e _ s m _ below meth c s.heap [] _ (va_A (pm_W cy rho sw h) s.heap.size) _ 0 0 (pm_ws mi) B.exec B.bytes hml hown hts hG ⟨Nat.le_refl _, Nat.le_refl _, Nat.zero_le _, Nat.zero_le _⟩ hK hP hD0.self va_S.rf (fun q hq => Or.inr hq) hKS hl ?_
    intro H1 locs1 ls1 hP1 hD1 hS1 hl1
    unfold pt_end at hrun
    split at hrun
    · rename_i ik hfd
      split at hrun
      · rename_i x ic hxf
        obtain ⟨hg, he⟩ := pm_bif hrun
        cases he
        obtain ⟨g1, g2⟩ := Bool.and_eq_true_iff.mp hg
        obtain ⟨g3, g4⟩ := Bool.and_eq_true_iff.mp g1
        obtain ⟨g5, g6⟩ := Bool.and_eq_true_iff.mp g4
        have hmem := pt_xf_mem hxf
        have w0 := List.all_eq_true.mp pt_w0 _ hmem
        have w1 := List.all_eq_true.mp pt_w1 _ hmem
        dsimp only at w0 w1
        obtain ⟨w2, w3⟩ := Bool.and_eq_true_iff.mp w1
        obtain ⟨w4, w5⟩ := Bool.and_eq_true_iff.mp w2
        obtain ⟨w6, w7⟩ := Bool.and_eq_true_iff.mp w3
        obtain ⟨w8, w9⟩ := Bool.and_eq_true_iff.mp w7
        have hx3 := pm_blt w6
        have hin : ∀ w, w ∈ lw_tbl → goodWord w = true → w.before (pm_cS rho as).toArray s = true := fun w h1 h2 => hts w (hG w (List.mem_filter.mpr ⟨h1, h2⟩))
        have d0 := pm_decode hfd
        have d3 := pm_decode (of_decide_eq_true g3)
        have d4 := pm_decode (of_decide_eq_true g5)
        have d7 := pm_decode (of_decide_eq_true g6)
        obtain ⟨l0, d0, e0⟩ := d0
        obtain ⟨l3, d3, e3⟩ := d3
        obtain ⟨l4, d4, e4⟩ := d4
        obtain ⟨l7, d7, e7⟩ := d7
        have e0 := e0.resolve_left (fun z => by cases z)
        have e3 := e3.resolve_left (fun z => by cases z)
        have e4 := e4.resolve_left (fun z => by cases z)
        have e7 := e7.resolve_left (fun z => by cases z)
        subst e0; subst e3; subst e4; subst e7
        rw [how] at hown
        refine vx_throw0 (own := "QuietChecker") (cls := pt_xn x) (names := pt_nms) (A := va_A (pm_W cy rho sw h) s.heap.size) B.exec B.bytes htr hown w8 (fun n hn => List.all_eq_true.mp w9 n hn) (hin _ (of_decide_eq_true w4) rfl) (hin _ (of_decide_eq_true w5) rfl) (fun w hw => ?_) (fun w hw => ?_) hPT.1 hPT.2.1 hS1 (hl1.1.trans hml.symm) d0 d3 d4 d7 (fun x hx => (htab x hx).elim) ?_ ?_ (Nat.le_refl _) (Nat.le_refl _) B.notSynchronized ?_ hS1.2.2 (Nat.le_refl _) (Nat.le_refl _)
        · rcases Bool.or_eq_true_iff.mp (List.all_eq_true.mp w0 w hw) with h1 | h1
          · obtain ⟨h2, h3⟩ := Bool.and_eq_true_iff.mp h1
            exact va_tabs h3 rfl (hPT.2.2.1 w (of_decide_eq_true h2))
          · obtain ⟨h2, h3⟩ := Bool.and_eq_true_iff.mp h1
            exact hin w (of_decide_eq_true h3) h2
        · rcases List.mem_cons.mp hw with rfl | hw
          · rfl
          rcases List.mem_cons.mp hw with rfl | hw
          · rfl
          rcases Bool.or_eq_true_iff.mp (List.all_eq_true.mp w0 w hw) with h1 | h1
          · unfold vx_ot
            rw [(Bool.and_eq_true_iff.mp h1).2, Bool.true_or]
          · unfold vx_ot
            rw [(Bool.and_eq_true_iff.mp h1).1, Bool.or_true]
        · show 2 + 3 < d
          omega
        · have := Nat.le_of_ble_eq_true g2
          rw [← pm_cats_c rho] at this
          show _ + (13 * (2 + 1) + 42) ≤ d * 40
          exact Nat.le_trans (Nat.add_le_add_right this _) (by omega)
        · intro t hal hsz hkp
          refine ⟨rfl, ⟨hP1.kept (fun k q hq => hkp q.1 ((hP1 k q hq).lt)), hD1⟩, Nat.le_trans hS1.1 hsz, fun q h1 h2 => ?_⟩
          rw [hkp q (Nat.lt_of_lt_of_le h1 hS1.1)]
          exact hS1.2.1 q h1 h2
      · cases hrun
    · rename_i i hnew hfd
      split at hrun
      · rename_i v hret
        cases hrun
        obtain ⟨len, hdec, hlen⟩ := pm_decode hfd
        have hdg : decode (pm_by mi) pc = .ok (i, pm_ln i) := by
          rcases hlen with h1 | h1
          · unfold pm_ret at hret; split at hret <;> first | cases h1 | cases hret
          · rw [hdec, h1]
        refine vx_ret (W.widen (k := 1) (n := 6) (Nat.zero_le _) (Nat.zero_le _) ?_)
        refine pm_ret_snd B.exec B.bytes B.returns B.notSynchronized hdg hret hS1.2.2 (fun t ht hW => ?_)
        exact ⟨rfl, ⟨by rw [ht]; exact hP1, hD1⟩, hS1.F ht⟩
      · cases hrun
    · cases hrun
end PT1
end
section
/-! The law's wrappers: a call that may throw, and its handlers -/
def pw_stop (mi pc : Nat) : Bool := match pm_fd (pm_code mi) pc with
  | some (.invokevirtual _) => true
  | some .ireturn => true
  | _ => false
/-- the tables of the wrappers: start, end, handler, place of the class link -/
def pw_hh (mi : Nat) : List (Nat × Nat × Nat × Nat) := match mi with
  | 175 => [(0, 7, 10, 13), (0, 7, 14, 15)]
  | 176 => [(0, 9, 12, 13), (0, 9, 15, 21)]
  | 177 => [(0, 9, 12, 13)]
  | 178 => [(0, 10, 13, 13), (0, 10, 17, 15)]
  | 179 => [(0, 9, 12, 13), (0, 9, 15, 15)]
  | _ => [(0, 12, 15, 15)]
/-- which exception a handler is for -/
def pw_cx (idx : Nat) : Nat := match idx with
  | 13 => 0
  | 15 => 1
  | _ => 2
/-- the handler of exception x at pc: the first row, or the second behind a row for exception 0 -/
def pw_find (hh : List (Nat × Nat × Nat × Nat)) (pc x : Nat) : Option Nat := match hh with
  | [q] => bif (Nat.ble q.1 pc && Nat.blt pc q.2.1) && Nat.beq (pw_cx q.2.2.2) x then some q.2.2.1 else none
  | [q, r] => bif (Nat.ble q.1 pc && Nat.blt pc q.2.1) && Nat.beq (pw_cx q.2.2.2) x then some q.2.2.1 else
      (bif (Nat.beq (pw_cx q.2.2.2) 0 && (Nat.ble r.1 pc && Nat.blt pc r.2.1)) && (Nat.beq (pw_cx r.2.2.2) x && !Nat.beq x 0) then some r.2.2.1 else none)
  | _ => none
/-- a handler: it drops the exception and answers a constant -/
def pw_hk (mi hpc : Nat) : Option Int := match pm_fd (pm_code mi) hpc with
  | some (.astore j) => bif Nat.blt j (pm_mx mi) then (match pm_fd (pm_code mi) (hpc + 2) with
      | some (.iconst k) => bif decide (pm_fd (pm_code mi) (hpc + 3) = some .ireturn) then some k else none
      | _ => none) else none
  | some (.astore_n j) => bif Nat.blt j (pm_mx mi) then (match pm_fd (pm_code mi) (hpc + 1) with
      | some (.iconst k) => bif decide (pm_fd (pm_code mi) (hpc + 2) = some .ireturn) then some k else none
      | _ => none) else none
  | _ => none
def pw_run (sw : List (Nat × Nat)) (n d mi : Nat) (as : List Value) (h : pm_H) : Option (Int32 × pm_H) := match pp_run sw (pw_stop mi) n d mi 0 (lv_args 0 as) [] h with
  | some (pc, L, S, h1) => match pm_fd (pm_code mi) pc with
    | some (.invokevirtual idx) => match pm_call (.invokevirtual idx) sw (pm_ow mi) S with
      | some (mj, as2, S1) => bif Nat.beq (pm_ow mj) 5 then (match pt_run sw n d mj as2 h1 with
        | some (.inl (v, h2)) => (match pp_run sw (pw_stop mi) n d mi (pc + 3) L (v.toList ++ S1) h2 with
          | some (pc3, _, S3, h3) => (match pm_fd (pm_code mi) pc3 with
            | some .ireturn => (match S3 with
              | [.int k] => some (k, h3)
              | _ => none)
            | _ => none)
          | none => none)
        | some (.inr (x, h2)) => (match pw_find (pw_hh mi) pc x with
          | some hpc => (pw_hk mi hpc).map (fun k => (Int32.ofInt k, h2))
          | none => none)
        | none => none) else none
      | none => none
    | _ => none
  | none => none
section PW1
variable {p : Program} {l : Launch} {e : Env} {R : Room} {s : State} {m : MethodId} {args : Array Value} {below : List Frame} {meth : Method} {c : Code} {H : Heap} {locs : List Loc} {cells slots : Nat} {Q : State → Prop} {pc : Nat} {ls : Array Slot} {rest st0 : List Value} {A0 A1 : Nat → Prop} {H0 : Heap} {free : Addr → Prop} {mc ms : Nat}
/-- behind a call that may throw -/
theorem pw_callk {Qa : State → Outcome → State → Prop} {XC : String → State → State → Prop} (hr : vx_Run p l e R s m args below meth c H locs cells slots mc ms (F0 m pc ls st0) rest Qa XC free) (hQ : ∀ (st : State) (v : Option Value) (t : State), Qa st (.returned v) t → va_F A1 st t) (hX : ∀ (E : String) (st t : State), XC E st t → va_F A1 st t) (hS : va_S A0 H0 H locs) (hA : ∀ q, q < H.size → A1 q → A0 q) (hf : ∀ q, free q → A0 q)
    (kx : ∀ (E : String) (ce : Cell) (q9 : Addr) (st t : State) (locs1 : List Loc), XC E st t → va_S A0 H0 t.heap locs1 → t.heap[q9]? = some ce → ce.vm = .none → s.vm.findClass E = some ce.cls → vx_W p l e R s m args below meth c t.heap locs1 (cells + mc) (slots + ms) Q (F0 m pc ls rest) q9)
    (kk : ∀ (st t : State) (v : Option Value) (locs1 : List Loc), Qa st (.returned v) t → va_S A0 H0 t.heap locs1 → W p l e R s m args below meth c t.heap locs1 (cells + mc) (slots + ms) Q (F0 m (pc + 3) ls (v.toList ++ rest))) : W p l e R s m args below meth c H locs cells slots Q (F0 m pc ls st0) := by
  have key : ∀ (st t : State) (L : List Loc), st.heap = H → va_F A1 st t → (∀ q ∈ L, free q.base) → va_S A0 H0 t.heap (locs ++ L) := by
    intro st t L h0 hF hL
    obtain ⟨hz, hk⟩ := hF
    rw [h0] at hz hk
    refine ⟨Nat.le_trans hS.1 hz, fun q h1 h2 => ?_, fun q hq => ?_⟩
    · rw [hk q (Nat.lt_of_lt_of_le h1 hS.1) (fun z => h2 (hA q (Nat.lt_of_lt_of_le h1 hS.1) z))]
      exact hS.2.1 q h1 h2
    · rcases List.mem_append.mp hq with h | h
      · exact hS.2.2 q h
      · exact hf _ (hL q h)
  intro T hT X
  rcases hr T hT X with ⟨v, st₀, t, T', L, h0, X', hL, e1, e2, hq, st⟩ | ⟨q, st₀, t, T', L, E, ce, h0, X', hL, e1, e2, hq, hce, hcv, hcl, st⟩
  · obtain ⟨t2, a1, b1⟩ := kk st₀ t v (locs ++ L) hq (key st₀ t L h0 (hQ _ _ _ hq) hL) T' e1 X'
    exact ⟨t2, st t2 a1, b1⟩
  · obtain ⟨t2, a1, b1⟩ := kx E ce q st₀ t (locs ++ L) hq (key st₀ t L h0 (hX _ _ _ hq) hL) hce hcv hcl T' e1 X'
    exact ⟨t2, st.trans a1, b1⟩
end PW1
def pw_ws (mi : Nat) : List Cond := Cond.codeWith (pm_nm mi) (pm_by mi) (pm_mx mi) (some .int) (pw_hh mi) :: pm_G
set_option maxRecDepth 100000 in
theorem pw_lk : ([13, 15, 21] : List Nat).all (fun i => decide (Cond.classLink "QuietCheckerLaw" i (pt_xn (pw_cx i)) ∈ lw_tbl)) = true := by decide +kernel
theorem pw_ofW {l : Launch} {y : MethodName} {ws ws' : List Cond} {rm : Room} {Pc : Array Value → State → Prop} {Qc : Array Value → State → Outcome → State → Prop} {mc ms : Nat} {free : Addr → Prop} {cc : ByteArray} {maxL : Nat} {ret : Option FieldType} {hh : List (Nat × Nat × Nat × Nat)}
    (hy : plainFor y = true) (hw : ws = Cond.codeWith y cc maxL ret hh :: ws')
    (body : ∀ p e s m args below meth c s₁, BodyLoose p l y (headSpec ws rm) cc maxL ret e s m args below meth c s₁ → c.maxLocals = maxL → Pc args s →
      W p l e (headSpec ws rm).room s m args below meth c s.heap [] 0 0 (MQ below Qc args s mc ms free) (entryFrame m args maxL)) : Met l y ws rm Pc Qc mc ms free := by
  refine MetFree.of_bodySF (code := cc) (maxLocals := maxL) (ret := ret) hy ?_ ?_
  · intro args s m h hn
    obtain ⟨m9, meth, c, hn9, h1, h2, h3, h4, -, h5, h6, -⟩ := Cond.codeWith_spec (atoms_spec (ws := ws) h _ (by rw [hw]; exact List.mem_cons_self))
    cases hn.symm.trans hn9
    exact ⟨meth, c, h1, h2, h3, h4, h5, h6⟩
  · intro p e s m args below meth c s₁ B hml hP _
    have hh0 : s₁.heap = s.heap := by rw [B.state]; rfl
    obtain ⟨t, a1, o, b1, b2, b3⟩ := body p e s m args below meth c s₁ B hml hP s₁ hh0 (Stand.of_body B)
    exact ⟨t, o, a1, b1, b2, ⟨b3.1, b3.2⟩⟩
theorem pw_cov {q : Nat × Nat × Nat × Nat} {pc : Nat} (h : (Nat.ble q.1 pc && Nat.blt pc q.2.1) = true) : covers (⟨q.1, q.2.1, q.2.2.1, q.2.2.2⟩ : ExceptionTableEntry) pc = true := by
  obtain ⟨h1, h2⟩ := Bool.and_eq_true_iff.mp h
  have h1 := Nat.le_of_ble_eq_true h1
  have h2 := pm_blt h2
  simp [covers, h1, h2]
/-- an exception that a wrapper's table names goes to its handler -/
theorem pw_catch {p : Program} {l : Launch} {e : Env} {R : Room} {s : State} {m : MethodId} {args : Array Value} {below : List Frame} {meth : Method} {c : Code} {H : Heap} {locs : List Loc} {cells slots : Nat} {Q : State → Prop} {pc : Nat} {ls : Array Slot} {rest : List Value} {hh : List (Nat × Nat × Nat × Nat)} {x hpc : Nat} {ce : Cell} {q9 : Addr} (hown : s.vm.findClass "QuietCheckerLaw" = some m.cls) (htab : c.exceptionTable.toList = tableOf hh) (hfind : pw_find hh pc x = some hpc) (hx : x < 3) (hidx : ∀ q ∈ hh, q.2.2.2 ≠ 0 ∧ (Cond.classLink "QuietCheckerLaw" q.2.2.2 (pt_xn (pw_cx q.2.2.2))).before args s = true)
    (hcast : (Cond.castable (pt_xn x) (pt_xn x)).before args s = true) (hN1 : va_Nc (pt_xn 1) (pt_xn 0) s) (hN2 : va_Nc (pt_xn 2) (pt_xn 0) s) (hcell : H[q9]? = some ce) (hv : ce.vm = .none) (hcl : s.vm.findClass (pt_xn x) = some ce.cls)
    (kk : W p l e R s m args below meth c H locs cells slots Q (F0 m hpc ls [.ref q9])) : vx_W p l e R s m args below meth c H locs cells slots Q (F0 m pc ls rest) q9 := by
  unfold pw_find at hfind
  split at hfind
  · rename_i q
    obtain ⟨hg, rfl⟩ := pm_bif hfind
    obtain ⟨g1, g2⟩ := Bool.and_eq_true_iff.mp hg
    have g2 := Nat.eq_of_beq_eq_true g2
    obtain ⟨i1, i2⟩ := hidx q List.mem_cons_self
    rw [g2] at i2
    exact vx_catch hown [] ⟨q.1, q.2.1, q.2.2.1, q.2.2.2⟩ [] htab (fun z hz => nomatch hz) (pw_cov g1) i1 i2 hcast hcell hv hcl kk
  · rename_i q r
    obtain ⟨i1, i2⟩ := hidx q List.mem_cons_self
    obtain ⟨j1, j2⟩ := hidx r (List.mem_cons_of_mem _ List.mem_cons_self)
    cases hg : ((Nat.ble q.1 pc && Nat.blt pc q.2.1) && Nat.beq (pw_cx q.2.2.2) x) with
    | true =>
      rw [hg] at hfind
      cases hfind
      obtain ⟨g1, g2⟩ := Bool.and_eq_true_iff.mp hg
      have g2 := Nat.eq_of_beq_eq_true g2
      rw [g2] at i2
      exact vx_catch hown [] ⟨q.1, q.2.1, q.2.2.1, q.2.2.2⟩ [⟨r.1, r.2.1, r.2.2.1, r.2.2.2⟩] htab (fun z hz => nomatch hz) (pw_cov g1) i1 i2 hcast hcell hv hcl kk
    | false =>
      rw [hg] at hfind
      obtain ⟨hg2, rfl⟩ := pm_bif hfind
      obtain ⟨g1, g2⟩ := Bool.and_eq_true_iff.mp hg2
      obtain ⟨g3, g4⟩ := Bool.and_eq_true_iff.mp g1
      obtain ⟨g5, g6⟩ := Bool.and_eq_true_iff.mp g2
      have g3 := Nat.eq_of_beq_eq_true g3
      have g5 := Nat.eq_of_beq_eq_true g5
      rw [g3] at i2
      rw [g5] at j2
      have hx0 : x ≠ 0 := fun z => by subst z; cases g6
      refine vx_catch hown [⟨q.1, q.2.1, q.2.2.1, q.2.2.2⟩] ⟨r.1, r.2.1, r.2.2.1, r.2.2.2⟩ [] htab (fun z hz => ?_) (pw_cov g4) j1 j2 hcast hcell hv hcl kk
      have hz := List.mem_singleton.mp hz
      subst hz
      refine Or.inr ⟨i1, pt_xn 0, i2, ?_⟩
      match x, hx, hx0 with
      | 0, _, h0 => exact absurd rfl h0
      | 1, _, _ => exact hN1
      | 2, _, _ => exact hN2
  · cases hfind
set_option maxRecDepth 100000 in
theorem pw_chk : (List.range 6).all (fun k => plainFor (pm_nm (175 + k)) && (decide (pm_ow (175 + k) = 12) && (decide ((pm_nm (175 + k)).cls = "QuietCheckerLaw") && (decide (pm_rt (175 + k) = some .int) && (pw_hh (175 + k)).all (fun q => decide (q.2.2.2 ∈ ([13, 15, 21] : List Nat))))))) = true := by decide +kernel
theorem pm_callV_t {idx ow mj : Nat} {sw : List (Nat × Nat)} {S as2 S1 : List Value} (h8 : pm_call (.invokevirtual idx) sw ow S = some (mj, as2, S1)) : ∃ a, pm_iv ow idx = some mj ∧ pm_sc mj = false ∧ as2 = .ref a :: (S.take (pm_np mj)).reverse ∧ S = S.take (pm_np mj) ++ .ref a :: S1 ∧ (S.take (pm_np mj)).length = pm_np mj ∧ pm_rcv sw a (pm_ow mj) = true ∧ pm_cats S1 ≤ 8 ∧ (lg_sl as2).length ≤ pm_mx mj := by
  unfold pm_call at h8
  dsimp only at h8
  split at h8
  · rename_i mj0 hiv
    split at h8
    · rename_i _ a S2 hdr
      obtain ⟨hg, he⟩ := pm_bif h8
      cases he
      obtain ⟨g1, g2⟩ := Bool.and_eq_true_iff.mp hg
      obtain ⟨g3, g4⟩ := Bool.and_eq_true_iff.mp g2
      obtain ⟨g5, g6⟩ := Bool.and_eq_true_iff.mp g4
      obtain ⟨g7, g8⟩ := Bool.and_eq_true_iff.mp g6
      refine ⟨a, hiv, pm_not g1, rfl, ?_, Nat.eq_of_beq_eq_true g3, g5, Nat.le_of_ble_eq_true g7, Nat.le_of_ble_eq_true g8⟩
      have := (List.take_append_drop (pm_np mj) S).symm
      rw [hdr] at this
      exact this
    · cases h8
  · cases h8
section PW2
variable {l : Launch} {rho : Nat → Nat} {D : va_G} {cy : Nat → ClassId} {sw : List (Nat × Nat)}
/-- before a call that may throw -/
def pt_B (rho : Nat → Nat) (D : va_G) (cy : Nat → ClassId) (sw : List (Nat × Nat)) (h : pm_H) (sz : Nat) (U : State) : Prop := pm_B rho D cy sw h sz U ∧ pt_K (va_A (pm_W cy rho sw h) sz) U U.heap
theorem pt_blind {as : List Value} {h : pm_H} {sz : Nat} : FrameBlind (va_Pc (pm_cS rho as) (pt_B rho D cy sw h sz)) := by
  intro a U g mk q
  obtain ⟨h1, ⟨h2, h3, h4, h5, h6⟩, h7⟩ := q
  exact ⟨h1, ⟨h2, h3, va_K.moved (u := U) (U := U.calling g mk a) (Vm.Alike.refl U.vm) h4, h5, pm_KS.moved (u := U) (U := U.calling g mk a) (Vm.Alike.refl U.vm) h6⟩, pt_K.moved (u := U) (U := U.calling g mk a) (Vm.Alike.refl U.vm) h7⟩
/-- the world before an inner call -/
theorem pt_pre {s : State} {H : Heap} {locs : List Loc} {A : Nat → Prop} {h : pm_H} (hK : va_K D pm_cl (pm_tys cy) s) (hP : va_P D pm_cl (pm_W cy rho sw h) H) (hD : va_D A (pm_W cy rho sw h)) (hS : va_S A s.heap H locs) (hA : ∀ q, s.heap.size ≤ q → A q) (hKS : pm_KS rho A s s.heap) (hPT : pt_K A s s.heap) : (∀ q, va_A (pm_W cy rho sw h) H.size q → A q) ∧ ∀ U : State, U.heap = H → s.WarmedH U.vm → pt_B rho D cy sw h H.size U := by
  have hFc : ∀ q, va_A (pm_W cy rho sw h) H.size q → A q := by
    intro q hq
    rcases hq with ⟨k, en, hk⟩ | hq
    · exact hD.2 k _ hk
    · exact hA q (Nat.le_trans hS.1 hq)
  refine ⟨hFc, fun U hU hW => ⟨⟨by rw [hU], by rw [hU]; exact hP, va_K.moved hW.alike hK, hD.weaken (fun _ _ _ _ => trivial), ?_⟩, ?_⟩⟩
  · rw [hU]
    exact pm_KS.moved hW.alike ((hKS.kept hS.2.1).narrow hFc)
  · rw [hU]
    exact pt_K.moved hW.alike ((hPT.kept hS.2.1).narrow hFc)
theorem pm_callB_of {R : Room} {s : State} {args : Array Value} {Ts : List Cond} {own idx mj : Nat} {rm : Room} {mc ms : Nat} (hts : ∀ w ∈ Ts, w.before args s = true) (hG : ∀ w ∈ pm_G, w ∈ Ts) (hiv : pm_iv own idx = some mj) (hrc : rm.cells = mc) (hrs : rm.slots = ms) (hR : rm.frames + 1 ≤ R.frames ∧ 39 + rm.locals ≤ R.locals) : mj < 174 ∧ CallB R s args (pm_on own) idx (pm_nm mj) (pm_by mj) (pm_mx mj) (pm_rt mj) (pm_ws mj) rm mc ms (pm_np mj) := by
  obtain ⟨hj, hlink⟩ := pm_iv_ok hiv
  have hcls : (pm_nm mj).cls = pm_on (pm_ow mj) := of_decide_eq_true (List.all_eq_true.mp pm_mC mj (List.mem_range.mpr hj))
  obtain ⟨n1, n2⟩ := Bool.and_eq_true_iff.mp (List.all_eq_true.mp pm_mG mj (List.mem_range.mpr hj))
  have hini : Cond.initialized (pm_on (pm_ow mj)) ∈ pm_G := pm_mem (List.all_eq_true.mp pm_mB mj (List.mem_range.mpr hj))
  have hmx : pm_mx mj ≤ 20 := Nat.le_of_ble_eq_true (List.all_eq_true.mp pm_mF mj (List.mem_range.mpr hj))
  exact ⟨hj, callB_of (pm_np mj) hts (pp_goodIn hG hj) rfl hrc hrs (by rw [hcls]; exact hts _ (hG _ hini)) (hts _ (hG _ hlink)) ⟨of_decide_eq_true n1, of_decide_eq_true n2, of_decide_eq_true (List.all_eq_true.mp pm_mD mj (List.mem_range.mpr hj))⟩ ⟨hR.1, by omega⟩⟩
set_option maxHeartbeats 4000000 in
theorem pw_met (hinj : ∀ a b, pm_kc a = true → pm_kc b = true → rho a = rho b → a = b) (hprim : ∀ (mj : Nat) (as : List Value) (v : Value), pm_prim mj as = some v → ∀ (h : pm_H) (sz : Nat), Met l (pm_nm mj) (pm_ws mj) (pm_rm 4) (va_Pc (pm_cS rho as) (pm_B rho D cy sw h sz)) (pm_Q rho D cy sw h sz (some v) h) 0 0 (va_A (pm_W cy rho sw h) sz)) (htr : l.stackTraces = false) {n d mi : Nat} {as : List Value} {h h' : pm_H} {k : Int32} (hrun : pw_run sw n d mi as h = some (k, h')) (hm1 : 175 ≤ mi) (hm2 : mi < 181) (hd : 6 ≤ d) (hfit : (lg_sl as).length ≤ pm_mx mi) (sz : Nat) :
    Met l (pm_nm mi) (pw_ws mi) (pn_rm (d + 1) 1 6) (va_Pc (pm_cS rho as) (pt_B rho D cy sw h sz)) (pm_Q rho D cy sw h sz (some (.int k)) h') 1 6 (va_A (pm_W cy rho sw h) sz) := by
  have hck := List.all_eq_true.mp pw_chk (mi - 175) (List.mem_range.mpr (by omega))
  rw [show 175 + (mi - 175) = mi by omega] at hck
  simp only [Bool.and_eq_true, decide_eq_true_eq] at hck
  obtain ⟨hfor, how, hcls, hrt, hhx⟩ := hck
  refine pw_ofW (cc := pm_by mi) (maxL := pm_mx mi) (ret := some .int) (hh := pw_hh mi) hfor rfl ?_
  intro p e s m args below meth c s₁ B hml hv
  obtain ⟨rfl, ⟨rfl, hP, hK, hD0, hKS⟩, hPT⟩ := hv
  have hownL : s.vm.findClass "QuietCheckerLaw" = some m.cls := by
    rw [← hcls]
    exact findClass_of_methodNamed B.named
  have hown : s.vm.findClass (pm_on (pm_ow mi)) = some m.cls := by
    rw [how]
    exact hownL
  have hts := atoms_spec (ws := pw_ws mi) B.pre
  have hG : ∀ w ∈ pm_G, w ∈ pw_ws mi := fun w hw => List.mem_cons_of_mem _ hw
  have htab := vx_table (x := pm_nm mi) B (hts _ List.mem_cons_self)
  have hl := lv_entry (pm_cS rho as) (n := pm_mx mi) (by rw [pm_sl_len]; exact hfit)
  rw [pm_args_c] at hl
  have hA : ∀ q, s.heap.size ≤ q → va_A (pm_W cy rho sw h) s.heap.size q := fun q hq => Or.inr hq
  have hb0 := B.bytes
  have hx0 := B.exec
  unfold pw_run at hrun
  split at hrun
  · rename_i pc L S h1 hpp
    rw [lg_entry_eq]
    refine pp_body hinj hprim (pw_stop mi) n d mi 0 (lv_args 0 as) [] h pc L S h1 hpp p e _ s m _ below meth c s.heap [] _ (va_A (pm_W cy rho sw h) s.heap.size) _ 0 0 (pw_ws mi) hx0 hb0 hml hown hts hG ⟨Nat.le_succ _, by show d * 40 ≤ (d + 1) * 40; omega, Nat.zero_le _, Nat.zero_le _⟩ hK hP hD0.self va_S.rf hA hKS hl ?_
    intro H1 locs1 ls1 hP1 hD1 hS1 hl1
    split at hrun
    · rename_i idx hfd
      split at hrun
      · rename_i mj as2 S1 hcl
        obtain ⟨ho5, hrun⟩ := pm_bifR hrun
        have ho5 := Nat.eq_of_beq_eq_true ho5
        obtain ⟨a, hiv, hsc, rfl, hS0, hnp, hrc, hcat, hfit2⟩ := pm_callV_t hcl
        obtain ⟨hj, cb⟩ := pm_callB_of (R := pn_rm (d + 1) 1 6) (rm := pn_rm d 1 6) (mc := 1) (ms := 6) hts hG hiv rfl rfl ⟨Nat.le_refl _, by show 39 + d * 40 ≤ (d + 1) * 40; omega⟩
        obtain ⟨hFc, hpre⟩ := pt_pre hK hP1 hD1 hS1 hA hKS hPT
        have hA1 := pm_mA_at hj
        unfold pm_mA at hA1
        rw [hsc] at hA1
        obtain ⟨w1, w2⟩ := Bool.and_eq_true_iff.mp hA1
        obtain ⟨len, hdec, hlen⟩ := pm_decode hfd
        have hlen := hlen.resolve_left (fun z => by cases z)
        subst hlen
        cases hpt : pt_run sw n d mj (.ref a :: (S.take (pm_np mj)).reverse) h1 with
        | none => rw [hpt] at hrun; cases hrun
        | some r =>
          rw [hpt] at hrun
          have hM := pt_met (l := l) (rho := rho) (D := D) (cy := cy) hinj hprim htr hpt hj ho5 hd hfit2 H1.size
          have hrn := vx_runV (C := pm_on (pm_ow mj)) (b := rho a) (As := pm_cS rho (S.take (pm_np mj)).reverse) (rest := pm_cS rho S1) (g := F0 m pc ls1 (pm_cS rho S)) (p := p) (e := e) (below := below) (meth := meth) (locs := locs1) (cells := 0) (slots := 0) (R := pn_rm (d + 1) 1 6) (H := H1) ⟨hx0, hb0, hml, hown, hts⟩ hM ⟨cb, hts _ (hG _ (pm_mem w1)), hts _ (hG _ (pm_mem w2))⟩ ⟨pt_blind, pm_rcv_t hrc hK hP1 hS1 hKS, fun U hU hW => ⟨rfl, hpre U hU hW⟩⟩ rfl (by
            unfold pm_cS
            rw [List.length_map, List.length_reverse]
            exact hnp) hl1.1 (by
            show pm_cS rho S = (pm_cS rho (S.take (pm_np mj)).reverse).reverse ++ .ref (rho a) :: pm_cS rho S1
            rw [pm_cS_rev, List.reverse_reverse]
            calc pm_cS rho S = pm_cS rho (S.take (pm_np mj) ++ .ref a :: S1) := by rw [← hS0]
              _ = _ := pm_cS_app rho _ _) (lv_room (by rw [pm_cats_c]; exact hcat)) hdec ⟨Nat.le_refl _, Nat.le_refl _⟩
          refine pw_callk (A1 := va_A (pm_W cy rho sw h1) H1.size) hrn ?_ ?_ hS1 (fun q _ z => hFc q z) hFc ?_ ?_
          · intro st v t hq
            cases r with
            | inl r => exact hq.2.2
            | inr r => exact hq.elim
          · intro E st t hq
            cases r with
            | inl r => exact hq.elim
            | inr r => exact hq.2.2
          · intro E ce q9 st t locs2 hq hS2 hce hcv hcl9
            cases r with
            | inl r => exact hq.elim
            | inr r =>
              obtain ⟨x, h2⟩ := r
              obtain ⟨rfl, ⟨hP2, hD2⟩, hF2⟩ := hq
              dsimp only at hrun hP2 hD2
              split at hrun
              · rename_i hpc hfi
                obtain ⟨k0, hk0, hke⟩ := Option.map_eq_some_iff.mp hrun
                cases hke
                have hx3 : x < 3 := by
                  unfold pt_run at hpt
                  split at hpt
                  · unfold pt_end at hpt
                    split at hpt
                    · split at hpt
                      · rename_i x0 ic0 hxf
                        obtain ⟨-, he⟩ := pm_bif hpt
                        cases he
                        have w1 := List.all_eq_true.mp pt_w1 _ (pt_xf_mem hxf)
                        dsimp only at w1
                        exact pm_blt (Bool.and_eq_true_iff.mp (Bool.and_eq_true_iff.mp w1).2).1
                      · cases hpt
                    · split at hpt <;> cases hpt
                    · cases hpt
                  · cases hpt
                refine pw_catch hownL htab hfi hx3 (fun q hq => ?_) (va_tabs rfl rfl (hPT.2.2.1 _ (pt_ex_cast hx3))) hPT.2.2.2.1 hPT.2.2.2.2 hce hcv hcl9 ?_
                · have hq2 : q.2.2.2 ∈ ([13, 15, 21] : List Nat) := of_decide_eq_true (List.all_eq_true.mp hhx q hq)
                  refine ⟨fun z => by rw [z] at hq2; revert hq2; decide, ?_⟩
                  exact hts _ (hG _ (List.mem_filter.mpr ⟨of_decide_eq_true (List.all_eq_true.mp pw_lk _ hq2), rfl⟩))
                · unfold pw_hk at hk0
                  split at hk0
                  · rename_i j hfa
                    obtain ⟨hjm, hk0⟩ := pm_bifR hk0
                    split at hk0
                    · rename_i k1 hfb
                      obtain ⟨hfc, hk0⟩ := pm_bifR hk0
                      cases hk0
                      obtain ⟨n1, d1, e1⟩ := pm_decode hfa
                      obtain ⟨n2, d2, e2⟩ := pm_decode hfb
                      obtain ⟨n3, d3, e3⟩ := pm_decode (of_decide_eq_true hfc)
                      have e1 := e1.resolve_left (fun z => by cases z)
                      have e2 := e2.resolve_left (fun z => by cases z)
                      have e3 := e3.resolve_left (fun z => by cases z)
                      subst e1; subst e2; subst e3
                      refine lv_astore hx0 hb0 d1 hl1 (pm_blt hjm) rfl (fun ls2 hl2 => ?_)
                      refine lv_iconst hx0 hb0 d2 rfl ?_
                      exact W.iret hx0 hb0 B.returns (fun t' ht hW => ⟨rfl, ⟨by rw [ht]; exact hP2, hD2.weaken (fun _ q _ z => hFc q.1 z)⟩, hS2.F ht⟩) hS2.2.2 d3 B.notSynchronized
                    · cases hk0
                  · rename_i j hfa
                    obtain ⟨hjm, hk0⟩ := pm_bifR hk0
                    split at hk0
                    · rename_i k1 hfb
                      obtain ⟨hfc, hk0⟩ := pm_bifR hk0
                      cases hk0
                      obtain ⟨n1, d1, e1⟩ := pm_decode hfa
                      obtain ⟨n2, d2, e2⟩ := pm_decode hfb
                      obtain ⟨n3, d3, e3⟩ := pm_decode (of_decide_eq_true hfc)
                      have e1 := e1.resolve_left (fun z => by cases z)
                      have e2 := e2.resolve_left (fun z => by cases z)
                      have e3 := e3.resolve_left (fun z => by cases z)
                      subst e1; subst e2; subst e3
                      refine lv_astore_n hx0 hb0 d1 rfl hl1 (pm_blt hjm) rfl (fun ls2 hl2 => ?_)
                      refine lv_iconst hx0 hb0 d2 rfl ?_
                      exact W.iret hx0 hb0 B.returns (fun t' ht hW => ⟨rfl, ⟨by rw [ht]; exact hP2, hD2.weaken (fun _ q _ z => hFc q.1 z)⟩, hS2.F ht⟩) hS2.2.2 d3 B.notSynchronized
                    · cases hk0
                  · cases hk0
              · cases hrun
          · intro st t v0 locs2 hq hS2
            cases r with
            | inr r => exact hq.elim
            | inl r =>
              obtain ⟨v, h2⟩ := r
              obtain ⟨hv0, ⟨hP2, hD2⟩, hF2⟩ := hq
              have hv0 := Outcome.returned.inj hv0
              subst hv0
              dsimp only at hrun hP2 hD2 ⊢
              split at hrun
              · rename_i pc3 L3 S3 h3 hpp3
                rw [pm_toList_c, ← pm_cS_app]
                refine pp_body hinj hprim (pw_stop mi) n d mi (pc + 3) L (v.toList ++ S1) h2 pc3 L3 S3 h3 hpp3 p e _ s m _ below meth c t.heap locs2 ls1 (va_A (pm_W cy rho sw h) s.heap.size) _ 1 6 (pw_ws mi) hx0 hb0 hml hown hts hG ⟨Nat.le_succ _, by show d * 40 ≤ (d + 1) * 40; omega, Nat.le_refl _, Nat.le_refl _⟩ hK hP2 (hD2.weaken (fun _ q _ z => hFc q.1 z)) hS2 hA hKS hl1 ?_
                intro H3 locs3 ls3 hP3 hD3 hS3 hl3
                split at hrun
                · rename_i hfd3
                  split at hrun
                  · cases hrun
                    obtain ⟨len3, hdec3, hlen3⟩ := pm_decode hfd3
                    have hlen3 := hlen3.resolve_left (fun z => by cases z)
                    subst hlen3
                    exact W.iret hx0 hb0 B.returns (fun t' ht hW => ⟨rfl, ⟨by rw [ht]; exact hP3, hD3⟩, hS3.F ht⟩) hS3.2.2 hdec3 B.notSynchronized
                  · cases hrun
                · cases hrun
              · cases hrun
      · cases hrun
    · cases hrun
  · cases hrun
end PW2
end
section
/-! THE CLAIM OUT OF ONE WALK OF THE LAW'S BODY. Your part is whole_start (and what it stands on); all else here is the same for every law, but numbers. -/
def R_law : String := "QuietCheckerLaw"
def lw_P (b : Addr) (xs : List Int32) (args : Array Value) (s : State) : Prop := args = #[.ref b] ∧ s.IntsAt b xs ∧ xs.length ≤ 4 ∧ (Jvm.Cond.and given_1 narrow_1).before args s = true
def lw_Q (_ : Array Value) (s : State) (o : Outcome) (t : State) : Prop := o = .returned (some (.int 1)) ∧ Framed s o t [] 600002 7302231
def lw_Z (below : List Frame) (a : Array Value) (s : State) : State → Prop := fun t => ∃ o, t.status = .running ∧ Ended t below o ∧ lw_Q a s o t
/-- the law's own end, with 1 on the stack, nothing written that was there before, its room as the claim has it -/
theorem lw_ret {p : Program} {l : Launch} {e : Env} {s : State} {m : MethodId} {below : List Frame} {meth : Method} {c : Code} {b : Nat} (hx : p.tables.exec = Jvm.exec) (hb : c.code = code) (hr : meth.sig.returnType = ret) (hlocks : meth.locks = false) {pc : Nat} {H : Heap} {ls : Array Slot} (hdg : decode code pc = .ok (.ireturn, 1)) : W p l e room_1 s m #[Value.ref b] below meth c H [] 600002 7302231 (lw_Z below #[Value.ref b] s) (F0 m pc ls [.int 1]) := by
  intro T hT X
  obtain ⟨fs, hret, hrun, hended, hW, hframe⟩ := X.leave (v := some (.int 1)) (hlocks := hlocks) (fun h => by rw [hr] at h; cases h)
  have hmeth' : T.vm.method? m = some meth := X.method'
  refine ⟨T.setFrames fs, ?_, .returned (some (.int 1)), hrun, hended, rfl, ⟨_, rfl⟩, hW, hframe⟩
  jvm_step X.here [X.here.top, hx, hb, hdg, hmeth', hr, ret, narrow_b1]
  (try refine ⟨rfl, ?_⟩); (try refine ⟨rfl, ?_⟩)
  first | (intro acts; rw [hret _ acts rfl rfl rfl]) | rw [hret _ _ rfl rfl rfl]
  exact Steps.refl _
/-- what holds at the law's entry: the machine, the code, the tables' words (any of lw_tbl by 'hts w (by decide +kernel)'), the script of L ints xs at the cell b, what the Statement gives of the start (any of its parts by flat_of_before) -/
def lw_At (p : Program) (s : State) (m : MethodId) (meth : Method) (c : Code) (b L : Nat) (xs : Nat → Int32) : Prop :=
  p.tables.exec = Jvm.exec ∧ c.code = code ∧ meth.sig.returnType = ret ∧ c.maxLocals = 7 ∧ s.vm.findClass R_law = some m.cls ∧ (∀ w ∈ lw_tbl, w.before #[Value.ref b] s = true) ∧ va_X b L xs s s.heap ∧ b < s.heap.size ∧ meth.locks = false ∧ (Jvm.Cond.and given_1 narrow_1).before #[Value.ref b] s = true
/-- the law's calls of its wrappers: place, number -/
def pl_wvl : List (Nat × Nat) := [(53, 175), (62, 176), (66, 177), (69, 178), (73, 179), (76, 180)]
end
section
/-! The law's loop, run by the pure machine: script reads, calls of methods, calls of wrappers -/
def pl_scr (xs : Nat → Int32) (Ln : Nat) (i : Instr) (S : List Value) : Option (List Value) := match i with
  | .arraylength => match S with
    | .ref a :: S' => bif Nat.beq a 900 then some (.int (Int32.ofNat Ln) :: S') else none
    | _ => none
  | .iaload => match S with
    | .int j :: .ref a :: S' => bif Nat.beq a 900 && pm_inb j Ln then some (.int (xs j.toNatClampNeg) :: S') else none
    | _ => none
  | _ => none
def pl_wf : List (Nat × Nat) → Nat → Option Nat
  | [], _ => none
  | q :: l, k => bif Nat.beq q.1 k then some q.2 else pl_wf l k
def pl_wr (i : Instr) (S : List Value) : Option (Nat × List Value × List Value) := match i with
  | .invokestatic idx => match pl_wf pl_wvl idx with
    | some mi => bif Nat.beq (S.take (pm_np mi)).length (pm_np mi) && (Nat.ble (pm_cats (S.drop (pm_np mi))) 8 && Nat.ble (lg_sl (S.take (pm_np mi)).reverse).length (pm_mx mi)) then some (mi, (S.take (pm_np mi)).reverse, S.drop (pm_np mi)) else none
    | none => none
  | _ => none
/-- where the law's own steps stop: at the script, at a wrapper, at its end -/
def pl_stop (pc : Nat) : Bool := match pm_fd (pm_code 174) pc with
  | some .arraylength => true
  | some .iaload => true
  | some (.invokestatic _) => true
  | some .ireturn => true
  | _ => false
def pl_run (xs : Nat → Int32) (Ln : Nat) : Nat → Nat → Nat → pm_L → List Value → pm_H → Option Int32
  | 0, _, _, _, _, _ => none
  | n + 1, x, pc, L, S, h => match pm_fd (pm_code 174) pc with
    | none => none
    | some i => match pl_scr xs Ln i S with
      | some S' => pl_run xs Ln n x (pc + pm_ln i) L S' h
      | none => match pl_wr i S with
        | some (mi, as, S') => (match pw_run pm_swA n 1000 mi as h with
          | some (k, h') => bif Nat.blt x 400 then pl_run xs Ln n (x + 1) (pc + 3) L (.int k :: S') h' else none
          | none => none)
        | none => match i with
          | .ireturn => (match S with
            | [.int k] => some k
            | _ => none)
          | _ => (match pp_run pm_swA pl_stop n 1000 174 pc L S h with
            | some (pc', L', S', h') => pl_run xs Ln n x pc' L' S' h'
            | none => none)
theorem pl_wf_mem : ∀ {l : List (Nat × Nat)} {k a : Nat}, pl_wf l k = some a → (k, a) ∈ l := by
  intro l
  induction l with
  | nil => intro k a h; cases h
  | cons q l ih =>
    intro k a h
    unfold pl_wf at h
    cases hb : Nat.beq q.1 k with
    | true =>
      rw [hb] at h
      have h1 : q.1 = k := Nat.eq_of_beq_eq_true hb
      have h2 : q.2 = a := Option.some.inj h
      obtain ⟨q1, q2⟩ := q
      dsimp only at h1 h2
      subst h1; subst h2
      exact List.mem_cons_self
    | false =>
      rw [hb] at h
      exact List.mem_cons_of_mem _ (ih h)
set_option maxRecDepth 100000 in
theorem pl_wchk : pl_wvl.all (fun q => (Nat.ble 175 q.2 && Nat.blt q.2 181) && ((decide (Cond.methodLink "QuietCheckerLaw" q.1 (pm_nm q.2) ∈ lw_tbl) && decide (Cond.static (pm_nm q.2) ∈ lw_tbl)) && ((decide (Cond.initialized (pm_nm q.2).cls ∈ lw_tbl) && decide (Cond.codeWith (pm_nm q.2) (pm_by q.2) (pm_mx q.2) (some .int) (pw_hh q.2) ∈ lw_tbl)) && (decide ((parseMethodDescriptor (pm_nm q.2).desc).map (fun d => d.parameters.length) = some (pm_np q.2)) && (Nat.ble (pm_mx q.2) 20 && (decide ((pm_nm q.2).cls ≠ "java/lang/invoke/MethodHandle") && decide ((pm_nm q.2).cls ≠ "java/lang/invoke/VarHandle"))))))) = true := by decide +kernel
theorem pl_sub : ∀ w ∈ pm_G, w ∈ lw_tbl := fun w hw => (List.mem_filter.mp hw).1
section PL1
variable {l : Launch} {rho : Nat → Nat} {D : va_G} {cy : Nat → ClassId}
def pl_Bd (l : Launch) (rho : Nat → Nat) (D : va_G) (cy : Nat → ClassId) (xs : Nat → Int32) (Ln : Nat) (n : Nat) : Prop :=
  ∀ (x pc : Nat) (L : pm_L) (S : List Value) (h : pm_H), pl_run xs Ln n x pc L S h = some 1 → x ≤ 400 →
  ∀ (p : Program) (e : Env) (s : State) (m : MethodId) (b : Nat) (below : List Frame) (meth : Method) (c : Code) (H : Heap) (locs : List Loc) (ls : Array Slot) (cells slots : Nat),
  lw_At p s m meth c b Ln xs → rho 900 = b → cells + (500 - x) ≤ 600002 → slots + 6 * (500 - x) ≤ 7302231 →
  va_K D pm_cl (pm_tys cy) s → va_P D pm_cl (pm_W cy rho pm_swA h) H → va_D (fun q : Nat => s.heap.size ≤ q) (pm_W cy rho pm_swA h) → va_S (fun q : Nat => s.heap.size ≤ q) s.heap H locs → pm_KS rho (fun q : Nat => s.heap.size ≤ q) s s.heap → pt_K (fun q : Nat => s.heap.size ≤ q) s s.heap → lv_has ls (pm_mx 174) (pm_cL rho L) →
  W p l e room_1 s m #[Value.ref b] below meth c H locs cells slots (lw_Z below #[Value.ref b] s) (F0 m pc ls (pm_cS rho S))
set_option maxHeartbeats 4000000 in
theorem pl_body (hinj : ∀ a b, pm_kc a = true → pm_kc b = true → rho a = rho b → a = b) (hprim : ∀ (mj : Nat) (as : List Value) (v : Value), pm_prim mj as = some v → ∀ (h : pm_H) (sz : Nat), Met l (pm_nm mj) (pm_ws mj) (pm_rm 4) (va_Pc (pm_cS rho as) (pm_B rho D cy pm_swA h sz)) (pm_Q rho D cy pm_swA h sz (some v) h) 0 0 (va_A (pm_W cy rho pm_swA h) sz)) (htr : l.stackTraces = false) (xs : Nat → Int32) (Ln : Nat) : ∀ n, pl_Bd l rho D cy xs Ln n := by
  intro n
  induction n with
  | zero => intro x pc L S h hrun; cases hrun
  | succ n ih =>
    intro x pc L S h hrun hx4 p e s m b below meth c H locs ls cells slots C0 hrb hcl hsl hK hP hD hS hKS hPT hl
    obtain ⟨hx, hb0, hr, hml, hown0, hts, hX, hbl, hlocks, hgv⟩ := id C0
    have hb : c.code = pm_by 174 := hb0
    have hown : s.vm.findClass (pm_on 12) = some m.cls := hown0
    have hA : ∀ q : Nat, s.heap.size ≤ q → (fun q : Nat => s.heap.size ≤ q) q := fun _ h => h
    have hbA : ¬ (fun q : Nat => s.heap.size ≤ q) b := Nat.not_le.mpr hbl
    have hG := pl_sub
    unfold pl_run at hrun
    cases hfd : pm_fd (pm_code 174) pc with
    | none => rw [hfd] at hrun; cases hrun
    | some i =>
      rw [hfd] at hrun
      dsimp only at hrun
      obtain ⟨len, hdec, hlen⟩ := pm_decode hfd
      have hd1 : pm_ln i ≠ 0 → decode (pm_by 174) pc = .ok (i, pm_ln i) := fun z => by
        rcases hlen with h1 | h1
        · exact absurd h1 z
        · rw [hdec, h1]
      cases h0 : pl_scr xs Ln i S with
      | some S1 =>
        rw [h0] at hrun
        have hdg := hd1 (fun z => by unfold pl_scr at h0; split at h0 <;> first | cases z | cases h0)
        have kk := ih x _ L S1 h hrun hx4 p e s m b below meth c H locs ls cells slots C0 hrb hcl hsl hK hP hD hS hKS hPT hl
        unfold pl_scr at h0
        split at h0
        · split at h0
          · rename_i a S2
            obtain ⟨g1, rfl⟩ := pm_bif h0
            have g1 := Nat.eq_of_beq_eq_true g1
            subst g1
            show W p l e room_1 s m #[Value.ref b] below meth c H locs cells slots (lw_Z below #[Value.ref b] s) (F0 m pc ls (.ref (rho 900) :: pm_cS rho S2))
            rw [hrb]
            exact va_slen hx hb hX hbl hbA hS hdg kk
          · cases h0
        · split at h0
          · rename_i j a S2
            obtain ⟨g0, rfl⟩ := pm_bif h0
            obtain ⟨g1, g2⟩ := Bool.and_eq_true_iff.mp g0
            have g1 := Nat.eq_of_beq_eq_true g1
            subst g1
            show W p l e room_1 s m #[Value.ref b] below meth c H locs cells slots (lw_Z below #[Value.ref b] s) (F0 m pc ls (.int j :: .ref (rho 900) :: pm_cS rho S2))
            rw [hrb]
            exact va_sld hx hb hX hbl hbA hS (pm_inb_vp g2) hdg kk
          · cases h0
        · cases h0
      | none =>
        rw [h0] at hrun
        dsimp only at hrun
        cases hw : pl_wr i S with
        | some q =>
          obtain ⟨mi, as, S1⟩ := q
          rw [hw] at hrun
          dsimp only at hrun
          split at hrun
          · rename_i k h' hpw
            obtain ⟨hx5, hrun⟩ := pm_bifR hrun
            have hx5 := pm_blt hx5
            unfold pl_wr at hw
            split at hw
            · rename_i idx
              have hdg := hd1 (fun z => by cases z)
              split at hw
              · rename_i mi0 hwf
                obtain ⟨hg, he⟩ := pm_bif hw
                cases he
                obtain ⟨g1, g2⟩ := Bool.and_eq_true_iff.mp hg
                obtain ⟨g3, g4⟩ := Bool.and_eq_true_iff.mp g2
                have hck := List.all_eq_true.mp pl_wchk _ (pl_wf_mem hwf)
                simp only [Bool.and_eq_true, decide_eq_true_eq] at hck
                obtain ⟨⟨m1, m2⟩, ⟨w1, w2⟩, ⟨w3, w4⟩, w5, w6, w7, w8⟩ := hck
                have m1 := Nat.le_of_ble_eq_true m1
                have m2 := pm_blt m2
                have w6 := Nat.le_of_ble_eq_true w6
                have hM := pw_met (l := l) (rho := rho) (D := D) (cy := cy) (sw := pm_swA) hinj hprim htr hpw m1 m2 (by omega) (Nat.le_of_ble_eq_true g4) H.size
                obtain ⟨hFc, hpre⟩ := pt_pre hK hP hD hS hA hKS hPT
                have hgood : GoodIn lw_tbl (va_wsS "QuietCheckerLaw" idx (pm_nm mi) (pw_ws mi)) := by
                  intro w hw
                  unfold va_wsS pw_ws at hw
                  simp only [List.cons_append, List.nil_append, List.mem_cons] at hw
                  rcases hw with rfl | rfl | rfl | rfl | hw
                  · exact ⟨w1, Or.inl rfl⟩
                  · exact ⟨w2, Or.inl rfl⟩
                  · exact ⟨w3, Or.inl rfl⟩
                  · exact ⟨w4, Or.inl rfl⟩
                  · exact ⟨hG w hw, pm_good_G w hw⟩
                have cw := vx_cwSW (R := room_1) (own := "QuietCheckerLaw") (index := idx) (y := pm_nm mi) (bytes := pm_by mi) (maxL := pm_mx mi) (ret := some .int) (hh := pw_hh mi) (rm := pn_rm (1000 + 1) 1 6) (mc := 1) (ms := 6) (pm_np mi) hts hgood rfl rfl rfl ⟨w7, w8, w5⟩ ⟨by show 1001 + 1 ≤ 2048; omega, by show 8 + (pm_mx mi + 11) + 1001 * 40 ≤ 84000; omega⟩
                have hrn := vx_runSW (As := pm_cS rho (S.take (pm_np mi)).reverse) (rest := pm_cS rho (S.drop (pm_np mi))) (g := F0 m pc ls (pm_cS rho S)) (p := p) (e := e) (below := below) (meth := meth) (locs := locs) (cells := cells) (slots := slots) (H := H) ⟨hx, hb, hml, hown0, hts⟩ hM cw ⟨pt_blind, fun U hU hW => ⟨rfl, hpre U hU hW⟩⟩ rfl (by
                  unfold pm_cS
                  rw [List.length_map, List.length_reverse]
                  exact Nat.eq_of_beq_eq_true g1) hl.1 (by
                  show pm_cS rho S = (pm_cS rho (S.take (pm_np mi)).reverse).reverse ++ pm_cS rho (S.drop (pm_np mi))
                  rw [pm_cS_rev, List.reverse_reverse]
                  calc pm_cS rho S = pm_cS rho (S.take (pm_np mi) ++ S.drop (pm_np mi)) := by rw [List.take_append_drop]
                    _ = _ := pm_cS_app rho _ _) (lv_room (by rw [pm_cats_c]; exact Nat.le_of_ble_eq_true g3)) hdg ⟨by show cells + 1 ≤ 600002; omega, by show slots + 6 ≤ 7302231; omega⟩
                refine pn_callk (B := fun t => va_P D pm_cl (pm_W cy rho pm_swA h') t.heap ∧ va_D (va_A (pm_W cy rho pm_swA h) H.size) (pm_W cy rho pm_swA h')) (A1 := va_A (pm_W cy rho pm_swA h) H.size) (v0 := some (.int k)) hrn ?_ hS (fun q _ z => hFc q z) hFc ?_
                · intro st w t hq
                  obtain ⟨q1, q2, q3⟩ := hq
                  exact ⟨Outcome.returned.inj q1, q2, q3⟩
                · intro t locs1 hBt hS1 _ _ _
                  exact ih (x + 1) (pc + 3) L (.int k :: S.drop (pm_np mi)) h' hrun (by omega) p e s m b below meth c t.heap locs1 ls (cells + 1) (slots + 6) C0 hrb (by omega) (by omega) hK hBt.1 (hBt.2.weaken (fun _ q _ z => hFc q.1 z)) hS1 hKS hPT hl
              · cases hw
            · cases hw
          · cases hrun
        | none =>
          rw [hw] at hrun
          dsimp only at hrun
          split at hrun
          · split at hrun
            · cases hrun
              have hdg := hd1 (fun z => by cases z)
              refine va_forget (fun q hq => hS.2.2 q hq) ?_
              refine W.widen (k := 600002) (n := 7302231) (by omega) (by omega) ?_
              exact lw_ret hx hb0 hr hlocks hdg
            · cases hrun
          · split at hrun
            · rename_i pc1 L1 S1 h1 hpp
              refine pp_body hinj hprim pl_stop n 1000 174 pc L S h pc1 L1 S1 h1 hpp p e room_1 s m _ below meth c H locs ls (fun q : Nat => s.heap.size ≤ q) _ cells slots lw_tbl hx hb hml hown hts hG ⟨by show 1000 ≤ 2048; omega, by show 1000 * 40 ≤ 84000; omega, by show cells ≤ 600002; omega, by show slots ≤ 7302231; omega⟩ hK hP hD hS hA hKS hl ?_
              intro H1 locs1 ls1 hP1 hD1 hS1 hl1
              exact ih x pc1 L1 S1 h1 hrun hx4 p e s m b below meth c H1 locs1 ls1 cells slots C0 hrb hcl hsl hK hP1 hD1 hS1 hKS hPT hl1
            · cases hrun
end PL1
end
section
/-! The law's beginning: two constructors, one array; then its loop -/
theorem pl_dec {pc : Nat} {i : Instr} (h : pm_fd (pm_code 174) pc = some i) (hn : pm_ln i ≠ 0) : decode (pm_by 174) pc = .ok (i, pm_ln i) := by
  obtain ⟨len, hd, hl⟩ := pm_decode h
  rcases hl with h1 | h1
  · exact absurd h1 hn
  · rw [hd, h1]
set_option maxRecDepth 100000 in
theorem pl_c0 : (decide (Cond.classLink "QuietCheckerLaw" 8 (pm_on 5) ∈ lw_tbl) && (decide (Cond.classLink "QuietCheckerLaw" 38 (pm_on 6) ∈ lw_tbl) && (decide (Cond.methodLink "QuietCheckerLaw" 37 (pn_nm 5) ∈ lw_tbl) && decide (Cond.methodLink "QuietCheckerLaw" 40 (pn_nm 6) ∈ lw_tbl)))) = true := by decide +kernel
section PL2
variable {l : Launch} {rho : Nat → Nat} {D : va_G} {cy : Nat → ClassId} {p : Program} {e : Env} {s : State} {m : MethodId} {b : Nat} {below : List Frame} {meth : Method} {c : Code} {H : Heap} {locs : List Loc} {cells slots : Nat} {Q : State → Prop} {ls : Array Slot} {rest : List Value} {Ln : Nat} {xs : Nat → Int32} {sw sw' : List (Nat × Nat)} {h h' : pm_H}
/-- new, in the law -/
theorem pl_new (C0 : lw_At p s m meth c b Ln xs) {pc idx ci : Nat} (hci : ci < 7) (hfd : pm_fd (pm_code 174) pc = some (.new idx)) (hlink : Cond.classLink "QuietCheckerLaw" idx (pm_on ci) ∈ lw_tbl) (hK : va_K D pm_cl (pm_tys cy) s) (hP : va_P D pm_cl (pm_W cy rho sw h) H) (hD : va_D (fun q : Nat => s.heap.size ≤ q) (pm_W cy rho sw h)) (hS : va_S (fun q : Nat => s.heap.size ≤ q) s.heap H locs) (hsz : H.size = rho sw.length) (hc : cells + 1 ≤ 600002) (hs : slots + (pm_clN ci).2.2 ≤ 7302231)
    (k : ∀ (H1 : Heap), va_P D pm_cl (pm_W cy rho (sw ++ [(10 + ci, 0)]) (pn_zero h sw.length)) H1 → va_D (fun q : Nat => s.heap.size ≤ q) (pm_W cy rho (sw ++ [(10 + ci, 0)]) (pn_zero h sw.length)) → va_S (fun q : Nat => s.heap.size ≤ q) s.heap H1 locs → H1.size = H.size + 1 → W p l e room_1 s m #[Value.ref b] below meth c H1 locs (cells + 1) (slots + (pm_clN ci).2.2) Q (F0 m (pc + 3) ls (.ref (rho sw.length) :: rest))) : W p l e room_1 s m #[Value.ref b] below meth c H locs cells slots Q (F0 m pc ls rest) := by
  obtain ⟨hx, hb0, hr, hml, hown0, hts, hX, hbl, hlocks, hgv⟩ := id C0
  have hb : c.code = pm_by 174 := hb0
  have hA1 := List.all_eq_true.mp pn_mA ci (List.mem_range.mpr hci)
  simp only [Bool.and_eq_true, decide_eq_true_eq] at hA1
  obtain ⟨-, w2, w3, -, -, -, -, -, -, -, w4⟩ := hA1
  have hKn := hK.1 ci _ (pm_cl_at hci)
  rw [← hsz] at k
  refine W.newcK (C := pm_on ci) (n := (pm_clN ci).2.2) hx hb hown0 (hts _ hlink) (hts _ (pl_sub _ (pm_mem w3))) (hts _ (pl_sub _ (pm_mem w2))) rfl (pl_dec hfd (fun z => by cases z)) hc hs (by rw [← w4]; exact hKn.2.1) rfl fun H1 kC hkC e1 z1 o1 => ?_
  obtain ⟨r1, r2, r3⟩ := pn_grown (sh := (10 + ci, 0)) hP hD hS (fun _ z => z) hsz z1 o1 (by
    rw [pm_E_O rfl]
    refine ⟨pm_clN ci, pm_cl_at hci, ?_⟩
    rw [hsz] at e1
    refine (u_born (pm_clY ci) hts (fun w hw => pl_sub w (pm_uw hci w hw)) hKn hkC e1 (pm_cl_ty hci)).to (fun j hj => ?_)
    have hft : (pm_ft ci)[j]? = some (pm_clY ci j) := by
      rw [pm_ft_ok ci hci, List.getElem?_map, List.getElem?_range hj]
      rfl
    have hok : pn_oky (pm_clY ci j) = true := List.all_eq_true.mp (List.all_eq_true.mp pn_oky_all ci (List.mem_range.mpr hci)) _ (List.mem_of_getElem? hft)
    show _ = (pm_fs rho (pn_zero h sw.length) sw.length ci).getD j .null
    rw [List.getD_eq_getElem?_getD, pm_fs_at hft, pn_dflt (rho := rho) (h := h) (i := sw.length) (k := j) hok]
    rfl)
  exact k H1 r1 r2 r3 z1
/-- a constructor without arguments, called by the law -/
theorem pl_ctor (C0 : lw_At p s m meth c b Ln xs) (hrho : ∀ i, i < 400 → rho (i + 1) = rho i + 1) {pc idx cj a n : Nat} (hj : cj < 7) (hfd : pm_fd (pm_code 174) pc = some (.invokespecial idx)) (hlink : Cond.methodLink "QuietCheckerLaw" idx (pn_nm cj) ∈ lw_tbl) (hnp : pn_np cj = 0) (hmx : 1 ≤ pn_mx cj) (hrun : pn_run n 6 cj 0 (lv_args 0 [.ref a]) [] sw h = some (sw', h')) (hl0 : 0 < sw.length) (h400 : sw.length ≤ 400) (hK : va_K D pm_cl (pm_tys cy) s) (hP : va_P D pm_cl (pm_W cy rho sw h) H) (hD : va_D (fun q : Nat => s.heap.size ≤ q) (pm_W cy rho sw h)) (hS : va_S (fun q : Nat => s.heap.size ≤ q) s.heap H locs) (hKS : pm_KS rho (fun q : Nat => s.heap.size ≤ q) s s.heap) (hAO : va_AO "QuietChecker$Kind" s) (hsz : H.size = rho sw.length) (hls : ls.size = 7) (hcat : (rest.map fun v => v.category).sum ≤ 8) (hc : cells + (sw'.length - sw.length) ≤ 600002) (hs : slots + (pn_tot sw' - pn_tot sw) ≤ 7302231) (hcnt : rho sw.length = s.heap.size + cells)
    (k : ∀ (H1 : Heap) (locs1 : List Loc), va_P D pm_cl (pm_W cy rho sw' h') H1 → va_D (fun q : Nat => s.heap.size ≤ q) (pm_W cy rho sw' h') → va_S (fun q : Nat => s.heap.size ≤ q) s.heap H1 locs1 → H1.size = rho sw'.length → W p l e room_1 s m #[Value.ref b] below meth c H1 locs1 (cells + (sw'.length - sw.length)) (slots + (pn_tot sw' - pn_tot sw)) Q (F0 m (pc + 3) ls rest)) : W p l e room_1 s m #[Value.ref b] below meth c H locs cells slots Q (F0 m pc ls (.ref (rho a) :: rest)) := by
  obtain ⟨hx, hb0, hr, hml, hown0, hts, hX, hbl, hlocks, hgv⟩ := id C0
  have hb : c.code = pm_by 174 := hb0
  have hA1 := List.all_eq_true.mp pn_mA cj (List.mem_range.mpr hj)
  simp only [Bool.and_eq_true, decide_eq_true_eq] at hA1
  obtain ⟨w1, w2, -, -, wcls, wini, wpar, wmx, wn1, wn2, -⟩ := hA1
  have hmx2 := Nat.le_of_ble_eq_true wmx
  obtain ⟨m1, m2⟩ := pn_mono _ _ _ _ _ _ _ _ _ _ hrun
  have h402 := pn_le400 _ _ _ _ _ _ _ _ _ _ hrun h400
  have hr2 := pn_rho_add hrho sw.length (sw'.length - sw.length) (by omega)
  rw [show sw.length + (sw'.length - sw.length) = sw'.length by omega] at hr2
  have hM := pn_met_of (l := l) (rho := rho) (D := D) (cy := cy) (pn_body hrho n) hrun hj hl0 h400 (show 1 ≤ pn_mx cj from hmx)
  have hFc : ∀ q, va_A (pm_W cy rho sw h) (rho sw.length) q → s.heap.size ≤ q := by
    intro q hq
    rcases hq with ⟨k, en, hk⟩ | hq
    · exact hD.2 k _ hk
    · rw [← hsz] at hq; exact Nat.le_trans hS.1 hq
  have hKS1 : pm_KS rho (va_A (pm_W cy rho sw h) (rho sw.length)) s H := (hKS.kept hS.2.1).narrow hFc
  have hpre : ∀ U : State, U.heap = H → s.WarmedH U.vm → pn_B rho D cy sw h U := by
    intro U hU hW
    refine ⟨⟨by rw [hU, hsz], by rw [hU]; exact hP, va_K.moved hW.alike hK, hD.weaken (fun _ _ _ _ => trivial), ?_⟩, va_AO.moved hW.alike hAO⟩
    rw [hU]
    exact pm_KS.moved hW.alike hKS1
  have hgood : GoodIn lw_tbl (pn_ws cj) := by
    intro w hw
    have hw2 : w ∈ pm_G := by
      rcases List.mem_cons.mp hw with rfl | h1
      · exact pn_G_all hj
      · exact h1
    exact ⟨pl_sub w hw2, pm_good_G w hw2⟩
  have cb : CallB room_1 s #[Value.ref b] "QuietCheckerLaw" idx (pn_nm cj) (pn_by cj) (pn_mx cj) none (pn_ws cj) (pn_rm 6 (sw'.length - sw.length) (pn_tot sw' - pn_tot sw)) (sw'.length - sw.length) (pn_tot sw' - pn_tot sw) 0 := callB_of 0 hts hgood rfl rfl rfl (by rw [wcls]; exact hts _ (pl_sub _ (pm_mem w2))) (hts _ hlink) ⟨wn1, wn2, by rw [hnp] at wpar; exact wpar⟩ ⟨by show 6 + 1 ≤ 2048; omega, by show 8 + (pn_mx cj + 11) + 6 * 40 ≤ 84000; omega⟩
  have hrn := va_runI (b := rho a) (As := []) (rest := rest) (g := F0 m pc ls (.ref (rho a) :: rest)) (p := p) (e := e) (below := below) (meth := meth) (locs := locs) (cells := cells) (slots := slots) (H := H) ⟨hx, hb, hml, hown0, hts⟩ hM ⟨cb, wini, hts _ (pl_sub _ (pm_mem w1))⟩ ⟨pn_blind, fun U hU hW => ⟨rfl, hpre U hU hW⟩⟩ rfl rfl hls rfl (lv_room hcat) (pl_dec hfd (fun z => by cases z)) ⟨hc, hs⟩
  refine pn_callk (B := fun t => va_P D pm_cl (pm_W cy rho sw' h') t.heap ∧ va_D (va_A (pm_W cy rho sw h) (rho sw.length)) (pm_W cy rho sw' h')) (A1 := va_A (pm_W cy rho sw h) (rho sw.length)) (v0 := none) hrn ?_ hS (fun q _ z => hFc q z) hFc ?_
  · intro st w t hq
    obtain ⟨q1, q2, q3⟩ := hq
    exact ⟨Outcome.returned.inj q1, q2, q3⟩
  · intro t locs1 hBt hS1 _ _ _
    refine pn_sizes (fun hup => ?_)
    have hlo : rho (sw'.length - 1) < t.heap.size := (hBt.1 (sw'.length - 1) _ (pm_W_at (by omega))).lt
    have hr1 := hrho (sw'.length - 1) (by omega)
    rw [show sw'.length - 1 + 1 = sw'.length by omega] at hr1
    exact k t.heap locs1 hBt.1 (hBt.2.weaken (fun _ q _ z => hFc q.1 z)) hS1 (by omega)
end PL2
end
section
set_option maxRecDepth 100000 in
theorem pl_tots : pn_tot pm_swC ≤ 100000 ∧ pn_tot (pm_swC ++ [(16, 0)]) ≤ 200000 ∧ pn_tot (pm_swC ++ pm_swM) ≤ 300000 ∧ pn_tot [(15, 0)] ≤ 100 := by decide +kernel
set_option maxRecDepth 100000 in
set_option maxHeartbeats 4000000 in
/-- the law from its entry, out of the run of its loop -/
theorem pl_start {l : Launch} {rho : Nat → Nat} {D : va_G} {cy : Nat → ClassId} {p : Program} {e : Env} {s : State} {m : MethodId} {b : Nat} {below : List Frame} {meth : Method} {c : Code} {Ln : Nat} {xs : Nat → Int32} {n : Nat} (hinj : ∀ a b, pm_kc a = true → pm_kc b = true → rho a = rho b → a = b) (hprim : ∀ (mj : Nat) (as : List Value) (v : Value), pm_prim mj as = some v → ∀ (h : pm_H) (sz : Nat), Met l (pm_nm mj) (pm_ws mj) (pm_rm 4) (va_Pc (pm_cS rho as) (pm_B rho D cy pm_swA h sz)) (pm_Q rho D cy pm_swA h sz (some v) h) 0 0 (va_A (pm_W cy rho pm_swA h) sz)) (htr : l.stackTraces = false)
    (hrun : pl_run xs Ln n 0 20 [(3, .ref 74), (2, .ref 39), (1, .ref 0), (0, .ref 900)] [] pm_hA = some 1) (C0 : lw_At p s m meth c b Ln xs) (hr9 : rho 900 = b) (hr0 : ∀ i, i ≤ 400 → rho i = s.heap.size + i) (hK : va_K D pm_cl (pm_tys cy) s) (hKS : pm_KS rho (fun q : Nat => s.heap.size ≤ q) s s.heap) (hPT : pt_K (fun q : Nat => s.heap.size ≤ q) s s.heap) (hAO : va_AO "QuietChecker$Kind" s) :
    W p l e room_1 s m #[Value.ref b] below meth c s.heap [] 0 0 (lw_Z below #[Value.ref b] s) (entryFrame m ([Value.ref b] : List Value).toArray 7) := by
  obtain ⟨hx, hb0, hr, hml, hown0, hts, hX, hbl, hlocks, hgv⟩ := id C0
  have hb : c.code = pm_by 174 := hb0
  have hrho : ∀ i, i < 400 → rho (i + 1) = rho i + 1 := fun i hi => by rw [hr0 (i + 1) (by omega), hr0 i (by omega)]; omega
  have hw := pl_c0
  simp only [Bool.and_eq_true, decide_eq_true_eq] at hw
  obtain ⟨k1, k2, k3, k4⟩ := hw
  obtain ⟨t1, t2, t3, t4⟩ := pl_tots
  have hP : va_P D pm_cl (pm_W cy rho [] pm_h0) s.heap := fun k q h => by simp [pm_W] at h
  have hD : va_D (fun q : Nat => s.heap.size ≤ q) (pm_W cy rho [] pm_h0) := ⟨fun i j p q h => by simp [pm_W] at h, fun k q h => by simp [pm_W] at h⟩
  have hl := lv_entry ([.ref b]) (n := 7) (Nat.le_of_ble_eq_true rfl)
  rw [lg_entry_eq]
  generalize (lg_sl ([.ref b]) ++ List.replicate (7 - (lg_sl ([.ref b])).length) Slot.unset).toArray = ls at hl ⊢
  have hl : lv_has ls 7 (pm_cL rho [(0, .ref 900)]) := by
    show lv_has ls 7 [(0, .ref (rho 900))]
    rw [hr9]
    exact hl
  refine pl_new (ci := 5) (sw := []) (h := pm_h0) (rho := rho) (cy := cy) (D := D) C0 (by decide) (by rfl) k1 hK hP hD va_S.rf (hr0 0 (by decide)).symm (by omega) (by show 0 + 11 ≤ 7302231; omega) (fun H1 hP1 hD1 hS1 z1 => ?_)
  have hlc : rho ([] : List (Nat × Nat)).length = rho 0 := rfl
  refine lv_dup hx hb (pl_dec (pc := 3) (i := .dup) (by rfl) (by decide)) rfl ?_
  refine pl_ctor (n := 400) (a := 0) (cj := 5) (sw := [(15, 0)]) (sw' := pm_swC) (h := pn_zero pm_h0 0) (h' := pm_hC) C0 hrho (by decide) (by rfl) k3 (by rfl) (by decide) pn_runC (by decide) (by decide) hK hP1 hD1 hS1 hKS hAO (by rw [z1]; exact (hr0 1 (by decide)).symm) hl.1 (Nat.le_of_ble_eq_true rfl) (by show 0 + 1 + (39 - 1) ≤ 600002; omega) (by show 0 + 11 + (pn_tot pm_swC - pn_tot [(15, 0)]) ≤ 7302231; omega) (hr0 1 (by decide)) (fun H2 locs2 hP2 hD2 hS2 z2 => ?_)
  refine lv_astore_n (lv' := pm_cL rho [(1, .ref 0), (0, .ref 900)]) hx hb (pl_dec (pc := 7) (i := .astore_n 1) (by rfl) (by decide)) rfl hl (by decide) rfl (fun ls1 hl1 => ?_)
  refine pl_new (ci := 6) (sw := pm_swC) (h := pm_hC) (rho := rho) (cy := cy) (D := D) C0 (by decide) (by rfl) k2 hK hP2 hD2 hS2 z2 (by show 0 + 1 + (39 - 1) + 1 ≤ 600002; omega) (by show 0 + 11 + (pn_tot pm_swC - pn_tot [(15, 0)]) + 64 ≤ 7302231; omega) (fun H3 hP3 hD3 hS3 z3 => ?_)
  refine lv_dup hx hb (pl_dec (pc := 11) (i := .dup) (by rfl) (by decide)) rfl ?_
  have h39 : rho pm_swC.length = s.heap.size + 39 := hr0 39 (by decide)
  refine pl_ctor (n := 400) (a := 39) (cj := 6) (sw := pm_swC ++ [(16, 0)]) (sw' := pm_swC ++ pm_swM) (h := pn_zero pm_hC 39) (h' := pm_hM) C0 hrho (by decide) (by rfl) k4 (by rfl) (by decide) pn_runM (by decide) (by decide) hK hP3 hD3 hS3 hKS hAO (by rw [z3, z2, h39]; exact (hr0 40 (by decide)).symm) hl1.1 (Nat.le_of_ble_eq_true rfl) (by show 0 + 1 + (39 - 1) + 1 + (74 - 40) ≤ 600002; omega) (by show 0 + 11 + (pn_tot pm_swC - pn_tot [(15, 0)]) + 64 + (pn_tot (pm_swC ++ pm_swM) - pn_tot (pm_swC ++ [(16, 0)])) ≤ 7302231; omega) (hr0 40 (by decide)) (fun H4 locs4 hP4 hD4 hS4 z4 => ?_)
  refine lv_astore_n (lv' := pm_cL rho [(2, .ref 39), (1, .ref 0), (0, .ref 900)]) hx hb (pl_dec (pc := 15) (i := .astore_n 2) (by rfl) (by decide)) rfl hl1 (by decide) rfl (fun ls2 hl2 => ?_)
  refine lv_iconst (v := 1) hx hb (pl_dec (pc := 16) (i := .iconst 1) (by rfl) (by decide)) (by decide) ?_
  refine pn_mk_snd (ow := 12) (sw := pm_swC ++ pm_swM) (h := pm_hM) (S := [.int 1]) (S' := []) (sh := (4, 1)) (Ts := lw_tbl) hx hb hts pl_sub hown0 hK hP4 hD4 hS4 (fun _ z => z) z4 hAO (pl_dec (pc := 17) (i := .newarray .long) (by rfl) (by decide)) (by rfl) (by show 0 + 1 + (39 - 1) + 1 + (74 - 40) + 1 ≤ 600002; omega) (by show 0 + 11 + (pn_tot pm_swC - pn_tot [(15, 0)]) + 64 + (pn_tot (pm_swC ++ pm_swM) - pn_tot (pm_swC ++ [(16, 0)])) + 1 ≤ 7302231; omega) (fun H5 hP5 hD5 hS5 z5 => ?_)
  refine lv_astore_n (lv' := pm_cL rho [(3, .ref 74), (2, .ref 39), (1, .ref 0), (0, .ref 900)]) hx hb (pl_dec (pc := 19) (i := .astore_n 3) (by rfl) (by decide)) rfl hl2 (by decide) rfl (fun ls3 hl3 => ?_)
  exact pl_body hinj hprim htr xs Ln n 0 20 _ [] pm_hA hrun (by omega) p e s m b below meth c H5 locs4 ls3 _ _ C0 hr9 (by show 0 + 1 + (39 - 1) + 1 + (74 - 40) + 1 + (500 - 0) ≤ 600002; omega) (by show 0 + 11 + (pn_tot pm_swC - pn_tot [(15, 0)]) + 64 + (pn_tot (pm_swC ++ pm_swM) - pn_tot (pm_swC ++ [(16, 0)])) + 1 + 6 * (500 - 0) ≤ 7302231; omega) hK hP5 hD5 hS5 hKS hPT hl3
end
section
/-! What holds at the law's start: the kinds, the tables, the addresses -/
abbrev pq_FL : List Cond := flatC (Jvm.Cond.and given_1 narrow_1)
def pq_nm (i : Nat) : String := (pm_kst.getD i ("", "", "", 0)).2.1
def pq_tm (i : Nat) : Term := .static "QuietChecker$Kind" (pq_nm i) "LQuietChecker$Kind;"
def pq_lv (i : Nat) : Int32 := match pm_kv pm_kof (1000 + i) 1 with
  | some (.int x) => x
  | _ => 0
def pq_op (i : Nat) : Int32 := match pm_kv pm_kof (1000 + i) 2 with
  | some (.int x) => x
  | _ => 0
set_option maxRecDepth 100000 in
theorem pq_m1 : ∀ i, i < 39 → Cond.exactly (pq_tm i) "QuietChecker$Kind" ∈ pq_FL := by decide +kernel
set_option maxRecDepth 100000 in
theorem pq_m2 : ∀ i, i < 39 → Cond.eq (.field (pq_tm i) "java/lang/Enum" "ordinal" "I") (.int (Int32.ofNat i)) ∈ pq_FL := by decide +kernel
set_option maxRecDepth 100000 in
theorem pq_m3 : ∀ i, i < 39 → Cond.eq (.field (pq_tm i) "QuietChecker$Kind" "level" "I") (.int (pq_lv i)) ∈ pq_FL := by decide +kernel
set_option maxRecDepth 100000 in
theorem pq_m4 : ∀ i, i < 39 → Cond.eq (.field (pq_tm i) "QuietChecker$Kind" "op" "I") (.int (pq_op i)) ∈ pq_FL := by decide +kernel
set_option maxRecDepth 100000 in
theorem pq_m5 : ∀ i, i < 39 → Cond.laysStatic "QuietChecker$Kind" (pq_nm i) "LQuietChecker$Kind;" ∈ lw_tbl := by decide +kernel
set_option maxRecDepth 100000 in
theorem pq_m6 : Cond.exactly (.static "QuietChecker$Kind" "ALL" "[LQuietChecker$Kind;") "[LQuietChecker$Kind;" ∈ pq_FL ∧ Cond.laysStatic "QuietChecker$Kind" "ALL" "[LQuietChecker$Kind;" ∈ lw_tbl ∧ Cond.initialized "QuietChecker$Kind" ∈ lw_tbl := by decide +kernel
set_option maxRecDepth 100000 in
theorem pq_m7 : (Cond.isRef (.static Bundle.tN "UNASSIGNED_STACK" Bundle.steD) ∈ pq_FL ∧ Cond.isRef (.static Bundle.tN "SUPPRESSED_SENTINEL" Bundle.listD) ∈ pq_FL) ∧ (Cond.laysStatic Bundle.tN "UNASSIGNED_STACK" Bundle.steD ∈ lw_tbl ∧ Cond.laysStatic Bundle.tN "SUPPRESSED_SENTINEL" Bundle.listD ∈ lw_tbl) ∧ Cond.initialized Bundle.tN ∈ lw_tbl := by decide +kernel
set_option maxRecDepth 100000 in
theorem pq_m8 : (∀ w ∈ pt_ex, w ∈ lw_tbl ∧ w.onTables = true) ∧ Cond.not (.castable (pt_xn 1) (pt_xn 0)) ∈ pq_FL ∧ Cond.not (.castable (pt_xn 2) (pt_xn 0)) ∈ pq_FL := by decide +kernel
set_option maxRecDepth 100000 in
theorem pq_kst : pm_kst = (List.range 39).map (fun i => ("QuietChecker$Kind", pq_nm i, "LQuietChecker$Kind;", 1000 + i)) ++ [("QuietChecker$Kind", "ALL", "[LQuietChecker$Kind;", 2000)] := by decide +kernel
set_option maxRecDepth 100000 in
theorem pq_kob : pm_kob = (List.range 39).map (fun i => (1000 + i, "QuietChecker$Kind")) := by decide +kernel
set_option maxRecDepth 100000 in
theorem pq_kof : pm_kof = (List.range 39).flatMap (fun i => [(1000 + i, 1, .int (pq_lv i)), (1000 + i, 2, .int (pq_op i))]) := by decide +kernel
/-- the addresses: cells from the heap's end on, the script, the constants -/
def pq_rho (sz b aALL : Nat) (ad : Nat → Nat) (i : Nat) : Nat := if i ≤ 400 then sz + i else if i = 900 then b else if 1000 ≤ i ∧ i < 1039 then ad (i - 1000) else if i = 2000 then aALL else sz + i
theorem pq_r1 (sz b aALL : Nat) (ad : Nat → Nat) {i : Nat} (h : i < 39) : pq_rho sz b aALL ad (1000 + i) = ad i := by
  unfold pq_rho
  rw [if_neg (by omega), if_neg (by omega), if_pos (by omega), Nat.add_sub_cancel_left]
theorem pq_arr {s : State} {args : Array Value} {ty : FieldType} (h : (Cond.arrayClass ty).before args s = true) : ∃ cA : ClassId, ArrOfT s cA ty ∧ s.vm.findClass ("[" ++ ty.toString) = some cA := by
  obtain ⟨cA, kA, comp, h1, h2, h3⟩ := Cond.arrayClass_spec h
  exact ⟨cA, fun n z => ⟨fun k h => (by cases h), kA, h2, comp, h3⟩, h1⟩
set_option maxRecDepth 100000 in
theorem pq_start {p : Program} {s : State} {m : MethodId} {meth : Method} {c : Code} {b Ln : Nat} {xs : Nat → Int32} (C0 : lw_At p s m meth c b Ln xs) : ∃ (rho : Nat → Nat) (D : va_G) (cy : Nat → ClassId), (∀ a b, pm_kc a = true → pm_kc b = true → rho a = rho b → a = b) ∧ rho 900 = b ∧ (∀ i, i ≤ 400 → rho i = s.heap.size + i) ∧ va_K D pm_cl (pm_tys cy) s ∧ pm_KS rho (fun q : Nat => s.heap.size ≤ q) s s.heap ∧ pt_K (fun q : Nat => s.heap.size ≤ q) s s.heap ∧ va_AO "QuietChecker$Kind" s := by
  obtain ⟨hx, hb0, hr, hml, hown0, hts, hX, hbl, hlocks, hgv⟩ := C0
  have hs := flat_of_before _ hgv
  have hA : ∀ a : Nat, a < s.heap.size → ¬ (fun q : Nat => s.heap.size ≤ q) a := fun a h => Nat.not_le.mpr h
  obtain ⟨n1, n2, n3⟩ := pq_m6
  -- the kinds
  have h0 : ∀ i : Nat, ∃ t : Nat, i < 39 → (pq_tm i).eval #[Value.ref b] s none [] s = some (.ref t) ∧ va_O "QuietChecker$Kind" t (fun q : Nat => s.heap.size ≤ q) s s.heap ∧ t < s.heap.size := by
    intro i
    by_cases hi : i < 39
    · obtain ⟨a, c, cell, k, q1, q2, q3, q4, q5, q6, -⟩ := Cond.exactly_spec (hs _ (pq_m1 i hi))
      have hlt := (Array.getElem?_eq_some_iff.mp q3).1
      exact ⟨a, fun _ => ⟨q1, ⟨cell, q3, q5, by rw [q6]; exact q2, hA a hlt⟩, hlt⟩⟩
    · exact ⟨0, fun h => absurd h hi⟩
  obtain ⟨ad, had⟩ := Classical.axiomOfChoice h0
  obtain ⟨aALL, _, _, _, hall, -, -, -, -, -, -⟩ := Cond.exactly_spec (hs _ n1)
  have hinj0 : ∀ i j, i < 39 → j < 39 → ad i = ad j → i = j := by
    intro i j hi hj hij
    have e1 := va_eqt (hs _ (pq_m2 i hi))
    have e2 := va_eqt (hs _ (pq_m2 j hj))
    rw [va_fe (had i hi).1] at e1
    rw [va_fe (had j hj).1, ← hij, e1] at e2
    have e3 : Int32.ofNat i = Int32.ofNat j := by
      have := Option.some.inj e2
      exact Value.int.inj this
    exact (nI_eq (by omega) (by omega)).mp e3
  -- the classes
  have h1 : ∀ ci : Nat, ∃ q : ClassId × (Nat → Nat), ci < 7 → u_Kn s (pm_clN ci).1 (pm_clN ci).2.1 (pm_clN ci).2.2 q.1 q.2 := by
    intro ci
    by_cases hci : ci < 7
    · have hA1 := List.all_eq_true.mp pn_mA ci (List.mem_range.mpr hci)
      simp only [Bool.and_eq_true, decide_eq_true_eq] at hA1
      obtain ⟨-, -, w3, -, -, -, -, -, -, -, w4⟩ := hA1
      obtain ⟨cC, iS, hKn⟩ := u_known (C := (pm_clN ci).1) (T := (pm_clN ci).2.1) (N := (pm_clN ci).2.2) (n := (pm_clN ci).2.2) hts (fun w hw => pl_sub w (pm_uw hci w hw)) (by rw [w4]; exact hts _ (pl_sub _ (pm_mem w3)))
      exact ⟨(cC, iS), fun _ => hKn⟩
    · exact ⟨(0, fun _ => 0), fun h => absurd h hci⟩
  obtain ⟨DD, hDD⟩ := Classical.axiomOfChoice h1
  -- the arrays
  have hw := pn_ac_all
  simp only [Bool.and_eq_true] at hw
  obtain ⟨a0, a1, a2, a3, a4⟩ := hw
  obtain ⟨c0, p0, f0⟩ := pq_arr (hts _ (pl_sub _ (pm_mem a0)))
  obtain ⟨c1, p1, f1⟩ := pq_arr (hts _ (pl_sub _ (pm_mem a1)))
  obtain ⟨c2, p2, f2⟩ := pq_arr (hts _ (pl_sub _ (pm_mem a2)))
  obtain ⟨c3, p3, f3⟩ := pq_arr (hts _ (pl_sub _ (pm_mem a3)))
  obtain ⟨c4, p4, f4⟩ := pq_arr (hts _ (pl_sub _ (pm_mem a4)))
  have hov : (Cond.arrayOver (.object "QuietChecker$Kind")).before #[Value.ref b] s = true := hts _ (List.mem_of_getElem? (of_decide_eq_true pn_ao))
  obtain ⟨comp, c5, k5, g1, -, g3, g4, g5⟩ := Cond.arrayOver_spec hov
  refine ⟨pq_rho s.heap.size b aALL ad, (fun ci => (DD ci).1, fun ci => (DD ci).2), (fun k => match k with | 0 => c0 | 1 => c1 | 2 => c2 | 3 => c3 | 4 => c4 | _ => c5), ?_, ?_, ?_, ?_, ?_, ?_, va_AO.of hov⟩
  · intro x y hkx hky hxy
    obtain ⟨x1, x2⟩ := Bool.and_eq_true_iff.mp hkx
    obtain ⟨y1, y2⟩ := Bool.and_eq_true_iff.mp hky
    have x1 := Nat.le_of_ble_eq_true x1
    have x2 := pm_blt x2
    have y1 := Nat.le_of_ble_eq_true y1
    have y2 := pm_blt y2
    unfold pq_rho at hxy
    rw [if_neg (by omega), if_neg (by omega), if_neg (show ¬ y ≤ 400 by omega), if_neg (show ¬ y = 900 by omega)] at hxy
    by_cases hx9 : x < 1039
    · rw [if_pos (by omega)] at hxy
      have lx := (had (x - 1000) (by omega)).2.2
      by_cases hy9 : y < 1039
      · rw [if_pos (by omega)] at hxy
        have := hinj0 _ _ (by omega) (by omega) hxy
        omega
      · rw [if_neg (by omega), if_neg (by omega)] at hxy
        omega
    · rw [if_neg (by omega), if_neg (by omega)] at hxy
      by_cases hy9 : y < 1039
      · have ly := (had (y - 1000) (by omega)).2.2
        rw [if_pos (by omega)] at hxy
        omega
      · rw [if_neg (by omega), if_neg (by omega)] at hxy
        omega
  · unfold pq_rho
    rw [if_neg (by omega), if_pos rfl]
  · intro i hi
    unfold pq_rho
    rw [if_pos hi]
  · refine ⟨fun ci q hq => ?_, fun k q hq => ?_⟩
    · have hlt : ci < 7 := (List.getElem?_eq_some_iff.mp hq).1
      rw [pm_cl_at hlt] at hq
      cases hq
      exact hDD ci hlt
    · unfold pm_tys at hq
      match k, hq with
      | 0, hq => cases hq; exact ⟨p0, f0⟩
      | 1, hq => cases hq; exact ⟨p1, f1⟩
      | 2, hq => cases hq; exact ⟨p2, f2⟩
      | 3, hq => cases hq; exact ⟨p3, f3⟩
      | 4, hq => cases hq; exact ⟨p4, f4⟩
      | 5, hq => cases hq; exact ⟨fun n z => ⟨fun k h => (by cases h), k5, g3, comp, g4⟩, k5, comp, g3, g4, g1, g5⟩
      | k + 6, hq => simp at hq
  · refine ⟨fun q hq => ?_, fun q hq => ?_, fun q hq => ?_⟩
    · rw [pq_kst] at hq
      rcases List.mem_append.mp hq with hq | hq
      · obtain ⟨i, hi, rfl⟩ := List.mem_map.mp hq
        have hi := List.mem_range.mp hi
        show va_Z "QuietChecker$Kind" (pq_nm i) "LQuietChecker$Kind;" (.ref (pq_rho s.heap.size b aALL ad (1000 + i))) _ s s.heap
        rw [pq_r1 _ _ _ _ hi]
        exact va_Zof (hts _ (pq_m5 i hi)) (hts _ n3) (had i hi).1 hA
      · rw [List.mem_singleton.mp hq]
        exact va_Zof (hts _ n2) (hts _ n3) hall hA
    · rw [pq_kob] at hq
      obtain ⟨i, hi, rfl⟩ := List.mem_map.mp hq
      have hi := List.mem_range.mp hi
      show va_O "QuietChecker$Kind" (pq_rho s.heap.size b aALL ad (1000 + i)) _ s s.heap
      rw [pq_r1 _ _ _ _ hi]
      exact (had i hi).2.1
    · rw [pq_kof] at hq
      obtain ⟨i, hi, hq⟩ := List.mem_flatMap.mp hq
      have hi := List.mem_range.mp hi
      simp only [List.mem_cons, List.not_mem_nil, or_false] at hq
      rcases hq with rfl | rfl
      · show va_OF "QuietChecker$Kind" "level" "I" (.int (pq_lv i)) (pq_rho s.heap.size b aALL ad (1000 + i)) _ s s.heap
        rw [pq_r1 _ _ _ _ hi]
        exact vk_OFof (had i hi).1 (va_eqt (hs _ (pq_m3 i hi))) hA
      · show va_OF "QuietChecker$Kind" "op" "I" (.int (pq_op i)) (pq_rho s.heap.size b aALL ad (1000 + i)) _ s s.heap
        rw [pq_r1 _ _ _ _ hi]
        exact vk_OFof (had i hi).1 (va_eqt (hs _ (pq_m4 i hi))) hA
  · obtain ⟨⟨i1, i2⟩, ⟨i3, i4⟩, i5⟩ := pq_m7
    obtain ⟨e1, e2, e3⟩ := pq_m8
    exact ⟨vx_Zqof (hts _ i3) (hts _ i5) (hs _ i1) hA, vx_Zqof (hts _ i4) (hts _ i5) (hs _ i2) hA, fun w hw => va_tabs (e1 w hw).2 rfl (hts w (e1 w hw).1), va_Nc.of (hs _ e2), va_Nc.of (hs _ e3)⟩
/-- THE LAW, from its entry: all that is left is the run of its loop in the pure machine -/
theorem pq_whole {p : Program} {e : Env} {s : State} {m : MethodId} {below : List Frame} {meth : Method} {c : Code} (l : Launch) (htr : l.stackTraces = false) {b Ln : Nat} {xs : Nat → Int32} {n : Nat} (hrun : pl_run xs Ln n 0 20 [(3, .ref 74), (2, .ref 39), (1, .ref 0), (0, .ref 900)] [] pm_hA = some 1) (C0 : lw_At p s m meth c b Ln xs) : W p l e room_1 s m #[Value.ref b] below meth c s.heap [] 0 0 (lw_Z below #[Value.ref b] s) (entryFrame m ([Value.ref b] : List Value).toArray 7) := by
  obtain ⟨rho, D, cy, hinj, hr9, hr0, hK, hKS, hPT, hAO⟩ := pq_start C0
  exact pl_start hinj (fun _ _ _ h => by cases h) htr hrun C0 hr9 hr0 hK hKS hPT hAO
end
section
/-! The claim out of the law's loop -/
/-- what is left to prove: the law's loop, run by the pure machine, answers 1 on every script of at most 4 ints -/
def pl_All : Prop := ∀ (xs : Nat → Int32) (Ln : Nat), Ln ≤ 4 → ∃ n, pl_run xs Ln n 0 20 [(3, .ref 74), (2, .ref 39), (1, .ref 0), (0, .ref 900)] [] pm_hA = some 1
set_option maxHeartbeats 4000000 in
theorem lw_walk (HL : pl_All) (l : Launch) (hfl : l.flags = flags0) (b : Addr) (xs : List Int32) : MetFree l x (headSpec (Jvm.Cond.code x code maxLocals ret :: tables_1) room_1) (lw_P b xs) (fun _ _ _ _ _ => True) lw_Q := by
  refine MetFree.of_bodyS (code := code) (maxLocals := maxLocals) (ret := ret) (by decide) ?_ ?_
  · intro args s m h hn
    obtain ⟨meth, c, h1, h2, h3, h4, h5, h6, -, -⟩ := Cond.code_spec hn (atoms_spec (ws := Jvm.Cond.code x code maxLocals ret :: tables_1) h _ List.mem_cons_self)
    exact ⟨meth, c, h1, h2, h3, h4, h5, h6⟩
  · intro p e s m args below meth c s₁ B hml0 hP _
    obtain ⟨rfl, hx, hbd, hgv⟩ := hP
    obtain ⟨scr, harrAt, hlist, hof, hsmall⟩ := hx
    obtain ⟨hcb, hkn, -, -⟩ := State.arrayAt?_spec harrAt
    have hown : s.vm.findClass R_law = some m.cls := findClass_of_methodNamed B.named
    have hts0 : ∀ c ∈ (Jvm.Cond.code x code maxLocals ret :: tables_1), c.before #[Value.ref b] s = true := atoms_spec (ws := Jvm.Cond.code x code maxLocals ret :: tables_1) B.pre
    have hts : ∀ w ∈ lw_tbl, w.before #[Value.ref b] s = true := k2_hts_sels lw_privs (fun w hw => hts0 w (List.mem_cons_of_mem _ hw)) lw_privs_ok
    have hml : c.maxLocals = 7 := B.maxLocals_eq (hts0 _ List.mem_cons_self)
    have X₀ : Stand p l e room_1 s m #[Value.ref b] below meth c s₁ [] 0 0 := Stand.of_body B
    have hh0 : s₁.heap = s.heap := by rw [B.state]; rfl
    have hsz : scr.slots.size = xs.length := by rw [← Array.length_toList, hlist, List.length_map]
    have hval : ∀ j : Nat, j < xs.length → scr.slots[j]? = some (.int (xs.getD j 0)) := fun j hj => by
      rw [← Array.getElem?_toList, hlist]
      simp [hj]
    have hbl : b < s.heap.size := (Array.getElem?_eq_some_iff.mp hcb).1
    have hX : va_X b xs.length (fun j => xs.getD j 0) s s.heap := ⟨scr, hcb, hof, hkn, hsz, hval⟩
    have K : W p l e room_1 s m #[Value.ref b] below meth c s₁.heap [] 0 0 (lw_Z below #[Value.ref b] s) (entryFrame m ([Value.ref b] : List Value).toArray 7) := by
      rw [hh0]
      obtain ⟨n9, hn9⟩ := HL (fun j => xs.getD j 0) xs.length hbd
      exact pq_whole l (by unfold Launch.stackTraces; rw [hfl]; decide) hn9 ⟨B.exec, B.bytes, B.returns, hml, hown, hts, hX, hbl, B.notSynchronized, hgv⟩
    obtain ⟨t, a1, o, b1, b2, b3⟩ := K s₁ rfl X₀
    exact ⟨t, o, a1, b1, b2, b3⟩
theorem lw_pre_spec {args : Array Value} {s : State} (h : (Jvm.Cond.and given_1 narrow_1).before args s = true) (hr : rest_1_c.before args s = true) : ∃ (b : Addr) (xs : List Int32), lw_P b xs args s := by
  have hs := flat_of_before _ h
  have hq := flat_of_before _ hr
  have hc : (Cond.count 1).before args s = true := hs _ (by decide +kernel)
  have harr : (Cond.arrayOf (.arg 0) .int).before args s = true := hs _ (by decide +kernel)
  have hle : (Cond.le (.length (.arg 0)) (.int 4)).before args s = true := hs _ (by decide +kernel)
  have hlen : (Cond.isInt (.length (.arg 0))).before args s = true := hq _ (by decide +kernel)
  have hall : (Cond.all (.arg 0) (.isInt (.elem (.arg 0) (.index 0)))).before args s = true := hq _ (by decide +kernel)
  obtain ⟨b, xs, hb, hx⟩ := State.ints_of_pre rfl harr hlen hall
  have hsm : xs.length < 2 ^ 31 := hx.choose_spec.2.2.2
  have hev : (Term.length (.arg 0)).eval args s none [] s = some (.int xs.length.toInt32) := hx.length_eval hb
  have hv := Cond.le_ints hev (show (Term.int 4).eval args s none [] s = some (.int 4) from rfl)
  have hd : xs.length.toInt32 ≤ 4 := by
    simpa [Cond.before, Cond.holds, hv] using hle
  have hN : xs.length ≤ 4 := (Int32.ofNat_le_ofNat hsm (by decide)).mp (show Int32.ofNat xs.length ≤ Int32.ofNat 4 from hd)
  exact ⟨b, xs, Cond.one_arg hc (show args[0]? = some (.ref b) from hb), hx, hN, h⟩
theorem lw_comes (HL : pl_All) (l : Launch) (hfl : l.flags = flags0) : Comes l x (Jvm.Cond.code x code maxLocals ret :: tables_1) room_1 (fun tb e args s => Calls_1 tb e args s ∧ rest_1 tb e args s ∧ Pre_1 tb e args s)
    (fun _ _ args s o t => lw_Q args s o t) := by
  intro p e ha hc hk s m args below hf hfit hheap happ hpre
  obtain ⟨b, xs, hP⟩ := lw_pre_spec hpre.2.2 hpre.2.1
  obtain ⟨k, o, h1, h2, h3, hQ⟩ := lw_walk HL l hfl b xs p e ha hc hk s m args below hf ((Spec.applies_iff_loose hf).mp happ).1 hP trivial
  exact ⟨k, o, h1, h2, h3, hQ⟩
theorem lw_frame {s t : State} {o : Outcome} {args : Array Value} (h : Framed s o t [] 600002 7302231) :
    Framed s o t (fieldLocs frame_1_writes args s ++ arrayLocs frame_1_arrays args s ++ staticLocs frame_1_statics s) 600002 7302231 := h
theorem lw_limb (HL : pl_All) (L : Cond) (hL : ∀ (args : Array Value) (s t : State), L.after args s (.returned (some (.int 1))) t = true) :
    ArmFor flags0 classFile x code maxLocals ret World_1 tables_1 room_1 Calls_1 rest_1 Pre_1
      (fun tb e a s o t => postC L tb e a s o t ∧ Framed s o t (fieldLocs frame_1_writes a s ++ arrayLocs frame_1_arrays a s ++ staticLocs frame_1_statics s) 600002 7302231) := by
  intro l hfl _ _ p e ha hc hk s m args below hf hfit hheap happ hpre
  obtain ⟨k, o, h1, h2, h3, rfl, hF⟩ := lw_comes HL l hfl p e ha hc hk s m args below hf hfit hheap happ hpre
  exact ⟨k, _, h1, h2, h3, hL args s _, lw_frame hF⟩
/-- THE CLAIM, open: out of the run of the law's loop in the pure machine -/
theorem i_vc_open (HL : pl_All) : Claimed_1_1 ∧ Claimed_1_2 := ⟨lw_limb HL limb_1_1 (fun args s t => by simp [limb_1_1, Cond.after, Cond.holds, Cond.value]), lw_limb HL limb_1_2 (fun args s t => Cond.after_iff.mpr (by
  first | (rw [show limb_1_2 = Cond.eq .result (.int 1) from rfl, Cond.eq_ints (x := 1) (y := 1) rfl rfl]; simp; done) | (simp [limb_1_2, Cond.value, Term.eval]; done)))⟩
end
section
/-! A pure layer over the machine's runs: more fuel answers the same; runs as statements on what they answer -/
set_option maxHeartbeats 1000000 in
theorem px_mono (sw : List (Nat × Nat)) : ∀ (n m d mi pc : Nat) (L : pm_L) (S : List Value) (h : pm_H) (r : Option Value × pm_H), pm_run sw n d mi pc L S h = some r → n ≤ m → pm_run sw m d mi pc L S h = some r := by
  intro n
  induction n with
  | zero => intro m d mi pc L S h r hr; cases hr
  | succ n ih =>
    intro m d mi pc L S h r hr hm
    cases m with
    | zero => exact absurd hm (by omega)
    | succ m =>
      have hm' : n ≤ m := by omega
      unfold pm_run at hr ⊢
      cases hs : pm_step sw mi pc L S h with
      | none =>
        rw [hs] at hr
        dsimp only at hr ⊢
        cases hf : pm_fd (pm_code mi) pc with
        | none => rw [hf] at hr; cases hr
        | some i =>
          rw [hf] at hr
          dsimp only at hr ⊢
          cases hc : pm_cpy i sw (pm_ow mi) h S with
          | none => rw [hc] at hr; cases hr
          | some q =>
            rw [hc] at hr
            obtain ⟨h1, S1⟩ := q
            dsimp only at hr ⊢
            cases hb : Nat.blt 0 d with
            | false => rw [hb] at hr; cases hr
            | true =>
              rw [hb] at hr
              exact ih m d mi (pc + 3) L S1 h1 r hr hm'
      | some q =>
        rw [hs] at hr
        rcases q with ⟨pc1, L1, S1, h1⟩ | v | ⟨mj, as, S1⟩
        · exact ih m d mi pc1 L1 S1 h1 r hr hm'
        · exact hr
        · dsimp only at hr ⊢
          cases d with
          | zero => cases hr
          | succ d =>
            dsimp only at hr ⊢
            cases hp : pm_prim mj as with
            | some v =>
              rw [hp] at hr
              dsimp only at hr ⊢
              cases hb : Nat.ble 4 d with
              | false => rw [hb] at hr; cases hr
              | true =>
                rw [hb] at hr
                exact ih m (d + 1) mi (pc + 3) L (v :: S1) h r hr hm'
            | none =>
              rw [hp] at hr
              dsimp only at hr ⊢
              cases hc : pm_run sw n d mj 0 (lv_args 0 as) [] h with
              | none => rw [hc] at hr; cases hr
              | some q =>
                rw [hc] at hr
                rw [ih m d mj 0 (lv_args 0 as) [] h q hc hm']
                obtain ⟨v, h1⟩ := q
                exact ih m (d + 1) mi (pc + 3) L (v.toList ++ S1) h1 r hr hm'
set_option maxHeartbeats 1000000 in
theorem pu_mono (sw : List (Nat × Nat)) (stop : Nat → Bool) : ∀ (n m d mi pc : Nat) (L : pm_L) (S : List Value) (h : pm_H) (r : Nat × pm_L × List Value × pm_H), pp_run sw stop n d mi pc L S h = some r → n ≤ m → pp_run sw stop m d mi pc L S h = some r := by
  intro n
  induction n with
  | zero => intro m d mi pc L S h r hr; cases hr
  | succ n ih =>
    intro m d mi pc L S h r hr hm
    cases m with
    | zero => exact absurd hm (by omega)
    | succ m =>
      have hm' : n ≤ m := by omega
      unfold pp_run at hr ⊢
      cases hst : stop pc with
      | true => rw [hst] at hr; exact hr
      | false =>
      rw [hst] at hr
      dsimp only [cond] at hr ⊢
      cases hs : pm_step sw mi pc L S h with
      | none =>
        rw [hs] at hr
        dsimp only at hr ⊢
        cases hf : pm_fd (pm_code mi) pc with
        | none => rw [hf] at hr; cases hr
        | some i =>
          rw [hf] at hr
          dsimp only at hr ⊢
          cases hc : pm_cpy i sw (pm_ow mi) h S with
          | none => rw [hc] at hr; cases hr
          | some q =>
            rw [hc] at hr
            obtain ⟨h1, S1⟩ := q
            dsimp only at hr ⊢
            cases hb : Nat.blt 0 d with
            | false => rw [hb] at hr; cases hr
            | true =>
              rw [hb] at hr
              exact ih m d mi (pc + 3) L S1 h1 r hr hm'
      | some q =>
        rw [hs] at hr
        rcases q with ⟨pc1, L1, S1, h1⟩ | v | ⟨mj, as, S1⟩
        · exact ih m d mi pc1 L1 S1 h1 r hr hm'
        · exact hr
        · dsimp only at hr ⊢
          cases d with
          | zero => cases hr
          | succ d =>
            dsimp only at hr ⊢
            cases hp : pm_prim mj as with
            | some v =>
              rw [hp] at hr
              dsimp only at hr ⊢
              cases hb : Nat.ble 4 d with
              | false => rw [hb] at hr; cases hr
              | true =>
                rw [hb] at hr
                exact ih m (d + 1) mi (pc + 3) L (v :: S1) h r hr hm'
            | none =>
              rw [hp] at hr
              dsimp only at hr ⊢
              cases hc : pm_run sw n d mj 0 (lv_args 0 as) [] h with
              | none => rw [hc] at hr; cases hr
              | some q =>
                rw [hc] at hr
                rw [px_mono sw n m d mj 0 (lv_args 0 as) [] h q hc hm']
                obtain ⟨v, h1⟩ := q
                exact ih m (d + 1) mi (pc + 3) L (v.toList ++ S1) h1 r hr hm'
/-- the run from here ends, with Q of its answer and heap -/
def px (d mi pc : Nat) (L : pm_L) (S : List Value) (h : pm_H) (Q : Option Value → pm_H → Prop) : Prop := ∃ (n : Nat) (v : Option Value) (h' : pm_H), pm_run pm_swA n d mi pc L S h = some (v, h') ∧ Q v h'
section PX1
variable {d mi pc : Nat} {L : pm_L} {S : List Value} {h : pm_H} {Q : Option Value → pm_H → Prop} {pc' : Nat} {L' : pm_L} {S' : List Value} {h' : pm_H}
theorem px_seg (k : Nat) (hs : ∀ n, pm_run pm_swA (n + k) d mi pc L S h = pm_run pm_swA n d mi pc' L' S' h') (q : px d mi pc' L' S' h' Q) : px d mi pc L S h Q := by
  obtain ⟨n, v, h1, h2, h3⟩ := q
  exact ⟨n + k, v, h1, (hs n).trans h2, h3⟩
theorem px_st (hs : pm_step pm_swA mi pc L S h = some (.inl (pc', L', S', h'))) (q : px d mi pc' L' S' h' Q) : px d mi pc L S h Q := by
  refine px_seg 1 (fun n => ?_) q
  show pm_run pm_swA (n + 1) d mi pc L S h = _
  conv => lhs; unfold pm_run
  rw [hs]
theorem px_ret {v : Option Value} (hs : pm_step pm_swA mi pc L S h = some (.inr (.inl v))) (q : Q v h) : px d mi pc L S h Q :=
  ⟨1, v, h, by unfold pm_run; rw [hs], q⟩
theorem px_call {mj : Nat} {as : List Value} (hs : pm_step pm_swA mi pc L S h = some (.inr (.inr (mj, as, S')))) (hp : pm_prim mj as = none)
    (q : px d mj 0 (lv_args 0 as) [] h (fun v h1 => px (d + 1) mi (pc + 3) L (v.toList ++ S') h1 Q)) : px (d + 1) mi pc L S h Q := by
  obtain ⟨n, v, h1, h2, n2, v2, h3, h4, h5⟩ := q
  refine ⟨n + n2 + 1, v2, h3, ?_, h5⟩
  unfold pm_run
  rw [hs]
  dsimp only
  rw [hp]
  dsimp only
  rw [px_mono _ n (n + n2) d mj 0 _ [] h (v, h1) h2 (by omega)]
  exact px_mono _ n2 (n + n2) (d + 1) mi (pc + 3) L _ h1 (v2, h3) h4 (by omega)
theorem px_imp {Q' : Option Value → pm_H → Prop} (q : px d mi pc L S h Q) (k : ∀ v h1, Q v h1 → Q' v h1) : px d mi pc L S h Q' := by
  obtain ⟨n, v, h1, h2, h3⟩ := q
  exact ⟨n, v, h1, h2, k v h1 h3⟩
end PX1
/-- the run from here comes to a stop place, with Q there -/
def pu (stop : Nat → Bool) (d mi pc : Nat) (L : pm_L) (S : List Value) (h : pm_H) (Q : Nat → pm_L → List Value → pm_H → Prop) : Prop := ∃ (n pc' : Nat) (L' : pm_L) (S' : List Value) (h' : pm_H), pp_run pm_swA stop n d mi pc L S h = some (pc', L', S', h') ∧ Q pc' L' S' h'
section PU1
variable {stop : Nat → Bool} {d mi pc : Nat} {L : pm_L} {S : List Value} {h : pm_H} {Q : Nat → pm_L → List Value → pm_H → Prop} {pc' : Nat} {L' : pm_L} {S' : List Value} {h' : pm_H}
theorem pu_stop (hst : stop pc = true) (q : Q pc L S h) : pu stop d mi pc L S h Q := ⟨1, pc, L, S, h, by unfold pp_run; rw [hst]; rfl, q⟩
theorem pu_seg (k : Nat) (hs : ∀ n, pp_run pm_swA stop (n + k) d mi pc L S h = pp_run pm_swA stop n d mi pc' L' S' h') (q : pu stop d mi pc' L' S' h' Q) : pu stop d mi pc L S h Q := by
  obtain ⟨n, a1, a2, a3, a4, h2, h3⟩ := q
  exact ⟨n + k, a1, a2, a3, a4, (hs n).trans h2, h3⟩
theorem pu_st (hst : stop pc = false) (hs : pm_step pm_swA mi pc L S h = some (.inl (pc', L', S', h'))) (q : pu stop d mi pc' L' S' h' Q) : pu stop d mi pc L S h Q := by
  refine pu_seg 1 (fun n => ?_) q
  show pp_run pm_swA stop (n + 1) d mi pc L S h = _
  conv => lhs; unfold pp_run
  rw [hst, hs]
  rfl
theorem pu_call {mj : Nat} {as : List Value} (hst : stop pc = false) (hs : pm_step pm_swA mi pc L S h = some (.inr (.inr (mj, as, S')))) (hp : pm_prim mj as = none)
    (q : px d mj 0 (lv_args 0 as) [] h (fun v h1 => pu stop (d + 1) mi (pc + 3) L (v.toList ++ S') h1 Q)) : pu stop (d + 1) mi pc L S h Q := by
  obtain ⟨n, v, h1, h2, n2, a1, a2, a3, a4, h4, h5⟩ := q
  refine ⟨n + n2 + 1, a1, a2, a3, a4, ?_, h5⟩
  unfold pp_run
  rw [hst, hs]
  dsimp only [cond]
  rw [hp]
  dsimp only
  rw [px_mono _ n (n + n2) d mj 0 _ [] h (v, h1) h2 (by omega)]
  exact pu_mono _ stop n2 (n + n2) (d + 1) mi (pc + 3) L _ h1 (a1, a2, a3, a4) h4 (by omega)
end PU1
/-- a method that may throw, run to its end -/
theorem pt_of {d mj : Nat} {as : List Value} {h : pm_H} {r : (Option Value × pm_H) ⊕ (Nat × pm_H)} (q : pu (pt_stop mj) d mj 0 (lv_args 0 as) [] h (fun pc _ S h' => pt_end mj pc S h' = some r)) : ∃ n, ∀ m, n ≤ m → pt_run pm_swA m d mj as h = some r := by
  obtain ⟨n, a1, a2, a3, a4, h2, h3⟩ := q
  refine ⟨n, fun m hm => ?_⟩
  unfold pt_run
  rw [pu_mono _ _ n m _ _ _ _ _ _ _ h2 hm]
  exact h3
/-- a wrapper whose call throws -/
theorem pw_thr {d mi pc mj x hpc : Nat} {k : Int} {as as2 S S1 : List Value} {L : pm_L} {h h1 h2 : pm_H} {idx : Nat} (q : pu (pw_stop mi) d mi 0 (lv_args 0 as) [] h (fun a1 a2 a3 a4 => a1 = pc ∧ a2 = L ∧ a3 = S ∧ a4 = h1)) (hf : pm_fd (pm_code mi) pc = some (.invokevirtual idx)) (hc : pm_call (.invokevirtual idx) pm_swA (pm_ow mi) S = some (mj, as2, S1)) (ho : Nat.beq (pm_ow mj) 5 = true)
    (ht : ∃ n, ∀ m, n ≤ m → pt_run pm_swA m d mj as2 h1 = some (.inr (x, h2))) (hw : pw_find (pw_hh mi) pc x = some hpc) (hk : pw_hk mi hpc = some k) : ∃ n, ∀ m, n ≤ m → pw_run pm_swA m d mi as h = some (Int32.ofInt k, h2) := by
  obtain ⟨n, a1, a2, a3, a4, e2, rfl, rfl, rfl, rfl⟩ := q
  obtain ⟨n2, ht⟩ := ht
  refine ⟨n + n2, fun m hm => ?_⟩
  unfold pw_run
  rw [pu_mono _ _ n m _ _ _ _ _ _ _ e2 (by omega)]
  dsimp only
  rw [hf]
  dsimp only
  rw [hc]
  dsimp only
  rw [ho, ht m (by omega)]
  dsimp only [cond]
  rw [hw]
  dsimp only
  rw [hk]
  rfl
/-- a wrapper whose call returns -/
theorem pw_val {d mi pc mj : Nat} {k : Int32} {as as2 S S1 : List Value} {L : pm_L} {v : Option Value} {h h1 h2 h3 : pm_H} {idx : Nat} (q : pu (pw_stop mi) d mi 0 (lv_args 0 as) [] h (fun a1 a2 a3 a4 => a1 = pc ∧ a2 = L ∧ a3 = S ∧ a4 = h1)) (hf : pm_fd (pm_code mi) pc = some (.invokevirtual idx)) (hc : pm_call (.invokevirtual idx) pm_swA (pm_ow mi) S = some (mj, as2, S1)) (ho : Nat.beq (pm_ow mj) 5 = true)
    (ht : ∃ n, ∀ m, n ≤ m → pt_run pm_swA m d mj as2 h1 = some (.inl (v, h2))) (q2 : pu (pw_stop mi) d mi (pc + 3) L (v.toList ++ S1) h2 (fun a1 _ a3 a4 => pm_fd (pm_code mi) a1 = some .ireturn ∧ a3 = [.int k] ∧ a4 = h3)) : ∃ n, ∀ m, n ≤ m → pw_run pm_swA m d mi as h = some (k, h3) := by
  obtain ⟨n, a1, a2, a3, a4, e2, rfl, rfl, rfl, rfl⟩ := q
  obtain ⟨n2, ht⟩ := ht
  obtain ⟨n3, b1, b2, b3, b4, e3, e4, rfl, rfl⟩ := q2
  refine ⟨n + n2 + n3, fun m hm => ?_⟩
  unfold pw_run
  rw [pu_mono _ _ n m _ _ _ _ _ _ _ e2 (by omega)]
  dsimp only
  rw [hf]
  dsimp only
  rw [hc]
  dsimp only
  rw [ho, ht m (by omega)]
  dsimp only [cond]
  rw [pu_mono _ _ n3 m _ _ _ _ _ _ _ e3 (by omega)]
  dsimp only
  rw [e4]
/-- the law's loop from here answers 1 -/
def pv (xs : Nat → Int32) (Ln x pc : Nat) (L : pm_L) (S : List Value) (h : pm_H) : Prop := ∃ n, ∀ m, n ≤ m → pl_run xs Ln m x pc L S h = some 1
section PV1
variable {xs : Nat → Int32} {Ln x pc : Nat} {L : pm_L} {S : List Value} {h : pm_H} {S' : List Value} {h' : pm_H} {i : Instr}
theorem pv_scr (hf : pm_fd (pm_code 174) pc = some i) (hs : pl_scr xs Ln i S = some S') (q : pv xs Ln x (pc + pm_ln i) L S' h) : pv xs Ln x pc L S h := by
  obtain ⟨n, q⟩ := q
  refine ⟨n + 1, fun m hm => ?_⟩
  cases m with
  | zero => omega
  | succ m =>
    unfold pl_run
    rw [hf]
    dsimp only
    rw [hs]
    exact q m (by omega)
theorem pv_wr {mi : Nat} {as : List Value} {k : Int32} (hf : pm_fd (pm_code 174) pc = some i) (hn : pl_scr xs Ln i S = none) (hw : pl_wr i S = some (mi, as, S')) (hx : x < 400) (hr : ∃ n, ∀ m, n ≤ m → pw_run pm_swA m 1000 mi as h = some (k, h')) (q : pv xs Ln (x + 1) (pc + 3) L (.int k :: S') h') : pv xs Ln x pc L S h := by
  obtain ⟨n, q⟩ := q
  obtain ⟨n2, hr⟩ := hr
  refine ⟨n + n2 + 1, fun m hm => ?_⟩
  cases m with
  | zero => omega
  | succ m =>
    unfold pl_run
    rw [hf]
    dsimp only
    rw [hn]
    dsimp only
    rw [hw]
    dsimp only
    rw [hr m (by omega)]
    dsimp only
    rw [show Nat.blt x 400 = true from Nat.ble_eq_true_of_le hx]
    exact q m (by omega)
theorem pv_ret (hf : pm_fd (pm_code 174) pc = some .ireturn) (hS : S = [.int 1]) : pv xs Ln x pc L S h := by
  refine ⟨1, fun m hm => ?_⟩
  cases m with
  | zero => omega
  | succ m =>
    unfold pl_run
    rw [hf, hS]
    rfl
theorem pv_pp (hf : pm_fd (pm_code 174) pc = some i) (hn : pl_scr xs Ln i S = none) (hw : pl_wr i S = none) (hi : i ≠ .ireturn) (q : pu pl_stop 1000 174 pc L S h (fun pc' L' S' h' => pv xs Ln x pc' L' S' h')) : pv xs Ln x pc L S h := by
  obtain ⟨n, pc', L', S', h', e1, n2, e2⟩ := q
  refine ⟨n + n2 + 1, fun m hm => ?_⟩
  cases m with
  | zero => omega
  | succ m =>
    unfold pl_run
    rw [hf]
    dsimp only
    rw [hn]
    dsimp only
    rw [hw]
    dsimp only
    have h9 := pu_mono pm_swA pl_stop n m 1000 174 pc L S h _ e1 (by omega)
    split
    · exact absurd rfl hi
    · rw [h9]
      exact e2 m (by omega)
end PV1
end
section
/-! The references of the fresh heap, as a table; all but two kinds of them never change -/
def pg_f : List (Nat × Nat × Nat) → Nat → Nat → Option Nat
  | [], _, _ => none
  | q :: l, i, j => bif Nat.beq q.1 i && Nat.beq q.2.1 j then some q.2.2 else pg_f l i j
theorem pg_nb {a b : Nat} (h : b ≠ a) : Nat.beq a b = false := by
  cases e : Nat.beq a b with
  | false => rfl
  | true => exact absurd (Nat.eq_of_beq_eq_true e).symm h
theorem pg_no {n : Nat} : ∀ {l : List (Nat × Nat × Nat)}, l.all (fun q => !Nat.beq q.1 n) = true → ∀ j, pg_f l n j = none := by
  intro l
  induction l with
  | nil => intro _ j; rfl
  | cons q l ih =>
    intro h j
    rw [List.all_cons] at h
    obtain ⟨h1, h2⟩ := Bool.and_eq_true_iff.mp h
    have h3 : Nat.beq q.1 n = false := by simpa using h1
    unfold pg_f
    rw [h3]
    exact ih h2 j
theorem pd_R {h : pm_H} {l : List (Nat × Nat × Nat)} {a k r : Nat} (z : h.2.2 = pg_f l) : (pm_setR h a k (some r)).2.2 = pg_f ((a, k, r) :: l) := by
  funext i j
  show va_up h.2.2 a (va_up (h.2.2 a) k (some r)) i j = bif Nat.beq a i && Nat.beq k j then some r else pg_f l i j
  by_cases h1 : i = a
  · subst h1
    rw [va_up_self, Nat.beq_refl]
    by_cases h2 : j = k
    · subst h2
      rw [va_up_self, Nat.beq_refl]
      rfl
    · rw [va_up_ne _ _ h2, z, show Nat.beq k j = false from pg_nb h2]
      rfl
  · rw [va_up_ne _ _ h1, z, show Nat.beq a i = false from pg_nb h1]
    rfl
theorem pd_0 {h : pm_H} {l : List (Nat × Nat × Nat)} {n : Nat} (z : h.2.2 = pg_f l) (hl : l.all (fun q => !Nat.beq q.1 n) = true) : (pn_zero h n).2.2 = pg_f l := by
  funext i j
  show va_up h.2.2 n (fun _ => none) i j = pg_f l i j
  by_cases h1 : i = n
  · subst h1
    rw [va_up_self, pg_no hl]
  · rw [va_up_ne _ _ h1, z]
def pg_lC : List (Nat × Nat × Nat) := [(0, 7, 35), (35, 6, 38), (35, 2, 37), (35, 1, 36), (35, 0, 2), (0, 6, 31), (31, 6, 34), (31, 2, 33), (31, 1, 32), (31, 0, 2), (0, 5, 30), (0, 4, 29), (0, 3, 19), (19, 9, 1003), (19, 2, 25), (25, 3, 28), (25, 2, 27), (25, 1, 26), (25, 0, 3), (19, 1, 20), (20, 3, 24), (20, 2, 23), (20, 1, 22), (20, 0, 21), (20, 5, 3), (19, 0, 2), (0, 2, 2), (2, 11, 18), (2, 10, 17), (2, 9, 16), (2, 8, 15), (2, 7, 14), (2, 6, 10), (10, 3, 13), (10, 2, 12), (10, 1, 11), (10, 0, 3), (2, 4, 9), (2, 3, 8), (2, 2, 4), (4, 3, 7), (4, 2, 6), (4, 1, 5), (4, 0, 3), (2, 0, 3), (0, 0, 1)]
set_option maxRecDepth 100000 in
theorem pd_C : pm_hC.2.2 = pg_f pg_lC := (pd_R (pd_R (pd_0 (pd_R (pd_0 (pd_R (pd_0 (pd_R (pd_0 (pd_R (pd_R (pd_0 (pd_R (pd_0 (pd_R (pd_0 (pd_R (pd_0 (pd_R (pd_0 (pd_R (pd_0 (pd_R (pd_R (pd_R (pd_R (pd_0 (pd_R (pd_0 (pd_R (pd_0 (pd_R (pd_0 (pd_R (pd_R (pd_0 (pd_R (pd_0 (pd_R (pd_0 (pd_R (pd_0 (pd_R (pd_0 (pd_R (pd_0 (pd_R (pd_R (pd_0 (pd_R (pd_0 (pd_R (pd_0 (pd_R (pd_0 (pd_R (pd_0 (pd_R (pd_R (pd_0 (pd_R (pd_0 (pd_R (pd_0 (pd_R (pd_0 (pd_R (pd_0 (pd_R (pd_0 (pd_R (pd_R (pd_0 (pd_R (pd_0 (pd_R (pd_0 (pd_R (pd_0 (pd_R (pd_0 (pd_0 (pd_R (pd_0 (pd_0 (show pm_h0.2.2 = pg_f [] from rfl) (by decide)) (by decide))) (by decide)) (by decide))) (by decide))) (by decide))) (by decide))) (by decide)))) (by decide))) (by decide))) (by decide))) (by decide))) (by decide))) (by decide)))) (by decide))) (by decide))) (by decide))) (by decide))) (by decide)))) (by decide))) (by decide))) (by decide))) (by decide))) (by decide))) (by decide)))) (by decide))) (by decide))) (by decide))) (by decide)))))) (by decide))) (by decide))) (by decide))) (by decide))) (by decide))) (by decide)))) (by decide))) (by decide))) (by decide))) (by decide))))
def pg_lM : List (Nat × Nat × Nat) := [(39, 63, 73), (39, 62, 72), (39, 61, 71), (39, 60, 70), (39, 59, 69), (39, 57, 68), (39, 56, 67), (39, 55, 66), (39, 49, 65), (39, 48, 64), (39, 47, 63), (39, 46, 62), (39, 45, 61), (39, 41, 60), (39, 40, 59), (39, 39, 58), (39, 36, 57), (39, 35, 56), (39, 34, 55), (39, 33, 54), (39, 32, 53), (39, 31, 52), (39, 30, 51), (39, 29, 50), (39, 28, 49), (39, 27, 48), (39, 26, 47), (39, 25, 46), (39, 24, 45), (39, 23, 44), (39, 22, 43), (39, 21, 42), (39, 2, 41), (39, 1, 40), (0, 7, 35), (35, 6, 38), (35, 2, 37), (35, 1, 36), (35, 0, 2), (0, 6, 31), (31, 6, 34), (31, 2, 33), (31, 1, 32), (31, 0, 2), (0, 5, 30), (0, 4, 29), (0, 3, 19), (19, 9, 1003), (19, 2, 25), (25, 3, 28), (25, 2, 27), (25, 1, 26), (25, 0, 3), (19, 1, 20), (20, 3, 24), (20, 2, 23), (20, 1, 22), (20, 0, 21), (20, 5, 3), (19, 0, 2), (0, 2, 2), (2, 11, 18), (2, 10, 17), (2, 9, 16), (2, 8, 15), (2, 7, 14), (2, 6, 10), (10, 3, 13), (10, 2, 12), (10, 1, 11), (10, 0, 3), (2, 4, 9), (2, 3, 8), (2, 2, 4), (4, 3, 7), (4, 2, 6), (4, 1, 5), (4, 0, 3), (2, 0, 3), (0, 0, 1)]
set_option maxRecDepth 100000 in
theorem pd_M : pm_hM.2.2 = pg_f pg_lM := (pd_R (pd_0 (pd_R (pd_0 (pd_R (pd_0 (pd_R (pd_0 (pd_R (pd_0 (pd_R (pd_0 (pd_R (pd_0 (pd_R (pd_0 (pd_R (pd_0 (pd_R (pd_0 (pd_R (pd_0 (pd_R (pd_0 (pd_R (pd_0 (pd_R (pd_0 (pd_R (pd_0 (pd_R (pd_0 (pd_R (pd_0 (pd_R (pd_0 (pd_R (pd_0 (pd_R (pd_0 (pd_R (pd_0 (pd_R (pd_0 (pd_R (pd_0 (pd_R (pd_0 (pd_R (pd_0 (pd_R (pd_0 (pd_R (pd_0 (pd_R (pd_0 (pd_R (pd_0 (pd_R (pd_0 (pd_R (pd_0 (pd_R (pd_0 (pd_R (pd_0 (pd_R (pd_0 (pd_0 pd_C (by decide)) (by decide))) (by decide))) (by decide))) (by decide))) (by decide))) (by decide))) (by decide))) (by decide))) (by decide))) (by decide))) (by decide))) (by decide))) (by decide))) (by decide))) (by decide))) (by decide))) (by decide))) (by decide))) (by decide))) (by decide))) (by decide))) (by decide))) (by decide))) (by decide))) (by decide))) (by decide))) (by decide))) (by decide))) (by decide))) (by decide))) (by decide))) (by decide))) (by decide))) (by decide)))
theorem pd_A : pm_hA.2.2 = pg_f pg_lM := pd_0 pd_M (by decide)
def pg_r (K : Option Nat) (T : Nat → Option Nat) (i j : Nat) : Option Nat := bif Nat.beq i 21 then T j else (bif Nat.beq i 19 && Nat.beq j 9 then K else pg_f pg_lM i j)
/-- the heap: ints, longs, the parser's kind, the tokens' kinds -/
def pg (I : Nat → Nat → Int32) (J : Nat → Nat → Int64) (K : Option Nat) (T : Nat → Option Nat) : pm_H := (I, J, pg_r K T)
theorem pg_A : pm_hA = pg (fun _ _ => 0) (fun _ _ => 0) (some 1003) (fun _ => none) := by
  have h1 := pz_A
  have h2 : pm_hA.2.2 = pg_r (some 1003) (fun _ => none) := by
    rw [pd_A]
    funext i j
    unfold pg_r
    cases h3 : Nat.beq i 21 with
    | true =>
      rw [Nat.eq_of_beq_eq_true h3]
      exact pg_no (by decide) j
    | false =>
      cases h4 : (Nat.beq i 19 && Nat.beq j 9) with
      | true =>
        obtain ⟨h5, h6⟩ := Bool.and_eq_true_iff.mp h4
        rw [Nat.eq_of_beq_eq_true h5, Nat.eq_of_beq_eq_true h6]
        rfl
      | false => rfl
  exact Prod.ext h1.1 (Prod.ext h1.2 h2)
end
section
theorem wb_tb (n : Nat) : (lN n).toBitVec = BitVec.ofNat 64 n := rfl
theorem wb_inj {a b : Int64} (h : a.toBitVec = b.toBitVec) : a = b := Int64.toBitVec_inj.mp h
theorem wb_tn {n : Nat} (h : n < 2 ^ 64) : (lN n).toBitVec.toNat = n := by rw [wb_tb, BitVec.toNat_ofNat, Nat.mod_eq_of_lt h]
theorem wb_of (x : Int64) : ∃ n, n < 2 ^ 64 ∧ x = lN n := ⟨x.toBitVec.toNat, x.toBitVec.isLt, wb_inj (by rw [wb_tb]; simp)⟩
theorem wb_of32 (x : Int32) : ∃ n, n < 2 ^ 32 ∧ x = nI n := ⟨x.toBitVec.toNat, x.toBitVec.isLt, Int32.toBitVec_inj.mp (by show _ = BitVec.ofNat 32 _; simp)⟩
theorem wb_c : ∀ k, k < 64 → ((nI k).toInt64 &&& 63) = lN k := by decide +kernel
theorem wb_cu : ∀ k, k < 64 → ((nI k).toInt64.toUInt64 &&& Int64.toUInt64 63) = UInt64.ofNat k := by decide +kernel
theorem wb_sm : ∀ k, k < 64 → (BitVec.ofNat 64 k).smod 64 = BitVec.ofNat 64 k := by decide +kernel
theorem wb_pw {a b : Nat} (h : a ≤ b) : 2 ^ b = 2 ^ a * 2 ^ (b - a) := by rw [← Nat.pow_add]; congr 1; omega
theorem wb_lt2 {a b : Nat} (h : a < b) : 2 ^ a < 2 ^ b := Nat.pow_lt_pow_right (by decide) h
theorem wb_mod (n : Nat) : lN n = lN (n % 2 ^ 64) := wb_inj (by rw [wb_tb, wb_tb]; apply BitVec.eq_of_toNat_eq; rw [BitVec.toNat_ofNat, BitVec.toNat_ofNat, Nat.mod_mod])
theorem wb_shr {n k : Nat} (hn : n < 2 ^ 64) (hk : k < 64) : ((lN n).toUInt64 >>> ((nI k).toInt64.toUInt64 &&& Int64.toUInt64 63)).toInt64 = lN (n / 2 ^ k) := by
  rw [wb_cu k hk]
  apply wb_inj
  apply BitVec.eq_of_toNat_eq
  show ((lN n).toUInt64 >>> UInt64.ofNat k).toNat = (BitVec.ofNat 64 _).toNat
  have h1 : (UInt64.ofNat k).toNat = k := by
    show (BitVec.ofNat 64 k).toNat = k
    rw [BitVec.toNat_ofNat, Nat.mod_eq_of_lt (by omega)]
  have h2 : (lN n).toUInt64.toNat = n := wb_tn hn
  rw [UInt64.toNat_shiftRight, h1, h2, Nat.mod_eq_of_lt hk, Nat.shiftRight_eq_div_pow, BitVec.toNat_ofNat, Nat.mod_eq_of_lt (Nat.lt_of_le_of_lt (Nat.div_le_self _ _) hn)]
theorem wb_shl (n : Nat) {k : Nat} (hk : k < 64) : lN n <<< ((nI k).toInt64 &&& 63) = lN (n * 2 ^ k) := by
  rw [wb_c k hk]
  apply wb_inj
  rw [Int64.toBitVec_shiftLeft, wb_tb, wb_tb, wb_tb, wb_sm k hk]
  apply BitVec.eq_of_toNat_eq
  rw [BitVec.shiftLeft_eq', BitVec.toNat_shiftLeft, BitVec.toNat_ofNat, BitVec.toNat_ofNat, BitVec.toNat_ofNat, Nat.mod_eq_of_lt (show k < 2 ^ 64 by omega), Nat.shiftLeft_eq, Nat.mul_mod, Nat.mod_mod, ← Nat.mul_mod]
theorem wb_and {a b : Nat} (ha : a < 2 ^ 64) (hb : b < 2 ^ 64) : lN a &&& lN b = lN (a &&& b) := by
  apply wb_inj
  rw [Int64.toBitVec_and, wb_tb, wb_tb, wb_tb]
  apply BitVec.eq_of_toNat_eq
  rw [BitVec.toNat_and, BitVec.toNat_ofNat, BitVec.toNat_ofNat, BitVec.toNat_ofNat, Nat.mod_eq_of_lt ha, Nat.mod_eq_of_lt hb, Nat.mod_eq_of_lt (Nat.and_lt_two_pow _ hb)]
theorem wb_or {a b : Nat} (ha : a < 2 ^ 64) (hb : b < 2 ^ 64) : lN a ||| lN b = lN (a ||| b) := by
  apply wb_inj
  rw [Int64.toBitVec_or, wb_tb, wb_tb, wb_tb]
  apply BitVec.eq_of_toNat_eq
  rw [BitVec.toNat_or, BitVec.toNat_ofNat, BitVec.toNat_ofNat, BitVec.toNat_ofNat, Nat.mod_eq_of_lt ha, Nat.mod_eq_of_lt hb, Nat.mod_eq_of_lt (Nat.or_lt_two_pow ha hb)]
theorem wb_mask {n k : Nat} (hn : n < 2 ^ 64) (hk : k < 64) : lN n &&& lN (2 ^ k - 1) = lN (n % 2 ^ k) := by
  rw [wb_and hn (by have := wb_lt2 hk; omega), Nat.and_two_pow_sub_one_eq_mod]
/-! feed, the class's and the model's -/
def fd_b (N j : Nat) : Nat := N / 2 ^ (8 * j) % 256
theorem fd_bl (N j : Nat) : fd_b N j < 256 := Nat.mod_lt _ (by decide)
def fd_okb (b : Nat) : Bool := decide (b = 10) || (!decide (b < 32) && !decide (126 < b))
theorem fd_m8 : ∀ j, j < 8 → (Int8.ofInt 8).toInt32 * nI j = nI (8 * j) := by decide +kernel
theorem fd_tb {b : Nat} (h : b < 2 ^ 32) : (nI b).toBitVec.toNat = b := by
  show (BitVec.ofNat 32 b).toNat = b
  rw [BitVec.toNat_ofNat, Nat.mod_eq_of_lt h]
theorem fd_c2 {b : Nat} (h : b < 65536) : ((nI b).toUInt32 % 65536).toInt32 = nI b := by
  rw [pk_char, fd_tb (by omega), Nat.mod_eq_of_lt h]
theorem fd_vc {b : Nat} (h : b < 65536) : vp_nar .char (nI b) = nI b := by
  have := pk_vc (nI b)
  rwa [fd_c2 h] at this
theorem fd_cl {N j : Nat} (hN : N < 2 ^ 64) (hj : j < 8) : ((((lN N).toUInt64 >>> (((Int8.ofInt 8).toInt32 * nI j).toInt64.toUInt64 &&& Int64.toUInt64 63)).toInt64 &&& lN 255).toInt32.toUInt32 % 65536).toInt32 = nI (fd_b N j) := by
  rw [fd_m8 j hj, wb_shr hN (by omega), show lN 255 = lN (2 ^ 8 - 1) from rfl, wb_mask (Nat.lt_of_le_of_lt (Nat.div_le_self _ _) hN) (by decide), lN_i]
  exact fd_c2 (by have := fd_bl N j; unfold fd_b at this; omega)
theorem fd_ss {N s : Nat} (hs : s ≤ 56) : (BitVec.ofNat 64 N).sshiftRight s &&& BitVec.ofNat 64 255 = BitVec.ofNat 64 (N / 2 ^ s % 256) := by
  apply BitVec.eq_of_getLsbD_eq
  intro i hi
  rw [BitVec.getLsbD_and, BitVec.getLsbD_sshiftRight, BitVec.getLsbD_ofNat, BitVec.getLsbD_ofNat, BitVec.getLsbD_ofNat, show (255 : Nat) = 2 ^ 8 - 1 from rfl, Nat.testBit_two_pow_sub_one, show (256 : Nat) = 2 ^ 8 from rfl, Nat.testBit_mod_two_pow, Nat.testBit_div_two_pow]
  by_cases h8 : i < 8
  · have h1 : s + i < 64 := by omega
    have h2 : i + s = s + i := Nat.add_comm _ _
    simp [h8, h1, hi, h2, show ¬ 64 ≤ i by omega]
  · simp [h8]
theorem fd_md {N j : Nat} (hj : j < 8) : (lN N >>> (((Int8.ofInt 8).toInt32 * nI j).toInt64 &&& 63)) &&& lN 255 = lN (fd_b N j) := by
  rw [fd_m8 j hj, wb_c _ (by omega)]
  apply wb_inj
  rw [Int64.toBitVec_and, Int64.toBitVec_shiftRight, wb_tb, wb_tb, wb_tb, wb_tb, wb_sm _ (by omega)]
  show (BitVec.ofNat 64 N).sshiftRight (BitVec.ofNat 64 (8 * j)).toNat &&& _ = _
  rw [BitVec.toNat_ofNat, Nat.mod_eq_of_lt (by omega)]
  exact fd_ss (by omega)
theorem pb_eq {a b : Nat} (ha : a < 2 ^ 31) (hb : b < 2 ^ 31) : pm_c2 .eq (nI a) (nI b) = decide (a = b) := decide_eq_decide.mpr (nI_eq ha hb)
theorem pb_lt {a b : Nat} (ha : a < 2 ^ 31) (hb : b < 2 ^ 31) : pm_c2 .lt (nI a) (nI b) = decide (a < b) := decide_eq_decide.mpr (nI_ltI ha hb)
theorem pb_ge {a b : Nat} (ha : a < 2 ^ 31) (hb : b < 2 ^ 31) : pm_c2 .ge (nI a) (nI b) = decide (b ≤ a) := decide_eq_decide.mpr (nI_leI hb ha)
theorem pb_gt {a b : Nat} (ha : a < 2 ^ 31) (hb : b < 2 ^ 31) : pm_c2 .gt (nI a) (nI b) = decide (b < a) := decide_eq_decide.mpr (nI_ltI hb ha)
theorem pb_le {a b : Nat} (ha : a < 2 ^ 31) (hb : b < 2 ^ 31) : pm_c2 .le (nI a) (nI b) = decide (a ≤ b) := decide_eq_decide.mpr (nI_leI ha hb)
theorem pb_cmp {a b : Nat} (ha : a < 2 ^ 31) (hb : b < 2 ^ 31) : lg_cmp (lN a) (lN b) = if b < a then 1 else if a = b then 0 else -1 := by
  unfold lg_cmp
  have h1 : (lN a > lN b) ↔ b < a := lN_lt hb ha
  have h2 : (lN a = lN b) ↔ a = b := lN_eq ha hb
  simp only [h1, h2]
theorem pb_leq {a b : Nat} (ha : a < 2 ^ 31) (hb : b < 2 ^ 31) : pm_c0 .eq (lg_cmp (lN a) (lN b)) = decide (a = b) := by
  rw [pb_cmp ha hb]
  by_cases h1 : b < a
  · rw [if_pos h1, decide_eq_false (show ¬ a = b by omega)]; rfl
  · by_cases h2 : a = b
    · rw [if_neg h1, if_pos h2, decide_eq_true h2]; rfl
    · rw [if_neg h1, if_neg h2, decide_eq_false h2]; rfl
theorem pb_lle {a b : Nat} (ha : a < 2 ^ 31) (hb : b < 2 ^ 31) : pm_c0 .le (lg_cmp (lN a) (lN b)) = decide (a ≤ b) := by
  rw [pb_cmp ha hb]
  by_cases h1 : b < a
  · rw [if_pos h1, decide_eq_false (show ¬ a ≤ b by omega)]; rfl
  · rw [if_neg h1, decide_eq_true (show a ≤ b by omega)]
    by_cases h2 : a = b
    · rw [if_pos h2]; rfl
    · rw [if_neg h2]; rfl
theorem pb_lge {a b : Nat} (ha : a < 2 ^ 31) (hb : b < 2 ^ 31) : pm_c0 .ge (lg_cmp (lN a) (lN b)) = decide (b ≤ a) := by
  rw [pb_cmp ha hb]
  by_cases h1 : b < a
  · rw [if_pos h1, decide_eq_true (show b ≤ a by omega)]; rfl
  · by_cases h2 : a = b
    · rw [if_neg h1, if_pos h2, decide_eq_true (show b ≤ a by omega)]; rfl
    · rw [if_neg h1, if_neg h2, decide_eq_false (show ¬ b ≤ a by omega)]; rfl
theorem pb_inb {a n : Nat} (h : a < n) (hn : n < 2 ^ 31) : pm_inb (nI a) n = true := by
  unfold pm_inb
  rw [decide_eq_false (nI_pos (by omega)), nI_clamp (by omega)]
  exact Nat.ble_eq_true_of_le h
section FD1
variable {d mi pc : Nat} {L : pm_L} {S : List Value} {h : pm_H} {Q : Option Value → pm_H → Prop}
theorem px_rc {x : Int32} (hf : pm_fd (pm_code mi) pc = some .ireturn) (hrt : pm_rt mi = some .char) (hx : vp_nar .char x = x) (q : Q (some (.int x)) h) : px d mi pc L [.int x] h Q := by
  refine px_ret ?_ q
  unfold pm_step
  rw [hf]
  simp only [pm_push, pm_ari, pm_br, pm_sto, pm_read, pm_write, pm_ret, hrt, if_pos hx]
theorem px_rb {x : Int32} (hf : pm_fd (pm_code mi) pc = some .ireturn) (hrt : pm_rt mi = some .boolean) (hx : x = 0 ∨ x = 1) (q : Q (some (.int x)) h) : px d mi pc L [.int x] h Q := by
  refine px_ret ?_ q
  unfold pm_step
  rw [hf]
  simp only [pm_push, pm_ari, pm_br, pm_sto, pm_read, pm_write, pm_ret, hrt, if_pos hx]
theorem px_castore {a : Nat} {x j : Int32} (hf : pm_fd (pm_code mi) pc = some .castore) (ha : pm_isA pm_swA a 2 = true) (hj : pm_inb j (pm_sh pm_swA a).2 = true) (q : px d mi (pc + 1) L S (pm_setI h a j.toNatClampNeg (vp_nar .char x)) Q) : px d mi pc L (.int x :: .int j :: .ref a :: S) h Q := by
  refine px_st ?_ q
  unfold pm_step
  rw [hf]
  simp only [pm_push, pm_ari, pm_br, pm_sto, pm_read, pm_write, ha, hj, Bool.and_self, cond_true, pm_ln]
end FD1
theorem fd_162 {d N j : Nat} {h : pm_H} {Q : Option Value → pm_H → Prop} (hN : N < 2 ^ 64) (hj : j < 8) (q : Q (some (.int (nI (fd_b N j)))) h) : px d 162 0 (lv_args 0 [.long (lN N), .int (nI j)]) [] h Q := by
  refine px_seg 9 (pc' := 12) (L' := lv_args 0 [.long (lN N), .int (nI j)]) (S' := [.int (((((lN N).toUInt64 >>> (((Int8.ofInt 8).toInt32 * nI j).toInt64.toUInt64 &&& Int64.toUInt64 63)).toInt64 &&& lN 255).toInt32.toUInt32 % 65536).toInt32)]) (h' := h) (fun _ => rfl) ?_
  rw [fd_cl hN hj]
  exact px_rc rfl rfl (fd_vc (by have := fd_bl N j; omega)) q
theorem fd_163 {d b : Nat} {h : pm_H} {Q : Option Value → pm_H → Prop} (hb : b < 256) (q : Q (some (.int (bif fd_okb b then 1 else 0))) h) : px d 163 0 (lv_args 0 [.int (nI b)]) [] h Q := by
  refine px_seg 3 (pc' := bif pm_c2 .eq (nI b) (nI 10) then 18 else 6) (L' := [(0, .int (nI b))]) (S' := []) (h' := h) (fun _ => rfl) ?_
  rw [pb_eq (by omega) (by decide)]
  unfold fd_okb at q
  cases h1 : decide (b = 10) with
  | true =>
    rw [h1] at q
    exact px_seg 2 (pc' := 23) (L' := [(0, .int (nI b))]) (S' := [.int 1]) (h' := h) (fun _ => rfl) (px_rb rfl rfl (Or.inr rfl) q)
  | false =>
    rw [h1] at q
    refine px_seg 3 (pc' := bif pm_c2 .lt (nI b) (nI 32) then 22 else 12) (L' := [(0, .int (nI b))]) (S' := []) (h' := h) (fun _ => rfl) ?_
    rw [pb_lt (by omega) (by decide)]
    cases h2 : decide (b < 32) with
    | true =>
      rw [h2] at q
      exact px_seg 1 (pc' := 23) (L' := [(0, .int (nI b))]) (S' := [.int 0]) (h' := h) (fun _ => rfl) (px_rb rfl rfl (Or.inl rfl) q)
    | false =>
      rw [h2] at q
      refine px_seg 3 (pc' := bif pm_c2 .gt (nI b) (nI 126) then 22 else 18) (L' := [(0, .int (nI b))]) (S' := []) (h' := h) (fun _ => rfl) ?_
      rw [pb_gt (by omega) (by decide)]
      cases h3 : decide (126 < b) with
      | true =>
        rw [h3] at q
        exact px_seg 1 (pc' := 23) (L' := [(0, .int (nI b))]) (S' := [.int 0]) (h' := h) (fun _ => rfl) (px_rb rfl rfl (Or.inl rfl) q)
      | false =>
        rw [h3] at q
        exact px_seg 2 (pc' := 23) (L' := [(0, .int (nI b))]) (S' := [.int 1]) (h' := h) (fun _ => rfl) (px_rb rfl rfl (Or.inr rfl) q)
end
section
/-- the class's feed, first loop -/
theorem fd_loop1 {d N m : Nat} {h : pm_H} {Q : Option Value → pm_H → Prop} (hN : N < 2 ^ 64) (hm : m ≤ 8)
    (qf : ∀ j, j < m → fd_okb (fd_b N j) = false → Q (some (.int 0)) h)
    (qt : (∀ j, j < m → fd_okb (fd_b N j) = true) → px (d + 1) 153 54 [(4, .int (nI m)), (0, .ref 0), (1, .long (lN N)), (3, .int (nI m))] [] h Q) :
    ∀ r k, k + r = m → (∀ j, j < k → fd_okb (fd_b N j) = true) → px (d + 1) 153 28 [(4, .int (nI k)), (0, .ref 0), (1, .long (lN N)), (3, .int (nI m))] [] h Q := by
  intro r
  induction r with
  | zero =>
    intro k hk hok
    have hk : k = m := by omega
    subst hk
    refine px_seg 3 (pc' := bif pm_c2 .ge (nI k) (nI k) then 54 else 34) (L' := [(4, .int (nI k)), (0, .ref 0), (1, .long (lN N)), (3, .int (nI k))]) (S' := []) (h' := h) (fun _ => rfl) ?_
    rw [pb_ge (by omega) (by omega), decide_eq_true (Nat.le_refl k)]
    exact qt hok
  | succ r ih =>
    intro k hk hok
    refine px_seg 3 (pc' := bif pm_c2 .ge (nI k) (nI m) then 54 else 34) (L' := [(4, .int (nI k)), (0, .ref 0), (1, .long (lN N)), (3, .int (nI m))]) (S' := []) (h' := h) (fun _ => rfl) ?_
    rw [pb_ge (by omega) (by omega), decide_eq_false (show ¬ m ≤ k by omega)]
    refine px_seg 2 (pc' := 37) (L' := [(4, .int (nI k)), (0, .ref 0), (1, .long (lN N)), (3, .int (nI m))]) (S' := [.int (nI k), .long (lN N)]) (h' := h) (fun _ => rfl) ?_
    refine px_call (mj := 162) (as := [.long (lN N), .int (nI k)]) (S' := []) rfl rfl (fd_162 hN (by omega) ?_)
    refine px_call (mj := 163) (as := [.int (nI (fd_b N k))]) (S' := []) rfl rfl (fd_163 (fd_bl N k) ?_)
    cases hb : fd_okb (fd_b N k) with
    | false =>
      refine px_seg 2 (pc' := 47) (L' := [(4, .int (nI k)), (0, .ref 0), (1, .long (lN N)), (3, .int (nI m))]) (S' := [.int 0]) (h' := h) (fun _ => rfl) ?_
      exact px_rb rfl rfl (Or.inl rfl) (qf k (by omega) hb)
    | true =>
      refine px_seg 3 (pc' := 28) (L' := [(4, .int (nI k + 1)), (0, .ref 0), (1, .long (lN N)), (3, .int (nI m))]) (S' := []) (h' := h) (fun _ => rfl) ?_
      rw [nI_1]
      refine ih (k + 1) (by omega) (fun j hj => ?_)
      by_cases e : j = k
      · subst e; exact hb
      · exact hok j (by omega)
theorem fd_dec (r : Nat) : nI r + Int32.ofInt (-1) = nI r - 1 := by
  rw [Int32.sub_eq_add_neg]
  rfl
/-- what a feed leaves of the ints: only the text and its length change, and the text stays made of chars -/
def fd_fr (I I' : Nat → Nat → Int32) : Prop := (∀ i, i ≠ 0 → i ≠ 1 → I' i = I i) ∧ (∀ j, j ≠ 1 → I' 0 j = I 0 j) ∧ (∀ j, I' 1 j = I 1 j ∨ ∃ b, b < 256 ∧ I' 1 j = nI b)
theorem fd_fr_rf (I : Nat → Nat → Int32) : fd_fr I I := ⟨fun _ _ _ => rfl, fun _ _ => rfl, fun _ => Or.inl rfl⟩
theorem fd_loop2 {d N m l : Nat} {J : Nat → Nat → Int64} {K : Option Nat} {T : Nat → Option Nat} {Q : Option Value → pm_H → Prop} (hN : N < 2 ^ 64) (hm : m ≤ 8) (hl : l + m ≤ 3000) (I0 : Nat → Nat → Int32)
    (q : ∀ I, I 0 1 = nI (l + m) → fd_fr I0 I → Q (some (.int 1)) (pg I J K T)) :
    ∀ r I, r ≤ m → I 0 1 = nI (l + (m - r)) → fd_fr I0 I → px (d + 1) 153 59 [(4, .int (nI r - 1)), (0, .ref 0), (1, .long (lN N)), (3, .int (nI m))] [] (pg I J K T) Q := by
  intro r
  induction r with
  | zero =>
    intro I hr hI hF
    refine px_seg 3 (pc' := 96) (L' := [(4, .int (nI 0 - 1)), (0, .ref 0), (1, .long (lN N)), (3, .int (nI m))]) (S' := [.int 1]) (h' := pg I J K T) (fun _ => rfl) ?_
    exact px_rb rfl rfl (Or.inr rfl) (q I hI hF)
  | succ r ih =>
    intro I hr hI hF
    rw [nI_pred]
    refine px_seg 2 (pc' := bif pm_c0 .lt (nI r) then 95 else 64) (L' := [(4, .int (nI r)), (0, .ref 0), (1, .long (lN N)), (3, .int (nI m))]) (S' := []) (h' := pg I J K T) (fun _ => rfl) ?_
    rw [show pm_c0 .lt (nI r) = false from decide_eq_false (nI_pos (by omega))]
    refine px_seg 6 (pc' := 75) (L' := [(4, .int (nI r)), (0, .ref 0), (1, .long (lN N)), (3, .int (nI m))]) (S' := [.int (nI r), .long (lN N), .int (I 0 1), .ref 1]) (h' := pg I J K T) (fun _ => rfl) ?_
    refine px_call (mj := 162) (as := [.long (lN N), .int (nI r)]) (S' := [.int (I 0 1), .ref 1]) rfl rfl (fd_162 hN (by omega) ?_)
    have hb := fd_bl N r
    refine px_castore (a := 1) (x := nI (fd_b N r)) (j := I 0 1) (S := []) rfl rfl (by rw [hI]; exact pb_inb (show l + (m - (r + 1)) < 3000 by omega) (by decide)) ?_
    rw [fd_vc (by omega), hI, nI_clamp (by omega)]
    refine px_seg 8 (pc' := 59) (L' := [(4, .int (nI r + Int32.ofInt (-1))), (0, .ref 0), (1, .long (lN N)), (3, .int (nI m))]) (S' := []) (h' := pg (va_up (va_up I 1 (va_up (I 1) (l + (m - (r + 1))) (nI (fd_b N r)))) 0 (va_up (I 0) 1 (I 0 1 + 1))) J K T) (fun _ => rfl) ?_
    rw [fd_dec]
    refine ih _ (by omega) ?_ ?_
    · rw [va_up_self, va_up_self, hI, nI_1]
      congr 1
      omega
    · obtain ⟨f1, f2, f3⟩ := hF
      refine ⟨fun i h0 h1 => ?_, fun j hj => ?_, fun j => ?_⟩
      · rw [va_up_ne _ _ h0, va_up_ne _ _ h1]
        exact f1 i h0 h1
      · rw [va_up_self, va_up_ne _ _ hj]
        exact f2 j hj
      · rw [va_up_ne _ _ (show (1 : Nat) ≠ 0 by decide), va_up_self]
        by_cases e : j = l + (m - (r + 1))
        · subst e
          rw [va_up_self]
          exact Or.inr ⟨_, hb, rfl⟩
        · rw [va_up_ne _ _ e]
          exact f3 j
/-- the feed is taken -/
def fd_B (N : Nat) (n : Int32) (l : Nat) : Prop := ∃ m, n = nI m ∧ 1 ≤ m ∧ m ≤ 8 ∧ l + m ≤ 3000 ∧ ∀ j, j < m → fd_okb (fd_b N j) = true
theorem fd_in {n : Int32} (h0 : ¬ n < 1) (h8 : ¬ (8 : Int32) < n) : ∃ m, n = nI m ∧ 1 ≤ m ∧ m ≤ 8 := by
  have h1 : ¬ n < 0 := by
    intro z
    rw [Int32.lt_iff_toInt_lt] at z h0
    have e0 : (0 : Int32).toInt = 0 := by decide
    have e1 : (1 : Int32).toInt = 1 := by decide
    omega
  have h2 : n ≤ 8 := Int32.not_lt.mp h8
  obtain ⟨m, hm, rfl⟩ := nI_of2 (n := 8) (M := 8) (by decide) h1 h2
  refine ⟨m, rfl, ?_, hm⟩
  rcases Nat.eq_zero_or_pos m with e | e
  · subst e
    exact absurd (by decide : nI 0 < 1) h0
  · exact e
theorem fd_out {N l : Nat} {n : Int32} (h : n < 1 ∨ (8 : Int32) < n) : ¬ fd_B N n l := by
  rintro ⟨m, rfl, h1, h2, -, -⟩
  rcases h with h | h
  · exact absurd h (nI_nlt (a := m) (b := 1) h1 (by omega))
  · exact absurd h (nI_nlt (a := 8) (b := m) h2 (by omega))
theorem fd_153 {d N l : Nat} {n : Int32} {I : Nat → Nat → Int32} {J : Nat → Nat → Int64} {K : Option Nat} {T : Nat → Option Nat} {Q : Option Value → pm_H → Prop} (hN : N < 2 ^ 64) (hl : l ≤ 3000) (hI : I 0 1 = nI l)
    (q0 : ¬ fd_B N n l → Q (some (.int 0)) (pg I J K T))
    (q1 : ∀ m I', n = nI m → fd_B N n l → I' 0 1 = nI (l + m) → fd_fr I I' → Q (some (.int 1)) (pg I' J K T)) : px (d + 1) 153 0 (lv_args 0 [.ref 0, .long (lN N), .int n]) [] (pg I J K T) Q := by
  refine px_seg 3 (pc' := bif pm_c2 .lt n 1 then 23 else 5) (L' := [(0, .ref 0), (1, .long (lN N)), (3, .int n)]) (S' := []) (h' := pg I J K T) (fun _ => rfl) ?_
  have e0 : ¬ fd_B N n l → px (d + 1) 153 23 [(0, .ref 0), (1, .long (lN N)), (3, .int n)] [] (pg I J K T) Q := fun hB => px_seg 1 (pc' := 24) (L' := [(0, .ref 0), (1, .long (lN N)), (3, .int n)]) (S' := [.int 0]) (h' := pg I J K T) (fun _ => rfl) (px_rb rfl rfl (Or.inl rfl) (q0 hB))
  by_cases h0 : n < 1
  · rw [show pm_c2 .lt n 1 = true from decide_eq_true h0]
    exact e0 (fd_out (Or.inl h0))
  rw [show pm_c2 .lt n 1 = false from decide_eq_false h0]
  refine px_seg 3 (pc' := bif pm_c2 .gt n 8 then 23 else 11) (L' := [(0, .ref 0), (1, .long (lN N)), (3, .int n)]) (S' := []) (h' := pg I J K T) (fun _ => rfl) ?_
  by_cases h8 : (8 : Int32) < n
  · rw [show pm_c2 .gt n 8 = true from decide_eq_true h8]
    exact e0 (fd_out (Or.inr h8))
  rw [show pm_c2 .gt n 8 = false from decide_eq_false h8]
  obtain ⟨m, rfl, m1, m8⟩ := fd_in h0 h8
  refine px_seg 6 (pc' := bif pm_c2 .le (I 0 1 + nI m) (nI 3000) then 25 else 23) (L' := [(0, .ref 0), (1, .long (lN N)), (3, .int (nI m))]) (S' := []) (h' := pg I J K T) (fun _ => rfl) ?_
  rw [hI, nI_add, pb_le (by omega) (by decide)]
  by_cases h3 : l + m ≤ 3000
  · rw [decide_eq_true h3]
    refine px_seg 2 (pc' := 28) (L' := [(4, .int (nI 0)), (0, .ref 0), (1, .long (lN N)), (3, .int (nI m))]) (S' := []) (h' := pg I J K T) (fun _ => rfl) ?_
    refine fd_loop1 hN m8 (fun j hj hb => q0 ?_) (fun hall => ?_) m 0 (by omega) (fun j hj => absurd hj (by omega))
    · rintro ⟨m2, e, -, a1, -, hall⟩
      have := (nI_eq (a := m) (b := m2) (by omega) (by omega)).mp e
      subst this
      rw [hall j hj] at hb
      cases hb
    · refine px_seg 4 (pc' := 59) (L' := [(4, .int (nI m - 1)), (0, .ref 0), (1, .long (lN N)), (3, .int (nI m))]) (S' := []) (h' := pg I J K T) (fun _ => rfl) ?_
      exact fd_loop2 hN m8 h3 I (fun I' e F => q1 m I' rfl ⟨m, rfl, m1, m8, h3, hall⟩ e F) m I (Nat.le_refl m) (by rw [hI]; congr 1; omega) (fd_fr_rf I)
  · rw [decide_eq_false h3]
    refine e0 ?_
    rintro ⟨m2, e, -, a1, a2, -⟩
    have := (nI_eq (a := m) (b := m2) (by omega) (by omega)).mp e
    omega
end
section
/-- what a feed leaves of the model's ints -/
def fm_fr (I I' : Nat → Nat → Int32) : Prop := (∀ i, i ≠ 39 → i ≠ 40 → I' i = I i) ∧ (∀ j, j ≠ 0 → j ≠ 3 → I' 39 j = I 39 j) ∧ (∀ j, I' 40 j = I 40 j ∨ ∃ b, b < 256 ∧ I' 40 j = nI b)
theorem fm_fr_rf (I : Nat → Nat → Int32) : fm_fr I I := ⟨fun _ _ _ => rfl, fun _ _ _ => rfl, fun _ => Or.inl rfl⟩
theorem fm_fr_39 {I I' : Nat → Nat → Int32} (h : fm_fr I I') {k : Nat} (hk : k = 0 ∨ k = 3) (v : Int32) : fm_fr I (va_up I' 39 (va_up (I' 39) k v)) := by
  obtain ⟨f1, f2, f3⟩ := h
  refine ⟨fun i h0 h1 => ?_, fun j h0 h3 => ?_, fun j => ?_⟩
  · rw [va_up_ne _ _ h0]
    exact f1 i h0 h1
  · rw [va_up_self, va_up_ne _ _ (show j ≠ k by omega)]
    exact f2 j h0 h3
  · rw [va_up_ne _ _ (show (40 : Nat) ≠ 39 by decide)]
    exact f3 j
theorem fm_sub {m k : Nat} (h : k < m) : nI m - 1 - nI k = nI (m - 1 - k) := by
  rw [show (1 : Int32) = nI 1 from rfl, pk_sub (by omega), pk_sub (by omega)]
abbrev fm_bs (N : Nat) (n : Int32) : pm_L := [(0, .ref 39), (1, .long (lN N)), (3, .int n)]
abbrev fm_X (X : pm_L) : Prop := X = [] ∨ ∃ c, X = [(6, .long c)]
section FM1
variable {d N m l : Nat} {n : Int32} {I : Nat → Nat → Int32} {J : Nat → Nat → Int64} {K : Option Nat} {T : Nat → Option Nat} {Q : Option Value → pm_H → Prop}
theorem fm_end0 {X : pm_L} (hX : fm_X X) (k : Int32) (q : Q (some (.int 0)) (pg (va_up I 39 (va_up (I 39) 3 (I 39 3))) J K T)) : px d 2 101 ((5, .int k) :: (4, .int 0) :: (X ++ fm_bs N n)) [] (pg I J K T) Q := by
  have e : px d 2 150 ((5, .int (nI 0)) :: (4, .int 0) :: (X ++ fm_bs N n)) [] (pg I J K T) Q := by
    rcases hX with rfl | ⟨c, rfl⟩
    · exact px_seg 7 (pc' := 174) (L' := [(5, .int (nI 0)), (4, .int 0), (0, .ref 39), (1, .long (lN N)), (3, .int n)]) (S' := [.int 0]) (h' := pg (va_up I 39 (va_up (I 39) 3 (I 39 3))) J K T) (fun _ => rfl) (px_rb rfl rfl (Or.inl rfl) q)
    · exact px_seg 7 (pc' := 174) (L' := [(5, .int (nI 0)), (4, .int 0), (6, .long c), (0, .ref 39), (1, .long (lN N)), (3, .int n)]) (S' := [.int 0]) (h' := pg (va_up I 39 (va_up (I 39) 3 (I 39 3))) J K T) (fun _ => rfl) (px_rb rfl rfl (Or.inl rfl) q)
  refine px_seg 5 (pc' := bif pm_c2 .ge (nI 0) n then 150 else 110) (L' := (5, .int (nI 0)) :: (4, .int 0) :: (X ++ fm_bs N n)) (S' := []) (h' := pg I J K T) (fun _ => by rcases hX with rfl | ⟨c, rfl⟩ <;> rfl) ?_
  cases pm_c2 .ge (nI 0) n with
  | true => exact e
  | false => exact px_seg 2 (pc' := 150) (L' := (5, .int (nI 0)) :: (4, .int 0) :: (X ++ fm_bs N n)) (S' := []) (h' := pg I J K T) (fun _ => by rcases hX with rfl | ⟨c, rfl⟩ <;> rfl) e
theorem fm_l0 {X : pm_L} (hX : fm_X X) (k : Int32) (q : px d 2 101 ((5, .int k) :: (4, .int 0) :: (X ++ fm_bs N n)) [] (pg I J K T) Q) : px d 2 37 ((5, .int k) :: (4, .int 0) :: (X ++ fm_bs N n)) [] (pg I J K T) Q := by
  refine px_seg 3 (pc' := bif pm_c2 .ge k n then 101 else 43) (L' := (5, .int k) :: (4, .int 0) :: (X ++ fm_bs N n)) (S' := []) (h' := pg I J K T) (fun _ => by rcases hX with rfl | ⟨c, rfl⟩ <;> rfl) ?_
  cases pm_c2 .ge k n with
  | true => exact q
  | false => exact px_seg 2 (pc' := 101) (L' := (5, .int k) :: (4, .int 0) :: (X ++ fm_bs N n)) (S' := []) (h' := pg I J K T) (fun _ => by rcases hX with rfl | ⟨c, rfl⟩ <;> rfl) q
theorem fm_loop2 {X : pm_L} (hX : fm_X X) (hm : m ≤ 8) (hl : l + m ≤ 3000) (I0 : Nat → Nat → Int32)
    (q : ∀ I, I 39 3 = nI (l + m) → fm_fr I0 I → Q (some (.int 1)) (pg I J K T)) :
    ∀ r k I, k + r = m → I 39 3 = nI l → fm_fr I0 I → px d 2 104 ((5, .int (nI k)) :: (4, .int 1) :: (X ++ fm_bs N (nI m))) [] (pg I J K T) Q := by
  intro r
  induction r with
  | zero =>
    intro k I hk hI hF
    have hk : k = m := by omega
    subst hk
    refine px_seg 3 (pc' := bif pm_c2 .ge (nI k) (nI k) then 150 else 110) (L' := (5, .int (nI k)) :: (4, .int 1) :: (X ++ fm_bs N (nI k))) (S' := []) (h' := pg I J K T) (fun _ => by rcases hX with rfl | ⟨c, rfl⟩ <;> rfl) ?_
    rw [pb_ge (by omega) (by omega), decide_eq_true (Nat.le_refl k)]
    refine px_seg 10 (pc' := 174) (L' := (5, .int (nI k)) :: (4, .int 1) :: (X ++ fm_bs N (nI k))) (S' := [.int 1]) (h' := pg (va_up I 39 (va_up (I 39) 3 (I 39 3 + nI k))) J K T) (fun _ => by rcases hX with rfl | ⟨c, rfl⟩ <;> rfl) ?_
    exact px_rb rfl rfl (Or.inr rfl) (q _ (by rw [va_up_self, va_up_self, hI, nI_add]) (fm_fr_39 hF (Or.inr rfl) _))
  | succ r ih =>
    intro k I hk hI hF
    refine px_seg 3 (pc' := bif pm_c2 .ge (nI k) (nI m) then 150 else 110) (L' := (5, .int (nI k)) :: (4, .int 1) :: (X ++ fm_bs N (nI m))) (S' := []) (h' := pg I J K T) (fun _ => by rcases hX with rfl | ⟨c, rfl⟩ <;> rfl) ?_
    rw [pb_ge (by omega) (by omega), decide_eq_false (show ¬ m ≤ k by omega)]
    refine px_seg 21 (pc' := 143) (L' := (5, .int (nI k)) :: (4, .int 1) :: (X ++ fm_bs N (nI m))) (S' := [.int ((((lN N >>> (((Int8.ofInt 8).toInt32 * (nI m - 1 - nI k)).toInt64 &&& 63)) &&& lN 255).toInt32.toUInt32 % 65536).toInt32), .int (I 39 3 + nI k), .ref 40]) (h' := pg I J K T) (fun _ => by rcases hX with rfl | ⟨c, rfl⟩ <;> rfl) ?_
    have hb := fd_bl N (m - 1 - k)
    rw [fm_sub (by omega), fd_md (by omega), lN_i, fd_c2 (by omega), hI, nI_add]
    refine px_castore (a := 40) (x := nI (fd_b N (m - 1 - k))) (j := nI (l + k)) (S := []) rfl rfl (pb_inb (show l + k < 3000 by omega) (by decide)) ?_
    rw [fd_vc (by omega), nI_clamp (by omega)]
    refine px_seg 2 (pc' := 104) (L' := (5, .int (nI k + 1)) :: (4, .int 1) :: (X ++ fm_bs N (nI m))) (S' := []) (h' := pg (va_up I 40 (va_up (I 40) (l + k) (nI (fd_b N (m - 1 - k))))) J K T) (fun _ => by rcases hX with rfl | ⟨c, rfl⟩ <;> rfl) ?_
    rw [nI_1]
    refine ih (k + 1) _ (by omega) ?_ ?_
    · rw [va_up_ne _ _ (show (39 : Nat) ≠ 40 by decide), hI]
    · obtain ⟨f1, f2, f3⟩ := hF
      refine ⟨fun i h0 h1 => ?_, fun j h0 h3 => ?_, fun j => ?_⟩
      · rw [va_up_ne _ _ h1]
        exact f1 i h0 h1
      · rw [va_up_ne _ _ (show (39 : Nat) ≠ 40 by decide)]
        exact f2 j h0 h3
      · rw [va_up_self]
        by_cases e : j = l + k
        · subst e
          rw [va_up_self]
          exact Or.inr ⟨_, hb, rfl⟩
        · rw [va_up_ne _ _ e]
          exact f3 j
theorem fm_loop1 (hm : m ≤ 8) (qf : ∀ j, j < m → fd_okb (fd_b N j) = false → ∀ X k, fm_X X → px d 2 101 ((5, .int k) :: (4, .int 0) :: (X ++ fm_bs N (nI m))) [] (pg I J K T) Q)
    (qt : (∀ j, j < m → fd_okb (fd_b N j) = true) → ∀ X k, fm_X X → px d 2 101 ((5, .int k) :: (4, .int 1) :: (X ++ fm_bs N (nI m))) [] (pg I J K T) Q) :
    ∀ r k X, k + r = m → fm_X X → (∀ j, j < k → fd_okb (fd_b N j) = true) → px d 2 37 ((5, .int (nI k)) :: (4, .int 1) :: (X ++ fm_bs N (nI m))) [] (pg I J K T) Q := by
  intro r
  induction r with
  | zero =>
    intro k X hk hX hok
    have hk : k = m := by omega
    subst hk
    refine px_seg 3 (pc' := bif pm_c2 .ge (nI k) (nI k) then 101 else 43) (L' := (5, .int (nI k)) :: (4, .int 1) :: (X ++ fm_bs N (nI k))) (S' := []) (h' := pg I J K T) (fun _ => by rcases hX with rfl | ⟨c, rfl⟩ <;> rfl) ?_
    rw [pb_ge (by omega) (by omega), decide_eq_true (Nat.le_refl k)]
    exact qt hok X _ hX
  | succ r ih =>
    intro k X hk hX hok
    refine px_seg 3 (pc' := bif pm_c2 .ge (nI k) (nI m) then 101 else 43) (L' := (5, .int (nI k)) :: (4, .int 1) :: (X ++ fm_bs N (nI m))) (S' := []) (h' := pg I J K T) (fun _ => by rcases hX with rfl | ⟨c, rfl⟩ <;> rfl) ?_
    rw [pb_ge (by omega) (by omega), decide_eq_false (show ¬ m ≤ k by omega)]
    refine px_seg 9 (pc' := 59) (L' := (5, .int (nI k)) :: (4, .int 1) :: (X ++ fm_bs N (nI m))) (S' := [.long ((lN N >>> (((Int8.ofInt 8).toInt32 * nI k).toInt64 &&& 63)) &&& lN 255)]) (h' := pg I J K T) (fun _ => by rcases hX with rfl | ⟨c, rfl⟩ <;> rfl) ?_
    rw [fd_md (by omega)]
    have hb := fd_bl N k
    have hbad : fd_okb (fd_b N k) = false → px d 2 92 ((6, .long (lN (fd_b N k))) :: (5, .int (nI k)) :: (4, .int 1) :: fm_bs N (nI m)) [] (pg I J K T) Q := fun hf => by
      refine px_seg 4 (pc' := 37) (L' := (5, .int (nI k + 1)) :: (4, .int 0) :: ([(6, .long (lN (fd_b N k)))] ++ fm_bs N (nI m))) (S' := []) (h' := pg I J K T) (fun _ => rfl) ?_
      exact fm_l0 (Or.inr ⟨_, rfl⟩) _ (qf k (by omega) hf _ _ (Or.inr ⟨_, rfl⟩))
    have hgood : fd_okb (fd_b N k) = true → px d 2 88 ((6, .long (lN (fd_b N k))) :: (5, .int (nI k)) :: (4, .int 1) :: fm_bs N (nI m)) [] (pg I J K T) Q := fun hf => by
      refine px_seg 5 (pc' := 37) (L' := (5, .int (nI k + 1)) :: (4, .int 1) :: ([(6, .long (lN (fd_b N k)))] ++ fm_bs N (nI m))) (S' := []) (h' := pg I J K T) (fun _ => rfl) ?_
      rw [nI_1]
      refine ih (k + 1) _ (by omega) (Or.inr ⟨_, rfl⟩) (fun j hj => ?_)
      by_cases e : j = k
      · subst e; exact hf
      · exact hok j (by omega)
    refine px_seg 5 (pc' := bif pm_c0 .eq (lg_cmp (lN (fd_b N k)) (lN 10)) then 88 else 70) (L' := (6, .long (lN (fd_b N k))) :: (5, .int (nI k)) :: (4, .int 1) :: fm_bs N (nI m)) (S' := []) (h' := pg I J K T) (fun _ => by rcases hX with rfl | ⟨c, rfl⟩ <;> rfl) ?_
    rw [pb_leq (by omega) (by decide)]
    by_cases h1 : fd_b N k = 10
    · rw [decide_eq_true h1]
      exact hgood (by unfold fd_okb; rw [decide_eq_true h1]; rfl)
    rw [decide_eq_false h1]
    refine px_seg 4 (pc' := bif pm_c0 .le (lg_cmp (lN (fd_b N k)) (lN 31)) then 92 else 79) (L' := (6, .long (lN (fd_b N k))) :: (5, .int (nI k)) :: (4, .int 1) :: fm_bs N (nI m)) (S' := []) (h' := pg I J K T) (fun _ => rfl) ?_
    rw [pb_lle (by omega) (by decide)]
    by_cases h2 : fd_b N k ≤ 31
    · rw [decide_eq_true h2]
      exact hbad (by unfold fd_okb; rw [decide_eq_false h1, decide_eq_true (show fd_b N k < 32 by omega)]; rfl)
    rw [decide_eq_false h2]
    refine px_seg 4 (pc' := bif pm_c0 .ge (lg_cmp (lN (fd_b N k)) (lN 127)) then 92 else 88) (L' := (6, .long (lN (fd_b N k))) :: (5, .int (nI k)) :: (4, .int 1) :: fm_bs N (nI m)) (S' := []) (h' := pg I J K T) (fun _ => rfl) ?_
    rw [pb_lge (by omega) (by decide)]
    by_cases h3 : 127 ≤ fd_b N k
    · rw [decide_eq_true h3]
      exact hbad (by unfold fd_okb; rw [decide_eq_false h1, decide_eq_false (show ¬ fd_b N k < 32 by omega), decide_eq_true (show 126 < fd_b N k by omega)]; rfl)
    rw [decide_eq_false h3]
    exact hgood (by unfold fd_okb; rw [decide_eq_false h1, decide_eq_false (show ¬ fd_b N k < 32 by omega), decide_eq_false (show ¬ 126 < fd_b N k by omega)]; rfl)
/-- the model's feed -/
theorem fm_2 (hl : l ≤ 3000) (hI : I 39 3 = nI l)
    (q0 : ∀ I', ¬ fd_B N n l → I' 39 3 = nI l → fm_fr I I' → Q (some (.int 0)) (pg I' J K T))
    (q1 : ∀ m I', n = nI m → fd_B N n l → I' 39 3 = nI (l + m) → fm_fr I I' → Q (some (.int 1)) (pg I' J K T)) : px d 2 0 (lv_args 0 [.ref 39, .long (lN N), .int n]) [] (pg I J K T) Q := by
  have hF1 : fm_fr I (va_up I 39 (va_up (I 39) 0 0)) := fm_fr_39 (fm_fr_rf I) (Or.inl rfl) 0
  have hI1 : (va_up I 39 (va_up (I 39) 0 0)) 39 3 = nI l := by rw [va_up_self, va_up_ne _ _ (show (3 : Nat) ≠ 0 by decide), hI]
  refine px_seg 5 (pc' := bif pm_c0 .le n then 31 else 9) (L' := fm_bs N n) (S' := []) (h' := pg (va_up I 39 (va_up (I 39) 0 0)) J K T) (fun _ => rfl) ?_
  generalize hIe : va_up I 39 (va_up (I 39) 0 0) = I1 at hF1 hI1 ⊢
  have e0 : ∀ X k, fm_X X → ¬ fd_B N n l → px d 2 101 ((5, .int k) :: (4, .int 0) :: (X ++ fm_bs N n)) [] (pg I1 J K T) Q := fun X k hX hB => fm_end0 hX k (q0 _ hB (by rw [va_up_self, va_up_self, hI1]) (fm_fr_39 hF1 (Or.inr rfl) _))
  have e1 : ¬ fd_B N n l → px d 2 31 (fm_bs N n) [] (pg I1 J K T) Q := fun hB => px_seg 4 (pc' := 37) (L' := (5, .int 0) :: (4, .int 0) :: ([] ++ fm_bs N n)) (S' := []) (h' := pg I1 J K T) (fun _ => rfl) (fm_l0 (Or.inl rfl) _ (e0 _ _ (Or.inl rfl) hB))
  by_cases h0 : n < 1
  · have h0' : n ≤ 0 := by
      rw [Int32.lt_iff_toInt_lt] at h0
      rw [Int32.le_iff_toInt_le]
      have e0 : (0 : Int32).toInt = 0 := by decide
      have e1 : (1 : Int32).toInt = 1 := by decide
      omega
    rw [show pm_c0 .le n = true from decide_eq_true h0']
    exact e1 (fd_out (Or.inl h0))
  have h0' : ¬ n ≤ 0 := by
    rw [Int32.lt_iff_toInt_lt] at h0
    rw [Int32.le_iff_toInt_le]
    have e0 : (0 : Int32).toInt = 0 := by decide
    have e1 : (1 : Int32).toInt = 1 := by decide
    omega
  rw [show pm_c0 .le n = false from decide_eq_false h0']
  refine px_seg 3 (pc' := bif pm_c2 .ge n 9 then 31 else 15) (L' := fm_bs N n) (S' := []) (h' := pg I1 J K T) (fun _ => rfl) ?_
  by_cases h8 : (8 : Int32) < n
  · have h8' : (9 : Int32) ≤ n := by
      rw [Int32.lt_iff_toInt_lt] at h8
      rw [Int32.le_iff_toInt_le]
      have e0 : (8 : Int32).toInt = 8 := by decide
      have e1 : (9 : Int32).toInt = 9 := by decide
      omega
    rw [show pm_c2 .ge n 9 = true from decide_eq_true h8']
    exact e1 (fd_out (Or.inr h8))
  have h8' : ¬ (9 : Int32) ≤ n := by
    rw [Int32.lt_iff_toInt_lt] at h8
    rw [Int32.le_iff_toInt_le]
    have e0 : (8 : Int32).toInt = 8 := by decide
    have e1 : (9 : Int32).toInt = 9 := by decide
    omega
  rw [show pm_c2 .ge n 9 = false from decide_eq_false h8']
  obtain ⟨m, rfl, m1, m8⟩ := fd_in h0 h8
  refine px_seg 6 (pc' := bif pm_c2 .gt (I1 39 3 + nI m) (nI 3000) then 31 else 27) (L' := fm_bs N (nI m)) (S' := []) (h' := pg I1 J K T) (fun _ => rfl) ?_
  rw [hI1, nI_add, pb_gt (by omega) (by decide)]
  by_cases h3 : 3000 < l + m
  · rw [decide_eq_true h3]
    refine e1 ?_
    rintro ⟨m2, e, -, a1, a2, -⟩
    have := (nI_eq (a := m) (b := m2) (by omega) (by omega)).mp e
    omega
  rw [decide_eq_false h3]
  refine px_seg 5 (pc' := 37) (L' := (5, .int (nI 0)) :: (4, .int 1) :: ([] ++ fm_bs N (nI m))) (S' := []) (h' := pg I1 J K T) (fun _ => rfl) ?_
  refine fm_loop1 m8 (fun j hj hb X k hX => e0 X k hX ?_) (fun hall X k hX => ?_) m 0 [] (by omega) (Or.inl rfl) (fun j hj => absurd hj (by omega))
  · rintro ⟨m2, e, -, a1, -, hall⟩
    have := (nI_eq (a := m) (b := m2) (by omega) (by omega)).mp e
    subst this
    rw [hall j hj] at hb
    cases hb
  · refine px_seg 2 (pc' := 104) (L' := (5, .int (nI 0)) :: (4, .int 1) :: (X ++ fm_bs N (nI m))) (S' := []) (h' := pg I1 J K T) (fun _ => by rcases hX with rfl | ⟨c, rfl⟩ <;> rfl) ?_
    exact fm_loop2 hX m8 (by omega) I (fun I' e F => q1 m I' rfl ⟨m, rfl, m1, m8, by omega, hall⟩ e F) m 0 I1 (by omega) hI1 hF1
end FM1
end
section
/-! The first call on fresh objects: check() on the empty text -/
theorem va_up_up {α : Type} (f : Nat → α) (k : Nat) (x y : α) : va_up (va_up f k x) k y = va_up f k y := by
  funext i
  by_cases h : i = k
  · subst h; rw [va_up_self, va_up_self]
  · rw [va_up_ne _ _ h, va_up_ne _ _ h, va_up_ne _ _ h]
theorem va_up_id {α : Type} (f : Nat → α) (k : Nat) : va_up f k (f k) = f := by
  funext i
  by_cases h : i = k
  · subst h; rw [va_up_self]
  · rw [va_up_ne _ _ h]
section P1A
variable {d mi pc : Nat} {L : pm_L} {S : List Value} {h : pm_H} {Q : Option Value → pm_H → Prop} {pc' : Nat} {L' : pm_L} {S' : List Value} {h' : pm_H}
theorem px_sg (k k' : Nat) (hs : ∀ n, pm_run pm_swA (n + k) d mi pc L S h = pm_run pm_swA (n + k') d mi pc' L' S' h') (q : px d mi pc' L' S' h' Q) : px d mi pc L S h Q := by
  obtain ⟨n, v, h1, h2, h3⟩ := q
  exact ⟨n + k, v, h1, (hs n).trans (px_mono _ n (n + k') _ _ _ _ _ _ _ h2 (by omega)), h3⟩
theorem px_iastore {a : Nat} {x j : Int32} (hf : pm_fd (pm_code mi) pc = some .iastore) (ha : pm_isA pm_swA a 1 = true) (hj : pm_inb j (pm_sh pm_swA a).2 = true) (q : px d mi (pc + 1) L S (pm_setI h a j.toNatClampNeg x) Q) : px d mi pc L (.int x :: .int j :: .ref a :: S) h Q := by
  refine px_st ?_ q
  unfold pm_step
  rw [hf]
  simp only [pm_push, pm_ari, pm_br, pm_sto, pm_read, pm_write, ha, hj, Bool.and_self, cond_true, pm_ln]
theorem px_gr {a ci k r idx : Nat} {ty : FieldType} (hf : pm_fd (pm_code mi) pc = some (.getfield idx)) (hg : pm_gf (pm_ow mi) idx = some (ci, k)) (ha : Nat.blt a 1000 = true) (ho : pm_isO pm_swA a ci = true) (hty : (pm_ft ci)[k]? = some ty) (hc : pm_cat ty = 2) (hR : h.2.2 a k = some r) (q : px d mi (pc + 3) L (.ref r :: S) h Q) : px d mi pc L (.ref a :: S) h Q := by
  refine px_st ?_ q
  unfold pm_step
  rw [hf]
  simp only [pm_push, pm_ari, pm_br, pm_sto, pm_read, ha, cond_true, hg, ho, hty, pm_get, hc, hR, Option.map_some, pm_ln]
end P1A
theorem ck_fill {d a m : Nat} {I : Nat → Nat → Int32} {J : Nat → Nat → Int64} {R : Nat → Nat → Option Nat} {Q : Option Value → pm_H → Prop} (ha : pm_isA pm_swA a 1 = true) (hm : (pm_sh pm_swA a).2 = m) (hm2 : m < 2 ^ 31) (q : ∀ F, Q none (va_up I a F, J, R)) :
    ∀ r k F, k + r = m → px d 170 5 [(2, .int (nI k)), (3, .int (nI m)), (0, .ref a), (1, .int 0)] [] (va_up I a F, J, R) Q := by
  intro r
  induction r with
  | zero =>
    intro k F hk
    have hk : k = m := by omega
    subst hk
    refine px_seg 3 (pc' := bif pm_c2 .ge (nI k) (nI k) then 20 else 10) (L' := [(2, .int (nI k)), (3, .int (nI k)), (0, .ref a), (1, .int 0)]) (S' := []) (h' := (va_up I a F, J, R)) (fun _ => rfl) ?_
    rw [pb_ge (by omega) (by omega), decide_eq_true (Nat.le_refl k)]
    exact px_ret rfl (q F)
  | succ r ih =>
    intro k F hk
    refine px_seg 3 (pc' := bif pm_c2 .ge (nI k) (nI m) then 20 else 10) (L' := [(2, .int (nI k)), (3, .int (nI m)), (0, .ref a), (1, .int 0)]) (S' := []) (h' := (va_up I a F, J, R)) (fun _ => rfl) ?_
    rw [pb_ge (by omega) (by omega), decide_eq_false (show ¬ m ≤ k by omega)]
    refine px_seg 3 (pc' := 13) (L' := [(2, .int (nI k)), (3, .int (nI m)), (0, .ref a), (1, .int 0)]) (S' := [.int 0, .int (nI k), .ref a]) (h' := (va_up I a F, J, R)) (fun _ => rfl) ?_
    refine px_iastore (a := a) (x := 0) (j := nI k) (S := []) rfl ha (by rw [hm]; exact pb_inb (by omega) hm2) ?_
    rw [nI_clamp (by omega)]
    refine px_seg 2 (pc' := 5) (L' := [(2, .int (nI k + 1)), (3, .int (nI m)), (0, .ref a), (1, .int 0)]) (S' := []) (h' := (va_up (va_up I a F) a (va_up ((va_up I a F) a) k 0), J, R)) (fun _ => rfl) ?_
    rw [nI_1, va_up_up, va_up_self]
    exact ih (k + 1) _ (by omega)
theorem ck_170 {d : Nat} {I : Nat → Nat → Int32} {J : Nat → Nat → Int64} {R : Nat → Nat → Option Nat} {Q : Option Value → pm_H → Prop} (q : ∀ F, Q none (va_up I 29 F, J, R)) : px d 170 0 (lv_args 0 [.ref 29, .int 0]) [] (I, J, R) Q := by
  refine px_seg 5 (pc' := 5) (L' := [(3, .int (nI 2560)), (2, .int (nI 0)), (0, .ref 29), (1, .int 0)]) (S' := []) (h' := (I, J, R)) (fun _ => rfl) ?_
  refine px_seg 3 (pc' := 10) (L' := [(3, .int (nI 2560)), (2, .int (nI 0)), (0, .ref 29), (1, .int 0)]) (S' := []) (h' := (I, J, R)) (fun _ => rfl) ?_
  refine px_seg 3 (pc' := 13) (L' := [(3, .int (nI 2560)), (2, .int (nI 0)), (0, .ref 29), (1, .int 0)]) (S' := [.int 0, .int (nI 0), .ref 29]) (h' := (I, J, R)) (fun _ => rfl) ?_
  refine px_iastore (a := 29) (x := 0) (j := nI 0) (S := []) rfl rfl rfl ?_
  refine px_seg 2 (pc' := 5) (L' := [(2, .int (nI 1)), (3, .int (nI 2560)), (0, .ref 29), (1, .int 0)]) (S' := []) (h' := (va_up I 29 (va_up (I 29) 0 0), J, R)) (fun _ => rfl) ?_
  exact ck_fill (m := 2560) rfl rfl (by decide) q 2559 1 _ rfl
theorem ck_zero {d : Nat} {I : Nat → Nat → Int32} {J : Nat → Nat → Int64} {R : Nat → Nat → Option Nat} {Q : Option Value → pm_H → Prop} (hR : R 39 45 = some 61) (q : ∀ F, px d 48 249 [(1, .int (nI 2560)), (0, .ref 39)] [] (va_up I 61 F, J, R) Q) :
    ∀ r k F, k + r = 2560 → px d 48 227 [(1, .int (nI k)), (0, .ref 39)] [] (va_up I 61 F, J, R) Q := by
  intro r
  induction r with
  | zero =>
    intro k F hk
    have hk : k = 2560 := by omega
    subst hk
    refine px_seg 2 (pc' := 229) (L' := [(1, .int (nI 2560)), (0, .ref 39)]) (S' := [.ref 39, .int (nI 2560)]) (h' := (va_up I 61 F, J, R)) (fun _ => rfl) ?_
    refine px_gr (a := 39) (r := 61) rfl rfl rfl rfl rfl rfl hR ?_
    refine px_seg 2 (pc' := 249) (L' := [(1, .int (nI 2560)), (0, .ref 39)]) (S' := []) (h' := (va_up I 61 F, J, R)) (fun _ => rfl) ?_
    exact q F
  | succ r ih =>
    intro k F hk
    refine px_seg 2 (pc' := 229) (L' := [(1, .int (nI k)), (0, .ref 39)]) (S' := [.ref 39, .int (nI k)]) (h' := (va_up I 61 F, J, R)) (fun _ => rfl) ?_
    refine px_gr (a := 39) (r := 61) rfl rfl rfl rfl rfl rfl hR ?_
    refine px_seg 2 (pc' := bif pm_c2 .ge (nI k) (nI 2560) then 249 else 236) (L' := [(1, .int (nI k)), (0, .ref 39)]) (S' := []) (h' := (va_up I 61 F, J, R)) (fun _ => rfl) ?_
    rw [pb_ge (by omega) (by decide), decide_eq_false (show ¬ 2560 ≤ k by omega)]
    refine px_seg 1 (pc' := 237) (L' := [(1, .int (nI k)), (0, .ref 39)]) (S' := [.ref 39]) (h' := (va_up I 61 F, J, R)) (fun _ => rfl) ?_
    refine px_gr (a := 39) (r := 61) rfl rfl rfl rfl rfl rfl hR ?_
    refine px_seg 2 (pc' := 242) (L' := [(1, .int (nI k)), (0, .ref 39)]) (S' := [.int 0, .int (nI k), .ref 61]) (h' := (va_up I 61 F, J, R)) (fun _ => rfl) ?_
    refine px_iastore (a := 61) (x := 0) (j := nI k) (S := []) rfl rfl (pb_inb (show k < 2560 by omega) (by decide)) ?_
    rw [nI_clamp (by omega)]
    refine px_seg 2 (pc' := 227) (L' := [(1, .int (nI k + 1)), (0, .ref 39)]) (S' := []) (h' := (va_up (va_up I 61 F) 61 (va_up ((va_up I 61 F) 61) k 0), J, R)) (fun _ => rfl) ?_
    rw [nI_1, va_up_up, va_up_self]
    exact ih (k + 1) _ (by omega)
end
section
/-! p1: the law's loop over scripts of at most four ints -/
def pl_isr (i : Instr) : Bool := match i with
  | .ireturn => true
  | _ => false
set_option maxRecDepth 100000 in
set_option maxHeartbeats 4000000 in
theorem pu_go {stop : Nat → Bool} {d mi pc : Nat} {L : pm_L} {S : List Value} {h : pm_H} {Q : Nat → pm_L → List Value → pm_H → Prop} (k : Nat) {pc' : Nat} {L' : pm_L} {S' : List Value} {h' : pm_H} (hs : ∀ n, pp_run pm_swA stop (n + k) d mi pc L S h = pp_run pm_swA stop n d mi pc' L' S' h') (hst : stop pc' = true) (q : Q pc' L' S' h') : pu stop d mi pc L S h Q := pu_seg k hs (pu_stop hst q)
section PV2
variable {xs : Nat → Int32} {Ln x pc : Nat} {L : pm_L} {S : List Value} {h : pm_H} {i : Instr}
set_option maxRecDepth 100000 in
set_option maxHeartbeats 4000000 in
theorem pv_pu (hf : pm_fd (pm_code 174) pc = some i) (hn : pl_scr xs Ln i S = none) (hw : pl_wr i S = none) (hi : pl_isr i = false) (q : pu pl_stop 1000 174 pc L S h (fun pc' L' S' h' => pv xs Ln x pc' L' S' h')) : pv xs Ln x pc L S h :=
  pv_pp hf hn hw (fun e => by subst e; cases hi) q
set_option maxRecDepth 100000 in
set_option maxHeartbeats 4000000 in
theorem pv_go (k : Nat) {pc' : Nat} {L' : pm_L} {S' : List Value} {h' : pm_H} (hf : pm_fd (pm_code 174) pc = some i) (hn : pl_scr xs Ln i S = none) (hw : pl_wr i S = none) (hi : pl_isr i = false) (hs : ∀ n, pp_run pm_swA pl_stop (n + k) 1000 174 pc L S h = pp_run pm_swA pl_stop n 1000 174 pc' L' S' h') (hst : pl_stop pc' = true) (q : pv xs Ln x pc' L' S' h') : pv xs Ln x pc L S h :=
  pv_pu hf hn hw hi (pu_go k hs hst q)
end PV2
abbrev q1_0 : pm_L := [(3, .ref 74), (2, .ref 39), (1, .ref 0), (0, .ref 900)]
abbrev q1_4 : pm_L := [(4, .int 0), (3, .ref 74), (2, .ref 39), (1, .ref 0), (0, .ref 900)]
abbrev q1_h : pm_H := pg (fun _ _ => 0) (fun _ _ => 0) (some 1003) (fun _ => none)
section P1B
variable {xs : Nat → Int32} {x : Nat} {h : pm_H}
set_option maxRecDepth 100000 in
set_option maxHeartbeats 4000000 in
/-- the loop's end -/
theorem q1_e (L : pm_L) : pv xs 4 x 26 L [.ref 900, .int 4] h :=
  pv_scr (i := .arraylength) (S' := [.int (Int32.ofNat 4), .int 4]) rfl rfl (pv_go 4 (pc' := 594) (L' := L) (S' := [.int 1]) (h' := h) rfl rfl rfl rfl (fun _ => rfl) rfl (pv_ret rfl rfl))
set_option maxRecDepth 100000 in
set_option maxHeartbeats 4000000 in
/-- feed: the model's half -/
theorem q1_m (r : Int32) (C : Int64) (hC : C = ((xs 1).toInt64 <<< ((Int8.ofInt 32).toInt32.toInt64 &&& 63)) ||| ((xs 2).toInt64 &&& 4294967295)) (hm : px 999 2 0 (lv_args 0 [.ref 39, .long C, .int (xs 3)]) [] h (fun v _ => v = some (.int r))) : pu pl_stop 1000 174 120 q1_4 [.int r] h (fun pc' L' S' h' => pv xs 4 0 pc' L' S' h') := by
  refine pu_go 5 (pc' := 126) (L' := q1_4) (S' := [.int 1, .ref 900, .ref 39, .int r]) (h' := h) (fun _ => rfl) rfl ?_
  refine pv_scr (i := .iaload) (S' := [.int (xs 1), .ref 39, .int r]) rfl rfl ?_
  refine pv_go 7 (pc' := 136) (L' := q1_4) (S' := [.int 2, .ref 900, .long ((xs 1).toInt64 <<< ((Int8.ofInt 32).toInt32.toInt64 &&& 63)), .ref 39, .int r]) (h' := h) rfl rfl rfl rfl (fun _ => rfl) rfl ?_
  refine pv_scr (i := .iaload) (S' := [.int (xs 2), .long ((xs 1).toInt64 <<< ((Int8.ofInt 32).toInt32.toInt64 &&& 63)), .ref 39, .int r]) rfl rfl ?_
  refine pv_go 8 (pc' := 148) (L' := q1_4) (S' := [.int 3, .ref 900, .long (((xs 1).toInt64 <<< ((Int8.ofInt 32).toInt32.toInt64 &&& 63)) ||| ((xs 2).toInt64 &&& 4294967295)), .ref 39, .int r]) (h' := h) rfl rfl rfl rfl (fun _ => rfl) rfl ?_
  rw [← hC]
  refine pv_scr (i := .iaload) (S' := [.int (xs 3), .long C, .ref 39, .int r]) rfl rfl ?_
  refine pv_pu (i := .invokevirtual 47) rfl rfl rfl rfl ?_
  refine pu_call (d := 999) (mj := 2) (as := [.ref 39, .long C, .int (xs 3)]) (S' := [.int r]) rfl rfl rfl (px_imp hm ?_)
  intro v h1 hv
  subst hv
  refine pu_seg 1 (pc' := bif pm_c2 .eq r r then 587 else 155) (L' := q1_4) (S' := []) (h' := h1) (fun _ => rfl) ?_
  rw [show pm_c2 .eq r r = true from decide_eq_true rfl]
  exact pu_go 4 (pc' := 26) (L' := (4, .int 4) :: q1_0) (S' := [.ref 900, .int 4]) (h' := h1) (fun _ => rfl) rfl (q1_e _)
set_option maxRecDepth 100000 in
set_option maxHeartbeats 4000000 in
theorem q1_c0 : pu pl_stop 1000 174 39 q1_4 [.int 0] q1_h (fun pc' L' S' h' => pv xs 4 0 pc' L' S' h') := by
  refine pu_go 6 (pc' := 94) (L' := q1_4) (S' := [.int 1, .ref 900, .ref 0]) (h' := q1_h) (fun _ => rfl) rfl ?_
  refine pv_scr (i := .iaload) (S' := [.int (xs 1), .ref 0]) rfl rfl ?_
  refine pv_go 7 (pc' := 104) (L' := q1_4) (S' := [.int 2, .ref 900, .long ((xs 1).toInt64 <<< ((Int8.ofInt 32).toInt32.toInt64 &&& 63)), .ref 0]) (h' := q1_h) rfl rfl rfl rfl (fun _ => rfl) rfl ?_
  refine pv_scr (i := .iaload) (S' := [.int (xs 2), .long ((xs 1).toInt64 <<< ((Int8.ofInt 32).toInt32.toInt64 &&& 63)), .ref 0]) rfl rfl ?_
  refine pv_go 8 (pc' := 116) (L' := q1_4) (S' := [.int 3, .ref 900, .long (((xs 1).toInt64 <<< ((Int8.ofInt 32).toInt32.toInt64 &&& 63)) ||| ((xs 2).toInt64 &&& 4294967295)), .ref 0]) (h' := q1_h) rfl rfl rfl rfl (fun _ => rfl) rfl ?_
  obtain ⟨N, hN, hC⟩ := wb_of (((xs 1).toInt64 <<< ((Int8.ofInt 32).toInt32.toInt64 &&& 63)) ||| ((xs 2).toInt64 &&& 4294967295))
  rw [hC]
  refine pv_scr (i := .iaload) (S' := [.int (xs 3), .long (lN N), .ref 0]) rfl rfl ?_
  refine pv_pu (i := .invokevirtual 43) rfl rfl rfl rfl ?_
  refine pu_call (d := 999) (mj := 153) (as := [.ref 0, .long (lN N), .int (xs 3)]) (S' := []) rfl rfl rfl ?_
  refine fd_153 (d := 998) (l := 0) hN (by decide) rfl (fun hB => ?_) (fun m I' hm hB hI hF => ?_)
  · exact q1_m 0 (lN N) hC.symm (fm_2 (l := 0) (by decide) rfl (fun I' _ _ _ => rfl) (fun m I' _ hB' _ _ => absurd hB' hB))
  · exact q1_m 1 (lN N) hC.symm (fm_2 (l := 0) (by decide) (by rw [hF.1 39 (by decide) (by decide)]; rfl) (fun I' hB' _ _ => absurd hB hB') (fun m I' _ _ _ _ => rfl))
end P1B
end
section
section P1C0
set_option maxRecDepth 100000 in
set_option maxHeartbeats 4000000 in
/-- the class's check on the empty text -/
theorem q1_154 {Q : Option Value → pm_H → Prop} (q : ∀ h' : pm_H, h'.1 39 = (fun _ => 0) → h'.2.2 39 = pg_f pg_lM 39 → Q (some (.int 0)) h') : px 999 154 0 (lv_args 0 [.ref 0]) [] q1_h Q := by
  refine px_sg 300 284 (pc' := 30) (L' := [(0, .ref 0)]) (S' := [.int 0, .ref 29]) (fun _ => rfl) ?_
  refine px_call (d := 998) (mj := 170) (as := [.ref 29, .int 0]) (S' := []) rfl rfl (ck_170 (fun F => ?_))
  exact ⟨600, some (.int 0), _, rfl, q _ rfl rfl⟩
end P1C0
end
section
/-- k steps without a call -/
def pm_go (sw : List (Nat × Nat)) (mi : Nat) : Nat → Nat → pm_L → List Value → pm_H → Option (Nat × pm_L × List Value × pm_H)
  | 0, pc, L, S, h => some (pc, L, S, h)
  | k + 1, pc, L, S, h => match pm_step sw mi pc L S h with
    | some (.inl (pc', L', S', h')) => pm_go sw mi k pc' L' S' h'
    | _ => none
theorem px_g : ∀ {k d mi pc : Nat} {L : pm_L} {S : List Value} {h : pm_H} {Q : Option Value → pm_H → Prop} {pc' : Nat} {L' : pm_L} {S' : List Value} {h' : pm_H}, pm_go pm_swA mi k pc L S h = some (pc', L', S', h') → px d mi pc' L' S' h' Q → px d mi pc L S h Q := by
  intro k
  induction k with
  | zero =>
    intro d mi pc L S h Q pc' L' S' h' hs q
    unfold pm_go at hs
    cases hs
    exact q
  | succ k ih =>
    intro d mi pc L S h Q pc' L' S' h' hs q
    unfold pm_go at hs
    split at hs
    · rename_i pc1 L1 S1 h1 e
      exact px_st e (ih hs q)
    · cases hs
def q1_k1 (I : Nat → Nat → Int32) (J : Nat → Nat → Int64) (R : Nat → Nat → Option Nat) : pm_H := pm_setI (va_up I 39 (fun _ => 0), J, va_up R 39 (pg_f pg_lM 39)) 39 0 0
def q1_k2 (I : Nat → Nat → Int32) (J : Nat → Nat → Int64) (R : Nat → Nat → Option Nat) : pm_H := pm_setI (pm_setI (q1_k1 I J R) 39 4 0) 39 3 0
def q1_k3 (I : Nat → Nat → Int32) (J : Nat → Nat → Int64) (R : Nat → Nat → Option Nat) : pm_H := pm_setI (pm_setI (q1_k2 I J R) 39 38 0) 39 20 0
def q1_k4 (I : Nat → Nat → Int32) (J : Nat → Nat → Int64) (R : Nat → Nat → Option Nat) : pm_H := pm_setI (pm_setI (q1_k3 I J R) 39 19 0) 39 18 0
def q1_k5 (I : Nat → Nat → Int32) (J : Nat → Nat → Int64) (R : Nat → Nat → Option Nat) : pm_H := pm_setI (pm_setI (q1_k4 I J R) 39 17 0) 39 16 0
def q1_k6 (I : Nat → Nat → Int32) (J : Nat → Nat → Int64) (R : Nat → Nat → Option Nat) : pm_H := pm_setI (pm_setI (q1_k5 I J R) 39 15 0) 39 14 0
def q1_k7 (I : Nat → Nat → Int32) (J : Nat → Nat → Int64) (R : Nat → Nat → Option Nat) : pm_H := pm_setI (pm_setI (q1_k6 I J R) 39 13 0) 39 10 0
def q1_k8 (I : Nat → Nat → Int32) (J : Nat → Nat → Int64) (R : Nat → Nat → Option Nat) : pm_H := pm_setI (pm_setI (q1_k7 I J R) 39 5 0) 39 11 (-1)
def q1_k9 (I : Nat → Nat → Int32) (J : Nat → Nat → Int64) (R : Nat → Nat → Option Nat) : pm_H := pm_setI (q1_k8 I J R) 39 12 0
def q1_k10 (I : Nat → Nat → Int32) (J : Nat → Nat → Int64) (R : Nat → Nat → Option Nat) : pm_H := pm_setI (q1_k9 I J R) 39 37 0
def q1_k11 (I : Nat → Nat → Int32) (J : Nat → Nat → Int64) (R : Nat → Nat → Option Nat) : pm_H := pm_setI (pm_setI (q1_k10 I J R) 39 44 0) 39 58 0
def q1_k12 (I : Nat → Nat → Int32) (J : Nat → Nat → Int64) (R : Nat → Nat → Option Nat) : pm_H := pm_setI (q1_k11 I J R) 39 7 0
def q1_k13 (I : Nat → Nat → Int32) (J : Nat → Nat → Int64) (R : Nat → Nat → Option Nat) : pm_H := pm_setI (q1_k12 I J R) 39 6 12
def q1_k14 (I : Nat → Nat → Int32) (J : Nat → Nat → Int64) (R : Nat → Nat → Option Nat) : pm_H := pm_setI (q1_k13 I J R) 39 8 0
def q1_k15 (I : Nat → Nat → Int32) (J : Nat → Nat → Int64) (R : Nat → Nat → Option Nat) : pm_H := pm_setI (q1_k14 I J R) 58 0 15
def q1_k16 (I : Nat → Nat → Int32) (J : Nat → Nat → Int64) (R : Nat → Nat → Option Nat) : pm_H := pm_setI (q1_k15 I J R) 59 0 0
def q1_k17 (I : Nat → Nat → Int32) (J : Nat → Nat → Int64) (R : Nat → Nat → Option Nat) : pm_H := pm_setI (q1_k16 I J R) 60 0 0
def q1_k18 (I : Nat → Nat → Int32) (J : Nat → Nat → Int64) (R : Nat → Nat → Option Nat) : pm_H := pm_setI (q1_k17 I J R) 39 38 1
def q1_k19 (I : Nat → Nat → Int32) (J : Nat → Nat → Int64) (R : Nat → Nat → Option Nat) : pm_H := pm_setI (q1_k18 I J R) 69 0 1
def q1_k20 (I : Nat → Nat → Int32) (J : Nat → Nat → Int64) (R : Nat → Nat → Option Nat) : pm_H := pm_setI (q1_k19 I J R) 70 0 0
def q1_k21 (I : Nat → Nat → Int32) (J : Nat → Nat → Int64) (R : Nat → Nat → Option Nat) : pm_H := pm_setI (q1_k20 I J R) 71 0 0
def q1_k22 (I : Nat → Nat → Int32) (J : Nat → Nat → Int64) (R : Nat → Nat → Option Nat) : pm_H := pm_setI (q1_k21 I J R) 72 0 0
def q1_k23 (I : Nat → Nat → Int32) (J : Nat → Nat → Int64) (R : Nat → Nat → Option Nat) : pm_H := pm_setI (q1_k22 I J R) 73 0 0
def q1_k24 (I : Nat → Nat → Int32) (J : Nat → Nat → Int64) (R : Nat → Nat → Option Nat) : pm_H := pm_setI (q1_k23 I J R) 39 58 1
def q1_k25 (I : Nat → Nat → Int32) (J : Nat → Nat → Int64) (R : Nat → Nat → Option Nat) : pm_H := pm_setI (q1_k24 I J R) 39 58 (1 - 1)
def q1_k26 (I : Nat → Nat → Int32) (J : Nat → Nat → Int64) (R : Nat → Nat → Option Nat) : pm_H := pm_setI (q1_k25 I J R) 59 0 1
def q1_k27 (I : Nat → Nat → Int32) (J : Nat → Nat → Int64) (R : Nat → Nat → Option Nat) : pm_H := pm_setI (q1_k26 I J R) 69 0 2
def q1_k28 (I : Nat → Nat → Int32) (J : Nat → Nat → Int64) (R : Nat → Nat → Option Nat) : pm_H := pm_setI (q1_k27 I J R) 70 0 0
def q1_k29 (I : Nat → Nat → Int32) (J : Nat → Nat → Int64) (R : Nat → Nat → Option Nat) : pm_H := pm_setI (q1_k28 I J R) 71 0 0
def q1_k30 (I : Nat → Nat → Int32) (J : Nat → Nat → Int64) (R : Nat → Nat → Option Nat) : pm_H := pm_setI (q1_k29 I J R) 72 0 0
def q1_k31 (I : Nat → Nat → Int32) (J : Nat → Nat → Int64) (R : Nat → Nat → Option Nat) : pm_H := pm_setI (q1_k30 I J R) 73 0 0
def q1_k32 (I : Nat → Nat → Int32) (J : Nat → Nat → Int64) (R : Nat → Nat → Option Nat) : pm_H := pm_setI (q1_k31 I J R) 39 58 1
def q1_k33 (I : Nat → Nat → Int32) (J : Nat → Nat → Int64) (R : Nat → Nat → Option Nat) : pm_H := pm_setI (q1_k32 I J R) 69 1 5
def q1_k34 (I : Nat → Nat → Int32) (J : Nat → Nat → Int64) (R : Nat → Nat → Option Nat) : pm_H := pm_setI (q1_k33 I J R) 70 1 0
def q1_k35 (I : Nat → Nat → Int32) (J : Nat → Nat → Int64) (R : Nat → Nat → Option Nat) : pm_H := pm_setI (q1_k34 I J R) 71 1 0
def q1_k36 (I : Nat → Nat → Int32) (J : Nat → Nat → Int64) (R : Nat → Nat → Option Nat) : pm_H := pm_setI (q1_k35 I J R) 72 1 0
def q1_k37 (I : Nat → Nat → Int32) (J : Nat → Nat → Int64) (R : Nat → Nat → Option Nat) : pm_H := pm_setI (q1_k36 I J R) 73 1 0
def q1_k38 (I : Nat → Nat → Int32) (J : Nat → Nat → Int64) (R : Nat → Nat → Option Nat) : pm_H := pm_setI (q1_k37 I J R) 39 58 2
def q1_k39 (I : Nat → Nat → Int32) (J : Nat → Nat → Int64) (R : Nat → Nat → Option Nat) : pm_H := pm_setI (q1_k38 I J R) 39 58 (2 - 1)
def q1_k40 (I : Nat → Nat → Int32) (J : Nat → Nat → Int64) (R : Nat → Nat → Option Nat) : pm_H := pm_setI (q1_k39 I J R) 39 58 ((2 - 1) - 1)
def q1_k41 (I : Nat → Nat → Int32) (J : Nat → Nat → Int64) (R : Nat → Nat → Option Nat) : pm_H := pm_setI (q1_k40 I J R) 58 1 16
def q1_k42 (I : Nat → Nat → Int32) (J : Nat → Nat → Int64) (R : Nat → Nat → Option Nat) : pm_H := pm_setI (q1_k41 I J R) 59 1 0
def q1_k43 (I : Nat → Nat → Int32) (J : Nat → Nat → Int64) (R : Nat → Nat → Option Nat) : pm_H := pm_setI (q1_k42 I J R) 60 1 0
def q1_k44 (I : Nat → Nat → Int32) (J : Nat → Nat → Int64) (R : Nat → Nat → Option Nat) : pm_H := pm_setI (q1_k43 I J R) 39 38 2
def q1_k45 (I : Nat → Nat → Int32) (J : Nat → Nat → Int64) (R : Nat → Nat → Option Nat) : pm_H := pm_setI (q1_k44 I J R) 39 43 1
set_option maxRecDepth 100000 in
theorem q1_ks1 {I : Nat → Nat → Int32} {J : Nat → Nat → Int64} {R : Nat → Nat → Option Nat} : pm_go pm_swA 48 4 0 [(0, .ref 39)] [] (va_up I 39 (fun _ => 0), J, va_up R 39 (pg_f pg_lM 39)) = some (6, [(0, .ref 39)], [.int 0], (q1_k1 I J R)) := rfl
set_option maxRecDepth 100000 in
theorem q1_ks2 {I : Nat → Nat → Int32} {J : Nat → Nat → Int64} {R : Nat → Nat → Option Nat} : pm_go pm_swA 48 4 6 [(0, .ref 39)] [.int 0] (q1_k1 I J R) = some (12, [(1, .int 0), (0, .ref 39)], [.int 0, .int 0], (q1_k1 I J R)) := rfl
set_option maxRecDepth 100000 in
theorem q1_ks3 {I : Nat → Nat → Int32} {J : Nat → Nat → Int64} {R : Nat → Nat → Option Nat} : pm_go pm_swA 48 4 12 [(1, .int 0), (0, .ref 39)] [.int 0, .int 0] (q1_k1 I J R) = some (38, [(1, .int 0), (0, .ref 39)], [.int 0, .ref 39], (q1_k1 I J R)) := rfl
set_option maxRecDepth 100000 in
theorem q1_ks4 {I : Nat → Nat → Int32} {J : Nat → Nat → Int64} {R : Nat → Nat → Option Nat} : pm_go pm_swA 48 4 38 [(1, .int 0), (0, .ref 39)] [.int 0, .ref 39] (q1_k1 I J R) = some (46, [(1, .int 0), (0, .ref 39)], [], (q1_k2 I J R)) := rfl
set_option maxRecDepth 100000 in
theorem q1_ks5 {I : Nat → Nat → Int32} {J : Nat → Nat → Int64} {R : Nat → Nat → Option Nat} : pm_go pm_swA 48 4 46 [(1, .int 0), (0, .ref 39)] [] (q1_k2 I J R) = some (50, [(1, .int 0), (0, .ref 39)], [.ref 39, .ref 39, .ref 39, .ref 39], (q1_k2 I J R)) := rfl
set_option maxRecDepth 100000 in
theorem q1_ks6 {I : Nat → Nat → Int32} {J : Nat → Nat → Int64} {R : Nat → Nat → Option Nat} : pm_go pm_swA 48 4 50 [(1, .int 0), (0, .ref 39)] [.ref 39, .ref 39, .ref 39, .ref 39] (q1_k2 I J R) = some (54, [(1, .int 0), (0, .ref 39)], [.ref 39, .ref 39, .ref 39, .ref 39, .ref 39, .ref 39, .ref 39, .ref 39], (q1_k2 I J R)) := rfl
set_option maxRecDepth 100000 in
theorem q1_ks7 {I : Nat → Nat → Int32} {J : Nat → Nat → Int64} {R : Nat → Nat → Option Nat} : pm_go pm_swA 48 4 54 [(1, .int 0), (0, .ref 39)] [.ref 39, .ref 39, .ref 39, .ref 39, .ref 39, .ref 39, .ref 39, .ref 39] (q1_k2 I J R) = some (58, [(1, .int 0), (0, .ref 39)], [.int 0, .ref 39, .ref 39, .ref 39, .ref 39, .ref 39, .ref 39, .ref 39, .ref 39, .ref 39, .ref 39, .ref 39], (q1_k2 I J R)) := rfl
set_option maxRecDepth 100000 in
theorem q1_ks8 {I : Nat → Nat → Int32} {J : Nat → Nat → Int64} {R : Nat → Nat → Option Nat} : pm_go pm_swA 48 4 58 [(1, .int 0), (0, .ref 39)] [.int 0, .ref 39, .ref 39, .ref 39, .ref 39, .ref 39, .ref 39, .ref 39, .ref 39, .ref 39, .ref 39, .ref 39] (q1_k2 I J R) = some (66, [(1, .int 0), (0, .ref 39)], [.int 0, .ref 39, .ref 39, .ref 39, .ref 39, .ref 39, .ref 39, .ref 39, .ref 39, .ref 39], (q1_k3 I J R)) := rfl
set_option maxRecDepth 100000 in
theorem q1_ks9 {I : Nat → Nat → Int32} {J : Nat → Nat → Int64} {R : Nat → Nat → Option Nat} : pm_go pm_swA 48 4 66 [(1, .int 0), (0, .ref 39)] [.int 0, .ref 39, .ref 39, .ref 39, .ref 39, .ref 39, .ref 39, .ref 39, .ref 39, .ref 39] (q1_k3 I J R) = some (74, [(1, .int 0), (0, .ref 39)], [.int 0, .ref 39, .ref 39, .ref 39, .ref 39, .ref 39, .ref 39, .ref 39], (q1_k4 I J R)) := rfl
set_option maxRecDepth 100000 in
theorem q1_ks10 {I : Nat → Nat → Int32} {J : Nat → Nat → Int64} {R : Nat → Nat → Option Nat} : pm_go pm_swA 48 4 74 [(1, .int 0), (0, .ref 39)] [.int 0, .ref 39, .ref 39, .ref 39, .ref 39, .ref 39, .ref 39, .ref 39] (q1_k4 I J R) = some (82, [(1, .int 0), (0, .ref 39)], [.int 0, .ref 39, .ref 39, .ref 39, .ref 39, .ref 39], (q1_k5 I J R)) := rfl
set_option maxRecDepth 100000 in
theorem q1_ks11 {I : Nat → Nat → Int32} {J : Nat → Nat → Int64} {R : Nat → Nat → Option Nat} : pm_go pm_swA 48 4 82 [(1, .int 0), (0, .ref 39)] [.int 0, .ref 39, .ref 39, .ref 39, .ref 39, .ref 39] (q1_k5 I J R) = some (90, [(1, .int 0), (0, .ref 39)], [.int 0, .ref 39, .ref 39, .ref 39], (q1_k6 I J R)) := rfl
set_option maxRecDepth 100000 in
theorem q1_ks12 {I : Nat → Nat → Int32} {J : Nat → Nat → Int64} {R : Nat → Nat → Option Nat} : pm_go pm_swA 48 4 90 [(1, .int 0), (0, .ref 39)] [.int 0, .ref 39, .ref 39, .ref 39] (q1_k6 I J R) = some (98, [(1, .int 0), (0, .ref 39)], [.int 0, .ref 39], (q1_k7 I J R)) := rfl
set_option maxRecDepth 100000 in
theorem q1_ks13 {I : Nat → Nat → Int32} {J : Nat → Nat → Int64} {R : Nat → Nat → Option Nat} : pm_go pm_swA 48 4 98 [(1, .int 0), (0, .ref 39)] [.int 0, .ref 39] (q1_k7 I J R) = some (106, [(1, .int 0), (0, .ref 39)], [], (q1_k8 I J R)) := rfl
set_option maxRecDepth 100000 in
theorem q1_ks14 {I : Nat → Nat → Int32} {J : Nat → Nat → Int64} {R : Nat → Nat → Option Nat} : pm_go pm_swA 48 4 106 [(1, .int 0), (0, .ref 39)] [] (q1_k8 I J R) = some (112, [(1, .int 0), (0, .ref 39)], [.ref 39], (q1_k9 I J R)) := rfl
set_option maxRecDepth 100000 in
theorem q1_ks15 {I : Nat → Nat → Int32} {J : Nat → Nat → Int64} {R : Nat → Nat → Option Nat} : pm_go pm_swA 48 4 112 [(1, .int 0), (0, .ref 39)] [.ref 39] (q1_k9 I J R) = some (118, [(1, .int 0), (0, .ref 39)], [.int 0, .ref 39], (q1_k10 I J R)) := rfl
set_option maxRecDepth 100000 in
theorem q1_ks16 {I : Nat → Nat → Int32} {J : Nat → Nat → Int64} {R : Nat → Nat → Option Nat} : pm_go pm_swA 48 4 118 [(1, .int 0), (0, .ref 39)] [.int 0, .ref 39] (q1_k10 I J R) = some (126, [(1, .int 0), (0, .ref 39)], [], (q1_k11 I J R)) := rfl
set_option maxRecDepth 100000 in
theorem q1_ks17 {I : Nat → Nat → Int32} {J : Nat → Nat → Int64} {R : Nat → Nat → Option Nat} : pm_go pm_swA 48 1 126 [(1, .int 0), (0, .ref 39)] [] (q1_k11 I J R) = some (127, [(1, .int 0), (0, .ref 39)], [.ref 39], (q1_k11 I J R)) := rfl
set_option maxRecDepth 100000 in
theorem q1_ks18 {I : Nat → Nat → Int32} {J : Nat → Nat → Int64} {R : Nat → Nat → Option Nat} : pm_go pm_swA 6 4 0 [(0, .ref 39)] [] (q1_k11 I J R) = some (6, [(1, .int 0), (0, .ref 39)], [.int 0], (q1_k11 I J R)) := rfl
set_option maxRecDepth 100000 in
theorem q1_ks19 {I : Nat → Nat → Int32} {J : Nat → Nat → Int64} {R : Nat → Nat → Option Nat} : pm_go pm_swA 6 4 6 [(1, .int 0), (0, .ref 39)] [.int 0] (q1_k11 I J R) = some (111, [(1, .int 0), (0, .ref 39)], [.ref 39], (q1_k11 I J R)) := rfl
set_option maxRecDepth 100000 in
theorem q1_ks20 {I : Nat → Nat → Int32} {J : Nat → Nat → Int64} {R : Nat → Nat → Option Nat} : pm_go pm_swA 6 4 111 [(1, .int 0), (0, .ref 39)] [.ref 39] (q1_k11 I J R) = some (119, [(1, .int 0), (0, .ref 39)], [.ref 39], (q1_k12 I J R)) := rfl
set_option maxRecDepth 100000 in
theorem q1_ks21 {I : Nat → Nat → Int32} {J : Nat → Nat → Int64} {R : Nat → Nat → Option Nat} : pm_go pm_swA 6 2 119 [(1, .int 0), (0, .ref 39)] [.ref 39] (q1_k12 I J R) = some (123, [(1, .int 0), (0, .ref 39)], [.int 0, .ref 39], (q1_k12 I J R)) := rfl
set_option maxRecDepth 100000 in
theorem q1_ks22 {I : Nat → Nat → Int32} {J : Nat → Nat → Int64} {R : Nat → Nat → Option Nat} : pm_go pm_swA 5 4 0 [(0, .ref 39), (1, .int 0)] [] (q1_k12 I J R) = some (17, [(0, .ref 39), (1, .int 0)], [], (q1_k12 I J R)) := rfl
set_option maxRecDepth 100000 in
theorem q1_ks23 {I : Nat → Nat → Int32} {J : Nat → Nat → Int64} {R : Nat → Nat → Option Nat} : pm_go pm_swA 5 1 17 [(0, .ref 39), (1, .int 0)] [] (q1_k12 I J R) = some (18, [(0, .ref 39), (1, .int 0)], [.int 0], (q1_k12 I J R)) := rfl
set_option maxRecDepth 100000 in
theorem q1_ks24 {I : Nat → Nat → Int32} {J : Nat → Nat → Int64} {R : Nat → Nat → Option Nat} : pm_go pm_swA 6 4 126 [(1, .int 0), (0, .ref 39)] [.int 0] (q1_k12 I J R) = some (132, [(2, .int 0), (1, .int 0), (0, .ref 39)], [.ref 39, .int 0], (q1_k12 I J R)) := rfl
set_option maxRecDepth 100000 in
theorem q1_ks25 {I : Nat → Nat → Int32} {J : Nat → Nat → Int64} {R : Nat → Nat → Option Nat} : pm_go pm_swA 6 4 132 [(2, .int 0), (1, .int 0), (0, .ref 39)] [.ref 39, .int 0] (q1_k12 I J R) = some (141, [(2, .int 0), (1, .int 0), (0, .ref 39)], [.int 12, .ref 39], (q1_k12 I J R)) := rfl
set_option maxRecDepth 100000 in
theorem q1_ks26 {I : Nat → Nat → Int32} {J : Nat → Nat → Int64} {R : Nat → Nat → Option Nat} : pm_go pm_swA 6 4 141 [(2, .int 0), (1, .int 0), (0, .ref 39)] [.int 12, .ref 39] (q1_k12 I J R) = some (182, [(2, .int 0), (1, .int 0), (0, .ref 39)], [.ref 39, .ref 39], (q1_k13 I J R)) := rfl
set_option maxRecDepth 100000 in
theorem q1_ks27 {I : Nat → Nat → Int32} {J : Nat → Nat → Int64} {R : Nat → Nat → Option Nat} : pm_go pm_swA 6 2 182 [(2, .int 0), (1, .int 0), (0, .ref 39)] [.ref 39, .ref 39] (q1_k13 I J R) = some (188, [(2, .int 0), (1, .int 0), (0, .ref 39)], [], (q1_k14 I J R)) := rfl
set_option maxRecDepth 100000 in
theorem q1_ks28 {I : Nat → Nat → Int32} {J : Nat → Nat → Int64} {R : Nat → Nat → Option Nat} : pm_go pm_swA 48 4 130 [(1, .int 0), (0, .ref 39)] [] (q1_k14 I J R) = some (135, [(1, .int 0), (0, .ref 39)], [.int 0, .int 0, .int 15, .ref 39], (q1_k14 I J R)) := rfl
set_option maxRecDepth 100000 in
theorem q1_ks29 {I : Nat → Nat → Int32} {J : Nat → Nat → Int64} {R : Nat → Nat → Option Nat} : pm_go pm_swA 16 4 0 [(0, .ref 39), (1, .int 15), (2, .int 0), (3, .int 0)] [] (q1_k14 I J R) = some (8, [(0, .ref 39), (1, .int 15), (2, .int 0), (3, .int 0)], [.int 0, .ref 58], (q1_k14 I J R)) := rfl
set_option maxRecDepth 100000 in
theorem q1_ks30 {I : Nat → Nat → Int32} {J : Nat → Nat → Int64} {R : Nat → Nat → Option Nat} : pm_go pm_swA 16 1 8 [(0, .ref 39), (1, .int 15), (2, .int 0), (3, .int 0)] [.int 0, .ref 58] (q1_k14 I J R) = some (9, [(0, .ref 39), (1, .int 15), (2, .int 0), (3, .int 0)], [.int 15, .int 0, .ref 58], (q1_k14 I J R)) := rfl
set_option maxRecDepth 100000 in
theorem q1_ks31 {I : Nat → Nat → Int32} {J : Nat → Nat → Int64} {R : Nat → Nat → Option Nat} : pm_go pm_swA 16 4 9 [(0, .ref 39), (1, .int 15), (2, .int 0), (3, .int 0)] [.int 15, .int 0, .ref 58] (q1_k14 I J R) = some (15, [(0, .ref 39), (1, .int 15), (2, .int 0), (3, .int 0)], [.ref 39, .ref 59], (q1_k15 I J R)) := rfl
set_option maxRecDepth 100000 in
theorem q1_ks32 {I : Nat → Nat → Int32} {J : Nat → Nat → Int64} {R : Nat → Nat → Option Nat} : pm_go pm_swA 16 2 15 [(0, .ref 39), (1, .int 15), (2, .int 0), (3, .int 0)] [.ref 39, .ref 59] (q1_k15 I J R) = some (19, [(0, .ref 39), (1, .int 15), (2, .int 0), (3, .int 0)], [.int 0, .int 0, .ref 59], (q1_k15 I J R)) := rfl
set_option maxRecDepth 100000 in
theorem q1_ks33 {I : Nat → Nat → Int32} {J : Nat → Nat → Int64} {R : Nat → Nat → Option Nat} : pm_go pm_swA 16 4 19 [(0, .ref 39), (1, .int 15), (2, .int 0), (3, .int 0)] [.int 0, .int 0, .ref 59] (q1_k15 I J R) = some (25, [(0, .ref 39), (1, .int 15), (2, .int 0), (3, .int 0)], [.ref 39, .ref 60], (q1_k16 I J R)) := rfl
set_option maxRecDepth 100000 in
theorem q1_ks34 {I : Nat → Nat → Int32} {J : Nat → Nat → Int64} {R : Nat → Nat → Option Nat} : pm_go pm_swA 16 2 25 [(0, .ref 39), (1, .int 15), (2, .int 0), (3, .int 0)] [.ref 39, .ref 60] (q1_k16 I J R) = some (29, [(0, .ref 39), (1, .int 15), (2, .int 0), (3, .int 0)], [.int 0, .int 0, .ref 60], (q1_k16 I J R)) := rfl
set_option maxRecDepth 100000 in
theorem q1_ks35 {I : Nat → Nat → Int32} {J : Nat → Nat → Int64} {R : Nat → Nat → Option Nat} : pm_go pm_swA 16 4 29 [(0, .ref 39), (1, .int 15), (2, .int 0), (3, .int 0)] [.int 0, .int 0, .ref 60] (q1_k16 I J R) = some (35, [(0, .ref 39), (1, .int 15), (2, .int 0), (3, .int 0)], [.int 0, .ref 39], (q1_k17 I J R)) := rfl
set_option maxRecDepth 100000 in
theorem q1_ks36 {I : Nat → Nat → Int32} {J : Nat → Nat → Int64} {R : Nat → Nat → Option Nat} : pm_go pm_swA 16 3 35 [(0, .ref 39), (1, .int 15), (2, .int 0), (3, .int 0)] [.int 0, .ref 39] (q1_k17 I J R) = some (40, [(0, .ref 39), (1, .int 15), (2, .int 0), (3, .int 0)], [], (q1_k18 I J R)) := rfl
set_option maxRecDepth 100000 in
theorem q1_ks37 {I : Nat → Nat → Int32} {J : Nat → Nat → Int64} {R : Nat → Nat → Option Nat} : pm_go pm_swA 48 2 138 [(1, .int 0), (0, .ref 39)] [] (q1_k18 I J R) = some (140, [(1, .int 0), (0, .ref 39)], [.int 1, .ref 39], (q1_k18 I J R)) := rfl
set_option maxRecDepth 100000 in
theorem q1_ks38 {I : Nat → Nat → Int32} {J : Nat → Nat → Int64} {R : Nat → Nat → Option Nat} : pm_go pm_swA 22 4 0 [(0, .ref 39), (1, .int 1)] [] (q1_k18 I J R) = some (4, [(0, .ref 39), (1, .int 1)], [.int 0, .int 0, .int 1, .ref 39], (q1_k18 I J R)) := rfl
set_option maxRecDepth 100000 in
theorem q1_ks39 {I : Nat → Nat → Int32} {J : Nat → Nat → Int64} {R : Nat → Nat → Option Nat} : pm_go pm_swA 22 2 4 [(0, .ref 39), (1, .int 1)] [.int 0, .int 0, .int 1, .ref 39] (q1_k18 I J R) = some (6, [(0, .ref 39), (1, .int 1)], [.int 0, .int 0, .int 0, .int 0, .int 1, .ref 39], (q1_k18 I J R)) := rfl
set_option maxRecDepth 100000 in
theorem q1_ks40 {I : Nat → Nat → Int32} {J : Nat → Nat → Int64} {R : Nat → Nat → Option Nat} : pm_go pm_swA 21 4 0 [(0, .ref 39), (1, .int 1), (2, .int 0), (3, .int 0), (4, .int 0), (5, .int 0)] [] (q1_k18 I J R) = some (8, [(0, .ref 39), (1, .int 1), (2, .int 0), (3, .int 0), (4, .int 0), (5, .int 0)], [.int 0, .ref 69], (q1_k18 I J R)) := rfl
set_option maxRecDepth 100000 in
theorem q1_ks41 {I : Nat → Nat → Int32} {J : Nat → Nat → Int64} {R : Nat → Nat → Option Nat} : pm_go pm_swA 21 1 8 [(0, .ref 39), (1, .int 1), (2, .int 0), (3, .int 0), (4, .int 0), (5, .int 0)] [.int 0, .ref 69] (q1_k18 I J R) = some (9, [(0, .ref 39), (1, .int 1), (2, .int 0), (3, .int 0), (4, .int 0), (5, .int 0)], [.int 1, .int 0, .ref 69], (q1_k18 I J R)) := rfl
set_option maxRecDepth 100000 in
theorem q1_ks42 {I : Nat → Nat → Int32} {J : Nat → Nat → Int64} {R : Nat → Nat → Option Nat} : pm_go pm_swA 21 4 9 [(0, .ref 39), (1, .int 1), (2, .int 0), (3, .int 0), (4, .int 0), (5, .int 0)] [.int 1, .int 0, .ref 69] (q1_k18 I J R) = some (15, [(0, .ref 39), (1, .int 1), (2, .int 0), (3, .int 0), (4, .int 0), (5, .int 0)], [.ref 39, .ref 70], (q1_k19 I J R)) := rfl
set_option maxRecDepth 100000 in
theorem q1_ks43 {I : Nat → Nat → Int32} {J : Nat → Nat → Int64} {R : Nat → Nat → Option Nat} : pm_go pm_swA 21 2 15 [(0, .ref 39), (1, .int 1), (2, .int 0), (3, .int 0), (4, .int 0), (5, .int 0)] [.ref 39, .ref 70] (q1_k19 I J R) = some (19, [(0, .ref 39), (1, .int 1), (2, .int 0), (3, .int 0), (4, .int 0), (5, .int 0)], [.int 0, .int 0, .ref 70], (q1_k19 I J R)) := rfl
set_option maxRecDepth 100000 in
theorem q1_ks44 {I : Nat → Nat → Int32} {J : Nat → Nat → Int64} {R : Nat → Nat → Option Nat} : pm_go pm_swA 21 4 19 [(0, .ref 39), (1, .int 1), (2, .int 0), (3, .int 0), (4, .int 0), (5, .int 0)] [.int 0, .int 0, .ref 70] (q1_k19 I J R) = some (25, [(0, .ref 39), (1, .int 1), (2, .int 0), (3, .int 0), (4, .int 0), (5, .int 0)], [.ref 39, .ref 71], (q1_k20 I J R)) := rfl
set_option maxRecDepth 100000 in
theorem q1_ks45 {I : Nat → Nat → Int32} {J : Nat → Nat → Int64} {R : Nat → Nat → Option Nat} : pm_go pm_swA 21 2 25 [(0, .ref 39), (1, .int 1), (2, .int 0), (3, .int 0), (4, .int 0), (5, .int 0)] [.ref 39, .ref 71] (q1_k20 I J R) = some (29, [(0, .ref 39), (1, .int 1), (2, .int 0), (3, .int 0), (4, .int 0), (5, .int 0)], [.int 0, .int 0, .ref 71], (q1_k20 I J R)) := rfl
set_option maxRecDepth 100000 in
theorem q1_ks46 {I : Nat → Nat → Int32} {J : Nat → Nat → Int64} {R : Nat → Nat → Option Nat} : pm_go pm_swA 21 4 29 [(0, .ref 39), (1, .int 1), (2, .int 0), (3, .int 0), (4, .int 0), (5, .int 0)] [.int 0, .int 0, .ref 71] (q1_k20 I J R) = some (35, [(0, .ref 39), (1, .int 1), (2, .int 0), (3, .int 0), (4, .int 0), (5, .int 0)], [.ref 39, .ref 72], (q1_k21 I J R)) := rfl
set_option maxRecDepth 100000 in
theorem q1_ks47 {I : Nat → Nat → Int32} {J : Nat → Nat → Int64} {R : Nat → Nat → Option Nat} : pm_go pm_swA 21 2 35 [(0, .ref 39), (1, .int 1), (2, .int 0), (3, .int 0), (4, .int 0), (5, .int 0)] [.ref 39, .ref 72] (q1_k21 I J R) = some (40, [(0, .ref 39), (1, .int 1), (2, .int 0), (3, .int 0), (4, .int 0), (5, .int 0)], [.int 0, .int 0, .ref 72], (q1_k21 I J R)) := rfl
set_option maxRecDepth 100000 in
theorem q1_ks48 {I : Nat → Nat → Int32} {J : Nat → Nat → Int64} {R : Nat → Nat → Option Nat} : pm_go pm_swA 21 4 40 [(0, .ref 39), (1, .int 1), (2, .int 0), (3, .int 0), (4, .int 0), (5, .int 0)] [.int 0, .int 0, .ref 72] (q1_k21 I J R) = some (46, [(0, .ref 39), (1, .int 1), (2, .int 0), (3, .int 0), (4, .int 0), (5, .int 0)], [.ref 39, .ref 73], (q1_k22 I J R)) := rfl
set_option maxRecDepth 100000 in
theorem q1_ks49 {I : Nat → Nat → Int32} {J : Nat → Nat → Int64} {R : Nat → Nat → Option Nat} : pm_go pm_swA 21 2 46 [(0, .ref 39), (1, .int 1), (2, .int 0), (3, .int 0), (4, .int 0), (5, .int 0)] [.ref 39, .ref 73] (q1_k22 I J R) = some (51, [(0, .ref 39), (1, .int 1), (2, .int 0), (3, .int 0), (4, .int 0), (5, .int 0)], [.int 0, .int 0, .ref 73], (q1_k22 I J R)) := rfl
set_option maxRecDepth 100000 in
theorem q1_ks50 {I : Nat → Nat → Int32} {J : Nat → Nat → Int64} {R : Nat → Nat → Option Nat} : pm_go pm_swA 21 4 51 [(0, .ref 39), (1, .int 1), (2, .int 0), (3, .int 0), (4, .int 0), (5, .int 0)] [.int 0, .int 0, .ref 73] (q1_k22 I J R) = some (57, [(0, .ref 39), (1, .int 1), (2, .int 0), (3, .int 0), (4, .int 0), (5, .int 0)], [.int 0, .ref 39], (q1_k23 I J R)) := rfl
set_option maxRecDepth 100000 in
theorem q1_ks51 {I : Nat → Nat → Int32} {J : Nat → Nat → Int64} {R : Nat → Nat → Option Nat} : pm_go pm_swA 21 3 57 [(0, .ref 39), (1, .int 1), (2, .int 0), (3, .int 0), (4, .int 0), (5, .int 0)] [.int 0, .ref 39] (q1_k23 I J R) = some (62, [(0, .ref 39), (1, .int 1), (2, .int 0), (3, .int 0), (4, .int 0), (5, .int 0)], [], (q1_k24 I J R)) := rfl
set_option maxRecDepth 100000 in
theorem q1_ks52 {I : Nat → Nat → Int32} {J : Nat → Nat → Int64} {R : Nat → Nat → Option Nat} : pm_go pm_swA 48 1 143 [(1, .int 0), (0, .ref 39)] [] (q1_k24 I J R) = some (144, [(1, .int 0), (0, .ref 39)], [.ref 39], (q1_k24 I J R)) := rfl
set_option maxRecDepth 100000 in
theorem q1_ks53 {I : Nat → Nat → Int32} {J : Nat → Nat → Int64} {R : Nat → Nat → Option Nat} : pm_go pm_swA 23 4 0 [(0, .ref 39)] [] (q1_k24 I J R) = some (8, [(0, .ref 39)], [.ref 39], (q1_k24 I J R)) := rfl
set_option maxRecDepth 100000 in
theorem q1_ks54 {I : Nat → Nat → Int32} {J : Nat → Nat → Int64} {R : Nat → Nat → Option Nat} : pm_go pm_swA 23 4 8 [(0, .ref 39)] [.ref 39] (q1_k24 I J R) = some (16, [(0, .ref 39)], [.ref 39, .ref 39], (q1_k24 I J R)) := rfl
set_option maxRecDepth 100000 in
theorem q1_ks55 {I : Nat → Nat → Int32} {J : Nat → Nat → Int64} {R : Nat → Nat → Option Nat} : pm_go pm_swA 23 4 16 [(0, .ref 39)] [.ref 39, .ref 39] (q1_k24 I J R) = some (24, [(0, .ref 39)], [], (q1_k25 I J R)) := rfl
set_option maxRecDepth 100000 in
theorem q1_ks56 {I : Nat → Nat → Int32} {J : Nat → Nat → Int64} {R : Nat → Nat → Option Nat} : pm_go pm_swA 23 4 24 [(0, .ref 39)] [] (q1_k25 I J R) = some (32, [(0, .ref 39)], [.int (1 - 1), .ref 69], (q1_k25 I J R)) := rfl
set_option maxRecDepth 100000 in
theorem q1_ks57 {I : Nat → Nat → Int32} {J : Nat → Nat → Int64} {R : Nat → Nat → Option Nat} : pm_go pm_swA 23 4 32 [(0, .ref 39)] [.int (1 - 1), .ref 69] (q1_k25 I J R) = some (38, [(1, .int 1), (0, .ref 39)], [.ref 70], (q1_k25 I J R)) := rfl
set_option maxRecDepth 100000 in
theorem q1_ks58 {I : Nat → Nat → Int32} {J : Nat → Nat → Int64} {R : Nat → Nat → Option Nat} : pm_go pm_swA 23 2 38 [(1, .int 1), (0, .ref 39)] [.ref 70] (q1_k25 I J R) = some (42, [(1, .int 1), (0, .ref 39)], [.int (1 - 1), .ref 70], (q1_k25 I J R)) := rfl
set_option maxRecDepth 100000 in
theorem q1_ks59 {I : Nat → Nat → Int32} {J : Nat → Nat → Int64} {R : Nat → Nat → Option Nat} : pm_go pm_swA 23 4 42 [(1, .int 1), (0, .ref 39)] [.int (1 - 1), .ref 70] (q1_k25 I J R) = some (48, [(2, .int 0), (1, .int 1), (0, .ref 39)], [.ref 71], (q1_k25 I J R)) := rfl
set_option maxRecDepth 100000 in
theorem q1_ks60 {I : Nat → Nat → Int32} {J : Nat → Nat → Int64} {R : Nat → Nat → Option Nat} : pm_go pm_swA 23 2 48 [(2, .int 0), (1, .int 1), (0, .ref 39)] [.ref 71] (q1_k25 I J R) = some (52, [(2, .int 0), (1, .int 1), (0, .ref 39)], [.int (1 - 1), .ref 71], (q1_k25 I J R)) := rfl
set_option maxRecDepth 100000 in
theorem q1_ks61 {I : Nat → Nat → Int32} {J : Nat → Nat → Int64} {R : Nat → Nat → Option Nat} : pm_go pm_swA 23 4 52 [(2, .int 0), (1, .int 1), (0, .ref 39)] [.int (1 - 1), .ref 71] (q1_k25 I J R) = some (58, [(3, .int 0), (2, .int 0), (1, .int 1), (0, .ref 39)], [.ref 72], (q1_k25 I J R)) := rfl
set_option maxRecDepth 100000 in
theorem q1_ks62 {I : Nat → Nat → Int32} {J : Nat → Nat → Int64} {R : Nat → Nat → Option Nat} : pm_go pm_swA 23 2 58 [(3, .int 0), (2, .int 0), (1, .int 1), (0, .ref 39)] [.ref 72] (q1_k25 I J R) = some (62, [(3, .int 0), (2, .int 0), (1, .int 1), (0, .ref 39)], [.int (1 - 1), .ref 72], (q1_k25 I J R)) := rfl
set_option maxRecDepth 100000 in
theorem q1_ks63 {I : Nat → Nat → Int32} {J : Nat → Nat → Int64} {R : Nat → Nat → Option Nat} : pm_go pm_swA 23 4 62 [(3, .int 0), (2, .int 0), (1, .int 1), (0, .ref 39)] [.int (1 - 1), .ref 72] (q1_k25 I J R) = some (69, [(4, .int 0), (3, .int 0), (2, .int 0), (1, .int 1), (0, .ref 39)], [.ref 73], (q1_k25 I J R)) := rfl
set_option maxRecDepth 100000 in
theorem q1_ks64 {I : Nat → Nat → Int32} {J : Nat → Nat → Int64} {R : Nat → Nat → Option Nat} : pm_go pm_swA 23 2 69 [(4, .int 0), (3, .int 0), (2, .int 0), (1, .int 1), (0, .ref 39)] [.ref 73] (q1_k25 I J R) = some (73, [(4, .int 0), (3, .int 0), (2, .int 0), (1, .int 1), (0, .ref 39)], [.int (1 - 1), .ref 73], (q1_k25 I J R)) := rfl
set_option maxRecDepth 100000 in
theorem q1_ks65 {I : Nat → Nat → Int32} {J : Nat → Nat → Int64} {R : Nat → Nat → Option Nat} : pm_go pm_swA 23 4 73 [(4, .int 0), (3, .int 0), (2, .int 0), (1, .int 1), (0, .ref 39)] [.int (1 - 1), .ref 73] (q1_k25 I J R) = some (79, [(5, .int 0), (4, .int 0), (3, .int 0), (2, .int 0), (1, .int 1), (0, .ref 39)], [.int 13, .int 1], (q1_k25 I J R)) := rfl
set_option maxRecDepth 100000 in
theorem q1_ks66 {I : Nat → Nat → Int32} {J : Nat → Nat → Int64} {R : Nat → Nat → Option Nat} : pm_go pm_swA 23 4 79 [(5, .int 0), (4, .int 0), (3, .int 0), (2, .int 0), (1, .int 1), (0, .ref 39)] [.int 13, .int 1] (q1_k25 I J R) = some (85, [(5, .int 0), (4, .int 0), (3, .int 0), (2, .int 0), (1, .int 1), (0, .ref 39)], [.int 0, .int 1, .ref 39], (q1_k25 I J R)) := rfl
set_option maxRecDepth 100000 in
theorem q1_ks67 {I : Nat → Nat → Int32} {J : Nat → Nat → Int64} {R : Nat → Nat → Option Nat} : pm_go pm_swA 23 2 85 [(5, .int 0), (4, .int 0), (3, .int 0), (2, .int 0), (1, .int 1), (0, .ref 39)] [.int 0, .int 1, .ref 39] (q1_k25 I J R) = some (88, [(5, .int 0), (4, .int 0), (3, .int 0), (2, .int 0), (1, .int 1), (0, .ref 39)], [.int 0, .int 0, .int 0, .int 1, .ref 39], (q1_k25 I J R)) := rfl
set_option maxRecDepth 100000 in
theorem q1_ks68 {I : Nat → Nat → Int32} {J : Nat → Nat → Int64} {R : Nat → Nat → Option Nat} : pm_go pm_swA 24 1 0 [(0, .ref 39), (1, .int 1), (2, .int 0), (3, .int 0), (4, .int 0)] [] (q1_k25 I J R) = some (1, [(0, .ref 39), (1, .int 1), (2, .int 0), (3, .int 0), (4, .int 0)], [.int 1], (q1_k25 I J R)) := rfl
set_option maxRecDepth 100000 in
theorem q1_ks69 {I : Nat → Nat → Int32} {J : Nat → Nat → Int64} {R : Nat → Nat → Option Nat} : pm_go pm_swA 24 3 1 [(0, .ref 39), (1, .int 1), (2, .int 0), (3, .int 0), (4, .int 0)] [.int 1] (q1_k25 I J R) = some (62, [(0, .ref 39), (1, .int 1), (2, .int 0), (3, .int 0), (4, .int 0)], [.int 0, .ref 39], (q1_k25 I J R)) := rfl
set_option maxRecDepth 100000 in
theorem q1_ks70 {I : Nat → Nat → Int32} {J : Nat → Nat → Int64} {R : Nat → Nat → Option Nat} : pm_go pm_swA 26 4 0 [(0, .ref 39), (1, .int 0)] [] (q1_k25 I J R) = some (8, [(0, .ref 39), (1, .int 0)], [.ref 39], (q1_k25 I J R)) := rfl
set_option maxRecDepth 100000 in
theorem q1_ks71 {I : Nat → Nat → Int32} {J : Nat → Nat → Int64} {R : Nat → Nat → Option Nat} : pm_go pm_swA 26 4 8 [(0, .ref 39), (1, .int 0)] [.ref 39] (q1_k25 I J R) = some (16, [(0, .ref 39), (1, .int 0)], [.ref 39], (q1_k25 I J R)) := rfl
set_option maxRecDepth 100000 in
theorem q1_ks72 {I : Nat → Nat → Int32} {J : Nat → Nat → Int64} {R : Nat → Nat → Option Nat} : pm_go pm_swA 26 4 16 [(0, .ref 39), (1, .int 0)] [.ref 39] (q1_k25 I J R) = some (31, [(0, .ref 39), (1, .int 0)], [.ref 39], (q1_k25 I J R)) := rfl
set_option maxRecDepth 100000 in
theorem q1_ks73 {I : Nat → Nat → Int32} {J : Nat → Nat → Int64} {R : Nat → Nat → Option Nat} : pm_go pm_swA 26 4 31 [(0, .ref 39), (1, .int 0)] [.ref 39] (q1_k25 I J R) = some (42, [(0, .ref 39), (1, .int 0)], [.int 12], (q1_k25 I J R)) := rfl
set_option maxRecDepth 100000 in
theorem q1_ks74 {I : Nat → Nat → Int32} {J : Nat → Nat → Int64} {R : Nat → Nat → Option Nat} : pm_go pm_swA 26 4 42 [(0, .ref 39), (1, .int 0)] [.int 12] (q1_k25 I J R) = some (65, [(0, .ref 39), (1, .int 0)], [.ref 59], (q1_k25 I J R)) := rfl
set_option maxRecDepth 100000 in
theorem q1_ks75 {I : Nat → Nat → Int32} {J : Nat → Nat → Int64} {R : Nat → Nat → Option Nat} : pm_go pm_swA 26 3 65 [(0, .ref 39), (1, .int 0)] [.ref 59] (q1_k25 I J R) = some (70, [(0, .ref 39), (1, .int 0)], [.int 1, .int 0, .ref 59], (q1_k25 I J R)) := rfl
set_option maxRecDepth 100000 in
theorem q1_ks76 {I : Nat → Nat → Int32} {J : Nat → Nat → Int64} {R : Nat → Nat → Option Nat} : pm_go pm_swA 26 3 70 [(0, .ref 39), (1, .int 0)] [.int 1, .int 0, .ref 59] (q1_k25 I J R) = some (73, [(0, .ref 39), (1, .int 0)], [.int 2, .ref 39], (q1_k26 I J R)) := rfl
set_option maxRecDepth 100000 in
theorem q1_ks77 {I : Nat → Nat → Int32} {J : Nat → Nat → Int64} {R : Nat → Nat → Option Nat} : pm_go pm_swA 22 4 0 [(0, .ref 39), (1, .int 2)] [] (q1_k26 I J R) = some (4, [(0, .ref 39), (1, .int 2)], [.int 0, .int 0, .int 2, .ref 39], (q1_k26 I J R)) := rfl
set_option maxRecDepth 100000 in
theorem q1_ks78 {I : Nat → Nat → Int32} {J : Nat → Nat → Int64} {R : Nat → Nat → Option Nat} : pm_go pm_swA 22 2 4 [(0, .ref 39), (1, .int 2)] [.int 0, .int 0, .int 2, .ref 39] (q1_k26 I J R) = some (6, [(0, .ref 39), (1, .int 2)], [.int 0, .int 0, .int 0, .int 0, .int 2, .ref 39], (q1_k26 I J R)) := rfl
set_option maxRecDepth 100000 in
theorem q1_ks79 {I : Nat → Nat → Int32} {J : Nat → Nat → Int64} {R : Nat → Nat → Option Nat} : pm_go pm_swA 21 4 0 [(0, .ref 39), (1, .int 2), (2, .int 0), (3, .int 0), (4, .int 0), (5, .int 0)] [] (q1_k26 I J R) = some (8, [(0, .ref 39), (1, .int 2), (2, .int 0), (3, .int 0), (4, .int 0), (5, .int 0)], [.int (1 - 1), .ref 69], (q1_k26 I J R)) := rfl
set_option maxRecDepth 100000 in
theorem q1_ks80 {I : Nat → Nat → Int32} {J : Nat → Nat → Int64} {R : Nat → Nat → Option Nat} : pm_go pm_swA 21 1 8 [(0, .ref 39), (1, .int 2), (2, .int 0), (3, .int 0), (4, .int 0), (5, .int 0)] [.int (1 - 1), .ref 69] (q1_k26 I J R) = some (9, [(0, .ref 39), (1, .int 2), (2, .int 0), (3, .int 0), (4, .int 0), (5, .int 0)], [.int 2, .int (1 - 1), .ref 69], (q1_k26 I J R)) := rfl
set_option maxRecDepth 100000 in
theorem q1_ks81 {I : Nat → Nat → Int32} {J : Nat → Nat → Int64} {R : Nat → Nat → Option Nat} : pm_go pm_swA 21 4 9 [(0, .ref 39), (1, .int 2), (2, .int 0), (3, .int 0), (4, .int 0), (5, .int 0)] [.int 2, .int (1 - 1), .ref 69] (q1_k26 I J R) = some (15, [(0, .ref 39), (1, .int 2), (2, .int 0), (3, .int 0), (4, .int 0), (5, .int 0)], [.ref 39, .ref 70], (q1_k27 I J R)) := rfl
set_option maxRecDepth 100000 in
theorem q1_ks82 {I : Nat → Nat → Int32} {J : Nat → Nat → Int64} {R : Nat → Nat → Option Nat} : pm_go pm_swA 21 2 15 [(0, .ref 39), (1, .int 2), (2, .int 0), (3, .int 0), (4, .int 0), (5, .int 0)] [.ref 39, .ref 70] (q1_k27 I J R) = some (19, [(0, .ref 39), (1, .int 2), (2, .int 0), (3, .int 0), (4, .int 0), (5, .int 0)], [.int 0, .int (1 - 1), .ref 70], (q1_k27 I J R)) := rfl
set_option maxRecDepth 100000 in
theorem q1_ks83 {I : Nat → Nat → Int32} {J : Nat → Nat → Int64} {R : Nat → Nat → Option Nat} : pm_go pm_swA 21 4 19 [(0, .ref 39), (1, .int 2), (2, .int 0), (3, .int 0), (4, .int 0), (5, .int 0)] [.int 0, .int (1 - 1), .ref 70] (q1_k27 I J R) = some (25, [(0, .ref 39), (1, .int 2), (2, .int 0), (3, .int 0), (4, .int 0), (5, .int 0)], [.ref 39, .ref 71], (q1_k28 I J R)) := rfl
set_option maxRecDepth 100000 in
theorem q1_ks84 {I : Nat → Nat → Int32} {J : Nat → Nat → Int64} {R : Nat → Nat → Option Nat} : pm_go pm_swA 21 2 25 [(0, .ref 39), (1, .int 2), (2, .int 0), (3, .int 0), (4, .int 0), (5, .int 0)] [.ref 39, .ref 71] (q1_k28 I J R) = some (29, [(0, .ref 39), (1, .int 2), (2, .int 0), (3, .int 0), (4, .int 0), (5, .int 0)], [.int 0, .int (1 - 1), .ref 71], (q1_k28 I J R)) := rfl
set_option maxRecDepth 100000 in
theorem q1_ks85 {I : Nat → Nat → Int32} {J : Nat → Nat → Int64} {R : Nat → Nat → Option Nat} : pm_go pm_swA 21 4 29 [(0, .ref 39), (1, .int 2), (2, .int 0), (3, .int 0), (4, .int 0), (5, .int 0)] [.int 0, .int (1 - 1), .ref 71] (q1_k28 I J R) = some (35, [(0, .ref 39), (1, .int 2), (2, .int 0), (3, .int 0), (4, .int 0), (5, .int 0)], [.ref 39, .ref 72], (q1_k29 I J R)) := rfl
set_option maxRecDepth 100000 in
theorem q1_ks86 {I : Nat → Nat → Int32} {J : Nat → Nat → Int64} {R : Nat → Nat → Option Nat} : pm_go pm_swA 21 2 35 [(0, .ref 39), (1, .int 2), (2, .int 0), (3, .int 0), (4, .int 0), (5, .int 0)] [.ref 39, .ref 72] (q1_k29 I J R) = some (40, [(0, .ref 39), (1, .int 2), (2, .int 0), (3, .int 0), (4, .int 0), (5, .int 0)], [.int 0, .int (1 - 1), .ref 72], (q1_k29 I J R)) := rfl
set_option maxRecDepth 100000 in
theorem q1_ks87 {I : Nat → Nat → Int32} {J : Nat → Nat → Int64} {R : Nat → Nat → Option Nat} : pm_go pm_swA 21 4 40 [(0, .ref 39), (1, .int 2), (2, .int 0), (3, .int 0), (4, .int 0), (5, .int 0)] [.int 0, .int (1 - 1), .ref 72] (q1_k29 I J R) = some (46, [(0, .ref 39), (1, .int 2), (2, .int 0), (3, .int 0), (4, .int 0), (5, .int 0)], [.ref 39, .ref 73], (q1_k30 I J R)) := rfl
set_option maxRecDepth 100000 in
theorem q1_ks88 {I : Nat → Nat → Int32} {J : Nat → Nat → Int64} {R : Nat → Nat → Option Nat} : pm_go pm_swA 21 2 46 [(0, .ref 39), (1, .int 2), (2, .int 0), (3, .int 0), (4, .int 0), (5, .int 0)] [.ref 39, .ref 73] (q1_k30 I J R) = some (51, [(0, .ref 39), (1, .int 2), (2, .int 0), (3, .int 0), (4, .int 0), (5, .int 0)], [.int 0, .int (1 - 1), .ref 73], (q1_k30 I J R)) := rfl
set_option maxRecDepth 100000 in
theorem q1_ks89 {I : Nat → Nat → Int32} {J : Nat → Nat → Int64} {R : Nat → Nat → Option Nat} : pm_go pm_swA 21 4 51 [(0, .ref 39), (1, .int 2), (2, .int 0), (3, .int 0), (4, .int 0), (5, .int 0)] [.int 0, .int (1 - 1), .ref 73] (q1_k30 I J R) = some (57, [(0, .ref 39), (1, .int 2), (2, .int 0), (3, .int 0), (4, .int 0), (5, .int 0)], [.int (1 - 1), .ref 39], (q1_k31 I J R)) := rfl
set_option maxRecDepth 100000 in
theorem q1_ks90 {I : Nat → Nat → Int32} {J : Nat → Nat → Int64} {R : Nat → Nat → Option Nat} : pm_go pm_swA 21 3 57 [(0, .ref 39), (1, .int 2), (2, .int 0), (3, .int 0), (4, .int 0), (5, .int 0)] [.int (1 - 1), .ref 39] (q1_k31 I J R) = some (62, [(0, .ref 39), (1, .int 2), (2, .int 0), (3, .int 0), (4, .int 0), (5, .int 0)], [], (q1_k32 I J R)) := rfl
set_option maxRecDepth 100000 in
theorem q1_ks91 {I : Nat → Nat → Int32} {J : Nat → Nat → Int64} {R : Nat → Nat → Option Nat} : pm_go pm_swA 26 2 76 [(0, .ref 39), (1, .int 0)] [] (q1_k32 I J R) = some (78, [(0, .ref 39), (1, .int 0)], [.int 5, .ref 39], (q1_k32 I J R)) := rfl
set_option maxRecDepth 100000 in
theorem q1_ks92 {I : Nat → Nat → Int32} {J : Nat → Nat → Int64} {R : Nat → Nat → Option Nat} : pm_go pm_swA 22 4 0 [(0, .ref 39), (1, .int 5)] [] (q1_k32 I J R) = some (4, [(0, .ref 39), (1, .int 5)], [.int 0, .int 0, .int 5, .ref 39], (q1_k32 I J R)) := rfl
set_option maxRecDepth 100000 in
theorem q1_ks93 {I : Nat → Nat → Int32} {J : Nat → Nat → Int64} {R : Nat → Nat → Option Nat} : pm_go pm_swA 22 2 4 [(0, .ref 39), (1, .int 5)] [.int 0, .int 0, .int 5, .ref 39] (q1_k32 I J R) = some (6, [(0, .ref 39), (1, .int 5)], [.int 0, .int 0, .int 0, .int 0, .int 5, .ref 39], (q1_k32 I J R)) := rfl
set_option maxRecDepth 100000 in
theorem q1_ks94 {I : Nat → Nat → Int32} {J : Nat → Nat → Int64} {R : Nat → Nat → Option Nat} : pm_go pm_swA 21 4 0 [(0, .ref 39), (1, .int 5), (2, .int 0), (3, .int 0), (4, .int 0), (5, .int 0)] [] (q1_k32 I J R) = some (8, [(0, .ref 39), (1, .int 5), (2, .int 0), (3, .int 0), (4, .int 0), (5, .int 0)], [.int 1, .ref 69], (q1_k32 I J R)) := rfl
set_option maxRecDepth 100000 in
theorem q1_ks95 {I : Nat → Nat → Int32} {J : Nat → Nat → Int64} {R : Nat → Nat → Option Nat} : pm_go pm_swA 21 1 8 [(0, .ref 39), (1, .int 5), (2, .int 0), (3, .int 0), (4, .int 0), (5, .int 0)] [.int 1, .ref 69] (q1_k32 I J R) = some (9, [(0, .ref 39), (1, .int 5), (2, .int 0), (3, .int 0), (4, .int 0), (5, .int 0)], [.int 5, .int 1, .ref 69], (q1_k32 I J R)) := rfl
set_option maxRecDepth 100000 in
theorem q1_ks96 {I : Nat → Nat → Int32} {J : Nat → Nat → Int64} {R : Nat → Nat → Option Nat} : pm_go pm_swA 21 4 9 [(0, .ref 39), (1, .int 5), (2, .int 0), (3, .int 0), (4, .int 0), (5, .int 0)] [.int 5, .int 1, .ref 69] (q1_k32 I J R) = some (15, [(0, .ref 39), (1, .int 5), (2, .int 0), (3, .int 0), (4, .int 0), (5, .int 0)], [.ref 39, .ref 70], (q1_k33 I J R)) := rfl
set_option maxRecDepth 100000 in
theorem q1_ks97 {I : Nat → Nat → Int32} {J : Nat → Nat → Int64} {R : Nat → Nat → Option Nat} : pm_go pm_swA 21 2 15 [(0, .ref 39), (1, .int 5), (2, .int 0), (3, .int 0), (4, .int 0), (5, .int 0)] [.ref 39, .ref 70] (q1_k33 I J R) = some (19, [(0, .ref 39), (1, .int 5), (2, .int 0), (3, .int 0), (4, .int 0), (5, .int 0)], [.int 0, .int 1, .ref 70], (q1_k33 I J R)) := rfl
set_option maxRecDepth 100000 in
theorem q1_ks98 {I : Nat → Nat → Int32} {J : Nat → Nat → Int64} {R : Nat → Nat → Option Nat} : pm_go pm_swA 21 4 19 [(0, .ref 39), (1, .int 5), (2, .int 0), (3, .int 0), (4, .int 0), (5, .int 0)] [.int 0, .int 1, .ref 70] (q1_k33 I J R) = some (25, [(0, .ref 39), (1, .int 5), (2, .int 0), (3, .int 0), (4, .int 0), (5, .int 0)], [.ref 39, .ref 71], (q1_k34 I J R)) := rfl
set_option maxRecDepth 100000 in
theorem q1_ks99 {I : Nat → Nat → Int32} {J : Nat → Nat → Int64} {R : Nat → Nat → Option Nat} : pm_go pm_swA 21 2 25 [(0, .ref 39), (1, .int 5), (2, .int 0), (3, .int 0), (4, .int 0), (5, .int 0)] [.ref 39, .ref 71] (q1_k34 I J R) = some (29, [(0, .ref 39), (1, .int 5), (2, .int 0), (3, .int 0), (4, .int 0), (5, .int 0)], [.int 0, .int 1, .ref 71], (q1_k34 I J R)) := rfl
set_option maxRecDepth 100000 in
theorem q1_ks100 {I : Nat → Nat → Int32} {J : Nat → Nat → Int64} {R : Nat → Nat → Option Nat} : pm_go pm_swA 21 4 29 [(0, .ref 39), (1, .int 5), (2, .int 0), (3, .int 0), (4, .int 0), (5, .int 0)] [.int 0, .int 1, .ref 71] (q1_k34 I J R) = some (35, [(0, .ref 39), (1, .int 5), (2, .int 0), (3, .int 0), (4, .int 0), (5, .int 0)], [.ref 39, .ref 72], (q1_k35 I J R)) := rfl
set_option maxRecDepth 100000 in
theorem q1_ks101 {I : Nat → Nat → Int32} {J : Nat → Nat → Int64} {R : Nat → Nat → Option Nat} : pm_go pm_swA 21 2 35 [(0, .ref 39), (1, .int 5), (2, .int 0), (3, .int 0), (4, .int 0), (5, .int 0)] [.ref 39, .ref 72] (q1_k35 I J R) = some (40, [(0, .ref 39), (1, .int 5), (2, .int 0), (3, .int 0), (4, .int 0), (5, .int 0)], [.int 0, .int 1, .ref 72], (q1_k35 I J R)) := rfl
set_option maxRecDepth 100000 in
theorem q1_ks102 {I : Nat → Nat → Int32} {J : Nat → Nat → Int64} {R : Nat → Nat → Option Nat} : pm_go pm_swA 21 4 40 [(0, .ref 39), (1, .int 5), (2, .int 0), (3, .int 0), (4, .int 0), (5, .int 0)] [.int 0, .int 1, .ref 72] (q1_k35 I J R) = some (46, [(0, .ref 39), (1, .int 5), (2, .int 0), (3, .int 0), (4, .int 0), (5, .int 0)], [.ref 39, .ref 73], (q1_k36 I J R)) := rfl
set_option maxRecDepth 100000 in
theorem q1_ks103 {I : Nat → Nat → Int32} {J : Nat → Nat → Int64} {R : Nat → Nat → Option Nat} : pm_go pm_swA 21 2 46 [(0, .ref 39), (1, .int 5), (2, .int 0), (3, .int 0), (4, .int 0), (5, .int 0)] [.ref 39, .ref 73] (q1_k36 I J R) = some (51, [(0, .ref 39), (1, .int 5), (2, .int 0), (3, .int 0), (4, .int 0), (5, .int 0)], [.int 0, .int 1, .ref 73], (q1_k36 I J R)) := rfl
set_option maxRecDepth 100000 in
theorem q1_ks104 {I : Nat → Nat → Int32} {J : Nat → Nat → Int64} {R : Nat → Nat → Option Nat} : pm_go pm_swA 21 4 51 [(0, .ref 39), (1, .int 5), (2, .int 0), (3, .int 0), (4, .int 0), (5, .int 0)] [.int 0, .int 1, .ref 73] (q1_k36 I J R) = some (57, [(0, .ref 39), (1, .int 5), (2, .int 0), (3, .int 0), (4, .int 0), (5, .int 0)], [.int 1, .ref 39], (q1_k37 I J R)) := rfl
set_option maxRecDepth 100000 in
theorem q1_ks105 {I : Nat → Nat → Int32} {J : Nat → Nat → Int64} {R : Nat → Nat → Option Nat} : pm_go pm_swA 21 3 57 [(0, .ref 39), (1, .int 5), (2, .int 0), (3, .int 0), (4, .int 0), (5, .int 0)] [.int 1, .ref 39] (q1_k37 I J R) = some (62, [(0, .ref 39), (1, .int 5), (2, .int 0), (3, .int 0), (4, .int 0), (5, .int 0)], [], (q1_k38 I J R)) := rfl
set_option maxRecDepth 100000 in
theorem q1_ks106 {I : Nat → Nat → Int32} {J : Nat → Nat → Int64} {R : Nat → Nat → Option Nat} : pm_go pm_swA 24 1 65 [(0, .ref 39), (1, .int 1), (2, .int 0), (3, .int 0), (4, .int 0)] [] (q1_k38 I J R) = some (266, [(0, .ref 39), (1, .int 1), (2, .int 0), (3, .int 0), (4, .int 0)], [], (q1_k38 I J R)) := rfl
set_option maxRecDepth 100000 in
theorem q1_ks107 {I : Nat → Nat → Int32} {J : Nat → Nat → Int64} {R : Nat → Nat → Option Nat} : pm_go pm_swA 23 4 91 [(5, .int 0), (4, .int 0), (3, .int 0), (2, .int 0), (1, .int 1), (0, .ref 39)] [] (q1_k38 I J R) = some (4, [(5, .int 0), (4, .int 0), (3, .int 0), (2, .int 0), (1, .int 1), (0, .ref 39)], [.int 2], (q1_k38 I J R)) := rfl
set_option maxRecDepth 100000 in
theorem q1_ks108 {I : Nat → Nat → Int32} {J : Nat → Nat → Int64} {R : Nat → Nat → Option Nat} : pm_go pm_swA 23 4 4 [(5, .int 0), (4, .int 0), (3, .int 0), (2, .int 0), (1, .int 1), (0, .ref 39)] [.int 2] (q1_k38 I J R) = some (14, [(5, .int 0), (4, .int 0), (3, .int 0), (2, .int 0), (1, .int 1), (0, .ref 39)], [], (q1_k38 I J R)) := rfl
set_option maxRecDepth 100000 in
theorem q1_ks109 {I : Nat → Nat → Int32} {J : Nat → Nat → Int64} {R : Nat → Nat → Option Nat} : pm_go pm_swA 23 4 14 [(5, .int 0), (4, .int 0), (3, .int 0), (2, .int 0), (1, .int 1), (0, .ref 39)] [] (q1_k38 I J R) = some (20, [(5, .int 0), (4, .int 0), (3, .int 0), (2, .int 0), (1, .int 1), (0, .ref 39)], [.int 1, .int 2, .ref 39], (q1_k38 I J R)) := rfl
set_option maxRecDepth 100000 in
theorem q1_ks110 {I : Nat → Nat → Int32} {J : Nat → Nat → Int64} {R : Nat → Nat → Option Nat} : pm_go pm_swA 23 4 20 [(5, .int 0), (4, .int 0), (3, .int 0), (2, .int 0), (1, .int 1), (0, .ref 39)] [.int 1, .int 2, .ref 39] (q1_k38 I J R) = some (28, [(5, .int 0), (4, .int 0), (3, .int 0), (2, .int 0), (1, .int 1), (0, .ref 39)], [.ref 69], (q1_k39 I J R)) := rfl
set_option maxRecDepth 100000 in
theorem q1_ks111 {I : Nat → Nat → Int32} {J : Nat → Nat → Int64} {R : Nat → Nat → Option Nat} : pm_go pm_swA 23 2 28 [(5, .int 0), (4, .int 0), (3, .int 0), (2, .int 0), (1, .int 1), (0, .ref 39)] [.ref 69] (q1_k39 I J R) = some (32, [(5, .int 0), (4, .int 0), (3, .int 0), (2, .int 0), (1, .int 1), (0, .ref 39)], [.int (2 - 1), .ref 69], (q1_k39 I J R)) := rfl
set_option maxRecDepth 100000 in
theorem q1_ks112 {I : Nat → Nat → Int32} {J : Nat → Nat → Int64} {R : Nat → Nat → Option Nat} : pm_go pm_swA 23 4 32 [(5, .int 0), (4, .int 0), (3, .int 0), (2, .int 0), (1, .int 1), (0, .ref 39)] [.int (2 - 1), .ref 69] (q1_k39 I J R) = some (38, [(1, .int 5), (5, .int 0), (4, .int 0), (3, .int 0), (2, .int 0), (0, .ref 39)], [.ref 70], (q1_k39 I J R)) := rfl
set_option maxRecDepth 100000 in
theorem q1_ks113 {I : Nat → Nat → Int32} {J : Nat → Nat → Int64} {R : Nat → Nat → Option Nat} : pm_go pm_swA 23 2 38 [(1, .int 5), (5, .int 0), (4, .int 0), (3, .int 0), (2, .int 0), (0, .ref 39)] [.ref 70] (q1_k39 I J R) = some (42, [(1, .int 5), (5, .int 0), (4, .int 0), (3, .int 0), (2, .int 0), (0, .ref 39)], [.int (2 - 1), .ref 70], (q1_k39 I J R)) := rfl
set_option maxRecDepth 100000 in
theorem q1_ks114 {I : Nat → Nat → Int32} {J : Nat → Nat → Int64} {R : Nat → Nat → Option Nat} : pm_go pm_swA 23 4 42 [(1, .int 5), (5, .int 0), (4, .int 0), (3, .int 0), (2, .int 0), (0, .ref 39)] [.int (2 - 1), .ref 70] (q1_k39 I J R) = some (48, [(2, .int 0), (1, .int 5), (5, .int 0), (4, .int 0), (3, .int 0), (0, .ref 39)], [.ref 71], (q1_k39 I J R)) := rfl
set_option maxRecDepth 100000 in
theorem q1_ks115 {I : Nat → Nat → Int32} {J : Nat → Nat → Int64} {R : Nat → Nat → Option Nat} : pm_go pm_swA 23 2 48 [(2, .int 0), (1, .int 5), (5, .int 0), (4, .int 0), (3, .int 0), (0, .ref 39)] [.ref 71] (q1_k39 I J R) = some (52, [(2, .int 0), (1, .int 5), (5, .int 0), (4, .int 0), (3, .int 0), (0, .ref 39)], [.int (2 - 1), .ref 71], (q1_k39 I J R)) := rfl
set_option maxRecDepth 100000 in
theorem q1_ks116 {I : Nat → Nat → Int32} {J : Nat → Nat → Int64} {R : Nat → Nat → Option Nat} : pm_go pm_swA 23 4 52 [(2, .int 0), (1, .int 5), (5, .int 0), (4, .int 0), (3, .int 0), (0, .ref 39)] [.int (2 - 1), .ref 71] (q1_k39 I J R) = some (58, [(3, .int 0), (2, .int 0), (1, .int 5), (5, .int 0), (4, .int 0), (0, .ref 39)], [.ref 72], (q1_k39 I J R)) := rfl
set_option maxRecDepth 100000 in
theorem q1_ks117 {I : Nat → Nat → Int32} {J : Nat → Nat → Int64} {R : Nat → Nat → Option Nat} : pm_go pm_swA 23 2 58 [(3, .int 0), (2, .int 0), (1, .int 5), (5, .int 0), (4, .int 0), (0, .ref 39)] [.ref 72] (q1_k39 I J R) = some (62, [(3, .int 0), (2, .int 0), (1, .int 5), (5, .int 0), (4, .int 0), (0, .ref 39)], [.int (2 - 1), .ref 72], (q1_k39 I J R)) := rfl
set_option maxRecDepth 100000 in
theorem q1_ks118 {I : Nat → Nat → Int32} {J : Nat → Nat → Int64} {R : Nat → Nat → Option Nat} : pm_go pm_swA 23 4 62 [(3, .int 0), (2, .int 0), (1, .int 5), (5, .int 0), (4, .int 0), (0, .ref 39)] [.int (2 - 1), .ref 72] (q1_k39 I J R) = some (69, [(4, .int 0), (3, .int 0), (2, .int 0), (1, .int 5), (5, .int 0), (0, .ref 39)], [.ref 73], (q1_k39 I J R)) := rfl
set_option maxRecDepth 100000 in
theorem q1_ks119 {I : Nat → Nat → Int32} {J : Nat → Nat → Int64} {R : Nat → Nat → Option Nat} : pm_go pm_swA 23 2 69 [(4, .int 0), (3, .int 0), (2, .int 0), (1, .int 5), (5, .int 0), (0, .ref 39)] [.ref 73] (q1_k39 I J R) = some (73, [(4, .int 0), (3, .int 0), (2, .int 0), (1, .int 5), (5, .int 0), (0, .ref 39)], [.int (2 - 1), .ref 73], (q1_k39 I J R)) := rfl
set_option maxRecDepth 100000 in
theorem q1_ks120 {I : Nat → Nat → Int32} {J : Nat → Nat → Int64} {R : Nat → Nat → Option Nat} : pm_go pm_swA 23 4 73 [(4, .int 0), (3, .int 0), (2, .int 0), (1, .int 5), (5, .int 0), (0, .ref 39)] [.int (2 - 1), .ref 73] (q1_k39 I J R) = some (79, [(5, .int 0), (4, .int 0), (3, .int 0), (2, .int 0), (1, .int 5), (0, .ref 39)], [.int 13, .int 5], (q1_k39 I J R)) := rfl
set_option maxRecDepth 100000 in
theorem q1_ks121 {I : Nat → Nat → Int32} {J : Nat → Nat → Int64} {R : Nat → Nat → Option Nat} : pm_go pm_swA 23 4 79 [(5, .int 0), (4, .int 0), (3, .int 0), (2, .int 0), (1, .int 5), (0, .ref 39)] [.int 13, .int 5] (q1_k39 I J R) = some (85, [(5, .int 0), (4, .int 0), (3, .int 0), (2, .int 0), (1, .int 5), (0, .ref 39)], [.int 0, .int 5, .ref 39], (q1_k39 I J R)) := rfl
set_option maxRecDepth 100000 in
theorem q1_ks122 {I : Nat → Nat → Int32} {J : Nat → Nat → Int64} {R : Nat → Nat → Option Nat} : pm_go pm_swA 23 2 85 [(5, .int 0), (4, .int 0), (3, .int 0), (2, .int 0), (1, .int 5), (0, .ref 39)] [.int 0, .int 5, .ref 39] (q1_k39 I J R) = some (88, [(5, .int 0), (4, .int 0), (3, .int 0), (2, .int 0), (1, .int 5), (0, .ref 39)], [.int 0, .int 0, .int 0, .int 5, .ref 39], (q1_k39 I J R)) := rfl
set_option maxRecDepth 100000 in
theorem q1_ks123 {I : Nat → Nat → Int32} {J : Nat → Nat → Int64} {R : Nat → Nat → Option Nat} : pm_go pm_swA 24 1 0 [(0, .ref 39), (1, .int 5), (2, .int 0), (3, .int 0), (4, .int 0)] [] (q1_k39 I J R) = some (1, [(0, .ref 39), (1, .int 5), (2, .int 0), (3, .int 0), (4, .int 0)], [.int 5], (q1_k39 I J R)) := rfl
set_option maxRecDepth 100000 in
theorem q1_ks124 {I : Nat → Nat → Int32} {J : Nat → Nat → Int64} {R : Nat → Nat → Option Nat} : pm_go pm_swA 24 2 1 [(0, .ref 39), (1, .int 5), (2, .int 0), (3, .int 0), (4, .int 0)] [.int 5] (q1_k39 I J R) = some (136, [(0, .ref 39), (1, .int 5), (2, .int 0), (3, .int 0), (4, .int 0)], [.ref 39], (q1_k39 I J R)) := rfl
set_option maxRecDepth 100000 in
theorem q1_ks125 {I : Nat → Nat → Int32} {J : Nat → Nat → Int64} {R : Nat → Nat → Option Nat} : pm_go pm_swA 29 4 0 [(0, .ref 39)] [] (q1_k39 I J R) = some (8, [(0, .ref 39)], [], (q1_k39 I J R)) := rfl
set_option maxRecDepth 100000 in
theorem q1_ks126 {I : Nat → Nat → Int32} {J : Nat → Nat → Int64} {R : Nat → Nat → Option Nat} : pm_go pm_swA 29 4 8 [(0, .ref 39)] [] (q1_k39 I J R) = some (17, [(0, .ref 39)], [], (q1_k39 I J R)) := rfl
set_option maxRecDepth 100000 in
theorem q1_ks127 {I : Nat → Nat → Int32} {J : Nat → Nat → Int64} {R : Nat → Nat → Option Nat} : pm_go pm_swA 29 4 17 [(0, .ref 39)] [] (q1_k39 I J R) = some (26, [(0, .ref 39)], [], (q1_k39 I J R)) := rfl
set_option maxRecDepth 100000 in
theorem q1_ks128 {I : Nat → Nat → Int32} {J : Nat → Nat → Int64} {R : Nat → Nat → Option Nat} : pm_go pm_swA 29 4 26 [(0, .ref 39)] [] (q1_k39 I J R) = some (39, [(0, .ref 39)], [], (q1_k39 I J R)) := rfl
set_option maxRecDepth 100000 in
theorem q1_ks129 {I : Nat → Nat → Int32} {J : Nat → Nat → Int64} {R : Nat → Nat → Option Nat} : pm_go pm_swA 29 1 39 [(0, .ref 39)] [] (q1_k39 I J R) = some (40, [(0, .ref 39)], [.int 0], (q1_k39 I J R)) := rfl
set_option maxRecDepth 100000 in
theorem q1_ks130 {I : Nat → Nat → Int32} {J : Nat → Nat → Int64} {R : Nat → Nat → Option Nat} : pm_go pm_swA 24 1 139 [(0, .ref 39), (1, .int 5), (2, .int 0), (3, .int 0), (4, .int 0)] [.int 0] (q1_k39 I J R) = some (142, [(0, .ref 39), (1, .int 5), (2, .int 0), (3, .int 0), (4, .int 0)], [], (q1_k39 I J R)) := rfl
set_option maxRecDepth 100000 in
theorem q1_ks131 {I : Nat → Nat → Int32} {J : Nat → Nat → Int64} {R : Nat → Nat → Option Nat} : pm_go pm_swA 23 4 91 [(5, .int 0), (4, .int 0), (3, .int 0), (2, .int 0), (1, .int 5), (0, .ref 39)] [] (q1_k39 I J R) = some (4, [(5, .int 0), (4, .int 0), (3, .int 0), (2, .int 0), (1, .int 5), (0, .ref 39)], [.int (2 - 1)], (q1_k39 I J R)) := rfl
set_option maxRecDepth 100000 in
theorem q1_ks132 {I : Nat → Nat → Int32} {J : Nat → Nat → Int64} {R : Nat → Nat → Option Nat} : pm_go pm_swA 23 4 4 [(5, .int 0), (4, .int 0), (3, .int 0), (2, .int 0), (1, .int 5), (0, .ref 39)] [.int (2 - 1)] (q1_k39 I J R) = some (14, [(5, .int 0), (4, .int 0), (3, .int 0), (2, .int 0), (1, .int 5), (0, .ref 39)], [], (q1_k39 I J R)) := rfl
set_option maxRecDepth 100000 in
theorem q1_ks133 {I : Nat → Nat → Int32} {J : Nat → Nat → Int64} {R : Nat → Nat → Option Nat} : pm_go pm_swA 23 4 14 [(5, .int 0), (4, .int 0), (3, .int 0), (2, .int 0), (1, .int 5), (0, .ref 39)] [] (q1_k39 I J R) = some (20, [(5, .int 0), (4, .int 0), (3, .int 0), (2, .int 0), (1, .int 5), (0, .ref 39)], [.int 1, .int (2 - 1), .ref 39], (q1_k39 I J R)) := rfl
set_option maxRecDepth 100000 in
theorem q1_ks134 {I : Nat → Nat → Int32} {J : Nat → Nat → Int64} {R : Nat → Nat → Option Nat} : pm_go pm_swA 23 4 20 [(5, .int 0), (4, .int 0), (3, .int 0), (2, .int 0), (1, .int 5), (0, .ref 39)] [.int 1, .int (2 - 1), .ref 39] (q1_k39 I J R) = some (28, [(5, .int 0), (4, .int 0), (3, .int 0), (2, .int 0), (1, .int 5), (0, .ref 39)], [.ref 69], (q1_k40 I J R)) := rfl
set_option maxRecDepth 100000 in
theorem q1_ks135 {I : Nat → Nat → Int32} {J : Nat → Nat → Int64} {R : Nat → Nat → Option Nat} : pm_go pm_swA 23 2 28 [(5, .int 0), (4, .int 0), (3, .int 0), (2, .int 0), (1, .int 5), (0, .ref 39)] [.ref 69] (q1_k40 I J R) = some (32, [(5, .int 0), (4, .int 0), (3, .int 0), (2, .int 0), (1, .int 5), (0, .ref 39)], [.int ((2 - 1) - 1), .ref 69], (q1_k40 I J R)) := rfl
set_option maxRecDepth 100000 in
theorem q1_ks136 {I : Nat → Nat → Int32} {J : Nat → Nat → Int64} {R : Nat → Nat → Option Nat} : pm_go pm_swA 23 4 32 [(5, .int 0), (4, .int 0), (3, .int 0), (2, .int 0), (1, .int 5), (0, .ref 39)] [.int ((2 - 1) - 1), .ref 69] (q1_k40 I J R) = some (38, [(1, .int 2), (5, .int 0), (4, .int 0), (3, .int 0), (2, .int 0), (0, .ref 39)], [.ref 70], (q1_k40 I J R)) := rfl
set_option maxRecDepth 100000 in
theorem q1_ks137 {I : Nat → Nat → Int32} {J : Nat → Nat → Int64} {R : Nat → Nat → Option Nat} : pm_go pm_swA 23 2 38 [(1, .int 2), (5, .int 0), (4, .int 0), (3, .int 0), (2, .int 0), (0, .ref 39)] [.ref 70] (q1_k40 I J R) = some (42, [(1, .int 2), (5, .int 0), (4, .int 0), (3, .int 0), (2, .int 0), (0, .ref 39)], [.int ((2 - 1) - 1), .ref 70], (q1_k40 I J R)) := rfl
set_option maxRecDepth 100000 in
theorem q1_ks138 {I : Nat → Nat → Int32} {J : Nat → Nat → Int64} {R : Nat → Nat → Option Nat} : pm_go pm_swA 23 4 42 [(1, .int 2), (5, .int 0), (4, .int 0), (3, .int 0), (2, .int 0), (0, .ref 39)] [.int ((2 - 1) - 1), .ref 70] (q1_k40 I J R) = some (48, [(2, .int 0), (1, .int 2), (5, .int 0), (4, .int 0), (3, .int 0), (0, .ref 39)], [.ref 71], (q1_k40 I J R)) := rfl
set_option maxRecDepth 100000 in
theorem q1_ks139 {I : Nat → Nat → Int32} {J : Nat → Nat → Int64} {R : Nat → Nat → Option Nat} : pm_go pm_swA 23 2 48 [(2, .int 0), (1, .int 2), (5, .int 0), (4, .int 0), (3, .int 0), (0, .ref 39)] [.ref 71] (q1_k40 I J R) = some (52, [(2, .int 0), (1, .int 2), (5, .int 0), (4, .int 0), (3, .int 0), (0, .ref 39)], [.int ((2 - 1) - 1), .ref 71], (q1_k40 I J R)) := rfl
set_option maxRecDepth 100000 in
theorem q1_ks140 {I : Nat → Nat → Int32} {J : Nat → Nat → Int64} {R : Nat → Nat → Option Nat} : pm_go pm_swA 23 4 52 [(2, .int 0), (1, .int 2), (5, .int 0), (4, .int 0), (3, .int 0), (0, .ref 39)] [.int ((2 - 1) - 1), .ref 71] (q1_k40 I J R) = some (58, [(3, .int 0), (2, .int 0), (1, .int 2), (5, .int 0), (4, .int 0), (0, .ref 39)], [.ref 72], (q1_k40 I J R)) := rfl
set_option maxRecDepth 100000 in
theorem q1_ks141 {I : Nat → Nat → Int32} {J : Nat → Nat → Int64} {R : Nat → Nat → Option Nat} : pm_go pm_swA 23 2 58 [(3, .int 0), (2, .int 0), (1, .int 2), (5, .int 0), (4, .int 0), (0, .ref 39)] [.ref 72] (q1_k40 I J R) = some (62, [(3, .int 0), (2, .int 0), (1, .int 2), (5, .int 0), (4, .int 0), (0, .ref 39)], [.int ((2 - 1) - 1), .ref 72], (q1_k40 I J R)) := rfl
set_option maxRecDepth 100000 in
theorem q1_ks142 {I : Nat → Nat → Int32} {J : Nat → Nat → Int64} {R : Nat → Nat → Option Nat} : pm_go pm_swA 23 4 62 [(3, .int 0), (2, .int 0), (1, .int 2), (5, .int 0), (4, .int 0), (0, .ref 39)] [.int ((2 - 1) - 1), .ref 72] (q1_k40 I J R) = some (69, [(4, .int 0), (3, .int 0), (2, .int 0), (1, .int 2), (5, .int 0), (0, .ref 39)], [.ref 73], (q1_k40 I J R)) := rfl
set_option maxRecDepth 100000 in
theorem q1_ks143 {I : Nat → Nat → Int32} {J : Nat → Nat → Int64} {R : Nat → Nat → Option Nat} : pm_go pm_swA 23 2 69 [(4, .int 0), (3, .int 0), (2, .int 0), (1, .int 2), (5, .int 0), (0, .ref 39)] [.ref 73] (q1_k40 I J R) = some (73, [(4, .int 0), (3, .int 0), (2, .int 0), (1, .int 2), (5, .int 0), (0, .ref 39)], [.int ((2 - 1) - 1), .ref 73], (q1_k40 I J R)) := rfl
set_option maxRecDepth 100000 in
theorem q1_ks144 {I : Nat → Nat → Int32} {J : Nat → Nat → Int64} {R : Nat → Nat → Option Nat} : pm_go pm_swA 23 4 73 [(4, .int 0), (3, .int 0), (2, .int 0), (1, .int 2), (5, .int 0), (0, .ref 39)] [.int ((2 - 1) - 1), .ref 73] (q1_k40 I J R) = some (79, [(5, .int 0), (4, .int 0), (3, .int 0), (2, .int 0), (1, .int 2), (0, .ref 39)], [.int 13, .int 2], (q1_k40 I J R)) := rfl
set_option maxRecDepth 100000 in
theorem q1_ks145 {I : Nat → Nat → Int32} {J : Nat → Nat → Int64} {R : Nat → Nat → Option Nat} : pm_go pm_swA 23 4 79 [(5, .int 0), (4, .int 0), (3, .int 0), (2, .int 0), (1, .int 2), (0, .ref 39)] [.int 13, .int 2] (q1_k40 I J R) = some (85, [(5, .int 0), (4, .int 0), (3, .int 0), (2, .int 0), (1, .int 2), (0, .ref 39)], [.int 0, .int 2, .ref 39], (q1_k40 I J R)) := rfl
set_option maxRecDepth 100000 in
theorem q1_ks146 {I : Nat → Nat → Int32} {J : Nat → Nat → Int64} {R : Nat → Nat → Option Nat} : pm_go pm_swA 23 2 85 [(5, .int 0), (4, .int 0), (3, .int 0), (2, .int 0), (1, .int 2), (0, .ref 39)] [.int 0, .int 2, .ref 39] (q1_k40 I J R) = some (88, [(5, .int 0), (4, .int 0), (3, .int 0), (2, .int 0), (1, .int 2), (0, .ref 39)], [.int 0, .int 0, .int 0, .int 2, .ref 39], (q1_k40 I J R)) := rfl
set_option maxRecDepth 100000 in
theorem q1_ks147 {I : Nat → Nat → Int32} {J : Nat → Nat → Int64} {R : Nat → Nat → Option Nat} : pm_go pm_swA 24 1 0 [(0, .ref 39), (1, .int 2), (2, .int 0), (3, .int 0), (4, .int 0)] [] (q1_k40 I J R) = some (1, [(0, .ref 39), (1, .int 2), (2, .int 0), (3, .int 0), (4, .int 0)], [.int 2], (q1_k40 I J R)) := rfl
set_option maxRecDepth 100000 in
theorem q1_ks148 {I : Nat → Nat → Int32} {J : Nat → Nat → Int64} {R : Nat → Nat → Option Nat} : pm_go pm_swA 24 4 1 [(0, .ref 39), (1, .int 2), (2, .int 0), (3, .int 0), (4, .int 0)] [.int 2] (q1_k40 I J R) = some (74, [(0, .ref 39), (1, .int 2), (2, .int 0), (3, .int 0), (4, .int 0)], [.int 12, .int 12], (q1_k40 I J R)) := rfl
set_option maxRecDepth 100000 in
theorem q1_ks149 {I : Nat → Nat → Int32} {J : Nat → Nat → Int64} {R : Nat → Nat → Option Nat} : pm_go pm_swA 24 4 74 [(0, .ref 39), (1, .int 2), (2, .int 0), (3, .int 0), (4, .int 0)] [.int 12, .int 12] (q1_k40 I J R) = some (86, [(0, .ref 39), (1, .int 2), (2, .int 0), (3, .int 0), (4, .int 0)], [.int 0, .int 16, .ref 39], (q1_k40 I J R)) := rfl
set_option maxRecDepth 100000 in
theorem q1_ks150 {I : Nat → Nat → Int32} {J : Nat → Nat → Int64} {R : Nat → Nat → Option Nat} : pm_go pm_swA 24 1 86 [(0, .ref 39), (1, .int 2), (2, .int 0), (3, .int 0), (4, .int 0)] [.int 0, .int 16, .ref 39] (q1_k40 I J R) = some (87, [(0, .ref 39), (1, .int 2), (2, .int 0), (3, .int 0), (4, .int 0)], [.int 0, .int 0, .int 16, .ref 39], (q1_k40 I J R)) := rfl
set_option maxRecDepth 100000 in
theorem q1_ks151 {I : Nat → Nat → Int32} {J : Nat → Nat → Int64} {R : Nat → Nat → Option Nat} : pm_go pm_swA 16 4 0 [(0, .ref 39), (1, .int 16), (2, .int 0), (3, .int 0)] [] (q1_k40 I J R) = some (8, [(0, .ref 39), (1, .int 16), (2, .int 0), (3, .int 0)], [.int 1, .ref 58], (q1_k40 I J R)) := rfl
set_option maxRecDepth 100000 in
theorem q1_ks152 {I : Nat → Nat → Int32} {J : Nat → Nat → Int64} {R : Nat → Nat → Option Nat} : pm_go pm_swA 16 1 8 [(0, .ref 39), (1, .int 16), (2, .int 0), (3, .int 0)] [.int 1, .ref 58] (q1_k40 I J R) = some (9, [(0, .ref 39), (1, .int 16), (2, .int 0), (3, .int 0)], [.int 16, .int 1, .ref 58], (q1_k40 I J R)) := rfl
set_option maxRecDepth 100000 in
theorem q1_ks153 {I : Nat → Nat → Int32} {J : Nat → Nat → Int64} {R : Nat → Nat → Option Nat} : pm_go pm_swA 16 4 9 [(0, .ref 39), (1, .int 16), (2, .int 0), (3, .int 0)] [.int 16, .int 1, .ref 58] (q1_k40 I J R) = some (15, [(0, .ref 39), (1, .int 16), (2, .int 0), (3, .int 0)], [.ref 39, .ref 59], (q1_k41 I J R)) := rfl
set_option maxRecDepth 100000 in
theorem q1_ks154 {I : Nat → Nat → Int32} {J : Nat → Nat → Int64} {R : Nat → Nat → Option Nat} : pm_go pm_swA 16 2 15 [(0, .ref 39), (1, .int 16), (2, .int 0), (3, .int 0)] [.ref 39, .ref 59] (q1_k41 I J R) = some (19, [(0, .ref 39), (1, .int 16), (2, .int 0), (3, .int 0)], [.int 0, .int 1, .ref 59], (q1_k41 I J R)) := rfl
set_option maxRecDepth 100000 in
theorem q1_ks155 {I : Nat → Nat → Int32} {J : Nat → Nat → Int64} {R : Nat → Nat → Option Nat} : pm_go pm_swA 16 4 19 [(0, .ref 39), (1, .int 16), (2, .int 0), (3, .int 0)] [.int 0, .int 1, .ref 59] (q1_k41 I J R) = some (25, [(0, .ref 39), (1, .int 16), (2, .int 0), (3, .int 0)], [.ref 39, .ref 60], (q1_k42 I J R)) := rfl
set_option maxRecDepth 100000 in
theorem q1_ks156 {I : Nat → Nat → Int32} {J : Nat → Nat → Int64} {R : Nat → Nat → Option Nat} : pm_go pm_swA 16 2 25 [(0, .ref 39), (1, .int 16), (2, .int 0), (3, .int 0)] [.ref 39, .ref 60] (q1_k42 I J R) = some (29, [(0, .ref 39), (1, .int 16), (2, .int 0), (3, .int 0)], [.int 0, .int 1, .ref 60], (q1_k42 I J R)) := rfl
set_option maxRecDepth 100000 in
theorem q1_ks157 {I : Nat → Nat → Int32} {J : Nat → Nat → Int64} {R : Nat → Nat → Option Nat} : pm_go pm_swA 16 4 29 [(0, .ref 39), (1, .int 16), (2, .int 0), (3, .int 0)] [.int 0, .int 1, .ref 60] (q1_k42 I J R) = some (35, [(0, .ref 39), (1, .int 16), (2, .int 0), (3, .int 0)], [.int 1, .ref 39], (q1_k43 I J R)) := rfl
set_option maxRecDepth 100000 in
theorem q1_ks158 {I : Nat → Nat → Int32} {J : Nat → Nat → Int64} {R : Nat → Nat → Option Nat} : pm_go pm_swA 16 3 35 [(0, .ref 39), (1, .int 16), (2, .int 0), (3, .int 0)] [.int 1, .ref 39] (q1_k43 I J R) = some (40, [(0, .ref 39), (1, .int 16), (2, .int 0), (3, .int 0)], [], (q1_k44 I J R)) := rfl
set_option maxRecDepth 100000 in
theorem q1_ks159 {I : Nat → Nat → Int32} {J : Nat → Nat → Int64} {R : Nat → Nat → Option Nat} : pm_go pm_swA 24 1 90 [(0, .ref 39), (1, .int 2), (2, .int 0), (3, .int 0), (4, .int 0)] [] (q1_k44 I J R) = some (266, [(0, .ref 39), (1, .int 2), (2, .int 0), (3, .int 0), (4, .int 0)], [], (q1_k44 I J R)) := rfl
set_option maxRecDepth 100000 in
theorem q1_ks160 {I : Nat → Nat → Int32} {J : Nat → Nat → Int64} {R : Nat → Nat → Option Nat} : pm_go pm_swA 23 4 91 [(5, .int 0), (4, .int 0), (3, .int 0), (2, .int 0), (1, .int 2), (0, .ref 39)] [] (q1_k44 I J R) = some (4, [(5, .int 0), (4, .int 0), (3, .int 0), (2, .int 0), (1, .int 2), (0, .ref 39)], [.int ((2 - 1) - 1)], (q1_k44 I J R)) := rfl
set_option maxRecDepth 100000 in
theorem q1_ks161 {I : Nat → Nat → Int32} {J : Nat → Nat → Int64} {R : Nat → Nat → Option Nat} : pm_go pm_swA 23 1 4 [(5, .int 0), (4, .int 0), (3, .int 0), (2, .int 0), (1, .int 2), (0, .ref 39)] [.int ((2 - 1) - 1)] (q1_k44 I J R) = some (108, [(5, .int 0), (4, .int 0), (3, .int 0), (2, .int 0), (1, .int 2), (0, .ref 39)], [], (q1_k44 I J R)) := rfl
set_option maxRecDepth 100000 in
theorem q1_ks162 {I : Nat → Nat → Int32} {J : Nat → Nat → Int64} {R : Nat → Nat → Option Nat} : pm_go pm_swA 48 4 147 [(1, .int 0), (0, .ref 39)] [] (q1_k44 I J R) = some (155, [(1, .int 0), (0, .ref 39)], [.ref 39], (q1_k44 I J R)) := rfl
set_option maxRecDepth 100000 in
theorem q1_ks163 {I : Nat → Nat → Int32} {J : Nat → Nat → Int64} {R : Nat → Nat → Option Nat} : pm_go pm_swA 48 4 155 [(1, .int 0), (0, .ref 39)] [.ref 39] (q1_k44 I J R) = some (164, [(1, .int 0), (0, .ref 39)], [.ref 39], (q1_k45 I J R)) := rfl
set_option maxRecDepth 100000 in
theorem q1_ks164 {I : Nat → Nat → Int32} {J : Nat → Nat → Int64} {R : Nat → Nat → Option Nat} : pm_go pm_swA 48 4 164 [(1, .int 0), (0, .ref 39)] [.ref 39] (q1_k45 I J R) = some (199, [(1, .int 0), (0, .ref 39)], [.int 1], (q1_k45 I J R)) := rfl
set_option maxRecDepth 100000 in
theorem q1_ks165 {I : Nat → Nat → Int32} {J : Nat → Nat → Int64} {R : Nat → Nat → Option Nat} : pm_go pm_swA 48 3 199 [(1, .int 0), (0, .ref 39)] [.int 1] (q1_k45 I J R) = some (206, [(1, .int 0), (0, .ref 39)], [.int (-1)], (q1_k45 I J R)) := rfl
set_option maxRecDepth 100000 in
theorem q1_ks166 {I : Nat → Nat → Int32} {J : Nat → Nat → Int64} {R : Nat → Nat → Option Nat} : pm_go pm_swA 48 1 206 [(1, .int 0), (0, .ref 39)] [.int (-1)] (q1_k45 I J R) = some (bif pm_c0 .lt (-1) then 225 else 209, [(1, .int 0), (0, .ref 39)], [], (q1_k45 I J R)) := rfl
set_option maxRecDepth 100000 in
theorem q1_ks167 {I : Nat → Nat → Int32} {J : Nat → Nat → Int64} {R : Nat → Nat → Option Nat} : pm_go pm_swA 48 2 225 [(1, .int 0), (0, .ref 39)] [] (q1_k45 I J R) = some (227, [(1, .int 0), (0, .ref 39)], [], (q1_k45 I J R)) := rfl
set_option maxRecDepth 100000 in
set_option maxHeartbeats 4000000 in
/-- the model's check on the empty text, up to its last loop -/
theorem q1_48a {I : Nat → Nat → Int32} {J : Nat → Nat → Int64} {R : Nat → Nat → Option Nat} {Q : Option Value → pm_H → Prop} (q : px 999 48 227 [(1, .int 0), (0, .ref 39)] [] (q1_k45 I J R) Q) : px 999 48 0 (lv_args 0 [.ref 39]) [] (va_up I 39 (fun _ => 0), J, va_up R 39 (pg_f pg_lM 39)) Q := by
  refine px_g q1_ks1 ?_
  refine px_g q1_ks2 ?_
  refine px_g q1_ks3 ?_
  refine px_g q1_ks4 ?_
  refine px_g q1_ks5 ?_
  refine px_g q1_ks6 ?_
  refine px_g q1_ks7 ?_
  refine px_g q1_ks8 ?_
  refine px_g q1_ks9 ?_
  refine px_g q1_ks10 ?_
  refine px_g q1_ks11 ?_
  refine px_g q1_ks12 ?_
  refine px_g q1_ks13 ?_
  refine px_g q1_ks14 ?_
  refine px_g q1_ks15 ?_
  refine px_g q1_ks16 ?_
  refine px_g q1_ks17 ?_
  refine px_call (d := 998) (mj := 6) (as := [.ref 39]) (S' := []) rfl rfl ?_
  refine px_g q1_ks18 ?_
  refine px_g q1_ks19 ?_
  refine px_g q1_ks20 ?_
  refine px_g q1_ks21 ?_
  refine px_call (d := 997) (mj := 5) (as := [.ref 39, .int 0]) (S' := []) rfl rfl ?_
  refine px_g q1_ks22 ?_
  refine px_g q1_ks23 ?_
  refine px_ret (v := some (.int 0)) rfl ?_
  refine px_g q1_ks24 ?_
  refine px_g q1_ks25 ?_
  refine px_g q1_ks26 ?_
  refine px_g q1_ks27 ?_
  refine px_ret (v := none) rfl ?_
  refine px_g q1_ks28 ?_
  refine px_call (d := 998) (mj := 16) (as := [.ref 39, .int 15, .int 0, .int 0]) (S' := []) rfl rfl ?_
  refine px_g q1_ks29 ?_
  refine px_g q1_ks30 ?_
  refine px_g q1_ks31 ?_
  refine px_g q1_ks32 ?_
  refine px_g q1_ks33 ?_
  refine px_g q1_ks34 ?_
  refine px_g q1_ks35 ?_
  refine px_g q1_ks36 ?_
  refine px_ret (v := none) rfl ?_
  refine px_g q1_ks37 ?_
  refine px_call (d := 998) (mj := 22) (as := [.ref 39, .int 1]) (S' := []) rfl rfl ?_
  refine px_g q1_ks38 ?_
  refine px_g q1_ks39 ?_
  refine px_call (d := 997) (mj := 21) (as := [.ref 39, .int 1, .int 0, .int 0, .int 0, .int 0]) (S' := []) rfl rfl ?_
  refine px_g q1_ks40 ?_
  refine px_g q1_ks41 ?_
  refine px_g q1_ks42 ?_
  refine px_g q1_ks43 ?_
  refine px_g q1_ks44 ?_
  refine px_g q1_ks45 ?_
  refine px_g q1_ks46 ?_
  refine px_g q1_ks47 ?_
  refine px_g q1_ks48 ?_
  refine px_g q1_ks49 ?_
  refine px_g q1_ks50 ?_
  refine px_g q1_ks51 ?_
  refine px_ret (v := none) rfl ?_
  refine px_ret (v := none) rfl ?_
  refine px_g q1_ks52 ?_
  refine px_call (d := 998) (mj := 23) (as := [.ref 39]) (S' := []) rfl rfl ?_
  refine px_g q1_ks53 ?_
  refine px_g q1_ks54 ?_
  refine px_g q1_ks55 ?_
  refine px_g q1_ks56 ?_
  refine px_g q1_ks57 ?_
  refine px_g q1_ks58 ?_
  refine px_g q1_ks59 ?_
  refine px_g q1_ks60 ?_
  refine px_g q1_ks61 ?_
  refine px_g q1_ks62 ?_
  refine px_g q1_ks63 ?_
  refine px_g q1_ks64 ?_
  refine px_g q1_ks65 ?_
  refine px_g q1_ks66 ?_
  refine px_g q1_ks67 ?_
  refine px_call (d := 997) (mj := 24) (as := [.ref 39, .int 1, .int 0, .int 0, .int 0]) (S' := []) rfl rfl ?_
  refine px_g q1_ks68 ?_
  refine px_g q1_ks69 ?_
  refine px_call (d := 996) (mj := 26) (as := [.ref 39, .int 0]) (S' := []) rfl rfl ?_
  refine px_g q1_ks70 ?_
  refine px_g q1_ks71 ?_
  refine px_g q1_ks72 ?_
  refine px_g q1_ks73 ?_
  refine px_g q1_ks74 ?_
  refine px_g q1_ks75 ?_
  refine px_g q1_ks76 ?_
  refine px_call (d := 995) (mj := 22) (as := [.ref 39, .int 2]) (S' := []) rfl rfl ?_
  refine px_g q1_ks77 ?_
  refine px_g q1_ks78 ?_
  refine px_call (d := 994) (mj := 21) (as := [.ref 39, .int 2, .int 0, .int 0, .int 0, .int 0]) (S' := []) rfl rfl ?_
  refine px_g q1_ks79 ?_
  refine px_g q1_ks80 ?_
  refine px_g q1_ks81 ?_
  refine px_g q1_ks82 ?_
  refine px_g q1_ks83 ?_
  refine px_g q1_ks84 ?_
  refine px_g q1_ks85 ?_
  refine px_g q1_ks86 ?_
  refine px_g q1_ks87 ?_
  refine px_g q1_ks88 ?_
  refine px_g q1_ks89 ?_
  refine px_g q1_ks90 ?_
  refine px_ret (v := none) rfl ?_
  refine px_ret (v := none) rfl ?_
  refine px_g q1_ks91 ?_
  refine px_call (d := 995) (mj := 22) (as := [.ref 39, .int 5]) (S' := []) rfl rfl ?_
  refine px_g q1_ks92 ?_
  refine px_g q1_ks93 ?_
  refine px_call (d := 994) (mj := 21) (as := [.ref 39, .int 5, .int 0, .int 0, .int 0, .int 0]) (S' := []) rfl rfl ?_
  refine px_g q1_ks94 ?_
  refine px_g q1_ks95 ?_
  refine px_g q1_ks96 ?_
  refine px_g q1_ks97 ?_
  refine px_g q1_ks98 ?_
  refine px_g q1_ks99 ?_
  refine px_g q1_ks100 ?_
  refine px_g q1_ks101 ?_
  refine px_g q1_ks102 ?_
  refine px_g q1_ks103 ?_
  refine px_g q1_ks104 ?_
  refine px_g q1_ks105 ?_
  refine px_ret (v := none) rfl ?_
  refine px_ret (v := none) rfl ?_
  refine px_ret (v := none) rfl ?_
  refine px_g q1_ks106 ?_
  refine px_ret (v := none) rfl ?_
  refine px_g q1_ks107 ?_
  refine px_g q1_ks108 ?_
  refine px_g q1_ks109 ?_
  refine px_g q1_ks110 ?_
  refine px_g q1_ks111 ?_
  refine px_g q1_ks112 ?_
  refine px_g q1_ks113 ?_
  refine px_g q1_ks114 ?_
  refine px_g q1_ks115 ?_
  refine px_g q1_ks116 ?_
  refine px_g q1_ks117 ?_
  refine px_g q1_ks118 ?_
  refine px_g q1_ks119 ?_
  refine px_g q1_ks120 ?_
  refine px_g q1_ks121 ?_
  refine px_g q1_ks122 ?_
  refine px_call (d := 997) (mj := 24) (as := [.ref 39, .int 5, .int 0, .int 0, .int 0]) (S' := []) rfl rfl ?_
  refine px_g q1_ks123 ?_
  refine px_g q1_ks124 ?_
  refine px_call (d := 996) (mj := 29) (as := [.ref 39]) (S' := []) rfl rfl ?_
  refine px_g q1_ks125 ?_
  refine px_g q1_ks126 ?_
  refine px_g q1_ks127 ?_
  refine px_g q1_ks128 ?_
  refine px_g q1_ks129 ?_
  refine px_ret (v := some (.int 0)) rfl ?_
  refine px_g q1_ks130 ?_
  refine px_ret (v := none) rfl ?_
  refine px_g q1_ks131 ?_
  refine px_g q1_ks132 ?_
  refine px_g q1_ks133 ?_
  refine px_g q1_ks134 ?_
  refine px_g q1_ks135 ?_
  refine px_g q1_ks136 ?_
  refine px_g q1_ks137 ?_
  refine px_g q1_ks138 ?_
  refine px_g q1_ks139 ?_
  refine px_g q1_ks140 ?_
  refine px_g q1_ks141 ?_
  refine px_g q1_ks142 ?_
  refine px_g q1_ks143 ?_
  refine px_g q1_ks144 ?_
  refine px_g q1_ks145 ?_
  refine px_g q1_ks146 ?_
  refine px_call (d := 997) (mj := 24) (as := [.ref 39, .int 2, .int 0, .int 0, .int 0]) (S' := []) rfl rfl ?_
  refine px_g q1_ks147 ?_
  refine px_g q1_ks148 ?_
  refine px_g q1_ks149 ?_
  refine px_g q1_ks150 ?_
  refine px_call (d := 996) (mj := 16) (as := [.ref 39, .int 16, .int 0, .int 0]) (S' := []) rfl rfl ?_
  refine px_g q1_ks151 ?_
  refine px_g q1_ks152 ?_
  refine px_g q1_ks153 ?_
  refine px_g q1_ks154 ?_
  refine px_g q1_ks155 ?_
  refine px_g q1_ks156 ?_
  refine px_g q1_ks157 ?_
  refine px_g q1_ks158 ?_
  refine px_ret (v := none) rfl ?_
  refine px_g q1_ks159 ?_
  refine px_ret (v := none) rfl ?_
  refine px_g q1_ks160 ?_
  refine px_g q1_ks161 ?_
  refine px_ret (v := none) rfl ?_
  refine px_g q1_ks162 ?_
  refine px_g q1_ks163 ?_
  refine px_g q1_ks164 ?_
  refine px_g q1_ks165 ?_
  refine px_g q1_ks166 ?_
  rw [show pm_c0 .lt (-1) = true from by decide]
  refine px_g q1_ks167 ?_
  exact q
set_option maxRecDepth 100000 in
set_option maxHeartbeats 4000000 in
theorem q1_48 {I : Nat → Nat → Int32} {J : Nat → Nat → Int64} {R : Nat → Nat → Option Nat} {Q : Option Value → pm_H → Prop} (q : ∀ h' : pm_H, Q (some (.int 0)) h') : px 999 48 0 (lv_args 0 [.ref 39]) [] (va_up I 39 (fun _ => 0), J, va_up R 39 (pg_f pg_lM 39)) Q := by
  refine q1_48a ?_
  refine px_seg 9 (pc' := 242) (L' := [(1, .int (nI 0)), (0, .ref 39)]) (S' := [.int 0, .int (nI 0), .ref 61]) (h' := (q1_k45 I J R)) (fun _ => rfl) ?_
  refine px_iastore (a := 61) (x := 0) (j := nI 0) (S := []) rfl rfl rfl ?_
  refine px_seg 2 (pc' := 227) (L' := [(1, .int (nI 1)), (0, .ref 39)]) (S' := []) (h' := pm_setI (q1_k45 I J R) 61 0 0) (fun _ => rfl) ?_
  refine ck_zero rfl (fun F2 => ?_) 2559 1 _ rfl
  exact ⟨20, some (.int 0), _, rfl, q _⟩
end
section
section P1C
variable {xs : Nat → Int32}
set_option maxRecDepth 100000 in
set_option maxHeartbeats 4000000 in
/-- check -/
theorem q1_c1 : pu pl_stop 1000 174 39 q1_4 [.int 1] q1_h (fun pc' L' S' h' => pv xs 4 0 pc' L' S' h') := by
  refine pu_seg 2 (pc' := 158) (L' := q1_4) (S' := [.ref 0]) (h' := q1_h) (fun _ => rfl) ?_
  refine pu_call (d := 999) (mj := 154) (as := [.ref 0]) (S' := []) rfl rfl rfl (q1_154 (fun h1 e1 e2 => ?_))
  have e3 : h1 = (va_up h1.1 39 (fun _ => 0), h1.2.1, va_up h1.2.2 39 (pg_f pg_lM 39)) := by
    rw [← e1, ← e2, va_up_id, va_up_id]
  rw [e3]
  refine pu_seg 1 (pc' := 162) (L' := q1_4) (S' := [.ref 39, .int 0]) (h' := (va_up h1.1 39 (fun _ => 0), h1.2.1, va_up h1.2.2 39 (pg_f pg_lM 39))) (fun _ => rfl) ?_
  refine pu_call (d := 999) (mj := 48) (as := [.ref 39]) (S' := [.int 0]) rfl rfl rfl (q1_48 (fun h2 => ?_))
  exact pu_go 5 (pc' := 26) (L' := (4, .int 4) :: q1_0) (S' := [.ref 900, .int 4]) (h' := h2) (fun _ => rfl) rfl (q1_e _)
set_option maxRecDepth 100000 in
set_option maxHeartbeats 4000000 in
/-- put -/
theorem q1_c2 : pu pl_stop 1000 174 39 q1_4 [.int 2] q1_h (fun pc' L' S' h' => pv xs 4 0 pc' L' S' h') := by
  refine pu_go 6 (pc' := 176) (L' := q1_4) (S' := [.int 1, .ref 900, .ref 0]) (h' := q1_h) (fun _ => rfl) rfl ?_
  refine pv_scr (i := .iaload) (S' := [.int (xs 1), .ref 0]) rfl rfl ?_
  refine pv_go 4 (pc' := 182) (L' := q1_4) (S' := [.int 2, .ref 900, .int (xs 1), .ref 0]) (h' := q1_h) rfl rfl rfl rfl (fun _ => rfl) rfl ?_
  refine pv_scr (i := .iaload) (S' := [.int (xs 2), .int (xs 1), .ref 0]) rfl rfl ?_
  refine pv_go 4 (pc' := 188) (L' := q1_4) (S' := [.int 3, .ref 900, .int (xs 2), .int (xs 1), .ref 0]) (h' := q1_h) rfl rfl rfl rfl (fun _ => rfl) rfl ?_
  refine pv_scr (i := .iaload) (S' := [.int (xs 3), .int (xs 2), .int (xs 1), .ref 0]) rfl rfl ?_
  refine pv_wr (i := .invokestatic 53) (mi := 175) (as := [.ref 0, .int (xs 1), .int (xs 2), .int (xs 3)]) (k := 1) (S' := []) (h' := q1_h) rfl rfl rfl (by decide) (pw_thr (k := 1) ⟨20, _, _, _, _, rfl, rfl, rfl, rfl, rfl⟩ rfl rfl rfl (pt_of ⟨50, _, _, _, _, rfl, rfl⟩) rfl rfl) ?_
  refine pv_go 6 (pc' := 200) (L' := (5, .int 1) :: q1_4) (S' := [.int 1, .ref 900, .ref 39]) (h' := q1_h) rfl rfl rfl rfl (fun _ => rfl) rfl ?_
  refine pv_scr (i := .iaload) (S' := [.int (xs 1), .ref 39]) rfl rfl ?_
  refine pv_go 4 (pc' := 206) (L' := (5, .int 1) :: q1_4) (S' := [.int 2, .ref 900, .int (xs 1), .ref 39]) (h' := q1_h) rfl rfl rfl rfl (fun _ => rfl) rfl ?_
  refine pv_scr (i := .iaload) (S' := [.int (xs 2), .int (xs 1), .ref 39]) rfl rfl ?_
  refine pv_go 4 (pc' := 212) (L' := (5, .int 1) :: q1_4) (S' := [.int 3, .ref 900, .int (xs 2), .int (xs 1), .ref 39]) (h' := q1_h) rfl rfl rfl rfl (fun _ => rfl) rfl ?_
  refine pv_scr (i := .iaload) (S' := [.int (xs 3), .int (xs 2), .int (xs 1), .ref 39]) rfl rfl ?_
  exact pv_pu (i := .invokevirtual 58) rfl rfl rfl rfl ⟨300, 26, _, [.ref 900, .int 4], _, rfl, q1_e _⟩
set_option maxRecDepth 100000 in
set_option maxHeartbeats 4000000 in
/-- the model's run, without a program -/
theorem q1_m55 {d : Nat} {f : Int32} {Q : Option Value → pm_H → Prop} (q : Q (some (.int 0)) (pg (va_up (fun _ _ => 0) 39 (va_up (fun _ => 0) 0 1)) (fun _ _ => 0) (some 1003) (fun _ => none))) : px (d + 1) 55 0 (lv_args 0 [.ref 39, .int f]) [] q1_h Q := by
  have e : ∀ b : Int32, b = 0 ∨ b = 1 → px (d + 1) 55 29 [(0, .ref 39), (1, .int f)] [.int b, .int 1, .ref 39] q1_h Q := fun b hb => by
    rcases hb with rfl | rfl
    · exact ⟨40, some (.int 0), _, rfl, q⟩
    · exact ⟨40, some (.int 0), _, rfl, q⟩
  refine px_seg 8 (pc' := bif pm_c0 .lt f then 24 else 17) (L' := [(0, .ref 39), (1, .int f)]) (S' := [.int 1, .ref 39]) (h' := q1_h) (fun _ => rfl) ?_
  have e1 := px_seg (Q := Q) 2 (pc := 24) (d := d + 1) (mi := 55) (L := [(0, .ref 39), (1, .int f)]) (S := [.int 1, .ref 39]) (h := q1_h) (pc' := 29) (L' := [(0, .ref 39), (1, .int f)]) (S' := [.int 1, .int 1, .ref 39]) (h' := q1_h) (fun _ => rfl) (e 1 (Or.inr rfl))
  cases pm_c0 .lt f with
  | true => exact e1
  | false =>
    refine px_seg 3 (pc' := bif pm_c2 .le f (nI 20000) then 28 else 24) (L' := [(0, .ref 39), (1, .int f)]) (S' := [.int 1, .ref 39]) (h' := q1_h) (fun _ => rfl) ?_
    cases pm_c2 .le f (nI 20000) with
    | false => exact e1
    | true => exact px_seg 1 (pc' := 29) (L' := [(0, .ref 39), (1, .int f)]) (S' := [.int 0, .int 1, .ref 39]) (h' := q1_h) (fun _ => rfl) (e 0 (Or.inl rfl))
set_option maxRecDepth 100000 in
set_option maxHeartbeats 4000000 in
/-- run -/
theorem q1_c3 : pu pl_stop 1000 174 39 q1_4 [.int 3] q1_h (fun pc' L' S' h' => pv xs 4 0 pc' L' S' h') := by
  refine pu_go 6 (pc' := 236) (L' := q1_4) (S' := [.int 1, .ref 900, .ref 0]) (h' := q1_h) (fun _ => rfl) rfl ?_
  refine pv_scr (i := .iaload) (S' := [.int (xs 1), .ref 0]) rfl rfl ?_
  refine pv_go 1 (pc' := 238) (L' := q1_4) (S' := [.ref 74, .int (xs 1), .ref 0]) (h' := q1_h) rfl rfl rfl rfl (fun _ => rfl) rfl ?_
  refine pv_wr (i := .invokestatic 62) (mi := 176) (as := [.ref 0, .int (xs 1), .ref 74]) (k := 1) (S' := []) (h' := q1_h) rfl rfl rfl (by decide) (pw_thr (k := 1) ⟨20, _, _, _, _, rfl, rfl, rfl, rfl, rfl⟩ rfl rfl rfl (pt_of ⟨50, _, _, _, _, rfl, rfl⟩) rfl rfl) ?_
  refine pv_go 6 (pc' := 249) (L' := (5, .int 1) :: q1_4) (S' := [.int 1, .ref 900, .ref 39]) (h' := q1_h) rfl rfl rfl rfl (fun _ => rfl) rfl ?_
  refine pv_scr (i := .iaload) (S' := [.int (xs 1), .ref 39]) rfl rfl ?_
  refine pv_pu (i := .invokevirtual 65) rfl rfl rfl rfl ?_
  refine pu_call (d := 999) (mj := 55) (as := [.ref 39, .int (xs 1)]) (S' := []) rfl rfl rfl (q1_m55 (d := 998) ?_)
  exact ⟨60, 26, _, [.ref 900, .int 4], _, rfl, q1_e _⟩
set_option maxRecDepth 100000 in
set_option maxHeartbeats 4000000 in
/-- twin -/
theorem q1_c4 : pu pl_stop 1000 174 39 q1_4 [.int 4] q1_h (fun pc' L' S' h' => pv xs 4 0 pc' L' S' h') := by
  refine pu_go 6 (pc' := 292) (L' := q1_4) (S' := [.int 1, .ref 900, .ref 0]) (h' := q1_h) (fun _ => rfl) rfl ?_
  refine pv_scr (i := .iaload) (S' := [.int (xs 1), .ref 0]) rfl rfl ?_
  refine pv_go 1 (pc' := 294) (L' := q1_4) (S' := [.ref 74, .int (xs 1), .ref 0]) (h' := q1_h) rfl rfl rfl rfl (fun _ => rfl) rfl ?_
  refine pv_wr (i := .invokestatic 66) (mi := 177) (as := [.ref 0, .int (xs 1), .ref 74]) (k := 1) (S' := []) (h' := q1_h) rfl rfl rfl (by decide) (pw_thr (k := 1) ⟨20, _, _, _, _, rfl, rfl, rfl, rfl, rfl⟩ rfl rfl rfl (pt_of ⟨50, _, _, _, _, rfl, rfl⟩) rfl rfl) ?_
  refine pv_go 6 (pc' := 305) (L' := (5, .int 1) :: q1_4) (S' := [.int 1, .ref 900, .ref 39]) (h' := q1_h) rfl rfl rfl rfl (fun _ => rfl) rfl ?_
  refine pv_scr (i := .iaload) (S' := [.int (xs 1), .ref 39]) rfl rfl ?_
  exact pv_pu (i := .invokevirtual 68) rfl rfl rfl rfl ⟨100, 26, _, [.ref 900, .int 4], _, rfl, q1_e _⟩
set_option maxRecDepth 100000 in
set_option maxHeartbeats 4000000 in
/-- value -/
theorem q1_c5 : pu pl_stop 1000 174 39 q1_4 [.int 5] q1_h (fun pc' L' S' h' => pv xs 4 0 pc' L' S' h') := by
  refine pu_go 6 (pc' := 348) (L' := q1_4) (S' := [.int 1, .ref 900, .ref 0]) (h' := q1_h) (fun _ => rfl) rfl ?_
  refine pv_scr (i := .iaload) (S' := [.int (xs 1), .ref 0]) rfl rfl ?_
  refine pv_go 4 (pc' := 354) (L' := q1_4) (S' := [.int 2, .ref 900, .int (xs 1), .ref 0]) (h' := q1_h) rfl rfl rfl rfl (fun _ => rfl) rfl ?_
  refine pv_scr (i := .iaload) (S' := [.int (xs 2), .int (xs 1), .ref 0]) rfl rfl ?_
  refine pv_go 1 (pc' := 356) (L' := q1_4) (S' := [.ref 74, .int (xs 2), .int (xs 1), .ref 0]) (h' := q1_h) rfl rfl rfl rfl (fun _ => rfl) rfl ?_
  refine pv_wr (i := .invokestatic 69) (mi := 178) (as := [.ref 0, .int (xs 1), .int (xs 2), .ref 74]) (k := 1) (S' := []) (h' := q1_h) rfl rfl rfl (by decide) (pw_thr (k := 1) ⟨20, _, _, _, _, rfl, rfl, rfl, rfl, rfl⟩ rfl rfl rfl (pt_of ⟨50, _, _, _, _, rfl, rfl⟩) rfl rfl) ?_
  refine pv_go 6 (pc' := 367) (L' := (5, .int 1) :: q1_4) (S' := [.int 1, .ref 900, .ref 39]) (h' := q1_h) rfl rfl rfl rfl (fun _ => rfl) rfl ?_
  refine pv_scr (i := .iaload) (S' := [.int (xs 1), .ref 39]) rfl rfl ?_
  refine pv_go 4 (pc' := 373) (L' := (5, .int 1) :: q1_4) (S' := [.int 2, .ref 900, .int (xs 1), .ref 39]) (h' := q1_h) rfl rfl rfl rfl (fun _ => rfl) rfl ?_
  refine pv_scr (i := .iaload) (S' := [.int (xs 2), .int (xs 1), .ref 39]) rfl rfl ?_
  exact pv_pu (i := .invokevirtual 72) rfl rfl rfl rfl ⟨100, 26, _, [.ref 900, .int 4], _, rfl, q1_e _⟩
set_option maxRecDepth 100000 in
set_option maxHeartbeats 4000000 in
/-- note -/
theorem q1_c6 : pu pl_stop 1000 174 39 q1_4 [.int 6] q1_h (fun pc' L' S' h' => pv xs 4 0 pc' L' S' h') := by
  refine pu_go 6 (pc' := 416) (L' := q1_4) (S' := [.int 1, .ref 900, .ref 0]) (h' := q1_h) (fun _ => rfl) rfl ?_
  refine pv_scr (i := .iaload) (S' := [.int (xs 1), .ref 0]) rfl rfl ?_
  refine pv_go 1 (pc' := 418) (L' := q1_4) (S' := [.ref 74, .int (xs 1), .ref 0]) (h' := q1_h) rfl rfl rfl rfl (fun _ => rfl) rfl ?_
  refine pv_wr (i := .invokestatic 73) (mi := 179) (as := [.ref 0, .int (xs 1), .ref 74]) (k := 1) (S' := []) (h' := q1_h) rfl rfl rfl (by decide) (pw_thr (k := 1) ⟨20, _, _, _, _, rfl, rfl, rfl, rfl, rfl⟩ rfl rfl rfl (pt_of ⟨50, _, _, _, _, rfl, rfl⟩) rfl rfl) ?_
  refine pv_go 6 (pc' := 429) (L' := (5, .int 1) :: q1_4) (S' := [.int 1, .ref 900, .ref 39]) (h' := q1_h) rfl rfl rfl rfl (fun _ => rfl) rfl ?_
  refine pv_scr (i := .iaload) (S' := [.int (xs 1), .ref 39]) rfl rfl ?_
  exact pv_pu (i := .invokevirtual 75) rfl rfl rfl rfl ⟨100, 26, _, [.ref 900, .int 4], _, rfl, q1_e _⟩
end P1C
end
section
section P1D
variable {xs : Nat → Int32}
set_option maxRecDepth 100000 in
set_option maxHeartbeats 4000000 in
theorem q1_ge {k : Int32} (h : pm_c0 .lt k = false) : pm_c2 .ge k 0 = true := decide_eq_true (Int32.not_lt.mp (of_decide_eq_false h))
set_option maxRecDepth 100000 in
set_option maxHeartbeats 4000000 in
/-- has(k) of an empty list of names -/
theorem q1_64 {d a : Nat} {k : Int32} {Q : Option Value → pm_H → Prop} (ha : a = 4 ∨ a = 10) (q : Q (some (.int 0)) q1_h) : px d 64 0 (lv_args 0 [.ref a, .int k]) [] q1_h Q := by
  have e : px d 64 16 [(0, .ref a), (1, .int k)] [] q1_h Q := px_seg 1 (pc' := 17) (L' := [(0, .ref a), (1, .int k)]) (S' := [.int 0]) (h' := q1_h) (fun _ => rfl) (px_rb rfl rfl (Or.inl rfl) q)
  refine px_seg 2 (pc' := bif pm_c0 .lt k then 16 else 4) (L' := [(0, .ref a), (1, .int k)]) (S' := []) (h' := q1_h) (fun _ => rfl) ?_
  cases hk : pm_c0 .lt k with
  | true => exact e
  | false =>
    refine px_seg 4 (pc' := bif pm_c2 .ge k 0 then 16 else 12) (L' := [(0, .ref a), (1, .int k)]) (S' := []) (h' := q1_h) (fun _ => by rcases ha with rfl | rfl <;> rfl) ?_
    rw [q1_ge hk]
    exact e
set_option maxRecDepth 100000 in
set_option maxHeartbeats 4000000 in
theorem q1_70 {d a : Nat} {k i : Int32} {Q : Option Value → pm_H → Prop} (ha : a = 4 ∨ a = 10) (q : Q (some (.int 0)) q1_h) : px (d + 1) 70 0 (lv_args 0 [.ref a, .int k, .int i]) [] q1_h Q := by
  refine px_seg 2 (pc' := 2) (L' := [(0, .ref a), (1, .int k), (2, .int i)]) (S' := [.int k, .ref a]) (h' := q1_h) (fun _ => rfl) ?_
  refine px_call (mj := 64) (as := [.ref a, .int k]) (S' := []) (by rcases ha with rfl | rfl <;> rfl) rfl (q1_64 ha ?_)
  exact px_seg 2 (pc' := 27) (L' := [(0, .ref a), (1, .int k), (2, .int i)]) (S' := [.int 0]) (h' := q1_h) (fun _ => rfl) (px_rb rfl rfl (Or.inl rfl) q)
set_option maxRecDepth 100000 in
set_option maxHeartbeats 4000000 in
theorem q1_160 {k i f : Int32} (hf : f = 0 ∨ f = 1) : ∃ n, ∀ m, n ≤ m → pt_run pm_swA m 1000 160 [.ref 0, .int k, .int f, .int i] q1_h = some (.inr (1, q1_h)) := by
  refine pt_of ?_
  rcases hf with rfl | rfl
  · refine pu_seg 9 (pc' := 27) (L' := [(4, .ref 4), (0, .ref 0), (1, .int k), (2, .int 0), (3, .int i)]) (S' := [.int i, .int k, .ref 4]) (h' := q1_h) (fun _ => rfl) ?_
    refine pu_call (d := 999) (mj := 70) (as := [.ref 4, .int k, .int i]) (S' := []) rfl rfl rfl (q1_70 (d := 998) (Or.inl rfl) ?_)
    exact pu_go 1 (pc' := 33) (L' := [(4, .ref 4), (0, .ref 0), (1, .int k), (2, .int 0), (3, .int i)]) (S' := []) (h' := q1_h) (fun _ => rfl) rfl rfl
  · refine pu_seg 10 (pc' := 27) (L' := [(4, .ref 10), (0, .ref 0), (1, .int k), (2, .int 1), (3, .int i)]) (S' := [.int i, .int k, .ref 10]) (h' := q1_h) (fun _ => rfl) ?_
    refine pu_call (d := 999) (mj := 70) (as := [.ref 10, .int k, .int i]) (S' := []) rfl rfl rfl (q1_70 (d := 998) (Or.inr rfl) ?_)
    exact pu_go 1 (pc' := 33) (L' := [(4, .ref 10), (0, .ref 0), (1, .int k), (2, .int 1), (3, .int i)]) (S' := []) (h' := q1_h) (fun _ => rfl) rfl rfl
set_option maxRecDepth 100000 in
set_option maxHeartbeats 4000000 in
/-- the model's letter -/
theorem q1_m60 {d : Nat} {k i f : Int32} {Q : Option Value → pm_H → Prop} (hf : f = 0 ∨ f = 1) (q : Q (some (.int 0)) (pg (va_up (fun _ _ => 0) 39 (va_up (fun _ => 0) 0 1)) (fun _ _ => 0) (some 1003) (fun _ => none))) : px (d + 1) 60 0 (lv_args 0 [.ref 39, .int k, .int f, .int i]) [] q1_h Q := by
  have e : px (d + 1) 60 31 [(4, .int 0), (0, .ref 39), (1, .int k), (2, .int f), (3, .int i)] [] q1_h Q := ⟨60, some (.int 0), _, rfl, q⟩
  have e2 : px (d + 1) 60 (bif pm_c0 .lt k then 31 else 21) [(4, .int 0), (0, .ref 39), (1, .int k), (2, .int f), (3, .int i)] [] q1_h Q := by
    cases hk : pm_c0 .lt k with
    | true => exact e
    | false =>
      refine px_seg 3 (pc' := bif pm_c2 .ge k 0 then 31 else 27) (L' := [(4, .int 0), (0, .ref 39), (1, .int k), (2, .int f), (3, .int i)]) (S' := []) (h' := q1_h) (fun _ => rfl) ?_
      rw [q1_ge hk]
      exact e
  rcases hf with rfl | rfl
  · exact px_seg 7 (pc' := bif pm_c0 .lt k then 31 else 21) (L' := [(4, .int 0), (0, .ref 39), (1, .int k), (2, .int 0), (3, .int i)]) (S' := []) (h' := q1_h) (fun _ => rfl) e2
  · exact px_seg 8 (pc' := bif pm_c0 .lt k then 31 else 21) (L' := [(4, .int 0), (0, .ref 39), (1, .int k), (2, .int 1), (3, .int i)]) (S' := []) (h' := q1_h) (fun _ => rfl) e2
set_option maxRecDepth 100000 in
set_option maxHeartbeats 4000000 in
/-- letter -/
theorem q1_c7b {f : Int32} (hf : f = 0 ∨ f = 1) (hx : pm_c0 .eq (xs 2) = decide (f = 0)) : pv xs 4 0 492 q1_4 [.int 3, .ref 900, .int f, .int (xs 1), .ref 0] q1_h := by
  refine pv_scr (i := .iaload) (S' := [.int (xs 3), .int f, .int (xs 1), .ref 0]) rfl rfl ?_
  refine pv_go 1 (pc' := 494) (L' := q1_4) (S' := [.ref 74, .int (xs 3), .int f, .int (xs 1), .ref 0]) (h' := q1_h) rfl rfl rfl rfl (fun _ => rfl) rfl ?_
  refine pv_wr (i := .invokestatic 76) (mi := 180) (as := [.ref 0, .int (xs 1), .int f, .int (xs 3), .ref 74]) (k := 1) (S' := []) (h' := q1_h) rfl rfl rfl (by decide) (pw_thr (k := 1) ⟨20, _, _, _, _, rfl, rfl, rfl, rfl, rfl⟩ rfl rfl rfl (q1_160 hf) rfl rfl) ?_
  refine pv_go 6 (pc' := 505) (L' := (5, .int 1) :: q1_4) (S' := [.int 1, .ref 900, .ref 39]) (h' := q1_h) rfl rfl rfl rfl (fun _ => rfl) rfl ?_
  refine pv_scr (i := .iaload) (S' := [.int (xs 1), .ref 39]) rfl rfl ?_
  refine pv_go 4 (pc' := 511) (L' := (5, .int 1) :: q1_4) (S' := [.int 2, .ref 900, .int (xs 1), .ref 39]) (h' := q1_h) rfl rfl rfl rfl (fun _ => rfl) rfl ?_
  refine pv_scr (i := .iaload) (S' := [.int (xs 2), .int (xs 1), .ref 39]) rfl rfl ?_
  have e : pv xs 4 1 525 ((5, .int 1) :: q1_4) [.int 3, .ref 900, .int f, .int (xs 1), .ref 39] q1_h := by
    refine pv_scr (i := .iaload) (S' := [.int (xs 3), .int f, .int (xs 1), .ref 39]) rfl rfl ?_
    refine pv_pu (i := .invokevirtual 79) rfl rfl rfl rfl ?_
    refine pu_call (d := 999) (mj := 60) (as := [.ref 39, .int (xs 1), .int f, .int (xs 3)]) (S' := []) rfl rfl rfl (q1_m60 (d := 998) hf ?_)
    exact ⟨60, 26, _, [.ref 900, .int 4], _, rfl, q1_e _⟩
  refine pv_pu (i := .ifCond .eq 7) rfl rfl rfl rfl ?_
  refine pu_seg 1 (pc' := bif pm_c0 .eq (xs 2) then 519 else 515) (L' := (5, .int 1) :: q1_4) (S' := [.int (xs 1), .ref 39]) (h' := q1_h) (fun _ => rfl) ?_
  rw [hx]
  rcases hf with rfl | rfl
  · exact pu_go 5 (pc' := 525) (L' := (5, .int 1) :: q1_4) (S' := [.int 3, .ref 900, .int 0, .int (xs 1), .ref 39]) (h' := q1_h) (fun _ => rfl) rfl e
  · exact pu_go 6 (pc' := 525) (L' := (5, .int 1) :: q1_4) (S' := [.int 3, .ref 900, .int 1, .int (xs 1), .ref 39]) (h' := q1_h) (fun _ => rfl) rfl e
set_option maxRecDepth 100000 in
set_option maxHeartbeats 4000000 in
theorem q1_c7 : pu pl_stop 1000 174 39 q1_4 [.int 7] q1_h (fun pc' L' S' h' => pv xs 4 0 pc' L' S' h') := by
  refine pu_go 6 (pc' := 472) (L' := q1_4) (S' := [.int 1, .ref 900, .ref 0]) (h' := q1_h) (fun _ => rfl) rfl ?_
  refine pv_scr (i := .iaload) (S' := [.int (xs 1), .ref 0]) rfl rfl ?_
  refine pv_go 4 (pc' := 478) (L' := q1_4) (S' := [.int 2, .ref 900, .int (xs 1), .ref 0]) (h' := q1_h) rfl rfl rfl rfl (fun _ => rfl) rfl ?_
  refine pv_scr (i := .iaload) (S' := [.int (xs 2), .int (xs 1), .ref 0]) rfl rfl ?_
  refine pv_pu (i := .ifCond .eq 7) rfl rfl rfl rfl ?_
  refine pu_seg 1 (pc' := bif pm_c0 .eq (xs 2) then 486 else 482) (L' := q1_4) (S' := [.int (xs 1), .ref 0]) (h' := q1_h) (fun _ => rfl) ?_
  cases hb : pm_c0 .eq (xs 2) with
  | true => exact pu_go 5 (pc' := 492) (L' := q1_4) (S' := [.int 3, .ref 900, .int 0, .int (xs 1), .ref 0]) (h' := q1_h) (fun _ => rfl) rfl (q1_c7b (Or.inl rfl) (hb.trans rfl))
  | false => exact pu_go 6 (pc' := 492) (L' := q1_4) (S' := [.int 3, .ref 900, .int 1, .int (xs 1), .ref 0]) (h' := q1_h) (fun _ => rfl) rfl (q1_c7b (Or.inr rfl) (hb.trans rfl))
set_option maxRecDepth 100000 in
set_option maxHeartbeats 4000000 in
/-- count -/
theorem q1_c8b {w : Int32} (hC : px 999 161 0 (lv_args 0 [.ref 0, .int (xs 1)]) [] q1_h (fun v h' => v = some (.int w) ∧ h' = q1_h)) (hM : px 999 61 0 (lv_args 0 [.ref 39, .int (xs 1)]) [] q1_h (fun v _ => v = some (.int w))) : pu pl_stop 1000 174 39 q1_4 [.int 8] q1_h (fun pc' L' S' h' => pv xs 4 0 pc' L' S' h') := by
  refine pu_go 6 (pc' := 568) (L' := q1_4) (S' := [.int 1, .ref 900, .ref 0]) (h' := q1_h) (fun _ => rfl) rfl ?_
  refine pv_scr (i := .iaload) (S' := [.int (xs 1), .ref 0]) rfl rfl ?_
  refine pv_pu (i := .invokevirtual 80) rfl rfl rfl rfl ?_
  refine pu_call (d := 999) (mj := 161) (as := [.ref 0, .int (xs 1)]) (S' := []) rfl rfl rfl (px_imp hC ?_)
  rintro v h1 ⟨rfl, rfl⟩
  refine pu_go 5 (pc' := 578) (L' := q1_4) (S' := [.int 1, .ref 900, .ref 39, .int w]) (h' := q1_h) (fun _ => rfl) rfl ?_
  refine pv_scr (i := .iaload) (S' := [.int (xs 1), .ref 39, .int w]) rfl rfl ?_
  refine pv_pu (i := .invokevirtual 83) rfl rfl rfl rfl ?_
  refine pu_call (d := 999) (mj := 61) (as := [.ref 39, .int (xs 1)]) (S' := [.int w]) rfl rfl rfl (px_imp hM ?_)
  rintro v h1 rfl
  refine pu_seg 1 (pc' := bif pm_c2 .eq w w then 587 else 585) (L' := q1_4) (S' := []) (h' := h1) (fun _ => rfl) ?_
  rw [show pm_c2 .eq w w = true from decide_eq_true rfl]
  exact pu_go 4 (pc' := 26) (L' := (4, .int 4) :: q1_0) (S' := [.ref 900, .int 4]) (h' := h1) (fun _ => rfl) rfl (q1_e _)
set_option maxRecDepth 100000 in
set_option maxHeartbeats 4000000 in
theorem q1_sw {mi pc t : Nat} {dd : Int} {lo hi : Int} {offs : Array Int} {L : pm_L} {S : List Value} {h : pm_H} {v : Int32} (hf : pm_fd (pm_code mi) pc = some (.tableswitch dd lo hi offs)) (hv : v.toInt < lo ∨ hi < v.toInt) (ht : pm_jmp pc dd = some t) : pm_step pm_swA mi pc L (.int v :: S) h = some (.inl (t, L, S, h)) := by
  unfold pm_step
  rw [hf]
  simp only [pm_push, pm_ari, pm_br, if_pos hv, ht, Option.map_some]
set_option maxRecDepth 100000 in
set_option maxHeartbeats 4000000 in
theorem q1_c8 : pu pl_stop 1000 174 39 q1_4 [.int 8] q1_h (fun pc' L' S' h' => pv xs 4 0 pc' L' S' h') := by
  by_cases hv : (xs 1).toInt < 0 ∨ 10 < (xs 1).toInt
  · refine q1_c8b (w := -1) ?_ ?_
    · refine px_seg 1 (pc' := 1) (L' := [(0, .ref 0), (1, .int (xs 1))]) (S' := [.int (xs 1)]) (h' := q1_h) (fun _ => rfl) ?_
      refine px_st (q1_sw (t := 192) rfl hv rfl) ?_
      exact ⟨4, some (.int (-1)), q1_h, rfl, rfl, rfl⟩
    · refine px_seg 4 (pc' := 6) (L' := [(0, .ref 39), (1, .int (xs 1))]) (S' := [.int (xs 1)]) (fun _ => rfl) ?_
      refine px_st (q1_sw (t := 163) rfl hv rfl) ?_
      exact ⟨4, some (.int (-1)), _, rfl, rfl⟩
  · have h1 : ¬ xs 1 < 0 := fun z => hv (Or.inl (by rw [Int32.lt_iff_toInt_lt] at z; simpa using z))
    have h2 : xs 1 ≤ 10 := by
      rw [Int32.le_iff_toInt_le]
      have e1 : (10 : Int32).toInt = 10 := by decide
      omega
    obtain ⟨j, hj, e⟩ := nI_of2 (n := 10) (M := 10) (by decide) h1 h2
    have key : ∀ w, px 999 161 0 (lv_args 0 [.ref 0, .int (nI j)]) [] q1_h (fun v h' => v = some (.int w) ∧ h' = q1_h) → px 999 61 0 (lv_args 0 [.ref 39, .int (nI j)]) [] q1_h (fun v _ => v = some (.int w)) → pu pl_stop 1000 174 39 q1_4 [.int 8] q1_h (fun pc' L' S' h' => pv xs 4 0 pc' L' S' h') := fun w a b => q1_c8b (w := w) (by rw [e]; exact a) (by rw [e]; exact b)
    match j, hj, key with
    | 0, _, key => exact key 0 ⟨60, some (.int 0), q1_h, rfl, rfl, rfl⟩ ⟨60, some (.int 0), _, rfl, rfl⟩
    | 1, _, key => exact key 0 ⟨60, some (.int 0), q1_h, rfl, rfl, rfl⟩ ⟨60, some (.int 0), _, rfl, rfl⟩
    | 2, _, key => exact key 0 ⟨60, some (.int 0), q1_h, rfl, rfl, rfl⟩ ⟨60, some (.int 0), _, rfl, rfl⟩
    | 3, _, key => exact key 0 ⟨60, some (.int 0), q1_h, rfl, rfl, rfl⟩ ⟨60, some (.int 0), _, rfl, rfl⟩
    | 4, _, key => exact key 0 ⟨60, some (.int 0), q1_h, rfl, rfl, rfl⟩ ⟨60, some (.int 0), _, rfl, rfl⟩
    | 5, _, key => exact key 0 ⟨60, some (.int 0), q1_h, rfl, rfl, rfl⟩ ⟨60, some (.int 0), _, rfl, rfl⟩
    | 6, _, key => exact key 0 ⟨60, some (.int 0), q1_h, rfl, rfl, rfl⟩ ⟨60, some (.int 0), _, rfl, rfl⟩
    | 7, _, key => exact key (-1) ⟨60, some (.int (-1)), q1_h, rfl, rfl, rfl⟩ ⟨60, some (.int (-1)), _, rfl, rfl⟩
    | 8, _, key => exact key (-1) ⟨60, some (.int (-1)), q1_h, rfl, rfl, rfl⟩ ⟨60, some (.int (-1)), _, rfl, rfl⟩
    | 9, _, key => exact key (-1) ⟨60, some (.int (-1)), q1_h, rfl, rfl, rfl⟩ ⟨60, some (.int (-1)), _, rfl, rfl⟩
    | 10, _, key => exact key 0 ⟨60, some (.int 0), q1_h, rfl, rfl, rfl⟩ ⟨60, some (.int 0), _, rfl, rfl⟩
    | n + 11, hj, _ => exact absurd hj (by omega)
set_option maxRecDepth 100000 in
set_option maxHeartbeats 4000000 in
/-- one call -/
theorem q1_call : pu pl_stop 1000 174 39 q1_4 [.int (xs 0 &&& (Int8.ofInt 15).toInt32)] q1_h (fun pc' L' S' h' => pv xs 4 0 pc' L' S' h') := by
  generalize xs 0 &&& (Int8.ofInt 15).toInt32 = v
  by_cases hv : v.toInt < 0 ∨ 8 < v.toInt
  · refine pu_st rfl (q1_sw (t := 587) rfl hv rfl) ?_
    exact pu_go 4 (pc' := 26) (L' := (4, .int 4) :: q1_0) (S' := [.ref 900, .int 4]) (h' := q1_h) (fun _ => rfl) rfl (q1_e _)
  · have h1 : ¬ v < 0 := fun z => hv (Or.inl (by rw [Int32.lt_iff_toInt_lt] at z; simpa using z))
    have h2 : v ≤ 8 := by
      rw [Int32.le_iff_toInt_le]
      have e1 : (8 : Int32).toInt = 8 := by decide
      omega
    obtain ⟨j, hj, rfl⟩ := nI_of2 (n := 8) (M := 8) (by decide) h1 h2
    match j, hj with
    | 0, _ => exact q1_c0
    | 1, _ => exact q1_c1
    | 2, _ => exact q1_c2
    | 3, _ => exact q1_c3
    | 4, _ => exact q1_c4
    | 5, _ => exact q1_c5
    | 6, _ => exact q1_c6
    | 7, _ => exact q1_c7
    | 8, _ => exact q1_c8
    | n + 9, hj => exact absurd hj (by omega)
end P1D
end
section
set_option maxRecDepth 100000 in
set_option maxHeartbeats 4000000 in
theorem q1_all : pl_All := by
  intro xs Ln hLn
  have key : pv xs Ln 0 20 q1_0 [] pm_hA := by
    rw [pg_A]
    refine pv_go 4 (pc' := 26) (L' := q1_4) (S' := [.ref 900, .int 0]) (h' := q1_h) rfl rfl rfl rfl (fun _ => rfl) rfl ?_
    refine pv_scr (i := .arraylength) (S' := [.int (Int32.ofNat Ln), .int 0]) rfl rfl ?_
    have e : ∀ n, n < 4 → pv xs n 0 27 q1_4 [.int (Int32.ofNat n), .int 0] q1_h := fun n hn => by
      match n, hn with
      | 0, _ => exact pv_go 4 (pc' := 594) (L' := q1_4) (S' := [.int 1]) (h' := q1_h) rfl rfl rfl rfl (fun _ => rfl) rfl (pv_ret rfl rfl)
      | 1, _ => exact pv_go 4 (pc' := 594) (L' := q1_4) (S' := [.int 1]) (h' := q1_h) rfl rfl rfl rfl (fun _ => rfl) rfl (pv_ret rfl rfl)
      | 2, _ => exact pv_go 4 (pc' := 594) (L' := q1_4) (S' := [.int 1]) (h' := q1_h) rfl rfl rfl rfl (fun _ => rfl) rfl (pv_ret rfl rfl)
      | 3, _ => exact pv_go 4 (pc' := 594) (L' := q1_4) (S' := [.int 1]) (h' := q1_h) rfl rfl rfl rfl (fun _ => rfl) rfl (pv_ret rfl rfl)
      | n + 4, hn => exact absurd hn (by omega)
    rcases Nat.lt_or_ge Ln 4 with h4 | h4
    · exact e Ln h4
    · have h5 : Ln = 4 := by omega
      subst h5
      refine pv_go 5 (pc' := 35) (L' := q1_4) (S' := [.int 0, .ref 900]) (h' := q1_h) rfl rfl rfl rfl (fun _ => rfl) rfl ?_
      refine pv_scr (i := .iaload) (S' := [.int (xs 0)]) rfl rfl ?_
      refine pv_pu (i := .bipush 15) rfl rfl rfl rfl ?_
      exact pu_seg 2 (pc' := 39) (L' := q1_4) (S' := [.int (xs 0 &&& (Int8.ofInt 15).toInt32)]) (h' := q1_h) (fun _ => rfl) q1_call
  obtain ⟨n, hn⟩ := key
  exact ⟨n, hn n (Nat.le_refl n)⟩
set_option maxRecDepth 100000 in
set_option maxHeartbeats 4000000 in
theorem i_vc : Claimed_1_1 ∧ Claimed_1_2 := i_vc_open q1_all
end
