section
-- ===== PART A: goes FIRST, ahead of the names: the tables' words, and 'selects' of the private methods out of them =====
/-- a private method of a class that the tables say can be made, by its rows of tables_1 -/
def lw_okq (q : MethodName × Nat) : Prop := (q.1.cls ≠ "java/lang/invoke/MethodHandle" ∧ q.1.cls ≠ "java/lang/invoke/VarHandle") ∧ Cond.instantiable q.1.cls q.2 ∈ tables_1 ∧ Cond.privateMethod q.1 ∈ tables_1 ∧ Cond.instanceMethod q.1 ∈ tables_1
theorem lw_p0 : lw_okq (⟨"QuietChecker$Tokens", "skipBlanks", "()V"⟩, 9) := ⟨⟨by decide +kernel, by decide +kernel⟩, List.mem_of_getElem? (i := 148) (by decide +kernel), List.mem_of_getElem? (i := 348) (by decide +kernel), List.mem_of_getElem? (i := 349) (by decide +kernel)⟩
theorem lw_p1 : lw_okq (⟨"QuietChecker$Tokens", "scanToken", "()LQuietChecker$Kind;"⟩, 9) := ⟨⟨by decide +kernel, by decide +kernel⟩, List.mem_of_getElem? (i := 148) (by decide +kernel), List.mem_of_getElem? (i := 352) (by decide +kernel), List.mem_of_getElem? (i := 353) (by decide +kernel)⟩
theorem lw_p2 : lw_okq (⟨"QuietChecker$Tokens", "scanNumber", "()LQuietChecker$Kind;"⟩, 9) := ⟨⟨by decide +kernel, by decide +kernel⟩, List.mem_of_getElem? (i := 148) (by decide +kernel), List.mem_of_getElem? (i := 359) (by decide +kernel), List.mem_of_getElem? (i := 360) (by decide +kernel)⟩
theorem lw_p3 : lw_okq (⟨"QuietChecker$Tokens", "scanWord", "()LQuietChecker$Kind;"⟩, 9) := ⟨⟨by decide +kernel, by decide +kernel⟩, List.mem_of_getElem? (i := 148) (by decide +kernel), List.mem_of_getElem? (i := 372) (by decide +kernel), List.mem_of_getElem? (i := 373) (by decide +kernel)⟩
theorem lw_p4 : lw_okq (⟨"QuietChecker$Tokens", "isAt", "(ILjava/lang/String;)Z"⟩, 9) := ⟨⟨by decide +kernel, by decide +kernel⟩, List.mem_of_getElem? (i := 148) (by decide +kernel), List.mem_of_getElem? (i := 388) (by decide +kernel), List.mem_of_getElem? (i := 389) (by decide +kernel)⟩
theorem lw_p5 : lw_okq (⟨"QuietChecker$Tokens", "scanSign", "()LQuietChecker$Kind;"⟩, 9) := ⟨⟨by decide +kernel, by decide +kernel⟩, List.mem_of_getElem? (i := 148) (by decide +kernel), List.mem_of_getElem? (i := 432) (by decide +kernel), List.mem_of_getElem? (i := 433) (by decide +kernel)⟩
theorem lw_p6 : lw_okq (⟨"QuietChecker$Tokens", "add", "(LQuietChecker$Kind;I)V"⟩, 9) := ⟨⟨by decide +kernel, by decide +kernel⟩, List.mem_of_getElem? (i := 148) (by decide +kernel), List.mem_of_getElem? (i := 436) (by decide +kernel), List.mem_of_getElem? (i := 437) (by decide +kernel)⟩
theorem lw_p7 : lw_okq (⟨"QuietChecker$Parser", "goTo", "(I)V"⟩, 11) := ⟨⟨by decide +kernel, by decide +kernel⟩, List.mem_of_getElem? (i := 142) (by decide +kernel), List.mem_of_getElem? (i := 441) (by decide +kernel), List.mem_of_getElem? (i := 442) (by decide +kernel)⟩
theorem lw_p8 : lw_okq (⟨"QuietChecker$Parser", "beginFunction", "()V"⟩, 11) := ⟨⟨by decide +kernel, by decide +kernel⟩, List.mem_of_getElem? (i := 142) (by decide +kernel), List.mem_of_getElem? (i := 460) (by decide +kernel), List.mem_of_getElem? (i := 461) (by decide +kernel)⟩
theorem lw_p9 : lw_okq (⟨"QuietChecker$Parser", "advance", "()V"⟩, 11) := ⟨⟨by decide +kernel, by decide +kernel⟩, List.mem_of_getElem? (i := 142) (by decide +kernel), List.mem_of_getElem? (i := 464) (by decide +kernel), List.mem_of_getElem? (i := 465) (by decide +kernel)⟩
theorem lw_p10 : lw_okq (⟨"QuietChecker$Parser", "label", "()Z"⟩, 11) := ⟨⟨by decide +kernel, by decide +kernel⟩, List.mem_of_getElem? (i := 142) (by decide +kernel), List.mem_of_getElem? (i := 468) (by decide +kernel), List.mem_of_getElem? (i := 469) (by decide +kernel)⟩
theorem lw_p11 : lw_okq (⟨"QuietChecker$Parser", "expect", "(LQuietChecker$Kind;)V"⟩, 11) := ⟨⟨by decide +kernel, by decide +kernel⟩, List.mem_of_getElem? (i := 142) (by decide +kernel), List.mem_of_getElem? (i := 474) (by decide +kernel), List.mem_of_getElem? (i := 475) (by decide +kernel)⟩
theorem lw_p12 : lw_okq (⟨"QuietChecker$Parser", "fail", "(II)V"⟩, 11) := ⟨⟨by decide +kernel, by decide +kernel⟩, List.mem_of_getElem? (i := 142) (by decide +kernel), List.mem_of_getElem? (i := 478) (by decide +kernel), List.mem_of_getElem? (i := 479) (by decide +kernel)⟩
theorem lw_p13 : lw_okq (⟨"QuietChecker$Parser", "newName", "(LQuietChecker$Names;)I"⟩, 11) := ⟨⟨by decide +kernel, by decide +kernel⟩, List.mem_of_getElem? (i := 142) (by decide +kernel), List.mem_of_getElem? (i := 482) (by decide +kernel), List.mem_of_getElem? (i := 483) (by decide +kernel)⟩
theorem lw_p14 : lw_okq (⟨"QuietChecker$Names", "sameLetters", "(III)Z"⟩, 5) := ⟨⟨by decide +kernel, by decide +kernel⟩, List.mem_of_getElem? (i := 43) (by decide +kernel), List.mem_of_getElem? (i := 491) (by decide +kernel), List.mem_of_getElem? (i := 492) (by decide +kernel)⟩
theorem lw_p15 : lw_okq (⟨"QuietChecker$Parser", "parameters", "()V"⟩, 11) := ⟨⟨by decide +kernel, by decide +kernel⟩, List.mem_of_getElem? (i := 142) (by decide +kernel), List.mem_of_getElem? (i := 500) (by decide +kernel), List.mem_of_getElem? (i := 501) (by decide +kernel)⟩
def lw_privs_1 : List (MethodName × Nat) := [(⟨"QuietChecker$Tokens", "skipBlanks", "()V"⟩, 9), (⟨"QuietChecker$Tokens", "scanToken", "()LQuietChecker$Kind;"⟩, 9), (⟨"QuietChecker$Tokens", "scanNumber", "()LQuietChecker$Kind;"⟩, 9), (⟨"QuietChecker$Tokens", "scanWord", "()LQuietChecker$Kind;"⟩, 9), (⟨"QuietChecker$Tokens", "isAt", "(ILjava/lang/String;)Z"⟩, 9), (⟨"QuietChecker$Tokens", "scanSign", "()LQuietChecker$Kind;"⟩, 9), (⟨"QuietChecker$Tokens", "add", "(LQuietChecker$Kind;I)V"⟩, 9), (⟨"QuietChecker$Parser", "goTo", "(I)V"⟩, 11), (⟨"QuietChecker$Parser", "beginFunction", "()V"⟩, 11), (⟨"QuietChecker$Parser", "advance", "()V"⟩, 11), (⟨"QuietChecker$Parser", "label", "()Z"⟩, 11), (⟨"QuietChecker$Parser", "expect", "(LQuietChecker$Kind;)V"⟩, 11), (⟨"QuietChecker$Parser", "fail", "(II)V"⟩, 11), (⟨"QuietChecker$Parser", "newName", "(LQuietChecker$Names;)I"⟩, 11), (⟨"QuietChecker$Names", "sameLetters", "(III)Z"⟩, 5), (⟨"QuietChecker$Parser", "parameters", "()V"⟩, 11)]
theorem lw_r1 : ∀ q ∈ lw_privs_1, lw_okq q := List.forall_mem_cons.mpr ⟨lw_p0, List.forall_mem_cons.mpr ⟨lw_p1, List.forall_mem_cons.mpr ⟨lw_p2, List.forall_mem_cons.mpr ⟨lw_p3, List.forall_mem_cons.mpr ⟨lw_p4, List.forall_mem_cons.mpr ⟨lw_p5, List.forall_mem_cons.mpr ⟨lw_p6, List.forall_mem_cons.mpr ⟨lw_p7, List.forall_mem_cons.mpr ⟨lw_p8, List.forall_mem_cons.mpr ⟨lw_p9, List.forall_mem_cons.mpr ⟨lw_p10, List.forall_mem_cons.mpr ⟨lw_p11, List.forall_mem_cons.mpr ⟨lw_p12, List.forall_mem_cons.mpr ⟨lw_p13, List.forall_mem_cons.mpr ⟨lw_p14, List.forall_mem_cons.mpr ⟨lw_p15, fun _ h => absurd h List.not_mem_nil⟩⟩⟩⟩⟩⟩⟩⟩⟩⟩⟩⟩⟩⟩⟩⟩
theorem lw_p16 : lw_okq (⟨"QuietChecker$Parser", "local", "()V"⟩, 11) := ⟨⟨by decide +kernel, by decide +kernel⟩, List.mem_of_getElem? (i := 142) (by decide +kernel), List.mem_of_getElem? (i := 508) (by decide +kernel), List.mem_of_getElem? (i := 509) (by decide +kernel)⟩
theorem lw_p17 : lw_okq (⟨"QuietChecker$Parser", "statements", "(I)V"⟩, 11) := ⟨⟨by decide +kernel, by decide +kernel⟩, List.mem_of_getElem? (i := 142) (by decide +kernel), List.mem_of_getElem? (i := 537) (by decide +kernel), List.mem_of_getElem? (i := 538) (by decide +kernel)⟩
theorem lw_p18 : lw_okq (⟨"QuietChecker$Parser", "statement", "(I)V"⟩, 11) := ⟨⟨by decide +kernel, by decide +kernel⟩, List.mem_of_getElem? (i := 142) (by decide +kernel), List.mem_of_getElem? (i := 552) (by decide +kernel), List.mem_of_getElem? (i := 553) (by decide +kernel)⟩
theorem lw_p19 : lw_okq (⟨"QuietChecker$Parser", "assignment", "(I)V"⟩, 11) := ⟨⟨by decide +kernel, by decide +kernel⟩, List.mem_of_getElem? (i := 142) (by decide +kernel), List.mem_of_getElem? (i := 556) (by decide +kernel), List.mem_of_getElem? (i := 557) (by decide +kernel)⟩
theorem lw_p20 : lw_okq (⟨"QuietChecker$Parser", "known", "(IZ)I"⟩, 11) := ⟨⟨by decide +kernel, by decide +kernel⟩, List.mem_of_getElem? (i := 142) (by decide +kernel), List.mem_of_getElem? (i := 562) (by decide +kernel), List.mem_of_getElem? (i := 563) (by decide +kernel)⟩
theorem lw_p21 : lw_okq (⟨"QuietChecker$Parser", "mayOpen", "(II)Z"⟩, 11) := ⟨⟨by decide +kernel, by decide +kernel⟩, List.mem_of_getElem? (i := 142) (by decide +kernel), List.mem_of_getElem? (i := 571) (by decide +kernel), List.mem_of_getElem? (i := 572) (by decide +kernel)⟩
theorem lw_p22 : lw_okq (⟨"QuietChecker$Parser", "index", "(I)V"⟩, 11) := ⟨⟨by decide +kernel, by decide +kernel⟩, List.mem_of_getElem? (i := 142) (by decide +kernel), List.mem_of_getElem? (i := 579) (by decide +kernel), List.mem_of_getElem? (i := 580) (by decide +kernel)⟩
theorem lw_p23 : lw_okq (⟨"QuietChecker$Parser", "expression", "(I)Z"⟩, 11) := ⟨⟨by decide +kernel, by decide +kernel⟩, List.mem_of_getElem? (i := 142) (by decide +kernel), List.mem_of_getElem? (i := 583) (by decide +kernel), List.mem_of_getElem? (i := 584) (by decide +kernel)⟩
theorem lw_p24 : lw_okq (⟨"QuietChecker$Parser", "binary", "(II)Z"⟩, 11) := ⟨⟨by decide +kernel, by decide +kernel⟩, List.mem_of_getElem? (i := 142) (by decide +kernel), List.mem_of_getElem? (i := 587) (by decide +kernel), List.mem_of_getElem? (i := 588) (by decide +kernel)⟩
theorem lw_p25 : lw_okq (⟨"QuietChecker$Parser", "prefixed", "(I)Z"⟩, 11) := ⟨⟨by decide +kernel, by decide +kernel⟩, List.mem_of_getElem? (i := 142) (by decide +kernel), List.mem_of_getElem? (i := 591) (by decide +kernel), List.mem_of_getElem? (i := 592) (by decide +kernel)⟩
theorem lw_p26 : lw_okq (⟨"QuietChecker$Parser", "operand", "(I)Z"⟩, 11) := ⟨⟨by decide +kernel, by decide +kernel⟩, List.mem_of_getElem? (i := 142) (by decide +kernel), List.mem_of_getElem? (i := 605) (by decide +kernel), List.mem_of_getElem? (i := 606) (by decide +kernel)⟩
theorem lw_p27 : lw_okq (⟨"QuietChecker$Parser", "named", "(I)Z"⟩, 11) := ⟨⟨by decide +kernel, by decide +kernel⟩, List.mem_of_getElem? (i := 142) (by decide +kernel), List.mem_of_getElem? (i := 609) (by decide +kernel), List.mem_of_getElem? (i := 610) (by decide +kernel)⟩
theorem lw_p28 : lw_okq (⟨"QuietChecker$Parser", "call", "(II)Z"⟩, 11) := ⟨⟨by decide +kernel, by decide +kernel⟩, List.mem_of_getElem? (i := 142) (by decide +kernel), List.mem_of_getElem? (i := 613) (by decide +kernel), List.mem_of_getElem? (i := 614) (by decide +kernel)⟩
theorem lw_p29 : lw_okq (⟨"QuietChecker$Parser", "arguments", "(II)I"⟩, 11) := ⟨⟨by decide +kernel, by decide +kernel⟩, List.mem_of_getElem? (i := 142) (by decide +kernel), List.mem_of_getElem? (i := 617) (by decide +kernel), List.mem_of_getElem? (i := 618) (by decide +kernel)⟩
theorem lw_p30 : lw_okq (⟨"QuietChecker$Parser", "argument", "(III)V"⟩, 11) := ⟨⟨by decide +kernel, by decide +kernel⟩, List.mem_of_getElem? (i := 142) (by decide +kernel), List.mem_of_getElem? (i := 621) (by decide +kernel), List.mem_of_getElem? (i := 622) (by decide +kernel)⟩
theorem lw_p31 : lw_okq (⟨"QuietChecker$Parser", "tellLeak", "(II)V"⟩, 11) := ⟨⟨by decide +kernel, by decide +kernel⟩, List.mem_of_getElem? (i := 142) (by decide +kernel), List.mem_of_getElem? (i := 633) (by decide +kernel), List.mem_of_getElem? (i := 634) (by decide +kernel)⟩
def lw_privs_2 : List (MethodName × Nat) := [(⟨"QuietChecker$Parser", "local", "()V"⟩, 11), (⟨"QuietChecker$Parser", "statements", "(I)V"⟩, 11), (⟨"QuietChecker$Parser", "statement", "(I)V"⟩, 11), (⟨"QuietChecker$Parser", "assignment", "(I)V"⟩, 11), (⟨"QuietChecker$Parser", "known", "(IZ)I"⟩, 11), (⟨"QuietChecker$Parser", "mayOpen", "(II)Z"⟩, 11), (⟨"QuietChecker$Parser", "index", "(I)V"⟩, 11), (⟨"QuietChecker$Parser", "expression", "(I)Z"⟩, 11), (⟨"QuietChecker$Parser", "binary", "(II)Z"⟩, 11), (⟨"QuietChecker$Parser", "prefixed", "(I)Z"⟩, 11), (⟨"QuietChecker$Parser", "operand", "(I)Z"⟩, 11), (⟨"QuietChecker$Parser", "named", "(I)Z"⟩, 11), (⟨"QuietChecker$Parser", "call", "(II)Z"⟩, 11), (⟨"QuietChecker$Parser", "arguments", "(II)I"⟩, 11), (⟨"QuietChecker$Parser", "argument", "(III)V"⟩, 11), (⟨"QuietChecker$Parser", "tellLeak", "(II)V"⟩, 11)]
theorem lw_r2 : ∀ q ∈ lw_privs_2, lw_okq q := List.forall_mem_cons.mpr ⟨lw_p16, List.forall_mem_cons.mpr ⟨lw_p17, List.forall_mem_cons.mpr ⟨lw_p18, List.forall_mem_cons.mpr ⟨lw_p19, List.forall_mem_cons.mpr ⟨lw_p20, List.forall_mem_cons.mpr ⟨lw_p21, List.forall_mem_cons.mpr ⟨lw_p22, List.forall_mem_cons.mpr ⟨lw_p23, List.forall_mem_cons.mpr ⟨lw_p24, List.forall_mem_cons.mpr ⟨lw_p25, List.forall_mem_cons.mpr ⟨lw_p26, List.forall_mem_cons.mpr ⟨lw_p27, List.forall_mem_cons.mpr ⟨lw_p28, List.forall_mem_cons.mpr ⟨lw_p29, List.forall_mem_cons.mpr ⟨lw_p30, List.forall_mem_cons.mpr ⟨lw_p31, fun _ h => absurd h List.not_mem_nil⟩⟩⟩⟩⟩⟩⟩⟩⟩⟩⟩⟩⟩⟩⟩⟩
theorem lw_p32 : lw_okq (⟨"QuietChecker$Parser", "cellOfVariable", "(I)I"⟩, 11) := ⟨⟨by decide +kernel, by decide +kernel⟩, List.mem_of_getElem? (i := 142) (by decide +kernel), List.mem_of_getElem? (i := 639) (by decide +kernel), List.mem_of_getElem? (i := 640) (by decide +kernel)⟩
theorem lw_p33 : lw_okq (⟨"QuietChecker$Parser", "isSecret", "(I)Z"⟩, 11) := ⟨⟨by decide +kernel, by decide +kernel⟩, List.mem_of_getElem? (i := 142) (by decide +kernel), List.mem_of_getElem? (i := 649) (by decide +kernel), List.mem_of_getElem? (i := 650) (by decide +kernel)⟩
theorem lw_p34 : lw_okq (⟨"QuietChecker$Parser", "branch", "(II)V"⟩, 11) := ⟨⟨by decide +kernel, by decide +kernel⟩, List.mem_of_getElem? (i := 142) (by decide +kernel), List.mem_of_getElem? (i := 667) (by decide +kernel), List.mem_of_getElem? (i := 668) (by decide +kernel)⟩
theorem lw_p35 : lw_okq (⟨"QuietChecker$Parser", "condition", "(II)V"⟩, 11) := ⟨⟨by decide +kernel, by decide +kernel⟩, List.mem_of_getElem? (i := 142) (by decide +kernel), List.mem_of_getElem? (i := 671) (by decide +kernel), List.mem_of_getElem? (i := 672) (by decide +kernel)⟩
theorem lw_p36 : lw_okq (⟨"QuietChecker$Parser", "block", "(I)V"⟩, 11) := ⟨⟨by decide +kernel, by decide +kernel⟩, List.mem_of_getElem? (i := 142) (by decide +kernel), List.mem_of_getElem? (i := 675) (by decide +kernel), List.mem_of_getElem? (i := 676) (by decide +kernel)⟩
theorem lw_p37 : lw_okq (⟨"QuietChecker$Parser", "repetition", "(II)V"⟩, 11) := ⟨⟨by decide +kernel, by decide +kernel⟩, List.mem_of_getElem? (i := 142) (by decide +kernel), List.mem_of_getElem? (i := 688) (by decide +kernel), List.mem_of_getElem? (i := 689) (by decide +kernel)⟩
theorem lw_p38 : lw_okq (⟨"QuietChecker$Parser", "endFunction", "()V"⟩, 11) := ⟨⟨by decide +kernel, by decide +kernel⟩, List.mem_of_getElem? (i := 142) (by decide +kernel), List.mem_of_getElem? (i := 692) (by decide +kernel), List.mem_of_getElem? (i := 693) (by decide +kernel)⟩
theorem lw_p39 : lw_okq (⟨"QuietChecker$Parser", "declaration", "()V"⟩, 11) := ⟨⟨by decide +kernel, by decide +kernel⟩, List.mem_of_getElem? (i := 142) (by decide +kernel), List.mem_of_getElem? (i := 698) (by decide +kernel), List.mem_of_getElem? (i := 699) (by decide +kernel)⟩
theorem lw_p40 : lw_okq (⟨"QuietChecker$Parser", "arraySize", "()I"⟩, 11) := ⟨⟨by decide +kernel, by decide +kernel⟩, List.mem_of_getElem? (i := 142) (by decide +kernel), List.mem_of_getElem? (i := 702) (by decide +kernel), List.mem_of_getElem? (i := 703) (by decide +kernel)⟩
theorem lw_p41 : lw_okq (⟨"java/lang/Throwable", "fillInStackTrace", "(I)Ljava/lang/Throwable;"⟩, 6) := ⟨⟨by decide +kernel, by decide +kernel⟩, List.mem_of_getElem? (i := 767) (by decide +kernel), List.mem_of_getElem? (i := 765) (by decide +kernel), List.mem_of_getElem? (i := 766) (by decide +kernel)⟩
theorem lw_p42 : lw_okq (⟨"QuietChecker$Machine", "perform", "(II)V"⟩, 10) := ⟨⟨by decide +kernel, by decide +kernel⟩, List.mem_of_getElem? (i := 227) (by decide +kernel), List.mem_of_getElem? (i := 855) (by decide +kernel), List.mem_of_getElem? (i := 856) (by decide +kernel)⟩
theorem lw_p43 : lw_okq (⟨"QuietChecker$Machine", "step", "()V"⟩, 10) := ⟨⟨by decide +kernel, by decide +kernel⟩, List.mem_of_getElem? (i := 227) (by decide +kernel), List.mem_of_getElem? (i := 859) (by decide +kernel), List.mem_of_getElem? (i := 860) (by decide +kernel)⟩
theorem lw_p44 : lw_okq (⟨"QuietChecker$Machine", "push", "(I)V"⟩, 10) := ⟨⟨by decide +kernel, by decide +kernel⟩, List.mem_of_getElem? (i := 227) (by decide +kernel), List.mem_of_getElem? (i := 863) (by decide +kernel), List.mem_of_getElem? (i := 864) (by decide +kernel)⟩
theorem lw_p45 : lw_okq (⟨"QuietChecker$Machine", "held", "(I)I"⟩, 10) := ⟨⟨by decide +kernel, by decide +kernel⟩, List.mem_of_getElem? (i := 227) (by decide +kernel), List.mem_of_getElem? (i := 867) (by decide +kernel), List.mem_of_getElem? (i := 868) (by decide +kernel)⟩
theorem lw_p46 : lw_okq (⟨"QuietChecker$Machine", "pop", "()I"⟩, 10) := ⟨⟨by decide +kernel, by decide +kernel⟩, List.mem_of_getElem? (i := 227) (by decide +kernel), List.mem_of_getElem? (i := 871) (by decide +kernel), List.mem_of_getElem? (i := 872) (by decide +kernel)⟩
theorem lw_p47 : lw_okq (⟨"QuietChecker$Machine", "hold", "(II)V"⟩, 10) := ⟨⟨by decide +kernel, by decide +kernel⟩, List.mem_of_getElem? (i := 227) (by decide +kernel), List.mem_of_getElem? (i := 875) (by decide +kernel), List.mem_of_getElem? (i := 876) (by decide +kernel)⟩
def lw_privs_3 : List (MethodName × Nat) := [(⟨"QuietChecker$Parser", "cellOfVariable", "(I)I"⟩, 11), (⟨"QuietChecker$Parser", "isSecret", "(I)Z"⟩, 11), (⟨"QuietChecker$Parser", "branch", "(II)V"⟩, 11), (⟨"QuietChecker$Parser", "condition", "(II)V"⟩, 11), (⟨"QuietChecker$Parser", "block", "(I)V"⟩, 11), (⟨"QuietChecker$Parser", "repetition", "(II)V"⟩, 11), (⟨"QuietChecker$Parser", "endFunction", "()V"⟩, 11), (⟨"QuietChecker$Parser", "declaration", "()V"⟩, 11), (⟨"QuietChecker$Parser", "arraySize", "()I"⟩, 11), (⟨"java/lang/Throwable", "fillInStackTrace", "(I)Ljava/lang/Throwable;"⟩, 6), (⟨"QuietChecker$Machine", "perform", "(II)V"⟩, 10), (⟨"QuietChecker$Machine", "step", "()V"⟩, 10), (⟨"QuietChecker$Machine", "push", "(I)V"⟩, 10), (⟨"QuietChecker$Machine", "held", "(I)I"⟩, 10), (⟨"QuietChecker$Machine", "pop", "()I"⟩, 10), (⟨"QuietChecker$Machine", "hold", "(II)V"⟩, 10)]
theorem lw_r3 : ∀ q ∈ lw_privs_3, lw_okq q := List.forall_mem_cons.mpr ⟨lw_p32, List.forall_mem_cons.mpr ⟨lw_p33, List.forall_mem_cons.mpr ⟨lw_p34, List.forall_mem_cons.mpr ⟨lw_p35, List.forall_mem_cons.mpr ⟨lw_p36, List.forall_mem_cons.mpr ⟨lw_p37, List.forall_mem_cons.mpr ⟨lw_p38, List.forall_mem_cons.mpr ⟨lw_p39, List.forall_mem_cons.mpr ⟨lw_p40, List.forall_mem_cons.mpr ⟨lw_p41, List.forall_mem_cons.mpr ⟨lw_p42, List.forall_mem_cons.mpr ⟨lw_p43, List.forall_mem_cons.mpr ⟨lw_p44, List.forall_mem_cons.mpr ⟨lw_p45, List.forall_mem_cons.mpr ⟨lw_p46, List.forall_mem_cons.mpr ⟨lw_p47, fun _ h => absurd h List.not_mem_nil⟩⟩⟩⟩⟩⟩⟩⟩⟩⟩⟩⟩⟩⟩⟩⟩
theorem lw_p48 : lw_okq (⟨"QuietChecker$Machine", "readCell", "(I)V"⟩, 10) := ⟨⟨by decide +kernel, by decide +kernel⟩, List.mem_of_getElem? (i := 227) (by decide +kernel), List.mem_of_getElem? (i := 879) (by decide +kernel), List.mem_of_getElem? (i := 880) (by decide +kernel)⟩
theorem lw_p49 : lw_okq (⟨"QuietChecker$Machine", "touch", "(II)Z"⟩, 10) := ⟨⟨by decide +kernel, by decide +kernel⟩, List.mem_of_getElem? (i := 227) (by decide +kernel), List.mem_of_getElem? (i := 883) (by decide +kernel), List.mem_of_getElem? (i := 884) (by decide +kernel)⟩
theorem lw_p50 : lw_okq (⟨"QuietChecker$Machine", "jot", "(I)Z"⟩, 10) := ⟨⟨by decide +kernel, by decide +kernel⟩, List.mem_of_getElem? (i := 227) (by decide +kernel), List.mem_of_getElem? (i := 889) (by decide +kernel), List.mem_of_getElem? (i := 890) (by decide +kernel)⟩
theorem lw_p51 : lw_okq (⟨"QuietChecker$Machine", "writeCell", "(I)V"⟩, 10) := ⟨⟨by decide +kernel, by decide +kernel⟩, List.mem_of_getElem? (i := 227) (by decide +kernel), List.mem_of_getElem? (i := 893) (by decide +kernel), List.mem_of_getElem? (i := 894) (by decide +kernel)⟩
theorem lw_p52 : lw_okq (⟨"QuietChecker$Machine", "enter", "(I)V"⟩, 10) := ⟨⟨by decide +kernel, by decide +kernel⟩, List.mem_of_getElem? (i := 227) (by decide +kernel), List.mem_of_getElem? (i := 897) (by decide +kernel), List.mem_of_getElem? (i := 898) (by decide +kernel)⟩
theorem lw_p53 : lw_okq (⟨"QuietChecker$Machine", "leave", "()V"⟩, 10) := ⟨⟨by decide +kernel, by decide +kernel⟩, List.mem_of_getElem? (i := 227) (by decide +kernel), List.mem_of_getElem? (i := 1161) (by decide +kernel), List.mem_of_getElem? (i := 1162) (by decide +kernel)⟩
theorem lw_p54 : lw_okq (⟨"QuietChecker$Machine", "performOnStack", "(II)V"⟩, 10) := ⟨⟨by decide +kernel, by decide +kernel⟩, List.mem_of_getElem? (i := 227) (by decide +kernel), List.mem_of_getElem? (i := 1165) (by decide +kernel), List.mem_of_getElem? (i := 1166) (by decide +kernel)⟩
theorem lw_p55 : lw_okq (⟨"QuietChecker$Machine", "divide", "(IIZ)V"⟩, 10) := ⟨⟨by decide +kernel, by decide +kernel⟩, List.mem_of_getElem? (i := 227) (by decide +kernel), List.mem_of_getElem? (i := 1169) (by decide +kernel), List.mem_of_getElem? (i := 1170) (by decide +kernel)⟩
theorem lw_p56 : lw_okq (⟨"QuietChecker$Machine", "disturbCells", "(III)I"⟩, 10) := ⟨⟨by decide +kernel, by decide +kernel⟩, List.mem_of_getElem? (i := 227) (by decide +kernel), List.mem_of_getElem? (i := 1188) (by decide +kernel), List.mem_of_getElem? (i := 1189) (by decide +kernel)⟩
theorem lw_p57 : lw_okq (⟨"QuietCheckerModel", "next", "()V"⟩, 64) := ⟨⟨by decide +kernel, by decide +kernel⟩, List.mem_of_getElem? (i := 1227) (by decide +kernel), List.mem_of_getElem? (i := 1438) (by decide +kernel), List.mem_of_getElem? (i := 1439) (by decide +kernel)⟩
theorem lw_p58 : lw_okq (⟨"QuietCheckerModel", "charAt", "(I)I"⟩, 64) := ⟨⟨by decide +kernel, by decide +kernel⟩, List.mem_of_getElem? (i := 1227) (by decide +kernel), List.mem_of_getElem? (i := 1442) (by decide +kernel), List.mem_of_getElem? (i := 1443) (by decide +kernel)⟩
theorem lw_p59 : lw_okq (⟨"QuietCheckerModel", "digits", "()V"⟩, 64) := ⟨⟨by decide +kernel, by decide +kernel⟩, List.mem_of_getElem? (i := 1227) (by decide +kernel), List.mem_of_getElem? (i := 1449) (by decide +kernel), List.mem_of_getElem? (i := 1450) (by decide +kernel)⟩
theorem lw_p60 : lw_okq (⟨"QuietCheckerModel", "word", "()V"⟩, 64) := ⟨⟨by decide +kernel, by decide +kernel⟩, List.mem_of_getElem? (i := 1227) (by decide +kernel), List.mem_of_getElem? (i := 1459) (by decide +kernel), List.mem_of_getElem? (i := 1460) (by decide +kernel)⟩
theorem lw_p61 : lw_okq (⟨"QuietCheckerModel", "sign", "(I)V"⟩, 64) := ⟨⟨by decide +kernel, by decide +kernel⟩, List.mem_of_getElem? (i := 1227) (by decide +kernel), List.mem_of_getElem? (i := 1472) (by decide +kernel), List.mem_of_getElem? (i := 1473) (by decide +kernel)⟩
theorem lw_p62 : lw_okq (⟨"QuietCheckerModel", "say", "(III)V"⟩, 64) := ⟨⟨by decide +kernel, by decide +kernel⟩, List.mem_of_getElem? (i := 1227) (by decide +kernel), List.mem_of_getElem? (i := 1476) (by decide +kernel), List.mem_of_getElem? (i := 1477) (by decide +kernel)⟩
theorem lw_p63 : lw_okq (⟨"QuietCheckerModel", "plain", "(I)V"⟩, 64) := ⟨⟨by decide +kernel, by decide +kernel⟩, List.mem_of_getElem? (i := 1227) (by decide +kernel), List.mem_of_getElem? (i := 1480) (by decide +kernel), List.mem_of_getElem? (i := 1481) (by decide +kernel)⟩
def lw_privs_4 : List (MethodName × Nat) := [(⟨"QuietChecker$Machine", "readCell", "(I)V"⟩, 10), (⟨"QuietChecker$Machine", "touch", "(II)Z"⟩, 10), (⟨"QuietChecker$Machine", "jot", "(I)Z"⟩, 10), (⟨"QuietChecker$Machine", "writeCell", "(I)V"⟩, 10), (⟨"QuietChecker$Machine", "enter", "(I)V"⟩, 10), (⟨"QuietChecker$Machine", "leave", "()V"⟩, 10), (⟨"QuietChecker$Machine", "performOnStack", "(II)V"⟩, 10), (⟨"QuietChecker$Machine", "divide", "(IIZ)V"⟩, 10), (⟨"QuietChecker$Machine", "disturbCells", "(III)I"⟩, 10), (⟨"QuietCheckerModel", "next", "()V"⟩, 64), (⟨"QuietCheckerModel", "charAt", "(I)I"⟩, 64), (⟨"QuietCheckerModel", "digits", "()V"⟩, 64), (⟨"QuietCheckerModel", "word", "()V"⟩, 64), (⟨"QuietCheckerModel", "sign", "(I)V"⟩, 64), (⟨"QuietCheckerModel", "say", "(III)V"⟩, 64), (⟨"QuietCheckerModel", "plain", "(I)V"⟩, 64)]
theorem lw_r4 : ∀ q ∈ lw_privs_4, lw_okq q := List.forall_mem_cons.mpr ⟨lw_p48, List.forall_mem_cons.mpr ⟨lw_p49, List.forall_mem_cons.mpr ⟨lw_p50, List.forall_mem_cons.mpr ⟨lw_p51, List.forall_mem_cons.mpr ⟨lw_p52, List.forall_mem_cons.mpr ⟨lw_p53, List.forall_mem_cons.mpr ⟨lw_p54, List.forall_mem_cons.mpr ⟨lw_p55, List.forall_mem_cons.mpr ⟨lw_p56, List.forall_mem_cons.mpr ⟨lw_p57, List.forall_mem_cons.mpr ⟨lw_p58, List.forall_mem_cons.mpr ⟨lw_p59, List.forall_mem_cons.mpr ⟨lw_p60, List.forall_mem_cons.mpr ⟨lw_p61, List.forall_mem_cons.mpr ⟨lw_p62, List.forall_mem_cons.mpr ⟨lw_p63, fun _ h => absurd h List.not_mem_nil⟩⟩⟩⟩⟩⟩⟩⟩⟩⟩⟩⟩⟩⟩⟩⟩
theorem lw_p64 : lw_okq (⟨"QuietCheckerModel", "wait", "(IIIII)V"⟩, 64) := ⟨⟨by decide +kernel, by decide +kernel⟩, List.mem_of_getElem? (i := 1227) (by decide +kernel), List.mem_of_getElem? (i := 1484) (by decide +kernel), List.mem_of_getElem? (i := 1485) (by decide +kernel)⟩
theorem lw_p65 : lw_okq (⟨"QuietCheckerModel", "goOn", "()V"⟩, 64) := ⟨⟨by decide +kernel, by decide +kernel⟩, List.mem_of_getElem? (i := 1227) (by decide +kernel), List.mem_of_getElem? (i := 1488) (by decide +kernel), List.mem_of_getElem? (i := 1489) (by decide +kernel)⟩
theorem lw_p66 : lw_okq (⟨"QuietCheckerModel", "rows", "(IIII)V"⟩, 64) := ⟨⟨by decide +kernel, by decide +kernel⟩, List.mem_of_getElem? (i := 1227) (by decide +kernel), List.mem_of_getElem? (i := 1492) (by decide +kernel), List.mem_of_getElem? (i := 1493) (by decide +kernel)⟩
theorem lw_p67 : lw_okq (⟨"QuietCheckerModel", "told", "(I)V"⟩, 64) := ⟨⟨by decide +kernel, by decide +kernel⟩, List.mem_of_getElem? (i := 1227) (by decide +kernel), List.mem_of_getElem? (i := 1496) (by decide +kernel), List.mem_of_getElem? (i := 1497) (by decide +kernel)⟩
theorem lw_p68 : lw_okq (⟨"QuietCheckerModel", "top", "()V"⟩, 64) := ⟨⟨by decide +kernel, by decide +kernel⟩, List.mem_of_getElem? (i := 1227) (by decide +kernel), List.mem_of_getElem? (i := 1500) (by decide +kernel), List.mem_of_getElem? (i := 1501) (by decide +kernel)⟩
theorem lw_p69 : lw_okq (⟨"QuietCheckerModel", "label0", "()V"⟩, 64) := ⟨⟨by decide +kernel, by decide +kernel⟩, List.mem_of_getElem? (i := 1227) (by decide +kernel), List.mem_of_getElem? (i := 1504) (by decide +kernel), List.mem_of_getElem? (i := 1505) (by decide +kernel)⟩
theorem lw_p70 : lw_okq (⟨"QuietCheckerModel", "fail", "(I)V"⟩, 64) := ⟨⟨by decide +kernel, by decide +kernel⟩, List.mem_of_getElem? (i := 1227) (by decide +kernel), List.mem_of_getElem? (i := 1508) (by decide +kernel), List.mem_of_getElem? (i := 1509) (by decide +kernel)⟩
theorem lw_p71 : lw_okq (⟨"QuietCheckerModel", "find", "([I[II)I"⟩, 64) := ⟨⟨by decide +kernel, by decide +kernel⟩, List.mem_of_getElem? (i := 1227) (by decide +kernel), List.mem_of_getElem? (i := 1512) (by decide +kernel), List.mem_of_getElem? (i := 1513) (by decide +kernel)⟩
theorem lw_p72 : lw_okq (⟨"QuietCheckerModel", "same", "(IIII)Z"⟩, 64) := ⟨⟨by decide +kernel, by decide +kernel⟩, List.mem_of_getElem? (i := 1227) (by decide +kernel), List.mem_of_getElem? (i := 1516) (by decide +kernel), List.mem_of_getElem? (i := 1517) (by decide +kernel)⟩
theorem lw_p73 : lw_okq (⟨"QuietCheckerModel", "meets", "(I)Z"⟩, 64) := ⟨⟨by decide +kernel, by decide +kernel⟩, List.mem_of_getElem? (i := 1227) (by decide +kernel), List.mem_of_getElem? (i := 1520) (by decide +kernel), List.mem_of_getElem? (i := 1521) (by decide +kernel)⟩
theorem lw_p74 : lw_okq (⟨"QuietCheckerModel", "must", "(I)V"⟩, 64) := ⟨⟨by decide +kernel, by decide +kernel⟩, List.mem_of_getElem? (i := 1227) (by decide +kernel), List.mem_of_getElem? (i := 1525) (by decide +kernel), List.mem_of_getElem? (i := 1526) (by decide +kernel)⟩
theorem lw_p75 : lw_okq (⟨"QuietCheckerModel", "function", "()V"⟩, 64) := ⟨⟨by decide +kernel, by decide +kernel⟩, List.mem_of_getElem? (i := 1227) (by decide +kernel), List.mem_of_getElem? (i := 1529) (by decide +kernel), List.mem_of_getElem? (i := 1530) (by decide +kernel)⟩
theorem lw_p76 : lw_okq (⟨"QuietCheckerModel", "own", "()V"⟩, 64) := ⟨⟨by decide +kernel, by decide +kernel⟩, List.mem_of_getElem? (i := 1227) (by decide +kernel), List.mem_of_getElem? (i := 1533) (by decide +kernel), List.mem_of_getElem? (i := 1534) (by decide +kernel)⟩
theorem lw_p77 : lw_okq (⟨"QuietCheckerModel", "functionEnd", "(III)V"⟩, 64) := ⟨⟨by decide +kernel, by decide +kernel⟩, List.mem_of_getElem? (i := 1227) (by decide +kernel), List.mem_of_getElem? (i := 1537) (by decide +kernel), List.mem_of_getElem? (i := 1538) (by decide +kernel)⟩
theorem lw_p78 : lw_okq (⟨"QuietCheckerModel", "forbid", "(II)V"⟩, 64) := ⟨⟨by decide +kernel, by decide +kernel⟩, List.mem_of_getElem? (i := 1227) (by decide +kernel), List.mem_of_getElem? (i := 1541) (by decide +kernel), List.mem_of_getElem? (i := 1542) (by decide +kernel)⟩
theorem lw_p79 : lw_okq (⟨"QuietCheckerModel", "begins", "()Z"⟩, 64) := ⟨⟨by decide +kernel, by decide +kernel⟩, List.mem_of_getElem? (i := 1227) (by decide +kernel), List.mem_of_getElem? (i := 1545) (by decide +kernel), List.mem_of_getElem? (i := 1546) (by decide +kernel)⟩
def lw_privs_5 : List (MethodName × Nat) := [(⟨"QuietCheckerModel", "wait", "(IIIII)V"⟩, 64), (⟨"QuietCheckerModel", "goOn", "()V"⟩, 64), (⟨"QuietCheckerModel", "rows", "(IIII)V"⟩, 64), (⟨"QuietCheckerModel", "told", "(I)V"⟩, 64), (⟨"QuietCheckerModel", "top", "()V"⟩, 64), (⟨"QuietCheckerModel", "label0", "()V"⟩, 64), (⟨"QuietCheckerModel", "fail", "(I)V"⟩, 64), (⟨"QuietCheckerModel", "find", "([I[II)I"⟩, 64), (⟨"QuietCheckerModel", "same", "(IIII)Z"⟩, 64), (⟨"QuietCheckerModel", "meets", "(I)Z"⟩, 64), (⟨"QuietCheckerModel", "must", "(I)V"⟩, 64), (⟨"QuietCheckerModel", "function", "()V"⟩, 64), (⟨"QuietCheckerModel", "own", "()V"⟩, 64), (⟨"QuietCheckerModel", "functionEnd", "(III)V"⟩, 64), (⟨"QuietCheckerModel", "forbid", "(II)V"⟩, 64), (⟨"QuietCheckerModel", "begins", "()Z"⟩, 64)]
theorem lw_r5 : ∀ q ∈ lw_privs_5, lw_okq q := List.forall_mem_cons.mpr ⟨lw_p64, List.forall_mem_cons.mpr ⟨lw_p65, List.forall_mem_cons.mpr ⟨lw_p66, List.forall_mem_cons.mpr ⟨lw_p67, List.forall_mem_cons.mpr ⟨lw_p68, List.forall_mem_cons.mpr ⟨lw_p69, List.forall_mem_cons.mpr ⟨lw_p70, List.forall_mem_cons.mpr ⟨lw_p71, List.forall_mem_cons.mpr ⟨lw_p72, List.forall_mem_cons.mpr ⟨lw_p73, List.forall_mem_cons.mpr ⟨lw_p74, List.forall_mem_cons.mpr ⟨lw_p75, List.forall_mem_cons.mpr ⟨lw_p76, List.forall_mem_cons.mpr ⟨lw_p77, List.forall_mem_cons.mpr ⟨lw_p78, List.forall_mem_cons.mpr ⟨lw_p79, fun _ h => absurd h List.not_mem_nil⟩⟩⟩⟩⟩⟩⟩⟩⟩⟩⟩⟩⟩⟩⟩⟩
theorem lw_p80 : lw_okq (⟨"QuietCheckerModel", "statement", "()V"⟩, 64) := ⟨⟨by decide +kernel, by decide +kernel⟩, List.mem_of_getElem? (i := 1227) (by decide +kernel), List.mem_of_getElem? (i := 1549) (by decide +kernel), List.mem_of_getElem? (i := 1550) (by decide +kernel)⟩
theorem lw_p81 : lw_okq (⟨"QuietCheckerModel", "assignment", "()V"⟩, 64) := ⟨⟨by decide +kernel, by decide +kernel⟩, List.mem_of_getElem? (i := 1227) (by decide +kernel), List.mem_of_getElem? (i := 1553) (by decide +kernel), List.mem_of_getElem? (i := 1554) (by decide +kernel)⟩
theorem lw_p82 : lw_okq (⟨"QuietCheckerModel", "ahead", "()I"⟩, 64) := ⟨⟨by decide +kernel, by decide +kernel⟩, List.mem_of_getElem? (i := 1227) (by decide +kernel), List.mem_of_getElem? (i := 1557) (by decide +kernel), List.mem_of_getElem? (i := 1558) (by decide +kernel)⟩
theorem lw_p83 : lw_okq (⟨"QuietCheckerModel", "named", "(Z)I"⟩, 64) := ⟨⟨by decide +kernel, by decide +kernel⟩, List.mem_of_getElem? (i := 1227) (by decide +kernel), List.mem_of_getElem? (i := 1561) (by decide +kernel), List.mem_of_getElem? (i := 1562) (by decide +kernel)⟩
theorem lw_p84 : lw_okq (⟨"QuietCheckerModel", "deeper", "()V"⟩, 64) := ⟨⟨by decide +kernel, by decide +kernel⟩, List.mem_of_getElem? (i := 1227) (by decide +kernel), List.mem_of_getElem? (i := 1565) (by decide +kernel), List.mem_of_getElem? (i := 1566) (by decide +kernel)⟩
theorem lw_p85 : lw_okq (⟨"QuietCheckerModel", "branch", "(I)I"⟩, 64) := ⟨⟨by decide +kernel, by decide +kernel⟩, List.mem_of_getElem? (i := 1227) (by decide +kernel), List.mem_of_getElem? (i := 1569) (by decide +kernel), List.mem_of_getElem? (i := 1570) (by decide +kernel)⟩
theorem lw_p86 : lw_okq (⟨"QuietCheckerModel", "block", "()V"⟩, 64) := ⟨⟨by decide +kernel, by decide +kernel⟩, List.mem_of_getElem? (i := 1227) (by decide +kernel), List.mem_of_getElem? (i := 1573) (by decide +kernel), List.mem_of_getElem? (i := 1574) (by decide +kernel)⟩
theorem lw_p87 : lw_okq (⟨"QuietCheckerModel", "ifDone", "(I)V"⟩, 64) := ⟨⟨by decide +kernel, by decide +kernel⟩, List.mem_of_getElem? (i := 1227) (by decide +kernel), List.mem_of_getElem? (i := 1577) (by decide +kernel), List.mem_of_getElem? (i := 1578) (by decide +kernel)⟩
theorem lw_p88 : lw_okq (⟨"QuietCheckerModel", "expressions", "(IIIII)V"⟩, 64) := ⟨⟨by decide +kernel, by decide +kernel⟩, List.mem_of_getElem? (i := 1227) (by decide +kernel), List.mem_of_getElem? (i := 1581) (by decide +kernel), List.mem_of_getElem? (i := 1582) (by decide +kernel)⟩
theorem lw_p89 : lw_okq (⟨"QuietCheckerModel", "assigned", "(IZI)V"⟩, 64) := ⟨⟨by decide +kernel, by decide +kernel⟩, List.mem_of_getElem? (i := 1227) (by decide +kernel), List.mem_of_getElem? (i := 1585) (by decide +kernel), List.mem_of_getElem? (i := 1586) (by decide +kernel)⟩
theorem lw_p90 : lw_okq (⟨"QuietCheckerModel", "index", "()V"⟩, 64) := ⟨⟨by decide +kernel, by decide +kernel⟩, List.mem_of_getElem? (i := 1227) (by decide +kernel), List.mem_of_getElem? (i := 1589) (by decide +kernel), List.mem_of_getElem? (i := 1590) (by decide +kernel)⟩
theorem lw_p91 : lw_okq (⟨"QuietCheckerModel", "asked", "()V"⟩, 64) := ⟨⟨by decide +kernel, by decide +kernel⟩, List.mem_of_getElem? (i := 1227) (by decide +kernel), List.mem_of_getElem? (i := 1593) (by decide +kernel), List.mem_of_getElem? (i := 1594) (by decide +kernel)⟩
theorem lw_p92 : lw_okq (⟨"QuietCheckerModel", "first", "(Z)V"⟩, 64) := ⟨⟨by decide +kernel, by decide +kernel⟩, List.mem_of_getElem? (i := 1227) (by decide +kernel), List.mem_of_getElem? (i := 1597) (by decide +kernel), List.mem_of_getElem? (i := 1598) (by decide +kernel)⟩
theorem lw_p93 : lw_okq (⟨"QuietCheckerModel", "single", "()V"⟩, 64) := ⟨⟨by decide +kernel, by decide +kernel⟩, List.mem_of_getElem? (i := 1227) (by decide +kernel), List.mem_of_getElem? (i := 1601) (by decide +kernel), List.mem_of_getElem? (i := 1602) (by decide +kernel)⟩
theorem lw_p94 : lw_okq (⟨"QuietCheckerModel", "called", "()V"⟩, 64) := ⟨⟨by decide +kernel, by decide +kernel⟩, List.mem_of_getElem? (i := 1227) (by decide +kernel), List.mem_of_getElem? (i := 1605) (by decide +kernel), List.mem_of_getElem? (i := 1606) (by decide +kernel)⟩
theorem lw_p95 : lw_okq (⟨"QuietCheckerModel", "call", "()V"⟩, 64) := ⟨⟨by decide +kernel, by decide +kernel⟩, List.mem_of_getElem? (i := 1227) (by decide +kernel), List.mem_of_getElem? (i := 1609) (by decide +kernel), List.mem_of_getElem? (i := 1610) (by decide +kernel)⟩
def lw_privs_6 : List (MethodName × Nat) := [(⟨"QuietCheckerModel", "statement", "()V"⟩, 64), (⟨"QuietCheckerModel", "assignment", "()V"⟩, 64), (⟨"QuietCheckerModel", "ahead", "()I"⟩, 64), (⟨"QuietCheckerModel", "named", "(Z)I"⟩, 64), (⟨"QuietCheckerModel", "deeper", "()V"⟩, 64), (⟨"QuietCheckerModel", "branch", "(I)I"⟩, 64), (⟨"QuietCheckerModel", "block", "()V"⟩, 64), (⟨"QuietCheckerModel", "ifDone", "(I)V"⟩, 64), (⟨"QuietCheckerModel", "expressions", "(IIIII)V"⟩, 64), (⟨"QuietCheckerModel", "assigned", "(IZI)V"⟩, 64), (⟨"QuietCheckerModel", "index", "()V"⟩, 64), (⟨"QuietCheckerModel", "asked", "()V"⟩, 64), (⟨"QuietCheckerModel", "first", "(Z)V"⟩, 64), (⟨"QuietCheckerModel", "single", "()V"⟩, 64), (⟨"QuietCheckerModel", "called", "()V"⟩, 64), (⟨"QuietCheckerModel", "call", "()V"⟩, 64)]
theorem lw_r6 : ∀ q ∈ lw_privs_6, lw_okq q := List.forall_mem_cons.mpr ⟨lw_p80, List.forall_mem_cons.mpr ⟨lw_p81, List.forall_mem_cons.mpr ⟨lw_p82, List.forall_mem_cons.mpr ⟨lw_p83, List.forall_mem_cons.mpr ⟨lw_p84, List.forall_mem_cons.mpr ⟨lw_p85, List.forall_mem_cons.mpr ⟨lw_p86, List.forall_mem_cons.mpr ⟨lw_p87, List.forall_mem_cons.mpr ⟨lw_p88, List.forall_mem_cons.mpr ⟨lw_p89, List.forall_mem_cons.mpr ⟨lw_p90, List.forall_mem_cons.mpr ⟨lw_p91, List.forall_mem_cons.mpr ⟨lw_p92, List.forall_mem_cons.mpr ⟨lw_p93, List.forall_mem_cons.mpr ⟨lw_p94, List.forall_mem_cons.mpr ⟨lw_p95, fun _ h => absurd h List.not_mem_nil⟩⟩⟩⟩⟩⟩⟩⟩⟩⟩⟩⟩⟩⟩⟩⟩
theorem lw_p96 : lw_okq (⟨"QuietCheckerModel", "callEnd", "(II)V"⟩, 64) := ⟨⟨by decide +kernel, by decide +kernel⟩, List.mem_of_getElem? (i := 1227) (by decide +kernel), List.mem_of_getElem? (i := 1613) (by decide +kernel), List.mem_of_getElem? (i := 1614) (by decide +kernel)⟩
theorem lw_p97 : lw_okq (⟨"QuietCheckerModel", "levelOn", "(I)V"⟩, 64) := ⟨⟨by decide +kernel, by decide +kernel⟩, List.mem_of_getElem? (i := 1227) (by decide +kernel), List.mem_of_getElem? (i := 1617) (by decide +kernel), List.mem_of_getElem? (i := 1618) (by decide +kernel)⟩
theorem lw_p98 : lw_okq (⟨"QuietCheckerModel", "given", "(III)V"⟩, 64) := ⟨⟨by decide +kernel, by decide +kernel⟩, List.mem_of_getElem? (i := 1227) (by decide +kernel), List.mem_of_getElem? (i := 1624) (by decide +kernel), List.mem_of_getElem? (i := 1625) (by decide +kernel)⟩
theorem lw_p99 : lw_okq (⟨"QuietCheckerModel", "cellOf", "(II)I"⟩, 64) := ⟨⟨by decide +kernel, by decide +kernel⟩, List.mem_of_getElem? (i := 1227) (by decide +kernel), List.mem_of_getElem? (i := 1632) (by decide +kernel), List.mem_of_getElem? (i := 1633) (by decide +kernel)⟩
theorem lw_p100 : lw_okq (⟨"QuietCheckerModel", "fails", "(ZZ)Z"⟩, 64) := ⟨⟨by decide +kernel, by decide +kernel⟩, List.mem_of_getElem? (i := 1227) (by decide +kernel), List.mem_of_getElem? (i := 1636) (by decide +kernel), List.mem_of_getElem? (i := 1637) (by decide +kernel)⟩
theorem lw_p101 : lw_okq (⟨"QuietCheckerModel", "go", "(I)V"⟩, 64) := ⟨⟨by decide +kernel, by decide +kernel⟩, List.mem_of_getElem? (i := 1227) (by decide +kernel), List.mem_of_getElem? (i := 1644) (by decide +kernel), List.mem_of_getElem? (i := 1645) (by decide +kernel)⟩
theorem lw_p102 : lw_okq (⟨"QuietCheckerModel", "cell", "(II)I"⟩, 64) := ⟨⟨by decide +kernel, by decide +kernel⟩, List.mem_of_getElem? (i := 1227) (by decide +kernel), List.mem_of_getElem? (i := 1648) (by decide +kernel), List.mem_of_getElem? (i := 1649) (by decide +kernel)⟩
theorem lw_p103 : lw_okq (⟨"QuietCheckerModel", "tell", "(I)V"⟩, 64) := ⟨⟨by decide +kernel, by decide +kernel⟩, List.mem_of_getElem? (i := 1227) (by decide +kernel), List.mem_of_getElem? (i := 1652) (by decide +kernel), List.mem_of_getElem? (i := 1653) (by decide +kernel)⟩
theorem lw_p104 : lw_okq (⟨"QuietCheckerModel", "disguise", "(I)V"⟩, 64) := ⟨⟨by decide +kernel, by decide +kernel⟩, List.mem_of_getElem? (i := 1227) (by decide +kernel), List.mem_of_getElem? (i := 1663) (by decide +kernel), List.mem_of_getElem? (i := 1664) (by decide +kernel)⟩
def lw_privs_7 : List (MethodName × Nat) := [(⟨"QuietCheckerModel", "callEnd", "(II)V"⟩, 64), (⟨"QuietCheckerModel", "levelOn", "(I)V"⟩, 64), (⟨"QuietCheckerModel", "given", "(III)V"⟩, 64), (⟨"QuietCheckerModel", "cellOf", "(II)I"⟩, 64), (⟨"QuietCheckerModel", "fails", "(ZZ)Z"⟩, 64), (⟨"QuietCheckerModel", "go", "(I)V"⟩, 64), (⟨"QuietCheckerModel", "cell", "(II)I"⟩, 64), (⟨"QuietCheckerModel", "tell", "(I)V"⟩, 64), (⟨"QuietCheckerModel", "disguise", "(I)V"⟩, 64)]
theorem lw_r7 : ∀ q ∈ lw_privs_7, lw_okq q := List.forall_mem_cons.mpr ⟨lw_p96, List.forall_mem_cons.mpr ⟨lw_p97, List.forall_mem_cons.mpr ⟨lw_p98, List.forall_mem_cons.mpr ⟨lw_p99, List.forall_mem_cons.mpr ⟨lw_p100, List.forall_mem_cons.mpr ⟨lw_p101, List.forall_mem_cons.mpr ⟨lw_p102, List.forall_mem_cons.mpr ⟨lw_p103, List.forall_mem_cons.mpr ⟨lw_p104, fun _ h => absurd h List.not_mem_nil⟩⟩⟩⟩⟩⟩⟩⟩⟩
def lw_privs : List (MethodName × Nat) := lw_privs_1 ++ (lw_privs_2 ++ (lw_privs_3 ++ (lw_privs_4 ++ (lw_privs_5 ++ (lw_privs_6 ++ (lw_privs_7))))))
def lw_tbl : List Cond := k2_sels lw_privs ++ tables_1
theorem lw_privs_ok : ∀ q ∈ lw_privs, lw_okq q := by
  show ∀ q ∈ lw_privs_1 ++ (lw_privs_2 ++ (lw_privs_3 ++ (lw_privs_4 ++ (lw_privs_5 ++ (lw_privs_6 ++ (lw_privs_7)))))), lw_okq q
  exact List.forall_mem_append.mpr ⟨lw_r1, List.forall_mem_append.mpr ⟨lw_r2, List.forall_mem_append.mpr ⟨lw_r3, List.forall_mem_append.mpr ⟨lw_r4, List.forall_mem_append.mpr ⟨lw_r5, List.forall_mem_append.mpr ⟨lw_r6, lw_r7⟩⟩⟩⟩⟩⟩
end
section
/-! Names and tables of the classes and methods, written by gentab.py out of what TURN printed of the program -/
def pm_R0 : String := "QuietChecker$Machine"
def pm_T0 : u_T := fun k => match k with
  | 0 => ("QuietChecker$Machine", "program", "LQuietChecker$Program;", true)
  | 1 => ("QuietChecker$Machine", "cells", "[I", true)
  | 2 => ("QuietChecker$Machine", "notes", "[I", true)
  | 3 => ("QuietChecker$Machine", "noted", "I", false)
  | 4 => ("QuietChecker$Machine", "steps", "I", false)
  | 5 => ("QuietChecker$Machine", "end", "I", false)
  | 6 => ("QuietChecker$Machine", "stack", "[I", true)
  | 7 => ("QuietChecker$Machine", "height", "I", false)
  | 8 => ("QuietChecker$Machine", "next", "I", false)
  | _ => ("QuietChecker$Machine", "fuel", "I", false)
def pm_y0 : Nat → FieldType := fun k => match k with
  | 0 => .object "QuietChecker$Program"
  | 1 => .array .int
  | 2 => .array .int
  | 3 => .int
  | 4 => .int
  | 5 => .int
  | 6 => .array .int
  | 7 => .int
  | 8 => .int
  | _ => .int
theorem pm_nm0 : ∀ a, a < 10 → ∀ b, b < 10 → a ≠ b → (pm_T0 a).2.1 ≠ (pm_T0 b).2.1 := by decide +kernel
theorem pm_ty0 : ∀ k, k < 10 → parseFieldDescriptor (pm_T0 k).2.2.1 = some (pm_y0 k) := by decide +kernel
def pm_R1 : String := "QuietChecker$Names"
def pm_T1 : u_T := fun k => match k with
  | 0 => ("QuietChecker$Names", "text", "[C", true)
  | 1 => ("QuietChecker$Names", "places", "[I", true)
  | 2 => ("QuietChecker$Names", "sizes", "[I", true)
  | 3 => ("QuietChecker$Names", "secrets", "[Z", true)
  | _ => ("QuietChecker$Names", "count", "I", false)
def pm_y1 : Nat → FieldType := fun k => match k with
  | 0 => .array .char
  | 1 => .array .int
  | 2 => .array .int
  | 3 => .array .boolean
  | _ => .int
theorem pm_nm1 : ∀ a, a < 5 → ∀ b, b < 5 → a ≠ b → (pm_T1 a).2.1 ≠ (pm_T1 b).2.1 := by decide +kernel
theorem pm_ty1 : ∀ k, k < 5 → parseFieldDescriptor (pm_T1 k).2.2.1 = some (pm_y1 k) := by decide +kernel
def pm_R2 : String := "QuietChecker$Parser"
def pm_T2 : u_T := fun k => match k with
  | 0 => ("QuietChecker$Parser", "program", "LQuietChecker$Program;", true)
  | 1 => ("QuietChecker$Parser", "tokens", "LQuietChecker$Tokens;", true)
  | 2 => ("QuietChecker$Parser", "locals", "LQuietChecker$Names;", true)
  | 3 => ("QuietChecker$Parser", "inFunction", "Z", false)
  | 4 => ("QuietChecker$Parser", "functionName", "I", false)
  | 5 => ("QuietChecker$Parser", "functionSecret", "Z", false)
  | 6 => ("QuietChecker$Parser", "fault", "I", false)
  | 7 => ("QuietChecker$Parser", "leak", "I", false)
  | 8 => ("QuietChecker$Parser", "token", "I", false)
  | 9 => ("QuietChecker$Parser", "kind", "LQuietChecker$Kind;", false)
  | _ => ("QuietChecker$Parser", "place", "I", false)
def pm_y2 : Nat → FieldType := fun k => match k with
  | 0 => .object "QuietChecker$Program"
  | 1 => .object "QuietChecker$Tokens"
  | 2 => .object "QuietChecker$Names"
  | 3 => .boolean
  | 4 => .int
  | 5 => .boolean
  | 6 => .int
  | 7 => .int
  | 8 => .int
  | 9 => .object "QuietChecker$Kind"
  | _ => .int
theorem pm_nm2 : ∀ a, a < 11 → ∀ b, b < 11 → a ≠ b → (pm_T2 a).2.1 ≠ (pm_T2 b).2.1 := by decide +kernel
theorem pm_ty2 : ∀ k, k < 11 → parseFieldDescriptor (pm_T2 k).2.2.1 = some (pm_y2 k) := by decide +kernel
def pm_R3 : String := "QuietChecker$Program"
def pm_T3 : u_T := fun k => match k with
  | 0 => ("QuietChecker$Program", "text", "[C", true)
  | 1 => ("QuietChecker$Program", "length", "I", false)
  | 2 => ("QuietChecker$Program", "top", "LQuietChecker$Names;", true)
  | 3 => ("QuietChecker$Program", "sizes", "[I", true)
  | 4 => ("QuietChecker$Program", "arrayNumbers", "[I", true)
  | 5 => ("QuietChecker$Program", "arrays", "I", false)
  | 6 => ("QuietChecker$Program", "functions", "LQuietChecker$Names;", true)
  | 7 => ("QuietChecker$Program", "entries", "[I", true)
  | 8 => ("QuietChecker$Program", "parameters", "[I", true)
  | 9 => ("QuietChecker$Program", "secretParameters", "[Z", true)
  | 10 => ("QuietChecker$Program", "ops", "[I", true)
  | 11 => ("QuietChecker$Program", "details", "[I", true)
  | 12 => ("QuietChecker$Program", "codeLength", "I", false)
  | 13 => ("QuietChecker$Program", "start", "I", false)
  | 14 => ("QuietChecker$Program", "statements", "I", false)
  | _ => ("QuietChecker$Program", "whole", "Z", false)
def pm_y3 : Nat → FieldType := fun k => match k with
  | 0 => .array .char
  | 1 => .int
  | 2 => .object "QuietChecker$Names"
  | 3 => .array .int
  | 4 => .array .int
  | 5 => .int
  | 6 => .object "QuietChecker$Names"
  | 7 => .array .int
  | 8 => .array .int
  | 9 => .array .boolean
  | 10 => .array .int
  | 11 => .array .int
  | 12 => .int
  | 13 => .int
  | 14 => .int
  | _ => .boolean
theorem pm_nm3 : ∀ a, a < 16 → ∀ b, b < 16 → a ≠ b → (pm_T3 a).2.1 ≠ (pm_T3 b).2.1 := by decide +kernel
theorem pm_ty3 : ∀ k, k < 16 → parseFieldDescriptor (pm_T3 k).2.2.1 = some (pm_y3 k) := by decide +kernel
def pm_R4 : String := "QuietChecker$Tokens"
def pm_T4 : u_T := fun k => match k with
  | 0 => ("QuietChecker$Tokens", "kinds", "[LQuietChecker$Kind;", true)
  | 1 => ("QuietChecker$Tokens", "places", "[I", true)
  | 2 => ("QuietChecker$Tokens", "sizes", "[I", true)
  | 3 => ("QuietChecker$Tokens", "numbers", "[I", true)
  | 4 => ("QuietChecker$Tokens", "count", "I", false)
  | 5 => ("QuietChecker$Tokens", "text", "[C", true)
  | 6 => ("QuietChecker$Tokens", "length", "I", false)
  | 7 => ("QuietChecker$Tokens", "next", "I", false)
  | _ => ("QuietChecker$Tokens", "number", "I", false)
def pm_y4 : Nat → FieldType := fun k => match k with
  | 0 => .array (.object "QuietChecker$Kind")
  | 1 => .array .int
  | 2 => .array .int
  | 3 => .array .int
  | 4 => .int
  | 5 => .array .char
  | 6 => .int
  | 7 => .int
  | _ => .int
theorem pm_nm4 : ∀ a, a < 9 → ∀ b, b < 9 → a ≠ b → (pm_T4 a).2.1 ≠ (pm_T4 b).2.1 := by decide +kernel
theorem pm_ty4 : ∀ k, k < 9 → parseFieldDescriptor (pm_T4 k).2.2.1 = some (pm_y4 k) := by decide +kernel
def pm_R5 : String := "QuietChecker"
def pm_T5 : u_T := fun k => match k with
  | 0 => ("QuietChecker", "text", "[C", true)
  | 1 => ("QuietChecker", "length", "I", false)
  | 2 => ("QuietChecker", "program", "LQuietChecker$Program;", true)
  | 3 => ("QuietChecker", "parser", "LQuietChecker$Parser;", true)
  | 4 => ("QuietChecker", "inputs", "[I", true)
  | 5 => ("QuietChecker", "inputsOfRun", "[I", true)
  | 6 => ("QuietChecker", "latest", "LQuietChecker$Machine;", true)
  | 7 => ("QuietChecker", "other", "LQuietChecker$Machine;", true)
  | 8 => ("QuietChecker", "fuelOfRun", "I", false)
  | 9 => ("QuietChecker", "ran", "Z", false)
  | _ => ("QuietChecker", "fault", "I", false)
def pm_y5 : Nat → FieldType := fun k => match k with
  | 0 => .array .char
  | 1 => .int
  | 2 => .object "QuietChecker$Program"
  | 3 => .object "QuietChecker$Parser"
  | 4 => .array .int
  | 5 => .array .int
  | 6 => .object "QuietChecker$Machine"
  | 7 => .object "QuietChecker$Machine"
  | 8 => .int
  | 9 => .boolean
  | _ => .int
theorem pm_nm5 : ∀ a, a < 11 → ∀ b, b < 11 → a ≠ b → (pm_T5 a).2.1 ≠ (pm_T5 b).2.1 := by decide +kernel
theorem pm_ty5 : ∀ k, k < 11 → parseFieldDescriptor (pm_T5 k).2.2.1 = some (pm_y5 k) := by decide +kernel
def pm_R6 : String := "QuietCheckerModel"
def pm_T6 : u_T := fun k => match k with
  | 0 => ("QuietCheckerModel", "code", "I", false)
  | 1 => ("QuietCheckerModel", "text", "[C", true)
  | 2 => ("QuietCheckerModel", "kept", "[C", true)
  | 3 => ("QuietCheckerModel", "size", "I", false)
  | 4 => ("QuietCheckerModel", "keptSize", "I", false)
  | 5 => ("QuietCheckerModel", "at", "I", false)
  | 6 => ("QuietCheckerModel", "token", "I", false)
  | 7 => ("QuietCheckerModel", "from", "I", false)
  | 8 => ("QuietCheckerModel", "end", "I", false)
  | 9 => ("QuietCheckerModel", "number", "J", false)
  | 10 => ("QuietCheckerModel", "fault", "I", false)
  | 11 => ("QuietCheckerModel", "placed", "I", false)
  | 12 => ("QuietCheckerModel", "label", "I", false)
  | 13 => ("QuietCheckerModel", "tops", "I", false)
  | 14 => ("QuietCheckerModel", "arrays", "I", false)
  | 15 => ("QuietCheckerModel", "cells", "I", false)
  | 16 => ("QuietCheckerModel", "owns", "I", false)
  | 17 => ("QuietCheckerModel", "functions", "I", false)
  | 18 => ("QuietCheckerModel", "secrets", "I", false)
  | 19 => ("QuietCheckerModel", "statements", "I", false)
  | 20 => ("QuietCheckerModel", "open", "I", false)
  | 21 => ("QuietCheckerModel", "topAt", "[I", true)
  | 22 => ("QuietCheckerModel", "topLong", "[I", true)
  | 23 => ("QuietCheckerModel", "topSize", "[I", true)
  | 24 => ("QuietCheckerModel", "topNumber", "[I", true)
  | 25 => ("QuietCheckerModel", "topCell", "[I", true)
  | 26 => ("QuietCheckerModel", "topSecret", "[Z", true)
  | 27 => ("QuietCheckerModel", "ownSecret", "[Z", true)
  | 28 => ("QuietCheckerModel", "functionSecret", "[Z", true)
  | 29 => ("QuietCheckerModel", "ownAt", "[I", true)
  | 30 => ("QuietCheckerModel", "ownLong", "[I", true)
  | 31 => ("QuietCheckerModel", "functionAt", "[I", true)
  | 32 => ("QuietCheckerModel", "functionLong", "[I", true)
  | 33 => ("QuietCheckerModel", "functionBegin", "[I", true)
  | 34 => ("QuietCheckerModel", "parameters", "[I", true)
  | 35 => ("QuietCheckerModel", "ownsOf", "[I", true)
  | 36 => ("QuietCheckerModel", "parameterSecret", "[Z", true)
  | 37 => ("QuietCheckerModel", "within", "Z", false)
  | 38 => ("QuietCheckerModel", "orders", "I", false)
  | 39 => ("QuietCheckerModel", "order", "[I", true)
  | 40 => ("QuietCheckerModel", "one", "[I", true)
  | 41 => ("QuietCheckerModel", "two", "[I", true)
  | 42 => ("QuietCheckerModel", "secret", "Z", false)
  | 43 => ("QuietCheckerModel", "there", "Z", false)
  | 44 => ("QuietCheckerModel", "ran", "Z", false)
  | 45 => ("QuietCheckerModel", "inputs", "[I", true)
  | 46 => ("QuietCheckerModel", "now", "[I", true)
  | 47 => ("QuietCheckerModel", "notes", "[I", true)
  | 48 => ("QuietCheckerModel", "pile", "[I", true)
  | 49 => ("QuietCheckerModel", "frames", "[I", true)
  | 50 => ("QuietCheckerModel", "noted", "I", false)
  | 51 => ("QuietCheckerModel", "steps", "I", false)
  | 52 => ("QuietCheckerModel", "ending", "I", false)
  | 53 => ("QuietCheckerModel", "fuelOf", "I", false)
  | 54 => ("QuietCheckerModel", "depth", "I", false)
  | 55 => ("QuietCheckerModel", "before", "[I", true)
  | 56 => ("QuietCheckerModel", "saved", "[I", true)
  | 57 => ("QuietCheckerModel", "lastNotes", "[I", true)
  | 58 => ("QuietCheckerModel", "tasks", "I", false)
  | 59 => ("QuietCheckerModel", "task", "[I", true)
  | 60 => ("QuietCheckerModel", "taskA", "[I", true)
  | 61 => ("QuietCheckerModel", "taskB", "[I", true)
  | 62 => ("QuietCheckerModel", "taskC", "[I", true)
  | _ => ("QuietCheckerModel", "taskD", "[I", true)
def pm_y6 : Nat → FieldType := fun k => match k with
  | 0 => .int
  | 1 => .array .char
  | 2 => .array .char
  | 3 => .int
  | 4 => .int
  | 5 => .int
  | 6 => .int
  | 7 => .int
  | 8 => .int
  | 9 => .long
  | 10 => .int
  | 11 => .int
  | 12 => .int
  | 13 => .int
  | 14 => .int
  | 15 => .int
  | 16 => .int
  | 17 => .int
  | 18 => .int
  | 19 => .int
  | 20 => .int
  | 21 => .array .int
  | 22 => .array .int
  | 23 => .array .int
  | 24 => .array .int
  | 25 => .array .int
  | 26 => .array .boolean
  | 27 => .array .boolean
  | 28 => .array .boolean
  | 29 => .array .int
  | 30 => .array .int
  | 31 => .array .int
  | 32 => .array .int
  | 33 => .array .int
  | 34 => .array .int
  | 35 => .array .int
  | 36 => .array .boolean
  | 37 => .boolean
  | 38 => .int
  | 39 => .array .int
  | 40 => .array .int
  | 41 => .array .int
  | 42 => .boolean
  | 43 => .boolean
  | 44 => .boolean
  | 45 => .array .int
  | 46 => .array .int
  | 47 => .array .int
  | 48 => .array .int
  | 49 => .array .int
  | 50 => .int
  | 51 => .int
  | 52 => .int
  | 53 => .int
  | 54 => .int
  | 55 => .array .int
  | 56 => .array .int
  | 57 => .array .int
  | 58 => .int
  | 59 => .array .int
  | 60 => .array .int
  | 61 => .array .int
  | 62 => .array .int
  | _ => .array .int
theorem pm_nm6 : ∀ a, a < 64 → ∀ b, b < 64 → a ≠ b → (pm_T6 a).2.1 ≠ (pm_T6 b).2.1 := by decide +kernel
theorem pm_ty6 : ∀ k, k < 64 → parseFieldDescriptor (pm_T6 k).2.2.1 = some (pm_y6 k) := by decide +kernel
abbrev pm_cl : List vw_C := [(pm_R0, pm_T0, 10), (pm_R1, pm_T1, 5), (pm_R2, pm_T2, 11), (pm_R3, pm_T3, 16), (pm_R4, pm_T4, 9), (pm_R5, pm_T5, 11), (pm_R6, pm_T6, 64)]
def pm_ft (ci : Nat) : List FieldType := match ci with
  | 0 => [.object "QuietChecker$Program", .array .int, .array .int, .int, .int, .int, .array .int, .int, .int, .int]
  | 1 => [.array .char, .array .int, .array .int, .array .boolean, .int]
  | 2 => [.object "QuietChecker$Program", .object "QuietChecker$Tokens", .object "QuietChecker$Names", .boolean, .int, .boolean, .int, .int, .int, .object "QuietChecker$Kind", .int]
  | 3 => [.array .char, .int, .object "QuietChecker$Names", .array .int, .array .int, .int, .object "QuietChecker$Names", .array .int, .array .int, .array .boolean, .array .int, .array .int, .int, .int, .int, .boolean]
  | 4 => [.array (.object "QuietChecker$Kind"), .array .int, .array .int, .array .int, .int, .array .char, .int, .int, .int]
  | 5 => [.array .char, .int, .object "QuietChecker$Program", .object "QuietChecker$Parser", .array .int, .array .int, .object "QuietChecker$Machine", .object "QuietChecker$Machine", .int, .boolean, .int]
  | 6 => [.int, .array .char, .array .char, .int, .int, .int, .int, .int, .int, .long, .int, .int, .int, .int, .int, .int, .int, .int, .int, .int, .int, .array .int, .array .int, .array .int, .array .int, .array .int, .array .boolean, .array .boolean, .array .boolean, .array .int, .array .int, .array .int, .array .int, .array .int, .array .int, .array .int, .array .boolean, .boolean, .int, .array .int, .array .int, .array .int, .boolean, .boolean, .boolean, .array .int, .array .int, .array .int, .array .int, .array .int, .int, .int, .int, .int, .int, .array .int, .array .int, .array .int, .int, .array .int, .array .int, .array .int, .array .int, .array .int]
  | _ => []
def pm_own : List String := ["QuietChecker$Machine", "QuietChecker$Names", "QuietChecker$Parser", "QuietChecker$Program", "QuietChecker$Tokens", "QuietChecker", "QuietCheckerModel", "QuietChecker$Kind", "java/lang/String", "java/lang/StringLatin1", "java/util/Arrays", "java/lang/Math", "QuietCheckerLaw"]
def pm_on (k : Nat) : String := pm_own.getD k ""
def pm_mt : List (Nat × MethodName × ByteArray × Nat × Option FieldType × Bool × Nat) := [
  (6, ⟨"QuietCheckerModel", "fails", "(ZZ)Z"⟩, prog_10_method_3_code, 3, (some .boolean), false, 2),
  (6, ⟨"QuietCheckerModel", "feed", "(JI)Z"⟩, prog_10_method_4_code, 8, (some .boolean), false, 2),
  (6, ⟨"QuietCheckerModel", "isLetter", "(I)Z"⟩, prog_10_method_5_code, 1, (some .boolean), true, 1),
  (6, ⟨"QuietCheckerModel", "isDigit", "(I)Z"⟩, prog_10_method_6_code, 1, (some .boolean), true, 1),
  (6, ⟨"QuietCheckerModel", "charAt", "(I)I"⟩, prog_10_method_7_code, 2, (some .int), false, 1),
  (6, ⟨"QuietCheckerModel", "next", "()V"⟩, prog_10_method_8_code, 3, none, false, 0),
  (6, ⟨"QuietCheckerModel", "digits", "()V"⟩, prog_10_method_9_code, 1, none, false, 0),
  (6, ⟨"QuietCheckerModel", "word", "()V"⟩, prog_10_method_10_code, 3, none, false, 0),
  (6, ⟨"QuietCheckerModel", "sign", "(I)V"⟩, prog_10_method_11_code, 5, none, false, 1),
  (6, ⟨"QuietCheckerModel", "fail", "(I)V"⟩, prog_10_method_12_code, 2, none, false, 1),
  (6, ⟨"QuietCheckerModel", "meets", "(I)Z"⟩, prog_10_method_13_code, 2, (some .boolean), false, 1),
  (6, ⟨"QuietCheckerModel", "must", "(I)V"⟩, prog_10_method_14_code, 2, none, false, 1),
  (6, ⟨"QuietCheckerModel", "forbid", "(II)V"⟩, prog_10_method_15_code, 3, none, false, 2),
  (6, ⟨"QuietCheckerModel", "same", "(IIII)Z"⟩, prog_10_method_16_code, 7, (some .boolean), false, 4),
  (6, ⟨"QuietCheckerModel", "find", "([I[II)I"⟩, prog_10_method_17_code, 6, (some .int), false, 3),
  (6, ⟨"QuietCheckerModel", "say", "(III)V"⟩, prog_10_method_18_code, 4, none, false, 3),
  (6, ⟨"QuietCheckerModel", "deeper", "()V"⟩, prog_10_method_19_code, 1, none, false, 0),
  (6, ⟨"QuietCheckerModel", "label0", "()V"⟩, prog_10_method_20_code, 1, none, false, 0),
  (6, ⟨"QuietCheckerModel", "top", "()V"⟩, prog_10_method_21_code, 4, none, false, 0),
  (6, ⟨"QuietCheckerModel", "own", "()V"⟩, prog_10_method_22_code, 1, none, false, 0),
  (6, ⟨"QuietCheckerModel", "wait", "(IIIII)V"⟩, prog_10_method_23_code, 6, none, false, 5),
  (6, ⟨"QuietCheckerModel", "plain", "(I)V"⟩, prog_10_method_24_code, 2, none, false, 1),
  (6, ⟨"QuietCheckerModel", "goOn", "()V"⟩, prog_10_method_25_code, 6, none, false, 0),
  (6, ⟨"QuietCheckerModel", "rows", "(IIII)V"⟩, prog_10_method_26_code, 6, none, false, 4),
  (6, ⟨"QuietCheckerModel", "expressions", "(IIIII)V"⟩, prog_10_method_27_code, 7, none, false, 5),
  (6, ⟨"QuietCheckerModel", "told", "(I)V"⟩, prog_10_method_28_code, 2, none, false, 1),
  (6, ⟨"QuietCheckerModel", "function", "()V"⟩, prog_10_method_29_code, 3, none, false, 0),
  (6, ⟨"QuietCheckerModel", "functionEnd", "(III)V"⟩, prog_10_method_30_code, 4, none, false, 3),
  (6, ⟨"QuietCheckerModel", "begins", "()Z"⟩, prog_10_method_31_code, 1, (some .boolean), false, 0),
  (6, ⟨"QuietCheckerModel", "statement", "()V"⟩, prog_10_method_32_code, 3, none, false, 0),
  (6, ⟨"QuietCheckerModel", "branch", "(I)I"⟩, prog_10_method_33_code, 2, (some .int), false, 1),
  (6, ⟨"QuietCheckerModel", "block", "()V"⟩, prog_10_method_34_code, 1, none, false, 0),
  (6, ⟨"QuietCheckerModel", "ifDone", "(I)V"⟩, prog_10_method_35_code, 2, none, false, 1),
  (6, ⟨"QuietCheckerModel", "named", "(Z)I"⟩, prog_10_method_36_code, 4, (some .int), false, 1),
  (6, ⟨"QuietCheckerModel", "ahead", "()I"⟩, prog_10_method_37_code, 3, (some .int), false, 0),
  (6, ⟨"QuietCheckerModel", "assignment", "()V"⟩, prog_10_method_38_code, 3, none, false, 0),
  (6, ⟨"QuietCheckerModel", "assigned", "(IZI)V"⟩, prog_10_method_39_code, 5, none, false, 3),
  (6, ⟨"QuietCheckerModel", "index", "()V"⟩, prog_10_method_40_code, 2, none, false, 0),
  (6, ⟨"QuietCheckerModel", "asked", "()V"⟩, prog_10_method_41_code, 2, none, false, 0),
  (6, ⟨"QuietCheckerModel", "first", "(Z)V"⟩, prog_10_method_42_code, 3, none, false, 1),
  (6, ⟨"QuietCheckerModel", "levelOf", "(I)I"⟩, prog_10_method_43_code, 1, (some .int), true, 1),
  (6, ⟨"QuietCheckerModel", "levelOn", "(I)V"⟩, prog_10_method_44_code, 2, none, false, 1),
  (6, ⟨"QuietCheckerModel", "single", "()V"⟩, prog_10_method_45_code, 2, none, false, 0),
  (6, ⟨"QuietCheckerModel", "called", "()V"⟩, prog_10_method_46_code, 3, none, false, 0),
  (6, ⟨"QuietCheckerModel", "call", "()V"⟩, prog_10_method_47_code, 2, none, false, 0),
  (6, ⟨"QuietCheckerModel", "given", "(III)V"⟩, prog_10_method_48_code, 4, none, false, 3),
  (6, ⟨"QuietCheckerModel", "callEnd", "(II)V"⟩, prog_10_method_49_code, 3, none, false, 2),
  (6, ⟨"QuietCheckerModel", "check", "()I"⟩, prog_10_method_50_code, 2, (some .int), false, 0),
  (6, ⟨"QuietCheckerModel", "cellOf", "(II)I"⟩, prog_10_method_51_code, 4, (some .int), false, 2),
  (6, ⟨"QuietCheckerModel", "put", "(III)V"⟩, prog_10_method_52_code, 4, none, false, 3),
  (6, ⟨"QuietCheckerModel", "worked", "(III)I"⟩, prog_10_method_53_code, 3, (some .int), true, 3),
  (6, ⟨"QuietCheckerModel", "tell", "(I)V"⟩, prog_10_method_54_code, 2, none, false, 1),
  (6, ⟨"QuietCheckerModel", "cell", "(II)I"⟩, prog_10_method_55_code, 3, (some .int), false, 2),
  (6, ⟨"QuietCheckerModel", "go", "(I)V"⟩, prog_10_method_56_code, 10, none, false, 1),
  (6, ⟨"QuietCheckerModel", "run", "(I)I"⟩, prog_10_method_57_code, 3, (some .int), false, 1),
  (6, ⟨"QuietCheckerModel", "disguise", "(I)V"⟩, prog_10_method_58_code, 6, none, false, 1),
  (6, ⟨"QuietCheckerModel", "twin", "(I)I"⟩, prog_10_method_59_code, 8, (some .int), false, 1),
  (6, ⟨"QuietCheckerModel", "value", "(II)I"⟩, prog_10_method_60_code, 3, (some .int), false, 2),
  (6, ⟨"QuietCheckerModel", "note", "(I)I"⟩, prog_10_method_61_code, 2, (some .int), false, 1),
  (6, ⟨"QuietCheckerModel", "letter", "(IZI)C"⟩, prog_10_method_62_code, 6, (some .char), false, 3),
  (6, ⟨"QuietCheckerModel", "count", "(I)I"⟩, prog_10_method_63_code, 2, (some .int), false, 1),
  (1, ⟨"QuietChecker$Names", "clear", "()V"⟩, prog_4_method_2_code, 1, none, false, 0),
  (1, ⟨"QuietChecker$Names", "isFull", "()Z"⟩, prog_4_method_3_code, 1, (some .boolean), false, 0),
  (1, ⟨"QuietChecker$Names", "has", "(I)Z"⟩, prog_4_method_4_code, 2, (some .boolean), false, 1),
  (1, ⟨"QuietChecker$Names", "add", "(IIZ)V"⟩, prog_4_method_5_code, 4, none, false, 3),
  (1, ⟨"QuietChecker$Names", "find", "(II)I"⟩, prog_4_method_6_code, 4, (some .int), false, 2),
  (1, ⟨"QuietChecker$Names", "sameLetters", "(III)Z"⟩, prog_4_method_7_code, 5, (some .boolean), false, 3),
  (1, ⟨"QuietChecker$Names", "isSecret", "(I)Z"⟩, prog_4_method_8_code, 2, (some .boolean), false, 1),
  (1, ⟨"QuietChecker$Names", "secretOnes", "()I"⟩, prog_4_method_9_code, 3, (some .int), false, 0),
  (1, ⟨"QuietChecker$Names", "hasCharacter", "(II)Z"⟩, prog_4_method_10_code, 3, (some .boolean), false, 2),
  (1, ⟨"QuietChecker$Names", "character", "(II)C"⟩, prog_4_method_11_code, 3, (some .char), false, 2),
  (3, ⟨"QuietChecker$Program", "cell", "(II)I"⟩, prog_7_method_2_code, 2, (some .int), true, 2),
  (3, ⟨"QuietChecker$Program", "local", "(II)I"⟩, prog_7_method_3_code, 2, (some .int), true, 2),
  (3, ⟨"QuietChecker$Program", "take", "([CI)V"⟩, prog_7_method_4_code, 3, none, false, 2),
  (3, ⟨"QuietChecker$Program", "clear", "()V"⟩, prog_7_method_5_code, 1, none, false, 0),
  (3, ⟨"QuietChecker$Program", "addTop", "(IIZI)V"⟩, prog_7_method_6_code, 5, none, false, 4),
  (3, ⟨"QuietChecker$Program", "beginFunction", "(LQuietChecker$Names;)V"⟩, prog_7_method_7_code, 3, none, false, 1),
  (3, ⟨"QuietChecker$Program", "isArray", "(I)Z"⟩, prog_7_method_8_code, 2, (some .boolean), false, 1),
  (3, ⟨"QuietChecker$Program", "hasCell", "(II)Z"⟩, prog_7_method_9_code, 3, (some .boolean), false, 2),
  (3, ⟨"QuietChecker$Program", "cellsOf", "(I)I"⟩, prog_7_method_10_code, 2, (some .int), false, 1),
  (3, ⟨"QuietChecker$Program", "parametersOf", "(I)I"⟩, prog_7_method_11_code, 2, (some .int), false, 1),
  (3, ⟨"QuietChecker$Program", "takesSecret", "(II)Z"⟩, prog_7_method_12_code, 3, (some .boolean), false, 2),
  (3, ⟨"QuietChecker$Program", "emit", "(II)I"⟩, prog_7_method_13_code, 3, (some .int), false, 2),
  (3, ⟨"QuietChecker$Program", "aim", "(I)V"⟩, prog_7_method_14_code, 2, none, false, 1),
  (7, ⟨"QuietChecker$Kind", "startsStatement", "()Z"⟩, prog_2_method_5_code, 1, (some .boolean), false, 0),
  (7, ⟨"QuietChecker$Kind", "tellsName", "()Z"⟩, prog_2_method_6_code, 1, (some .boolean), false, 0),
  (7, ⟨"QuietChecker$Kind", "isLabel", "()Z"⟩, prog_2_method_7_code, 1, (some .boolean), false, 0),
  (7, ⟨"QuietChecker$Kind", "prefixOp", "()I"⟩, prog_2_method_8_code, 1, (some .int), false, 0),
  (4, ⟨"QuietChecker$Tokens", "scan", "(I)V"⟩, prog_8_method_2_code, 5, none, false, 1),
  (4, ⟨"QuietChecker$Tokens", "add", "(LQuietChecker$Kind;I)V"⟩, prog_8_method_3_code, 3, none, false, 2),
  (4, ⟨"QuietChecker$Tokens", "skipBlanks", "()V"⟩, prog_8_method_4_code, 3, none, false, 0),
  (4, ⟨"QuietChecker$Tokens", "scanToken", "()LQuietChecker$Kind;"⟩, prog_8_method_5_code, 1, (some (.object "QuietChecker$Kind")), false, 0),
  (4, ⟨"QuietChecker$Tokens", "scanNumber", "()LQuietChecker$Kind;"⟩, prog_8_method_6_code, 4, (some (.object "QuietChecker$Kind")), false, 0),
  (4, ⟨"QuietChecker$Tokens", "scanWord", "()LQuietChecker$Kind;"⟩, prog_8_method_7_code, 7, (some (.object "QuietChecker$Kind")), false, 0),
  (4, ⟨"QuietChecker$Tokens", "scanSign", "()LQuietChecker$Kind;"⟩, prog_8_method_8_code, 7, (some (.object "QuietChecker$Kind")), false, 0),
  (4, ⟨"QuietChecker$Tokens", "isAt", "(ILjava/lang/String;)Z"⟩, prog_8_method_9_code, 4, (some .boolean), false, 2),
  (4, ⟨"QuietChecker$Tokens", "isDigit", "(C)Z"⟩, prog_8_method_10_code, 1, (some .boolean), true, 1),
  (4, ⟨"QuietChecker$Tokens", "isWordPart", "(C)Z"⟩, prog_8_method_11_code, 1, (some .boolean), true, 1),
  (2, ⟨"QuietChecker$Parser", "parse", "()I"⟩, prog_6_method_2_code, 2, (some .int), false, 0),
  (2, ⟨"QuietChecker$Parser", "goTo", "(I)V"⟩, prog_6_method_3_code, 2, none, false, 1),
  (2, ⟨"QuietChecker$Parser", "advance", "()V"⟩, prog_6_method_4_code, 1, none, false, 0),
  (2, ⟨"QuietChecker$Parser", "expect", "(LQuietChecker$Kind;)V"⟩, prog_6_method_5_code, 2, none, false, 1),
  (2, ⟨"QuietChecker$Parser", "fail", "(II)V"⟩, prog_6_method_6_code, 3, none, false, 2),
  (2, ⟨"QuietChecker$Parser", "tellLeak", "(II)V"⟩, prog_6_method_7_code, 4, none, false, 2),
  (2, ⟨"QuietChecker$Parser", "mayOpen", "(II)Z"⟩, prog_6_method_8_code, 3, (some .boolean), false, 2),
  (2, ⟨"QuietChecker$Parser", "label", "()Z"⟩, prog_6_method_9_code, 2, (some .boolean), false, 0),
  (2, ⟨"QuietChecker$Parser", "newName", "(LQuietChecker$Names;)I"⟩, prog_6_method_10_code, 3, (some .int), false, 1),
  (2, ⟨"QuietChecker$Parser", "declaration", "()V"⟩, prog_6_method_11_code, 4, none, false, 0),
  (2, ⟨"QuietChecker$Parser", "arraySize", "()I"⟩, prog_6_method_12_code, 2, (some .int), false, 0),
  (2, ⟨"QuietChecker$Parser", "beginFunction", "()V"⟩, prog_6_method_13_code, 2, none, false, 0),
  (2, ⟨"QuietChecker$Parser", "endFunction", "()V"⟩, prog_6_method_14_code, 2, none, false, 0),
  (2, ⟨"QuietChecker$Parser", "parameters", "()V"⟩, prog_6_method_15_code, 2, none, false, 0),
  (2, ⟨"QuietChecker$Parser", "local", "()V"⟩, prog_6_method_16_code, 3, none, false, 0),
  (2, ⟨"QuietChecker$Parser", "statements", "(I)V"⟩, prog_6_method_17_code, 3, none, false, 1),
  (2, ⟨"QuietChecker$Parser", "statement", "(I)V"⟩, prog_6_method_18_code, 4, none, false, 1),
  (2, ⟨"QuietChecker$Parser", "assignment", "(I)V"⟩, prog_6_method_19_code, 6, none, false, 1),
  (2, ⟨"QuietChecker$Parser", "branch", "(II)V"⟩, prog_6_method_20_code, 5, none, false, 2),
  (2, ⟨"QuietChecker$Parser", "repetition", "(II)V"⟩, prog_6_method_21_code, 5, none, false, 2),
  (2, ⟨"QuietChecker$Parser", "condition", "(II)V"⟩, prog_6_method_22_code, 3, none, false, 2),
  (2, ⟨"QuietChecker$Parser", "block", "(I)V"⟩, prog_6_method_23_code, 2, none, false, 1),
  (2, ⟨"QuietChecker$Parser", "index", "(I)V"⟩, prog_6_method_24_code, 3, none, false, 1),
  (2, ⟨"QuietChecker$Parser", "expression", "(I)Z"⟩, prog_6_method_25_code, 3, (some .boolean), false, 1),
  (2, ⟨"QuietChecker$Parser", "binary", "(II)Z"⟩, prog_6_method_26_code, 7, (some .boolean), false, 2),
  (2, ⟨"QuietChecker$Parser", "prefixed", "(I)Z"⟩, prog_6_method_27_code, 4, (some .boolean), false, 1),
  (2, ⟨"QuietChecker$Parser", "operand", "(I)Z"⟩, prog_6_method_28_code, 3, (some .boolean), false, 1),
  (2, ⟨"QuietChecker$Parser", "named", "(I)Z"⟩, prog_6_method_29_code, 5, (some .boolean), false, 1),
  (2, ⟨"QuietChecker$Parser", "call", "(II)Z"⟩, prog_6_method_30_code, 5, (some .boolean), false, 2),
  (2, ⟨"QuietChecker$Parser", "arguments", "(II)I"⟩, prog_6_method_31_code, 5, (some .int), false, 2),
  (2, ⟨"QuietChecker$Parser", "argument", "(III)V"⟩, prog_6_method_32_code, 5, none, false, 3),
  (2, ⟨"QuietChecker$Parser", "known", "(IZ)I"⟩, prog_6_method_33_code, 6, (some .int), false, 2),
  (2, ⟨"QuietChecker$Parser", "isSecret", "(I)Z"⟩, prog_6_method_34_code, 2, (some .boolean), false, 1),
  (2, ⟨"QuietChecker$Parser", "cellOfVariable", "(I)I"⟩, prog_6_method_35_code, 2, (some .int), false, 1),
  (0, ⟨"QuietChecker$Machine", "load", "([I)V"⟩, prog_3_method_2_code, 2, none, false, 1),
  (0, ⟨"QuietChecker$Machine", "disturbSecrets", "(I)V"⟩, prog_3_method_3_code, 4, none, false, 1),
  (0, ⟨"QuietChecker$Machine", "disturbCells", "(III)I"⟩, prog_3_method_4_code, 6, (some .int), false, 3),
  (0, ⟨"QuietChecker$Machine", "execute", "(I)V"⟩, prog_3_method_5_code, 7, none, false, 1),
  (0, ⟨"QuietChecker$Machine", "firstDifference", "(LQuietChecker$Machine;)I"⟩, prog_3_method_6_code, 4, (some .int), false, 1),
  (0, ⟨"QuietChecker$Machine", "perform", "(II)V"⟩, prog_3_method_7_code, 3, none, false, 2),
  (0, ⟨"QuietChecker$Machine", "performOnStack", "(II)V"⟩, prog_3_method_8_code, 5, none, false, 2),
  (0, ⟨"QuietChecker$Machine", "combine", "(III)I"⟩, prog_3_method_9_code, 3, (some .int), true, 3),
  (0, ⟨"QuietChecker$Machine", "divide", "(IIZ)V"⟩, prog_3_method_10_code, 4, none, false, 3),
  (0, ⟨"QuietChecker$Machine", "held", "(I)I"⟩, prog_3_method_11_code, 2, (some .int), false, 1),
  (0, ⟨"QuietChecker$Machine", "hold", "(II)V"⟩, prog_3_method_12_code, 3, none, false, 2),
  (0, ⟨"QuietChecker$Machine", "step", "()V"⟩, prog_3_method_13_code, 1, none, false, 0),
  (0, ⟨"QuietChecker$Machine", "jot", "(I)Z"⟩, prog_3_method_14_code, 2, (some .boolean), false, 1),
  (0, ⟨"QuietChecker$Machine", "touch", "(II)Z"⟩, prog_3_method_15_code, 3, (some .boolean), false, 2),
  (0, ⟨"QuietChecker$Machine", "readCell", "(I)V"⟩, prog_3_method_16_code, 3, none, false, 1),
  (0, ⟨"QuietChecker$Machine", "writeCell", "(I)V"⟩, prog_3_method_17_code, 4, none, false, 1),
  (0, ⟨"QuietChecker$Machine", "enter", "(I)V"⟩, prog_3_method_18_code, 4, none, false, 1),
  (0, ⟨"QuietChecker$Machine", "leave", "()V"⟩, prog_3_method_19_code, 2, none, false, 0),
  (0, ⟨"QuietChecker$Machine", "push", "(I)V"⟩, prog_3_method_20_code, 2, none, false, 1),
  (0, ⟨"QuietChecker$Machine", "pop", "()I"⟩, prog_3_method_21_code, 1, (some .int), false, 0),
  (5, ⟨"QuietChecker", "feed", "(JI)Z"⟩, prog_1_method_2_code, 5, (some .boolean), false, 2),
  (5, ⟨"QuietChecker", "check", "()I"⟩, prog_1_method_3_code, 2, (some .int), false, 0),
  (5, ⟨"QuietChecker", "put", "(III)V"⟩, prog_1_method_4_code, 4, none, false, 3),
  (5, ⟨"QuietChecker", "run", "(I)I"⟩, prog_1_method_5_code, 2, (some .int), false, 1),
  (5, ⟨"QuietChecker", "twin", "(I)I"⟩, prog_1_method_6_code, 2, (some .int), false, 1),
  (5, ⟨"QuietChecker", "value", "(II)I"⟩, prog_1_method_7_code, 3, (some .int), false, 2),
  (5, ⟨"QuietChecker", "note", "(I)I"⟩, prog_1_method_8_code, 2, (some .int), false, 1),
  (5, ⟨"QuietChecker", "letter", "(IZI)C"⟩, prog_1_method_9_code, 5, (some .char), false, 3),
  (5, ⟨"QuietChecker", "count", "(I)I"⟩, prog_1_method_10_code, 2, (some .int), false, 1),
  (5, ⟨"QuietChecker", "byteOf", "(JI)C"⟩, prog_1_method_11_code, 3, (some .char), true, 2),
  (5, ⟨"QuietChecker", "mayStandInText", "(C)Z"⟩, prog_1_method_12_code, 1, (some .boolean), true, 1),
  (8, ⟨"java/lang/String", "length", "()I"⟩, prog_22_method_54_code, 1, (some .int), false, 0),
  (8, ⟨"java/lang/String", "charAt", "(I)C"⟩, prog_22_method_56_code, 2, (some .char), false, 1),
  (8, ⟨"java/lang/String", "coder", "()B"⟩, prog_22_method_152_code, 1, (some .byte), false, 0),
  (8, ⟨"java/lang/String", "isLatin1", "()Z"⟩, prog_22_method_154_code, 1, (some .boolean), false, 0),
  (9, ⟨"java/lang/StringLatin1", "charAt", "([BI)C"⟩, prog_24_method_2_code, 2, (some .char), true, 2),
  (10, ⟨"java/util/Arrays", "rangeCheck", "(III)V"⟩, prog_28_method_30_code, 3, none, true, 3),
  (10, ⟨"java/util/Arrays", "fill", "([II)V"⟩, prog_28_method_103_code, 4, none, true, 2),
  (10, ⟨"java/util/Arrays", "fill", "([IIII)V"⟩, prog_28_method_104_code, 5, none, true, 4),
  (11, ⟨"java/lang/Math", "max", "(II)I"⟩, prog_20_method_65_code, 2, (some .int), true, 2),
  (11, ⟨"java/lang/Math", "min", "(II)I"⟩, prog_20_method_69_code, 2, (some .int), true, 2),
  (12, ⟨"QuietCheckerLaw", "law", "([I)Z"⟩, code, 7, (some .boolean), false, 1),
  (12, ⟨"QuietCheckerLaw", "put", "(LQuietChecker;III)I"⟩, method_3_code, 5, (some .int), true, 4),
  (12, ⟨"QuietCheckerLaw", "run", "(LQuietChecker;I[J)I"⟩, method_4_code, 4, (some .int), true, 3),
  (12, ⟨"QuietCheckerLaw", "twin", "(LQuietChecker;I[J)I"⟩, method_5_code, 4, (some .int), true, 3),
  (12, ⟨"QuietCheckerLaw", "value", "(LQuietChecker;II[J)I"⟩, method_6_code, 5, (some .int), true, 4),
  (12, ⟨"QuietCheckerLaw", "note", "(LQuietChecker;I[J)I"⟩, method_7_code, 4, (some .int), true, 3),
  (12, ⟨"QuietCheckerLaw", "letter", "(LQuietChecker;IZI[J)I"⟩, method_8_code, 6, (some .int), true, 5)]
def pm_m (mi : Nat) : Nat × MethodName × ByteArray × Nat × Option FieldType × Bool × Nat := pm_mt.getD mi (0, ⟨"", "", ""⟩, ⟨#[]⟩, 0, none, false, 0)
def pm_ow (mi : Nat) : Nat := (pm_m mi).1
def pm_nm (mi : Nat) : MethodName := (pm_m mi).2.1
def pm_by (mi : Nat) : ByteArray := (pm_m mi).2.2.1
def pm_mx (mi : Nat) : Nat := (pm_m mi).2.2.2.1
def pm_rt (mi : Nat) : Option FieldType := (pm_m mi).2.2.2.2.1
def pm_sc (mi : Nat) : Bool := (pm_m mi).2.2.2.2.2.1
def pm_np (mi : Nat) : Nat := (pm_m mi).2.2.2.2.2.2
/-- where the words on each method stand in lw_tbl: its code; instance or static; selects; its owner is initialised -/
def pm_mp : List (Nat × Nat × Nat × Nat) := [(1743, 1742, 100, 114), (1533, 1531, 1532, 114), (1562, 1561, 0, 114), (1552, 1551, 0, 114), (1549, 1548, 58, 114), (1545, 1544, 57, 114), (1556, 1555, 59, 114), (1566, 1565, 60, 114), (1579, 1578, 61, 114), (1615, 1614, 70, 114), (1627, 1626, 73, 114), (1632, 1631, 74, 114), (1648, 1647, 78, 114), (1623, 1622, 72, 114), (1619, 1618, 71, 114), (1583, 1582, 62, 114), (1672, 1671, 84, 114), (1611, 1610, 69, 114), (1607, 1606, 68, 114), (1640, 1639, 76, 114), (1591, 1590, 64, 114), (1587, 1586, 63, 114), (1595, 1594, 65, 114), (1599, 1598, 66, 114), (1688, 1687, 88, 114), (1603, 1602, 67, 114), (1636, 1635, 75, 114), (1644, 1643, 77, 114), (1652, 1651, 79, 114), (1656, 1655, 80, 114), (1676, 1675, 85, 114), (1680, 1679, 86, 114), (1684, 1683, 87, 114), (1668, 1667, 83, 114), (1664, 1663, 82, 114), (1660, 1659, 81, 114), (1692, 1691, 89, 114), (1696, 1695, 90, 114), (1700, 1699, 91, 114), (1704, 1703, 92, 114), (1727, 1726, 0, 114), (1724, 1723, 97, 114), (1708, 1707, 93, 114), (1712, 1711, 94, 114), (1716, 1715, 95, 114), (1731, 1730, 98, 114), (1720, 1719, 96, 114), (1541, 1539, 1540, 114), (1739, 1738, 99, 114), (1735, 1733, 1734, 114), (1762, 1761, 0, 114), (1759, 1758, 103, 114), (1755, 1754, 102, 114), (1751, 1750, 101, 114), (1747, 1745, 1746, 114), (1770, 1769, 104, 114), (1766, 1764, 1765, 114), (1774, 1772, 1773, 114), (1778, 1776, 1777, 114), (1782, 1780, 1781, 114), (1786, 1784, 1785, 114), (446, 444, 445, 108), (602, 600, 601, 108), (635, 633, 634, 108), (619, 617, 618, 108), (594, 592, 593, 108), (598, 597, 14, 108), (631, 629, 630, 108), (822, 820, 821, 108), (1325, 1323, 1324, 108), (1329, 1327, 1328, 108), (749, 748, 0, 107), (752, 751, 0, 107), (425, 423, 424, 107), (442, 440, 441, 107), (813, 811, 812, 107), (626, 624, 625, 107), (673, 671, 672, 107), (900, 898, 899, 107), (904, 902, 903, 107), (736, 734, 735, 107), (732, 730, 731, 107), (682, 680, 681, 107), (790, 788, 789, 107), (648, 646, 647, 112), (552, 550, 551, 112), (558, 556, 557, 112), (702, 700, 701, 112), (450, 448, 449, 110), (543, 542, 6, 110), (455, 454, 0, 110), (459, 458, 1, 110), (466, 465, 2, 110), (479, 478, 3, 110), (539, 538, 5, 110), (495, 494, 4, 110), (462, 461, 0, 110), (471, 470, 0, 110), (438, 436, 437, 109), (548, 547, 7, 109), (571, 570, 9, 109), (581, 580, 11, 109), (585, 584, 12, 109), (740, 739, 31, 109), (678, 677, 21, 109), (575, 574, 10, 109), (589, 588, 13, 109), (805, 804, 39, 109), (809, 808, 40, 109), (567, 566, 8, 109), (799, 798, 38, 109), (607, 606, 15, 109), (615, 614, 16, 109), (644, 643, 17, 109), (659, 658, 18, 109), (663, 662, 19, 109), (774, 773, 34, 109), (795, 794, 37, 109), (778, 777, 35, 109), (782, 781, 36, 109), (686, 685, 22, 109), (690, 689, 23, 109), (694, 693, 24, 109), (698, 697, 25, 109), (712, 711, 26, 109), (716, 715, 27, 109), (720, 719, 28, 109), (724, 723, 29, 109), (728, 727, 30, 109), (669, 668, 20, 109), (756, 755, 33, 109), (746, 745, 32, 109), (951, 949, 950, 113), (1290, 1288, 1289, 113), (1295, 1294, 56, 113), (957, 955, 956, 113), (1300, 1298, 1299, 113), (962, 961, 42, 113), (1272, 1271, 54, 113), (1279, 1278, 0, 113), (1276, 1275, 55, 113), (974, 973, 45, 113), (982, 981, 47, 113), (966, 965, 43, 113), (996, 995, 50, 113), (990, 989, 49, 113), (986, 985, 48, 113), (1000, 999, 51, 113), (1004, 1003, 52, 113), (1268, 1267, 53, 113), (970, 969, 44, 113), (978, 977, 46, 113), (410, 408, 409, 106), (421, 419, 420, 106), (831, 829, 830, 106), (931, 929, 930, 106), (1286, 1284, 1285, 106), (1307, 1305, 1306, 106), (1314, 1312, 1313, 106), (1321, 1319, 1320, 106), (818, 816, 817, 106), (413, 412, 0, 106), (417, 416, 0, 106), (485, 483, 484, 118), (499, 497, 498, 118), (489, 487, 488, 118), (503, 501, 502, 118), (506, 505, 0, 119), (1012, 1011, 0, 117), (434, 433, 0, 117), (1009, 1008, 0, 117), (907, 906, 0, 115), (428, 427, 0, 115)]
/-- fields by owner and place in its pool: (place, class, slot, where the word stands) -/
def pm_gfl : List (List (Nat × Nat × Nat × Nat)) := [
  [(9, 0, 0, 337), (17, 0, 1, 338), (21, 0, 2, 340), (24, 0, 6, 348), (39, 3, 2, 181), (43, 1, 4, 158), (64, 0, 9, 351), (67, 0, 3, 342), (70, 0, 4, 344), (73, 0, 7, 349), (76, 3, 13, 205), (79, 0, 8, 350), (82, 0, 5, 346), (87, 3, 12, 203), (90, 3, 10, 198), (93, 3, 11, 200), (148, 3, 4, 186), (154, 3, 6, 192), (172, 3, 7, 194)],
  [(9, 1, 0, 153), (15, 1, 1, 154), (19, 1, 2, 155), (22, 1, 3, 156), (26, 1, 4, 157)],
  [(11, 2, 0, 297), (19, 3, 0, 177), (26, 2, 1, 298), (35, 2, 2, 299), (45, 2, 9, 306), (51, 2, 3, 300), (55, 2, 6, 303), (59, 2, 7, 304), (62, 3, 1, 178), (91, 3, 12, 201), (94, 3, 13, 204), (101, 3, 15, 210), (104, 4, 4, 269), (107, 2, 8, 305), (110, 4, 0, 261), (114, 4, 1, 263), (118, 2, 10, 307), (134, 4, 2, 265), (150, 3, 2, 183), (171, 4, 3, 267), (180, 2, 5, 302), (183, 3, 6, 191), (186, 2, 4, 301), (239, 3, 14, 209), (348, 1, 4, 161)],
  [(11, 3, 0, 176), (20, 3, 2, 180), (24, 3, 3, 184), (28, 3, 4, 185), (31, 3, 6, 189), (34, 3, 7, 193), (37, 3, 8, 195), (40, 3, 9, 196), (44, 3, 10, 197), (47, 3, 11, 199), (56, 3, 1, 179), (69, 3, 5, 187), (72, 3, 12, 202), (75, 3, 13, 206), (78, 3, 14, 207), (81, 3, 15, 212), (89, 1, 4, 159)],
  [(9, 4, 5, 270), (17, 4, 0, 260), (21, 4, 1, 262), (25, 4, 2, 264), (28, 4, 3, 266), (37, 4, 6, 271), (41, 4, 4, 268), (44, 4, 7, 272), (65, 4, 8, 273)],
  [(9, 5, 0, 373), (16, 5, 2, 375), (25, 5, 3, 376), (29, 5, 4, 377), (33, 5, 5, 378), (39, 5, 6, 379), (43, 5, 7, 380), (46, 5, 1, 374), (62, 5, 9, 382), (76, 5, 10, 383), (79, 3, 15, 211), (105, 5, 8, 381), (116, 0, 5, 347), (126, 0, 1, 339), (129, 0, 3, 343), (132, 0, 2, 341), (135, 3, 6, 190), (139, 3, 2, 182), (151, 1, 4, 160), (157, 3, 5, 188), (160, 3, 14, 208), (163, 0, 4, 345)],
  [(7, 6, 1, 1338), (13, 6, 2, 1339), (16, 6, 21, 1358), (20, 6, 22, 1359), (23, 6, 23, 1360), (26, 6, 24, 1361), (29, 6, 25, 1362), (32, 6, 26, 1363), (36, 6, 27, 1364), (39, 6, 28, 1365), (42, 6, 29, 1366), (45, 6, 30, 1367), (48, 6, 31, 1368), (51, 6, 32, 1369), (54, 6, 33, 1370), (57, 6, 34, 1371), (60, 6, 35, 1372), (63, 6, 36, 1373), (66, 6, 39, 1376), (69, 6, 40, 1377), (72, 6, 41, 1378), (75, 6, 45, 1382), (78, 6, 46, 1383), (81, 6, 47, 1384), (84, 6, 48, 1385), (87, 6, 49, 1386), (90, 6, 55, 1392), (93, 6, 56, 1393), (96, 6, 57, 1394), (99, 6, 59, 1396), (102, 6, 60, 1397), (105, 6, 61, 1398), (108, 6, 62, 1399), (111, 6, 63, 1400), (114, 6, 0, 1337), (118, 6, 3, 1340), (129, 6, 4, 1341), (132, 6, 5, 1342), (135, 6, 7, 1344), (142, 6, 6, 1343), (162, 6, 8, 1345), (165, 6, 9, 1346), (193, 6, 10, 1347), (205, 6, 11, 1348), (208, 6, 12, 1349), (215, 6, 38, 1375), (218, 6, 20, 1357), (221, 6, 42, 1379), (228, 6, 13, 1350), (240, 6, 14, 1351), (243, 6, 15, 1352), (246, 6, 18, 1355), (249, 6, 16, 1353), (252, 6, 58, 1395), (328, 6, 17, 1354), (334, 6, 37, 1374), (343, 6, 19, 1356), (366, 6, 44, 1381), (372, 6, 43, 1380), (383, 6, 50, 1387), (386, 6, 52, 1389), (392, 6, 51, 1388), (395, 6, 54, 1391), (405, 6, 53, 1390)],
  [],
  [],
  [],
  [],
  [],
  []]
/-- calls by owner and place in its pool: (place, method, where the word stands) -/
def pm_ivl : List (List (Nat × Nat × Nat)) := [
  [(27, 172, 952), (49, 67, 1291), (53, 134, 1292), (57, 79, 1296), (61, 71, 992), (96, 137, 959), (100, 143, 963), (103, 150, 967), (107, 141, 971), (110, 151, 975), (114, 142, 979), (117, 146, 983), (120, 147, 997), (123, 148, 1001), (126, 149, 1265), (129, 138, 1269), (132, 144, 993), (137, 140, 1273), (141, 139, 1277), (144, 78, 991), (151, 145, 987), (157, 63, 1005), (160, 72, 1006), (163, 170, 1007), (169, 80, 1264)],
  [(30, 62, 620), (34, 66, 595), (38, 63, 632), (42, 69, 1330)],
  [(48, 74, 439), (65, 88, 447), (69, 99, 545), (72, 85, 549), (79, 109, 564), (82, 113, 641), (85, 110, 796), (88, 107, 802), (97, 101, 578), (121, 102, 582), (137, 65, 591), (141, 62, 599), (144, 100, 568), (147, 105, 572), (153, 106, 586), (160, 108, 806), (167, 75, 810), (189, 61, 603), (190, 111, 604), (193, 76, 623), (199, 86, 638), (202, 112, 612), (208, 121, 687), (212, 103, 737), (220, 82, 679), (223, 64, 616), (236, 84, 645), (241, 114, 656), (244, 115, 660), (247, 104, 675), (254, 116, 771), (260, 117, 792), (263, 129, 666), (267, 120, 683), (273, 130, 753), (276, 131, 743), (280, 118, 775), (283, 119, 779), (289, 83, 787), (292, 122, 691), (301, 123, 695), (316, 87, 699), (319, 124, 709), (322, 125, 713), (325, 126, 717), (328, 127, 721), (331, 80, 741), (334, 67, 742), (335, 128, 725), (339, 81, 729), (342, 77, 670), (345, 71, 747), (349, 72, 750)],
  [(50, 172, 426), (66, 61, 443), (85, 62, 627), (92, 64, 814), (96, 67, 628), (100, 63, 674), (103, 79, 901), (107, 171, 905), (110, 80, 733)],
  [(31, 172, 451), (47, 90, 452), (50, 91, 456), (54, 89, 540), (68, 96, 460), (72, 92, 463), (75, 97, 469), (78, 93, 476), (81, 94, 536), (98, 163, 482), (103, 95, 492), (110, 164, 496)],
  [(50, 161, 411), (54, 162, 415), (58, 73, 422), (66, 169, 432), (72, 98, 435), (85, 78, 897), (92, 71, 923), (108, 132, 948), (112, 135, 954), (119, 133, 1287), (122, 136, 1297), (142, 69, 1322), (147, 70, 1326), (154, 68, 819)],
  [(138, 4, 1546), (145, 3, 1550), (149, 6, 1553), (152, 2, 1560), (155, 7, 1563), (158, 8, 1576), (196, 5, 1542), (199, 10, 1624), (202, 9, 1612), (211, 13, 1620), (225, 17, 1608), (231, 14, 1616), (237, 11, 1629), (255, 20, 1588), (259, 23, 1596), (263, 24, 1685), (266, 25, 1600), (269, 15, 1580), (273, 21, 1584), (276, 27, 1641), (279, 28, 1649), (283, 29, 1653), (286, 30, 1673), (289, 31, 1677), (292, 32, 1681), (295, 36, 1689), (299, 37, 1693), (302, 12, 1645), (306, 38, 1697), (309, 39, 1701), (313, 42, 1705), (316, 41, 1721), (319, 45, 1728), (322, 18, 1604), (325, 26, 1633), (331, 19, 1637), (337, 35, 1657), (340, 16, 1669), (346, 34, 1661), (350, 33, 1665), (354, 40, 1725), (357, 43, 1709), (360, 44, 1713), (363, 46, 1717), (369, 22, 1592), (375, 48, 1736), (379, 0, 1740), (389, 51, 1756), (398, 52, 1752), (401, 50, 1760), (408, 53, 1748), (411, 55, 1767)],
  [(153, 86, 555)],
  [(335, 165, 486), (492, 166, 500), (495, 167, 504)],
  [],
  [(13, 168, 1010), (304, 172, 1084)],
  [],
  [(7, 154, 828), (17, 155, 928), (23, 156, 1283), (26, 157, 1304), (30, 158, 1311), (33, 159, 1318), (43, 152, 407), (47, 1, 1530), (48, 153, 418), (52, 47, 1538), (58, 49, 1732), (62, 54, 1744), (65, 56, 1763), (69, 57, 1771), (72, 58, 1775), (76, 59, 1779), (77, 160, 815), (80, 60, 1783)]]
def pm_kll : List (List (Nat × Int64 × Nat)) := [
  [(85, 2, 958)],
  [],
  [],
  [],
  [(84, 4294967296, 467), (86, 10, 468)],
  [(166, 255, 414)],
  [(121, 255, 1534), (123, 10, 1535), (125, 31, 1536), (127, 127, 1537), (169, 48, 1557), (171, 4294967296, 1558), (173, 4294967295, 1559), (175, -1, 1567), (177, 7370082, 1568), (179, 7562595, 1569), (181, 6714734, 1570), (183, 125780071117422, 1571), (185, 26982, 1572), (187, 1701606245, 1573), (189, 512852847717, 1574), (191, 1936419184, 1575), (235, 64, 1628)],
  [],
  [],
  [],
  [],
  [],
  [(41, 4294967295, 1787)]]
end
section
/-! The instructions of each method, by their places; each is what decode says (checked at the end) -/
/-- QuietCheckerModel.fails(ZZ)Z -/
def pm_l0 : List (Nat × Instr) := [(0, .aload_n 0), (1, .iload_n 1), (2, .ifCond .eq 7), (5, .iconst 1), (6, .goto 12), (9, .iload_n 2), (10, .ifCond .eq 7), (13, .iconst 2), (14, .goto 4), (17, .iconst 0), (18, .putfield 114), (21, .aload_n 0), (22, .getfield 114), (25, .ifCond .le 7), (28, .iconst 1), (29, .goto 4), (32, .iconst 0), (33, .ireturn)]
/-- QuietCheckerModel.feed(JI)Z -/
def pm_l1 : List (Nat × Instr) := [(0, .aload_n 0), (1, .iconst 0), (2, .putfield 114), (5, .iload_n 3), (6, .ifCond .le 25), (9, .iload_n 3), (10, .bipush 9), (12, .if_icmp .ge 19), (15, .aload_n 0), (16, .getfield 118), (19, .iload_n 3), (20, .iadd), (21, .sipush 3000), (24, .if_icmp .gt 7), (27, .iconst 1), (28, .goto 4), (31, .iconst 0), (32, .istore 4), (34, .iconst 0), (35, .istore 5), (37, .iload 5), (39, .iload_n 3), (40, .if_icmp .ge 61), (43, .iload 4), (45, .ifCond .eq 56), (48, .lload_n 1), (49, .bipush 8), (51, .iload 5), (53, .imul), (54, .lshr), (55, .ldc2_w 121), (58, .land), (59, .lstore 6), (61, .lload 6), (63, .ldc2_w 123), (66, .lcmp), (67, .ifCond .eq 21), (70, .lload 6), (72, .ldc2_w 125), (75, .lcmp), (76, .ifCond .le 16), (79, .lload 6), (81, .ldc2_w 127), (84, .lcmp), (85, .ifCond .ge 7), (88, .iconst 1), (89, .goto 4), (92, .iconst 0), (93, .istore 4), (95, .iinc 5 1), (98, .goto (-61)), (101, .iconst 0), (102, .istore 5), (104, .iload 5), (106, .iload_n 3), (107, .if_icmp .ge 43), (110, .iload 4), (112, .ifCond .eq 38), (115, .aload_n 0), (116, .getfield 7), (119, .aload_n 0), (120, .getfield 118), (123, .iload 5), (125, .iadd), (126, .lload_n 1), (127, .bipush 8), (129, .iload_n 3), (130, .iconst 1), (131, .isub), (132, .iload 5), (134, .isub), (135, .imul), (136, .lshr), (137, .ldc2_w 121), (140, .land), (141, .l2i), (142, .i2c), (143, .castore), (144, .iinc 5 1), (147, .goto (-43)), (150, .aload_n 0), (151, .iload 4), (153, .ifCond .eq 12), (156, .aload_n 0), (157, .getfield 118), (160, .iload_n 3), (161, .iadd), (162, .goto 7), (165, .aload_n 0), (166, .getfield 118), (169, .putfield 118), (172, .iload 4), (174, .ireturn)]
/-- QuietCheckerModel.isLetter(I)Z -/
def pm_l2 : List (Nat × Instr) := [(0, .iload_n 0), (1, .bipush 97), (3, .if_icmp .lt 9), (6, .iload_n 0), (7, .bipush 122), (9, .if_icmp .le 21), (12, .iload_n 0), (13, .bipush 65), (15, .if_icmp .lt 9), (18, .iload_n 0), (19, .bipush 90), (21, .if_icmp .le 9), (24, .iload_n 0), (25, .bipush 95), (27, .if_icmp .ne 7), (30, .iconst 1), (31, .goto 4), (34, .iconst 0), (35, .ireturn)]
/-- QuietCheckerModel.isDigit(I)Z -/
def pm_l3 : List (Nat × Instr) := [(0, .iload_n 0), (1, .bipush 48), (3, .if_icmp .lt 13), (6, .iload_n 0), (7, .bipush 57), (9, .if_icmp .gt 7), (12, .iconst 1), (13, .goto 4), (16, .iconst 0), (17, .ireturn)]
/-- QuietCheckerModel.charAt(I)I -/
def pm_l4 : List (Nat × Instr) := [(0, .iload_n 1), (1, .aload_n 0), (2, .getfield 129), (5, .if_icmp .ge 12), (8, .aload_n 0), (9, .getfield 13), (12, .iload_n 1), (13, .caload), (14, .goto 4), (17, .iconst 0), (18, .ireturn)]
/-- QuietCheckerModel.next()V -/
def pm_l5 : List (Nat × Instr) := [(0, .iconst 0), (1, .istore_n 1), (2, .aload_n 0), (3, .getfield 132), (6, .aload_n 0), (7, .getfield 129), (10, .if_icmp .ge 100), (13, .iload_n 1), (14, .ifCond .ne 45), (17, .aload_n 0), (18, .getfield 13), (21, .aload_n 0), (22, .getfield 132), (25, .caload), (26, .bipush 32), (28, .if_icmp .eq 31), (31, .aload_n 0), (32, .getfield 13), (35, .aload_n 0), (36, .getfield 132), (39, .caload), (40, .bipush 10), (42, .if_icmp .eq 17), (45, .aload_n 0), (46, .getfield 13), (49, .aload_n 0), (50, .getfield 132), (53, .caload), (54, .bipush 35), (56, .if_icmp .ne 54), (59, .aload_n 0), (60, .getfield 13), (63, .aload_n 0), (64, .getfield 132), (67, .caload), (68, .bipush 10), (70, .if_icmp .eq 25), (73, .iload_n 1), (74, .ifCond .ne 17), (77, .aload_n 0), (78, .getfield 13), (81, .aload_n 0), (82, .getfield 132), (85, .caload), (86, .bipush 35), (88, .if_icmp .ne 7), (91, .iconst 1), (92, .goto 4), (95, .iconst 0), (96, .istore_n 1), (97, .aload_n 0), (98, .dup), (99, .getfield 132), (102, .iconst 1), (103, .iadd), (104, .putfield 132), (107, .goto (-105)), (110, .aload_n 0), (111, .aload_n 0), (112, .getfield 132), (115, .putfield 135), (118, .aload_n 0), (119, .aload_n 0), (120, .getfield 132), (123, .invokevirtual 138), (126, .istore_n 2), (127, .aload_n 0), (128, .getfield 132), (131, .aload_n 0), (132, .getfield 129), (135, .if_icmp .ne 12), (138, .aload_n 0), (139, .bipush 12), (141, .putfield 142), (144, .goto 36), (147, .iload_n 2), (148, .invokestatic 145), (151, .ifCond .eq 10), (154, .aload_n 0), (155, .invokevirtual 149), (158, .goto 22), (161, .iload_n 2), (162, .invokestatic 152), (165, .ifCond .eq 10), (168, .aload_n 0), (169, .invokevirtual 155), (172, .goto 8), (175, .aload_n 0), (176, .iload_n 2), (177, .invokevirtual 158), (180, .aload_n 0), (181, .aload_n 0), (182, .getfield 132), (185, .putfield 162), (188, .return_)]
/-- QuietCheckerModel.digits()V -/
def pm_l6 : List (Nat × Instr) := [(0, .aload_n 0), (1, .lconst 0), (2, .putfield 165), (5, .aload_n 0), (6, .aload_n 0), (7, .getfield 132), (10, .invokevirtual 138), (13, .invokestatic 145), (16, .ifCond .eq 67), (19, .aload_n 0), (20, .ldc2_w 123), (23, .aload_n 0), (24, .getfield 165), (27, .lmul), (28, .aload_n 0), (29, .aload_n 0), (30, .getfield 132), (33, .invokevirtual 138), (36, .i2l), (37, .ladd), (38, .ldc2_w 169), (41, .lsub), (42, .putfield 165), (45, .aload_n 0), (46, .aload_n 0), (47, .getfield 165), (50, .ldc2_w 171), (53, .lcmp), (54, .ifCond .le 9), (57, .ldc2_w 171), (60, .goto 7), (63, .aload_n 0), (64, .getfield 165), (67, .putfield 165), (70, .aload_n 0), (71, .dup), (72, .getfield 132), (75, .iconst 1), (76, .iadd), (77, .putfield 132), (80, .goto (-75)), (83, .aload_n 0), (84, .aload_n 0), (85, .getfield 165), (88, .ldc2_w 173), (91, .lcmp), (92, .ifCond .gt 17), (95, .aload_n 0), (96, .aload_n 0), (97, .getfield 132), (100, .invokevirtual 138), (103, .invokestatic 152), (106, .ifCond .eq 7), (109, .iconst 1), (110, .goto 4), (113, .iconst 2), (114, .putfield 142), (117, .return_)]
/-- QuietCheckerModel.word()V -/
def pm_l7 : List (Nat × Instr) := [(0, .lconst 0), (1, .lstore_n 1), (2, .aload_n 0), (3, .aload_n 0), (4, .getfield 132), (7, .invokevirtual 138), (10, .invokestatic 152), (13, .ifCond .ne 17), (16, .aload_n 0), (17, .aload_n 0), (18, .getfield 132), (21, .invokevirtual 138), (24, .invokestatic 145), (27, .ifCond .eq 51), (30, .aload_n 0), (31, .getfield 132), (34, .aload_n 0), (35, .getfield 135), (38, .isub), (39, .bipush 6), (41, .if_icmp .ge 20), (44, .lload_n 1), (45, .bipush 8), (47, .lshl), (48, .aload_n 0), (49, .aload_n 0), (50, .getfield 132), (53, .invokevirtual 138), (56, .i2l), (57, .lor), (58, .goto 6), (61, .ldc2_w 175), (64, .lstore_n 1), (65, .aload_n 0), (66, .dup), (67, .getfield 132), (70, .iconst 1), (71, .iadd), (72, .putfield 132), (75, .goto (-73)), (78, .aload_n 0), (79, .aload_n 0), (80, .getfield 132), (83, .aload_n 0), (84, .getfield 135), (87, .isub), (88, .bipush 15), (90, .if_icmp .le 7), (93, .iconst 1), (94, .goto 106), (97, .lload_n 1), (98, .ldc2_w 177), (101, .lcmp), (102, .ifCond .ne 7), (105, .iconst 4), (106, .goto 94), (109, .lload_n 1), (110, .ldc2_w 179), (113, .lcmp), (114, .ifCond .ne 7), (117, .iconst 5), (118, .goto 82), (121, .lload_n 1), (122, .ldc2_w 181), (125, .lcmp), (126, .ifCond .ne 8), (129, .bipush 6), (131, .goto 69), (134, .lload_n 1), (135, .ldc2_w 183), (138, .lcmp), (139, .ifCond .ne 8), (142, .bipush 7), (144, .goto 56), (147, .lload_n 1), (148, .ldc2_w 185), (151, .lcmp), (152, .ifCond .ne 8), (155, .bipush 8), (157, .goto 43), (160, .lload_n 1), (161, .ldc2_w 187), (164, .lcmp), (165, .ifCond .ne 8), (168, .bipush 9), (170, .goto 30), (173, .lload_n 1), (174, .ldc2_w 189), (177, .lcmp), (178, .ifCond .ne 8), (181, .bipush 10), (183, .goto 17), (186, .lload_n 1), (187, .ldc2_w 191), (190, .lcmp), (191, .ifCond .ne 8), (194, .bipush 11), (196, .goto 4), (199, .iconst 3), (200, .putfield 142), (203, .return_)]
/-- QuietCheckerModel.sign(I)V -/
def pm_l8 : List (Nat × Instr) := [(0, .aload_n 0), (1, .aload_n 0), (2, .getfield 132), (5, .iconst 1), (6, .iadd), (7, .invokevirtual 138), (10, .istore_n 2), (11, .iload_n 1), (12, .bipush 60), (14, .if_icmp .eq 9), (17, .iload_n 1), (18, .bipush 62), (20, .if_icmp .ne 8), (23, .iload_n 2), (24, .iload_n 1), (25, .if_icmp .eq 27), (28, .iload_n 1), (29, .bipush 60), (31, .if_icmp .eq 15), (34, .iload_n 1), (35, .bipush 61), (37, .if_icmp .eq 9), (40, .iload_n 1), (41, .bipush 33), (43, .if_icmp .ne 13), (46, .iload_n 2), (47, .bipush 61), (49, .if_icmp .ne 7), (52, .iconst 1), (53, .goto 4), (56, .iconst 0), (57, .istore_n 3), (58, .aload_n 0), (59, .dup), (60, .getfield 132), (63, .iload_n 3), (64, .ifCond .eq 7), (67, .iconst 2), (68, .goto 4), (71, .iconst 1), (72, .iadd), (73, .putfield 132), (76, .iload_n 1), (77, .bipush 43), (79, .if_icmp .eq 129), (82, .iload_n 1), (83, .bipush 45), (85, .if_icmp .eq 123), (88, .iload_n 1), (89, .bipush 42), (91, .if_icmp .eq 117), (94, .iload_n 1), (95, .bipush 47), (97, .if_icmp .eq 111), (100, .iload_n 1), (101, .bipush 37), (103, .if_icmp .eq 105), (106, .iload_n 1), (107, .bipush 38), (109, .if_icmp .eq 99), (112, .iload_n 1), (113, .bipush 124), (115, .if_icmp .eq 93), (118, .iload_n 1), (119, .bipush 94), (121, .if_icmp .eq 87), (124, .iload_n 1), (125, .bipush 126), (127, .if_icmp .eq 81), (130, .iload_n 1), (131, .bipush 33), (133, .if_icmp .eq 75), (136, .iload_n 1), (137, .bipush 60), (139, .if_icmp .eq 69), (142, .iload_n 1), (143, .bipush 63), (145, .if_icmp .eq 63), (148, .iload_n 1), (149, .bipush 58), (151, .if_icmp .eq 57), (154, .iload_n 1), (155, .bipush 61), (157, .if_icmp .eq 51), (160, .iload_n 1), (161, .bipush 40), (163, .if_icmp .eq 45), (166, .iload_n 1), (167, .bipush 41), (169, .if_icmp .eq 39), (172, .iload_n 1), (173, .bipush 91), (175, .if_icmp .eq 33), (178, .iload_n 1), (179, .bipush 93), (181, .if_icmp .eq 27), (184, .iload_n 1), (185, .bipush 123), (187, .if_icmp .eq 21), (190, .iload_n 1), (191, .bipush 125), (193, .if_icmp .eq 15), (196, .iload_n 1), (197, .bipush 59), (199, .if_icmp .eq 9), (202, .iload_n 1), (203, .bipush 44), (205, .if_icmp .ne 7), (208, .iconst 1), (209, .goto 4), (212, .iconst 0), (213, .istore 4), (215, .aload_n 0), (216, .iload_n 3), (217, .ifCond .eq 13), (220, .sipush 256), (223, .iload_n 1), (224, .imul), (225, .iload_n 2), (226, .iadd), (227, .goto 13), (230, .iload 4), (232, .ifCond .eq 7), (235, .iload_n 1), (236, .goto 4), (239, .iconst 1), (240, .putfield 142), (243, .return_)]
/-- QuietCheckerModel.fail(I)V -/
def pm_l9 : List (Nat × Instr) := [(0, .aload_n 0), (1, .aload_n 0), (2, .getfield 193), (5, .ifCond .ne 15), (8, .iload_n 1), (9, .bipush 16), (11, .aload_n 0), (12, .getfield 135), (15, .imul), (16, .iadd), (17, .goto 7), (20, .aload_n 0), (21, .getfield 193), (24, .putfield 193), (27, .return_)]
/-- QuietCheckerModel.meets(I)Z -/
def pm_l10 : List (Nat × Instr) := [(0, .aload_n 0), (1, .getfield 193), (4, .ifCond .gt 11), (7, .aload_n 0), (8, .getfield 142), (11, .iload_n 1), (12, .if_icmp .eq 5), (15, .iconst 0), (16, .ireturn), (17, .aload_n 0), (18, .invokevirtual 196), (21, .iconst 1), (22, .ireturn)]
/-- QuietCheckerModel.must(I)V -/
def pm_l11 : List (Nat × Instr) := [(0, .aload_n 0), (1, .iload_n 1), (2, .invokevirtual 199), (5, .ifCond .ne 8), (8, .aload_n 0), (9, .iconst 1), (10, .invokevirtual 202), (13, .return_)]
/-- QuietCheckerModel.forbid(II)V -/
def pm_l12 : List (Nat × Instr) := [(0, .aload_n 0), (1, .getfield 205), (4, .ifCond .lt 28), (7, .aload_n 0), (8, .getfield 205), (11, .iload_n 2), (12, .if_icmp .lt 19), (15, .aload_n 0), (16, .getfield 205), (19, .iload_n 2), (20, .if_icmp .ne 12), (23, .aload_n 0), (24, .getfield 208), (27, .iload_n 1), (28, .if_icmp .ge 4), (31, .return_), (32, .aload_n 0), (33, .iload_n 2), (34, .putfield 205), (37, .aload_n 0), (38, .iload_n 1), (39, .putfield 208), (42, .return_)]
/-- QuietCheckerModel.same(IIII)Z -/
def pm_l13 : List (Nat × Instr) := [(0, .iload_n 2), (1, .iload 4), (3, .if_icmp .ne 7), (6, .iconst 1), (7, .goto 4), (10, .iconst 0), (11, .istore 5), (13, .iconst 0), (14, .istore 6), (16, .iload 6), (18, .iload_n 2), (19, .if_icmp .ge 42), (22, .iload 5), (24, .ifCond .eq 37), (27, .aload_n 0), (28, .getfield 13), (31, .iload_n 1), (32, .iload 6), (34, .iadd), (35, .caload), (36, .aload_n 0), (37, .getfield 13), (40, .iload_n 3), (41, .iload 6), (43, .iadd), (44, .caload), (45, .if_icmp .ne 7), (48, .iconst 1), (49, .goto 4), (52, .iconst 0), (53, .istore 5), (55, .iinc 6 1), (58, .goto (-42)), (61, .iload 5), (63, .ireturn)]
/-- QuietCheckerModel.find([I[II)I -/
def pm_l14 : List (Nat × Instr) := [(0, .iconst (-1)), (1, .istore 4), (3, .iconst 0), (4, .istore 5), (6, .iload 5), (8, .iload_n 3), (9, .if_icmp .ge 46), (12, .aload_n 0), (13, .aload_n 1), (14, .iload 5), (16, .iaload), (17, .aload_n 2), (18, .iload 5), (20, .iaload), (21, .aload_n 0), (22, .getfield 135), (25, .aload_n 0), (26, .getfield 162), (29, .aload_n 0), (30, .getfield 135), (33, .isub), (34, .invokevirtual 211), (37, .ifCond .eq 8), (40, .iload 5), (42, .goto 5), (45, .iload 4), (47, .istore 4), (49, .iinc 5 1), (52, .goto (-46)), (55, .iload 4), (57, .ireturn)]
/-- QuietCheckerModel.say(III)V -/
def pm_l15 : List (Nat × Instr) := [(0, .aload_n 0), (1, .getfield 66), (4, .aload_n 0), (5, .getfield 215), (8, .iload_n 1), (9, .iastore), (10, .aload_n 0), (11, .getfield 69), (14, .aload_n 0), (15, .getfield 215), (18, .iload_n 2), (19, .iastore), (20, .aload_n 0), (21, .getfield 72), (24, .aload_n 0), (25, .getfield 215), (28, .iload_n 3), (29, .iastore), (30, .aload_n 0), (31, .dup), (32, .getfield 215), (35, .iconst 1), (36, .iadd), (37, .putfield 215), (40, .return_)]
/-- QuietCheckerModel.deeper()V -/
def pm_l16 : List (Nat × Instr) := [(0, .aload_n 0), (1, .getfield 218), (4, .bipush 10), (6, .if_icmp .ne 8), (9, .aload_n 0), (10, .iconst 4), (11, .invokevirtual 202), (14, .aload_n 0), (15, .dup), (16, .getfield 218), (19, .iconst 1), (20, .iadd), (21, .putfield 218), (24, .return_)]
/-- QuietCheckerModel.label0()V -/
def pm_l17 : List (Nat × Instr) := [(0, .aload_n 0), (1, .aload_n 0), (2, .getfield 142), (5, .iconst 5), (6, .if_icmp .ne 7), (9, .iconst 1), (10, .goto 4), (13, .iconst 0), (14, .putfield 221), (17, .aload_n 0), (18, .getfield 142), (21, .iconst 4), (22, .if_icmp .eq 16), (25, .aload_n 0), (26, .getfield 142), (29, .iconst 5), (30, .if_icmp .eq 8), (33, .aload_n 0), (34, .iconst 1), (35, .invokevirtual 202), (38, .aload_n 0), (39, .getfield 193), (42, .ifCond .ne 7), (45, .aload_n 0), (46, .invokevirtual 196), (49, .return_)]
/-- QuietCheckerModel.top()V -/
def pm_l18 : List (Nat × Instr) := [(0, .aload_n 0), (1, .invokevirtual 225), (4, .aload_n 0), (5, .getfield 193), (8, .ifCond .ne 16), (11, .aload_n 0), (12, .getfield 142), (15, .iconst 3), (16, .if_icmp .eq 8), (19, .aload_n 0), (20, .iconst 1), (21, .invokevirtual 202), (24, .aload_n 0), (25, .getfield 193), (28, .ifCond .ne 27), (31, .aload_n 0), (32, .aload_n 0), (33, .getfield 16), (36, .aload_n 0), (37, .getfield 20), (40, .aload_n 0), (41, .getfield 228), (44, .invokevirtual 231), (47, .ifCond .lt 8), (50, .aload_n 0), (51, .iconst 3), (52, .invokevirtual 202), (55, .aload_n 0), (56, .getfield 193), (59, .ifCond .ne 17), (62, .aload_n 0), (63, .getfield 228), (66, .bipush 40), (68, .if_icmp .ne 8), (71, .aload_n 0), (72, .iconst 4), (73, .invokevirtual 202), (76, .aload_n 0), (77, .getfield 193), (80, .ifCond .le 4), (83, .return_), (84, .aload_n 0), (85, .getfield 228), (88, .istore_n 1), (89, .aload_n 0), (90, .getfield 16), (93, .iload_n 1), (94, .aload_n 0), (95, .getfield 135), (98, .iastore), (99, .aload_n 0), (100, .getfield 20), (103, .iload_n 1), (104, .aload_n 0), (105, .getfield 162), (108, .aload_n 0), (109, .getfield 135), (112, .isub), (113, .iastore), (114, .aload_n 0), (115, .getfield 32), (118, .iload_n 1), (119, .aload_n 0), (120, .getfield 221), (123, .bastore), (124, .aload_n 0), (125, .invokevirtual 196), (128, .aload_n 0), (129, .bipush 91), (131, .invokevirtual 199), (134, .istore_n 2), (135, .iconst 1), (136, .istore_n 3), (137, .iload_n 2), (138, .ifCond .eq 59), (141, .aload_n 0), (142, .getfield 142), (145, .iconst 2), (146, .if_icmp .ne 23), (149, .aload_n 0), (150, .getfield 165), (153, .lconst 1), (154, .lcmp), (155, .ifCond .lt 14), (158, .aload_n 0), (159, .getfield 165), (162, .ldc2_w 235), (165, .lcmp), (166, .ifCond .le 8), (169, .aload_n 0), (170, .iconst 1), (171, .invokevirtual 202), (174, .aload_n 0), (175, .getfield 165), (178, .l2i), (179, .istore_n 3), (180, .aload_n 0), (181, .getfield 193), (184, .ifCond .ne 7), (187, .aload_n 0), (188, .invokevirtual 196), (191, .aload_n 0), (192, .bipush 93), (194, .invokevirtual 237), (197, .aload_n 0), (198, .bipush 59), (200, .invokevirtual 237), (203, .aload_n 0), (204, .getfield 193), (207, .ifCond .le 4), (210, .return_), (211, .aload_n 0), (212, .getfield 23), (215, .iload_n 1), (216, .iload_n 2), (217, .ifCond .eq 7), (220, .iload_n 3), (221, .goto 4), (224, .iconst 0), (225, .iastore), (226, .aload_n 0), (227, .getfield 26), (230, .iload_n 1), (231, .iload_n 2), (232, .ifCond .eq 10), (235, .aload_n 0), (236, .getfield 240), (239, .goto 4), (242, .iconst (-1)), (243, .iastore), (244, .aload_n 0), (245, .getfield 29), (248, .iload_n 1), (249, .aload_n 0), (250, .getfield 243), (253, .iastore), (254, .aload_n 0), (255, .dup), (256, .getfield 243), (259, .iload_n 3), (260, .iadd), (261, .putfield 243), (264, .aload_n 0), (265, .iload_n 2), (266, .ifCond .eq 12), (269, .aload_n 0), (270, .getfield 240), (273, .iconst 1), (274, .iadd), (275, .goto 7), (278, .aload_n 0), (279, .getfield 240), (282, .putfield 240), (285, .aload_n 0), (286, .aload_n 0), (287, .getfield 32), (290, .iload_n 1), (291, .baload), (292, .ifCond .eq 12), (295, .aload_n 0), (296, .getfield 246), (299, .iconst 1), (300, .iadd), (301, .goto 7), (304, .aload_n 0), (305, .getfield 246), (308, .putfield 246), (311, .aload_n 0), (312, .dup), (313, .getfield 228), (316, .iconst 1), (317, .iadd), (318, .putfield 228), (321, .return_)]
/-- QuietCheckerModel.own()V -/
def pm_l19 : List (Nat × Instr) := [(0, .aload_n 0), (1, .invokevirtual 225), (4, .aload_n 0), (5, .getfield 193), (8, .ifCond .ne 16), (11, .aload_n 0), (12, .getfield 142), (15, .iconst 3), (16, .if_icmp .eq 8), (19, .aload_n 0), (20, .iconst 1), (21, .invokevirtual 202), (24, .aload_n 0), (25, .getfield 193), (28, .ifCond .ne 27), (31, .aload_n 0), (32, .aload_n 0), (33, .getfield 42), (36, .aload_n 0), (37, .getfield 45), (40, .aload_n 0), (41, .getfield 249), (44, .invokevirtual 231), (47, .ifCond .lt 8), (50, .aload_n 0), (51, .iconst 3), (52, .invokevirtual 202), (55, .aload_n 0), (56, .getfield 193), (59, .ifCond .ne 17), (62, .aload_n 0), (63, .getfield 249), (66, .bipush 12), (68, .if_icmp .ne 8), (71, .aload_n 0), (72, .iconst 4), (73, .invokevirtual 202), (76, .aload_n 0), (77, .getfield 193), (80, .ifCond .le 4), (83, .return_), (84, .aload_n 0), (85, .getfield 42), (88, .aload_n 0), (89, .getfield 249), (92, .aload_n 0), (93, .getfield 135), (96, .iastore), (97, .aload_n 0), (98, .getfield 45), (101, .aload_n 0), (102, .getfield 249), (105, .aload_n 0), (106, .getfield 162), (109, .aload_n 0), (110, .getfield 135), (113, .isub), (114, .iastore), (115, .aload_n 0), (116, .getfield 36), (119, .aload_n 0), (120, .getfield 249), (123, .aload_n 0), (124, .getfield 221), (127, .bastore), (128, .aload_n 0), (129, .dup), (130, .getfield 249), (133, .iconst 1), (134, .iadd), (135, .putfield 249), (138, .aload_n 0), (139, .invokevirtual 196), (142, .return_)]
/-- QuietCheckerModel.wait(IIIII)V -/
def pm_l20 : List (Nat × Instr) := [(0, .aload_n 0), (1, .getfield 99), (4, .aload_n 0), (5, .getfield 252), (8, .iload_n 1), (9, .iastore), (10, .aload_n 0), (11, .getfield 102), (14, .aload_n 0), (15, .getfield 252), (18, .iload_n 2), (19, .iastore), (20, .aload_n 0), (21, .getfield 105), (24, .aload_n 0), (25, .getfield 252), (28, .iload_n 3), (29, .iastore), (30, .aload_n 0), (31, .getfield 108), (34, .aload_n 0), (35, .getfield 252), (38, .iload 4), (40, .iastore), (41, .aload_n 0), (42, .getfield 111), (45, .aload_n 0), (46, .getfield 252), (49, .iload 5), (51, .iastore), (52, .aload_n 0), (53, .dup), (54, .getfield 252), (57, .iconst 1), (58, .iadd), (59, .putfield 252), (62, .return_)]
/-- QuietCheckerModel.plain(I)V -/
def pm_l21 : List (Nat × Instr) := [(0, .aload_n 0), (1, .iload_n 1), (2, .iconst 0), (3, .iconst 0), (4, .iconst 0), (5, .iconst 0), (6, .invokevirtual 255), (9, .return_)]
/-- QuietCheckerModel.goOn()V -/
def pm_l22 : List (Nat × Instr) := [(0, .aload_n 0), (1, .getfield 252), (4, .ifCond .le 104), (7, .aload_n 0), (8, .getfield 193), (11, .ifCond .ne 97), (14, .aload_n 0), (15, .dup), (16, .getfield 252), (19, .iconst 1), (20, .isub), (21, .putfield 252), (24, .aload_n 0), (25, .getfield 99), (28, .aload_n 0), (29, .getfield 252), (32, .iaload), (33, .istore_n 1), (34, .aload_n 0), (35, .getfield 102), (38, .aload_n 0), (39, .getfield 252), (42, .iaload), (43, .istore_n 2), (44, .aload_n 0), (45, .getfield 105), (48, .aload_n 0), (49, .getfield 252), (52, .iaload), (53, .istore_n 3), (54, .aload_n 0), (55, .getfield 108), (58, .aload_n 0), (59, .getfield 252), (62, .iaload), (63, .istore 4), (65, .aload_n 0), (66, .getfield 111), (69, .aload_n 0), (70, .getfield 252), (73, .iaload), (74, .istore 5), (76, .iload_n 1), (77, .bipush 13), (79, .if_icmp .ge 15), (82, .aload_n 0), (83, .iload_n 1), (84, .iload_n 2), (85, .iload_n 3), (86, .iload 4), (88, .invokevirtual 259), (91, .goto 14), (94, .aload_n 0), (95, .iload_n 1), (96, .iload_n 2), (97, .iload_n 3), (98, .iload 4), (100, .iload 5), (102, .invokevirtual 263), (105, .goto (-105)), (108, .return_)]
/-- QuietCheckerModel.rows(IIII)V -/
def pm_l23 : List (Nat × Instr) := [(0, .iload_n 1), (1, .tableswitch 259 1 11 #[59, 67, 92, 123, 134, 154, 167, 188, 196, 209, 230]), (60, .aload_n 0), (61, .iload_n 2), (62, .invokevirtual 266), (65, .goto 201), (68, .aload_n 0), (69, .getfield 142), (72, .bipush 12), (74, .if_icmp .eq 8), (77, .aload_n 0), (78, .iconst 1), (79, .invokevirtual 202), (82, .aload_n 0), (83, .bipush 16), (85, .iconst 0), (86, .iconst 0), (87, .invokevirtual 269), (90, .goto 176), (93, .aload_n 0), (94, .getfield 135), (97, .istore 5), (99, .aload_n 0), (100, .bipush 7), (102, .invokevirtual 237), (105, .aload_n 0), (106, .iconst 4), (107, .iload_n 2), (108, .iload_n 3), (109, .iload 5), (111, .iconst 0), (112, .invokevirtual 255), (115, .aload_n 0), (116, .bipush 17), (118, .invokevirtual 273), (121, .goto 145), (124, .aload_n 0), (125, .iload_n 2), (126, .iload_n 3), (127, .iload 4), (129, .invokevirtual 276), (132, .goto 134), (135, .aload_n 0), (136, .invokevirtual 279), (139, .ifCond .ne 4), (142, .return_), (143, .aload_n 0), (144, .iconst 5), (145, .invokevirtual 273), (148, .aload_n 0), (149, .invokevirtual 283), (152, .goto 114), (155, .aload_n 0), (156, .dup), (157, .getfield 218), (160, .iconst 1), (161, .isub), (162, .putfield 218), (165, .goto 101), (168, .aload_n 0), (169, .bipush 8), (171, .aload_n 0), (172, .iload_n 2), (173, .invokevirtual 286), (176, .iconst 0), (177, .iconst 0), (178, .iconst 0), (179, .invokevirtual 255), (182, .aload_n 0), (183, .invokevirtual 289), (186, .goto 80), (189, .aload_n 0), (190, .iload_n 2), (191, .invokevirtual 292), (194, .goto 72), (197, .aload_n 0), (198, .getfield 69), (201, .iload_n 2), (202, .aload_n 0), (203, .getfield 215), (206, .iastore), (207, .goto 59), (210, .aload_n 0), (211, .bipush 11), (213, .aload_n 0), (214, .iload_n 2), (215, .invokevirtual 286), (218, .iload_n 3), (219, .iconst 0), (220, .iconst 0), (221, .invokevirtual 255), (224, .aload_n 0), (225, .invokevirtual 289), (228, .goto 38), (231, .aload_n 0), (232, .bipush 13), (234, .iconst 0), (235, .iconst 0), (236, .invokevirtual 269), (239, .aload_n 0), (240, .bipush 15), (242, .iload_n 3), (243, .iconst 0), (244, .invokevirtual 269), (247, .aload_n 0), (248, .getfield 69), (251, .iload_n 2), (252, .aload_n 0), (253, .getfield 215), (256, .iastore), (257, .goto 9), (260, .aload_n 0), (261, .bipush 125), (263, .invokevirtual 237), (266, .return_)]
/-- QuietCheckerModel.expressions(IIIII)V -/
def pm_l24 : List (Nat × Instr) := [(0, .iload_n 1), (1, .tableswitch 463 13 28 #[79, 111, 131, 138, 171, 186, 193, 210, 252, 296, 304, 374, 381, 402, 421, 441]), (80, .aload_n 0), (81, .getfield 135), (84, .istore 6), (86, .aload_n 0), (87, .bipush 61), (89, .invokevirtual 237), (92, .aload_n 0), (93, .bipush 14), (95, .iload_n 2), (96, .iload_n 3), (97, .iload 6), (99, .iconst 0), (100, .invokevirtual 255), (103, .aload_n 0), (104, .bipush 17), (106, .invokevirtual 273), (109, .goto 363), (112, .aload_n 0), (113, .iload_n 2), (114, .iload_n 3), (115, .iconst 1), (116, .if_icmp .ne 7), (119, .iconst 1), (120, .goto 4), (123, .iconst 0), (124, .iload 4), (126, .invokevirtual 295), (129, .goto 343), (132, .aload_n 0), (133, .invokevirtual 299), (136, .goto 336), (139, .aload_n 0), (140, .getfield 221), (143, .ifCond .eq 10), (146, .aload_n 0), (147, .bipush 7), (149, .iload_n 2), (150, .invokevirtual 302), (153, .aload_n 0), (154, .bipush 93), (156, .invokevirtual 237), (159, .aload_n 0), (160, .dup), (161, .getfield 218), (164, .iconst 1), (165, .isub), (166, .putfield 218), (169, .goto 303), (172, .aload_n 0), (173, .bipush 18), (175, .invokevirtual 273), (178, .aload_n 0), (179, .bipush 21), (181, .invokevirtual 273), (184, .goto 288), (187, .aload_n 0), (188, .invokevirtual 306), (191, .goto 281), (194, .aload_n 0), (195, .iload_n 2), (196, .iconst 1), (197, .if_icmp .ne 7), (200, .iconst 1), (201, .goto 4), (204, .iconst 0), (205, .invokevirtual 309), (208, .goto 264), (211, .aload_n 0), (212, .dup), (213, .getfield 218), (216, .iconst 1), (217, .isub), (218, .putfield 218), (221, .aload_n 0), (222, .aload_n 0), (223, .getfield 221), (226, .ifCond .ne 8), (229, .iload_n 2), (230, .iconst 1), (231, .if_icmp .ne 7), (234, .iconst 1), (235, .goto 4), (238, .iconst 0), (239, .putfield 221), (242, .aload_n 0), (243, .bipush 10), (245, .iconst 0), (246, .iconst 0), (247, .invokevirtual 269), (250, .goto 222), (253, .iload_n 2), (254, .bipush 8), (256, .if_icmp .ge 13), (259, .aload_n 0), (260, .bipush 22), (262, .iload_n 2), (263, .iconst 0), (264, .iconst 0), (265, .iconst 0), (266, .invokevirtual 255), (269, .iload_n 2), (270, .bipush 8), (272, .if_icmp .ge 18), (275, .aload_n 0), (276, .bipush 21), (278, .iload_n 2), (279, .iconst 1), (280, .iadd), (281, .iconst 0), (282, .iconst 0), (283, .iconst 0), (284, .invokevirtual 255), (287, .goto 185), (290, .aload_n 0), (291, .invokevirtual 313), (294, .goto 178), (297, .aload_n 0), (298, .iload_n 2), (299, .invokevirtual 316), (302, .goto 170), (305, .aload_n 0), (306, .aload_n 0), (307, .getfield 221), (310, .ifCond .ne 9), (313, .iload 5), (315, .iconst 1), (316, .if_icmp .ne 7), (319, .iconst 1), (320, .goto 4), (323, .iconst 0), (324, .putfield 221), (327, .aload_n 0), (328, .getfield 221), (331, .ifCond .eq 23), (334, .iload_n 3), (335, .bipush 47), (337, .if_icmp .eq 9), (340, .iload_n 3), (341, .bipush 37), (343, .if_icmp .ne 11), (346, .aload_n 0), (347, .bipush 9), (349, .iload 4), (351, .invokevirtual 302), (354, .aload_n 0), (355, .bipush 8), (357, .iload_n 3), (358, .iconst 0), (359, .invokevirtual 269), (362, .aload_n 0), (363, .bipush 22), (365, .iload_n 2), (366, .iconst 0), (367, .iconst 0), (368, .iconst 0), (369, .invokevirtual 255), (372, .goto 100), (375, .aload_n 0), (376, .invokevirtual 313), (379, .goto 93), (382, .aload_n 0), (383, .dup), (384, .getfield 218), (387, .iconst 1), (388, .isub), (389, .putfield 218), (392, .aload_n 0), (393, .bipush 9), (395, .iload_n 2), (396, .iconst 0), (397, .invokevirtual 269), (400, .goto 72), (403, .aload_n 0), (404, .bipush 41), (406, .invokevirtual 237), (409, .aload_n 0), (410, .dup), (411, .getfield 218), (414, .iconst 1), (415, .isub), (416, .putfield 218), (419, .goto 53), (422, .aload_n 0), (423, .iconst 4), (424, .iload_n 2), (425, .iconst 0), (426, .invokevirtual 269), (429, .aload_n 0), (430, .aload_n 0), (431, .getfield 32), (434, .iload_n 2), (435, .baload), (436, .putfield 221), (439, .goto 33), (442, .aload_n 0), (443, .bipush 29), (445, .iload_n 2), (446, .iload_n 3), (447, .aload_n 0), (448, .getfield 135), (451, .iconst 0), (452, .invokevirtual 255), (455, .aload_n 0), (456, .bipush 17), (458, .invokevirtual 273), (461, .goto 11), (464, .aload_n 0), (465, .iload_n 2), (466, .iload_n 3), (467, .iload 4), (469, .invokevirtual 319), (472, .return_)]
/-- QuietCheckerModel.told(I)V -/
def pm_l25 : List (Nat × Instr) := [(0, .aload_n 0), (1, .getfield 193), (4, .ifCond .ne 26), (7, .aload_n 0), (8, .getfield 142), (11, .iconst 4), (12, .if_icmp .eq 11), (15, .aload_n 0), (16, .getfield 142), (19, .iconst 5), (20, .if_icmp .ne 10), (23, .aload_n 0), (24, .invokevirtual 322), (27, .goto (-27)), (30, .aload_n 0), (31, .getfield 193), (34, .ifCond .le 4), (37, .return_), (38, .aload_n 0), (39, .getfield 142), (42, .bipush 6), (44, .if_icmp .ne 17), (47, .aload_n 0), (48, .iconst 1), (49, .iload_n 1), (50, .iconst 0), (51, .iconst 0), (52, .iconst 0), (53, .invokevirtual 255), (56, .aload_n 0), (57, .invokevirtual 325), (60, .return_), (61, .aload_n 0), (62, .getfield 69), (65, .iload_n 1), (66, .aload_n 0), (67, .getfield 215), (70, .iastore), (71, .aload_n 0), (72, .iconst 2), (73, .invokevirtual 273), (76, .aload_n 0), (77, .iconst 5), (78, .invokevirtual 273), (81, .return_)]
/-- QuietCheckerModel.function()V -/
def pm_l26 : List (Nat × Instr) := [(0, .aload_n 0), (1, .invokevirtual 196), (4, .aload_n 0), (5, .invokevirtual 225), (8, .aload_n 0), (9, .getfield 328), (12, .istore_n 1), (13, .aload_n 0), (14, .getfield 193), (17, .ifCond .ne 16), (20, .aload_n 0), (21, .getfield 142), (24, .iconst 3), (25, .if_icmp .eq 8), (28, .aload_n 0), (29, .iconst 1), (30, .invokevirtual 202), (33, .aload_n 0), (34, .getfield 193), (37, .ifCond .ne 27), (40, .aload_n 0), (41, .aload_n 0), (42, .getfield 48), (45, .aload_n 0), (46, .getfield 51), (49, .aload_n 0), (50, .getfield 328), (53, .invokevirtual 231), (56, .ifCond .lt 8), (59, .aload_n 0), (60, .iconst 3), (61, .invokevirtual 202), (64, .aload_n 0), (65, .getfield 193), (68, .ifCond .ne 17), (71, .aload_n 0), (72, .getfield 328), (75, .bipush 6), (77, .if_icmp .ne 8), (80, .aload_n 0), (81, .iconst 4), (82, .invokevirtual 202), (85, .aload_n 0), (86, .getfield 193), (89, .ifCond .le 4), (92, .return_), (93, .aload_n 0), (94, .getfield 48), (97, .iload_n 1), (98, .aload_n 0), (99, .getfield 135), (102, .iastore), (103, .aload_n 0), (104, .getfield 51), (107, .iload_n 1), (108, .aload_n 0), (109, .getfield 162), (112, .aload_n 0), (113, .getfield 135), (116, .isub), (117, .iastore), (118, .aload_n 0), (119, .getfield 39), (122, .iload_n 1), (123, .aload_n 0), (124, .getfield 221), (127, .bastore), (128, .aload_n 0), (129, .iconst 0), (130, .putfield 249), (133, .aload_n 0), (134, .invokevirtual 196), (137, .aload_n 0), (138, .bipush 40), (140, .invokevirtual 237), (143, .aload_n 0), (144, .getfield 193), (147, .ifCond .ne 32), (150, .aload_n 0), (151, .getfield 142), (154, .bipush 41), (156, .if_icmp .eq 23), (159, .aload_n 0), (160, .invokevirtual 331), (163, .aload_n 0), (164, .bipush 44), (166, .invokevirtual 199), (169, .ifCond .eq 10), (172, .aload_n 0), (173, .invokevirtual 331), (176, .goto (-13)), (179, .aload_n 0), (180, .bipush 41), (182, .invokevirtual 237), (185, .aload_n 0), (186, .getfield 57), (189, .iload_n 1), (190, .aload_n 0), (191, .getfield 249), (194, .iastore), (195, .iconst 0), (196, .istore_n 2), (197, .iload_n 2), (198, .aload_n 0), (199, .getfield 249), (202, .if_icmp .ge 26), (205, .aload_n 0), (206, .getfield 63), (209, .bipush 12), (211, .iload_n 1), (212, .imul), (213, .iload_n 2), (214, .iadd), (215, .aload_n 0), (216, .getfield 36), (219, .iload_n 2), (220, .baload), (221, .bastore), (222, .iinc 2 1), (225, .goto (-28)), (228, .aload_n 0), (229, .bipush 123), (231, .invokevirtual 237), (234, .aload_n 0), (235, .iconst 1), (236, .putfield 334), (239, .aload_n 0), (240, .getfield 54), (243, .iload_n 1), (244, .aload_n 0), (245, .getfield 215), (248, .iastore), (249, .aload_n 0), (250, .getfield 193), (253, .ifCond .ne 32), (256, .aload_n 0), (257, .getfield 142), (260, .iconst 4), (261, .if_icmp .eq 11), (264, .aload_n 0), (265, .getfield 142), (268, .iconst 5), (269, .if_icmp .ne 16), (272, .aload_n 0), (273, .invokevirtual 331), (276, .aload_n 0), (277, .bipush 59), (279, .invokevirtual 237), (282, .goto (-33)), (285, .aload_n 0), (286, .getfield 218), (289, .istore_n 2), (290, .aload_n 0), (291, .iconst 0), (292, .putfield 218), (295, .aload_n 0), (296, .iconst 3), (297, .iload_n 1), (298, .iload_n 2), (299, .iconst 0), (300, .iconst 0), (301, .invokevirtual 255), (304, .aload_n 0), (305, .iconst 5), (306, .invokevirtual 273), (309, .return_)]
/-- QuietCheckerModel.functionEnd(III)V -/
def pm_l27 : List (Nat × Instr) := [(0, .aload_n 0), (1, .getfield 221), (4, .ifCond .eq 19), (7, .aload_n 0), (8, .getfield 39), (11, .iload_n 1), (12, .baload), (13, .ifCond .ne 10), (16, .aload_n 0), (17, .bipush 8), (19, .iload_n 3), (20, .invokevirtual 302), (23, .aload_n 0), (24, .bipush 12), (26, .iconst 0), (27, .iconst 0), (28, .invokevirtual 269), (31, .aload_n 0), (32, .bipush 59), (34, .invokevirtual 237), (37, .aload_n 0), (38, .bipush 125), (40, .invokevirtual 237), (43, .aload_n 0), (44, .iload_n 2), (45, .putfield 218), (48, .aload_n 0), (49, .getfield 60), (52, .iload_n 1), (53, .aload_n 0), (54, .getfield 249), (57, .iastore), (58, .aload_n 0), (59, .iconst 0), (60, .putfield 334), (63, .aload_n 0), (64, .aload_n 0), (65, .getfield 193), (68, .ifCond .ne 12), (71, .aload_n 0), (72, .getfield 328), (75, .iconst 1), (76, .iadd), (77, .goto 7), (80, .aload_n 0), (81, .getfield 328), (84, .putfield 328), (87, .return_)]
/-- QuietCheckerModel.begins()Z -/
def pm_l28 : List (Nat × Instr) := [(0, .aload_n 0), (1, .getfield 142), (4, .iconst 3), (5, .if_icmp .eq 30), (8, .aload_n 0), (9, .getfield 142), (12, .bipush 8), (14, .if_icmp .eq 21), (17, .aload_n 0), (18, .getfield 142), (21, .bipush 10), (23, .if_icmp .eq 12), (26, .aload_n 0), (27, .getfield 142), (30, .bipush 11), (32, .if_icmp .ne 7), (35, .iconst 1), (36, .goto 4), (39, .iconst 0), (40, .ireturn)]
/-- QuietCheckerModel.statement()V -/
def pm_l29 : List (Nat × Instr) := [(0, .aload_n 0), (1, .getfield 142), (4, .iconst 3), (5, .if_icmp .ne 8), (8, .aload_n 0), (9, .invokevirtual 337), (12, .return_), (13, .aload_n 0), (14, .getfield 142), (17, .istore_n 1), (18, .aload_n 0), (19, .getfield 135), (22, .istore_n 2), (23, .aload_n 0), (24, .invokevirtual 340), (27, .aload_n 0), (28, .getfield 193), (31, .ifCond .le 4), (34, .return_), (35, .aload_n 0), (36, .dup), (37, .getfield 343), (40, .iconst 1), (41, .iadd), (42, .putfield 343), (45, .aload_n 0), (46, .bipush 13), (48, .iconst 0), (49, .iconst 0), (50, .invokevirtual 269), (53, .aload_n 0), (54, .invokevirtual 196), (57, .iload_n 1), (58, .bipush 11), (60, .if_icmp .ne 20), (63, .aload_n 0), (64, .bipush 59), (66, .invokevirtual 237), (69, .aload_n 0), (70, .dup), (71, .getfield 218), (74, .iconst 1), (75, .isub), (76, .putfield 218), (79, .return_), (80, .aload_n 0), (81, .bipush 6), (83, .invokevirtual 273), (86, .aload_n 0), (87, .iload_n 1), (88, .bipush 8), (90, .if_icmp .ne 8), (93, .bipush 7), (95, .goto 5), (98, .bipush 10), (100, .iload_n 2), (101, .aload_n 0), (102, .getfield 215), (105, .iconst 0), (106, .iconst 0), (107, .invokevirtual 255), (110, .aload_n 0), (111, .bipush 17), (113, .invokevirtual 273), (116, .return_)]
/-- QuietCheckerModel.branch(I)I -/
def pm_l30 : List (Nat × Instr) := [(0, .aload_n 0), (1, .getfield 221), (4, .ifCond .eq 10), (7, .aload_n 0), (8, .bipush 6), (10, .iload_n 1), (11, .invokevirtual 302), (14, .aload_n 0), (15, .bipush 14), (17, .iconst 0), (18, .iload_n 1), (19, .invokevirtual 269), (22, .aload_n 0), (23, .getfield 215), (26, .iconst 1), (27, .isub), (28, .ireturn)]
/-- QuietCheckerModel.block()V -/
def pm_l31 : List (Nat × Instr) := [(0, .aload_n 0), (1, .bipush 123), (3, .invokevirtual 237), (6, .aload_n 0), (7, .bipush 12), (9, .invokevirtual 273), (12, .aload_n 0), (13, .iconst 5), (14, .invokevirtual 273), (17, .return_)]
/-- QuietCheckerModel.ifDone(I)V -/
def pm_l32 : List (Nat × Instr) := [(0, .aload_n 0), (1, .bipush 9), (3, .invokevirtual 199), (6, .ifCond .ne 14), (9, .aload_n 0), (10, .getfield 69), (13, .iload_n 1), (14, .aload_n 0), (15, .getfield 215), (18, .iastore), (19, .return_), (20, .aload_n 0), (21, .bipush 9), (23, .aload_n 0), (24, .getfield 215), (27, .iconst 0), (28, .iconst 0), (29, .iconst 0), (30, .invokevirtual 255), (33, .aload_n 0), (34, .bipush 15), (36, .iconst 0), (37, .iconst 0), (38, .invokevirtual 269), (41, .aload_n 0), (42, .getfield 69), (45, .iload_n 1), (46, .aload_n 0), (47, .getfield 215), (50, .iastore), (51, .aload_n 0), (52, .invokevirtual 289), (55, .return_)]
/-- QuietCheckerModel.named(Z)I -/
def pm_l33 : List (Nat × Instr) := [(0, .aload_n 0), (1, .getfield 334), (4, .ifCond .eq 22), (7, .aload_n 0), (8, .aload_n 0), (9, .getfield 42), (12, .aload_n 0), (13, .getfield 45), (16, .aload_n 0), (17, .getfield 249), (20, .invokevirtual 231), (23, .goto 4), (26, .iconst (-1)), (27, .istore_n 2), (28, .iload_n 2), (29, .ifCond .lt 16), (32, .iload_n 1), (33, .ifCond .eq 7), (36, .iconst (-1)), (37, .goto 7), (40, .bipush 100), (42, .iload_n 2), (43, .iadd), (44, .ireturn), (45, .aload_n 0), (46, .aload_n 0), (47, .getfield 16), (50, .aload_n 0), (51, .getfield 20), (54, .aload_n 0), (55, .getfield 228), (58, .invokevirtual 231), (61, .istore_n 3), (62, .iload_n 3), (63, .ifCond .lt 25), (66, .aload_n 0), (67, .getfield 23), (70, .iload_n 3), (71, .iaload), (72, .ifCond .le 7), (75, .iconst 1), (76, .goto 4), (79, .iconst 0), (80, .iload_n 1), (81, .if_icmp .ne 7), (84, .iload_n 3), (85, .goto 4), (88, .iconst (-1)), (89, .ireturn)]
/-- QuietCheckerModel.ahead()I -/
def pm_l34 : List (Nat × Instr) := [(0, .iconst 0), (1, .istore_n 1), (2, .aload_n 0), (3, .getfield 132), (6, .istore_n 2), (7, .iload_n 2), (8, .aload_n 0), (9, .getfield 129), (12, .if_icmp .ge 78), (15, .iload_n 1), (16, .ifCond .ne 36), (19, .aload_n 0), (20, .getfield 13), (23, .iload_n 2), (24, .caload), (25, .bipush 32), (27, .if_icmp .eq 25), (30, .aload_n 0), (31, .getfield 13), (34, .iload_n 2), (35, .caload), (36, .bipush 10), (38, .if_icmp .eq 14), (41, .aload_n 0), (42, .getfield 13), (45, .iload_n 2), (46, .caload), (47, .bipush 35), (49, .if_icmp .ne 41), (52, .aload_n 0), (53, .getfield 13), (56, .iload_n 2), (57, .caload), (58, .bipush 10), (60, .if_icmp .eq 22), (63, .iload_n 1), (64, .ifCond .ne 14), (67, .aload_n 0), (68, .getfield 13), (71, .iload_n 2), (72, .caload), (73, .bipush 35), (75, .if_icmp .ne 7), (78, .iconst 1), (79, .goto 4), (82, .iconst 0), (83, .istore_n 1), (84, .iinc 2 1), (87, .goto (-80)), (90, .aload_n 0), (91, .iload_n 2), (92, .invokevirtual 138), (95, .ireturn)]
/-- QuietCheckerModel.assignment()V -/
def pm_l35 : List (Nat × Instr) := [(0, .aload_n 0), (1, .invokevirtual 346), (4, .bipush 91), (6, .if_icmp .ne 7), (9, .iconst 1), (10, .goto 4), (13, .iconst 0), (14, .istore_n 1), (15, .aload_n 0), (16, .iload_n 1), (17, .invokevirtual 350), (20, .istore_n 2), (21, .iload_n 2), (22, .ifCond .ge 8), (25, .aload_n 0), (26, .iconst 2), (27, .invokevirtual 202), (30, .aload_n 0), (31, .invokevirtual 340), (34, .aload_n 0), (35, .getfield 193), (38, .ifCond .le 4), (41, .return_), (42, .aload_n 0), (43, .dup), (44, .getfield 343), (47, .iconst 1), (48, .iadd), (49, .putfield 343), (52, .aload_n 0), (53, .bipush 13), (55, .iconst 0), (56, .iconst 0), (57, .invokevirtual 269), (60, .aload_n 0), (61, .invokevirtual 196), (64, .aload_n 0), (65, .bipush 13), (67, .iload_n 2), (68, .iload_n 1), (69, .ifCond .eq 7), (72, .iconst 1), (73, .goto 4), (76, .iconst 0), (77, .iconst 0), (78, .iconst 0), (79, .invokevirtual 255), (82, .iload_n 1), (83, .ifCond .eq 9), (86, .aload_n 0), (87, .bipush 15), (89, .invokevirtual 273), (92, .return_)]
/-- QuietCheckerModel.assigned(IZI)V -/
def pm_l36 : List (Nat × Instr) := [(0, .iload_n 1), (1, .bipush 99), (3, .if_icmp .le 15), (6, .aload_n 0), (7, .getfield 36), (10, .iload_n 1), (11, .bipush 100), (13, .isub), (14, .baload), (15, .goto 9), (18, .aload_n 0), (19, .getfield 32), (22, .iload_n 1), (23, .baload), (24, .istore 4), (26, .aload_n 0), (27, .getfield 221), (30, .ifCond .eq 15), (33, .iload 4), (35, .ifCond .ne 10), (38, .aload_n 0), (39, .bipush 8), (41, .iload_n 3), (42, .invokevirtual 302), (45, .iload_n 2), (46, .ifCond .eq 14), (49, .aload_n 0), (50, .bipush 7), (52, .iload_n 1), (53, .iconst 0), (54, .invokevirtual 269), (57, .goto 35), (60, .iload_n 1), (61, .bipush 99), (63, .if_icmp .le 17), (66, .aload_n 0), (67, .bipush 6), (69, .iload_n 1), (70, .bipush 100), (72, .isub), (73, .iconst 0), (74, .invokevirtual 269), (77, .goto 15), (80, .aload_n 0), (81, .iconst 5), (82, .aload_n 0), (83, .getfield 29), (86, .iload_n 1), (87, .iaload), (88, .iconst 0), (89, .invokevirtual 269), (92, .aload_n 0), (93, .bipush 59), (95, .invokevirtual 237), (98, .aload_n 0), (99, .dup), (100, .getfield 218), (103, .iconst 1), (104, .isub), (105, .putfield 218), (108, .return_)]
/-- QuietCheckerModel.index()V -/
def pm_l37 : List (Nat × Instr) := [(0, .aload_n 0), (1, .getfield 135), (4, .istore_n 1), (5, .aload_n 0), (6, .invokevirtual 340), (9, .aload_n 0), (10, .getfield 193), (13, .ifCond .le 4), (16, .return_), (17, .aload_n 0), (18, .invokevirtual 196), (21, .aload_n 0), (22, .bipush 16), (24, .iload_n 1), (25, .iconst 0), (26, .iconst 0), (27, .iconst 0), (28, .invokevirtual 255), (31, .aload_n 0), (32, .bipush 17), (34, .invokevirtual 273), (37, .return_)]
/-- QuietCheckerModel.asked()V -/
def pm_l38 : List (Nat × Instr) := [(0, .aload_n 0), (1, .getfield 142), (4, .bipush 63), (6, .if_icmp .eq 4), (9, .return_), (10, .aload_n 0), (11, .getfield 221), (14, .istore_n 1), (15, .aload_n 0), (16, .invokevirtual 340), (19, .aload_n 0), (20, .getfield 193), (23, .ifCond .le 4), (26, .return_), (27, .aload_n 0), (28, .invokevirtual 196), (31, .aload_n 0), (32, .bipush 19), (34, .iload_n 1), (35, .ifCond .eq 7), (38, .iconst 1), (39, .goto 4), (42, .iconst 0), (43, .iconst 0), (44, .iconst 0), (45, .iconst 0), (46, .invokevirtual 255), (49, .aload_n 0), (50, .bipush 17), (52, .invokevirtual 273), (55, .return_)]
/-- QuietCheckerModel.first(Z)V -/
def pm_l39 : List (Nat × Instr) := [(0, .aload_n 0), (1, .getfield 221), (4, .ifCond .ne 7), (7, .iload_n 1), (8, .ifCond .eq 7), (11, .iconst 1), (12, .goto 4), (15, .iconst 0), (16, .istore_n 2), (17, .aload_n 0), (18, .dup), (19, .getfield 218), (22, .iconst 1), (23, .isub), (24, .putfield 218), (27, .aload_n 0), (28, .getfield 142), (31, .bipush 58), (33, .if_icmp .eq 9), (36, .aload_n 0), (37, .iconst 1), (38, .invokevirtual 202), (41, .return_), (42, .aload_n 0), (43, .invokevirtual 340), (46, .aload_n 0), (47, .getfield 193), (50, .ifCond .le 4), (53, .return_), (54, .aload_n 0), (55, .invokevirtual 196), (58, .aload_n 0), (59, .bipush 20), (61, .iload_n 2), (62, .ifCond .eq 7), (65, .iconst 1), (66, .goto 4), (69, .iconst 0), (70, .iconst 0), (71, .iconst 0), (72, .iconst 0), (73, .invokevirtual 255), (76, .aload_n 0), (77, .bipush 17), (79, .invokevirtual 273), (82, .return_)]
/-- QuietCheckerModel.levelOf(I)I -/
def pm_l40 : List (Nat × Instr) := [(0, .iload_n 0), (1, .lookupswitch 141 #[(37, 138), (38, 127), (42, 138), (43, 135), (45, 135), (47, 138), (60, 131), (94, 125), (124, 123), (8509, 129), (15420, 133), (15421, 131), (15677, 129), (15934, 133)]), (124, .iconst 0), (125, .ireturn), (126, .iconst 1), (127, .ireturn), (128, .iconst 2), (129, .ireturn), (130, .iconst 3), (131, .ireturn), (132, .iconst 4), (133, .ireturn), (134, .iconst 5), (135, .ireturn), (136, .bipush 6), (138, .ireturn), (139, .bipush 7), (141, .ireturn), (142, .bipush 9), (144, .ireturn)]
/-- QuietCheckerModel.levelOn(I)V -/
def pm_l41 : List (Nat × Instr) := [(0, .aload_n 0), (1, .getfield 142), (4, .invokestatic 354), (7, .iload_n 1), (8, .if_icmp .eq 4), (11, .return_), (12, .aload_n 0), (13, .bipush 23), (15, .iload_n 1), (16, .aload_n 0), (17, .getfield 142), (20, .aload_n 0), (21, .getfield 135), (24, .aload_n 0), (25, .getfield 221), (28, .ifCond .eq 7), (31, .iconst 1), (32, .goto 4), (35, .iconst 0), (36, .invokevirtual 255), (39, .aload_n 0), (40, .invokevirtual 196), (43, .aload_n 0), (44, .bipush 21), (46, .iload_n 1), (47, .iconst 1), (48, .iadd), (49, .iconst 0), (50, .iconst 0), (51, .iconst 0), (52, .invokevirtual 255), (55, .return_)]
/-- QuietCheckerModel.single()V -/
def pm_l42 : List (Nat × Instr) := [(0, .aload_n 0), (1, .getfield 142), (4, .istore_n 1), (5, .iload_n 1), (6, .bipush 45), (8, .if_icmp .eq 21), (11, .iload_n 1), (12, .bipush 126), (14, .if_icmp .eq 15), (17, .iload_n 1), (18, .bipush 33), (20, .if_icmp .eq 9), (23, .iload_n 1), (24, .bipush 40), (26, .if_icmp .ne 60), (29, .aload_n 0), (30, .invokevirtual 340), (33, .aload_n 0), (34, .getfield 193), (37, .ifCond .le 4), (40, .return_), (41, .aload_n 0), (42, .invokevirtual 196), (45, .aload_n 0), (46, .iload_n 1), (47, .bipush 40), (49, .if_icmp .ne 8), (52, .bipush 26), (54, .goto 5), (57, .bipush 25), (59, .iload_n 1), (60, .iconst 0), (61, .iconst 0), (62, .iconst 0), (63, .invokevirtual 255), (66, .aload_n 0), (67, .iload_n 1), (68, .bipush 40), (70, .if_icmp .ne 8), (73, .bipush 17), (75, .goto 5), (78, .bipush 24), (80, .invokevirtual 273), (83, .goto 48), (86, .iload_n 1), (87, .iconst 2), (88, .if_icmp .ne 26), (91, .aload_n 0), (92, .iconst 1), (93, .aload_n 0), (94, .getfield 165), (97, .l2i), (98, .iconst 0), (99, .invokevirtual 269), (102, .aload_n 0), (103, .iconst 0), (104, .putfield 221), (107, .aload_n 0), (108, .invokevirtual 196), (111, .goto 20), (114, .iload_n 1), (115, .iconst 3), (116, .if_icmp .ne 10), (119, .aload_n 0), (120, .invokevirtual 357), (123, .goto 8), (126, .aload_n 0), (127, .iconst 1), (128, .invokevirtual 202), (131, .return_)]
/-- QuietCheckerModel.called()V -/
def pm_l43 : List (Nat × Instr) := [(0, .aload_n 0), (1, .invokevirtual 346), (4, .istore_n 1), (5, .iload_n 1), (6, .bipush 40), (8, .if_icmp .ne 8), (11, .aload_n 0), (12, .invokevirtual 360), (15, .return_), (16, .aload_n 0), (17, .iload_n 1), (18, .bipush 91), (20, .if_icmp .ne 7), (23, .iconst 1), (24, .goto 4), (27, .iconst 0), (28, .invokevirtual 350), (31, .istore_n 2), (32, .iload_n 2), (33, .ifCond .ge 8), (36, .aload_n 0), (37, .iconst 2), (38, .invokevirtual 202), (41, .aload_n 0), (42, .getfield 193), (45, .ifCond .le 4), (48, .return_), (49, .aload_n 0), (50, .invokevirtual 196), (53, .iload_n 1), (54, .bipush 91), (56, .if_icmp .ne 20), (59, .aload_n 0), (60, .bipush 27), (62, .iload_n 2), (63, .iconst 0), (64, .iconst 0), (65, .iconst 0), (66, .invokevirtual 255), (69, .aload_n 0), (70, .bipush 15), (72, .invokevirtual 273), (75, .return_), (76, .aload_n 0), (77, .iload_n 2), (78, .bipush 99), (80, .if_icmp .le 7), (83, .iconst 3), (84, .goto 4), (87, .iconst 2), (88, .iload_n 2), (89, .bipush 99), (91, .if_icmp .le 10), (94, .iload_n 2), (95, .bipush 100), (97, .isub), (98, .goto 9), (101, .aload_n 0), (102, .getfield 29), (105, .iload_n 2), (106, .iaload), (107, .iconst 0), (108, .invokevirtual 269), (111, .aload_n 0), (112, .iload_n 2), (113, .bipush 99), (115, .if_icmp .le 15), (118, .aload_n 0), (119, .getfield 36), (122, .iload_n 2), (123, .bipush 100), (125, .isub), (126, .baload), (127, .goto 9), (130, .aload_n 0), (131, .getfield 32), (134, .iload_n 2), (135, .baload), (136, .putfield 221), (139, .return_)]
/-- QuietCheckerModel.call()V -/
def pm_l44 : List (Nat × Instr) := [(0, .aload_n 0), (1, .aload_n 0), (2, .getfield 48), (5, .aload_n 0), (6, .getfield 51), (9, .aload_n 0), (10, .getfield 328), (13, .invokevirtual 231), (16, .istore_n 1), (17, .iload_n 1), (18, .ifCond .ge 9), (21, .aload_n 0), (22, .iconst 2), (23, .invokevirtual 202), (26, .return_), (27, .aload_n 0), (28, .invokevirtual 196), (31, .aload_n 0), (32, .invokevirtual 340), (35, .aload_n 0), (36, .getfield 193), (39, .ifCond .le 4), (42, .return_), (43, .aload_n 0), (44, .invokevirtual 196), (47, .aload_n 0), (48, .getfield 142), (51, .bipush 41), (53, .if_icmp .eq 16), (56, .aload_n 0), (57, .bipush 28), (59, .iload_n 1), (60, .iconst 0), (61, .iconst 0), (62, .iconst 0), (63, .invokevirtual 255), (66, .goto 9), (69, .aload_n 0), (70, .iload_n 1), (71, .iconst 0), (72, .invokevirtual 363), (75, .return_)]
/-- QuietCheckerModel.given(III)V -/
def pm_l45 : List (Nat × Instr) := [(0, .aload_n 0), (1, .getfield 221), (4, .ifCond .eq 34), (7, .iload_n 2), (8, .aload_n 0), (9, .getfield 57), (12, .iload_n 1), (13, .iaload), (14, .if_icmp .ge 24), (17, .aload_n 0), (18, .getfield 63), (21, .bipush 12), (23, .iload_n 1), (24, .imul), (25, .iload_n 2), (26, .iadd), (27, .baload), (28, .ifCond .ne 10), (31, .aload_n 0), (32, .bipush 8), (34, .iload_n 3), (35, .invokevirtual 302), (38, .aload_n 0), (39, .bipush 44), (41, .invokevirtual 199), (44, .ifCond .eq 18), (47, .aload_n 0), (48, .bipush 28), (50, .iload_n 1), (51, .iload_n 2), (52, .iconst 1), (53, .iadd), (54, .iconst 0), (55, .iconst 0), (56, .invokevirtual 255), (59, .goto 11), (62, .aload_n 0), (63, .iload_n 1), (64, .iload_n 2), (65, .iconst 1), (66, .iadd), (67, .invokevirtual 363), (70, .return_)]
/-- QuietCheckerModel.callEnd(II)V -/
def pm_l46 : List (Nat × Instr) := [(0, .aload_n 0), (1, .getfield 193), (4, .ifCond .ne 27), (7, .aload_n 0), (8, .getfield 142), (11, .bipush 41), (13, .if_icmp .ne 18), (16, .iload_n 2), (17, .aload_n 0), (18, .getfield 57), (21, .iload_n 1), (22, .iaload), (23, .if_icmp .eq 8), (26, .aload_n 0), (27, .iconst 5), (28, .invokevirtual 202), (31, .aload_n 0), (32, .bipush 41), (34, .invokevirtual 237), (37, .aload_n 0), (38, .dup), (39, .getfield 218), (42, .iconst 1), (43, .isub), (44, .putfield 218), (47, .aload_n 0), (48, .bipush 11), (50, .iload_n 1), (51, .iconst 0), (52, .invokevirtual 269), (55, .aload_n 0), (56, .aload_n 0), (57, .getfield 39), (60, .iload_n 1), (61, .baload), (62, .putfield 221), (65, .return_)]
/-- QuietCheckerModel.check()I -/
def pm_l47 : List (Nat × Instr) := [(0, .aload_n 0), (1, .iconst 0), (2, .putfield 114), (5, .iconst 0), (6, .istore_n 1), (7, .iload_n 1), (8, .aload_n 0), (9, .getfield 118), (12, .if_icmp .ge 21), (15, .aload_n 0), (16, .getfield 13), (19, .iload_n 1), (20, .aload_n 0), (21, .getfield 7), (24, .iload_n 1), (25, .caload), (26, .castore), (27, .iinc 1 1), (30, .goto (-23)), (33, .aload_n 0), (34, .aload_n 0), (35, .getfield 118), (38, .putfield 129), (41, .aload_n 0), (42, .iconst 0), (43, .putfield 118), (46, .aload_n 0), (47, .aload_n 0), (48, .aload_n 0), (49, .aload_n 0), (50, .aload_n 0), (51, .aload_n 0), (52, .aload_n 0), (53, .aload_n 0), (54, .aload_n 0), (55, .aload_n 0), (56, .aload_n 0), (57, .iconst 0), (58, .dup_x1), (59, .putfield 215), (62, .dup_x1), (63, .putfield 218), (66, .dup_x1), (67, .putfield 343), (70, .dup_x1), (71, .putfield 246), (74, .dup_x1), (75, .putfield 328), (78, .dup_x1), (79, .putfield 249), (82, .dup_x1), (83, .putfield 243), (86, .dup_x1), (87, .putfield 240), (90, .dup_x1), (91, .putfield 228), (94, .dup_x1), (95, .putfield 193), (98, .putfield 132), (101, .aload_n 0), (102, .iconst (-1)), (103, .putfield 205), (106, .aload_n 0), (107, .iconst 0), (108, .putfield 208), (111, .aload_n 0), (112, .iconst 0), (113, .putfield 334), (116, .aload_n 0), (117, .iconst 0), (118, .putfield 366), (121, .aload_n 0), (122, .iconst 0), (123, .putfield 252), (126, .aload_n 0), (127, .invokevirtual 196), (130, .aload_n 0), (131, .bipush 15), (133, .iconst 0), (134, .iconst 0), (135, .invokevirtual 269), (138, .aload_n 0), (139, .iconst 1), (140, .invokevirtual 273), (143, .aload_n 0), (144, .invokevirtual 369), (147, .aload_n 0), (148, .aload_n 0), (149, .getfield 193), (152, .ifCond .ne 7), (155, .iconst 1), (156, .goto 4), (159, .iconst 0), (160, .putfield 372), (163, .aload_n 0), (164, .getfield 372), (167, .ifCond .ne 28), (170, .aload_n 0), (171, .aload_n 0), (172, .aload_n 0), (173, .aload_n 0), (174, .aload_n 0), (175, .iconst 0), (176, .dup_x1), (177, .putfield 343), (180, .dup_x1), (181, .putfield 246), (184, .dup_x1), (185, .putfield 328), (188, .dup_x1), (189, .putfield 240), (192, .putfield 228), (195, .aload_n 0), (196, .getfield 372), (199, .ifCond .eq 26), (202, .aload_n 0), (203, .getfield 205), (206, .ifCond .lt 19), (209, .aload_n 0), (210, .aload_n 0), (211, .getfield 208), (214, .bipush 16), (216, .aload_n 0), (217, .getfield 205), (220, .imul), (221, .iadd), (222, .putfield 193), (225, .iconst 0), (226, .istore_n 1), (227, .iload_n 1), (228, .aload_n 0), (229, .getfield 75), (232, .arraylength), (233, .if_icmp .ge 16), (236, .aload_n 0), (237, .getfield 75), (240, .iload_n 1), (241, .iconst 0), (242, .iastore), (243, .iinc 1 1), (246, .goto (-19)), (249, .aload_n 0), (250, .getfield 193), (253, .ireturn)]
/-- QuietCheckerModel.cellOf(II)I -/
def pm_l48 : List (Nat × Instr) := [(0, .aload_n 0), (1, .getfield 372), (4, .ifCond .eq 46), (7, .iload_n 1), (8, .ifCond .lt 42), (11, .iload_n 1), (12, .aload_n 0), (13, .getfield 228), (16, .if_icmp .ge 34), (19, .iload_n 2), (20, .ifCond .lt 30), (23, .iload_n 2), (24, .aload_n 0), (25, .getfield 23), (28, .iload_n 1), (29, .iaload), (30, .ifCond .le 12), (33, .aload_n 0), (34, .getfield 23), (37, .iload_n 1), (38, .iaload), (39, .goto 4), (42, .iconst 1), (43, .if_icmp .ge 7), (46, .iconst 1), (47, .goto 4), (50, .iconst 0), (51, .istore_n 3), (52, .iload_n 3), (53, .ifCond .eq 14), (56, .aload_n 0), (57, .getfield 29), (60, .iload_n 1), (61, .iaload), (62, .iload_n 2), (63, .iadd), (64, .goto 4), (67, .iconst (-1)), (68, .ireturn)]
/-- QuietCheckerModel.put(III)V -/
def pm_l49 : List (Nat × Instr) := [(0, .aload_n 0), (1, .aload_n 0), (2, .getfield 372), (5, .ifCond .ne 7), (8, .iconst 1), (9, .goto 4), (12, .iconst 0), (13, .aload_n 0), (14, .iload_n 1), (15, .iload_n 2), (16, .invokevirtual 375), (19, .ifCond .ge 7), (22, .iconst 1), (23, .goto 4), (26, .iconst 0), (27, .invokevirtual 379), (30, .ifCond .eq 4), (33, .return_), (34, .aload_n 0), (35, .getfield 75), (38, .aload_n 0), (39, .iload_n 1), (40, .iload_n 2), (41, .invokevirtual 375), (44, .iload_n 3), (45, .iastore), (46, .return_)]
/-- QuietCheckerModel.worked(III)I -/
def pm_l50 : List (Nat × Instr) := [(0, .iload_n 0), (1, .lookupswitch 201 #[(38, 123), (42, 193), (43, 185), (45, 189), (47, 197), (60, 149), (94, 119), (124, 115), (8509, 138), (15420, 171), (15421, 160), (15677, 127), (15934, 178)]), (116, .iload_n 1), (117, .iload_n 2), (118, .ior), (119, .ireturn), (120, .iload_n 1), (121, .iload_n 2), (122, .ixor), (123, .ireturn), (124, .iload_n 1), (125, .iload_n 2), (126, .iand), (127, .ireturn), (128, .iload_n 1), (129, .iload_n 2), (130, .if_icmp .ne 7), (133, .iconst 1), (134, .goto 4), (137, .iconst 0), (138, .ireturn), (139, .iload_n 1), (140, .iload_n 2), (141, .if_icmp .eq 7), (144, .iconst 1), (145, .goto 4), (148, .iconst 0), (149, .ireturn), (150, .iload_n 1), (151, .iload_n 2), (152, .if_icmp .ge 7), (155, .iconst 1), (156, .goto 4), (159, .iconst 0), (160, .ireturn), (161, .iload_n 1), (162, .iload_n 2), (163, .if_icmp .gt 7), (166, .iconst 1), (167, .goto 4), (170, .iconst 0), (171, .ireturn), (172, .iload_n 1), (173, .iload_n 2), (174, .bipush 31), (176, .iand), (177, .ishl), (178, .ireturn), (179, .iload_n 1), (180, .iload_n 2), (181, .bipush 31), (183, .iand), (184, .iushr), (185, .ireturn), (186, .iload_n 1), (187, .iload_n 2), (188, .iadd), (189, .ireturn), (190, .iload_n 1), (191, .iload_n 2), (192, .isub), (193, .ireturn), (194, .iload_n 1), (195, .iload_n 2), (196, .imul), (197, .ireturn), (198, .iload_n 1), (199, .iload_n 2), (200, .idiv), (201, .ireturn), (202, .iload_n 1), (203, .iload_n 2), (204, .irem), (205, .ireturn)]
/-- QuietCheckerModel.tell(I)V -/
def pm_l51 : List (Nat × Instr) := [(0, .aload_n 0), (1, .getfield 383), (4, .sipush 4000), (7, .if_icmp .ne 9), (10, .aload_n 0), (11, .iconst 4), (12, .putfield 386), (15, .return_), (16, .aload_n 0), (17, .getfield 81), (20, .aload_n 0), (21, .getfield 383), (24, .iload_n 1), (25, .iastore), (26, .aload_n 0), (27, .dup), (28, .getfield 383), (31, .iconst 1), (32, .iadd), (33, .putfield 383), (36, .return_)]
/-- QuietCheckerModel.cell(II)I -/
def pm_l52 : List (Nat × Instr) := [(0, .iload_n 2), (1, .ifCond .lt 13), (4, .iload_n 2), (5, .aload_n 0), (6, .getfield 23), (9, .iload_n 1), (10, .iaload), (11, .if_icmp .lt 10), (14, .aload_n 0), (15, .iconst 2), (16, .putfield 386), (19, .iconst (-1)), (20, .ireturn), (21, .aload_n 0), (22, .iconst (-1)), (23, .bipush 64), (25, .aload_n 0), (26, .getfield 26), (29, .iload_n 1), (30, .iaload), (31, .imul), (32, .iload_n 2), (33, .iadd), (34, .isub), (35, .invokevirtual 389), (38, .aload_n 0), (39, .getfield 386), (42, .iconst 4), (43, .if_icmp .ne 7), (46, .iconst (-1)), (47, .goto 11), (50, .aload_n 0), (51, .getfield 29), (54, .iload_n 1), (55, .iaload), (56, .iload_n 2), (57, .iadd), (58, .ireturn)]
/-- QuietCheckerModel.go(I)V -/
def pm_l53 : List (Nat × Instr) := [(0, .aload_n 0), (1, .iconst 0), (2, .putfield 383), (5, .aload_n 0), (6, .iconst 0), (7, .putfield 392), (10, .aload_n 0), (11, .iconst (-1)), (12, .putfield 386), (15, .aload_n 0), (16, .iconst 0), (17, .putfield 395), (20, .iconst 0), (21, .istore_n 2), (22, .iconst 0), (23, .istore_n 3), (24, .iconst 0), (25, .istore 4), (27, .aload_n 0), (28, .getfield 386), (31, .iconst (-1)), (32, .if_icmp .ne 736), (35, .aload_n 0), (36, .getfield 69), (39, .iload_n 2), (40, .iaload), (41, .istore 5), (43, .aload_n 0), (44, .getfield 66), (47, .iload_n 2), (48, .iaload), (49, .istore 6), (51, .iinc 2 1), (54, .iload 6), (56, .tableswitch 704 1 15 #[76, 90, 90, 128, 171, 190, 212, 252, 316, 382, 424, 558, 618, 647, 698]), (132, .aload_n 0), (133, .getfield 84), (136, .iload_n 3), (137, .iload 5), (139, .iastore), (140, .iinc 3 1), (143, .goto 622), (146, .aload_n 0), (147, .getfield 84), (150, .iload_n 3), (151, .iload 6), (153, .iconst 2), (154, .if_icmp .ne 13), (157, .aload_n 0), (158, .getfield 78), (161, .iload 5), (163, .iaload), (164, .goto 13), (167, .aload_n 0), (168, .getfield 84), (171, .iload 4), (173, .iload 5), (175, .iadd), (176, .iaload), (177, .iastore), (178, .iinc 3 1), (181, .goto 584), (184, .aload_n 0), (185, .iload 5), (187, .aload_n 0), (188, .getfield 84), (191, .iload_n 3), (192, .iconst 1), (193, .isub), (194, .iaload), (195, .invokevirtual 398), (198, .istore 7), (200, .aload_n 0), (201, .getfield 84), (204, .iload_n 3), (205, .iconst 1), (206, .isub), (207, .iload 7), (209, .ifCond .ge 7), (212, .iconst 0), (213, .goto 10), (216, .aload_n 0), (217, .getfield 78), (220, .iload 7), (222, .iaload), (223, .iastore), (224, .goto 541), (227, .iinc 3 (-1)), (230, .aload_n 0), (231, .getfield 78), (234, .iload 5), (236, .aload_n 0), (237, .getfield 84), (240, .iload_n 3), (241, .iaload), (242, .iastore), (243, .goto 522), (246, .iinc 3 (-1)), (249, .aload_n 0), (250, .getfield 84), (253, .iload 4), (255, .iload 5), (257, .iadd), (258, .aload_n 0), (259, .getfield 84), (262, .iload_n 3), (263, .iaload), (264, .iastore), (265, .goto 500), (268, .iinc 3 (-2)), (271, .aload_n 0), (272, .iload 5), (274, .aload_n 0), (275, .getfield 84), (278, .iload_n 3), (279, .iaload), (280, .invokevirtual 398), (283, .istore 8), (285, .iload 8), (287, .ifCond .lt 478), (290, .aload_n 0), (291, .getfield 78), (294, .iload 8), (296, .aload_n 0), (297, .getfield 84), (300, .iload_n 3), (301, .iconst 1), (302, .iadd), (303, .iaload), (304, .iastore), (305, .goto 460), (308, .iinc 3 (-1)), (311, .iload 5), (313, .bipush 47), (315, .if_icmp .eq 10), (318, .iload 5), (320, .bipush 37), (322, .if_icmp .ne 20), (325, .aload_n 0), (326, .getfield 84), (329, .iload_n 3), (330, .iaload), (331, .ifCond .ne 11), (334, .aload_n 0), (335, .iconst 3), (336, .putfield 386), (339, .goto 426), (342, .aload_n 0), (343, .getfield 84), (346, .iload_n 3), (347, .iconst 1), (348, .isub), (349, .iload 5), (351, .aload_n 0), (352, .getfield 84), (355, .iload_n 3), (356, .iconst 1), (357, .isub), (358, .iaload), (359, .aload_n 0), (360, .getfield 84), (363, .iload_n 3), (364, .iaload), (365, .invokestatic 401), (368, .iastore), (369, .goto 396), (372, .aload_n 0), (373, .getfield 84), (376, .iload_n 3), (377, .iconst 1), (378, .isub), (379, .iload 5), (381, .bipush 45), (383, .if_icmp .ne 15), (386, .aload_n 0), (387, .getfield 84), (390, .iload_n 3), (391, .iconst 1), (392, .isub), (393, .iaload), (394, .ineg), (395, .goto 39), (398, .iload 5), (400, .bipush 126), (402, .if_icmp .ne 16), (405, .aload_n 0), (406, .getfield 84), (409, .iload_n 3), (410, .iconst 1), (411, .isub), (412, .iaload), (413, .iconst (-1)), (414, .ixor), (415, .goto 19), (418, .aload_n 0), (419, .getfield 84), (422, .iload_n 3), (423, .iconst 1), (424, .isub), (425, .iaload), (426, .ifCond .ne 7), (429, .iconst 1), (430, .goto 4), (433, .iconst 0), (434, .iastore), (435, .goto 330), (438, .iinc 3 (-2)), (441, .aload_n 0), (442, .getfield 84), (445, .iload_n 3), (446, .iconst 1), (447, .isub), (448, .aload_n 0), (449, .getfield 84), (452, .iload_n 3), (453, .iconst 1), (454, .isub), (455, .iaload), (456, .ifCond .eq 12), (459, .aload_n 0), (460, .getfield 84), (463, .iload_n 3), (464, .iaload), (465, .goto 11), (468, .aload_n 0), (469, .getfield 84), (472, .iload_n 3), (473, .iconst 1), (474, .iadd), (475, .iaload), (476, .iastore), (477, .goto 288), (480, .aload_n 0), (481, .getfield 392), (484, .iload_n 1), (485, .if_icmp .ne 11), (488, .aload_n 0), (489, .iconst 1), (490, .putfield 386), (493, .goto 272), (496, .aload_n 0), (497, .dup), (498, .getfield 392), (501, .iconst 1), (502, .iadd), (503, .putfield 392), (506, .aload_n 0), (507, .getfield 87), (510, .iconst 2), (511, .aload_n 0), (512, .getfield 395), (515, .imul), (516, .iload_n 2), (517, .iastore), (518, .aload_n 0), (519, .getfield 87), (522, .iconst 2), (523, .aload_n 0), (524, .getfield 395), (527, .imul), (528, .iconst 1), (529, .iadd), (530, .iload 4), (532, .iastore), (533, .aload_n 0), (534, .dup), (535, .getfield 395), (538, .iconst 1), (539, .iadd), (540, .putfield 395), (543, .iload_n 3), (544, .aload_n 0), (545, .getfield 57), (548, .iload 5), (550, .iaload), (551, .isub), (552, .istore 4), (554, .aload_n 0), (555, .getfield 57), (558, .iload 5), (560, .iaload), (561, .istore 9), (563, .iload 9), (565, .aload_n 0), (566, .getfield 60), (569, .iload 5), (571, .iaload), (572, .if_icmp .ge 20), (575, .aload_n 0), (576, .getfield 84), (579, .iload 4), (581, .iload 9), (583, .iadd), (584, .iconst 0), (585, .iastore), (586, .iinc 9 1), (589, .goto (-26)), (592, .iload 4), (594, .aload_n 0), (595, .getfield 60), (598, .iload 5), (600, .iaload), (601, .iadd), (602, .istore_n 3), (603, .aload_n 0), (604, .getfield 54), (607, .iload 5), (609, .iaload), (610, .istore_n 2), (611, .goto 154), (614, .aload_n 0), (615, .getfield 84), (618, .iload 4), (620, .aload_n 0), (621, .getfield 84), (624, .iload_n 3), (625, .iconst 1), (626, .isub), (627, .iaload), (628, .iastore), (629, .iload 4), (631, .iconst 1), (632, .iadd), (633, .istore_n 3), (634, .aload_n 0), (635, .dup), (636, .getfield 395), (639, .iconst 1), (640, .isub), (641, .putfield 395), (644, .aload_n 0), (645, .getfield 87), (648, .iconst 2), (649, .aload_n 0), (650, .getfield 395), (653, .imul), (654, .iaload), (655, .istore_n 2), (656, .aload_n 0), (657, .getfield 87), (660, .iconst 2), (661, .aload_n 0), (662, .getfield 395), (665, .imul), (666, .iconst 1), (667, .iadd), (668, .iaload), (669, .istore 4), (671, .goto 94), (674, .aload_n 0), (675, .getfield 392), (678, .iload_n 1), (679, .if_icmp .ne 11), (682, .aload_n 0), (683, .iconst 1), (684, .putfield 386), (687, .goto 78), (690, .aload_n 0), (691, .dup), (692, .getfield 392), (695, .iconst 1), (696, .iadd), (697, .putfield 392), (700, .goto 65), (703, .iinc 3 (-1)), (706, .aload_n 0), (707, .iconst 2), (708, .aload_n 0), (709, .getfield 72), (712, .iload_n 2), (713, .iconst 1), (714, .isub), (715, .iaload), (716, .imul), (717, .aload_n 0), (718, .getfield 84), (721, .iload_n 3), (722, .iaload), (723, .ifCond .eq 7), (726, .iconst 1), (727, .goto 4), (730, .iconst 0), (731, .iadd), (732, .invokevirtual 389), (735, .aload_n 0), (736, .getfield 84), (739, .iload_n 3), (740, .iaload), (741, .ifCond .ne 8), (744, .iload 5), (746, .goto 4), (749, .iload_n 2), (750, .istore_n 2), (751, .goto 14), (754, .iload 5), (756, .istore_n 2), (757, .goto 8), (760, .aload_n 0), (761, .iconst 0), (762, .putfield 386), (765, .goto (-738)), (768, .return_)]
/-- QuietCheckerModel.run(I)I -/
def pm_l54 : List (Nat × Instr) := [(0, .aload_n 0), (1, .aload_n 0), (2, .getfield 372), (5, .ifCond .ne 7), (8, .iconst 1), (9, .goto 4), (12, .iconst 0), (13, .iload_n 1), (14, .ifCond .lt 10), (17, .iload_n 1), (18, .sipush 20000), (21, .if_icmp .le 7), (24, .iconst 1), (25, .goto 4), (28, .iconst 0), (29, .invokevirtual 379), (32, .ifCond .eq 5), (35, .iconst 0), (36, .ireturn), (37, .iconst 0), (38, .istore_n 2), (39, .iload_n 2), (40, .aload_n 0), (41, .getfield 243), (44, .if_icmp .ge 21), (47, .aload_n 0), (48, .getfield 78), (51, .iload_n 2), (52, .aload_n 0), (53, .getfield 75), (56, .iload_n 2), (57, .iaload), (58, .iastore), (59, .iinc 2 1), (62, .goto (-23)), (65, .aload_n 0), (66, .iload_n 1), (67, .putfield 405), (70, .iconst 0), (71, .istore_n 2), (72, .iload_n 2), (73, .aload_n 0), (74, .getfield 243), (77, .if_icmp .ge 21), (80, .aload_n 0), (81, .getfield 90), (84, .iload_n 2), (85, .aload_n 0), (86, .getfield 75), (89, .iload_n 2), (90, .iaload), (91, .iastore), (92, .iinc 2 1), (95, .goto (-23)), (98, .aload_n 0), (99, .iload_n 1), (100, .invokevirtual 408), (103, .aload_n 0), (104, .iconst 1), (105, .putfield 366), (108, .aload_n 0), (109, .getfield 386), (112, .ireturn)]
/-- QuietCheckerModel.disguise(I)V -/
def pm_l55 : List (Nat × Instr) := [(0, .iconst 0), (1, .istore_n 2), (2, .iconst 0), (3, .istore_n 3), (4, .iload_n 3), (5, .aload_n 0), (6, .getfield 228), (9, .if_icmp .ge 125), (12, .aload_n 0), (13, .getfield 23), (16, .iload_n 3), (17, .iaload), (18, .ifCond .ne 7), (21, .iconst 1), (22, .goto 9), (25, .aload_n 0), (26, .getfield 23), (29, .iload_n 3), (30, .iaload), (31, .istore 4), (33, .iconst 0), (34, .istore 5), (36, .iload 5), (38, .iload 4), (40, .if_icmp .ge 88), (43, .aload_n 0), (44, .getfield 78), (47, .aload_n 0), (48, .getfield 29), (51, .iload_n 3), (52, .iaload), (53, .iload 5), (55, .iadd), (56, .aload_n 0), (57, .getfield 32), (60, .iload_n 3), (61, .baload), (62, .ifCond .eq 28), (65, .aload_n 0), (66, .getfield 90), (69, .aload_n 0), (70, .getfield 29), (73, .iload_n 3), (74, .iaload), (75, .iload 5), (77, .iadd), (78, .iaload), (79, .iload_n 1), (80, .iconst 2), (81, .iload_n 2), (82, .imul), (83, .iconst 1), (84, .iadd), (85, .imul), (86, .ixor), (87, .goto 17), (90, .aload_n 0), (91, .getfield 90), (94, .aload_n 0), (95, .getfield 29), (98, .iload_n 3), (99, .iaload), (100, .iload 5), (102, .iadd), (103, .iaload), (104, .iastore), (105, .aload_n 0), (106, .getfield 32), (109, .iload_n 3), (110, .baload), (111, .ifCond .eq 9), (114, .iload_n 2), (115, .iconst 1), (116, .iadd), (117, .goto 4), (120, .iload_n 2), (121, .istore_n 2), (122, .iinc 5 1), (125, .goto (-89)), (128, .iinc 3 1), (131, .goto (-127)), (134, .return_)]
/-- QuietCheckerModel.twin(I)I -/
def pm_l56 : List (Nat × Instr) := [(0, .aload_n 0), (1, .aload_n 0), (2, .getfield 366), (5, .ifCond .ne 7), (8, .iconst 1), (9, .goto 4), (12, .iconst 0), (13, .iconst 0), (14, .invokevirtual 379), (17, .ifCond .eq 5), (20, .iconst 0), (21, .ireturn), (22, .aload_n 0), (23, .getfield 383), (26, .istore_n 2), (27, .aload_n 0), (28, .getfield 392), (31, .istore_n 3), (32, .aload_n 0), (33, .getfield 386), (36, .istore 4), (38, .iconst 0), (39, .istore 5), (41, .iload 5), (43, .iload_n 2), (44, .if_icmp .ge 23), (47, .aload_n 0), (48, .getfield 96), (51, .iload 5), (53, .aload_n 0), (54, .getfield 81), (57, .iload 5), (59, .iaload), (60, .iastore), (61, .iinc 5 1), (64, .goto (-23)), (67, .iconst 0), (68, .istore 5), (70, .iload 5), (72, .aload_n 0), (73, .getfield 243), (76, .if_icmp .ge 23), (79, .aload_n 0), (80, .getfield 93), (83, .iload 5), (85, .aload_n 0), (86, .getfield 78), (89, .iload 5), (91, .iaload), (92, .iastore), (93, .iinc 5 1), (96, .goto (-26)), (99, .aload_n 0), (100, .iload_n 1), (101, .invokevirtual 411), (104, .aload_n 0), (105, .aload_n 0), (106, .getfield 405), (109, .invokevirtual 408), (112, .iconst 0), (113, .istore 5), (115, .iload 5), (117, .iload_n 2), (118, .if_icmp .ge 35), (121, .iload 5), (123, .aload_n 0), (124, .getfield 383), (127, .if_icmp .ge 26), (130, .aload_n 0), (131, .getfield 81), (134, .iload 5), (136, .iaload), (137, .aload_n 0), (138, .getfield 96), (141, .iload 5), (143, .iaload), (144, .if_icmp .ne 9), (147, .iinc 5 1), (150, .goto (-35)), (153, .iload 5), (155, .iload_n 2), (156, .if_icmp .lt 12), (159, .iload 5), (161, .aload_n 0), (162, .getfield 383), (165, .if_icmp .ge 8), (168, .iload 5), (170, .goto 26), (173, .aload_n 0), (174, .getfield 386), (177, .iload 4), (179, .if_icmp .ne 11), (182, .aload_n 0), (183, .getfield 392), (186, .iload_n 3), (187, .if_icmp .eq 8), (190, .bipush (-2)), (192, .goto 4), (195, .iconst (-1)), (196, .istore 6), (198, .iconst 0), (199, .istore 7), (201, .iload 7), (203, .iload_n 2), (204, .if_icmp .ge 23), (207, .aload_n 0), (208, .getfield 81), (211, .iload 7), (213, .aload_n 0), (214, .getfield 96), (217, .iload 7), (219, .iaload), (220, .iastore), (221, .iinc 7 1), (224, .goto (-23)), (227, .aload_n 0), (228, .iload_n 2), (229, .putfield 383), (232, .aload_n 0), (233, .iload_n 3), (234, .putfield 392), (237, .aload_n 0), (238, .iload 4), (240, .putfield 386), (243, .iconst 0), (244, .istore 7), (246, .iload 7), (248, .aload_n 0), (249, .getfield 243), (252, .if_icmp .ge 23), (255, .aload_n 0), (256, .getfield 78), (259, .iload 7), (261, .aload_n 0), (262, .getfield 93), (265, .iload 7), (267, .iaload), (268, .iastore), (269, .iinc 7 1), (272, .goto (-26)), (275, .iload 6), (277, .ireturn)]
/-- QuietCheckerModel.value(II)I -/
def pm_l57 : List (Nat × Instr) := [(0, .aload_n 0), (1, .aload_n 0), (2, .getfield 366), (5, .ifCond .ne 7), (8, .iconst 1), (9, .goto 4), (12, .iconst 0), (13, .aload_n 0), (14, .getfield 366), (17, .ifCond .eq 16), (20, .aload_n 0), (21, .iload_n 1), (22, .iload_n 2), (23, .invokevirtual 375), (26, .ifCond .ge 7), (29, .iconst 1), (30, .goto 4), (33, .iconst 0), (34, .invokevirtual 379), (37, .ifCond .eq 5), (40, .iconst 0), (41, .ireturn), (42, .aload_n 0), (43, .getfield 78), (46, .aload_n 0), (47, .iload_n 1), (48, .iload_n 2), (49, .invokevirtual 375), (52, .iaload), (53, .ireturn)]
/-- QuietCheckerModel.note(I)I -/
def pm_l58 : List (Nat × Instr) := [(0, .aload_n 0), (1, .aload_n 0), (2, .getfield 366), (5, .ifCond .ne 7), (8, .iconst 1), (9, .goto 4), (12, .iconst 0), (13, .aload_n 0), (14, .getfield 366), (17, .ifCond .eq 19), (20, .iload_n 1), (21, .ifCond .lt 11), (24, .iload_n 1), (25, .aload_n 0), (26, .getfield 383), (29, .if_icmp .lt 7), (32, .iconst 1), (33, .goto 4), (36, .iconst 0), (37, .invokevirtual 379), (40, .ifCond .eq 5), (43, .iconst 0), (44, .ireturn), (45, .aload_n 0), (46, .getfield 81), (49, .iload_n 1), (50, .iaload), (51, .ireturn)]
/-- QuietCheckerModel.letter(IZI)C -/
def pm_l59 : List (Nat × Instr) := [(0, .iload_n 2), (1, .ifCond .eq 10), (4, .aload_n 0), (5, .getfield 328), (8, .goto 7), (11, .aload_n 0), (12, .getfield 228), (15, .istore 4), (17, .iload_n 1), (18, .ifCond .lt 13), (21, .iload_n 1), (22, .iload 4), (24, .if_icmp .ge 7), (27, .iconst 1), (28, .goto 4), (31, .iconst 0), (32, .istore 5), (34, .iload 5), (36, .ifCond .eq 34), (39, .iload_n 3), (40, .ifCond .lt 30), (43, .iload_n 3), (44, .iload_n 2), (45, .ifCond .eq 12), (48, .aload_n 0), (49, .getfield 51), (52, .iload_n 1), (53, .iaload), (54, .goto 9), (57, .aload_n 0), (58, .getfield 20), (61, .iload_n 1), (62, .iaload), (63, .if_icmp .ge 7), (66, .iconst 1), (67, .goto 4), (70, .iconst 0), (71, .istore 5), (73, .aload_n 0), (74, .iload 5), (76, .ifCond .ne 7), (79, .iconst 1), (80, .goto 4), (83, .iconst 0), (84, .iconst 0), (85, .invokevirtual 379), (88, .ifCond .eq 5), (91, .iconst 0), (92, .ireturn), (93, .aload_n 0), (94, .getfield 13), (97, .iload_n 2), (98, .ifCond .eq 12), (101, .aload_n 0), (102, .getfield 48), (105, .iload_n 1), (106, .iaload), (107, .goto 9), (110, .aload_n 0), (111, .getfield 16), (114, .iload_n 1), (115, .iaload), (116, .iload_n 3), (117, .iadd), (118, .caload), (119, .ireturn)]
/-- QuietCheckerModel.count(I)I -/
def pm_l60 : List (Nat × Instr) := [(0, .aload_n 0), (1, .iconst 0), (2, .putfield 114), (5, .iload_n 1), (6, .tableswitch 157 0 10 #[58, 63, 68, 73, 78, 83, 91, 104, 120, 136, 152]), (64, .aload_n 0), (65, .getfield 228), (68, .ireturn), (69, .aload_n 0), (70, .getfield 328), (73, .ireturn), (74, .aload_n 0), (75, .getfield 246), (78, .ireturn), (79, .aload_n 0), (80, .getfield 240), (83, .ireturn), (84, .aload_n 0), (85, .getfield 343), (88, .ireturn), (89, .aload_n 0), (90, .getfield 193), (93, .bipush 15), (95, .iand), (96, .ireturn), (97, .aload_n 0), (98, .getfield 372), (101, .ifCond .eq 7), (104, .iconst 1), (105, .goto 4), (108, .iconst 0), (109, .ireturn), (110, .aload_n 0), (111, .getfield 366), (114, .ifCond .eq 10), (117, .aload_n 0), (118, .getfield 383), (121, .goto 4), (124, .iconst (-1)), (125, .ireturn), (126, .aload_n 0), (127, .getfield 366), (130, .ifCond .eq 10), (133, .aload_n 0), (134, .getfield 392), (137, .goto 4), (140, .iconst (-1)), (141, .ireturn), (142, .aload_n 0), (143, .getfield 366), (146, .ifCond .eq 10), (149, .aload_n 0), (150, .getfield 386), (153, .goto 4), (156, .iconst (-1)), (157, .ireturn), (158, .aload_n 0), (159, .getfield 118), (162, .ireturn), (163, .iconst (-1)), (164, .ireturn)]
/-- QuietChecker$Names.clear()V -/
def pm_l61 : List (Nat × Instr) := [(0, .aload_n 0), (1, .iconst 0), (2, .putfield 26), (5, .return_)]
/-- QuietChecker$Names.isFull()Z -/
def pm_l62 : List (Nat × Instr) := [(0, .aload_n 0), (1, .getfield 26), (4, .aload_n 0), (5, .getfield 15), (8, .arraylength), (9, .if_icmp .lt 7), (12, .iconst 1), (13, .goto 4), (16, .iconst 0), (17, .ireturn)]
/-- QuietChecker$Names.has(I)Z -/
def pm_l63 : List (Nat × Instr) := [(0, .iload_n 1), (1, .ifCond .lt 15), (4, .iload_n 1), (5, .aload_n 0), (6, .getfield 26), (9, .if_icmp .ge 7), (12, .iconst 1), (13, .goto 4), (16, .iconst 0), (17, .ireturn)]
/-- QuietChecker$Names.add(IIZ)V -/
def pm_l64 : List (Nat × Instr) := [(0, .aload_n 0), (1, .invokevirtual 30), (4, .ifCond .eq 4), (7, .return_), (8, .aload_n 0), (9, .getfield 15), (12, .aload_n 0), (13, .getfield 26), (16, .iload_n 1), (17, .iastore), (18, .aload_n 0), (19, .getfield 19), (22, .aload_n 0), (23, .getfield 26), (26, .iload_n 2), (27, .iastore), (28, .aload_n 0), (29, .getfield 22), (32, .aload_n 0), (33, .getfield 26), (36, .iload_n 3), (37, .bastore), (38, .aload_n 0), (39, .dup), (40, .getfield 26), (43, .iconst 1), (44, .iadd), (45, .putfield 26), (48, .return_)]
/-- QuietChecker$Names.find(II)I -/
def pm_l65 : List (Nat × Instr) := [(0, .iconst 0), (1, .istore_n 3), (2, .iload_n 3), (3, .aload_n 0), (4, .getfield 26), (7, .if_icmp .ge 36), (10, .aload_n 0), (11, .getfield 19), (14, .iload_n 3), (15, .iaload), (16, .iload_n 2), (17, .if_icmp .ne 20), (20, .aload_n 0), (21, .aload_n 0), (22, .getfield 15), (25, .iload_n 3), (26, .iaload), (27, .iload_n 1), (28, .iload_n 2), (29, .invokevirtual 34), (32, .ifCond .eq 5), (35, .iload_n 3), (36, .ireturn), (37, .iinc 3 1), (40, .goto (-38)), (43, .iconst (-1)), (44, .ireturn)]
/-- QuietChecker$Names.sameLetters(III)Z -/
def pm_l66 : List (Nat × Instr) := [(0, .iload_n 1), (1, .iload_n 3), (2, .iadd), (3, .aload_n 0), (4, .getfield 9), (7, .arraylength), (8, .if_icmp .gt 14), (11, .iload_n 2), (12, .iload_n 3), (13, .iadd), (14, .aload_n 0), (15, .getfield 9), (18, .arraylength), (19, .if_icmp .le 5), (22, .iconst 0), (23, .ireturn), (24, .iconst 0), (25, .istore 4), (27, .iload 4), (29, .iload_n 3), (30, .if_icmp .ge 32), (33, .aload_n 0), (34, .getfield 9), (37, .iload_n 1), (38, .iload 4), (40, .iadd), (41, .caload), (42, .aload_n 0), (43, .getfield 9), (46, .iload_n 2), (47, .iload 4), (49, .iadd), (50, .caload), (51, .if_icmp .eq 5), (54, .iconst 0), (55, .ireturn), (56, .iinc 4 1), (59, .goto (-32)), (62, .iconst 1), (63, .ireturn)]
/-- QuietChecker$Names.isSecret(I)Z -/
def pm_l67 : List (Nat × Instr) := [(0, .aload_n 0), (1, .iload_n 1), (2, .invokevirtual 38), (5, .ifCond .eq 16), (8, .aload_n 0), (9, .getfield 22), (12, .iload_n 1), (13, .baload), (14, .ifCond .eq 7), (17, .iconst 1), (18, .goto 4), (21, .iconst 0), (22, .ireturn)]
/-- QuietChecker$Names.secretOnes()I -/
def pm_l68 : List (Nat × Instr) := [(0, .iconst 0), (1, .istore_n 1), (2, .iconst 0), (3, .istore_n 2), (4, .iload_n 2), (5, .aload_n 0), (6, .getfield 26), (9, .if_icmp .ge 21), (12, .aload_n 0), (13, .getfield 22), (16, .iload_n 2), (17, .baload), (18, .ifCond .eq 6), (21, .iinc 1 1), (24, .iinc 2 1), (27, .goto (-23)), (30, .iload_n 1), (31, .ireturn)]
/-- QuietChecker$Names.hasCharacter(II)Z -/
def pm_l69 : List (Nat × Instr) := [(0, .aload_n 0), (1, .iload_n 1), (2, .invokevirtual 38), (5, .ifCond .eq 21), (8, .iload_n 2), (9, .ifCond .lt 17), (12, .iload_n 2), (13, .aload_n 0), (14, .getfield 19), (17, .iload_n 1), (18, .iaload), (19, .if_icmp .ge 7), (22, .iconst 1), (23, .goto 4), (26, .iconst 0), (27, .ireturn)]
/-- QuietChecker$Names.character(II)C -/
def pm_l70 : List (Nat × Instr) := [(0, .aload_n 0), (1, .iload_n 1), (2, .iload_n 2), (3, .invokevirtual 42), (6, .ifCond .eq 19), (9, .aload_n 0), (10, .getfield 9), (13, .aload_n 0), (14, .getfield 15), (17, .iload_n 1), (18, .iaload), (19, .iload_n 2), (20, .iadd), (21, .caload), (22, .goto 4), (25, .iconst 0), (26, .ireturn)]
/-- QuietChecker$Program.cell(II)I -/
def pm_l71 : List (Nat × Instr) := [(0, .iload_n 0), (1, .bipush 64), (3, .imul), (4, .iload_n 1), (5, .iadd), (6, .ireturn)]
/-- QuietChecker$Program.local(II)I -/
def pm_l72 : List (Nat × Instr) := [(0, .sipush 2560), (3, .iload_n 0), (4, .bipush 12), (6, .imul), (7, .iadd), (8, .iload_n 1), (9, .iadd), (10, .ireturn)]
/-- QuietChecker$Program.take([CI)V -/
def pm_l73 : List (Nat × Instr) := [(0, .aload_n 0), (1, .iload_n 2), (2, .aload_n 1), (3, .arraylength), (4, .aload_n 0), (5, .getfield 11), (8, .arraylength), (9, .invokestatic 50), (12, .invokestatic 50), (15, .putfield 56), (18, .aload_n 1), (19, .iconst 0), (20, .aload_n 0), (21, .getfield 11), (24, .iconst 0), (25, .aload_n 0), (26, .getfield 56), (29, .invokestatic 60), (32, .return_)]
/-- QuietChecker$Program.clear()V -/
def pm_l74 : List (Nat × Instr) := [(0, .aload_n 0), (1, .getfield 20), (4, .invokevirtual 66), (7, .aload_n 0), (8, .getfield 31), (11, .invokevirtual 66), (14, .aload_n 0), (15, .iconst 0), (16, .putfield 69), (19, .aload_n 0), (20, .iconst 0), (21, .putfield 72), (24, .aload_n 0), (25, .iconst 0), (26, .putfield 75), (29, .aload_n 0), (30, .iconst 0), (31, .putfield 78), (34, .aload_n 0), (35, .iconst 0), (36, .putfield 81), (39, .return_)]
/-- QuietChecker$Program.addTop(IIZI)V -/
def pm_l75 : List (Nat × Instr) := [(0, .aload_n 0), (1, .getfield 20), (4, .invokevirtual 85), (7, .ifCond .eq 4), (10, .return_), (11, .aload_n 0), (12, .getfield 24), (15, .aload_n 0), (16, .getfield 20), (19, .getfield 89), (22, .iload 4), (24, .iastore), (25, .aload_n 0), (26, .getfield 28), (29, .aload_n 0), (30, .getfield 20), (33, .getfield 89), (36, .aload_n 0), (37, .getfield 69), (40, .iastore), (41, .iload 4), (43, .ifCond .le 13), (46, .aload_n 0), (47, .dup), (48, .getfield 69), (51, .iconst 1), (52, .iadd), (53, .putfield 69), (56, .aload_n 0), (57, .getfield 20), (60, .iload_n 1), (61, .iload_n 2), (62, .iload_n 3), (63, .invokevirtual 92), (66, .return_)]
/-- QuietChecker$Program.beginFunction(LQuietChecker$Names;)V -/
def pm_l76 : List (Nat × Instr) := [(0, .aload_n 0), (1, .getfield 31), (4, .invokevirtual 85), (7, .ifCond .eq 4), (10, .return_), (11, .aload_n 0), (12, .getfield 34), (15, .aload_n 0), (16, .getfield 31), (19, .getfield 89), (22, .aload_n 0), (23, .getfield 72), (26, .iastore), (27, .aload_n 0), (28, .getfield 37), (31, .aload_n 0), (32, .getfield 31), (35, .getfield 89), (38, .aload_n 1), (39, .getfield 89), (42, .iastore), (43, .iconst 0), (44, .istore_n 2), (45, .iload_n 2), (46, .bipush 12), (48, .if_icmp .ge 31), (51, .aload_n 0), (52, .getfield 40), (55, .aload_n 0), (56, .getfield 31), (59, .getfield 89), (62, .bipush 12), (64, .imul), (65, .iload_n 2), (66, .iadd), (67, .aload_n 1), (68, .iload_n 2), (69, .invokevirtual 96), (72, .bastore), (73, .iinc 2 1), (76, .goto (-31)), (79, .return_)]
/-- QuietChecker$Program.isArray(I)Z -/
def pm_l77 : List (Nat × Instr) := [(0, .aload_n 0), (1, .getfield 20), (4, .iload_n 1), (5, .invokevirtual 100), (8, .ifCond .eq 16), (11, .aload_n 0), (12, .getfield 24), (15, .iload_n 1), (16, .iaload), (17, .ifCond .le 7), (20, .iconst 1), (21, .goto 4), (24, .iconst 0), (25, .ireturn)]
/-- QuietChecker$Program.hasCell(II)Z -/
def pm_l78 : List (Nat × Instr) := [(0, .iload_n 2), (1, .ifCond .lt 16), (4, .iload_n 2), (5, .aload_n 0), (6, .iload_n 1), (7, .invokevirtual 103), (10, .if_icmp .ge 7), (13, .iconst 1), (14, .goto 4), (17, .iconst 0), (18, .ireturn)]
/-- QuietChecker$Program.cellsOf(I)I -/
def pm_l79 : List (Nat × Instr) := [(0, .aload_n 0), (1, .getfield 20), (4, .iload_n 1), (5, .invokevirtual 100), (8, .ifCond .eq 16), (11, .iconst 1), (12, .aload_n 0), (13, .getfield 24), (16, .iload_n 1), (17, .iaload), (18, .invokestatic 107), (21, .goto 4), (24, .iconst 0), (25, .ireturn)]
/-- QuietChecker$Program.parametersOf(I)I -/
def pm_l80 : List (Nat × Instr) := [(0, .aload_n 0), (1, .getfield 31), (4, .iload_n 1), (5, .invokevirtual 100), (8, .ifCond .eq 12), (11, .aload_n 0), (12, .getfield 37), (15, .iload_n 1), (16, .iaload), (17, .goto 4), (20, .iconst 0), (21, .ireturn)]
/-- QuietChecker$Program.takesSecret(II)Z -/
def pm_l81 : List (Nat × Instr) := [(0, .iload_n 2), (1, .ifCond .lt 30), (4, .iload_n 2), (5, .aload_n 0), (6, .iload_n 1), (7, .invokevirtual 110), (10, .if_icmp .ge 21), (13, .aload_n 0), (14, .getfield 40), (17, .iload_n 1), (18, .bipush 12), (20, .imul), (21, .iload_n 2), (22, .iadd), (23, .baload), (24, .ifCond .eq 7), (27, .iconst 1), (28, .goto 4), (31, .iconst 0), (32, .ireturn)]
/-- QuietChecker$Program.emit(II)I -/
def pm_l82 : List (Nat × Instr) := [(0, .aload_n 0), (1, .getfield 72), (4, .aload_n 0), (5, .getfield 44), (8, .arraylength), (9, .if_icmp .lt 5), (12, .iconst (-1)), (13, .ireturn), (14, .aload_n 0), (15, .getfield 44), (18, .aload_n 0), (19, .getfield 72), (22, .iload_n 1), (23, .iastore), (24, .aload_n 0), (25, .getfield 47), (28, .aload_n 0), (29, .getfield 72), (32, .iload_n 2), (33, .iastore), (34, .aload_n 0), (35, .dup), (36, .getfield 72), (39, .iconst 1), (40, .iadd), (41, .putfield 72), (44, .aload_n 0), (45, .getfield 72), (48, .iconst 1), (49, .isub), (50, .ireturn)]
/-- QuietChecker$Program.aim(I)V -/
def pm_l83 : List (Nat × Instr) := [(0, .iload_n 1), (1, .ifCond .lt 21), (4, .iload_n 1), (5, .aload_n 0), (6, .getfield 72), (9, .if_icmp .ge 13), (12, .aload_n 0), (13, .getfield 47), (16, .iload_n 1), (17, .aload_n 0), (18, .getfield 72), (21, .iastore), (22, .return_)]
/-- QuietChecker$Kind.startsStatement()Z -/
def pm_l84 : List (Nat × Instr) := [(0, .aload_n 0), (1, .getstatic 3), (4, .if_acmp .eq 24), (7, .aload_n 0), (8, .getstatic 28), (11, .if_acmp .eq 17), (14, .aload_n 0), (15, .getstatic 34), (18, .if_acmp .eq 10), (21, .aload_n 0), (22, .getstatic 37), (25, .if_acmp .ne 7), (28, .iconst 1), (29, .goto 4), (32, .iconst 0), (33, .ireturn)]
/-- QuietChecker$Kind.tellsName()Z -/
def pm_l85 : List (Nat × Instr) := [(0, .aload_n 0), (1, .getstatic 22), (4, .if_acmp .eq 10), (7, .aload_n 0), (8, .invokevirtual 153), (11, .ifCond .eq 7), (14, .iconst 1), (15, .goto 4), (18, .iconst 0), (19, .ireturn)]
/-- QuietChecker$Kind.isLabel()Z -/
def pm_l86 : List (Nat × Instr) := [(0, .aload_n 0), (1, .getstatic 16), (4, .if_acmp .eq 10), (7, .aload_n 0), (8, .getstatic 19), (11, .if_acmp .ne 7), (14, .iconst 1), (15, .goto 4), (18, .iconst 0), (19, .ireturn)]
/-- QuietChecker$Kind.prefixOp()I -/
def pm_l87 : List (Nat × Instr) := [(0, .aload_n 0), (1, .getstatic 70), (4, .if_acmp .ne 6), (7, .bipush 13), (9, .ireturn), (10, .aload_n 0), (11, .getstatic 82), (14, .if_acmp .ne 6), (17, .bipush 14), (19, .ireturn), (20, .aload_n 0), (21, .getstatic 85), (24, .if_acmp .ne 8), (27, .bipush 15), (29, .goto 4), (32, .iconst 0), (33, .ireturn)]
/-- QuietChecker$Tokens.scan(I)V -/
def pm_l88 : List (Nat × Instr) := [(0, .aload_n 0), (1, .iload_n 1), (2, .aload_n 0), (3, .getfield 9), (6, .arraylength), (7, .invokestatic 31), (10, .putfield 37), (13, .aload_n 0), (14, .iconst 0), (15, .putfield 41), (18, .aload_n 0), (19, .iconst 0), (20, .putfield 44), (23, .aload_n 0), (24, .invokevirtual 47), (27, .sipush 3000), (30, .istore_n 2), (31, .iload_n 2), (32, .ifCond .le 58), (35, .aload_n 0), (36, .getfield 44), (39, .aload_n 0), (40, .getfield 37), (43, .if_icmp .ge 47), (46, .aload_n 0), (47, .getfield 44), (50, .istore_n 3), (51, .aload_n 0), (52, .invokevirtual 50), (55, .astore 4), (57, .aload_n 0), (58, .aload 4), (60, .iload_n 3), (61, .invokevirtual 54), (64, .aload 4), (66, .getstatic 58), (69, .if_acmp .ne 11), (72, .aload_n 0), (73, .aload_n 0), (74, .getfield 37), (77, .putfield 44), (80, .aload_n 0), (81, .invokevirtual 47), (84, .iinc 2 (-1)), (87, .goto (-56)), (90, .aload_n 0), (91, .getstatic 62), (94, .aload_n 0), (95, .getfield 37), (98, .invokevirtual 54), (101, .return_)]
/-- QuietChecker$Tokens.add(LQuietChecker$Kind;I)V -/
def pm_l89 : List (Nat × Instr) := [(0, .aload_n 0), (1, .getfield 41), (4, .sipush 3001), (7, .if_icmp .ge 61), (10, .aload_n 0), (11, .getfield 17), (14, .aload_n 0), (15, .getfield 41), (18, .aload_n 1), (19, .aastore), (20, .aload_n 0), (21, .getfield 21), (24, .aload_n 0), (25, .getfield 41), (28, .iload_n 2), (29, .iastore), (30, .aload_n 0), (31, .getfield 25), (34, .aload_n 0), (35, .getfield 41), (38, .aload_n 0), (39, .getfield 44), (42, .iload_n 2), (43, .isub), (44, .iastore), (45, .aload_n 0), (46, .getfield 28), (49, .aload_n 0), (50, .getfield 41), (53, .aload_n 0), (54, .getfield 65), (57, .iastore), (58, .aload_n 0), (59, .dup), (60, .getfield 41), (63, .iconst 1), (64, .iadd), (65, .putfield 41), (68, .return_)]
/-- QuietChecker$Tokens.skipBlanks()V -/
def pm_l90 : List (Nat × Instr) := [(0, .iconst 0), (1, .istore_n 1), (2, .aload_n 0), (3, .getfield 44), (6, .aload_n 0), (7, .getfield 37), (10, .if_icmp .ge 59), (13, .aload_n 0), (14, .getfield 9), (17, .aload_n 0), (18, .getfield 44), (21, .caload), (22, .istore_n 2), (23, .iload_n 2), (24, .bipush 35), (26, .if_icmp .ne 8), (29, .iconst 1), (30, .istore_n 1), (31, .goto 25), (34, .iload_n 2), (35, .bipush 10), (37, .if_icmp .ne 8), (40, .iconst 0), (41, .istore_n 1), (42, .goto 14), (45, .iload_n 2), (46, .bipush 32), (48, .if_icmp .eq 8), (51, .iload_n 1), (52, .ifCond .ne 4), (55, .return_), (56, .aload_n 0), (57, .dup), (58, .getfield 44), (61, .iconst 1), (62, .iadd), (63, .putfield 44), (66, .goto (-64)), (69, .return_)]
/-- QuietChecker$Tokens.scanToken()LQuietChecker$Kind; -/
def pm_l91 : List (Nat × Instr) := [(0, .aload_n 0), (1, .getfield 9), (4, .aload_n 0), (5, .getfield 44), (8, .caload), (9, .invokestatic 68), (12, .ifCond .eq 8), (15, .aload_n 0), (16, .invokevirtual 72), (19, .areturn), (20, .aload_n 0), (21, .getfield 9), (24, .aload_n 0), (25, .getfield 44), (28, .caload), (29, .invokestatic 75), (32, .ifCond .eq 10), (35, .aload_n 0), (36, .invokevirtual 78), (39, .goto 7), (42, .aload_n 0), (43, .invokevirtual 81), (46, .areturn)]
/-- QuietChecker$Tokens.scanNumber()LQuietChecker$Kind; -/
def pm_l92 : List (Nat × Instr) := [(0, .lconst 0), (1, .lstore_n 1), (2, .aload_n 0), (3, .getfield 44), (6, .aload_n 0), (7, .getfield 37), (10, .if_icmp .ge 59), (13, .aload_n 0), (14, .getfield 9), (17, .aload_n 0), (18, .getfield 44), (21, .caload), (22, .invokestatic 68), (25, .ifCond .eq 44), (28, .lload_n 1), (29, .ldc2_w 84), (32, .lcmp), (33, .ifCond .ge 23), (36, .lload_n 1), (37, .ldc2_w 86), (40, .lmul), (41, .aload_n 0), (42, .getfield 9), (45, .aload_n 0), (46, .getfield 44), (49, .caload), (50, .bipush 48), (52, .isub), (53, .i2l), (54, .ladd), (55, .lstore_n 1), (56, .aload_n 0), (57, .dup), (58, .getfield 44), (61, .iconst 1), (62, .iadd), (63, .putfield 44), (66, .goto (-64)), (69, .aload_n 0), (70, .lload_n 1), (71, .l2i), (72, .putfield 65), (75, .aload_n 0), (76, .getfield 44), (79, .aload_n 0), (80, .getfield 37), (83, .if_icmp .ge 22), (86, .aload_n 0), (87, .getfield 9), (90, .aload_n 0), (91, .getfield 44), (94, .caload), (95, .invokestatic 75), (98, .ifCond .eq 7), (101, .iconst 1), (102, .goto 4), (105, .iconst 0), (106, .istore_n 3), (107, .iload_n 3), (108, .ifCond .ne 11), (111, .lload_n 1), (112, .ldc2_w 84), (115, .lcmp), (116, .ifCond .lt 9), (119, .getstatic 58), (122, .goto 6), (125, .getstatic 88), (128, .areturn)]
/-- QuietChecker$Tokens.scanWord()LQuietChecker$Kind; -/
def pm_l93 : List (Nat × Instr) := [(0, .aload_n 0), (1, .getfield 44), (4, .istore_n 1), (5, .aload_n 0), (6, .getfield 44), (9, .aload_n 0), (10, .getfield 37), (13, .if_icmp .ge 31), (16, .aload_n 0), (17, .getfield 9), (20, .aload_n 0), (21, .getfield 44), (24, .caload), (25, .invokestatic 75), (28, .ifCond .eq 16), (31, .aload_n 0), (32, .dup), (33, .getfield 44), (36, .iconst 1), (37, .iadd), (38, .putfield 44), (41, .goto (-36)), (44, .aload_n 0), (45, .getfield 44), (48, .iload_n 1), (49, .isub), (50, .istore_n 2), (51, .getstatic 91), (54, .astore_n 3), (55, .aload_n 3), (56, .arraylength), (57, .istore 4), (59, .iconst 0), (60, .istore 5), (62, .iload 5), (64, .iload 4), (66, .if_icmp .ge 43), (69, .aload_n 3), (70, .iload 5), (72, .aaload), (73, .astore 6), (75, .aload 6), (77, .getfield 94), (80, .invokevirtual 98), (83, .iload_n 2), (84, .if_icmp .ne 19), (87, .aload_n 0), (88, .iload_n 1), (89, .aload 6), (91, .getfield 94), (94, .invokevirtual 103), (97, .ifCond .eq 6), (100, .aload 6), (102, .areturn), (103, .iinc 5 1), (106, .goto (-44)), (109, .iload_n 2), (110, .bipush 15), (112, .if_icmp .le 9), (115, .getstatic 58), (118, .goto 6), (121, .getstatic 107), (124, .areturn)]
/-- QuietChecker$Tokens.scanSign()LQuietChecker$Kind; -/
def pm_l94 : List (Nat × Instr) := [(0, .getstatic 58), (3, .astore_n 1), (4, .getstatic 91), (7, .astore_n 2), (8, .aload_n 2), (9, .arraylength), (10, .istore_n 3), (11, .iconst 0), (12, .istore 4), (14, .iload 4), (16, .iload_n 3), (17, .if_icmp .ge 64), (20, .aload_n 2), (21, .iload 4), (23, .aaload), (24, .astore 5), (26, .aload 5), (28, .getfield 94), (31, .invokevirtual 98), (34, .aload_n 1), (35, .getfield 94), (38, .invokevirtual 98), (41, .if_icmp .le 7), (44, .iconst 1), (45, .goto 4), (48, .iconst 0), (49, .istore 6), (51, .iload 6), (53, .ifCond .eq 22), (56, .aload_n 0), (57, .aload_n 0), (58, .getfield 44), (61, .aload 5), (63, .getfield 94), (66, .invokevirtual 103), (69, .ifCond .eq 6), (72, .aload 5), (74, .astore_n 1), (75, .iinc 4 1), (78, .goto (-64)), (81, .aload_n 0), (82, .dup), (83, .getfield 44), (86, .aload_n 1), (87, .getfield 94), (90, .invokevirtual 98), (93, .iadd), (94, .putfield 44), (97, .aload_n 1), (98, .areturn)]
/-- QuietChecker$Tokens.isAt(ILjava/lang/String;)Z -/
def pm_l95 : List (Nat × Instr) := [(0, .iload_n 1), (1, .aload_n 2), (2, .invokevirtual 98), (5, .iadd), (6, .aload_n 0), (7, .getfield 37), (10, .if_icmp .le 5), (13, .iconst 0), (14, .ireturn), (15, .iconst 0), (16, .istore_n 3), (17, .iload_n 3), (18, .aload_n 2), (19, .invokevirtual 98), (22, .if_icmp .ge 27), (25, .aload_n 0), (26, .getfield 9), (29, .iload_n 1), (30, .iload_n 3), (31, .iadd), (32, .caload), (33, .aload_n 2), (34, .iload_n 3), (35, .invokevirtual 110), (38, .if_icmp .eq 5), (41, .iconst 0), (42, .ireturn), (43, .iinc 3 1), (46, .goto (-29)), (49, .iconst 1), (50, .ireturn)]
/-- QuietChecker$Tokens.isDigit(C)Z -/
def pm_l96 : List (Nat × Instr) := [(0, .iload_n 0), (1, .bipush 48), (3, .if_icmp .lt 13), (6, .iload_n 0), (7, .bipush 57), (9, .if_icmp .gt 7), (12, .iconst 1), (13, .goto 4), (16, .iconst 0), (17, .ireturn)]
/-- QuietChecker$Tokens.isWordPart(C)Z -/
def pm_l97 : List (Nat × Instr) := [(0, .iload_n 0), (1, .bipush 97), (3, .if_icmp .lt 9), (6, .iload_n 0), (7, .bipush 122), (9, .if_icmp .le 28), (12, .iload_n 0), (13, .bipush 65), (15, .if_icmp .lt 9), (18, .iload_n 0), (19, .bipush 90), (21, .if_icmp .le 16), (24, .iload_n 0), (25, .bipush 95), (27, .if_icmp .eq 10), (30, .iload_n 0), (31, .invokestatic 68), (34, .ifCond .eq 7), (37, .iconst 1), (38, .goto 4), (41, .iconst 0), (42, .ireturn)]
/-- QuietChecker$Parser.parse()I -/
def pm_l98 : List (Nat × Instr) := [(0, .aload_n 0), (1, .getfield 11), (4, .invokevirtual 48), (7, .aload_n 0), (8, .iconst 0), (9, .putfield 51), (12, .aload_n 0), (13, .iconst 0), (14, .putfield 55), (17, .aload_n 0), (18, .iconst 0), (19, .putfield 59), (22, .aload_n 0), (23, .getfield 26), (26, .aload_n 0), (27, .getfield 11), (30, .getfield 62), (33, .invokevirtual 65), (36, .aload_n 0), (37, .iconst 0), (38, .invokevirtual 69), (41, .sipush 3000), (44, .istore_n 1), (45, .iload_n 1), (46, .ifCond .le 49), (49, .aload_n 0), (50, .getfield 45), (53, .invokevirtual 72), (56, .ifCond .eq 39), (59, .aload_n 0), (60, .getfield 45), (63, .getstatic 76), (66, .if_acmp .ne 19), (69, .aload_n 0), (70, .invokevirtual 79), (73, .aload_n 0), (74, .iconst 0), (75, .invokevirtual 82), (78, .aload_n 0), (79, .invokevirtual 85), (82, .goto 7), (85, .aload_n 0), (86, .invokevirtual 88), (89, .iinc 1 (-1)), (92, .goto (-47)), (95, .aload_n 0), (96, .getfield 11), (99, .aload_n 0), (100, .getfield 11), (103, .getfield 91), (106, .putfield 94), (109, .aload_n 0), (110, .iconst 0), (111, .invokevirtual 82), (114, .aload_n 0), (115, .getstatic 39), (118, .invokevirtual 97), (121, .aload_n 0), (122, .getfield 55), (125, .ifCond .eq 15), (128, .aload_n 0), (129, .getfield 11), (132, .invokevirtual 48), (135, .aload_n 0), (136, .getfield 55), (139, .ireturn), (140, .aload_n 0), (141, .getfield 11), (144, .iconst 1), (145, .putfield 101), (148, .aload_n 0), (149, .getfield 59), (152, .ireturn)]
/-- QuietChecker$Parser.goTo(I)V -/
def pm_l99 : List (Nat × Instr) := [(0, .iload_n 1), (1, .ifCond .lt 45), (4, .iload_n 1), (5, .aload_n 0), (6, .getfield 26), (9, .getfield 104), (12, .if_icmp .ge 34), (15, .aload_n 0), (16, .iload_n 1), (17, .putfield 107), (20, .aload_n 0), (21, .aload_n 0), (22, .getfield 26), (25, .getfield 110), (28, .iload_n 1), (29, .aaload), (30, .putfield 45), (33, .aload_n 0), (34, .aload_n 0), (35, .getfield 26), (38, .getfield 114), (41, .iload_n 1), (42, .iaload), (43, .putfield 118), (46, .return_)]
/-- QuietChecker$Parser.advance()V -/
def pm_l100 : List (Nat × Instr) := [(0, .aload_n 0), (1, .aload_n 0), (2, .getfield 107), (5, .iconst 1), (6, .iadd), (7, .invokevirtual 69), (10, .return_)]
/-- QuietChecker$Parser.expect(LQuietChecker$Kind;)V -/
def pm_l101 : List (Nat × Instr) := [(0, .aload_n 0), (1, .getfield 45), (4, .aload_n 1), (5, .if_acmp .ne 16), (8, .aload_n 0), (9, .aload_n 0), (10, .getfield 107), (13, .iconst 1), (14, .iadd), (15, .invokevirtual 69), (18, .goto 12), (21, .aload_n 0), (22, .iconst 1), (23, .aload_n 0), (24, .getfield 118), (27, .invokevirtual 121), (30, .return_)]
/-- QuietChecker$Parser.fail(II)V -/
def pm_l102 : List (Nat × Instr) := [(0, .aload_n 0), (1, .getfield 55), (4, .ifCond .ne 33), (7, .aload_n 0), (8, .iload_n 1), (9, .bipush 16), (11, .iload_n 2), (12, .imul), (13, .iadd), (14, .putfield 55), (17, .aload_n 0), (18, .aload_n 0), (19, .getfield 26), (22, .getfield 104), (25, .iconst 1), (26, .isub), (27, .putfield 107), (30, .aload_n 0), (31, .getstatic 39), (34, .putfield 45), (37, .return_)]
/-- QuietChecker$Parser.tellLeak(II)V -/
def pm_l103 : List (Nat × Instr) := [(0, .iload_n 1), (1, .bipush 16), (3, .iload_n 2), (4, .imul), (5, .iadd), (6, .istore_n 3), (7, .aload_n 0), (8, .getfield 59), (11, .ifCond .eq 11), (14, .iload_n 3), (15, .aload_n 0), (16, .getfield 59), (19, .if_icmp .ge 8), (22, .aload_n 0), (23, .iload_n 3), (24, .putfield 59), (27, .return_)]
/-- QuietChecker$Parser.mayOpen(II)Z -/
def pm_l104 : List (Nat × Instr) := [(0, .iload_n 1), (1, .bipush 10), (3, .if_icmp .lt 9), (6, .aload_n 0), (7, .iconst 4), (8, .iload_n 2), (9, .invokevirtual 121), (12, .aload_n 0), (13, .getfield 55), (16, .ifCond .ne 7), (19, .iconst 1), (20, .goto 4), (23, .iconst 0), (24, .ireturn)]
/-- QuietChecker$Parser.label()Z -/
def pm_l105 : List (Nat × Instr) := [(0, .aload_n 0), (1, .getfield 45), (4, .getstatic 125), (7, .if_acmp .ne 7), (10, .iconst 1), (11, .goto 4), (14, .iconst 0), (15, .istore_n 1), (16, .aload_n 0), (17, .iload_n 1), (18, .ifCond .eq 9), (21, .getstatic 125), (24, .goto 6), (27, .getstatic 128), (30, .invokevirtual 97), (33, .iload_n 1), (34, .ireturn)]
/-- QuietChecker$Parser.newName(LQuietChecker$Names;)I -/
def pm_l106 : List (Nat × Instr) := [(0, .aload_n 0), (1, .getfield 107), (4, .istore_n 2), (5, .aload_n 0), (6, .getfield 45), (9, .getstatic 131), (12, .if_acmp .eq 15), (15, .aload_n 0), (16, .iconst 1), (17, .aload_n 0), (18, .getfield 118), (21, .invokevirtual 121), (24, .goto 52), (27, .aload_n 1), (28, .aload_n 0), (29, .getfield 118), (32, .aload_n 0), (33, .getfield 26), (36, .getfield 134), (39, .iload_n 2), (40, .iaload), (41, .invokevirtual 137), (44, .iconst (-1)), (45, .if_icmp .eq 15), (48, .aload_n 0), (49, .iconst 3), (50, .aload_n 0), (51, .getfield 118), (54, .invokevirtual 121), (57, .goto 19), (60, .aload_n 1), (61, .invokevirtual 141), (64, .ifCond .eq 12), (67, .aload_n 0), (68, .iconst 4), (69, .aload_n 0), (70, .getfield 118), (73, .invokevirtual 121), (76, .aload_n 0), (77, .invokevirtual 144), (80, .aload_n 0), (81, .getfield 55), (84, .ifCond .ne 7), (87, .iload_n 2), (88, .goto 4), (91, .iconst (-1)), (92, .ireturn)]
/-- QuietChecker$Parser.declaration()V -/
def pm_l107 : List (Nat × Instr) := [(0, .aload_n 0), (1, .invokevirtual 147), (4, .istore_n 1), (5, .aload_n 0), (6, .aload_n 0), (7, .getfield 11), (10, .getfield 150), (13, .invokevirtual 153), (16, .istore_n 2), (17, .aload_n 0), (18, .getfield 45), (21, .getstatic 157), (24, .if_acmp .ne 10), (27, .aload_n 0), (28, .invokevirtual 160), (31, .goto 4), (34, .iconst 0), (35, .istore_n 3), (36, .aload_n 0), (37, .getstatic 164), (40, .invokevirtual 97), (43, .iload_n 2), (44, .iconst (-1)), (45, .if_icmp .eq 30), (48, .aload_n 0), (49, .getfield 11), (52, .aload_n 0), (53, .getfield 26), (56, .getfield 114), (59, .iload_n 2), (60, .iaload), (61, .aload_n 0), (62, .getfield 26), (65, .getfield 134), (68, .iload_n 2), (69, .iaload), (70, .iload_n 1), (71, .iload_n 3), (72, .invokevirtual 167), (75, .return_)]
/-- QuietChecker$Parser.arraySize()I -/
def pm_l108 : List (Nat × Instr) := [(0, .aload_n 0), (1, .invokevirtual 144), (4, .aload_n 0), (5, .getfield 26), (8, .getfield 171), (11, .aload_n 0), (12, .getfield 107), (15, .iaload), (16, .istore_n 1), (17, .aload_n 0), (18, .getfield 45), (21, .getstatic 174), (24, .if_acmp .ne 14), (27, .iload_n 1), (28, .iconst 1), (29, .if_icmp .lt 9), (32, .iload_n 1), (33, .bipush 64), (35, .if_icmp .le 12), (38, .aload_n 0), (39, .iconst 1), (40, .aload_n 0), (41, .getfield 118), (44, .invokevirtual 121), (47, .aload_n 0), (48, .invokevirtual 144), (51, .aload_n 0), (52, .getstatic 177), (55, .invokevirtual 97), (58, .iload_n 1), (59, .ireturn)]
/-- QuietChecker$Parser.beginFunction()V -/
def pm_l109 : List (Nat × Instr) := [(0, .aload_n 0), (1, .invokevirtual 144), (4, .aload_n 0), (5, .aload_n 0), (6, .invokevirtual 147), (9, .putfield 180), (12, .aload_n 0), (13, .aload_n 0), (14, .aload_n 0), (15, .getfield 11), (18, .getfield 183), (21, .invokevirtual 153), (24, .putfield 186), (27, .aload_n 0), (28, .getfield 35), (31, .invokevirtual 189), (34, .aload_n 0), (35, .invokevirtual 190), (38, .aload_n 0), (39, .getfield 11), (42, .aload_n 0), (43, .getfield 35), (46, .invokevirtual 193), (49, .aload_n 0), (50, .iconst 1), (51, .putfield 51), (54, .aload_n 0), (55, .getstatic 196), (58, .invokevirtual 97), (61, .sipush 3000), (64, .istore_n 1), (65, .iload_n 1), (66, .ifCond .le 30), (69, .aload_n 0), (70, .getfield 45), (73, .invokevirtual 199), (76, .ifCond .eq 20), (79, .aload_n 0), (80, .invokevirtual 202), (83, .aload_n 0), (84, .getstatic 164), (87, .invokevirtual 97), (90, .iinc 1 (-1)), (93, .goto (-28)), (96, .return_)]
/-- QuietChecker$Parser.endFunction()V -/
def pm_l110 : List (Nat × Instr) := [(0, .aload_n 0), (1, .getfield 118), (4, .istore_n 1), (5, .aload_n 0), (6, .getstatic 205), (9, .invokevirtual 97), (12, .aload_n 0), (13, .iconst 0), (14, .invokevirtual 208), (17, .ifCond .eq 17), (20, .aload_n 0), (21, .getfield 180), (24, .ifCond .ne 10), (27, .aload_n 0), (28, .bipush 8), (30, .iload_n 1), (31, .invokevirtual 212), (34, .aload_n 0), (35, .getstatic 164), (38, .invokevirtual 97), (41, .aload_n 0), (42, .getstatic 215), (45, .invokevirtual 97), (48, .aload_n 0), (49, .getfield 11), (52, .bipush 11), (54, .iconst 0), (55, .invokevirtual 220), (58, .pop), (59, .aload_n 0), (60, .iconst 0), (61, .putfield 51), (64, .aload_n 0), (65, .getfield 186), (68, .iconst (-1)), (69, .if_icmp .eq 41), (72, .aload_n 0), (73, .getfield 11), (76, .getfield 183), (79, .aload_n 0), (80, .getfield 26), (83, .getfield 114), (86, .aload_n 0), (87, .getfield 186), (90, .iaload), (91, .aload_n 0), (92, .getfield 26), (95, .getfield 134), (98, .aload_n 0), (99, .getfield 186), (102, .iaload), (103, .aload_n 0), (104, .getfield 180), (107, .invokevirtual 223), (110, .return_)]
/-- QuietChecker$Parser.parameters()V -/
def pm_l111 : List (Nat × Instr) := [(0, .aload_n 0), (1, .getstatic 227), (4, .invokevirtual 97), (7, .aload_n 0), (8, .getfield 45), (11, .getstatic 230), (14, .if_acmp .eq 39), (17, .aload_n 0), (18, .invokevirtual 202), (21, .sipush 3000), (24, .istore_n 1), (25, .iload_n 1), (26, .ifCond .le 27), (29, .aload_n 0), (30, .getfield 45), (33, .getstatic 233), (36, .if_acmp .ne 17), (39, .aload_n 0), (40, .invokevirtual 144), (43, .aload_n 0), (44, .invokevirtual 202), (47, .iinc 1 (-1)), (50, .goto (-25)), (53, .aload_n 0), (54, .getstatic 230), (57, .invokevirtual 97), (60, .return_)]
/-- QuietChecker$Parser.local()V -/
def pm_l112 : List (Nat × Instr) := [(0, .aload_n 0), (1, .invokevirtual 147), (4, .istore_n 1), (5, .aload_n 0), (6, .aload_n 0), (7, .getfield 35), (10, .invokevirtual 153), (13, .istore_n 2), (14, .iload_n 2), (15, .iconst (-1)), (16, .if_icmp .eq 29), (19, .aload_n 0), (20, .getfield 35), (23, .aload_n 0), (24, .getfield 26), (27, .getfield 114), (30, .iload_n 2), (31, .iaload), (32, .aload_n 0), (33, .getfield 26), (36, .getfield 134), (39, .iload_n 2), (40, .iaload), (41, .iload_n 1), (42, .invokevirtual 223), (45, .return_)]
/-- QuietChecker$Parser.statements(I)V -/
def pm_l113 : List (Nat × Instr) := [(0, .sipush 3000), (3, .istore_n 2), (4, .iload_n 2), (5, .ifCond .le 37), (8, .aload_n 0), (9, .getfield 45), (12, .invokevirtual 236), (15, .ifCond .eq 27), (18, .aload_n 0), (19, .getfield 11), (22, .dup), (23, .getfield 239), (26, .iconst 1), (27, .iadd), (28, .putfield 239), (31, .aload_n 0), (32, .iload_n 1), (33, .invokevirtual 241), (36, .iinc 2 (-1)), (39, .goto (-35)), (42, .return_)]
/-- QuietChecker$Parser.statement(I)V -/
def pm_l114 : List (Nat × Instr) := [(0, .aload_n 0), (1, .getfield 45), (4, .getstatic 131), (7, .if_acmp .ne 9), (10, .aload_n 0), (11, .iload_n 1), (12, .invokevirtual 244), (15, .return_), (16, .aload_n 0), (17, .getfield 45), (20, .astore_n 2), (21, .aload_n 0), (22, .getfield 118), (25, .istore_n 3), (26, .aload_n 0), (27, .iload_n 1), (28, .iload_n 3), (29, .invokevirtual 247), (32, .ifCond .ne 4), (35, .return_), (36, .aload_n 0), (37, .getfield 11), (40, .iconst 1), (41, .iconst 0), (42, .invokevirtual 220), (45, .pop), (46, .aload_n 0), (47, .invokevirtual 144), (50, .aload_n 2), (51, .getstatic 251), (54, .if_acmp .ne 14), (57, .aload_n 0), (58, .iload_n 3), (59, .iload_n 1), (60, .iconst 1), (61, .iadd), (62, .invokevirtual 254), (65, .goto 28), (68, .aload_n 2), (69, .getstatic 257), (72, .if_acmp .ne 14), (75, .aload_n 0), (76, .iload_n 3), (77, .iload_n 1), (78, .iconst 1), (79, .iadd), (80, .invokevirtual 260), (83, .goto 10), (86, .aload_n 0), (87, .getstatic 164), (90, .invokevirtual 97), (93, .return_)]
/-- QuietChecker$Parser.assignment(I)V -/
def pm_l115 : List (Nat × Instr) := [(0, .aload_n 0), (1, .getfield 107), (4, .istore_n 2), (5, .aload_n 0), (6, .invokevirtual 144), (9, .aload_n 0), (10, .getfield 45), (13, .getstatic 157), (16, .if_acmp .ne 7), (19, .iconst 1), (20, .goto 4), (23, .iconst 0), (24, .istore_n 3), (25, .aload_n 0), (26, .iload_n 2), (27, .iload_n 3), (28, .invokevirtual 263), (31, .istore 4), (33, .iload 4), (35, .iconst (-1)), (36, .if_icmp .eq 20), (39, .aload_n 0), (40, .iload_n 1), (41, .aload_n 0), (42, .getfield 26), (45, .getfield 114), (48, .iload_n 2), (49, .iaload), (50, .invokevirtual 247), (53, .ifCond .ne 4), (56, .return_), (57, .aload_n 0), (58, .getfield 11), (61, .iconst 1), (62, .iconst 0), (63, .invokevirtual 220), (66, .pop), (67, .iload_n 3), (68, .ifCond .eq 10), (71, .aload_n 0), (72, .iload_n 1), (73, .iconst 1), (74, .iadd), (75, .invokevirtual 267), (78, .aload_n 0), (79, .getfield 118), (82, .istore 5), (84, .aload_n 0), (85, .getstatic 270), (88, .invokevirtual 97), (91, .aload_n 0), (92, .iload_n 1), (93, .iconst 1), (94, .iadd), (95, .invokevirtual 208), (98, .ifCond .eq 20), (101, .aload_n 0), (102, .iload 4), (104, .invokevirtual 273), (107, .ifCond .ne 11), (110, .aload_n 0), (111, .bipush 8), (113, .iload 5), (115, .invokevirtual 212), (118, .aload_n 0), (119, .getstatic 164), (122, .invokevirtual 97), (125, .aload_n 0), (126, .getfield 11), (129, .iload_n 3), (130, .ifCond .eq 8), (133, .bipush 6), (135, .goto 4), (138, .iconst 4), (139, .iload_n 3), (140, .ifCond .eq 8), (143, .iload 4), (145, .goto 9), (148, .aload_n 0), (149, .iload 4), (151, .invokevirtual 276), (154, .invokevirtual 220), (157, .pop), (158, .return_)]
/-- QuietChecker$Parser.branch(II)V -/
def pm_l116 : List (Nat × Instr) := [(0, .aload_n 0), (1, .iload_n 1), (2, .iload_n 2), (3, .invokevirtual 280), (6, .aload_n 0), (7, .getfield 11), (10, .bipush 8), (12, .iconst 0), (13, .invokevirtual 220), (16, .istore_n 3), (17, .aload_n 0), (18, .iload_n 2), (19, .invokevirtual 283), (22, .aload_n 0), (23, .getfield 45), (26, .getstatic 286), (29, .if_acmp .eq 12), (32, .aload_n 0), (33, .getfield 11), (36, .iload_n 3), (37, .invokevirtual 289), (40, .return_), (41, .aload_n 0), (42, .invokevirtual 144), (45, .aload_n 0), (46, .getfield 11), (49, .bipush 9), (51, .iconst 0), (52, .invokevirtual 220), (55, .istore 4), (57, .aload_n 0), (58, .getfield 11), (61, .iload_n 3), (62, .invokevirtual 289), (65, .aload_n 0), (66, .iload_n 2), (67, .invokevirtual 283), (70, .aload_n 0), (71, .getfield 11), (74, .iload 4), (76, .invokevirtual 289), (79, .return_)]
/-- QuietChecker$Parser.repetition(II)V -/
def pm_l117 : List (Nat × Instr) := [(0, .aload_n 0), (1, .getfield 11), (4, .getfield 91), (7, .istore_n 3), (8, .aload_n 0), (9, .iload_n 1), (10, .iload_n 2), (11, .invokevirtual 280), (14, .aload_n 0), (15, .getfield 11), (18, .bipush 8), (20, .iconst 0), (21, .invokevirtual 220), (24, .istore 4), (26, .aload_n 0), (27, .iload_n 2), (28, .invokevirtual 283), (31, .aload_n 0), (32, .getfield 11), (35, .iconst 1), (36, .iconst 0), (37, .invokevirtual 220), (40, .pop), (41, .aload_n 0), (42, .getfield 11), (45, .bipush 9), (47, .iload_n 3), (48, .invokevirtual 220), (51, .pop), (52, .aload_n 0), (53, .getfield 11), (56, .iload 4), (58, .invokevirtual 289), (61, .return_)]
/-- QuietChecker$Parser.condition(II)V -/
def pm_l118 : List (Nat × Instr) := [(0, .aload_n 0), (1, .iload_n 2), (2, .invokevirtual 208), (5, .ifCond .eq 10), (8, .aload_n 0), (9, .bipush 6), (11, .iload_n 1), (12, .invokevirtual 212), (15, .aload_n 0), (16, .getfield 11), (19, .bipush 7), (21, .iload_n 1), (22, .invokevirtual 220), (25, .pop), (26, .return_)]
/-- QuietChecker$Parser.block(I)V -/
def pm_l119 : List (Nat × Instr) := [(0, .aload_n 0), (1, .getstatic 196), (4, .invokevirtual 97), (7, .aload_n 0), (8, .iload_n 1), (9, .invokevirtual 82), (12, .aload_n 0), (13, .getstatic 215), (16, .invokevirtual 97), (19, .return_)]
/-- QuietChecker$Parser.index(I)V -/
def pm_l120 : List (Nat × Instr) := [(0, .aload_n 0), (1, .getfield 118), (4, .istore_n 2), (5, .aload_n 0), (6, .invokevirtual 144), (9, .aload_n 0), (10, .iload_n 1), (11, .invokevirtual 208), (14, .ifCond .eq 10), (17, .aload_n 0), (18, .bipush 7), (20, .iload_n 2), (21, .invokevirtual 212), (24, .aload_n 0), (25, .getstatic 177), (28, .invokevirtual 97), (31, .return_)]
/-- QuietChecker$Parser.expression(I)Z -/
def pm_l121 : List (Nat × Instr) := [(0, .aload_n 0), (1, .iconst 1), (2, .iload_n 1), (3, .invokevirtual 292), (6, .istore_n 2), (7, .aload_n 0), (8, .getfield 45), (11, .getstatic 295), (14, .if_acmp .ne 15), (17, .aload_n 0), (18, .iload_n 1), (19, .aload_n 0), (20, .getfield 118), (23, .invokevirtual 247), (26, .ifCond .ne 5), (29, .iload_n 2), (30, .ireturn), (31, .aload_n 0), (32, .invokevirtual 144), (35, .iload_n 2), (36, .aload_n 0), (37, .iload_n 1), (38, .iconst 1), (39, .iadd), (40, .invokevirtual 208), (43, .ior), (44, .istore_n 2), (45, .aload_n 0), (46, .getstatic 298), (49, .invokevirtual 97), (52, .iload_n 2), (53, .aload_n 0), (54, .iload_n 1), (55, .iconst 1), (56, .iadd), (57, .invokevirtual 208), (60, .ior), (61, .istore_n 2), (62, .aload_n 0), (63, .getfield 11), (66, .bipush 12), (68, .iconst 0), (69, .invokevirtual 220), (72, .pop), (73, .iload_n 2), (74, .ireturn)]
/-- QuietChecker$Parser.binary(II)Z -/
def pm_l122 : List (Nat × Instr) := [(0, .aload_n 0), (1, .iload_n 2), (2, .invokevirtual 301), (5, .istore_n 3), (6, .sipush 3000), (9, .istore 4), (11, .iload 4), (13, .ifCond .le 93), (16, .aload_n 0), (17, .getfield 45), (20, .getfield 304), (23, .iload_n 1), (24, .if_icmp .lt 82), (27, .aload_n 0), (28, .getfield 45), (31, .astore 5), (33, .aload_n 0), (34, .getfield 118), (37, .istore 6), (39, .aload_n 0), (40, .invokevirtual 144), (43, .iload_n 3), (44, .aload_n 0), (45, .aload 5), (47, .getfield 304), (50, .iconst 1), (51, .iadd), (52, .iload_n 2), (53, .invokevirtual 292), (56, .ior), (57, .istore_n 3), (58, .iload_n 3), (59, .ifCond .eq 27), (62, .aload 5), (64, .getstatic 307), (67, .if_acmp .eq 11), (70, .aload 5), (72, .getstatic 310), (75, .if_acmp .ne 11), (78, .aload_n 0), (79, .bipush 9), (81, .iload 6), (83, .invokevirtual 212), (86, .aload_n 0), (87, .getfield 11), (90, .aload 5), (92, .getfield 313), (95, .iconst 0), (96, .invokevirtual 220), (99, .pop), (100, .iinc 4 (-1)), (103, .goto (-92)), (106, .iload_n 3), (107, .ireturn)]
/-- QuietChecker$Parser.prefixed(I)Z -/
def pm_l123 : List (Nat × Instr) := [(0, .aload_n 0), (1, .getfield 45), (4, .invokevirtual 316), (7, .istore_n 2), (8, .iload_n 2), (9, .ifCond .ne 9), (12, .aload_n 0), (13, .iload_n 1), (14, .invokevirtual 319), (17, .ireturn), (18, .aload_n 0), (19, .iload_n 1), (20, .aload_n 0), (21, .getfield 118), (24, .invokevirtual 247), (27, .ifCond .ne 5), (30, .iconst 0), (31, .ireturn), (32, .aload_n 0), (33, .invokevirtual 144), (36, .aload_n 0), (37, .iload_n 1), (38, .iconst 1), (39, .iadd), (40, .invokevirtual 301), (43, .istore_n 3), (44, .aload_n 0), (45, .getfield 11), (48, .iload_n 2), (49, .iconst 0), (50, .invokevirtual 220), (53, .pop), (54, .iload_n 3), (55, .ireturn)]
/-- QuietChecker$Parser.operand(I)Z -/
def pm_l124 : List (Nat × Instr) := [(0, .aload_n 0), (1, .getfield 45), (4, .getstatic 131), (7, .if_acmp .ne 9), (10, .aload_n 0), (11, .iload_n 1), (12, .invokevirtual 322), (15, .ireturn), (16, .aload_n 0), (17, .getfield 45), (20, .getstatic 174), (23, .if_acmp .ne 30), (26, .aload_n 0), (27, .getfield 11), (30, .iconst 2), (31, .aload_n 0), (32, .getfield 26), (35, .getfield 171), (38, .aload_n 0), (39, .getfield 107), (42, .iaload), (43, .invokevirtual 220), (46, .pop), (47, .aload_n 0), (48, .invokevirtual 144), (51, .iconst 0), (52, .ireturn), (53, .aload_n 0), (54, .getfield 45), (57, .getstatic 227), (60, .if_acmp .eq 14), (63, .aload_n 0), (64, .iconst 1), (65, .aload_n 0), (66, .getfield 118), (69, .invokevirtual 121), (72, .iconst 0), (73, .ireturn), (74, .aload_n 0), (75, .iload_n 1), (76, .aload_n 0), (77, .getfield 118), (80, .invokevirtual 247), (83, .ifCond .ne 5), (86, .iconst 0), (87, .ireturn), (88, .aload_n 0), (89, .invokevirtual 144), (92, .aload_n 0), (93, .iload_n 1), (94, .iconst 1), (95, .iadd), (96, .invokevirtual 208), (99, .istore_n 2), (100, .aload_n 0), (101, .getstatic 230), (104, .invokevirtual 97), (107, .iload_n 2), (108, .ireturn)]
/-- QuietChecker$Parser.named(I)Z -/
def pm_l125 : List (Nat × Instr) := [(0, .aload_n 0), (1, .getfield 107), (4, .istore_n 2), (5, .aload_n 0), (6, .invokevirtual 144), (9, .aload_n 0), (10, .getfield 45), (13, .getstatic 227), (16, .if_acmp .ne 10), (19, .aload_n 0), (20, .iload_n 2), (21, .iload_n 1), (22, .invokevirtual 325), (25, .ireturn), (26, .aload_n 0), (27, .getfield 45), (30, .getstatic 157), (33, .if_acmp .ne 7), (36, .iconst 1), (37, .goto 4), (40, .iconst 0), (41, .istore_n 3), (42, .aload_n 0), (43, .iload_n 2), (44, .iload_n 3), (45, .invokevirtual 263), (48, .istore 4), (50, .iload 4), (52, .iconst (-1)), (53, .if_icmp .eq 19), (56, .iload_n 3), (57, .ifCond .eq 17), (60, .aload_n 0), (61, .iload_n 1), (62, .aload_n 0), (63, .getfield 118), (66, .invokevirtual 247), (69, .ifCond .ne 5), (72, .iconst 0), (73, .ireturn), (74, .iload_n 3), (75, .ifCond .eq 10), (78, .aload_n 0), (79, .iload_n 1), (80, .iconst 1), (81, .iadd), (82, .invokevirtual 267), (85, .aload_n 0), (86, .getfield 11), (89, .iload_n 3), (90, .ifCond .eq 7), (93, .iconst 5), (94, .goto 4), (97, .iconst 3), (98, .iload_n 3), (99, .ifCond .eq 8), (102, .iload 4), (104, .goto 9), (107, .aload_n 0), (108, .iload 4), (110, .invokevirtual 276), (113, .invokevirtual 220), (116, .pop), (117, .aload_n 0), (118, .iload 4), (120, .invokevirtual 273), (123, .ireturn)]
/-- QuietChecker$Parser.call(II)Z -/
def pm_l126 : List (Nat × Instr) := [(0, .aload_n 0), (1, .getfield 11), (4, .getfield 183), (7, .aload_n 0), (8, .getfield 26), (11, .getfield 114), (14, .iload_n 1), (15, .iaload), (16, .aload_n 0), (17, .getfield 26), (20, .getfield 134), (23, .iload_n 1), (24, .iaload), (25, .invokevirtual 137), (28, .istore_n 3), (29, .iload_n 3), (30, .iconst (-1)), (31, .if_icmp .ne 19), (34, .aload_n 0), (35, .iconst 2), (36, .aload_n 0), (37, .getfield 26), (40, .getfield 114), (43, .iload_n 1), (44, .iaload), (45, .invokevirtual 121), (48, .iconst 0), (49, .ireturn), (50, .aload_n 0), (51, .iload_n 2), (52, .aload_n 0), (53, .getfield 118), (56, .invokevirtual 247), (59, .ifCond .ne 5), (62, .iconst 0), (63, .ireturn), (64, .aload_n 0), (65, .invokevirtual 144), (68, .aload_n 0), (69, .getfield 45), (72, .getstatic 230), (75, .if_acmp .ne 7), (78, .iconst 0), (79, .goto 11), (82, .aload_n 0), (83, .iload_n 3), (84, .iload_n 2), (85, .iconst 1), (86, .iadd), (87, .invokevirtual 328), (90, .istore 4), (92, .aload_n 0), (93, .getfield 45), (96, .getstatic 230), (99, .if_acmp .ne 25), (102, .iload 4), (104, .aload_n 0), (105, .getfield 11), (108, .iload_n 3), (109, .invokevirtual 331), (112, .if_icmp .eq 12), (115, .aload_n 0), (116, .iconst 5), (117, .aload_n 0), (118, .getfield 118), (121, .invokevirtual 121), (124, .aload_n 0), (125, .getstatic 230), (128, .invokevirtual 97), (131, .aload_n 0), (132, .getfield 11), (135, .iconst 1), (136, .iconst 0), (137, .invokevirtual 220), (140, .pop), (141, .aload_n 0), (142, .getfield 11), (145, .bipush 10), (147, .iload_n 3), (148, .invokevirtual 220), (151, .pop), (152, .aload_n 0), (153, .getfield 11), (156, .getfield 183), (159, .iload_n 3), (160, .invokevirtual 334), (163, .ireturn)]
/-- QuietChecker$Parser.arguments(II)I -/
def pm_l127 : List (Nat × Instr) := [(0, .aload_n 0), (1, .iload_n 1), (2, .iconst 0), (3, .iload_n 2), (4, .invokevirtual 335), (7, .iconst 1), (8, .istore_n 3), (9, .sipush 3000), (12, .istore 4), (14, .iload 4), (16, .ifCond .le 33), (19, .aload_n 0), (20, .getfield 45), (23, .getstatic 233), (26, .if_acmp .ne 23), (29, .aload_n 0), (30, .invokevirtual 144), (33, .aload_n 0), (34, .iload_n 1), (35, .iload_n 3), (36, .iload_n 2), (37, .invokevirtual 335), (40, .iinc 3 1), (43, .iinc 4 (-1)), (46, .goto (-32)), (49, .iload_n 3), (50, .ireturn)]
/-- QuietChecker$Parser.argument(III)V -/
def pm_l128 : List (Nat × Instr) := [(0, .aload_n 0), (1, .getfield 118), (4, .istore 4), (6, .aload_n 0), (7, .iload_n 3), (8, .invokevirtual 208), (11, .ifCond .eq 23), (14, .aload_n 0), (15, .getfield 11), (18, .iload_n 1), (19, .iload_n 2), (20, .invokevirtual 339), (23, .ifCond .ne 11), (26, .aload_n 0), (27, .bipush 8), (29, .iload 4), (31, .invokevirtual 212), (34, .return_)]
/-- QuietChecker$Parser.known(IZ)I -/
def pm_l129 : List (Nat × Instr) := [(0, .aload_n 0), (1, .getfield 26), (4, .getfield 114), (7, .iload_n 1), (8, .iaload), (9, .istore_n 3), (10, .aload_n 0), (11, .getfield 51), (14, .ifCond .eq 23), (17, .aload_n 0), (18, .getfield 35), (21, .iload_n 3), (22, .aload_n 0), (23, .getfield 26), (26, .getfield 134), (29, .iload_n 1), (30, .iaload), (31, .invokevirtual 137), (34, .goto 4), (37, .iconst (-1)), (38, .istore 4), (40, .iload 4), (42, .iconst (-1)), (43, .if_icmp .eq 11), (46, .bipush 40), (48, .iload 4), (50, .iadd), (51, .goto 23), (54, .aload_n 0), (55, .getfield 11), (58, .getfield 150), (61, .iload_n 3), (62, .aload_n 0), (63, .getfield 26), (66, .getfield 134), (69, .iload_n 1), (70, .iaload), (71, .invokevirtual 137), (74, .istore 5), (76, .iload 5), (78, .iconst (-1)), (79, .if_icmp .eq 16), (82, .aload_n 0), (83, .getfield 11), (86, .iload 5), (88, .invokevirtual 342), (91, .iload_n 2), (92, .if_icmp .eq 11), (95, .aload_n 0), (96, .iconst 2), (97, .iload_n 3), (98, .invokevirtual 121), (101, .iconst (-1)), (102, .ireturn), (103, .iload 5), (105, .ireturn)]
/-- QuietChecker$Parser.isSecret(I)Z -/
def pm_l130 : List (Nat × Instr) := [(0, .iload_n 1), (1, .bipush 40), (3, .if_icmp .ge 17), (6, .aload_n 0), (7, .getfield 11), (10, .getfield 150), (13, .iload_n 1), (14, .invokevirtual 334), (17, .goto 14), (20, .aload_n 0), (21, .getfield 35), (24, .iload_n 1), (25, .bipush 40), (27, .isub), (28, .invokevirtual 334), (31, .ireturn)]
/-- QuietChecker$Parser.cellOfVariable(I)I -/
def pm_l131 : List (Nat × Instr) := [(0, .iload_n 1), (1, .bipush 40), (3, .if_icmp .ge 11), (6, .iload_n 1), (7, .iconst 0), (8, .invokestatic 345), (11, .goto 20), (14, .aload_n 0), (15, .getfield 11), (18, .getfield 183), (21, .getfield 348), (24, .iload_n 1), (25, .bipush 40), (27, .isub), (28, .invokestatic 349), (31, .ireturn)]
/-- QuietChecker$Machine.load([I)V -/
def pm_l132 : List (Nat × Instr) := [(0, .aload_n 1), (1, .iconst 0), (2, .aload_n 0), (3, .getfield 17), (6, .iconst 0), (7, .aload_n 1), (8, .arraylength), (9, .sipush 2560), (12, .invokestatic 27), (15, .invokestatic 33), (18, .return_)]
/-- QuietChecker$Machine.disturbSecrets(I)V -/
def pm_l133 : List (Nat × Instr) := [(0, .iconst 1), (1, .istore_n 2), (2, .iconst 0), (3, .istore_n 3), (4, .iload_n 3), (5, .aload_n 0), (6, .getfield 9), (9, .getfield 39), (12, .getfield 43), (15, .if_icmp .ge 31), (18, .aload_n 0), (19, .getfield 9), (22, .getfield 39), (25, .iload_n 3), (26, .invokevirtual 49), (29, .ifCond .eq 11), (32, .aload_n 0), (33, .iload_n 3), (34, .iload_n 1), (35, .iload_n 2), (36, .invokevirtual 53), (39, .istore_n 2), (40, .iinc 3 1), (43, .goto (-39)), (46, .return_)]
/-- QuietChecker$Machine.disturbCells(III)I -/
def pm_l134 : List (Nat × Instr) := [(0, .iload_n 3), (1, .istore 4), (3, .iconst 0), (4, .istore 5), (6, .iload 5), (8, .aload_n 0), (9, .getfield 9), (12, .iload_n 1), (13, .invokevirtual 57), (16, .if_icmp .ge 30), (19, .aload_n 0), (20, .getfield 17), (23, .iload_n 1), (24, .iload 5), (26, .invokestatic 61), (29, .dup2), (30, .iaload), (31, .iload_n 2), (32, .iload 4), (34, .imul), (35, .ixor), (36, .iastore), (37, .iinc 4 2), (40, .iinc 5 1), (43, .goto (-37)), (46, .iload 4), (48, .ireturn)]
/-- QuietChecker$Machine.execute(I)V -/
def pm_l135 : List (Nat × Instr) := [(0, .aload_n 0), (1, .iload_n 1), (2, .putfield 64), (5, .aload_n 0), (6, .iconst 0), (7, .putfield 67), (10, .aload_n 0), (11, .iconst 0), (12, .putfield 70), (15, .aload_n 0), (16, .iconst 0), (17, .putfield 73), (20, .aload_n 0), (21, .aload_n 0), (22, .getfield 9), (25, .getfield 76), (28, .putfield 79), (31, .aload_n 0), (32, .iconst (-1)), (33, .putfield 82), (36, .aload_n 0), (37, .getfield 64), (40, .i2l), (41, .ldc2_w 85), (44, .ladd), (45, .aload_n 0), (46, .getfield 9), (49, .getfield 87), (52, .i2l), (53, .lconst 1), (54, .ladd), (55, .lmul), (56, .lstore_n 2), (57, .lconst 0), (58, .lstore 4), (60, .lload 4), (62, .lload_n 2), (63, .lcmp), (64, .ifCond .ge 89), (67, .aload_n 0), (68, .getfield 82), (71, .iconst (-1)), (72, .if_icmp .ne 81), (75, .aload_n 0), (76, .getfield 79), (79, .ifCond .lt 17), (82, .aload_n 0), (83, .getfield 79), (86, .aload_n 0), (87, .getfield 9), (90, .getfield 87), (93, .if_icmp .lt 11), (96, .aload_n 0), (97, .iconst 0), (98, .putfield 82), (101, .goto 43), (104, .aload_n 0), (105, .getfield 79), (108, .istore 6), (110, .aload_n 0), (111, .dup), (112, .getfield 79), (115, .iconst 1), (116, .iadd), (117, .putfield 79), (120, .aload_n 0), (121, .aload_n 0), (122, .getfield 9), (125, .getfield 90), (128, .iload 6), (130, .iaload), (131, .aload_n 0), (132, .getfield 9), (135, .getfield 93), (138, .iload 6), (140, .iaload), (141, .invokevirtual 96), (144, .lload 4), (146, .lconst 1), (147, .ladd), (148, .lstore 4), (150, .goto (-90)), (153, .return_)]
/-- QuietChecker$Machine.firstDifference(LQuietChecker$Machine;)I -/
def pm_l136 : List (Nat × Instr) := [(0, .aload_n 0), (1, .getfield 67), (4, .aload_n 1), (5, .getfield 67), (8, .invokestatic 27), (11, .istore_n 2), (12, .iconst 0), (13, .istore_n 3), (14, .iload_n 3), (15, .iload_n 2), (16, .if_icmp .ge 26), (19, .aload_n 0), (20, .getfield 21), (23, .iload_n 3), (24, .iaload), (25, .aload_n 1), (26, .getfield 21), (29, .iload_n 3), (30, .iaload), (31, .if_icmp .eq 5), (34, .iload_n 3), (35, .ireturn), (36, .iinc 3 1), (39, .goto (-25)), (42, .aload_n 0), (43, .getfield 67), (46, .aload_n 1), (47, .getfield 67), (50, .if_icmp .eq 5), (53, .iload_n 2), (54, .ireturn), (55, .aload_n 0), (56, .getfield 82), (59, .aload_n 1), (60, .getfield 82), (63, .if_icmp .ne 18), (66, .aload_n 0), (67, .getfield 70), (70, .aload_n 1), (71, .getfield 70), (74, .if_icmp .ne 7), (77, .iconst (-1)), (78, .goto 5), (81, .bipush (-2)), (83, .ireturn)]
/-- QuietChecker$Machine.perform(II)V -/
def pm_l137 : List (Nat × Instr) := [(0, .iload_n 1), (1, .tableswitch 159 1 11 #[59, 66, 74, 86, 98, 106, 159, 122, 114, 144, 152]), (60, .aload_n 0), (61, .invokevirtual 100), (64, .goto 102), (67, .aload_n 0), (68, .iload_n 2), (69, .invokevirtual 103), (72, .goto 94), (75, .aload_n 0), (76, .aload_n 0), (77, .iload_n 2), (78, .invokevirtual 107), (81, .invokevirtual 103), (84, .goto 82), (87, .aload_n 0), (88, .iload_n 2), (89, .aload_n 0), (90, .invokevirtual 110), (93, .invokevirtual 114), (96, .goto 70), (99, .aload_n 0), (100, .iload_n 2), (101, .invokevirtual 117), (104, .goto 62), (107, .aload_n 0), (108, .iload_n 2), (109, .invokevirtual 120), (112, .goto 54), (115, .aload_n 0), (116, .iload_n 2), (117, .putfield 79), (120, .goto 46), (123, .aload_n 0), (124, .aload_n 0), (125, .invokevirtual 110), (128, .ifCond .ne 7), (131, .iload_n 2), (132, .goto 7), (135, .aload_n 0), (136, .getfield 79), (139, .putfield 79), (142, .goto 24), (145, .aload_n 0), (146, .iload_n 2), (147, .invokevirtual 123), (150, .goto 16), (153, .aload_n 0), (154, .invokevirtual 126), (157, .goto 9), (160, .aload_n 0), (161, .iload_n 1), (162, .iload_n 2), (163, .invokevirtual 129), (166, .return_)]
/-- QuietChecker$Machine.performOnStack(II)V -/
def pm_l138 : List (Nat × Instr) := [(0, .aload_n 0), (1, .invokevirtual 110), (4, .istore_n 3), (5, .iload_n 1), (6, .tableswitch 216 7 29 #[106, 216, 216, 216, 216, 132, 158, 167, 177, 216, 216, 216, 216, 216, 216, 216, 216, 216, 216, 216, 216, 193, 193]), (112, .aload_n 0), (113, .iconst 2), (114, .iload_n 2), (115, .imul), (116, .iload_n 3), (117, .ifCond .eq 7), (120, .iconst 1), (121, .goto 4), (124, .iconst 0), (125, .iadd), (126, .invokevirtual 132), (129, .pop), (130, .aload_n 0), (131, .iload_n 3), (132, .invokevirtual 103), (135, .goto 100), (138, .aload_n 0), (139, .invokevirtual 110), (142, .istore 4), (144, .aload_n 0), (145, .aload_n 0), (146, .invokevirtual 110), (149, .ifCond .eq 8), (152, .iload 4), (154, .goto 4), (157, .iload_n 3), (158, .invokevirtual 103), (161, .goto 74), (164, .aload_n 0), (165, .iload_n 3), (166, .ineg), (167, .invokevirtual 103), (170, .goto 65), (173, .aload_n 0), (174, .iload_n 3), (175, .iconst (-1)), (176, .ixor), (177, .invokevirtual 103), (180, .goto 55), (183, .aload_n 0), (184, .iload_n 3), (185, .ifCond .ne 7), (188, .iconst 1), (189, .goto 4), (192, .iconst 0), (193, .invokevirtual 103), (196, .goto 39), (199, .aload_n 0), (200, .aload_n 0), (201, .invokevirtual 110), (204, .iload_n 3), (205, .iload_n 1), (206, .bipush 28), (208, .if_icmp .ne 7), (211, .iconst 1), (212, .goto 4), (215, .iconst 0), (216, .invokevirtual 137), (219, .goto 16), (222, .aload_n 0), (223, .iload_n 1), (224, .aload_n 0), (225, .invokevirtual 110), (228, .iload_n 3), (229, .invokestatic 141), (232, .invokevirtual 103), (235, .return_)]
/-- QuietChecker$Machine.combine(III)I -/
def pm_l139 : List (Nat × Instr) := [(0, .iload_n 0), (1, .tableswitch 145 16 27 #[63, 67, 71, 75, 86, 97, 108, 119, 126, 133, 137, 141]), (64, .iload_n 1), (65, .iload_n 2), (66, .ior), (67, .ireturn), (68, .iload_n 1), (69, .iload_n 2), (70, .ixor), (71, .ireturn), (72, .iload_n 1), (73, .iload_n 2), (74, .iand), (75, .ireturn), (76, .iload_n 1), (77, .iload_n 2), (78, .if_icmp .ne 7), (81, .iconst 1), (82, .goto 4), (85, .iconst 0), (86, .ireturn), (87, .iload_n 1), (88, .iload_n 2), (89, .if_icmp .eq 7), (92, .iconst 1), (93, .goto 4), (96, .iconst 0), (97, .ireturn), (98, .iload_n 1), (99, .iload_n 2), (100, .if_icmp .ge 7), (103, .iconst 1), (104, .goto 4), (107, .iconst 0), (108, .ireturn), (109, .iload_n 1), (110, .iload_n 2), (111, .if_icmp .gt 7), (114, .iconst 1), (115, .goto 4), (118, .iconst 0), (119, .ireturn), (120, .iload_n 1), (121, .iload_n 2), (122, .bipush 31), (124, .iand), (125, .ishl), (126, .ireturn), (127, .iload_n 1), (128, .iload_n 2), (129, .bipush 31), (131, .iand), (132, .iushr), (133, .ireturn), (134, .iload_n 1), (135, .iload_n 2), (136, .iadd), (137, .ireturn), (138, .iload_n 1), (139, .iload_n 2), (140, .isub), (141, .ireturn), (142, .iload_n 1), (143, .iload_n 2), (144, .imul), (145, .ireturn), (146, .iconst 0), (147, .ireturn)]
/-- QuietChecker$Machine.divide(IIZ)V -/
def pm_l140 : List (Nat × Instr) := [(0, .iload_n 2), (1, .ifCond .ne 11), (4, .aload_n 0), (5, .iconst 3), (6, .putfield 82), (9, .goto 20), (12, .aload_n 0), (13, .iload_n 3), (14, .ifCond .eq 9), (17, .iload_n 1), (18, .iload_n 2), (19, .idiv), (20, .goto 6), (23, .iload_n 1), (24, .iload_n 2), (25, .irem), (26, .invokevirtual 103), (29, .return_)]
/-- QuietChecker$Machine.held(I)I -/
def pm_l141 : List (Nat × Instr) := [(0, .iload_n 1), (1, .ifCond .lt 21), (4, .iload_n 1), (5, .aload_n 0), (6, .getfield 17), (9, .arraylength), (10, .if_icmp .ge 12), (13, .aload_n 0), (14, .getfield 17), (17, .iload_n 1), (18, .iaload), (19, .goto 4), (22, .iconst 0), (23, .ireturn)]
/-- QuietChecker$Machine.hold(II)V -/
def pm_l142 : List (Nat × Instr) := [(0, .iload_n 1), (1, .ifCond .lt 19), (4, .iload_n 1), (5, .aload_n 0), (6, .getfield 17), (9, .arraylength), (10, .if_icmp .ge 10), (13, .aload_n 0), (14, .getfield 17), (17, .iload_n 1), (18, .iload_n 2), (19, .iastore), (20, .return_)]
/-- QuietChecker$Machine.step()V -/
def pm_l143 : List (Nat × Instr) := [(0, .aload_n 0), (1, .getfield 70), (4, .aload_n 0), (5, .getfield 64), (8, .if_icmp .lt 11), (11, .aload_n 0), (12, .iconst 1), (13, .putfield 82), (16, .goto 13), (19, .aload_n 0), (20, .dup), (21, .getfield 70), (24, .iconst 1), (25, .iadd), (26, .putfield 70), (29, .return_)]
/-- QuietChecker$Machine.jot(I)Z -/
def pm_l144 : List (Nat × Instr) := [(0, .aload_n 0), (1, .getfield 67), (4, .sipush 4000), (7, .if_icmp .lt 10), (10, .aload_n 0), (11, .iconst 4), (12, .putfield 82), (15, .iconst 0), (16, .ireturn), (17, .aload_n 0), (18, .getfield 21), (21, .aload_n 0), (22, .getfield 67), (25, .iload_n 1), (26, .iastore), (27, .aload_n 0), (28, .dup), (29, .getfield 67), (32, .iconst 1), (33, .iadd), (34, .putfield 67), (37, .iconst 1), (38, .ireturn)]
/-- QuietChecker$Machine.touch(II)Z -/
def pm_l145 : List (Nat × Instr) := [(0, .aload_n 0), (1, .getfield 9), (4, .iload_n 1), (5, .iload_n 2), (6, .invokevirtual 144), (9, .ifCond .ne 10), (12, .aload_n 0), (13, .iconst 2), (14, .putfield 82), (17, .iconst 0), (18, .ireturn), (19, .aload_n 0), (20, .iconst (-1)), (21, .aload_n 0), (22, .getfield 9), (25, .getfield 148), (28, .iload_n 1), (29, .iaload), (30, .iload_n 2), (31, .invokestatic 61), (34, .isub), (35, .invokevirtual 132), (38, .ireturn)]
/-- QuietChecker$Machine.readCell(I)V -/
def pm_l146 : List (Nat × Instr) := [(0, .aload_n 0), (1, .invokevirtual 110), (4, .istore_n 2), (5, .aload_n 0), (6, .iload_n 1), (7, .iload_n 2), (8, .invokevirtual 151), (11, .ifCond .eq 16), (14, .aload_n 0), (15, .aload_n 0), (16, .iload_n 1), (17, .iload_n 2), (18, .invokestatic 61), (21, .invokevirtual 107), (24, .invokevirtual 103), (27, .return_)]
/-- QuietChecker$Machine.writeCell(I)V -/
def pm_l147 : List (Nat × Instr) := [(0, .aload_n 0), (1, .invokevirtual 110), (4, .istore_n 2), (5, .aload_n 0), (6, .invokevirtual 110), (9, .istore_n 3), (10, .aload_n 0), (11, .iload_n 1), (12, .iload_n 3), (13, .invokevirtual 151), (16, .ifCond .eq 13), (19, .aload_n 0), (20, .iload_n 1), (21, .iload_n 3), (22, .invokestatic 61), (25, .iload_n 2), (26, .invokevirtual 114), (29, .return_)]
/-- QuietChecker$Machine.enter(I)V -/
def pm_l148 : List (Nat × Instr) := [(0, .aload_n 0), (1, .getfield 9), (4, .getfield 154), (7, .iload_n 1), (8, .invokevirtual 157), (11, .ifCond .ne 4), (14, .return_), (15, .iload_n 1), (16, .iconst 0), (17, .invokestatic 160), (20, .istore_n 2), (21, .aload_n 0), (22, .getfield 17), (25, .iload_n 2), (26, .iload_n 2), (27, .bipush 12), (29, .iadd), (30, .iconst 0), (31, .invokestatic 163), (34, .aload_n 0), (35, .getfield 9), (38, .iload_n 1), (39, .invokevirtual 169), (42, .iconst 1), (43, .isub), (44, .istore_n 3), (45, .iload_n 3), (46, .ifCond .lt 20), (49, .aload_n 0), (50, .iload_n 2), (51, .iload_n 3), (52, .iadd), (53, .aload_n 0), (54, .invokevirtual 110), (57, .invokevirtual 114), (60, .iinc 3 (-1)), (63, .goto (-18)), (66, .aload_n 0), (67, .aload_n 0), (68, .getfield 79), (71, .invokevirtual 103), (74, .aload_n 0), (75, .aload_n 0), (76, .getfield 9), (79, .getfield 172), (82, .iload_n 1), (83, .iaload), (84, .putfield 79), (87, .return_)]
/-- QuietChecker$Machine.leave()V -/
def pm_l149 : List (Nat × Instr) := [(0, .aload_n 0), (1, .invokevirtual 110), (4, .istore_n 1), (5, .aload_n 0), (6, .aload_n 0), (7, .invokevirtual 110), (10, .putfield 79), (13, .aload_n 0), (14, .iload_n 1), (15, .invokevirtual 103), (18, .return_)]
/-- QuietChecker$Machine.push(I)V -/
def pm_l150 : List (Nat × Instr) := [(0, .aload_n 0), (1, .getfield 73), (4, .aload_n 0), (5, .getfield 24), (8, .arraylength), (9, .if_icmp .ge 23), (12, .aload_n 0), (13, .getfield 24), (16, .aload_n 0), (17, .getfield 73), (20, .iload_n 1), (21, .iastore), (22, .aload_n 0), (23, .dup), (24, .getfield 73), (27, .iconst 1), (28, .iadd), (29, .putfield 73), (32, .return_)]
/-- QuietChecker$Machine.pop()I -/
def pm_l151 : List (Nat × Instr) := [(0, .aload_n 0), (1, .getfield 73), (4, .ifCond .ne 5), (7, .iconst 0), (8, .ireturn), (9, .aload_n 0), (10, .dup), (11, .getfield 73), (14, .iconst 1), (15, .isub), (16, .putfield 73), (19, .aload_n 0), (20, .getfield 24), (23, .aload_n 0), (24, .getfield 73), (27, .iaload), (28, .ireturn)]
/-- QuietChecker.feed(JI)Z -/
def pm_l152 : List (Nat × Instr) := [(0, .iload_n 3), (1, .iconst 1), (2, .if_icmp .lt 21), (5, .iload_n 3), (6, .bipush 8), (8, .if_icmp .gt 15), (11, .aload_n 0), (12, .getfield 46), (15, .iload_n 3), (16, .iadd), (17, .sipush 3000), (20, .if_icmp .le 5), (23, .iconst 0), (24, .ireturn), (25, .iconst 0), (26, .istore 4), (28, .iload 4), (30, .iload_n 3), (31, .if_icmp .ge 23), (34, .lload_n 1), (35, .iload 4), (37, .invokestatic 50), (40, .invokestatic 54), (43, .ifCond .ne 5), (46, .iconst 0), (47, .ireturn), (48, .iinc 4 1), (51, .goto (-23)), (54, .iload_n 3), (55, .iconst 1), (56, .isub), (57, .istore 4), (59, .iload 4), (61, .ifCond .lt 34), (64, .aload_n 0), (65, .getfield 9), (68, .aload_n 0), (69, .getfield 46), (72, .lload_n 1), (73, .iload 4), (75, .invokestatic 50), (78, .castore), (79, .aload_n 0), (80, .dup), (81, .getfield 46), (84, .iconst 1), (85, .iadd), (86, .putfield 46), (89, .iinc 4 (-1)), (92, .goto (-33)), (95, .iconst 1), (96, .ireturn)]
/-- QuietChecker.check()I -/
def pm_l153 : List (Nat × Instr) := [(0, .aload_n 0), (1, .getfield 16), (4, .aload_n 0), (5, .getfield 9), (8, .aload_n 0), (9, .getfield 46), (12, .invokevirtual 58), (15, .aload_n 0), (16, .iconst 0), (17, .putfield 46), (20, .aload_n 0), (21, .iconst 0), (22, .putfield 62), (25, .aload_n 0), (26, .getfield 29), (29, .iconst 0), (30, .invokestatic 66), (33, .aload_n 0), (34, .getfield 25), (37, .invokevirtual 72), (40, .istore_n 1), (41, .aload_n 0), (42, .iload_n 1), (43, .bipush 16), (45, .irem), (46, .putfield 76), (49, .iload_n 1), (50, .ireturn)]
/-- QuietChecker.put(III)V -/
def pm_l154 : List (Nat × Instr) := [(0, .aload_n 0), (1, .getfield 16), (4, .getfield 79), (7, .ifCond .ne 11), (10, .new 82), (13, .dup), (14, .invokespecial 84), (17, .athrow), (18, .aload_n 0), (19, .getfield 16), (22, .iload_n 1), (23, .iload_n 2), (24, .invokevirtual 85), (27, .ifCond .ne 11), (30, .new 89), (33, .dup), (34, .invokespecial 91), (37, .athrow), (38, .aload_n 0), (39, .getfield 29), (42, .iload_n 1), (43, .iload_n 2), (44, .invokestatic 92), (47, .iload_n 3), (48, .iastore), (49, .return_)]
/-- QuietChecker.run(I)I -/
def pm_l155 : List (Nat × Instr) := [(0, .aload_n 0), (1, .getfield 16), (4, .getfield 79), (7, .ifCond .ne 11), (10, .new 82), (13, .dup), (14, .invokespecial 84), (17, .athrow), (18, .iload_n 1), (19, .ifCond .lt 10), (22, .iload_n 1), (23, .sipush 20000), (26, .if_icmp .le 11), (29, .new 96), (32, .dup), (33, .invokespecial 98), (36, .athrow), (37, .aload_n 0), (38, .getfield 29), (41, .iconst 0), (42, .aload_n 0), (43, .getfield 33), (46, .iconst 0), (47, .sipush 2560), (50, .invokestatic 99), (53, .aload_n 0), (54, .iload_n 1), (55, .putfield 105), (58, .aload_n 0), (59, .iconst 1), (60, .putfield 62), (63, .aload_n 0), (64, .getfield 39), (67, .aload_n 0), (68, .getfield 33), (71, .invokevirtual 108), (74, .aload_n 0), (75, .getfield 39), (78, .aload_n 0), (79, .getfield 105), (82, .invokevirtual 112), (85, .aload_n 0), (86, .getfield 39), (89, .getfield 116), (92, .ireturn)]
/-- QuietChecker.twin(I)I -/
def pm_l156 : List (Nat × Instr) := [(0, .aload_n 0), (1, .getfield 62), (4, .ifCond .ne 11), (7, .new 82), (10, .dup), (11, .invokespecial 84), (14, .athrow), (15, .aload_n 0), (16, .getfield 43), (19, .aload_n 0), (20, .getfield 33), (23, .invokevirtual 108), (26, .aload_n 0), (27, .getfield 43), (30, .iload_n 1), (31, .invokevirtual 119), (34, .aload_n 0), (35, .getfield 43), (38, .aload_n 0), (39, .getfield 105), (42, .invokevirtual 112), (45, .aload_n 0), (46, .getfield 39), (49, .aload_n 0), (50, .getfield 43), (53, .invokevirtual 122), (56, .ireturn)]
/-- QuietChecker.value(II)I -/
def pm_l157 : List (Nat × Instr) := [(0, .aload_n 0), (1, .getfield 62), (4, .ifCond .ne 11), (7, .new 82), (10, .dup), (11, .invokespecial 84), (14, .athrow), (15, .aload_n 0), (16, .getfield 16), (19, .iload_n 1), (20, .iload_n 2), (21, .invokevirtual 85), (24, .ifCond .ne 11), (27, .new 89), (30, .dup), (31, .invokespecial 91), (34, .athrow), (35, .aload_n 0), (36, .getfield 39), (39, .getfield 126), (42, .iload_n 1), (43, .iload_n 2), (44, .invokestatic 92), (47, .iaload), (48, .ireturn)]
/-- QuietChecker.note(I)I -/
def pm_l158 : List (Nat × Instr) := [(0, .aload_n 0), (1, .getfield 62), (4, .ifCond .ne 11), (7, .new 82), (10, .dup), (11, .invokespecial 84), (14, .athrow), (15, .iload_n 1), (16, .ifCond .lt 14), (19, .iload_n 1), (20, .aload_n 0), (21, .getfield 39), (24, .getfield 129), (27, .if_icmp .lt 11), (30, .new 89), (33, .dup), (34, .invokespecial 91), (37, .athrow), (38, .aload_n 0), (39, .getfield 39), (42, .getfield 132), (45, .iload_n 1), (46, .iaload), (47, .ireturn)]
/-- QuietChecker.letter(IZI)C -/
def pm_l159 : List (Nat × Instr) := [(0, .iload_n 2), (1, .ifCond .eq 13), (4, .aload_n 0), (5, .getfield 16), (8, .getfield 135), (11, .goto 10), (14, .aload_n 0), (15, .getfield 16), (18, .getfield 139), (21, .astore 4), (23, .aload 4), (25, .iload_n 1), (26, .iload_n 3), (27, .invokevirtual 142), (30, .ifCond .ne 11), (33, .new 89), (36, .dup), (37, .invokespecial 91), (40, .athrow), (41, .aload 4), (43, .iload_n 1), (44, .iload_n 3), (45, .invokevirtual 147), (48, .ireturn)]
/-- QuietChecker.count(I)I -/
def pm_l160 : List (Nat × Instr) := [(0, .iload_n 1), (1, .tableswitch 191 0 10 #[59, 70, 81, 92, 100, 108, 113, 129, 148, 167, 186]), (60, .aload_n 0), (61, .getfield 16), (64, .getfield 139), (67, .getfield 151), (70, .ireturn), (71, .aload_n 0), (72, .getfield 16), (75, .getfield 135), (78, .getfield 151), (81, .ireturn), (82, .aload_n 0), (83, .getfield 16), (86, .getfield 139), (89, .invokevirtual 154), (92, .ireturn), (93, .aload_n 0), (94, .getfield 16), (97, .getfield 157), (100, .ireturn), (101, .aload_n 0), (102, .getfield 16), (105, .getfield 160), (108, .ireturn), (109, .aload_n 0), (110, .getfield 76), (113, .ireturn), (114, .aload_n 0), (115, .getfield 16), (118, .getfield 79), (121, .ifCond .eq 7), (124, .iconst 1), (125, .goto 4), (128, .iconst 0), (129, .ireturn), (130, .aload_n 0), (131, .getfield 62), (134, .ifCond .eq 13), (137, .aload_n 0), (138, .getfield 39), (141, .getfield 129), (144, .goto 4), (147, .iconst (-1)), (148, .ireturn), (149, .aload_n 0), (150, .getfield 62), (153, .ifCond .eq 13), (156, .aload_n 0), (157, .getfield 39), (160, .getfield 163), (163, .goto 4), (166, .iconst (-1)), (167, .ireturn), (168, .aload_n 0), (169, .getfield 62), (172, .ifCond .eq 13), (175, .aload_n 0), (176, .getfield 39), (179, .getfield 116), (182, .goto 4), (185, .iconst (-1)), (186, .ireturn), (187, .aload_n 0), (188, .getfield 46), (191, .ireturn), (192, .iconst (-1)), (193, .ireturn)]
/-- QuietChecker.byteOf(JI)C -/
def pm_l161 : List (Nat × Instr) := [(0, .lload_n 0), (1, .bipush 8), (3, .iload_n 2), (4, .imul), (5, .lushr), (6, .ldc2_w 166), (9, .land), (10, .l2i), (11, .i2c), (12, .ireturn)]
/-- QuietChecker.mayStandInText(C)Z -/
def pm_l162 : List (Nat × Instr) := [(0, .iload_n 0), (1, .bipush 10), (3, .if_icmp .eq 15), (6, .iload_n 0), (7, .bipush 32), (9, .if_icmp .lt 13), (12, .iload_n 0), (13, .bipush 126), (15, .if_icmp .gt 7), (18, .iconst 1), (19, .goto 4), (22, .iconst 0), (23, .ireturn)]
/-- java/lang/String.length()I -/
def pm_l163 : List (Nat × Instr) := [(0, .aload_n 0), (1, .getfield 9), (4, .arraylength), (5, .aload_n 0), (6, .invokevirtual 335), (9, .ishr), (10, .ireturn)]
/-- java/lang/String.charAt(I)C -/
def pm_l164 : List (Nat × Instr) := [(0, .aload_n 0), (1, .invokevirtual 492), (4, .ifCond .eq 12), (7, .aload_n 0), (8, .getfield 9), (11, .iload_n 1), (12, .invokestatic 495), (15, .ireturn), (16, .aload_n 0), (17, .getfield 9), (20, .iload_n 1), (21, .invokestatic 498), (24, .ireturn)]
/-- java/lang/String.coder()B -/
def pm_l165 : List (Nat × Instr) := [(0, .getstatic 38), (3, .ifCond .eq 10), (6, .aload_n 0), (7, .getfield 15), (10, .goto 4), (13, .iconst 1), (14, .ireturn)]
/-- java/lang/String.isLatin1()Z -/
def pm_l166 : List (Nat × Instr) := [(0, .getstatic 38), (3, .ifCond .eq 14), (6, .aload_n 0), (7, .getfield 15), (10, .ifCond .ne 7), (13, .iconst 1), (14, .goto 4), (17, .iconst 0), (18, .ireturn)]
/-- java/lang/StringLatin1.charAt([BI)C -/
def pm_l167 : List (Nat × Instr) := [(0, .iload_n 1), (1, .aload_n 0), (2, .arraylength), (3, .invokestatic 9), (6, .aload_n 0), (7, .iload_n 1), (8, .baload), (9, .sipush 255), (12, .iand), (13, .i2c), (14, .ireturn)]
/-- java/util/Arrays.rangeCheck(III)V -/
def pm_l168 : List (Nat × Instr) := [(0, .iload_n 1), (1, .iload_n 2), (2, .if_icmp .le 44), (5, .new 43), (8, .dup), (9, .new 45), (12, .dup), (13, .invokespecial 47), (16, .ldc 48), (18, .invokevirtual 50), (21, .iload_n 1), (22, .invokevirtual 54), (25, .ldc 57), (27, .invokevirtual 50), (30, .iload_n 2), (31, .invokevirtual 54), (34, .ldc 59), (36, .invokevirtual 50), (39, .invokevirtual 61), (42, .invokespecial 65), (45, .athrow), (46, .iload_n 1), (47, .ifCond .ge 12), (50, .new 68), (53, .dup), (54, .iload_n 1), (55, .invokespecial 70), (58, .athrow), (59, .iload_n 2), (60, .iload_n 0), (61, .if_icmp .le 12), (64, .new 68), (67, .dup), (68, .iload_n 2), (69, .invokespecial 70), (72, .athrow), (73, .return_)]
/-- java/util/Arrays.fill([II)V -/
def pm_l169 : List (Nat × Instr) := [(0, .iconst 0), (1, .istore_n 2), (2, .aload_n 0), (3, .arraylength), (4, .istore_n 3), (5, .iload_n 2), (6, .iload_n 3), (7, .if_icmp .ge 13), (10, .aload_n 0), (11, .iload_n 2), (12, .iload_n 1), (13, .iastore), (14, .iinc 2 1), (17, .goto (-12)), (20, .return_)]
/-- java/util/Arrays.fill([IIII)V -/
def pm_l170 : List (Nat × Instr) := [(0, .aload_n 0), (1, .arraylength), (2, .iload_n 1), (3, .iload_n 2), (4, .invokestatic 13), (7, .iload_n 1), (8, .istore 4), (10, .iload 4), (12, .iload_n 2), (13, .if_icmp .ge 14), (16, .aload_n 0), (17, .iload 4), (19, .iload_n 3), (20, .iastore), (21, .iinc 4 1), (24, .goto (-14)), (27, .return_)]
/-- java/lang/Math.max(II)I -/
def pm_l171 : List (Nat × Instr) := [(0, .iload_n 0), (1, .iload_n 1), (2, .if_icmp .lt 7), (5, .iload_n 0), (6, .goto 4), (9, .iload_n 1), (10, .ireturn)]
/-- java/lang/Math.min(II)I -/
def pm_l172 : List (Nat × Instr) := [(0, .iload_n 0), (1, .iload_n 1), (2, .if_icmp .gt 7), (5, .iload_n 0), (6, .goto 4), (9, .iload_n 1), (10, .ireturn)]
/-- QuietCheckerLaw.law([I)Z -/
def pm_l173 : List (Nat × Instr) := [(0, .new 8), (3, .dup), (4, .invokespecial 37), (7, .astore_n 1), (8, .new 38), (11, .dup), (12, .invokespecial 40), (15, .astore_n 2), (16, .iconst 1), (17, .newarray .long), (19, .astore_n 3), (20, .iconst 0), (21, .istore 4), (23, .iload 4), (25, .aload_n 0), (26, .arraylength), (27, .iconst 4), (28, .isub), (29, .if_icmp .gt 413), (32, .aload_n 0), (33, .iload 4), (35, .iaload), (36, .bipush 15), (38, .iand), (39, .tableswitch 397 0 8 #[49, 118, 131, 180, 208, 236, 276, 304, 372]), (88, .aload_n 1), (89, .aload_n 0), (90, .iload 4), (92, .iconst 1), (93, .iadd), (94, .iaload), (95, .i2l), (96, .bipush 32), (98, .lshl), (99, .aload_n 0), (100, .iload 4), (102, .iconst 2), (103, .iadd), (104, .iaload), (105, .i2l), (106, .ldc2_w 41), (109, .land), (110, .lor), (111, .aload_n 0), (112, .iload 4), (114, .iconst 3), (115, .iadd), (116, .iaload), (117, .invokevirtual 43), (120, .aload_n 2), (121, .aload_n 0), (122, .iload 4), (124, .iconst 1), (125, .iadd), (126, .iaload), (127, .i2l), (128, .bipush 32), (130, .lshl), (131, .aload_n 0), (132, .iload 4), (134, .iconst 2), (135, .iadd), (136, .iaload), (137, .i2l), (138, .ldc2_w 41), (141, .land), (142, .lor), (143, .aload_n 0), (144, .iload 4), (146, .iconst 3), (147, .iadd), (148, .iaload), (149, .invokevirtual 47), (152, .if_icmp .eq 284), (155, .iconst 0), (156, .ireturn), (157, .aload_n 1), (158, .invokevirtual 48), (161, .pop), (162, .aload_n 2), (163, .invokevirtual 52), (166, .pop), (167, .goto 269), (170, .aload_n 1), (171, .aload_n 0), (172, .iload 4), (174, .iconst 1), (175, .iadd), (176, .iaload), (177, .aload_n 0), (178, .iload 4), (180, .iconst 2), (181, .iadd), (182, .iaload), (183, .aload_n 0), (184, .iload 4), (186, .iconst 3), (187, .iadd), (188, .iaload), (189, .invokestatic 53), (192, .istore 5), (194, .aload_n 2), (195, .aload_n 0), (196, .iload 4), (198, .iconst 1), (199, .iadd), (200, .iaload), (201, .aload_n 0), (202, .iload 4), (204, .iconst 2), (205, .iadd), (206, .iaload), (207, .aload_n 0), (208, .iload 4), (210, .iconst 3), (211, .iadd), (212, .iaload), (213, .invokevirtual 58), (216, .goto 220), (219, .aload_n 1), (220, .aload_n 0), (221, .iload 4), (223, .iconst 1), (224, .iadd), (225, .iaload), (226, .aload_n 3), (227, .invokestatic 59), (230, .istore 5), (232, .aload_n 2), (233, .aload_n 0), (234, .iload 4), (236, .iconst 1), (237, .iadd), (238, .iaload), (239, .invokevirtual 62), (242, .istore 6), (244, .goto 192), (247, .aload_n 1), (248, .aload_n 0), (249, .iload 4), (251, .iconst 1), (252, .iadd), (253, .iaload), (254, .aload_n 3), (255, .invokestatic 63), (258, .istore 5), (260, .aload_n 2), (261, .aload_n 0), (262, .iload 4), (264, .iconst 1), (265, .iadd), (266, .iaload), (267, .invokevirtual 65), (270, .istore 6), (272, .goto 164), (275, .aload_n 1), (276, .aload_n 0), (277, .iload 4), (279, .iconst 1), (280, .iadd), (281, .iaload), (282, .aload_n 0), (283, .iload 4), (285, .iconst 2), (286, .iadd), (287, .iaload), (288, .aload_n 3), (289, .invokestatic 66), (292, .istore 5), (294, .aload_n 2), (295, .aload_n 0), (296, .iload 4), (298, .iconst 1), (299, .iadd), (300, .iaload), (301, .aload_n 0), (302, .iload 4), (304, .iconst 2), (305, .iadd), (306, .iaload), (307, .invokevirtual 69), (310, .istore 6), (312, .goto 124), (315, .aload_n 1), (316, .aload_n 0), (317, .iload 4), (319, .iconst 1), (320, .iadd), (321, .iaload), (322, .aload_n 3), (323, .invokestatic 70), (326, .istore 5), (328, .aload_n 2), (329, .aload_n 0), (330, .iload 4), (332, .iconst 1), (333, .iadd), (334, .iaload), (335, .invokevirtual 72), (338, .istore 6), (340, .goto 96), (343, .aload_n 1), (344, .aload_n 0), (345, .iload 4), (347, .iconst 1), (348, .iadd), (349, .iaload), (350, .aload_n 0), (351, .iload 4), (353, .iconst 2), (354, .iadd), (355, .iaload), (356, .ifCond .eq 7), (359, .iconst 1), (360, .goto 4), (363, .iconst 0), (364, .aload_n 0), (365, .iload 4), (367, .iconst 3), (368, .iadd), (369, .iaload), (370, .aload_n 3), (371, .invokestatic 73), (374, .istore 5), (376, .aload_n 2), (377, .aload_n 0), (378, .iload 4), (380, .iconst 1), (381, .iadd), (382, .iaload), (383, .aload_n 0), (384, .iload 4), (386, .iconst 2), (387, .iadd), (388, .iaload), (389, .ifCond .eq 7), (392, .iconst 1), (393, .goto 4), (396, .iconst 0), (397, .aload_n 0), (398, .iload 4), (400, .iconst 3), (401, .iadd), (402, .iaload), (403, .invokevirtual 76), (406, .istore 6), (408, .goto 28), (411, .aload_n 1), (412, .aload_n 0), (413, .iload 4), (415, .iconst 1), (416, .iadd), (417, .iaload), (418, .invokevirtual 77), (421, .pop), (422, .aload_n 2), (423, .aload_n 0), (424, .iload 4), (426, .iconst 1), (427, .iadd), (428, .iaload), (429, .invokevirtual 80), (432, .pop), (433, .goto 3), (436, .iinc 4 4), (439, .goto (-416)), (442, .iconst 1), (443, .ireturn)]
/-- QuietCheckerLaw.put(LQuietChecker;III)I -/
def pm_l174 : List (Nat × Instr) := [(0, .aload_n 0), (1, .iload_n 1), (2, .iload_n 2), (3, .iload_n 3), (4, .invokevirtual 7), (7, .goto 11), (10, .astore 4), (12, .iconst 1), (13, .ireturn), (14, .astore 4), (16, .iconst 2), (17, .ireturn), (18, .iconst 0), (19, .ireturn)]
/-- QuietCheckerLaw.run(LQuietChecker;I[J)I -/
def pm_l175 : List (Nat × Instr) := [(0, .aload_n 2), (1, .iconst 0), (2, .aload_n 0), (3, .iload_n 1), (4, .invokevirtual 17), (7, .i2l), (8, .lastore), (9, .goto 9), (12, .astore_n 3), (13, .iconst 1), (14, .ireturn), (15, .astore_n 3), (16, .iconst 2), (17, .ireturn), (18, .iconst 0), (19, .ireturn)]
/-- QuietCheckerLaw.twin(LQuietChecker;I[J)I -/
def pm_l176 : List (Nat × Instr) := [(0, .aload_n 2), (1, .iconst 0), (2, .aload_n 0), (3, .iload_n 1), (4, .invokevirtual 23), (7, .i2l), (8, .lastore), (9, .goto 6), (12, .astore_n 3), (13, .iconst 1), (14, .ireturn), (15, .iconst 0), (16, .ireturn)]
/-- QuietCheckerLaw.value(LQuietChecker;II[J)I -/
def pm_l177 : List (Nat × Instr) := [(0, .aload_n 3), (1, .iconst 0), (2, .aload_n 0), (3, .iload_n 1), (4, .iload_n 2), (5, .invokevirtual 26), (8, .i2l), (9, .lastore), (10, .goto 11), (13, .astore 4), (15, .iconst 1), (16, .ireturn), (17, .astore 4), (19, .iconst 2), (20, .ireturn), (21, .iconst 0), (22, .ireturn)]
/-- QuietCheckerLaw.note(LQuietChecker;I[J)I -/
def pm_l178 : List (Nat × Instr) := [(0, .aload_n 2), (1, .iconst 0), (2, .aload_n 0), (3, .iload_n 1), (4, .invokevirtual 30), (7, .i2l), (8, .lastore), (9, .goto 9), (12, .astore_n 3), (13, .iconst 1), (14, .ireturn), (15, .astore_n 3), (16, .iconst 2), (17, .ireturn), (18, .iconst 0), (19, .ireturn)]
/-- QuietCheckerLaw.letter(LQuietChecker;IZI[J)I -/
def pm_l179 : List (Nat × Instr) := [(0, .aload 4), (2, .iconst 0), (3, .aload_n 0), (4, .iload_n 1), (5, .iload_n 2), (6, .iload_n 3), (7, .invokevirtual 33), (10, .i2l), (11, .lastore), (12, .goto 7), (15, .astore 5), (17, .iconst 1), (18, .ireturn), (19, .iconst 0), (20, .ireturn)]
def pm_cds : List (List (Nat × Instr)) := [pm_l0, pm_l1, pm_l2, pm_l3, pm_l4, pm_l5, pm_l6, pm_l7, pm_l8, pm_l9, pm_l10, pm_l11, pm_l12, pm_l13, pm_l14, pm_l15, pm_l16, pm_l17, pm_l18, pm_l19, pm_l20, pm_l21, pm_l22, pm_l23, pm_l24, pm_l25, pm_l26, pm_l27, pm_l28, pm_l29, pm_l30, pm_l31, pm_l32, pm_l33, pm_l34, pm_l35, pm_l36, pm_l37, pm_l38, pm_l39, pm_l40, pm_l41, pm_l42, pm_l43, pm_l44, pm_l45, pm_l46, pm_l47, pm_l48, pm_l49, pm_l50, pm_l51, pm_l52, pm_l53, pm_l54, pm_l55, pm_l56, pm_l57, pm_l58, pm_l59, pm_l60, pm_l61, pm_l62, pm_l63, pm_l64, pm_l65, pm_l66, pm_l67, pm_l68, pm_l69, pm_l70, pm_l71, pm_l72, pm_l73, pm_l74, pm_l75, pm_l76, pm_l77, pm_l78, pm_l79, pm_l80, pm_l81, pm_l82, pm_l83, pm_l84, pm_l85, pm_l86, pm_l87, pm_l88, pm_l89, pm_l90, pm_l91, pm_l92, pm_l93, pm_l94, pm_l95, pm_l96, pm_l97, pm_l98, pm_l99, pm_l100, pm_l101, pm_l102, pm_l103, pm_l104, pm_l105, pm_l106, pm_l107, pm_l108, pm_l109, pm_l110, pm_l111, pm_l112, pm_l113, pm_l114, pm_l115, pm_l116, pm_l117, pm_l118, pm_l119, pm_l120, pm_l121, pm_l122, pm_l123, pm_l124, pm_l125, pm_l126, pm_l127, pm_l128, pm_l129, pm_l130, pm_l131, pm_l132, pm_l133, pm_l134, pm_l135, pm_l136, pm_l137, pm_l138, pm_l139, pm_l140, pm_l141, pm_l142, pm_l143, pm_l144, pm_l145, pm_l146, pm_l147, pm_l148, pm_l149, pm_l150, pm_l151, pm_l152, pm_l153, pm_l154, pm_l155, pm_l156, pm_l157, pm_l158, pm_l159, pm_l160, pm_l161, pm_l162, pm_l163, pm_l164, pm_l165, pm_l166, pm_l167, pm_l168, pm_l169, pm_l170, pm_l171, pm_l172, pm_l173, pm_l174, pm_l175, pm_l176, pm_l177, pm_l178, pm_l179]
def pm_code (mi : Nat) : List (Nat × Instr) := pm_cds.getD mi []
end
section
/-! A pure machine for the bytecode of methods that make nothing and throw nothing: its steps are functions; its heap is three functions (ints, longs, references) by the number of a cell and a place in it. Part 1: values, locals, steps without heap. -/
abbrev pm_H : Type := (Nat → Nat → Int32) × (Nat → Nat → Int64) × (Nat → Nat → Option Nat)
abbrev pm_L : Type := List (Nat × Value)
/-- a value of the pure machine names a cell by its number; rho gives the address -/
def pm_cv (rho : Nat → Nat) (v : Value) : Value := match v with
  | .ref a => .ref (rho a)
  | w => w
def pm_cL (rho : Nat → Nat) (L : pm_L) : pm_L := L.map (fun q => (q.1, pm_cv rho q.2))
def pm_cS (rho : Nat → Nat) (S : List Value) : List Value := S.map (pm_cv rho)
theorem pm_cv_cat (rho : Nat → Nat) (v : Value) : (pm_cv rho v).category = v.category := by cases v <;> rfl
/-- what a local holds -/
def pm_at : pm_L → Nat → Option Value
  | [], _ => none
  | q :: L, k => bif Nat.beq q.1 k then some q.2 else pm_at L k
def pm_atI (L : pm_L) (k : Nat) : Option Int32 := match pm_at L k with
  | some (.int x) => some x
  | _ => none
def pm_atL (L : pm_L) (k : Nat) : Option Int64 := match pm_at L k with
  | some (.long x) => some x
  | _ => none
def pm_atR (L : pm_L) (k : Nat) : Option Nat := match pm_at L k with
  | some (.ref x) => some x
  | _ => none
def pm_st1 (L : pm_L) (i : Nat) (v : Value) : pm_L := (i, v) :: L.filter (fun q => !(q.1 == i) && !(q.1 + 1 == i && q.2.category == 2))
def pm_st2 (L : pm_L) (i : Nat) (v : Value) : pm_L := (i, v) :: L.filter (fun q => !(q.1 == i) && (!(q.1 == i + 1) && !(q.1 + 1 == i && q.2.category == 2)))
theorem pm_at_mem : ∀ {L : pm_L} {k : Nat} {v : Value}, pm_at L k = some v → (k, v) ∈ L := by
  intro L
  induction L with
  | nil => intro k v h; cases h
  | cons q L ih =>
    intro k v h
    unfold pm_at at h
    cases hb : Nat.beq q.1 k with
    | true =>
      rw [hb] at h
      have h1 : q.1 = k := Nat.eq_of_beq_eq_true hb
      have h2 : q.2 = v := Option.some.inj h
      rw [← h1, ← h2]
      exact List.mem_cons_self
    | false =>
      rw [hb] at h
      exact List.mem_cons_of_mem _ (ih h)
theorem pm_lv {rho : Nat → Nat} {ls : Array Slot} {n : Nat} {L : pm_L} (hl : lv_has ls n (pm_cL rho L)) {k : Nat} {v : Value} (h : pm_at L k = some v) : ls[k]? = some (.val (pm_cv rho v)) :=
  hl.2.2 (k, pm_cv rho v) (List.mem_map.mpr ⟨(k, v), pm_at_mem h, rfl⟩)
theorem pm_lvI {rho : Nat → Nat} {ls : Array Slot} {n : Nat} {L : pm_L} (hl : lv_has ls n (pm_cL rho L)) {k : Nat} {x : Int32} (h : pm_atI L k = some x) : ls[k]? = some (.val (.int x)) := by
  unfold pm_atI at h
  split at h
  · rename_i y e
    cases h
    exact pm_lv hl e
  · cases h
theorem pm_lvL {rho : Nat → Nat} {ls : Array Slot} {n : Nat} {L : pm_L} (hl : lv_has ls n (pm_cL rho L)) {k : Nat} {x : Int64} (h : pm_atL L k = some x) : ls[k]? = some (.val (.long x)) := by
  unfold pm_atL at h
  split at h
  · rename_i y e
    cases h
    exact pm_lv hl e
  · cases h
theorem pm_lvR {rho : Nat → Nat} {ls : Array Slot} {n : Nat} {L : pm_L} (hl : lv_has ls n (pm_cL rho L)) {k : Nat} {x : Nat} (h : pm_atR L k = some x) : ls[k]? = some (.val (.ref (rho x))) := by
  unfold pm_atR at h
  split at h
  · rename_i y e
    cases h
    exact pm_lv hl e
  · cases h
theorem pm_st1_c (rho : Nat → Nat) (L : pm_L) (i : Nat) (v : Value) : (i, pm_cv rho v) :: (pm_cL rho L).filter (fun q => !(q.1 == i) && !(q.1 + 1 == i && q.2.category == 2)) = pm_cL rho (pm_st1 L i v) := by
  unfold pm_st1 pm_cL
  rw [List.map_cons, List.filter_map]
  congr 2
  apply List.filter_congr
  intro q _
  simp [pm_cv_cat]
theorem pm_st2_c (rho : Nat → Nat) (L : pm_L) (i : Nat) (v : Value) : (i, pm_cv rho v) :: (pm_cL rho L).filter (fun q => !(q.1 == i) && (!(q.1 == i + 1) && !(q.1 + 1 == i && q.2.category == 2))) = pm_cL rho (pm_st2 L i v) := by
  unfold pm_st2 pm_cL
  rw [List.map_cons, List.filter_map]
  congr 2
  apply List.filter_congr
  intro q _
  simp [pm_cv_cat]
/-- constants, loads: what is pushed -/
def pm_push (i : Instr) (L : pm_L) : Option Value := match i with
  | .iconst n => some (.int (Int32.ofInt n))
  | .bipush n => some (.int (Int8.ofInt n).toInt32)
  | .sipush n => some (.int (Int16.ofInt n).toInt32)
  | .lconst n => some (.long (Int64.ofNat (n : Nat)))
  | .iload_n k => (pm_atI L k).map Value.int
  | .iload k => (pm_atI L k).map Value.int
  | .lload_n k => (pm_atL L k).map Value.long
  | .lload k => (pm_atL L k).map Value.long
  | .aload_n k => (pm_atR L k).map Value.ref
  | .aload k => (pm_atR L k).map Value.ref
  | _ => none
/-- stores and iinc -/
def pm_sto (i : Instr) (mx : Nat) (L : pm_L) (S : List Value) : Option (pm_L × List Value) := match i with
  | .istore_n k => match S with
    | .int x :: S' => bif Nat.blt k mx then some (pm_st1 L k (.int x), S') else none
    | _ => none
  | .istore k => match S with
    | .int x :: S' => bif Nat.blt k mx then some (pm_st1 L k (.int x), S') else none
    | _ => none
  | .astore_n k => match S with
    | .ref x :: S' => bif Nat.blt k mx then some (pm_st1 L k (.ref x), S') else none
    | _ => none
  | .astore k => match S with
    | .ref x :: S' => bif Nat.blt k mx then some (pm_st1 L k (.ref x), S') else none
    | _ => none
  | .lstore_n k => match S with
    | .long x :: S' => bif Nat.blt (k + 1) mx then some (pm_st2 L k (.long x), S') else none
    | _ => none
  | .lstore k => match S with
    | .long x :: S' => bif Nat.blt (k + 1) mx then some (pm_st2 L k (.long x), S') else none
    | _ => none
  | .iinc k n => match pm_atI L k with
    | some x => bif Nat.blt k mx then some (pm_st1 L k (.int (x + Int32.ofInt n)), S) else none
    | none => none
  | _ => none
/-- arithmetic and the stack -/
def pm_ari (i : Instr) (S : List Value) : Option (List Value) := match i with
  | .iadd => match S with
    | .int y :: .int x :: S' => some (.int (x + y) :: S')
    | _ => none
  | .isub => match S with
    | .int y :: .int x :: S' => some (.int (x - y) :: S')
    | _ => none
  | .imul => match S with
    | .int y :: .int x :: S' => some (.int (x * y) :: S')
    | _ => none
  | .idiv => match S with
    | .int y :: .int x :: S' => if y = 0 then none else some (.int (x / y) :: S')
    | _ => none
  | .irem => match S with
    | .int y :: .int x :: S' => if y = 0 then none else some (.int (x - x / y * y) :: S')
    | _ => none
  | .iand => match S with
    | .int y :: .int x :: S' => some (.int (x &&& y) :: S')
    | _ => none
  | .ior => match S with
    | .int y :: .int x :: S' => some (.int (x ||| y) :: S')
    | _ => none
  | .ixor => match S with
    | .int y :: .int x :: S' => some (.int (x ^^^ y) :: S')
    | _ => none
  | .ineg => match S with
    | .int x :: S' => some (.int (-x) :: S')
    | _ => none
  | .ishl => match S with
    | .int y :: .int x :: S' => some (.int (x <<< (y &&& 31)) :: S')
    | _ => none
  | .ishr => match S with
    | .int y :: .int x :: S' => some (.int (x >>> (y &&& 31)) :: S')
    | _ => none
  | .iushr => match S with
    | .int y :: .int x :: S' => some (.int ((x.toUInt32 >>> (y.toUInt32 &&& Int32.toUInt32 31)).toInt32) :: S')
    | _ => none
  | .dup => match S with
    | .int x :: S' => some (.int x :: .int x :: S')
    | .ref x :: S' => some (.ref x :: .ref x :: S')
    | _ => none
  | .dup_x1 => match S with
    | .int x :: .ref y :: S' => some (.int x :: .ref y :: .int x :: S')
    | .int x :: .int y :: S' => some (.int x :: .int y :: .int x :: S')
    | _ => none
  | .dup2 => match S with
    | .int x :: .ref y :: S' => some (.int x :: .ref y :: .int x :: .ref y :: S')
    | _ => none
  | .pop => match S with
    | .int _ :: S' => some S'
    | .ref _ :: S' => some S'
    | _ => none
  | .i2l => match S with
    | .int x :: S' => some (.long x.toInt64 :: S')
    | _ => none
  | .l2i => match S with
    | .long x :: S' => some (.int x.toInt32 :: S')
    | _ => none
  | .i2c => match S with
    | .int x :: S' => some (.int ((x.toUInt32 % 65536).toInt32) :: S')
    | _ => none
  | .ladd => match S with
    | .long y :: .long x :: S' => some (.long (x + y) :: S')
    | _ => none
  | .lsub => match S with
    | .long y :: .long x :: S' => some (.long (x - y) :: S')
    | _ => none
  | .lmul => match S with
    | .long y :: .long x :: S' => some (.long (x * y) :: S')
    | _ => none
  | .land => match S with
    | .long y :: .long x :: S' => some (.long (x &&& y) :: S')
    | _ => none
  | .lor => match S with
    | .long y :: .long x :: S' => some (.long (x ||| y) :: S')
    | _ => none
  | .lshl => match S with
    | .int y :: .long x :: S' => some (.long (x <<< (y.toInt64 &&& 63)) :: S')
    | _ => none
  | .lshr => match S with
    | .int y :: .long x :: S' => some (.long (x >>> (y.toInt64 &&& 63)) :: S')
    | _ => none
  | .lushr => match S with
    | .int y :: .long x :: S' => some (.long ((x.toUInt64 >>> (y.toInt64.toUInt64 &&& Int64.toUInt64 63)).toInt64) :: S')
    | _ => none
  | .lcmp => match S with
    | .long y :: .long x :: S' => some (.int (lg_cmp x y) :: S')
    | _ => none
  | _ => none
end
section
/-! The pure machine's steps without heap are the machine's -/
/-- an instruction's length; 0 where it depends on its place (switches) -/
def pm_ln (i : Instr) : Nat := match i with
  | .bipush _ => 2
  | .iload _ => 2
  | .lload _ => 2
  | .aload _ => 2
  | .istore _ => 2
  | .lstore _ => 2
  | .astore _ => 2
  | .iinc _ _ => 3
  | .sipush _ => 3
  | .ldc2_w _ => 3
  | .getfield _ => 3
  | .putfield _ => 3
  | .getstatic _ => 3
  | .invokevirtual _ => 3
  | .invokestatic _ => 3
  | .invokespecial _ => 3
  | .goto _ => 3
  | .ifCond _ _ => 3
  | .if_icmp _ _ => 3
  | .if_acmp _ _ => 3
  | .new _ => 3
  | .newarray _ => 2
  | .anewarray _ => 3
  | .checkcast _ => 3
  | .instanceof _ => 3
  | .ldc _ => 2
  | .ldc_w _ => 3
  | .ifnull _ => 3
  | .ifnonnull _ => 3
  | .invokeinterface _ _ => 5
  | .putstatic _ => 3
  | .tableswitch _ _ _ _ => 0
  | .lookupswitch _ _ => 0
  | _ => 1
section PM1
variable {p : Program} {l : Launch} {e : Env} {R : Room} {s : State} {m : MethodId} {args : Array Value} {below : List Frame} {meth : Method} {c : Code} {H : Heap} {locs : List Loc} {cells slots : Nat} {Q : State → Prop} {cc : ByteArray} {pc : Nat} {ls : Array Slot} {rho : Nat → Nat} {n : Nat} {L : pm_L} {S : List Value}
theorem pm_push_snd (hx : p.tables.exec = Jvm.exec) (hb : c.code = cc) {i : Instr} {v : Value} (hdg : decode cc pc = .ok (i, pm_ln i)) (hl : lv_has ls n (pm_cL rho L)) (h : pm_push i L = some v)
    (k : W p l e R s m args below meth c H locs cells slots Q (F0 m (pc + pm_ln i) ls (pm_cS rho (v :: S)))) : W p l e R s m args below meth c H locs cells slots Q (F0 m pc ls (pm_cS rho S)) := by
  unfold pm_push at h
  split at h
  · cases h; exact lv_iconst hx hb hdg rfl k
  · cases h; exact lv_bipush hx hb hdg rfl k
  · cases h; exact lv_sipush hx hb hdg rfl k
  · cases h; exact lv_lconst hx hb hdg rfl k
  · obtain ⟨x, h1, rfl⟩ := Option.map_eq_some_iff.mp h; exact lv_iload_n hx hb hdg rfl (pm_lvI hl h1) k
  · obtain ⟨x, h1, rfl⟩ := Option.map_eq_some_iff.mp h; exact lv_iload hx hb hdg (pm_lvI hl h1) k
  · obtain ⟨x, h1, rfl⟩ := Option.map_eq_some_iff.mp h; exact lv_lload_n hx hb hdg rfl (pm_lvL hl h1) k
  · obtain ⟨x, h1, rfl⟩ := Option.map_eq_some_iff.mp h; exact lv_lload hx hb hdg (pm_lvL hl h1) k
  · obtain ⟨x, h1, rfl⟩ := Option.map_eq_some_iff.mp h; exact lv_aload_n hx hb hdg rfl (pm_lvR hl h1) k
  · obtain ⟨x, h1, rfl⟩ := Option.map_eq_some_iff.mp h; exact lv_aload hx hb hdg (pm_lvR hl h1) k
  · cases h
theorem pm_bif {α : Type} {b : Bool} {x y : α} (h : (bif b then some x else none) = some y) : b = true ∧ x = y := by
  cases b with
  | true => exact ⟨rfl, Option.some.inj h⟩
  | false => cases h
theorem pm_blt {a b : Nat} (h : Nat.blt a b = true) : a < b := Nat.lt_of_succ_le (Nat.le_of_ble_eq_true h)
theorem pm_sto_snd (hx : p.tables.exec = Jvm.exec) (hb : c.code = cc) {i : Instr} {L' : pm_L} {S' : List Value} (hdg : decode cc pc = .ok (i, pm_ln i)) (hl : lv_has ls n (pm_cL rho L)) (h : pm_sto i n L S = some (L', S'))
    (k : ∀ ls' : Array Slot, lv_has ls' n (pm_cL rho L') → W p l e R s m args below meth c H locs cells slots Q (F0 m (pc + pm_ln i) ls' (pm_cS rho S'))) : W p l e R s m args below meth c H locs cells slots Q (F0 m pc ls (pm_cS rho S)) := by
  unfold pm_sto at h
  split at h
  · split at h
    · obtain ⟨h1, h2⟩ := pm_bif h; cases h2
      exact lv_istore_n hx hb hdg rfl hl (pm_blt h1) (pm_st1_c rho L _ (.int _)) k
    · cases h
  · split at h
    · obtain ⟨h1, h2⟩ := pm_bif h; cases h2
      exact lv_istore hx hb hdg hl (pm_blt h1) (pm_st1_c rho L _ (.int _)) k
    · cases h
  · split at h
    · obtain ⟨h1, h2⟩ := pm_bif h; cases h2
      exact lv_astore_n hx hb hdg rfl hl (pm_blt h1) (pm_st1_c rho L _ (.ref _)) k
    · cases h
  · split at h
    · obtain ⟨h1, h2⟩ := pm_bif h; cases h2
      exact lv_astore hx hb hdg hl (pm_blt h1) (pm_st1_c rho L _ (.ref _)) k
    · cases h
  · split at h
    · obtain ⟨h1, h2⟩ := pm_bif h; cases h2
      exact lv_lstore_n hx hb hdg rfl hl (pm_blt h1) (pm_st2_c rho L _ (.long _)) k
    · cases h
  · split at h
    · obtain ⟨h1, h2⟩ := pm_bif h; cases h2
      exact lv_lstore hx hb hdg hl (pm_blt h1) (pm_st2_c rho L _ (.long _)) k
    · cases h
  · split at h
    · rename_i k0 n0 _ x hx0
      obtain ⟨h1, h2⟩ := pm_bif h; cases h2
      have hm : (k0, pm_cv rho (.int x)) ∈ pm_cL rho L := by
        unfold pm_atI at hx0
        split at hx0
        · rename_i y ey
          cases hx0
          exact List.mem_map.mpr ⟨(k0, .int x), pm_at_mem ey, rfl⟩
        · cases hx0
      obtain ⟨j, hj⟩ := List.getElem?_of_mem hm
      exact lv_iinc (k := j) hx hb hdg hl hj rfl (pm_blt h1) (pm_st1_c rho L _ (.int _)) k
    · cases h
  · cases h
theorem pm_ari_snd (hx : p.tables.exec = Jvm.exec) (hb : c.code = cc) {i : Instr} {S' : List Value} (hdg : decode cc pc = .ok (i, pm_ln i)) (h : pm_ari i S = some S')
    (k : W p l e R s m args below meth c H locs cells slots Q (F0 m (pc + pm_ln i) ls (pm_cS rho S'))) : W p l e R s m args below meth c H locs cells slots Q (F0 m pc ls (pm_cS rho S)) := by
  unfold pm_ari at h
  split at h
  · split at h
    · cases h; exact lv_iadd hx hb hdg k
    · cases h
  · split at h
    · cases h; exact lv_isub hx hb hdg k
    · cases h
  · split at h
    · cases h; exact lv_imul hx hb hdg k
    · cases h
  · split at h
    · split at h
      · cases h
      · rename_i hne
        cases h; exact lv_idiv hx hb hdg hne k
    · cases h
  · split at h
    · split at h
      · cases h
      · rename_i hne
        cases h; exact lv_irem hx hb hdg hne k
    · cases h
  · split at h
    · cases h; exact lv_iand hx hb hdg k
    · cases h
  · split at h
    · cases h; exact lv_ior hx hb hdg k
    · cases h
  · split at h
    · cases h; exact lv_ixor hx hb hdg k
    · cases h
  · split at h
    · cases h; exact lv_ineg hx hb hdg k
    · cases h
  · split at h
    · cases h; exact lv_ishl hx hb hdg k
    · cases h
  · split at h
    · cases h; exact lv_ishr hx hb hdg k
    · cases h
  · split at h
    · cases h; exact lv_iushr hx hb hdg rfl k
    · cases h
  · split at h
    · cases h; exact lv_dup hx hb hdg rfl k
    · cases h; exact lv_dup hx hb hdg rfl k
    · cases h
  · split at h
    · cases h; exact lv_dup_x1 hx hb hdg rfl rfl k
    · cases h; exact lv_dup_x1 hx hb hdg rfl rfl k
    · cases h
  · split at h
    · cases h; exact lv_dup2_11 hx hb hdg rfl rfl k
    · cases h
  · split at h
    · cases h; exact lv_pop (va := .int _) hx hb hdg rfl k
    · cases h; exact lv_pop (va := .ref _) hx hb hdg rfl k
    · cases h
  · split at h
    · cases h; exact lv_i2l hx hb hdg rfl k
    · cases h
  · split at h
    · cases h; exact lv_l2i hx hb hdg rfl k
    · cases h
  · split at h
    · cases h; exact lv_i2c hx hb hdg rfl k
    · cases h
  · split at h
    · cases h; exact lv_ladd hx hb hdg k
    · cases h
  · split at h
    · cases h; exact lv_lsub hx hb hdg k
    · cases h
  · split at h
    · cases h; exact lv_lmul hx hb hdg k
    · cases h
  · split at h
    · cases h; exact lv_land hx hb hdg k
    · cases h
  · split at h
    · cases h; exact lv_lor hx hb hdg k
    · cases h
  · split at h
    · cases h; exact lv_lshl hx hb hdg rfl k
    · cases h
  · split at h
    · cases h; exact lv_lshr hx hb hdg rfl k
    · cases h
  · split at h
    · cases h; exact lv_lushr hx hb hdg rfl k
    · cases h
  · split at h
    · cases h; exact W.lcmp hx hb hdg k
    · cases h
  · cases h
end PM1
end
section
/-! Branches -/
def pm_jmp (pc : Nat) (off : Int) : Option Nat := match (pc : Int) + off with
  | .ofNat t => some t
  | .negSucc _ => none
theorem pm_jmp_eq {pc t : Nat} {off : Int} (h : pm_jmp pc off = some t) : (pc : Int) + off = (t : Int) := by
  unfold pm_jmp at h
  split at h
  · rename_i t0 e0
    cases h
    exact e0
  · cases h
/-- a condition that the walk asks: where it goes -/
def pm_if (b : Bool) (pc : Nat) (off : Int) (S : List Value) : Option (Nat × List Value) := match pm_jmp pc off with
  | some t => some (bif b then t else pc + 3, S)
  | none => none
def pm_c0 (c : ClassFile.Cond) (x : Int32) : Bool := match c with
  | .eq => decide (x = 0)
  | .ne => !decide (x = 0)
  | .lt => decide (x < 0)
  | .ge => decide (0 ≤ x)
  | .gt => decide (0 < x)
  | .le => decide (x ≤ 0)
def pm_c2 (c : ClassFile.Cond) (x y : Int32) : Bool := match c with
  | .eq => decide (x = y)
  | .ne => !decide (x = y)
  | .lt => decide (x < y)
  | .ge => decide (y ≤ x)
  | .gt => decide (y < x)
  | .le => decide (x ≤ y)
/-- the constants that may be compared: numbers 1000 .. 1000 + 63 -/
def pm_kc (a : Nat) : Bool := Nat.ble 1000 a && Nat.blt a 1064
def pm_br (i : Instr) (pc : Nat) (S : List Value) : Option (Nat × List Value) := match i with
  | .goto off => (pm_jmp pc off).map (fun t => (t, S))
  | .ifCond c off => match S with
    | .int x :: S' => pm_if (pm_c0 c x) pc off S'
    | _ => none
  | .if_icmp c off => match S with
    | .int y :: .int x :: S' => pm_if (pm_c2 c x y) pc off S'
    | _ => none
  | .if_acmp c off => match S with
    | .ref y :: .ref x :: S' => bif pm_kc x && pm_kc y then
        (match c with
          | .eq => pm_if (Nat.beq x y) pc off S'
          | .ne => pm_if (!Nat.beq x y) pc off S')
        else none
    | _ => none
  | .tableswitch d lo hi offs => match S with
    | .int x :: S' => if x.toInt < lo ∨ hi < x.toInt then (pm_jmp pc d).map (fun t => (t, S')) else
        (match offs[(x.toInt - lo).toNat]? with
          | some off => (pm_jmp pc off).map (fun t => (t, S'))
          | none => none)
    | _ => none
  | .lookupswitch d ps => match S with
    | .int x :: S' => bif (ps.toList.zip (ps.toList.drop 1)).all (fun (a, next) => a.1 < next.1) then (pm_jmp pc (Op.lookupswitch.offset ps.toList d x.toInt)).map (fun t => (t, S')) else none
    | _ => none
  | _ => none
section PM2
variable {p : Program} {l : Launch} {e : Env} {R : Room} {s : State} {m : MethodId} {args : Array Value} {below : List Frame} {meth : Method} {c : Code} {H : Heap} {locs : List Loc} {cells slots : Nat} {Q : State → Prop} {cc : ByteArray} {pc : Nat} {ls : Array Slot} {rho : Nat → Nat} {S : List Value}
theorem pm_if_t {b : Bool} {pc pc' : Nat} {off : Int} {S S' : List Value} (h : pm_if b pc off S = some (pc', S')) : S' = S ∧ ∃ t : Nat, (pc : Int) + off = (t : Int) ∧ (bif b then t else pc + 3) = pc' := by
  unfold pm_if at h
  split at h
  · rename_i t e
    cases h
    exact ⟨rfl, t, pm_jmp_eq e, rfl⟩
  · cases h
theorem pm_dT {P : Prop} {i : Decidable P} {A : Nat → Prop} {t u : Nat} (h : A (bif decide P then t else u)) : (P → A t) ∧ (¬ P → A u) := by
  refine ⟨fun z => ?_, fun z => ?_⟩
  · rw [decide_eq_true z] at h; exact h
  · rw [decide_eq_false z] at h; exact h
theorem pm_dN {P : Prop} {i : Decidable P} {A : Nat → Prop} {t u : Nat} (h : A (bif !decide P then t else u)) : (¬ P → A t) ∧ (P → A u) := by
  refine ⟨fun z => ?_, fun z => ?_⟩
  · rw [decide_eq_false z] at h; exact h
  · rw [decide_eq_true z] at h; exact h
theorem pm_br_snd (hx : p.tables.exec = Jvm.exec) (hb : c.code = cc) {i : Instr} {len pc' : Nat} {S' : List Value} (hdg : decode cc pc = .ok (i, len)) (hlen : pm_ln i = 0 ∨ len = pm_ln i) (hinj : ∀ a b, pm_kc a = true → pm_kc b = true → rho a = rho b → a = b) (h : pm_br i pc S = some (pc', S'))
    (k : W p l e R s m args below meth c H locs cells slots Q (F0 m pc' ls (pm_cS rho S'))) : W p l e R s m args below meth c H locs cells slots Q (F0 m pc ls (pm_cS rho S)) := by
  unfold pm_br at h
  split at h
  · have hlen := hlen.resolve_left (fun z => by cases z)
    subst hlen
    obtain ⟨t, h1, h2⟩ := Option.map_eq_some_iff.mp h
    cases h2
    exact lv_goto hx hb hdg (pm_jmp_eq h1) k
  · have hlen := hlen.resolve_left (fun z => by cases z)
    subst hlen
    split at h
    · rename_i cd off _ x S1
      obtain ⟨rfl, t, h4, h5⟩ := pm_if_t h
      subst h5
      cases cd with
      | eq =>
        obtain ⟨k1, k2⟩ := pm_dT (A := fun z => W p l e R s m args below meth c H locs cells slots Q (F0 m z ls (pm_cS rho S'))) k
        exact lv_if_eq hx hb hdg h4 k1 k2
      | ne =>
        obtain ⟨k1, k2⟩ := pm_dN (A := fun z => W p l e R s m args below meth c H locs cells slots Q (F0 m z ls (pm_cS rho S'))) k
        exact lv_if_ne hx hb hdg h4 k1 k2
      | lt =>
        obtain ⟨k1, k2⟩ := pm_dT (A := fun z => W p l e R s m args below meth c H locs cells slots Q (F0 m z ls (pm_cS rho S'))) k
        exact lv_if_lt hx hb hdg h4 k1 k2
      | ge =>
        obtain ⟨k1, k2⟩ := pm_dT (A := fun z => W p l e R s m args below meth c H locs cells slots Q (F0 m z ls (pm_cS rho S'))) k
        exact lv_if_ge hx hb hdg h4 k1 k2
      | gt =>
        obtain ⟨k1, k2⟩ := pm_dT (A := fun z => W p l e R s m args below meth c H locs cells slots Q (F0 m z ls (pm_cS rho S'))) k
        exact lv_if_gt hx hb hdg h4 k1 k2
      | le =>
        obtain ⟨k1, k2⟩ := pm_dT (A := fun z => W p l e R s m args below meth c H locs cells slots Q (F0 m z ls (pm_cS rho S'))) k
        exact lv_if_le hx hb hdg h4 k1 k2
    · cases h
  · have hlen := hlen.resolve_left (fun z => by cases z)
    subst hlen
    split at h
    · rename_i cd off _ y x S1
      obtain ⟨rfl, t, h4, h5⟩ := pm_if_t h
      subst h5
      cases cd with
      | eq =>
        obtain ⟨k1, k2⟩ := pm_dT (A := fun z => W p l e R s m args below meth c H locs cells slots Q (F0 m z ls (pm_cS rho S'))) k
        exact lv_icmp_eq hx hb hdg h4 k1 k2
      | ne =>
        obtain ⟨k1, k2⟩ := pm_dN (A := fun z => W p l e R s m args below meth c H locs cells slots Q (F0 m z ls (pm_cS rho S'))) k
        exact lv_icmp_ne hx hb hdg h4 k1 k2
      | lt =>
        obtain ⟨k1, k2⟩ := pm_dT (A := fun z => W p l e R s m args below meth c H locs cells slots Q (F0 m z ls (pm_cS rho S'))) k
        exact lv_icmp_lt hx hb hdg h4 k1 k2
      | ge =>
        obtain ⟨k1, k2⟩ := pm_dT (A := fun z => W p l e R s m args below meth c H locs cells slots Q (F0 m z ls (pm_cS rho S'))) k
        exact lv_icmp_ge hx hb hdg h4 k1 k2
      | gt =>
        obtain ⟨k1, k2⟩ := pm_dT (A := fun z => W p l e R s m args below meth c H locs cells slots Q (F0 m z ls (pm_cS rho S'))) k
        exact lv_icmp_gt hx hb hdg h4 k1 k2
      | le =>
        obtain ⟨k1, k2⟩ := pm_dT (A := fun z => W p l e R s m args below meth c H locs cells slots Q (F0 m z ls (pm_cS rho S'))) k
        exact lv_icmp_le hx hb hdg h4 k1 k2
    · cases h
  · have hlen := hlen.resolve_left (fun z => by cases z)
    subst hlen
    split at h
    · rename_i cd off _ y x S1
      cases hk : (pm_kc x && pm_kc y) with
      | false => rw [hk] at h; cases h
      | true =>
        rw [hk] at h
        obtain ⟨hkx, hky⟩ := Bool.and_eq_true_iff.mp hk
        have hiff : (some (rho x) = some (rho y)) ↔ x = y := ⟨fun z => hinj x y hkx hky (Option.some.inj z), fun z => by rw [z]⟩
        cases cd with
        | eq =>
          obtain ⟨rfl, t, h4, h5⟩ := pm_if_t h
          subst h5
          refine lv_acmp_eq (rx := some (rho x)) (ry := some (rho y)) hx hb hdg h4 (fun z => ?_) (fun z => ?_)
          · have z2 := hiff.mp z
            rw [z2, Nat.beq_refl] at k
            exact k
          · have z2 : Nat.beq x y = false := by
              cases hq : Nat.beq x y with
              | false => rfl
              | true => exact absurd (hiff.mpr (Nat.eq_of_beq_eq_true hq)) z
            rw [z2] at k
            exact k
        | ne =>
          obtain ⟨rfl, t, h4, h5⟩ := pm_if_t h
          subst h5
          refine lv_acmp_ne (rx := some (rho x)) (ry := some (rho y)) hx hb hdg h4 (fun z => ?_) (fun z => ?_)
          · have z2 : Nat.beq x y = false := by
              cases hq : Nat.beq x y with
              | false => rfl
              | true => exact absurd (hiff.mpr (Nat.eq_of_beq_eq_true hq)) z
            rw [z2] at k
            exact k
          · have z2 := hiff.mp z
            rw [z2, Nat.beq_refl] at k
            exact k
    · cases h
  · split at h
    · split at h
      · rename_i hout
        obtain ⟨t, h1, h2⟩ := Option.map_eq_some_iff.mp h
        cases h2
        exact lv_tableOut hx hb hdg hout (pm_jmp_eq h1) k
      · rename_i hout
        split at h
        · rename_i off ho
          obtain ⟨t, h1, h2⟩ := Option.map_eq_some_iff.mp h
          cases h2
          exact lv_tableIn hx hb hdg (fun z => hout (Or.inl z)) (fun z => hout (Or.inr z)) ho (pm_jmp_eq h1) k
        · cases h
    · cases h
  · split at h
    · rename_i d ps _ x S1
      cases hq : (ps.toList.zip (ps.toList.drop 1)).all (fun (a, next) => a.1 < next.1) with
      | false => rw [hq] at h; cases h
      | true =>
        rw [hq] at h
        obtain ⟨t, h1, h2⟩ := Option.map_eq_some_iff.mp h
        cases h2
        exact lv_lookup hx hb hdg hq rfl (pm_jmp_eq h1) k
    · cases h
  · cases h
end PM2
end
section
/-! The instructions' table is what decode says -/
def pm_okc (b : ByteArray) (q : Nat × Instr) : Bool := match decode b q.1 with
  | .ok (i, len) => decide (i = q.2) && (Nat.beq (pm_ln i) 0 || Nat.beq len (pm_ln i))
  | .error _ => false
def pm_okr (lo hi : Nat) : Bool := (List.range (hi - lo)).all (fun k => (pm_code (lo + k)).all (pm_okc (pm_by (lo + k))))
theorem pm_okr_at {lo hi : Nat} (h : pm_okr lo hi = true) {mi : Nat} (h1 : lo ≤ mi) (h2 : mi < hi) : (pm_code mi).all (pm_okc (pm_by mi)) = true := by
  have h3 := List.all_eq_true.mp h (mi - lo) (List.mem_range.mpr (by omega))
  rw [show lo + (mi - lo) = mi by omega] at h3
  exact h3
theorem pm_okr_1 {mi : Nat} (h : (pm_code mi).all (pm_okc (pm_by mi)) = true) : pm_okr mi (mi + 1) = true := by
  unfold pm_okr
  rw [show mi + 1 - mi = 1 by omega]
  refine List.all_eq_true.mpr (fun k hk => ?_)
  have : k = 0 := by have := List.mem_range.mp hk; omega
  subst this
  exact h
theorem pm_all_cut {l : List (Nat × Instr)} {f : Nat × Instr → Bool} (n : Nat) (h1 : (l.take n).all f = true) (h2 : (l.drop n).all f = true) : l.all f = true := by
  rw [← List.take_append_drop n l, List.all_append, h1, h2]
  rfl
set_option maxRecDepth 100000 in
theorem pm_ok_0 : pm_okr 0 8 = true := by decide +kernel
set_option maxRecDepth 100000 in
theorem pm_ok_1 : pm_okr 8 18 = true := by decide +kernel
set_option maxRecDepth 100000 in
theorem pm_ok_2 : pm_okr 18 23 = true := by decide +kernel
set_option maxRecDepth 100000 in
theorem pm_ok_3 : pm_okr 23 24 = true := by decide +kernel
set_option maxRecDepth 100000 in
theorem pm_okp_24_0 : ((pm_code 24).take 203).all (pm_okc (pm_by 24)) = true := by decide +kernel
set_option maxRecDepth 100000 in
theorem pm_okp_24_1 : ((pm_code 24).drop 203).all (pm_okc (pm_by 24)) = true := by decide +kernel
theorem pm_ok_4 : pm_okr 24 25 = true := pm_okr_1 (pm_all_cut 203 pm_okp_24_0 pm_okp_24_1)
set_option maxRecDepth 100000 in
theorem pm_ok_5 : pm_okr 25 36 = true := by decide +kernel
set_option maxRecDepth 100000 in
theorem pm_ok_6 : pm_okr 36 47 = true := by decide +kernel
set_option maxRecDepth 100000 in
theorem pm_ok_7 : pm_okr 47 53 = true := by decide +kernel
set_option maxRecDepth 100000 in
theorem pm_okp_53_0 : ((pm_code 53).take 213).all (pm_okc (pm_by 53)) = true := by decide +kernel
set_option maxRecDepth 100000 in
theorem pm_okp_53_1 : (((pm_code 53).drop 213).take 105).all (pm_okc (pm_by 53)) = true := by decide +kernel
set_option maxRecDepth 100000 in
theorem pm_okp_53_2 : ((((pm_code 53).drop 213).drop 105).take 83).all (pm_okc (pm_by 53)) = true := by decide +kernel
set_option maxRecDepth 100000 in
theorem pm_okp_53_3 : ((((pm_code 53).drop 213).drop 105).drop 83).all (pm_okc (pm_by 53)) = true := by decide +kernel
theorem pm_ok_8 : pm_okr 53 54 = true := pm_okr_1 (pm_all_cut 213 pm_okp_53_0 (pm_all_cut 105 pm_okp_53_1 (pm_all_cut 83 pm_okp_53_2 pm_okp_53_3)))
set_option maxRecDepth 100000 in
theorem pm_ok_9 : pm_okr 54 66 = true := by decide +kernel
set_option maxRecDepth 100000 in
theorem pm_ok_10 : pm_okr 66 102 = true := by decide +kernel
set_option maxRecDepth 100000 in
theorem pm_ok_11 : pm_okr 102 125 = true := by decide +kernel
set_option maxRecDepth 100000 in
theorem pm_ok_12 : pm_okr 125 138 = true := by decide +kernel
set_option maxRecDepth 100000 in
theorem pm_ok_13 : pm_okr 138 160 = true := by decide +kernel
set_option maxRecDepth 100000 in
theorem pm_ok_14 : pm_okr 160 173 = true := by decide +kernel
set_option maxRecDepth 100000 in
theorem pm_okp_173_0 : ((pm_code 173).take 241).all (pm_okc (pm_by 173)) = true := by decide +kernel
set_option maxRecDepth 100000 in
theorem pm_okp_173_1 : ((pm_code 173).drop 241).all (pm_okc (pm_by 173)) = true := by decide +kernel
theorem pm_ok_15 : pm_okr 173 174 = true := pm_okr_1 (pm_all_cut 241 pm_okp_173_0 pm_okp_173_1)
set_option maxRecDepth 100000 in
theorem pm_ok_16 : pm_okr 174 180 = true := by decide +kernel
set_option maxRecDepth 100000 in
theorem pm_cds_len : pm_cds.length = 180 := by decide +kernel
theorem pm_code_none {mi : Nat} (h : 180 ≤ mi) : pm_code mi = [] := by
  unfold pm_code
  rw [List.getD_eq_getElem?_getD, List.getElem?_eq_none (by rw [pm_cds_len]; exact h)]
  rfl
theorem pm_code_ok (mi : Nat) : (pm_code mi).all (pm_okc (pm_by mi)) = true := by
  rcases Nat.lt_or_ge mi 8 with h | h0
  · exact pm_okr_at pm_ok_0 (Nat.zero_le _) h
  rcases Nat.lt_or_ge mi 18 with h | h1
  · exact pm_okr_at pm_ok_1 h0 h
  rcases Nat.lt_or_ge mi 23 with h | h2
  · exact pm_okr_at pm_ok_2 h1 h
  rcases Nat.lt_or_ge mi 24 with h | h3
  · exact pm_okr_at pm_ok_3 h2 h
  rcases Nat.lt_or_ge mi 25 with h | h4
  · exact pm_okr_at pm_ok_4 h3 h
  rcases Nat.lt_or_ge mi 36 with h | h5
  · exact pm_okr_at pm_ok_5 h4 h
  rcases Nat.lt_or_ge mi 47 with h | h6
  · exact pm_okr_at pm_ok_6 h5 h
  rcases Nat.lt_or_ge mi 53 with h | h7
  · exact pm_okr_at pm_ok_7 h6 h
  rcases Nat.lt_or_ge mi 54 with h | h8
  · exact pm_okr_at pm_ok_8 h7 h
  rcases Nat.lt_or_ge mi 66 with h | h9
  · exact pm_okr_at pm_ok_9 h8 h
  rcases Nat.lt_or_ge mi 102 with h | h10
  · exact pm_okr_at pm_ok_10 h9 h
  rcases Nat.lt_or_ge mi 125 with h | h11
  · exact pm_okr_at pm_ok_11 h10 h
  rcases Nat.lt_or_ge mi 138 with h | h12
  · exact pm_okr_at pm_ok_12 h11 h
  rcases Nat.lt_or_ge mi 160 with h | h13
  · exact pm_okr_at pm_ok_13 h12 h
  rcases Nat.lt_or_ge mi 173 with h | h14
  · exact pm_okr_at pm_ok_14 h13 h
  rcases Nat.lt_or_ge mi 174 with h | h15
  · exact pm_okr_at pm_ok_15 h14 h
  rcases Nat.lt_or_ge mi 180 with h | h16
  · exact pm_okr_at pm_ok_16 h15 h
  rw [pm_code_none h16]
  rfl
/-- the instruction at a place -/
def pm_fd : List (Nat × Instr) → Nat → Option Instr
  | [], _ => none
  | q :: l, k => bif Nat.beq q.1 k then some q.2 else pm_fd l k
theorem pm_fd_mem : ∀ {l : List (Nat × Instr)} {k : Nat} {i : Instr}, pm_fd l k = some i → (k, i) ∈ l := by
  intro l
  induction l with
  | nil => intro k v h; cases h
  | cons q l ih =>
    intro k v h
    unfold pm_fd at h
    cases hb : Nat.beq q.1 k with
    | true =>
      rw [hb] at h
      have h1 : q.1 = k := Nat.eq_of_beq_eq_true hb
      have h2 : q.2 = v := Option.some.inj h
      rw [← h1, ← h2]
      exact List.mem_cons_self
    | false =>
      rw [hb] at h
      exact List.mem_cons_of_mem _ (ih h)
theorem pm_decode {mi pc : Nat} {i : Instr} (h : pm_fd (pm_code mi) pc = some i) : ∃ len, decode (pm_by mi) pc = .ok (i, len) ∧ (pm_ln i = 0 ∨ len = pm_ln i) := by
  have h1 := List.all_eq_true.mp (pm_code_ok mi) _ (pm_fd_mem h)
  unfold pm_okc at h1
  split at h1
  · rename_i j len e
    obtain ⟨h2, h3⟩ := Bool.and_eq_true_iff.mp h1
    have h4 : j = i := of_decide_eq_true h2
    subst h4
    refine ⟨len, e, ?_⟩
    rcases (Bool.or_eq_true_iff.mp h3) with h5 | h5
    · exact Or.inl (Nat.eq_of_beq_eq_true h5)
    · exact Or.inr (Nat.eq_of_beq_eq_true h5)
  · cases h1
/-- the words that every method has -/
def pm_G : List Cond := lw_tbl.filter goodWord
def pm_inG (k : Nat) (w : Cond) : Bool := decide (lw_tbl[k]? = some w) && goodWord w
theorem pm_mem {k : Nat} {w : Cond} (h : pm_inG k w = true) : w ∈ pm_G := by
  obtain ⟨h1, h2⟩ := Bool.and_eq_true_iff.mp h
  exact List.mem_filter.mpr ⟨List.mem_of_getElem? (of_decide_eq_true h1), h2⟩
def pm_ws (mi : Nat) : List Cond := Cond.code (pm_nm mi) (pm_by mi) (pm_mx mi) (pm_rt mi) :: pm_G
end
section
/-! The world of the pure machine: cells by number, shapes fixed, contents from the three functions -/
def pm_cat (ty : FieldType) : Nat := match ty with
  | .long => 1
  | .object _ => 2
  | .array _ => 2
  | _ => 0
def pm_fv (rho : Nat → Nat) (h : pm_H) (i k : Nat) (ty : FieldType) : Value := match pm_cat ty with
  | 0 => .int (h.1 i k)
  | 1 => .long (h.2.1 i k)
  | _ => va_rf ((h.2.2 i k).map rho)
def pm_fs (rho : Nat → Nat) (h : pm_H) (i ci : Nat) : List Value := (pm_ft ci).mapIdx (fun k ty => pm_fv rho h i k ty)
/-- a cell: shape (1, n): ints; (2, n): chars; (3, n): booleans; (4, n): longs; (5, n): references to constants; (10 + ci, _): an object of class ci -/
def pm_E (cy : Nat → ClassId) (rho : Nat → Nat) (h : pm_H) (sh : Nat × Nat) (i : Nat) : va_E := match sh.1 with
  | 0 => .inl (cy 0, sh.2, .inl (h.1 i))
  | 1 => .inl (cy 1, sh.2, .inl (h.1 i))
  | 2 => .inl (cy 2, sh.2, .inl (h.1 i))
  | 3 => .inl (cy 3, sh.2, .inl (h.1 i))
  | 4 => .inl (cy 4, sh.2, .inr (.inl (h.2.1 i)))
  | 5 => .inl (cy 5, sh.2, .inr (.inr (.inr (.inr (fun j => (h.2.2 i j).map rho)))))
  | k + 6 => .inr (k - 4, pm_fs rho h i (k - 4))
def pm_sh (sw : List (Nat × Nat)) (i : Nat) : Nat × Nat := sw.getD i (0, 0)
def pm_W (cy : Nat → ClassId) (rho : Nat → Nat) (sw : List (Nat × Nat)) (h : pm_H) : va_W := (List.range sw.length).map (fun i => (rho i, pm_E cy rho h (pm_sh sw i) i))
/-- the array classes by their kinds; kind 0 is byte -/
def pm_tys (cy : Nat → ClassId) : List (ClassId × FieldType) := [(cy 0, .byte), (cy 1, .int), (cy 2, .char), (cy 3, .boolean), (cy 4, .long), (cy 5, .object "QuietChecker$Kind")]
def pm_setI (h : pm_H) (i k : Nat) (v : Int32) : pm_H := (va_up h.1 i (va_up (h.1 i) k v), h.2.1, h.2.2)
def pm_setL (h : pm_H) (i k : Nat) (v : Int64) : pm_H := (h.1, va_up h.2.1 i (va_up (h.2.1 i) k v), h.2.2)
def pm_setR (h : pm_H) (i k : Nat) (v : Option Nat) : pm_H := (h.1, h.2.1, va_up h.2.2 i (va_up (h.2.2 i) k v))
/-- two heaps agree but at cell i -/
def pm_but (i : Nat) (h h' : pm_H) : Prop := ∀ j, j ≠ i → h'.1 j = h.1 j ∧ h'.2.1 j = h.2.1 j ∧ h'.2.2 j = h.2.2 j
theorem pm_but_I (h : pm_H) (i k : Nat) (v : Int32) : pm_but i h (pm_setI h i k v) := fun j hj => ⟨va_up_ne _ _ hj, rfl, rfl⟩
theorem pm_but_L (h : pm_H) (i k : Nat) (v : Int64) : pm_but i h (pm_setL h i k v) := fun j hj => ⟨rfl, va_up_ne _ _ hj, rfl⟩
theorem pm_but_R (h : pm_H) (i k : Nat) (v : Option Nat) : pm_but i h (pm_setR h i k v) := fun j hj => ⟨rfl, rfl, va_up_ne _ _ hj⟩
section PM3
variable {cy : Nat → ClassId} {rho : Nat → Nat} {sw : List (Nat × Nat)} {h h' : pm_H}
theorem pm_W_at {i : Nat} (hi : i < sw.length) : (pm_W cy rho sw h)[i]? = some (rho i, pm_E cy rho h (pm_sh sw i) i) := by
  unfold pm_W
  rw [List.getElem?_map, List.getElem?_range hi]
  rfl
theorem pm_W_len : (pm_W cy rho sw h).length = sw.length := by
  unfold pm_W
  rw [List.length_map, List.length_range]
theorem pm_E_but {sh : Nat × Nat} {i j : Nat} (hb : pm_but i h h') (hj : j ≠ i) : pm_E cy rho h' sh j = pm_E cy rho h sh j := by
  obtain ⟨h1, h2, h3⟩ := hb j hj
  unfold pm_E pm_fs pm_fv
  rw [h1, h2, h3]
theorem pm_W_set {i : Nat} (hb : pm_but i h h') (hi : i < sw.length) {e : va_E} (he : e = pm_E cy rho h' (pm_sh sw i) i) : (pm_W cy rho sw h).set i (rho i, e) = pm_W cy rho sw h' := by
  apply List.ext_getElem?
  intro j
  rw [List.getElem?_set]
  by_cases hij : i = j
  · subst hij
    rw [if_pos rfl, if_pos (by rw [pm_W_len]; exact hi), pm_W_at hi, he]
  · rw [if_neg hij]
    rcases Nat.lt_or_ge j sw.length with hl | hl
    · rw [pm_W_at hl, pm_W_at hl, pm_E_but hb (fun z => hij z.symm)]
    · rw [List.getElem?_eq_none (by rw [pm_W_len]; exact hl), List.getElem?_eq_none (by rw [pm_W_len]; exact hl)]
theorem pm_fs_at {i ci k : Nat} {ty : FieldType} (hk : (pm_ft ci)[k]? = some ty) : (pm_fs rho h i ci)[k]? = some (pm_fv rho h i k ty) := by
  unfold pm_fs
  rw [List.getElem?_mapIdx, hk]
  rfl
theorem pm_fs_len {i ci : Nat} : (pm_fs rho h i ci).length = (pm_ft ci).length := by
  unfold pm_fs
  rw [List.length_mapIdx]
/-- the field k of the object i gets v; all else stays -/
theorem pm_fs_set {i ci k : Nat} {ty : FieldType} {v : Value} (hk : (pm_ft ci)[k]? = some ty) (hv : pm_fv rho h' i k ty = v) (ho : ∀ j, j ≠ k → h'.1 i j = h.1 i j ∧ h'.2.1 i j = h.2.1 i j ∧ h'.2.2 i j = h.2.2 i j) : (pm_fs rho h i ci).set k v = pm_fs rho h' i ci := by
  apply List.ext_getElem?
  intro j
  rw [List.getElem?_set]
  by_cases hkj : k = j
  · subst hkj
    have hl : k < (pm_ft ci).length := (List.getElem?_eq_some_iff.mp hk).1
    rw [if_pos rfl, if_pos (by rw [pm_fs_len]; exact hl), pm_fs_at hk, hv]
  · rw [if_neg hkj]
    obtain ⟨h1, h2, h3⟩ := ho j (fun z => hkj z.symm)
    unfold pm_fs pm_fv
    rw [List.getElem?_mapIdx, List.getElem?_mapIdx, h1, h2, h3]
theorem pm_set_oI (h : pm_H) (i k : Nat) (v : Int32) : ∀ j, j ≠ k → (pm_setI h i k v).1 i j = h.1 i j ∧ (pm_setI h i k v).2.1 i j = h.2.1 i j ∧ (pm_setI h i k v).2.2 i j = h.2.2 i j := by
  intro j hj
  refine ⟨?_, rfl, rfl⟩
  show va_up h.1 i (va_up (h.1 i) k v) i j = _
  rw [va_up_self, va_up_ne _ _ hj]
theorem pm_set_oL (h : pm_H) (i k : Nat) (v : Int64) : ∀ j, j ≠ k → (pm_setL h i k v).1 i j = h.1 i j ∧ (pm_setL h i k v).2.1 i j = h.2.1 i j ∧ (pm_setL h i k v).2.2 i j = h.2.2 i j := by
  intro j hj
  refine ⟨rfl, ?_, rfl⟩
  show va_up h.2.1 i (va_up (h.2.1 i) k v) i j = _
  rw [va_up_self, va_up_ne _ _ hj]
theorem pm_set_oR (h : pm_H) (i k : Nat) (v : Option Nat) : ∀ j, j ≠ k → (pm_setR h i k v).1 i j = h.1 i j ∧ (pm_setR h i k v).2.1 i j = h.2.1 i j ∧ (pm_setR h i k v).2.2 i j = h.2.2 i j := by
  intro j hj
  refine ⟨rfl, rfl, ?_⟩
  show va_up h.2.2 i (va_up (h.2.2 i) k v) i j = _
  rw [va_up_self, va_up_ne _ _ hj]
end PM3
/-- what a class's tables say, all at once -/
def pm_clN (ci : Nat) : vw_C := pm_cl.getD ci ("", fun _ => ("", "", "", false), 0)
theorem pm_cl_at {ci : Nat} (h : ci < 7) : pm_cl[ci]? = some (pm_clN ci) := by
  match ci, h with
  | 0, _ => rfl
  | 1, _ => rfl
  | 2, _ => rfl
  | 3, _ => rfl
  | 4, _ => rfl
  | 5, _ => rfl
  | 6, _ => rfl
theorem pm_cl_nm {ci : Nat} (h : ci < 7) : ∀ a, a < (pm_clN ci).2.2 → ∀ b, b < (pm_clN ci).2.2 → a ≠ b → ((pm_clN ci).2.1 a).2.1 ≠ ((pm_clN ci).2.1 b).2.1 := by
  match ci, h with
  | 0, _ => exact pm_nm0
  | 1, _ => exact pm_nm1
  | 2, _ => exact pm_nm2
  | 3, _ => exact pm_nm3
  | 4, _ => exact pm_nm4
  | 5, _ => exact pm_nm5
  | 6, _ => exact pm_nm6
def pm_clY (ci : Nat) : Nat → FieldType := match ci with
  | 0 => pm_y0
  | 1 => pm_y1
  | 2 => pm_y2
  | 3 => pm_y3
  | 4 => pm_y4
  | 5 => pm_y5
  | _ => pm_y6
theorem pm_cl_ty {ci : Nat} (h : ci < 7) : ∀ k, k < (pm_clN ci).2.2 → parseFieldDescriptor ((pm_clN ci).2.1 k).2.2.1 = some (pm_clY ci k) := by
  match ci, h with
  | 0, _ => exact pm_ty0
  | 1, _ => exact pm_ty1
  | 2, _ => exact pm_ty2
  | 3, _ => exact pm_ty3
  | 4, _ => exact pm_ty4
  | 5, _ => exact pm_ty5
  | 6, _ => exact pm_ty6
set_option maxRecDepth 100000 in
theorem pm_ft_ok : ∀ ci, ci < 7 → pm_ft ci = (List.range (pm_clN ci).2.2).map (pm_clY ci) := by decide +kernel
theorem pm_ft_at {ci k : Nat} (h : ci < 7) {ty : FieldType} (hk : (pm_ft ci)[k]? = some ty) : k < (pm_clN ci).2.2 ∧ pm_clY ci k = ty := by
  rw [pm_ft_ok ci h, List.getElem?_map] at hk
  obtain ⟨j, h1, h2⟩ := Option.map_eq_some_iff.mp hk
  obtain ⟨h3, h4⟩ := List.getElem?_eq_some_iff.mp h1
  rw [List.length_range] at h3
  rw [List.getElem_range] at h4
  subst h4
  exact ⟨h3, h2⟩
end
section
/-! Tables: where the words on fields stand; the constants of the program (written by genk.py) -/
/-- where the words on the fields of each class stand in lw_tbl -/
def pm_uwp : List (List Nat) := [[352, 354, 356, 358, 360, 362, 364, 366, 368, 370], [162, 164, 166, 168, 170], [308, 310, 312, 314, 316, 318, 320, 322, 324, 326, 328], [213, 215, 217, 219, 221, 223, 225, 227, 229, 231, 233, 235, 237, 239, 241, 243], [274, 276, 278, 280, 282, 284, 286, 288, 290], [384, 386, 388, 390, 392, 394, 396, 398, 400, 402, 404], [1401, 1403, 1405, 1407, 1409, 1411, 1413, 1415, 1417, 1419, 1421, 1423, 1425, 1427, 1429, 1431, 1433, 1435, 1437, 1439, 1441, 1443, 1445, 1447, 1449, 1451, 1453, 1455, 1457, 1459, 1461, 1463, 1465, 1467, 1469, 1471, 1473, 1475, 1477, 1479, 1481, 1483, 1485, 1487, 1489, 1491, 1493, 1495, 1497, 1499, 1501, 1503, 1505, 1507, 1509, 1511, 1513, 1515, 1517, 1519, 1521, 1523, 1525, 1527]]
/-- statics that hold a constant: owner, name, type, its number -/
def pm_kst : List (String × String × String × Nat) := [("QuietChecker$Kind", "NAME", "LQuietChecker$Kind;", 1000), ("QuietChecker$Kind", "NUMBER", "LQuietChecker$Kind;", 1001), ("QuietChecker$Kind", "WRONG", "LQuietChecker$Kind;", 1002), ("QuietChecker$Kind", "END", "LQuietChecker$Kind;", 1003), ("QuietChecker$Kind", "PUB", "LQuietChecker$Kind;", 1004), ("QuietChecker$Kind", "SEC", "LQuietChecker$Kind;", 1005), ("QuietChecker$Kind", "FUN", "LQuietChecker$Kind;", 1006), ("QuietChecker$Kind", "RETURN", "LQuietChecker$Kind;", 1007), ("QuietChecker$Kind", "IF", "LQuietChecker$Kind;", 1008), ("QuietChecker$Kind", "ELSE", "LQuietChecker$Kind;", 1009), ("QuietChecker$Kind", "WHILE", "LQuietChecker$Kind;", 1010), ("QuietChecker$Kind", "SKIP", "LQuietChecker$Kind;", 1011), ("QuietChecker$Kind", "OR", "LQuietChecker$Kind;", 1012), ("QuietChecker$Kind", "XOR", "LQuietChecker$Kind;", 1013), ("QuietChecker$Kind", "AND", "LQuietChecker$Kind;", 1014), ("QuietChecker$Kind", "EQUAL", "LQuietChecker$Kind;", 1015), ("QuietChecker$Kind", "UNEQUAL", "LQuietChecker$Kind;", 1016), ("QuietChecker$Kind", "LESS", "LQuietChecker$Kind;", 1017), ("QuietChecker$Kind", "AT_MOST", "LQuietChecker$Kind;", 1018), ("QuietChecker$Kind", "SHIFT_LEFT", "LQuietChecker$Kind;", 1019), ("QuietChecker$Kind", "SHIFT_RIGHT", "LQuietChecker$Kind;", 1020), ("QuietChecker$Kind", "PLUS", "LQuietChecker$Kind;", 1021), ("QuietChecker$Kind", "MINUS", "LQuietChecker$Kind;", 1022), ("QuietChecker$Kind", "TIMES", "LQuietChecker$Kind;", 1023), ("QuietChecker$Kind", "OVER", "LQuietChecker$Kind;", 1024), ("QuietChecker$Kind", "REST", "LQuietChecker$Kind;", 1025), ("QuietChecker$Kind", "INVERT", "LQuietChecker$Kind;", 1026), ("QuietChecker$Kind", "NOT", "LQuietChecker$Kind;", 1027), ("QuietChecker$Kind", "ASK", "LQuietChecker$Kind;", 1028), ("QuietChecker$Kind", "COLON", "LQuietChecker$Kind;", 1029), ("QuietChecker$Kind", "ASSIGN", "LQuietChecker$Kind;", 1030), ("QuietChecker$Kind", "OPEN", "LQuietChecker$Kind;", 1031), ("QuietChecker$Kind", "CLOSE", "LQuietChecker$Kind;", 1032), ("QuietChecker$Kind", "OPEN_CELL", "LQuietChecker$Kind;", 1033), ("QuietChecker$Kind", "CLOSE_CELL", "LQuietChecker$Kind;", 1034), ("QuietChecker$Kind", "OPEN_BLOCK", "LQuietChecker$Kind;", 1035), ("QuietChecker$Kind", "CLOSE_BLOCK", "LQuietChecker$Kind;", 1036), ("QuietChecker$Kind", "SEMICOLON", "LQuietChecker$Kind;", 1037), ("QuietChecker$Kind", "COMMA", "LQuietChecker$Kind;", 1038), ("QuietChecker$Kind", "ALL", "[LQuietChecker$Kind;", 2000)]
/-- fields of constants -/
def pm_kfn : List (String × String × String) := [("QuietChecker$Kind", "spelling", "Ljava/lang/String;"), ("QuietChecker$Kind", "level", "I"), ("QuietChecker$Kind", "op", "I"), ("java/lang/String", "value", "[B"), ("java/lang/String", "coder", "B")]
/-- constants that are objects: number, class -/
def pm_kob : List (Nat × String) := [(1000, "QuietChecker$Kind"), (1001, "QuietChecker$Kind"), (1002, "QuietChecker$Kind"), (1003, "QuietChecker$Kind"), (1004, "QuietChecker$Kind"), (1005, "QuietChecker$Kind"), (1006, "QuietChecker$Kind"), (1007, "QuietChecker$Kind"), (1008, "QuietChecker$Kind"), (1009, "QuietChecker$Kind"), (1010, "QuietChecker$Kind"), (1011, "QuietChecker$Kind"), (1012, "QuietChecker$Kind"), (1013, "QuietChecker$Kind"), (1014, "QuietChecker$Kind"), (1015, "QuietChecker$Kind"), (1016, "QuietChecker$Kind"), (1017, "QuietChecker$Kind"), (1018, "QuietChecker$Kind"), (1019, "QuietChecker$Kind"), (1020, "QuietChecker$Kind"), (1021, "QuietChecker$Kind"), (1022, "QuietChecker$Kind"), (1023, "QuietChecker$Kind"), (1024, "QuietChecker$Kind"), (1025, "QuietChecker$Kind"), (1026, "QuietChecker$Kind"), (1027, "QuietChecker$Kind"), (1028, "QuietChecker$Kind"), (1029, "QuietChecker$Kind"), (1030, "QuietChecker$Kind"), (1031, "QuietChecker$Kind"), (1032, "QuietChecker$Kind"), (1033, "QuietChecker$Kind"), (1034, "QuietChecker$Kind"), (1035, "QuietChecker$Kind"), (1036, "QuietChecker$Kind"), (1037, "QuietChecker$Kind"), (1038, "QuietChecker$Kind"), (3000, "java/lang/String"), (3001, "java/lang/String"), (3002, "java/lang/String"), (3003, "java/lang/String"), (3004, "java/lang/String"), (3005, "java/lang/String"), (3006, "java/lang/String"), (3007, "java/lang/String"), (3008, "java/lang/String"), (3009, "java/lang/String"), (3010, "java/lang/String"), (3011, "java/lang/String"), (3012, "java/lang/String"), (3013, "java/lang/String"), (3014, "java/lang/String"), (3015, "java/lang/String"), (3016, "java/lang/String"), (3017, "java/lang/String"), (3018, "java/lang/String"), (3019, "java/lang/String"), (3020, "java/lang/String"), (3021, "java/lang/String"), (3022, "java/lang/String"), (3023, "java/lang/String"), (3024, "java/lang/String"), (3025, "java/lang/String"), (3026, "java/lang/String"), (3027, "java/lang/String"), (3028, "java/lang/String"), (3029, "java/lang/String"), (3030, "java/lang/String"), (3031, "java/lang/String"), (3032, "java/lang/String"), (3033, "java/lang/String"), (3034, "java/lang/String"), (3035, "java/lang/String"), (3036, "java/lang/String"), (3037, "java/lang/String"), (3038, "java/lang/String")]
/-- what the fields of constants hold: number, field, value -/
def pm_kof : List (Nat × Nat × Value) := [(1000, 0, .ref 3000), (1000, 1, .int 0), (1000, 2, .int 0), (3000, 3, .ref 4000), (3000, 4, .int 0), (1001, 0, .ref 3001), (1001, 1, .int 0), (1001, 2, .int 0), (3001, 3, .ref 4001), (3001, 4, .int 0), (1002, 0, .ref 3002), (1002, 1, .int 0), (1002, 2, .int 0), (3002, 3, .ref 4002), (3002, 4, .int 0), (1003, 0, .ref 3003), (1003, 1, .int 0), (1003, 2, .int 0), (3003, 3, .ref 4003), (3003, 4, .int 0), (1004, 0, .ref 3004), (1004, 1, .int 0), (1004, 2, .int 0), (3004, 3, .ref 4004), (3004, 4, .int 0), (1005, 0, .ref 3005), (1005, 1, .int 0), (1005, 2, .int 0), (3005, 3, .ref 4005), (3005, 4, .int 0), (1006, 0, .ref 3006), (1006, 1, .int 0), (1006, 2, .int 0), (3006, 3, .ref 4006), (3006, 4, .int 0), (1007, 0, .ref 3007), (1007, 1, .int 0), (1007, 2, .int 0), (3007, 3, .ref 4007), (3007, 4, .int 0), (1008, 0, .ref 3008), (1008, 1, .int 0), (1008, 2, .int 0), (3008, 3, .ref 4008), (3008, 4, .int 0), (1009, 0, .ref 3009), (1009, 1, .int 0), (1009, 2, .int 0), (3009, 3, .ref 4009), (3009, 4, .int 0), (1010, 0, .ref 3010), (1010, 1, .int 0), (1010, 2, .int 0), (3010, 3, .ref 4010), (3010, 4, .int 0), (1011, 0, .ref 3011), (1011, 1, .int 0), (1011, 2, .int 0), (3011, 3, .ref 4011), (3011, 4, .int 0), (1012, 0, .ref 3012), (1012, 1, .int 1), (1012, 2, .int 16), (3012, 3, .ref 4012), (3012, 4, .int 0), (1013, 0, .ref 3013), (1013, 1, .int 2), (1013, 2, .int 17), (3013, 3, .ref 4013), (3013, 4, .int 0), (1014, 0, .ref 3014), (1014, 1, .int 3), (1014, 2, .int 18), (3014, 3, .ref 4014), (3014, 4, .int 0), (1015, 0, .ref 3015), (1015, 1, .int 4), (1015, 2, .int 19), (3015, 3, .ref 4015), (3015, 4, .int 0), (1016, 0, .ref 3016), (1016, 1, .int 4), (1016, 2, .int 20), (3016, 3, .ref 4016), (3016, 4, .int 0), (1017, 0, .ref 3017), (1017, 1, .int 5), (1017, 2, .int 21), (3017, 3, .ref 4017), (3017, 4, .int 0), (1018, 0, .ref 3018), (1018, 1, .int 5), (1018, 2, .int 22), (3018, 3, .ref 4018), (3018, 4, .int 0), (1019, 0, .ref 3019), (1019, 1, .int 6), (1019, 2, .int 23), (3019, 3, .ref 4019), (3019, 4, .int 0), (1020, 0, .ref 3020), (1020, 1, .int 6), (1020, 2, .int 24), (3020, 3, .ref 4020), (3020, 4, .int 0), (1021, 0, .ref 3021), (1021, 1, .int 7), (1021, 2, .int 25), (3021, 3, .ref 4021), (3021, 4, .int 0), (1022, 0, .ref 3022), (1022, 1, .int 7), (1022, 2, .int 26), (3022, 3, .ref 4022), (3022, 4, .int 0), (1023, 0, .ref 3023), (1023, 1, .int 8), (1023, 2, .int 27), (3023, 3, .ref 4023), (3023, 4, .int 0), (1024, 0, .ref 3024), (1024, 1, .int 8), (1024, 2, .int 28), (3024, 3, .ref 4024), (3024, 4, .int 0), (1025, 0, .ref 3025), (1025, 1, .int 8), (1025, 2, .int 29), (3025, 3, .ref 4025), (3025, 4, .int 0), (1026, 0, .ref 3026), (1026, 1, .int 0), (1026, 2, .int 0), (3026, 3, .ref 4026), (3026, 4, .int 0), (1027, 0, .ref 3027), (1027, 1, .int 0), (1027, 2, .int 0), (3027, 3, .ref 4027), (3027, 4, .int 0), (1028, 0, .ref 3028), (1028, 1, .int 0), (1028, 2, .int 0), (3028, 3, .ref 4028), (3028, 4, .int 0), (1029, 0, .ref 3029), (1029, 1, .int 0), (1029, 2, .int 0), (3029, 3, .ref 4029), (3029, 4, .int 0), (1030, 0, .ref 3030), (1030, 1, .int 0), (1030, 2, .int 0), (3030, 3, .ref 4030), (3030, 4, .int 0), (1031, 0, .ref 3031), (1031, 1, .int 0), (1031, 2, .int 0), (3031, 3, .ref 4031), (3031, 4, .int 0), (1032, 0, .ref 3032), (1032, 1, .int 0), (1032, 2, .int 0), (3032, 3, .ref 4032), (3032, 4, .int 0), (1033, 0, .ref 3033), (1033, 1, .int 0), (1033, 2, .int 0), (3033, 3, .ref 4033), (3033, 4, .int 0), (1034, 0, .ref 3034), (1034, 1, .int 0), (1034, 2, .int 0), (3034, 3, .ref 4034), (3034, 4, .int 0), (1035, 0, .ref 3035), (1035, 1, .int 0), (1035, 2, .int 0), (3035, 3, .ref 4035), (3035, 4, .int 0), (1036, 0, .ref 3036), (1036, 1, .int 0), (1036, 2, .int 0), (3036, 3, .ref 4036), (3036, 4, .int 0), (1037, 0, .ref 3037), (1037, 1, .int 0), (1037, 2, .int 0), (3037, 3, .ref 4037), (3037, 4, .int 0), (1038, 0, .ref 3038), (1038, 1, .int 0), (1038, 2, .int 0), (3038, 3, .ref 4038), (3038, 4, .int 0)]
/-- statics by owner and place in its pool: (place, which of pm_kst, where the word stands) -/
def pm_gsl : List (List (Nat × Nat × Nat)) := [
  [],
  [],
  [(39, 3, 295), (76, 6, 563), (125, 5, 576), (128, 4, 577), (131, 0, 590), (157, 33, 664), (164, 37, 639), (174, 1, 757), (177, 34, 766), (196, 35, 636), (205, 7, 800), (215, 36, 783), (227, 31, 608), (230, 32, 610), (233, 38, 621), (251, 8, 770), (257, 10, 791), (270, 30, 768), (286, 9, 785), (295, 28, 762), (298, 29, 764), (307, 24, 758), (310, 25, 760)],
  [],
  [(58, 2, 472), (62, 3, 544), (88, 1, 474), (107, 0, 534)],
  [],
  [],
  [(3, 0, 649), (16, 4, 559), (19, 5, 561), (22, 6, 553), (28, 8, 650), (34, 10, 652), (37, 11, 654), (70, 22, 703), (82, 26, 705), (85, 27, 707)],
  [],
  [],
  [],
  [],
  []]
/-- fields of constants by owner and place in its pool: (place, which of pm_kfn, where the word stands) -/
def pm_kfl : List (List (Nat × Nat × Nat)) := [
  [],
  [],
  [(304, 1, 1800), (313, 2, 1801)],
  [],
  [(94, 0, 1799)],
  [],
  [],
  [],
  [(9, 3, 1227), (15, 4, 1228)],
  [],
  [],
  [],
  []]
/-- the cells of the class: numbers 0 .. 38 -/
def pm_swC : List (Nat × Nat) := [(15, 0), (2, 3000), (13, 0), (2, 3000), (11, 0), (1, 40), (1, 40), (3, 40), (1, 40), (1, 40), (11, 0), (1, 6), (1, 6), (3, 6), (1, 6), (1, 6), (3, 72), (1, 3000), (1, 3000), (12, 0), (14, 0), (5, 3001), (1, 3001), (1, 3001), (1, 3001), (11, 0), (1, 12), (1, 12), (3, 12), (1, 2560), (1, 2560), (10, 0), (1, 2632), (1, 4000), (1, 3000), (10, 0), (1, 2632), (1, 4000), (1, 3000)]
/-- the cells of the model: numbers 0 .. 34 -/
def pm_swM : List (Nat × Nat) := [(16, 0), (2, 3000), (2, 3000), (1, 40), (1, 40), (1, 40), (1, 40), (1, 40), (3, 40), (3, 12), (3, 6), (1, 12), (1, 12), (1, 6), (1, 6), (1, 6), (1, 6), (1, 6), (3, 72), (1, 12000), (1, 12000), (1, 12000), (1, 2560), (1, 2560), (1, 4001), (1, 4000), (1, 40), (1, 2560), (1, 2560), (1, 4001), (1, 2000), (1, 2000), (1, 2000), (1, 2000), (1, 2000)]
/-- the model's references to its arrays: slot, cell -/
def pm_rfM : List (Nat × Nat) := [(1, 1), (2, 2), (21, 3), (22, 4), (23, 5), (24, 6), (25, 7), (26, 8), (27, 9), (28, 10), (29, 11), (30, 12), (31, 13), (32, 14), (33, 15), (34, 16), (35, 17), (36, 18), (39, 19), (40, 20), (41, 21), (45, 22), (46, 23), (47, 24), (48, 25), (49, 26), (55, 27), (56, 28), (57, 29), (59, 30), (60, 31), (61, 32), (62, 33), (63, 34)]
/-- calls of System.arraycopy: owner, place in its pool, where the word stands -/
def pm_acl : List (Nat × Nat × Nat) := [(5, 99, 947), (0, 33, 953), (3, 60, 429), (8, 212, 1139), (10, 150, 1085)]
def pm_acp : Nat × Nat × Nat := (431, 430, 116)
def pm_mLength : Nat := 163
def pm_mCharAt : Nat := 164
/-- the kinds' spellings -/
def pm_spl : List (List Int32) := [[], [], [], [], [112, 117, 98], [115, 101, 99], [102, 117, 110], [114, 101, 116, 117, 114, 110], [105, 102], [101, 108, 115, 101], [119, 104, 105, 108, 101], [115, 107, 105, 112], [124], [94], [38], [61, 61], [33, 61], [60], [60, 61], [60, 60], [62, 62], [43], [45], [42], [47], [37], [126], [33], [63], [58], [61], [40], [41], [91], [93], [123], [125], [59], [44]]
/-- the bytes of the kinds' spellings, by the number of their array -/
def pm_kba : List (Nat × List Int32) := [(4000, []), (4001, []), (4002, []), (4003, []), (4004, [112, 117, 98]), (4005, [115, 101, 99]), (4006, [102, 117, 110]), (4007, [114, 101, 116, 117, 114, 110]), (4008, [105, 102]), (4009, [101, 108, 115, 101]), (4010, [119, 104, 105, 108, 101]), (4011, [115, 107, 105, 112]), (4012, [124]), (4013, [94]), (4014, [38]), (4015, [61, 61]), (4016, [33, 61]), (4017, [60]), (4018, [60, 61]), (4019, [60, 60]), (4020, [62, 62]), (4021, [43]), (4022, [45]), (4023, [42]), (4024, [47]), (4025, [37]), (4026, [126]), (4027, [33]), (4028, [63]), (4029, [58]), (4030, [61]), (4031, [40]), (4032, [41]), (4033, [91]), (4034, [93]), (4035, [123]), (4036, [125]), (4037, [59]), (4038, [44])]
/-- reads of String.COMPACT_STRINGS: owner, place in its pool, where the word stands -/
def pm_cso : List (Nat × Nat × Nat) := [(8, 38, 490)]
end
section
/-! The steps that read and write the heap -/
def pm_f4 : List (Nat × Nat × Nat × Nat) → Nat → Option (Nat × Nat)
  | [], _ => none
  | q :: l, k => bif Nat.beq q.1 k then some (q.2.1, q.2.2.1) else pm_f4 l k
def pm_f3 : List (Nat × Nat × Nat) → Nat → Option Nat
  | [], _ => none
  | q :: l, k => bif Nat.beq q.1 k then some q.2.1 else pm_f3 l k
def pm_fl : List (Nat × Int64 × Nat) → Nat → Option Int64
  | [], _ => none
  | q :: l, k => bif Nat.beq q.1 k then some q.2.1 else pm_fl l k
theorem pm_f4_mem : ∀ {l : List (Nat × Nat × Nat × Nat)} {k a b : Nat}, pm_f4 l k = some (a, b) → ∃ p, (k, a, b, p) ∈ l := by
  intro l
  induction l with
  | nil => intro k a b h; cases h
  | cons q l ih =>
    intro k a b h
    unfold pm_f4 at h
    cases hb : Nat.beq q.1 k with
    | true =>
      rw [hb] at h
      have h1 : q.1 = k := Nat.eq_of_beq_eq_true hb
      have h2 : (q.2.1, q.2.2.1) = (a, b) := Option.some.inj h
      cases h2
      subst h1
      exact ⟨q.2.2.2, List.mem_cons_self⟩
    | false =>
      rw [hb] at h
      obtain ⟨p, hp⟩ := ih h
      exact ⟨p, List.mem_cons_of_mem _ hp⟩
theorem pm_f3_mem : ∀ {l : List (Nat × Nat × Nat)} {k a : Nat}, pm_f3 l k = some a → ∃ p, (k, a, p) ∈ l := by
  intro l
  induction l with
  | nil => intro k a h; cases h
  | cons q l ih =>
    intro k a h
    unfold pm_f3 at h
    cases hb : Nat.beq q.1 k with
    | true =>
      rw [hb] at h
      have h1 : q.1 = k := Nat.eq_of_beq_eq_true hb
      have h2 : q.2.1 = a := Option.some.inj h
      subst h1; subst h2
      exact ⟨q.2.2, List.mem_cons_self⟩
    | false =>
      rw [hb] at h
      obtain ⟨p, hp⟩ := ih h
      exact ⟨p, List.mem_cons_of_mem _ hp⟩
theorem pm_fl_mem : ∀ {l : List (Nat × Int64 × Nat)} {k : Nat} {a : Int64}, pm_fl l k = some a → ∃ p, (k, a, p) ∈ l := by
  intro l
  induction l with
  | nil => intro k a h; cases h
  | cons q l ih =>
    intro k a h
    unfold pm_fl at h
    cases hb : Nat.beq q.1 k with
    | true =>
      rw [hb] at h
      have h1 : q.1 = k := Nat.eq_of_beq_eq_true hb
      have h2 : q.2.1 = a := Option.some.inj h
      subst h1; subst h2
      exact ⟨q.2.2, List.mem_cons_self⟩
    | false =>
      rw [hb] at h
      obtain ⟨p, hp⟩ := ih h
      exact ⟨p, List.mem_cons_of_mem _ hp⟩
def pm_gf (ow idx : Nat) : Option (Nat × Nat) := pm_f4 (pm_gfl.getD ow []) idx
def pm_gs (ow idx : Nat) : Option Nat := pm_f3 (pm_gsl.getD ow []) idx
def pm_kf (ow idx : Nat) : Option Nat := pm_f3 (pm_kfl.getD ow []) idx
def pm_kl (ow idx : Nat) : Option Int64 := pm_fl (pm_kll.getD ow []) idx
def pm_iv (ow idx : Nat) : Option Nat := pm_f3 (pm_ivl.getD ow []) idx
set_option maxRecDepth 100000 in
theorem pm_gf_all : (List.range 13).all (fun o => (pm_gfl.getD o []).all (fun e => Nat.blt e.2.1 7 && (Nat.blt e.2.2.1 (pm_clN e.2.1).2.2 && pm_inG e.2.2.2 (Cond.fieldLink (pm_on o) e.1 ((pm_clN e.2.1).2.1 e.2.2.1).1 ((pm_clN e.2.1).2.1 e.2.2.1).2.1 ((pm_clN e.2.1).2.1 e.2.2.1).2.2.1)))) = true := by decide +kernel
set_option maxRecDepth 100000 in
theorem pm_gs_all : (List.range 13).all (fun o => (pm_gsl.getD o []).all (fun e => Nat.blt e.2.1 pm_kst.length && pm_inG e.2.2 (Cond.fieldLink (pm_on o) e.1 (pm_kst.getD e.2.1 ("", "", "", 0)).1 (pm_kst.getD e.2.1 ("", "", "", 0)).2.1 (pm_kst.getD e.2.1 ("", "", "", 0)).2.2.1))) = true := by decide +kernel
set_option maxRecDepth 100000 in
theorem pm_kf_all : (List.range 13).all (fun o => (pm_kfl.getD o []).all (fun e => pm_inG e.2.2 (Cond.fieldLink (pm_on o) e.1 (pm_kfn.getD e.2.1 ("", "", "")).1 (pm_kfn.getD e.2.1 ("", "", "")).2.1 (pm_kfn.getD e.2.1 ("", "", "")).2.2))) = true := by decide +kernel
set_option maxRecDepth 100000 in
theorem pm_kl_all : (List.range 13).all (fun o => (pm_kll.getD o []).all (fun e => pm_inG e.2.2 (Cond.constantLong (pm_on o) e.1 e.2.1))) = true := by decide +kernel
set_option maxRecDepth 100000 in
theorem pm_uw_all : (List.range 7).all (fun ci => (List.range (pm_clN ci).2.2).all (fun k => pm_inG ((pm_uwp.getD ci []).getD k 0) (u_lay (pm_clN ci).1 (pm_clN ci).2.1 k))) = true := by decide +kernel
theorem pm_own12 {α : Type} {l : List (List α)} {o : Nat} {a : α} (hl : l.length = 13) (h : a ∈ l.getD o []) : o < 13 := by
  rcases Nat.lt_or_ge o 13 with h1 | h1
  · exact h1
  · rw [List.getD_eq_getElem?_getD, List.getElem?_eq_none (by omega)] at h
    cases h
theorem pm_gf_ok {o idx ci k : Nat} (h : pm_gf o idx = some (ci, k)) : ci < 7 ∧ k < (pm_clN ci).2.2 ∧ Cond.fieldLink (pm_on o) idx ((pm_clN ci).2.1 k).1 ((pm_clN ci).2.1 k).2.1 ((pm_clN ci).2.1 k).2.2.1 ∈ pm_G := by
  obtain ⟨p, hp⟩ := pm_f4_mem h
  have h1 := List.all_eq_true.mp (List.all_eq_true.mp pm_gf_all o (List.mem_range.mpr (pm_own12 (by rfl) hp))) _ hp
  obtain ⟨h2, h3⟩ := Bool.and_eq_true_iff.mp h1
  obtain ⟨h4, h5⟩ := Bool.and_eq_true_iff.mp h3
  exact ⟨pm_blt h2, pm_blt h4, pm_mem h5⟩
theorem pm_kl_ok {o idx : Nat} {v : Int64} (h : pm_kl o idx = some v) : Cond.constantLong (pm_on o) idx v ∈ pm_G := by
  obtain ⟨p, hp⟩ := pm_fl_mem h
  exact pm_mem (List.all_eq_true.mp (List.all_eq_true.mp pm_kl_all o (List.mem_range.mpr (pm_own12 (by rfl) hp))) _ hp)
theorem pm_gs_ok {o idx j : Nat} (h : pm_gs o idx = some j) : j < pm_kst.length ∧ Cond.fieldLink (pm_on o) idx (pm_kst.getD j ("", "", "", 0)).1 (pm_kst.getD j ("", "", "", 0)).2.1 (pm_kst.getD j ("", "", "", 0)).2.2.1 ∈ pm_G := by
  obtain ⟨p, hp⟩ := pm_f3_mem h
  have h1 := List.all_eq_true.mp (List.all_eq_true.mp pm_gs_all o (List.mem_range.mpr (pm_own12 (by rfl) hp))) _ hp
  obtain ⟨h2, h3⟩ := Bool.and_eq_true_iff.mp h1
  exact ⟨pm_blt h2, pm_mem h3⟩
theorem pm_kf_ok {o idx j : Nat} (h : pm_kf o idx = some j) : Cond.fieldLink (pm_on o) idx (pm_kfn.getD j ("", "", "")).1 (pm_kfn.getD j ("", "", "")).2.1 (pm_kfn.getD j ("", "", "")).2.2 ∈ pm_G := by
  obtain ⟨p, hp⟩ := pm_f3_mem h
  exact pm_mem (List.all_eq_true.mp (List.all_eq_true.mp pm_kf_all o (List.mem_range.mpr (pm_own12 (by rfl) hp))) _ hp)
theorem pm_uw {ci : Nat} (h : ci < 7) : ∀ w ∈ u_ws (pm_clN ci).1 (pm_clN ci).2.1 (pm_clN ci).2.2, w ∈ pm_G := by
  intro w hw
  unfold u_ws at hw
  obtain ⟨k, hk, rfl⟩ := List.mem_map.mp hw
  exact pm_mem (List.all_eq_true.mp (List.all_eq_true.mp pm_uw_all ci (List.mem_range.mpr h)) k hk)
end
section
/-! Heap steps of the pure machine, and that they are the machine's -/
def pm_inb (j : Int32) (n : Nat) : Bool := !decide (j < 0) && Nat.blt j.toNatClampNeg n
theorem pm_inb_vp {j : Int32} {n : Nat} (h : pm_inb j n = true) : vp_in j n := by
  obtain ⟨h1, h2⟩ := Bool.and_eq_true_iff.mp h
  have h3 : ¬ j < 0 := by
    intro z
    rw [decide_eq_true z] at h1
    cases h1
  exact fun z => z.elim h3 (fun z => Nat.lt_irrefl _ (Nat.lt_of_lt_of_le (pm_blt h2) z))
def pm_get (h : pm_H) (a k : Nat) (ty : FieldType) : Option Value := match pm_cat ty with
  | 0 => some (.int (h.1 a k))
  | 1 => some (.long (h.2.1 a k))
  | _ => (h.2.2 a k).map Value.ref
def pm_kv : List (Nat × Nat × Value) → Nat → Nat → Option Value
  | [], _, _ => none
  | q :: l, a, j => bif Nat.beq q.1 a && Nat.beq q.2.1 j then some q.2.2 else pm_kv l a j
theorem pm_kv_mem : ∀ {l : List (Nat × Nat × Value)} {a j : Nat} {v : Value}, pm_kv l a j = some v → (a, j, v) ∈ l := by
  intro l
  induction l with
  | nil => intro a j v h; cases h
  | cons q l ih =>
    intro a j v h
    unfold pm_kv at h
    cases hb : (Nat.beq q.1 a && Nat.beq q.2.1 j) with
    | true =>
      rw [hb] at h
      obtain ⟨h1, h2⟩ := Bool.and_eq_true_iff.mp hb
      have h1 := Nat.eq_of_beq_eq_true h1
      have h2 := Nat.eq_of_beq_eq_true h2
      have h3 : q.2.2 = v := Option.some.inj h
      subst h1; subst h2; subst h3
      exact List.mem_cons_self
    | false =>
      rw [hb] at h
      exact List.mem_cons_of_mem _ (ih h)
def pm_put (h : pm_H) (a k : Nat) (ty : FieldType) (v : Value) : Option pm_H := match ty with
  | .int => match v with
    | .int x => some (pm_setI h a k x)
    | _ => none
  | .boolean => match v with
    | .int x => if x = 0 ∨ x = 1 then some (pm_setI h a k x) else none
    | _ => none
  | .long => match v with
    | .long x => some (pm_setL h a k x)
    | _ => none
  | .object _ => match v with
    | .ref r => some (pm_setR h a k (some r))
    | _ => none
  | _ => none
/-- an object of class ci stands at a -/
def pm_isO (sw : List (Nat × Nat)) (a ci : Nat) : Bool := Nat.blt a sw.length && Nat.beq (pm_sh sw a).1 (10 + ci)
def pm_isA (sw : List (Nat × Nat)) (a kd : Nat) : Bool := Nat.blt a sw.length && Nat.beq (pm_sh sw a).1 kd
def pm_rd0 (i : Instr) (sw : List (Nat × Nat)) (ow : Nat) (h : pm_H) (S : List Value) : Option (List Value) := match i with
  | .getfield idx => match S with
    | .ref a :: S' => bif Nat.blt a 1000 then
        (match pm_gf ow idx with
          | some (ci, k) => bif pm_isO sw a ci then
              (match (pm_ft ci)[k]? with
                | some ty => (pm_get h a k ty).map (fun v => v :: S')
                | none => none)
              else none
          | none => none)
        else
        (match pm_kf ow idx with
          | some j => (pm_kv pm_kof a j).map (fun v => v :: S')
          | none => none)
    | _ => none
  | .getstatic idx => (pm_gs ow idx).map (fun j => Value.ref (pm_kst.getD j ("", "", "", 0)).2.2.2 :: S)
  | .ldc2_w idx => (pm_kl ow idx).map (fun v => Value.long v :: S)
  | .arraylength => match S with
    | .ref a :: S' => bif Nat.blt a sw.length && Nat.blt (pm_sh sw a).1 6 then some (.int (Int32.ofNat (pm_sh sw a).2) :: S') else none
    | _ => none
  | .iaload => match S with
    | .int j :: .ref a :: S' => bif pm_isA sw a 1 && pm_inb j (pm_sh sw a).2 then some (.int (h.1 a j.toNatClampNeg) :: S') else none
    | _ => none
  | .caload => match S with
    | .int j :: .ref a :: S' => bif pm_isA sw a 2 && pm_inb j (pm_sh sw a).2 then some (.int (h.1 a j.toNatClampNeg) :: S') else none
    | _ => none
  | .baload => match S with
    | .int j :: .ref a :: S' => bif pm_isA sw a 3 && pm_inb j (pm_sh sw a).2 then some (.int (h.1 a j.toNatClampNeg) :: S') else none
    | _ => none
  | .laload => match S with
    | .int j :: .ref a :: S' => bif pm_isA sw a 4 && pm_inb j (pm_sh sw a).2 then some (.long (h.2.1 a j.toNatClampNeg) :: S') else none
    | _ => none
  | .aaload => match S with
    | .int j :: .ref a :: S' => bif pm_isA sw a 5 && pm_inb j (pm_sh sw a).2 then (h.2.2 a j.toNatClampNeg).map (fun r => Value.ref r :: S') else none
    | _ => none
  | _ => none
/-- the bytes of a spelling, by the number of their array -/
def pm_kbf : List (Nat × List Int32) → Nat → Option (List Int32)
  | [], _ => none
  | q :: l, k => bif Nat.beq q.1 k then some q.2 else pm_kbf l k
theorem pm_kbf_mem : ∀ {l : List (Nat × List Int32)} {k : Nat} {b : List Int32}, pm_kbf l k = some b → (k, b) ∈ l := by
  intro l
  induction l with
  | nil => intro k b h; cases h
  | cons q l ih =>
    intro k b h
    unfold pm_kbf at h
    cases hb : Nat.beq q.1 k with
    | true =>
      rw [hb] at h
      have h1 : q.1 = k := Nat.eq_of_beq_eq_true hb
      have h2 : q.2 = b := Option.some.inj h
      subst h1; subst h2
      exact List.mem_cons_self
    | false =>
      rw [hb] at h
      exact List.mem_cons_of_mem _ (ih h)
def pm_kb (a : Nat) : Option (List Int32) := pm_kbf pm_kba a
def pm_isc (ow idx : Nat) : Bool := pm_cso.any (fun q => Nat.beq q.1 ow && Nat.beq q.2.1 idx)
/-- reads of constants: a static int, the array of all kinds, the arrays of bytes -/
def pm_cst (i : Instr) (ow : Nat) (S : List Value) : Option (List Value) := match i with
  | .getstatic idx => bif pm_isc ow idx then some (.int 1 :: S) else none
  | .arraylength => match S with
    | .ref a :: S' => bif Nat.beq a 2000 then some (.int (Int32.ofNat 39) :: S') else (pm_kb a).map (fun l => .int (Int32.ofNat l.length) :: S')
    | _ => none
  | .aaload => match S with
    | .int j :: .ref a :: S' => bif Nat.beq a 2000 && pm_inb j 39 then some (.ref (1000 + j.toNatClampNeg) :: S') else none
    | _ => none
  | _ => none
def pm_read (i : Instr) (sw : List (Nat × Nat)) (ow : Nat) (h : pm_H) (S : List Value) : Option (List Value) := match pm_rd0 i sw ow h S with
  | some S' => some S'
  | none => pm_cst i ow S
theorem pm_read_ln {i : Instr} {sw : List (Nat × Nat)} {ow : Nat} {h : pm_H} {S S' : List Value} (hr : pm_read i sw ow h S = some S') : pm_ln i ≠ 0 := by
  intro z
  unfold pm_read at hr
  cases h0 : pm_rd0 i sw ow h S with
  | some S1 =>
    unfold pm_rd0 at h0
    split at h0 <;> first | cases z | cases h0
  | none =>
    rw [h0] at hr
    dsimp only at hr
    unfold pm_cst at hr
    split at hr <;> first | cases z | cases hr
def pm_write (i : Instr) (sw : List (Nat × Nat)) (ow : Nat) (h : pm_H) (S : List Value) : Option (pm_H × List Value) := match i with
  | .putfield idx => match S with
    | v :: .ref a :: S' => match pm_gf ow idx with
        | some (ci, k) => bif pm_isO sw a ci && !((pm_clN ci).2.1 k).2.2.2 then
            (match (pm_ft ci)[k]? with
              | some ty => (pm_put h a k ty v).map (fun h' => (h', S'))
              | none => none)
            else none
        | none => none
    | _ => none
  | .iastore => match S with
    | .int x :: .int j :: .ref a :: S' => bif pm_isA sw a 1 && pm_inb j (pm_sh sw a).2 then some (pm_setI h a j.toNatClampNeg x, S') else none
    | _ => none
  | .castore => match S with
    | .int x :: .int j :: .ref a :: S' => bif pm_isA sw a 2 && pm_inb j (pm_sh sw a).2 then some (pm_setI h a j.toNatClampNeg (vp_nar .char x), S') else none
    | _ => none
  | .bastore => match S with
    | .int x :: .int j :: .ref a :: S' => bif pm_isA sw a 3 && pm_inb j (pm_sh sw a).2 then some (pm_setI h a j.toNatClampNeg (vp_nar .boolean x), S') else none
    | _ => none
  | .lastore => match S with
    | .long x :: .int j :: .ref a :: S' => bif pm_isA sw a 4 && pm_inb j (pm_sh sw a).2 then some (pm_setL h a j.toNatClampNeg x, S') else none
    | _ => none
  | .aastore => match S with
    | .ref x :: .int j :: .ref a :: S' => bif (pm_isA sw a 5 && pm_inb j (pm_sh sw a).2) && (Nat.ble 1000 x && Nat.blt x 1039) then some (pm_setR h a j.toNatClampNeg (some x), S') else none
    | _ => none
  | _ => none
/-- the constants: statics, objects, fields; those that are compared differ -/
def pm_KS (rho : Nat → Nat) (A : Nat → Prop) (U : State) (H : Heap) : Prop :=
  (∀ q ∈ pm_kst, va_Z q.1 q.2.1 q.2.2.1 (.ref (rho q.2.2.2)) A U H) ∧ (∀ q ∈ pm_kob, va_O q.2 (rho q.1) A U H) ∧
  (∀ q ∈ pm_kof, va_OF (pm_kfn.getD q.2.1 ("", "", "")).1 (pm_kfn.getD q.2.1 ("", "", "")).2.1 (pm_kfn.getD q.2.1 ("", "", "")).2.2 (pm_cv rho q.2.2) (rho q.1) A U H) ∧
  (∀ q ∈ pm_kba, va_T .byte (rho q.1) q.2.length (fun j => .int (q.2.getD j 0)) A U H) ∧
  va_T (.object "QuietChecker$Kind") (rho 2000) 39 (fun j => .ref (rho (1000 + j))) A U H ∧
  va_Z "java/lang/String" "COMPACT_STRINGS" "Z" (.int 1) A U H ∧
  va_Zq "jdk/internal/util/Preconditions" "SIOOBE_FORMATTER" "Ljava/util/function/BiFunction;" A U H
theorem pm_KS.moved {rho : Nat → Nat} {A : Nat → Prop} {u U : State} {H : Heap} (hvm : u.vm.Alike U.vm) (h : pm_KS rho A u H) : pm_KS rho A U H :=
  ⟨fun q hq => va_Z.moved hvm (h.1 q hq), fun q hq => va_O.moved hvm (h.2.1 q hq), fun q hq => va_OF.moved hvm (h.2.2.1 q hq), fun q hq => va_T.moved hvm (h.2.2.2.1 q hq), va_T.moved hvm h.2.2.2.2.1, va_Z.moved hvm h.2.2.2.2.2.1, va_Zq.moved hvm h.2.2.2.2.2.2⟩
theorem pm_KS.kept {rho : Nat → Nat} {A : Nat → Prop} {U : State} {H H1 : Heap} (h : pm_KS rho A U H) (hq : ∀ a : Nat, a < H.size → ¬ A a → H1[a]? = H[a]?) : pm_KS rho A U H1 :=
  ⟨fun q h1 => (h.1 q h1).kept hq, fun q h1 => (h.2.1 q h1).kept hq, fun q h1 => (h.2.2.1 q h1).kept hq, fun q h1 => (h.2.2.2.1 q h1).kept hq, h.2.2.2.2.1.kept hq, h.2.2.2.2.2.1.kept hq, h.2.2.2.2.2.2.kept hq⟩
theorem pm_KS.narrow {rho : Nat → Nat} {A B : Nat → Prop} {U : State} {H : Heap} (h : pm_KS rho A U H) (hAB : ∀ q, B q → A q) : pm_KS rho B U H :=
  ⟨fun q h1 => (h.1 q h1).narrow hAB, fun q h1 => (h.2.1 q h1).narrow hAB, fun q h1 => (h.2.2.1 q h1).narrow hAB, fun q h1 => (h.2.2.2.1 q h1).narrow hAB, h.2.2.2.2.1.narrow hAB, h.2.2.2.2.2.1.narrow hAB, h.2.2.2.2.2.2.narrow hAB⟩
theorem pm_isO_t {sw : List (Nat × Nat)} {a ci : Nat} (h : pm_isO sw a ci = true) : a < sw.length ∧ (pm_sh sw a).1 = 10 + ci := by
  obtain ⟨h1, h2⟩ := Bool.and_eq_true_iff.mp h
  exact ⟨pm_blt h1, Nat.eq_of_beq_eq_true h2⟩
theorem pm_E_O {cy : Nat → ClassId} {rho : Nat → Nat} {h : pm_H} {sh : Nat × Nat} {i ci : Nat} (hs : sh.1 = 10 + ci) : pm_E cy rho h sh i = .inr (ci, pm_fs rho h i ci) := by
  obtain ⟨a, b⟩ := sh
  have : a = (ci + 4) + 6 := by
    have : a = 10 + ci := hs
    omega
  subst this
  show (Sum.inr ((ci + 4) - 4, pm_fs rho h i ((ci + 4) - 4)) : va_E) = _
  rw [Nat.add_sub_cancel]
theorem pm_get_cv {rho : Nat → Nat} {h : pm_H} {a k : Nat} {ty : FieldType} {v : Value} (hv : pm_get h a k ty = some v) : pm_fv rho h a k ty = pm_cv rho v := by
  unfold pm_get at hv
  unfold pm_fv
  split at hv
  · rename_i e; rw [e]; cases hv; rfl
  · rename_i e; rw [e]; cases hv; rfl
  · rename_i n0 h0 h1
    obtain ⟨r, hr, rfl⟩ := Option.map_eq_some_iff.mp hv
    split
    · rename_i e; exact absurd e h0
    · rename_i e; exact absurd e h1
    · rw [hr]; rfl
end
section
section PM4
variable {p : Program} {l : Launch} {e : Env} {R : Room} {s : State} {m : MethodId} {args : Array Value} {below : List Frame} {meth : Method} {c : Code} {H : Heap} {locs : List Loc} {cells slots : Nat} {Q : State → Prop} {cc : ByteArray} {pc : Nat} {ls : Array Slot} {rho : Nat → Nat} {S S' : List Value} {D : va_G} {cy : Nat → ClassId} {sw : List (Nat × Nat)} {h h' : pm_H} {A : Nat → Prop} {Ts : List Cond} {ow : Nat}
theorem pm_kst_at {j : Nat} (hj : j < pm_kst.length) : pm_kst.getD j ("", "", "", 0) ∈ pm_kst := by
  rw [List.getD_eq_getElem?_getD, List.getElem?_eq_getElem hj]
  exact List.getElem_mem hj
theorem pm_rd0_snd (hx : p.tables.exec = Jvm.exec) (hb : c.code = cc) (hts : ∀ w ∈ Ts, w.before args s = true) (hG : ∀ w ∈ pm_G, w ∈ Ts) (hown : s.vm.findClass (pm_on ow) = some m.cls) (hK : va_K D pm_cl (pm_tys cy) s) (hP : va_P D pm_cl (pm_W cy rho sw h) H) (hS : va_S A s.heap H locs) (hKS : pm_KS rho A s s.heap)
    {i : Instr} (hdg : decode cc pc = .ok (i, pm_ln i)) (hr : pm_rd0 i sw ow h S = some S')
    (k : W p l e R s m args below meth c H locs cells slots Q (F0 m (pc + pm_ln i) ls (pm_cS rho S'))) : W p l e R s m args below meth c H locs cells slots Q (F0 m pc ls (pm_cS rho S)) := by
  unfold pm_rd0 at hr
  split at hr
  · split at hr
    · rename_i idx _ a S1
      cases ha : Nat.blt a 1000 with
      | true =>
        rw [ha] at hr
        dsimp only [cond] at hr
        split at hr
        · rename_i ci kk hgf
          obtain ⟨hci, hkk, hlink⟩ := pm_gf_ok hgf
          cases ho : pm_isO sw a ci with
          | false => rw [ho] at hr; cases hr
          | true =>
            rw [ho] at hr
            dsimp only [cond] at hr
            split at hr
            · rename_i ty hty
              obtain ⟨v, hv, rfl⟩ := Option.map_eq_some_iff.mp hr
              obtain ⟨hal, hsh⟩ := pm_isO_t ho
              refine va_get (ci := ci) hx hb hts (fun w hw => hG w (pm_uw hci w hw)) hown hK hP a ((pm_W_at hal).trans (by rw [pm_E_O hsh])) (pm_cl_at hci) kk hkk (hts _ (hG _ hlink)) (fun _ z => z) ((pm_fs_at hty).trans (by rw [pm_get_cv hv])) hdg k
            · cases hr
        · cases hr
      | false =>
        rw [ha] at hr
        dsimp only [cond] at hr
        split at hr
        · rename_i j hkf
          obtain ⟨v, hv, rfl⟩ := Option.map_eq_some_iff.mp hr
          exact vk_getf hx hb (hKS.2.2.1 _ (pm_kv_mem hv)) hS hown (hts _ (hG _ (pm_kf_ok hkf))) (fun _ z => z) hdg k
        · cases hr
    · cases hr
  · obtain ⟨j, hj, rfl⟩ := Option.map_eq_some_iff.mp hr
    obtain ⟨hjl, hlink⟩ := pm_gs_ok hj
    exact va_gets hx hb (hKS.1 _ (pm_kst_at hjl)) hS hown (hts _ (hG _ hlink)) (fun _ z => z) hdg k
  · obtain ⟨v, hv, rfl⟩ := Option.map_eq_some_iff.mp hr
    exact lv_ldc2 hx hb hown (hts _ (hG _ (pm_kl_ok hv))) hdg k
  · split at hr
    · rename_i _ a S1
      obtain ⟨hg, rfl⟩ := pm_bif hr
      obtain ⟨h1, h2⟩ := Bool.and_eq_true_iff.mp hg
      have hal := pm_blt h1
      have hsh := pm_blt h2
      have hat := pm_W_at (cy := cy) (rho := rho) (h := h) hal
      generalize pm_sh sw a = sh at *
      obtain ⟨sk, sn⟩ := sh
      dsimp only at hsh
      match sk, hsh with
      | 0, _ => exact va_alen hx hb hK hP a 0 hat rfl rfl hdg k
      | 1, _ => exact va_alen hx hb hK hP a 1 hat rfl rfl hdg k
      | 2, _ => exact va_alen hx hb hK hP a 2 hat rfl rfl hdg k
      | 3, _ => exact va_alen hx hb hK hP a 3 hat rfl rfl hdg k
      | 4, _ => exact va_alen hx hb hK hP a 4 hat rfl rfl hdg k
      | 5, _ => exact va_alen hx hb hK hP a 5 hat rfl rfl hdg k
    · cases hr
  · split at hr
    · rename_i _ j a S1
      obtain ⟨hg, rfl⟩ := pm_bif hr
      obtain ⟨h1, h2⟩ := Bool.and_eq_true_iff.mp hg
      obtain ⟨h3, h4⟩ := Bool.and_eq_true_iff.mp h1
      have hat := pm_W_at (cy := cy) (rho := rho) (h := h) (pm_blt h3)
      have hsh := Nat.eq_of_beq_eq_true h4
      generalize pm_sh sw a = sh at *
      obtain ⟨sk, sn⟩ := sh
      dsimp only at hsh
      subst hsh
      exact va_iald hx hb hK hP a 1 hat rfl (pm_inb_vp h2) hdg k
    · cases hr
  · split at hr
    · rename_i _ j a S1
      obtain ⟨hg, rfl⟩ := pm_bif hr
      obtain ⟨h1, h2⟩ := Bool.and_eq_true_iff.mp hg
      obtain ⟨h3, h4⟩ := Bool.and_eq_true_iff.mp h1
      have hat := pm_W_at (cy := cy) (rho := rho) (h := h) (pm_blt h3)
      have hsh := Nat.eq_of_beq_eq_true h4
      generalize pm_sh sw a = sh at *
      obtain ⟨sk, sn⟩ := sh
      dsimp only at hsh
      subst hsh
      exact va_cald hx hb hK hP a 2 hat rfl (pm_inb_vp h2) hdg k
    · cases hr
  · split at hr
    · rename_i _ j a S1
      obtain ⟨hg, rfl⟩ := pm_bif hr
      obtain ⟨h1, h2⟩ := Bool.and_eq_true_iff.mp hg
      obtain ⟨h3, h4⟩ := Bool.and_eq_true_iff.mp h1
      have hat := pm_W_at (cy := cy) (rho := rho) (h := h) (pm_blt h3)
      have hsh := Nat.eq_of_beq_eq_true h4
      generalize pm_sh sw a = sh at *
      obtain ⟨sk, sn⟩ := sh
      dsimp only at hsh
      subst hsh
      exact va_zald hx hb hK hP a 3 hat rfl (pm_inb_vp h2) hdg k
    · cases hr
  · split at hr
    · rename_i _ j a S1
      obtain ⟨hg, rfl⟩ := pm_bif hr
      obtain ⟨h1, h2⟩ := Bool.and_eq_true_iff.mp hg
      obtain ⟨h3, h4⟩ := Bool.and_eq_true_iff.mp h1
      have hat := pm_W_at (cy := cy) (rho := rho) (h := h) (pm_blt h3)
      have hsh := Nat.eq_of_beq_eq_true h4
      generalize pm_sh sw a = sh at *
      obtain ⟨sk, sn⟩ := sh
      dsimp only at hsh
      subst hsh
      exact va_lald hx hb hK hP a 4 hat rfl (pm_inb_vp h2) hdg k
    · cases hr
  · split at hr
    · rename_i _ j a S1
      cases hg : (pm_isA sw a 5 && pm_inb j (pm_sh sw a).2) with
      | false => rw [hg] at hr; cases hr
      | true =>
        rw [hg] at hr
        obtain ⟨r, hr1, rfl⟩ := Option.map_eq_some_iff.mp hr
        obtain ⟨h1, h2⟩ := Bool.and_eq_true_iff.mp hg
        obtain ⟨h3, h4⟩ := Bool.and_eq_true_iff.mp h1
        have hat := pm_W_at (cy := cy) (rho := rho) (h := h) (pm_blt h3)
        have hsh := Nat.eq_of_beq_eq_true h4
        generalize pm_sh sw a = sh at *
        obtain ⟨sk, sn⟩ := sh
        dsimp only at hsh
        subst hsh
        refine va_aldq hx hb hK hP a 5 hat rfl (pm_inb_vp h2) hdg ?_
        rw [hr1]
        exact k
    · cases hr
  · cases hr
set_option maxRecDepth 100000 in
theorem pm_cs_all : pm_cso.all (fun q => pm_inG q.2.2 (Cond.fieldLink (pm_on q.1) q.2.1 "java/lang/String" "COMPACT_STRINGS" "Z")) = true := by decide +kernel
theorem pm_isc_ok {ow idx : Nat} (h : pm_isc ow idx = true) : Cond.fieldLink (pm_on ow) idx "java/lang/String" "COMPACT_STRINGS" "Z" ∈ pm_G := by
  obtain ⟨q, hq, h1⟩ := List.any_eq_true.mp h
  obtain ⟨h2, h3⟩ := Bool.and_eq_true_iff.mp h1
  have h2 := Nat.eq_of_beq_eq_true h2
  have h3 := Nat.eq_of_beq_eq_true h3
  subst h2; subst h3
  exact pm_mem (List.all_eq_true.mp pm_cs_all q hq)
theorem pm_cst_snd (hx : p.tables.exec = Jvm.exec) (hb : c.code = cc) (hts : ∀ w ∈ Ts, w.before args s = true) (hG : ∀ w ∈ pm_G, w ∈ Ts) (hown : s.vm.findClass (pm_on ow) = some m.cls) (hS : va_S A s.heap H locs) (hKS : pm_KS rho A s s.heap)
    {i : Instr} (hdg : decode cc pc = .ok (i, pm_ln i)) (hr : pm_cst i ow S = some S')
    (k : W p l e R s m args below meth c H locs cells slots Q (F0 m (pc + pm_ln i) ls (pm_cS rho S'))) : W p l e R s m args below meth c H locs cells slots Q (F0 m pc ls (pm_cS rho S)) := by
  unfold pm_cst at hr
  split at hr
  · rename_i idx
    obtain ⟨hg, rfl⟩ := pm_bif hr
    exact va_gets hx hb hKS.2.2.2.2.2.1 hS hown (hts _ (hG _ (pm_isc_ok hg))) (fun _ z => z) hdg k
  · split at hr
    · rename_i _ a S1
      cases ha : Nat.beq a 2000 with
      | true =>
        rw [ha] at hr
        cases hr
        have ha := Nat.eq_of_beq_eq_true ha
        subst ha
        exact va_tlen hx hb hKS.2.2.2.2.1 hS rfl hdg k
      | false =>
        rw [ha] at hr
        obtain ⟨b, hb2, rfl⟩ := Option.map_eq_some_iff.mp hr
        exact va_tlen hx hb (hKS.2.2.2.1 _ (pm_kbf_mem hb2)) hS rfl hdg k
    · cases hr
  · split at hr
    · rename_i _ j a S1
      obtain ⟨hg, rfl⟩ := pm_bif hr
      obtain ⟨h1, h2⟩ := Bool.and_eq_true_iff.mp hg
      have h1 := Nat.eq_of_beq_eq_true h1
      subst h1
      exact vb_tq hx hb hKS.2.2.2.2.1 hS (pm_inb_vp h2) rfl hdg k
    · cases hr
  · cases hr
theorem pm_read_snd (hx : p.tables.exec = Jvm.exec) (hb : c.code = cc) (hts : ∀ w ∈ Ts, w.before args s = true) (hG : ∀ w ∈ pm_G, w ∈ Ts) (hown : s.vm.findClass (pm_on ow) = some m.cls) (hK : va_K D pm_cl (pm_tys cy) s) (hP : va_P D pm_cl (pm_W cy rho sw h) H) (hS : va_S A s.heap H locs) (hKS : pm_KS rho A s s.heap)
    {i : Instr} (hdg : decode cc pc = .ok (i, pm_ln i)) (hr : pm_read i sw ow h S = some S')
    (k : W p l e R s m args below meth c H locs cells slots Q (F0 m (pc + pm_ln i) ls (pm_cS rho S'))) : W p l e R s m args below meth c H locs cells slots Q (F0 m pc ls (pm_cS rho S)) := by
  unfold pm_read at hr
  cases h0 : pm_rd0 i sw ow h S with
  | some S1 =>
    rw [h0] at hr
    cases hr
    exact pm_rd0_snd hx hb hts hG hown hK hP hS hKS hdg h0 k
  | none =>
    rw [h0] at hr
    exact pm_cst_snd hx hb hts hG hown hS hKS hdg hr k
end PM4
end
section
section PM5
variable {p : Program} {l : Launch} {e : Env} {R : Room} {s : State} {m : MethodId} {args : Array Value} {below : List Frame} {meth : Method} {c : Code} {H : Heap} {locs : List Loc} {cells slots : Nat} {Q : State → Prop} {cc : ByteArray} {pc : Nat} {ls : Array Slot} {rho : Nat → Nat} {S S' : List Value} {D : va_G} {cy : Nat → ClassId} {sw : List (Nat × Nat)} {h h' : pm_H} {A : Nat → Prop} {Ts : List Cond} {ow : Nat}
/-- what a put gives: the heaps agree elsewhere, the field holds the value, the value fits -/
theorem pm_put_t {a k : Nat} {ty : FieldType} {v : Value} (hp : pm_put h a k ty v = some h') : pm_but a h h' ∧ pm_fv rho h' a k ty = pm_cv rho v ∧ (∀ j, j ≠ k → h'.1 a j = h.1 a j ∧ h'.2.1 a j = h.2.1 a j ∧ h'.2.2 a j = h.2.2 a j) ∧ narrow ty (pm_cv rho v) = pm_cv rho v ∧ fits ty (pm_cv rho v) = true := by
  unfold pm_put at hp
  split at hp
  · split at hp
    · cases hp
      refine ⟨pm_but_I _ _ _ _, ?_, pm_set_oI _ _ _ _, rfl, rfl⟩
      show Value.int (va_up h.1 a (va_up (h.1 a) k _) a k) = _
      rw [va_up_self, va_up_self]; rfl
    · cases hp
  · split at hp
    · split at hp
      · rename_i x hx01
        cases hp
        refine ⟨pm_but_I _ _ _ _, ?_, pm_set_oI _ _ _ _, ?_, ?_⟩
        · show Value.int (va_up h.1 a (va_up (h.1 a) k _) a k) = _
          rw [va_up_self, va_up_self]; rfl
        · show narrow .boolean (.int x) = .int x
          rcases hx01 with rfl | rfl <;> decide
        · show fits .boolean (.int x) = true
          rcases hx01 with rfl | rfl <;> decide
      · cases hp
    · cases hp
  · split at hp
    · cases hp
      refine ⟨pm_but_L _ _ _ _, ?_, pm_set_oL _ _ _ _, rfl, rfl⟩
      show Value.long (va_up h.2.1 a (va_up (h.2.1 a) k _) a k) = _
      rw [va_up_self, va_up_self]; rfl
    · cases hp
  · split at hp
    · cases hp
      refine ⟨pm_but_R _ _ _ _, ?_, pm_set_oR _ _ _ _, rfl, rfl⟩
      show va_rf ((va_up h.2.2 a (va_up (h.2.2 a) k _) a k).map rho) = _
      rw [va_up_self, va_up_self]; rfl
    · cases hp
  · cases hp
/-- an object of a class stands there as that class wants it (the elements of an array of references) -/
theorem pm_any {t : Nat} {E : String} (hO : va_O E t A s s.heap) (hS : va_S A s.heap H locs) : va_Any E s H t := by
  obtain ⟨cell, h1, h2, h3, h4⟩ := hO.kept hS.2.1
  refine ⟨cell, h1, h2, ?_, fun comp hc => ?_⟩
  · obtain ⟨kC, hkC, -⟩ := Vm.findClass_spec h3
    exact ⟨kC, hkC⟩
  · have : comp = cell.cls := Option.some.inj (hc.symm.trans h3)
    subst this
    exact va_asg _ _
set_option maxRecDepth 100000 in
theorem pm_kob_all : (List.range 39).all (fun k => decide ((1000 + k, "QuietChecker$Kind") ∈ pm_kob)) = true := by decide +kernel
theorem pm_kob_kind {x : Nat} (h1 : 1000 ≤ x) (h2 : x < 1039) : (x, "QuietChecker$Kind") ∈ pm_kob := by
  have h3 := List.all_eq_true.mp pm_kob_all (x - 1000) (List.mem_range.mpr (by omega))
  rw [show 1000 + (x - 1000) = x by omega] at h3
  exact of_decide_eq_true h3
set_option maxRecDepth 100000 in
theorem pm_kob_all2 : (List.range 39).all (fun k => decide ((3000 + k, "java/lang/String") ∈ pm_kob)) = true := by decide +kernel
theorem pm_kob_str {x : Nat} (h1 : 3000 ≤ x) (h2 : x < 3039) : (x, "java/lang/String") ∈ pm_kob := by
  have h3 := List.all_eq_true.mp pm_kob_all2 (x - 3000) (List.mem_range.mpr (by omega))
  have h4 := of_decide_eq_true h3
  rwa [show 3000 + (x - 3000) = x by omega] at h4
theorem pm_write_snd (hx : p.tables.exec = Jvm.exec) (hb : c.code = cc) (hts : ∀ w ∈ Ts, w.before args s = true) (hG : ∀ w ∈ pm_G, w ∈ Ts) (hown : s.vm.findClass (pm_on ow) = some m.cls) (hK : va_K D pm_cl (pm_tys cy) s) (hP : va_P D pm_cl (pm_W cy rho sw h) H) (hD : va_D A (pm_W cy rho sw h)) (hS : va_S A s.heap H locs) (hKS : pm_KS rho A s s.heap)
    {i : Instr} (hdg : decode cc pc = .ok (i, pm_ln i)) (hr : pm_write i sw ow h S = some (h', S'))
    (k : ∀ (H1 : Heap) (locs1 : List Loc), va_P D pm_cl (pm_W cy rho sw h') H1 → va_D A (pm_W cy rho sw h') → va_S A s.heap H1 locs1 → W p l e R s m args below meth c H1 locs1 cells slots Q (F0 m (pc + pm_ln i) ls (pm_cS rho S'))) : W p l e R s m args below meth c H locs cells slots Q (F0 m pc ls (pm_cS rho S)) := by
  unfold pm_write at hr
  split at hr
  · split at hr
    · rename_i idx _ v a S1
      split at hr
      · rename_i ci kk hgf
        obtain ⟨hci, hkk, hlink⟩ := pm_gf_ok hgf
        cases ho : (pm_isO sw a ci && !((pm_clN ci).2.1 kk).2.2.2) with
        | false => rw [ho] at hr; cases hr
        | true =>
          rw [ho] at hr
          dsimp only [cond] at hr
          obtain ⟨ho1, ho2⟩ := Bool.and_eq_true_iff.mp ho
          split at hr
          · rename_i ty hty
            obtain ⟨h1, hv, he⟩ := Option.map_eq_some_iff.mp hr
            cases he
            obtain ⟨hal, hsh⟩ := pm_isO_t ho1
            obtain ⟨q1, q2, q3, q4, q5⟩ := pm_put_t (rho := rho) hv
            obtain ⟨f1, f2⟩ := pm_ft_at hci hty
            refine va_put (ci := ci) (ty := ty) hx hb hts (fun w hw => hG w (pm_uw hci w hw)) (pm_clY ci) (pm_cl_ty hci) (pm_cl_nm hci) hown hK hP hD hS a ((pm_W_at hal).trans (by rw [pm_E_O hsh])) (pm_cl_at hci) kk hkk (hts _ (hG _ hlink)) (fun _ z => z) (by cases hz : ((pm_clN ci).2.1 kk).2.2.2 with | false => rfl | true => rw [hz] at ho2; cases ho2) ((pm_cl_ty hci kk f1).trans (by rw [f2])) q4 q5 (by rw [pm_fs_len]; exact (List.getElem?_eq_some_iff.mp hty).1) hdg (fun H1 locs1 hP1 hD1 hS1 => ?_)
            have hW : (pm_W cy rho sw h).set a (rho a, .inr (ci, (pm_fs rho h a ci).set kk (pm_cv rho v))) = pm_W cy rho sw h' := pm_W_set q1 hal (by rw [pm_E_O hsh, pm_fs_set hty q2 q3])
            rw [hW] at hP1 hD1
            exact k H1 locs1 hP1 hD1 hS1
          · cases hr
      · cases hr
    · cases hr
  · split at hr
    · rename_i _ x j a S1
      obtain ⟨hg, he⟩ := pm_bif hr
      cases he
      obtain ⟨h1, h2⟩ := Bool.and_eq_true_iff.mp hg
      obtain ⟨h3, h4⟩ := Bool.and_eq_true_iff.mp h1
      have hal := pm_blt h3
      have hat := pm_W_at (cy := cy) (rho := rho) (h := h) hal
      have hset : ∀ en, en = pm_E cy rho (pm_setI h a j.toNatClampNeg x) (pm_sh sw a) a → (pm_W cy rho sw h).set a (rho a, en) = pm_W cy rho sw (pm_setI h a j.toNatClampNeg x) := fun en hen => pm_W_set (pm_but_I _ _ _ _) hal hen
      have hsh := Nat.eq_of_beq_eq_true h4
      generalize pm_sh sw a = sh at *
      obtain ⟨sk, sn⟩ := sh
      dsimp only at hsh
      subst hsh
      refine va_iast hx hb hK hP hD hS a 1 hat rfl (pm_inb_vp h2) hdg (fun H1 locs1 hP1 hD1 hS1 => ?_)
      rw [hset _ (by show _ = Sum.inl (cy 1, sn, Sum.inl (va_up h.1 a _ a)); rw [va_up_self]; rfl)] at hP1 hD1
      exact k H1 locs1 hP1 hD1 hS1
    · cases hr
  · split at hr
    · rename_i _ x j a S1
      obtain ⟨hg, he⟩ := pm_bif hr
      cases he
      obtain ⟨h1, h2⟩ := Bool.and_eq_true_iff.mp hg
      obtain ⟨h3, h4⟩ := Bool.and_eq_true_iff.mp h1
      have hal := pm_blt h3
      have hat := pm_W_at (cy := cy) (rho := rho) (h := h) hal
      have hset : ∀ en, en = pm_E cy rho (pm_setI h a j.toNatClampNeg (vp_nar .char x)) (pm_sh sw a) a → (pm_W cy rho sw h).set a (rho a, en) = pm_W cy rho sw (pm_setI h a j.toNatClampNeg (vp_nar .char x)) := fun en hen => pm_W_set (pm_but_I _ _ _ _) hal hen
      have hsh := Nat.eq_of_beq_eq_true h4
      generalize pm_sh sw a = sh at *
      obtain ⟨sk, sn⟩ := sh
      dsimp only at hsh
      subst hsh
      refine va_cast hx hb hK hP hD hS a 2 hat rfl (pm_inb_vp h2) hdg (fun H1 locs1 hP1 hD1 hS1 => ?_)
      rw [hset _ (by show _ = Sum.inl (cy 2, sn, Sum.inl (va_up h.1 a _ a)); rw [va_up_self]; rfl)] at hP1 hD1
      exact k H1 locs1 hP1 hD1 hS1
    · cases hr
  · split at hr
    · rename_i _ x j a S1
      obtain ⟨hg, he⟩ := pm_bif hr
      cases he
      obtain ⟨h1, h2⟩ := Bool.and_eq_true_iff.mp hg
      obtain ⟨h3, h4⟩ := Bool.and_eq_true_iff.mp h1
      have hal := pm_blt h3
      have hat := pm_W_at (cy := cy) (rho := rho) (h := h) hal
      have hset : ∀ en, en = pm_E cy rho (pm_setI h a j.toNatClampNeg (vp_nar .boolean x)) (pm_sh sw a) a → (pm_W cy rho sw h).set a (rho a, en) = pm_W cy rho sw (pm_setI h a j.toNatClampNeg (vp_nar .boolean x)) := fun en hen => pm_W_set (pm_but_I _ _ _ _) hal hen
      have hsh := Nat.eq_of_beq_eq_true h4
      generalize pm_sh sw a = sh at *
      obtain ⟨sk, sn⟩ := sh
      dsimp only at hsh
      subst hsh
      refine va_zast hx hb hK hP hD hS a 3 hat rfl (pm_inb_vp h2) hdg (fun H1 locs1 hP1 hD1 hS1 => ?_)
      rw [hset _ (by show _ = Sum.inl (cy 3, sn, Sum.inl (va_up h.1 a _ a)); rw [va_up_self]; rfl)] at hP1 hD1
      exact k H1 locs1 hP1 hD1 hS1
    · cases hr
  · split at hr
    · rename_i _ x j a S1
      obtain ⟨hg, he⟩ := pm_bif hr
      cases he
      obtain ⟨h1, h2⟩ := Bool.and_eq_true_iff.mp hg
      obtain ⟨h3, h4⟩ := Bool.and_eq_true_iff.mp h1
      have hal := pm_blt h3
      have hat := pm_W_at (cy := cy) (rho := rho) (h := h) hal
      have hset : ∀ en, en = pm_E cy rho (pm_setL h a j.toNatClampNeg x) (pm_sh sw a) a → (pm_W cy rho sw h).set a (rho a, en) = pm_W cy rho sw (pm_setL h a j.toNatClampNeg x) := fun en hen => pm_W_set (pm_but_L _ _ _ _) hal hen
      have hsh := Nat.eq_of_beq_eq_true h4
      generalize pm_sh sw a = sh at *
      obtain ⟨sk, sn⟩ := sh
      dsimp only at hsh
      subst hsh
      refine va_last hx hb hK hP hD hS a 4 hat rfl (pm_inb_vp h2) hdg (fun H1 locs1 hP1 hD1 hS1 => ?_)
      rw [hset _ (by show _ = Sum.inl (cy 4, sn, Sum.inr (Sum.inl (va_up h.2.1 a _ a))); rw [va_up_self]; rfl)] at hP1 hD1
      exact k H1 locs1 hP1 hD1 hS1
    · cases hr
  · split at hr
    · rename_i _ x j a S1
      obtain ⟨hg, he⟩ := pm_bif hr
      cases he
      obtain ⟨hg1, hg2⟩ := Bool.and_eq_true_iff.mp hg
      obtain ⟨g1, g2⟩ := Bool.and_eq_true_iff.mp hg2
      obtain ⟨h1, h2⟩ := Bool.and_eq_true_iff.mp hg1
      obtain ⟨h3, h4⟩ := Bool.and_eq_true_iff.mp h1
      have hal := pm_blt h3
      have hat := pm_W_at (cy := cy) (rho := rho) (h := h) hal
      have hset : ∀ en, en = pm_E cy rho (pm_setR h a j.toNatClampNeg (some x)) (pm_sh sw a) a → (pm_W cy rho sw h).set a (rho a, en) = pm_W cy rho sw (pm_setR h a j.toNatClampNeg (some x)) := fun en hen => pm_W_set (pm_but_R _ _ _ _) hal hen
      have hsh := Nat.eq_of_beq_eq_true h4
      generalize pm_sh sw a = sh at *
      obtain ⟨sk, sn⟩ := sh
      dsimp only at hsh
      subst hsh
      have hO : va_O "QuietChecker$Kind" (rho x) A s s.heap := hKS.2.1 (x, "QuietChecker$Kind") (pm_kob_kind (Nat.le_of_ble_eq_true g1) (pm_blt g2))
      refine va_astqM hx hb hK hP hD hS a 5 hat rfl (pm_any hO hS) (pm_inb_vp h2) hdg (fun H1 locs1 hP1 hD1 hS1 => ?_)
      rw [hset _ (by
        show _ = Sum.inl (cy 5, sn, Sum.inr (Sum.inr (Sum.inr (Sum.inr (fun j' => (va_up h.2.2 a _ a j').map rho)))))
        rw [va_up_self]
        congr 7
        funext j'
        by_cases hj : j' = j.toNatClampNeg
        · subst hj; rw [va_up_self, va_up_self]; rfl
        · rw [va_up_ne _ _ hj, va_up_ne _ _ hj])] at hP1 hD1
      exact k H1 locs1 hP1 hD1 hS1
    · cases hr
  · cases hr
end PM5
end
section
/-! The run of the pure machine: steps, calls, answers -/
def pm_ret (i : Instr) (rt : Option FieldType) (S : List Value) : Option (Option Value) := match i with
  | .ireturn => match S with
    | [.int x] => (match rt with
      | some .int => some (some (.int x))
      | some .boolean => if x = 0 ∨ x = 1 then some (some (.int x)) else none
      | some .char => if vp_nar .char x = x then some (some (.int x)) else none
      | some .byte => if vp_nar .byte x = x then some (some (.int x)) else none
      | _ => none)
    | _ => none
  | .return_ => match S with
    | [] => (match rt with
      | none => some none
      | _ => none)
    | _ => none
  | .areturn => match S with
    | [.ref a] => (match rt with
      | some (.object _) => some (some (.ref a))
      | some (.array _) => some (some (.ref a))
      | _ => none)
    | _ => none
  | _ => none
/-- the receiver is an object of the method's class -/
def pm_rcv (sw : List (Nat × Nat)) (a o : Nat) : Bool := bif Nat.blt a 1000 then Nat.blt o 7 && pm_isO sw a o else (bif Nat.beq o 7 then Nat.blt a 1039 else (bif Nat.beq o 8 then Nat.ble 3000 a && Nat.blt a 3039 else false))
def pm_cats (S : List Value) : Nat := (S.map fun v => v.category).sum
/-- a call: the method, its arguments, the stack behind it -/
def pm_call (i : Instr) (sw : List (Nat × Nat)) (ow : Nat) (S : List Value) : Option (Nat × List Value × List Value) := match i with
  | .invokevirtual idx => match pm_iv ow idx with
    | some mj => (match S.drop (pm_np mj) with
      | .ref a :: S' => bif !pm_sc mj && (Nat.beq (S.take (pm_np mj)).length (pm_np mj) && (pm_rcv sw a (pm_ow mj) && (Nat.ble (pm_cats S') 8 && Nat.ble (lg_sl (.ref a :: (S.take (pm_np mj)).reverse)).length (pm_mx mj)))) then some (mj, .ref a :: (S.take (pm_np mj)).reverse, S') else none
      | _ => none)
    | none => none
  | .invokestatic idx => match pm_iv ow idx with
    | some mj => bif pm_sc mj && (Nat.beq (S.take (pm_np mj)).length (pm_np mj) && (Nat.ble (pm_cats (S.drop (pm_np mj))) 8 && Nat.ble (lg_sl (S.take (pm_np mj)).reverse).length (pm_mx mj))) then some (mj, (S.take (pm_np mj)).reverse, S.drop (pm_np mj)) else none
    | none => none
  | _ => none
abbrev pm_R : Type := (Nat × pm_L × List Value × pm_H) ⊕ (Option Value ⊕ (Nat × List Value × List Value))
def pm_step (sw : List (Nat × Nat)) (mi pc : Nat) (L : pm_L) (S : List Value) (h : pm_H) : Option pm_R := match pm_fd (pm_code mi) pc with
  | none => none
  | some i => match pm_push i L with
    | some v => some (.inl (pc + pm_ln i, L, v :: S, h))
    | none => match pm_ari i S with
      | some S' => some (.inl (pc + pm_ln i, L, S', h))
      | none => match pm_br i pc S with
        | some (pc', S') => some (.inl (pc', L, S', h))
        | none => match pm_sto i (pm_mx mi) L S with
          | some (L', S') => some (.inl (pc + pm_ln i, L', S', h))
          | none => match pm_read i sw (pm_ow mi) h S with
            | some S' => some (.inl (pc + pm_ln i, L, S', h))
            | none => match pm_write i sw (pm_ow mi) h S with
              | some (h', S') => some (.inl (pc + pm_ln i, L, S', h'))
              | none => match pm_ret i (pm_rt mi) S with
                | some v => some (.inr (.inl v))
                | none => match pm_call i sw (pm_ow mi) S with
                  | some q => some (.inr (.inr q))
                  | none => none
/-- System.arraycopy between two arrays of ints or of chars -/
def pm_isac (ow idx : Nat) : Bool := pm_acl.any (fun q => Nat.beq q.1 ow && Nat.beq q.2.1 idx)
def pm_cpfit (kd : Nat) (f : Nat → Int32) (sp n : Nat) : Bool := Nat.beq kd 1 || (Nat.beq kd 2 && (List.range n).all (fun i => fits .char (.int (f (sp + i)))))
def pm_cpy (i : Instr) (sw : List (Nat × Nat)) (ow : Nat) (h : pm_H) (S : List Value) : Option (pm_H × List Value) := match i with
  | .invokestatic idx => match S with
    | .int n :: .int dp :: .ref b :: .int sp :: .ref a :: S' => bif (pm_isac ow idx && (Nat.blt a sw.length && (Nat.blt b sw.length && Nat.beq (pm_sh sw a).1 (pm_sh sw b).1))) && ((!decide (sp < 0) && (!decide (dp < 0) && !decide (n < 0))) && ((Nat.ble (sp.toNatClampNeg + n.toNatClampNeg) (pm_sh sw a).2 && Nat.ble (dp.toNatClampNeg + n.toNatClampNeg) (pm_sh sw b).2) && (pm_cpfit (pm_sh sw a).1 (h.1 a) sp.toNatClampNeg n.toNatClampNeg && Nat.ble (pm_cats S') 8)))
        then some ((va_up h.1 b (va_cpy (h.1 a) (h.1 b) sp.toNatClampNeg dp.toNatClampNeg n.toNatClampNeg), h.2.1, h.2.2), S') else none
    | _ => none
  | _ => none
/-- calls that are answered by a contract of their own: StringLatin1.charAt on a spelling's bytes -/
def pm_prim (mj : Nat) (as : List Value) : Option Value := bif Nat.beq mj 167 then (match as with
  | [.ref a, .int j] => match pm_kb a with
    | some l => bif pm_inb j l.length then some (.int (l.getD j.toNatClampNeg 0)) else none
    | none => none
  | _ => none) else none
/-- n steps at most, d calls deep at most -/
def pm_run (sw : List (Nat × Nat)) : Nat → Nat → Nat → Nat → pm_L → List Value → pm_H → Option (Option Value × pm_H)
  | 0, _, _, _, _, _, _ => none
  | n + 1, d, mi, pc, L, S, h => match pm_step sw mi pc L S h with
    | none => match pm_fd (pm_code mi) pc with
      | none => none
      | some i => match pm_cpy i sw (pm_ow mi) h S with
        | none => none
        | some (h', S') => bif Nat.blt 0 d then pm_run sw n d mi (pc + 3) L S' h' else none
    | some (.inl (pc', L', S', h')) => pm_run sw n d mi pc' L' S' h'
    | some (.inr (.inl v)) => some (v, h)
    | some (.inr (.inr (mj, as, S'))) => match d with
      | 0 => none
      | d' + 1 => match pm_prim mj as with
        | some v => bif Nat.ble 4 d' then pm_run sw n (d' + 1) mi (pc + 3) L (v :: S') h else none
        | none => match pm_run sw n d' mj 0 (lv_args 0 as) [] h with
          | none => none
          | some (v, h') => pm_run sw n (d' + 1) mi (pc + 3) L (v.toList ++ S') h'
set_option maxRecDepth 100000 in
theorem pm_ac_all : pm_acl.all (fun q => pm_inG q.2.2 (Cond.methodLink (pm_on q.1) q.2.1 arraycopyName)) = true := by decide +kernel
set_option maxRecDepth 100000 in
theorem pm_ac_w : (pm_inG pm_acp.1 (Cond.native arraycopyName) && (pm_inG pm_acp.2.1 (Cond.static arraycopyName) && pm_inG pm_acp.2.2 (Cond.initialized "java/lang/System"))) = true := by decide +kernel
def pm_rm (d : Nat) : Room := { frames := d, cells := 0, slots := 0, locals := d * 40 }
set_option maxRecDepth 100000 in
theorem pm_iv_all : (List.range 13).all (fun o => (pm_ivl.getD o []).all (fun e => Nat.blt e.2.1 173 && pm_inG e.2.2 (Cond.methodLink (pm_on o) e.1 (pm_nm e.2.1)))) = true := by decide +kernel
/-- the words on a method, by their places -/
def pm_mA (mj : Nat) : Bool := bif pm_sc mj then pm_inG (pm_mp.getD mj (0, 0, 0, 0)).2.1 (Cond.static (pm_nm mj)) else (pm_inG (pm_mp.getD mj (0, 0, 0, 0)).2.1 (Cond.instanceMethod (pm_nm mj)) && pm_inG (pm_mp.getD mj (0, 0, 0, 0)).2.2.1 (Cond.selects (pm_on (pm_ow mj)) (pm_nm mj) (pm_nm mj)))
set_option maxRecDepth 100000 in
theorem pm_mA_1 : (List.range 64).all pm_mA = true := by decide +kernel
set_option maxRecDepth 100000 in
theorem pm_mA_2 : (List.range 109).all (fun k => pm_mA (64 + k)) = true := by decide +kernel
set_option maxRecDepth 100000 in
theorem pm_mB : (List.range 173).all (fun mj => pm_inG (pm_mp.getD mj (0, 0, 0, 0)).2.2.2 (Cond.initialized (pm_on (pm_ow mj)))) = true := by decide +kernel
set_option maxRecDepth 100000 in
theorem pm_mC : (List.range 173).all (fun mj => decide ((pm_nm mj).cls = pm_on (pm_ow mj))) = true := by decide +kernel
set_option maxRecDepth 100000 in
theorem pm_mD : (List.range 173).all (fun mj => decide ((parseMethodDescriptor (pm_nm mj).desc).map (fun d => d.parameters.length) = some (pm_np mj))) = true := by decide +kernel
set_option maxRecDepth 100000 in
theorem pm_mE : (List.range 173).all (fun mj => plainFor (pm_nm mj)) = true := by decide +kernel
set_option maxRecDepth 100000 in
theorem pm_mF : (List.range 173).all (fun mj => Nat.ble (pm_mx mj) 20) = true := by decide +kernel
set_option maxRecDepth 100000 in
theorem pm_mG : (List.range 173).all (fun mj => decide ((pm_nm mj).cls ≠ "java/lang/invoke/MethodHandle") && decide ((pm_nm mj).cls ≠ "java/lang/invoke/VarHandle")) = true := by decide +kernel
set_option maxRecDepth 100000 in
theorem pm_mH : (List.range 173).map (fun mj => lw_tbl[(pm_mp.getD mj (0, 0, 0, 0)).1]?) = (List.range 173).map (fun mj => some (Cond.code (pm_nm mj) (pm_by mj) (pm_mx mj) (pm_rt mj))) := by rfl
end
section
/-! THE RUN IS SOUND: what the pure machine answers, the machine answers -/
theorem pm_G_all {mj : Nat} (h : mj < 173) : Cond.code (pm_nm mj) (pm_by mj) (pm_mx mj) (pm_rt mj) ∈ pm_G := by
  have h1 : ((List.range 173).map (fun mj => lw_tbl[(pm_mp.getD mj (0, 0, 0, 0)).1]?))[mj]? = ((List.range 173).map (fun mj => some (Cond.code (pm_nm mj) (pm_by mj) (pm_mx mj) (pm_rt mj))))[mj]? := by rw [pm_mH]
  rw [List.getElem?_map, List.getElem?_map, List.getElem?_range h] at h1
  have h2 : lw_tbl[(pm_mp.getD mj (0, 0, 0, 0)).1]? = some (Cond.code (pm_nm mj) (pm_by mj) (pm_mx mj) (pm_rt mj)) := Option.some.inj h1
  exact List.mem_filter.mpr ⟨List.mem_of_getElem? h2, rfl⟩
theorem pm_mA_at {mj : Nat} (h : mj < 173) : pm_mA mj = true := by
  rcases Nat.lt_or_ge mj 64 with h1 | h1
  · exact List.all_eq_true.mp pm_mA_1 mj (List.mem_range.mpr h1)
  · have h2 := List.all_eq_true.mp pm_mA_2 (mj - 64) (List.mem_range.mpr (by omega))
    rw [show 64 + (mj - 64) = mj by omega] at h2
    exact h2
theorem pm_iv_ok {o idx mj : Nat} (h : pm_iv o idx = some mj) : mj < 173 ∧ Cond.methodLink (pm_on o) idx (pm_nm mj) ∈ pm_G := by
  obtain ⟨p, hp⟩ := pm_f3_mem h
  have h1 := List.all_eq_true.mp (List.all_eq_true.mp pm_iv_all o (List.mem_range.mpr (pm_own12 (by rfl) hp))) _ hp
  obtain ⟨h2, h3⟩ := Bool.and_eq_true_iff.mp h1
  exact ⟨pm_blt h2, pm_mem h3⟩
theorem pm_good_G : ∀ w ∈ pm_G, (w.onTables && w.keeps) = true ∨ ∃ ty, w = .arrayClass ty := fun w hw => good_of_word (List.mem_filter.mp hw).2
theorem pm_goodIn {mi mj : Nat} (hj : mj < 173) : GoodIn (pm_ws mi) (pm_ws mj) := by
  intro w hw
  have hw2 : w ∈ pm_G := by
    rcases List.mem_cons.mp hw with rfl | h1
    · exact pm_G_all hj
    · exact h1
  exact ⟨List.mem_cons_of_mem _ hw2, pm_good_G w hw2⟩
theorem pm_args_c (rho : Nat → Nat) : ∀ (as : List Value) (k : Nat), lv_args k (pm_cS rho as) = pm_cL rho (lv_args k as) := by
  intro as
  induction as with
  | nil => intro k; rfl
  | cons v as ih =>
    intro k
    show (k, pm_cv rho v) :: lv_args (if (pm_cv rho v).category = 2 then k + 2 else k + 1) (pm_cS rho as) = (k, pm_cv rho v) :: pm_cL rho (lv_args (if v.category = 2 then k + 2 else k + 1) as)
    rw [pm_cv_cat, ih]
theorem pm_sl_len (rho : Nat → Nat) (as : List Value) : (lg_sl (pm_cS rho as)).length = (lg_sl as).length := by
  induction as with
  | nil => rfl
  | cons v as ih =>
    unfold lg_sl pm_cS at *
    rw [List.map_cons, List.flatMap_cons, List.flatMap_cons, List.length_append, List.length_append, ih, pm_cv_cat]
    split <;> rfl
theorem pm_cats_c (rho : Nat → Nat) (S : List Value) : ((pm_cS rho S).map fun v => v.category).sum = pm_cats S := by
  unfold pm_cS pm_cats
  rw [List.map_map]
  congr 1
  apply List.map_congr_left
  intro v _
  exact pm_cv_cat rho v
theorem pm_ofW {l : Launch} {y : MethodName} {ws ws' : List Cond} {rm : Room} {Pc : Array Value → State → Prop} {Qc : Array Value → State → Outcome → State → Prop} {mc ms : Nat} {free : Addr → Prop} {cc : ByteArray} {maxL : Nat} {ret : Option FieldType}
    (hy : plainFor y = true) (hw : ws = Cond.code y cc maxL ret :: ws')
    (body : ∀ p e s m args below meth c s₁, BodyLoose p l y (headSpec ws rm) cc maxL ret e s m args below meth c s₁ → c.maxLocals = maxL → Pc args s →
      W p l e (headSpec ws rm).room s m args below meth c s.heap [] 0 0 (MQ below Qc args s mc ms free) (entryFrame m args maxL)) : Met l y ws rm Pc Qc mc ms free := by
  refine MetFree.of_bodySF (code := cc) (maxLocals := maxL) (ret := ret) hy ?_ ?_
  · intro args s m h hn
    obtain ⟨meth, c, h1, h2, h3, h4, h5, h6, -, -⟩ := Cond.code_spec hn (atoms_spec (ws := ws) h _ (by rw [hw]; exact List.mem_cons_self))
    exact ⟨meth, c, h1, h2, h3, h4, h5, h6⟩
  · intro p e s m args below meth c s₁ B hml hP _
    have hh0 : s₁.heap = s.heap := by rw [B.state]; rfl
    obtain ⟨t, a1, o, b1, b2, b3⟩ := body p e s m args below meth c s₁ B hml hP s₁ hh0 (Stand.of_body B)
    exact ⟨t, o, a1, b1, b2, ⟨b3.1, b3.2⟩⟩
/-- the state before a call: the world of h, and what the constants are -/
def pm_B (rho : Nat → Nat) (D : va_G) (cy : Nat → ClassId) (sw : List (Nat × Nat)) (h : pm_H) (sz : Nat) (U : State) : Prop :=
  U.heap.size = sz ∧ va_P D pm_cl (pm_W cy rho sw h) U.heap ∧ va_K D pm_cl (pm_tys cy) U ∧ va_D (fun _ => True) (pm_W cy rho sw h) ∧ pm_KS rho (va_A (pm_W cy rho sw h) sz) U U.heap
/-- and behind it: the answer, the world of h', nothing else written -/
def pm_Q (rho : Nat → Nat) (D : va_G) (cy : Nat → ClassId) (sw : List (Nat × Nat)) (h : pm_H) (sz : Nat) (v : Option Value) (h' : pm_H) : Array Value → State → Outcome → State → Prop := fun _ st o t =>
  o = .returned (v.map (pm_cv rho)) ∧ (va_P D pm_cl (pm_W cy rho sw h') t.heap ∧ va_D (va_A (pm_W cy rho sw h) sz) (pm_W cy rho sw h')) ∧ va_F (va_A (pm_W cy rho sw h) sz) st t
section PM6
variable {p : Program} {l : Launch} {e : Env} {R : Room} {s : State} {m : MethodId} {args : Array Value} {below : List Frame} {meth : Method} {c : Code} {H : Heap} {locs : List Loc} {cells slots : Nat} {Q : State → Prop} {pc : Nat} {ls : Array Slot} {rest st0 : List Value} {A0 A1 : Nat → Prop} {H0 : Heap} {free : Addr → Prop}
theorem pm_callk {Qa : State → Outcome → State → Prop} {B : State → Prop} {v0 : Option Value} (hr : va_Run p l e R s m args below meth c H locs cells slots 0 0 (F0 m pc ls st0) rest Qa free) (hQ : ∀ (st : State) (v : Option Value) (t : State), Qa st (.returned v) t → v = v0 ∧ B t ∧ va_F A1 st t) (hS : va_S A0 H0 H locs) (hA : ∀ q, q < H.size → A1 q → A0 q) (hf : ∀ q, free q → A0 q)
    (kk : ∀ (t : State) (locs1 : List Loc), B t → va_S A0 H0 t.heap locs1 → W p l e R s m args below meth c t.heap locs1 cells slots Q (F0 m (pc + 3) ls (v0.toList ++ rest))) : W p l e R s m args below meth c H locs cells slots Q (F0 m pc ls st0) := by
  intro T hT X
  obtain ⟨v, st₀, t, T', L, h0, X', hL, e1, e2, hq, st⟩ := hr T hT X
  obtain ⟨rfl, hb, hz, hk⟩ := hQ st₀ v t hq
  rw [h0] at hz hk
  obtain ⟨t2, a1, b1⟩ := kk t (locs ++ L) hb
    ⟨Nat.le_trans hS.1 hz, fun q h1 h2 => by rw [hk q (Nat.lt_of_lt_of_le h1 hS.1) (fun z => h2 (hA q (Nat.lt_of_lt_of_le h1 hS.1) z))]; exact hS.2.1 q h1 h2, fun q hq => by
      rcases List.mem_append.mp hq with h | h
      · exact hS.2.2 q h
      · exact hf _ (hL q h)⟩ T' e1 X'
  exact ⟨t2, st t2 a1, b1⟩
end PM6
theorem pm_cS_app (rho : Nat → Nat) (a b : List Value) : pm_cS rho (a ++ b) = pm_cS rho a ++ pm_cS rho b := List.map_append
theorem pm_cS_rev (rho : Nat → Nat) (a : List Value) : pm_cS rho a.reverse = (pm_cS rho a).reverse := List.map_reverse
theorem pm_toList_c (rho : Nat → Nat) (v : Option Value) : (v.map (pm_cv rho)).toList = pm_cS rho v.toList := by cases v <;> rfl
section PM7
variable {l : Launch} {rho : Nat → Nat} {D : va_G} {cy : Nat → ClassId} {sw : List (Nat × Nat)}
/-- one method's body from a place on -/
def pm_Bd (l : Launch) (rho : Nat → Nat) (D : va_G) (cy : Nat → ClassId) (sw : List (Nat × Nat)) (n : Nat) : Prop :=
  ∀ (d mi pc : Nat) (L : pm_L) (S : List Value) (h : pm_H) (v : Option Value) (h' : pm_H), pm_run sw n d mi pc L S h = some (v, h') → mi < 173 →
  ∀ (p : Program) (e : Env) (s : State) (m : MethodId) (args : Array Value) (below : List Frame) (meth : Method) (c : Code) (H : Heap) (locs : List Loc) (ls : Array Slot) (A : Nat → Prop) (Qc : Array Value → State → Outcome → State → Prop),
  p.tables.exec = Jvm.exec → c.code = pm_by mi → c.maxLocals = pm_mx mi → s.vm.findClass (pm_on (pm_ow mi)) = some m.cls → (∀ w ∈ pm_ws mi, w.before args s = true) → meth.sig.returnType = pm_rt mi → meth.locks = false →
  va_K D pm_cl (pm_tys cy) s → va_P D pm_cl (pm_W cy rho sw h) H → va_D A (pm_W cy rho sw h) → va_S A s.heap H locs → (∀ q, s.heap.size ≤ q → A q) → pm_KS rho A s s.heap → lv_has ls (pm_mx mi) (pm_cL rho L) →
  (∀ (t : State) (locs1 : List Loc), s.WarmedH t.vm → va_P D pm_cl (pm_W cy rho sw h') t.heap → va_D A (pm_W cy rho sw h') → va_S A s.heap t.heap locs1 → Qc args s (.returned (v.map (pm_cv rho))) t) →
  W p l e (pm_rm d) s m args below meth c H locs 0 0 (MQ below Qc args s 0 0 A) (F0 m pc ls (pm_cS rho S))
theorem pm_met_of {n d mj : Nat} {as : List Value} {h h' : pm_H} {v : Option Value} (hB : pm_Bd l rho D cy sw n) (hrun : pm_run sw n d mj 0 (lv_args 0 as) [] h = some (v, h')) (hj : mj < 173) (hfit : (lg_sl as).length ≤ pm_mx mj) (sz : Nat) :
    Met l (pm_nm mj) (pm_ws mj) (pm_rm d) (va_Pc (pm_cS rho as) (pm_B rho D cy sw h sz)) (pm_Q rho D cy sw h sz v h') 0 0 (va_A (pm_W cy rho sw h) sz) := by
  have hfor : plainFor (pm_nm mj) = true := List.all_eq_true.mp pm_mE mj (List.mem_range.mpr hj)
  refine pm_ofW (cc := pm_by mj) (maxL := pm_mx mj) (ret := pm_rt mj) hfor rfl ?_
  intro p e s m args below meth c s₁ B hml hv
  obtain ⟨rfl, rfl, hP, hK, hD0, hKS⟩ := hv
  have hcls : (pm_nm mj).cls = pm_on (pm_ow mj) := of_decide_eq_true (List.all_eq_true.mp pm_mC mj (List.mem_range.mpr hj))
  have hown : s.vm.findClass (pm_on (pm_ow mj)) = some m.cls := by
    rw [← hcls]
    exact findClass_of_methodNamed B.named
  have hl := lv_entry (pm_cS rho as) (n := pm_mx mj) (by rw [pm_sl_len]; exact hfit)
  rw [pm_args_c] at hl
  rw [lg_entry_eq]
  refine hB d mj 0 (lv_args 0 as) [] h v h' hrun hj p e s m _ below meth c s.heap [] _ (va_A (pm_W cy rho sw h) s.heap.size) _ B.exec B.bytes hml hown (atoms_spec (ws := pm_ws mj) B.pre) B.returns B.notSynchronized hK hP hD0.self va_S.rf (fun q hq => Or.inr hq) hKS hl ?_
  intro t locs1 _ hP1 hD1 hS1
  exact ⟨rfl, ⟨hP1, hD1⟩, hS1.F rfl⟩
end PM7
end
section
section PM8
variable {l : Launch} {rho : Nat → Nat} {D : va_G} {cy : Nat → ClassId} {sw : List (Nat × Nat)}
theorem pm_not {b : Bool} (h : (!b) = true) : b = false := by cases b with | false => rfl | true => cases h
theorem pm_cpy_snd {p : Program} {e : Env} {R : Room} {s : State} {m : MethodId} {args : Array Value} {below : List Frame} {meth : Method} {c : Code} {H : Heap} {locs : List Loc} {cells slots : Nat} {Q : State → Prop} {cc : ByteArray} {pc : Nat} {ls : Array Slot} {S S' : List Value} {h h' : pm_H} {A : Nat → Prop} {Ts : List Cond} {ow : Nat} (hx : p.tables.exec = Jvm.exec) (hb : c.code = cc) (hml : c.maxLocals = ls.size) (hts : ∀ w ∈ Ts, w.before args s = true) (hG : ∀ w ∈ pm_G, w ∈ Ts) (hown : s.vm.findClass (pm_on ow) = some m.cls) (hK : va_K D pm_cl (pm_tys cy) s) (hP : va_P D pm_cl (pm_W cy rho sw h) H) (hD : va_D A (pm_W cy rho sw h)) (hS : va_S A s.heap H locs) (hR : 1 ≤ R.frames ∧ 40 ≤ R.locals)
    {i : Instr} (hdg : decode cc pc = .ok (i, pm_ln i)) (hr : pm_cpy i sw ow h S = some (h', S'))
    (k : ∀ (H1 : Heap) (locs1 : List Loc), va_P D pm_cl (pm_W cy rho sw h') H1 → va_D A (pm_W cy rho sw h') → va_S A s.heap H1 locs1 → W p l e R s m args below meth c H1 locs1 cells slots Q (F0 m (pc + 3) ls (pm_cS rho S'))) : W p l e R s m args below meth c H locs cells slots Q (F0 m pc ls (pm_cS rho S)) := by
  unfold pm_cpy at hr
  split at hr
  · split at hr
    · rename_i idx _ n dp b sp a S1
      obtain ⟨hg, he⟩ := pm_bif hr
      cases he
      obtain ⟨g1, g2⟩ := Bool.and_eq_true_iff.mp hg
      obtain ⟨g3, g4⟩ := Bool.and_eq_true_iff.mp g1
      obtain ⟨g5, g6⟩ := Bool.and_eq_true_iff.mp g4
      obtain ⟨g7, g8⟩ := Bool.and_eq_true_iff.mp g6
      obtain ⟨g9, g10⟩ := Bool.and_eq_true_iff.mp g2
      obtain ⟨g11, g12⟩ := Bool.and_eq_true_iff.mp g9
      obtain ⟨g13, g14⟩ := Bool.and_eq_true_iff.mp g12
      obtain ⟨g15, g16⟩ := Bool.and_eq_true_iff.mp g10
      obtain ⟨g17, g18⟩ := Bool.and_eq_true_iff.mp g15
      obtain ⟨g19, g20⟩ := Bool.and_eq_true_iff.mp g16
      have g11 := of_decide_eq_false (pm_not g11)
      have g13 := of_decide_eq_false (pm_not g13)
      have g14 := of_decide_eq_false (pm_not g14)
      have g20 := Nat.le_of_ble_eq_true g20
      have hal := pm_blt g5
      have hbl := pm_blt g7
      have hsh := Nat.eq_of_beq_eq_true g8
      obtain ⟨q, hq1, hq2⟩ := List.any_eq_true.mp g3
      obtain ⟨hq3, hq4⟩ := Bool.and_eq_true_iff.mp hq2
      have hq3 := Nat.eq_of_beq_eq_true hq3
      have hq4 := Nat.eq_of_beq_eq_true hq4
      have hlink : Cond.methodLink (pm_on ow) idx arraycopyName ∈ pm_G := by
        have := pm_mem (List.all_eq_true.mp pm_ac_all q hq1)
        rw [hq3, hq4] at this
        exact this
      obtain ⟨w1, w2⟩ := Bool.and_eq_true_iff.mp pm_ac_w
      obtain ⟨w3, w4⟩ := Bool.and_eq_true_iff.mp w2
      have ha := pm_W_at (cy := cy) (rho := rho) (h := h) hal
      have hb' := pm_W_at (cy := cy) (rho := rho) (h := h) hbl
      have hbut : pm_but b h (va_up h.1 b (va_cpy (h.1 a) (h.1 b) sp.toNatClampNeg dp.toNatClampNeg n.toNatClampNeg), h.2.1, h.2.2) := fun j hj => ⟨va_up_ne _ _ hj, rfl, rfl⟩
      have hset : ∀ en, en = pm_E cy rho (va_up h.1 b (va_cpy (h.1 a) (h.1 b) sp.toNatClampNeg dp.toNatClampNeg n.toNatClampNeg), h.2.1, h.2.2) (pm_sh sw b) b → (pm_W cy rho sw h).set b (rho b, en) = pm_W cy rho sw (va_up h.1 b (va_cpy (h.1 a) (h.1 b) sp.toNatClampNeg dp.toNatClampNeg n.toNatClampNeg), h.2.1, h.2.2) := fun en hen => pm_W_set hbut hbl hen
      have hloc : ((pm_cS rho S').map fun v => v.category).sum + (nativeFrameWords "java/lang/System" "arraycopy" 5 + 11) ≤ R.locals := by
        rw [pm_cats_c]
        have : nativeFrameWords "java/lang/System" "arraycopy" 5 = 7 := by decide
        rw [this]
        omega
      generalize pm_sh sw a = sha at *
      generalize pm_sh sw b = shb at *
      obtain ⟨ka, na⟩ := sha
      obtain ⟨kb, nb⟩ := shb
      dsimp only at hsh g17 g18 g19
      subst hsh
      rcases Bool.or_eq_true_iff.mp g19 with hk | hk
      · have hk := Nat.eq_of_beq_eq_true hk
        subst hk
        refine va_copyi hx hb hml hown (hts _ (hG _ hlink)) (hts _ (hG _ (pm_mem w1))) (hts _ (hG _ (pm_mem w3))) (hts _ (hG _ (pm_mem w4))) hK hP hD hS a b 1 1 ha hb' rfl rfl rfl g11 g13 g14 (Nat.le_of_ble_eq_true g17) (Nat.le_of_ble_eq_true g18) (fun _ _ => rfl) hR.1 hloc hdg (fun H1 locs1 hP1 hD1 hS1 => ?_)
        rw [hset _ (by show _ = Sum.inl (cy 1, nb, Sum.inl (va_up h.1 b _ b)); rw [va_up_self])] at hP1 hD1
        exact k H1 locs1 hP1 hD1 hS1
      · obtain ⟨hk, hfit⟩ := Bool.and_eq_true_iff.mp hk
        have hk := Nat.eq_of_beq_eq_true hk
        subst hk
        refine va_copyi hx hb hml hown (hts _ (hG _ hlink)) (hts _ (hG _ (pm_mem w1))) (hts _ (hG _ (pm_mem w3))) (hts _ (hG _ (pm_mem w4))) hK hP hD hS a b 2 2 ha hb' rfl rfl rfl g11 g13 g14 (Nat.le_of_ble_eq_true g17) (Nat.le_of_ble_eq_true g18) (fun i hi => List.all_eq_true.mp hfit i (List.mem_range.mpr hi)) hR.1 hloc hdg (fun H1 locs1 hP1 hD1 hS1 => ?_)
        rw [hset _ (by show _ = Sum.inl (cy 2, nb, Sum.inl (va_up h.1 b _ b)); rw [va_up_self])] at hP1 hD1
        exact k H1 locs1 hP1 hD1 hS1
    · cases hr
  · cases hr
theorem pm_rcv_t {s : State} {H : Heap} {locs : List Loc} {A : Nat → Prop} {h : pm_H} {a o : Nat} (hr : pm_rcv sw a o = true) (hK : va_K D pm_cl (pm_tys cy) s) (hP : va_P D pm_cl (pm_W cy rho sw h) H) (hS : va_S A s.heap H locs) (hKS : pm_KS rho A s s.heap) : ∃ cell : Cell, H[rho a]? = some cell ∧ cell.vm.isStatics = false ∧ s.vm.findClass (pm_on o) = some cell.cls := by
  unfold pm_rcv at hr
  cases ha : Nat.blt a 1000 with
  | true =>
    rw [ha] at hr
    obtain ⟨h1, h2⟩ := Bool.and_eq_true_iff.mp hr
    have ho := pm_blt h1
    obtain ⟨hal, hsh⟩ := pm_isO_t h2
    have h3 := va_recv hK hP (pm_cl_at ho) ((pm_W_at hal).trans (by rw [pm_E_O hsh]))
    have h4 : (pm_clN o).1 = pm_on o := by
      match o, ho with
      | 0, _ => rfl
      | 1, _ => rfl
      | 2, _ => rfl
      | 3, _ => rfl
      | 4, _ => rfl
      | 5, _ => rfl
      | 6, _ => rfl
    rw [h4] at h3
    exact h3
  | false =>
    rw [ha] at hr
    dsimp only [cond] at hr
    cases ho : Nat.beq o 7 with
    | false =>
      rw [ho] at hr
      dsimp only [cond] at hr
      cases ho8 : Nat.beq o 8 with
      | false => rw [ho8] at hr; cases hr
      | true =>
        rw [ho8] at hr
        have ho8 := Nat.eq_of_beq_eq_true ho8
        subst ho8
        obtain ⟨g1, g2⟩ := Bool.and_eq_true_iff.mp hr
        obtain ⟨cell, q1, q2, q3, q4⟩ := (hKS.2.1 (a, "java/lang/String") (pm_kob_str (Nat.le_of_ble_eq_true g1) (pm_blt g2))).kept hS.2.1
        exact ⟨cell, q1, q2, q3⟩
    | true =>
      rw [ho] at hr
      have ho := Nat.eq_of_beq_eq_true ho
      subst ho
      have h1 : 1000 ≤ a := by
        rcases Nat.lt_or_ge a 1000 with h | h
        · have : Nat.blt a 1000 = true := Nat.ble_eq_true_of_le h
          rw [this] at ha
          cases ha
        · exact h
      obtain ⟨cell, q1, q2, q3, q4⟩ := (hKS.2.1 (a, "QuietChecker$Kind") (pm_kob_kind h1 (pm_blt hr))).kept hS.2.1
      exact ⟨cell, q1, q2, q3⟩
theorem pm_blind {as : List Value} {h : pm_H} {sz : Nat} : FrameBlind (va_Pc (pm_cS rho as) (pm_B rho D cy sw h sz)) := by
  intro a U g mk q
  obtain ⟨h1, h2, h3, h4, h5, h6⟩ := q
  exact ⟨h1, h2, h3, va_K.moved (u := U) (U := U.calling g mk a) (Vm.Alike.refl U.vm) h4, h5, pm_KS.moved (u := U) (U := U.calling g mk a) (Vm.Alike.refl U.vm) h6⟩
set_option maxHeartbeats 4000000 in
theorem pm_body (hinj : ∀ a b, pm_kc a = true → pm_kc b = true → rho a = rho b → a = b) (hprim : ∀ (mj : Nat) (as : List Value) (v : Value), pm_prim mj as = some v → ∀ (h : pm_H) (sz : Nat), Met l (pm_nm mj) (pm_ws mj) (pm_rm 4) (va_Pc (pm_cS rho as) (pm_B rho D cy sw h sz)) (pm_Q rho D cy sw h sz (some v) h) 0 0 (va_A (pm_W cy rho sw h) sz)) : ∀ n, pm_Bd l rho D cy sw n := by
  intro n
  induction n with
  | zero => intro d mi pc L S h v h' hrun; cases hrun
  | succ n ih =>
    intro d mi pc L S h v h' hrun hmi p e s m args below meth c H locs ls A Qc hx hb hml hown hts hrt hlk hK hP hD hS hA hKS hl hQ
    unfold pm_run at hrun
    have hG : ∀ w ∈ pm_G, w ∈ pm_ws mi := fun w hw => List.mem_cons_of_mem _ hw
    cases hst : pm_step sw mi pc L S h with
    | none =>
      rw [hst] at hrun
      dsimp only at hrun
      cases hfd : pm_fd (pm_code mi) pc with
      | none => rw [hfd] at hrun; cases hrun
      | some i =>
        rw [hfd] at hrun
        dsimp only at hrun
        obtain ⟨len, hdec, hlen⟩ := pm_decode hfd
        cases h9 : pm_cpy i sw (pm_ow mi) h S with
        | none => rw [h9] at hrun; cases hrun
        | some q =>
          obtain ⟨h9', S1⟩ := q
          rw [h9] at hrun
          dsimp only at hrun
          cases hd : Nat.blt 0 d with
          | false => rw [hd] at hrun; cases hrun
          | true =>
            rw [hd] at hrun
            have hd := pm_blt hd
            have hdg : decode (pm_by mi) pc = .ok (i, pm_ln i) := by
              rcases hlen with h1 | h1
              · unfold pm_cpy at h9; split at h9 <;> first | cases h1 | cases h9
              · rw [hdec, h1]
            exact pm_cpy_snd hx hb (hml.trans hl.1.symm) hts hG hown hK hP hD hS ⟨hd, by show 40 ≤ d * 40; omega⟩ hdg h9 (fun H1 locs1 hP1 hD1 hS1 => ih _ _ _ _ _ _ _ _ hrun hmi p e s m args below meth c H1 locs1 ls A Qc hx hb hml hown hts hrt hlk hK hP1 hD1 hS1 hA hKS hl hQ)
    | some r =>
      rw [hst] at hrun
      unfold pm_step at hst
      cases hfd : pm_fd (pm_code mi) pc with
      | none => rw [hfd] at hst; cases hst
      | some i =>
        rw [hfd] at hst
        dsimp only at hst
        obtain ⟨len, hdec, hlen⟩ := pm_decode hfd
        have hd1 : pm_ln i ≠ 0 → decode (pm_by mi) pc = .ok (i, pm_ln i) := fun z => by
          rcases hlen with h1 | h1
          · exact absurd h1 z
          · rw [hdec, h1]
        cases h1 : pm_push i L with
        | some v1 =>
          rw [h1] at hst
          cases hst
          exact pm_push_snd hx hb (hd1 (fun z => by unfold pm_push at h1; split at h1 <;> first | cases z | cases h1)) hl h1 (ih _ _ _ _ _ _ _ _ hrun hmi p e s m args below meth c H locs ls A Qc hx hb hml hown hts hrt hlk hK hP hD hS hA hKS hl hQ)
        | none =>
          rw [h1] at hst
          dsimp only at hst
          cases h2 : pm_ari i S with
          | some S1 =>
            rw [h2] at hst
            cases hst
            exact pm_ari_snd hx hb (hd1 (fun z => by unfold pm_ari at h2; split at h2 <;> first | cases z | cases h2)) h2 (ih _ _ _ _ _ _ _ _ hrun hmi p e s m args below meth c H locs ls A Qc hx hb hml hown hts hrt hlk hK hP hD hS hA hKS hl hQ)
          | none =>
            rw [h2] at hst
            dsimp only at hst
            cases h3 : pm_br i pc S with
            | some q =>
              obtain ⟨pc1, S1⟩ := q
              rw [h3] at hst
              cases hst
              exact pm_br_snd hx hb hdec hlen hinj h3 (ih _ _ _ _ _ _ _ _ hrun hmi p e s m args below meth c H locs ls A Qc hx hb hml hown hts hrt hlk hK hP hD hS hA hKS hl hQ)
            | none =>
              rw [h3] at hst
              dsimp only at hst
              cases h4 : pm_sto i (pm_mx mi) L S with
              | some q =>
                obtain ⟨L1, S1⟩ := q
                rw [h4] at hst
                cases hst
                exact pm_sto_snd hx hb (hd1 (fun z => by unfold pm_sto at h4; split at h4 <;> first | cases z | cases h4)) hl h4 (fun ls' hl' => ih _ _ _ _ _ _ _ _ hrun hmi p e s m args below meth c H locs ls' A Qc hx hb hml hown hts hrt hlk hK hP hD hS hA hKS hl' hQ)
              | none =>
                rw [h4] at hst
                dsimp only at hst
                cases h5 : pm_read i sw (pm_ow mi) h S with
                | some S1 =>
                  rw [h5] at hst
                  cases hst
                  exact pm_read_snd hx hb hts hG hown hK hP hS hKS (hd1 (pm_read_ln h5)) h5 (ih _ _ _ _ _ _ _ _ hrun hmi p e s m args below meth c H locs ls A Qc hx hb hml hown hts hrt hlk hK hP hD hS hA hKS hl hQ)
                | none =>
                  rw [h5] at hst
                  dsimp only at hst
                  cases h6 : pm_write i sw (pm_ow mi) h S with
                  | some q =>
                    obtain ⟨h1', S1⟩ := q
                    rw [h6] at hst
                    cases hst
                    exact pm_write_snd hx hb hts hG hown hK hP hD hS hKS (hd1 (fun z => by unfold pm_write at h6; split at h6 <;> first | cases z | cases h6)) h6 (fun H1 locs1 hP1 hD1 hS1 => ih _ _ _ _ _ _ _ _ hrun hmi p e s m args below meth c H1 locs1 ls A Qc hx hb hml hown hts hrt hlk hK hP1 hD1 hS1 hA hKS hl hQ)
                  | none =>
                    rw [h6] at hst
                    dsimp only at hst
                    cases h7 : pm_ret i (pm_rt mi) S with
                    | some w =>
                      rw [h7] at hst
                      cases hst
                      cases hrun
                      have hdg := hd1 (fun z => by unfold pm_ret at h7; split at h7 <;> first | cases z | cases h7)
                      unfold pm_ret at h7
                      split at h7
                      · split at h7
                        · split at h7
                          · rename_i x _ ert
                            cases h7
                            exact W.iret hx hb (hrt.trans ert) (fun t ht hW => hQ t locs hW (by rw [ht]; exact hP) hD (by rw [ht]; exact hS)) hS.2.2 hdg hlk
                          · rename_i x _ ert
                            split at h7
                            · rename_i h01
                              cases h7
                              exact W.zret hx hb (hrt.trans ert) (by rcases h01 with rfl | rfl <;> decide) (fun t ht hW => hQ t locs hW (by rw [ht]; exact hP) hD (by rw [ht]; exact hS)) hS.2.2 hdg hlk
                            · cases h7
                          · rename_i x _ ert
                            split at h7
                            · rename_i hch
                              cases h7
                              exact W.zret hx hb (hrt.trans ert) (by show Value.int (vp_nar .char x) = _; rw [hch]) (fun t ht hW => hQ t locs hW (by rw [ht]; exact hP) hD (by rw [ht]; exact hS)) hS.2.2 hdg hlk
                            · cases h7
                          · rename_i x _ ert
                            split at h7
                            · rename_i hch
                              cases h7
                              exact W.zret hx hb (hrt.trans ert) (by show Value.int (vp_nar .byte x) = _; rw [hch]) (fun t ht hW => hQ t locs hW (by rw [ht]; exact hP) hD (by rw [ht]; exact hS)) hS.2.2 hdg hlk
                            · cases h7
                          · cases h7
                        · cases h7
                      · split at h7
                        · split at h7
                          · rename_i _ ert
                            cases h7
                            exact W.vret hx hb (hrt.trans ert) (fun t ht hW => hQ t locs hW (by rw [ht]; exact hP) hD (by rw [ht]; exact hS)) hS.2.2 hdg hlk
                          · cases h7
                        · cases h7
                      · split at h7
                        · split at h7
                          · rename_i a _ nm ert
                            cases h7
                            exact W.aret hx hb (hrt.trans ert) (Or.inl ⟨_, rfl⟩) (Or.inr ⟨_, rfl⟩) (fun t ht hW => hQ t locs hW (by rw [ht]; exact hP) hD (by rw [ht]; exact hS)) hS.2.2 hdg hlk
                          · rename_i a _ nm ert
                            cases h7
                            exact W.aret hx hb (hrt.trans ert) (Or.inr ⟨_, rfl⟩) (Or.inr ⟨_, rfl⟩) (fun t ht hW => hQ t locs hW (by rw [ht]; exact hP) hD (by rw [ht]; exact hS)) hS.2.2 hdg hlk
                          · cases h7
                        · cases h7
                      · cases h7
                    | none =>
                      rw [h7] at hst
                      dsimp only at hst
                      cases h8 : pm_call i sw (pm_ow mi) S with
                      | none => rw [h8] at hst; cases hst
                      | some q =>
                        obtain ⟨mj, as, S1⟩ := q
                        rw [h8] at hst
                        cases hst
                        dsimp only at hrun
                        cases d with
                        | zero => cases hrun
                        | succ d =>
                          dsimp only at hrun
                          have hcal : ∃ (d2 : Nat) (v2 : Option Value) (h2' : pm_H), d2 ≤ d ∧ ((lg_sl as).length ≤ pm_mx mj → mj < 173 → ∀ sz, Met l (pm_nm mj) (pm_ws mj) (pm_rm d2) (va_Pc (pm_cS rho as) (pm_B rho D cy sw h sz)) (pm_Q rho D cy sw h sz v2 h2') 0 0 (va_A (pm_W cy rho sw h) sz)) ∧ pm_run sw n (d + 1) mi (pc + 3) L (v2.toList ++ S1) h2' = some (v, h') := by
                            cases hpr : pm_prim mj as with
                            | some v2 =>
                              rw [hpr] at hrun
                              dsimp only at hrun
                              cases hd4 : Nat.ble 4 d with
                              | false => rw [hd4] at hrun; cases hrun
                              | true =>
                                rw [hd4] at hrun
                                exact ⟨4, some v2, h, Nat.le_of_ble_eq_true hd4, fun _ _ sz => hprim mj as v2 hpr h sz, hrun⟩
                            | none =>
                              rw [hpr] at hrun
                              dsimp only at hrun
                              cases hcal : pm_run sw n d mj 0 (lv_args 0 as) [] h with
                              | none => rw [hcal] at hrun; cases hrun
                              | some r2 =>
                                obtain ⟨v2, h2'⟩ := r2
                                rw [hcal] at hrun
                                exact ⟨d, v2, h2', Nat.le_refl _, fun hfit hj sz => pm_met_of ih hcal hj hfit sz, hrun⟩
                          clear hrun
                          obtain ⟨d2, v2, h2', hd2, hMet, hrun⟩ := hcal
                          have hFc : ∀ q, va_A (pm_W cy rho sw h) H.size q → A q := by
                            intro q hq
                            rcases hq with ⟨k, en, hk⟩ | hq
                            · exact hD.2 k _ hk
                            · exact hA q (Nat.le_trans hS.1 hq)
                          have hKS1 : pm_KS rho (va_A (pm_W cy rho sw h) H.size) s H := (hKS.kept hS.2.1).narrow hFc
                          have hpre : ∀ U : State, U.heap = H → s.WarmedH U.vm → pm_B rho D cy sw h H.size U := by
                            intro U hU hW
                            refine ⟨by rw [hU], by rw [hU]; exact hP, va_K.moved hW.alike hK, hD.weaken (fun _ _ _ _ => trivial), ?_⟩
                            rw [hU]
                            exact pm_KS.moved hW.alike hKS1
                          have hdg := hd1 (fun z => by unfold pm_call at h8; split at h8 <;> first | cases z | cases h8)
                          have hfin : ∀ (mj : Nat) (as S1 : List Value) (st0 : List Value) (a0 : Array Value), mj < 173 → va_Run p l e (pm_rm (d + 1)) s m args below meth c H locs 0 0 0 0 (F0 m pc ls st0) (pm_cS rho S1) (pm_Q rho D cy sw h H.size v2 h2' a0) (va_A (pm_W cy rho sw h) H.size) → pm_run sw n (d + 1) mi (pc + 3) L (v2.toList ++ S1) h2' = some (v, h') → W p l e (pm_rm (d + 1)) s m args below meth c H locs 0 0 (MQ below Qc args s 0 0 A) (F0 m pc ls st0) := by
                            intro mj as S1 st0 a0 hj hr hrun
                            refine pm_callk (B := fun t => va_P D pm_cl (pm_W cy rho sw h2') t.heap ∧ va_D (va_A (pm_W cy rho sw h) H.size) (pm_W cy rho sw h2')) (A1 := va_A (pm_W cy rho sw h) H.size) (v0 := v2.map (pm_cv rho)) hr ?_ hS (fun q _ z => hFc q z) hFc ?_
                            · intro st w t hq
                              obtain ⟨q1, q2, q3⟩ := hq
                              exact ⟨Outcome.returned.inj q1, q2, q3⟩
                            · intro t locs1 hBt hS1
                              rw [pm_toList_c, ← pm_cS_app]
                              exact ih _ _ _ _ _ _ _ _ hrun hmi p e s m args below meth c t.heap locs1 ls A Qc hx hb hml hown hts hrt hlk hK hBt.1 (hBt.2.weaken (fun _ q _ z => hFc q.1 z)) hS1 hA hKS hl hQ
                          have hcb : ∀ (idx mj : Nat), pm_iv (pm_ow mi) idx = some mj → mj < 173 ∧ CallB (pm_rm (d + 1)) s args (pm_on (pm_ow mi)) idx (pm_nm mj) (pm_by mj) (pm_mx mj) (pm_rt mj) (pm_ws mj) (pm_rm d2) 0 0 (pm_np mj) := by
                            intro idx mj hiv
                            obtain ⟨hj, hlink⟩ := pm_iv_ok hiv
                            have hcls : (pm_nm mj).cls = pm_on (pm_ow mj) := of_decide_eq_true (List.all_eq_true.mp pm_mC mj (List.mem_range.mpr hj))
                            obtain ⟨n1, n2⟩ := Bool.and_eq_true_iff.mp (List.all_eq_true.mp pm_mG mj (List.mem_range.mpr hj))
                            have hini : Cond.initialized (pm_on (pm_ow mj)) ∈ pm_G := pm_mem (List.all_eq_true.mp pm_mB mj (List.mem_range.mpr hj))
                            have hmx : pm_mx mj ≤ 20 := Nat.le_of_ble_eq_true (List.all_eq_true.mp pm_mF mj (List.mem_range.mpr hj))
                            exact ⟨hj, callB_of (pm_np mj) hts (pm_goodIn hj) rfl rfl rfl (by rw [hcls]; exact hts _ (hG _ hini)) (hts _ (hG _ hlink)) ⟨of_decide_eq_true n1, of_decide_eq_true n2, of_decide_eq_true (List.all_eq_true.mp pm_mD mj (List.mem_range.mpr hj))⟩ ⟨Nat.succ_le_succ hd2, by show 8 + (pm_mx mj + 11) + d2 * 40 ≤ (d + 1) * 40; omega⟩⟩
                          unfold pm_call at h8
                          split at h8
                          · split at h8
                            · rename_i idx _ mj0 hiv
                              split at h8
                              · rename_i _ a S2 hdr
                                obtain ⟨hg, he⟩ := pm_bif h8
                                cases he
                                obtain ⟨g1, g2⟩ := Bool.and_eq_true_iff.mp hg
                                obtain ⟨g3, g4⟩ := Bool.and_eq_true_iff.mp g2
                                obtain ⟨g5, g6⟩ := Bool.and_eq_true_iff.mp g4
                                obtain ⟨g7, g8⟩ := Bool.and_eq_true_iff.mp g6
                                obtain ⟨hj, cb⟩ := hcb idx mj hiv
                                have hM := hMet (Nat.le_of_ble_eq_true g8) hj H.size
                                have hA1 := pm_mA_at hj
                                unfold pm_mA at hA1
                                have hsc : pm_sc mj = false := by
                                  cases hz : pm_sc mj with
                                  | false => rfl
                                  | true => rw [hz] at g1; cases g1
                                rw [hsc] at hA1
                                obtain ⟨w1, w2⟩ := Bool.and_eq_true_iff.mp hA1
                                have hcls : (pm_nm mj).cls = pm_on (pm_ow mj) := of_decide_eq_true (List.all_eq_true.mp pm_mC mj (List.mem_range.mpr hj))
                                have hS0 : S = S.take (pm_np mj) ++ .ref a :: S1 := by
                                  have := (List.take_append_drop (pm_np mj) S).symm
                                  rw [hdr] at this
                                  exact this
                                refine hfin mj [] S1 _ _ hj (va_runV (C := pm_on (pm_ow mj)) (b := rho a) (As := pm_cS rho (S.take (pm_np mj)).reverse) (rest := pm_cS rho S1) ⟨hx, hb, hml, hown, hts⟩ hM ⟨cb, hts _ (hG _ (pm_mem w1)), hts _ (hG _ (pm_mem w2))⟩ ⟨pm_blind, pm_rcv_t g5 hK hP hS hKS, fun U hU hW => ⟨rfl, hpre U hU hW⟩⟩ rfl ?_ hl.1 ?_ (lv_room ?_) hdg ⟨Nat.le_refl _, Nat.le_refl _⟩) hrun
                                · show (pm_cS rho (S.take (pm_np mj)).reverse).length = _
                                  unfold pm_cS
                                  rw [List.length_map, List.length_reverse]
                                  exact Nat.eq_of_beq_eq_true g3
                                · show pm_cS rho S = (pm_cS rho (S.take (pm_np mj)).reverse).reverse ++ .ref (rho a) :: pm_cS rho S1
                                  rw [pm_cS_rev, List.reverse_reverse]
                                  calc pm_cS rho S = pm_cS rho (S.take (pm_np mj) ++ .ref a :: S1) := by rw [← hS0]
                                    _ = _ := pm_cS_app rho _ _
                                · rw [pm_cats_c]
                                  exact Nat.le_of_ble_eq_true g7
                              · cases h8
                            · cases h8
                          · split at h8
                            · rename_i idx _ mj0 hiv
                              obtain ⟨hg, he⟩ := pm_bif h8
                              cases he
                              obtain ⟨g1, g2⟩ := Bool.and_eq_true_iff.mp hg
                              obtain ⟨g3, g4⟩ := Bool.and_eq_true_iff.mp g2
                              obtain ⟨g7, g8⟩ := Bool.and_eq_true_iff.mp g4
                              obtain ⟨hj, cb⟩ := hcb idx mj hiv
                              have hM := hMet (Nat.le_of_ble_eq_true g8) hj H.size
                              have hA1 := pm_mA_at hj
                              unfold pm_mA at hA1
                              rw [g1] at hA1
                              have hS0 : S = S.take (pm_np mj) ++ S.drop (pm_np mj) := (List.take_append_drop (pm_np mj) S).symm
                              refine hfin mj [] (S.drop (pm_np mj)) _ _ hj (va_runS (As := pm_cS rho (S.take (pm_np mj)).reverse) (rest := pm_cS rho (S.drop (pm_np mj))) ⟨hx, hb, hml, hown, hts⟩ hM ⟨cb, hts _ (hG _ (pm_mem hA1))⟩ ⟨pm_blind, fun U hU hW => ⟨rfl, hpre U hU hW⟩⟩ rfl ?_ hl.1 ?_ (lv_room ?_) hdg ⟨Nat.le_refl _, Nat.le_refl _⟩) hrun
                              · show (pm_cS rho (S.take (pm_np mj)).reverse).length = _
                                unfold pm_cS
                                rw [List.length_map, List.length_reverse]
                                exact Nat.eq_of_beq_eq_true g3
                              · show pm_cS rho S = (pm_cS rho (S.take (pm_np mj)).reverse).reverse ++ pm_cS rho (S.drop (pm_np mj))
                                rw [pm_cS_rev, List.reverse_reverse]
                                calc pm_cS rho S = pm_cS rho (S.take (pm_np mj) ++ S.drop (pm_np mj)) := by rw [← hS0]
                                  _ = _ := pm_cS_app rho _ _
                              · rw [pm_cats_c]
                                exact Nat.le_of_ble_eq_true g7
                            · cases h8
                          · cases h8
/-- a method's contract out of its run -/
theorem pm_met (hinj : ∀ a b, pm_kc a = true → pm_kc b = true → rho a = rho b → a = b) (hprim : ∀ (mj : Nat) (as : List Value) (v : Value), pm_prim mj as = some v → ∀ (h : pm_H) (sz : Nat), Met l (pm_nm mj) (pm_ws mj) (pm_rm 4) (va_Pc (pm_cS rho as) (pm_B rho D cy sw h sz)) (pm_Q rho D cy sw h sz (some v) h) 0 0 (va_A (pm_W cy rho sw h) sz)) {n d mj : Nat} {as : List Value} {h h' : pm_H} {v : Option Value} (hrun : pm_run sw n d mj 0 (lv_args 0 as) [] h = some (v, h')) (hj : mj < 173) (hfit : (lg_sl as).length ≤ pm_mx mj) (sz : Nat) :
    Met l (pm_nm mj) (pm_ws mj) (pm_rm d) (va_Pc (pm_cS rho as) (pm_B rho D cy sw h sz)) (pm_Q rho D cy sw h sz v h') 0 0 (va_A (pm_W cy rho sw h) sz) := pm_met_of (pm_body hinj hprim n) hrun hj hfit sz
end PM8
end
section
/-! Tables of the constructors (written by genn.py): number = the number of the class -/
def pn_mt : List (MethodName × ByteArray × Nat × Nat) := [(⟨"QuietChecker$Machine", "<init>", "(LQuietChecker$Program;)V"⟩, prog_3_method_1_code, 2, 1), (⟨"QuietChecker$Names", "<init>", "([CI)V"⟩, prog_4_method_1_code, 3, 2), (⟨"QuietChecker$Parser", "<init>", "(LQuietChecker$Program;)V"⟩, prog_6_method_1_code, 2, 1), (⟨"QuietChecker$Program", "<init>", "()V"⟩, prog_7_method_1_code, 1, 0), (⟨"QuietChecker$Tokens", "<init>", "([C)V"⟩, prog_8_method_1_code, 2, 1), (⟨"QuietChecker", "<init>", "()V"⟩, prog_1_method_1_code, 1, 0), (⟨"QuietCheckerModel", "<init>", "()V"⟩, prog_10_method_1_code, 1, 0)]
def pn_m (ci : Nat) : MethodName × ByteArray × Nat × Nat := pn_mt.getD ci (⟨"", "", ""⟩, ⟨#[]⟩, 0, 0)
def pn_nm (ci : Nat) : MethodName := (pn_m ci).1
def pn_by (ci : Nat) : ByteArray := (pn_m ci).2.1
def pn_mx (ci : Nat) : Nat := (pn_m ci).2.2.1
def pn_np (ci : Nat) : Nat := (pn_m ci).2.2.2
def pn_l0 : List (Nat × Instr) := [(0, .aload_n 0), (1, .invokespecial 3), (4, .aload_n 0), (5, .aload_n 1), (6, .putfield 9), (9, .aload_n 0), (10, .sipush 2632), (13, .newarray .int), (15, .putfield 17), (18, .aload_n 0), (19, .sipush 4000), (22, .newarray .int), (24, .putfield 21), (27, .aload_n 0), (28, .sipush 3000), (31, .newarray .int), (33, .putfield 24), (36, .return_)]
def pn_l1 : List (Nat × Instr) := [(0, .aload_n 0), (1, .invokespecial 3), (4, .aload_n 0), (5, .aload_n 1), (6, .putfield 9), (9, .aload_n 0), (10, .iload_n 2), (11, .newarray .int), (13, .putfield 15), (16, .aload_n 0), (17, .iload_n 2), (18, .newarray .int), (20, .putfield 19), (23, .aload_n 0), (24, .iload_n 2), (25, .newarray .boolean), (27, .putfield 22), (30, .return_)]
def pn_l2 : List (Nat × Instr) := [(0, .aload_n 0), (1, .invokespecial 5), (4, .aload_n 0), (5, .aload_n 1), (6, .putfield 11), (9, .aload_n 0), (10, .new 17), (13, .dup), (14, .aload_n 1), (15, .getfield 19), (18, .invokespecial 23), (21, .putfield 26), (24, .aload_n 0), (25, .new 30), (28, .dup), (29, .aload_n 1), (30, .getfield 19), (33, .bipush 12), (35, .invokespecial 32), (38, .putfield 35), (41, .aload_n 0), (42, .getstatic 39), (45, .putfield 45), (48, .return_)]
def pn_l3 : List (Nat × Instr) := [(0, .aload_n 0), (1, .invokespecial 5), (4, .aload_n 0), (5, .sipush 3000), (8, .newarray .char), (10, .putfield 11), (13, .aload_n 0), (14, .new 15), (17, .dup), (18, .aload_n 0), (19, .getfield 11), (22, .bipush 40), (24, .invokespecial 17), (27, .putfield 20), (30, .aload_n 0), (31, .bipush 40), (33, .newarray .int), (35, .putfield 24), (38, .aload_n 0), (39, .bipush 40), (41, .newarray .int), (43, .putfield 28), (46, .aload_n 0), (47, .new 15), (50, .dup), (51, .aload_n 0), (52, .getfield 11), (55, .bipush 6), (57, .invokespecial 17), (60, .putfield 31), (63, .aload_n 0), (64, .bipush 6), (66, .newarray .int), (68, .putfield 34), (71, .aload_n 0), (72, .bipush 6), (74, .newarray .int), (76, .putfield 37), (79, .aload_n 0), (80, .bipush 72), (82, .newarray .boolean), (84, .putfield 40), (87, .aload_n 0), (88, .sipush 3000), (91, .newarray .int), (93, .putfield 44), (96, .aload_n 0), (97, .sipush 3000), (100, .newarray .int), (102, .putfield 47), (105, .return_)]
def pn_l4 : List (Nat × Instr) := [(0, .aload_n 0), (1, .invokespecial 3), (4, .aload_n 0), (5, .aload_n 1), (6, .putfield 9), (9, .aload_n 0), (10, .sipush 3001), (13, .anewarray 15), (16, .putfield 17), (19, .aload_n 0), (20, .sipush 3001), (23, .newarray .int), (25, .putfield 21), (28, .aload_n 0), (29, .sipush 3001), (32, .newarray .int), (34, .putfield 25), (37, .aload_n 0), (38, .sipush 3001), (41, .newarray .int), (43, .putfield 28), (46, .return_)]
def pn_l5 : List (Nat × Instr) := [(0, .aload_n 0), (1, .invokespecial 1), (4, .aload_n 0), (5, .sipush 3000), (8, .newarray .char), (10, .putfield 9), (13, .aload_n 0), (14, .new 13), (17, .dup), (18, .invokespecial 15), (21, .putfield 16), (24, .aload_n 0), (25, .new 20), (28, .dup), (29, .aload_n 0), (30, .getfield 16), (33, .invokespecial 22), (36, .putfield 25), (39, .aload_n 0), (40, .sipush 2560), (43, .newarray .int), (45, .putfield 29), (48, .aload_n 0), (49, .sipush 2560), (52, .newarray .int), (54, .putfield 33), (57, .aload_n 0), (58, .new 36), (61, .dup), (62, .aload_n 0), (63, .getfield 16), (66, .invokespecial 38), (69, .putfield 39), (72, .aload_n 0), (73, .new 36), (76, .dup), (77, .aload_n 0), (78, .getfield 16), (81, .invokespecial 38), (84, .putfield 43), (87, .return_)]
def pn_l6 : List (Nat × Instr) := [(0, .aload_n 0), (1, .invokespecial 1), (4, .aload_n 0), (5, .sipush 3000), (8, .newarray .char), (10, .putfield 7), (13, .aload_n 0), (14, .sipush 3000), (17, .newarray .char), (19, .putfield 13), (22, .aload_n 0), (23, .bipush 40), (25, .newarray .int), (27, .putfield 16), (30, .aload_n 0), (31, .bipush 40), (33, .newarray .int), (35, .putfield 20), (38, .aload_n 0), (39, .bipush 40), (41, .newarray .int), (43, .putfield 23), (46, .aload_n 0), (47, .bipush 40), (49, .newarray .int), (51, .putfield 26), (54, .aload_n 0), (55, .bipush 40), (57, .newarray .int), (59, .putfield 29), (62, .aload_n 0), (63, .bipush 40), (65, .newarray .boolean), (67, .putfield 32), (70, .aload_n 0), (71, .bipush 12), (73, .newarray .boolean), (75, .putfield 36), (78, .aload_n 0), (79, .bipush 6), (81, .newarray .boolean), (83, .putfield 39), (86, .aload_n 0), (87, .bipush 12), (89, .newarray .int), (91, .putfield 42), (94, .aload_n 0), (95, .bipush 12), (97, .newarray .int), (99, .putfield 45), (102, .aload_n 0), (103, .bipush 6), (105, .newarray .int), (107, .putfield 48), (110, .aload_n 0), (111, .bipush 6), (113, .newarray .int), (115, .putfield 51), (118, .aload_n 0), (119, .bipush 6), (121, .newarray .int), (123, .putfield 54), (126, .aload_n 0), (127, .bipush 6), (129, .newarray .int), (131, .putfield 57), (134, .aload_n 0), (135, .bipush 6), (137, .newarray .int), (139, .putfield 60), (142, .aload_n 0), (143, .bipush 72), (145, .newarray .boolean), (147, .putfield 63), (150, .aload_n 0), (151, .sipush 12000), (154, .newarray .int), (156, .putfield 66), (159, .aload_n 0), (160, .sipush 12000), (163, .newarray .int), (165, .putfield 69), (168, .aload_n 0), (169, .sipush 12000), (172, .newarray .int), (174, .putfield 72), (177, .aload_n 0), (178, .sipush 2560), (181, .newarray .int), (183, .putfield 75), (186, .aload_n 0), (187, .sipush 2560), (190, .newarray .int), (192, .putfield 78), (195, .aload_n 0), (196, .sipush 4001), (199, .newarray .int), (201, .putfield 81), (204, .aload_n 0), (205, .sipush 4000), (208, .newarray .int), (210, .putfield 84), (213, .aload_n 0), (214, .bipush 40), (216, .newarray .int), (218, .putfield 87), (221, .aload_n 0), (222, .sipush 2560), (225, .newarray .int), (227, .putfield 90), (230, .aload_n 0), (231, .sipush 2560), (234, .newarray .int), (236, .putfield 93), (239, .aload_n 0), (240, .sipush 4001), (243, .newarray .int), (245, .putfield 96), (248, .aload_n 0), (249, .sipush 2000), (252, .newarray .int), (254, .putfield 99), (257, .aload_n 0), (258, .sipush 2000), (261, .newarray .int), (263, .putfield 102), (266, .aload_n 0), (267, .sipush 2000), (270, .newarray .int), (272, .putfield 105), (275, .aload_n 0), (276, .sipush 2000), (279, .newarray .int), (281, .putfield 108), (284, .aload_n 0), (285, .sipush 2000), (288, .newarray .int), (290, .putfield 111), (293, .return_)]
def pn_code (ci : Nat) : List (Nat × Instr) := ([pn_l0, pn_l1, pn_l2, pn_l3, pn_l4, pn_l5, pn_l6] : List (List (Nat × Instr))).getD ci []
/-- where the words stand: code, instance, initialised, instantiable -/
def pn_mp : List (Nat × Nat × Nat × Nat) := [(335, 334, 113, 332), (151, 150, 108, 148), (250, 249, 109, 247), (145, 144, 107, 142), (256, 255, 110, 253), (137, 136, 106, 134), (1335, 1334, 114, 1332)]
/-- constructors called, by owner and place: (place, class or 7 for Object, where the word stands) -/
def pn_ivl : List (List (Nat × Nat × Nat)) := [
  [(3, 7, 336)],
  [(3, 7, 152)],
  [(5, 7, 251), (23, 4, 254), (32, 1, 294)],
  [(5, 7, 146), (17, 1, 149)],
  [(3, 7, 257)],
  [(1, 7, 138), (15, 3, 143), (22, 2, 248), (38, 0, 333)],
  [(1, 7, 1336)]]
def pn_cll : List (List (Nat × Nat × Nat)) := [
  [],
  [],
  [(17, 4, 252), (30, 1, 293)],
  [(15, 1, 147)],
  [(15, 7, 258)],
  [(13, 3, 141), (20, 2, 246), (36, 0, 331)],
  []]
/-- Object.<init>: instance, code -/
def pn_obp : Nat × Nat := (139, 140)
/-- the words on array classes: ints, chars, booleans, longs; the kinds -/
def pn_acp : List Nat := [1044, 174, 173, 175, 1788]
def pn_aop : Nat := 259
end
section
/-! Constructors: a pure machine that makes cells. A new cell gets the next number; its address is the next one of the heap. -/
set_option maxRecDepth 100000 in
theorem pn_code_all : (List.range 7).all (fun ci => (pn_code ci).all (pm_okc (pn_by ci))) = true := by decide +kernel
theorem pn_decode {ci pc : Nat} {i : Instr} (hc : ci < 7) (h : pm_fd (pn_code ci) pc = some i) : ∃ len, decode (pn_by ci) pc = .ok (i, len) ∧ (pm_ln i = 0 ∨ len = pm_ln i) := by
  have h1 := List.all_eq_true.mp (List.all_eq_true.mp pn_code_all ci (List.mem_range.mpr hc)) _ (pm_fd_mem h)
  unfold pm_okc at h1
  split at h1
  · rename_i j len e
    obtain ⟨h2, h3⟩ := Bool.and_eq_true_iff.mp h1
    have h4 : j = i := of_decide_eq_true h2
    subst h4
    refine ⟨len, e, ?_⟩
    rcases (Bool.or_eq_true_iff.mp h3) with h5 | h5
    · exact Or.inl (Nat.eq_of_beq_eq_true h5)
    · exact Or.inr (Nat.eq_of_beq_eq_true h5)
  · cases h1
def pn_zero (h : pm_H) (i : Nat) : pm_H := (va_up h.1 i (fun _ => 0), va_up h.2.1 i (fun _ => 0), va_up h.2.2 i (fun _ => none))
def pn_kd (t : ArrayType) : Nat := match t with
  | .int => 1
  | .char => 2
  | .boolean => 3
  | .long => 4
  | _ => 0
/-- what is made: its shape, the stack without its length -/
def pn_mk (i : Instr) (ow : Nat) (sw : List (Nat × Nat)) (S : List Value) : Option ((Nat × Nat) × List Value) := match i with
  | .new idx => match pm_f3 (pn_cll.getD ow []) idx with
    | some ci => bif Nat.blt ci 7 && Nat.blt sw.length 400 then some ((10 + ci, 0), S) else none
    | none => none
  | .newarray t => match S with
    | .int n :: S' => bif (!decide (n < 0) && Nat.ble n.toNatClampNeg 65536) && (Nat.blt sw.length 400 && Nat.blt 0 (pn_kd t)) then some ((pn_kd t, n.toNatClampNeg), S') else none
    | _ => none
  | .anewarray idx => match S with
    | .int n :: S' => match pm_f3 (pn_cll.getD ow []) idx with
      | some ci => bif Nat.beq ci 7 && ((!decide (n < 0) && Nat.ble n.toNatClampNeg 65536) && Nat.blt sw.length 400) then some ((5, n.toNatClampNeg), S') else none
      | none => none
    | _ => none
  | _ => none
/-- a final field -/
def pn_put (i : Instr) (sw : List (Nat × Nat)) (ow : Nat) (h : pm_H) (S : List Value) : Option (pm_H × List Value) := match i with
  | .putfield idx => match S with
    | .ref r :: .ref a :: S' => match pm_gf ow idx with
      | some (ci, k) => bif pm_isO sw a ci && (((pm_clN ci).2.1 k).2.2.2 && decide (((pm_clN ci).2.1 k).1 = pm_on ow)) then
          (match (pm_ft ci)[k]? with
            | some (.object _) => some (pm_setR h a k (some r), S')
            | some (.array _) => some (pm_setR h a k (some r), S')
            | _ => none)
          else none
      | none => none
    | _ => none
  | _ => none
def pn_sz (sh : Nat × Nat) : Nat := bif Nat.blt sh.1 6 then sh.2 else (pm_clN (sh.1 - 10)).2.2
def pn_tot : List (Nat × Nat) → Nat
  | [] => 0
  | q :: l => pn_sz q + pn_tot l
def pn_run : Nat → Nat → Nat → Nat → pm_L → List Value → List (Nat × Nat) → pm_H → Option (List (Nat × Nat) × pm_H)
  | 0, _, _, _, _, _, _, _ => none
  | n + 1, d, ci, pc, L, S, sw, h => match pm_fd (pn_code ci) pc with
    | none => none
    | some i => match pm_push i L with
      | some v => pn_run n d ci (pc + pm_ln i) L (v :: S) sw h
      | none => match pm_ari i S with
        | some S' => pn_run n d ci (pc + pm_ln i) L S' sw h
        | none => match pm_read i sw ci h S with
          | some S' => pn_run n d ci (pc + pm_ln i) L S' sw h
          | none => match pm_write i sw ci h S with
            | some (h', S') => pn_run n d ci (pc + pm_ln i) L S' sw h'
            | none => match pn_put i sw ci h S with
              | some (h', S') => pn_run n d ci (pc + pm_ln i) L S' sw h'
              | none => match pn_mk i ci sw S with
                | some (sh, S') => pn_run n d ci (pc + pm_ln i) L (.ref sw.length :: S') (sw ++ [sh]) (pn_zero h sw.length)
                | none => match i with
                  | .return_ => (match S with
                    | [] => some (sw, h)
                    | _ => none)
                  | .invokespecial idx => (match pm_f3 (pn_ivl.getD ci []) idx with
                    | some cj => (match d with
                      | 0 => none
                      | d' + 1 => bif Nat.beq cj 7 then (match S with
                          | .ref _ :: S' => bif Nat.ble (pm_cats S') 8 then pn_run n (d' + 1) ci (pc + 3) L S' sw h else none
                          | _ => none)
                        else (match S.drop (pn_np cj) with
                          | .ref a :: S' => bif (Nat.blt cj 7 && Nat.beq (S.take (pn_np cj)).length (pn_np cj)) && (Nat.ble (pm_cats S') 8 && Nat.ble (lg_sl (.ref a :: (S.take (pn_np cj)).reverse)).length (pn_mx cj)) then
                              (match pn_run n d' cj 0 (lv_args 0 (.ref a :: (S.take (pn_np cj)).reverse)) [] sw h with
                                | some (sw', h') => pn_run n (d' + 1) ci (pc + 3) L S' sw' h'
                                | none => none)
                              else none
                          | _ => none))
                    | none => none)
                  | _ => none
theorem pn_tot_app (a b : List (Nat × Nat)) : pn_tot (a ++ b) = pn_tot a + pn_tot b := by
  induction a with
  | nil => show pn_tot b = 0 + pn_tot b; omega
  | cons q a ih => show pn_sz q + pn_tot (a ++ b) = pn_sz q + pn_tot a + pn_tot b; omega
theorem pm_bifR {α : Type} {b : Bool} {x : Option α} {y : α} (h : (bif b then x else none) = some y) : b = true ∧ x = some y := by
  cases b with
  | true => exact ⟨rfl, h⟩
  | false => cases h
theorem pn_mono : ∀ (n d ci pc : Nat) (L : pm_L) (S : List Value) (sw : List (Nat × Nat)) (h : pm_H) (sw' : List (Nat × Nat)) (h' : pm_H), pn_run n d ci pc L S sw h = some (sw', h') → sw.length ≤ sw'.length ∧ pn_tot sw ≤ pn_tot sw' := by
  intro n
  induction n with
  | zero => intro d ci pc L S sw h sw' h' hr; cases hr
  | succ n ih =>
    intro d ci pc L S sw h sw' h' hr
    unfold pn_run at hr
    split at hr
    · cases hr
    split at hr
    · exact ih _ _ _ _ _ _ _ _ _ hr
    split at hr
    · exact ih _ _ _ _ _ _ _ _ _ hr
    split at hr
    · exact ih _ _ _ _ _ _ _ _ _ hr
    split at hr
    · exact ih _ _ _ _ _ _ _ _ _ hr
    split at hr
    · exact ih _ _ _ _ _ _ _ _ _ hr
    split at hr
    · have h1 := ih _ _ _ _ _ _ _ _ _ hr
      rw [List.length_append, pn_tot_app] at h1
      exact ⟨by omega, by omega⟩
    split at hr
    · split at hr
      · cases hr; exact ⟨Nat.le_refl _, Nat.le_refl _⟩
      · cases hr
    · split at hr
      · split at hr
        · cases hr
        · rename_i cj _ _ d'
          cases hb : Nat.beq cj 7 with
          | true =>
            rw [hb] at hr
            dsimp only [cond] at hr
            split at hr
            · exact ih _ _ _ _ _ _ _ _ _ (pm_bifR hr).2
            · cases hr
          | false =>
            rw [hb] at hr
            dsimp only [cond] at hr
            split at hr
            · have hr := (pm_bifR hr).2
              split at hr
              · rename_i sw2 h2 hc
                have h1 := ih _ _ _ _ _ _ _ _ _ hc
                have h3 := ih _ _ _ _ _ _ _ _ _ hr
                exact ⟨by omega, by omega⟩
              · cases hr
            · cases hr
      · cases hr
    · cases hr
end
section
/-! Constructors: the words, the new cells -/
def pn_ws (ci : Nat) : List Cond := Cond.code (pn_nm ci) (pn_by ci) (pn_mx ci) none :: pm_G
set_option maxRecDepth 100000 in
theorem pn_mA : (List.range 7).all (fun ci => pm_inG (pn_mp.getD ci (0, 0, 0, 0)).2.1 (Cond.instanceMethod (pn_nm ci)) && (pm_inG (pn_mp.getD ci (0, 0, 0, 0)).2.2.1 (Cond.initialized (pm_on ci)) && (pm_inG (pn_mp.getD ci (0, 0, 0, 0)).2.2.2 (Cond.instantiable (pm_on ci) (pm_clN ci).2.2) && (plainFor (pn_nm ci) && (decide ((pn_nm ci).cls = pm_on ci) && (decide ((pn_nm ci).name = "<init>") && (decide ((parseMethodDescriptor (pn_nm ci).desc).map (fun d => d.parameters.length) = some (pn_np ci)) && (Nat.ble (pn_mx ci) 20 && (decide ((pn_nm ci).cls ≠ "java/lang/invoke/MethodHandle") && (decide ((pn_nm ci).cls ≠ "java/lang/invoke/VarHandle") && decide ((pm_clN ci).1 = pm_on ci))))))))))) = true := by decide +kernel
set_option maxRecDepth 100000 in
theorem pn_mH : (List.range 7).map (fun ci => lw_tbl[(pn_mp.getD ci (0, 0, 0, 0)).1]?) = (List.range 7).map (fun ci => some (Cond.code (pn_nm ci) (pn_by ci) (pn_mx ci) none)) := by rfl
theorem pn_G_all {ci : Nat} (h : ci < 7) : Cond.code (pn_nm ci) (pn_by ci) (pn_mx ci) none ∈ pm_G := by
  have h1 : ((List.range 7).map (fun ci => lw_tbl[(pn_mp.getD ci (0, 0, 0, 0)).1]?))[ci]? = ((List.range 7).map (fun ci => some (Cond.code (pn_nm ci) (pn_by ci) (pn_mx ci) none)))[ci]? := by rw [pn_mH]
  rw [List.getElem?_map, List.getElem?_map, List.getElem?_range h] at h1
  exact List.mem_filter.mpr ⟨List.mem_of_getElem? (Option.some.inj h1), rfl⟩
set_option maxRecDepth 100000 in
theorem pn_ob : (pm_inG pn_obp.1 (Cond.instanceMethod Lib.objectInit) && pm_inG pn_obp.2 (Cond.code Lib.objectInit ⟨#[0xb1]⟩ 1 none)) = true := by decide +kernel
set_option maxRecDepth 100000 in
theorem pn_iv_all : (List.range 7).all (fun o => (pn_ivl.getD o []).all (fun e => Nat.blt e.2.1 8 && pm_inG e.2.2 (Cond.methodLink (pm_on o) e.1 (bif Nat.beq e.2.1 7 then Lib.objectInit else pn_nm e.2.1)))) = true := by decide +kernel
set_option maxRecDepth 100000 in
theorem pn_cl_all : (List.range 7).all (fun o => (pn_cll.getD o []).all (fun e => pm_inG e.2.2 (Cond.classLink (pm_on o) e.1 (bif Nat.beq e.2.1 7 then "QuietChecker$Kind" else pm_on e.2.1)))) = true := by decide +kernel
set_option maxRecDepth 100000 in
theorem pn_ac_all : (pm_inG (pn_acp.getD 0 0) (Cond.arrayClass .byte) && (pm_inG (pn_acp.getD 1 0) (Cond.arrayClass .int) && (pm_inG (pn_acp.getD 2 0) (Cond.arrayClass .char) && (pm_inG (pn_acp.getD 3 0) (Cond.arrayClass .boolean) && pm_inG (pn_acp.getD 4 0) (Cond.arrayClass .long))))) = true := by decide +kernel
set_option maxRecDepth 100000 in
theorem pn_ao : decide (lw_tbl[pn_aop]? = some (Cond.arrayOver (.object "QuietChecker$Kind"))) = true := by decide +kernel
theorem pn_own7 {α : Type} {l : List (List α)} {o : Nat} {a : α} (hl : l.length = 7) (h : a ∈ l.getD o []) : o < 7 := by
  rcases Nat.lt_or_ge o 7 with h1 | h1
  · exact h1
  · rw [List.getD_eq_getElem?_getD, List.getElem?_eq_none (by omega)] at h
    cases h
theorem pn_iv_ok {o idx cj : Nat} (h : pm_f3 (pn_ivl.getD o []) idx = some cj) : cj < 8 ∧ Cond.methodLink (pm_on o) idx (bif Nat.beq cj 7 then Lib.objectInit else pn_nm cj) ∈ pm_G := by
  obtain ⟨p, hp⟩ := pm_f3_mem h
  have h1 := List.all_eq_true.mp (List.all_eq_true.mp pn_iv_all o (List.mem_range.mpr (pn_own7 (by rfl) hp))) _ hp
  obtain ⟨h2, h3⟩ := Bool.and_eq_true_iff.mp h1
  exact ⟨pm_blt h2, pm_mem h3⟩
theorem pn_cl_ok {o idx cj : Nat} (h : pm_f3 (pn_cll.getD o []) idx = some cj) : Cond.classLink (pm_on o) idx (bif Nat.beq cj 7 then "QuietChecker$Kind" else pm_on cj) ∈ pm_G := by
  obtain ⟨p, hp⟩ := pm_f3_mem h
  exact pm_mem (List.all_eq_true.mp (List.all_eq_true.mp pn_cl_all o (List.mem_range.mpr (pn_own7 (by rfl) hp))) _ hp)
def pn_oky (ty : FieldType) : Bool := match ty with
  | .float => false
  | .double => false
  | _ => true
set_option maxRecDepth 100000 in
theorem pn_oky_all : (List.range 7).all (fun ci => (pm_ft ci).all pn_oky) = true := by decide +kernel
section PN1
variable {cy : Nat → ClassId} {rho : Nat → Nat} {sw : List (Nat × Nat)} {h : pm_H}
theorem pn_but (i : Nat) : pm_but i h (pn_zero h i) := fun j hj => ⟨va_up_ne _ _ hj, va_up_ne _ _ hj, va_up_ne _ _ hj⟩
theorem pn_dflt {i k : Nat} {ty : FieldType} (ho : pn_oky ty = true) : defaultValue ty = pm_fv rho (pn_zero h i) i k ty := by
  unfold pm_fv pn_zero
  dsimp only
  rw [va_up_self, va_up_self, va_up_self]
  cases ty <;> first | rfl | cases ho
theorem pn_sh_app {sh : Nat × Nat} {i : Nat} (hi : i < sw.length) : pm_sh (sw ++ [sh]) i = pm_sh sw i := by
  unfold pm_sh
  rw [List.getD_eq_getElem?_getD, List.getD_eq_getElem?_getD, List.getElem?_append_left hi]
theorem pn_sh_new {sh : Nat × Nat} : pm_sh (sw ++ [sh]) sw.length = sh := by
  unfold pm_sh
  rw [List.getD_eq_getElem?_getD, List.getElem?_append_right (Nat.le_refl _), Nat.sub_self]
  rfl
theorem pn_W_app {sh : Nat × Nat} : pm_W cy rho (sw ++ [sh]) (pn_zero h sw.length) = pm_W cy rho sw h ++ [(rho sw.length, pm_E cy rho (pn_zero h sw.length) sh sw.length)] := by
  apply List.ext_getElem?
  intro j
  rcases Nat.lt_trichotomy j sw.length with hj | hj | hj
  · rw [pm_W_at (by rw [List.length_append]; exact Nat.lt_add_right _ hj), List.getElem?_append_left (by rw [pm_W_len]; exact hj), pm_W_at hj, pn_sh_app hj, pm_E_but (pn_but _) (Nat.ne_of_lt hj)]
  · subst hj
    rw [pm_W_at (by rw [List.length_append]; exact Nat.lt_succ_self _), List.getElem?_append_right (by rw [pm_W_len]; exact Nat.le_refl _), pm_W_len, Nat.sub_self, pn_sh_new]
    rfl
  · rw [List.getElem?_eq_none (by rw [pm_W_len, List.length_append]; exact hj), List.getElem?_eq_none (by rw [List.length_append, pm_W_len]; exact hj)]
end PN1
section PN2
variable {p : Program} {l : Launch} {e : Env} {R : Room} {s : State} {m : MethodId} {args : Array Value} {below : List Frame} {meth : Method} {c : Code} {H : Heap} {locs : List Loc} {cells slots : Nat} {Q : State → Prop} {cc : ByteArray} {pc : Nat} {ls : Array Slot} {rho : Nat → Nat} {S S' : List Value} {D : va_G} {cy : Nat → ClassId} {sw : List (Nat × Nat)} {h h' : pm_H} {A : Nat → Prop} {Ts : List Cond} {ow : Nat}
/-- the world with a new cell at the heap's end -/
theorem pn_grown {H1 : Heap} {sh : Nat × Nat} (hP : va_P D pm_cl (pm_W cy rho sw h) H) (hD : va_D A (pm_W cy rho sw h)) (hS : va_S A s.heap H locs) (hA : ∀ q, s.heap.size ≤ q → A q) (hsz : H.size = rho sw.length) (z1 : H1.size = H.size + 1) (o1 : ∀ q : Nat, q < H.size → H1[q]? = H[q]?) (hat : va_at D pm_cl (rho sw.length, pm_E cy rho (pn_zero h sw.length) sh sw.length) H1) : va_P D pm_cl (pm_W cy rho (sw ++ [sh]) (pn_zero h sw.length)) H1 ∧ va_D A (pm_W cy rho (sw ++ [sh]) (pn_zero h sw.length)) ∧ va_S A s.heap H1 locs := by
  rw [pn_W_app]
  have hk : ∀ (k : Nat) (x : Nat × va_E), (pm_W cy rho sw h)[k]? = some x → H1[x.1]? = H[x.1]? := fun k x hx => o1 x.1 ((hP k x hx).lt)
  refine ⟨(hP.kept hk).app (fun k x hx => ?_), hD.push hP hsz.symm (by rw [← hsz]; exact hA _ hS.1), ⟨Nat.le_trans hS.1 (by omega), fun x h1 h2 => (o1 x (Nat.lt_of_lt_of_le h1 hS.1)).trans (hS.2.1 x h1 h2), hS.2.2⟩⟩
  have hz : k < 1 := (List.getElem?_eq_some_iff.mp hx).1
  rw [show k = 0 by omega] at hx
  cases hx
  exact hat
theorem pn_nlt {n : Int32} (h : (!decide (n < 0)) = true) : ¬ n < 0 := of_decide_eq_false (pm_not h)
set_option maxRecDepth 10000 in
theorem pn_mk_snd (hx : p.tables.exec = Jvm.exec) (hb : c.code = cc) (hts : ∀ w ∈ Ts, w.before args s = true) (hG : ∀ w ∈ pm_G, w ∈ Ts) (hown : s.vm.findClass (pm_on ow) = some m.cls) (hK : va_K D pm_cl (pm_tys cy) s) (hP : va_P D pm_cl (pm_W cy rho sw h) H) (hD : va_D A (pm_W cy rho sw h)) (hS : va_S A s.heap H locs) (hA : ∀ q, s.heap.size ≤ q → A q) (hsz : H.size = rho sw.length) (hAO : va_AO "QuietChecker$Kind" s)
    {i : Instr} {sh : Nat × Nat} (hdg : decode cc pc = .ok (i, pm_ln i)) (hr : pn_mk i ow sw S = some (sh, S')) (hc : cells + 1 ≤ R.cells) (hs : slots + pn_sz sh ≤ R.slots)
    (k : ∀ (H1 : Heap), va_P D pm_cl (pm_W cy rho (sw ++ [sh]) (pn_zero h sw.length)) H1 → va_D A (pm_W cy rho (sw ++ [sh]) (pn_zero h sw.length)) → va_S A s.heap H1 locs → H1.size = H.size + 1 → W p l e R s m args below meth c H1 locs (cells + 1) (slots + pn_sz sh) Q (F0 m (pc + pm_ln i) ls (.ref (rho sw.length) :: pm_cS rho S'))) : W p l e R s m args below meth c H locs cells slots Q (F0 m pc ls (pm_cS rho S)) := by
  unfold pn_mk at hr
  split at hr
  · split at hr
    · rename_i idx _ ci hcl
      obtain ⟨hg, he⟩ := pm_bif hr
      cases he
      obtain ⟨g1, g2⟩ := Bool.and_eq_true_iff.mp hg
      have hci := pm_blt g1
      have hne : Nat.beq ci 7 = false := by
        cases hz : Nat.beq ci 7 with
        | false => rfl
        | true => have := Nat.eq_of_beq_eq_true hz; omega
      have hlink := pn_cl_ok hcl
      rw [hne] at hlink
      dsimp only [cond] at hlink
      have hA1 := List.all_eq_true.mp pn_mA ci (List.mem_range.mpr hci)
      simp only [Bool.and_eq_true, decide_eq_true_eq] at hA1
      obtain ⟨-, w2, w3, -, -, -, -, -, -, -, w4⟩ := hA1
      have hKn := hK.1 ci _ (pm_cl_at hci)
      have hsl : pn_sz (10 + ci, 0) = (pm_clN ci).2.2 := by
        unfold pn_sz
        dsimp only
        have : Nat.blt (10 + ci) 6 = false := by
          cases hz : Nat.blt (10 + ci) 6 with
          | false => rfl
          | true => have := pm_blt hz; omega
        rw [this]
        dsimp only [cond]
        rw [Nat.add_sub_cancel_left]
      rw [hsl] at hs k
      rw [← hsz] at k
      refine W.newcK (C := pm_on ci) (n := (pm_clN ci).2.2) hx hb hown (hts _ (hG _ hlink)) (hts _ (hG _ (pm_mem w3))) (hts _ (hG _ (pm_mem w2))) rfl hdg hc hs (by rw [← w4]; exact hKn.2.1) rfl fun H1 kC hkC e1 z1 o1 => ?_
      obtain ⟨r1, r2, r3⟩ := pn_grown (sh := (10 + ci, 0)) hP hD hS hA hsz z1 o1 (by
        rw [pm_E_O rfl]
        refine ⟨pm_clN ci, pm_cl_at hci, ?_⟩
        rw [hsz] at e1
        refine (u_born (pm_clY ci) hts (fun w hw => hG w (pm_uw hci w hw)) hKn hkC e1 (pm_cl_ty hci)).to (fun j hj => ?_)
        have hft : (pm_ft ci)[j]? = some (pm_clY ci j) := by
          rw [pm_ft_ok ci hci, List.getElem?_map, List.getElem?_range hj]
          rfl
        have hok : pn_oky (pm_clY ci j) = true := List.all_eq_true.mp (List.all_eq_true.mp pn_oky_all ci (List.mem_range.mpr hci)) _ (List.mem_of_getElem? hft)
        show _ = (pm_fs rho (pn_zero h sw.length) sw.length ci).getD j .null
        rw [List.getD_eq_getElem?_getD, pm_fs_at hft, pn_dflt (rho := rho) (h := h) (i := sw.length) (k := j) hok]
        rfl)
      exact k H1 r1 r2 r3 z1
    · cases hr
  · split at hr
    · rename_i at0 _ n S1
      obtain ⟨hg, he⟩ := pm_bif hr
      cases he
      obtain ⟨g1, g2⟩ := Bool.and_eq_true_iff.mp hg
      obtain ⟨g3, g4⟩ := Bool.and_eq_true_iff.mp g1
      obtain ⟨g5, g6⟩ := Bool.and_eq_true_iff.mp g2
      have hn := pn_nlt g3
      have hn2 := Nat.le_of_ble_eq_true g4
      have hw := pn_ac_all
      simp only [Bool.and_eq_true] at hw
      obtain ⟨-, w1, w2, w3, w4⟩ := hw
      rw [← hsz] at k
      cases at0 with
      | int =>
        refine va_newaK hx hb (hts _ (hG _ (pm_mem w1))) rfl hdg rfl hn rfl (by show _ * 4 ≤ _; omega) hc hs rfl fun H1 cA e1 z1 o1 hAr hNm => ?_
        have hcA : cA = cy 1 := Option.some.inj (hNm.symm.trans (hK.2 1 (cy 1, .int) rfl).2)
        subst hcA
        obtain ⟨r1, r2, r3⟩ := pn_grown (sh := (1, n.toNatClampNeg)) hP hD hS hA hsz z1 o1 (by
          show H1[rho sw.length]? = some (vp_cell (cy 1) (n.toNatClampNeg, Sum.inl (va_up h.1 sw.length (fun _ => 0) sw.length)))
          rw [va_up_self, ← hsz]
          exact e1)
        exact k H1 r1 r2 r3 z1
      | char =>
        refine va_newaK hx hb (hts _ (hG _ (pm_mem w2))) rfl hdg rfl hn rfl (by show _ * 2 ≤ _; omega) hc hs rfl fun H1 cA e1 z1 o1 hAr hNm => ?_
        have hcA : cA = cy 2 := Option.some.inj (hNm.symm.trans (hK.2 2 (cy 2, .char) rfl).2)
        subst hcA
        obtain ⟨r1, r2, r3⟩ := pn_grown (sh := (2, n.toNatClampNeg)) hP hD hS hA hsz z1 o1 (by
          show H1[rho sw.length]? = some (vp_cell (cy 2) (n.toNatClampNeg, Sum.inl (va_up h.1 sw.length (fun _ => 0) sw.length)))
          rw [va_up_self, ← hsz]
          exact e1)
        exact k H1 r1 r2 r3 z1
      | boolean =>
        refine va_newaK hx hb (hts _ (hG _ (pm_mem w3))) rfl hdg rfl hn rfl (by show _ * 1 ≤ _; omega) hc hs rfl fun H1 cA e1 z1 o1 hAr hNm => ?_
        have hcA : cA = cy 3 := Option.some.inj (hNm.symm.trans (hK.2 3 (cy 3, .boolean) rfl).2)
        subst hcA
        obtain ⟨r1, r2, r3⟩ := pn_grown (sh := (3, n.toNatClampNeg)) hP hD hS hA hsz z1 o1 (by
          show H1[rho sw.length]? = some (vp_cell (cy 3) (n.toNatClampNeg, Sum.inl (va_up h.1 sw.length (fun _ => 0) sw.length)))
          rw [va_up_self, ← hsz]
          exact e1)
        exact k H1 r1 r2 r3 z1
      | long =>
        refine va_newaK hx hb (hts _ (hG _ (pm_mem w4))) rfl hdg rfl hn rfl (by show _ * 8 ≤ _; omega) hc hs rfl fun H1 cA e1 z1 o1 hAr hNm => ?_
        have hcA : cA = cy 4 := Option.some.inj (hNm.symm.trans (hK.2 4 (cy 4, .long) rfl).2)
        subst hcA
        obtain ⟨r1, r2, r3⟩ := pn_grown (sh := (4, n.toNatClampNeg)) hP hD hS hA hsz z1 o1 (by
          show H1[rho sw.length]? = some (vp_cell (cy 4) (n.toNatClampNeg, Sum.inr (Sum.inl (va_up h.2.1 sw.length (fun _ => 0) sw.length))))
          rw [va_up_self, ← hsz]
          exact e1)
        exact k H1 r1 r2 r3 z1
      | _ => cases g6
    · cases hr
  · split at hr
    · split at hr
      · rename_i idx _ n S1 _ ci hcl
        obtain ⟨hg, he⟩ := pm_bif hr
        cases he
        obtain ⟨g1, g2⟩ := Bool.and_eq_true_iff.mp hg
        obtain ⟨g3, g4⟩ := Bool.and_eq_true_iff.mp g2
        obtain ⟨g5, g6⟩ := Bool.and_eq_true_iff.mp g3
        have hn := pn_nlt g5
        have hn2 := Nat.le_of_ble_eq_true g6
        have hlink := pn_cl_ok hcl
        rw [g1] at hlink
        dsimp only [cond] at hlink
        rw [← hsz] at k
        refine W.anew hx hb hown (hts _ (hG _ hlink)) (va_AO.use hAO) rfl hdg rfl hn (by omega) hc hs fun cA kA comp f1 f2 f3 f4 => ?_
        generalize hH1 : H.push ({ cls := cA, slots := Array.replicate n.toNatClampNeg .null, vm := .none } : Cell) = H1
        have z1 : H1.size = H.size + 1 := by rw [← hH1, Array.size_push]
        have e1 : H1[H.size]? = some (arrV cA n.toNatClampNeg (fun _ => .null)) := by rw [← hH1, Array.getElem?_push_size, ← arrV_new]
        have o1 : ∀ q : Nat, q < H.size → H1[q]? = H[q]? := fun q hq => by rw [← hH1, Array.getElem?_push, if_neg (Nat.ne_of_lt hq)]
        have hcA : cA = cy 5 := by
          obtain ⟨_, _, _, _, _, q4⟩ := (hK.2 5 (cy 5, .object "QuietChecker$Kind") rfl).2
          exact Option.some.inj (f1.symm.trans q4)
        subst hcA
        obtain ⟨r1, r2, r3⟩ := pn_grown (sh := (5, n.toNatClampNeg)) hP hD hS hA hsz z1 o1 (by
          show H1[rho sw.length]? = some (vp_cell (cy 5) (n.toNatClampNeg, Sum.inr (Sum.inr (Sum.inr (Sum.inr (fun j => (va_up h.2.2 sw.length (fun _ => none) sw.length j).map rho))))))
          rw [va_up_self, vp_cell_q, ← hsz]
          exact e1)
        exact k H1 r1 r2 r3 z1
      · cases hr
    · cases hr
  · cases hr
theorem pn_put_snd (hx : p.tables.exec = Jvm.exec) (hb : c.code = cc) (hts : ∀ w ∈ Ts, w.before args s = true) (hG : ∀ w ∈ pm_G, w ∈ Ts) (hown : s.vm.findClass (pm_on ow) = some m.cls) (hin : meth.name = "<init>") (hK : va_K D pm_cl (pm_tys cy) s) (hP : va_P D pm_cl (pm_W cy rho sw h) H) (hD : va_D A (pm_W cy rho sw h)) (hS : va_S A s.heap H locs)
    {i : Instr} (hdg : decode cc pc = .ok (i, pm_ln i)) (hr : pn_put i sw ow h S = some (h', S'))
    (k : ∀ (H1 : Heap) (locs1 : List Loc), va_P D pm_cl (pm_W cy rho sw h') H1 → va_D A (pm_W cy rho sw h') → va_S A s.heap H1 locs1 → W p l e R s m args below meth c H1 locs1 cells slots Q (F0 m (pc + pm_ln i) ls (pm_cS rho S'))) : W p l e R s m args below meth c H locs cells slots Q (F0 m pc ls (pm_cS rho S)) := by
  unfold pn_put at hr
  split at hr
  · split at hr
    · rename_i idx _ r a S1
      split at hr
      · rename_i ci kk hgf
        obtain ⟨hci, hkk, hlink⟩ := pm_gf_ok hgf
        obtain ⟨ho, hr⟩ := pm_bifR hr
        obtain ⟨ho1, ho2⟩ := Bool.and_eq_true_iff.mp ho
        obtain ⟨ho3, ho4⟩ := Bool.and_eq_true_iff.mp ho2
        obtain ⟨hal, hsh⟩ := pm_isO_t ho1
        have key : ∀ ty, (pm_ft ci)[kk]? = some ty → pm_cat ty = 2 → narrow ty (.ref (rho r)) = .ref (rho r) → fits ty (.ref (rho r)) = true → (pm_setR h a kk (some r), S1) = (h', S') → W p l e R s m args below meth c H locs cells slots Q (F0 m pc ls (pm_cS rho (.ref r :: .ref a :: S1))) := by
          intro ty hty hcat hnw hft he
          cases he
          obtain ⟨f1, f2⟩ := pm_ft_at hci hty
          refine va_putF (ci := ci) (ty := ty) (v := .ref (rho r)) hx hb hts (fun w hw => hG w (pm_uw hci w hw)) (pm_clY ci) (pm_cl_ty hci) (pm_cl_nm hci) hown hK hP hD hS a ((pm_W_at hal).trans (by rw [pm_E_O hsh])) (pm_cl_at hci) kk hkk (hts _ (hG _ hlink)) (fun _ z => z) ho3 hin (of_decide_eq_true ho4) ((pm_cl_ty hci kk f1).trans (by rw [f2])) hnw hft (by rw [pm_fs_len]; exact (List.getElem?_eq_some_iff.mp hty).1) hdg (fun H1 locs1 hP1 hD1 hS1 => ?_)
          have hfv : pm_fv rho (pm_setR h a kk (some r)) a kk ty = .ref (rho r) := by
            unfold pm_fv
            rw [hcat]
            show va_rf ((va_up h.2.2 a (va_up (h.2.2 a) kk (some r)) a kk).map rho) = _
            rw [va_up_self, va_up_self]
            rfl
          have hW : (pm_W cy rho sw h).set a (rho a, .inr (ci, (pm_fs rho h a ci).set kk (.ref (rho r)))) = pm_W cy rho sw (pm_setR h a kk (some r)) := pm_W_set (pm_but_R _ _ _ _) hal (by rw [pm_E_O hsh, pm_fs_set hty hfv (pm_set_oR _ _ _ _)])
          rw [hW] at hP1 hD1
          exact k H1 locs1 hP1 hD1 hS1
        split at hr
        · rename_i nm hty
          exact key _ hty rfl rfl rfl (Option.some.inj hr)
        · rename_i nm hty
          exact key _ hty rfl rfl rfl (Option.some.inj hr)
        · cases hr
      · cases hr
    · cases hr
  · cases hr
/-- what the count of new cells says of the heap's size -/
theorem pn_sizes {g : JFrame} (k : H.size ≤ s.heap.size + cells → W p l e R s m args below meth c H locs cells slots Q g) : W p l e R s m args below meth c H locs cells slots Q g := fun T hT X => k (by rw [← hT]; exact X.same.2.2.1) T hT X
theorem pn_callk {A0 A1 : Nat → Prop} {H0 : Heap} {free : Addr → Prop} {rest st0 : List Value} {mc ms : Nat} {Qa : State → Outcome → State → Prop} {B : State → Prop} {v0 : Option Value} (hr : va_Run p l e R s m args below meth c H locs cells slots mc ms (F0 m pc ls st0) rest Qa free) (hQ : ∀ (st : State) (v : Option Value) (t : State), Qa st (.returned v) t → v = v0 ∧ B t ∧ va_F A1 st t) (hS : va_S A0 H0 H locs) (hA : ∀ q, q < H.size → A1 q → A0 q) (hf : ∀ q, free q → A0 q)
    (kk : ∀ (t : State) (locs1 : List Loc), B t → va_S A0 H0 t.heap locs1 → H.size ≤ t.heap.size → (∀ q : Nat, q < H.size → ¬ A1 q → t.heap[q]? = H[q]?) → s.vm.Alike t.vm → W p l e R s m args below meth c t.heap locs1 (cells + mc) (slots + ms) Q (F0 m (pc + 3) ls (v0.toList ++ rest))) : W p l e R s m args below meth c H locs cells slots Q (F0 m pc ls st0) := by
  intro T hT X
  obtain ⟨v, st₀, t, T', L, h0, X', hL, e1, e2, hq, st⟩ := hr T hT X
  obtain ⟨rfl, hb, hz, hk⟩ := hQ st₀ v t hq
  rw [h0] at hz hk
  obtain ⟨t2, a1, b1⟩ := kk t (locs ++ L) hb
    ⟨Nat.le_trans hS.1 hz, fun q h1 h2 => by rw [hk q (Nat.lt_of_lt_of_le h1 hS.1) (fun z => h2 (hA q (Nat.lt_of_lt_of_le h1 hS.1) z))]; exact hS.2.1 q h1 h2, fun q hq => by
      rcases List.mem_append.mp hq with h | h
      · exact hS.2.2 q h
      · exact hf _ (hL q h)⟩ hz hk (by rw [← e2]; exact X'.warmed.alike) T' e1 X'
  exact ⟨t2, st t2 a1, b1⟩
end PN2
end
section
def pn_rm (d mc ms : Nat) : Room := { frames := d, cells := mc, slots := ms, locals := d * 40 }
theorem pn_mk_400 {i : Instr} {ci : Nat} {sw : List (Nat × Nat)} {S S1 : List Value} {sh : Nat × Nat} (h8 : pn_mk i ci sw S = some (sh, S1)) : sw.length < 400 := by
  unfold pn_mk at h8
  split at h8
  · split at h8
    · obtain ⟨hg, -⟩ := pm_bif h8
      exact pm_blt (Bool.and_eq_true_iff.mp hg).2
    · cases h8
  · split at h8
    · obtain ⟨hg, -⟩ := pm_bif h8
      exact pm_blt (Bool.and_eq_true_iff.mp (Bool.and_eq_true_iff.mp hg).2).1
    · cases h8
  · split at h8
    · split at h8
      · obtain ⟨hg, -⟩ := pm_bif h8
        exact pm_blt (Bool.and_eq_true_iff.mp (Bool.and_eq_true_iff.mp hg).2).2
      · cases h8
    · cases h8
  · cases h8
theorem pn_le400 : ∀ (n d ci pc : Nat) (L : pm_L) (S : List Value) (sw : List (Nat × Nat)) (h : pm_H) (sw' : List (Nat × Nat)) (h' : pm_H), pn_run n d ci pc L S sw h = some (sw', h') → sw.length ≤ 400 → sw'.length ≤ 400 := by
  intro n
  induction n with
  | zero => intro d ci pc L S sw h sw' h' hr; cases hr
  | succ n ih =>
    intro d ci pc L S sw h sw' h' hr h4
    unfold pn_run at hr
    split at hr
    · cases hr
    split at hr
    · exact ih _ _ _ _ _ _ _ _ _ hr h4
    split at hr
    · exact ih _ _ _ _ _ _ _ _ _ hr h4
    split at hr
    · exact ih _ _ _ _ _ _ _ _ _ hr h4
    split at hr
    · exact ih _ _ _ _ _ _ _ _ _ hr h4
    split at hr
    · exact ih _ _ _ _ _ _ _ _ _ hr h4
    split at hr
    · rename_i hmk
      exact ih _ _ _ _ _ _ _ _ _ hr (by rw [List.length_append]; exact pn_mk_400 hmk)
    split at hr
    · split at hr
      · cases hr; exact h4
      · cases hr
    · split at hr
      · split at hr
        · cases hr
        · rename_i cj _ _ d'
          cases hb : Nat.beq cj 7 with
          | true =>
            rw [hb] at hr
            dsimp only [cond] at hr
            split at hr
            · exact ih _ _ _ _ _ _ _ _ _ (pm_bifR hr).2 h4
            · cases hr
          | false =>
            rw [hb] at hr
            dsimp only [cond] at hr
            split at hr
            · have hr := (pm_bifR hr).2
              split at hr
              · rename_i sw2 h2 hc
                exact ih _ _ _ _ _ _ _ _ _ hr (ih _ _ _ _ _ _ _ _ _ hc h4)
              · cases hr
            · cases hr
      · cases hr
    · cases hr
theorem pn_rho_add {rho : Nat → Nat} (hrho : ∀ i, i < 400 → rho (i + 1) = rho i + 1) (n : Nat) : ∀ k, n + k ≤ 400 → rho (n + k) = rho n + k := by
  intro k
  induction k with
  | zero => intro _; rfl
  | succ k ih =>
    intro hk
    rw [show n + (k + 1) = n + k + 1 by omega, hrho _ (by omega), ih (by omega)]
    omega
section PN3
variable {l : Launch} {rho : Nat → Nat} {D : va_G} {cy : Nat → ClassId}
def pn_Bd (l : Launch) (rho : Nat → Nat) (D : va_G) (cy : Nat → ClassId) (n : Nat) : Prop :=
  ∀ (d ci pc : Nat) (L : pm_L) (S : List Value) (sw : List (Nat × Nat)) (h : pm_H) (sw' : List (Nat × Nat)) (h' : pm_H), pn_run n d ci pc L S sw h = some (sw', h') → ci < 7 → 0 < sw.length → sw.length ≤ 400 →
  ∀ (p : Program) (e : Env) (s : State) (m : MethodId) (args : Array Value) (below : List Frame) (meth : Method) (c : Code) (H : Heap) (locs : List Loc) (ls : Array Slot) (A : Nat → Prop) (Qc : Array Value → State → Outcome → State → Prop) (cells slots mc ms : Nat),
  p.tables.exec = Jvm.exec → c.code = pn_by ci → c.maxLocals = pn_mx ci → s.vm.findClass (pm_on ci) = some m.cls → (∀ w ∈ pn_ws ci, w.before args s = true) → meth.sig.returnType = none → meth.locks = false → meth.name = "<init>" →
  va_K D pm_cl (pm_tys cy) s → va_P D pm_cl (pm_W cy rho sw h) H → va_D A (pm_W cy rho sw h) → va_S A s.heap H locs → (∀ q, s.heap.size ≤ q → A q) → pm_KS rho A s s.heap → va_AO "QuietChecker$Kind" s → lv_has ls (pn_mx ci) (pm_cL rho L) →
  rho sw.length = s.heap.size + cells → cells + (sw'.length - sw.length) = mc → slots + (pn_tot sw' - pn_tot sw) = ms →
  (∀ (t : State) (locs1 : List Loc), s.WarmedH t.vm → va_P D pm_cl (pm_W cy rho sw' h') t.heap → va_D A (pm_W cy rho sw' h') → va_S A s.heap t.heap locs1 → Qc args s (.returned none) t) →
  W p l e (pn_rm d mc ms) s m args below meth c H locs cells slots (MQ below Qc args s mc ms A) (F0 m pc ls (pm_cS rho S))
/-- before a constructor, and behind it -/
def pn_B (rho : Nat → Nat) (D : va_G) (cy : Nat → ClassId) (sw : List (Nat × Nat)) (h : pm_H) (U : State) : Prop := pm_B rho D cy sw h (rho sw.length) U ∧ va_AO "QuietChecker$Kind" U
def pn_Q (rho : Nat → Nat) (D : va_G) (cy : Nat → ClassId) (sw : List (Nat × Nat)) (h : pm_H) (sw' : List (Nat × Nat)) (h' : pm_H) : Array Value → State → Outcome → State → Prop := fun _ st o t =>
  o = .returned none ∧ (va_P D pm_cl (pm_W cy rho sw' h') t.heap ∧ va_D (va_A (pm_W cy rho sw h) (rho sw.length)) (pm_W cy rho sw' h')) ∧ va_F (va_A (pm_W cy rho sw h) (rho sw.length)) st t
theorem pn_met_of {n d cj : Nat} {as : List Value} {sw sw' : List (Nat × Nat)} {h h' : pm_H} (hB : pn_Bd l rho D cy n) (hrun : pn_run n d cj 0 (lv_args 0 as) [] sw h = some (sw', h')) (hj : cj < 7) (hl0 : 0 < sw.length) (h400 : sw.length ≤ 400) (hfit : (lg_sl as).length ≤ pn_mx cj) :
    Met l (pn_nm cj) (pn_ws cj) (pn_rm d (sw'.length - sw.length) (pn_tot sw' - pn_tot sw)) (va_Pc (pm_cS rho as) (pn_B rho D cy sw h)) (pn_Q rho D cy sw h sw' h') (sw'.length - sw.length) (pn_tot sw' - pn_tot sw) (va_A (pm_W cy rho sw h) (rho sw.length)) := by
  have hA1 := List.all_eq_true.mp pn_mA cj (List.mem_range.mpr hj)
  simp only [Bool.and_eq_true, decide_eq_true_eq] at hA1
  obtain ⟨-, -, -, hfor, hcls, hini, -, -, -, -, -⟩ := hA1
  refine pm_ofW (cc := pn_by cj) (maxL := pn_mx cj) (ret := none) hfor rfl ?_
  intro p e s m args below meth c s₁ B hml hv
  obtain ⟨rfl, ⟨hsz, hP, hK, hD0, hKS⟩, hAO⟩ := hv
  have hown : s.vm.findClass (pm_on cj) = some m.cls := by
    rw [← hcls]
    exact findClass_of_methodNamed B.named
  have hin : meth.name = "<init>" := by
    rw [(name_of_methodNamed B.named B.method).1]
    exact hini
  have hl := lv_entry (pm_cS rho as) (n := pn_mx cj) (by rw [pm_sl_len]; exact hfit)
  rw [pm_args_c] at hl
  rw [lg_entry_eq]
  refine hB d cj 0 (lv_args 0 as) [] sw h sw' h' hrun hj hl0 h400 p e s m _ below meth c s.heap [] _ (va_A (pm_W cy rho sw h) (rho sw.length)) _ 0 0 _ _ B.exec B.bytes hml hown (atoms_spec (ws := pn_ws cj) B.pre) B.returns B.notSynchronized hin hK hP hD0.self va_S.rf (fun q hq => Or.inr (by rw [← hsz]; exact hq)) hKS hAO hl (by rw [hsz]; rfl) (by omega) (by omega) ?_
  intro t locs1 _ hP1 hD1 hS1
  exact ⟨rfl, ⟨hP1, hD1⟩, hS1.F rfl⟩
theorem pn_blind {as : List Value} {sw : List (Nat × Nat)} {h : pm_H} : FrameBlind (va_Pc (pm_cS rho as) (pn_B rho D cy sw h)) := by
  intro a U g mk q
  obtain ⟨h1, ⟨h2, h3, h4, h5, h6⟩, h7⟩ := q
  exact ⟨h1, ⟨h2, h3, va_K.moved (u := U) (U := U.calling g mk a) (Vm.Alike.refl U.vm) h4, h5, pm_KS.moved (u := U) (U := U.calling g mk a) (Vm.Alike.refl U.vm) h6⟩, h7⟩
theorem pn_goodIn {ci cj : Nat} (hj : cj < 7) : GoodIn (pn_ws ci) (pn_ws cj) := by
  intro w hw
  have hw2 : w ∈ pm_G := by
    rcases List.mem_cons.mp hw with rfl | h1
    · exact pn_G_all hj
    · exact h1
  exact ⟨List.mem_cons_of_mem _ hw2, pm_good_G w hw2⟩
set_option maxHeartbeats 4000000 in
theorem pn_body (hrho : ∀ i, i < 400 → rho (i + 1) = rho i + 1) : ∀ n, pn_Bd l rho D cy n := by
  intro n
  induction n with
  | zero => intro d ci pc L S sw h sw' h' hrun; cases hrun
  | succ n ih =>
    intro d ci pc L S sw h sw' h' hrun hci hl0 h400 p e s m args below meth c H locs ls A Qc cells slots mc ms hx hb hml hown hts hrt hlk hin hK hP hD hS hA hKS hAO hl hcnt hmc hms hQ
    have hG : ∀ w ∈ pm_G, w ∈ pn_ws ci := fun w hw => List.mem_cons_of_mem _ hw
    obtain ⟨hmo1, hmo2⟩ := pn_mono _ _ _ _ _ _ _ _ _ _ hrun
    unfold pn_run at hrun
    cases hfd : pm_fd (pn_code ci) pc with
    | none => rw [hfd] at hrun; cases hrun
    | some i =>
      rw [hfd] at hrun
      dsimp only at hrun
      obtain ⟨len, hdec, hlen⟩ := pn_decode hci hfd
      have hd1 : pm_ln i ≠ 0 → decode (pn_by ci) pc = .ok (i, pm_ln i) := fun z => by
        rcases hlen with h1 | h1
        · exact absurd h1 z
        · rw [hdec, h1]
      cases h1 : pm_push i L with
      | some v1 =>
        rw [h1] at hrun
        exact pm_push_snd hx hb (hd1 (fun z => by unfold pm_push at h1; split at h1 <;> first | cases z | cases h1)) hl h1 (ih _ _ _ _ _ _ _ _ _ hrun hci hl0 h400 p e s m args below meth c H locs ls A Qc cells slots mc ms hx hb hml hown hts hrt hlk hin hK hP hD hS hA hKS hAO hl hcnt hmc hms hQ)
      | none =>
        rw [h1] at hrun
        dsimp only at hrun
        cases h2 : pm_ari i S with
        | some S1 =>
          rw [h2] at hrun
          exact pm_ari_snd hx hb (hd1 (fun z => by unfold pm_ari at h2; split at h2 <;> first | cases z | cases h2)) h2 (ih _ _ _ _ _ _ _ _ _ hrun hci hl0 h400 p e s m args below meth c H locs ls A Qc cells slots mc ms hx hb hml hown hts hrt hlk hin hK hP hD hS hA hKS hAO hl hcnt hmc hms hQ)
        | none =>
          rw [h2] at hrun
          dsimp only at hrun
          cases h5 : pm_read i sw ci h S with
          | some S1 =>
            rw [h5] at hrun
            exact pm_read_snd hx hb hts hG hown hK hP hS hKS (hd1 (pm_read_ln h5)) h5 (ih _ _ _ _ _ _ _ _ _ hrun hci hl0 h400 p e s m args below meth c H locs ls A Qc cells slots mc ms hx hb hml hown hts hrt hlk hin hK hP hD hS hA hKS hAO hl hcnt hmc hms hQ)
          | none =>
            rw [h5] at hrun
            dsimp only at hrun
            cases h6 : pm_write i sw ci h S with
            | some q =>
              obtain ⟨h1', S1⟩ := q
              rw [h6] at hrun
              exact pm_write_snd hx hb hts hG hown hK hP hD hS hKS (hd1 (fun z => by unfold pm_write at h6; split at h6 <;> first | cases z | cases h6)) h6 (fun H1 locs1 hP1 hD1 hS1 => ih _ _ _ _ _ _ _ _ _ hrun hci hl0 h400 p e s m args below meth c H1 locs1 ls A Qc cells slots mc ms hx hb hml hown hts hrt hlk hin hK hP1 hD1 hS1 hA hKS hAO hl hcnt hmc hms hQ)
            | none =>
              rw [h6] at hrun
              dsimp only at hrun
              cases h7 : pn_put i sw ci h S with
              | some q =>
                obtain ⟨h1', S1⟩ := q
                rw [h7] at hrun
                exact pn_put_snd hx hb hts hG hown hin hK hP hD hS (hd1 (fun z => by unfold pn_put at h7; split at h7 <;> first | cases z | cases h7)) h7 (fun H1 locs1 hP1 hD1 hS1 => ih _ _ _ _ _ _ _ _ _ hrun hci hl0 h400 p e s m args below meth c H1 locs1 ls A Qc cells slots mc ms hx hb hml hown hts hrt hlk hin hK hP1 hD1 hS1 hA hKS hAO hl hcnt hmc hms hQ)
              | none =>
                rw [h7] at hrun
                dsimp only at hrun
                cases h8 : pn_mk i ci sw S with
                | some q =>
                  obtain ⟨sh, S1⟩ := q
                  rw [h8] at hrun
                  dsimp only at hrun
                  have hln : sw.length < 400 := pn_mk_400 h8
                  obtain ⟨m1, m2⟩ := pn_mono _ _ _ _ _ _ _ _ _ _ hrun
                  rw [List.length_append, List.length_singleton] at m1
                  rw [pn_tot_app] at m2
                  have hts1 : pn_tot [sh] = pn_sz sh := by show pn_sz sh + 0 = _; omega
                  rw [hts1] at m2
                  refine pn_sizes (fun hup => ?_)
                  have hlo : rho (sw.length - 1) < H.size := (hP (sw.length - 1) _ (pm_W_at (by omega))).lt
                  have hr1 := hrho (sw.length - 1) (by omega)
                  rw [show sw.length - 1 + 1 = sw.length by omega] at hr1
                  have hsz : H.size = rho sw.length := by omega
                  refine pn_mk_snd hx hb hts hG hown hK hP hD hS hA hsz hAO (hd1 (fun z => by unfold pn_mk at h8; split at h8 <;> first | cases z | cases h8)) h8 (by show cells + 1 ≤ mc; omega) (by show slots + pn_sz sh ≤ ms; omega) (fun H1 hP1 hD1 hS1 z1 => ?_)
                  exact ih _ _ _ _ _ _ _ _ _ hrun hci (by rw [List.length_append]; omega) (by rw [List.length_append]; exact hln) p e s m args below meth c H1 locs ls A Qc (cells + 1) (slots + pn_sz sh) mc ms hx hb hml hown hts hrt hlk hin hK hP1 hD1 hS1 hA hKS hAO hl (by rw [List.length_append, List.length_singleton, hrho _ hln]; omega) (by rw [List.length_append, List.length_singleton]; omega) (by rw [pn_tot_app, hts1]; omega) hQ
                | none =>
                  rw [h8] at hrun
                  dsimp only at hrun
                  split at hrun
                  · split at hrun
                    · cases hrun
                      have hdg := hd1 (fun z => by cases z)
                      have e1 : cells = mc := by omega
                      have e2 : slots = ms := by omega
                      subst e1
                      subst e2
                      exact W.vret hx hb hrt (fun t ht hW => hQ t locs hW (by rw [ht]; exact hP) hD (by rw [ht]; exact hS)) hS.2.2 hdg hlk
                    · cases hrun
                  · rename_i idx
                    have hdg := hd1 (fun z => by cases z)
                    split at hrun
                    · rename_i cj hiv
                      obtain ⟨hj8, hlink⟩ := pn_iv_ok hiv
                      cases d with
                      | zero => cases hrun
                      | succ d =>
                        dsimp only at hrun
                        cases hb7 : Nat.beq cj 7 with
                        | true =>
                          rw [hb7] at hrun hlink
                          dsimp only [cond] at hrun hlink
                          split at hrun
                          · obtain ⟨g1, hrun⟩ := pm_bifR hrun
                            obtain ⟨w1, w2⟩ := Bool.and_eq_true_iff.mp pn_ob
                            refine W.objInit hx hb hown (hts _ (hG _ hlink)) (hts _ (hG _ (pm_mem w1))) (hts _ (hG _ (pm_mem w2))) rfl (by rw [hml]; exact hl.1) rfl hdg (Nat.succ_le_succ (Nat.zero_le _)) ?_ ?_
                            · have := Nat.le_of_ble_eq_true g1
                              rw [← pm_cats_c rho] at this
                              exact Nat.le_trans (Nat.add_le_add_right (lv_room (m := m) (pc := pc) (ls := ls) (rest := []) this) 12) (show 8 + 12 ≤ (d + 1) * 40 by omega)
                            · exact ih _ _ _ _ _ _ _ _ _ hrun hci hl0 h400 p e s m args below meth c H locs ls A Qc cells slots mc ms hx hb hml hown hts hrt hlk hin hK hP hD hS hA hKS hAO hl hcnt hmc hms hQ
                          · cases hrun
                        | false =>
                          rw [hb7] at hrun hlink
                          dsimp only [cond] at hrun hlink
                          split at hrun
                          · rename_i a S1 hdr
                            obtain ⟨hg, hrun⟩ := pm_bifR hrun
                            obtain ⟨g1, g2⟩ := Bool.and_eq_true_iff.mp hg
                            obtain ⟨g3, g4⟩ := Bool.and_eq_true_iff.mp g1
                            obtain ⟨g5, g6⟩ := Bool.and_eq_true_iff.mp g2
                            have hj := pm_blt g3
                            split at hrun
                            · rename_i sw2 h2 hcal
                              obtain ⟨m1, m2⟩ := pn_mono _ _ _ _ _ _ _ _ _ _ hrun
                              obtain ⟨m3, m4⟩ := pn_mono _ _ _ _ _ _ _ _ _ _ hcal
                              have h402 := pn_le400 _ _ _ _ _ _ _ _ _ _ hcal h400
                              refine pn_sizes (fun hup => ?_)
                              have hlo : rho (sw.length - 1) < H.size := (hP (sw.length - 1) _ (pm_W_at (by omega))).lt
                              have hr1 := hrho (sw.length - 1) (by omega)
                              rw [show sw.length - 1 + 1 = sw.length by omega] at hr1
                              have hsz : H.size = rho sw.length := by omega
                              have hr2 := pn_rho_add hrho sw.length (sw2.length - sw.length) (by omega)
                              rw [show sw.length + (sw2.length - sw.length) = sw2.length by omega] at hr2
                              have hM := pn_met_of (l := l) (rho := rho) (D := D) (cy := cy) ih hcal hj hl0 h400 (Nat.le_of_ble_eq_true g6)
                              have hA1 := List.all_eq_true.mp pn_mA cj (List.mem_range.mpr hj)
                              simp only [Bool.and_eq_true, decide_eq_true_eq] at hA1
                              obtain ⟨w1, w2, -, -, wcls, wini, wpar, wmx, wn1, wn2, -⟩ := hA1
                              have hmx := Nat.le_of_ble_eq_true wmx
                              have hFc : ∀ q, va_A (pm_W cy rho sw h) (rho sw.length) q → A q := by
                                intro q hq
                                rcases hq with ⟨k, en, hk⟩ | hq
                                · exact hD.2 k _ hk
                                · exact hA q (by rw [← hsz] at hq; exact Nat.le_trans hS.1 hq)
                              have hKS1 : pm_KS rho (va_A (pm_W cy rho sw h) (rho sw.length)) s H := (hKS.kept hS.2.1).narrow hFc
                              have hpre : ∀ U : State, U.heap = H → s.WarmedH U.vm → pn_B rho D cy sw h U := by
                                intro U hU hW
                                refine ⟨⟨by rw [hU, hsz], by rw [hU]; exact hP, va_K.moved hW.alike hK, hD.weaken (fun _ _ _ _ => trivial), ?_⟩, va_AO.moved hW.alike hAO⟩
                                rw [hU]
                                exact pm_KS.moved hW.alike hKS1
                              have cb : CallB (pn_rm (d + 1) mc ms) s args (pm_on ci) idx (pn_nm cj) (pn_by cj) (pn_mx cj) none (pn_ws cj) (pn_rm d (sw2.length - sw.length) (pn_tot sw2 - pn_tot sw)) (sw2.length - sw.length) (pn_tot sw2 - pn_tot sw) (pn_np cj) := callB_of (pn_np cj) hts (pn_goodIn hj) rfl rfl rfl (by rw [wcls]; exact hts _ (hG _ (pm_mem w2))) (hts _ (hG _ hlink)) ⟨wn1, wn2, wpar⟩ ⟨Nat.le_refl _, by show 8 + (pn_mx cj + 11) + d * 40 ≤ (d + 1) * 40; omega⟩
                              have hS0 : S = S.take (pn_np cj) ++ .ref a :: S1 := by
                                have := (List.take_append_drop (pn_np cj) S).symm
                                rw [hdr] at this
                                exact this
                              have hrn := va_runI (b := rho a) (As := pm_cS rho (S.take (pn_np cj)).reverse) (rest := pm_cS rho S1) (g := F0 m pc ls (pm_cS rho S)) ⟨hx, hb, hml, hown, hts⟩ hM ⟨cb, wini, hts _ (hG _ (pm_mem w1))⟩ ⟨pn_blind, fun U hU hW => ⟨rfl, hpre U hU hW⟩⟩ rfl (by
                                show (pm_cS rho (S.take (pn_np cj)).reverse).length = _
                                unfold pm_cS
                                rw [List.length_map, List.length_reverse]
                                exact Nat.eq_of_beq_eq_true g4) hl.1 (by
                                show pm_cS rho S = (pm_cS rho (S.take (pn_np cj)).reverse).reverse ++ .ref (rho a) :: pm_cS rho S1
                                rw [pm_cS_rev, List.reverse_reverse]
                                calc pm_cS rho S = pm_cS rho (S.take (pn_np cj) ++ .ref a :: S1) := by rw [← hS0]
                                  _ = _ := pm_cS_app rho _ _) (lv_room (by rw [pm_cats_c]; exact Nat.le_of_ble_eq_true g5)) hdg (locs := locs) (below := below) (e := e) (meth := meth) (cells := cells) (slots := slots) ⟨by show cells + _ ≤ mc; omega, by show slots + _ ≤ ms; omega⟩
                              refine pn_callk (B := fun t => va_P D pm_cl (pm_W cy rho sw2 h2) t.heap ∧ va_D (va_A (pm_W cy rho sw h) (rho sw.length)) (pm_W cy rho sw2 h2)) (A1 := va_A (pm_W cy rho sw h) (rho sw.length)) (v0 := none) hrn ?_ hS (fun q _ z => hFc q z) hFc ?_
                              · intro st w t hq
                                obtain ⟨q1, q2, q3⟩ := hq
                                exact ⟨Outcome.returned.inj q1, q2, q3⟩
                              · intro t locs1 hBt hS1 _ _ _
                                exact ih _ _ _ _ _ _ _ _ _ hrun hci (by omega) h402 p e s m args below meth c t.heap locs1 ls A Qc _ _ mc ms hx hb hml hown hts hrt hlk hin hK hBt.1 (hBt.2.weaken (fun _ q _ z => hFc q.1 z)) hS1 hA hKS hAO hl (by omega) (by omega) (by omega) hQ
                            · cases hrun
                          · cases hrun
                    · cases hrun
                  · cases hrun
end PN3
end
section
/-! What the constructors make: the shapes, and the heap as a chain of steps (written by genctor.py) -/
def pm_h0 : pm_H := (fun _ _ => 0, fun _ _ => 0, fun _ _ => none)
/-- all ints and longs are 0 -/
def pz_Z (h : pm_H) : Prop := h.1 = (fun _ _ => 0) ∧ h.2.1 = (fun _ _ => 0)
theorem pz_h0 : pz_Z pm_h0 := ⟨rfl, rfl⟩
theorem pz_R {h : pm_H} {a k : Nat} {r : Option Nat} (z : pz_Z h) : pz_Z (pm_setR h a k r) := z
theorem pz_up {α : Type} (n : Nat) (z : α) : va_up (fun _ _ => z) n (fun _ => z) = (fun (_ : Nat) (_ : Nat) => z) := by
  funext i
  by_cases h : i = n
  · subst h; rw [va_up_self]
  · rw [va_up_ne _ _ h]
theorem pz_0 {h : pm_H} {n : Nat} (z : pz_Z h) : pz_Z (pn_zero h n) := by
  refine ⟨?_, ?_⟩
  · show va_up h.1 n (fun _ => 0) = _
    rw [z.1, pz_up]
  · show va_up h.2.1 n (fun _ => 0) = _
    rw [z.2, pz_up]
def pm_hC : pm_H := (pm_setR (pm_setR (pn_zero (pm_setR (pn_zero (pm_setR (pn_zero (pm_setR (pn_zero (pm_setR (pm_setR (pn_zero (pm_setR (pn_zero (pm_setR (pn_zero (pm_setR (pn_zero (pm_setR (pn_zero (pm_setR (pn_zero (pm_setR (pm_setR (pm_setR (pm_setR (pn_zero (pm_setR (pn_zero (pm_setR (pn_zero (pm_setR (pn_zero (pm_setR (pm_setR (pn_zero (pm_setR (pn_zero (pm_setR (pn_zero (pm_setR (pn_zero (pm_setR (pn_zero (pm_setR (pn_zero (pm_setR (pm_setR (pn_zero (pm_setR (pn_zero (pm_setR (pn_zero (pm_setR (pn_zero (pm_setR (pn_zero (pm_setR (pm_setR (pn_zero (pm_setR (pn_zero (pm_setR (pn_zero (pm_setR (pn_zero (pm_setR (pn_zero (pm_setR (pn_zero (pm_setR (pm_setR (pn_zero (pm_setR (pn_zero (pm_setR (pn_zero (pm_setR (pn_zero (pm_setR (pn_zero (pn_zero (pm_setR (pn_zero (pn_zero pm_h0 0) 1) 0 0 (some 1)) 2) 3) 2 0 (some 3)) 4) 4 0 (some 3)) 5) 4 1 (some 5)) 6) 4 2 (some 6)) 7) 4 3 (some 7)) 2 2 (some 4)) 8) 2 3 (some 8)) 9) 2 4 (some 9)) 10) 10 0 (some 3)) 11) 10 1 (some 11)) 12) 10 2 (some 12)) 13) 10 3 (some 13)) 2 6 (some 10)) 14) 2 7 (some 14)) 15) 2 8 (some 15)) 16) 2 9 (some 16)) 17) 2 10 (some 17)) 18) 2 11 (some 18)) 0 2 (some 2)) 19) 19 0 (some 2)) 20) 20 5 (some 3)) 21) 20 0 (some 21)) 22) 20 1 (some 22)) 23) 20 2 (some 23)) 24) 20 3 (some 24)) 19 1 (some 20)) 25) 25 0 (some 3)) 26) 25 1 (some 26)) 27) 25 2 (some 27)) 28) 25 3 (some 28)) 19 2 (some 25)) 19 9 (some 1003)) 0 3 (some 19)) 29) 0 4 (some 29)) 30) 0 5 (some 30)) 31) 31 0 (some 2)) 32) 31 1 (some 32)) 33) 31 2 (some 33)) 34) 31 6 (some 34)) 0 6 (some 31)) 35) 35 0 (some 2)) 36) 35 1 (some 36)) 37) 35 2 (some 37)) 38) 35 6 (some 38)) 0 7 (some 35))
set_option maxRecDepth 100000 in
set_option maxHeartbeats 4000000 in
theorem pn_runC : pn_run 400 6 5 0 (lv_args 0 [.ref 0]) [] ([(15, 0)]) (pn_zero pm_h0 0) = some (pm_swC, pm_hC) := by rfl
def pm_hM : pm_H := (pm_setR (pn_zero (pm_setR (pn_zero (pm_setR (pn_zero (pm_setR (pn_zero (pm_setR (pn_zero (pm_setR (pn_zero (pm_setR (pn_zero (pm_setR (pn_zero (pm_setR (pn_zero (pm_setR (pn_zero (pm_setR (pn_zero (pm_setR (pn_zero (pm_setR (pn_zero (pm_setR (pn_zero (pm_setR (pn_zero (pm_setR (pn_zero (pm_setR (pn_zero (pm_setR (pn_zero (pm_setR (pn_zero (pm_setR (pn_zero (pm_setR (pn_zero (pm_setR (pn_zero (pm_setR (pn_zero (pm_setR (pn_zero (pm_setR (pn_zero (pm_setR (pn_zero (pm_setR (pn_zero (pm_setR (pn_zero (pm_setR (pn_zero (pm_setR (pn_zero (pm_setR (pn_zero (pm_setR (pn_zero (pm_setR (pn_zero (pm_setR (pn_zero (pn_zero pm_hC 39) 40) 39 1 (some 40)) 41) 39 2 (some 41)) 42) 39 21 (some 42)) 43) 39 22 (some 43)) 44) 39 23 (some 44)) 45) 39 24 (some 45)) 46) 39 25 (some 46)) 47) 39 26 (some 47)) 48) 39 27 (some 48)) 49) 39 28 (some 49)) 50) 39 29 (some 50)) 51) 39 30 (some 51)) 52) 39 31 (some 52)) 53) 39 32 (some 53)) 54) 39 33 (some 54)) 55) 39 34 (some 55)) 56) 39 35 (some 56)) 57) 39 36 (some 57)) 58) 39 39 (some 58)) 59) 39 40 (some 59)) 60) 39 41 (some 60)) 61) 39 45 (some 61)) 62) 39 46 (some 62)) 63) 39 47 (some 63)) 64) 39 48 (some 64)) 65) 39 49 (some 65)) 66) 39 55 (some 66)) 67) 39 56 (some 67)) 68) 39 57 (some 68)) 69) 39 59 (some 69)) 70) 39 60 (some 70)) 71) 39 61 (some 71)) 72) 39 62 (some 72)) 73) 39 63 (some 73))
set_option maxRecDepth 100000 in
set_option maxHeartbeats 4000000 in
theorem pn_runM : pn_run 400 6 6 0 (lv_args 0 [.ref 39]) [] (pm_swC ++ [(16, 0)]) (pn_zero pm_hC 39) = some (pm_swC ++ pm_swM, pm_hM) := by rfl
/-- the whole world: the class, the model, the law's array of one long -/
def pm_swA : List (Nat × Nat) := pm_swC ++ pm_swM ++ [(4, 1)]
def pm_hA : pm_H := pn_zero pm_hM 74
def pm_PA : List (Nat × Nat × Nat) := [(0, 0, 1), (0, 2, 2), (0, 3, 19), (0, 4, 29), (0, 5, 30), (0, 6, 31), (0, 7, 35), (2, 0, 3), (2, 2, 4), (2, 3, 8), (2, 4, 9), (2, 6, 10), (2, 7, 14), (2, 8, 15), (2, 9, 16), (2, 10, 17), (2, 11, 18), (4, 0, 3), (4, 1, 5), (4, 2, 6), (4, 3, 7), (10, 0, 3), (10, 1, 11), (10, 2, 12), (10, 3, 13), (19, 0, 2), (19, 1, 20), (19, 2, 25), (19, 9, 1003), (20, 0, 21), (20, 1, 22), (20, 2, 23), (20, 3, 24), (20, 5, 3), (25, 0, 3), (25, 1, 26), (25, 2, 27), (25, 3, 28), (31, 0, 2), (31, 1, 32), (31, 2, 33), (31, 6, 34), (35, 0, 2), (35, 1, 36), (35, 2, 37), (35, 6, 38), (39, 1, 40), (39, 2, 41), (39, 21, 42), (39, 22, 43), (39, 23, 44), (39, 24, 45), (39, 25, 46), (39, 26, 47), (39, 27, 48), (39, 28, 49), (39, 29, 50), (39, 30, 51), (39, 31, 52), (39, 32, 53), (39, 33, 54), (39, 34, 55), (39, 35, 56), (39, 36, 57), (39, 39, 58), (39, 40, 59), (39, 41, 60), (39, 45, 61), (39, 46, 62), (39, 47, 63), (39, 48, 64), (39, 49, 65), (39, 55, 66), (39, 56, 67), (39, 57, 68), (39, 59, 69), (39, 60, 70), (39, 61, 71), (39, 62, 72), (39, 63, 73)]
set_option maxRecDepth 100000 in
theorem pm_PA_ok : pm_PA.all (fun q => decide (pm_hA.2.2 q.1 q.2.1 = some q.2.2)) = true := by decide +kernel
theorem pz_C : pz_Z pm_hC := (pz_R (pz_R (pz_0 (pz_R (pz_0 (pz_R (pz_0 (pz_R (pz_0 (pz_R (pz_R (pz_0 (pz_R (pz_0 (pz_R (pz_0 (pz_R (pz_0 (pz_R (pz_0 (pz_R (pz_0 (pz_R (pz_R (pz_R (pz_R (pz_0 (pz_R (pz_0 (pz_R (pz_0 (pz_R (pz_0 (pz_R (pz_R (pz_0 (pz_R (pz_0 (pz_R (pz_0 (pz_R (pz_0 (pz_R (pz_0 (pz_R (pz_0 (pz_R (pz_R (pz_0 (pz_R (pz_0 (pz_R (pz_0 (pz_R (pz_0 (pz_R (pz_0 (pz_R (pz_R (pz_0 (pz_R (pz_0 (pz_R (pz_0 (pz_R (pz_0 (pz_R (pz_0 (pz_R (pz_0 (pz_R (pz_R (pz_0 (pz_R (pz_0 (pz_R (pz_0 (pz_R (pz_0 (pz_R (pz_0 (pz_0 (pz_R (pz_0 (pz_0 pz_h0)))))))))))))))))))))))))))))))))))))))))))))))))))))))))))))))))))))))))))))))))))))
theorem pz_M : pz_Z pm_hM := (pz_R (pz_0 (pz_R (pz_0 (pz_R (pz_0 (pz_R (pz_0 (pz_R (pz_0 (pz_R (pz_0 (pz_R (pz_0 (pz_R (pz_0 (pz_R (pz_0 (pz_R (pz_0 (pz_R (pz_0 (pz_R (pz_0 (pz_R (pz_0 (pz_R (pz_0 (pz_R (pz_0 (pz_R (pz_0 (pz_R (pz_0 (pz_R (pz_0 (pz_R (pz_0 (pz_R (pz_0 (pz_R (pz_0 (pz_R (pz_0 (pz_R (pz_0 (pz_R (pz_0 (pz_R (pz_0 (pz_R (pz_0 (pz_R (pz_0 (pz_R (pz_0 (pz_R (pz_0 (pz_R (pz_0 (pz_R (pz_0 (pz_R (pz_0 (pz_R (pz_0 (pz_R (pz_0 (pz_0 pz_C)))))))))))))))))))))))))))))))))))))))))))))))))))))))))))))))))))))
theorem pz_A : pz_Z pm_hA := pz_0 pz_M
end
section
/-! ===== BEGIN exceptions that leave a method, and their catching by the caller (launches without stack traces) ===== -/
section VXA
/-! The laws vx_back, vx_callV, vx_callS, vx_callSW, vx_throw0, vx_throwS follow proofs of the library, with one case more: JvmDerived/Free/Laws.lean (Back.of_free), Shelf42/LK1.lean (callV, callS), Shelf/KitTraced.lean (throwNew0V, throwNewS). -/
/-- where a method has thrown q: the class by its name, the cell, what was written, the world -/
def vx_T (XC : String → State → State → Prop) (st : State) (q : Addr) (t : State) (mc ms : Nat) (free : Addr → Prop) : Prop :=
  ∃ (E : String) (ce : Cell) (L : List Loc), XC E st t ∧ t.heap[q]? = some ce ∧ ce.vm = .none ∧ st.vm.findClass E = some ce.cls ∧ st.WarmedH t.vm ∧ st.sameButNew ({ t with vm := st.vm } : State) L mc ms ∧ ∀ z ∈ L, free z.base
def vx_Q (Qc : Array Value → State → Outcome → State → Prop) (XC : String → State → State → Prop) (mc ms : Nat) (free : Addr → Prop) : Array Value → State → Outcome → State → Prop := fun a st o t =>
  (Qc a st o t ∧ ∃ L, FrameEnd st o t L mc ms ∧ ∀ q ∈ L, free q.base) ∨ ∃ q, o = .threw q ∧ vx_T XC st q t mc ms free
/-- a callee that returns or throws -/
def vx_Met (l : Launch) (y : MethodName) (ws : List Cond) (rm : Room) (Pc : Array Value → State → Prop) (Qc : Array Value → State → Outcome → State → Prop) (XC : String → State → State → Prop) (mc ms : Nat) (free : Addr → Prop) : Prop :=
  MetFree l y (headSpec ws rm) Pc (fun _ _ _ _ _ => True) (vx_Q Qc XC mc ms free)
def vx_Post (XC : String → State → State → Prop) (mc ms : Nat) (free : Addr → Prop) : Pt → Array Value → Addr → Pt → Prop := fun A a q B =>
  ∃ (g : JFrame) (mk : MethodId) (t : State) (L : List Loc) (E : String) (ce : Cell), B.U.heap = t.heap ∧ B.U.vm = t.vm ∧ XC E (A.U.calling g mk a) t ∧ t.heap[q]? = some ce ∧ ce.vm = .none ∧ A.U.vm.findClass E = some ce.cls ∧ B.locs = A.locs ++ L ∧ (∀ z ∈ L, free z.base) ∧ B.cells = A.cells + mc ∧ B.slots = A.slots + ms
def vx_Back (l : Launch) (R : Room) (p : Program) (e : Env) (below : List Frame) (s : State) (sargs : Array Value) (y : MethodName) (len W9 : Nat)
    (Pre : Pt → Array Value → Prop) (Post : Pt → Array Value → Option Value → Pt → Prop) (PostX : Pt → Array Value → Addr → Pt → Prop) : Prop :=
  ∀ (m : MethodId) (meth : Method) (c : Code) (A : Pt) (g : JFrame) (ig : Instr) (mk : MethodId) (a : Array Value),
    Stand p l e R s m sargs below meth c A.U A.locs A.cells A.slots → g.method = m → g.locals.size = c.maxLocals → decode c.code g.pc = .ok (ig, len) →
    2 * g.monitorRoom + (g.stack.map fun v => v.category).sum ≤ W9 → A.U.methodNamed? y = some mk → Pre A a →
    (∃ (v : Option Value) (B : Pt), Stand p l e R s m sargs below meth c B.U B.locs B.cells B.slots ∧ Post A a v B ∧
      Steps p.tables e below (doInvoke e (A.U.setTop g) [] mk a).1 (B.U.setTop { g with pc := g.pc + len, stack := v.toList ++ g.stack })) ∨
    (∃ (q : Addr) (B : Pt), Stand p l e R s m sargs below meth c B.U B.locs B.cells B.slots ∧ PostX A a q B ∧
      Steps p.tables e below (doInvoke e (A.U.setTop g) [] mk a).1 ((B.U.setTop g).pushFrame (.throwing q)))
section Payer
variable {l : Launch} {R : Room} {p : Program} {e : Env} {below : List Frame} {s : State} {sargs : Array Value} {y : MethodName} {len W9 : Nat}
theorem vx_back {ws : List Cond} {rm : Room} {Pc : Array Value → State → Prop} {Qc : Array Value → State → Outcome → State → Prop} {XC : String → State → State → Prop} {mc ms : Nat} {free : Addr → Prop} {bytes : ByteArray} {maxL : Nat} {ret : Option FieldType}
    (hM : vx_Met l y ws rm Pc Qc XC mc ms free) (hblind : FrameBlind Pc) (hrc : rm.cells = mc) (hrs : rm.slots = ms)
    (hframes : rm.frames + 1 ≤ R.frames) (hlocals : W9 + (maxL + 11) + rm.locals ≤ R.locals)
    (hws : ∀ w ∈ ws, ∀ a' U, s.WarmedH U.vm → w.before a' U = true) (hcode : Cond.code y bytes maxL ret ∈ ws) (hinit : ∀ a' U, s.WarmedH U.vm → (Cond.initialized y.cls).before a' U = true) :
    vx_Back l R p e below s sargs y len W9 (PreOf R mc ms Pc) (PostOf Qc mc ms free) (vx_Post XC mc ms free) := by
  intro m meth c A g ig mk a X hg hsize hdg hW hn hp
  have h1 : (headSpec ws rm).pre.before a A.U = true := atoms_intro fun w hw => hws w hw _ _ X.warmed
  have h2 : (Cond.code y bytes maxL ret).before a A.U = true := hws _ hcode _ _ X.warmed
  have h3 : (Cond.initialized y.cls).before a A.U = true := hinit _ _ X.warmed
  have h4 : A.cells + (headSpec ws rm).room.cells ≤ R.cells := by rw [show (headSpec ws rm).room.cells = mc from hrc]; exact hp.1
  have h5 : A.slots + (headSpec ws rm).room.slots ≤ R.slots := by rw [show (headSpec ws rm).room.slots = ms from hrs]; exact hp.2.1
  have hPc : Pc a (A.U.calling g mk a) := hblind _ _ _ _ hp.2.2
  obtain ⟨U, Ls, c0, s0⟩ := A
  dsimp only [Pt.U, Pt.locs, Pt.cells, Pt.slots] at h1 h2 h3 h4 h5 X hn hPc ⊢
  obtain ⟨methY, cY, hmY, hcY, -, hlY, -, -, -, -⟩ := Cond.code_spec hn h2
  obtain ⟨kY, hkY, -⟩ := className_of_methodNamed hn
  have hinitY : kY.init = .initialized := Cond.initialized_spec (findClass_of_methodNamed hn) hkY h3
  have h : At U g.method c below := by rw [hg]; exact X.here
  have hlocals9 : W9 + (maxL + 11) + (headSpec ws rm).room.locals ≤ R.locals := hlocals
  have happ : (headSpec ws rm).appliesLoose y e.platform (U.calling g mk a) = true :=
    Spec.appliesLoose_calling (g := g) h hdg hn hkY hinitY
      (X.room_calling (g := g) (R' := (headSpec ws rm).room) hsize hmY hcY hframes (by rw [hlY]; omega) h4 h5) h1
  obtain ⟨mid, hmid⟩ := h.above
  have hfr : (U.setTop g).frames = (.java g :: mid) ++ below := by rw [State.frames_setTop' g h.top, hmid]; rfl
  obtain ⟨o, s₂, hsteps, -, hend, hq⟩ := Steps.callFree hM p X.admits X.cas X.clock (acts := []) hfr happ hPc trivial
  have hq' : vx_Q Qc XC mc ms free a (U.calling g mk a) o s₂ := hq
  rw [State.frames_setTop' g h.top] at hend
  obtain ⟨g₀, hg0⟩ := Option.isSome_iff_exists.mp h.top
  obtain ⟨r, hr⟩ := State.topJava?_eq_some.mp hg0
  have hr' : (({ U with heap := s₂.heap, slotsUsed := s₂.slotsUsed } : State).setVm s₂.vm).frames = .java g₀ :: r := hr
  rcases hq' with ⟨hqc, L, hfe, hL⟩ | ⟨q, rfl, E, ce, L, hx, hce, hcv, hcl, hW₂, hsm, hL⟩
  · obtain ⟨⟨v, rfl⟩, hW₂, e2, q2, q3, q4, q5, q6⟩ := id hfe
    have e3 : s₂ = ({ (U.calling g mk a).setFrames s₂.frames with heap := s₂.heap, slotsUsed := s₂.slotsUsed } : State).setVm s₂.vm := by
      have : s₂ = ({ s₂ with vm := (U.calling g mk a).vm } : State).setVm s₂.vm := rfl
      rw [e2] at this
      exact this
    obtain ⟨c₂, i₂, len₂, hc₂, hd₂, hf₂⟩ := hend
    have hW' : U.WarmedH s₂.vm := hW₂
    have hcc : c₂ = c := by
      have h1 : s₂.code? g.method = U.code? g.method := by
        rw [State.code?_eq, State.code?_eq, hW'.alike.method?]
      exact Option.some.inj (hc₂.symm.trans (h1.trans h.code))
    subst hcc
    have hlen : len₂ = len := by rw [hdg] at hd₂; cases hd₂; rfl
    subst hlen
    have hs₂ : s₂ = (({ U with heap := s₂.heap, slotsUsed := s₂.slotsUsed } : State).setVm s₂.vm).setTop { g with pc := g.pc + len₂, stack := v.toList ++ g.stack } := by
      refine e3.trans ?_
      rw [hf₂, State.calling_eq h.top, State.setFrames_setFrames, State.setTop_of_frames _ hr', hr]
      rfl
    have hsame : U.sameButNew ({ U with heap := s₂.heap, slotsUsed := s₂.slotsUsed } : State) L mc ms := by
      refine ⟨?_, q2, q3, q4, q5, q6⟩
      obtain ⟨t, ht, -⟩ := State.frames_cons hr
      show ({ U with heap := s₂.heap, slotsUsed := s₂.slotsUsed } : State) = { U.setFrames U.frames with heap := s₂.heap, slotsUsed := s₂.slotsUsed }
      rw [State.setFrames_self ht]
    subst hg
    refine Or.inl ⟨v, ⟨(({ U with heap := s₂.heap, slotsUsed := s₂.slotsUsed } : State).setVm s₂.vm), Ls ++ L, c0 + mc, s0 + ms⟩,
      ⟨X.admits, X.cas, X.clock, X.frames, X.room, X.hears, X.method, X.code, (X.here.setHeapUsed s₂.heap s₂.slotsUsed).setVm hW'.alike, X.tail, State.WarmedH.trans X.warmed hW', X.limits, X.bytes, X.same.trans (hsame.setVm s.vm)⟩,
      ⟨g, mk, s₂, L, rfl, rfl, hqc, rfl, hL, rfl, rfl⟩, ?_⟩
    show Steps p.tables e below _ ((({ U with heap := s₂.heap, slotsUsed := s₂.slotsUsed } : State).setVm s₂.vm).setTop { g with pc := g.pc + len₂, stack := v.toList ++ g.stack })
    rw [← hs₂]
    exact hsteps
  · obtain ⟨e2, q2, q3, q4, q5, q6⟩ := id hsm
    have e3 : s₂ = ({ (U.calling g mk a).setFrames s₂.frames with heap := s₂.heap, slotsUsed := s₂.slotsUsed } : State).setVm s₂.vm := by
      have : s₂ = ({ s₂ with vm := (U.calling g mk a).vm } : State).setVm s₂.vm := rfl
      rw [e2] at this
      exact this
    have hf₂ : s₂.frames = .throwing q :: .java g :: U.frames.tail := hend
    have hW' : U.WarmedH s₂.vm := hW₂
    have hs₂ : s₂ = ((({ U with heap := s₂.heap, slotsUsed := s₂.slotsUsed } : State).setVm s₂.vm).setTop g).pushFrame (.throwing q) := by
      refine e3.trans ?_
      rw [hf₂, State.calling_eq h.top, State.setFrames_setFrames, State.pushFrame, State.frames_setTop _ hr', State.setTop_of_frames _ hr', State.setFrames_setFrames, hr]
      rfl
    have hsame : U.sameButNew ({ U with heap := s₂.heap, slotsUsed := s₂.slotsUsed } : State) L mc ms := by
      refine ⟨?_, q2, q3, q4, q5, q6⟩
      obtain ⟨t, ht, -⟩ := State.frames_cons hr
      show ({ U with heap := s₂.heap, slotsUsed := s₂.slotsUsed } : State) = { U.setFrames U.frames with heap := s₂.heap, slotsUsed := s₂.slotsUsed }
      rw [State.setFrames_self ht]
    subst hg
    refine Or.inr ⟨q, ⟨(({ U with heap := s₂.heap, slotsUsed := s₂.slotsUsed } : State).setVm s₂.vm), Ls ++ L, c0 + mc, s0 + ms⟩,
      ⟨X.admits, X.cas, X.clock, X.frames, X.room, X.hears, X.method, X.code, (X.here.setHeapUsed s₂.heap s₂.slotsUsed).setVm hW'.alike, X.tail, State.WarmedH.trans X.warmed hW', X.limits, X.bytes, X.same.trans (hsame.setVm s.vm)⟩,
      ⟨g, mk, s₂, L, E, ce, rfl, rfl, hx, hce, hcv, hcl, rfl, hL, rfl, rfl⟩, ?_⟩
    show Steps p.tables e below _ (((({ U with heap := s₂.heap, slotsUsed := s₂.slotsUsed } : State).setVm s₂.vm).setTop g).pushFrame (.throwing q))
    rw [← hs₂]
    exact hsteps
end Payer
section Calls
variable {p : Program} {l : Launch} {e : Env} {R : Room} {s : State} {m : MethodId} {args : Array Value} {below : List Frame} {meth : Method} {c : Code} {T : State} {locs : List Loc} {cells slots : Nat}
theorem vx_callV (X : Stand p l e R s m args below meth c T locs cells slots) (hexec : p.tables.exec = Jvm.exec) {own C : String} {index : Nat} {y : MethodName} {bytes : ByteArray} {maxL : Nat} {ret : Option FieldType}
    (hown : s.vm.findClass own = some m.cls) (hlink : (Cond.methodLink own index y).before args s = true) (hinst : (Cond.instanceMethod y).before args s = true) (hsel : (Cond.selects C y y).before args s = true)
    (hcode : (Cond.code y bytes maxL ret).before args s = true) (hy : y.cls ≠ "java/lang/invoke/MethodHandle" ∧ y.cls ≠ "java/lang/invoke/VarHandle")
    {W9 : Nat} {Pre : Pt → Array Value → Prop} {Post : Pt → Array Value → Option Value → Pt → Prop} {PostX : Pt → Array Value → Addr → Pt → Prop} (hK : vx_Back l R p e below s args y 3 W9 Pre Post PostX)
    {b : Addr} {cellB : Cell} (hcell : T.heap[b]? = some cellB) (hobj : cellB.vm.isStatics = false) (hcls : s.vm.findClass C = some cellB.cls)
    {g : JFrame} (hg : g.method = m) (hsize : g.locals.size = c.maxLocals) {argsL rest : List Value} (hlen : ∀ sig, parseMethodDescriptor y.desc = some sig → argsL.length = sig.parameters.length)
    (hstack : g.stack = argsL.reverse ++ .ref b :: rest) (hW : 2 * g.monitorRoom + (rest.map fun v => v.category).sum ≤ W9) (hdg : decode c.code g.pc = .ok (.invokevirtual index, 3))
    (hpre : ∀ vm₁, s.WarmedH vm₁ → Pre ⟨T.setVm vm₁, locs, cells, slots⟩ (Value.ref b :: argsL).toArray) :
    (∃ (v : Option Value) (vm₁ : Vm) (B : Pt), s.WarmedH vm₁ ∧ Stand p l e R s m args below meth c B.U B.locs B.cells B.slots ∧ Post ⟨T.setVm vm₁, locs, cells, slots⟩ (Value.ref b :: argsL).toArray v B ∧
      ∀ target, Steps p.tables e below (B.U.setTop { g with pc := g.pc + 3, stack := v.toList ++ rest }) target → Steps p.tables e below (T.setTop g) target) ∨
    (∃ (q : Addr) (vm₁ : Vm) (B : Pt), s.WarmedH vm₁ ∧ Stand p l e R s m args below meth c B.U B.locs B.cells B.slots ∧ PostX ⟨T.setVm vm₁, locs, cells, slots⟩ (Value.ref b :: argsL).toArray q B ∧
      Steps p.tables e below (T.setTop g) ((B.U.setTop { g with stack := rest }).pushFrame (.throwing q))) := by
  obtain ⟨mk, methM, hnamed, hmethM, hstM, habM⟩ := Cond.instanceMethod_spec hinst
  obtain ⟨methM', cM, hmethM', -, -, -, -, -, -, hsigM⟩ := Cond.code_spec hnamed hcode
  cases hmethM.symm.trans hmethM'
  obtain ⟨c2, r2, m2, q1, q2, q3, q4, kP, hkP, hkPi⟩ := Cond.selects_spec hsel
  cases hcls.symm.trans q1
  cases (State.methodFound?_of_named hnamed hy).symm.trans q2
  cases hnamed.symm.trans q3
  have hselP : selectMethod e.platform s.vm cellB.cls mk = .method mk := by rw [Launch.admits_selectMethod X.admits]; exact q4
  obtain ⟨vm₁, X₁, hstep₁⟩ := X.invokevirtual hexec hown hlink hnamed hmethM hstM hkP hkPi hy (a := b) (cell := cellB) hcell
    (fun z h => by rw [h] at hobj; cases hobj) hselP hmethM habM hkP hkPi (g := g) hg (argsL := argsL) (rest := rest) (hlen _ hsigM) hstack hdg
  rcases hK m meth c ⟨T.setVm vm₁, locs, cells, slots⟩ { g with stack := rest } (.invokevirtual index) mk (Value.ref b :: argsL).toArray X₁ hg hsize hdg hW (X₁.named hnamed) (hpre vm₁ X₁.warmed) with ⟨v, B, X', hpost, hsteps⟩ | ⟨q, B, X', hpost, hsteps⟩
  · exact Or.inl ⟨v, vm₁, B, X₁.warmed, X', hpost, fun target h => hstep₁ _ fun acts => by rw [doInvoke_state]; exact hsteps.trans h⟩
  · exact Or.inr ⟨q, vm₁, B, X₁.warmed, X', hpost, hstep₁ _ fun acts => by rw [doInvoke_state]; exact hsteps⟩
theorem vx_callS (X : Stand p l e R s m args below meth c T locs cells slots) (hexec : p.tables.exec = Jvm.exec) {own : String} {index : Nat} {y : MethodName} {bytes : ByteArray} {maxL : Nat} {ret : Option FieldType}
    (hown : s.vm.findClass own = some m.cls) (hlink : (Cond.methodLink own index y).before args s = true) (hstat : (Cond.static y).before args s = true) (hinit : (Cond.initialized y.cls).before args s = true)
    (hcode : (Cond.code y bytes maxL ret).before args s = true) (hy : y.cls ≠ "java/lang/invoke/MethodHandle" ∧ y.cls ≠ "java/lang/invoke/VarHandle")
    {W9 : Nat} {Pre : Pt → Array Value → Prop} {Post : Pt → Array Value → Option Value → Pt → Prop} {PostX : Pt → Array Value → Addr → Pt → Prop} (hK : vx_Back l R p e below s args y 3 W9 Pre Post PostX)
    {g : JFrame} (hg : g.method = m) (hsize : g.locals.size = c.maxLocals) {argsL rest : List Value} (hlen : ∀ sig, parseMethodDescriptor y.desc = some sig → argsL.length = sig.parameters.length)
    (hstack : g.stack = argsL.reverse ++ rest) (hW : 2 * g.monitorRoom + (rest.map fun v => v.category).sum ≤ W9) (hdg : decode c.code g.pc = .ok (.invokestatic index, 3))
    (hpre : ∀ vm₁, s.WarmedH vm₁ → Pre ⟨T.setVm vm₁, locs, cells, slots⟩ argsL.toArray) :
    (∃ (v : Option Value) (vm₁ : Vm) (B : Pt), s.WarmedH vm₁ ∧ Stand p l e R s m args below meth c B.U B.locs B.cells B.slots ∧ Post ⟨T.setVm vm₁, locs, cells, slots⟩ argsL.toArray v B ∧
      ∀ target, Steps p.tables e below (B.U.setTop { g with pc := g.pc + 3, stack := v.toList ++ rest }) target → Steps p.tables e below (T.setTop g) target) ∨
    (∃ (q : Addr) (vm₁ : Vm) (B : Pt), s.WarmedH vm₁ ∧ Stand p l e R s m args below meth c B.U B.locs B.cells B.slots ∧ PostX ⟨T.setVm vm₁, locs, cells, slots⟩ argsL.toArray q B ∧
      Steps p.tables e below (T.setTop g) ((B.U.setTop { g with stack := rest }).pushFrame (.throwing q))) := by
  obtain ⟨mk, hnamed⟩ := Cond.code_named hcode
  obtain ⟨methM, cM, hmethM, -, -, -, -, -, -, hsigM⟩ := Cond.code_spec hnamed hcode
  have hstatic : methM.isStatic = true := Cond.static_spec hnamed hmethM hstat
  obtain ⟨kP, hkP, -⟩ := className_of_methodNamed hnamed
  have hinitP : kP.init = .initialized := Cond.initialized_spec (findClass_of_methodNamed hnamed) hkP hinit
  obtain ⟨vm₁, X₁, hstep₁⟩ := X.invokestatic hexec hown hlink hnamed hmethM hstatic hkP hinitP hy (g := g) hg (argsL := argsL) (rest := rest) (hlen _ hsigM) hstack hdg
  rcases hK m meth c ⟨T.setVm vm₁, locs, cells, slots⟩ { g with stack := rest } (.invokestatic index) mk argsL.toArray X₁ hg hsize hdg hW (X₁.named hnamed) (hpre vm₁ X₁.warmed) with ⟨v, B, X', hpost, hsteps⟩ | ⟨q, B, X', hpost, hsteps⟩
  · exact Or.inl ⟨v, vm₁, B, X₁.warmed, X', hpost, fun target h => hstep₁ _ fun acts => by rw [doInvoke_state]; exact hsteps.trans h⟩
  · exact Or.inr ⟨q, vm₁, B, X₁.warmed, X', hpost, hstep₁ _ fun acts => by rw [doInvoke_state]; exact hsteps⟩
end Calls
theorem vx_cls {s : State} {T : State} {vm₁ : Vm} {E : String} {k : ClassId} (hW : s.WarmedH vm₁) (h : (T.setVm vm₁).vm.findClass E = some k) : s.vm.findClass E = some k := by
  have h1 : vm₁.findClass E = some k := h
  rw [hW.alike.findClass] at h1
  exact h1
/-- the method's frame g, with q thrown over it -/
def vx_W (p : Program) (l : Launch) (e : Env) (R : Room) (s : State) (m : MethodId) (args : Array Value) (below : List Frame) (meth : Method) (c : Code) (H : Heap) (locs : List Loc) (cells slots : Nat) (Q : State → Prop) (g : JFrame) (q : Addr) : Prop :=
  ∀ T : State, T.heap = H → Stand p l e R s m args below meth c T locs cells slots → ∃ t, Steps p.tables e below ((T.setTop g).pushFrame (.throwing q)) t ∧ Q t
def vx_Run (p : Program) (l : Launch) (e : Env) (R : Room) (s : State) (m : MethodId) (args : Array Value) (below : List Frame) (meth : Method) (c : Code) (H : Heap) (locs : List Loc) (cells slots mc ms : Nat) (g : JFrame) (rest : List Value) (Qa : State → Outcome → State → Prop) (XC : String → State → State → Prop) (free : Addr → Prop) : Prop :=
  ∀ T : State, T.heap = H → Stand p l e R s m args below meth c T locs cells slots →
    (∃ (v : Option Value) (st₀ t T' : State) (L : List Loc), st₀.heap = H ∧ Stand p l e R s m args below meth c T' (locs ++ L) (cells + mc) (slots + ms) ∧ (∀ q ∈ L, free q.base) ∧ T'.heap = t.heap ∧ T'.vm = t.vm ∧ Qa st₀ (.returned v) t ∧
      Goes p e below T g T' { g with pc := g.pc + 3, stack := v.toList ++ rest }) ∨
    (∃ (q : Addr) (st₀ t T' : State) (L : List Loc) (E : String) (ce : Cell), st₀.heap = H ∧ Stand p l e R s m args below meth c T' (locs ++ L) (cells + mc) (slots + ms) ∧ (∀ z ∈ L, free z.base) ∧ T'.heap = t.heap ∧ T'.vm = t.vm ∧ XC E st₀ t ∧ t.heap[q]? = some ce ∧ ce.vm = .none ∧ s.vm.findClass E = some ce.cls ∧
      Steps p.tables e below (T.setTop g) ((T'.setTop { g with stack := rest }).pushFrame (.throwing q)))
def vx_X {S : Type} (px : S → Prop) (B : String → S → State → Prop) (A : Nat → Prop) : String → State → State → Prop := fun E st t => ∃ u : S, px u ∧ B E u t ∧ va_F A st t
section Runs
variable {p : Program} {l : Launch} {e : Env} {R : Room} {s : State} {m : MethodId} {args : Array Value} {below : List Frame} {meth : Method} {c : Code} {H : Heap} {locs : List Loc} {cells slots : Nat}
variable {y : MethodName} {bytes cc : ByteArray} {maxL nL mc ms n index : Nat} {ret : Option FieldType} {ws : List Cond} {rm : Room} {Pc : Array Value → State → Prop} {Qc : Array Value → State → Outcome → State → Prop} {XC : String → State → State → Prop} {free : Addr → Prop} {Ts : List Cond} {own C : String} {b : Addr} {As rest : List Value} {g : JFrame}
theorem vx_callBack (cb : CallB R s args own index y bytes maxL ret ws rm mc ms n) (hM : vx_Met l y ws rm Pc Qc XC mc ms free) (hbl : FrameBlind Pc) : vx_Back l R p e below s args y 3 8 (PreOf R mc ms Pc) (PostOf Qc mc ms free) (vx_Post XC mc ms free) := by
  obtain ⟨hrc, hrs, hfr, hlo, hws, hcw, -, hini, -⟩ := cb
  exact vx_back (bytes := bytes) (maxL := maxL) (ret := ret) hM hbl hrc hrs hfr hlo hws hcw (fun a' U hW => word_at hW (Or.inl (by first | rfl | simp [Cond.onTables, Cond.keeps, Cond.steady])) hini)
theorem vx_runV (S : CallFix p m c cc nL s args Ts own) (hM : vx_Met l y ws rm Pc Qc XC mc ms free) (cw : CallW R s args own C index y bytes maxL ret ws rm mc ms n) (hp : PreV s H C b Pc As)
    (hg : g.method = m) (hn : As.length = n) (hsize : g.locals.size = nL) (hstack : g.stack = As.reverse ++ .ref b :: rest) (hW : 2 * g.monitorRoom + (rest.map fun v => v.category).sum ≤ 8) (hdg : decode cc g.pc = .ok (.invokevirtual index, 3)) (hf : cells + mc ≤ R.cells ∧ slots + ms ≤ R.slots) :
    vx_Run p l e R s m args below meth c H locs cells slots mc ms g rest (Qc (Value.ref b :: As).toArray) XC free := by
  have hK : vx_Back l R p e below s args y 3 8 (PreOf R mc ms Pc) (PostOf Qc mc ms free) (vx_Post XC mc ms free) := vx_callBack cw.1 hM hp.1
  obtain ⟨⟨-, -, -, -, -, -, hcode, -, hy, hlen, hl⟩, hin, hse⟩ := cw
  obtain ⟨hx, hb, hml, ho, -⟩ := S
  obtain ⟨-, ⟨cellB, hcB, hoB, hclB⟩, hPc⟩ := hp
  intro T hT X
  rcases vx_callV X hx (C := C) (bytes := bytes) (maxL := maxL) (ret := ret) ho hl hin hse hcode hy hK (by rw [hT]; exact hcB) hoB hclB hg (hsize.trans hml.symm) (argsL := As) (rest := rest) (fun sig h => hn.trans (hlen sig h)) hstack hW (by rw [hb]; exact hdg)
    (fun vm₁ hW₁ => ⟨hf.1, hf.2, hPc (T.setVm vm₁) hT hW₁⟩) with ⟨v, vm₁, ⟨U', l2, c2, s2⟩, hW₁, X', ⟨g', mk, t, L, e1, e2, hq, h1, hL, h2, h3⟩, st⟩ | ⟨q, vm₁, ⟨U', l2, c2, s2⟩, hW₁, X', ⟨g', mk, t, L, E, ce, e1, e2, hq, hce, hcv, hcl, h1, hL, h2, h3⟩, st⟩
  · dsimp only [Pt.U, Pt.locs, Pt.cells, Pt.slots] at X' e1 e2 h1 h2 h3 st
    subst h1; subst h2; subst h3
    exact Or.inl ⟨v, (T.setVm vm₁).calling g' mk (Value.ref b :: As).toArray, t, U', L, hT, X', hL, e1, e2, hq, st⟩
  · dsimp only [Pt.U, Pt.locs, Pt.cells, Pt.slots] at X' e1 e2 h1 h2 h3 st hcl
    subst h1; subst h2; subst h3
    exact Or.inr ⟨q, (T.setVm vm₁).calling g' mk (Value.ref b :: As).toArray, t, U', L, E, ce, hT, X', hL, e1, e2, hq, hce, hcv, vx_cls hW₁ hcl, st⟩
theorem vx_runS (S : CallFix p m c cc nL s args Ts own) (hM : vx_Met l y ws rm Pc Qc XC mc ms free) (cw : CallB R s args own index y bytes maxL ret ws rm mc ms n ∧ (Cond.static y).before args s = true) (hp : PreS s H Pc As)
    (hg : g.method = m) (hn : As.length = n) (hsize : g.locals.size = nL) (hstack : g.stack = As.reverse ++ rest) (hW : 2 * g.monitorRoom + (rest.map fun v => v.category).sum ≤ 8) (hdg : decode cc g.pc = .ok (.invokestatic index, 3)) (hf : cells + mc ≤ R.cells ∧ slots + ms ≤ R.slots) :
    vx_Run p l e R s m args below meth c H locs cells slots mc ms g rest (Qc As.toArray) XC free := by
  have hK : vx_Back l R p e below s args y 3 8 (PreOf R mc ms Pc) (PostOf Qc mc ms free) (vx_Post XC mc ms free) := vx_callBack cw.1 hM hp.1
  obtain ⟨⟨-, -, -, -, -, -, hcode, hini, hy, hlen, hl⟩, hstt⟩ := cw
  obtain ⟨hx, hb, hml, ho, -⟩ := S
  intro T hT X
  rcases vx_callS X hx (bytes := bytes) (maxL := maxL) (ret := ret) ho hl hstt hini hcode hy hK hg (hsize.trans hml.symm) (argsL := As) (rest := rest) (fun sig h => hn.trans (hlen sig h)) hstack hW (by rw [hb]; exact hdg)
    (fun vm₁ hW₁ => ⟨hf.1, hf.2, hp.2 (T.setVm vm₁) hT hW₁⟩) with ⟨v, vm₁, ⟨U', l2, c2, s2⟩, hW₁, X', ⟨g', mk, t, L, e1, e2, hq, h1, hL, h2, h3⟩, st⟩ | ⟨q, vm₁, ⟨U', l2, c2, s2⟩, hW₁, X', ⟨g', mk, t, L, E, ce, e1, e2, hq, hce, hcv, hcl, h1, hL, h2, h3⟩, st⟩
  · dsimp only [Pt.U, Pt.locs, Pt.cells, Pt.slots] at X' e1 e2 h1 h2 h3 st
    subst h1; subst h2; subst h3
    exact Or.inl ⟨v, (T.setVm vm₁).calling g' mk As.toArray, t, U', L, hT, X', hL, e1, e2, hq, st⟩
  · dsimp only [Pt.U, Pt.locs, Pt.cells, Pt.slots] at X' e1 e2 h1 h2 h3 st hcl
    subst h1; subst h2; subst h3
    exact Or.inr ⟨q, (T.setVm vm₁).calling g' mk As.toArray, t, U', L, E, ce, hT, X', hL, e1, e2, hq, hce, hcv, vx_cls hW₁ hcl, st⟩
end Runs
section Rows
variable {p : Program} {l : Launch} {e : Env} {R : Room} {s : State} {m : MethodId} {args : Array Value} {below : List Frame} {meth : Method} {c : Code} {H : Heap} {locs : List Loc} {cells slots : Nat} {Q : State → Prop}
variable {mc ms : Nat} {free : Addr → Prop} {A0 A1 : Nat → Prop} {H0 : Heap} {a : Array Value} {pc : Nat} {ls : Array Slot} {st0 rest : List Value}
theorem vx_keep {st₀ t T' : State} {L : List Loc} (h0 : st₀.heap = H) (e1 : T'.heap = t.heap) (hS : va_S A0 H0 H locs) (hA : ∀ q, q < H.size → A1 q → A0 q) (hf : ∀ q, free q → A0 q) (hL : ∀ q ∈ L, free q.base) (hF : va_F A1 st₀ t) :
    H.size ≤ T'.heap.size ∧ (∀ q : Nat, q < H.size → ¬ A1 q → T'.heap[q]? = H[q]?) ∧ va_S A0 H0 T'.heap (locs ++ L) := by
  obtain ⟨hz, hk⟩ := hF
  rw [h0] at hz hk
  exact ⟨by rw [e1]; exact hz, fun q h1 h2 => by rw [e1]; exact hk q h1 h2,
    ⟨Nat.le_trans hS.1 (by rw [e1]; exact hz), fun q h1 h2 => by rw [e1, hk q (Nat.lt_of_lt_of_le h1 hS.1) (fun z => h2 (hA q (Nat.lt_of_lt_of_le h1 hS.1) z))]; exact hS.2.1 q h1 h2, fun q hq => by
      rcases List.mem_append.mp hq with h | h
      · exact hS.2.2 q h
      · exact hf _ (hL q h)⟩⟩
theorem vx_calli {S SX : Type} {post : Int32 → S → Prop} {px : SX → Prop} {B : S → State → Prop} {BX : String → SX → State → Prop} {AX : Nat → Prop} (hr : vx_Run p l e R s m args below meth c H locs cells slots mc ms (F0 m pc ls st0) rest (va_Qi post B A1 a) (vx_X px BX AX) free) (hS : va_S A0 H0 H locs) (hA : ∀ q, q < H.size → A1 q → A0 q) (hf : ∀ q, free q → A0 q) (hAX : ∀ q, q < H.size → AX q → A0 q)
    (kx : ∀ (E : String) (ce : Cell) (q9 : Addr) (u : SX) (t : State) (H1 : Heap) (locs1 : List Loc), t.heap = H1 → s.vm.Alike t.vm → px u → BX E u t → H.size ≤ H1.size → (∀ q : Nat, q < H.size → ¬ AX q → H1[q]? = H[q]?) → va_S A0 H0 H1 locs1 → H1[q9]? = some ce → ce.vm = .none → s.vm.findClass E = some ce.cls → vx_W p l e R s m args below meth c H1 locs1 (cells + mc) (slots + ms) Q (F0 m pc ls rest) q9)
    (kk : ∀ (r : Int32) (u : S) (t : State) (H1 : Heap) (locs1 : List Loc), t.heap = H1 → s.vm.Alike t.vm → post r u → B u t → H.size ≤ H1.size → (∀ q : Nat, q < H.size → ¬ A1 q → H1[q]? = H[q]?) → va_S A0 H0 H1 locs1 → W p l e R s m args below meth c H1 locs1 (cells + mc) (slots + ms) Q (F0 m (pc + 3) ls (.int r :: rest))) : W p l e R s m args below meth c H locs cells slots Q (F0 m pc ls st0) := by
  intro T hT X
  rcases hr T hT X with ⟨v, st₀, t, T', L, h0, X', hL, e1, e2, ⟨⟨r, u, hv, hp, hb⟩, hF⟩, st⟩ | ⟨q, st₀, t, T', L, E, ce, h0, X', hL, e1, e2, ⟨u, hp, hb, hF⟩, hce, hcv, hcl, st⟩
  · cases hv
    obtain ⟨k1, k2, k3⟩ := vx_keep h0 e1 hS hA hf hL hF
    obtain ⟨t2, a1, b1⟩ := kk r u t T'.heap (locs ++ L) e1.symm (by rw [← e2]; exact X'.warmed.alike) hp hb k1 k2 k3 T' rfl X'
    exact ⟨t2, st t2 a1, b1⟩
  · obtain ⟨k1, k2, k3⟩ := vx_keep h0 e1 hS hAX hf hL hF
    obtain ⟨t2, a1, b1⟩ := kx E ce q u t T'.heap (locs ++ L) e1.symm (by rw [← e2]; exact X'.warmed.alike) hp hb k1 k2 k3 (by rw [e1]; exact hce) hcv hcl T' rfl X'
    exact ⟨t2, st.trans a1, b1⟩
theorem vx_calll {S SX : Type} {post : Int64 → S → Prop} {px : SX → Prop} {B : S → State → Prop} {BX : String → SX → State → Prop} {AX : Nat → Prop} (hr : vx_Run p l e R s m args below meth c H locs cells slots mc ms (F0 m pc ls st0) rest (va_Ql post B A1 a) (vx_X px BX AX) free) (hS : va_S A0 H0 H locs) (hA : ∀ q, q < H.size → A1 q → A0 q) (hf : ∀ q, free q → A0 q) (hAX : ∀ q, q < H.size → AX q → A0 q)
    (kx : ∀ (E : String) (ce : Cell) (q9 : Addr) (u : SX) (t : State) (H1 : Heap) (locs1 : List Loc), t.heap = H1 → s.vm.Alike t.vm → px u → BX E u t → H.size ≤ H1.size → (∀ q : Nat, q < H.size → ¬ AX q → H1[q]? = H[q]?) → va_S A0 H0 H1 locs1 → H1[q9]? = some ce → ce.vm = .none → s.vm.findClass E = some ce.cls → vx_W p l e R s m args below meth c H1 locs1 (cells + mc) (slots + ms) Q (F0 m pc ls rest) q9)
    (kk : ∀ (r : Int64) (u : S) (t : State) (H1 : Heap) (locs1 : List Loc), t.heap = H1 → s.vm.Alike t.vm → post r u → B u t → H.size ≤ H1.size → (∀ q : Nat, q < H.size → ¬ A1 q → H1[q]? = H[q]?) → va_S A0 H0 H1 locs1 → W p l e R s m args below meth c H1 locs1 (cells + mc) (slots + ms) Q (F0 m (pc + 3) ls (.long r :: rest))) : W p l e R s m args below meth c H locs cells slots Q (F0 m pc ls st0) := by
  intro T hT X
  rcases hr T hT X with ⟨v, st₀, t, T', L, h0, X', hL, e1, e2, ⟨⟨r, u, hv, hp, hb⟩, hF⟩, st⟩ | ⟨q, st₀, t, T', L, E, ce, h0, X', hL, e1, e2, ⟨u, hp, hb, hF⟩, hce, hcv, hcl, st⟩
  · cases hv
    obtain ⟨k1, k2, k3⟩ := vx_keep h0 e1 hS hA hf hL hF
    obtain ⟨t2, a1, b1⟩ := kk r u t T'.heap (locs ++ L) e1.symm (by rw [← e2]; exact X'.warmed.alike) hp hb k1 k2 k3 T' rfl X'
    exact ⟨t2, st t2 a1, b1⟩
  · obtain ⟨k1, k2, k3⟩ := vx_keep h0 e1 hS hAX hf hL hF
    obtain ⟨t2, a1, b1⟩ := kx E ce q u t T'.heap (locs ++ L) e1.symm (by rw [← e2]; exact X'.warmed.alike) hp hb k1 k2 k3 (by rw [e1]; exact hce) hcv hcl T' rfl X'
    exact ⟨t2, st.trans a1, b1⟩
theorem vx_callf {S SX : Type} {post : UInt32 → S → Prop} {px : SX → Prop} {B : S → State → Prop} {BX : String → SX → State → Prop} {AX : Nat → Prop} (hr : vx_Run p l e R s m args below meth c H locs cells slots mc ms (F0 m pc ls st0) rest (va_Qf post B A1 a) (vx_X px BX AX) free) (hS : va_S A0 H0 H locs) (hA : ∀ q, q < H.size → A1 q → A0 q) (hf : ∀ q, free q → A0 q) (hAX : ∀ q, q < H.size → AX q → A0 q)
    (kx : ∀ (E : String) (ce : Cell) (q9 : Addr) (u : SX) (t : State) (H1 : Heap) (locs1 : List Loc), t.heap = H1 → s.vm.Alike t.vm → px u → BX E u t → H.size ≤ H1.size → (∀ q : Nat, q < H.size → ¬ AX q → H1[q]? = H[q]?) → va_S A0 H0 H1 locs1 → H1[q9]? = some ce → ce.vm = .none → s.vm.findClass E = some ce.cls → vx_W p l e R s m args below meth c H1 locs1 (cells + mc) (slots + ms) Q (F0 m pc ls rest) q9)
    (kk : ∀ (r : UInt32) (u : S) (t : State) (H1 : Heap) (locs1 : List Loc), t.heap = H1 → s.vm.Alike t.vm → post r u → B u t → H.size ≤ H1.size → (∀ q : Nat, q < H.size → ¬ A1 q → H1[q]? = H[q]?) → va_S A0 H0 H1 locs1 → W p l e R s m args below meth c H1 locs1 (cells + mc) (slots + ms) Q (F0 m (pc + 3) ls (.float r :: rest))) : W p l e R s m args below meth c H locs cells slots Q (F0 m pc ls st0) := by
  intro T hT X
  rcases hr T hT X with ⟨v, st₀, t, T', L, h0, X', hL, e1, e2, ⟨⟨r, u, hv, hp, hb⟩, hF⟩, st⟩ | ⟨q, st₀, t, T', L, E, ce, h0, X', hL, e1, e2, ⟨u, hp, hb, hF⟩, hce, hcv, hcl, st⟩
  · cases hv
    obtain ⟨k1, k2, k3⟩ := vx_keep h0 e1 hS hA hf hL hF
    obtain ⟨t2, a1, b1⟩ := kk r u t T'.heap (locs ++ L) e1.symm (by rw [← e2]; exact X'.warmed.alike) hp hb k1 k2 k3 T' rfl X'
    exact ⟨t2, st t2 a1, b1⟩
  · obtain ⟨k1, k2, k3⟩ := vx_keep h0 e1 hS hAX hf hL hF
    obtain ⟨t2, a1, b1⟩ := kx E ce q u t T'.heap (locs ++ L) e1.symm (by rw [← e2]; exact X'.warmed.alike) hp hb k1 k2 k3 (by rw [e1]; exact hce) hcv hcl T' rfl X'
    exact ⟨t2, st.trans a1, b1⟩
theorem vx_calld {S SX : Type} {post : UInt64 → S → Prop} {px : SX → Prop} {B : S → State → Prop} {BX : String → SX → State → Prop} {AX : Nat → Prop} (hr : vx_Run p l e R s m args below meth c H locs cells slots mc ms (F0 m pc ls st0) rest (va_Qd post B A1 a) (vx_X px BX AX) free) (hS : va_S A0 H0 H locs) (hA : ∀ q, q < H.size → A1 q → A0 q) (hf : ∀ q, free q → A0 q) (hAX : ∀ q, q < H.size → AX q → A0 q)
    (kx : ∀ (E : String) (ce : Cell) (q9 : Addr) (u : SX) (t : State) (H1 : Heap) (locs1 : List Loc), t.heap = H1 → s.vm.Alike t.vm → px u → BX E u t → H.size ≤ H1.size → (∀ q : Nat, q < H.size → ¬ AX q → H1[q]? = H[q]?) → va_S A0 H0 H1 locs1 → H1[q9]? = some ce → ce.vm = .none → s.vm.findClass E = some ce.cls → vx_W p l e R s m args below meth c H1 locs1 (cells + mc) (slots + ms) Q (F0 m pc ls rest) q9)
    (kk : ∀ (r : UInt64) (u : S) (t : State) (H1 : Heap) (locs1 : List Loc), t.heap = H1 → s.vm.Alike t.vm → post r u → B u t → H.size ≤ H1.size → (∀ q : Nat, q < H.size → ¬ A1 q → H1[q]? = H[q]?) → va_S A0 H0 H1 locs1 → W p l e R s m args below meth c H1 locs1 (cells + mc) (slots + ms) Q (F0 m (pc + 3) ls (.double r :: rest))) : W p l e R s m args below meth c H locs cells slots Q (F0 m pc ls st0) := by
  intro T hT X
  rcases hr T hT X with ⟨v, st₀, t, T', L, h0, X', hL, e1, e2, ⟨⟨r, u, hv, hp, hb⟩, hF⟩, st⟩ | ⟨q, st₀, t, T', L, E, ce, h0, X', hL, e1, e2, ⟨u, hp, hb, hF⟩, hce, hcv, hcl, st⟩
  · cases hv
    obtain ⟨k1, k2, k3⟩ := vx_keep h0 e1 hS hA hf hL hF
    obtain ⟨t2, a1, b1⟩ := kk r u t T'.heap (locs ++ L) e1.symm (by rw [← e2]; exact X'.warmed.alike) hp hb k1 k2 k3 T' rfl X'
    exact ⟨t2, st t2 a1, b1⟩
  · obtain ⟨k1, k2, k3⟩ := vx_keep h0 e1 hS hAX hf hL hF
    obtain ⟨t2, a1, b1⟩ := kx E ce q u t T'.heap (locs ++ L) e1.symm (by rw [← e2]; exact X'.warmed.alike) hp hb k1 k2 k3 (by rw [e1]; exact hce) hcv hcl T' rfl X'
    exact ⟨t2, st.trans a1, b1⟩
theorem vx_callv {S SX : Type} {post : S → Prop} {px : SX → Prop} {B : S → State → Prop} {BX : String → SX → State → Prop} {AX : Nat → Prop} (hr : vx_Run p l e R s m args below meth c H locs cells slots mc ms (F0 m pc ls st0) rest (va_Qv post B A1 a) (vx_X px BX AX) free) (hS : va_S A0 H0 H locs) (hA : ∀ q, q < H.size → A1 q → A0 q) (hf : ∀ q, free q → A0 q) (hAX : ∀ q, q < H.size → AX q → A0 q)
    (kx : ∀ (E : String) (ce : Cell) (q9 : Addr) (u : SX) (t : State) (H1 : Heap) (locs1 : List Loc), t.heap = H1 → s.vm.Alike t.vm → px u → BX E u t → H.size ≤ H1.size → (∀ q : Nat, q < H.size → ¬ AX q → H1[q]? = H[q]?) → va_S A0 H0 H1 locs1 → H1[q9]? = some ce → ce.vm = .none → s.vm.findClass E = some ce.cls → vx_W p l e R s m args below meth c H1 locs1 (cells + mc) (slots + ms) Q (F0 m pc ls rest) q9)
    (kk : ∀ (u : S) (t : State) (H1 : Heap) (locs1 : List Loc), t.heap = H1 → s.vm.Alike t.vm → post u → B u t → H.size ≤ H1.size → (∀ q : Nat, q < H.size → ¬ A1 q → H1[q]? = H[q]?) → va_S A0 H0 H1 locs1 → W p l e R s m args below meth c H1 locs1 (cells + mc) (slots + ms) Q (F0 m (pc + 3) ls (rest))) : W p l e R s m args below meth c H locs cells slots Q (F0 m pc ls st0) := by
  intro T hT X
  rcases hr T hT X with ⟨v, st₀, t, T', L, h0, X', hL, e1, e2, ⟨⟨u, hv, hp, hb⟩, hF⟩, st⟩ | ⟨q, st₀, t, T', L, E, ce, h0, X', hL, e1, e2, ⟨u, hp, hb, hF⟩, hce, hcv, hcl, st⟩
  · cases hv
    obtain ⟨k1, k2, k3⟩ := vx_keep h0 e1 hS hA hf hL hF
    obtain ⟨t2, a1, b1⟩ := kk u t T'.heap (locs ++ L) e1.symm (by rw [← e2]; exact X'.warmed.alike) hp hb k1 k2 k3 T' rfl X'
    exact ⟨t2, st t2 a1, b1⟩
  · obtain ⟨k1, k2, k3⟩ := vx_keep h0 e1 hS hAX hf hL hF
    obtain ⟨t2, a1, b1⟩ := kx E ce q u t T'.heap (locs ++ L) e1.symm (by rw [← e2]; exact X'.warmed.alike) hp hb k1 k2 k3 (by rw [e1]; exact hce) hcv hcl T' rfl X'
    exact ⟨t2, st.trans a1, b1⟩
/-- caught by the row x of this method's table; the rows ahead don't take it -/
theorem vx_catch {own name : String} {E : String} {ce : Cell} {q : Addr} (hown : s.vm.findClass own = some m.cls) (pre : List ExceptionTableEntry) (x : ExceptionTableEntry) (suf : List ExceptionTableEntry) (hsplit : c.exceptionTable.toList = pre ++ x :: suf)
    (hpass : ∀ z ∈ pre, covers z pc = false ∨ (z.catchType ≠ 0 ∧ ∃ nm : String, (Cond.classLink own z.catchType nm).before args s = true ∧ va_Nc E nm s)) (hx : covers x pc = true) (h0 : x.catchType ≠ 0)
    (hlink : (Cond.classLink own x.catchType name).before args s = true) (hcast : (Cond.castable E name).before args s = true) (hcell : H[q]? = some ce) (hv : ce.vm = .none) (hcl : s.vm.findClass E = some ce.cls)
    (kk : W p l e R s m args below meth c H locs cells slots Q (F0 m x.handlerPc ls [.ref q])) : vx_W p l e R s m args below meth c H locs cells slots Q (F0 m pc ls rest) q := by
  intro T hT X
  have hpl : e.platform.magicAccessors = ({} : Platform).magicAccessors := by rw [X.admits.platform]
  obtain ⟨c3, c4, hc3, hc4, hasg⟩ := Cond.castable_spec hcast
  cases Option.some.inj (hc3.symm.trans hcl)
  obtain ⟨c5, hc5, hcl5⟩ := Cond.classLink_spec hown hlink e.platform hpl
  cases Option.some.inj (hc4.symm.trans hc5)
  obtain ⟨vm', X', st⟩ := Stand.thenCaughtThrough X q (g := F0 m pc ls rest) rfl (Steps.refl _) (by rw [hT]; exact hcell) (by rw [hv]; rfl) (by obtain ⟨k9, h9, -⟩ := Vm.findClass_spec hcl; exact ⟨k9, h9⟩) pre x suf hsplit
    (fun z hz => by
      rcases hpass z hz with h | ⟨hz0, nm, hl1, hn1⟩
      · exact Or.inl h
      · obtain ⟨c6, hc6, hcl6⟩ := Cond.classLink_spec hown hl1 e.platform hpl
        obtain ⟨a8, b8, h1, h2, h3⟩ := hn1
        cases Option.some.inj (h1.symm.trans hcl)
        cases Option.some.inj (h2.symm.trans hc6)
        exact Or.inr ⟨hz0, _, hcl6, h3⟩) hx (Or.inr ⟨h0, c4, hcl5, hasg⟩)
  obtain ⟨t, a1, b1⟩ := kk (T.setVm vm') hT X'
  exact ⟨t, st.trans a1, b1⟩
end Rows
section Ends
variable {p : Program} {l : Launch} {e : Env} {R : Room} {s : State} {m : MethodId} {args : Array Value} {below : List Frame} {meth : Method} {c : Code} {H : Heap} {locs : List Loc} {cells slots : Nat} {Q : State → Prop}
variable {mc ms : Nat} {free : Addr → Prop} {A0 A1 : Nat → Prop} {H0 : Heap} {a : Array Value} {ls : Array Slot} {st0 rest : List Value}
variable {Qc : Array Value → State → Outcome → State → Prop} {XC : String → State → State → Prop}
/-- what a body that may throw owes at its end -/
def vx_MQ (below : List Frame) (Qc : Array Value → State → Outcome → State → Prop) (XC : String → State → State → Prop) (a : Array Value) (s : State) (mc ms : Nat) (free : Addr → Prop) : State → Prop := fun t =>
  ∃ o, t.status = .running ∧ Ended t below o ∧ vx_Q Qc XC mc ms free a s o t
theorem vx_ret {g : JFrame} {mc ms : Nat} (k : W p l e R s m args below meth c H locs cells slots (MQ below Qc args s mc ms free) g) : W p l e R s m args below meth c H locs cells slots (vx_MQ below Qc XC args s mc ms free) g := by
  intro T hT X
  obtain ⟨t, a1, o, b1, b2, b3, b4⟩ := k T hT X
  exact ⟨t, a1, o, b1, b2, Or.inl ⟨b3, b4⟩⟩
/-- not caught here: it goes on to the caller -/
theorem vx_widen {g : JFrame} {q : Addr} {k n : Nat} (h1 : cells ≤ k) (h2 : slots ≤ n) (kk : vx_W p l e R s m args below meth c H locs k n Q g q) : vx_W p l e R s m args below meth c H locs cells slots Q g q := fun T hT X => kk T hT (stand_widen X h1 h2)
theorem vx_out {pc : Nat} {E : String} {ce : Cell} {q : Addr} {mc ms : Nat} (hout : ∀ x ∈ c.exceptionTable.toList, covers x pc = false) (hlocks : meth.locks = false) (hcell : H[q]? = some ce) (hv : ce.vm = .none) (hcl : s.vm.findClass E = some ce.cls)
    (hx : ∀ t : State, t.heap = H → s.vm.Alike t.vm → XC E s t) (hf : ∀ z ∈ locs, free z.base) (hc : cells ≤ mc) (hs : slots ≤ ms) :
    vx_W p l e R s m args below meth c H locs cells slots (vx_MQ below Qc XC args s mc ms free) (F0 m pc ls rest) q := by
  intro T hT X
  obtain ⟨st1, hrun, hend, hW, hsm⟩ := X.leaveThrown q (g := F0 m pc ls rest) rfl rfl rfl hout hlocks
  have hcell9 : (T.setFrames (.throwing q :: below)).heap[q]? = some ce := by
    show T.heap[q]? = some ce
    rw [hT]; exact hcell
  exact ⟨_, st1, .threw q, hrun, hend, Or.inr ⟨q, rfl, E, ce, locs, hx _ hT hW.alike, hcell9, hv, hcl, hW, hsm.mono hc hs, hf⟩⟩
theorem vx_frame {U : State} {k n : Nat} (h : s.sameButNew ({ U with vm := s.vm } : State) locs k n) : s.heap.size ≤ U.heap.size ∧ ∀ q : Nat, q < s.heap.size → (∀ z ∈ locs, z.base ≠ q) → U.heap[q]? = s.heap[q]? := by
  obtain ⟨-, h2, -, -, -, h6⟩ := h
  refine ⟨h2, fun q hq hz => ?_⟩
  obtain ⟨c9, e1, e2, e3, e4⟩ := h6 q _ (Array.getElem?_eq_getElem hq)
  have hs : c9.slots = (s.heap[q]).slots := Array.ext_getElem? fun i => e4 i fun hm => hz _ hm rfl
  have h9 : c9 = s.heap[q] := by
    rw [hs] at e2
    exact e2
  have e5 : U.heap[q]? = some c9 := e1
  rw [e5, h9, Array.getElem?_eq_getElem hq]
/-- the words of a throw but the four that speak of the heap -/
def vx_no (w : Cond) : Bool := decide (w ≠ .isRef (.static Bundle.tN "UNASSIGNED_STACK" Bundle.steD)) && decide (w ≠ .isRef (.static Bundle.tN "SUPPRESSED_SENTINEL" Bundle.listD)) && decide (w ≠ .laysStatic Bundle.tN "UNASSIGNED_STACK" Bundle.steD) && decide (w ≠ .laysStatic Bundle.tN "SUPPRESSED_SENTINEL" Bundle.listD)
def vx_at0 (own : String) (ic : Nat) (X : String) (names : List String) : List Cond := (Bundle.ownAtoms0 own ic X names).filter vx_no
def vx_atS (own : String) (ic : Nat) (X : String) (names : List String) : List Cond := (Bundle.ownAtoms own ic X names).filter vx_no
/-- a word that the tables alone decide, or a good one -/
def vx_ot (w : Cond) : Bool := w.onTables || goodWord w
theorem vx_ot_at {args a' : Array Value} {s U : State} {w : Cond} (hW : s.WarmedH U.vm) (hvm : s.vm = U.vm) (hg : vx_ot w = true) (h : w.before args s = true) : w.before a' U = true := by
  simp only [vx_ot, Bool.or_eq_true] at hg
  rcases hg with hg | hg
  · exact va_tabs hg hvm h
  · exact word_at hW (good_of_word hg) h
/-- a list's words: the good ones out of the method's own list, the others by premises of their own -/
theorem vx_hat {args : Array Value} {s : State} {L B : List Cond} (h1 : ∀ w ∈ L.filter goodWord, w.before args s = true) (h2 : ∀ w ∈ L.filter (fun w => !goodWord w), w ∈ B) (h3 : ∀ w ∈ B, w.before args s = true) : ∀ w ∈ L, w.before args s = true := by
  intro w hw
  by_cases g : goodWord w = true
  · exact h1 w (List.mem_filter.mpr ⟨hw, g⟩)
  · refine h3 w (h2 w (List.mem_filter.mpr ⟨hw, ?_⟩))
    show (!goodWord w) = true
    cases hgw : goodWord w
    · rfl
    · exact absurd hgw g
theorem vx_c {args : Array Value} {s : State} {w : Cond} {B : List Cond} (h : w.before args s = true) (t : ∀ w ∈ B, w.before args s = true) : ∀ w' ∈ w :: B, w'.before args s = true := fun w' h' => (List.mem_cons.mp h').elim (fun e => by rw [e]; exact h) (t w')
theorem vx_n {args : Array Value} {s : State} : ∀ w ∈ ([] : List Cond), w.before args s = true := fun _ h => nomatch h
theorem vx_own {args : Array Value} {s : State} {L : List Cond} (h1 : ∀ w ∈ L.filter vx_no, w.before args s = true)
    (hU : (Cond.isRef (.static Bundle.tN "UNASSIGNED_STACK" Bundle.steD)).before args s = true) (hN : (Cond.isRef (.static Bundle.tN "SUPPRESSED_SENTINEL" Bundle.listD)).before args s = true)
    (lU : (Cond.laysStatic Bundle.tN "UNASSIGNED_STACK" Bundle.steD).before args s = true) (lN : (Cond.laysStatic Bundle.tN "SUPPRESSED_SENTINEL" Bundle.listD).before args s = true) : ∀ w ∈ L, w.before args s = true := by
  intro w hw
  by_cases e1 : w = .isRef (.static Bundle.tN "UNASSIGNED_STACK" Bundle.steD)
  · rw [e1]; exact hU
  · by_cases e2 : w = .isRef (.static Bundle.tN "SUPPRESSED_SENTINEL" Bundle.listD)
    · rw [e2]; exact hN
    · by_cases e3 : w = .laysStatic Bundle.tN "UNASSIGNED_STACK" Bundle.steD
      · rw [e3]; exact lU
      · by_cases e4 : w = .laysStatic Bundle.tN "SUPPRESSED_SENTINEL" Bundle.listD
        · rw [e4]; exact lN
        · exact h1 w (List.mem_filter.mpr ⟨hw, by unfold vx_no; rw [decide_eq_true e1, decide_eq_true e2, decide_eq_true e3, decide_eq_true e4]; rfl⟩)
/-- where a static field lies, its class's statics cell in H -/
def vx_L (C n d : String) (A : Nat → Prop) (U : State) (H : Heap) : Prop := ∃ (c : ClassId) (k : Class) (i : Nat) (f : Field) (a : Nat) (cell : Cell), U.vm.findClass C = some c ∧ U.fieldFound? C n d = some (c, k, i, f) ∧ f.isStatic = true ∧ k.statics = some a ∧ H[a]? = some cell ∧ cell.vm.isStatics = true ∧ cell.cls = c ∧ f.slot < cell.slots.size ∧ k.staticTypes[f.slot]? = some f.type ∧ ¬ A a
theorem vx_L.moved {C n d : String} {A : Nat → Prop} {u U : State} {H : Heap} (hvm : u.vm.Alike U.vm) (h : vx_L C n d A u H) : vx_L C n d A U H := by
  obtain ⟨c, k, i, f, a, cell, h1, h2, h3, h4, h5, h6, h7, h8, h9, h10⟩ := h
  obtain ⟨k', hi', he⟩ := State.fieldFound?_setVm hvm h2
  exact ⟨c, k', i, f, a, cell, by rw [hvm.findClass]; exact h1, hi', h3, by rw [he]; exact h4, h5, h6, h7, h8, by rw [he]; exact h9, h10⟩
theorem vx_L.kept {C n d : String} {A : Nat → Prop} {U : State} {H H1 : Heap} (h : vx_L C n d A U H) (hq : ∀ a : Nat, a < H.size → ¬ A a → H1[a]? = H[a]?) : vx_L C n d A U H1 := by
  obtain ⟨c, k, i, f, a, cell, h1, h2, h3, h4, h5, h6, h7, h8, h9, h10⟩ := h
  exact ⟨c, k, i, f, a, cell, h1, h2, h3, h4, by rw [hq a (Array.getElem?_eq_some_iff.mp h5).1 h10]; exact h5, h6, h7, h8, h9, h10⟩
theorem vx_L.narrow {C n d : String} {A B : Nat → Prop} {U : State} {H : Heap} (h : vx_L C n d A U H) (hAB : ∀ q, B q → A q) : vx_L C n d B U H := by
  obtain ⟨c, k, i, f, a, cell, h1, h2, h3, h4, h5, h6, h7, h8, h9, h10⟩ := h
  exact ⟨c, k, i, f, a, cell, h1, h2, h3, h4, h5, h6, h7, h8, h9, fun z => h10 (hAB _ z)⟩
theorem vx_L.word {C n d : String} {A : Nat → Prop} {s : State} {args : Array Value} (h : vx_L C n d A s s.heap) : (Cond.laysStatic C n d).before args s = true := by
  obtain ⟨c, k, i, f, a, cell, h1, h2, h3, h4, h5, h6, h7, h8, h9, -⟩ := h
  show (Cond.laysStatic C n d).holds args s none s [] = true
  exact Cond.laysStatic_of h1 h2 h3 h4 h5 h6 h7 h8 h9
/-- .. and what it holds: null or some reference -/
def vx_Zq (C n d : String) (A : Nat → Prop) (U : State) (H : Heap) : Prop := va_Zq C n d A U H ∧ vx_L C n d A U H
theorem vx_Zq.moved {C n d : String} {A : Nat → Prop} {u U : State} {H : Heap} (hvm : u.vm.Alike U.vm) (h : vx_Zq C n d A u H) : vx_Zq C n d A U H := ⟨va_Zq.moved hvm h.1, vx_L.moved hvm h.2⟩
theorem vx_Zq.kept {C n d : String} {A : Nat → Prop} {U : State} {H H1 : Heap} (h : vx_Zq C n d A U H) (hq : ∀ a : Nat, a < H.size → ¬ A a → H1[a]? = H[a]?) : vx_Zq C n d A U H1 := ⟨va_Zq.kept h.1 hq, vx_L.kept h.2 hq⟩
theorem vx_Zq.narrow {C n d : String} {A B : Nat → Prop} {U : State} {H : Heap} (h : vx_Zq C n d A U H) (hAB : ∀ q, B q → A q) : vx_Zq C n d B U H := ⟨va_Zq.narrow h.1 hAB, vx_L.narrow h.2 hAB⟩
theorem vx_Zqof {args : Array Value} {s : State} {C n d : String} {A : Nat → Prop} (hl : (Cond.laysStatic C n d).before args s = true) (hini : (Cond.initialized C).before args s = true) (h : (Cond.isRef (.static C n d)).before args s = true) (hA : ∀ a : Nat, a < s.heap.size → ¬ A a) : vx_Zq C n d A s s.heap := by
  refine ⟨va_Zqof hl hini h hA, ?_⟩
  obtain ⟨c, k, i, f, a, cell, h1, h2, h3, h4, h5, h6, h7, h8, h9⟩ := Cond.laysStatic_spec hl
  exact ⟨c, k, i, f, a, cell, h1, h2, h3, h4, h5, h6, h7, h8, h9, hA a (Array.getElem?_eq_some_iff.mp h5).1⟩
theorem vx_isRef {C n d : String} {v : Value} {A : Nat → Prop} {s : State} {args : Array Value} (h : va_Z C n d v A s s.heap) (hv : v.isRef = true) : (Cond.isRef (.static C n d)).before args s = true := by
  obtain ⟨cf, kf, fi, f, a, cell, h1, h2, h3, h4, h5, h6, h7, -⟩ := h
  have he : (Term.static C n d).eval args s none [] s = some v := by
    simp [Term.eval, State.fieldNamed?, h1, h2, h4, h5, h6, h7]
  simp only [Cond.before, Cond.holds, Cond.value, he]
  cases v <;> simp_all [Value.isRef]
theorem vx_isRefq {C n d : String} {A : Nat → Prop} {s : State} {args : Array Value} (h : va_Zq C n d A s s.heap) : (Cond.isRef (.static C n d)).before args s = true := by
  rcases h with h | ⟨t, h⟩
  · exact vx_isRef h rfl
  · exact vx_isRef h rfl
/-- the same frame, seen from here: as if the method were called anew in this heap -/
theorem vx_rebase {T : State} (X : Stand p l e R s m args below meth c T locs cells slots) {R' : Room} (hf : R'.frames ≤ R.frames) (hl : R'.locals ≤ R.locals) (hc : cells + R'.cells ≤ R.cells) (hs : slots + R'.slots ≤ R.slots) :
    Stand p l e R' ((T.setVm s.vm).setFrames (.invoking m args :: below)) m args below meth c T [] 0 0 := by
  have htop : (T.setVm s.vm).topJava?.isSome := X.here.top
  have hF : ((T.setVm s.vm).setFrames (.invoking m args :: below)).frames = .invoking m args :: below := State.frames_setFrames _ (State.cur_lt_of_top htop)
  obtain ⟨g₀, hg0⟩ := Option.isSome_iff_exists.mp htop
  obtain ⟨r, hr⟩ := State.topJava?_eq_some.mp hg0
  have hl9 : e.platform.stackLimits (T.setVm s.vm).me = e.platform.stackLimits s.me := X.limits
  have hb9 : (T.setVm s.vm).me.stackBytes = s.me.stackBytes := X.bytes
  refine ⟨X.admits, X.cas, X.clock, hF, ?_, X.hears, X.method, X.code, X.here, X.tail, X.warmed, ?_, ?_, ?_⟩
  · have h := X.room
    have hU : ((T.setVm s.vm).setFrames (.invoking m args :: below)).localsInUse = s.localsInUse := by
      rw [State.localsInUse_invoking hF (meth := meth) (c := c) X.method X.code, State.localsInUse_invoking X.frames X.method X.code]
    simp only [State.hasRoom, Bool.and_eq_true, decide_eq_true_eq] at h ⊢
    obtain ⟨⟨⟨⟨h1, h2, h3, h4, h5, h6⟩, h7⟩, h8⟩, h9⟩ := h
    rw [X.frames, List.length_cons] at h2 h3
    have q1 := X.heapSize
    have q2 := X.used
    simp only [hF, hU, List.length_cons, State.stackLimits_setFrames, State.stackBytes_setFrames, hl9, hb9]
    refine ⟨⟨⟨⟨by omega, by omega, by omega, by omega, by omega, h6⟩, ?_⟩, ?_⟩, X.book⟩
    · show T.heap.size + R'.cells ≤ e.platform.maxCells
      omega
    · show T.slotsUsed + R'.slots ≤ e.platform.maxSlots
      omega
  · rw [State.stackLimits_setFrames]; rfl
  · rw [State.stackBytes_setFrames]; rfl
  · refine ⟨?_, Nat.le_refl _, Nat.le_refl _, ?_, ?_, fun a c9 h9 => ⟨c9, h9, rfl, rfl, fun _ _ => rfl⟩⟩
    · obtain ⟨t, ht, -⟩ := State.frames_cons hr
      show T.setVm s.vm = { ((T.setVm s.vm).setFrames (.invoking m args :: below)).setFrames (T.setVm s.vm).frames with heap := T.heap, slotsUsed := T.slotsUsed }
      rw [State.setFrames_setFrames, State.setFrames_self ht]
      rfl
    · show T.slotsUsed = T.slotsUsed + ((T.heap.toList.drop T.heap.size).map (·.slots.size)).sum
      rw [List.drop_eq_nil_of_le (Nat.le_of_eq Array.length_toList)]
      rfl
    · show ((T.heap.toList.drop T.heap.size).map (·.slots.size)).sum ≤ 0
      rw [List.drop_eq_nil_of_le (Nat.le_of_eq Array.length_toList)]
      exact Nat.le_refl _
/-- 'throw new E()': new; dup; invokespecial; athrow -/
theorem vx_throw0 {cc : ByteArray} {pc : Nat} (hexec : p.tables.exec = Jvm.exec) (hb : c.code = cc) (hl : l.stackTraces = false) {own cls : String} {names : List String} {ik ic mc ms : Nat} {A : Nat → Prop}
    (hown : s.vm.findClass own = some m.cls) (hcls : Bundle.fit cls = true) (hnames : ∀ n ∈ names, Bundle.fit n = true)
    (hk : (Cond.classLink own ik cls).before args s = true) (hini : (Cond.initialized cls).before args s = true) (hat : ∀ w ∈ vx_at0 own ic cls names, w.before args s = true)
    (hgood : ∀ w ∈ Cond.classLink own ik cls :: Cond.initialized cls :: vx_at0 own ic cls names, vx_ot w = true)
    (hU : vx_Zq Bundle.tN "UNASSIGNED_STACK" Bundle.steD A s s.heap) (hN : vx_Zq Bundle.tN "SUPPRESSED_SENTINEL" Bundle.listD A s s.heap) (hS : va_S A s.heap H locs) (hsize : ls.size = c.maxLocals)
    (d0 : decode cc pc = .ok (.new ik, 3)) (d3 : decode cc (pc + 3) = .ok (.dup, 1)) (d4 : decode cc (pc + 4) = .ok (.invokespecial ic, 3)) (d7 : decode cc (pc + 7) = .ok (.athrow, 1))
    (hout : ∀ x ∈ c.exceptionTable.toList, covers x (pc + 7) = false)
    (hRframes : names.length + 3 < R.frames) (hRlocals : (rest.map fun v => v.category).sum + (13 * (names.length + 1) + 42) ≤ R.locals) (hRcells : cells + 1 ≤ R.cells) (hRslots : slots + 6 ≤ R.slots) (hlocks : meth.locks = false)
    (hx : ∀ t : State, s.vm.Alike t.vm → H.size ≤ t.heap.size → (∀ q : Nat, q < H.size → t.heap[q]? = H[q]?) → XC cls s t)
    (hf : ∀ z ∈ locs, free z.base) (hc : cells + 1 ≤ mc) (hs : slots + 6 ≤ ms) :
    W p l e R s m args below meth c H locs cells slots (vx_MQ below Qc XC args s mc ms free) (F0 m pc ls rest) := by
  intro T hT X
  have htr : e.platform.stackTraces = false := (show e.platform.stackTraces = l.stackTraces by rw [X.admits.platform]).trans hl
  have Y := vx_rebase X (R' := { frames := R.frames, locals := R.locals, cells := 1, slots := 6 }) (Nat.le_refl _) (Nat.le_refl _) hRcells hRslots
  obtain ⟨s', hA⟩ : ∃ z, z = (T.setVm s.vm).setFrames (.invoking m args :: below) := ⟨_, rfl⟩
  rw [← hA] at Y
  have hvm : s'.vm = s.vm := by rw [hA]; rfl
  have hhp : s'.heap = H := by rw [hA]; exact hT
  have hW0 : s.WarmedH s'.vm := by rw [hvm]; exact State.WarmedH.refl s
  have hat' : ∀ w ∈ vx_at0 own ic cls names, w.before args s' = true := fun w hw => vx_ot_at hW0 hvm.symm (hgood w (List.mem_cons_of_mem _ (List.mem_cons_of_mem _ hw))) (hat w hw)
  have hk' : (Cond.classLink own ik cls).before args s' = true := vx_ot_at hW0 hvm.symm (hgood _ List.mem_cons_self) hk
  have hini' : (Cond.initialized cls).before args s' = true := vx_ot_at hW0 hvm.symm (hgood _ (List.mem_cons_of_mem _ List.mem_cons_self)) hini
  have hU' : vx_Zq Bundle.tN "UNASSIGNED_STACK" Bundle.steD A s' s'.heap := by rw [hhp]; exact vx_Zq.moved hW0.alike (hU.kept hS.2.1)
  have hN' : vx_Zq Bundle.tN "SUPPRESSED_SENTINEL" Bundle.listD A s' s'.heap := by rw [hhp]; exact vx_Zq.moved hW0.alike (hN.kept hS.2.1)
  have h : ∀ w ∈ Bundle.ownAtoms0 own ic cls names, w.before args s' = true := vx_own hat' (vx_isRefq hU'.1) (vx_isRefq hN'.1) hU'.2.word hN'.2.word
  have hown' : s'.vm.findClass own = some m.cls := by rw [hvm]; exact hown
  have hins : (Cond.instantiable cls 6).before args s' = true := h _ (by simp [Bundle.ownAtoms0])
  obtain ⟨vm₁, cX, kX, hfX, hkX, -, -, X₁, st1⟩ := Y.newCold hexec (own := own) (C := cls) (index := ik) (n := 6) hown' hk' hins hini'
    (g := F0 m pc ls rest) rfl (by rw [hb]; exact d0) (Nat.le_refl _) (Nat.le_refl _)
  generalize hT1 : (T.setVm vm₁).pushCell { cls := cX, slots := kX.instanceTypes.map defaultValue, vm := .none } = T1 at X₁ st1
  have hcat : (Value.ref T.heap.size).category = 1 := rfl
  have hcellA : T1.heap[T.heap.size]? = some (freshCell cX kX) := by rw [← hT1]; exact State.heap_pushCell_size _ _
  have d3' : decode c.code (pc + 3) = .ok (.dup, 1) := by rw [hb]; exact d3
  obtain ⟨U, hsteps, hrun, hend, hW, hsame, ce, hce, hO⟩ := X₁.ctorThrow0 hexec htr (own := own) (cls := cls) (names := names) (ic := ic) hown' hcls hnames h (fun x hx => nomatch hx) hfX hkX hcellA (by rw [hhp, hT]; exact Nat.le_refl _)
    (g := { method := m, pc := pc + 4, locals := ls, stack := .ref T.heap.size :: .ref T.heap.size :: rest, locked := none }) rfl hsize rfl rfl (rest := rest) rfl
    (by rw [hb]; exact d4) (by rw [hb]; exact d7) hout hRframes (by simp only [List.map_cons, List.sum_cons, hcat]; omega) hlocks
  obtain ⟨f1, f2⟩ := vx_frame hsame
  rw [hhp] at f1 f2
  have hWs : s.WarmedH U.vm := State.WarmedH.trans hW0 hW
  have hcl : s.vm.findClass cls = some ce.cls := by
    have h9 := hO.cls
    rw [hvm] at h9
    exact h9
  have hall : s.sameButNew ({ U with vm := s.vm } : State) locs mc ms := by
    subst hA
    obtain ⟨e1, e2⟩ := hsame
    rw [State.setFrames_setFrames] at e1
    have h2 : (T.setVm s.vm).sameButNew ({ U with vm := s.vm } : State) [] (0 + 1) (0 + 6) := ⟨e1, e2⟩
    have h3 := X.same.trans h2
    rw [List.append_nil] at h3
    exact h3.mono hc hs
  refine ⟨U, ?_, .threw T.heap.size, hrun, hend, Or.inr ⟨T.heap.size, rfl, cls, ce, locs, hx U hWs.alike f1 (fun q hq => f2 q hq (fun z hz => nomatch hz)), hce, hO.vm, hcl, hWs, hall, hf⟩⟩
  refine st1 _ ?_
  show Steps p.tables e below (T1.setTop { method := m, pc := pc + 3, locals := ls, stack := .ref T.heap.size :: rest, locked := none }) _
  jvm_step X₁.here [X₁.here.top, hexec, d3', Value.category]
  exact hsteps
/-- 'throw new E("text")': new; dup; ldc; invokespecial; athrow -/
theorem vx_throwS {cc : ByteArray} {pc : Nat} (hexec : p.tables.exec = Jvm.exec) (hb : c.code = cc) (hl : l.stackTraces = false) {own cls text : String} {names : List String} {ik is ic mc ms sa : Nat} {A : Nat → Prop}
    (hown : s.vm.findClass own = some m.cls) (hcls : Bundle.fit cls = true) (hnames : ∀ n ∈ names, Bundle.fit n = true)
    (hk : (Cond.classLink own ik cls).before args s = true) (hini : (Cond.initialized cls).before args s = true) (hstr : vk_R own is text sa s) (hat : ∀ w ∈ vx_atS own ic cls names, w.before args s = true)
    (hgood : ∀ w ∈ Cond.classLink own ik cls :: Cond.initialized cls :: vx_atS own ic cls names, vx_ot w = true)
    (hU : vx_Zq Bundle.tN "UNASSIGNED_STACK" Bundle.steD A s s.heap) (hN : vx_Zq Bundle.tN "SUPPRESSED_SENTINEL" Bundle.listD A s s.heap) (hS : va_S A s.heap H locs) (hsize : ls.size = c.maxLocals)
    (d0 : decode cc pc = .ok (.new ik, 3)) (d3 : decode cc (pc + 3) = .ok (.dup, 1)) (d4 : decode cc (pc + 4) = .ok (.ldc is, 2)) (d6 : decode cc (pc + 6) = .ok (.invokespecial ic, 3)) (d9 : decode cc (pc + 9) = .ok (.athrow, 1))
    (hout : ∀ x ∈ c.exceptionTable.toList, covers x (pc + 9) = false)
    (hRframes : names.length + 3 < R.frames) (hRlocals : (rest.map fun v => v.category).sum + (13 * (names.length + 1) + 43) ≤ R.locals) (hRcells : cells + 1 ≤ R.cells) (hRslots : slots + 6 ≤ R.slots) (hlocks : meth.locks = false)
    (hx : ∀ t : State, s.vm.Alike t.vm → H.size ≤ t.heap.size → (∀ q : Nat, q < H.size → t.heap[q]? = H[q]?) → XC cls s t)
    (hf : ∀ z ∈ locs, free z.base) (hc : cells + 1 ≤ mc) (hs : slots + 6 ≤ ms) :
    W p l e R s m args below meth c H locs cells slots (vx_MQ below Qc XC args s mc ms free) (F0 m pc ls rest) := by
  intro T hT X
  have htr : e.platform.stackTraces = false := (show e.platform.stackTraces = l.stackTraces by rw [X.admits.platform]).trans hl
  have Y := vx_rebase X (R' := { frames := R.frames, locals := R.locals, cells := 1, slots := 6 }) (Nat.le_refl _) (Nat.le_refl _) hRcells hRslots
  obtain ⟨s', hA⟩ : ∃ z, z = (T.setVm s.vm).setFrames (.invoking m args :: below) := ⟨_, rfl⟩
  rw [← hA] at Y
  have hvm : s'.vm = s.vm := by rw [hA]; rfl
  have hhp : s'.heap = H := by rw [hA]; exact hT
  have hW0 : s.WarmedH s'.vm := by rw [hvm]; exact State.WarmedH.refl s
  have hat' : ∀ w ∈ vx_atS own ic cls names, w.before args s' = true := fun w hw => vx_ot_at hW0 hvm.symm (hgood w (List.mem_cons_of_mem _ (List.mem_cons_of_mem _ hw))) (hat w hw)
  have hk' : (Cond.classLink own ik cls).before args s' = true := vx_ot_at hW0 hvm.symm (hgood _ List.mem_cons_self) hk
  have hini' : (Cond.initialized cls).before args s' = true := vx_ot_at hW0 hvm.symm (hgood _ (List.mem_cons_of_mem _ List.mem_cons_self)) hini
  have hU' : vx_Zq Bundle.tN "UNASSIGNED_STACK" Bundle.steD A s' s'.heap := by rw [hhp]; exact vx_Zq.moved hW0.alike (hU.kept hS.2.1)
  have hN' : vx_Zq Bundle.tN "SUPPRESSED_SENTINEL" Bundle.listD A s' s'.heap := by rw [hhp]; exact vx_Zq.moved hW0.alike (hN.kept hS.2.1)
  have h : ∀ w ∈ Bundle.ownAtoms own ic cls names, w.before args s' = true := vx_own hat' (vx_isRefq hU'.1) (vx_isRefq hN'.1) hU'.2.word hN'.2.word
  have hown' : s'.vm.findClass own = some m.cls := by rw [hvm]; exact hown
  have hins : (Cond.instantiable cls 6).before args s' = true := h _ (by simp [Bundle.ownAtoms])
  obtain ⟨vm₁, cX, kX, hfX, hkX, -, -, X₁, st1⟩ := Y.newCold hexec (own := own) (C := cls) (index := ik) (n := 6) hown' hk' hins hini'
    (g := F0 m pc ls rest) rfl (by rw [hb]; exact d0) (Nat.le_refl _) (Nat.le_refl _)
  generalize hT1 : (T.setVm vm₁).pushCell { cls := cX, slots := kX.instanceTypes.map defaultValue, vm := .none } = T1 at X₁ st1
  have hcat : (Value.ref T.heap.size).category = 1 := rfl
  have hcellA : T1.heap[T.heap.size]? = some (freshCell cX kX) := by rw [← hT1]; exact State.heap_pushCell_size _ _
  have d3' : decode c.code (pc + 3) = .ok (.dup, 1) := by rw [hb]; exact d3
  have d4' : decode c.code (pc + 4) = .ok (.ldc is, 2) := by rw [hb]; exact d4
  have hstr' : vk_R own is text sa s' := vk_R.warm hW0 hstr
  obtain ⟨U, hsteps, hrun, hend, hW, hsame, ce, hce, hO⟩ := X₁.ctorThrowS hexec htr (own := own) (cls := cls) (names := names) (ic := ic) hown' hcls hnames h (fun x hx => nomatch hx) hfX hkX hcellA (by rw [hhp, hT]; exact Nat.le_refl _) (msg := .ref sa) rfl
    (g := { method := m, pc := pc + 6, locals := ls, stack := .ref sa :: .ref T.heap.size :: .ref T.heap.size :: rest, locked := none }) rfl hsize rfl rfl (rest := rest) rfl
    (by rw [hb]; exact d6) (by rw [hb]; exact d9) hout hRframes (by simp only [List.map_cons, List.sum_cons, hcat]; omega) hlocks
  obtain ⟨f1, f2⟩ := vx_frame hsame
  rw [hhp] at f1 f2
  have hWs : s.WarmedH U.vm := State.WarmedH.trans hW0 hW
  have hcl : s.vm.findClass cls = some ce.cls := by
    have h9 := hO.cls
    rw [hvm] at h9
    exact h9
  have hall : s.sameButNew ({ U with vm := s.vm } : State) locs mc ms := by
    subst hA
    obtain ⟨e1, e2⟩ := hsame
    rw [State.setFrames_setFrames] at e1
    have h2 : (T.setVm s.vm).sameButNew ({ U with vm := s.vm } : State) [] (0 + 1) (0 + 6) := ⟨e1, e2⟩
    have h3 := X.same.trans h2
    rw [List.append_nil] at h3
    exact h3.mono hc hs
  refine ⟨U, ?_, .threw T.heap.size, hrun, hend, Or.inr ⟨T.heap.size, rfl, cls, ce, locs, hx U hWs.alike f1 (fun q hq => f2 q hq (fun z hz => nomatch hz)), hce, hO.vm, hcl, hWs, hall, hf⟩⟩
  refine st1 _ ?_
  show Steps p.tables e below (T1.setTop { method := m, pc := pc + 3, locals := ls, stack := .ref T.heap.size :: rest, locked := none }) _
  jvm_step X₁.here [X₁.here.top, hexec, d3', Value.category]
  exact X₁.ldcString hexec (own := own) (text := text) (index := is) (a := sa) hown' hstr'.1 hstr'.2
    (g := { method := m, pc := pc + 4, locals := ls, stack := .ref T.heap.size :: .ref T.heap.size :: rest, locked := none }) rfl d4' _ hsteps
/-- 'throw new E("text")', the text by a wide index -/
theorem vx_throwSW {cc : ByteArray} {pc : Nat} (hexec : p.tables.exec = Jvm.exec) (hb : c.code = cc) (hl : l.stackTraces = false) {own cls text : String} {names : List String} {ik is ic mc ms sa : Nat} {A : Nat → Prop}
    (hown : s.vm.findClass own = some m.cls) (hcls : Bundle.fit cls = true) (hnames : ∀ n ∈ names, Bundle.fit n = true)
    (hk : (Cond.classLink own ik cls).before args s = true) (hini : (Cond.initialized cls).before args s = true) (hstr : vk_R own is text sa s) (hat : ∀ w ∈ vx_atS own ic cls names, w.before args s = true)
    (hgood : ∀ w ∈ Cond.classLink own ik cls :: Cond.initialized cls :: vx_atS own ic cls names, vx_ot w = true)
    (hU : vx_Zq Bundle.tN "UNASSIGNED_STACK" Bundle.steD A s s.heap) (hN : vx_Zq Bundle.tN "SUPPRESSED_SENTINEL" Bundle.listD A s s.heap) (hS : va_S A s.heap H locs) (hsize : ls.size = c.maxLocals)
    (d0 : decode cc pc = .ok (.new ik, 3)) (d3 : decode cc (pc + 3) = .ok (.dup, 1)) (d4 : decode cc (pc + 4) = .ok (.ldc_w is, 3)) (d7 : decode cc (pc + 7) = .ok (.invokespecial ic, 3)) (d10 : decode cc (pc + 10) = .ok (.athrow, 1))
    (hout : ∀ x ∈ c.exceptionTable.toList, covers x (pc + 10) = false)
    (hRframes : names.length + 3 < R.frames) (hRlocals : (rest.map fun v => v.category).sum + (13 * (names.length + 1) + 43) ≤ R.locals) (hRcells : cells + 1 ≤ R.cells) (hRslots : slots + 6 ≤ R.slots) (hlocks : meth.locks = false)
    (hx : ∀ t : State, s.vm.Alike t.vm → H.size ≤ t.heap.size → (∀ q : Nat, q < H.size → t.heap[q]? = H[q]?) → XC cls s t)
    (hf : ∀ z ∈ locs, free z.base) (hc : cells + 1 ≤ mc) (hs : slots + 6 ≤ ms) :
    W p l e R s m args below meth c H locs cells slots (vx_MQ below Qc XC args s mc ms free) (F0 m pc ls rest) := by
  intro T hT X
  have htr : e.platform.stackTraces = false := (show e.platform.stackTraces = l.stackTraces by rw [X.admits.platform]).trans hl
  have Y := vx_rebase X (R' := { frames := R.frames, locals := R.locals, cells := 1, slots := 6 }) (Nat.le_refl _) (Nat.le_refl _) hRcells hRslots
  obtain ⟨s', hA⟩ : ∃ z, z = (T.setVm s.vm).setFrames (.invoking m args :: below) := ⟨_, rfl⟩
  rw [← hA] at Y
  have hvm : s'.vm = s.vm := by rw [hA]; rfl
  have hhp : s'.heap = H := by rw [hA]; exact hT
  have hW0 : s.WarmedH s'.vm := by rw [hvm]; exact State.WarmedH.refl s
  have hat' : ∀ w ∈ vx_atS own ic cls names, w.before args s' = true := fun w hw => vx_ot_at hW0 hvm.symm (hgood w (List.mem_cons_of_mem _ (List.mem_cons_of_mem _ hw))) (hat w hw)
  have hk' : (Cond.classLink own ik cls).before args s' = true := vx_ot_at hW0 hvm.symm (hgood _ List.mem_cons_self) hk
  have hini' : (Cond.initialized cls).before args s' = true := vx_ot_at hW0 hvm.symm (hgood _ (List.mem_cons_of_mem _ List.mem_cons_self)) hini
  have hU' : vx_Zq Bundle.tN "UNASSIGNED_STACK" Bundle.steD A s' s'.heap := by rw [hhp]; exact vx_Zq.moved hW0.alike (hU.kept hS.2.1)
  have hN' : vx_Zq Bundle.tN "SUPPRESSED_SENTINEL" Bundle.listD A s' s'.heap := by rw [hhp]; exact vx_Zq.moved hW0.alike (hN.kept hS.2.1)
  have h : ∀ w ∈ Bundle.ownAtoms own ic cls names, w.before args s' = true := vx_own hat' (vx_isRefq hU'.1) (vx_isRefq hN'.1) hU'.2.word hN'.2.word
  have hown' : s'.vm.findClass own = some m.cls := by rw [hvm]; exact hown
  have hins : (Cond.instantiable cls 6).before args s' = true := h _ (by simp [Bundle.ownAtoms])
  obtain ⟨vm₁, cX, kX, hfX, hkX, -, -, X₁, st1⟩ := Y.newCold hexec (own := own) (C := cls) (index := ik) (n := 6) hown' hk' hins hini'
    (g := F0 m pc ls rest) rfl (by rw [hb]; exact d0) (Nat.le_refl _) (Nat.le_refl _)
  generalize hT1 : (T.setVm vm₁).pushCell { cls := cX, slots := kX.instanceTypes.map defaultValue, vm := .none } = T1 at X₁ st1
  have hcat : (Value.ref T.heap.size).category = 1 := rfl
  have hcellA : T1.heap[T.heap.size]? = some (freshCell cX kX) := by rw [← hT1]; exact State.heap_pushCell_size _ _
  have d3' : decode c.code (pc + 3) = .ok (.dup, 1) := by rw [hb]; exact d3
  have d4' : decode c.code (pc + 4) = .ok (.ldc_w is, 3) := by rw [hb]; exact d4
  have hstr' : vk_R own is text sa s' := vk_R.warm hW0 hstr
  obtain ⟨U, hsteps, hrun, hend, hW, hsame, ce, hce, hO⟩ := X₁.ctorThrowS hexec htr (own := own) (cls := cls) (names := names) (ic := ic) hown' hcls hnames h (fun x hx => nomatch hx) hfX hkX hcellA (by rw [hhp, hT]; exact Nat.le_refl _) (msg := .ref sa) rfl
    (g := { method := m, pc := pc + 7, locals := ls, stack := .ref sa :: .ref T.heap.size :: .ref T.heap.size :: rest, locked := none }) rfl hsize rfl rfl (rest := rest) rfl
    (by rw [hb]; exact d7) (by rw [hb]; exact d10) hout hRframes (by simp only [List.map_cons, List.sum_cons, hcat]; omega) hlocks
  obtain ⟨f1, f2⟩ := vx_frame hsame
  rw [hhp] at f1 f2
  have hWs : s.WarmedH U.vm := State.WarmedH.trans hW0 hW
  have hcl : s.vm.findClass cls = some ce.cls := by
    have h9 := hO.cls
    rw [hvm] at h9
    exact h9
  have hall : s.sameButNew ({ U with vm := s.vm } : State) locs mc ms := by
    subst hA
    obtain ⟨e1, e2⟩ := hsame
    rw [State.setFrames_setFrames] at e1
    have h2 : (T.setVm s.vm).sameButNew ({ U with vm := s.vm } : State) [] (0 + 1) (0 + 6) := ⟨e1, e2⟩
    have h3 := X.same.trans h2
    rw [List.append_nil] at h3
    exact h3.mono hc hs
  refine ⟨U, ?_, .threw T.heap.size, hrun, hend, Or.inr ⟨T.heap.size, rfl, cls, ce, locs, hx U hWs.alike f1 (fun q hq => f2 q hq (fun z hz => nomatch hz)), hce, hO.vm, hcl, hWs, hall, hf⟩⟩
  refine st1 _ ?_
  show Steps p.tables e below (T1.setTop { method := m, pc := pc + 3, locals := ls, stack := .ref T.heap.size :: rest, locked := none }) _
  jvm_step X₁.here [X₁.here.top, hexec, d3', Value.category]
  exact X₁.ldcStringW hexec (own := own) (text := text) (index := is) (a := sa) hown' hstr'.1 hstr'.2
    (g := { method := m, pc := pc + 4, locals := ls, stack := .ref T.heap.size :: .ref T.heap.size :: rest, locked := none }) rfl d4' _ hsteps
end Ends
section Bodies
variable {l : Launch}
theorem vx_ofW {y : MethodName} {ws ws' : List Cond} {rm : Room} {Pc : Array Value → State → Prop} {Qc : Array Value → State → Outcome → State → Prop} {XC : String → State → State → Prop} {mc ms : Nat} {free : Addr → Prop} {cc : ByteArray} {maxL : Nat} {ret : Option FieldType}
    (hy : plainName y.cls = true) (hw : ws = Cond.code y cc maxL ret :: ws')
    (body : ∀ p e s m args below meth c s₁, BodyLoose p l y (headSpec ws rm) cc maxL ret e s m args below meth c s₁ → c.maxLocals = maxL → (∀ x ∈ c.exceptionTable.toList, False) → Pc args s →
      W p l e (headSpec ws rm).room s m args below meth c s.heap [] 0 0 (vx_MQ below Qc XC args s mc ms free) (entryFrame m args maxL)) : vx_Met l y ws rm Pc Qc XC mc ms free := by
  refine MetFree.of_bodyS (code := cc) (maxLocals := maxL) (ret := ret) hy ?_ ?_
  · intro args s m h hn
    obtain ⟨meth, c, h1, h2, h3, h4, h5, h6, -, -⟩ := Cond.code_spec hn (atoms_spec (ws := ws) h _ (by rw [hw]; exact List.mem_cons_self))
    exact ⟨meth, c, h1, h2, h3, h4, h5, h6⟩
  · intro p e s m args below meth c s₁ B hml hP _
    have hh0 : s₁.heap = s.heap := by rw [B.state]; rfl
    have ht : ∀ x ∈ c.exceptionTable.toList, False := by
      obtain ⟨meth9, c9, h1, h2, -, -, -, -, h7, -⟩ := Cond.code_spec B.named (atoms_spec (ws := ws) B.pre _ (by rw [hw]; exact List.mem_cons_self))
      cases Option.some.inj (h1.symm.trans B.method)
      cases Option.some.inj (h2.symm.trans (Stand.of_body B).code)
      intro x hx
      rw [Array.isEmpty_iff.mp h7] at hx
      cases hx
    obtain ⟨t, a1, o, b1, b2, b3⟩ := body p e s m args below meth c s₁ B hml ht hP s₁ hh0 (Stand.of_body B)
    exact ⟨t, o, a1, b1, b2, b3⟩
/-- the table of a body with handlers -/
theorem vx_table {p : Program} {x y : MethodName} {S : Spec} {cc bytes : ByteArray} {maxL maxL' : Nat} {ret ret' : Option FieldType} {e : Env} {s s₁ : State} {m : MethodId} {args : Array Value} {below : List Frame} {meth : Method} {c : Code} {hh : List (Nat × Nat × Nat × Nat)}
    (B : BodyLoose p l y S cc maxL ret e s m args below meth c s₁) (h : (Cond.codeWith y bytes maxL' ret' hh).before args s = true) : c.exceptionTable.toList = tableOf hh := by
  obtain ⟨m9, meth9, c9, hn9, h1, h2, -, -, h6, -⟩ := Cond.codeWith_spec h
  cases Option.some.inj (hn9.symm.trans B.named)
  cases Option.some.inj (h1.symm.trans B.method)
  cases Option.some.inj (h2.symm.trans (Stand.of_body B).code)
  rw [← h6, table_eq]
end Bodies
end VXA
/-! ===== END ===== -/
/-! ===== BEGIN a static call of a method with an exception table ===== -/
section VXS
variable {p : Program} {l : Launch} {e : Env} {R : Room} {s : State} {m : MethodId} {args : Array Value} {below : List Frame} {meth : Method} {c : Code} {T : State} {H : Heap} {locs : List Loc} {cells slots : Nat}
abbrev vx_CSW (R : Room) (s : State) (args : Array Value) (own : String) (index : Nat) (y : MethodName) (bytes : ByteArray) (maxL : Nat) (ret : Option FieldType) (hh : List (Nat × Nat × Nat × Nat)) (ws : List Cond) (rm : Room) (mc ms n : Nat) : Prop :=
  (rm.cells = mc ∧ rm.slots = ms ∧ rm.frames + 1 ≤ R.frames ∧ 8 + (maxL + 11) + rm.locals ≤ R.locals ∧ (∀ w ∈ ws, ∀ (a' : Array Value) (U : State), s.WarmedH U.vm → w.before a' U = true) ∧ Cond.codeWith y bytes maxL ret hh ∈ ws) ∧
  (Cond.codeWith y bytes maxL ret hh).before args s = true ∧ (Cond.initialized y.cls).before args s = true ∧ (y.cls ≠ "java/lang/invoke/MethodHandle" ∧ y.cls ≠ "java/lang/invoke/VarHandle") ∧
  (∀ sig, parseMethodDescriptor y.desc = some sig → n = sig.parameters.length) ∧ (Cond.methodLink own index y).before args s = true ∧ (Cond.static y).before args s = true
theorem vx_cwSW {own : String} {index maxL mc ms : Nat} {y : MethodName} {bytes : ByteArray} {ret : Option FieldType} {hh : List (Nat × Nat × Nat × Nat)} {Ts ws ws' : List Cond} {rm : Room} (n : Nat) (ht : ∀ w ∈ Ts, w.before args s = true) (hT : GoodIn Ts (va_wsS own index y ws)) (hw : ws = Cond.codeWith y bytes maxL ret hh :: ws') (hrc : rm.cells = mc) (hrs : rm.slots = ms)
    (hd : y.cls ≠ "java/lang/invoke/MethodHandle" ∧ y.cls ≠ "java/lang/invoke/VarHandle" ∧ (parseMethodDescriptor y.desc).map (fun d => d.parameters.length) = some n) (hR : rm.frames + 1 ≤ R.frames ∧ 8 + (maxL + 11) + rm.locals ≤ R.locals) :
    vx_CSW R s args own index y bytes maxL ret hh ws rm mc ms n := by
  have ok : ∀ w ∈ va_wsS own index y ws, w.before args s = true := fun w h => ht w (hT w h).1
  have hG : GoodIn Ts ws := fun w h => hT w (by unfold va_wsS; exact List.mem_append_right _ h)
  have hc : Cond.codeWith y bytes maxL ret hh ∈ ws := by rw [hw]; exact List.mem_cons_self
  refine ⟨⟨hrc, hrs, hR.1, hR.2, pay_in ht hG, hc⟩, ht _ (hG _ hc).1, ok _ (by simp [va_wsS]), ⟨hd.1, hd.2.1⟩, fun sig h => ?_, ok _ (by simp [va_wsS]), ok _ (by simp [va_wsS])⟩
  have h2 := hd.2.2
  rw [h] at h2
  exact (Option.some.inj h2).symm
theorem vx_callSW (X : Stand p l e R s m args below meth c T locs cells slots) (hexec : p.tables.exec = Jvm.exec) {own : String} {index : Nat} {y : MethodName} {bytes : ByteArray} {maxL : Nat} {ret : Option FieldType} {hh : List (Nat × Nat × Nat × Nat)}
    (hown : s.vm.findClass own = some m.cls) (hlink : (Cond.methodLink own index y).before args s = true) (hstat : (Cond.static y).before args s = true) (hinit : (Cond.initialized y.cls).before args s = true)
    (hcode : (Cond.codeWith y bytes maxL ret hh).before args s = true) (hy : y.cls ≠ "java/lang/invoke/MethodHandle" ∧ y.cls ≠ "java/lang/invoke/VarHandle")
    {W9 : Nat} {Pre : Pt → Array Value → Prop} {Post : Pt → Array Value → Option Value → Pt → Prop} (hK : Back l R p e below s args y 3 W9 Pre Post)
    {g : JFrame} (hg : g.method = m) (hsize : g.locals.size = c.maxLocals) {argsL rest : List Value} (hlen : ∀ sig, parseMethodDescriptor y.desc = some sig → argsL.length = sig.parameters.length)
    (hstack : g.stack = argsL.reverse ++ rest) (hW : 2 * g.monitorRoom + (rest.map fun v => v.category).sum ≤ W9) (hdg : decode c.code g.pc = .ok (.invokestatic index, 3))
    (hpre : ∀ vm₁, s.WarmedH vm₁ → Pre ⟨T.setVm vm₁, locs, cells, slots⟩ argsL.toArray) :
    ∃ (v : Option Value) (vm₁ : Vm) (B : Pt), s.WarmedH vm₁ ∧ Stand p l e R s m args below meth c B.U B.locs B.cells B.slots ∧ Post ⟨T.setVm vm₁, locs, cells, slots⟩ argsL.toArray v B ∧
      ∀ target, Steps p.tables e below (B.U.setTop { g with pc := g.pc + 3, stack := v.toList ++ rest }) target → Steps p.tables e below (T.setTop g) target := by
  obtain ⟨mk, methM, cM, hnamed, hmethM, -, -, -, -, -, -, hsigM⟩ := Cond.codeWith_spec hcode
  have hstatic : methM.isStatic = true := Cond.static_spec hnamed hmethM hstat
  obtain ⟨kP, hkP, -⟩ := className_of_methodNamed hnamed
  have hinitP : kP.init = .initialized := Cond.initialized_spec (findClass_of_methodNamed hnamed) hkP hinit
  obtain ⟨vm₁, X₁, hstep₁⟩ := X.invokestatic hexec hown hlink hnamed hmethM hstatic hkP hinitP hy (g := g) hg (argsL := argsL) (rest := rest) (hlen _ hsigM) hstack hdg
  obtain ⟨v, B, X', hpost, hsteps⟩ := hK m meth c ⟨T.setVm vm₁, locs, cells, slots⟩ { g with stack := rest } (.invokestatic index) mk argsL.toArray X₁ hg hsize hdg hW (X₁.named hnamed) (hpre vm₁ X₁.warmed)
  exact ⟨v, vm₁, B, X₁.warmed, X', hpost, fun target h => hstep₁ _ fun acts => by rw [doInvoke_state]; exact hsteps.trans h⟩
theorem vx_runSW {y : MethodName} {bytes cc : ByteArray} {maxL nL mc ms n index : Nat} {ret : Option FieldType} {hh : List (Nat × Nat × Nat × Nat)} {ws : List Cond} {rm : Room} {Pc : Array Value → State → Prop} {Qc : Array Value → State → Outcome → State → Prop} {free : Addr → Prop} {Ts : List Cond} {own : String} {As rest : List Value} {g : JFrame}
    (S : CallFix p m c cc nL s args Ts own) (hM : Met l y ws rm Pc Qc mc ms free) (cw : vx_CSW R s args own index y bytes maxL ret hh ws rm mc ms n) (hp : PreS s H Pc As)
    (hg : g.method = m) (hn : As.length = n) (hsize : g.locals.size = nL) (hstack : g.stack = As.reverse ++ rest) (hW : 2 * g.monitorRoom + (rest.map fun v => v.category).sum ≤ 8) (hdg : decode cc g.pc = .ok (.invokestatic index, 3)) (hf : cells + mc ≤ R.cells ∧ slots + ms ≤ R.slots) :
    va_Run p l e R s m args below meth c H locs cells slots mc ms g rest (Qc As.toArray) (free) := by
  obtain ⟨⟨hrc, hrs, hfr, hlo, hws, hcw⟩, hcode, hini, hy, hlen, hl, hstt⟩ := cw
  have hK : Back l R p e below s args y 3 8 (PreOf R mc ms Pc) (PostOf Qc mc ms free) := va_backW (hh := hh) (bytes := bytes) (maxL := maxL) (ret := ret) hM hp.1 hrc hrs hfr hlo hws hcw (fun a' U hW => word_at hW (Or.inl (by first | rfl | simp [Cond.onTables, Cond.keeps, Cond.steady])) hini)
  obtain ⟨hx, hb, hml, ho, -⟩ := S
  intro T hT X
  obtain ⟨v, vm₁, ⟨U', l2, c2, s2⟩, hW₁, X', ⟨g', mk, t, L, e1, e2, hq, h1, hL, h2, h3⟩, st⟩ := vx_callSW X hx (hh := hh) (bytes := bytes) (maxL := maxL) (ret := ret) ho hl hstt hini hcode hy hK hg (hsize.trans hml.symm) (argsL := As) (rest := rest) (fun sig h => hn.trans (hlen sig h)) hstack hW (by rw [hb]; exact hdg)
    (fun vm₁ hW₁ => ⟨hf.1, hf.2, hp.2 (T.setVm vm₁) hT hW₁⟩)
  dsimp only [Pt.U, Pt.locs, Pt.cells, Pt.slots] at X' e1 e2 h1 h2 h3 st
  subst h1; subst h2; subst h3
  exact ⟨v, (T.setVm vm₁).calling g' mk As.toArray, t, U', L, hT, X', hL, e1, e2, hq, st⟩
/-- not caught here, past rows that name other classes: it goes on to the caller -/
theorem vx_outP {p : Program} {l : Launch} {e : Env} {R : Room} {s : State} {m : MethodId} {args : Array Value} {below : List Frame} {meth : Method} {c : Code} {H : Heap} {locs : List Loc} {cells slots : Nat} {free : Addr → Prop} {ls : Array Slot} {rest : List Value} {Qc : Array Value → State → Outcome → State → Prop} {XC : String → State → State → Prop}
    {pc : Nat} {own E : String} {ce : Cell} {q : Addr} {mc ms : Nat} (hown : s.vm.findClass own = some m.cls) (hlocks : meth.locks = false)
    (hpass : ∀ z ∈ c.exceptionTable.toList, covers z pc = false ∨ (z.catchType ≠ 0 ∧ ∃ nm : String, (Cond.classLink own z.catchType nm).before args s = true ∧ va_Nc E nm s)) (hcell : H[q]? = some ce) (hv : ce.vm = .none) (hcl : s.vm.findClass E = some ce.cls)
    (hx : ∀ t : State, t.heap = H → s.vm.Alike t.vm → XC E s t) (hf : ∀ z ∈ locs, free z.base) (hc : cells ≤ mc) (hs : slots ≤ ms) :
    vx_W p l e R s m args below meth c H locs cells slots (vx_MQ below Qc XC args s mc ms free) (F0 m pc ls rest) q := by
  intro T hT X
  have hpl : e.platform.magicAccessors = ({} : Platform).magicAccessors := by rw [X.admits.platform]
  obtain ⟨vm', hW', X', st⟩ := Stand.outThrough X hlocks q (g := F0 m pc ls rest) rfl rfl rfl (cell := ce) (by rw [hT]; exact hcell) (by rw [hv]; rfl)
    (by obtain ⟨k9, h9, -⟩ := Vm.findClass_spec hcl; exact ⟨k9, h9⟩) (fun z hz => by
      rcases hpass z hz with h | ⟨hz0, nm, hl1, hn1⟩
      · exact Or.inl h
      · obtain ⟨c6, hc6, hcl6⟩ := Cond.classLink_spec hown hl1 e.platform hpl
        obtain ⟨a8, b8, h1, h2, h3⟩ := hn1
        cases Option.some.inj (h1.symm.trans hcl)
        cases Option.some.inj (h2.symm.trans hc6)
        exact Or.inr ⟨hz0, _, hcl6, h3⟩)
  obtain ⟨g₀, hfr⟩ := X'.frames_eq
  have hcell9 : ((T.setVm vm').setFrames (.throwing q :: below)).heap[q]? = some ce := by
    show T.heap[q]? = some ce
    rw [hT]; exact hcell
  have hend : Ended ((T.setVm vm').setFrames (.throwing q :: below)) below (.threw q) := State.frames_setFrames _ (State.cur_lt_of_frames hfr)
  refine ⟨(T.setVm vm').setFrames (.throwing q :: below), ?_, .threw q, X'.here.running, hend, Or.inr ⟨q, rfl, E, ce, locs, hx _ hT (X'.ends _).1.alike, hcell9, hv, hcl, (X'.ends _).1, (X'.ends _).2.mono hc hs, hf⟩⟩
  rw [X.pushThrowing_eq]
  exact st
/-- a thing of a world lies in the heap -/
theorem vx_lt {D : va_G} {cl : List vw_C} {ws : va_W} {H1 : Heap} (h : va_P D cl ws H1) {k : Nat} {q : Nat × va_E} (hk : ws[k]? = some q) : q.1 < H1.size := (h k q hk).lt
end VXS
/-! ===== END ===== -/
end
section
/-! A run of the pure machine up to a place: what holds there gives what holds here -/
def pp_run (sw : List (Nat × Nat)) (stop : Nat → Bool) : Nat → Nat → Nat → Nat → pm_L → List Value → pm_H → Option (Nat × pm_L × List Value × pm_H)
  | 0, _, _, _, _, _, _ => none
  | n + 1, d, mi, pc, L, S, h => bif stop pc then some (pc, L, S, h) else match pm_step sw mi pc L S h with
    | none => match pm_fd (pm_code mi) pc with
      | none => none
      | some i => match pm_cpy i sw (pm_ow mi) h S with
        | none => none
        | some (h', S') => bif Nat.blt 0 d then pp_run sw stop n d mi (pc + 3) L S' h' else none
    | some (.inl (pc', L', S', h')) => pp_run sw stop n d mi pc' L' S' h'
    | some (.inr (.inl _)) => none
    | some (.inr (.inr (mj, as, S'))) => match d with
      | 0 => none
      | d' + 1 => match pm_prim mj as with
        | some v => bif Nat.ble 4 d' then pp_run sw stop n (d' + 1) mi (pc + 3) L (v :: S') h else none
        | none => match pm_run sw n d' mj 0 (lv_args 0 as) [] h with
          | none => none
          | some (v, h') => pp_run sw stop n (d' + 1) mi (pc + 3) L (v.toList ++ S') h'
section PP1
variable {l : Launch} {rho : Nat → Nat} {D : va_G} {cy : Nat → ClassId} {sw : List (Nat × Nat)}
def pp_Bd (l : Launch) (rho : Nat → Nat) (D : va_G) (cy : Nat → ClassId) (sw : List (Nat × Nat)) (stop : Nat → Bool) (n : Nat) : Prop :=
  ∀ (d mi pc : Nat) (L : pm_L) (S : List Value) (h : pm_H) (pc9 : Nat) (L9 : pm_L) (S9 : List Value) (h' : pm_H), pp_run sw stop n d mi pc L S h = some (pc9, L9, S9, h') →
  ∀ (p : Program) (e : Env) (R : Room) (s : State) (m : MethodId) (args : Array Value) (below : List Frame) (meth : Method) (c : Code) (H : Heap) (locs : List Loc) (ls : Array Slot) (A : Nat → Prop) (Q : State → Prop) (cells slots : Nat) (Ts : List Cond),
  p.tables.exec = Jvm.exec → c.code = pm_by mi → c.maxLocals = pm_mx mi → s.vm.findClass (pm_on (pm_ow mi)) = some m.cls → (∀ w ∈ Ts, w.before args s = true) → (∀ w ∈ pm_G, w ∈ Ts) → (d ≤ R.frames ∧ d * 40 ≤ R.locals ∧ cells ≤ R.cells ∧ slots ≤ R.slots) →
  va_K D pm_cl (pm_tys cy) s → va_P D pm_cl (pm_W cy rho sw h) H → va_D A (pm_W cy rho sw h) → va_S A s.heap H locs → (∀ q, s.heap.size ≤ q → A q) → pm_KS rho A s s.heap → lv_has ls (pm_mx mi) (pm_cL rho L) →
  (∀ (H1 : Heap) (locs1 : List Loc) (ls1 : Array Slot), va_P D pm_cl (pm_W cy rho sw h') H1 → va_D A (pm_W cy rho sw h') → va_S A s.heap H1 locs1 → lv_has ls1 (pm_mx mi) (pm_cL rho L9) → W p l e R s m args below meth c H1 locs1 cells slots Q (F0 m pc9 ls1 (pm_cS rho S9))) →
  W p l e R s m args below meth c H locs cells slots Q (F0 m pc ls (pm_cS rho S))
theorem pp_goodIn {Ts : List Cond} {mj : Nat} (hG : ∀ w ∈ pm_G, w ∈ Ts) (hj : mj < 173) : GoodIn Ts (pm_ws mj) := by
  intro w hw
  have hw2 : w ∈ pm_G := by
    rcases List.mem_cons.mp hw with rfl | h1
    · exact pm_G_all hj
    · exact h1
  exact ⟨hG w hw2, pm_good_G w hw2⟩
set_option maxHeartbeats 4000000 in
theorem pp_body (hinj : ∀ a b, pm_kc a = true → pm_kc b = true → rho a = rho b → a = b) (hprim : ∀ (mj : Nat) (as : List Value) (v : Value), pm_prim mj as = some v → ∀ (h : pm_H) (sz : Nat), Met l (pm_nm mj) (pm_ws mj) (pm_rm 4) (va_Pc (pm_cS rho as) (pm_B rho D cy sw h sz)) (pm_Q rho D cy sw h sz (some v) h) 0 0 (va_A (pm_W cy rho sw h) sz)) (stop : Nat → Bool) : ∀ n, pp_Bd l rho D cy sw stop n := by
  intro n
  induction n with
  | zero => intro d mi pc L S h pc9 L9 S9 h' hrun; cases hrun
  | succ n ih =>
    intro d mi pc L S h pc9 L9 S9 h' hrun p e R s m args below meth c H locs ls A Q cells slots Ts hx hb hml hown hts hG hR hK hP hD hS hA hKS hl hQ
    unfold pp_run at hrun
    cases hstp : stop pc with
    | true =>
      rw [hstp] at hrun
      cases hrun
      exact hQ H locs ls hP hD hS hl
    | false =>
    rw [hstp] at hrun
    dsimp only [cond] at hrun
    cases hst : pm_step sw mi pc L S h with
    | none =>
      rw [hst] at hrun
      dsimp only at hrun
      cases hfd : pm_fd (pm_code mi) pc with
      | none => rw [hfd] at hrun; cases hrun
      | some i =>
        rw [hfd] at hrun
        dsimp only at hrun
        obtain ⟨len, hdec, hlen⟩ := pm_decode hfd
        cases h9 : pm_cpy i sw (pm_ow mi) h S with
        | none => rw [h9] at hrun; cases hrun
        | some q =>
          obtain ⟨h9', S1⟩ := q
          rw [h9] at hrun
          dsimp only at hrun
          cases hd : Nat.blt 0 d with
          | false => rw [hd] at hrun; cases hrun
          | true =>
            rw [hd] at hrun
            have hd := pm_blt hd
            have hdg : decode (pm_by mi) pc = .ok (i, pm_ln i) := by
              rcases hlen with h1 | h1
              · unfold pm_cpy at h9; split at h9 <;> first | cases h1 | cases h9
              · rw [hdec, h1]
            exact pm_cpy_snd hx hb (hml.trans hl.1.symm) hts hG hown hK hP hD hS ⟨by omega, by omega⟩ hdg h9 (fun H1 locs1 hP1 hD1 hS1 => ih _ _ _ _ _ _ _ _ _ _ hrun p e R s m args below meth c H1 locs1 ls A Q cells slots Ts hx hb hml hown hts hG hR hK hP1 hD1 hS1 hA hKS hl hQ)
    | some r =>
      rw [hst] at hrun
      unfold pm_step at hst
      cases hfd : pm_fd (pm_code mi) pc with
      | none => rw [hfd] at hst; cases hst
      | some i =>
        rw [hfd] at hst
        dsimp only at hst
        obtain ⟨len, hdec, hlen⟩ := pm_decode hfd
        have hd1 : pm_ln i ≠ 0 → decode (pm_by mi) pc = .ok (i, pm_ln i) := fun z => by
          rcases hlen with h1 | h1
          · exact absurd h1 z
          · rw [hdec, h1]
        cases h1 : pm_push i L with
        | some v1 =>
          rw [h1] at hst
          cases hst
          exact pm_push_snd hx hb (hd1 (fun z => by unfold pm_push at h1; split at h1 <;> first | cases z | cases h1)) hl h1 (ih _ _ _ _ _ _ _ _ _ _ hrun p e R s m args below meth c H locs ls A Q cells slots Ts hx hb hml hown hts hG hR hK hP hD hS hA hKS hl hQ)
        | none =>
          rw [h1] at hst
          dsimp only at hst
          cases h2 : pm_ari i S with
          | some S1 =>
            rw [h2] at hst
            cases hst
            exact pm_ari_snd hx hb (hd1 (fun z => by unfold pm_ari at h2; split at h2 <;> first | cases z | cases h2)) h2 (ih _ _ _ _ _ _ _ _ _ _ hrun p e R s m args below meth c H locs ls A Q cells slots Ts hx hb hml hown hts hG hR hK hP hD hS hA hKS hl hQ)
          | none =>
            rw [h2] at hst
            dsimp only at hst
            cases h3 : pm_br i pc S with
            | some q =>
              obtain ⟨pc1, S1⟩ := q
              rw [h3] at hst
              cases hst
              exact pm_br_snd hx hb hdec hlen hinj h3 (ih _ _ _ _ _ _ _ _ _ _ hrun p e R s m args below meth c H locs ls A Q cells slots Ts hx hb hml hown hts hG hR hK hP hD hS hA hKS hl hQ)
            | none =>
              rw [h3] at hst
              dsimp only at hst
              cases h4 : pm_sto i (pm_mx mi) L S with
              | some q =>
                obtain ⟨L1, S1⟩ := q
                rw [h4] at hst
                cases hst
                exact pm_sto_snd hx hb (hd1 (fun z => by unfold pm_sto at h4; split at h4 <;> first | cases z | cases h4)) hl h4 (fun ls' hl' => ih _ _ _ _ _ _ _ _ _ _ hrun p e R s m args below meth c H locs ls' A Q cells slots Ts hx hb hml hown hts hG hR hK hP hD hS hA hKS hl' hQ)
              | none =>
                rw [h4] at hst
                dsimp only at hst
                cases h5 : pm_read i sw (pm_ow mi) h S with
                | some S1 =>
                  rw [h5] at hst
                  cases hst
                  exact pm_read_snd hx hb hts hG hown hK hP hS hKS (hd1 (pm_read_ln h5)) h5 (ih _ _ _ _ _ _ _ _ _ _ hrun p e R s m args below meth c H locs ls A Q cells slots Ts hx hb hml hown hts hG hR hK hP hD hS hA hKS hl hQ)
                | none =>
                  rw [h5] at hst
                  dsimp only at hst
                  cases h6 : pm_write i sw (pm_ow mi) h S with
                  | some q =>
                    obtain ⟨h1', S1⟩ := q
                    rw [h6] at hst
                    cases hst
                    exact pm_write_snd hx hb hts hG hown hK hP hD hS hKS (hd1 (fun z => by unfold pm_write at h6; split at h6 <;> first | cases z | cases h6)) h6 (fun H1 locs1 hP1 hD1 hS1 => ih _ _ _ _ _ _ _ _ _ _ hrun p e R s m args below meth c H1 locs1 ls A Q cells slots Ts hx hb hml hown hts hG hR hK hP1 hD1 hS1 hA hKS hl hQ)
                  | none =>
                    rw [h6] at hst
                    dsimp only at hst
                    cases h7 : pm_ret i (pm_rt mi) S with
                    | some w =>
                      rw [h7] at hst
                      cases hst
                      cases hrun
                    | none =>
                      rw [h7] at hst
                      dsimp only at hst
                      cases h8 : pm_call i sw (pm_ow mi) S with
                      | none => rw [h8] at hst; cases hst
                      | some q =>
                        obtain ⟨mj, as, S1⟩ := q
                        rw [h8] at hst
                        cases hst
                        dsimp only at hrun
                        cases d with
                        | zero => cases hrun
                        | succ d =>
                          dsimp only at hrun
                          have hcal : ∃ (d2 : Nat) (v2 : Option Value) (h2' : pm_H), d2 ≤ d ∧ ((lg_sl as).length ≤ pm_mx mj → mj < 173 → ∀ sz, Met l (pm_nm mj) (pm_ws mj) (pm_rm d2) (va_Pc (pm_cS rho as) (pm_B rho D cy sw h sz)) (pm_Q rho D cy sw h sz v2 h2') 0 0 (va_A (pm_W cy rho sw h) sz)) ∧ pp_run sw stop n (d + 1) mi (pc + 3) L (v2.toList ++ S1) h2' = some (pc9, L9, S9, h') := by
                            cases hpr : pm_prim mj as with
                            | some v2 =>
                              rw [hpr] at hrun
                              dsimp only at hrun
                              cases hd4 : Nat.ble 4 d with
                              | false => rw [hd4] at hrun; cases hrun
                              | true =>
                                rw [hd4] at hrun
                                exact ⟨4, some v2, h, Nat.le_of_ble_eq_true hd4, fun _ _ sz => hprim mj as v2 hpr h sz, hrun⟩
                            | none =>
                              rw [hpr] at hrun
                              dsimp only at hrun
                              cases hcal : pm_run sw n d mj 0 (lv_args 0 as) [] h with
                              | none => rw [hcal] at hrun; cases hrun
                              | some r2 =>
                                obtain ⟨v2, h2'⟩ := r2
                                rw [hcal] at hrun
                                exact ⟨d, v2, h2', Nat.le_refl _, fun hfit hj sz => pm_met_of (pm_body hinj hprim n) hcal hj hfit sz, hrun⟩
                          clear hrun
                          obtain ⟨d2, v2, h2', hd2, hMet, hrun⟩ := hcal
                          have hFc : ∀ q, va_A (pm_W cy rho sw h) H.size q → A q := by
                            intro q hq
                            rcases hq with ⟨k, en, hk⟩ | hq
                            · exact hD.2 k _ hk
                            · exact hA q (Nat.le_trans hS.1 hq)
                          have hKS1 : pm_KS rho (va_A (pm_W cy rho sw h) H.size) s H := (hKS.kept hS.2.1).narrow hFc
                          have hpre : ∀ U : State, U.heap = H → s.WarmedH U.vm → pm_B rho D cy sw h H.size U := by
                            intro U hU hW
                            refine ⟨by rw [hU], by rw [hU]; exact hP, va_K.moved hW.alike hK, hD.weaken (fun _ _ _ _ => trivial), ?_⟩
                            rw [hU]
                            exact pm_KS.moved hW.alike hKS1
                          have hdg := hd1 (fun z => by unfold pm_call at h8; split at h8 <;> first | cases z | cases h8)
                          have hfin : ∀ (mj : Nat) (as S1 : List Value) (st0 : List Value) (a0 : Array Value), mj < 173 → va_Run p l e R s m args below meth c H locs cells slots 0 0 (F0 m pc ls st0) (pm_cS rho S1) (pm_Q rho D cy sw h H.size v2 h2' a0) (va_A (pm_W cy rho sw h) H.size) → pp_run sw stop n (d + 1) mi (pc + 3) L (v2.toList ++ S1) h2' = some (pc9, L9, S9, h') → W p l e R s m args below meth c H locs cells slots Q (F0 m pc ls st0) := by
                            intro mj as S1 st0 a0 hj hr hrun
                            refine pm_callk (B := fun t => va_P D pm_cl (pm_W cy rho sw h2') t.heap ∧ va_D (va_A (pm_W cy rho sw h) H.size) (pm_W cy rho sw h2')) (A1 := va_A (pm_W cy rho sw h) H.size) (v0 := v2.map (pm_cv rho)) hr ?_ hS (fun q _ z => hFc q z) hFc ?_
                            · intro st w t hq
                              obtain ⟨q1, q2, q3⟩ := hq
                              exact ⟨Outcome.returned.inj q1, q2, q3⟩
                            · intro t locs1 hBt hS1
                              rw [pm_toList_c, ← pm_cS_app]
                              exact ih _ _ _ _ _ _ _ _ _ _ hrun p e R s m args below meth c t.heap locs1 ls A Q cells slots Ts hx hb hml hown hts hG hR hK hBt.1 (hBt.2.weaken (fun _ q _ z => hFc q.1 z)) hS1 hA hKS hl hQ
                          have hcb : ∀ (idx mj : Nat), pm_iv (pm_ow mi) idx = some mj → mj < 173 ∧ CallB R s args (pm_on (pm_ow mi)) idx (pm_nm mj) (pm_by mj) (pm_mx mj) (pm_rt mj) (pm_ws mj) (pm_rm d2) 0 0 (pm_np mj) := by
                            intro idx mj hiv
                            obtain ⟨hj, hlink⟩ := pm_iv_ok hiv
                            have hcls : (pm_nm mj).cls = pm_on (pm_ow mj) := of_decide_eq_true (List.all_eq_true.mp pm_mC mj (List.mem_range.mpr hj))
                            obtain ⟨n1, n2⟩ := Bool.and_eq_true_iff.mp (List.all_eq_true.mp pm_mG mj (List.mem_range.mpr hj))
                            have hini : Cond.initialized (pm_on (pm_ow mj)) ∈ pm_G := pm_mem (List.all_eq_true.mp pm_mB mj (List.mem_range.mpr hj))
                            have hmx : pm_mx mj ≤ 20 := Nat.le_of_ble_eq_true (List.all_eq_true.mp pm_mF mj (List.mem_range.mpr hj))
                            exact ⟨hj, callB_of (pm_np mj) hts (pp_goodIn hG hj) rfl rfl rfl (by rw [hcls]; exact hts _ (hG _ hini)) (hts _ (hG _ hlink)) ⟨of_decide_eq_true n1, of_decide_eq_true n2, of_decide_eq_true (List.all_eq_true.mp pm_mD mj (List.mem_range.mpr hj))⟩ ⟨by show d2 + 1 ≤ R.frames; omega, by show 8 + (pm_mx mj + 11) + d2 * 40 ≤ R.locals; omega⟩⟩
                          unfold pm_call at h8
                          split at h8
                          · split at h8
                            · rename_i idx _ mj0 hiv
                              split at h8
                              · rename_i _ a S2 hdr
                                obtain ⟨hg, he⟩ := pm_bif h8
                                cases he
                                obtain ⟨g1, g2⟩ := Bool.and_eq_true_iff.mp hg
                                obtain ⟨g3, g4⟩ := Bool.and_eq_true_iff.mp g2
                                obtain ⟨g5, g6⟩ := Bool.and_eq_true_iff.mp g4
                                obtain ⟨g7, g8⟩ := Bool.and_eq_true_iff.mp g6
                                obtain ⟨hj, cb⟩ := hcb idx mj hiv
                                have hM := hMet (Nat.le_of_ble_eq_true g8) hj H.size
                                have hA1 := pm_mA_at hj
                                unfold pm_mA at hA1
                                have hsc : pm_sc mj = false := by
                                  cases hz : pm_sc mj with
                                  | false => rfl
                                  | true => rw [hz] at g1; cases g1
                                rw [hsc] at hA1
                                obtain ⟨w1, w2⟩ := Bool.and_eq_true_iff.mp hA1
                                have hcls : (pm_nm mj).cls = pm_on (pm_ow mj) := of_decide_eq_true (List.all_eq_true.mp pm_mC mj (List.mem_range.mpr hj))
                                have hS0 : S = S.take (pm_np mj) ++ .ref a :: S1 := by
                                  have := (List.take_append_drop (pm_np mj) S).symm
                                  rw [hdr] at this
                                  exact this
                                refine hfin mj [] S1 _ _ hj (va_runV (C := pm_on (pm_ow mj)) (b := rho a) (As := pm_cS rho (S.take (pm_np mj)).reverse) (rest := pm_cS rho S1) ⟨hx, hb, hml, hown, hts⟩ hM ⟨cb, hts _ (hG _ (pm_mem w1)), hts _ (hG _ (pm_mem w2))⟩ ⟨pm_blind, pm_rcv_t g5 hK hP hS hKS, fun U hU hW => ⟨rfl, hpre U hU hW⟩⟩ rfl ?_ hl.1 ?_ (lv_room ?_) hdg ⟨hR.2.2.1, hR.2.2.2⟩) hrun
                                · show (pm_cS rho (S.take (pm_np mj)).reverse).length = _
                                  unfold pm_cS
                                  rw [List.length_map, List.length_reverse]
                                  exact Nat.eq_of_beq_eq_true g3
                                · show pm_cS rho S = (pm_cS rho (S.take (pm_np mj)).reverse).reverse ++ .ref (rho a) :: pm_cS rho S1
                                  rw [pm_cS_rev, List.reverse_reverse]
                                  calc pm_cS rho S = pm_cS rho (S.take (pm_np mj) ++ .ref a :: S1) := by rw [← hS0]
                                    _ = _ := pm_cS_app rho _ _
                                · rw [pm_cats_c]
                                  exact Nat.le_of_ble_eq_true g7
                              · cases h8
                            · cases h8
                          · split at h8
                            · rename_i idx _ mj0 hiv
                              obtain ⟨hg, he⟩ := pm_bif h8
                              cases he
                              obtain ⟨g1, g2⟩ := Bool.and_eq_true_iff.mp hg
                              obtain ⟨g3, g4⟩ := Bool.and_eq_true_iff.mp g2
                              obtain ⟨g7, g8⟩ := Bool.and_eq_true_iff.mp g4
                              obtain ⟨hj, cb⟩ := hcb idx mj hiv
                              have hM := hMet (Nat.le_of_ble_eq_true g8) hj H.size
                              have hA1 := pm_mA_at hj
                              unfold pm_mA at hA1
                              rw [g1] at hA1
                              have hS0 : S = S.take (pm_np mj) ++ S.drop (pm_np mj) := (List.take_append_drop (pm_np mj) S).symm
                              refine hfin mj [] (S.drop (pm_np mj)) _ _ hj (va_runS (As := pm_cS rho (S.take (pm_np mj)).reverse) (rest := pm_cS rho (S.drop (pm_np mj))) ⟨hx, hb, hml, hown, hts⟩ hM ⟨cb, hts _ (hG _ (pm_mem hA1))⟩ ⟨pm_blind, fun U hU hW => ⟨rfl, hpre U hU hW⟩⟩ rfl ?_ hl.1 ?_ (lv_room ?_) hdg ⟨hR.2.2.1, hR.2.2.2⟩) hrun
                              · show (pm_cS rho (S.take (pm_np mj)).reverse).length = _
                                unfold pm_cS
                                rw [List.length_map, List.length_reverse]
                                exact Nat.eq_of_beq_eq_true g3
                              · show pm_cS rho S = (pm_cS rho (S.take (pm_np mj)).reverse).reverse ++ pm_cS rho (S.drop (pm_np mj))
                                rw [pm_cS_rev, List.reverse_reverse]
                                calc pm_cS rho S = pm_cS rho (S.take (pm_np mj) ++ S.drop (pm_np mj)) := by rw [← hS0]
                                  _ = _ := pm_cS_app rho _ _
                              · rw [pm_cats_c]
                                exact Nat.le_of_ble_eq_true g7
                            · cases h8
                          · cases h8
end PP1
end
section
/-! Methods of the class that throw: run up to the throw or the return -/
def pt_stop (mi pc : Nat) : Bool := match pm_fd (pm_code mi) pc with
  | some (.new _) => true
  | some .ireturn => true
  | some .return_ => true
  | _ => false
/-- the exceptions that the class throws: place of the class link, number, place of the constructor's link -/
def pt_xl : List (Nat × Nat × Nat) := [(82, 0, 84), (89, 1, 91), (96, 2, 98)]
def pt_xn (k : Nat) : String := match k with
  | 0 => "java/lang/IllegalStateException"
  | 1 => "java/lang/IndexOutOfBoundsException"
  | _ => "java/lang/IllegalArgumentException"
def pt_xf : List (Nat × Nat × Nat) → Nat → Option (Nat × Nat)
  | [], _ => none
  | q :: l, k => bif Nat.beq q.1 k then some q.2 else pt_xf l k
/-- the answer: returned with v, or thrown -/
def pt_end (mi pc : Nat) (S : List Value) (h : pm_H) : Option ((Option Value × pm_H) ⊕ (Nat × pm_H)) := match pm_fd (pm_code mi) pc with
  | some (.new ik) => match pt_xf pt_xl ik with
    | some (x, ic) => bif (decide (pm_fd (pm_code mi) (pc + 3) = some .dup) && (decide (pm_fd (pm_code mi) (pc + 4) = some (.invokespecial ic)) && decide (pm_fd (pm_code mi) (pc + 7) = some .athrow))) && Nat.ble (pm_cats S) 8 then some (.inr (x, h)) else none
    | none => none
  | some i => match pm_ret i (pm_rt mi) S with
    | some v => some (.inl (v, h))
    | none => none
  | none => none
def pt_run (sw : List (Nat × Nat)) (n d mi : Nat) (as : List Value) (h : pm_H) : Option ((Option Value × pm_H) ⊕ (Nat × pm_H)) := match pp_run sw (pt_stop mi) n d mi 0 (lv_args 0 as) [] h with
  | some (pc, _, S, h') => pt_end mi pc S h'
  | none => none
def pt_Q (rho : Nat → Nat) (D : va_G) (cy : Nat → ClassId) (sw : List (Nat × Nat)) (h : pm_H) (sz : Nat) (r : (Option Value × pm_H) ⊕ (Nat × pm_H)) : Array Value → State → Outcome → State → Prop := match r with
  | .inl q => pm_Q rho D cy sw h sz q.1 q.2
  | .inr _ => fun _ _ _ _ => False
def pt_X (rho : Nat → Nat) (D : va_G) (cy : Nat → ClassId) (sw : List (Nat × Nat)) (h : pm_H) (sz : Nat) (r : (Option Value × pm_H) ⊕ (Nat × pm_H)) : String → State → State → Prop := match r with
  | .inl _ => fun _ _ _ => False
  | .inr q => fun E st t => E = pt_xn q.1 ∧ (va_P D pm_cl (pm_W cy rho sw q.2) t.heap ∧ va_D (va_A (pm_W cy rho sw h) sz) (pm_W cy rho sw q.2)) ∧ va_F (va_A (pm_W cy rho sw h) sz) st t
/-- words of a throw that the tables decide but no method's list carries -/
def pt_ex : List Cond := [.castable (pt_xn 0) (pt_xn 0), .castable (pt_xn 1) (pt_xn 1), .castable (pt_xn 2) (pt_xn 2), .declares ⟨"java/lang/RuntimeException", "<init>", "()V"⟩, .declares ⟨"java/lang/Exception", "<init>", "()V"⟩, .declares ⟨"java/lang/Throwable", "<init>", "()V"⟩]
theorem pt_ex_moved {u U : State} (hvm : u.vm.Alike U.vm) : ∀ w ∈ pt_ex, w.before #[] u = true → w.before #[] U = true := by
  intro w hw h
  unfold pt_ex at hw
  simp only [List.mem_cons, List.not_mem_nil, or_false] at hw
  rcases hw with rfl | rfl | rfl | rfl | rfl | rfl
  · rw [← Cond.castable_setVm hvm] at h; exact va_tabs rfl (rfl : (u.setVm U.vm).vm = U.vm) h
  · rw [← Cond.castable_setVm hvm] at h; exact va_tabs rfl (rfl : (u.setVm U.vm).vm = U.vm) h
  · rw [← Cond.castable_setVm hvm] at h; exact va_tabs rfl (rfl : (u.setVm U.vm).vm = U.vm) h
  · rw [← Cond.declares_setVm hvm] at h; exact va_tabs rfl (rfl : (u.setVm U.vm).vm = U.vm) h
  · rw [← Cond.declares_setVm hvm] at h; exact va_tabs rfl (rfl : (u.setVm U.vm).vm = U.vm) h
  · rw [← Cond.declares_setVm hvm] at h; exact va_tabs rfl (rfl : (u.setVm U.vm).vm = U.vm) h
theorem pt_ex_cast {x : Nat} (hx : x < 3) : Cond.castable (pt_xn x) (pt_xn x) ∈ pt_ex := by
  match x, hx with
  | 0, _ => exact List.mem_of_getElem? (i := 0) rfl
  | 1, _ => exact List.mem_of_getElem? (i := 1) rfl
  | 2, _ => exact List.mem_of_getElem? (i := 2) rfl
/-- what a throw needs of the tables and statics -/
def pt_K (A : Nat → Prop) (U : State) (H : Heap) : Prop := vx_Zq Bundle.tN "UNASSIGNED_STACK" Bundle.steD A U H ∧ vx_Zq Bundle.tN "SUPPRESSED_SENTINEL" Bundle.listD A U H ∧ (∀ w ∈ pt_ex, w.before #[] U = true) ∧ va_Nc (pt_xn 1) (pt_xn 0) U ∧ va_Nc (pt_xn 2) (pt_xn 0) U
theorem pt_K.moved {A : Nat → Prop} {u U : State} {H : Heap} (hvm : u.vm.Alike U.vm) (h : pt_K A u H) : pt_K A U H := ⟨vx_Zq.moved hvm h.1, vx_Zq.moved hvm h.2.1, fun w hw => pt_ex_moved hvm w hw (h.2.2.1 w hw), va_Nc.moved hvm h.2.2.2.1, va_Nc.moved hvm h.2.2.2.2⟩
theorem pt_K.kept {A : Nat → Prop} {U : State} {H H1 : Heap} (h : pt_K A U H) (hq : ∀ a : Nat, a < H.size → ¬ A a → H1[a]? = H[a]?) : pt_K A U H1 := ⟨h.1.kept hq, h.2.1.kept hq, h.2.2⟩
theorem pt_K.narrow {A B : Nat → Prop} {U : State} {H : Heap} (h : pt_K A U H) (hAB : ∀ q, B q → A q) : pt_K B U H := ⟨h.1.narrow hAB, h.2.1.narrow hAB, h.2.2⟩
def pt_nms : List String := ["java/lang/RuntimeException", "java/lang/Exception"]
set_option maxRecDepth 100000 in
theorem pt_w0 : pt_xl.all (fun q => (vx_at0 "QuietChecker" q.2.2 (pt_xn q.2.1) pt_nms).all (fun w => (decide (w ∈ pt_ex) && w.onTables) || (goodWord w && decide (w ∈ lw_tbl)))) = true := by decide +kernel
set_option maxRecDepth 100000 in
theorem pt_w1 : pt_xl.all (fun q => (decide (Cond.classLink "QuietChecker" q.1 (pt_xn q.2.1) ∈ lw_tbl) && decide (Cond.initialized (pt_xn q.2.1) ∈ lw_tbl)) && (Nat.blt q.2.1 3 && (Bundle.fit (pt_xn q.2.1) && pt_nms.all Bundle.fit))) = true := by decide +kernel
section PT1
variable {l : Launch} {rho : Nat → Nat} {D : va_G} {cy : Nat → ClassId} {sw : List (Nat × Nat)}
theorem pm_ret_snd {p : Program} {e : Env} {R : Room} {s : State} {m : MethodId} {args : Array Value} {below : List Frame} {meth : Method} {c : Code} {H : Heap} {locs : List Loc} {cells slots : Nat} {cc : ByteArray} {pc : Nat} {ls : Array Slot} {S : List Value} {A : Nat → Prop} {Qc : Array Value → State → Outcome → State → Prop} {rt : Option FieldType} (hx : p.tables.exec = Jvm.exec) (hb : c.code = cc) (hrt : meth.sig.returnType = rt) (hlk : meth.locks = false) {i : Instr} {w : Option Value} (hdg : decode cc pc = .ok (i, pm_ln i)) (h7 : pm_ret i rt S = some w) (hf : ∀ q ∈ locs, A q.base)
    (hQ : ∀ t : State, t.heap = H → s.WarmedH t.vm → Qc args s (.returned (w.map (pm_cv rho))) t) : W p l e R s m args below meth c H locs cells slots (MQ below Qc args s cells slots A) (F0 m pc ls (pm_cS rho S)) := by
  unfold pm_ret at h7
  split at h7
  · split at h7
    · split at h7
      · cases h7
        exact W.iret hx hb hrt hQ hf hdg hlk
      · split at h7
        · rename_i h01
          cases h7
          exact W.zret hx hb hrt (by rcases h01 with rfl | rfl <;> decide) hQ hf hdg hlk
        · cases h7
      · split at h7
        · rename_i x _ hch
          cases h7
          exact W.zret hx hb hrt (by show Value.int (vp_nar .char x) = _; rw [hch]) hQ hf hdg hlk
        · cases h7
      · split at h7
        · rename_i x _ hch
          cases h7
          exact W.zret hx hb hrt (by show Value.int (vp_nar .byte x) = _; rw [hch]) hQ hf hdg hlk
        · cases h7
      · cases h7
    · cases h7
  · split at h7
    · split at h7
      · cases h7
        exact W.vret hx hb hrt hQ hf hdg hlk
      · cases h7
    · cases h7
  · split at h7
    · split at h7
      · cases h7
        exact W.aret hx hb hrt (Or.inl ⟨_, rfl⟩) (Or.inr ⟨_, rfl⟩) hQ hf hdg hlk
      · cases h7
        exact W.aret hx hb hrt (Or.inr ⟨_, rfl⟩) (Or.inr ⟨_, rfl⟩) hQ hf hdg hlk
      · cases h7
    · cases h7
  · cases h7
theorem pt_xf_mem : ∀ {l : List (Nat × Nat × Nat)} {k a b : Nat}, pt_xf l k = some (a, b) → (k, a, b) ∈ l := by
  intro l
  induction l with
  | nil => intro k a b h; cases h
  | cons q l ih =>
    intro k a b h
    unfold pt_xf at h
    cases hb : Nat.beq q.1 k with
    | true =>
      rw [hb] at h
      have h1 : q.1 = k := Nat.eq_of_beq_eq_true hb
      have h2 : q.2 = (a, b) := Option.some.inj h
      obtain ⟨q1, q2⟩ := q
      dsimp only at h1 h2
      subst h1; subst h2
      exact List.mem_cons_self
    | false =>
      rw [hb] at h
      exact List.mem_cons_of_mem _ (ih h)
theorem pt_met (hinj : ∀ a b, pm_kc a = true → pm_kc b = true → rho a = rho b → a = b) (hprim : ∀ (mj : Nat) (as : List Value) (v : Value), pm_prim mj as = some v → ∀ (h : pm_H) (sz : Nat), Met l (pm_nm mj) (pm_ws mj) (pm_rm 4) (va_Pc (pm_cS rho as) (pm_B rho D cy sw h sz)) (pm_Q rho D cy sw h sz (some v) h) 0 0 (va_A (pm_W cy rho sw h) sz)) (htr : l.stackTraces = false) {n d mi : Nat} {as : List Value} {h : pm_H} {r : (Option Value × pm_H) ⊕ (Nat × pm_H)} (hrun : pt_run sw n d mi as h = some r) (hj : mi < 173) (how : pm_ow mi = 5) (hd : 6 ≤ d) (hfit : (lg_sl as).length ≤ pm_mx mi) (sz : Nat) :
    vx_Met l (pm_nm mi) (pm_ws mi) (pn_rm d 1 6) (va_Pc (pm_cS rho as) (fun U => pm_B rho D cy sw h sz U ∧ pt_K (va_A (pm_W cy rho sw h) sz) U U.heap)) (pt_Q rho D cy sw h sz r) (pt_X rho D cy sw h sz r) 1 6 (va_A (pm_W cy rho sw h) sz) := by
  have hcls : (pm_nm mi).cls = pm_on (pm_ow mi) := of_decide_eq_true (List.all_eq_true.mp pm_mC mi (List.mem_range.mpr hj))
  refine vx_ofW (cc := pm_by mi) (maxL := pm_mx mi) (ret := pm_rt mi) (by rw [hcls, how]; decide) rfl ?_
  intro p e s m args below meth c s₁ B hml htab hv
  obtain ⟨rfl, ⟨rfl, hP, hK, hD0, hKS⟩, hPT⟩ := hv
  have hown : s.vm.findClass (pm_on (pm_ow mi)) = some m.cls := by
    rw [← hcls]
    exact findClass_of_methodNamed B.named
  have hts := atoms_spec (ws := pm_ws mi) B.pre
  have hG : ∀ w ∈ pm_G, w ∈ pm_ws mi := fun w hw => List.mem_cons_of_mem _ hw
  have hl := lv_entry (pm_cS rho as) (n := pm_mx mi) (by rw [pm_sl_len]; exact hfit)
  rw [pm_args_c] at hl
  unfold pt_run at hrun
  cases hpp : pp_run sw (pt_stop mi) n d mi 0 (lv_args 0 as) [] h with
  | none => rw [hpp] at hrun; cases hrun
  | some q =>
    obtain ⟨pc, L, S, h'⟩ := q
    rw [hpp] at hrun
    dsimp only at hrun
    rw [lg_entry_eq]
    refine pp_body hinj hprim (pt_stop mi) n d mi 0 (lv_args 0 as) [] h pc L S h' hpp p e _ s m _ below meth c s.heap [] _ (va_A (pm_W cy rho sw h) s.heap.size) _ 0 0 (pm_ws mi) B.exec B.bytes hml hown hts hG ⟨Nat.le_refl _, Nat.le_refl _, Nat.zero_le _, Nat.zero_le _⟩ hK hP hD0.self va_S.rf (fun q hq => Or.inr hq) hKS hl ?_
    intro H1 locs1 ls1 hP1 hD1 hS1 hl1
    unfold pt_end at hrun
    split at hrun
    · rename_i ik hfd
      split at hrun
      · rename_i x ic hxf
        obtain ⟨hg, he⟩ := pm_bif hrun
        cases he
        obtain ⟨g1, g2⟩ := Bool.and_eq_true_iff.mp hg
        obtain ⟨g3, g4⟩ := Bool.and_eq_true_iff.mp g1
        obtain ⟨g5, g6⟩ := Bool.and_eq_true_iff.mp g4
        have hmem := pt_xf_mem hxf
        have w0 := List.all_eq_true.mp pt_w0 _ hmem
        have w1 := List.all_eq_true.mp pt_w1 _ hmem
        dsimp only at w0 w1
        obtain ⟨w2, w3⟩ := Bool.and_eq_true_iff.mp w1
        obtain ⟨w4, w5⟩ := Bool.and_eq_true_iff.mp w2
        obtain ⟨w6, w7⟩ := Bool.and_eq_true_iff.mp w3
        obtain ⟨w8, w9⟩ := Bool.and_eq_true_iff.mp w7
        have hx3 := pm_blt w6
        have hin : ∀ w, w ∈ lw_tbl → goodWord w = true → w.before (pm_cS rho as).toArray s = true := fun w h1 h2 => hts w (hG w (List.mem_filter.mpr ⟨h1, h2⟩))
        have d0 := pm_decode hfd
        have d3 := pm_decode (of_decide_eq_true g3)
        have d4 := pm_decode (of_decide_eq_true g5)
        have d7 := pm_decode (of_decide_eq_true g6)
        obtain ⟨l0, d0, e0⟩ := d0
        obtain ⟨l3, d3, e3⟩ := d3
        obtain ⟨l4, d4, e4⟩ := d4
        obtain ⟨l7, d7, e7⟩ := d7
        have e0 := e0.resolve_left (fun z => by cases z)
        have e3 := e3.resolve_left (fun z => by cases z)
        have e4 := e4.resolve_left (fun z => by cases z)
        have e7 := e7.resolve_left (fun z => by cases z)
        subst e0; subst e3; subst e4; subst e7
        rw [how] at hown
        refine vx_throw0 (own := "QuietChecker") (cls := pt_xn x) (names := pt_nms) (A := va_A (pm_W cy rho sw h) s.heap.size) B.exec B.bytes htr hown w8 (fun n hn => List.all_eq_true.mp w9 n hn) (hin _ (of_decide_eq_true w4) rfl) (hin _ (of_decide_eq_true w5) rfl) (fun w hw => ?_) (fun w hw => ?_) hPT.1 hPT.2.1 hS1 (hl1.1.trans hml.symm) d0 d3 d4 d7 (fun x hx => (htab x hx).elim) ?_ ?_ (Nat.le_refl _) (Nat.le_refl _) B.notSynchronized ?_ hS1.2.2 (Nat.le_refl _) (Nat.le_refl _)
        · rcases Bool.or_eq_true_iff.mp (List.all_eq_true.mp w0 w hw) with h1 | h1
          · obtain ⟨h2, h3⟩ := Bool.and_eq_true_iff.mp h1
            exact va_tabs h3 rfl (hPT.2.2.1 w (of_decide_eq_true h2))
          · obtain ⟨h2, h3⟩ := Bool.and_eq_true_iff.mp h1
            exact hin w (of_decide_eq_true h3) h2
        · rcases List.mem_cons.mp hw with rfl | hw
          · rfl
          rcases List.mem_cons.mp hw with rfl | hw
          · rfl
          rcases Bool.or_eq_true_iff.mp (List.all_eq_true.mp w0 w hw) with h1 | h1
          · unfold vx_ot
            rw [(Bool.and_eq_true_iff.mp h1).2, Bool.true_or]
          · unfold vx_ot
            rw [(Bool.and_eq_true_iff.mp h1).1, Bool.or_true]
        · show 2 + 3 < d
          omega
        · have := Nat.le_of_ble_eq_true g2
          rw [← pm_cats_c rho] at this
          show _ + (13 * (2 + 1) + 42) ≤ d * 40
          exact Nat.le_trans (Nat.add_le_add_right this _) (by omega)
        · intro t hal hsz hkp
          refine ⟨rfl, ⟨hP1.kept (fun k q hq => hkp q.1 ((hP1 k q hq).lt)), hD1⟩, Nat.le_trans hS1.1 hsz, fun q h1 h2 => ?_⟩
          rw [hkp q (Nat.lt_of_lt_of_le h1 hS1.1)]
          exact hS1.2.1 q h1 h2
      · cases hrun
    · rename_i i hnew hfd
      split at hrun
      · rename_i v hret
        cases hrun
        obtain ⟨len, hdec, hlen⟩ := pm_decode hfd
        have hdg : decode (pm_by mi) pc = .ok (i, pm_ln i) := by
          rcases hlen with h1 | h1
          · unfold pm_ret at hret; split at hret <;> first | cases h1 | cases hret
          · rw [hdec, h1]
        refine vx_ret (W.widen (k := 1) (n := 6) (Nat.zero_le _) (Nat.zero_le _) ?_)
        refine pm_ret_snd B.exec B.bytes B.returns B.notSynchronized hdg hret hS1.2.2 (fun t ht hW => ?_)
        exact ⟨rfl, ⟨by rw [ht]; exact hP1, hD1⟩, hS1.F ht⟩
      · cases hrun
    · cases hrun
end PT1
end
section
/-! The law's wrappers: a call that may throw, and its handlers -/
def pw_stop (mi pc : Nat) : Bool := match pm_fd (pm_code mi) pc with
  | some (.invokevirtual _) => true
  | some .ireturn => true
  | _ => false
/-- the tables of the wrappers: start, end, handler, place of the class link -/
def pw_hh (mi : Nat) : List (Nat × Nat × Nat × Nat) := match mi with
  | 174 => [(0, 7, 10, 13), (0, 7, 14, 15)]
  | 175 => [(0, 9, 12, 13), (0, 9, 15, 21)]
  | 176 => [(0, 9, 12, 13)]
  | 177 => [(0, 10, 13, 13), (0, 10, 17, 15)]
  | 178 => [(0, 9, 12, 13), (0, 9, 15, 15)]
  | _ => [(0, 12, 15, 15)]
/-- which exception a handler is for -/
def pw_cx (idx : Nat) : Nat := match idx with
  | 13 => 0
  | 15 => 1
  | _ => 2
/-- the handler of exception x at pc: the first row, or the second behind a row for exception 0 -/
def pw_find (hh : List (Nat × Nat × Nat × Nat)) (pc x : Nat) : Option Nat := match hh with
  | [q] => bif (Nat.ble q.1 pc && Nat.blt pc q.2.1) && Nat.beq (pw_cx q.2.2.2) x then some q.2.2.1 else none
  | [q, r] => bif (Nat.ble q.1 pc && Nat.blt pc q.2.1) && Nat.beq (pw_cx q.2.2.2) x then some q.2.2.1 else
      (bif (Nat.beq (pw_cx q.2.2.2) 0 && (Nat.ble r.1 pc && Nat.blt pc r.2.1)) && (Nat.beq (pw_cx r.2.2.2) x && !Nat.beq x 0) then some r.2.2.1 else none)
  | _ => none
/-- a handler: it drops the exception and answers a constant -/
def pw_hk (mi hpc : Nat) : Option Int := match pm_fd (pm_code mi) hpc with
  | some (.astore j) => bif Nat.blt j (pm_mx mi) then (match pm_fd (pm_code mi) (hpc + 2) with
      | some (.iconst k) => bif decide (pm_fd (pm_code mi) (hpc + 3) = some .ireturn) then some k else none
      | _ => none) else none
  | some (.astore_n j) => bif Nat.blt j (pm_mx mi) then (match pm_fd (pm_code mi) (hpc + 1) with
      | some (.iconst k) => bif decide (pm_fd (pm_code mi) (hpc + 2) = some .ireturn) then some k else none
      | _ => none) else none
  | _ => none
def pw_run (sw : List (Nat × Nat)) (n d mi : Nat) (as : List Value) (h : pm_H) : Option (Int32 × pm_H) := match pp_run sw (pw_stop mi) n d mi 0 (lv_args 0 as) [] h with
  | some (pc, L, S, h1) => match pm_fd (pm_code mi) pc with
    | some (.invokevirtual idx) => match pm_call (.invokevirtual idx) sw (pm_ow mi) S with
      | some (mj, as2, S1) => bif Nat.beq (pm_ow mj) 5 then (match pt_run sw n d mj as2 h1 with
        | some (.inl (v, h2)) => (match pp_run sw (pw_stop mi) n d mi (pc + 3) L (v.toList ++ S1) h2 with
          | some (pc3, _, S3, h3) => (match pm_fd (pm_code mi) pc3 with
            | some .ireturn => (match S3 with
              | [.int k] => some (k, h3)
              | _ => none)
            | _ => none)
          | none => none)
        | some (.inr (x, h2)) => (match pw_find (pw_hh mi) pc x with
          | some hpc => (pw_hk mi hpc).map (fun k => (Int32.ofInt k, h2))
          | none => none)
        | none => none) else none
      | none => none
    | _ => none
  | none => none
section PW1
variable {p : Program} {l : Launch} {e : Env} {R : Room} {s : State} {m : MethodId} {args : Array Value} {below : List Frame} {meth : Method} {c : Code} {H : Heap} {locs : List Loc} {cells slots : Nat} {Q : State → Prop} {pc : Nat} {ls : Array Slot} {rest st0 : List Value} {A0 A1 : Nat → Prop} {H0 : Heap} {free : Addr → Prop} {mc ms : Nat}
/-- behind a call that may throw -/
theorem pw_callk {Qa : State → Outcome → State → Prop} {XC : String → State → State → Prop} (hr : vx_Run p l e R s m args below meth c H locs cells slots mc ms (F0 m pc ls st0) rest Qa XC free) (hQ : ∀ (st : State) (v : Option Value) (t : State), Qa st (.returned v) t → va_F A1 st t) (hX : ∀ (E : String) (st t : State), XC E st t → va_F A1 st t) (hS : va_S A0 H0 H locs) (hA : ∀ q, q < H.size → A1 q → A0 q) (hf : ∀ q, free q → A0 q)
    (kx : ∀ (E : String) (ce : Cell) (q9 : Addr) (st t : State) (locs1 : List Loc), XC E st t → va_S A0 H0 t.heap locs1 → t.heap[q9]? = some ce → ce.vm = .none → s.vm.findClass E = some ce.cls → vx_W p l e R s m args below meth c t.heap locs1 (cells + mc) (slots + ms) Q (F0 m pc ls rest) q9)
    (kk : ∀ (st t : State) (v : Option Value) (locs1 : List Loc), Qa st (.returned v) t → va_S A0 H0 t.heap locs1 → W p l e R s m args below meth c t.heap locs1 (cells + mc) (slots + ms) Q (F0 m (pc + 3) ls (v.toList ++ rest))) : W p l e R s m args below meth c H locs cells slots Q (F0 m pc ls st0) := by
  have key : ∀ (st t : State) (L : List Loc), st.heap = H → va_F A1 st t → (∀ q ∈ L, free q.base) → va_S A0 H0 t.heap (locs ++ L) := by
    intro st t L h0 hF hL
    obtain ⟨hz, hk⟩ := hF
    rw [h0] at hz hk
    refine ⟨Nat.le_trans hS.1 hz, fun q h1 h2 => ?_, fun q hq => ?_⟩
    · rw [hk q (Nat.lt_of_lt_of_le h1 hS.1) (fun z => h2 (hA q (Nat.lt_of_lt_of_le h1 hS.1) z))]
      exact hS.2.1 q h1 h2
    · rcases List.mem_append.mp hq with h | h
      · exact hS.2.2 q h
      · exact hf _ (hL q h)
  intro T hT X
  rcases hr T hT X with ⟨v, st₀, t, T', L, h0, X', hL, e1, e2, hq, st⟩ | ⟨q, st₀, t, T', L, E, ce, h0, X', hL, e1, e2, hq, hce, hcv, hcl, st⟩
  · obtain ⟨t2, a1, b1⟩ := kk st₀ t v (locs ++ L) hq (key st₀ t L h0 (hQ _ _ _ hq) hL) T' e1 X'
    exact ⟨t2, st t2 a1, b1⟩
  · obtain ⟨t2, a1, b1⟩ := kx E ce q st₀ t (locs ++ L) hq (key st₀ t L h0 (hX _ _ _ hq) hL) hce hcv hcl T' e1 X'
    exact ⟨t2, st.trans a1, b1⟩
end PW1
def pw_ws (mi : Nat) : List Cond := Cond.codeWith (pm_nm mi) (pm_by mi) (pm_mx mi) (some .int) (pw_hh mi) :: pm_G
set_option maxRecDepth 100000 in
theorem pw_lk : ([13, 15, 21] : List Nat).all (fun i => decide (Cond.classLink "QuietCheckerLaw" i (pt_xn (pw_cx i)) ∈ lw_tbl)) = true := by decide +kernel
theorem pw_ofW {l : Launch} {y : MethodName} {ws ws' : List Cond} {rm : Room} {Pc : Array Value → State → Prop} {Qc : Array Value → State → Outcome → State → Prop} {mc ms : Nat} {free : Addr → Prop} {cc : ByteArray} {maxL : Nat} {ret : Option FieldType} {hh : List (Nat × Nat × Nat × Nat)}
    (hy : plainFor y = true) (hw : ws = Cond.codeWith y cc maxL ret hh :: ws')
    (body : ∀ p e s m args below meth c s₁, BodyLoose p l y (headSpec ws rm) cc maxL ret e s m args below meth c s₁ → c.maxLocals = maxL → Pc args s →
      W p l e (headSpec ws rm).room s m args below meth c s.heap [] 0 0 (MQ below Qc args s mc ms free) (entryFrame m args maxL)) : Met l y ws rm Pc Qc mc ms free := by
  refine MetFree.of_bodySF (code := cc) (maxLocals := maxL) (ret := ret) hy ?_ ?_
  · intro args s m h hn
    obtain ⟨m9, meth, c, hn9, h1, h2, h3, h4, -, h5, h6, -⟩ := Cond.codeWith_spec (atoms_spec (ws := ws) h _ (by rw [hw]; exact List.mem_cons_self))
    cases hn.symm.trans hn9
    exact ⟨meth, c, h1, h2, h3, h4, h5, h6⟩
  · intro p e s m args below meth c s₁ B hml hP _
    have hh0 : s₁.heap = s.heap := by rw [B.state]; rfl
    obtain ⟨t, a1, o, b1, b2, b3⟩ := body p e s m args below meth c s₁ B hml hP s₁ hh0 (Stand.of_body B)
    exact ⟨t, o, a1, b1, b2, ⟨b3.1, b3.2⟩⟩
theorem pw_cov {q : Nat × Nat × Nat × Nat} {pc : Nat} (h : (Nat.ble q.1 pc && Nat.blt pc q.2.1) = true) : covers (⟨q.1, q.2.1, q.2.2.1, q.2.2.2⟩ : ExceptionTableEntry) pc = true := by
  obtain ⟨h1, h2⟩ := Bool.and_eq_true_iff.mp h
  have h1 := Nat.le_of_ble_eq_true h1
  have h2 := pm_blt h2
  simp [covers, h1, h2]
/-- an exception that a wrapper's table names goes to its handler -/
theorem pw_catch {p : Program} {l : Launch} {e : Env} {R : Room} {s : State} {m : MethodId} {args : Array Value} {below : List Frame} {meth : Method} {c : Code} {H : Heap} {locs : List Loc} {cells slots : Nat} {Q : State → Prop} {pc : Nat} {ls : Array Slot} {rest : List Value} {hh : List (Nat × Nat × Nat × Nat)} {x hpc : Nat} {ce : Cell} {q9 : Addr} (hown : s.vm.findClass "QuietCheckerLaw" = some m.cls) (htab : c.exceptionTable.toList = tableOf hh) (hfind : pw_find hh pc x = some hpc) (hx : x < 3) (hidx : ∀ q ∈ hh, q.2.2.2 ≠ 0 ∧ (Cond.classLink "QuietCheckerLaw" q.2.2.2 (pt_xn (pw_cx q.2.2.2))).before args s = true)
    (hcast : (Cond.castable (pt_xn x) (pt_xn x)).before args s = true) (hN1 : va_Nc (pt_xn 1) (pt_xn 0) s) (hN2 : va_Nc (pt_xn 2) (pt_xn 0) s) (hcell : H[q9]? = some ce) (hv : ce.vm = .none) (hcl : s.vm.findClass (pt_xn x) = some ce.cls)
    (kk : W p l e R s m args below meth c H locs cells slots Q (F0 m hpc ls [.ref q9])) : vx_W p l e R s m args below meth c H locs cells slots Q (F0 m pc ls rest) q9 := by
  unfold pw_find at hfind
  split at hfind
  · rename_i q
    obtain ⟨hg, rfl⟩ := pm_bif hfind
    obtain ⟨g1, g2⟩ := Bool.and_eq_true_iff.mp hg
    have g2 := Nat.eq_of_beq_eq_true g2
    obtain ⟨i1, i2⟩ := hidx q List.mem_cons_self
    rw [g2] at i2
    exact vx_catch hown [] ⟨q.1, q.2.1, q.2.2.1, q.2.2.2⟩ [] htab (fun z hz => nomatch hz) (pw_cov g1) i1 i2 hcast hcell hv hcl kk
  · rename_i q r
    obtain ⟨i1, i2⟩ := hidx q List.mem_cons_self
    obtain ⟨j1, j2⟩ := hidx r (List.mem_cons_of_mem _ List.mem_cons_self)
    cases hg : ((Nat.ble q.1 pc && Nat.blt pc q.2.1) && Nat.beq (pw_cx q.2.2.2) x) with
    | true =>
      rw [hg] at hfind
      cases hfind
      obtain ⟨g1, g2⟩ := Bool.and_eq_true_iff.mp hg
      have g2 := Nat.eq_of_beq_eq_true g2
      rw [g2] at i2
      exact vx_catch hown [] ⟨q.1, q.2.1, q.2.2.1, q.2.2.2⟩ [⟨r.1, r.2.1, r.2.2.1, r.2.2.2⟩] htab (fun z hz => nomatch hz) (pw_cov g1) i1 i2 hcast hcell hv hcl kk
    | false =>
      rw [hg] at hfind
      obtain ⟨hg2, rfl⟩ := pm_bif hfind
      obtain ⟨g1, g2⟩ := Bool.and_eq_true_iff.mp hg2
      obtain ⟨g3, g4⟩ := Bool.and_eq_true_iff.mp g1
      obtain ⟨g5, g6⟩ := Bool.and_eq_true_iff.mp g2
      have g3 := Nat.eq_of_beq_eq_true g3
      have g5 := Nat.eq_of_beq_eq_true g5
      rw [g3] at i2
      rw [g5] at j2
      have hx0 : x ≠ 0 := fun z => by subst z; cases g6
      refine vx_catch hown [⟨q.1, q.2.1, q.2.2.1, q.2.2.2⟩] ⟨r.1, r.2.1, r.2.2.1, r.2.2.2⟩ [] htab (fun z hz => ?_) (pw_cov g4) j1 j2 hcast hcell hv hcl kk
      have hz := List.mem_singleton.mp hz
      subst hz
      refine Or.inr ⟨i1, pt_xn 0, i2, ?_⟩
      match x, hx, hx0 with
      | 0, _, h0 => exact absurd rfl h0
      | 1, _, _ => exact hN1
      | 2, _, _ => exact hN2
  · cases hfind
set_option maxRecDepth 100000 in
theorem pw_chk : (List.range 6).all (fun k => plainFor (pm_nm (174 + k)) && (decide (pm_ow (174 + k) = 12) && (decide ((pm_nm (174 + k)).cls = "QuietCheckerLaw") && (decide (pm_rt (174 + k) = some .int) && (pw_hh (174 + k)).all (fun q => decide (q.2.2.2 ∈ ([13, 15, 21] : List Nat))))))) = true := by decide +kernel
theorem pm_callV_t {idx ow mj : Nat} {sw : List (Nat × Nat)} {S as2 S1 : List Value} (h8 : pm_call (.invokevirtual idx) sw ow S = some (mj, as2, S1)) : ∃ a, pm_iv ow idx = some mj ∧ pm_sc mj = false ∧ as2 = .ref a :: (S.take (pm_np mj)).reverse ∧ S = S.take (pm_np mj) ++ .ref a :: S1 ∧ (S.take (pm_np mj)).length = pm_np mj ∧ pm_rcv sw a (pm_ow mj) = true ∧ pm_cats S1 ≤ 8 ∧ (lg_sl as2).length ≤ pm_mx mj := by
  unfold pm_call at h8
  dsimp only at h8
  split at h8
  · rename_i mj0 hiv
    split at h8
    · rename_i _ a S2 hdr
      obtain ⟨hg, he⟩ := pm_bif h8
      cases he
      obtain ⟨g1, g2⟩ := Bool.and_eq_true_iff.mp hg
      obtain ⟨g3, g4⟩ := Bool.and_eq_true_iff.mp g2
      obtain ⟨g5, g6⟩ := Bool.and_eq_true_iff.mp g4
      obtain ⟨g7, g8⟩ := Bool.and_eq_true_iff.mp g6
      refine ⟨a, hiv, pm_not g1, rfl, ?_, Nat.eq_of_beq_eq_true g3, g5, Nat.le_of_ble_eq_true g7, Nat.le_of_ble_eq_true g8⟩
      have := (List.take_append_drop (pm_np mj) S).symm
      rw [hdr] at this
      exact this
    · cases h8
  · cases h8
section PW2
variable {l : Launch} {rho : Nat → Nat} {D : va_G} {cy : Nat → ClassId} {sw : List (Nat × Nat)}
/-- before a call that may throw -/
def pt_B (rho : Nat → Nat) (D : va_G) (cy : Nat → ClassId) (sw : List (Nat × Nat)) (h : pm_H) (sz : Nat) (U : State) : Prop := pm_B rho D cy sw h sz U ∧ pt_K (va_A (pm_W cy rho sw h) sz) U U.heap
theorem pt_blind {as : List Value} {h : pm_H} {sz : Nat} : FrameBlind (va_Pc (pm_cS rho as) (pt_B rho D cy sw h sz)) := by
  intro a U g mk q
  obtain ⟨h1, ⟨h2, h3, h4, h5, h6⟩, h7⟩ := q
  exact ⟨h1, ⟨h2, h3, va_K.moved (u := U) (U := U.calling g mk a) (Vm.Alike.refl U.vm) h4, h5, pm_KS.moved (u := U) (U := U.calling g mk a) (Vm.Alike.refl U.vm) h6⟩, pt_K.moved (u := U) (U := U.calling g mk a) (Vm.Alike.refl U.vm) h7⟩
/-- the world before an inner call -/
theorem pt_pre {s : State} {H : Heap} {locs : List Loc} {A : Nat → Prop} {h : pm_H} (hK : va_K D pm_cl (pm_tys cy) s) (hP : va_P D pm_cl (pm_W cy rho sw h) H) (hD : va_D A (pm_W cy rho sw h)) (hS : va_S A s.heap H locs) (hA : ∀ q, s.heap.size ≤ q → A q) (hKS : pm_KS rho A s s.heap) (hPT : pt_K A s s.heap) : (∀ q, va_A (pm_W cy rho sw h) H.size q → A q) ∧ ∀ U : State, U.heap = H → s.WarmedH U.vm → pt_B rho D cy sw h H.size U := by
  have hFc : ∀ q, va_A (pm_W cy rho sw h) H.size q → A q := by
    intro q hq
    rcases hq with ⟨k, en, hk⟩ | hq
    · exact hD.2 k _ hk
    · exact hA q (Nat.le_trans hS.1 hq)
  refine ⟨hFc, fun U hU hW => ⟨⟨by rw [hU], by rw [hU]; exact hP, va_K.moved hW.alike hK, hD.weaken (fun _ _ _ _ => trivial), ?_⟩, ?_⟩⟩
  · rw [hU]
    exact pm_KS.moved hW.alike ((hKS.kept hS.2.1).narrow hFc)
  · rw [hU]
    exact pt_K.moved hW.alike ((hPT.kept hS.2.1).narrow hFc)
theorem pm_callB_of {R : Room} {s : State} {args : Array Value} {Ts : List Cond} {own idx mj : Nat} {rm : Room} {mc ms : Nat} (hts : ∀ w ∈ Ts, w.before args s = true) (hG : ∀ w ∈ pm_G, w ∈ Ts) (hiv : pm_iv own idx = some mj) (hrc : rm.cells = mc) (hrs : rm.slots = ms) (hR : rm.frames + 1 ≤ R.frames ∧ 39 + rm.locals ≤ R.locals) : mj < 173 ∧ CallB R s args (pm_on own) idx (pm_nm mj) (pm_by mj) (pm_mx mj) (pm_rt mj) (pm_ws mj) rm mc ms (pm_np mj) := by
  obtain ⟨hj, hlink⟩ := pm_iv_ok hiv
  have hcls : (pm_nm mj).cls = pm_on (pm_ow mj) := of_decide_eq_true (List.all_eq_true.mp pm_mC mj (List.mem_range.mpr hj))
  obtain ⟨n1, n2⟩ := Bool.and_eq_true_iff.mp (List.all_eq_true.mp pm_mG mj (List.mem_range.mpr hj))
  have hini : Cond.initialized (pm_on (pm_ow mj)) ∈ pm_G := pm_mem (List.all_eq_true.mp pm_mB mj (List.mem_range.mpr hj))
  have hmx : pm_mx mj ≤ 20 := Nat.le_of_ble_eq_true (List.all_eq_true.mp pm_mF mj (List.mem_range.mpr hj))
  exact ⟨hj, callB_of (pm_np mj) hts (pp_goodIn hG hj) rfl hrc hrs (by rw [hcls]; exact hts _ (hG _ hini)) (hts _ (hG _ hlink)) ⟨of_decide_eq_true n1, of_decide_eq_true n2, of_decide_eq_true (List.all_eq_true.mp pm_mD mj (List.mem_range.mpr hj))⟩ ⟨hR.1, by omega⟩⟩
set_option maxHeartbeats 4000000 in
theorem pw_met (hinj : ∀ a b, pm_kc a = true → pm_kc b = true → rho a = rho b → a = b) (hprim : ∀ (mj : Nat) (as : List Value) (v : Value), pm_prim mj as = some v → ∀ (h : pm_H) (sz : Nat), Met l (pm_nm mj) (pm_ws mj) (pm_rm 4) (va_Pc (pm_cS rho as) (pm_B rho D cy sw h sz)) (pm_Q rho D cy sw h sz (some v) h) 0 0 (va_A (pm_W cy rho sw h) sz)) (htr : l.stackTraces = false) {n d mi : Nat} {as : List Value} {h h' : pm_H} {k : Int32} (hrun : pw_run sw n d mi as h = some (k, h')) (hm1 : 174 ≤ mi) (hm2 : mi < 180) (hd : 6 ≤ d) (hfit : (lg_sl as).length ≤ pm_mx mi) (sz : Nat) :
    Met l (pm_nm mi) (pw_ws mi) (pn_rm (d + 1) 1 6) (va_Pc (pm_cS rho as) (pt_B rho D cy sw h sz)) (pm_Q rho D cy sw h sz (some (.int k)) h') 1 6 (va_A (pm_W cy rho sw h) sz) := by
  have hck := List.all_eq_true.mp pw_chk (mi - 174) (List.mem_range.mpr (by omega))
  rw [show 174 + (mi - 174) = mi by omega] at hck
  simp only [Bool.and_eq_true, decide_eq_true_eq] at hck
  obtain ⟨hfor, how, hcls, hrt, hhx⟩ := hck
  refine pw_ofW (cc := pm_by mi) (maxL := pm_mx mi) (ret := some .int) (hh := pw_hh mi) hfor rfl ?_
  intro p e s m args below meth c s₁ B hml hv
  obtain ⟨rfl, ⟨rfl, hP, hK, hD0, hKS⟩, hPT⟩ := hv
  have hownL : s.vm.findClass "QuietCheckerLaw" = some m.cls := by
    rw [← hcls]
    exact findClass_of_methodNamed B.named
  have hown : s.vm.findClass (pm_on (pm_ow mi)) = some m.cls := by
    rw [how]
    exact hownL
  have hts := atoms_spec (ws := pw_ws mi) B.pre
  have hG : ∀ w ∈ pm_G, w ∈ pw_ws mi := fun w hw => List.mem_cons_of_mem _ hw
  have htab := vx_table (x := pm_nm mi) B (hts _ List.mem_cons_self)
  have hl := lv_entry (pm_cS rho as) (n := pm_mx mi) (by rw [pm_sl_len]; exact hfit)
  rw [pm_args_c] at hl
  have hA : ∀ q, s.heap.size ≤ q → va_A (pm_W cy rho sw h) s.heap.size q := fun q hq => Or.inr hq
  have hb0 := B.bytes
  have hx0 := B.exec
  unfold pw_run at hrun
  split at hrun
  · rename_i pc L S h1 hpp
    rw [lg_entry_eq]
    refine pp_body hinj hprim (pw_stop mi) n d mi 0 (lv_args 0 as) [] h pc L S h1 hpp p e _ s m _ below meth c s.heap [] _ (va_A (pm_W cy rho sw h) s.heap.size) _ 0 0 (pw_ws mi) hx0 hb0 hml hown hts hG ⟨Nat.le_succ _, by show d * 40 ≤ (d + 1) * 40; omega, Nat.zero_le _, Nat.zero_le _⟩ hK hP hD0.self va_S.rf hA hKS hl ?_
    intro H1 locs1 ls1 hP1 hD1 hS1 hl1
    split at hrun
    · rename_i idx hfd
      split at hrun
      · rename_i mj as2 S1 hcl
        obtain ⟨ho5, hrun⟩ := pm_bifR hrun
        have ho5 := Nat.eq_of_beq_eq_true ho5
        obtain ⟨a, hiv, hsc, rfl, hS0, hnp, hrc, hcat, hfit2⟩ := pm_callV_t hcl
        obtain ⟨hj, cb⟩ := pm_callB_of (R := pn_rm (d + 1) 1 6) (rm := pn_rm d 1 6) (mc := 1) (ms := 6) hts hG hiv rfl rfl ⟨Nat.le_refl _, by show 39 + d * 40 ≤ (d + 1) * 40; omega⟩
        obtain ⟨hFc, hpre⟩ := pt_pre hK hP1 hD1 hS1 hA hKS hPT
        have hA1 := pm_mA_at hj
        unfold pm_mA at hA1
        rw [hsc] at hA1
        obtain ⟨w1, w2⟩ := Bool.and_eq_true_iff.mp hA1
        obtain ⟨len, hdec, hlen⟩ := pm_decode hfd
        have hlen := hlen.resolve_left (fun z => by cases z)
        subst hlen
        cases hpt : pt_run sw n d mj (.ref a :: (S.take (pm_np mj)).reverse) h1 with
        | none => rw [hpt] at hrun; cases hrun
        | some r =>
          rw [hpt] at hrun
          have hM := pt_met (l := l) (rho := rho) (D := D) (cy := cy) hinj hprim htr hpt hj ho5 hd hfit2 H1.size
          have hrn := vx_runV (C := pm_on (pm_ow mj)) (b := rho a) (As := pm_cS rho (S.take (pm_np mj)).reverse) (rest := pm_cS rho S1) (g := F0 m pc ls1 (pm_cS rho S)) (p := p) (e := e) (below := below) (meth := meth) (locs := locs1) (cells := 0) (slots := 0) (R := pn_rm (d + 1) 1 6) (H := H1) ⟨hx0, hb0, hml, hown, hts⟩ hM ⟨cb, hts _ (hG _ (pm_mem w1)), hts _ (hG _ (pm_mem w2))⟩ ⟨pt_blind, pm_rcv_t hrc hK hP1 hS1 hKS, fun U hU hW => ⟨rfl, hpre U hU hW⟩⟩ rfl (by
            unfold pm_cS
            rw [List.length_map, List.length_reverse]
            exact hnp) hl1.1 (by
            show pm_cS rho S = (pm_cS rho (S.take (pm_np mj)).reverse).reverse ++ .ref (rho a) :: pm_cS rho S1
            rw [pm_cS_rev, List.reverse_reverse]
            calc pm_cS rho S = pm_cS rho (S.take (pm_np mj) ++ .ref a :: S1) := by rw [← hS0]
              _ = _ := pm_cS_app rho _ _) (lv_room (by rw [pm_cats_c]; exact hcat)) hdec ⟨Nat.le_refl _, Nat.le_refl _⟩
          refine pw_callk (A1 := va_A (pm_W cy rho sw h1) H1.size) hrn ?_ ?_ hS1 (fun q _ z => hFc q z) hFc ?_ ?_
          · intro st v t hq
            cases r with
            | inl r => exact hq.2.2
            | inr r => exact hq.elim
          · intro E st t hq
            cases r with
            | inl r => exact hq.elim
            | inr r => exact hq.2.2
          · intro E ce q9 st t locs2 hq hS2 hce hcv hcl9
            cases r with
            | inl r => exact hq.elim
            | inr r =>
              obtain ⟨x, h2⟩ := r
              obtain ⟨rfl, ⟨hP2, hD2⟩, hF2⟩ := hq
              dsimp only at hrun hP2 hD2
              split at hrun
              · rename_i hpc hfi
                obtain ⟨k0, hk0, hke⟩ := Option.map_eq_some_iff.mp hrun
                cases hke
                have hx3 : x < 3 := by
                  unfold pt_run at hpt
                  split at hpt
                  · unfold pt_end at hpt
                    split at hpt
                    · split at hpt
                      · rename_i x0 ic0 hxf
                        obtain ⟨-, he⟩ := pm_bif hpt
                        cases he
                        have w1 := List.all_eq_true.mp pt_w1 _ (pt_xf_mem hxf)
                        dsimp only at w1
                        exact pm_blt (Bool.and_eq_true_iff.mp (Bool.and_eq_true_iff.mp w1).2).1
                      · cases hpt
                    · split at hpt <;> cases hpt
                    · cases hpt
                  · cases hpt
                refine pw_catch hownL htab hfi hx3 (fun q hq => ?_) (va_tabs rfl rfl (hPT.2.2.1 _ (pt_ex_cast hx3))) hPT.2.2.2.1 hPT.2.2.2.2 hce hcv hcl9 ?_
                · have hq2 : q.2.2.2 ∈ ([13, 15, 21] : List Nat) := of_decide_eq_true (List.all_eq_true.mp hhx q hq)
                  refine ⟨fun z => by rw [z] at hq2; revert hq2; decide, ?_⟩
                  exact hts _ (hG _ (List.mem_filter.mpr ⟨of_decide_eq_true (List.all_eq_true.mp pw_lk _ hq2), rfl⟩))
                · unfold pw_hk at hk0
                  split at hk0
                  · rename_i j hfa
                    obtain ⟨hjm, hk0⟩ := pm_bifR hk0
                    split at hk0
                    · rename_i k1 hfb
                      obtain ⟨hfc, hk0⟩ := pm_bifR hk0
                      cases hk0
                      obtain ⟨n1, d1, e1⟩ := pm_decode hfa
                      obtain ⟨n2, d2, e2⟩ := pm_decode hfb
                      obtain ⟨n3, d3, e3⟩ := pm_decode (of_decide_eq_true hfc)
                      have e1 := e1.resolve_left (fun z => by cases z)
                      have e2 := e2.resolve_left (fun z => by cases z)
                      have e3 := e3.resolve_left (fun z => by cases z)
                      subst e1; subst e2; subst e3
                      refine lv_astore hx0 hb0 d1 hl1 (pm_blt hjm) rfl (fun ls2 hl2 => ?_)
                      refine lv_iconst hx0 hb0 d2 rfl ?_
                      exact W.iret hx0 hb0 B.returns (fun t' ht hW => ⟨rfl, ⟨by rw [ht]; exact hP2, hD2.weaken (fun _ q _ z => hFc q.1 z)⟩, hS2.F ht⟩) hS2.2.2 d3 B.notSynchronized
                    · cases hk0
                  · rename_i j hfa
                    obtain ⟨hjm, hk0⟩ := pm_bifR hk0
                    split at hk0
                    · rename_i k1 hfb
                      obtain ⟨hfc, hk0⟩ := pm_bifR hk0
                      cases hk0
                      obtain ⟨n1, d1, e1⟩ := pm_decode hfa
                      obtain ⟨n2, d2, e2⟩ := pm_decode hfb
                      obtain ⟨n3, d3, e3⟩ := pm_decode (of_decide_eq_true hfc)
                      have e1 := e1.resolve_left (fun z => by cases z)
                      have e2 := e2.resolve_left (fun z => by cases z)
                      have e3 := e3.resolve_left (fun z => by cases z)
                      subst e1; subst e2; subst e3
                      refine lv_astore_n hx0 hb0 d1 rfl hl1 (pm_blt hjm) rfl (fun ls2 hl2 => ?_)
                      refine lv_iconst hx0 hb0 d2 rfl ?_
                      exact W.iret hx0 hb0 B.returns (fun t' ht hW => ⟨rfl, ⟨by rw [ht]; exact hP2, hD2.weaken (fun _ q _ z => hFc q.1 z)⟩, hS2.F ht⟩) hS2.2.2 d3 B.notSynchronized
                    · cases hk0
                  · cases hk0
              · cases hrun
          · intro st t v0 locs2 hq hS2
            cases r with
            | inr r => exact hq.elim
            | inl r =>
              obtain ⟨v, h2⟩ := r
              obtain ⟨hv0, ⟨hP2, hD2⟩, hF2⟩ := hq
              have hv0 := Outcome.returned.inj hv0
              subst hv0
              dsimp only at hrun hP2 hD2 ⊢
              split at hrun
              · rename_i pc3 L3 S3 h3 hpp3
                rw [pm_toList_c, ← pm_cS_app]
                refine pp_body hinj hprim (pw_stop mi) n d mi (pc + 3) L (v.toList ++ S1) h2 pc3 L3 S3 h3 hpp3 p e _ s m _ below meth c t.heap locs2 ls1 (va_A (pm_W cy rho sw h) s.heap.size) _ 1 6 (pw_ws mi) hx0 hb0 hml hown hts hG ⟨Nat.le_succ _, by show d * 40 ≤ (d + 1) * 40; omega, Nat.le_refl _, Nat.le_refl _⟩ hK hP2 (hD2.weaken (fun _ q _ z => hFc q.1 z)) hS2 hA hKS hl1 ?_
                intro H3 locs3 ls3 hP3 hD3 hS3 hl3
                split at hrun
                · rename_i hfd3
                  split at hrun
                  · cases hrun
                    obtain ⟨len3, hdec3, hlen3⟩ := pm_decode hfd3
                    have hlen3 := hlen3.resolve_left (fun z => by cases z)
                    subst hlen3
                    exact W.iret hx0 hb0 B.returns (fun t' ht hW => ⟨rfl, ⟨by rw [ht]; exact hP3, hD3⟩, hS3.F ht⟩) hS3.2.2 hdec3 B.notSynchronized
                  · cases hrun
                · cases hrun
              · cases hrun
      · cases hrun
    · cases hrun
  · cases hrun
end PW2
end
section
/-! A pure layer over the machine's runs: more fuel answers the same; runs as statements on what they answer -/
set_option maxHeartbeats 1000000 in
theorem px_mono (sw : List (Nat × Nat)) : ∀ (n m d mi pc : Nat) (L : pm_L) (S : List Value) (h : pm_H) (r : Option Value × pm_H), pm_run sw n d mi pc L S h = some r → n ≤ m → pm_run sw m d mi pc L S h = some r := by
  intro n
  induction n with
  | zero => intro m d mi pc L S h r hr; cases hr
  | succ n ih =>
    intro m d mi pc L S h r hr hm
    cases m with
    | zero => exact absurd hm (by omega)
    | succ m =>
      have hm' : n ≤ m := by omega
      unfold pm_run at hr ⊢
      cases hs : pm_step sw mi pc L S h with
      | none =>
        rw [hs] at hr
        dsimp only at hr ⊢
        cases hf : pm_fd (pm_code mi) pc with
        | none => rw [hf] at hr; cases hr
        | some i =>
          rw [hf] at hr
          dsimp only at hr ⊢
          cases hc : pm_cpy i sw (pm_ow mi) h S with
          | none => rw [hc] at hr; cases hr
          | some q =>
            rw [hc] at hr
            obtain ⟨h1, S1⟩ := q
            dsimp only at hr ⊢
            cases hb : Nat.blt 0 d with
            | false => rw [hb] at hr; cases hr
            | true =>
              rw [hb] at hr
              exact ih m d mi (pc + 3) L S1 h1 r hr hm'
      | some q =>
        rw [hs] at hr
        rcases q with ⟨pc1, L1, S1, h1⟩ | v | ⟨mj, as, S1⟩
        · exact ih m d mi pc1 L1 S1 h1 r hr hm'
        · exact hr
        · dsimp only at hr ⊢
          cases d with
          | zero => cases hr
          | succ d =>
            dsimp only at hr ⊢
            cases hp : pm_prim mj as with
            | some v =>
              rw [hp] at hr
              dsimp only at hr ⊢
              cases hb : Nat.ble 4 d with
              | false => rw [hb] at hr; cases hr
              | true =>
                rw [hb] at hr
                exact ih m (d + 1) mi (pc + 3) L (v :: S1) h r hr hm'
            | none =>
              rw [hp] at hr
              dsimp only at hr ⊢
              cases hc : pm_run sw n d mj 0 (lv_args 0 as) [] h with
              | none => rw [hc] at hr; cases hr
              | some q =>
                rw [hc] at hr
                rw [ih m d mj 0 (lv_args 0 as) [] h q hc hm']
                obtain ⟨v, h1⟩ := q
                exact ih m (d + 1) mi (pc + 3) L (v.toList ++ S1) h1 r hr hm'
set_option maxHeartbeats 1000000 in
theorem pu_mono (sw : List (Nat × Nat)) (stop : Nat → Bool) : ∀ (n m d mi pc : Nat) (L : pm_L) (S : List Value) (h : pm_H) (r : Nat × pm_L × List Value × pm_H), pp_run sw stop n d mi pc L S h = some r → n ≤ m → pp_run sw stop m d mi pc L S h = some r := by
  intro n
  induction n with
  | zero => intro m d mi pc L S h r hr; cases hr
  | succ n ih =>
    intro m d mi pc L S h r hr hm
    cases m with
    | zero => exact absurd hm (by omega)
    | succ m =>
      have hm' : n ≤ m := by omega
      unfold pp_run at hr ⊢
      cases hst : stop pc with
      | true => rw [hst] at hr; exact hr
      | false =>
      rw [hst] at hr
      dsimp only [cond] at hr ⊢
      cases hs : pm_step sw mi pc L S h with
      | none =>
        rw [hs] at hr
        dsimp only at hr ⊢
        cases hf : pm_fd (pm_code mi) pc with
        | none => rw [hf] at hr; cases hr
        | some i =>
          rw [hf] at hr
          dsimp only at hr ⊢
          cases hc : pm_cpy i sw (pm_ow mi) h S with
          | none => rw [hc] at hr; cases hr
          | some q =>
            rw [hc] at hr
            obtain ⟨h1, S1⟩ := q
            dsimp only at hr ⊢
            cases hb : Nat.blt 0 d with
            | false => rw [hb] at hr; cases hr
            | true =>
              rw [hb] at hr
              exact ih m d mi (pc + 3) L S1 h1 r hr hm'
      | some q =>
        rw [hs] at hr
        rcases q with ⟨pc1, L1, S1, h1⟩ | v | ⟨mj, as, S1⟩
        · exact ih m d mi pc1 L1 S1 h1 r hr hm'
        · exact hr
        · dsimp only at hr ⊢
          cases d with
          | zero => cases hr
          | succ d =>
            dsimp only at hr ⊢
            cases hp : pm_prim mj as with
            | some v =>
              rw [hp] at hr
              dsimp only at hr ⊢
              cases hb : Nat.ble 4 d with
              | false => rw [hb] at hr; cases hr
              | true =>
                rw [hb] at hr
                exact ih m (d + 1) mi (pc + 3) L (v :: S1) h r hr hm'
            | none =>
              rw [hp] at hr
              dsimp only at hr ⊢
              cases hc : pm_run sw n d mj 0 (lv_args 0 as) [] h with
              | none => rw [hc] at hr; cases hr
              | some q =>
                rw [hc] at hr
                rw [px_mono sw n m d mj 0 (lv_args 0 as) [] h q hc hm']
                obtain ⟨v, h1⟩ := q
                exact ih m (d + 1) mi (pc + 3) L (v.toList ++ S1) h1 r hr hm'
/-- the run from here ends, with Q of its answer and heap -/
def px (d mi pc : Nat) (L : pm_L) (S : List Value) (h : pm_H) (Q : Option Value → pm_H → Prop) : Prop := ∃ (n : Nat) (v : Option Value) (h' : pm_H), pm_run pm_swA n d mi pc L S h = some (v, h') ∧ Q v h'
section PX1
variable {d mi pc : Nat} {L : pm_L} {S : List Value} {h : pm_H} {Q : Option Value → pm_H → Prop} {pc' : Nat} {L' : pm_L} {S' : List Value} {h' : pm_H}
theorem px_seg (k : Nat) (hs : ∀ n, pm_run pm_swA (n + k) d mi pc L S h = pm_run pm_swA n d mi pc' L' S' h') (q : px d mi pc' L' S' h' Q) : px d mi pc L S h Q := by
  obtain ⟨n, v, h1, h2, h3⟩ := q
  exact ⟨n + k, v, h1, (hs n).trans h2, h3⟩
theorem px_st (hs : pm_step pm_swA mi pc L S h = some (.inl (pc', L', S', h'))) (q : px d mi pc' L' S' h' Q) : px d mi pc L S h Q := by
  refine px_seg 1 (fun n => ?_) q
  show pm_run pm_swA (n + 1) d mi pc L S h = _
  conv => lhs; unfold pm_run
  rw [hs]
theorem px_ret {v : Option Value} (hs : pm_step pm_swA mi pc L S h = some (.inr (.inl v))) (q : Q v h) : px d mi pc L S h Q :=
  ⟨1, v, h, by unfold pm_run; rw [hs], q⟩
theorem px_call {mj : Nat} {as : List Value} (hs : pm_step pm_swA mi pc L S h = some (.inr (.inr (mj, as, S')))) (hp : pm_prim mj as = none)
    (q : px d mj 0 (lv_args 0 as) [] h (fun v h1 => px (d + 1) mi (pc + 3) L (v.toList ++ S') h1 Q)) : px (d + 1) mi pc L S h Q := by
  obtain ⟨n, v, h1, h2, n2, v2, h3, h4, h5⟩ := q
  refine ⟨n + n2 + 1, v2, h3, ?_, h5⟩
  unfold pm_run
  rw [hs]
  dsimp only
  rw [hp]
  dsimp only
  rw [px_mono _ n (n + n2) d mj 0 _ [] h (v, h1) h2 (by omega)]
  exact px_mono _ n2 (n + n2) (d + 1) mi (pc + 3) L _ h1 (v2, h3) h4 (by omega)
theorem px_prim {mj : Nat} {as : List Value} {v : Value} (hs : pm_step pm_swA mi pc L S h = some (.inr (.inr (mj, as, S')))) (hp : pm_prim mj as = some v) (hd : 4 ≤ d) (q : px (d + 1) mi (pc + 3) L (v :: S') h Q) : px (d + 1) mi pc L S h Q := by
  obtain ⟨n, v2, h3, h4, h5⟩ := q
  refine ⟨n + 1, v2, h3, ?_, h5⟩
  unfold pm_run
  rw [hs]
  dsimp only
  rw [hp]
  dsimp only
  rw [Nat.ble_eq_true_of_le hd]
  exact h4
theorem px_cpy {i : Instr} (hs : pm_step pm_swA mi pc L S h = none) (hf : pm_fd (pm_code mi) pc = some i) (hc : pm_cpy i pm_swA (pm_ow mi) h S = some (h', S')) (hd : 0 < d) (q : px d mi (pc + 3) L S' h' Q) : px d mi pc L S h Q := by
  obtain ⟨n, v2, h3, h4, h5⟩ := q
  refine ⟨n + 1, v2, h3, ?_, h5⟩
  unfold pm_run
  rw [hs]
  dsimp only
  rw [hf]
  dsimp only
  rw [hc]
  dsimp only
  rw [show Nat.blt 0 d = true from Nat.ble_eq_true_of_le hd]
  exact h4
theorem px_imp {Q' : Option Value → pm_H → Prop} (q : px d mi pc L S h Q) (k : ∀ v h1, Q v h1 → Q' v h1) : px d mi pc L S h Q' := by
  obtain ⟨n, v, h1, h2, h3⟩ := q
  exact ⟨n, v, h1, h2, k v h1 h3⟩
end PX1
/-- the run from here comes to a stop place, with Q there -/
def pu (stop : Nat → Bool) (d mi pc : Nat) (L : pm_L) (S : List Value) (h : pm_H) (Q : Nat → pm_L → List Value → pm_H → Prop) : Prop := ∃ (n pc' : Nat) (L' : pm_L) (S' : List Value) (h' : pm_H), pp_run pm_swA stop n d mi pc L S h = some (pc', L', S', h') ∧ Q pc' L' S' h'
section PU1
variable {stop : Nat → Bool} {d mi pc : Nat} {L : pm_L} {S : List Value} {h : pm_H} {Q : Nat → pm_L → List Value → pm_H → Prop} {pc' : Nat} {L' : pm_L} {S' : List Value} {h' : pm_H}
theorem pu_stop (hst : stop pc = true) (q : Q pc L S h) : pu stop d mi pc L S h Q := ⟨1, pc, L, S, h, by unfold pp_run; rw [hst]; rfl, q⟩
theorem pu_seg (k : Nat) (hs : ∀ n, pp_run pm_swA stop (n + k) d mi pc L S h = pp_run pm_swA stop n d mi pc' L' S' h') (q : pu stop d mi pc' L' S' h' Q) : pu stop d mi pc L S h Q := by
  obtain ⟨n, a1, a2, a3, a4, h2, h3⟩ := q
  exact ⟨n + k, a1, a2, a3, a4, (hs n).trans h2, h3⟩
theorem pu_st (hst : stop pc = false) (hs : pm_step pm_swA mi pc L S h = some (.inl (pc', L', S', h'))) (q : pu stop d mi pc' L' S' h' Q) : pu stop d mi pc L S h Q := by
  refine pu_seg 1 (fun n => ?_) q
  show pp_run pm_swA stop (n + 1) d mi pc L S h = _
  conv => lhs; unfold pp_run
  rw [hst, hs]
  rfl
theorem pu_call {mj : Nat} {as : List Value} (hst : stop pc = false) (hs : pm_step pm_swA mi pc L S h = some (.inr (.inr (mj, as, S')))) (hp : pm_prim mj as = none)
    (q : px d mj 0 (lv_args 0 as) [] h (fun v h1 => pu stop (d + 1) mi (pc + 3) L (v.toList ++ S') h1 Q)) : pu stop (d + 1) mi pc L S h Q := by
  obtain ⟨n, v, h1, h2, n2, a1, a2, a3, a4, h4, h5⟩ := q
  refine ⟨n + n2 + 1, a1, a2, a3, a4, ?_, h5⟩
  unfold pp_run
  rw [hst, hs]
  dsimp only [cond]
  rw [hp]
  dsimp only
  rw [px_mono _ n (n + n2) d mj 0 _ [] h (v, h1) h2 (by omega)]
  exact pu_mono _ stop n2 (n + n2) (d + 1) mi (pc + 3) L _ h1 (a1, a2, a3, a4) h4 (by omega)
theorem pu_prim {mj : Nat} {as : List Value} {v : Value} (hst : stop pc = false) (hs : pm_step pm_swA mi pc L S h = some (.inr (.inr (mj, as, S')))) (hp : pm_prim mj as = some v) (hd : 4 ≤ d) (q : pu stop (d + 1) mi (pc + 3) L (v :: S') h Q) : pu stop (d + 1) mi pc L S h Q := by
  obtain ⟨n, a1, a2, a3, a4, h4, h5⟩ := q
  refine ⟨n + 1, a1, a2, a3, a4, ?_, h5⟩
  unfold pp_run
  rw [hst, hs]
  dsimp only [cond]
  rw [hp]
  dsimp only
  rw [Nat.ble_eq_true_of_le hd]
  exact h4
theorem pu_cpy {i : Instr} (hst : stop pc = false) (hs : pm_step pm_swA mi pc L S h = none) (hf : pm_fd (pm_code mi) pc = some i) (hc : pm_cpy i pm_swA (pm_ow mi) h S = some (h', S')) (hd : 0 < d) (q : pu stop d mi (pc + 3) L S' h' Q) : pu stop d mi pc L S h Q := by
  obtain ⟨n, a1, a2, a3, a4, h4, h5⟩ := q
  refine ⟨n + 1, a1, a2, a3, a4, ?_, h5⟩
  unfold pp_run
  rw [hst, hs]
  dsimp only [cond]
  rw [hf]
  dsimp only
  rw [hc]
  dsimp only
  rw [show Nat.blt 0 d = true from Nat.ble_eq_true_of_le hd]
  exact h4
end PU1
/-- a method that may throw, run to its end -/
theorem pt_of {d mj : Nat} {as : List Value} {h : pm_H} {r : (Option Value × pm_H) ⊕ (Nat × pm_H)} (q : pu (pt_stop mj) d mj 0 (lv_args 0 as) [] h (fun pc _ S h' => pt_end mj pc S h' = some r)) : ∃ n, ∀ m, n ≤ m → pt_run pm_swA m d mj as h = some r := by
  obtain ⟨n, a1, a2, a3, a4, h2, h3⟩ := q
  refine ⟨n, fun m hm => ?_⟩
  unfold pt_run
  rw [pu_mono _ _ n m _ _ _ _ _ _ _ h2 hm]
  exact h3
/-- a wrapper whose call throws -/
theorem pw_thr {d mi pc mj x hpc : Nat} {k : Int} {as as2 S S1 : List Value} {L : pm_L} {h h1 h2 : pm_H} {idx : Nat} (q : pu (pw_stop mi) d mi 0 (lv_args 0 as) [] h (fun a1 a2 a3 a4 => a1 = pc ∧ a2 = L ∧ a3 = S ∧ a4 = h1)) (hf : pm_fd (pm_code mi) pc = some (.invokevirtual idx)) (hc : pm_call (.invokevirtual idx) pm_swA (pm_ow mi) S = some (mj, as2, S1)) (ho : Nat.beq (pm_ow mj) 5 = true)
    (ht : ∃ n, ∀ m, n ≤ m → pt_run pm_swA m d mj as2 h1 = some (.inr (x, h2))) (hw : pw_find (pw_hh mi) pc x = some hpc) (hk : pw_hk mi hpc = some k) : ∃ n, ∀ m, n ≤ m → pw_run pm_swA m d mi as h = some (Int32.ofInt k, h2) := by
  obtain ⟨n, a1, a2, a3, a4, e2, rfl, rfl, rfl, rfl⟩ := q
  obtain ⟨n2, ht⟩ := ht
  refine ⟨n + n2, fun m hm => ?_⟩
  unfold pw_run
  rw [pu_mono _ _ n m _ _ _ _ _ _ _ e2 (by omega)]
  dsimp only
  rw [hf]
  dsimp only
  rw [hc]
  dsimp only
  rw [ho, ht m (by omega)]
  dsimp only [cond]
  rw [hw]
  dsimp only
  rw [hk]
  rfl
/-- a wrapper whose call returns -/
theorem pw_val {d mi pc mj : Nat} {k : Int32} {as as2 S S1 : List Value} {L : pm_L} {v : Option Value} {h h1 h2 h3 : pm_H} {idx : Nat} (q : pu (pw_stop mi) d mi 0 (lv_args 0 as) [] h (fun a1 a2 a3 a4 => a1 = pc ∧ a2 = L ∧ a3 = S ∧ a4 = h1)) (hf : pm_fd (pm_code mi) pc = some (.invokevirtual idx)) (hc : pm_call (.invokevirtual idx) pm_swA (pm_ow mi) S = some (mj, as2, S1)) (ho : Nat.beq (pm_ow mj) 5 = true)
    (ht : ∃ n, ∀ m, n ≤ m → pt_run pm_swA m d mj as2 h1 = some (.inl (v, h2))) (q2 : pu (pw_stop mi) d mi (pc + 3) L (v.toList ++ S1) h2 (fun a1 _ a3 a4 => pm_fd (pm_code mi) a1 = some .ireturn ∧ a3 = [.int k] ∧ a4 = h3)) : ∃ n, ∀ m, n ≤ m → pw_run pm_swA m d mi as h = some (k, h3) := by
  obtain ⟨n, a1, a2, a3, a4, e2, rfl, rfl, rfl, rfl⟩ := q
  obtain ⟨n2, ht⟩ := ht
  obtain ⟨n3, b1, b2, b3, b4, e3, e4, rfl, rfl⟩ := q2
  refine ⟨n + n2 + n3, fun m hm => ?_⟩
  unfold pw_run
  rw [pu_mono _ _ n m _ _ _ _ _ _ _ e2 (by omega)]
  dsimp only
  rw [hf]
  dsimp only
  rw [hc]
  dsimp only
  rw [ho, ht m (by omega)]
  dsimp only [cond]
  rw [pu_mono _ _ n3 m _ _ _ _ _ _ _ e3 (by omega)]
  dsimp only
  rw [e4]
end
section
/-! The references of the fresh heap, as a table; all but two kinds of them never change -/
def pg_f : List (Nat × Nat × Nat) → Nat → Nat → Option Nat
  | [], _, _ => none
  | q :: l, i, j => bif Nat.beq q.1 i && Nat.beq q.2.1 j then some q.2.2 else pg_f l i j
theorem pg_nb {a b : Nat} (h : b ≠ a) : Nat.beq a b = false := by
  cases e : Nat.beq a b with
  | false => rfl
  | true => exact absurd (Nat.eq_of_beq_eq_true e).symm h
theorem pg_no {n : Nat} : ∀ {l : List (Nat × Nat × Nat)}, l.all (fun q => !Nat.beq q.1 n) = true → ∀ j, pg_f l n j = none := by
  intro l
  induction l with
  | nil => intro _ j; rfl
  | cons q l ih =>
    intro h j
    rw [List.all_cons] at h
    obtain ⟨h1, h2⟩ := Bool.and_eq_true_iff.mp h
    have h3 : Nat.beq q.1 n = false := by simpa using h1
    unfold pg_f
    rw [h3]
    exact ih h2 j
theorem pd_R {h : pm_H} {l : List (Nat × Nat × Nat)} {a k r : Nat} (z : h.2.2 = pg_f l) : (pm_setR h a k (some r)).2.2 = pg_f ((a, k, r) :: l) := by
  funext i j
  show va_up h.2.2 a (va_up (h.2.2 a) k (some r)) i j = bif Nat.beq a i && Nat.beq k j then some r else pg_f l i j
  by_cases h1 : i = a
  · subst h1
    rw [va_up_self, Nat.beq_refl]
    by_cases h2 : j = k
    · subst h2
      rw [va_up_self, Nat.beq_refl]
      rfl
    · rw [va_up_ne _ _ h2, z, show Nat.beq k j = false from pg_nb h2]
      rfl
  · rw [va_up_ne _ _ h1, z, show Nat.beq a i = false from pg_nb h1]
    rfl
theorem pd_0 {h : pm_H} {l : List (Nat × Nat × Nat)} {n : Nat} (z : h.2.2 = pg_f l) (hl : l.all (fun q => !Nat.beq q.1 n) = true) : (pn_zero h n).2.2 = pg_f l := by
  funext i j
  show va_up h.2.2 n (fun _ => none) i j = pg_f l i j
  by_cases h1 : i = n
  · subst h1
    rw [va_up_self, pg_no hl]
  · rw [va_up_ne _ _ h1, z]
def pg_lC : List (Nat × Nat × Nat) := [(0, 7, 35), (35, 6, 38), (35, 2, 37), (35, 1, 36), (35, 0, 2), (0, 6, 31), (31, 6, 34), (31, 2, 33), (31, 1, 32), (31, 0, 2), (0, 5, 30), (0, 4, 29), (0, 3, 19), (19, 9, 1003), (19, 2, 25), (25, 3, 28), (25, 2, 27), (25, 1, 26), (25, 0, 3), (19, 1, 20), (20, 3, 24), (20, 2, 23), (20, 1, 22), (20, 0, 21), (20, 5, 3), (19, 0, 2), (0, 2, 2), (2, 11, 18), (2, 10, 17), (2, 9, 16), (2, 8, 15), (2, 7, 14), (2, 6, 10), (10, 3, 13), (10, 2, 12), (10, 1, 11), (10, 0, 3), (2, 4, 9), (2, 3, 8), (2, 2, 4), (4, 3, 7), (4, 2, 6), (4, 1, 5), (4, 0, 3), (2, 0, 3), (0, 0, 1)]
set_option maxRecDepth 100000 in
theorem pd_C : pm_hC.2.2 = pg_f pg_lC := (pd_R (pd_R (pd_0 (pd_R (pd_0 (pd_R (pd_0 (pd_R (pd_0 (pd_R (pd_R (pd_0 (pd_R (pd_0 (pd_R (pd_0 (pd_R (pd_0 (pd_R (pd_0 (pd_R (pd_0 (pd_R (pd_R (pd_R (pd_R (pd_0 (pd_R (pd_0 (pd_R (pd_0 (pd_R (pd_0 (pd_R (pd_R (pd_0 (pd_R (pd_0 (pd_R (pd_0 (pd_R (pd_0 (pd_R (pd_0 (pd_R (pd_0 (pd_R (pd_R (pd_0 (pd_R (pd_0 (pd_R (pd_0 (pd_R (pd_0 (pd_R (pd_0 (pd_R (pd_R (pd_0 (pd_R (pd_0 (pd_R (pd_0 (pd_R (pd_0 (pd_R (pd_0 (pd_R (pd_0 (pd_R (pd_R (pd_0 (pd_R (pd_0 (pd_R (pd_0 (pd_R (pd_0 (pd_R (pd_0 (pd_0 (pd_R (pd_0 (pd_0 (show pm_h0.2.2 = pg_f [] from rfl) (by decide)) (by decide))) (by decide)) (by decide))) (by decide))) (by decide))) (by decide))) (by decide)))) (by decide))) (by decide))) (by decide))) (by decide))) (by decide))) (by decide)))) (by decide))) (by decide))) (by decide))) (by decide))) (by decide)))) (by decide))) (by decide))) (by decide))) (by decide))) (by decide))) (by decide)))) (by decide))) (by decide))) (by decide))) (by decide)))))) (by decide))) (by decide))) (by decide))) (by decide))) (by decide))) (by decide)))) (by decide))) (by decide))) (by decide))) (by decide))))
def pg_lM : List (Nat × Nat × Nat) := [(39, 63, 73), (39, 62, 72), (39, 61, 71), (39, 60, 70), (39, 59, 69), (39, 57, 68), (39, 56, 67), (39, 55, 66), (39, 49, 65), (39, 48, 64), (39, 47, 63), (39, 46, 62), (39, 45, 61), (39, 41, 60), (39, 40, 59), (39, 39, 58), (39, 36, 57), (39, 35, 56), (39, 34, 55), (39, 33, 54), (39, 32, 53), (39, 31, 52), (39, 30, 51), (39, 29, 50), (39, 28, 49), (39, 27, 48), (39, 26, 47), (39, 25, 46), (39, 24, 45), (39, 23, 44), (39, 22, 43), (39, 21, 42), (39, 2, 41), (39, 1, 40), (0, 7, 35), (35, 6, 38), (35, 2, 37), (35, 1, 36), (35, 0, 2), (0, 6, 31), (31, 6, 34), (31, 2, 33), (31, 1, 32), (31, 0, 2), (0, 5, 30), (0, 4, 29), (0, 3, 19), (19, 9, 1003), (19, 2, 25), (25, 3, 28), (25, 2, 27), (25, 1, 26), (25, 0, 3), (19, 1, 20), (20, 3, 24), (20, 2, 23), (20, 1, 22), (20, 0, 21), (20, 5, 3), (19, 0, 2), (0, 2, 2), (2, 11, 18), (2, 10, 17), (2, 9, 16), (2, 8, 15), (2, 7, 14), (2, 6, 10), (10, 3, 13), (10, 2, 12), (10, 1, 11), (10, 0, 3), (2, 4, 9), (2, 3, 8), (2, 2, 4), (4, 3, 7), (4, 2, 6), (4, 1, 5), (4, 0, 3), (2, 0, 3), (0, 0, 1)]
set_option maxRecDepth 100000 in
theorem pd_M : pm_hM.2.2 = pg_f pg_lM := (pd_R (pd_0 (pd_R (pd_0 (pd_R (pd_0 (pd_R (pd_0 (pd_R (pd_0 (pd_R (pd_0 (pd_R (pd_0 (pd_R (pd_0 (pd_R (pd_0 (pd_R (pd_0 (pd_R (pd_0 (pd_R (pd_0 (pd_R (pd_0 (pd_R (pd_0 (pd_R (pd_0 (pd_R (pd_0 (pd_R (pd_0 (pd_R (pd_0 (pd_R (pd_0 (pd_R (pd_0 (pd_R (pd_0 (pd_R (pd_0 (pd_R (pd_0 (pd_R (pd_0 (pd_R (pd_0 (pd_R (pd_0 (pd_R (pd_0 (pd_R (pd_0 (pd_R (pd_0 (pd_R (pd_0 (pd_R (pd_0 (pd_R (pd_0 (pd_R (pd_0 (pd_R (pd_0 (pd_0 pd_C (by decide)) (by decide))) (by decide))) (by decide))) (by decide))) (by decide))) (by decide))) (by decide))) (by decide))) (by decide))) (by decide))) (by decide))) (by decide))) (by decide))) (by decide))) (by decide))) (by decide))) (by decide))) (by decide))) (by decide))) (by decide))) (by decide))) (by decide))) (by decide))) (by decide))) (by decide))) (by decide))) (by decide))) (by decide))) (by decide))) (by decide))) (by decide))) (by decide))) (by decide))) (by decide)))
theorem pd_A : pm_hA.2.2 = pg_f pg_lM := pd_0 pd_M (by decide)
def pg_r (K : Option Nat) (T : Nat → Option Nat) (i j : Nat) : Option Nat := bif Nat.beq i 21 then T j else (bif Nat.beq i 19 && Nat.beq j 9 then K else pg_f pg_lM i j)
/-- the heap: ints, longs, the parser's kind, the tokens' kinds -/
def pg (I : Nat → Nat → Int32) (J : Nat → Nat → Int64) (K : Option Nat) (T : Nat → Option Nat) : pm_H := (I, J, pg_r K T)
theorem pg_A : pm_hA = pg (fun _ _ => 0) (fun _ _ => 0) (some 1003) (fun _ => none) := by
  have h1 := pz_A
  have h2 : pm_hA.2.2 = pg_r (some 1003) (fun _ => none) := by
    rw [pd_A]
    funext i j
    unfold pg_r
    cases h3 : Nat.beq i 21 with
    | true =>
      rw [Nat.eq_of_beq_eq_true h3]
      exact pg_no (by decide) j
    | false =>
      cases h4 : (Nat.beq i 19 && Nat.beq j 9) with
      | true =>
        obtain ⟨h5, h6⟩ := Bool.and_eq_true_iff.mp h4
        rw [Nat.eq_of_beq_eq_true h5, Nat.eq_of_beq_eq_true h6]
        rfl
      | false => rfl
  exact Prod.ext h1.1 (Prod.ext h1.2 h2)
end
section
theorem wb_tb (n : Nat) : (lN n).toBitVec = BitVec.ofNat 64 n := rfl
theorem wb_inj {a b : Int64} (h : a.toBitVec = b.toBitVec) : a = b := Int64.toBitVec_inj.mp h
theorem wb_tn {n : Nat} (h : n < 2 ^ 64) : (lN n).toBitVec.toNat = n := by rw [wb_tb, BitVec.toNat_ofNat, Nat.mod_eq_of_lt h]
theorem wb_of (x : Int64) : ∃ n, n < 2 ^ 64 ∧ x = lN n := ⟨x.toBitVec.toNat, x.toBitVec.isLt, wb_inj (by rw [wb_tb]; simp)⟩
theorem wb_of32 (x : Int32) : ∃ n, n < 2 ^ 32 ∧ x = nI n := ⟨x.toBitVec.toNat, x.toBitVec.isLt, Int32.toBitVec_inj.mp (by show _ = BitVec.ofNat 32 _; simp)⟩
theorem wb_c : ∀ k, k < 64 → ((nI k).toInt64 &&& 63) = lN k := by decide +kernel
theorem wb_cu : ∀ k, k < 64 → ((nI k).toInt64.toUInt64 &&& Int64.toUInt64 63) = UInt64.ofNat k := by decide +kernel
theorem wb_sm : ∀ k, k < 64 → (BitVec.ofNat 64 k).smod 64 = BitVec.ofNat 64 k := by decide +kernel
theorem wb_pw {a b : Nat} (h : a ≤ b) : 2 ^ b = 2 ^ a * 2 ^ (b - a) := by rw [← Nat.pow_add]; congr 1; omega
theorem wb_lt2 {a b : Nat} (h : a < b) : 2 ^ a < 2 ^ b := Nat.pow_lt_pow_right (by decide) h
theorem wb_mod (n : Nat) : lN n = lN (n % 2 ^ 64) := wb_inj (by rw [wb_tb, wb_tb]; apply BitVec.eq_of_toNat_eq; rw [BitVec.toNat_ofNat, BitVec.toNat_ofNat, Nat.mod_mod])
theorem wb_shr {n k : Nat} (hn : n < 2 ^ 64) (hk : k < 64) : ((lN n).toUInt64 >>> ((nI k).toInt64.toUInt64 &&& Int64.toUInt64 63)).toInt64 = lN (n / 2 ^ k) := by
  rw [wb_cu k hk]
  apply wb_inj
  apply BitVec.eq_of_toNat_eq
  show ((lN n).toUInt64 >>> UInt64.ofNat k).toNat = (BitVec.ofNat 64 _).toNat
  have h1 : (UInt64.ofNat k).toNat = k := by
    show (BitVec.ofNat 64 k).toNat = k
    rw [BitVec.toNat_ofNat, Nat.mod_eq_of_lt (by omega)]
  have h2 : (lN n).toUInt64.toNat = n := wb_tn hn
  rw [UInt64.toNat_shiftRight, h1, h2, Nat.mod_eq_of_lt hk, Nat.shiftRight_eq_div_pow, BitVec.toNat_ofNat, Nat.mod_eq_of_lt (Nat.lt_of_le_of_lt (Nat.div_le_self _ _) hn)]
theorem wb_shl (n : Nat) {k : Nat} (hk : k < 64) : lN n <<< ((nI k).toInt64 &&& 63) = lN (n * 2 ^ k) := by
  rw [wb_c k hk]
  apply wb_inj
  rw [Int64.toBitVec_shiftLeft, wb_tb, wb_tb, wb_tb, wb_sm k hk]
  apply BitVec.eq_of_toNat_eq
  rw [BitVec.shiftLeft_eq', BitVec.toNat_shiftLeft, BitVec.toNat_ofNat, BitVec.toNat_ofNat, BitVec.toNat_ofNat, Nat.mod_eq_of_lt (show k < 2 ^ 64 by omega), Nat.shiftLeft_eq, Nat.mul_mod, Nat.mod_mod, ← Nat.mul_mod]
theorem wb_and {a b : Nat} (ha : a < 2 ^ 64) (hb : b < 2 ^ 64) : lN a &&& lN b = lN (a &&& b) := by
  apply wb_inj
  rw [Int64.toBitVec_and, wb_tb, wb_tb, wb_tb]
  apply BitVec.eq_of_toNat_eq
  rw [BitVec.toNat_and, BitVec.toNat_ofNat, BitVec.toNat_ofNat, BitVec.toNat_ofNat, Nat.mod_eq_of_lt ha, Nat.mod_eq_of_lt hb, Nat.mod_eq_of_lt (Nat.and_lt_two_pow _ hb)]
theorem wb_or {a b : Nat} (ha : a < 2 ^ 64) (hb : b < 2 ^ 64) : lN a ||| lN b = lN (a ||| b) := by
  apply wb_inj
  rw [Int64.toBitVec_or, wb_tb, wb_tb, wb_tb]
  apply BitVec.eq_of_toNat_eq
  rw [BitVec.toNat_or, BitVec.toNat_ofNat, BitVec.toNat_ofNat, BitVec.toNat_ofNat, Nat.mod_eq_of_lt ha, Nat.mod_eq_of_lt hb, Nat.mod_eq_of_lt (Nat.or_lt_two_pow ha hb)]
theorem wb_mask {n k : Nat} (hn : n < 2 ^ 64) (hk : k < 64) : lN n &&& lN (2 ^ k - 1) = lN (n % 2 ^ k) := by
  rw [wb_and hn (by have := wb_lt2 hk; omega), Nat.and_two_pow_sub_one_eq_mod]
/-! feed, the class's and the model's -/
def fd_b (N j : Nat) : Nat := N / 2 ^ (8 * j) % 256
theorem fd_bl (N j : Nat) : fd_b N j < 256 := Nat.mod_lt _ (by decide)
def fd_okb (b : Nat) : Bool := decide (b = 10) || (!decide (b < 32) && !decide (126 < b))
theorem fd_m8 : ∀ j, j < 8 → (Int8.ofInt 8).toInt32 * nI j = nI (8 * j) := by decide +kernel
theorem fd_tb {b : Nat} (h : b < 2 ^ 32) : (nI b).toBitVec.toNat = b := by
  show (BitVec.ofNat 32 b).toNat = b
  rw [BitVec.toNat_ofNat, Nat.mod_eq_of_lt h]
theorem fd_c2 {b : Nat} (h : b < 65536) : ((nI b).toUInt32 % 65536).toInt32 = nI b := by
  rw [pk_char, fd_tb (by omega), Nat.mod_eq_of_lt h]
theorem fd_vc {b : Nat} (h : b < 65536) : vp_nar .char (nI b) = nI b := by
  have := pk_vc (nI b)
  rwa [fd_c2 h] at this
theorem fd_cl {N j : Nat} (hN : N < 2 ^ 64) (hj : j < 8) : ((((lN N).toUInt64 >>> (((Int8.ofInt 8).toInt32 * nI j).toInt64.toUInt64 &&& Int64.toUInt64 63)).toInt64 &&& lN 255).toInt32.toUInt32 % 65536).toInt32 = nI (fd_b N j) := by
  rw [fd_m8 j hj, wb_shr hN (by omega), show lN 255 = lN (2 ^ 8 - 1) from rfl, wb_mask (Nat.lt_of_le_of_lt (Nat.div_le_self _ _) hN) (by decide), lN_i]
  exact fd_c2 (by have := fd_bl N j; unfold fd_b at this; omega)
theorem fd_ss {N s : Nat} (hs : s ≤ 56) : (BitVec.ofNat 64 N).sshiftRight s &&& BitVec.ofNat 64 255 = BitVec.ofNat 64 (N / 2 ^ s % 256) := by
  apply BitVec.eq_of_getLsbD_eq
  intro i hi
  rw [BitVec.getLsbD_and, BitVec.getLsbD_sshiftRight, BitVec.getLsbD_ofNat, BitVec.getLsbD_ofNat, BitVec.getLsbD_ofNat, show (255 : Nat) = 2 ^ 8 - 1 from rfl, Nat.testBit_two_pow_sub_one, show (256 : Nat) = 2 ^ 8 from rfl, Nat.testBit_mod_two_pow, Nat.testBit_div_two_pow]
  by_cases h8 : i < 8
  · have h1 : s + i < 64 := by omega
    have h2 : i + s = s + i := Nat.add_comm _ _
    simp [h8, h1, hi, h2, show ¬ 64 ≤ i by omega]
  · simp [h8]
theorem fd_md {N j : Nat} (hj : j < 8) : (lN N >>> (((Int8.ofInt 8).toInt32 * nI j).toInt64 &&& 63)) &&& lN 255 = lN (fd_b N j) := by
  rw [fd_m8 j hj, wb_c _ (by omega)]
  apply wb_inj
  rw [Int64.toBitVec_and, Int64.toBitVec_shiftRight, wb_tb, wb_tb, wb_tb, wb_tb, wb_sm _ (by omega)]
  show (BitVec.ofNat 64 N).sshiftRight (BitVec.ofNat 64 (8 * j)).toNat &&& _ = _
  rw [BitVec.toNat_ofNat, Nat.mod_eq_of_lt (by omega)]
  exact fd_ss (by omega)
theorem pb_eq {a b : Nat} (ha : a < 2 ^ 31) (hb : b < 2 ^ 31) : pm_c2 .eq (nI a) (nI b) = decide (a = b) := decide_eq_decide.mpr (nI_eq ha hb)
theorem pb_lt {a b : Nat} (ha : a < 2 ^ 31) (hb : b < 2 ^ 31) : pm_c2 .lt (nI a) (nI b) = decide (a < b) := decide_eq_decide.mpr (nI_ltI ha hb)
theorem pb_ge {a b : Nat} (ha : a < 2 ^ 31) (hb : b < 2 ^ 31) : pm_c2 .ge (nI a) (nI b) = decide (b ≤ a) := decide_eq_decide.mpr (nI_leI hb ha)
theorem pb_gt {a b : Nat} (ha : a < 2 ^ 31) (hb : b < 2 ^ 31) : pm_c2 .gt (nI a) (nI b) = decide (b < a) := decide_eq_decide.mpr (nI_ltI hb ha)
theorem pb_le {a b : Nat} (ha : a < 2 ^ 31) (hb : b < 2 ^ 31) : pm_c2 .le (nI a) (nI b) = decide (a ≤ b) := decide_eq_decide.mpr (nI_leI ha hb)
theorem pb_cmp {a b : Nat} (ha : a < 2 ^ 31) (hb : b < 2 ^ 31) : lg_cmp (lN a) (lN b) = if b < a then 1 else if a = b then 0 else -1 := by
  unfold lg_cmp
  have h1 : (lN a > lN b) ↔ b < a := lN_lt hb ha
  have h2 : (lN a = lN b) ↔ a = b := lN_eq ha hb
  simp only [h1, h2]
theorem pb_leq {a b : Nat} (ha : a < 2 ^ 31) (hb : b < 2 ^ 31) : pm_c0 .eq (lg_cmp (lN a) (lN b)) = decide (a = b) := by
  rw [pb_cmp ha hb]
  by_cases h1 : b < a
  · rw [if_pos h1, decide_eq_false (show ¬ a = b by omega)]; rfl
  · by_cases h2 : a = b
    · rw [if_neg h1, if_pos h2, decide_eq_true h2]; rfl
    · rw [if_neg h1, if_neg h2, decide_eq_false h2]; rfl
theorem pb_lle {a b : Nat} (ha : a < 2 ^ 31) (hb : b < 2 ^ 31) : pm_c0 .le (lg_cmp (lN a) (lN b)) = decide (a ≤ b) := by
  rw [pb_cmp ha hb]
  by_cases h1 : b < a
  · rw [if_pos h1, decide_eq_false (show ¬ a ≤ b by omega)]; rfl
  · rw [if_neg h1, decide_eq_true (show a ≤ b by omega)]
    by_cases h2 : a = b
    · rw [if_pos h2]; rfl
    · rw [if_neg h2]; rfl
theorem pb_lge {a b : Nat} (ha : a < 2 ^ 31) (hb : b < 2 ^ 31) : pm_c0 .ge (lg_cmp (lN a) (lN b)) = decide (b ≤ a) := by
  rw [pb_cmp ha hb]
  by_cases h1 : b < a
  · rw [if_pos h1, decide_eq_true (show b ≤ a by omega)]; rfl
  · by_cases h2 : a = b
    · rw [if_neg h1, if_pos h2, decide_eq_true (show b ≤ a by omega)]; rfl
    · rw [if_neg h1, if_neg h2, decide_eq_false (show ¬ b ≤ a by omega)]; rfl
theorem pb_inb {a n : Nat} (h : a < n) (hn : n < 2 ^ 31) : pm_inb (nI a) n = true := by
  unfold pm_inb
  rw [decide_eq_false (nI_pos (by omega)), nI_clamp (by omega)]
  exact Nat.ble_eq_true_of_le h
section FD1
variable {d mi pc : Nat} {L : pm_L} {S : List Value} {h : pm_H} {Q : Option Value → pm_H → Prop}
theorem px_rc {x : Int32} (hf : pm_fd (pm_code mi) pc = some .ireturn) (hrt : pm_rt mi = some .char) (hx : vp_nar .char x = x) (q : Q (some (.int x)) h) : px d mi pc L [.int x] h Q := by
  refine px_ret ?_ q
  unfold pm_step
  rw [hf]
  simp only [pm_push, pm_ari, pm_br, pm_sto, pm_read, pm_rd0, pm_cst, pm_write, pm_ret, hrt, if_pos hx]
theorem px_rb {x : Int32} (hf : pm_fd (pm_code mi) pc = some .ireturn) (hrt : pm_rt mi = some .boolean) (hx : x = 0 ∨ x = 1) (q : Q (some (.int x)) h) : px d mi pc L [.int x] h Q := by
  refine px_ret ?_ q
  unfold pm_step
  rw [hf]
  simp only [pm_push, pm_ari, pm_br, pm_sto, pm_read, pm_rd0, pm_cst, pm_write, pm_ret, hrt, if_pos hx]
theorem px_castore {a : Nat} {x j : Int32} (hf : pm_fd (pm_code mi) pc = some .castore) (ha : pm_isA pm_swA a 2 = true) (hj : pm_inb j (pm_sh pm_swA a).2 = true) (q : px d mi (pc + 1) L S (pm_setI h a j.toNatClampNeg (vp_nar .char x)) Q) : px d mi pc L (.int x :: .int j :: .ref a :: S) h Q := by
  refine px_st ?_ q
  unfold pm_step
  rw [hf]
  simp only [pm_push, pm_ari, pm_br, pm_sto, pm_read, pm_rd0, pm_cst, pm_write, ha, hj, Bool.and_self, cond_true, pm_ln]
end FD1
theorem fd_162 {d N j : Nat} {h : pm_H} {Q : Option Value → pm_H → Prop} (hN : N < 2 ^ 64) (hj : j < 8) (q : Q (some (.int (nI (fd_b N j)))) h) : px d 161 0 (lv_args 0 [.long (lN N), .int (nI j)]) [] h Q := by
  refine px_seg 9 (pc' := 12) (L' := lv_args 0 [.long (lN N), .int (nI j)]) (S' := [.int (((((lN N).toUInt64 >>> (((Int8.ofInt 8).toInt32 * nI j).toInt64.toUInt64 &&& Int64.toUInt64 63)).toInt64 &&& lN 255).toInt32.toUInt32 % 65536).toInt32)]) (h' := h) (fun _ => rfl) ?_
  rw [fd_cl hN hj]
  exact px_rc rfl rfl (fd_vc (by have := fd_bl N j; omega)) q
theorem fd_163 {d b : Nat} {h : pm_H} {Q : Option Value → pm_H → Prop} (hb : b < 256) (q : Q (some (.int (bif fd_okb b then 1 else 0))) h) : px d 162 0 (lv_args 0 [.int (nI b)]) [] h Q := by
  refine px_seg 3 (pc' := bif pm_c2 .eq (nI b) (nI 10) then 18 else 6) (L' := [(0, .int (nI b))]) (S' := []) (h' := h) (fun _ => rfl) ?_
  rw [pb_eq (by omega) (by decide)]
  unfold fd_okb at q
  cases h1 : decide (b = 10) with
  | true =>
    rw [h1] at q
    exact px_seg 2 (pc' := 23) (L' := [(0, .int (nI b))]) (S' := [.int 1]) (h' := h) (fun _ => rfl) (px_rb rfl rfl (Or.inr rfl) q)
  | false =>
    rw [h1] at q
    refine px_seg 3 (pc' := bif pm_c2 .lt (nI b) (nI 32) then 22 else 12) (L' := [(0, .int (nI b))]) (S' := []) (h' := h) (fun _ => rfl) ?_
    rw [pb_lt (by omega) (by decide)]
    cases h2 : decide (b < 32) with
    | true =>
      rw [h2] at q
      exact px_seg 1 (pc' := 23) (L' := [(0, .int (nI b))]) (S' := [.int 0]) (h' := h) (fun _ => rfl) (px_rb rfl rfl (Or.inl rfl) q)
    | false =>
      rw [h2] at q
      refine px_seg 3 (pc' := bif pm_c2 .gt (nI b) (nI 126) then 22 else 18) (L' := [(0, .int (nI b))]) (S' := []) (h' := h) (fun _ => rfl) ?_
      rw [pb_gt (by omega) (by decide)]
      cases h3 : decide (126 < b) with
      | true =>
        rw [h3] at q
        exact px_seg 1 (pc' := 23) (L' := [(0, .int (nI b))]) (S' := [.int 0]) (h' := h) (fun _ => rfl) (px_rb rfl rfl (Or.inl rfl) q)
      | false =>
        rw [h3] at q
        exact px_seg 2 (pc' := 23) (L' := [(0, .int (nI b))]) (S' := [.int 1]) (h' := h) (fun _ => rfl) (px_rb rfl rfl (Or.inr rfl) q)
end
section
/-- the class's feed, first loop -/
theorem fd_loop1 {d N m : Nat} {h : pm_H} {Q : Option Value → pm_H → Prop} (hN : N < 2 ^ 64) (hm : m ≤ 8)
    (qf : ∀ j, j < m → fd_okb (fd_b N j) = false → Q (some (.int 0)) h)
    (qt : (∀ j, j < m → fd_okb (fd_b N j) = true) → px (d + 1) 152 54 [(4, .int (nI m)), (0, .ref 0), (1, .long (lN N)), (3, .int (nI m))] [] h Q) :
    ∀ r k, k + r = m → (∀ j, j < k → fd_okb (fd_b N j) = true) → px (d + 1) 152 28 [(4, .int (nI k)), (0, .ref 0), (1, .long (lN N)), (3, .int (nI m))] [] h Q := by
  intro r
  induction r with
  | zero =>
    intro k hk hok
    have hk : k = m := by omega
    subst hk
    refine px_seg 3 (pc' := bif pm_c2 .ge (nI k) (nI k) then 54 else 34) (L' := [(4, .int (nI k)), (0, .ref 0), (1, .long (lN N)), (3, .int (nI k))]) (S' := []) (h' := h) (fun _ => rfl) ?_
    rw [pb_ge (by omega) (by omega), decide_eq_true (Nat.le_refl k)]
    exact qt hok
  | succ r ih =>
    intro k hk hok
    refine px_seg 3 (pc' := bif pm_c2 .ge (nI k) (nI m) then 54 else 34) (L' := [(4, .int (nI k)), (0, .ref 0), (1, .long (lN N)), (3, .int (nI m))]) (S' := []) (h' := h) (fun _ => rfl) ?_
    rw [pb_ge (by omega) (by omega), decide_eq_false (show ¬ m ≤ k by omega)]
    refine px_seg 2 (pc' := 37) (L' := [(4, .int (nI k)), (0, .ref 0), (1, .long (lN N)), (3, .int (nI m))]) (S' := [.int (nI k), .long (lN N)]) (h' := h) (fun _ => rfl) ?_
    refine px_call (mj := 161) (as := [.long (lN N), .int (nI k)]) (S' := []) rfl rfl (fd_162 hN (by omega) ?_)
    refine px_call (mj := 162) (as := [.int (nI (fd_b N k))]) (S' := []) rfl rfl (fd_163 (fd_bl N k) ?_)
    cases hb : fd_okb (fd_b N k) with
    | false =>
      refine px_seg 2 (pc' := 47) (L' := [(4, .int (nI k)), (0, .ref 0), (1, .long (lN N)), (3, .int (nI m))]) (S' := [.int 0]) (h' := h) (fun _ => rfl) ?_
      exact px_rb rfl rfl (Or.inl rfl) (qf k (by omega) hb)
    | true =>
      refine px_seg 3 (pc' := 28) (L' := [(4, .int (nI k + 1)), (0, .ref 0), (1, .long (lN N)), (3, .int (nI m))]) (S' := []) (h' := h) (fun _ => rfl) ?_
      rw [nI_1]
      refine ih (k + 1) (by omega) (fun j hj => ?_)
      by_cases e : j = k
      · subst e; exact hb
      · exact hok j (by omega)
theorem fd_dec (r : Nat) : nI r + Int32.ofInt (-1) = nI r - 1 := by
  rw [Int32.sub_eq_add_neg]
  rfl
/-- what a feed leaves of the ints: only the text and its length change, and the text stays made of chars -/
def fd_fr (I I' : Nat → Nat → Int32) : Prop := (∀ i, i ≠ 0 → i ≠ 1 → I' i = I i) ∧ (∀ j, j ≠ 1 → I' 0 j = I 0 j) ∧ (∀ j, I' 1 j = I 1 j ∨ ∃ b, b < 256 ∧ I' 1 j = nI b)
theorem fd_fr_rf (I : Nat → Nat → Int32) : fd_fr I I := ⟨fun _ _ _ => rfl, fun _ _ => rfl, fun _ => Or.inl rfl⟩
theorem fd_loop2 {d N m l : Nat} {J : Nat → Nat → Int64} {K : Option Nat} {T : Nat → Option Nat} {Q : Option Value → pm_H → Prop} (hN : N < 2 ^ 64) (hm : m ≤ 8) (hl : l + m ≤ 3000) (I0 : Nat → Nat → Int32)
    (q : ∀ I, I 0 1 = nI (l + m) → fd_fr I0 I → Q (some (.int 1)) (pg I J K T)) :
    ∀ r I, r ≤ m → I 0 1 = nI (l + (m - r)) → fd_fr I0 I → px (d + 1) 152 59 [(4, .int (nI r - 1)), (0, .ref 0), (1, .long (lN N)), (3, .int (nI m))] [] (pg I J K T) Q := by
  intro r
  induction r with
  | zero =>
    intro I hr hI hF
    refine px_seg 3 (pc' := 96) (L' := [(4, .int (nI 0 - 1)), (0, .ref 0), (1, .long (lN N)), (3, .int (nI m))]) (S' := [.int 1]) (h' := pg I J K T) (fun _ => rfl) ?_
    exact px_rb rfl rfl (Or.inr rfl) (q I hI hF)
  | succ r ih =>
    intro I hr hI hF
    rw [nI_pred]
    refine px_seg 2 (pc' := bif pm_c0 .lt (nI r) then 95 else 64) (L' := [(4, .int (nI r)), (0, .ref 0), (1, .long (lN N)), (3, .int (nI m))]) (S' := []) (h' := pg I J K T) (fun _ => rfl) ?_
    rw [show pm_c0 .lt (nI r) = false from decide_eq_false (nI_pos (by omega))]
    refine px_seg 6 (pc' := 75) (L' := [(4, .int (nI r)), (0, .ref 0), (1, .long (lN N)), (3, .int (nI m))]) (S' := [.int (nI r), .long (lN N), .int (I 0 1), .ref 1]) (h' := pg I J K T) (fun _ => rfl) ?_
    refine px_call (mj := 161) (as := [.long (lN N), .int (nI r)]) (S' := [.int (I 0 1), .ref 1]) rfl rfl (fd_162 hN (by omega) ?_)
    have hb := fd_bl N r
    refine px_castore (a := 1) (x := nI (fd_b N r)) (j := I 0 1) (S := []) rfl rfl (by rw [hI]; exact pb_inb (show l + (m - (r + 1)) < 3000 by omega) (by decide)) ?_
    rw [fd_vc (by omega), hI, nI_clamp (by omega)]
    refine px_seg 8 (pc' := 59) (L' := [(4, .int (nI r + Int32.ofInt (-1))), (0, .ref 0), (1, .long (lN N)), (3, .int (nI m))]) (S' := []) (h' := pg (va_up (va_up I 1 (va_up (I 1) (l + (m - (r + 1))) (nI (fd_b N r)))) 0 (va_up (I 0) 1 (I 0 1 + 1))) J K T) (fun _ => rfl) ?_
    rw [fd_dec]
    refine ih _ (by omega) ?_ ?_
    · rw [va_up_self, va_up_self, hI, nI_1]
      congr 1
      omega
    · obtain ⟨f1, f2, f3⟩ := hF
      refine ⟨fun i h0 h1 => ?_, fun j hj => ?_, fun j => ?_⟩
      · rw [va_up_ne _ _ h0, va_up_ne _ _ h1]
        exact f1 i h0 h1
      · rw [va_up_self, va_up_ne _ _ hj]
        exact f2 j hj
      · rw [va_up_ne _ _ (show (1 : Nat) ≠ 0 by decide), va_up_self]
        by_cases e : j = l + (m - (r + 1))
        · subst e
          rw [va_up_self]
          exact Or.inr ⟨_, hb, rfl⟩
        · rw [va_up_ne _ _ e]
          exact f3 j
/-- the feed is taken -/
def fd_B (N : Nat) (n : Int32) (l : Nat) : Prop := ∃ m, n = nI m ∧ 1 ≤ m ∧ m ≤ 8 ∧ l + m ≤ 3000 ∧ ∀ j, j < m → fd_okb (fd_b N j) = true
theorem fd_in {n : Int32} (h0 : ¬ n < 1) (h8 : ¬ (8 : Int32) < n) : ∃ m, n = nI m ∧ 1 ≤ m ∧ m ≤ 8 := by
  have h1 : ¬ n < 0 := by
    intro z
    rw [Int32.lt_iff_toInt_lt] at z h0
    have e0 : (0 : Int32).toInt = 0 := by decide
    have e1 : (1 : Int32).toInt = 1 := by decide
    omega
  have h2 : n ≤ 8 := Int32.not_lt.mp h8
  obtain ⟨m, hm, rfl⟩ := nI_of2 (n := 8) (M := 8) (by decide) h1 h2
  refine ⟨m, rfl, ?_, hm⟩
  rcases Nat.eq_zero_or_pos m with e | e
  · subst e
    exact absurd (by decide : nI 0 < 1) h0
  · exact e
theorem fd_out {N l : Nat} {n : Int32} (h : n < 1 ∨ (8 : Int32) < n) : ¬ fd_B N n l := by
  rintro ⟨m, rfl, h1, h2, -, -⟩
  rcases h with h | h
  · exact absurd h (nI_nlt (a := m) (b := 1) h1 (by omega))
  · exact absurd h (nI_nlt (a := 8) (b := m) h2 (by omega))
theorem fd_153 {d N l : Nat} {n : Int32} {I : Nat → Nat → Int32} {J : Nat → Nat → Int64} {K : Option Nat} {T : Nat → Option Nat} {Q : Option Value → pm_H → Prop} (hN : N < 2 ^ 64) (hl : l ≤ 3000) (hI : I 0 1 = nI l)
    (q0 : ¬ fd_B N n l → Q (some (.int 0)) (pg I J K T))
    (q1 : ∀ m I', n = nI m → fd_B N n l → I' 0 1 = nI (l + m) → fd_fr I I' → Q (some (.int 1)) (pg I' J K T)) : px (d + 1) 152 0 (lv_args 0 [.ref 0, .long (lN N), .int n]) [] (pg I J K T) Q := by
  refine px_seg 3 (pc' := bif pm_c2 .lt n 1 then 23 else 5) (L' := [(0, .ref 0), (1, .long (lN N)), (3, .int n)]) (S' := []) (h' := pg I J K T) (fun _ => rfl) ?_
  have e0 : ¬ fd_B N n l → px (d + 1) 152 23 [(0, .ref 0), (1, .long (lN N)), (3, .int n)] [] (pg I J K T) Q := fun hB => px_seg 1 (pc' := 24) (L' := [(0, .ref 0), (1, .long (lN N)), (3, .int n)]) (S' := [.int 0]) (h' := pg I J K T) (fun _ => rfl) (px_rb rfl rfl (Or.inl rfl) (q0 hB))
  by_cases h0 : n < 1
  · rw [show pm_c2 .lt n 1 = true from decide_eq_true h0]
    exact e0 (fd_out (Or.inl h0))
  rw [show pm_c2 .lt n 1 = false from decide_eq_false h0]
  refine px_seg 3 (pc' := bif pm_c2 .gt n 8 then 23 else 11) (L' := [(0, .ref 0), (1, .long (lN N)), (3, .int n)]) (S' := []) (h' := pg I J K T) (fun _ => rfl) ?_
  by_cases h8 : (8 : Int32) < n
  · rw [show pm_c2 .gt n 8 = true from decide_eq_true h8]
    exact e0 (fd_out (Or.inr h8))
  rw [show pm_c2 .gt n 8 = false from decide_eq_false h8]
  obtain ⟨m, rfl, m1, m8⟩ := fd_in h0 h8
  refine px_seg 6 (pc' := bif pm_c2 .le (I 0 1 + nI m) (nI 3000) then 25 else 23) (L' := [(0, .ref 0), (1, .long (lN N)), (3, .int (nI m))]) (S' := []) (h' := pg I J K T) (fun _ => rfl) ?_
  rw [hI, nI_add, pb_le (by omega) (by decide)]
  by_cases h3 : l + m ≤ 3000
  · rw [decide_eq_true h3]
    refine px_seg 2 (pc' := 28) (L' := [(4, .int (nI 0)), (0, .ref 0), (1, .long (lN N)), (3, .int (nI m))]) (S' := []) (h' := pg I J K T) (fun _ => rfl) ?_
    refine fd_loop1 hN m8 (fun j hj hb => q0 ?_) (fun hall => ?_) m 0 (by omega) (fun j hj => absurd hj (by omega))
    · rintro ⟨m2, e, -, a1, -, hall⟩
      have := (nI_eq (a := m) (b := m2) (by omega) (by omega)).mp e
      subst this
      rw [hall j hj] at hb
      cases hb
    · refine px_seg 4 (pc' := 59) (L' := [(4, .int (nI m - 1)), (0, .ref 0), (1, .long (lN N)), (3, .int (nI m))]) (S' := []) (h' := pg I J K T) (fun _ => rfl) ?_
      exact fd_loop2 hN m8 h3 I (fun I' e F => q1 m I' rfl ⟨m, rfl, m1, m8, h3, hall⟩ e F) m I (Nat.le_refl m) (by rw [hI]; congr 1; omega) (fd_fr_rf I)
  · rw [decide_eq_false h3]
    refine e0 ?_
    rintro ⟨m2, e, -, a1, a2, -⟩
    have := (nI_eq (a := m) (b := m2) (by omega) (by omega)).mp e
    omega
end
section
/-- what a feed leaves of the model's ints -/
def fm_fr (I I' : Nat → Nat → Int32) : Prop := (∀ i, i ≠ 39 → i ≠ 40 → I' i = I i) ∧ (∀ j, j ≠ 0 → j ≠ 3 → I' 39 j = I 39 j) ∧ (∀ j, I' 40 j = I 40 j ∨ ∃ b, b < 256 ∧ I' 40 j = nI b)
theorem fm_fr_rf (I : Nat → Nat → Int32) : fm_fr I I := ⟨fun _ _ _ => rfl, fun _ _ _ => rfl, fun _ => Or.inl rfl⟩
theorem fm_fr_39 {I I' : Nat → Nat → Int32} (h : fm_fr I I') {k : Nat} (hk : k = 0 ∨ k = 3) (v : Int32) : fm_fr I (va_up I' 39 (va_up (I' 39) k v)) := by
  obtain ⟨f1, f2, f3⟩ := h
  refine ⟨fun i h0 h1 => ?_, fun j h0 h3 => ?_, fun j => ?_⟩
  · rw [va_up_ne _ _ h0]
    exact f1 i h0 h1
  · rw [va_up_self, va_up_ne _ _ (show j ≠ k by omega)]
    exact f2 j h0 h3
  · rw [va_up_ne _ _ (show (40 : Nat) ≠ 39 by decide)]
    exact f3 j
theorem fm_sub {m k : Nat} (h : k < m) : nI m - 1 - nI k = nI (m - 1 - k) := by
  rw [show (1 : Int32) = nI 1 from rfl, pk_sub (by omega), pk_sub (by omega)]
abbrev fm_bs (N : Nat) (n : Int32) : pm_L := [(0, .ref 39), (1, .long (lN N)), (3, .int n)]
abbrev fm_X (X : pm_L) : Prop := X = [] ∨ ∃ c, X = [(6, .long c)]
section FM1
variable {d N m l : Nat} {n : Int32} {I : Nat → Nat → Int32} {J : Nat → Nat → Int64} {K : Option Nat} {T : Nat → Option Nat} {Q : Option Value → pm_H → Prop}
theorem fm_end0 {X : pm_L} (hX : fm_X X) (k : Int32) (q : Q (some (.int 0)) (pg (va_up I 39 (va_up (I 39) 3 (I 39 3))) J K T)) : px d 1 101 ((5, .int k) :: (4, .int 0) :: (X ++ fm_bs N n)) [] (pg I J K T) Q := by
  have e : px d 1 150 ((5, .int (nI 0)) :: (4, .int 0) :: (X ++ fm_bs N n)) [] (pg I J K T) Q := by
    rcases hX with rfl | ⟨c, rfl⟩
    · exact px_seg 7 (pc' := 174) (L' := [(5, .int (nI 0)), (4, .int 0), (0, .ref 39), (1, .long (lN N)), (3, .int n)]) (S' := [.int 0]) (h' := pg (va_up I 39 (va_up (I 39) 3 (I 39 3))) J K T) (fun _ => rfl) (px_rb rfl rfl (Or.inl rfl) q)
    · exact px_seg 7 (pc' := 174) (L' := [(5, .int (nI 0)), (4, .int 0), (6, .long c), (0, .ref 39), (1, .long (lN N)), (3, .int n)]) (S' := [.int 0]) (h' := pg (va_up I 39 (va_up (I 39) 3 (I 39 3))) J K T) (fun _ => rfl) (px_rb rfl rfl (Or.inl rfl) q)
  refine px_seg 5 (pc' := bif pm_c2 .ge (nI 0) n then 150 else 110) (L' := (5, .int (nI 0)) :: (4, .int 0) :: (X ++ fm_bs N n)) (S' := []) (h' := pg I J K T) (fun _ => by rcases hX with rfl | ⟨c, rfl⟩ <;> rfl) ?_
  cases pm_c2 .ge (nI 0) n with
  | true => exact e
  | false => exact px_seg 2 (pc' := 150) (L' := (5, .int (nI 0)) :: (4, .int 0) :: (X ++ fm_bs N n)) (S' := []) (h' := pg I J K T) (fun _ => by rcases hX with rfl | ⟨c, rfl⟩ <;> rfl) e
theorem fm_l0 {X : pm_L} (hX : fm_X X) (k : Int32) (q : px d 1 101 ((5, .int k) :: (4, .int 0) :: (X ++ fm_bs N n)) [] (pg I J K T) Q) : px d 1 37 ((5, .int k) :: (4, .int 0) :: (X ++ fm_bs N n)) [] (pg I J K T) Q := by
  refine px_seg 3 (pc' := bif pm_c2 .ge k n then 101 else 43) (L' := (5, .int k) :: (4, .int 0) :: (X ++ fm_bs N n)) (S' := []) (h' := pg I J K T) (fun _ => by rcases hX with rfl | ⟨c, rfl⟩ <;> rfl) ?_
  cases pm_c2 .ge k n with
  | true => exact q
  | false => exact px_seg 2 (pc' := 101) (L' := (5, .int k) :: (4, .int 0) :: (X ++ fm_bs N n)) (S' := []) (h' := pg I J K T) (fun _ => by rcases hX with rfl | ⟨c, rfl⟩ <;> rfl) q
theorem fm_loop2 {X : pm_L} (hX : fm_X X) (hm : m ≤ 8) (hl : l + m ≤ 3000) (I0 : Nat → Nat → Int32)
    (q : ∀ I, I 39 3 = nI (l + m) → fm_fr I0 I → Q (some (.int 1)) (pg I J K T)) :
    ∀ r k I, k + r = m → I 39 3 = nI l → fm_fr I0 I → px d 1 104 ((5, .int (nI k)) :: (4, .int 1) :: (X ++ fm_bs N (nI m))) [] (pg I J K T) Q := by
  intro r
  induction r with
  | zero =>
    intro k I hk hI hF
    have hk : k = m := by omega
    subst hk
    refine px_seg 3 (pc' := bif pm_c2 .ge (nI k) (nI k) then 150 else 110) (L' := (5, .int (nI k)) :: (4, .int 1) :: (X ++ fm_bs N (nI k))) (S' := []) (h' := pg I J K T) (fun _ => by rcases hX with rfl | ⟨c, rfl⟩ <;> rfl) ?_
    rw [pb_ge (by omega) (by omega), decide_eq_true (Nat.le_refl k)]
    refine px_seg 10 (pc' := 174) (L' := (5, .int (nI k)) :: (4, .int 1) :: (X ++ fm_bs N (nI k))) (S' := [.int 1]) (h' := pg (va_up I 39 (va_up (I 39) 3 (I 39 3 + nI k))) J K T) (fun _ => by rcases hX with rfl | ⟨c, rfl⟩ <;> rfl) ?_
    exact px_rb rfl rfl (Or.inr rfl) (q _ (by rw [va_up_self, va_up_self, hI, nI_add]) (fm_fr_39 hF (Or.inr rfl) _))
  | succ r ih =>
    intro k I hk hI hF
    refine px_seg 3 (pc' := bif pm_c2 .ge (nI k) (nI m) then 150 else 110) (L' := (5, .int (nI k)) :: (4, .int 1) :: (X ++ fm_bs N (nI m))) (S' := []) (h' := pg I J K T) (fun _ => by rcases hX with rfl | ⟨c, rfl⟩ <;> rfl) ?_
    rw [pb_ge (by omega) (by omega), decide_eq_false (show ¬ m ≤ k by omega)]
    refine px_seg 21 (pc' := 143) (L' := (5, .int (nI k)) :: (4, .int 1) :: (X ++ fm_bs N (nI m))) (S' := [.int ((((lN N >>> (((Int8.ofInt 8).toInt32 * (nI m - 1 - nI k)).toInt64 &&& 63)) &&& lN 255).toInt32.toUInt32 % 65536).toInt32), .int (I 39 3 + nI k), .ref 40]) (h' := pg I J K T) (fun _ => by rcases hX with rfl | ⟨c, rfl⟩ <;> rfl) ?_
    have hb := fd_bl N (m - 1 - k)
    rw [fm_sub (by omega), fd_md (by omega), lN_i, fd_c2 (by omega), hI, nI_add]
    refine px_castore (a := 40) (x := nI (fd_b N (m - 1 - k))) (j := nI (l + k)) (S := []) rfl rfl (pb_inb (show l + k < 3000 by omega) (by decide)) ?_
    rw [fd_vc (by omega), nI_clamp (by omega)]
    refine px_seg 2 (pc' := 104) (L' := (5, .int (nI k + 1)) :: (4, .int 1) :: (X ++ fm_bs N (nI m))) (S' := []) (h' := pg (va_up I 40 (va_up (I 40) (l + k) (nI (fd_b N (m - 1 - k))))) J K T) (fun _ => by rcases hX with rfl | ⟨c, rfl⟩ <;> rfl) ?_
    rw [nI_1]
    refine ih (k + 1) _ (by omega) ?_ ?_
    · rw [va_up_ne _ _ (show (39 : Nat) ≠ 40 by decide), hI]
    · obtain ⟨f1, f2, f3⟩ := hF
      refine ⟨fun i h0 h1 => ?_, fun j h0 h3 => ?_, fun j => ?_⟩
      · rw [va_up_ne _ _ h1]
        exact f1 i h0 h1
      · rw [va_up_ne _ _ (show (39 : Nat) ≠ 40 by decide)]
        exact f2 j h0 h3
      · rw [va_up_self]
        by_cases e : j = l + k
        · subst e
          rw [va_up_self]
          exact Or.inr ⟨_, hb, rfl⟩
        · rw [va_up_ne _ _ e]
          exact f3 j
theorem fm_loop1 (hm : m ≤ 8) (qf : ∀ j, j < m → fd_okb (fd_b N j) = false → ∀ X k, fm_X X → px d 1 101 ((5, .int k) :: (4, .int 0) :: (X ++ fm_bs N (nI m))) [] (pg I J K T) Q)
    (qt : (∀ j, j < m → fd_okb (fd_b N j) = true) → ∀ X k, fm_X X → px d 1 101 ((5, .int k) :: (4, .int 1) :: (X ++ fm_bs N (nI m))) [] (pg I J K T) Q) :
    ∀ r k X, k + r = m → fm_X X → (∀ j, j < k → fd_okb (fd_b N j) = true) → px d 1 37 ((5, .int (nI k)) :: (4, .int 1) :: (X ++ fm_bs N (nI m))) [] (pg I J K T) Q := by
  intro r
  induction r with
  | zero =>
    intro k X hk hX hok
    have hk : k = m := by omega
    subst hk
    refine px_seg 3 (pc' := bif pm_c2 .ge (nI k) (nI k) then 101 else 43) (L' := (5, .int (nI k)) :: (4, .int 1) :: (X ++ fm_bs N (nI k))) (S' := []) (h' := pg I J K T) (fun _ => by rcases hX with rfl | ⟨c, rfl⟩ <;> rfl) ?_
    rw [pb_ge (by omega) (by omega), decide_eq_true (Nat.le_refl k)]
    exact qt hok X _ hX
  | succ r ih =>
    intro k X hk hX hok
    refine px_seg 3 (pc' := bif pm_c2 .ge (nI k) (nI m) then 101 else 43) (L' := (5, .int (nI k)) :: (4, .int 1) :: (X ++ fm_bs N (nI m))) (S' := []) (h' := pg I J K T) (fun _ => by rcases hX with rfl | ⟨c, rfl⟩ <;> rfl) ?_
    rw [pb_ge (by omega) (by omega), decide_eq_false (show ¬ m ≤ k by omega)]
    refine px_seg 9 (pc' := 59) (L' := (5, .int (nI k)) :: (4, .int 1) :: (X ++ fm_bs N (nI m))) (S' := [.long ((lN N >>> (((Int8.ofInt 8).toInt32 * nI k).toInt64 &&& 63)) &&& lN 255)]) (h' := pg I J K T) (fun _ => by rcases hX with rfl | ⟨c, rfl⟩ <;> rfl) ?_
    rw [fd_md (by omega)]
    have hb := fd_bl N k
    have hbad : fd_okb (fd_b N k) = false → px d 1 92 ((6, .long (lN (fd_b N k))) :: (5, .int (nI k)) :: (4, .int 1) :: fm_bs N (nI m)) [] (pg I J K T) Q := fun hf => by
      refine px_seg 4 (pc' := 37) (L' := (5, .int (nI k + 1)) :: (4, .int 0) :: ([(6, .long (lN (fd_b N k)))] ++ fm_bs N (nI m))) (S' := []) (h' := pg I J K T) (fun _ => rfl) ?_
      exact fm_l0 (Or.inr ⟨_, rfl⟩) _ (qf k (by omega) hf _ _ (Or.inr ⟨_, rfl⟩))
    have hgood : fd_okb (fd_b N k) = true → px d 1 88 ((6, .long (lN (fd_b N k))) :: (5, .int (nI k)) :: (4, .int 1) :: fm_bs N (nI m)) [] (pg I J K T) Q := fun hf => by
      refine px_seg 5 (pc' := 37) (L' := (5, .int (nI k + 1)) :: (4, .int 1) :: ([(6, .long (lN (fd_b N k)))] ++ fm_bs N (nI m))) (S' := []) (h' := pg I J K T) (fun _ => rfl) ?_
      rw [nI_1]
      refine ih (k + 1) _ (by omega) (Or.inr ⟨_, rfl⟩) (fun j hj => ?_)
      by_cases e : j = k
      · subst e; exact hf
      · exact hok j (by omega)
    refine px_seg 5 (pc' := bif pm_c0 .eq (lg_cmp (lN (fd_b N k)) (lN 10)) then 88 else 70) (L' := (6, .long (lN (fd_b N k))) :: (5, .int (nI k)) :: (4, .int 1) :: fm_bs N (nI m)) (S' := []) (h' := pg I J K T) (fun _ => by rcases hX with rfl | ⟨c, rfl⟩ <;> rfl) ?_
    rw [pb_leq (by omega) (by decide)]
    by_cases h1 : fd_b N k = 10
    · rw [decide_eq_true h1]
      exact hgood (by unfold fd_okb; rw [decide_eq_true h1]; rfl)
    rw [decide_eq_false h1]
    refine px_seg 4 (pc' := bif pm_c0 .le (lg_cmp (lN (fd_b N k)) (lN 31)) then 92 else 79) (L' := (6, .long (lN (fd_b N k))) :: (5, .int (nI k)) :: (4, .int 1) :: fm_bs N (nI m)) (S' := []) (h' := pg I J K T) (fun _ => rfl) ?_
    rw [pb_lle (by omega) (by decide)]
    by_cases h2 : fd_b N k ≤ 31
    · rw [decide_eq_true h2]
      exact hbad (by unfold fd_okb; rw [decide_eq_false h1, decide_eq_true (show fd_b N k < 32 by omega)]; rfl)
    rw [decide_eq_false h2]
    refine px_seg 4 (pc' := bif pm_c0 .ge (lg_cmp (lN (fd_b N k)) (lN 127)) then 92 else 88) (L' := (6, .long (lN (fd_b N k))) :: (5, .int (nI k)) :: (4, .int 1) :: fm_bs N (nI m)) (S' := []) (h' := pg I J K T) (fun _ => rfl) ?_
    rw [pb_lge (by omega) (by decide)]
    by_cases h3 : 127 ≤ fd_b N k
    · rw [decide_eq_true h3]
      exact hbad (by unfold fd_okb; rw [decide_eq_false h1, decide_eq_false (show ¬ fd_b N k < 32 by omega), decide_eq_true (show 126 < fd_b N k by omega)]; rfl)
    rw [decide_eq_false h3]
    exact hgood (by unfold fd_okb; rw [decide_eq_false h1, decide_eq_false (show ¬ fd_b N k < 32 by omega), decide_eq_false (show ¬ 126 < fd_b N k by omega)]; rfl)
/-- the model's feed -/
theorem fm_2 (hl : l ≤ 3000) (hI : I 39 3 = nI l)
    (q0 : ∀ I', ¬ fd_B N n l → I' 39 3 = nI l → fm_fr I I' → Q (some (.int 0)) (pg I' J K T))
    (q1 : ∀ m I', n = nI m → fd_B N n l → I' 39 3 = nI (l + m) → fm_fr I I' → Q (some (.int 1)) (pg I' J K T)) : px d 1 0 (lv_args 0 [.ref 39, .long (lN N), .int n]) [] (pg I J K T) Q := by
  have hF1 : fm_fr I (va_up I 39 (va_up (I 39) 0 0)) := fm_fr_39 (fm_fr_rf I) (Or.inl rfl) 0
  have hI1 : (va_up I 39 (va_up (I 39) 0 0)) 39 3 = nI l := by rw [va_up_self, va_up_ne _ _ (show (3 : Nat) ≠ 0 by decide), hI]
  refine px_seg 5 (pc' := bif pm_c0 .le n then 31 else 9) (L' := fm_bs N n) (S' := []) (h' := pg (va_up I 39 (va_up (I 39) 0 0)) J K T) (fun _ => rfl) ?_
  generalize hIe : va_up I 39 (va_up (I 39) 0 0) = I1 at hF1 hI1 ⊢
  have e0 : ∀ X k, fm_X X → ¬ fd_B N n l → px d 1 101 ((5, .int k) :: (4, .int 0) :: (X ++ fm_bs N n)) [] (pg I1 J K T) Q := fun X k hX hB => fm_end0 hX k (q0 _ hB (by rw [va_up_self, va_up_self, hI1]) (fm_fr_39 hF1 (Or.inr rfl) _))
  have e1 : ¬ fd_B N n l → px d 1 31 (fm_bs N n) [] (pg I1 J K T) Q := fun hB => px_seg 4 (pc' := 37) (L' := (5, .int 0) :: (4, .int 0) :: ([] ++ fm_bs N n)) (S' := []) (h' := pg I1 J K T) (fun _ => rfl) (fm_l0 (Or.inl rfl) _ (e0 _ _ (Or.inl rfl) hB))
  by_cases h0 : n < 1
  · have h0' : n ≤ 0 := by
      rw [Int32.lt_iff_toInt_lt] at h0
      rw [Int32.le_iff_toInt_le]
      have e0 : (0 : Int32).toInt = 0 := by decide
      have e1 : (1 : Int32).toInt = 1 := by decide
      omega
    rw [show pm_c0 .le n = true from decide_eq_true h0']
    exact e1 (fd_out (Or.inl h0))
  have h0' : ¬ n ≤ 0 := by
    rw [Int32.lt_iff_toInt_lt] at h0
    rw [Int32.le_iff_toInt_le]
    have e0 : (0 : Int32).toInt = 0 := by decide
    have e1 : (1 : Int32).toInt = 1 := by decide
    omega
  rw [show pm_c0 .le n = false from decide_eq_false h0']
  refine px_seg 3 (pc' := bif pm_c2 .ge n 9 then 31 else 15) (L' := fm_bs N n) (S' := []) (h' := pg I1 J K T) (fun _ => rfl) ?_
  by_cases h8 : (8 : Int32) < n
  · have h8' : (9 : Int32) ≤ n := by
      rw [Int32.lt_iff_toInt_lt] at h8
      rw [Int32.le_iff_toInt_le]
      have e0 : (8 : Int32).toInt = 8 := by decide
      have e1 : (9 : Int32).toInt = 9 := by decide
      omega
    rw [show pm_c2 .ge n 9 = true from decide_eq_true h8']
    exact e1 (fd_out (Or.inr h8))
  have h8' : ¬ (9 : Int32) ≤ n := by
    rw [Int32.lt_iff_toInt_lt] at h8
    rw [Int32.le_iff_toInt_le]
    have e0 : (8 : Int32).toInt = 8 := by decide
    have e1 : (9 : Int32).toInt = 9 := by decide
    omega
  rw [show pm_c2 .ge n 9 = false from decide_eq_false h8']
  obtain ⟨m, rfl, m1, m8⟩ := fd_in h0 h8
  refine px_seg 6 (pc' := bif pm_c2 .gt (I1 39 3 + nI m) (nI 3000) then 31 else 27) (L' := fm_bs N (nI m)) (S' := []) (h' := pg I1 J K T) (fun _ => rfl) ?_
  rw [hI1, nI_add, pb_gt (by omega) (by decide)]
  by_cases h3 : 3000 < l + m
  · rw [decide_eq_true h3]
    refine e1 ?_
    rintro ⟨m2, e, -, a1, a2, -⟩
    have := (nI_eq (a := m) (b := m2) (by omega) (by omega)).mp e
    omega
  rw [decide_eq_false h3]
  refine px_seg 5 (pc' := 37) (L' := (5, .int (nI 0)) :: (4, .int 1) :: ([] ++ fm_bs N (nI m))) (S' := []) (h' := pg I1 J K T) (fun _ => rfl) ?_
  refine fm_loop1 m8 (fun j hj hb X k hX => e0 X k hX ?_) (fun hall X k hX => ?_) m 0 [] (by omega) (Or.inl rfl) (fun j hj => absurd hj (by omega))
  · rintro ⟨m2, e, -, a1, -, hall⟩
    have := (nI_eq (a := m) (b := m2) (by omega) (by omega)).mp e
    subst this
    rw [hall j hj] at hb
    cases hb
  · refine px_seg 2 (pc' := 104) (L' := (5, .int (nI 0)) :: (4, .int 1) :: (X ++ fm_bs N (nI m))) (S' := []) (h' := pg I1 J K T) (fun _ => by rcases hX with rfl | ⟨c, rfl⟩ <;> rfl) ?_
    exact fm_loop2 hX m8 (by omega) I (fun I' e F => q1 m I' rfl ⟨m, rfl, m1, m8, by omega, hall⟩ e F) m 0 I1 (by omega) hI1 hF1
end FM1
end
section
/-! A calculus over the pure machine: ints and longs as whole numbers; what must hold before a piece of code is computed from the code -/
abbrev zv : Type := Int ⊕ (Int ⊕ Nat)
abbrev zF : Type := Nat → Nat → Int
abbrev zM : Type := List (Option zv)
abbrev zT : Type := Nat → Option Nat
/-- the heap: the class's ints, the model's ints, longs, the parser's kind, the tokens' kinds -/
abbrev zh : Type := zF × zF × zF × Nat × zT
def zV (v : zv) : Value := match v with
  | .inl n => .int (Int32.ofInt n)
  | .inr (.inl n) => .long (Int64.ofInt n)
  | .inr (.inr r) => .ref r
def zu (f : zF) (a k : Nat) (v : Int) : zF := fun i j => bif Nat.beq i a && Nat.beq j k then v else f i j
def zua (f : zF) (a : Nat) (g : Nat → Int) : zF := fun i j => bif Nat.beq i a then g j else f i j
def zut (T : zT) (k r : Nat) : zT := fun j => bif Nat.beq j k then some r else T j
def zrd (h : zh) (a k : Nat) : Int := bif Nat.blt a 39 then h.1 a k else h.2.1 a k
def zc (h : zh) : pm_H := (fun i j => Int32.ofInt (zrd h i j), fun i j => Int64.ofInt (h.2.2.1 i j), pg_r (some h.2.2.2.1) h.2.2.2.2)
def zwr (h : zh) (a k : Nat) (v : Int) : zh := bif Nat.blt a 39 then (zu h.1 a k v, h.2.1, h.2.2.1, h.2.2.2.1, h.2.2.2.2) else (h.1, zu h.2.1 a k v, h.2.2.1, h.2.2.2.1, h.2.2.2.2)
def zwa (h : zh) (a : Nat) (g : Nat → Int) : zh := bif Nat.blt a 39 then (zua h.1 a g, h.2.1, h.2.2.1, h.2.2.2.1, h.2.2.2.2) else (h.1, zua h.2.1 a g, h.2.2.1, h.2.2.2.1, h.2.2.2.2)
def zat : zM → Nat → Option zv
  | [], _ => none
  | x :: _, 0 => x
  | _ :: M, k + 1 => zat M k
def zset : zM → Nat → Option zv → zM
  | [], _, _ => []
  | _ :: M, 0, v => v :: M
  | x :: M, k + 1, v => x :: zset M k v
def zisl (v : Option zv) : Bool := match v with
  | some (.inr (.inl _)) => true
  | _ => false
def zkl (M : zM) (k : Nat) : zM := match k with
  | 0 => M
  | k + 1 => bif zisl (zat M k) then zset M k none else M
def zst1 (M : zM) (k : Nat) (v : zv) : zM := zset (zkl M k) k (some v)
def zst2 (M : zM) (k : Nat) (v : zv) : zM := zset (zset (zkl M k) (k + 1) none) k (some v)
def zfor : List Nat → zM → zM
  | [], M => M
  | k :: F, M => zfor F (zset M k none)
def znone : Nat → zM
  | 0 => []
  | n + 1 => none :: znone n
def zarg : Nat → List zv → zM
  | n, [] => znone n
  | n, v :: vs => some v :: (bif zisl (some v) then none :: zarg (n - 2) vs else zarg (n - 1) vs)
def zcat (v : zv) : Nat := match v with
  | .inr (.inl _) => 2
  | _ => 1
def zcats : List zv → Nat
  | [] => 0
  | v :: S => zcat v + zcats S
/-- the steps without any condition -/
def zstep (i : Instr) (mx pc : Nat) (M : zM) (S : List zv) : Option (Nat × zM × List zv) := match i with
  | .iconst n => some (pc + 1, M, .inl n :: S)
  | .bipush n => bif decide (-128 ≤ n) && decide (n < 128) then some (pc + 2, M, .inl n :: S) else none
  | .sipush n => bif decide (-32768 ≤ n) && decide (n < 32768) then some (pc + 3, M, .inl n :: S) else none
  | .lconst n => some (pc + 1, M, .inr (.inl ((n : Nat) : Int)) :: S)
  | .iload_n k => match zat M k with
    | some (.inl x) => some (pc + 1, M, .inl x :: S)
    | _ => none
  | .iload k => match zat M k with
    | some (.inl x) => some (pc + 2, M, .inl x :: S)
    | _ => none
  | .lload_n k => match zat M k with
    | some (.inr (.inl x)) => some (pc + 1, M, .inr (.inl x) :: S)
    | _ => none
  | .lload k => match zat M k with
    | some (.inr (.inl x)) => some (pc + 2, M, .inr (.inl x) :: S)
    | _ => none
  | .aload_n k => match zat M k with
    | some (.inr (.inr x)) => some (pc + 1, M, .inr (.inr x) :: S)
    | _ => none
  | .aload k => match zat M k with
    | some (.inr (.inr x)) => some (pc + 2, M, .inr (.inr x) :: S)
    | _ => none
  | .istore_n k => match S with
    | .inl x :: S' => bif Nat.blt k mx then some (pc + 1, zst1 M k (.inl x), S') else none
    | _ => none
  | .istore k => match S with
    | .inl x :: S' => bif Nat.blt k mx then some (pc + 2, zst1 M k (.inl x), S') else none
    | _ => none
  | .astore_n k => match S with
    | .inr (.inr x) :: S' => bif Nat.blt k mx then some (pc + 1, zst1 M k (.inr (.inr x)), S') else none
    | _ => none
  | .astore k => match S with
    | .inr (.inr x) :: S' => bif Nat.blt k mx then some (pc + 2, zst1 M k (.inr (.inr x)), S') else none
    | _ => none
  | .lstore_n k => match S with
    | .inr (.inl x) :: S' => bif Nat.blt (k + 1) mx then some (pc + 1, zst2 M k (.inr (.inl x)), S') else none
    | _ => none
  | .lstore k => match S with
    | .inr (.inl x) :: S' => bif Nat.blt (k + 1) mx then some (pc + 2, zst2 M k (.inr (.inl x)), S') else none
    | _ => none
  | .iinc k n => match zat M k with
    | some (.inl x) => bif Nat.blt k mx then some (pc + 3, zst1 M k (.inl (x + n)), S) else none
    | _ => none
  | .iadd => match S with
    | .inl y :: .inl x :: S' => some (pc + 1, M, .inl (x + y) :: S')
    | _ => none
  | .isub => match S with
    | .inl y :: .inl x :: S' => some (pc + 1, M, .inl (x - y) :: S')
    | _ => none
  | .imul => match S with
    | .inl y :: .inl x :: S' => some (pc + 1, M, .inl (x * y) :: S')
    | _ => none
  | .ineg => match S with
    | .inl x :: S' => some (pc + 1, M, .inl (-x) :: S')
    | _ => none
  | .ladd => match S with
    | .inr (.inl y) :: .inr (.inl x) :: S' => some (pc + 1, M, .inr (.inl (x + y)) :: S')
    | _ => none
  | .lmul => match S with
    | .inr (.inl y) :: .inr (.inl x) :: S' => some (pc + 1, M, .inr (.inl (x * y)) :: S')
    | _ => none
  | .dup => match S with
    | .inl x :: S' => some (pc + 1, M, .inl x :: .inl x :: S')
    | .inr (.inr x) :: S' => some (pc + 1, M, .inr (.inr x) :: .inr (.inr x) :: S')
    | _ => none
  | .dup_x1 => match S with
    | .inl x :: .inr (.inr y) :: S' => some (pc + 1, M, .inl x :: .inr (.inr y) :: .inl x :: S')
    | .inl x :: .inl y :: S' => some (pc + 1, M, .inl x :: .inl y :: .inl x :: S')
    | _ => none
  | .dup2 => match S with
    | .inl x :: .inr (.inr y) :: S' => some (pc + 1, M, .inl x :: .inr (.inr y) :: .inl x :: .inr (.inr y) :: S')
    | _ => none
  | .pop => match S with
    | .inl _ :: S' => some (pc + 1, M, S')
    | .inr (.inr _) :: S' => some (pc + 1, M, S')
    | _ => none
  | .goto off => (pm_jmp pc off).map (fun t => (t, M, S))
  | _ => none
def zjmp (pc : Nat) (off : Int) (f : Nat → Prop) : Prop := match pm_jmp pc off with
  | some t => f t
  | none => False
/-- any int, any long -/
def zaI (k : Int → Prop) : Prop := ∀ c : Int, -2147483648 ≤ c → c < 2147483648 → k c
def zaL (k : Int → Prop) : Prop := ∀ c : Int, -9223372036854775808 ≤ c → c < 9223372036854775808 → k c
/-- steps of which nothing is known but the answer's size -/
def zhv (i : Instr) (pc : Nat) (S : List zv) (k : Nat → List zv → Prop) : Prop := match i with
  | .iadd => match S with
    | .inl _ :: .inl _ :: S' => zaI (fun c => k (pc + 1) (.inl c :: S'))
    | _ => False
  | .isub => match S with
    | .inl _ :: .inl _ :: S' => zaI (fun c => k (pc + 1) (.inl c :: S'))
    | _ => False
  | .imul => match S with
    | .inl _ :: .inl _ :: S' => zaI (fun c => k (pc + 1) (.inl c :: S'))
    | _ => False
  | .iand => match S with
    | .inl _ :: .inl _ :: S' => zaI (fun c => k (pc + 1) (.inl c :: S'))
    | _ => False
  | .ior => match S with
    | .inl _ :: .inl _ :: S' => zaI (fun c => k (pc + 1) (.inl c :: S'))
    | _ => False
  | .ixor => match S with
    | .inl _ :: .inl _ :: S' => zaI (fun c => k (pc + 1) (.inl c :: S'))
    | _ => False
  | .ishl => match S with
    | .inl _ :: .inl _ :: S' => zaI (fun c => k (pc + 1) (.inl c :: S'))
    | _ => False
  | .iushr => match S with
    | .inl _ :: .inl _ :: S' => zaI (fun c => k (pc + 1) (.inl c :: S'))
    | _ => False
  | .ineg => match S with
    | .inl _ :: S' => zaI (fun c => k (pc + 1) (.inl c :: S'))
    | _ => False
  | .idiv => match S with
    | .inl y :: .inl _ :: S' => (-2147483648 ≤ y ∧ y < 2147483648 ∧ y ≠ 0) ∧ zaI (fun c => k (pc + 1) (.inl c :: S'))
    | _ => False
  | .irem => match S with
    | .inl y :: .inl _ :: S' => (-2147483648 ≤ y ∧ y < 2147483648 ∧ y ≠ 0) ∧ zaI (fun c => k (pc + 1) (.inl c :: S'))
    | _ => False
  | .lcmp => match S with
    | .inr (.inl _) :: .inr (.inl _) :: S' => zaI (fun c => k (pc + 1) (.inl c :: S'))
    | _ => False
  | .l2i => match S with
    | .inr (.inl _) :: S' => zaI (fun c => k (pc + 1) (.inl c :: S'))
    | _ => False
  | .ladd => match S with
    | .inr (.inl _) :: .inr (.inl _) :: S' => zaL (fun c => k (pc + 1) (.inr (.inl c) :: S'))
    | _ => False
  | .lsub => match S with
    | .inr (.inl _) :: .inr (.inl _) :: S' => zaL (fun c => k (pc + 1) (.inr (.inl c) :: S'))
    | _ => False
  | .lmul => match S with
    | .inr (.inl _) :: .inr (.inl _) :: S' => zaL (fun c => k (pc + 1) (.inr (.inl c) :: S'))
    | _ => False
  | .lor => match S with
    | .inr (.inl _) :: .inr (.inl _) :: S' => zaL (fun c => k (pc + 1) (.inr (.inl c) :: S'))
    | _ => False
  | .lshl => match S with
    | .inl _ :: .inr (.inl _) :: S' => zaL (fun c => k (pc + 1) (.inr (.inl c) :: S'))
    | _ => False
  | .ifCond _ off => match S with
    | .inl _ :: S' => zjmp pc off (fun t => k t S' ∧ k (pc + 3) S')
    | _ => False
  | .if_icmp _ off => match S with
    | .inl _ :: .inl _ :: S' => zjmp pc off (fun t => k t S' ∧ k (pc + 3) S')
    | _ => False
  | _ => False
def zc0 (c : ClassFile.Cond) (x : Int) : Prop := match c with
  | .eq => x = 0
  | .ne => x ≠ 0
  | .lt => x < 0
  | .ge => 0 ≤ x
  | .gt => 0 < x
  | .le => x ≤ 0
def zn0 (c : ClassFile.Cond) (x : Int) : Prop := match c with
  | .eq => x ≠ 0
  | .ne => x = 0
  | .lt => 0 ≤ x
  | .ge => x < 0
  | .gt => x ≤ 0
  | .le => 0 < x
def zc2 (c : ClassFile.Cond) (x y : Int) : Prop := match c with
  | .eq => x = y
  | .ne => x ≠ y
  | .lt => x < y
  | .ge => y ≤ x
  | .gt => y < x
  | .le => x ≤ y
def zn2 (c : ClassFile.Cond) (x y : Int) : Prop := match c with
  | .eq => x ≠ y
  | .ne => x = y
  | .lt => y ≤ x
  | .ge => x < y
  | .gt => x ≤ y
  | .le => y < x
def ztb (x : Int) (pc : Nat) (f : Nat → Prop) : List Int → Int → Prop
  | [], _ => True
  | o :: l, v => (x = v → zjmp pc o f) ∧ ztb x pc f l (v + 1)
def zlk (x : Int) (pc : Nat) (f : Nat → Prop) : List (Int × Int) → Prop
  | [] => True
  | q :: l => (x = q.1 → zjmp pc q.2 f) ∧ zlk x pc f l
def zno (x : Int) : List (Int × Int) → Prop
  | [] => True
  | q :: l => x ≠ q.1 ∧ zno x l
/-- fields of the kinds: level, op -/
def zkv (j a : Nat) : Option Int := match pm_kv pm_kof a j with
  | some (.int x) => some x.toInt
  | _ => none
def zlev (a : Nat) : Int := (zkv 1 a).getD 0
def zop (a : Nat) : Int := (zkv 2 a).getD 0
/-- a method's run, in whole numbers: it ends, with Q of the answer and the heap -/
def pzV (d mj : Nat) (as : List zv) (h : zh) (Q : zF → zF → zF → Nat → zT → Prop) : Prop := px d mj 0 (lv_args 0 (as.map zV)) [] (zc h) (fun v h1 => ∃ A B Y K T, v = none ∧ h1 = zc (A, B, Y, K, T) ∧ Q A B Y K T)
def pzI (d mj : Nat) (as : List zv) (h : zh) (Q : Int → zF → zF → zF → Nat → zT → Prop) : Prop := px d mj 0 (lv_args 0 (as.map zV)) [] (zc h) (fun v h1 => ∃ n A B Y K T, v = some (.int (Int32.ofInt n)) ∧ h1 = zc (A, B, Y, K, T) ∧ Q n A B Y K T)
def pzR (d mj : Nat) (as : List zv) (h : zh) (Q : Nat → zF → zF → zF → Nat → zT → Prop) : Prop := px d mj 0 (lv_args 0 (as.map zV)) [] (zc h) (fun v h1 => ∃ n A B Y K T, v = some (.ref n) ∧ h1 = zc (A, B, Y, K, T) ∧ Q n A B Y K T)
def zcl (d mj : Nat) (as : List zv) (h : zh) (k : List zv → zh → Prop) : Prop := 0 < d ∧ (match pm_rt mj with
  | none => pzV (d - 1) mj as h (fun A B Y K T => k [] (A, B, Y, K, T))
  | some (.object _) => pzR (d - 1) mj as h (fun n A B Y K T => k [.inr (.inr n)] (A, B, Y, K, T))
  | some _ => pzI (d - 1) mj as h (fun n A B Y K T => k [.inl n] (A, B, Y, K, T)))
/-- the receiver -/
def zrv (a mj : Nat) (X : Prop) : Prop := bif Nat.beq (pm_ow mj) 7 then ((1000 ≤ a ∧ a < 1039) ∧ X) else (bif Nat.beq (pm_ow mj) 8 then ((3000 ≤ a ∧ a < 3039) ∧ X) else (bif Nat.blt a 1000 && (Nat.blt (pm_ow mj) 7 && pm_isO pm_swA a (pm_ow mj)) then X else False))
/-- System.arraycopy of ints or chars between two cells -/
def zcp (d : Nat) (h : zh) (S : List zv) (k : List zv → zh → Prop) : Prop := match S with
  | .inl n :: .inl dp :: .inr (.inr b) :: .inl sp :: .inr (.inr a) :: S' => bif (Nat.blt a pm_swA.length && (Nat.blt b pm_swA.length && Nat.beq (pm_sh pm_swA a).1 (pm_sh pm_swA b).1)) && ((Nat.beq (pm_sh pm_swA a).1 1 || Nat.beq (pm_sh pm_swA a).1 2) && Nat.ble (zcats S') 8) then
      ((0 ≤ sp ∧ 0 ≤ dp ∧ 0 ≤ n) ∧ (sp + n ≤ ((pm_sh pm_swA a).2 : Int) ∧ dp + n ≤ ((pm_sh pm_swA b).2 : Int)) ∧ (bif Nat.beq (pm_sh pm_swA a).1 2 then (∀ j : Nat, 0 ≤ zrd h a j ∧ zrd h a j < 65536) else True) ∧ 0 < d ∧
        k S' (zwa h b (fun j => if dp.toNat ≤ j ∧ j < dp.toNat + n.toNat then zrd h a (sp.toNat + (j - dp.toNat)) else zrd h b j))) else False
  | _ => False
/-- a step that asks for something -/
def zb (d mi : Nat) (md : Bool) (Q : Option zv → zh → Prop) (lf : Nat → zM → List zv → zh → Prop) (i : Instr) (pc : Nat) (M : zM) (S : List zv) (h : zh) (k : Nat → zM → List zv → zh → Prop) : Prop := match i with
  | .ifCond c off => match S with
    | .inl x :: S' => zjmp pc off (fun t => (-2147483648 ≤ x ∧ x < 2147483648) ∧ (zc0 c x → k t M S' h) ∧ (zn0 c x → k (pc + 3) M S' h))
    | _ => False
  | .if_icmp c off => match S with
    | .inl y :: .inl x :: S' => zjmp pc off (fun t => (-2147483648 ≤ x ∧ x < 2147483648) ∧ (-2147483648 ≤ y ∧ y < 2147483648) ∧ (zc2 c x y → k t M S' h) ∧ (zn2 c x y → k (pc + 3) M S' h))
    | _ => False
  | .if_acmp c off => match S with
    | .inr (.inr y) :: .inr (.inr x) :: S' => zjmp pc off (fun t => (1000 ≤ x ∧ x < 1064) ∧ (1000 ≤ y ∧ y < 1064) ∧ (match c with
      | .eq => (x = y → k t M S' h) ∧ (x ≠ y → k (pc + 3) M S' h)
      | .ne => (x ≠ y → k t M S' h) ∧ (x = y → k (pc + 3) M S' h)))
    | _ => False
  | .tableswitch dd lo hi offs => match S with
    | .inl x :: S' => (-2147483648 ≤ x ∧ x < 2147483648) ∧ ((x < lo ∨ hi < x) → zjmp pc dd (fun t => k t M S' h)) ∧ (bif decide (lo + (offs.toList.length : Int) = hi + 1) then ztb x pc (fun t => k t M S' h) offs.toList lo else False)
    | _ => False
  | .lookupswitch dd ps => match S with
    | .inl x :: S' => bif (ps.toList.zip (ps.toList.drop 1)).all (fun (a, next) => a.1 < next.1) then (-2147483648 ≤ x ∧ x < 2147483648) ∧ zlk x pc (fun t => k t M S' h) ps.toList ∧ (zno x ps.toList → zjmp pc dd (fun t => k t M S' h)) else False
    | _ => False
  | .i2l => match S with
    | .inl x :: S' => (-2147483648 ≤ x ∧ x < 2147483648) ∧ k (pc + 1) M (.inr (.inl x) :: S') h
    | _ => False
  | .l2i => match S with
    | .inr (.inl x) :: S' => k (pc + 1) M (.inl x :: S') h
    | _ => False
  | .lcmp => match S with
    | .inr (.inl y) :: .inr (.inl x) :: S' => (-9223372036854775808 ≤ x ∧ x < 9223372036854775808) ∧ (-9223372036854775808 ≤ y ∧ y < 9223372036854775808) ∧ (x < y → k (pc + 1) M (.inl (-1) :: S') h) ∧ (x = y → k (pc + 1) M (.inl 0 :: S') h) ∧ (y < x → k (pc + 1) M (.inl 1 :: S') h)
    | _ => False
  | .getfield idx => match S with
    | .inr (.inr a) :: S' => (match pm_kf (pm_ow mi) idx with
      | some 1 => (1000 ≤ a ∧ a < 1039) ∧ k (pc + 3) M (.inl (zlev a) :: S') h
      | some 2 => (1000 ≤ a ∧ a < 1039) ∧ k (pc + 3) M (.inl (zop a) :: S') h
      | some 0 => (1000 ≤ a ∧ a < 1039) ∧ k (pc + 3) M (.inr (.inr (a + 2000)) :: S') h
      | some _ => False
      | none => match pm_gf (pm_ow mi) idx with
        | some (ci, kk) => bif Nat.blt a 1000 && pm_isO pm_swA a ci then (match (pm_ft ci)[kk]? with
          | some ty => (match pm_cat ty with
            | 0 => k (pc + 3) M (.inl (zrd h a kk) :: S') h
            | 1 => k (pc + 3) M (.inr (.inl (h.2.2.1 a kk)) :: S') h
            | _ => match pg_r (some h.2.2.2.1) h.2.2.2.2 a kk with
              | some r => k (pc + 3) M (.inr (.inr r) :: S') h
              | none => False)
          | none => False) else False
        | none => False)
    | _ => False
  | .getstatic idx => (match pm_gs (pm_ow mi) idx with
    | some j => k (pc + 3) M (.inr (.inr (pm_kst.getD j ("", "", "", 0)).2.2.2) :: S) h
    | none => False)
  | .ldc2_w idx => (match pm_kl (pm_ow mi) idx with
    | some v => k (pc + 3) M (.inr (.inl v.toInt) :: S) h
    | none => False)
  | .arraylength => match S with
    | .inr (.inr a) :: S' => bif Nat.beq a 2000 then k (pc + 1) M (.inl 39 :: S') h else (bif Nat.blt a pm_swA.length && Nat.blt (pm_sh pm_swA a).1 6 then k (pc + 1) M (.inl ((pm_sh pm_swA a).2 : Int) :: S') h else False)
    | _ => False
  | .iaload => match S with
    | .inl j :: .inr (.inr a) :: S' => bif pm_isA pm_swA a 1 then (0 ≤ j ∧ j < ((pm_sh pm_swA a).2 : Int)) ∧ k (pc + 1) M (.inl (zrd h a j.toNat) :: S') h else False
    | _ => False
  | .caload => match S with
    | .inl j :: .inr (.inr a) :: S' => bif pm_isA pm_swA a 2 then (0 ≤ j ∧ j < ((pm_sh pm_swA a).2 : Int)) ∧ k (pc + 1) M (.inl (zrd h a j.toNat) :: S') h else False
    | _ => False
  | .baload => match S with
    | .inl j :: .inr (.inr a) :: S' => bif pm_isA pm_swA a 3 then (0 ≤ j ∧ j < ((pm_sh pm_swA a).2 : Int)) ∧ k (pc + 1) M (.inl (zrd h a j.toNat) :: S') h else False
    | _ => False
  | .aaload => match S with
    | .inl j :: .inr (.inr a) :: S' => bif Nat.beq a 2000 then (0 ≤ j ∧ j < 39) ∧ k (pc + 1) M (.inr (.inr (1000 + j.toNat)) :: S') h else (bif Nat.beq a 21 then (0 ≤ j ∧ j < 3001) ∧ h.2.2.2.2 j.toNat ≠ none ∧ (∀ r, h.2.2.2.2 j.toNat = some r → k (pc + 1) M (.inr (.inr r) :: S') h) else False)
    | _ => False
  | .putfield idx => match S with
    | v :: .inr (.inr a) :: S' => (match pm_gf (pm_ow mi) idx with
      | some (ci, kk) => bif pm_isO pm_swA a ci && !((pm_clN ci).2.1 kk).2.2.2 then (match (pm_ft ci)[kk]? with
        | some .int => (match v with
          | .inl x => k (pc + 3) M S' (zwr h a kk x)
          | _ => False)
        | some .boolean => (match v with
          | .inl x => (x = 0 ∨ x = 1) ∧ k (pc + 3) M S' (zwr h a kk x)
          | _ => False)
        | some .long => (match v with
          | .inr (.inl x) => k (pc + 3) M S' (h.1, h.2.1, zu h.2.2.1 a kk x, h.2.2.2.1, h.2.2.2.2)
          | _ => False)
        | some (.object _) => (match v with
          | .inr (.inr r) => bif Nat.beq a 19 && Nat.beq kk 9 then k (pc + 3) M S' (h.1, h.2.1, h.2.2.1, r, h.2.2.2.2) else False
          | _ => False)
        | _ => False) else False
      | none => False)
    | _ => False
  | .iastore => match S with
    | .inl x :: .inl j :: .inr (.inr a) :: S' => bif pm_isA pm_swA a 1 then (0 ≤ j ∧ j < ((pm_sh pm_swA a).2 : Int)) ∧ k (pc + 1) M S' (zwr h a j.toNat x) else False
    | _ => False
  | .castore => match S with
    | .inl x :: .inl j :: .inr (.inr a) :: S' => bif pm_isA pm_swA a 2 then (0 ≤ j ∧ j < ((pm_sh pm_swA a).2 : Int)) ∧ (0 ≤ x ∧ x < 65536) ∧ k (pc + 1) M S' (zwr h a j.toNat x) else False
    | _ => False
  | .bastore => match S with
    | .inl x :: .inl j :: .inr (.inr a) :: S' => bif pm_isA pm_swA a 3 then (0 ≤ j ∧ j < ((pm_sh pm_swA a).2 : Int)) ∧ (x = 0 ∨ x = 1) ∧ k (pc + 1) M S' (zwr h a j.toNat x) else False
    | _ => False
  | .aastore => match S with
    | .inr (.inr x) :: .inl j :: .inr (.inr a) :: S' => bif Nat.beq a 21 then (0 ≤ j ∧ j < 3001) ∧ (1000 ≤ x ∧ x < 1039) ∧ k (pc + 1) M S' (h.1, h.2.1, h.2.2.1, h.2.2.2.1, zut h.2.2.2.2 j.toNat x) else False
    | _ => False
  | .ireturn => bif md then lf pc M S h else (match S with
    | [.inl x] => (match pm_rt mi with
      | some .int => Q (some (.inl x)) h
      | some .boolean => (x = 0 ∨ x = 1) ∧ Q (some (.inl x)) h
      | some .char => (0 ≤ x ∧ x < 65536) ∧ Q (some (.inl x)) h
      | _ => False)
    | _ => False)
  | .return_ => bif md then lf pc M S h else (match S with
    | [] => (match pm_rt mi with
      | none => Q none h
      | _ => False)
    | _ => False)
  | .areturn => bif md then False else (match S with
    | [.inr (.inr a)] => (match pm_rt mi with
      | some (.object _) => Q (some (.inr (.inr a))) h
      | _ => False)
    | _ => False)
  | .new _ => bif md then lf pc M S h else False
  | .invokevirtual idx => (match pm_iv (pm_ow mi) idx with
    | some mj => (match S.drop (pm_np mj) with
      | .inr (.inr a) :: S' => bif (!pm_sc mj && !Nat.beq mj 167) && (Nat.beq (S.take (pm_np mj)).length (pm_np mj) && (Nat.ble (zcats S') 8 && Nat.ble (zcats (.inr (.inr a) :: (S.take (pm_np mj)).reverse)) (pm_mx mj))) then zrv a mj (zcl d mj (.inr (.inr a) :: (S.take (pm_np mj)).reverse) h (fun v h' => k (pc + 3) M (v ++ S') h')) else False
      | _ => False)
    | none => False)
  | .invokestatic idx => (match pm_iv (pm_ow mi) idx with
    | some mj => bif (pm_sc mj && !Nat.beq mj 167) && (Nat.beq (S.take (pm_np mj)).length (pm_np mj) && (Nat.ble (zcats (S.drop (pm_np mj))) 8 && Nat.ble (zcats (S.take (pm_np mj)).reverse) (pm_mx mj))) then zcl d mj (S.take (pm_np mj)).reverse h (fun v h' => k (pc + 3) M (v ++ S.drop (pm_np mj)) h') else False
    | none => bif pm_isac (pm_ow mi) idx then zcp d h S (fun S' h' => k (pc + 3) M S' h') else False)
  | _ => zhv i pc S (fun pc' S' => k pc' M S' h)
def zin : List Nat → Nat → Bool
  | [], _ => false
  | a :: l, k => bif Nat.beq a k then true else zin l k
def zfs : List (Nat × List Nat) → Nat → Option (List Nat)
  | [], _ => none
  | q :: l, k => bif Nat.beq q.1 k then some q.2 else zfs l k
def zbody (hv : List Nat) (d mi : Nat) (md : Bool) (Q : Option zv → zh → Prop) (lf : Nat → zM → List zv → zh → Prop) (pc : Nat) (M : zM) (S : List zv) (h : zh) (k : Nat → zM → List zv → zh → Prop) : Prop := match pm_fd (pm_code mi) pc with
  | none => False
  | some i => bif zin hv pc then zhv i pc S (fun pc' S' => k pc' M S' h) else (match zstep i (pm_mx mi) pc M S with
    | some (pc', M', S') => k pc' M' S' h
    | none => zb d mi md Q lf i pc M S h k)
/-- what must hold at a place: computed over at most n steps, up to the stops -/
def wz (st : List (Nat × List Nat)) (hv : List Nat) (d mi : Nat) (md : Bool) (Q : Option zv → zh → Prop) (lf : Nat → zM → List zv → zh → Prop) : Nat → Nat → zM → List zv → zh → Prop
  | 0, pc, M, S, h => lf pc M S h
  | n + 1, pc, M, S, h => zbody hv d mi md Q lf pc M S h (fun pc' M' S' h' => match zfs st pc' with
    | some F => lf pc' (zfor F M') S' h'
    | none => wz st hv d mi md Q lf n pc' M' S' h')
end
section
/-! The calculus is sound: numbers, locals, the heap -/
theorem zi_rng (x : Int32) : ∃ c : Int, x = Int32.ofInt c ∧ -2147483648 ≤ c ∧ c < 2147483648 :=
  ⟨x.toInt, (Int32.ofInt_toInt x).symm, by have := x.le_toInt; omega, by have := x.toInt_lt; omega⟩
theorem zl_rng (x : Int64) : ∃ c : Int, x = Int64.ofInt c ∧ -9223372036854775808 ≤ c ∧ c < 9223372036854775808 :=
  ⟨x.toInt, (Int64.ofInt_toInt x).symm, by have := x.le_toInt; omega, by have := x.toInt_lt; omega⟩
section ZI
variable {x y : Int}
theorem zi_to (h1 : -2147483648 ≤ x) (h2 : x < 2147483648) : (Int32.ofInt x).toInt = x := Int32.toInt_ofInt_of_le (by omega) (by omega)
theorem zl_to (h1 : -9223372036854775808 ≤ x) (h2 : x < 9223372036854775808) : (Int64.ofInt x).toInt = x := Int64.toInt_ofInt_of_le (by omega) (by omega)
theorem zi_eq (h1 : -2147483648 ≤ x ∧ x < 2147483648) (h2 : -2147483648 ≤ y ∧ y < 2147483648) : Int32.ofInt x = Int32.ofInt y ↔ x = y := by
  rw [← Int32.toInt_inj, zi_to h1.1 h1.2, zi_to h2.1 h2.2]
theorem zi_lt (h1 : -2147483648 ≤ x ∧ x < 2147483648) (h2 : -2147483648 ≤ y ∧ y < 2147483648) : Int32.ofInt x < Int32.ofInt y ↔ x < y := by
  rw [Int32.lt_iff_toInt_lt, zi_to h1.1 h1.2, zi_to h2.1 h2.2]
theorem zi_le (h1 : -2147483648 ≤ x ∧ x < 2147483648) (h2 : -2147483648 ≤ y ∧ y < 2147483648) : Int32.ofInt x ≤ Int32.ofInt y ↔ x ≤ y := by
  rw [Int32.le_iff_toInt_le, zi_to h1.1 h1.2, zi_to h2.1 h2.2]
theorem zi_00 : (0 : Int32) = Int32.ofInt 0 := by decide
theorem zi_z : -2147483648 ≤ (0 : Int) ∧ (0 : Int) < 2147483648 := by omega
theorem zc2_cases {c : ClassFile.Cond} (h1 : -2147483648 ≤ x ∧ x < 2147483648) (h2 : -2147483648 ≤ y ∧ y < 2147483648) : (pm_c2 c (Int32.ofInt x) (Int32.ofInt y) = true ∧ zc2 c x y) ∨ (pm_c2 c (Int32.ofInt x) (Int32.ofInt y) = false ∧ zn2 c x y) := by
  cases c with
  | eq =>
    by_cases q : x = y
    · exact Or.inl ⟨decide_eq_true ((zi_eq h1 h2).mpr q), q⟩
    · exact Or.inr ⟨decide_eq_false (fun z => q ((zi_eq h1 h2).mp z)), q⟩
  | ne =>
    by_cases q : x = y
    · exact Or.inr ⟨by show (!decide (Int32.ofInt x = Int32.ofInt y)) = false; rw [decide_eq_true ((zi_eq h1 h2).mpr q)]; rfl, q⟩
    · exact Or.inl ⟨by show (!decide (Int32.ofInt x = Int32.ofInt y)) = true; rw [decide_eq_false (fun z => q ((zi_eq h1 h2).mp z))]; rfl, q⟩
  | lt =>
    by_cases q : x < y
    · exact Or.inl ⟨decide_eq_true ((zi_lt h1 h2).mpr q), q⟩
    · exact Or.inr ⟨decide_eq_false (fun z => q ((zi_lt h1 h2).mp z)), Int.not_lt.mp q⟩
  | ge =>
    by_cases q : y ≤ x
    · exact Or.inl ⟨decide_eq_true ((zi_le h2 h1).mpr q), q⟩
    · exact Or.inr ⟨decide_eq_false (fun z => q ((zi_le h2 h1).mp z)), Int.not_le.mp q⟩
  | gt =>
    by_cases q : y < x
    · exact Or.inl ⟨decide_eq_true ((zi_lt h2 h1).mpr q), q⟩
    · exact Or.inr ⟨decide_eq_false (fun z => q ((zi_lt h2 h1).mp z)), Int.not_lt.mp q⟩
  | le =>
    by_cases q : x ≤ y
    · exact Or.inl ⟨decide_eq_true ((zi_le h1 h2).mpr q), q⟩
    · exact Or.inr ⟨decide_eq_false (fun z => q ((zi_le h1 h2).mp z)), Int.not_le.mp q⟩
theorem zc0_cases {c : ClassFile.Cond} (h1 : -2147483648 ≤ x ∧ x < 2147483648) : (pm_c0 c (Int32.ofInt x) = true ∧ zc0 c x) ∨ (pm_c0 c (Int32.ofInt x) = false ∧ zn0 c x) := by
  have e : pm_c0 c (Int32.ofInt x) = pm_c2 c (Int32.ofInt x) (Int32.ofInt 0) := by
    cases c <;> (unfold pm_c0 pm_c2; rw [zi_00])
  rw [e]
  have := zc2_cases (c := c) h1 zi_z
  cases c <;> exact this
theorem zlc_cases (h1 : -9223372036854775808 ≤ x ∧ x < 9223372036854775808) (h2 : -9223372036854775808 ≤ y ∧ y < 9223372036854775808) : (lg_cmp (Int64.ofInt x) (Int64.ofInt y) = Int32.ofInt (-1) ∧ x < y) ∨ (lg_cmp (Int64.ofInt x) (Int64.ofInt y) = Int32.ofInt 0 ∧ x = y) ∨ (lg_cmp (Int64.ofInt x) (Int64.ofInt y) = Int32.ofInt 1 ∧ y < x) := by
  have e1 := zl_to h1.1 h1.2
  have e2 := zl_to h2.1 h2.2
  have q1 : (Int64.ofInt x > Int64.ofInt y) ↔ y < x := by
    show Int64.ofInt y < Int64.ofInt x ↔ _
    rw [Int64.lt_iff_toInt_lt, e1, e2]
  have q2 : (Int64.ofInt x = Int64.ofInt y) ↔ x = y := by
    rw [← Int64.toInt_inj, e1, e2]
  unfold lg_cmp
  rcases Int.lt_trichotomy x y with z | z | z
  · refine Or.inl ⟨?_, z⟩
    rw [if_neg (fun w => by have := q1.mp w; omega), if_neg (fun w => by have := q2.mp w; omega)]
    decide
  · refine Or.inr (Or.inl ⟨?_, z⟩)
    rw [if_neg (fun w => by have := q1.mp w; omega), if_pos (q2.mpr z)]
    decide
  · refine Or.inr (Or.inr ⟨?_, z⟩)
    rw [if_pos (q1.mpr z)]
    decide
end ZI
set_option maxRecDepth 100000 in
theorem zlen_all : (List.range 75).all (fun a => Nat.ble (pm_sh pm_swA a).2 12000) = true := by decide +kernel
set_option maxRecDepth 100000 in
theorem zsw_len : pm_swA.length = 75 := by decide +kernel
theorem zlen (a : Nat) : (pm_sh pm_swA a).2 ≤ 12000 := by
  rcases Nat.lt_or_ge a 75 with h | h
  · exact Nat.le_of_ble_eq_true (List.all_eq_true.mp zlen_all a (List.mem_range.mpr h))
  · unfold pm_sh
    rw [List.getD_eq_getElem?_getD, List.getElem?_eq_none (by rw [zsw_len]; exact h)]
    exact Nat.zero_le _
theorem zinb {j : Int} {n : Nat} (hn : n ≤ 12000) (h : 0 ≤ j ∧ j < (n : Int)) : pm_inb (Int32.ofInt j) n = true ∧ (Int32.ofInt j).toNatClampNeg = j.toNat := by
  have e : (Int32.ofInt j).toNatClampNeg = j.toNat := Int32.toNatClampNeg_ofInt_of_le (by omega) (by omega)
  refine ⟨?_, e⟩
  unfold pm_inb
  rw [e]
  have h1 : ¬ Int32.ofInt j < 0 := by
    rw [zi_00, zi_lt (by omega) zi_z]
    omega
  rw [decide_eq_false h1]
  exact Nat.ble_eq_true_of_le (show j.toNat + 1 ≤ n by omega)
theorem znn {j : Int} (h0 : 0 ≤ j) (h1 : j < 2147483648) : decide (Int32.ofInt j < 0) = false ∧ (Int32.ofInt j).toNatClampNeg = j.toNat := by
  refine ⟨decide_eq_false ?_, Int32.toNatClampNeg_ofInt_of_le (by omega) (by omega)⟩
  rw [zi_00, zi_lt (by omega) zi_z]
  omega
/-! locals -/
def zlr (M : zM) (L : pm_L) : Prop := ∀ k v, zat M k = some v → pm_at L k = some (zV v)
theorem zset_some : ∀ {M : zM} {k j : Nat} {v : Option zv} {w : zv}, zat (zset M k v) j = some w → (j = k ∧ v = some w) ∨ (j ≠ k ∧ zat M j = some w) := by
  intro M
  induction M with
  | nil => intro k j v w h; cases h
  | cons x M ih =>
    intro k j v w h
    cases k with
    | zero =>
      cases j with
      | zero => exact Or.inl ⟨rfl, h⟩
      | succ j => exact Or.inr ⟨by omega, h⟩
    | succ k =>
      cases j with
      | zero => exact Or.inr ⟨by omega, h⟩
      | succ j =>
        rcases ih (k := k) (j := j) h with ⟨e1, e2⟩ | ⟨e1, e2⟩
        · exact Or.inl ⟨by omega, e2⟩
        · exact Or.inr ⟨by omega, e2⟩
theorem zkl_some {M : zM} {k j : Nat} {w : zv} (h : zat (zkl M k) j = some w) : zat M j = some w ∧ ¬ (j + 1 = k ∧ zisl (some w) = true) := by
  cases k with
  | zero => exact ⟨h, fun z => by omega⟩
  | succ k =>
    have h : zat (bif zisl (zat M k) then zset M k none else M) j = some w := h
    cases hb : zisl (zat M k) with
    | true =>
      rw [hb] at h
      rcases zset_some h with ⟨e1, e2⟩ | ⟨e1, e2⟩
      · cases e2
      · exact ⟨e2, fun z => e1 (by omega)⟩
    | false =>
      rw [hb] at h
      refine ⟨h, fun z => ?_⟩
      have e : j = k := by omega
      subst e
      have h : zat M j = some w := h
      rw [h, z.2] at hb
      cases hb
theorem zcat_l (w : zv) : ((zV w).category == 2) = zisl (some w) := by
  rcases w with n | n | r <;> rfl
theorem pm_at_filter {p : Nat × Value → Bool} : ∀ {L : pm_L} {j : Nat} {v : Value}, pm_at L j = some v → p (j, v) = true → pm_at (L.filter p) j = some v := by
  intro L
  induction L with
  | nil => intro j v h; cases h
  | cons q L ih =>
    intro j v h hp
    unfold pm_at at h
    cases hb : Nat.beq q.1 j with
    | true =>
      rw [hb] at h
      have h1 : q.1 = j := Nat.eq_of_beq_eq_true hb
      have h2 : q.2 = v := Option.some.inj h
      have h3 : q = (j, v) := by rw [← h1, ← h2]
      rw [List.filter_cons, h3, if_pos hp]
      unfold pm_at
      rw [Nat.beq_refl]
      rfl
    | false =>
      rw [hb] at h
      have h : pm_at L j = some v := h
      rw [List.filter_cons]
      split
      · unfold pm_at
        rw [hb]
        exact ih h hp
      · exact ih h hp
theorem pm_at_cons {L : pm_L} {k : Nat} {v : Value} : pm_at ((k, v) :: L) k = some v := by
  unfold pm_at
  rw [Nat.beq_refl]
  rfl
theorem pm_at_cons_ne {L : pm_L} {k j : Nat} {v : Value} (h : j ≠ k) : pm_at ((k, v) :: L) j = pm_at L j := by
  conv => lhs; unfold pm_at
  rw [pg_nb h]
  rfl
theorem zlr_st1 {M : zM} {L : pm_L} (hL : zlr M L) (k : Nat) (v : zv) : zlr (zst1 M k v) (pm_st1 L k (zV v)) := by
  intro j w h
  unfold pm_st1
  rcases zset_some h with ⟨e1, e2⟩ | ⟨e1, e2⟩
  · subst e1
    cases e2
    exact pm_at_cons
  · rw [pm_at_cons_ne e1]
    obtain ⟨q1, q2⟩ := zkl_some e2
    refine pm_at_filter (hL _ _ q1) ?_
    show (!(j == k) && !(j + 1 == k && (zV w).category == 2)) = true
    rw [zcat_l, beq_eq_false_iff_ne.mpr e1]
    cases hj : (j + 1 == k) with
    | false => rfl
    | true =>
      cases hw : zisl (some w) with
      | false => rfl
      | true => exact absurd ⟨by simpa using hj, hw⟩ q2
theorem zlr_st2 {M : zM} {L : pm_L} (hL : zlr M L) (k : Nat) (v : zv) : zlr (zst2 M k v) (pm_st2 L k (zV v)) := by
  intro j w h
  unfold pm_st2
  rcases zset_some h with ⟨e1, e2⟩ | ⟨e1, e2⟩
  · subst e1
    cases e2
    exact pm_at_cons
  · rw [pm_at_cons_ne e1]
    rcases zset_some e2 with ⟨e3, e4⟩ | ⟨e3, e4⟩
    · cases e4
    · obtain ⟨q1, q2⟩ := zkl_some e4
      refine pm_at_filter (hL _ _ q1) ?_
      show (!(j == k) && (!(j == k + 1) && !(j + 1 == k && (zV w).category == 2))) = true
      rw [zcat_l, beq_eq_false_iff_ne.mpr e1, beq_eq_false_iff_ne.mpr e3]
      cases hj : (j + 1 == k) with
      | false => rfl
      | true =>
        cases hw : zisl (some w) with
        | false => rfl
        | true => exact absurd ⟨by simpa using hj, hw⟩ q2
theorem zlr_for : ∀ (F : List Nat) {M : zM} {L : pm_L}, zlr M L → zlr (zfor F M) L := by
  intro F
  induction F with
  | nil => intro M L h; exact h
  | cons k F ih =>
    intro M L h
    refine ih (fun j w e => ?_)
    rcases zset_some e with ⟨e1, e2⟩ | ⟨e1, e2⟩
    · cases e2
    · exact h j w e2
theorem znone_no : ∀ (n k : Nat) {w : zv}, zat (znone n) k = some w → False := by
  intro n
  induction n with
  | zero => intro k w h; cases h
  | succ n ih =>
    intro k w h
    cases k with
    | zero => cases h
    | succ k => exact ih k h
theorem zarg_lr : ∀ (as : List zv) (n i k : Nat) (w : zv), zat (zarg n as) k = some w → pm_at (lv_args i (as.map zV)) (i + k) = some (zV w) := by
  intro as
  induction as with
  | nil => intro n i k w h; exact (znone_no n k h).elim
  | cons v as ih =>
    intro n i k w h
    unfold zarg at h
    show pm_at ((i, zV v) :: lv_args (if (zV v).category = 2 then i + 2 else i + 1) (as.map zV)) (i + k) = some (zV w)
    cases k with
    | zero =>
      have h : some v = some w := h
      cases h
      exact pm_at_cons
    | succ k =>
      rw [pm_at_cons_ne (by omega)]
      have hc := zcat_l v
      cases hb : zisl (some v) with
      | true =>
        rw [hb] at h hc
        rw [if_pos (by simpa using hc)]
        cases k with
        | zero => cases h
        | succ k =>
          rw [show i + (k + 1 + 1) = i + 2 + k by omega]
          exact ih _ _ _ _ h
      | false =>
        rw [hb] at h hc
        rw [if_neg (by simpa using hc), show i + (k + 1) = i + 1 + k by omega]
        exact ih _ _ _ _ h
theorem zarg_ok (n : Nat) (as : List zv) : zlr (zarg n as) (lv_args 0 (as.map zV)) := fun k w h => by
  have := zarg_lr as n 0 k w h
  rwa [Nat.zero_add] at this
theorem zcats_ok : ∀ S : List zv, pm_cats (S.map zV) = zcats S := by
  intro S
  induction S with
  | nil => rfl
  | cons v S ih =>
    unfold pm_cats at *
    rw [List.map_cons, List.map_cons, List.sum_cons, ih]
    show _ = zcat v + zcats S
    congr 1
    rcases v with n | n | r <;> rfl
theorem zsl_ok : ∀ S : List zv, (lg_sl (S.map zV)).length = zcats S := by
  intro S
  induction S with
  | nil => rfl
  | cons v S ih =>
    unfold lg_sl at *
    rw [List.map_cons, List.flatMap_cons, List.length_append, ih]
    show _ = zcat v + zcats S
    congr 1
    rcases v with n | n | r <;> rfl
/-! the heap -/
theorem zu_ap (f : zF) (a k i j : Nat) (v : Int) : zu f a k v i j = if i = a ∧ j = k then v else f i j := by
  unfold zu
  by_cases h1 : i = a
  · by_cases h2 : j = k
    · subst h1; subst h2
      rw [Nat.beq_refl, Nat.beq_refl, if_pos ⟨rfl, rfl⟩]
      rfl
    · subst h1
      rw [Nat.beq_refl, pg_nb (fun z => h2 z.symm), if_neg (fun z => h2 z.2)]
      rfl
  · rw [pg_nb (fun z => h1 z.symm), if_neg (fun z => h1 z.1)]
    rfl
theorem zua_ap (f : zF) (a i j : Nat) (g : Nat → Int) : zua f a g i j = if i = a then g j else f i j := by
  unfold zua
  by_cases h1 : i = a
  · subst h1
    rw [Nat.beq_refl, if_pos rfl]
    rfl
  · rw [pg_nb (fun z => h1 z.symm), if_neg h1]
    rfl
theorem zut_ap (T : zT) (k r j : Nat) : zut T k r j = if j = k then some r else T j := by
  unfold zut
  by_cases h1 : j = k
  · subst h1
    rw [Nat.beq_refl, if_pos rfl]
    rfl
  · rw [pg_nb (fun z => h1 z.symm), if_neg h1]
    rfl
theorem zrd_wr (h : zh) (a k i j : Nat) (v : Int) : zrd (zwr h a k v) i j = if i = a ∧ j = k then v else zrd h i j := by
  unfold zrd zwr
  cases ha : Nat.blt a 39 with
  | true =>
    cases hi : Nat.blt i 39 with
    | true => exact zu_ap _ _ _ _ _ _
    | false =>
      have : ¬ (i = a ∧ j = k) := fun z => by rw [z.1, ha] at hi; cases hi
      rw [if_neg this]
      rfl
  | false =>
    cases hi : Nat.blt i 39 with
    | false => exact zu_ap _ _ _ _ _ _
    | true =>
      have : ¬ (i = a ∧ j = k) := fun z => by rw [z.1, ha] at hi; cases hi
      rw [if_neg this]
      rfl
theorem zrd_wa (h : zh) (a i j : Nat) (g : Nat → Int) : zrd (zwa h a g) i j = if i = a then g j else zrd h i j := by
  unfold zrd zwa
  cases ha : Nat.blt a 39 with
  | true =>
    cases hi : Nat.blt i 39 with
    | true => exact zua_ap _ _ _ _ _
    | false =>
      have : ¬ (i = a) := fun z => by rw [z, ha] at hi; cases hi
      rw [if_neg this]
      rfl
  | false =>
    cases hi : Nat.blt i 39 with
    | false => exact zua_ap _ _ _ _ _
    | true =>
      have : ¬ (i = a) := fun z => by rw [z, ha] at hi; cases hi
      rw [if_neg this]
      rfl
theorem zwr_2 (h : zh) (a k : Nat) (v : Int) : (zc (zwr h a k v)).2 = (zc h).2 := by
  unfold zwr
  cases Nat.blt a 39 <;> rfl
theorem zwa_2 (h : zh) (a : Nat) (g : Nat → Int) : (zc (zwa h a g)).2 = (zc h).2 := by
  unfold zwa
  cases Nat.blt a 39 <;> rfl
theorem zc_I (h : zh) (a k : Nat) (v : Int) : pm_setI (zc h) a k (Int32.ofInt v) = zc (zwr h a k v) := by
  refine Prod.ext ?_ (zwr_2 h a k v).symm
  funext i j
  show va_up (zc h).1 a (va_up ((zc h).1 a) k (Int32.ofInt v)) i j = Int32.ofInt (zrd (zwr h a k v) i j)
  rw [zrd_wr]
  by_cases h1 : i = a
  · subst h1
    rw [va_up_self]
    by_cases h2 : j = k
    · subst h2
      rw [va_up_self, if_pos ⟨rfl, rfl⟩]
    · rw [va_up_ne _ _ h2, if_neg (fun z => h2 z.2)]
      rfl
  · rw [va_up_ne _ _ h1, if_neg (fun z => h1 z.1)]
    rfl
theorem zc_A (h : zh) (b : Nat) (f : Nat → Int32) (g : Nat → Int) (hfg : ∀ j, f j = Int32.ofInt (g j)) : (va_up (zc h).1 b f, (zc h).2.1, (zc h).2.2) = zc (zwa h b g) := by
  refine Prod.ext ?_ (zwa_2 h b g).symm
  funext i j
  show va_up (zc h).1 b f i j = Int32.ofInt (zrd (zwa h b g) i j)
  rw [zrd_wa]
  by_cases h1 : i = b
  · subst h1
    rw [va_up_self, if_pos rfl, hfg]
  · rw [va_up_ne _ _ h1, if_neg h1]
    rfl
theorem zc_L (h : zh) (a k : Nat) (v : Int) : pm_setL (zc h) a k (Int64.ofInt v) = zc (h.1, h.2.1, zu h.2.2.1 a k v, h.2.2.2.1, h.2.2.2.2) := by
  refine Prod.ext rfl (Prod.ext ?_ rfl)
  funext i j
  show va_up (zc h).2.1 a (va_up ((zc h).2.1 a) k (Int64.ofInt v)) i j = Int64.ofInt (zu h.2.2.1 a k v i j)
  rw [zu_ap]
  by_cases h1 : i = a
  · subst h1
    rw [va_up_self]
    by_cases h2 : j = k
    · subst h2
      rw [va_up_self, if_pos ⟨rfl, rfl⟩]
    · rw [va_up_ne _ _ h2, if_neg (fun z => h2 z.2)]
      rfl
  · rw [va_up_ne _ _ h1, if_neg (fun z => h1 z.1)]
    rfl
theorem zc_K (h : zh) (r : Nat) : pm_setR (zc h) 19 9 (some r) = zc (h.1, h.2.1, h.2.2.1, r, h.2.2.2.2) := by
  refine Prod.ext rfl (Prod.ext rfl ?_)
  funext i j
  show va_up (zc h).2.2 19 (va_up ((zc h).2.2 19) 9 (some r)) i j = pg_r (some r) h.2.2.2.2 i j
  by_cases h1 : i = 19
  · subst h1
    rw [va_up_self]
    by_cases h2 : j = 9
    · subst h2
      rw [va_up_self]
      rfl
    · rw [va_up_ne _ _ h2]
      show pg_r (some h.2.2.2.1) h.2.2.2.2 19 j = _
      unfold pg_r
      rw [pg_nb (fun z => h2 z.symm)]
      rfl
  · rw [va_up_ne _ _ h1]
    show pg_r (some h.2.2.2.1) h.2.2.2.2 i j = _
    unfold pg_r
    rw [show Nat.beq i 19 = false from pg_nb (fun z => h1 z.symm)]
    rfl
theorem zc_T (h : zh) (k r : Nat) : pm_setR (zc h) 21 k (some r) = zc (h.1, h.2.1, h.2.2.1, h.2.2.2.1, zut h.2.2.2.2 k r) := by
  refine Prod.ext rfl (Prod.ext rfl ?_)
  funext i j
  show va_up (zc h).2.2 21 (va_up ((zc h).2.2 21) k (some r)) i j = pg_r (some h.2.2.2.1) (zut h.2.2.2.2 k r) i j
  by_cases h1 : i = 21
  · subst h1
    rw [va_up_self]
    show _ = zut h.2.2.2.2 k r j
    rw [zut_ap]
    by_cases h2 : j = k
    · subst h2
      rw [va_up_self, if_pos rfl]
    · rw [va_up_ne _ _ h2, if_neg h2]
      rfl
  · rw [va_up_ne _ _ h1]
    show pg_r (some h.2.2.2.1) h.2.2.2.2 i j = _
    unfold pg_r
    rw [show Nat.beq i 21 = false from pg_nb (fun z => h1 z.symm)]
    rfl
/-! fields of the kinds -/
set_option maxRecDepth 100000 in
theorem zkv_all : (List.range 39).all (fun k => (match pm_kv pm_kof (1000 + k) 1 with
  | some (.int x) => decide (x = Int32.ofInt (zlev (1000 + k)))
  | _ => false) && ((match pm_kv pm_kof (1000 + k) 2 with
  | some (.int x) => decide (x = Int32.ofInt (zop (1000 + k)))
  | _ => false) && (match pm_kv pm_kof (1000 + k) 0 with
  | some (.ref x) => Nat.beq x (1000 + k + 2000)
  | _ => false))) = true := by decide +kernel
theorem zkv_ok {a : Nat} (h1 : 1000 ≤ a) (h2 : a < 1039) : pm_kv pm_kof a 1 = some (.int (Int32.ofInt (zlev a))) ∧ pm_kv pm_kof a 2 = some (.int (Int32.ofInt (zop a))) ∧ pm_kv pm_kof a 0 = some (.ref (a + 2000)) := by
  have h := List.all_eq_true.mp zkv_all (a - 1000) (List.mem_range.mpr (by omega))
  rw [show 1000 + (a - 1000) = a by omega] at h
  obtain ⟨q1, q2⟩ := Bool.and_eq_true_iff.mp h
  obtain ⟨q3, q4⟩ := Bool.and_eq_true_iff.mp q2
  refine ⟨?_, ?_, ?_⟩
  · split at q1
    · rename_i x e; rw [e, of_decide_eq_true q1]
    · cases q1
  · split at q3
    · rename_i x e; rw [e, of_decide_eq_true q3]
    · cases q3
  · split at q4
    · rename_i x e; rw [e, Nat.eq_of_beq_eq_true q4]
    · cases q4
end
section
/-! The calculus is sound: the steps -/
def zok (md : Bool) (mi pc : Nat) : Prop := md = true → pt_stop mi pc = false
/-- what is asked of a meaning: it is kept by steps, answers, calls, copies -/
def zS (d mi : Nat) (md : Bool) (P : Nat → pm_L → List Value → pm_H → Prop) (R : Option Value → pm_H → Prop) : Prop :=
  (∀ (pc : Nat) (L : pm_L) (S : List Value) (h : pm_H) (pc' : Nat) (L' : pm_L) (S' : List Value) (h' : pm_H), zok md mi pc → pm_step pm_swA mi pc L S h = some (.inl (pc', L', S', h')) → P pc' L' S' h' → P pc L S h) ∧
  (∀ (pc : Nat) (L : pm_L) (S : List Value) (h : pm_H) (v : Option Value), md = false → pm_step pm_swA mi pc L S h = some (.inr (.inl v)) → R v h → P pc L S h) ∧
  (∀ (pc : Nat) (L : pm_L) (S : List Value) (h : pm_H) (mj : Nat) (as S' : List Value), zok md mi pc → pm_step pm_swA mi pc L S h = some (.inr (.inr (mj, as, S'))) → pm_prim mj as = none → 0 < d → px (d - 1) mj 0 (lv_args 0 as) [] h (fun v h1 => P (pc + 3) L (v.toList ++ S') h1) → P pc L S h) ∧
  (∀ (pc : Nat) (L : pm_L) (S : List Value) (h : pm_H) (i : Instr) (h' : pm_H) (S' : List Value), zok md mi pc → pm_step pm_swA mi pc L S h = none → pm_fd (pm_code mi) pc = some i → pm_cpy i pm_swA (pm_ow mi) h S = some (h', S') → 0 < d → P (pc + 3) L S' h' → P pc L S h)
theorem zstep_ok {mi pc pc' : Nat} {i : Instr} {M M' : zM} {S S' : List zv} {L : pm_L} {h : pm_H} (hf : pm_fd (pm_code mi) pc = some i) (hz : zstep i (pm_mx mi) pc M S = some (pc', M', S')) (hL : zlr M L) : ∃ L', pm_step pm_swA mi pc L (S.map zV) h = some (.inl (pc', L', S'.map zV, h)) ∧ zlr M' L' := by
  unfold zstep at hz
  split at hz
  · cases hz; exact ⟨L, by unfold pm_step; rw [hf]; rfl, hL⟩
  · rename_i n
    obtain ⟨hg, he⟩ := pm_bif hz
    cases he
    obtain ⟨g1, g2⟩ := Bool.and_eq_true_iff.mp hg
    have g1 := of_decide_eq_true g1
    have g2 := of_decide_eq_true g2
    refine ⟨L, ?_, hL⟩
    have e : (Int8.ofInt n).toInt32 = Int32.ofInt n := by
      apply Int32.toInt_inj.mp
      rw [Int8.toInt_toInt32, Int8.toInt_ofInt_of_le (by omega) (by omega), zi_to (by omega) (by omega)]
    unfold pm_step
    rw [hf]
    show some (Sum.inl (pc + 2, L, Value.int (Int8.ofInt n).toInt32 :: S.map zV, h)) = _
    rw [e]
    rfl
  · rename_i n
    obtain ⟨hg, he⟩ := pm_bif hz
    cases he
    obtain ⟨g1, g2⟩ := Bool.and_eq_true_iff.mp hg
    have g1 := of_decide_eq_true g1
    have g2 := of_decide_eq_true g2
    refine ⟨L, ?_, hL⟩
    have e : (Int16.ofInt n).toInt32 = Int32.ofInt n := by
      apply Int32.toInt_inj.mp
      rw [Int16.toInt_toInt32, Int16.toInt_ofInt_of_le (by omega) (by omega), zi_to (by omega) (by omega)]
    unfold pm_step
    rw [hf]
    show some (Sum.inl (pc + 3, L, Value.int (Int16.ofInt n).toInt32 :: S.map zV, h)) = _
    rw [e]
    rfl
  · rename_i n
    cases hz
    refine ⟨L, ?_, hL⟩
    unfold pm_step
    rw [hf]
    show some (Sum.inl (pc + 1, L, Value.long (Int64.ofNat (n : Nat)) :: S.map zV, h)) = some (Sum.inl (pc + 1, L, Value.long (Int64.ofInt ((n : Nat) : Int)) :: S.map zV, h))
    rw [Int64.ofInt_eq_ofNat]
  · split at hz
    · rename_i x e
      cases hz
      have e2 : pm_at L _ = some (.int (Int32.ofInt x)) := hL _ _ e
      refine ⟨L, ?_, hL⟩
      unfold pm_step
      rw [hf]
      simp only [pm_push, pm_atI, e2, Option.map_some]
      rfl
    · cases hz
  · split at hz
    · rename_i x e
      cases hz
      have e2 : pm_at L _ = some (.int (Int32.ofInt x)) := hL _ _ e
      refine ⟨L, ?_, hL⟩
      unfold pm_step
      rw [hf]
      simp only [pm_push, pm_atI, e2, Option.map_some]
      rfl
    · cases hz
  · split at hz
    · rename_i x e
      cases hz
      have e2 : pm_at L _ = some (.long (Int64.ofInt x)) := hL _ _ e
      refine ⟨L, ?_, hL⟩
      unfold pm_step
      rw [hf]
      simp only [pm_push, pm_atL, e2, Option.map_some]
      rfl
    · cases hz
  · split at hz
    · rename_i x e
      cases hz
      have e2 : pm_at L _ = some (.long (Int64.ofInt x)) := hL _ _ e
      refine ⟨L, ?_, hL⟩
      unfold pm_step
      rw [hf]
      simp only [pm_push, pm_atL, e2, Option.map_some]
      rfl
    · cases hz
  · split at hz
    · rename_i x e
      cases hz
      have e2 : pm_at L _ = some (.ref x) := hL _ _ e
      refine ⟨L, ?_, hL⟩
      unfold pm_step
      rw [hf]
      simp only [pm_push, pm_atR, e2, Option.map_some]
      rfl
    · cases hz
  · split at hz
    · rename_i x e
      cases hz
      have e2 : pm_at L _ = some (.ref x) := hL _ _ e
      refine ⟨L, ?_, hL⟩
      unfold pm_step
      rw [hf]
      simp only [pm_push, pm_atR, e2, Option.map_some]
      rfl
    · cases hz
  · split at hz
    · obtain ⟨hg, he⟩ := pm_bif hz
      cases he
      refine ⟨_, ?_, zlr_st1 hL _ _⟩
      unfold pm_step
      rw [hf]
      simp only [pm_push, pm_ari, pm_br, pm_sto, List.map_cons, zV, hg, cond_true]
      rfl
    · cases hz
  · split at hz
    · obtain ⟨hg, he⟩ := pm_bif hz
      cases he
      refine ⟨_, ?_, zlr_st1 hL _ _⟩
      unfold pm_step
      rw [hf]
      simp only [pm_push, pm_ari, pm_br, pm_sto, List.map_cons, zV, hg, cond_true]
      rfl
    · cases hz
  · split at hz
    · obtain ⟨hg, he⟩ := pm_bif hz
      cases he
      refine ⟨_, ?_, zlr_st1 hL _ _⟩
      unfold pm_step
      rw [hf]
      simp only [pm_push, pm_ari, pm_br, pm_sto, List.map_cons, zV, hg, cond_true]
      rfl
    · cases hz
  · split at hz
    · obtain ⟨hg, he⟩ := pm_bif hz
      cases he
      refine ⟨_, ?_, zlr_st1 hL _ _⟩
      unfold pm_step
      rw [hf]
      simp only [pm_push, pm_ari, pm_br, pm_sto, List.map_cons, zV, hg, cond_true]
      rfl
    · cases hz
  · split at hz
    · obtain ⟨hg, he⟩ := pm_bif hz
      cases he
      refine ⟨_, ?_, zlr_st2 hL _ _⟩
      unfold pm_step
      rw [hf]
      simp only [pm_push, pm_ari, pm_br, pm_sto, List.map_cons, zV, hg, cond_true]
      rfl
    · cases hz
  · split at hz
    · obtain ⟨hg, he⟩ := pm_bif hz
      cases he
      refine ⟨_, ?_, zlr_st2 hL _ _⟩
      unfold pm_step
      rw [hf]
      simp only [pm_push, pm_ari, pm_br, pm_sto, List.map_cons, zV, hg, cond_true]
      rfl
    · cases hz
  · split at hz
    · rename_i k n _ x e
      obtain ⟨hg, he⟩ := pm_bif hz
      cases he
      have e2 : pm_at L _ = some (.int (Int32.ofInt x)) := hL _ _ e
      refine ⟨_, ?_, zlr_st1 hL _ _⟩
      unfold pm_step
      rw [hf]
      simp only [pm_push, pm_ari, pm_br, pm_sto, pm_atI, e2, hg, cond_true]
      show some (Sum.inl (pc + 3, pm_st1 L k (.int (Int32.ofInt x + Int32.ofInt n)), S.map zV, h)) = some (Sum.inl (pc + 3, pm_st1 L k (.int (Int32.ofInt (x + n))), S.map zV, h))
      rw [Int32.ofInt_add]
    · cases hz
  · split at hz
    · rename_i y x S1
      cases hz
      refine ⟨L, ?_, hL⟩
      unfold pm_step
      rw [hf]
      show some (Sum.inl (pc + 1, L, Value.int (Int32.ofInt x + Int32.ofInt y) :: S1.map zV, h)) = some (Sum.inl (pc + 1, L, Value.int (Int32.ofInt (x + y)) :: S1.map zV, h))
      rw [Int32.ofInt_add]
    · cases hz
  · split at hz
    · rename_i y x S1
      cases hz
      refine ⟨L, ?_, hL⟩
      unfold pm_step
      rw [hf]
      show some (Sum.inl (pc + 1, L, Value.int (Int32.ofInt x - Int32.ofInt y) :: S1.map zV, h)) = some (Sum.inl (pc + 1, L, Value.int (Int32.ofInt (x - y)) :: S1.map zV, h))
      rw [Int32.ofInt_sub]
    · cases hz
  · split at hz
    · rename_i y x S1
      cases hz
      refine ⟨L, ?_, hL⟩
      unfold pm_step
      rw [hf]
      show some (Sum.inl (pc + 1, L, Value.int (Int32.ofInt x * Int32.ofInt y) :: S1.map zV, h)) = some (Sum.inl (pc + 1, L, Value.int (Int32.ofInt (x * y)) :: S1.map zV, h))
      rw [Int32.ofInt_mul]
    · cases hz
  · split at hz
    · rename_i x S1
      cases hz
      refine ⟨L, ?_, hL⟩
      unfold pm_step
      rw [hf]
      show some (Sum.inl (pc + 1, L, Value.int (-Int32.ofInt x) :: S1.map zV, h)) = some (Sum.inl (pc + 1, L, Value.int (Int32.ofInt (-x)) :: S1.map zV, h))
      rw [Int32.ofInt_neg]
    · cases hz
  · split at hz
    · rename_i y x S1
      cases hz
      refine ⟨L, ?_, hL⟩
      unfold pm_step
      rw [hf]
      show some (Sum.inl (pc + 1, L, Value.long (Int64.ofInt x + Int64.ofInt y) :: S1.map zV, h)) = some (Sum.inl (pc + 1, L, Value.long (Int64.ofInt (x + y)) :: S1.map zV, h))
      rw [Int64.ofInt_add]
    · cases hz
  · split at hz
    · rename_i y x S1
      cases hz
      refine ⟨L, ?_, hL⟩
      unfold pm_step
      rw [hf]
      show some (Sum.inl (pc + 1, L, Value.long (Int64.ofInt x * Int64.ofInt y) :: S1.map zV, h)) = some (Sum.inl (pc + 1, L, Value.long (Int64.ofInt (x * y)) :: S1.map zV, h))
      rw [Int64.ofInt_mul]
    · cases hz
  · split at hz
    · cases hz; exact ⟨L, by unfold pm_step; rw [hf]; rfl, hL⟩
    · cases hz; exact ⟨L, by unfold pm_step; rw [hf]; rfl, hL⟩
    · cases hz
  · split at hz
    · cases hz; exact ⟨L, by unfold pm_step; rw [hf]; rfl, hL⟩
    · cases hz; exact ⟨L, by unfold pm_step; rw [hf]; rfl, hL⟩
    · cases hz
  · split at hz
    · cases hz; exact ⟨L, by unfold pm_step; rw [hf]; rfl, hL⟩
    · cases hz
  · split at hz
    · cases hz; exact ⟨L, by unfold pm_step; rw [hf]; rfl, hL⟩
    · cases hz; exact ⟨L, by unfold pm_step; rw [hf]; rfl, hL⟩
    · cases hz
  · rename_i off
    obtain ⟨t, ht, he⟩ := Option.map_eq_some_iff.mp hz
    cases he
    refine ⟨L, ?_, hL⟩
    unfold pm_step
    rw [hf]
    simp only [pm_push, pm_ari, pm_br, ht, Option.map_some]
  · cases hz
section ZH
variable {d mi : Nat} {md : Bool} {P : Nat → pm_L → List Value → pm_H → Prop} {R : Option Value → pm_H → Prop} {pc : Nat} {L : pm_L} {h : pm_H}
theorem zh_I (hS : zS d mi md P R) (hok : zok md mi pc) {S0 : List Value} {x : Int32} {S2 : List zv} {k : Nat → List zv → Prop} (hst : pm_step pm_swA mi pc L S0 h = some (.inl (pc + 1, L, .int x :: S2.map zV, h))) (H : zaI (fun c => k (pc + 1) (.inl c :: S2))) (hk : ∀ pc' S', k pc' S' → P pc' L (S'.map zV) h) : P pc L S0 h := by
  obtain ⟨c, rfl, c1, c2⟩ := zi_rng x
  exact hS.1 _ _ _ _ _ _ _ _ hok hst (hk _ _ (H c c1 c2))
theorem zh_L (hS : zS d mi md P R) (hok : zok md mi pc) {S0 : List Value} {x : Int64} {S2 : List zv} {k : Nat → List zv → Prop} (hst : pm_step pm_swA mi pc L S0 h = some (.inl (pc + 1, L, .long x :: S2.map zV, h))) (H : zaL (fun c => k (pc + 1) (.inr (.inl c) :: S2))) (hk : ∀ pc' S', k pc' S' → P pc' L (S'.map zV) h) : P pc L S0 h := by
  obtain ⟨c, rfl, c1, c2⟩ := zl_rng x
  exact hS.1 _ _ _ _ _ _ _ _ hok hst (hk _ _ (H c c1 c2))
theorem zs_if {c : ClassFile.Cond} {off : Int} {t : Nat} {x : Int32} {S2 : List Value} (hf : pm_fd (pm_code mi) pc = some (.ifCond c off)) (hj : pm_jmp pc off = some t) : pm_step pm_swA mi pc L (.int x :: S2) h = some (.inl (bif pm_c0 c x then t else pc + 3, L, S2, h)) := by
  unfold pm_step
  rw [hf]
  simp only [pm_push, pm_ari, pm_br, pm_if, hj]
theorem zs_ic {c : ClassFile.Cond} {off : Int} {t : Nat} {x y : Int32} {S2 : List Value} (hf : pm_fd (pm_code mi) pc = some (.if_icmp c off)) (hj : pm_jmp pc off = some t) : pm_step pm_swA mi pc L (.int y :: .int x :: S2) h = some (.inl (bif pm_c2 c x y then t else pc + 3, L, S2, h)) := by
  unfold pm_step
  rw [hf]
  simp only [pm_push, pm_ari, pm_br, pm_if, hj]
theorem zhv_ok (hS : zS d mi md P R) {i : Instr} {S : List zv} {k : Nat → List zv → Prop} (hf : pm_fd (pm_code mi) pc = some i) (H : zhv i pc S k) (hk : ∀ pc' S', k pc' S' → P pc' L (S'.map zV) h) : P pc L (S.map zV) h := by
  unfold zhv at H
  split at H
  · split at H
    · exact zh_I hS (fun _ => by unfold pt_stop; rw [hf]) (by unfold pm_step; rw [hf]; rfl) H hk
    · exact H.elim
  · split at H
    · exact zh_I hS (fun _ => by unfold pt_stop; rw [hf]) (by unfold pm_step; rw [hf]; rfl) H hk
    · exact H.elim
  · split at H
    · exact zh_I hS (fun _ => by unfold pt_stop; rw [hf]) (by unfold pm_step; rw [hf]; rfl) H hk
    · exact H.elim
  · split at H
    · exact zh_I hS (fun _ => by unfold pt_stop; rw [hf]) (by unfold pm_step; rw [hf]; rfl) H hk
    · exact H.elim
  · split at H
    · exact zh_I hS (fun _ => by unfold pt_stop; rw [hf]) (by unfold pm_step; rw [hf]; rfl) H hk
    · exact H.elim
  · split at H
    · exact zh_I hS (fun _ => by unfold pt_stop; rw [hf]) (by unfold pm_step; rw [hf]; rfl) H hk
    · exact H.elim
  · split at H
    · exact zh_I hS (fun _ => by unfold pt_stop; rw [hf]) (by unfold pm_step; rw [hf]; rfl) H hk
    · exact H.elim
  · split at H
    · exact zh_I hS (fun _ => by unfold pt_stop; rw [hf]) (by unfold pm_step; rw [hf]; rfl) H hk
    · exact H.elim
  · split at H
    · exact zh_I hS (fun _ => by unfold pt_stop; rw [hf]) (by unfold pm_step; rw [hf]; rfl) H hk
    · exact H.elim
  · split at H
    · rename_i y x S1
      obtain ⟨⟨y1, y2, y3⟩, H⟩ := H
      have hne : ¬ Int32.ofInt y = 0 := by rw [zi_00, zi_eq ⟨y1, y2⟩ zi_z]; exact y3
      refine zh_I (x := Int32.ofInt x / Int32.ofInt y) hS (fun _ => by unfold pt_stop; rw [hf]) ?_ H hk
      unfold pm_step
      rw [hf]
      simp only [pm_push, pm_ari, List.map_cons, zV, if_neg hne]
      rfl
    · exact H.elim
  · split at H
    · rename_i y x S1
      obtain ⟨⟨y1, y2, y3⟩, H⟩ := H
      have hne : ¬ Int32.ofInt y = 0 := by rw [zi_00, zi_eq ⟨y1, y2⟩ zi_z]; exact y3
      refine zh_I (x := Int32.ofInt x - Int32.ofInt x / Int32.ofInt y * Int32.ofInt y) hS (fun _ => by unfold pt_stop; rw [hf]) ?_ H hk
      unfold pm_step
      rw [hf]
      simp only [pm_push, pm_ari, List.map_cons, zV, if_neg hne]
      rfl
    · exact H.elim
  · split at H
    · exact zh_I hS (fun _ => by unfold pt_stop; rw [hf]) (by unfold pm_step; rw [hf]; rfl) H hk
    · exact H.elim
  · split at H
    · exact zh_I hS (fun _ => by unfold pt_stop; rw [hf]) (by unfold pm_step; rw [hf]; rfl) H hk
    · exact H.elim
  · split at H
    · exact zh_L hS (fun _ => by unfold pt_stop; rw [hf]) (by unfold pm_step; rw [hf]; rfl) H hk
    · exact H.elim
  · split at H
    · exact zh_L hS (fun _ => by unfold pt_stop; rw [hf]) (by unfold pm_step; rw [hf]; rfl) H hk
    · exact H.elim
  · split at H
    · exact zh_L hS (fun _ => by unfold pt_stop; rw [hf]) (by unfold pm_step; rw [hf]; rfl) H hk
    · exact H.elim
  · split at H
    · exact zh_L hS (fun _ => by unfold pt_stop; rw [hf]) (by unfold pm_step; rw [hf]; rfl) H hk
    · exact H.elim
  · split at H
    · exact zh_L hS (fun _ => by unfold pt_stop; rw [hf]) (by unfold pm_step; rw [hf]; rfl) H hk
    · exact H.elim
  · split at H
    · rename_i c off _ x S1
      unfold zjmp at H
      split at H
      · rename_i t ht
        refine hS.1 _ _ _ _ _ _ _ _ (fun _ => by unfold pt_stop; rw [hf]) (zs_if hf ht) ?_
        cases pm_c0 c (Int32.ofInt x) with
        | true => exact hk _ _ H.1
        | false => exact hk _ _ H.2
      · exact H.elim
    · exact H.elim
  · split at H
    · rename_i c off _ y x S1
      unfold zjmp at H
      split at H
      · rename_i t ht
        refine hS.1 _ _ _ _ _ _ _ _ (fun _ => by unfold pt_stop; rw [hf]) (zs_ic hf ht) ?_
        cases pm_c2 c (Int32.ofInt x) (Int32.ofInt y) with
        | true => exact hk _ _ H.1
        | false => exact hk _ _ H.2
      · exact H.elim
    · exact H.elim
  · exact H.elim
end ZH
end
section
/-! The calculus is sound: steps that ask for something, and the whole -/
section ZB
variable {d mi : Nat} {md : Bool} {P : Nat → pm_L → List Value → pm_H → Prop} {R : Option Value → pm_H → Prop} {pc : Nat} {L : pm_L} {h : zh}
theorem ztb_at {x : Int} {pc : Nat} {f : Nat → Prop} : ∀ (l : List Int) (v : Int) (j : Nat) (o : Int), ztb x pc f l v → l[j]? = some o → x = v + (j : Int) → zjmp pc o f := by
  intro l
  induction l with
  | nil => intro v j o _ h; cases h
  | cons a l ih =>
    intro v j o H hj hx
    cases j with
    | zero =>
      have : a = o := Option.some.inj hj
      subst this
      exact H.1 (by simpa using hx)
    | succ j => exact ih (v + 1) j o H.2 hj (by omega)
theorem zlk_at {x : Int} {pc : Nat} {f : Nat → Prop} {dd : Int} : ∀ (l : List (Int × Int)), zlk x pc f l → (zno x l → zjmp pc dd f) → zjmp pc (Op.lookupswitch.offset l dd x) f := by
  intro l
  induction l with
  | nil => intro _ h; exact h trivial
  | cons q l ih =>
    intro H hd
    obtain ⟨a, o⟩ := q
    rw [Op.lookupswitch.offset_cons]
    by_cases e : a = x
    · rw [if_pos e]
      exact H.1 e.symm
    · rw [if_neg e]
      exact ih H.2 (fun z => hd ⟨fun w => e w.symm, z⟩)
theorem zs_call {i : Instr} {S0 S' : List Value} {mj : Nat} {as : List Value} {h : pm_H} (hi : (∃ k, i = .invokevirtual k) ∨ ∃ k, i = .invokestatic k) (hf : pm_fd (pm_code mi) pc = some i) (hc : pm_call i pm_swA (pm_ow mi) S0 = some (mj, as, S')) : pm_step pm_swA mi pc L S0 h = some (.inr (.inr (mj, as, S'))) := by
  unfold pm_step
  rw [hf]
  rcases hi with ⟨k, rfl⟩ | ⟨k, rfl⟩
  · simp only [pm_push, pm_ari, pm_br, pm_sto, pm_read, pm_rd0, pm_cst, pm_write, pm_ret, hc]
  · simp only [pm_push, pm_ari, pm_br, pm_sto, pm_read, pm_rd0, pm_cst, pm_write, pm_ret, hc]
theorem zcl_ok (hS : zS d mi md P R) (hok : zok md mi pc) {mj : Nat} {as S2 : List zv} {S0 : List Value} {k : List zv → zh → Prop} (hst : pm_step pm_swA mi pc L S0 (zc h) = some (.inr (.inr (mj, as.map zV, S2.map zV)))) (hp : Nat.beq mj 167 = false) (H : zcl d mj as h k) (hk : ∀ v h', k v h' → P (pc + 3) L (v.map zV ++ S2.map zV) (zc h')) : P pc L S0 (zc h) := by
  obtain ⟨hd, H⟩ := H
  refine hS.2.2.1 _ _ _ _ _ _ _ hok hst (by unfold pm_prim; rw [hp]; rfl) hd ?_
  split at H
  · refine px_imp H ?_
    rintro v h1 ⟨A, B, Y, K, T, rfl, rfl, q⟩
    exact hk _ _ q
  · refine px_imp H ?_
    rintro v h1 ⟨n, A, B, Y, K, T, rfl, rfl, q⟩
    exact hk _ _ q
  · refine px_imp H ?_
    rintro v h1 ⟨n, A, B, Y, K, T, rfl, rfl, q⟩
    exact hk _ _ q
theorem zblt_f {a : Nat} (h : 1000 ≤ a) : Nat.blt a 1000 = false := by
  cases e : Nat.blt a 1000 with
  | false => rfl
  | true => exact absurd (pm_blt e) (by omega)
set_option maxHeartbeats 4000000 in
theorem zb_ok (hS : zS d mi md P R) {Q : Option zv → zh → Prop} {lf : Nat → zM → List zv → zh → Prop} {i : Instr} {M : zM} {S : List zv} {k : Nat → zM → List zv → zh → Prop} (hf : pm_fd (pm_code mi) pc = some i) (hL : zlr M L) (H : zb d mi md Q lf i pc M S h k)
    (hlf : ∀ pc M S h, lf pc M S h → ∀ L, zlr M L → P pc L (S.map zV) (zc h)) (hQ : ∀ w h, Q w h → R (w.map zV) (zc h)) (hk : ∀ pc' M' S' h', k pc' M' S' h' → ∀ L', zlr M' L' → P pc' L' (S'.map zV) (zc h')) : P pc L (S.map zV) (zc h) := by
  unfold zb at H
  split at H
  · -- ifCond
    split at H
    · rename_i c off _ x S1
      unfold zjmp at H
      split at H
      · rename_i t ht
        obtain ⟨hr, H1, H2⟩ := H
        refine hS.1 _ _ _ _ _ _ _ _ (fun _ => by unfold pt_stop; rw [hf]) (zs_if hf ht) ?_
        rcases zc0_cases (c := c) hr with ⟨q1, q2⟩ | ⟨q1, q2⟩
        · rw [q1]; exact hk _ _ _ _ (H1 q2) L hL
        · rw [q1]; exact hk _ _ _ _ (H2 q2) L hL
      · exact H.elim
    · exact H.elim
  · -- if_icmp
    split at H
    · rename_i c off _ y x S1
      unfold zjmp at H
      split at H
      · rename_i t ht
        obtain ⟨hr, hr2, H1, H2⟩ := H
        refine hS.1 _ _ _ _ _ _ _ _ (fun _ => by unfold pt_stop; rw [hf]) (zs_ic hf ht) ?_
        rcases zc2_cases (c := c) hr hr2 with ⟨q1, q2⟩ | ⟨q1, q2⟩
        · rw [q1]; exact hk _ _ _ _ (H1 q2) L hL
        · rw [q1]; exact hk _ _ _ _ (H2 q2) L hL
      · exact H.elim
    · exact H.elim
  · -- if_acmp
    split at H
    · rename_i c off _ y x S1
      unfold zjmp at H
      split at H
      · rename_i t ht
        obtain ⟨⟨x1, x2⟩, ⟨y1, y2⟩, H⟩ := H
        have kx : pm_kc x = true := Bool.and_eq_true_iff.mpr ⟨Nat.ble_eq_true_of_le x1, Nat.ble_eq_true_of_le x2⟩
        have ky : pm_kc y = true := Bool.and_eq_true_iff.mpr ⟨Nat.ble_eq_true_of_le y1, Nat.ble_eq_true_of_le y2⟩
        cases c with
        | eq =>
          have hst : pm_step pm_swA mi pc L (List.map zV (.inr (.inr y) :: .inr (.inr x) :: S1)) (zc h) = some (.inl (bif Nat.beq x y then t else pc + 3, L, S1.map zV, zc h)) := by
            unfold pm_step
            rw [hf]
            simp only [pm_push, pm_ari, pm_br, pm_if, List.map_cons, zV, kx, ky, Bool.and_self, cond_true, ht]
          refine hS.1 _ _ _ _ _ _ _ _ (fun _ => by unfold pt_stop; rw [hf]) hst ?_
          by_cases e : x = y
          · subst e
            rw [Nat.beq_refl]
            exact hk _ _ _ _ (H.1 rfl) L hL
          · rw [pg_nb (fun z => e z.symm)]
            exact hk _ _ _ _ (H.2 e) L hL
        | ne =>
          have hst : pm_step pm_swA mi pc L (List.map zV (.inr (.inr y) :: .inr (.inr x) :: S1)) (zc h) = some (.inl (bif !Nat.beq x y then t else pc + 3, L, S1.map zV, zc h)) := by
            unfold pm_step
            rw [hf]
            simp only [pm_push, pm_ari, pm_br, pm_if, List.map_cons, zV, kx, ky, Bool.and_self, cond_true, ht]
          refine hS.1 _ _ _ _ _ _ _ _ (fun _ => by unfold pt_stop; rw [hf]) hst ?_
          by_cases e : x = y
          · subst e
            rw [Nat.beq_refl]
            exact hk _ _ _ _ (H.2 rfl) L hL
          · rw [pg_nb (fun z => e z.symm)]
            exact hk _ _ _ _ (H.1 e) L hL
      · exact H.elim
    · exact H.elim
  · -- tableswitch
    split at H
    · rename_i dd lo hi offs _ x S1
      obtain ⟨⟨r1, r2⟩, H1, H2⟩ := H
      have hx := zi_to r1 r2
      cases hg : decide (lo + (offs.toList.length : Int) = hi + 1) with
      | false => rw [hg] at H2; exact H2.elim
      | true =>
      rw [hg] at H2
      have hg := of_decide_eq_true hg
      by_cases hv : x < lo ∨ hi < x
      · have H1 := H1 hv
        unfold zjmp at H1
        split at H1
        · rename_i t ht
          have hst : pm_step pm_swA mi pc L (List.map zV (.inl x :: S1)) (zc h) = some (.inl (t, L, S1.map zV, zc h)) := by
            unfold pm_step
            rw [hf]
            simp only [pm_push, pm_ari, pm_br, List.map_cons, zV, hx, if_pos hv, ht, Option.map_some]
          exact hS.1 _ _ _ _ _ _ _ _ (fun _ => by unfold pt_stop; rw [hf]) hst (hk _ _ _ _ H1 L hL)
        · exact H1.elim
      · have hlt : (x - lo).toNat < offs.toList.length := by omega
        have hat : offs.toList[(x - lo).toNat]? = some (offs.toList[(x - lo).toNat]) := List.getElem?_eq_getElem hlt
        have H3 := ztb_at _ _ _ _ H2 hat (by omega)
        unfold zjmp at H3
        split at H3
        · rename_i t ht
          have hst : pm_step pm_swA mi pc L (List.map zV (.inl x :: S1)) (zc h) = some (.inl (t, L, S1.map zV, zc h)) := by
            unfold pm_step
            rw [hf]
            have hat2 : offs[(x - lo).toNat]? = some (offs.toList[(x - lo).toNat]) := by rw [← Array.getElem?_toList]; exact hat
            simp only [pm_push, pm_ari, pm_br, List.map_cons, zV, hx, if_neg hv, hat2, ht, Option.map_some]
          exact hS.1 _ _ _ _ _ _ _ _ (fun _ => by unfold pt_stop; rw [hf]) hst (hk _ _ _ _ H3 L hL)
        · exact H3.elim
    · exact H.elim
  · -- lookupswitch
    split at H
    · rename_i dd ps _ x S1
      cases hg : (ps.toList.zip (ps.toList.drop 1)).all (fun (a, next) => a.1 < next.1) with
      | false => rw [hg] at H; exact H.elim
      | true =>
        rw [hg] at H
        obtain ⟨⟨r1, r2⟩, H1, H2⟩ := H
        have hx := zi_to r1 r2
        have H3 := zlk_at _ H1 H2
        unfold zjmp at H3
        split at H3
        · rename_i t ht
          have hst : pm_step pm_swA mi pc L (List.map zV (.inl x :: S1)) (zc h) = some (.inl (t, L, S1.map zV, zc h)) := by
            unfold pm_step
            rw [hf]
            simp only [pm_push, pm_ari, pm_br, List.map_cons, zV, hx, hg, cond_true, ht, Option.map_some]
          exact hS.1 _ _ _ _ _ _ _ _ (fun _ => by unfold pt_stop; rw [hf]) hst (hk _ _ _ _ H3 L hL)
        · exact H3.elim
    · exact H.elim
  · -- i2l
    split at H
    · rename_i x S1
      obtain ⟨⟨r1, r2⟩, H⟩ := H
      have e : (Int32.ofInt x).toInt64 = Int64.ofInt x := by
        apply Int64.toInt_inj.mp
        rw [Int32.toInt_toInt64, zi_to r1 r2, zl_to (by omega) (by omega)]
      refine hS.1 _ _ _ _ (pc + 1) L (.long (Int64.ofInt x) :: S1.map zV) (zc h) (fun _ => by unfold pt_stop; rw [hf]) ?_ (hk _ _ _ _ H L hL)
      unfold pm_step
      rw [hf]
      show some (Sum.inl (pc + 1, L, Value.long (Int32.ofInt x).toInt64 :: S1.map zV, zc h)) = _
      rw [e]
    · exact H.elim
  · -- l2i
    split at H
    · rename_i x S1
      refine hS.1 _ _ _ _ (pc + 1) L (.int (Int32.ofInt x) :: S1.map zV) (zc h) (fun _ => by unfold pt_stop; rw [hf]) ?_ (hk _ _ _ _ H L hL)
      unfold pm_step
      rw [hf]
      show some (Sum.inl (pc + 1, L, Value.int (Int64.ofInt x).toInt32 :: S1.map zV, zc h)) = _
      rw [Int64.toInt32_ofInt]
    · exact H.elim
  · -- lcmp
    split at H
    · rename_i y x S1
      obtain ⟨r1, r2, H1, H2, H3⟩ := H
      have hst : pm_step pm_swA mi pc L (List.map zV (.inr (.inl y) :: .inr (.inl x) :: S1)) (zc h) = some (.inl (pc + 1, L, .int (lg_cmp (Int64.ofInt x) (Int64.ofInt y)) :: S1.map zV, zc h)) := by
        unfold pm_step
        rw [hf]
        rfl
      refine hS.1 _ _ _ _ _ _ _ _ (fun _ => by unfold pt_stop; rw [hf]) hst ?_
      rcases zlc_cases r1 r2 with ⟨q1, q2⟩ | ⟨q1, q2⟩ | ⟨q1, q2⟩
      · rw [q1]; exact hk _ _ _ _ (H1 q2) L hL
      · rw [q1]; exact hk _ _ _ _ (H2 q2) L hL
      · rw [q1]; exact hk _ _ _ _ (H3 q2) L hL
    · exact H.elim
  · -- getfield
    split at H
    · rename_i idx _ a S1
      split at H
      · rename_i hkf
        obtain ⟨⟨a1, a2⟩, H⟩ := H
        obtain ⟨z1, z2, z3⟩ := zkv_ok a1 a2
        refine hS.1 _ _ _ _ (pc + 3) L (.int (Int32.ofInt (zlev a)) :: S1.map zV) (zc h) (fun _ => by unfold pt_stop; rw [hf]) ?_ (hk _ _ _ _ H L hL)
        unfold pm_step
        rw [hf]
        simp only [pm_push, pm_ari, pm_br, pm_sto, pm_read, pm_rd0, List.map_cons, zV, zblt_f a1, cond_false, hkf, z1, Option.map_some]
        rfl
      · rename_i hkf
        obtain ⟨⟨a1, a2⟩, H⟩ := H
        obtain ⟨z1, z2, z3⟩ := zkv_ok a1 a2
        refine hS.1 _ _ _ _ (pc + 3) L (.int (Int32.ofInt (zop a)) :: S1.map zV) (zc h) (fun _ => by unfold pt_stop; rw [hf]) ?_ (hk _ _ _ _ H L hL)
        unfold pm_step
        rw [hf]
        simp only [pm_push, pm_ari, pm_br, pm_sto, pm_read, pm_rd0, List.map_cons, zV, zblt_f a1, cond_false, hkf, z2, Option.map_some]
        rfl
      · rename_i hkf
        obtain ⟨⟨a1, a2⟩, H⟩ := H
        obtain ⟨z1, z2, z3⟩ := zkv_ok a1 a2
        refine hS.1 _ _ _ _ (pc + 3) L (.ref (a + 2000) :: S1.map zV) (zc h) (fun _ => by unfold pt_stop; rw [hf]) ?_ (hk _ _ _ _ H L hL)
        unfold pm_step
        rw [hf]
        simp only [pm_push, pm_ari, pm_br, pm_sto, pm_read, pm_rd0, List.map_cons, zV, zblt_f a1, cond_false, hkf, z3, Option.map_some]
        rfl
      · exact H.elim
      · split at H
        · rename_i ci kk hgf
          cases hg : (Nat.blt a 1000 && pm_isO pm_swA a ci) with
          | false => rw [hg] at H; exact H.elim
          | true =>
            rw [hg] at H
            obtain ⟨g1, g2⟩ := Bool.and_eq_true_iff.mp hg
            dsimp only [cond] at H
            split at H
            · rename_i ty hty
              split at H
              · rename_i hc
                refine hS.1 _ _ _ _ (pc + 3) L (.int (Int32.ofInt (zrd h a kk)) :: S1.map zV) (zc h) (fun _ => by unfold pt_stop; rw [hf]) ?_ (hk _ _ _ _ H L hL)
                unfold pm_step
                rw [hf]
                simp only [pm_push, pm_ari, pm_br, pm_sto, pm_read, pm_rd0, List.map_cons, zV, g1, cond_true, hgf, g2, hty, pm_get, hc, Option.map_some]
                rfl
              · rename_i hc
                refine hS.1 _ _ _ _ (pc + 3) L (.long (Int64.ofInt (h.2.2.1 a kk)) :: S1.map zV) (zc h) (fun _ => by unfold pt_stop; rw [hf]) ?_ (hk _ _ _ _ H L hL)
                unfold pm_step
                rw [hf]
                simp only [pm_push, pm_ari, pm_br, pm_sto, pm_read, pm_rd0, List.map_cons, zV, g1, cond_true, hgf, g2, hty, pm_get, hc, Option.map_some]
                rfl
              · rename_i hc0 hc1
                split at H
                · rename_i r hr
                  have hc : pm_cat ty = 2 := by
                    clear hty
                    cases ty <;> first | rfl | exact (hc0 rfl).elim | exact (hc1 rfl).elim
                  have hr2 : (zc h).2.2 a kk = some r := hr
                  refine hS.1 _ _ _ _ (pc + 3) L (.ref r :: S1.map zV) (zc h) (fun _ => by unfold pt_stop; rw [hf]) ?_ (hk _ _ _ _ H L hL)
                  unfold pm_step
                  rw [hf]
                  simp only [pm_push, pm_ari, pm_br, pm_sto, pm_read, pm_rd0, List.map_cons, zV, g1, cond_true, hgf, g2, hty, pm_get, hc, hr2, Option.map_some]
                  rfl
                · exact H.elim
            · exact H.elim
        · exact H.elim
    · exact H.elim
  · -- getstatic
    split at H
    · rename_i idx _ j hj
      refine hS.1 _ _ _ _ (pc + 3) L (.ref (pm_kst.getD j ("", "", "", 0)).2.2.2 :: S.map zV) (zc h) (fun _ => by unfold pt_stop; rw [hf]) ?_ (hk _ _ _ _ H L hL)
      unfold pm_step
      rw [hf]
      simp only [pm_push, pm_ari, pm_br, pm_sto, pm_read, pm_rd0, hj, Option.map_some]
      rfl
    · exact H.elim
  · -- ldc2_w
    split at H
    · rename_i idx _ v hv
      refine hS.1 _ _ _ _ (pc + 3) L (.long (Int64.ofInt v.toInt) :: S.map zV) (zc h) (fun _ => by unfold pt_stop; rw [hf]) ?_ (hk _ _ _ _ H L hL)
      unfold pm_step
      rw [hf, Int64.ofInt_toInt]
      simp only [pm_push, pm_ari, pm_br, pm_sto, pm_read, pm_rd0, hv, Option.map_some]
      rfl
    · exact H.elim
  · -- arraylength
    split at H
    · rename_i _ a S1
      cases ha : Nat.beq a 2000 with
      | true =>
        rw [ha] at H
        have ha := Nat.eq_of_beq_eq_true ha
        subst ha
        refine hS.1 _ _ _ _ (pc + 1) L (.int (Int32.ofInt 39) :: S1.map zV) (zc h) (fun _ => by unfold pt_stop; rw [hf]) ?_ (hk _ _ _ _ H L hL)
        unfold pm_step
        rw [hf]
        rfl
      | false =>
        rw [ha] at H
        dsimp only [cond] at H
        cases hg : (Nat.blt a pm_swA.length && Nat.blt (pm_sh pm_swA a).1 6) with
        | false => rw [hg] at H; exact H.elim
        | true =>
          rw [hg] at H
          refine hS.1 _ _ _ _ (pc + 1) L (.int (Int32.ofInt ((pm_sh pm_swA a).2 : Int)) :: S1.map zV) (zc h) (fun _ => by unfold pt_stop; rw [hf]) ?_ (hk _ _ _ _ H L hL)
          unfold pm_step
          rw [hf, Int32.ofInt_eq_ofNat]
          simp only [pm_push, pm_ari, pm_br, pm_sto, pm_read, pm_rd0, List.map_cons, zV, hg, cond_true]
          rfl
    · exact H.elim
  · -- iaload
    split at H
    · rename_i _ j a S1
      cases hg : pm_isA pm_swA a 1 with
      | false => rw [hg] at H; exact H.elim
      | true =>
        rw [hg] at H
        obtain ⟨hj, H⟩ := H
        obtain ⟨j1, j2⟩ := zinb (zlen a) hj
        refine hS.1 _ _ _ _ (pc + 1) L (.int (Int32.ofInt (zrd h a j.toNat)) :: S1.map zV) (zc h) (fun _ => by unfold pt_stop; rw [hf]) ?_ (hk _ _ _ _ H L hL)
        unfold pm_step
        rw [hf]
        simp only [pm_push, pm_ari, pm_br, pm_sto, pm_read, pm_rd0, List.map_cons, zV, hg, j1, j2, Bool.and_self, cond_true]
        rfl
    · exact H.elim
  · -- caload
    split at H
    · rename_i _ j a S1
      cases hg : pm_isA pm_swA a 2 with
      | false => rw [hg] at H; exact H.elim
      | true =>
        rw [hg] at H
        obtain ⟨hj, H⟩ := H
        obtain ⟨j1, j2⟩ := zinb (zlen a) hj
        refine hS.1 _ _ _ _ (pc + 1) L (.int (Int32.ofInt (zrd h a j.toNat)) :: S1.map zV) (zc h) (fun _ => by unfold pt_stop; rw [hf]) ?_ (hk _ _ _ _ H L hL)
        unfold pm_step
        rw [hf]
        simp only [pm_push, pm_ari, pm_br, pm_sto, pm_read, pm_rd0, List.map_cons, zV, hg, j1, j2, Bool.and_self, cond_true]
        rfl
    · exact H.elim
  · -- baload
    split at H
    · rename_i _ j a S1
      cases hg : pm_isA pm_swA a 3 with
      | false => rw [hg] at H; exact H.elim
      | true =>
        rw [hg] at H
        obtain ⟨hj, H⟩ := H
        obtain ⟨j1, j2⟩ := zinb (zlen a) hj
        refine hS.1 _ _ _ _ (pc + 1) L (.int (Int32.ofInt (zrd h a j.toNat)) :: S1.map zV) (zc h) (fun _ => by unfold pt_stop; rw [hf]) ?_ (hk _ _ _ _ H L hL)
        unfold pm_step
        rw [hf]
        simp only [pm_push, pm_ari, pm_br, pm_sto, pm_read, pm_rd0, List.map_cons, zV, hg, j1, j2, Bool.and_self, cond_true]
        rfl
    · exact H.elim
  · -- aaload
    split at H
    · rename_i _ j a S1
      cases ha : Nat.beq a 2000 with
      | true =>
        rw [ha] at H
        have ha := Nat.eq_of_beq_eq_true ha
        subst ha
        obtain ⟨hj, H⟩ := H
        obtain ⟨j1, j2⟩ := zinb (n := 39) (by omega) hj
        refine hS.1 _ _ _ _ (pc + 1) L (.ref (1000 + j.toNat) :: S1.map zV) (zc h) (fun _ => by unfold pt_stop; rw [hf]) ?_ (hk _ _ _ _ H L hL)
        unfold pm_step
        rw [hf]
        have e1 : pm_isA pm_swA 2000 5 = false := rfl
        simp only [pm_push, pm_ari, pm_br, pm_sto, pm_read, pm_rd0, pm_cst, List.map_cons, zV, e1, Bool.false_and, cond_false, Nat.beq_refl, j1, j2, Bool.and_self, cond_true]
        rfl
      | false =>
        rw [ha] at H
        dsimp only [cond] at H
        cases hg : Nat.beq a 21 with
        | false => rw [hg] at H; exact H.elim
        | true =>
          rw [hg] at H
          have hg := Nat.eq_of_beq_eq_true hg
          subst hg
          obtain ⟨hj, hn, H⟩ := H
          obtain ⟨j1, j2⟩ := zinb (n := 3001) (by omega) hj
          cases hr : h.2.2.2.2 j.toNat with
          | none => exact absurd hr hn
          | some r =>
            have hr2 : (zc h).2.2 21 j.toNat = some r := hr
            refine hS.1 _ _ _ _ (pc + 1) L (.ref r :: S1.map zV) (zc h) (fun _ => by unfold pt_stop; rw [hf]) ?_ (hk _ _ _ _ (H r hr) L hL)
            unfold pm_step
            rw [hf]
            have e1 : pm_isA pm_swA 21 5 = true := rfl
            have e2 : pm_inb (Int32.ofInt j) (pm_sh pm_swA 21).2 = true := j1
            simp only [pm_push, pm_ari, pm_br, pm_sto, pm_read, pm_rd0, List.map_cons, zV, e1, e2, j2, Bool.and_self, cond_true, hr2, Option.map_some]
            rfl
    · exact H.elim
  · -- putfield
    split at H
    · rename_i idx _ v a S1
      split at H
      · rename_i ci kk hgf
        cases hg : (pm_isO pm_swA a ci && !((pm_clN ci).2.1 kk).2.2.2) with
        | false => rw [hg] at H; exact H.elim
        | true =>
          rw [hg] at H
          dsimp only [cond] at H
          split at H
          · rename_i hty
            split at H
            · rename_i x
              refine hS.1 _ _ _ _ (pc + 3) L (S1.map zV) (pm_setI (zc h) a kk (Int32.ofInt x)) (fun _ => by unfold pt_stop; rw [hf]) ?_ (by rw [zc_I]; exact hk _ _ _ _ H L hL)
              unfold pm_step
              rw [hf]
              simp only [pm_push, pm_ari, pm_br, pm_sto, pm_read, pm_rd0, pm_cst, pm_write, List.map_cons, zV, hgf, hg, cond_true, hty, pm_put, Option.map_some]
              rfl
            · exact H.elim
          · rename_i hty
            split at H
            · rename_i x
              obtain ⟨hx, H⟩ := H
              have hx2 : Int32.ofInt x = 0 ∨ Int32.ofInt x = 1 := by
                rcases hx with rfl | rfl
                · exact Or.inl (by decide)
                · exact Or.inr (by decide)
              refine hS.1 _ _ _ _ (pc + 3) L (S1.map zV) (pm_setI (zc h) a kk (Int32.ofInt x)) (fun _ => by unfold pt_stop; rw [hf]) ?_ (by rw [zc_I]; exact hk _ _ _ _ H L hL)
              unfold pm_step
              rw [hf]
              simp only [pm_push, pm_ari, pm_br, pm_sto, pm_read, pm_rd0, pm_cst, pm_write, List.map_cons, zV, hgf, hg, cond_true, hty, pm_put, if_pos hx2, Option.map_some]
              rfl
            · exact H.elim
          · rename_i hty
            split at H
            · rename_i x
              refine hS.1 _ _ _ _ (pc + 3) L (S1.map zV) (pm_setL (zc h) a kk (Int64.ofInt x)) (fun _ => by unfold pt_stop; rw [hf]) ?_ (by rw [zc_L]; exact hk _ _ _ _ H L hL)
              unfold pm_step
              rw [hf]
              simp only [pm_push, pm_ari, pm_br, pm_sto, pm_read, pm_rd0, pm_cst, pm_write, List.map_cons, zV, hgf, hg, cond_true, hty, pm_put, Option.map_some]
              rfl
            · exact H.elim
          · rename_i hty
            split at H
            · rename_i r
              cases ho : (Nat.beq a 19 && Nat.beq kk 9) with
              | false => rw [ho] at H; exact H.elim
              | true =>
                rw [ho] at H
                obtain ⟨o1, o2⟩ := Bool.and_eq_true_iff.mp ho
                have o1 := Nat.eq_of_beq_eq_true o1
                have o2 := Nat.eq_of_beq_eq_true o2
                subst o1; subst o2
                refine hS.1 _ _ _ _ (pc + 3) L (S1.map zV) (pm_setR (zc h) 19 9 (some r)) (fun _ => by unfold pt_stop; rw [hf]) ?_ (by rw [zc_K]; exact hk _ _ _ _ H L hL)
                unfold pm_step
                rw [hf]
                simp only [pm_push, pm_ari, pm_br, pm_sto, pm_read, pm_rd0, pm_cst, pm_write, List.map_cons, zV, hgf, hg, cond_true, hty, pm_put, Option.map_some]
                rfl
            · exact H.elim
          · exact H.elim
      · exact H.elim
    · exact H.elim
  · -- iastore
    split at H
    · rename_i _ x j a S1
      cases hg : pm_isA pm_swA a 1 with
      | false => rw [hg] at H; exact H.elim
      | true =>
        rw [hg] at H
        obtain ⟨hj, H⟩ := H
        obtain ⟨j1, j2⟩ := zinb (zlen a) hj
        refine hS.1 _ _ _ _ (pc + 1) L (S1.map zV) (pm_setI (zc h) a j.toNat (Int32.ofInt x)) (fun _ => by unfold pt_stop; rw [hf]) ?_ (by rw [zc_I]; exact hk _ _ _ _ H L hL)
        unfold pm_step
        rw [hf]
        simp only [pm_push, pm_ari, pm_br, pm_sto, pm_read, pm_rd0, pm_cst, pm_write, List.map_cons, zV, hg, j1, j2, Bool.and_self, cond_true]
        rfl
    · exact H.elim
  · -- castore
    split at H
    · rename_i _ x j a S1
      cases hg : pm_isA pm_swA a 2 with
      | false => rw [hg] at H; exact H.elim
      | true =>
        rw [hg] at H
        obtain ⟨hj, ⟨x1, x2⟩, H⟩ := H
        obtain ⟨j1, j2⟩ := zinb (zlen a) hj
        have hx : vp_nar .char (Int32.ofInt x) = Int32.ofInt x := by
          have : Int32.ofInt x = nI x.toNat := by
            show _ = Int32.ofNat x.toNat
            rw [← Int32.ofInt_eq_ofNat, Int.toNat_of_nonneg x1]
          rw [this]
          exact fd_vc (by omega)
        refine hS.1 _ _ _ _ (pc + 1) L (S1.map zV) (pm_setI (zc h) a j.toNat (Int32.ofInt x)) (fun _ => by unfold pt_stop; rw [hf]) ?_ (by rw [zc_I]; exact hk _ _ _ _ H L hL)
        unfold pm_step
        rw [hf]
        simp only [pm_push, pm_ari, pm_br, pm_sto, pm_read, pm_rd0, pm_cst, pm_write, List.map_cons, zV, hg, j1, j2, Bool.and_self, cond_true, hx]
        rfl
    · exact H.elim
  · -- bastore
    split at H
    · rename_i _ x j a S1
      cases hg : pm_isA pm_swA a 3 with
      | false => rw [hg] at H; exact H.elim
      | true =>
        rw [hg] at H
        obtain ⟨hj, hx, H⟩ := H
        obtain ⟨j1, j2⟩ := zinb (zlen a) hj
        have hx : vp_nar .boolean (Int32.ofInt x) = Int32.ofInt x := by
          rcases hx with rfl | rfl
          · decide
          · decide
        refine hS.1 _ _ _ _ (pc + 1) L (S1.map zV) (pm_setI (zc h) a j.toNat (Int32.ofInt x)) (fun _ => by unfold pt_stop; rw [hf]) ?_ (by rw [zc_I]; exact hk _ _ _ _ H L hL)
        unfold pm_step
        rw [hf]
        simp only [pm_push, pm_ari, pm_br, pm_sto, pm_read, pm_rd0, pm_cst, pm_write, List.map_cons, zV, hg, j1, j2, Bool.and_self, cond_true, hx]
        rfl
    · exact H.elim
  · -- aastore
    split at H
    · rename_i _ x j a S1
      cases hg : Nat.beq a 21 with
      | false => rw [hg] at H; exact H.elim
      | true =>
        rw [hg] at H
        have hg := Nat.eq_of_beq_eq_true hg
        subst hg
        obtain ⟨hj, ⟨x1, x2⟩, H⟩ := H
        obtain ⟨j1, j2⟩ := zinb (n := 3001) (by omega) hj
        refine hS.1 _ _ _ _ (pc + 1) L (S1.map zV) (pm_setR (zc h) 21 j.toNat (some x)) (fun _ => by unfold pt_stop; rw [hf]) ?_ (by rw [zc_T]; exact hk _ _ _ _ H L hL)
        unfold pm_step
        rw [hf]
        have e1 : pm_isA pm_swA 21 5 = true := rfl
        have e2 : pm_inb (Int32.ofInt j) (pm_sh pm_swA 21).2 = true := j1
        have e3 : Nat.ble 1000 x = true := Nat.ble_eq_true_of_le x1
        have e4 : Nat.blt x 1039 = true := Nat.ble_eq_true_of_le x2
        simp only [pm_push, pm_ari, pm_br, pm_sto, pm_read, pm_rd0, pm_cst, pm_write, List.map_cons, zV, e1, e2, e3, e4, j2, Bool.and_self, cond_true]
        rfl
    · exact H.elim
  · -- ireturn
    cases md with
    | true => exact hlf _ _ _ _ H L hL
    | false =>
      dsimp only [cond] at H
      split at H
      · rename_i x
        split at H
        · rename_i hrt
          refine hS.2.1 _ _ _ _ (some (.int (Int32.ofInt x))) rfl ?_ (hQ _ _ H)
          unfold pm_step
          rw [hf]
          simp only [pm_push, pm_ari, pm_br, pm_sto, pm_read, pm_rd0, pm_cst, pm_write, pm_ret, List.map_cons, List.map_nil, zV, hrt]
        · rename_i hrt
          obtain ⟨hx, H⟩ := H
          have hx2 : Int32.ofInt x = 0 ∨ Int32.ofInt x = 1 := by
            rcases hx with rfl | rfl
            · exact Or.inl (by decide)
            · exact Or.inr (by decide)
          refine hS.2.1 _ _ _ _ (some (.int (Int32.ofInt x))) rfl ?_ (hQ _ _ H)
          unfold pm_step
          rw [hf]
          simp only [pm_push, pm_ari, pm_br, pm_sto, pm_read, pm_rd0, pm_cst, pm_write, pm_ret, List.map_cons, List.map_nil, zV, hrt, if_pos hx2]
        · rename_i hrt
          obtain ⟨⟨x1, x2⟩, H⟩ := H
          have hx : vp_nar .char (Int32.ofInt x) = Int32.ofInt x := by
            have : Int32.ofInt x = nI x.toNat := by
              show _ = Int32.ofNat x.toNat
              rw [← Int32.ofInt_eq_ofNat, Int.toNat_of_nonneg x1]
            rw [this]
            exact fd_vc (by omega)
          refine hS.2.1 _ _ _ _ (some (.int (Int32.ofInt x))) rfl ?_ (hQ _ _ H)
          unfold pm_step
          rw [hf]
          simp only [pm_push, pm_ari, pm_br, pm_sto, pm_read, pm_rd0, pm_cst, pm_write, pm_ret, List.map_cons, List.map_nil, zV, hrt, if_pos hx]
        · exact H.elim
      · exact H.elim
  · -- return_
    cases md with
    | true => exact hlf _ _ _ _ H L hL
    | false =>
      dsimp only [cond] at H
      split at H
      · split at H
        · rename_i hrt
          refine hS.2.1 _ _ _ _ none rfl ?_ (hQ _ _ H)
          unfold pm_step
          rw [hf]
          simp only [pm_push, pm_ari, pm_br, pm_sto, pm_read, pm_rd0, pm_cst, pm_write, pm_ret, List.map_nil, hrt]
        · exact H.elim
      · exact H.elim
  · -- areturn
    cases md with
    | true => exact H.elim
    | false =>
      dsimp only [cond] at H
      split at H
      · rename_i a
        split at H
        · rename_i hrt
          refine hS.2.1 _ _ _ _ (some (.ref a)) rfl ?_ (hQ _ _ H)
          unfold pm_step
          rw [hf]
          simp only [pm_push, pm_ari, pm_br, pm_sto, pm_read, pm_rd0, pm_cst, pm_write, pm_ret, List.map_cons, List.map_nil, zV, hrt]
        · exact H.elim
      · exact H.elim
  · -- new
    cases md with
    | true => exact hlf _ _ _ _ H L hL
    | false => exact H.elim
  · -- invokevirtual
    split at H
    · rename_i idx _ mj hiv
      split at H
      · rename_i a S1 hdr
        cases hg : ((!pm_sc mj && !Nat.beq mj 167) && (Nat.beq (S.take (pm_np mj)).length (pm_np mj) && (Nat.ble (zcats S1) 8 && Nat.ble (zcats (.inr (.inr a) :: (S.take (pm_np mj)).reverse)) (pm_mx mj)))) with
        | false => rw [hg] at H; exact H.elim
        | true =>
          rw [hg] at H
          dsimp only [cond] at H
          obtain ⟨g1, g2⟩ := Bool.and_eq_true_iff.mp hg
          obtain ⟨g3, g4⟩ := Bool.and_eq_true_iff.mp g1
          obtain ⟨g5, g6⟩ := Bool.and_eq_true_iff.mp g2
          obtain ⟨g7, g8⟩ := Bool.and_eq_true_iff.mp g6
          have h167 : Nat.beq mj 167 = false := by simpa using g4
          have key : pm_rcv pm_swA a (pm_ow mj) = true ∧ zcl d mj (.inr (.inr a) :: (S.take (pm_np mj)).reverse) h (fun v h' => k (pc + 3) M (v ++ S1) h') := by
            unfold zrv at H
            unfold pm_rcv
            cases o7 : Nat.beq (pm_ow mj) 7 with
            | true =>
              rw [o7] at H
              obtain ⟨⟨a1, a2⟩, H⟩ := H
              rw [zblt_f a1]
              exact ⟨Nat.ble_eq_true_of_le a2, H⟩
            | false =>
              rw [o7] at H
              dsimp only [cond] at H
              cases o8 : Nat.beq (pm_ow mj) 8 with
              | true =>
                rw [o8] at H
                obtain ⟨⟨a1, a2⟩, H⟩ := H
                rw [zblt_f (show 1000 ≤ a by omega)]
                exact ⟨Bool.and_eq_true_iff.mpr ⟨Nat.ble_eq_true_of_le a1, Nat.ble_eq_true_of_le a2⟩, H⟩
              | false =>
                rw [o8] at H
                dsimp only [cond] at H
                cases og : (Nat.blt a 1000 && (Nat.blt (pm_ow mj) 7 && pm_isO pm_swA a (pm_ow mj))) with
                | false => rw [og] at H; exact H.elim
                | true =>
                  rw [og] at H
                  obtain ⟨q1, q2⟩ := Bool.and_eq_true_iff.mp og
                  rw [q1]
                  exact ⟨q2, H⟩
          obtain ⟨hrc, H⟩ := key
          have hcall : pm_call (.invokevirtual idx) pm_swA (pm_ow mi) (S.map zV) = some (mj, List.map zV (.inr (.inr a) :: (S.take (pm_np mj)).reverse), S1.map zV) := by
            have e1 : (S.map zV).drop (pm_np mj) = .ref a :: S1.map zV := by rw [← List.map_drop, hdr]; rfl
            have e2 : (S.map zV).take (pm_np mj) = (S.take (pm_np mj)).map zV := List.map_take.symm
            have e3 : ((S.take (pm_np mj)).map zV).reverse = ((S.take (pm_np mj)).reverse).map zV := List.map_reverse.symm
            have e4 : (lg_sl (Value.ref a :: ((S.take (pm_np mj)).reverse).map zV)).length = zcats (.inr (.inr a) :: (S.take (pm_np mj)).reverse) := zsl_ok (.inr (.inr a) :: (S.take (pm_np mj)).reverse)
            unfold pm_call
            dsimp only
            rw [hiv]
            dsimp only
            rw [e1]
            dsimp only
            rw [e2, e3, List.length_map, zcats_ok, e4, g3, g5, hrc, g7, g8]
            rfl
          exact zcl_ok hS (fun _ => by unfold pt_stop; rw [hf]) (zs_call (Or.inl ⟨idx, rfl⟩) hf hcall) h167 H (fun v h' q => by
            have := hk _ _ _ _ q L hL
            rwa [List.map_append] at this)
      · exact H.elim
    · exact H.elim
  · -- invokestatic
    split at H
    · rename_i idx _ mj hiv
      cases hg : ((pm_sc mj && !Nat.beq mj 167) && (Nat.beq (S.take (pm_np mj)).length (pm_np mj) && (Nat.ble (zcats (S.drop (pm_np mj))) 8 && Nat.ble (zcats (S.take (pm_np mj)).reverse) (pm_mx mj)))) with
      | false => rw [hg] at H; exact H.elim
      | true =>
        rw [hg] at H
        dsimp only [cond] at H
        obtain ⟨g1, g2⟩ := Bool.and_eq_true_iff.mp hg
        obtain ⟨g3, g4⟩ := Bool.and_eq_true_iff.mp g1
        obtain ⟨g5, g6⟩ := Bool.and_eq_true_iff.mp g2
        obtain ⟨g7, g8⟩ := Bool.and_eq_true_iff.mp g6
        have h167 : Nat.beq mj 167 = false := by simpa using g4
        have hcall : pm_call (.invokestatic idx) pm_swA (pm_ow mi) (S.map zV) = some (mj, List.map zV (S.take (pm_np mj)).reverse, (S.drop (pm_np mj)).map zV) := by
          have e1 : (S.map zV).drop (pm_np mj) = (S.drop (pm_np mj)).map zV := List.map_drop.symm
          have e2 : (S.map zV).take (pm_np mj) = (S.take (pm_np mj)).map zV := List.map_take.symm
          have e3 : ((S.take (pm_np mj)).map zV).reverse = ((S.take (pm_np mj)).reverse).map zV := List.map_reverse.symm
          unfold pm_call
          dsimp only
          rw [hiv]
          dsimp only
          rw [e1, e2, e3, List.length_map, zcats_ok, zsl_ok, g3, g5, g7, g8]
          rfl
        exact zcl_ok hS (fun _ => by unfold pt_stop; rw [hf]) (zs_call (Or.inr ⟨idx, rfl⟩) hf hcall) h167 H (fun v h' q => by
          have := hk _ _ _ _ q L hL
          rwa [List.map_append] at this)
    · rename_i idx _ hiv
      cases hac : pm_isac (pm_ow mi) idx with
      | false => rw [hac] at H; exact H.elim
      | true =>
        rw [hac] at H
        dsimp only [cond] at H
        unfold zcp at H
        split at H
        · rename_i n dp b sp a S1
          cases hg : ((Nat.blt a pm_swA.length && (Nat.blt b pm_swA.length && Nat.beq (pm_sh pm_swA a).1 (pm_sh pm_swA b).1)) && ((Nat.beq (pm_sh pm_swA a).1 1 || Nat.beq (pm_sh pm_swA a).1 2) && Nat.ble (zcats S1) 8)) with
          | false => rw [hg] at H; exact H.elim
          | true =>
            rw [hg] at H
            dsimp only [cond] at H
            obtain ⟨g1, g2⟩ := Bool.and_eq_true_iff.mp hg
            obtain ⟨g3, g4⟩ := Bool.and_eq_true_iff.mp g1
            obtain ⟨g5, g6⟩ := Bool.and_eq_true_iff.mp g4
            obtain ⟨g7, g8⟩ := Bool.and_eq_true_iff.mp g2
            obtain ⟨⟨r1, r2, r3⟩, ⟨r4, r5⟩, hch, hd, H⟩ := H
            have la := zlen a
            have lb := zlen b
            obtain ⟨s1, s2⟩ := znn (j := sp) r1 (by omega)
            obtain ⟨d1, d2⟩ := znn (j := dp) r2 (by omega)
            obtain ⟨n1, n2⟩ := znn (j := n) r3 (by omega)
            have hstep : pm_step pm_swA mi pc L (List.map zV (.inl n :: .inl dp :: .inr (.inr b) :: .inl sp :: .inr (.inr a) :: S1)) (zc h) = none := by
              unfold pm_step
              rw [hf]
              simp only [pm_push, pm_ari, pm_br, pm_sto, pm_read, pm_rd0, pm_cst, pm_write, pm_ret, pm_call, hiv]
            have hfit : pm_cpfit (pm_sh pm_swA a).1 ((zc h).1 a) sp.toNat n.toNat = true := by
              unfold pm_cpfit
              rcases Bool.or_eq_true_iff.mp g7 with e | e
              · rw [e]; rfl
              · rw [e]
                rw [e] at hch
                rw [Bool.or_eq_true_iff]
                refine Or.inr (Bool.and_eq_true_iff.mpr ⟨rfl, List.all_eq_true.mpr (fun x _ => ?_)⟩)
                obtain ⟨c1, c2⟩ := hch (sp.toNat + x)
                show (decide (0 ≤ Int32.ofInt (zrd h a (sp.toNat + x))) && decide (Int32.ofInt (zrd h a (sp.toNat + x)) ≤ 65535)) = true
                rw [show (65535 : Int32) = Int32.ofInt 65535 by decide, zi_00]
                exact Bool.and_eq_true_iff.mpr ⟨decide_eq_true ((zi_le zi_z (by omega)).mpr c1), decide_eq_true ((zi_le (by omega) (by omega)).mpr (by omega))⟩
            refine hS.2.2.2 _ _ _ _ (.invokestatic idx) _ (S1.map zV) (fun _ => by unfold pt_stop; rw [hf]) hstep hf ?_ hd (hk _ _ _ _ H L hL)
            unfold pm_cpy
            simp only [List.map_cons, zV]
            rw [hac, g3, g5, g6, s1, d1, n1, s2, d2, n2, hfit, zcats_ok, g8]
            rw [show Nat.ble (sp.toNat + n.toNat) (pm_sh pm_swA a).2 = true from Nat.ble_eq_true_of_le (by omega), show Nat.ble (dp.toNat + n.toNat) (pm_sh pm_swA b).2 = true from Nat.ble_eq_true_of_le (by omega)]
            have := zc_A h b (va_cpy ((zc h).1 a) ((zc h).1 b) sp.toNat dp.toNat n.toNat) (fun j => if dp.toNat ≤ j ∧ j < dp.toNat + n.toNat then zrd h a (sp.toNat + (j - dp.toNat)) else zrd h b j) (fun j => by
              unfold va_cpy
              split <;> rfl)
            rw [← this]
            rfl
        · exact H.elim
  · exact zhv_ok hS hf H (fun pc' S' q => hk _ _ _ _ q L hL)
theorem wz_ok (hS : zS d mi md P R) {st : List (Nat × List Nat)} {hv : List Nat} {Q : Option zv → zh → Prop} {lf : Nat → zM → List zv → zh → Prop} (hlf : ∀ pc M S h, lf pc M S h → ∀ L, zlr M L → P pc L (S.map zV) (zc h)) (hQ : ∀ w h, Q w h → R (w.map zV) (zc h)) :
    ∀ (n pc : Nat) (M : zM) (S : List zv) (h : zh), wz st hv d mi md Q lf n pc M S h → ∀ L, zlr M L → P pc L (S.map zV) (zc h) := by
  intro n
  induction n with
  | zero => intro pc M S h H; exact hlf pc M S h H
  | succ n ih =>
    intro pc M S h H L hL
    unfold wz at H
    have hk : ∀ pc' M' S' h', (match zfs st pc' with
      | some F => lf pc' (zfor F M') S' h'
      | none => wz st hv d mi md Q lf n pc' M' S' h') → ∀ L', zlr M' L' → P pc' L' (S'.map zV) (zc h') := by
      intro pc' M' S' h' q L' hL'
      split at q
      · exact hlf _ _ _ _ q L' (zlr_for _ hL')
      · exact ih _ _ _ _ q L' hL'
    unfold zbody at H
    split at H
    · exact H.elim
    · rename_i i hf
      cases hv0 : zin hv pc with
      | true =>
        rw [hv0] at H
        dsimp only [cond] at H
        exact zhv_ok hS hf H (fun pc' S' q => hk _ _ _ _ q L hL)
      | false =>
        rw [hv0] at H
        dsimp only [cond] at H
        split at H
        · rename_i pc1 M1 S1 hz
          obtain ⟨L1, q1, q2⟩ := zstep_ok (L := L) (h := zc h) hf hz hL
          cases hsp : pt_stop mi pc with
          | false => exact hS.1 _ _ _ _ _ _ _ _ (fun _ => hsp) q1 (hk _ _ _ _ H L1 q2)
          | true =>
            exfalso
            unfold pt_stop at hsp
            rw [hf] at hsp
            unfold zstep at hz
            split at hsp
            · rename_i e; cases e; cases hz
            · rename_i e; cases e; cases hz
            · rename_i e; cases e; cases hz
            · cases hsp
        · exact zb_ok hS hf hL H hlf hQ hk
end ZB
/-- a method from a place on, in whole numbers -/
def zR (Q : Option zv → zh → Prop) (v : Option Value) (h1 : pm_H) : Prop := ∃ w h', v = w.map zV ∧ h1 = zc h' ∧ Q w h'
def pq (d mi pc : Nat) (M : zM) (S : List zv) (h : zh) (Q : Option zv → zh → Prop) : Prop := ∀ L, zlr M L → px d mi pc L (S.map zV) (zc h) (zR Q)
theorem zS_px (d mi : Nat) (Q : Option Value → pm_H → Prop) : zS d mi false (fun pc L S h => px d mi pc L S h Q) Q := by
  refine ⟨fun pc L S h pc' L' S' h' _ hs q => px_st hs q, fun pc L S h v _ hs q => px_ret hs q, fun pc L S h mj as S' _ hs hp hd q => ?_, fun pc L S h i h' S' _ hs hf hc hd q => px_cpy hs hf hc hd q⟩
  cases d with
  | zero => exact absurd hd (by omega)
  | succ d => exact px_call hs hp q
theorem pq_of {d mi pc : Nat} {M : zM} {S : List zv} {h : zh} {Q : Option zv → zh → Prop} (n : Nat) (st : List (Nat × List Nat)) (hv : List Nat) (H : wz st hv d mi false Q (fun pc M S h => pq d mi pc M S h Q) n pc M S h) : pq d mi pc M S h Q := fun L hL =>
  wz_ok (zS_px d mi (zR Q)) (fun _ _ _ _ q => q) (fun w h q => ⟨w, h, rfl, rfl, q⟩) n pc M S h H L hL
def qV (Q : zF → zF → zF → Nat → zT → Prop) (v : Option zv) (h : zh) : Prop := match v with
  | none => Q h.1 h.2.1 h.2.2.1 h.2.2.2.1 h.2.2.2.2
  | _ => False
def qI (Q : Int → zF → zF → zF → Nat → zT → Prop) (v : Option zv) (h : zh) : Prop := match v with
  | some (.inl n) => Q n h.1 h.2.1 h.2.2.1 h.2.2.2.1 h.2.2.2.2
  | _ => False
def qR (Q : Nat → zF → zF → zF → Nat → zT → Prop) (v : Option zv) (h : zh) : Prop := match v with
  | some (.inr (.inr n)) => Q n h.1 h.2.1 h.2.2.1 h.2.2.2.1 h.2.2.2.2
  | _ => False
theorem pzV_pq {d mj : Nat} {as : List zv} {h : zh} {Q : zF → zF → zF → Nat → zT → Prop} (H : pq d mj 0 (zarg (pm_mx mj) as) [] h (qV Q)) : pzV d mj as h Q := by
  refine px_imp (H _ (zarg_ok _ _)) ?_
  rintro v h1 ⟨w, ⟨A, B, Y, K, T⟩, rfl, rfl, q⟩
  rcases w with _ | _
  · exact ⟨A, B, Y, K, T, rfl, rfl, q⟩
  · exact q.elim
theorem pzI_pq {d mj : Nat} {as : List zv} {h : zh} {Q : Int → zF → zF → zF → Nat → zT → Prop} (H : pq d mj 0 (zarg (pm_mx mj) as) [] h (qI Q)) : pzI d mj as h Q := by
  refine px_imp (H _ (zarg_ok _ _)) ?_
  rintro v h1 ⟨w, ⟨A, B, Y, K, T⟩, rfl, rfl, q⟩
  rcases w with _ | n | _
  · exact q.elim
  · exact ⟨n, A, B, Y, K, T, rfl, rfl, q⟩
  · exact q.elim
theorem pzR_pq {d mj : Nat} {as : List zv} {h : zh} {Q : Nat → zF → zF → zF → Nat → zT → Prop} (H : pq d mj 0 (zarg (pm_mx mj) as) [] h (qR Q)) : pzR d mj as h Q := by
  refine px_imp (H _ (zarg_ok _ _)) ?_
  rintro v h1 ⟨w, ⟨A, B, Y, K, T⟩, rfl, rfl, q⟩
  rcases w with _ | _ | _ | n
  · exact q.elim
  · exact q.elim
  · exact q.elim
  · exact ⟨n, A, B, Y, K, T, rfl, rfl, q⟩
theorem pzV_of {d mj : Nat} {as : List zv} {h : zh} {Q : zF → zF → zF → Nat → zT → Prop} (n : Nat) (st : List (Nat × List Nat)) (hv : List Nat) (H : wz st hv d mj false (qV Q) (fun pc M S h => pq d mj pc M S h (qV Q)) n 0 (zarg (pm_mx mj) as) [] h) : pzV d mj as h Q := pzV_pq (pq_of n st hv H)
theorem pzI_of {d mj : Nat} {as : List zv} {h : zh} {Q : Int → zF → zF → zF → Nat → zT → Prop} (n : Nat) (st : List (Nat × List Nat)) (hv : List Nat) (H : wz st hv d mj false (qI Q) (fun pc M S h => pq d mj pc M S h (qI Q)) n 0 (zarg (pm_mx mj) as) [] h) : pzI d mj as h Q := pzI_pq (pq_of n st hv H)
theorem pzR_of {d mj : Nat} {as : List zv} {h : zh} {Q : Nat → zF → zF → zF → Nat → zT → Prop} (n : Nat) (st : List (Nat × List Nat)) (hv : List Nat) (H : wz st hv d mj false (qR Q) (fun pc M S h => pq d mj pc M S h (qR Q)) n 0 (zarg (pm_mx mj) as) [] h) : pzR d mj as h Q := pzR_pq (pq_of n st hv H)
end
section
/-! The model's lexer -/
theorem zu_zu (f : zF) (a k : Nat) (v w : Int) : zu (zu f a k v) a k w = zu f a k w := by
  funext i j
  simp only [zu_ap]
  split <;> rfl

theorem zu_id (f : zF) (a k : Nat) : zu f a k (f a k) = f := by
  funext i j
  rw [zu_ap]
  split
  · rename_i h; rw [h.1, h.2]
  · rfl
def mK (B : zF) : Prop := (0 ≤ (B 39 4) ∧ (B 39 4) ≤ 3000) ∧ ∀ j, 0 ≤ (B 41) j ∧ (B 41) j < 65536
/-- the lexer's state: place, token, its beginning and end -/
def mS (B : zF) (a t f e : Int) : zF := fun i j => bif Nat.beq i 39 then (bif Nat.beq j 5 then a else (bif Nat.beq j 6 then t else (bif Nat.beq j 7 then f else (bif Nat.beq j 8 then e else B i j)))) else B i j
theorem beq_if {α : Type} (i k : Nat) (x y : α) : (bif Nat.beq i k then x else y) = if i = k then x else y := by
  by_cases h : i = k
  · subst h; rw [Nat.beq_refl, if_pos rfl]; rfl
  · rw [pg_nb (fun z => h z.symm), if_neg h]; rfl
theorem mS_ap (B : zF) (a t f e : Int) (i j : Nat) : mS B a t f e i j = if i = 39 then (if j = 5 then a else if j = 6 then t else if j = 7 then f else if j = 8 then e else B i j) else B i j := by
  unfold mS
  simp only [beq_if]
theorem mS_1 (B : zF) (a t f e : Int) : zu (zu (zu (zu B 39 7 f) 39 5 a) 39 6 t) 39 8 e = mS B a t f e := by
  funext i j
  simp only [zu_ap, mS_ap]
  by_cases h0 : i = 39
  · subst h0
    by_cases h1 : j = 5
    · subst h1; simp
    · by_cases h2 : j = 6
      · subst h2; simp
      · by_cases h3 : j = 7
        · subst h3; simp
        · by_cases h4 : j = 8
          · subst h4; simp
          · simp [h1, h2, h3, h4]
  · simp [h0]
theorem mS_2 (B : zF) (t f e : Int) : zu (zu (zu B 39 7 f) 39 6 t) 39 8 e = mS B (B 39 5) t f e := by
  funext i j
  simp only [zu_ap, mS_ap]
  by_cases h0 : i = 39
  · subst h0
    by_cases h1 : j = 5
    · subst h1; simp
    · by_cases h2 : j = 6
      · subst h2; simp
      · by_cases h3 : j = 7
        · subst h3; simp
        · by_cases h4 : j = 8
          · subst h4; simp
          · simp [h1, h2, h3, h4]
  · simp [h0]
theorem mS_3 (B : zF) (x a t f e : Int) : mS (zu B 39 5 x) a t f e = mS B a t f e := by
  funext i j
  simp only [zu_ap, mS_ap]
  by_cases h0 : i = 39
  · subst h0
    by_cases h1 : j = 5
    · subst h1; simp
    · simp [h1]
  · simp [h0]
theorem mS_4 (B : zF) (a t f e a' t' f' e' : Int) : mS (mS B a t f e) a' t' f' e' = mS B a' t' f' e' := by
  funext i j
  simp only [mS_ap]
  by_cases h0 : i = 39
  · subst h0
    by_cases h1 : j = 5
    · subst h1; simp
    · by_cases h2 : j = 6
      · subst h2; simp
      · by_cases h3 : j = 7
        · subst h3; simp
        · by_cases h4 : j = 8
          · subst h4; simp
          · simp [h1, h2, h3, h4]
  · simp [h0]
/-- the number that was read fits a long -/
def mY (Y : zF) : Prop := -9223372036854775808 ≤ Y 39 9 ∧ Y 39 9 < 9223372036854775808
section LEX
variable {d : Nat} {A B Y : zF} {K : Nat} {T : zT}
set_option maxRecDepth 100000 in
set_option maxHeartbeats 1000000 in
theorem m_isDigit {c : Int} {Q : Int → zF → zF → zF → Nat → zT → Prop} (hc : -2147483648 ≤ c ∧ c < 2147483648) (q : ∀ n, n = 0 ∨ n = 1 → (n = 1 ↔ (48 ≤ c ∧ c ≤ 57)) → Q n A B Y K T) : pzI d 3 [.inl c] (A, B, Y, K, T) Q := by
  refine pzI_of 9 [] [] ?_
  show ((-2147483648 ≤ c ∧ c < 2147483648) ∧ (-2147483648 ≤ (48 : Int) ∧ (48 : Int) < 2147483648) ∧ (c < (48 : Int) → (((0 : Int) = 0 ∨ (0 : Int) = 1) ∧ Q (0 : Int) A B Y K T)) ∧ ((48 : Int) ≤ c → ((-2147483648 ≤ c ∧ c < 2147483648) ∧ (-2147483648 ≤ (57 : Int) ∧ (57 : Int) < 2147483648) ∧ ((57 : Int) < c → (((0 : Int) = 0 ∨ (0 : Int) = 1) ∧ Q (0 : Int) A B Y K T)) ∧ (c ≤ (57 : Int) → (((1 : Int) = 0 ∨ (1 : Int) = 1) ∧ Q (1 : Int) A B Y K T)))))
  refine ⟨hc, by omega, fun h => ?_, fun h => ⟨hc, by omega, fun h2 => ?_, fun h2 => ?_⟩⟩
  · exact ⟨Or.inl rfl, q 0 (Or.inl rfl) (by omega)⟩
  · exact ⟨Or.inl rfl, q 0 (Or.inl rfl) (by omega)⟩
  · exact ⟨Or.inr rfl, q 1 (Or.inr rfl) (by omega)⟩
set_option maxRecDepth 100000 in
set_option maxHeartbeats 1000000 in
theorem m_isLetter {c : Int} {Q : Int → zF → zF → zF → Nat → zT → Prop} (hc : -2147483648 ≤ c ∧ c < 2147483648) (q : ∀ n, n = 0 ∨ n = 1 → (n = 1 ↔ ((97 ≤ c ∧ c ≤ 122) ∨ (65 ≤ c ∧ c ≤ 90) ∨ c = 95)) → Q n A B Y K T) : pzI d 2 [.inl c] (A, B, Y, K, T) Q := by
  have j30 : ((97 ≤ c ∧ c ≤ 122) ∨ (65 ≤ c ∧ c ≤ 90) ∨ c = 95) → pq d 2 30 [none] [] (A, B, Y, K, T) (qI Q) := fun hh => by
    refine pq_of 3 [] [] ?_
    show (((1 : Int) = 0 ∨ (1 : Int) = 1) ∧ Q (1 : Int) A B Y K T)
    exact ⟨Or.inr rfl, q 1 (Or.inr rfl) (by omega)⟩
  have j12 : ¬ (97 ≤ c ∧ c ≤ 122) → pq d 2 12 [some (.inl c)] [] (A, B, Y, K, T) (qI Q) := fun hh => by
    refine pq_of 11 [(30, [0])] [] ?_
    show ((-2147483648 ≤ c ∧ c < 2147483648) ∧ (-2147483648 ≤ (65 : Int) ∧ (65 : Int) < 2147483648) ∧ (c < (65 : Int) → ((-2147483648 ≤ c ∧ c < 2147483648) ∧ (-2147483648 ≤ (95 : Int) ∧ (95 : Int) < 2147483648) ∧ (c ≠ (95 : Int) → (((0 : Int) = 0 ∨ (0 : Int) = 1) ∧ Q (0 : Int) A B Y K T)) ∧ (c = (95 : Int) → pq d 2 30 [none] [] (A, B, Y, K, T) (qI Q)))) ∧ ((65 : Int) ≤ c → ((-2147483648 ≤ c ∧ c < 2147483648) ∧ (-2147483648 ≤ (90 : Int) ∧ (90 : Int) < 2147483648) ∧ (c ≤ (90 : Int) → pq d 2 30 [none] [] (A, B, Y, K, T) (qI Q)) ∧ ((90 : Int) < c → ((-2147483648 ≤ c ∧ c < 2147483648) ∧ (-2147483648 ≤ (95 : Int) ∧ (95 : Int) < 2147483648) ∧ (c ≠ (95 : Int) → (((0 : Int) = 0 ∨ (0 : Int) = 1) ∧ Q (0 : Int) A B Y K T)) ∧ (c = (95 : Int) → pq d 2 30 [none] [] (A, B, Y, K, T) (qI Q)))))))
    refine ⟨hc, by omega, fun h1 => ⟨hc, by omega, fun h2 => ?_, fun h2 => ?_⟩, fun h1 => ⟨hc, by omega, fun h2 => ?_, fun h2 => ⟨hc, by omega, fun h3 => ?_, fun h3 => ?_⟩⟩⟩
    · exact ⟨Or.inl rfl, q 0 (Or.inl rfl) (by omega)⟩
    · exact j30 (by omega)
    · exact j30 (by omega)
    · exact ⟨Or.inl rfl, q 0 (Or.inl rfl) (by omega)⟩
    · exact j30 (by omega)
  refine pzI_of 6 [(12, []), (30, [0])] [] ?_
  show ((-2147483648 ≤ c ∧ c < 2147483648) ∧ (-2147483648 ≤ (97 : Int) ∧ (97 : Int) < 2147483648) ∧ (c < (97 : Int) → pq d 2 12 [some (.inl c)] [] (A, B, Y, K, T) (qI Q)) ∧ ((97 : Int) ≤ c → ((-2147483648 ≤ c ∧ c < 2147483648) ∧ (-2147483648 ≤ (122 : Int) ∧ (122 : Int) < 2147483648) ∧ (c ≤ (122 : Int) → pq d 2 30 [none] [] (A, B, Y, K, T) (qI Q)) ∧ ((122 : Int) < c → pq d 2 12 [some (.inl c)] [] (A, B, Y, K, T) (qI Q)))))
  refine ⟨hc, by omega, fun h1 => j12 (by omega), fun h1 => ⟨hc, by omega, fun h2 => j30 (by omega), fun h2 => j12 (by omega)⟩⟩
set_option maxRecDepth 100000 in
set_option maxHeartbeats 1000000 in
theorem m_charAt {k : Int} {Q : Int → zF → zF → zF → Nat → zT → Prop} (hK : mK B) (h0 : 0 ≤ k) (h1 : k < 2147483648) (q : ∀ c, 0 ≤ c → c < 65536 → (c ≠ 0 → k < (B 39 4)) → (k < (B 39 4) → c = (B 41) k.toNat) → Q c A B Y K T) : pzI d 4 [.inr (.inr 39), .inl k] (A, B, Y, K, T) Q := by
  obtain ⟨⟨k1, k2⟩, k3⟩ := hK
  refine pzI_of 10 [] [] ?_
  show ((-2147483648 ≤ k ∧ k < 2147483648) ∧ (-2147483648 ≤ (B 39 4) ∧ (B 39 4) < 2147483648) ∧ ((B 39 4) ≤ k → Q (0 : Int) A B Y K T) ∧ (k < (B 39 4) → ((0 ≤ k ∧ k < (3000 : Int)) ∧ Q (B 41 (k).toNat) A B Y K T)))
  refine ⟨by omega, by omega, fun h => ?_, fun h => ⟨by omega, ?_⟩⟩
  · exact q 0 (by omega) (by omega) (by omega) (by omega)
  · exact q _ (k3 _).1 (k3 _).2 (fun _ => h) (fun _ => rfl)
set_option maxRecDepth 100000 in
set_option maxHeartbeats 4000000 in
theorem m_digits {Q : zF → zF → zF → Nat → zT → Prop} (hd : 1 ≤ d) (hK : mK B) (h0 : 0 ≤ (B 39 5)) (h1 : (B 39 5) ≤ (B 39 4)) (hq : ∀ a t Y', (B 39 5) ≤ a → a ≤ (B 39 4) → (((B 39 5) < (B 39 4) ∧ 48 ≤ (B 41) (B 39 5).toNat ∧ (B 41) (B 39 5).toNat ≤ 57) → (B 39 5) < a) → (t = 1 ∨ t = 2) → mY Y' → Q A (zu (zu B 39 5 a) 39 6 t) Y' K T) : pzV d 6 [.inr (.inr 39)] (A, B, Y, K, T) Q := by
  have j83 : ∀ (B Y : zF), mK B → 0 ≤ (B 39 5) → (B 39 5) ≤ (B 39 4) → mY Y → (∀ t, (t = 1 ∨ t = 2) → Q A (zu B 39 6 t) Y K T) → pq d 6 83 [some (.inr (.inr 39))] [] (A, B, Y, K, T) (qV Q) := by
    intro B Y hK h0 h1 hY hq
    obtain ⟨⟨k1, k2⟩, k3⟩ := id hK
    refine pq_of 16 [] [91, 92, 106] ?_
    show (∀ c1 : Int, -2147483648 ≤ c1 → c1 < 2147483648 → (Q A (zu B 39 6 (1 : Int)) Y K T ∧ (0 < d ∧ pzI (d - 1) 4 [.inr (.inr (39 : Nat)), .inl (B 39 5)] (A, B, Y, K, T) (fun n2 A2 B2 Y2 K2 T2 => (0 < d ∧ pzI (d - 1) 2 [.inl n2] (A2, B2, Y2, K2, T2) (fun n3 A3 B3 Y3 K3 T3 => (Q A3 (zu B3 39 6 (2 : Int)) Y3 K3 T3 ∧ Q A3 (zu B3 39 6 (1 : Int)) Y3 K3 T3)))))))
    intro c1 _ _
    refine ⟨hq _ (Or.inl rfl), by omega, ?_⟩
    refine m_charAt hK h0 (by omega) (fun c q1 q2 q3 q4 => ⟨by omega, m_isLetter (by omega) (fun n q5 q6 => ⟨hq _ (Or.inr rfl), hq _ (Or.inl rfl)⟩)⟩)
  have j5 : ∀ (r : Nat) (B Y : zF), mK B → 0 ≤ (B 39 5) → (B 39 5) + (r : Int) = (B 39 4) → mY Y → (∀ a t Y', (B 39 5) ≤ a → a ≤ (B 39 4) → (((B 39 5) < (B 39 4) ∧ 48 ≤ (B 41) (B 39 5).toNat ∧ (B 41) (B 39 5).toNat ≤ 57) → (B 39 5) < a) → (t = 1 ∨ t = 2) → mY Y' → Q A (zu (zu B 39 5 a) 39 6 t) Y' K T) → pq d 6 5 [some (.inr (.inr 39))] [] (A, B, Y, K, T) (qV Q) := by
    intro r
    induction r with
    | zero =>
      intro B Y hK h0 h1 hY hq
      obtain ⟨⟨k1, k2⟩, k3⟩ := id hK
      refine pq_of 6 [(5, []), (19, []), (83, [])] [] ?_
      show (0 < d ∧ pzI (d - 1) 4 [.inr (.inr (39 : Nat)), .inl (B 39 5)] (A, B, Y, K, T) (fun n1 A1 B1 Y1 K1 T1 => (0 < d ∧ pzI (d - 1) 3 [.inl n1] (A1, B1, Y1, K1, T1) (fun n2 A2 B2 Y2 K2 T2 => ((-2147483648 ≤ n2 ∧ n2 < 2147483648) ∧ (n2 = (0 : Int) → pq d 6 83 [some (.inr (.inr (39 : Nat)))] [] (A2, B2, Y2, K2, T2) (qV Q)) ∧ (n2 ≠ (0 : Int) → pq d 6 19 [some (.inr (.inr (39 : Nat)))] [] (A2, B2, Y2, K2, T2) (qV Q)))))))
      refine ⟨by omega, m_charAt hK h0 (by omega) (fun c q1 q2 q3 q4 => ⟨by omega, m_isDigit (by omega) (fun n q5 q6 => ⟨by omega, fun q7 => ?_, fun q7 => ?_⟩)⟩)⟩
      · refine j83 B Y hK h0 (by omega) hY (fun t ht => ?_)
        have := hq (B 39 5) t Y (by omega) (by omega) (by omega) ht hY
        rwa [zu_id] at this
      · have : c ≠ 0 := by omega
        have := q3 this
        omega
    | succ r ih =>
      intro B Y hK h0 h1 hY hq
      obtain ⟨⟨k1, k2⟩, k3⟩ := id hK
      have j19 : pq d 6 19 [some (.inr (.inr 39))] [] (A, B, Y, K, T) (qV Q) := by
        have key : ∀ Y', mY Y' → pq d 6 5 [some (.inr (.inr 39))] [] (A, zu B 39 5 ((B 39 5) + 1), Y', K, T) (qV Q) := by
          intro Y' hY'
          refine ih _ Y' ⟨⟨k1, k2⟩, k3⟩ (show 0 ≤ (B 39 5) + 1 by omega) (show (B 39 5) + 1 + (r : Int) = (B 39 4) by omega) hY' (fun a t Y'' g1 g2 g3 g4 g5 => ?_)
          rw [zu_zu]
          have g1 : (B 39 5) + 1 ≤ a := g1
          exact hq a t Y'' (by omega) g2 (fun _ => by omega) g4 g5
        refine pq_of 30 [(5, [])] [27, 37, 41, 53, 54] ?_
        show (∀ c1 : Int, -9223372036854775808 ≤ c1 → c1 < 9223372036854775808 → (0 < d ∧ pzI (d - 1) 4 [.inr (.inr (39 : Nat)), .inl (B 39 5)] (A, B, Y, K, T) (fun n2 A2 B2 Y2 K2 T2 => ((-2147483648 ≤ n2 ∧ n2 < 2147483648) ∧ (∀ c3 : Int, -9223372036854775808 ≤ c3 → c3 < 9223372036854775808 → (∀ c4 : Int, -9223372036854775808 ≤ c4 → c4 < 9223372036854775808 → (∀ c5 : Int, -2147483648 ≤ c5 → c5 < 2147483648 → (pq d 6 5 [some (.inr (.inr (39 : Nat)))] [] (A2, (zu B2 39 5 ((B2 39 5) + (1 : Int))), (zu (zu Y2 39 9 c4) 39 9 ((zu Y2 39 9 c4) 39 9)), K2, T2) (qV Q) ∧ pq d 6 5 [some (.inr (.inr (39 : Nat)))] [] (A2, (zu B2 39 5 ((B2 39 5) + (1 : Int))), (zu (zu Y2 39 9 c4) 39 9 (4294967296 : Int)), K2, T2) (qV Q)))))))))
        intro c1 _ _
        refine ⟨by omega, m_charAt hK h0 (by omega) (fun c q1 q2 q3 q4 => ⟨by omega, fun c2 _ _ c3 r1 r2 c4 _ _ => ⟨key _ ⟨r1, r2⟩, key _ (show -9223372036854775808 ≤ (4294967296 : Int) ∧ (4294967296 : Int) < 9223372036854775808 by omega)⟩⟩)⟩
      refine pq_of 6 [(5, []), (19, []), (83, [])] [] ?_
      show (0 < d ∧ pzI (d - 1) 4 [.inr (.inr (39 : Nat)), .inl (B 39 5)] (A, B, Y, K, T) (fun n1 A1 B1 Y1 K1 T1 => (0 < d ∧ pzI (d - 1) 3 [.inl n1] (A1, B1, Y1, K1, T1) (fun n2 A2 B2 Y2 K2 T2 => ((-2147483648 ≤ n2 ∧ n2 < 2147483648) ∧ (n2 = (0 : Int) → pq d 6 83 [some (.inr (.inr (39 : Nat)))] [] (A2, B2, Y2, K2, T2) (qV Q)) ∧ (n2 ≠ (0 : Int) → pq d 6 19 [some (.inr (.inr (39 : Nat)))] [] (A2, B2, Y2, K2, T2) (qV Q)))))))
      refine ⟨by omega, m_charAt hK h0 (by omega) (fun c q1 q2 q3 q4 => ⟨by omega, m_isDigit (by omega) (fun n q5 q6 => ⟨by omega, fun q7 => ?_, fun q7 => j19⟩)⟩)⟩
      refine j83 B Y hK h0 (by omega) hY (fun t ht => ?_)
      have := hq (B 39 5) t Y (by omega) (by omega) (fun z => by
        have := q4 z.1
        omega) ht hY
      rwa [zu_id] at this
  refine pzV_of 3 [(5, [])] [] ?_
  show pq d 6 5 [some (.inr (.inr (39 : Nat)))] [] (A, B, (zu Y 39 9 (0 : Int)), K, T) (qV Q)
  exact j5 ((B 39 4) - (B 39 5)).toNat B _ hK h0 (by omega) (show -9223372036854775808 ≤ (0 : Int) ∧ (0 : Int) < 9223372036854775808 by omega) hq
set_option maxRecDepth 100000 in
set_option maxHeartbeats 4000000 in
theorem m_word {Q : zF → zF → zF → Nat → zT → Prop} (hd : 1 ≤ d) (hK : mK B) (h0 : 0 ≤ (B 39 5)) (h1 : (B 39 5) ≤ (B 39 4)) (hf : 0 ≤ (B 39 7) ∧ (B 39 7) ≤ 3000) (hq : ∀ a t, (B 39 5) ≤ a → a ≤ (B 39 4) → (((B 39 5) < (B 39 4) ∧ ((97 ≤ (B 41) (B 39 5).toNat ∧ (B 41) (B 39 5).toNat ≤ 122) ∨ (65 ≤ (B 41) (B 39 5).toNat ∧ (B 41) (B 39 5).toNat ≤ 90) ∨ (B 41) (B 39 5).toNat = 95)) → (B 39 5) < a) → (1 ≤ t ∧ t ≤ 11) → Q A (zu (zu B 39 5 a) 39 6 t) Y K T) : pzV d 7 [.inr (.inr 39)] (A, B, Y, K, T) Q := by
  have j78 : ∀ (B : zF) (w : Int), mK B → 0 ≤ (B 39 5) → (B 39 5) ≤ (B 39 4) → (0 ≤ (B 39 7) ∧ (B 39 7) ≤ 3000) → (∀ t, (1 ≤ t ∧ t ≤ 11) → Q A (zu B 39 6 t) Y K T) → pq d 7 78 [some (.inr (.inr 39)), some (.inr (.inl w)), none] [] (A, B, Y, K, T) (qV Q) := by
    intro B w hK h0 h1 hf hq
    obtain ⟨⟨k1, k2⟩, k3⟩ := id hK
    have j200 : ∀ t, (1 ≤ t ∧ t ≤ 11) → pq d 7 200 [none, none, none] [.inl t, .inr (.inr 39)] (A, B, Y, K, T) (qV Q) := fun t ht => by
      refine pq_of 2 [] [] ?_
      show Q A (zu B 39 6 t) Y K T
      exact hq t ht
    refine pq_of 42 [(200, [0, 1])] [90, 101, 102, 113, 114, 125, 126, 138, 139, 151, 152, 164, 165, 177, 178, 190, 191] ?_
    show ((∀ c1 : Int, -2147483648 ≤ c1 → c1 < 2147483648 → ((∀ c2 : Int, -2147483648 ≤ c2 → c2 < 2147483648 → ((∀ c3 : Int, -2147483648 ≤ c3 → c3 < 2147483648 → ((∀ c4 : Int, -2147483648 ≤ c4 → c4 < 2147483648 → ((∀ c5 : Int, -2147483648 ≤ c5 → c5 < 2147483648 → ((∀ c6 : Int, -2147483648 ≤ c6 → c6 < 2147483648 → ((∀ c7 : Int, -2147483648 ≤ c7 → c7 < 2147483648 → ((∀ c8 : Int, -2147483648 ≤ c8 → c8 < 2147483648 → (pq d 7 200 [none, none, none] [.inl (3 : Int), .inr (.inr (39 : Nat))] (A, B, Y, K, T) (qV Q) ∧ pq d 7 200 [none, none, none] [.inl (11 : Int), .inr (.inr (39 : Nat))] (A, B, Y, K, T) (qV Q))) ∧ pq d 7 200 [none, none, none] [.inl (10 : Int), .inr (.inr (39 : Nat))] (A, B, Y, K, T) (qV Q))) ∧ pq d 7 200 [none, none, none] [.inl (9 : Int), .inr (.inr (39 : Nat))] (A, B, Y, K, T) (qV Q))) ∧ pq d 7 200 [none, none, none] [.inl (8 : Int), .inr (.inr (39 : Nat))] (A, B, Y, K, T) (qV Q))) ∧ pq d 7 200 [none, none, none] [.inl (7 : Int), .inr (.inr (39 : Nat))] (A, B, Y, K, T) (qV Q))) ∧ pq d 7 200 [none, none, none] [.inl (6 : Int), .inr (.inr (39 : Nat))] (A, B, Y, K, T) (qV Q))) ∧ pq d 7 200 [none, none, none] [.inl (5 : Int), .inr (.inr (39 : Nat))] (A, B, Y, K, T) (qV Q))) ∧ pq d 7 200 [none, none, none] [.inl (4 : Int), .inr (.inr (39 : Nat))] (A, B, Y, K, T) (qV Q))) ∧ pq d 7 200 [none, none, none] [.inl (1 : Int), .inr (.inr (39 : Nat))] (A, B, Y, K, T) (qV Q))
    refine ⟨?_, j200 _ (by omega)⟩
    intro c1 _ _
    refine ⟨fun c2 _ _ => ⟨fun c3 _ _ => ⟨fun c4 _ _ => ⟨fun c5 _ _ => ⟨fun c6 _ _ => ⟨fun c7 _ _ => ⟨fun c8 _ _ => ⟨j200 _ (by omega), j200 _ (by omega)⟩, j200 _ (by omega)⟩, j200 _ (by omega)⟩, j200 _ (by omega)⟩, j200 _ (by omega)⟩, j200 _ (by omega)⟩, j200 _ (by omega)⟩, j200 _ (by omega)⟩
  have j2 : ∀ (r : Nat) (B : zF) (w : Int), mK B → 0 ≤ (B 39 5) → (B 39 5) + (r : Int) = (B 39 4) → (0 ≤ (B 39 7) ∧ (B 39 7) ≤ 3000) → (∀ a t, (B 39 5) ≤ a → a ≤ (B 39 4) → (((B 39 5) < (B 39 4) ∧ ((97 ≤ (B 41) (B 39 5).toNat ∧ (B 41) (B 39 5).toNat ≤ 122) ∨ (65 ≤ (B 41) (B 39 5).toNat ∧ (B 41) (B 39 5).toNat ≤ 90) ∨ (B 41) (B 39 5).toNat = 95)) → (B 39 5) < a) → (1 ≤ t ∧ t ≤ 11) → Q A (zu (zu B 39 5 a) 39 6 t) Y K T) → pq d 7 2 [some (.inr (.inr 39)), some (.inr (.inl w)), none] [] (A, B, Y, K, T) (qV Q) := by
    intro r
    induction r with
    | zero =>
      intro B w hK h0 h1 hf hq
      obtain ⟨⟨k1, k2⟩, k3⟩ := id hK
      refine pq_of 12 [(2, []), (30, []), (78, [])] [] ?_
      show (0 < d ∧ pzI (d - 1) 4 [.inr (.inr (39 : Nat)), .inl (B 39 5)] (A, B, Y, K, T) (fun n1 A1 B1 Y1 K1 T1 => (0 < d ∧ pzI (d - 1) 2 [.inl n1] (A1, B1, Y1, K1, T1) (fun n2 A2 B2 Y2 K2 T2 => ((-2147483648 ≤ n2 ∧ n2 < 2147483648) ∧ (n2 ≠ (0 : Int) → pq d 7 30 [some (.inr (.inr (39 : Nat))), some (.inr (.inl w)), none] [] (A2, B2, Y2, K2, T2) (qV Q)) ∧ (n2 = (0 : Int) → (0 < d ∧ pzI (d - 1) 4 [.inr (.inr (39 : Nat)), .inl (B2 39 5)] (A2, B2, Y2, K2, T2) (fun n3 A3 B3 Y3 K3 T3 => (0 < d ∧ pzI (d - 1) 3 [.inl n3] (A3, B3, Y3, K3, T3) (fun n4 A4 B4 Y4 K4 T4 => ((-2147483648 ≤ n4 ∧ n4 < 2147483648) ∧ (n4 = (0 : Int) → pq d 7 78 [some (.inr (.inr (39 : Nat))), some (.inr (.inl w)), none] [] (A4, B4, Y4, K4, T4) (qV Q)) ∧ (n4 ≠ (0 : Int) → pq d 7 30 [some (.inr (.inr (39 : Nat))), some (.inr (.inl w)), none] [] (A4, B4, Y4, K4, T4) (qV Q)))))))))))))
      refine ⟨by omega, m_charAt hK h0 (by omega) (fun c q1 q2 q3 q4 => ⟨by omega, m_isLetter (by omega) (fun n q5 q6 => ⟨by omega, fun q7 => ?_, fun q7 => ⟨by omega, m_charAt hK h0 (by omega) (fun c' p1 p2 p3 p4 => ⟨by omega, m_isDigit (by omega) (fun n' p5 p6 => ⟨by omega, fun p7 => ?_, fun p7 => ?_⟩)⟩)⟩⟩)⟩)⟩
      · have := q3 (by omega)
        omega
      · refine j78 B w hK h0 (by omega) hf (fun t ht => ?_)
        have := hq (B 39 5) t (by omega) (by omega) (by omega) ht
        rwa [zu_id] at this
      · have := p3 (by omega)
        omega
    | succ r ih =>
      intro B w hK h0 h1 hf hq
      obtain ⟨⟨k1, k2⟩, k3⟩ := id hK
      have j30 : pq d 7 30 [some (.inr (.inr 39)), some (.inr (.inl w)), none] [] (A, B, Y, K, T) (qV Q) := by
        have key : ∀ w', pq d 7 2 [some (.inr (.inr 39)), some (.inr (.inl w')), none] [] (A, zu B 39 5 ((B 39 5) + 1), Y, K, T) (qV Q) := by
          intro w'
          refine ih _ w' ⟨⟨k1, k2⟩, k3⟩ (show 0 ≤ (B 39 5) + 1 by omega) (show (B 39 5) + 1 + (r : Int) = (B 39 4) by omega) hf (fun a t g1 g2 g3 g4 => ?_)
          rw [zu_zu]
          have g1 : (B 39 5) + 1 ≤ a := g1
          exact hq a t (by omega) g2 (fun _ => by omega) g4
        refine pq_of 25 [(2, [])] [41] ?_
        show (pq d 7 2 [some (.inr (.inr (39 : Nat))), some (.inr (.inl (-1 : Int))), none] [] (A, (zu B 39 5 ((B 39 5) + (1 : Int))), Y, K, T) (qV Q) ∧ (∀ c1 : Int, -9223372036854775808 ≤ c1 → c1 < 9223372036854775808 → (0 < d ∧ pzI (d - 1) 4 [.inr (.inr (39 : Nat)), .inl (B 39 5)] (A, B, Y, K, T) (fun n2 A2 B2 Y2 K2 T2 => ((-2147483648 ≤ n2 ∧ n2 < 2147483648) ∧ (∀ c3 : Int, -9223372036854775808 ≤ c3 → c3 < 9223372036854775808 → pq d 7 2 [some (.inr (.inr (39 : Nat))), some (.inr (.inl c3)), none] [] (A2, (zu B2 39 5 ((B2 39 5) + (1 : Int))), Y2, K2, T2) (qV Q)))))))
        refine ⟨key _, fun c1 _ _ => ⟨by omega, m_charAt hK h0 (by omega) (fun c q1 q2 q3 q4 => ⟨by omega, fun c2 _ _ => key _⟩)⟩⟩
      refine pq_of 12 [(2, []), (30, []), (78, [])] [] ?_
      show (0 < d ∧ pzI (d - 1) 4 [.inr (.inr (39 : Nat)), .inl (B 39 5)] (A, B, Y, K, T) (fun n1 A1 B1 Y1 K1 T1 => (0 < d ∧ pzI (d - 1) 2 [.inl n1] (A1, B1, Y1, K1, T1) (fun n2 A2 B2 Y2 K2 T2 => ((-2147483648 ≤ n2 ∧ n2 < 2147483648) ∧ (n2 ≠ (0 : Int) → pq d 7 30 [some (.inr (.inr (39 : Nat))), some (.inr (.inl w)), none] [] (A2, B2, Y2, K2, T2) (qV Q)) ∧ (n2 = (0 : Int) → (0 < d ∧ pzI (d - 1) 4 [.inr (.inr (39 : Nat)), .inl (B2 39 5)] (A2, B2, Y2, K2, T2) (fun n3 A3 B3 Y3 K3 T3 => (0 < d ∧ pzI (d - 1) 3 [.inl n3] (A3, B3, Y3, K3, T3) (fun n4 A4 B4 Y4 K4 T4 => ((-2147483648 ≤ n4 ∧ n4 < 2147483648) ∧ (n4 = (0 : Int) → pq d 7 78 [some (.inr (.inr (39 : Nat))), some (.inr (.inl w)), none] [] (A4, B4, Y4, K4, T4) (qV Q)) ∧ (n4 ≠ (0 : Int) → pq d 7 30 [some (.inr (.inr (39 : Nat))), some (.inr (.inl w)), none] [] (A4, B4, Y4, K4, T4) (qV Q)))))))))))))
      refine ⟨by omega, m_charAt hK h0 (by omega) (fun c q1 q2 q3 q4 => ⟨by omega, m_isLetter (by omega) (fun n q5 q6 => ⟨by omega, fun q7 => j30, fun q7 => ⟨by omega, m_charAt hK h0 (by omega) (fun c' p1 p2 p3 p4 => ⟨by omega, m_isDigit (by omega) (fun n' p5 p6 => ⟨by omega, fun p7 => ?_, fun p7 => j30⟩)⟩)⟩⟩)⟩)⟩
      refine j78 B w hK h0 (by omega) hf (fun t ht => ?_)
      have := hq (B 39 5) t (by omega) (by omega) (fun z => by
        have := q4 z.1
        omega) ht
      rwa [zu_id] at this
  refine pzV_of 2 [(2, [])] [] ?_
  show pq d 7 2 [some (.inr (.inr (39 : Nat))), some (.inr (.inl (0 : Int))), none] [] (A, B, Y, K, T) (qV Q)
  exact j2 ((B 39 4) - (B 39 5)).toNat B _ hK h0 (by omega) hf hq
set_option maxRecDepth 100000 in
set_option maxHeartbeats 4000000 in
theorem m_sign {c : Int} {Q : zF → zF → zF → Nat → zT → Prop} (hd : 1 ≤ d) (hK : mK B) (h0 : 0 ≤ (B 39 5)) (h1 : (B 39 5) < (B 39 4)) (hc : 0 ≤ c ∧ c < 65536) (hq : ∀ a t, (B 39 5) < a → a ≤ (B 39 4) → (-2147483648 ≤ t ∧ t < 2147483648) → Q A (zu (zu B 39 5 a) 39 6 t) Y K T) : pzV d 8 [.inr (.inr 39), .inl c] (A, B, Y, K, T) Q := by
  obtain ⟨⟨k1, k2⟩, k3⟩ := id hK
  have j213 : ∀ (a b e x : Int), (B 39 5) < a → a ≤ (B 39 4) → (0 ≤ x ∧ x < 65536) → pq d 8 213 [some (.inr (.inr 39)), some (.inl c), some (.inl x), some (.inl b), none] [.inl e] (A, zu B 39 5 a, Y, K, T) (qV Q) := by
    intro a b e x g1 g2 g3
    refine pq_of 12 [] [217, 232] ?_
    show ((Q A (zu (zu B 39 5 a) 39 6 (1 : Int)) Y K T ∧ Q A (zu (zu B 39 5 a) 39 6 c) Y K T) ∧ Q A (zu (zu B 39 5 a) 39 6 (((256 : Int) * c) + x)) Y K T)
    exact ⟨⟨hq _ _ g1 g2 (by omega), hq _ _ g1 g2 (by omega)⟩, hq _ _ g1 g2 (by omega)⟩
  have j57 : ∀ (b x : Int), (b = 0 ∨ b = 1) → (b = 1 → (B 39 5) + 1 < (B 39 4)) → (0 ≤ x ∧ x < 65536) → pq d 8 57 [some (.inr (.inr 39)), some (.inl c), some (.inl x), none, none] [.inl b] (A, B, Y, K, T) (qV Q) := by
    intro b x g1 g2 g3
    refine pq_of 10 [(76, [])] [] ?_
    show ((-2147483648 ≤ b ∧ b < 2147483648) ∧ (b = (0 : Int) → pq d 8 76 [some (.inr (.inr (39 : Nat))), some (.inl c), some (.inl x), some (.inl b), none] [] (A, (zu B 39 5 ((B 39 5) + (1 : Int))), Y, K, T) (qV Q)) ∧ (b ≠ (0 : Int) → pq d 8 76 [some (.inr (.inr (39 : Nat))), some (.inl c), some (.inl x), some (.inl b), none] [] (A, (zu B 39 5 ((B 39 5) + (2 : Int))), Y, K, T) (qV Q)))
    refine ⟨by omega, fun z => ?_, fun z => ?_⟩
    · skip
      refine pq_of 68 [(213, [])] [79, 85, 91, 97, 103, 109, 115, 121, 127, 133, 139, 145, 151, 157, 163, 169, 175, 181, 187, 193, 199, 205] ?_
      show (pq d 8 213 [some (.inr (.inr (39 : Nat))), some (.inl c), some (.inl x), some (.inl b), none] [.inl (1 : Int)] (A, (zu B 39 5 ((B 39 5) + (1 : Int))), Y, K, T) (qV Q) ∧ (pq d 8 213 [some (.inr (.inr (39 : Nat))), some (.inl c), some (.inl x), some (.inl b), none] [.inl (1 : Int)] (A, (zu B 39 5 ((B 39 5) + (1 : Int))), Y, K, T) (qV Q) ∧ (pq d 8 213 [some (.inr (.inr (39 : Nat))), some (.inl c), some (.inl x), some (.inl b), none] [.inl (1 : Int)] (A, (zu B 39 5 ((B 39 5) + (1 : Int))), Y, K, T) (qV Q) ∧ (pq d 8 213 [some (.inr (.inr (39 : Nat))), some (.inl c), some (.inl x), some (.inl b), none] [.inl (1 : Int)] (A, (zu B 39 5 ((B 39 5) + (1 : Int))), Y, K, T) (qV Q) ∧ (pq d 8 213 [some (.inr (.inr (39 : Nat))), some (.inl c), some (.inl x), some (.inl b), none] [.inl (1 : Int)] (A, (zu B 39 5 ((B 39 5) + (1 : Int))), Y, K, T) (qV Q) ∧ (pq d 8 213 [some (.inr (.inr (39 : Nat))), some (.inl c), some (.inl x), some (.inl b), none] [.inl (1 : Int)] (A, (zu B 39 5 ((B 39 5) + (1 : Int))), Y, K, T) (qV Q) ∧ (pq d 8 213 [some (.inr (.inr (39 : Nat))), some (.inl c), some (.inl x), some (.inl b), none] [.inl (1 : Int)] (A, (zu B 39 5 ((B 39 5) + (1 : Int))), Y, K, T) (qV Q) ∧ (pq d 8 213 [some (.inr (.inr (39 : Nat))), some (.inl c), some (.inl x), some (.inl b), none] [.inl (1 : Int)] (A, (zu B 39 5 ((B 39 5) + (1 : Int))), Y, K, T) (qV Q) ∧ (pq d 8 213 [some (.inr (.inr (39 : Nat))), some (.inl c), some (.inl x), some (.inl b), none] [.inl (1 : Int)] (A, (zu B 39 5 ((B 39 5) + (1 : Int))), Y, K, T) (qV Q) ∧ (pq d 8 213 [some (.inr (.inr (39 : Nat))), some (.inl c), some (.inl x), some (.inl b), none] [.inl (1 : Int)] (A, (zu B 39 5 ((B 39 5) + (1 : Int))), Y, K, T) (qV Q) ∧ (pq d 8 213 [some (.inr (.inr (39 : Nat))), some (.inl c), some (.inl x), some (.inl b), none] [.inl (1 : Int)] (A, (zu B 39 5 ((B 39 5) + (1 : Int))), Y, K, T) (qV Q) ∧ (pq d 8 213 [some (.inr (.inr (39 : Nat))), some (.inl c), some (.inl x), some (.inl b), none] [.inl (1 : Int)] (A, (zu B 39 5 ((B 39 5) + (1 : Int))), Y, K, T) (qV Q) ∧ (pq d 8 213 [some (.inr (.inr (39 : Nat))), some (.inl c), some (.inl x), some (.inl b), none] [.inl (1 : Int)] (A, (zu B 39 5 ((B 39 5) + (1 : Int))), Y, K, T) (qV Q) ∧ (pq d 8 213 [some (.inr (.inr (39 : Nat))), some (.inl c), some (.inl x), some (.inl b), none] [.inl (1 : Int)] (A, (zu B 39 5 ((B 39 5) + (1 : Int))), Y, K, T) (qV Q) ∧ (pq d 8 213 [some (.inr (.inr (39 : Nat))), some (.inl c), some (.inl x), some (.inl b), none] [.inl (1 : Int)] (A, (zu B 39 5 ((B 39 5) + (1 : Int))), Y, K, T) (qV Q) ∧ (pq d 8 213 [some (.inr (.inr (39 : Nat))), some (.inl c), some (.inl x), some (.inl b), none] [.inl (1 : Int)] (A, (zu B 39 5 ((B 39 5) + (1 : Int))), Y, K, T) (qV Q) ∧ (pq d 8 213 [some (.inr (.inr (39 : Nat))), some (.inl c), some (.inl x), some (.inl b), none] [.inl (1 : Int)] (A, (zu B 39 5 ((B 39 5) + (1 : Int))), Y, K, T) (qV Q) ∧ (pq d 8 213 [some (.inr (.inr (39 : Nat))), some (.inl c), some (.inl x), some (.inl b), none] [.inl (1 : Int)] (A, (zu B 39 5 ((B 39 5) + (1 : Int))), Y, K, T) (qV Q) ∧ (pq d 8 213 [some (.inr (.inr (39 : Nat))), some (.inl c), some (.inl x), some (.inl b), none] [.inl (1 : Int)] (A, (zu B 39 5 ((B 39 5) + (1 : Int))), Y, K, T) (qV Q) ∧ (pq d 8 213 [some (.inr (.inr (39 : Nat))), some (.inl c), some (.inl x), some (.inl b), none] [.inl (1 : Int)] (A, (zu B 39 5 ((B 39 5) + (1 : Int))), Y, K, T) (qV Q) ∧ (pq d 8 213 [some (.inr (.inr (39 : Nat))), some (.inl c), some (.inl x), some (.inl b), none] [.inl (1 : Int)] (A, (zu B 39 5 ((B 39 5) + (1 : Int))), Y, K, T) (qV Q) ∧ (pq d 8 213 [some (.inr (.inr (39 : Nat))), some (.inl c), some (.inl x), some (.inl b), none] [.inl (0 : Int)] (A, (zu B 39 5 ((B 39 5) + (1 : Int))), Y, K, T) (qV Q) ∧ pq d 8 213 [some (.inr (.inr (39 : Nat))), some (.inl c), some (.inl x), some (.inl b), none] [.inl (1 : Int)] (A, (zu B 39 5 ((B 39 5) + (1 : Int))), Y, K, T) (qV Q)))))))))))))))))))))))
      have e1 : ∀ e, pq d 8 213 [some (.inr (.inr 39)), some (.inl c), some (.inl x), some (.inl b), none] [.inl e] (A, zu B 39 5 ((B 39 5) + 1), Y, K, T) (qV Q) := fun e => j213 _ _ _ _ (by omega) (by omega) g3
      exact ⟨e1 _, e1 _, e1 _, e1 _, e1 _, e1 _, e1 _, e1 _, e1 _, e1 _, e1 _, e1 _, e1 _, e1 _, e1 _, e1 _, e1 _, e1 _, e1 _, e1 _, e1 _, e1 _, e1 _⟩
    · skip
      refine pq_of 68 [(213, [])] [79, 85, 91, 97, 103, 109, 115, 121, 127, 133, 139, 145, 151, 157, 163, 169, 175, 181, 187, 193, 199, 205] ?_
      show (pq d 8 213 [some (.inr (.inr (39 : Nat))), some (.inl c), some (.inl x), some (.inl b), none] [.inl (1 : Int)] (A, (zu B 39 5 ((B 39 5) + (2 : Int))), Y, K, T) (qV Q) ∧ (pq d 8 213 [some (.inr (.inr (39 : Nat))), some (.inl c), some (.inl x), some (.inl b), none] [.inl (1 : Int)] (A, (zu B 39 5 ((B 39 5) + (2 : Int))), Y, K, T) (qV Q) ∧ (pq d 8 213 [some (.inr (.inr (39 : Nat))), some (.inl c), some (.inl x), some (.inl b), none] [.inl (1 : Int)] (A, (zu B 39 5 ((B 39 5) + (2 : Int))), Y, K, T) (qV Q) ∧ (pq d 8 213 [some (.inr (.inr (39 : Nat))), some (.inl c), some (.inl x), some (.inl b), none] [.inl (1 : Int)] (A, (zu B 39 5 ((B 39 5) + (2 : Int))), Y, K, T) (qV Q) ∧ (pq d 8 213 [some (.inr (.inr (39 : Nat))), some (.inl c), some (.inl x), some (.inl b), none] [.inl (1 : Int)] (A, (zu B 39 5 ((B 39 5) + (2 : Int))), Y, K, T) (qV Q) ∧ (pq d 8 213 [some (.inr (.inr (39 : Nat))), some (.inl c), some (.inl x), some (.inl b), none] [.inl (1 : Int)] (A, (zu B 39 5 ((B 39 5) + (2 : Int))), Y, K, T) (qV Q) ∧ (pq d 8 213 [some (.inr (.inr (39 : Nat))), some (.inl c), some (.inl x), some (.inl b), none] [.inl (1 : Int)] (A, (zu B 39 5 ((B 39 5) + (2 : Int))), Y, K, T) (qV Q) ∧ (pq d 8 213 [some (.inr (.inr (39 : Nat))), some (.inl c), some (.inl x), some (.inl b), none] [.inl (1 : Int)] (A, (zu B 39 5 ((B 39 5) + (2 : Int))), Y, K, T) (qV Q) ∧ (pq d 8 213 [some (.inr (.inr (39 : Nat))), some (.inl c), some (.inl x), some (.inl b), none] [.inl (1 : Int)] (A, (zu B 39 5 ((B 39 5) + (2 : Int))), Y, K, T) (qV Q) ∧ (pq d 8 213 [some (.inr (.inr (39 : Nat))), some (.inl c), some (.inl x), some (.inl b), none] [.inl (1 : Int)] (A, (zu B 39 5 ((B 39 5) + (2 : Int))), Y, K, T) (qV Q) ∧ (pq d 8 213 [some (.inr (.inr (39 : Nat))), some (.inl c), some (.inl x), some (.inl b), none] [.inl (1 : Int)] (A, (zu B 39 5 ((B 39 5) + (2 : Int))), Y, K, T) (qV Q) ∧ (pq d 8 213 [some (.inr (.inr (39 : Nat))), some (.inl c), some (.inl x), some (.inl b), none] [.inl (1 : Int)] (A, (zu B 39 5 ((B 39 5) + (2 : Int))), Y, K, T) (qV Q) ∧ (pq d 8 213 [some (.inr (.inr (39 : Nat))), some (.inl c), some (.inl x), some (.inl b), none] [.inl (1 : Int)] (A, (zu B 39 5 ((B 39 5) + (2 : Int))), Y, K, T) (qV Q) ∧ (pq d 8 213 [some (.inr (.inr (39 : Nat))), some (.inl c), some (.inl x), some (.inl b), none] [.inl (1 : Int)] (A, (zu B 39 5 ((B 39 5) + (2 : Int))), Y, K, T) (qV Q) ∧ (pq d 8 213 [some (.inr (.inr (39 : Nat))), some (.inl c), some (.inl x), some (.inl b), none] [.inl (1 : Int)] (A, (zu B 39 5 ((B 39 5) + (2 : Int))), Y, K, T) (qV Q) ∧ (pq d 8 213 [some (.inr (.inr (39 : Nat))), some (.inl c), some (.inl x), some (.inl b), none] [.inl (1 : Int)] (A, (zu B 39 5 ((B 39 5) + (2 : Int))), Y, K, T) (qV Q) ∧ (pq d 8 213 [some (.inr (.inr (39 : Nat))), some (.inl c), some (.inl x), some (.inl b), none] [.inl (1 : Int)] (A, (zu B 39 5 ((B 39 5) + (2 : Int))), Y, K, T) (qV Q) ∧ (pq d 8 213 [some (.inr (.inr (39 : Nat))), some (.inl c), some (.inl x), some (.inl b), none] [.inl (1 : Int)] (A, (zu B 39 5 ((B 39 5) + (2 : Int))), Y, K, T) (qV Q) ∧ (pq d 8 213 [some (.inr (.inr (39 : Nat))), some (.inl c), some (.inl x), some (.inl b), none] [.inl (1 : Int)] (A, (zu B 39 5 ((B 39 5) + (2 : Int))), Y, K, T) (qV Q) ∧ (pq d 8 213 [some (.inr (.inr (39 : Nat))), some (.inl c), some (.inl x), some (.inl b), none] [.inl (1 : Int)] (A, (zu B 39 5 ((B 39 5) + (2 : Int))), Y, K, T) (qV Q) ∧ (pq d 8 213 [some (.inr (.inr (39 : Nat))), some (.inl c), some (.inl x), some (.inl b), none] [.inl (1 : Int)] (A, (zu B 39 5 ((B 39 5) + (2 : Int))), Y, K, T) (qV Q) ∧ (pq d 8 213 [some (.inr (.inr (39 : Nat))), some (.inl c), some (.inl x), some (.inl b), none] [.inl (0 : Int)] (A, (zu B 39 5 ((B 39 5) + (2 : Int))), Y, K, T) (qV Q) ∧ pq d 8 213 [some (.inr (.inr (39 : Nat))), some (.inl c), some (.inl x), some (.inl b), none] [.inl (1 : Int)] (A, (zu B 39 5 ((B 39 5) + (2 : Int))), Y, K, T) (qV Q)))))))))))))))))))))))
      have e1 : ∀ e, pq d 8 213 [some (.inr (.inr 39)), some (.inl c), some (.inl x), some (.inl b), none] [.inl e] (A, zu B 39 5 ((B 39 5) + 2), Y, K, T) (qV Q) := fun e => j213 _ _ _ _ (by omega) (by omega) g3
      exact ⟨e1 _, e1 _, e1 _, e1 _, e1 _, e1 _, e1 _, e1 _, e1 _, e1 _, e1 _, e1 _, e1 _, e1 _, e1 _, e1 _, e1 _, e1 _, e1 _, e1 _, e1 _, e1 _, e1 _⟩
  have j28 : ∀ x, 0 ≤ x → x < 65536 → (x ≠ 0 → (B 39 5) + 1 < (B 39 4)) → pq d 8 28 [some (.inr (.inr 39)), some (.inl c), some (.inl x), none, none] [] (A, B, Y, K, T) (qV Q) := by
    intro x g1 g2 g3
    refine pq_of 14 [(57, [])] [31, 37, 43] ?_
    show (((-2147483648 ≤ x ∧ x < 2147483648) ∧ (-2147483648 ≤ (61 : Int) ∧ (61 : Int) < 2147483648) ∧ (x ≠ (61 : Int) → pq d 8 57 [some (.inr (.inr (39 : Nat))), some (.inl c), some (.inl x), none, none] [.inl (0 : Int)] (A, B, Y, K, T) (qV Q)) ∧ (x = (61 : Int) → pq d 8 57 [some (.inr (.inr (39 : Nat))), some (.inl c), some (.inl x), none, none] [.inl (1 : Int)] (A, B, Y, K, T) (qV Q))) ∧ (((-2147483648 ≤ x ∧ x < 2147483648) ∧ (-2147483648 ≤ (61 : Int) ∧ (61 : Int) < 2147483648) ∧ (x ≠ (61 : Int) → pq d 8 57 [some (.inr (.inr (39 : Nat))), some (.inl c), some (.inl x), none, none] [.inl (0 : Int)] (A, B, Y, K, T) (qV Q)) ∧ (x = (61 : Int) → pq d 8 57 [some (.inr (.inr (39 : Nat))), some (.inl c), some (.inl x), none, none] [.inl (1 : Int)] (A, B, Y, K, T) (qV Q))) ∧ (pq d 8 57 [some (.inr (.inr (39 : Nat))), some (.inl c), some (.inl x), none, none] [.inl (0 : Int)] (A, B, Y, K, T) (qV Q) ∧ ((-2147483648 ≤ x ∧ x < 2147483648) ∧ (-2147483648 ≤ (61 : Int) ∧ (61 : Int) < 2147483648) ∧ (x ≠ (61 : Int) → pq d 8 57 [some (.inr (.inr (39 : Nat))), some (.inl c), some (.inl x), none, none] [.inl (0 : Int)] (A, B, Y, K, T) (qV Q)) ∧ (x = (61 : Int) → pq d 8 57 [some (.inr (.inr (39 : Nat))), some (.inl c), some (.inl x), none, none] [.inl (1 : Int)] (A, B, Y, K, T) (qV Q))))))
    have t0 : pq d 8 57 [some (.inr (.inr 39)), some (.inl c), some (.inl x), none, none] [.inl 0] (A, B, Y, K, T) (qV Q) := j57 0 x (by omega) (by omega) (by omega)
    have t1 : (-2147483648 ≤ x ∧ x < 2147483648) ∧ (-2147483648 ≤ (61 : Int) ∧ (61 : Int) < 2147483648) ∧ (x ≠ 61 → pq d 8 57 [some (.inr (.inr 39)), some (.inl c), some (.inl x), none, none] [.inl 0] (A, B, Y, K, T) (qV Q)) ∧ (x = 61 → pq d 8 57 [some (.inr (.inr 39)), some (.inl c), some (.inl x), none, none] [.inl 1] (A, B, Y, K, T) (qV Q)) := ⟨by omega, by omega, fun _ => t0, fun z => j57 1 x (by omega) (fun _ => g3 (by omega)) (by omega)⟩
    exact ⟨t1, t1, t0, t1⟩
  refine pzV_of 18 [(28, []), (57, [])] [] ?_
  show (0 < d ∧ pzI (d - 1) 4 [.inr (.inr (39 : Nat)), .inl ((B 39 5) + (1 : Int))] (A, B, Y, K, T) (fun n1 A1 B1 Y1 K1 T1 => ((-2147483648 ≤ c ∧ c < 2147483648) ∧ (-2147483648 ≤ (60 : Int) ∧ (60 : Int) < 2147483648) ∧ (c = (60 : Int) → ((-2147483648 ≤ n1 ∧ n1 < 2147483648) ∧ (-2147483648 ≤ c ∧ c < 2147483648) ∧ (n1 = c → pq d 8 57 [some (.inr (.inr (39 : Nat))), some (.inl c), some (.inl n1), none, none] [.inl (1 : Int)] (A1, B1, Y1, K1, T1) (qV Q)) ∧ (n1 ≠ c → pq d 8 28 [some (.inr (.inr (39 : Nat))), some (.inl c), some (.inl n1), none, none] [] (A1, B1, Y1, K1, T1) (qV Q)))) ∧ (c ≠ (60 : Int) → ((-2147483648 ≤ c ∧ c < 2147483648) ∧ (-2147483648 ≤ (62 : Int) ∧ (62 : Int) < 2147483648) ∧ (c ≠ (62 : Int) → pq d 8 28 [some (.inr (.inr (39 : Nat))), some (.inl c), some (.inl n1), none, none] [] (A1, B1, Y1, K1, T1) (qV Q)) ∧ (c = (62 : Int) → ((-2147483648 ≤ n1 ∧ n1 < 2147483648) ∧ (-2147483648 ≤ c ∧ c < 2147483648) ∧ (n1 = c → pq d 8 57 [some (.inr (.inr (39 : Nat))), some (.inl c), some (.inl n1), none, none] [.inl (1 : Int)] (A1, B1, Y1, K1, T1) (qV Q)) ∧ (n1 ≠ c → pq d 8 28 [some (.inr (.inr (39 : Nat))), some (.inl c), some (.inl n1), none, none] [] (A1, B1, Y1, K1, T1) (qV Q)))))))))
  refine ⟨by omega, m_charAt hK (by omega) (by omega) (fun x g1 g2 g3 g4 => ?_)⟩
  have b28 := j28 x g1 g2 g3
  have t1 : (-2147483648 ≤ x ∧ x < 2147483648) ∧ (-2147483648 ≤ c ∧ c < 2147483648) ∧ (x = c → (c = 60 ∨ c = 62) → pq d 8 57 [some (.inr (.inr 39)), some (.inl c), some (.inl x), none, none] [.inl 1] (A, B, Y, K, T) (qV Q)) := ⟨by omega, by omega, fun z w => j57 1 x (by omega) (fun _ => g3 (by omega)) (by omega)⟩
  refine ⟨by omega, by omega, fun z => ⟨t1.1, t1.2.1, fun w => t1.2.2 w (Or.inl z), fun _ => b28⟩, fun z => ⟨by omega, by omega, fun _ => b28, fun w => ⟨t1.1, t1.2.1, fun v => t1.2.2 v (Or.inr w), fun _ => b28⟩⟩⟩
set_option maxRecDepth 100000 in
set_option maxHeartbeats 4000000 in
/-- next(): the lexer goes on to the next token -/
theorem m_next {Q : zF → zF → zF → Nat → zT → Prop} (hd : 2 ≤ d) (hK : mK B) (hY : mY Y) (h0 : 0 ≤ (B 39 5)) (h1 : (B 39 5) ≤ (B 39 4)) (hq : ∀ a t f Y', (B 39 5) ≤ f → f ≤ a → a ≤ (B 39 4) → (t ≠ 12 → f < a) → (-2147483648 ≤ t ∧ t < 2147483648) → mY Y' → Q A (mS B a t f a) Y' K T) : pzV d 5 [.inr (.inr 39)] (A, B, Y, K, T) Q := by
  have j180 : ∀ (B Y : zF), Q A (zu B 39 8 (B 39 5)) Y K T → pq d 5 180 [some (.inr (.inr 39)), none, none] [] (A, B, Y, K, T) (qV Q) := by
    intro B Y hq
    refine pq_of 5 [] [] ?_
    show Q A (zu B 39 8 (B 39 5)) Y K T
    exact hq
  have j110 : ∀ (B : zF), mK B → 0 ≤ (B 39 5) → (B 39 5) ≤ (B 39 4) → (∀ a t f Y', (B 39 5) ≤ f → f ≤ a → a ≤ (B 39 4) → (t ≠ 12 → f < a) → (-2147483648 ≤ t ∧ t < 2147483648) → mY Y' → Q A (mS B a t f a) Y' K T) → pq d 5 110 [some (.inr (.inr 39)), none, none] [] (A, B, Y, K, T) (qV Q) := by
    intro B hK h0 h1 hq
    obtain ⟨⟨k1, k2⟩, k3⟩ := id hK
    have fin : ∀ a t Y', (B 39 5) < a → a ≤ (B 39 4) → (-2147483648 ≤ t ∧ t < 2147483648) → mY Y' → Q A (zu (zu (zu (zu B 39 7 (B 39 5)) 39 5 a) 39 6 t) 39 8 a) Y' K T := fun a t Y' g1 g2 g3 g4 => by
      rw [mS_1]
      exact hq a t (B 39 5) Y' (by omega) (by omega) g2 (fun _ => g1) g3 g4
    refine pq_of 23 [(180, [1, 2])] [] ?_
    show (0 < d ∧ pzI (d - 1) 4 [.inr (.inr (39 : Nat)), .inl (B 39 5)] (A, (zu B 39 7 (B 39 5)), Y, K, T) (fun n1 A1 B1 Y1 K1 T1 => ((-2147483648 ≤ (B1 39 5) ∧ (B1 39 5) < 2147483648) ∧ (-2147483648 ≤ (B1 39 4) ∧ (B1 39 4) < 2147483648) ∧ ((B1 39 5) ≠ (B1 39 4) → (0 < d ∧ pzI (d - 1) 3 [.inl n1] (A1, B1, Y1, K1, T1) (fun n2 A2 B2 Y2 K2 T2 => ((-2147483648 ≤ n2 ∧ n2 < 2147483648) ∧ (n2 = (0 : Int) → (0 < d ∧ pzI (d - 1) 2 [.inl n1] (A2, B2, Y2, K2, T2) (fun n3 A3 B3 Y3 K3 T3 => ((-2147483648 ≤ n3 ∧ n3 < 2147483648) ∧ (n3 = (0 : Int) → (0 < d ∧ pzV (d - 1) 8 [.inr (.inr (39 : Nat)), .inl n1] (A3, B3, Y3, K3, T3) (fun A4 B4 Y4 K4 T4 => pq d 5 180 [some (.inr (.inr (39 : Nat))), none, none] [] (A4, B4, Y4, K4, T4) (qV Q)))) ∧ (n3 ≠ (0 : Int) → (0 < d ∧ pzV (d - 1) 7 [.inr (.inr (39 : Nat))] (A3, B3, Y3, K3, T3) (fun A5 B5 Y5 K5 T5 => pq d 5 180 [some (.inr (.inr (39 : Nat))), none, none] [] (A5, B5, Y5, K5, T5) (qV Q)))))))) ∧ (n2 ≠ (0 : Int) → (0 < d ∧ pzV (d - 1) 6 [.inr (.inr (39 : Nat))] (A2, B2, Y2, K2, T2) (fun A6 B6 Y6 K6 T6 => pq d 5 180 [some (.inr (.inr (39 : Nat))), none, none] [] (A6, B6, Y6, K6, T6) (qV Q)))))))) ∧ ((B1 39 5) = (B1 39 4) → pq d 5 180 [some (.inr (.inr (39 : Nat))), none, none] [] (A1, (zu B1 39 6 (12 : Int)), Y1, K1, T1) (qV Q)))))
    have hK7 : mK (zu B 39 7 (B 39 5)) := hK
    refine ⟨by omega, m_charAt hK7 h0 (by omega) (fun c q1 q2 q3 q4 => ⟨?_, ?_, fun z => ⟨?_, m_isDigit ?_ (fun n p1 p2 => ⟨?_, fun z1 => ⟨?_, m_isLetter ?_ (fun n' p3 p4 => ⟨?_, fun z2 => ⟨?_, m_sign ?_ hK7 h0 ?_ ⟨q1, q2⟩ (fun a t g1 g2 g3 => j180 _ _ (fin a t _ g1 g2 g3 hY))⟩, fun z2 => ⟨?_, m_word ?_ hK7 h0 h1 ?_ (fun a t g1 g2 g3 g4 => j180 _ _ (fin a t _ ?_ g2 ?_ hY))⟩⟩)⟩, fun z1 => ⟨?_, m_digits ?_ hK7 h0 h1 (fun a t Y' g1 g2 g3 g4 g5 => j180 _ _ (fin a t _ ?_ g2 ?_ g5))⟩⟩)⟩, fun z => ?_⟩)⟩
    · show -2147483648 ≤ (B 39 5) ∧ (B 39 5) < 2147483648
      omega
    · show -2147483648 ≤ (B 39 4) ∧ (B 39 4) < 2147483648
      omega
    · omega
    · omega
    · omega
    · omega
    · omega
    · omega
    · omega
    · omega
    · have z : (B 39 5) ≠ (B 39 4) := z
      show (B 39 5) < (B 39 4)
      omega
    · omega
    · omega
    · show 0 ≤ (B 39 5) ∧ (B 39 5) ≤ 3000
      omega
    · have z : (B 39 5) ≠ (B 39 4) := z
      have e : c = (B 41) (B 39 5).toNat := q4 (show (B 39 5) < (B 39 4) by omega)
      refine g3 ⟨show (B 39 5) < (B 39 4) by omega, ?_⟩
      show (97 ≤ (B 41) (B 39 5).toNat ∧ (B 41) (B 39 5).toNat ≤ 122) ∨ (65 ≤ (B 41) (B 39 5).toNat ∧ (B 41) (B 39 5).toNat ≤ 90) ∨ (B 41) (B 39 5).toNat = 95
      omega
    · omega
    · omega
    · omega
    · have z : (B 39 5) ≠ (B 39 4) := z
      have e : c = (B 41) (B 39 5).toNat := q4 (show (B 39 5) < (B 39 4) by omega)
      refine g3 ⟨show (B 39 5) < (B 39 4) by omega, ?_⟩
      show 48 ≤ (B 41) (B 39 5).toNat ∧ (B 41) (B 39 5).toNat ≤ 57
      omega
    · omega
    · refine j180 _ _ ?_
      show Q A (zu (zu (zu B 39 7 (B 39 5)) 39 6 12) 39 8 (B 39 5)) Y K T
      rw [mS_2]
      exact hq (B 39 5) 12 (B 39 5) Y (by omega) (by omega) h1 (fun z => absurd rfl z) (by omega) hY
  have j2 : ∀ (r : Nat) (B : zF) (b : Int), mK B → 0 ≤ (B 39 5) → (B 39 5) + (r : Int) = (B 39 4) → (-2147483648 ≤ b ∧ b < 2147483648) → (∀ a t f Y', (B 39 5) ≤ f → f ≤ a → a ≤ (B 39 4) → (t ≠ 12 → f < a) → (-2147483648 ≤ t ∧ t < 2147483648) → mY Y' → Q A (mS B a t f a) Y' K T) → pq d 5 2 [some (.inr (.inr 39)), some (.inl b), none] [] (A, B, Y, K, T) (qV Q) := by
    intro r
    induction r with
    | zero =>
      intro B b hK h0 h1 hb hq
      obtain ⟨⟨k1, k2⟩, k3⟩ := id hK
      refine pq_of 5 [(2, []), (13, []), (110, [1])] [] ?_
      show ((-2147483648 ≤ (B 39 5) ∧ (B 39 5) < 2147483648) ∧ (-2147483648 ≤ (B 39 4) ∧ (B 39 4) < 2147483648) ∧ ((B 39 4) ≤ (B 39 5) → pq d 5 110 [some (.inr (.inr (39 : Nat))), none, none] [] (A, B, Y, K, T) (qV Q)) ∧ ((B 39 5) < (B 39 4) → pq d 5 13 [some (.inr (.inr (39 : Nat))), some (.inl b), none] [] (A, B, Y, K, T) (qV Q)))
      exact ⟨by omega, by omega, fun _ => j110 B hK h0 (by omega) hq, fun z => absurd z (by omega)⟩
    | succ r ih =>
      intro B b hK h0 h1 hb hq
      obtain ⟨⟨k1, k2⟩, k3⟩ := id hK
      have e110 := j110 B hK h0 (by omega) hq
      have j59 : pq d 5 59 [some (.inr (.inr 39)), some (.inl b), none] [] (A, B, Y, K, T) (qV Q) := by
        have key : ∀ b', (-2147483648 ≤ b' ∧ b' < 2147483648) → pq d 5 2 [some (.inr (.inr 39)), some (.inl b'), none] [] (A, zu B 39 5 ((B 39 5) + 1), Y, K, T) (qV Q) := by
          intro b' hb'
          refine ih _ b' ⟨⟨k1, k2⟩, k3⟩ (show 0 ≤ (B 39 5) + 1 by omega) (show (B 39 5) + 1 + (r : Int) = (B 39 4) by omega) hb' (fun a t f Y' g1 g2 g3 g4 g5 g6 => ?_)
          rw [mS_3]
          have g1 : (B 39 5) + 1 ≤ f := g1
          exact hq a t f Y' (by omega) g2 g3 g4 g5 g6
        refine pq_of 26 [(2, [])] [70, 74, 88] ?_
        show ((0 ≤ (B 39 5) ∧ (B 39 5) < (3000 : Int)) ∧ (pq d 5 2 [some (.inr (.inr (39 : Nat))), some (.inl (0 : Int)), none] [] (A, (zu B 39 5 ((B 39 5) + (1 : Int))), Y, K, T) (qV Q) ∧ (pq d 5 2 [some (.inr (.inr (39 : Nat))), some (.inl (1 : Int)), none] [] (A, (zu B 39 5 ((B 39 5) + (1 : Int))), Y, K, T) (qV Q) ∧ ((0 ≤ (B 39 5) ∧ (B 39 5) < (3000 : Int)) ∧ (pq d 5 2 [some (.inr (.inr (39 : Nat))), some (.inl (0 : Int)), none] [] (A, (zu B 39 5 ((B 39 5) + (1 : Int))), Y, K, T) (qV Q) ∧ pq d 5 2 [some (.inr (.inr (39 : Nat))), some (.inl (1 : Int)), none] [] (A, (zu B 39 5 ((B 39 5) + (1 : Int))), Y, K, T) (qV Q))))))
        exact ⟨by omega, key _ (by omega), ⟨key _ (by omega), by omega, key _ (by omega), key _ (by omega)⟩⟩
      refine pq_of 28 [(2, []), (59, []), (110, [1])] [14, 28, 42, 56] ?_
      show ((-2147483648 ≤ (B 39 5) ∧ (B 39 5) < 2147483648) ∧ (-2147483648 ≤ (B 39 4) ∧ (B 39 4) < 2147483648) ∧ ((B 39 4) ≤ (B 39 5) → pq d 5 110 [some (.inr (.inr (39 : Nat))), none, none] [] (A, B, Y, K, T) (qV Q)) ∧ ((B 39 5) < (B 39 4) → (pq d 5 59 [some (.inr (.inr (39 : Nat))), some (.inl b), none] [] (A, B, Y, K, T) (qV Q) ∧ ((0 ≤ (B 39 5) ∧ (B 39 5) < (3000 : Int)) ∧ (pq d 5 59 [some (.inr (.inr (39 : Nat))), some (.inl b), none] [] (A, B, Y, K, T) (qV Q) ∧ ((0 ≤ (B 39 5) ∧ (B 39 5) < (3000 : Int)) ∧ (pq d 5 59 [some (.inr (.inr (39 : Nat))), some (.inl b), none] [] (A, B, Y, K, T) (qV Q) ∧ ((0 ≤ (B 39 5) ∧ (B 39 5) < (3000 : Int)) ∧ (pq d 5 110 [some (.inr (.inr (39 : Nat))), none, none] [] (A, B, Y, K, T) (qV Q) ∧ pq d 5 59 [some (.inr (.inr (39 : Nat))), some (.inl b), none] [] (A, B, Y, K, T) (qV Q))))))))))
      exact ⟨by omega, by omega, fun z => absurd z (by omega), fun z => ⟨j59, by omega, j59, by omega, j59, by omega, e110, j59⟩⟩
  refine pzV_of 2 [(2, [])] [] ?_
  show pq d 5 2 [some (.inr (.inr (39 : Nat))), some (.inl (0 : Int)), none] [] (A, B, Y, K, T) (qV Q)
  exact j2 ((B 39 4) - (B 39 5)).toNat B _ hK h0 (by omega) (by omega) hq
end LEX
end
section
/-! The model's parser: its small steps -/
/-- the token that stands next -/
def mT (B : zF) : Prop := 0 ≤ (B 39 7) ∧ (B 39 7) ≤ (B 39 5) ∧ (B 39 8) = (B 39 5) ∧ (B 39 5) ≤ (B 39 4) ∧ ((B 39 6) ≠ 12 → (B 39 7) < (B 39 5)) ∧ (-2147483648 ≤ (B 39 6) ∧ (B 39 6) < 2147483648)
def mF (B : zF) : Prop := 0 ≤ (B 39 10) ∧ (B 39 10) ≤ 50000
/-- a task is put on the pile of tasks -/
def mW (B : zF) (n : Nat) (w a b c e : Int) : zF := fun i j => bif Nat.beq i 39 then (bif Nat.beq j 58 then (n : Int) + 1 else B i j) else (bif Nat.beq i 69 then (bif Nat.beq j n then w else B i j) else (bif Nat.beq i 70 then (bif Nat.beq j n then a else B i j) else (bif Nat.beq i 71 then (bif Nat.beq j n then b else B i j) else (bif Nat.beq i 72 then (bif Nat.beq j n then c else B i j) else (bif Nat.beq i 73 then (bif Nat.beq j n then e else B i j) else B i j)))))
theorem mW_ap (B : zF) (n : Nat) (w a b c e : Int) (i j : Nat) : mW B n w a b c e i j = if i = 39 then (if j = 58 then (n : Int) + 1 else B i j) else if i = 69 then (if j = n then w else B i j) else if i = 70 then (if j = n then a else B i j) else if i = 71 then (if j = n then b else B i j) else if i = 72 then (if j = n then c else B i j) else if i = 73 then (if j = n then e else B i j) else B i j := by
  unfold mW
  simp only [beq_if]
theorem mW_1 (B : zF) (n : Nat) (w a b c e : Int) : zu (zu (zu (zu (zu (zu B 69 n w) 70 n a) 71 n b) 72 n c) 73 n e) 39 58 ((n : Int) + 1) = mW B n w a b c e := by
  funext i j
  simp only [zu_ap, mW_ap]
  by_cases h0 : i = 39
  · subst h0; simp
  · by_cases h1 : i = 69
    · subst h1; simp
    · by_cases h2 : i = 70
      · subst h2; simp
      · by_cases h3 : i = 71
        · subst h3; simp
        · by_cases h4 : i = 72
          · subst h4; simp
          · by_cases h5 : i = 73
            · subst h5; simp
            · simp [h0, h1, h2, h3, h4, h5]
def isop (t : Int) : Prop := t = 124 ∨ t = 94 ∨ t = 38 ∨ t = 15677 ∨ t = 8509 ∨ t = 60 ∨ t = 15421 ∨ t = 15420 ∨ t = 15934 ∨ t = 43 ∨ t = 45 ∨ t = 42 ∨ t = 47 ∨ t = 37
section LOW
variable {d : Nat} {A B Y : zF} {K : Nat} {T : zT}
set_option maxRecDepth 100000 in
set_option maxHeartbeats 4000000 in
theorem m_fail {w : Int} {Q : zF → zF → zF → Nat → zT → Prop} (hf : mF B) (q : ∀ x, ((B 39 10) = 0 → x = w + 16 * (B 39 7)) → ((B 39 10) ≠ 0 → x = (B 39 10)) → Q A (zu B 39 10 x) Y K T) : pzV d 9 [.inr (.inr 39), .inl w] (A, B, Y, K, T) Q := by
  obtain ⟨f1, f2⟩ := hf
  refine pzV_of 13 [] [] ?_
  show ((-2147483648 ≤ (B 39 10) ∧ (B 39 10) < 2147483648) ∧ ((B 39 10) ≠ (0 : Int) → Q A (zu B 39 10 (B 39 10)) Y K T) ∧ ((B 39 10) = (0 : Int) → Q A (zu B 39 10 (w + ((16 : Int) * (B 39 7)))) Y K T))
  exact ⟨by omega, fun h => q _ (fun z => absurd z h) (fun _ => rfl), fun h => q _ (fun _ => rfl) (fun z => absurd h z)⟩
set_option maxRecDepth 100000 in
set_option maxHeartbeats 4000000 in
theorem m_meets {t : Int} {Q : Int → zF → zF → zF → Nat → zT → Prop} (hd : 3 ≤ d) (hK : mK B) (hY : mY Y) (hT : mT B) (hf : mF B) (ht : -2147483648 ≤ t ∧ t < 2147483648)
    (q0 : ((B 39 10) = 0 → (B 39 6) ≠ t) → Q 0 A B Y K T)
    (q1 : ∀ a k f Y', (B 39 10) = 0 → (B 39 6) = t → (B 39 5) ≤ f → f ≤ a → a ≤ (B 39 4) → (k ≠ 12 → f < a) → (-2147483648 ≤ k ∧ k < 2147483648) → mY Y' → Q 1 A (mS B a k f a) Y' K T) : pzI d 10 [.inr (.inr 39), .inl t] (A, B, Y, K, T) Q := by
  obtain ⟨f1, f2⟩ := hf
  obtain ⟨t1, t2, t3, t4, t5, t6⟩ := hT
  refine pzI_of 11 [] [] ?_
  show ((-2147483648 ≤ (B 39 10) ∧ (B 39 10) < 2147483648) ∧ ((0 : Int) < (B 39 10) → (((0 : Int) = 0 ∨ (0 : Int) = 1) ∧ Q (0 : Int) A B Y K T)) ∧ ((B 39 10) ≤ (0 : Int) → ((-2147483648 ≤ (B 39 6) ∧ (B 39 6) < 2147483648) ∧ (-2147483648 ≤ t ∧ t < 2147483648) ∧ ((B 39 6) = t → (0 < d ∧ pzV (d - 1) 5 [.inr (.inr (39 : Nat))] (A, B, Y, K, T) (fun A1 B1 Y1 K1 T1 => (((1 : Int) = 0 ∨ (1 : Int) = 1) ∧ Q (1 : Int) A1 B1 Y1 K1 T1)))) ∧ ((B 39 6) ≠ t → (((0 : Int) = 0 ∨ (0 : Int) = 1) ∧ Q (0 : Int) A B Y K T)))))
  refine ⟨by omega, fun h => ⟨Or.inl rfl, q0 (fun z => by omega)⟩, fun h => ⟨t6, ht, fun h2 => ⟨by omega, m_next (by omega) hK hY (by omega) t4 (fun a k f Y' g1 g2 g3 g4 g5 g6 => ⟨Or.inr rfl, q1 a k f Y' (by omega) h2 g1 g2 g3 g4 g5 g6⟩)⟩, fun h2 => ⟨Or.inl rfl, q0 (fun _ => h2)⟩⟩⟩
set_option maxRecDepth 100000 in
set_option maxHeartbeats 4000000 in
theorem m_must {t : Int} {Q : zF → zF → zF → Nat → zT → Prop} (hd : 4 ≤ d) (hK : mK B) (hY : mY Y) (hT : mT B) (hf : mF B) (ht : -2147483648 ≤ t ∧ t < 2147483648)
    (q0 : ∀ x, 0 < x → x ≤ 50000 → Q A (zu B 39 10 x) Y K T)
    (q1 : ∀ a k f Y', (B 39 10) = 0 → (B 39 6) = t → (B 39 5) ≤ f → f ≤ a → a ≤ (B 39 4) → (k ≠ 12 → f < a) → (-2147483648 ≤ k ∧ k < 2147483648) → mY Y' → Q A (mS B a k f a) Y' K T) : pzV d 11 [.inr (.inr 39), .inl t] (A, B, Y, K, T) Q := by
  have hK' := hK.1
  obtain ⟨t1, t2, t3, t4, t5, t6⟩ := id hT
  have hf' := hf
  obtain ⟨f1, f2⟩ := hf'
  refine pzV_of 8 [] [] ?_
  show (0 < d ∧ pzI (d - 1) 10 [.inr (.inr (39 : Nat)), .inl t] (A, B, Y, K, T) (fun n1 A1 B1 Y1 K1 T1 => ((-2147483648 ≤ n1 ∧ n1 < 2147483648) ∧ (n1 ≠ (0 : Int) → Q A1 B1 Y1 K1 T1) ∧ (n1 = (0 : Int) → (0 < d ∧ pzV (d - 1) 9 [.inr (.inr (39 : Nat)), .inl (1 : Int)] (A1, B1, Y1, K1, T1) (fun A2 B2 Y2 K2 T2 => Q A2 B2 Y2 K2 T2))))))
  refine ⟨by omega, m_meets (by omega) hK hY hT hf ht (fun h => ⟨by omega, fun z => absurd rfl z, fun _ => ⟨by omega, m_fail hf (fun x x1 x2 => q0 x ?_ ?_)⟩⟩) (fun a k f Y' g0 g1 g2 g3 g4 g5 g6 g7 => ⟨by omega, fun _ => q1 a k f Y' g0 g1 g2 g3 g4 g5 g6 g7, fun z => absurd z (by omega)⟩)⟩
  · by_cases e : (B 39 10) = 0
    · rw [x1 e]; omega
    · rw [x2 e]; omega
  · by_cases e : (B 39 10) = 0
    · rw [x1 e]; omega
    · rw [x2 e]; omega
set_option maxRecDepth 100000 in
set_option maxHeartbeats 4000000 in
theorem m_forbid {w p : Int} {Q : zF → zF → zF → Nat → zT → Prop} (hp : -2147483648 ≤ (B 39 11) ∧ (B 39 11) < 2147483648) (hl : -2147483648 ≤ (B 39 12) ∧ (B 39 12) < 2147483648) (hw : -2147483648 ≤ w ∧ w < 2147483648) (hq : -2147483648 ≤ p ∧ p < 2147483648)
    (q : ∀ x y, (-2147483648 ≤ x ∧ x < 2147483648) → (-2147483648 ≤ y ∧ y < 2147483648) → Q A (zu (zu B 39 11 x) 39 12 y) Y K T) : pzV d 12 [.inr (.inr 39), .inl w, .inl p] (A, B, Y, K, T) Q := by
  have e : Q A B Y K T := by
    have := q (B 39 11) (B 39 12) hp hl
    rw [zu_id B 39 11, zu_id B 39 12] at this
    exact this
  have n : Q A (zu (zu B 39 11 p) 39 12 w) Y K T := q p w hq hw
  refine pzV_of 22 [] [] ?_
  show ((-2147483648 ≤ (B 39 11) ∧ (B 39 11) < 2147483648) ∧ ((B 39 11) < (0 : Int) → Q A (zu (zu B 39 11 p) 39 12 w) Y K T) ∧ ((0 : Int) ≤ (B 39 11) → ((-2147483648 ≤ (B 39 11) ∧ (B 39 11) < 2147483648) ∧ (-2147483648 ≤ p ∧ p < 2147483648) ∧ ((B 39 11) < p → Q A B Y K T) ∧ (p ≤ (B 39 11) → ((-2147483648 ≤ (B 39 11) ∧ (B 39 11) < 2147483648) ∧ (-2147483648 ≤ p ∧ p < 2147483648) ∧ ((B 39 11) ≠ p → Q A (zu (zu B 39 11 p) 39 12 w) Y K T) ∧ ((B 39 11) = p → ((-2147483648 ≤ (B 39 12) ∧ (B 39 12) < 2147483648) ∧ (-2147483648 ≤ w ∧ w < 2147483648) ∧ (w ≤ (B 39 12) → Q A (zu (zu B 39 11 p) 39 12 w) Y K T) ∧ ((B 39 12) < w → Q A B Y K T))))))))
  exact ⟨hp, fun _ => n, fun _ => ⟨hp, hq, fun _ => e, fun _ => ⟨hp, hq, fun _ => n, fun _ => ⟨hl, hw, fun _ => n, fun _ => e⟩⟩⟩⟩
set_option maxRecDepth 100000 in
set_option maxHeartbeats 4000000 in
theorem m_same {a n b m : Int} {Q : Int → zF → zF → zF → Nat → zT → Prop} (hK : mK B) (ha : 0 ≤ a) (hn : 0 ≤ n) (han : a + n ≤ 3000) (hb : 0 ≤ b) (hm : 0 ≤ m) (hbm : b + m ≤ 3000) (q : ∀ r, (r = 0 ∨ r = 1) → Q r A B Y K T) : pzI d 13 [.inr (.inr 39), .inl a, .inl n, .inl b, .inl m] (A, B, Y, K, T) Q := by
  obtain ⟨⟨k1, k2⟩, k3⟩ := hK
  have j16 : ∀ (r : Nat) (k s : Int), 0 ≤ k → k + (r : Int) = n → (s = 0 ∨ s = 1) → (n = m ∨ s = 0) → pq d 13 16 [some (.inr (.inr 39)), some (.inl a), some (.inl n), some (.inl b), some (.inl m), some (.inl s), some (.inl k)] [] (A, B, Y, K, T) (qI Q) := by
    intro r
    induction r with
    | zero =>
      intro k s h0 h1 h2 h3
      refine pq_of 5 [(22, [])] [] ?_
      show ((-2147483648 ≤ k ∧ k < 2147483648) ∧ (-2147483648 ≤ n ∧ n < 2147483648) ∧ (n ≤ k → ((s = 0 ∨ s = 1) ∧ Q s A B Y K T)) ∧ (k < n → pq d 13 22 [some (.inr (.inr (39 : Nat))), some (.inl a), some (.inl n), some (.inl b), some (.inl m), some (.inl s), some (.inl k)] [] (A, B, Y, K, T) (qI Q)))
      exact ⟨by omega, by omega, fun _ => ⟨h2, q s h2⟩, fun z => absurd z (by omega)⟩
    | succ r ih =>
      intro k s h0 h1 h2 h3
      refine pq_of 23 [(16, [])] [45] ?_
      show ((-2147483648 ≤ k ∧ k < 2147483648) ∧ (-2147483648 ≤ n ∧ n < 2147483648) ∧ (n ≤ k → ((s = 0 ∨ s = 1) ∧ Q s A B Y K T)) ∧ (k < n → ((-2147483648 ≤ s ∧ s < 2147483648) ∧ (s = (0 : Int) → ((s = 0 ∨ s = 1) ∧ Q s A B Y K T)) ∧ (s ≠ (0 : Int) → ((0 ≤ (a + k) ∧ (a + k) < (3000 : Int)) ∧ ((0 ≤ (b + k) ∧ (b + k) < (3000 : Int)) ∧ (pq d 13 16 [some (.inr (.inr (39 : Nat))), some (.inl a), some (.inl n), some (.inl b), some (.inl m), some (.inl (0 : Int)), some (.inl (k + (1 : Int)))] [] (A, B, Y, K, T) (qI Q) ∧ pq d 13 16 [some (.inr (.inr (39 : Nat))), some (.inl a), some (.inl n), some (.inl b), some (.inl m), some (.inl (1 : Int)), some (.inl (k + (1 : Int)))] [] (A, B, Y, K, T) (qI Q))))))))
      refine ⟨by omega, by omega, fun z => absurd z (by omega), fun z => ⟨by omega, fun z2 => ⟨h2, q s h2⟩, fun z2 => ⟨by omega, by omega, ih _ _ (by omega) (by omega) (Or.inl rfl) (Or.inr rfl), ih _ _ (by omega) (by omega) (Or.inr rfl) (by omega)⟩⟩⟩
  refine pzI_of 8 [(16, [])] [] ?_
  show ((-2147483648 ≤ n ∧ n < 2147483648) ∧ (-2147483648 ≤ m ∧ m < 2147483648) ∧ (n ≠ m → pq d 13 16 [some (.inr (.inr (39 : Nat))), some (.inl a), some (.inl n), some (.inl b), some (.inl m), some (.inl (0 : Int)), some (.inl (0 : Int))] [] (A, B, Y, K, T) (qI Q)) ∧ (n = m → pq d 13 16 [some (.inr (.inr (39 : Nat))), some (.inl a), some (.inl n), some (.inl b), some (.inl m), some (.inl (1 : Int)), some (.inl (0 : Int))] [] (A, B, Y, K, T) (qI Q)))
  exact ⟨by omega, by omega, fun z => j16 n.toNat 0 0 (by omega) (by omega) (Or.inl rfl) (Or.inr rfl), fun z => j16 n.toNat 0 1 (by omega) (by omega) (Or.inr rfl) (Or.inl z)⟩
set_option maxRecDepth 100000 in
set_option maxHeartbeats 4000000 in
theorem m_find_42 {n : Int} {Q : Int → zF → zF → zF → Nat → zT → Prop} (hd : 1 ≤ d) (hK : mK B) (hT : mT B) (h0 : 0 ≤ n) (h1 : n ≤ 40) (hp : ∀ k : Nat, (k : Int) < n → 0 ≤ B 42 k ∧ 0 ≤ B 43 k ∧ B 42 k + B 43 k ≤ 3000) (q : ∀ r, -1 ≤ r → r < n ∨ r = -1 → Q r A B Y K T) : pzI d 14 [.inr (.inr 39), .inr (.inr 42), .inr (.inr 43), .inl n] (A, B, Y, K, T) Q := by
  obtain ⟨t1, t2, t3, t4, t5, t6⟩ := hT
  have hK' := hK.1
  have j6 : ∀ (r : Nat) (k f : Int), 0 ≤ k → k + (r : Int) = n → -1 ≤ f → (f < n ∨ f = -1) → pq d 14 6 [some (.inr (.inr 39)), some (.inr (.inr 42)), some (.inr (.inr 43)), some (.inl n), some (.inl f), some (.inl k)] [] (A, B, Y, K, T) (qI Q) := by
    intro r
    induction r with
    | zero =>
      intro k f h2 h3 h4 h5
      refine pq_of 5 [(12, [])] [] ?_
      show ((-2147483648 ≤ k ∧ k < 2147483648) ∧ (-2147483648 ≤ n ∧ n < 2147483648) ∧ (n ≤ k → Q f A B Y K T) ∧ (k < n → pq d 14 12 [some (.inr (.inr (39 : Nat))), some (.inr (.inr (42 : Nat))), some (.inr (.inr (43 : Nat))), some (.inl n), some (.inl f), some (.inl k)] [] (A, B, Y, K, T) (qI Q)))
      exact ⟨by omega, by omega, fun _ => q f h4 h5, fun z => absurd z (by omega)⟩
    | succ r ih =>
      intro k f h2 h3 h4 h5
      obtain ⟨p1, p2, p3⟩ := hp k.toNat (by omega)
      refine pq_of 24 [(6, [])] [] ?_
      show ((-2147483648 ≤ k ∧ k < 2147483648) ∧ (-2147483648 ≤ n ∧ n < 2147483648) ∧ (n ≤ k → Q f A B Y K T) ∧ (k < n → ((0 ≤ k ∧ k < (40 : Int)) ∧ ((0 ≤ k ∧ k < (40 : Int)) ∧ (0 < d ∧ pzI (d - 1) 13 [.inr (.inr (39 : Nat)), .inl (B 42 (k).toNat), .inl (B 43 (k).toNat), .inl (B 39 7), .inl ((B 39 8) - (B 39 7))] (A, B, Y, K, T) (fun n1 A1 B1 Y1 K1 T1 => ((-2147483648 ≤ n1 ∧ n1 < 2147483648) ∧ (n1 = (0 : Int) → pq d 14 6 [some (.inr (.inr (39 : Nat))), some (.inr (.inr (42 : Nat))), some (.inr (.inr (43 : Nat))), some (.inl n), some (.inl f), some (.inl (k + (1 : Int)))] [] (A1, B1, Y1, K1, T1) (qI Q)) ∧ (n1 ≠ (0 : Int) → pq d 14 6 [some (.inr (.inr (39 : Nat))), some (.inr (.inr (42 : Nat))), some (.inr (.inr (43 : Nat))), some (.inl n), some (.inl k), some (.inl (k + (1 : Int)))] [] (A1, B1, Y1, K1, T1) (qI Q)))))))))
      refine ⟨by omega, by omega, fun z => absurd z (by omega), fun z => ⟨by omega, by omega, by omega, m_same hK p1 p2 p3 (by omega) (by omega) (by omega) (fun r2 hr => ⟨by omega, fun z2 => ih _ _ (by omega) (by omega) h4 h5, fun z2 => ih _ _ (by omega) (by omega) (by omega) (by omega)⟩)⟩⟩
  refine pzI_of 4 [(6, [])] [] ?_
  show pq d 14 6 [some (.inr (.inr (39 : Nat))), some (.inr (.inr (42 : Nat))), some (.inr (.inr (43 : Nat))), some (.inl n), some (.inl (-1 : Int)), some (.inl (0 : Int))] [] (A, B, Y, K, T) (qI Q)
  exact j6 n.toNat 0 (-1) (by omega) (by omega) (by omega) (Or.inr rfl)
set_option maxRecDepth 100000 in
set_option maxHeartbeats 4000000 in
theorem m_find_50 {n : Int} {Q : Int → zF → zF → zF → Nat → zT → Prop} (hd : 1 ≤ d) (hK : mK B) (hT : mT B) (h0 : 0 ≤ n) (h1 : n ≤ 12) (hp : ∀ k : Nat, (k : Int) < n → 0 ≤ B 50 k ∧ 0 ≤ B 51 k ∧ B 50 k + B 51 k ≤ 3000) (q : ∀ r, -1 ≤ r → r < n ∨ r = -1 → Q r A B Y K T) : pzI d 14 [.inr (.inr 39), .inr (.inr 50), .inr (.inr 51), .inl n] (A, B, Y, K, T) Q := by
  obtain ⟨t1, t2, t3, t4, t5, t6⟩ := hT
  have hK' := hK.1
  have j6 : ∀ (r : Nat) (k f : Int), 0 ≤ k → k + (r : Int) = n → -1 ≤ f → (f < n ∨ f = -1) → pq d 14 6 [some (.inr (.inr 39)), some (.inr (.inr 50)), some (.inr (.inr 51)), some (.inl n), some (.inl f), some (.inl k)] [] (A, B, Y, K, T) (qI Q) := by
    intro r
    induction r with
    | zero =>
      intro k f h2 h3 h4 h5
      refine pq_of 5 [(12, [])] [] ?_
      show ((-2147483648 ≤ k ∧ k < 2147483648) ∧ (-2147483648 ≤ n ∧ n < 2147483648) ∧ (n ≤ k → Q f A B Y K T) ∧ (k < n → pq d 14 12 [some (.inr (.inr (39 : Nat))), some (.inr (.inr (50 : Nat))), some (.inr (.inr (51 : Nat))), some (.inl n), some (.inl f), some (.inl k)] [] (A, B, Y, K, T) (qI Q)))
      exact ⟨by omega, by omega, fun _ => q f h4 h5, fun z => absurd z (by omega)⟩
    | succ r ih =>
      intro k f h2 h3 h4 h5
      obtain ⟨p1, p2, p3⟩ := hp k.toNat (by omega)
      refine pq_of 24 [(6, [])] [] ?_
      show ((-2147483648 ≤ k ∧ k < 2147483648) ∧ (-2147483648 ≤ n ∧ n < 2147483648) ∧ (n ≤ k → Q f A B Y K T) ∧ (k < n → ((0 ≤ k ∧ k < (12 : Int)) ∧ ((0 ≤ k ∧ k < (12 : Int)) ∧ (0 < d ∧ pzI (d - 1) 13 [.inr (.inr (39 : Nat)), .inl (B 50 (k).toNat), .inl (B 51 (k).toNat), .inl (B 39 7), .inl ((B 39 8) - (B 39 7))] (A, B, Y, K, T) (fun n1 A1 B1 Y1 K1 T1 => ((-2147483648 ≤ n1 ∧ n1 < 2147483648) ∧ (n1 = (0 : Int) → pq d 14 6 [some (.inr (.inr (39 : Nat))), some (.inr (.inr (50 : Nat))), some (.inr (.inr (51 : Nat))), some (.inl n), some (.inl f), some (.inl (k + (1 : Int)))] [] (A1, B1, Y1, K1, T1) (qI Q)) ∧ (n1 ≠ (0 : Int) → pq d 14 6 [some (.inr (.inr (39 : Nat))), some (.inr (.inr (50 : Nat))), some (.inr (.inr (51 : Nat))), some (.inl n), some (.inl k), some (.inl (k + (1 : Int)))] [] (A1, B1, Y1, K1, T1) (qI Q)))))))))
      refine ⟨by omega, by omega, fun z => absurd z (by omega), fun z => ⟨by omega, by omega, by omega, m_same hK p1 p2 p3 (by omega) (by omega) (by omega) (fun r2 hr => ⟨by omega, fun z2 => ih _ _ (by omega) (by omega) h4 h5, fun z2 => ih _ _ (by omega) (by omega) (by omega) (by omega)⟩)⟩⟩
  refine pzI_of 4 [(6, [])] [] ?_
  show pq d 14 6 [some (.inr (.inr (39 : Nat))), some (.inr (.inr (50 : Nat))), some (.inr (.inr (51 : Nat))), some (.inl n), some (.inl (-1 : Int)), some (.inl (0 : Int))] [] (A, B, Y, K, T) (qI Q)
  exact j6 n.toNat 0 (-1) (by omega) (by omega) (by omega) (Or.inr rfl)
set_option maxRecDepth 100000 in
set_option maxHeartbeats 4000000 in
theorem m_find_52 {n : Int} {Q : Int → zF → zF → zF → Nat → zT → Prop} (hd : 1 ≤ d) (hK : mK B) (hT : mT B) (h0 : 0 ≤ n) (h1 : n ≤ 6) (hp : ∀ k : Nat, (k : Int) < n → 0 ≤ B 52 k ∧ 0 ≤ B 53 k ∧ B 52 k + B 53 k ≤ 3000) (q : ∀ r, -1 ≤ r → r < n ∨ r = -1 → Q r A B Y K T) : pzI d 14 [.inr (.inr 39), .inr (.inr 52), .inr (.inr 53), .inl n] (A, B, Y, K, T) Q := by
  obtain ⟨t1, t2, t3, t4, t5, t6⟩ := hT
  have hK' := hK.1
  have j6 : ∀ (r : Nat) (k f : Int), 0 ≤ k → k + (r : Int) = n → -1 ≤ f → (f < n ∨ f = -1) → pq d 14 6 [some (.inr (.inr 39)), some (.inr (.inr 52)), some (.inr (.inr 53)), some (.inl n), some (.inl f), some (.inl k)] [] (A, B, Y, K, T) (qI Q) := by
    intro r
    induction r with
    | zero =>
      intro k f h2 h3 h4 h5
      refine pq_of 5 [(12, [])] [] ?_
      show ((-2147483648 ≤ k ∧ k < 2147483648) ∧ (-2147483648 ≤ n ∧ n < 2147483648) ∧ (n ≤ k → Q f A B Y K T) ∧ (k < n → pq d 14 12 [some (.inr (.inr (39 : Nat))), some (.inr (.inr (52 : Nat))), some (.inr (.inr (53 : Nat))), some (.inl n), some (.inl f), some (.inl k)] [] (A, B, Y, K, T) (qI Q)))
      exact ⟨by omega, by omega, fun _ => q f h4 h5, fun z => absurd z (by omega)⟩
    | succ r ih =>
      intro k f h2 h3 h4 h5
      obtain ⟨p1, p2, p3⟩ := hp k.toNat (by omega)
      refine pq_of 24 [(6, [])] [] ?_
      show ((-2147483648 ≤ k ∧ k < 2147483648) ∧ (-2147483648 ≤ n ∧ n < 2147483648) ∧ (n ≤ k → Q f A B Y K T) ∧ (k < n → ((0 ≤ k ∧ k < (6 : Int)) ∧ ((0 ≤ k ∧ k < (6 : Int)) ∧ (0 < d ∧ pzI (d - 1) 13 [.inr (.inr (39 : Nat)), .inl (B 52 (k).toNat), .inl (B 53 (k).toNat), .inl (B 39 7), .inl ((B 39 8) - (B 39 7))] (A, B, Y, K, T) (fun n1 A1 B1 Y1 K1 T1 => ((-2147483648 ≤ n1 ∧ n1 < 2147483648) ∧ (n1 = (0 : Int) → pq d 14 6 [some (.inr (.inr (39 : Nat))), some (.inr (.inr (52 : Nat))), some (.inr (.inr (53 : Nat))), some (.inl n), some (.inl f), some (.inl (k + (1 : Int)))] [] (A1, B1, Y1, K1, T1) (qI Q)) ∧ (n1 ≠ (0 : Int) → pq d 14 6 [some (.inr (.inr (39 : Nat))), some (.inr (.inr (52 : Nat))), some (.inr (.inr (53 : Nat))), some (.inl n), some (.inl k), some (.inl (k + (1 : Int)))] [] (A1, B1, Y1, K1, T1) (qI Q)))))))))
      refine ⟨by omega, by omega, fun z => absurd z (by omega), fun z => ⟨by omega, by omega, by omega, m_same hK p1 p2 p3 (by omega) (by omega) (by omega) (fun r2 hr => ⟨by omega, fun z2 => ih _ _ (by omega) (by omega) h4 h5, fun z2 => ih _ _ (by omega) (by omega) (by omega) (by omega)⟩)⟩⟩
  refine pzI_of 4 [(6, [])] [] ?_
  show pq d 14 6 [some (.inr (.inr (39 : Nat))), some (.inr (.inr (52 : Nat))), some (.inr (.inr (53 : Nat))), some (.inl n), some (.inl (-1 : Int)), some (.inl (0 : Int))] [] (A, B, Y, K, T) (qI Q)
  exact j6 n.toNat 0 (-1) (by omega) (by omega) (by omega) (Or.inr rfl)
set_option maxRecDepth 100000 in
set_option maxHeartbeats 4000000 in
theorem m_say {w a b : Int} {Q : zF → zF → zF → Nat → zT → Prop} (h0 : 0 ≤ (B 39 38)) (h1 : (B 39 38) < 12000) (q : Q A (zu (zu (zu (zu B 58 (B 39 38).toNat w) 59 (B 39 38).toNat a) 60 (B 39 38).toNat b) 39 38 ((B 39 38) + 1)) Y K T) : pzV d 15 [.inr (.inr 39), .inl w, .inl a, .inl b] (A, B, Y, K, T) Q := by
  refine pzV_of 25 [] [] ?_
  show ((0 ≤ (B 39 38) ∧ (B 39 38) < (12000 : Int)) ∧ ((0 ≤ (B 39 38) ∧ (B 39 38) < (12000 : Int)) ∧ ((0 ≤ (B 39 38) ∧ (B 39 38) < (12000 : Int)) ∧ Q A (zu (zu (zu (zu B 58 ((B 39 38)).toNat w) 59 ((B 39 38)).toNat a) 60 ((B 39 38)).toNat b) 39 38 ((B 39 38) + (1 : Int))) Y K T)))
  exact ⟨⟨h0, h1⟩, ⟨h0, h1⟩, ⟨h0, h1⟩, q⟩
set_option maxRecDepth 100000 in
set_option maxHeartbeats 4000000 in
theorem m_deeper {Q : zF → zF → zF → Nat → zT → Prop} (hd : 1 ≤ d) (hf : mF B) (hfr : 0 ≤ (B 39 7) ∧ (B 39 7) ≤ 3000) (ho : -2147483648 ≤ (B 39 20) ∧ (B 39 20) < 2147483647)
    (q0 : ∀ x, 0 < x → x ≤ 50000 → (B 39 20) = 10 → Q A (zu (zu B 39 10 x) 39 20 ((B 39 20) + 1)) Y K T) (q1 : (B 39 20) ≠ 10 → Q A (zu B 39 20 ((B 39 20) + 1)) Y K T) : pzV d 16 [.inr (.inr 39)] (A, B, Y, K, T) Q := by
  have hf' := hf
  obtain ⟨f1, f2⟩ := hf'
  refine pzV_of 14 [] [] ?_
  show ((-2147483648 ≤ (B 39 20) ∧ (B 39 20) < 2147483648) ∧ (-2147483648 ≤ (10 : Int) ∧ (10 : Int) < 2147483648) ∧ ((B 39 20) ≠ (10 : Int) → Q A (zu B 39 20 ((B 39 20) + (1 : Int))) Y K T) ∧ ((B 39 20) = (10 : Int) → (0 < d ∧ pzV (d - 1) 9 [.inr (.inr (39 : Nat)), .inl (4 : Int)] (A, B, Y, K, T) (fun A1 B1 Y1 K1 T1 => Q A1 (zu B1 39 20 ((B1 39 20) + (1 : Int))) Y1 K1 T1))))
  refine ⟨by omega, by omega, fun h => q1 h, fun h => ⟨by omega, m_fail hf (fun x x1 x2 => q0 x ?_ ?_ h)⟩⟩
  · by_cases e : (B 39 10) = 0
    · rw [x1 e]; omega
    · rw [x2 e]; omega
  · by_cases e : (B 39 10) = 0
    · rw [x1 e]; omega
    · rw [x2 e]; omega
set_option maxRecDepth 100000 in
set_option maxHeartbeats 4000000 in
theorem m_label0 {Q : zF → zF → zF → Nat → zT → Prop} (hd : 3 ≤ d) (hK : mK B) (hY : mY Y) (hT : mT B) (hf : mF B)
    (q0 : ∀ s x, (s = 0 ∨ s = 1) → 0 < x → x ≤ 50000 → Q A (zu (zu B 39 42 s) 39 10 x) Y K T)
    (q1 : ∀ s a k f Y', (s = 0 ∨ s = 1) → (B 39 10) = 0 → ((B 39 6) = 4 ∨ (B 39 6) = 5) → (B 39 5) ≤ f → f ≤ a → a ≤ (B 39 4) → (k ≠ 12 → f < a) → (-2147483648 ≤ k ∧ k < 2147483648) → mY Y' → Q A (mS (zu B 39 42 s) a k f a) Y' K T) : pzV d 17 [.inr (.inr 39)] (A, B, Y, K, T) Q := by
  have hK' := hK.1
  obtain ⟨t1, t2, t3, t4, t5, t6⟩ := id hT
  have hf' := hf
  obtain ⟨f1, f2⟩ := hf'
  have j38 : ∀ s, (s = 0 ∨ s = 1) → ((B 39 6) = 4 ∨ (B 39 6) = 5) → pq d 17 38 [some (.inr (.inr 39))] [] (A, zu B 39 42 s, Y, K, T) (qV Q) := by
    intro s hs h
    refine pq_of 6 [] [] ?_
    show ((-2147483648 ≤ (B 39 10) ∧ (B 39 10) < 2147483648) ∧ ((B 39 10) ≠ (0 : Int) → Q A (zu B 39 42 s) Y K T) ∧ ((B 39 10) = (0 : Int) → (0 < d ∧ pzV (d - 1) 5 [.inr (.inr (39 : Nat))] (A, (zu B 39 42 s), Y, K, T) (fun A1 B1 Y1 K1 T1 => Q A1 B1 Y1 K1 T1))))
    refine ⟨by omega, fun z => ?_, fun z => ⟨by omega, m_next (B := zu B 39 42 s) (by omega) hK hY (by show 0 ≤ (B 39 5); omega) t4 (fun a k f Y' g1 g2 g3 g4 g5 g6 => q1 s a k f Y' hs z h g1 g2 g3 g4 g5 g6)⟩⟩
    have this : Q A (zu (zu B 39 42 s) 39 10 ((zu B 39 42 s) 39 10)) Y K T := q0 s (B 39 10) hs (by omega) f2
    rw [zu_id (zu B 39 42 s) 39 10] at this
    exact this
  have j33 : ∀ s, (s = 0 ∨ s = 1) → pq d 17 33 [some (.inr (.inr 39))] [] (A, zu B 39 42 s, Y, K, T) (qV Q) := by
    intro s hs
    refine pq_of 9 [] [] ?_
    show (0 < d ∧ pzV (d - 1) 9 [.inr (.inr (39 : Nat)), .inl (1 : Int)] (A, (zu B 39 42 s), Y, K, T) (fun A1 B1 Y1 K1 T1 => ((-2147483648 ≤ (B1 39 10) ∧ (B1 39 10) < 2147483648) ∧ ((B1 39 10) ≠ (0 : Int) → Q A1 B1 Y1 K1 T1) ∧ ((B1 39 10) = (0 : Int) → (0 < d ∧ pzV (d - 1) 5 [.inr (.inr (39 : Nat))] (A1, B1, Y1, K1, T1) (fun A2 B2 Y2 K2 T2 => Q A2 B2 Y2 K2 T2))))))
    refine ⟨by omega, m_fail (B := zu B 39 42 s) hf (fun x x1 x2 => ?_)⟩
    have hx : 0 < x ∧ x ≤ 50000 := by
      by_cases e : (B 39 10) = 0
      · rw [x1 e]
        show 0 < 1 + 16 * (B 39 7) ∧ 1 + 16 * (B 39 7) ≤ 50000
        omega
      · rw [x2 e]
        show 0 < (B 39 10) ∧ (B 39 10) ≤ 50000
        omega
    exact ⟨show -2147483648 ≤ x ∧ x < 2147483648 by omega, fun _ => q0 s x hs hx.1 hx.2, fun z => absurd z (show x ≠ 0 by omega)⟩
  have j14 : ∀ s, (s = 0 ∨ s = 1) → pq d 17 14 [some (.inr (.inr 39))] [.inl s, .inr (.inr 39)] (A, B, Y, K, T) (qV Q) := by
    intro s hs
    refine pq_of 9 [(33, []), (38, [])] [] ?_
    show ((s = 0 ∨ s = 1) ∧ ((-2147483648 ≤ (B 39 6) ∧ (B 39 6) < 2147483648) ∧ (-2147483648 ≤ (4 : Int) ∧ (4 : Int) < 2147483648) ∧ ((B 39 6) = (4 : Int) → pq d 17 38 [some (.inr (.inr (39 : Nat)))] [] (A, (zu B 39 42 s), Y, K, T) (qV Q)) ∧ ((B 39 6) ≠ (4 : Int) → ((-2147483648 ≤ (B 39 6) ∧ (B 39 6) < 2147483648) ∧ (-2147483648 ≤ (5 : Int) ∧ (5 : Int) < 2147483648) ∧ ((B 39 6) = (5 : Int) → pq d 17 38 [some (.inr (.inr (39 : Nat)))] [] (A, (zu B 39 42 s), Y, K, T) (qV Q)) ∧ ((B 39 6) ≠ (5 : Int) → pq d 17 33 [some (.inr (.inr (39 : Nat)))] [] (A, (zu B 39 42 s), Y, K, T) (qV Q))))))
    exact ⟨hs, by omega, by omega, fun h => j38 s hs (Or.inl h), fun _ => ⟨by omega, by omega, fun h => j38 s hs (Or.inr h), fun _ => j33 s hs⟩⟩
  refine pzV_of 7 [(14, [])] [] ?_
  show ((-2147483648 ≤ (B 39 6) ∧ (B 39 6) < 2147483648) ∧ (-2147483648 ≤ (5 : Int) ∧ (5 : Int) < 2147483648) ∧ ((B 39 6) ≠ (5 : Int) → pq d 17 14 [some (.inr (.inr (39 : Nat)))] [.inl (0 : Int), .inr (.inr (39 : Nat))] (A, B, Y, K, T) (qV Q)) ∧ ((B 39 6) = (5 : Int) → pq d 17 14 [some (.inr (.inr (39 : Nat)))] [.inl (1 : Int), .inr (.inr (39 : Nat))] (A, B, Y, K, T) (qV Q)))
  exact ⟨by omega, by omega, fun _ => j14 0 (Or.inl rfl), fun _ => j14 1 (Or.inr rfl)⟩
set_option maxRecDepth 100000 in
set_option maxHeartbeats 4000000 in
theorem m_wait {w a b c e : Int} {n : Nat} {Q : zF → zF → zF → Nat → zT → Prop} (hn : (B 39 58) = (n : Int)) (h1 : n < 2000) (q : Q A (mW B n w a b c e) Y K T) : pzV d 20 [.inr (.inr 39), .inl w, .inl a, .inl b, .inl c, .inl e] (A, B, Y, K, T) Q := by
  refine pzV_of 37 [] [] ?_
  show ((0 ≤ (B 39 58) ∧ (B 39 58) < (2000 : Int)) ∧ ((0 ≤ (B 39 58) ∧ (B 39 58) < (2000 : Int)) ∧ ((0 ≤ (B 39 58) ∧ (B 39 58) < (2000 : Int)) ∧ ((0 ≤ (B 39 58) ∧ (B 39 58) < (2000 : Int)) ∧ ((0 ≤ (B 39 58) ∧ (B 39 58) < (2000 : Int)) ∧ Q A (zu (zu (zu (zu (zu (zu B 69 ((B 39 58)).toNat w) 70 ((B 39 58)).toNat a) 71 ((B 39 58)).toNat b) 72 ((B 39 58)).toNat c) 73 ((B 39 58)).toNat e) 39 58 ((B 39 58) + (1 : Int))) Y K T)))))
  have hb : 0 ≤ (B 39 58) ∧ (B 39 58) < 2000 := by omega
  refine ⟨hb, hb, hb, hb, hb, ?_⟩
  rw [hn]
  show Q A (zu (zu (zu (zu (zu (zu B 69 n w) 70 n a) 71 n b) 72 n c) 73 n e) 39 58 ((n : Int) + 1)) Y K T
  rw [mW_1]
  exact q
set_option maxRecDepth 100000 in
set_option maxHeartbeats 4000000 in
theorem m_plain {w : Int} {n : Nat} {Q : zF → zF → zF → Nat → zT → Prop} (hd : 1 ≤ d) (hn : (B 39 58) = (n : Int)) (h1 : n < 2000) (q : Q A (mW B n w 0 0 0 0) Y K T) : pzV d 21 [.inr (.inr 39), .inl w] (A, B, Y, K, T) Q := by
  refine pzV_of 8 [] [] ?_
  show (0 < d ∧ pzV (d - 1) 20 [.inr (.inr (39 : Nat)), .inl w, .inl (0 : Int), .inl (0 : Int), .inl (0 : Int), .inl (0 : Int)] (A, B, Y, K, T) (fun A1 B1 Y1 K1 T1 => Q A1 B1 Y1 K1 T1))
  exact ⟨by omega, m_wait hn h1 q⟩
set_option maxRecDepth 100000 in
set_option maxHeartbeats 4000000 in
theorem m_begins {Q : Int → zF → zF → zF → Nat → zT → Prop} (hT : mT B) (q : ∀ n, (n = 0 ∨ n = 1) → (n = 1 ↔ ((B 39 6) = 3 ∨ (B 39 6) = 8 ∨ (B 39 6) = 10 ∨ (B 39 6) = 11)) → Q n A B Y K T) : pzI d 28 [.inr (.inr 39)] (A, B, Y, K, T) Q := by
  obtain ⟨t1, t2, t3, t4, t5, t6⟩ := hT
  have y : ((B 39 6) = 3 ∨ (B 39 6) = 8 ∨ (B 39 6) = 10 ∨ (B 39 6) = 11) → ((1 : Int) = 0 ∨ (1 : Int) = 1) ∧ Q 1 A B Y K T := fun h => ⟨Or.inr rfl, q 1 (Or.inr rfl) (by omega)⟩
  refine pzI_of 19 [] [] ?_
  show ((-2147483648 ≤ (B 39 6) ∧ (B 39 6) < 2147483648) ∧ (-2147483648 ≤ (3 : Int) ∧ (3 : Int) < 2147483648) ∧ ((B 39 6) = (3 : Int) → (((1 : Int) = 0 ∨ (1 : Int) = 1) ∧ Q (1 : Int) A B Y K T)) ∧ ((B 39 6) ≠ (3 : Int) → ((-2147483648 ≤ (B 39 6) ∧ (B 39 6) < 2147483648) ∧ (-2147483648 ≤ (8 : Int) ∧ (8 : Int) < 2147483648) ∧ ((B 39 6) = (8 : Int) → (((1 : Int) = 0 ∨ (1 : Int) = 1) ∧ Q (1 : Int) A B Y K T)) ∧ ((B 39 6) ≠ (8 : Int) → ((-2147483648 ≤ (B 39 6) ∧ (B 39 6) < 2147483648) ∧ (-2147483648 ≤ (10 : Int) ∧ (10 : Int) < 2147483648) ∧ ((B 39 6) = (10 : Int) → (((1 : Int) = 0 ∨ (1 : Int) = 1) ∧ Q (1 : Int) A B Y K T)) ∧ ((B 39 6) ≠ (10 : Int) → ((-2147483648 ≤ (B 39 6) ∧ (B 39 6) < 2147483648) ∧ (-2147483648 ≤ (11 : Int) ∧ (11 : Int) < 2147483648) ∧ ((B 39 6) ≠ (11 : Int) → (((0 : Int) = 0 ∨ (0 : Int) = 1) ∧ Q (0 : Int) A B Y K T)) ∧ ((B 39 6) = (11 : Int) → (((1 : Int) = 0 ∨ (1 : Int) = 1) ∧ Q (1 : Int) A B Y K T)))))))))
  refine ⟨t6, by omega, fun h => y (by omega), fun h => ⟨t6, by omega, fun h2 => y (by omega), fun h2 => ⟨t6, by omega, fun h3 => y (by omega), fun h3 => ⟨t6, by omega, fun h4 => ⟨Or.inl rfl, q 0 (Or.inl rfl) (by omega)⟩, fun h4 => y (by omega)⟩⟩⟩⟩
set_option maxRecDepth 100000 in
set_option maxHeartbeats 4000000 in
theorem m_ahead {Q : Int → zF → zF → zF → Nat → zT → Prop} (hd : 1 ≤ d) (hK : mK B) (h0 : 0 ≤ (B 39 5)) (h1 : (B 39 5) ≤ (B 39 4)) (q : ∀ c, (0 ≤ c ∧ c < 65536) → Q c A B Y K T) : pzI d 34 [.inr (.inr 39)] (A, B, Y, K, T) Q := by
  obtain ⟨⟨k1, k2⟩, k3⟩ := id hK
  have j90 : ∀ k, 0 ≤ k → k ≤ 3000 → pq d 34 90 [some (.inr (.inr 39)), none, some (.inl k)] [] (A, B, Y, K, T) (qI Q) := by
    intro k g1 g2
    refine pq_of 4 [] [] ?_
    show (0 < d ∧ pzI (d - 1) 4 [.inr (.inr (39 : Nat)), .inl k] (A, B, Y, K, T) (fun n1 A1 B1 Y1 K1 T1 => Q n1 A1 B1 Y1 K1 T1))
    exact ⟨by omega, m_charAt hK g1 (by omega) (fun c c1 c2 c3 c4 => q c ⟨c1, c2⟩)⟩
  have j7 : ∀ (r : Nat) (k b : Int), 0 ≤ k → k + (r : Int) = (B 39 4) → (-2147483648 ≤ b ∧ b < 2147483648) → pq d 34 7 [some (.inr (.inr 39)), some (.inl b), some (.inl k)] [] (A, B, Y, K, T) (qI Q) := by
    intro r
    induction r with
    | zero =>
      intro k b g1 g2 g3
      refine pq_of 4 [(15, []), (90, [1])] [] ?_
      show ((-2147483648 ≤ k ∧ k < 2147483648) ∧ (-2147483648 ≤ (B 39 4) ∧ (B 39 4) < 2147483648) ∧ ((B 39 4) ≤ k → pq d 34 90 [some (.inr (.inr (39 : Nat))), none, some (.inl k)] [] (A, B, Y, K, T) (qI Q)) ∧ (k < (B 39 4) → pq d 34 15 [some (.inr (.inr (39 : Nat))), some (.inl b), some (.inl k)] [] (A, B, Y, K, T) (qI Q)))
      exact ⟨by omega, by omega, fun _ => j90 k (by omega) (by omega), fun z => absurd z (by omega)⟩
    | succ r ih =>
      intro k b g1 g2 g3
      have e90 := j90 k (by omega) (by omega)
      have j52 : pq d 34 52 [some (.inr (.inr 39)), some (.inl b), some (.inl k)] [] (A, B, Y, K, T) (qI Q) := by
        have e0 := ih (k + 1) 0 (by omega) (by omega) (by omega)
        have e1 := ih (k + 1) 1 (by omega) (by omega) (by omega)
        refine pq_of 19 [(7, [])] [60, 64, 75] ?_
        show ((0 ≤ k ∧ k < (3000 : Int)) ∧ (pq d 34 7 [some (.inr (.inr (39 : Nat))), some (.inl (0 : Int)), some (.inl (k + (1 : Int)))] [] (A, B, Y, K, T) (qI Q) ∧ (pq d 34 7 [some (.inr (.inr (39 : Nat))), some (.inl (1 : Int)), some (.inl (k + (1 : Int)))] [] (A, B, Y, K, T) (qI Q) ∧ ((0 ≤ k ∧ k < (3000 : Int)) ∧ (pq d 34 7 [some (.inr (.inr (39 : Nat))), some (.inl (0 : Int)), some (.inl (k + (1 : Int)))] [] (A, B, Y, K, T) (qI Q) ∧ pq d 34 7 [some (.inr (.inr (39 : Nat))), some (.inl (1 : Int)), some (.inl (k + (1 : Int)))] [] (A, B, Y, K, T) (qI Q))))))
        exact ⟨by omega, e0, e1, by omega, e0, e1⟩
      refine pq_of 24 [(52, []), (90, [1])] [16, 27, 38, 49] ?_
      show ((-2147483648 ≤ k ∧ k < 2147483648) ∧ (-2147483648 ≤ (B 39 4) ∧ (B 39 4) < 2147483648) ∧ ((B 39 4) ≤ k → pq d 34 90 [some (.inr (.inr (39 : Nat))), none, some (.inl k)] [] (A, B, Y, K, T) (qI Q)) ∧ (k < (B 39 4) → (pq d 34 52 [some (.inr (.inr (39 : Nat))), some (.inl b), some (.inl k)] [] (A, B, Y, K, T) (qI Q) ∧ ((0 ≤ k ∧ k < (3000 : Int)) ∧ (pq d 34 52 [some (.inr (.inr (39 : Nat))), some (.inl b), some (.inl k)] [] (A, B, Y, K, T) (qI Q) ∧ ((0 ≤ k ∧ k < (3000 : Int)) ∧ (pq d 34 52 [some (.inr (.inr (39 : Nat))), some (.inl b), some (.inl k)] [] (A, B, Y, K, T) (qI Q) ∧ ((0 ≤ k ∧ k < (3000 : Int)) ∧ (pq d 34 90 [some (.inr (.inr (39 : Nat))), none, some (.inl k)] [] (A, B, Y, K, T) (qI Q) ∧ pq d 34 52 [some (.inr (.inr (39 : Nat))), some (.inl b), some (.inl k)] [] (A, B, Y, K, T) (qI Q))))))))))
      exact ⟨by omega, by omega, fun _ => e90, fun z => ⟨j52, by omega, j52, by omega, j52, by omega, e90, j52⟩⟩
  refine pzI_of 5 [(7, [])] [] ?_
  show pq d 34 7 [some (.inr (.inr (39 : Nat))), some (.inl (0 : Int)), some (.inl (B 39 5))] [] (A, B, Y, K, T) (qI Q)
  exact j7 ((B 39 4) - (B 39 5)).toNat (B 39 5) 0 h0 (by omega) (by omega)
set_option maxRecDepth 100000 in
set_option maxHeartbeats 4000000 in
theorem m_levelOf {t : Int} {Q : Int → zF → zF → zF → Nat → zT → Prop} (ht : -2147483648 ≤ t ∧ t < 2147483648) (q : ∀ l, (l = 9 ∨ ((0 ≤ l ∧ l ≤ 7) ∧ isop t)) → Q l A B Y K T) : pzI d 40 [.inl t] (A, B, Y, K, T) Q := by
  refine pzI_of 4 [] [] ?_
  show ((-2147483648 ≤ t ∧ t < 2147483648) ∧ ((t = (37 : Int) → Q (7 : Int) A B Y K T) ∧ (t = (38 : Int) → Q (2 : Int) A B Y K T) ∧ (t = (42 : Int) → Q (7 : Int) A B Y K T) ∧ (t = (43 : Int) → Q (6 : Int) A B Y K T) ∧ (t = (45 : Int) → Q (6 : Int) A B Y K T) ∧ (t = (47 : Int) → Q (7 : Int) A B Y K T) ∧ (t = (60 : Int) → Q (4 : Int) A B Y K T) ∧ (t = (94 : Int) → Q (1 : Int) A B Y K T) ∧ (t = (124 : Int) → Q (0 : Int) A B Y K T) ∧ (t = (8509 : Int) → Q (3 : Int) A B Y K T) ∧ (t = (15420 : Int) → Q (5 : Int) A B Y K T) ∧ (t = (15421 : Int) → Q (4 : Int) A B Y K T) ∧ (t = (15677 : Int) → Q (3 : Int) A B Y K T) ∧ (t = (15934 : Int) → Q (5 : Int) A B Y K T) ∧ True) ∧ ((t ≠ (37 : Int) ∧ t ≠ (38 : Int) ∧ t ≠ (42 : Int) ∧ t ≠ (43 : Int) ∧ t ≠ (45 : Int) ∧ t ≠ (47 : Int) ∧ t ≠ (60 : Int) ∧ t ≠ (94 : Int) ∧ t ≠ (124 : Int) ∧ t ≠ (8509 : Int) ∧ t ≠ (15420 : Int) ∧ t ≠ (15421 : Int) ∧ t ≠ (15677 : Int) ∧ t ≠ (15934 : Int) ∧ True) → Q (9 : Int) A B Y K T))
  refine ⟨ht, ⟨fun h => q _ (Or.inr ⟨by omega, by unfold isop; omega⟩), fun h => q _ (Or.inr ⟨by omega, by unfold isop; omega⟩), fun h => q _ (Or.inr ⟨by omega, by unfold isop; omega⟩), fun h => q _ (Or.inr ⟨by omega, by unfold isop; omega⟩), fun h => q _ (Or.inr ⟨by omega, by unfold isop; omega⟩), fun h => q _ (Or.inr ⟨by omega, by unfold isop; omega⟩), fun h => q _ (Or.inr ⟨by omega, by unfold isop; omega⟩), fun h => q _ (Or.inr ⟨by omega, by unfold isop; omega⟩), fun h => q _ (Or.inr ⟨by omega, by unfold isop; omega⟩), fun h => q _ (Or.inr ⟨by omega, by unfold isop; omega⟩), fun h => q _ (Or.inr ⟨by omega, by unfold isop; omega⟩), fun h => q _ (Or.inr ⟨by omega, by unfold isop; omega⟩), fun h => q _ (Or.inr ⟨by omega, by unfold isop; omega⟩), fun h => q _ (Or.inr ⟨by omega, by unfold isop; omega⟩), trivial⟩, fun h => q _ (Or.inl rfl)⟩
end LOW
end
section
/-! What the model's code is: heights, regions, landing places -/
abbrev zE : Type := Int × Int × Int × Int × Int
def zp (f : Nat → Int) (n : Nat) (v : Int) : Nat → Int := fun j => bif Nat.beq j n then v else f j
theorem zp_ap (f : Nat → Int) (n j : Nat) (v : Int) : zp f n v j = if j = n then v else f j := beq_if j n v (f j)
theorem zp_at (f : Nat → Int) (n : Nat) (v : Int) : zp f n v n = v := by rw [zp_ap, if_pos rfl]
theorem zp_ne (f : Nat → Int) {n j : Nat} (v : Int) (h : j ≠ n) : zp f n v j = f j := by rw [zp_ap, if_neg h]
/-- an order that is no jump and no end: what it holds, the heights before and behind it -/
def ok1 (w a tp rp : Int) (pr : Nat → Int) (x y : Int) : Prop :=
  (w = 1 ∧ (-2147483648 ≤ a ∧ a < 2147483648) ∧ y = x + 1) ∨ (w = 2 ∧ (0 ≤ a ∧ a < 2560) ∧ y = x + 1) ∨ (w = 3 ∧ (0 ≤ a ∧ a < 12) ∧ y = x + 1) ∨ (w = 4 ∧ (0 ≤ a ∧ a < tp) ∧ 1 ≤ x ∧ y = x) ∨ (w = 5 ∧ (0 ≤ a ∧ a < 2560) ∧ 1 ≤ x ∧ y = x - 1) ∨ (w = 6 ∧ (0 ≤ a ∧ a < 12) ∧ 1 ≤ x ∧ y = x - 1) ∨ (w = 7 ∧ (0 ≤ a ∧ a < tp) ∧ 2 ≤ x ∧ y = x - 2) ∨ (w = 8 ∧ isop a ∧ 2 ≤ x ∧ y = x - 1) ∨ (w = 9 ∧ (-2147483648 ≤ a ∧ a < 2147483648) ∧ 1 ≤ x ∧ y = x) ∨ (w = 10 ∧ 3 ≤ x ∧ y = x - 2) ∨ (w = 11 ∧ (0 ≤ a ∧ a < rp) ∧ pr a.toNat ≤ x ∧ y = x - pr a.toNat + 1) ∨ (w = 13 ∧ y = x)
theorem ok1_w {w a tp rp : Int} {pr : Nat → Int} {x y : Int} (h : ok1 w a tp rp pr x y) : w ≠ 12 ∧ w ≠ 14 ∧ w ≠ 15 ∧ w ≠ 16 := by
  unfold ok1 at h
  rcases h with h | h | h | h | h | h | h | h | h | h | h | h <;> (have := h.1; omega)
theorem ok1_w13 {w a tp rp : Int} {pr : Nat → Int} {x y : Int} (h : ok1 w a tp rp pr x y) : w = 11 → (0 ≤ a ∧ a < rp) ∧ pr a.toNat ≤ x ∧ y = x - pr a.toNat + 1 := by
  intro e
  unfold ok1 at h
  rcases h with h | h | h | h | h | h | h | h | h | h | h | h <;> first | (exfalso; have := h.1; omega) | exact h.2
theorem ok1_tp {w a tp tp' rp : Int} {pr : Nat → Int} {x y : Int} (h : ok1 w a tp rp pr x y) (ht : tp ≤ tp') : ok1 w a tp' rp pr x y := by
  unfold ok1 at h ⊢
  rcases h with h | h | h | h | h | h | h | h | h | h | h | h
  · exact Or.inl h
  · exact Or.inr (Or.inl h)
  · exact Or.inr (Or.inr (Or.inl h))
  · exact Or.inr (Or.inr (Or.inr (Or.inl ⟨h.1, by omega, h.2.2⟩)))
  · exact Or.inr (Or.inr (Or.inr (Or.inr (Or.inl h))))
  · exact Or.inr (Or.inr (Or.inr (Or.inr (Or.inr (Or.inl h)))))
  · exact Or.inr (Or.inr (Or.inr (Or.inr (Or.inr (Or.inr (Or.inl ⟨h.1, by omega, h.2.2⟩))))))
  · exact Or.inr (Or.inr (Or.inr (Or.inr (Or.inr (Or.inr (Or.inr (Or.inl h)))))))
  · exact Or.inr (Or.inr (Or.inr (Or.inr (Or.inr (Or.inr (Or.inr (Or.inr (Or.inl h))))))))
  · exact Or.inr (Or.inr (Or.inr (Or.inr (Or.inr (Or.inr (Or.inr (Or.inr (Or.inr (Or.inl h)))))))))
  · exact Or.inr (Or.inr (Or.inr (Or.inr (Or.inr (Or.inr (Or.inr (Or.inr (Or.inr (Or.inr (Or.inl h))))))))))
  · exact Or.inr (Or.inr (Or.inr (Or.inr (Or.inr (Or.inr (Or.inr (Or.inr (Or.inr (Or.inr (Or.inr h))))))))))
/-- the parameters of functions below F count alone -/
theorem ok1_pr {w a tp rp F : Int} {pr pr' : Nat → Int} {x y : Int} (h : ok1 w a tp rp pr x y) (hr : rp ≤ F) (hp : ∀ f : Nat, (f : Int) < F → pr' f = pr f) : ok1 w a tp rp pr' x y := by
  unfold ok1 at h ⊢
  rcases h with h | h | h | h | h | h | h | h | h | h | h | h
  · exact Or.inl h
  · exact Or.inr (Or.inl h)
  · exact Or.inr (Or.inr (Or.inl h))
  · exact Or.inr (Or.inr (Or.inr (Or.inl h)))
  · exact Or.inr (Or.inr (Or.inr (Or.inr (Or.inl h))))
  · exact Or.inr (Or.inr (Or.inr (Or.inr (Or.inr (Or.inl h)))))
  · exact Or.inr (Or.inr (Or.inr (Or.inr (Or.inr (Or.inr (Or.inl h))))))
  · exact Or.inr (Or.inr (Or.inr (Or.inr (Or.inr (Or.inr (Or.inr (Or.inl h)))))))
  · exact Or.inr (Or.inr (Or.inr (Or.inr (Or.inr (Or.inr (Or.inr (Or.inr (Or.inl h))))))))
  · exact Or.inr (Or.inr (Or.inr (Or.inr (Or.inr (Or.inr (Or.inr (Or.inr (Or.inr (Or.inl h)))))))))
  · refine Or.inr (Or.inr (Or.inr (Or.inr (Or.inr (Or.inr (Or.inr (Or.inr (Or.inr (Or.inr (Or.inl ⟨h.1, h.2.1, ?_⟩))))))))))
    rw [hp a.toNat (by have := h.2.1; omega)]
    exact h.2.2
  · exact Or.inr (Or.inr (Or.inr (Or.inr (Or.inr (Or.inr (Or.inr (Or.inr (Or.inr (Or.inr (Or.inr h))))))))))
/-- a jump's target -/
def okt (o u : Nat → Int) (F tm : Int) (ht rg bk : Nat → Int) (p : Nat) : Prop :=
  (1 ≤ u p ∧ u p ≤ tm) ∧ ht (u p).toNat = 0 ∧ bk (u p).toNat = 0 ∧ (bk p = 0 → (p : Int) < u p) ∧ (bk p ≠ 0 → u p ≤ (p : Int) ∧ 1 ≤ p ∧ o (p - 1) = 13) ∧ (1 ≤ p → rg (u p).toNat = rg p) ∧ (p = 0 → rg (u p).toNat = F)
def okc (o u : Nat → Int) (F tp tm : Int) (pr : Nat → Int) (pn : Nat → Prop) (ht rg bk : Nat → Int) (p : Nat) : Prop :=
  (ok1 (o p) (u p) tp (rg p) pr (ht p) (ht (p + 1)) ∧ rg (p + 1) = rg p ∧ bk p = 0 ∧ (o p ≠ 13 → bk (p + 1) = 0) ∧ 1 ≤ p) ∨
  (o p = 12 ∧ 1 ≤ ht p ∧ bk p = 0 ∧ 1 ≤ p) ∨
  (o p = 14 ∧ ht p = 1 ∧ ht (p + 1) = 0 ∧ rg (p + 1) = rg p ∧ bk p = 0 ∧ bk (p + 1) = 0 ∧ 1 ≤ p ∧ (pn p ∨ okt o u F tm ht rg bk p)) ∨
  (o p = 15 ∧ (1 ≤ p → ht p = 0) ∧ (pn p ∨ okt o u F tm ht rg bk p))
/-- the code so far: N orders, F functions whole, landing places up to tm -/
def CT (o u : Nat → Int) (N F tp fr tm : Int) (fb pr ow E : Nat → Int) (pn : Nat → Prop) (ht rg bk : Nat → Int) : Prop :=
  (1 ≤ N ∧ 0 ≤ F ∧ F ≤ 6 ∧ tm ≤ N) ∧
  (∀ p : Nat, (p : Int) < N → okc o u F tp tm pr pn ht rg bk p) ∧
  (∀ p : Nat, (N ≤ (p : Int) ∨ p = 0) → bk p = 0) ∧
  rg N.toNat = F ∧
  (∀ p q : Nat, 1 ≤ p → p ≤ q → (q : Int) ≤ N → rg p ≤ rg q) ∧
  (∀ p : Nat, 1 ≤ p → (p : Int) ≤ N → 0 ≤ rg p ∧ 0 ≤ ht p ∧ (rg p < F → ht p ≤ E (rg p + 1).toNat - E (rg p).toNat) ∧ (rg p = F → ht p ≤ fr - E F.toNat)) ∧
  ((∀ f : Nat, (f : Int) < F → E f ≤ E (f + 1)) ∧ 0 ≤ E 0 ∧ E F.toNat ≤ fr) ∧
  (∀ f : Nat, (f : Int) < F → (1 ≤ fb f ∧ fb f ≤ tm) ∧ rg (fb f).toNat = f ∧ ht (fb f).toNat = 0 ∧ bk (fb f).toNat = 0 ∧ (0 ≤ pr f ∧ pr f ≤ ow f ∧ ow f ≤ 12))
section CT1
variable {o u : Nat → Int} {N F tp fr tm : Int} {fb pr ow E : Nat → Int} {pn : Nat → Prop} {ht rg bk : Nat → Int}
theorem CT_cur (h : CT o u N F tp fr tm fb pr ow E pn ht rg bk) : 0 ≤ ht N.toNat ∧ ht N.toNat ≤ fr - E F.toNat := by
  obtain ⟨⟨n1, n2, n3, n4⟩, -, -, h4, -, h6, -, -⟩ := h
  obtain ⟨-, q2, -, q4⟩ := h6 N.toNat (by omega) (by omega)
  exact ⟨q2, q4 h4⟩
theorem CT_rgF (h : CT o u N F tp fr tm fb pr ow E pn ht rg bk) {p : Nat} (h1 : 1 ≤ p) (h2 : (p : Int) ≤ N) : rg p ≤ F := by
  obtain ⟨⟨n1, n2, n3, n4⟩, -, -, h4, h5, -, -, -⟩ := h
  have := h5 p N.toNat h1 (by omega) (by omega)
  omega
theorem CT_from (h : CT o u N F tp fr tm fb pr ow E pn ht rg bk) {fr' : Int} (hf : fr ≤ fr') : CT o u N F tp fr' tm fb pr ow E pn ht rg bk := by
  obtain ⟨h1, h2, h3, h4, h5, h6, ⟨h7, h8, h9⟩, h10⟩ := h
  refine ⟨h1, h2, h3, h4, h5, fun p q1 q2 => ?_, ⟨h7, h8, by omega⟩, h10⟩
  obtain ⟨g1, g2, g3, g4⟩ := h6 p q1 q2
  exact ⟨g1, g2, g3, fun z => by have := g4 z; omega⟩
theorem okc_pn {p : Nat} {pn' : Nat → Prop} (h : okc o u F tp tm pr pn ht rg bk p) (hp : pn p → pn' p) : okc o u F tp tm pr pn' ht rg bk p := by
  rcases h with h | h | ⟨g1, g2, g3, g4, g5, g6, g7, g8⟩ | ⟨g1, g2, g3⟩
  · exact Or.inl h
  · exact Or.inr (Or.inl h)
  · exact Or.inr (Or.inr (Or.inl ⟨g1, g2, g3, g4, g5, g6, g7, g8.imp hp id⟩))
  · exact Or.inr (Or.inr (Or.inr ⟨g1, g2, g3.imp hp id⟩))
theorem CT_pn (h : CT o u N F tp fr tm fb pr ow E pn ht rg bk) {pn' : Nat → Prop} (hp : ∀ p, pn p → pn' p) : CT o u N F tp fr tm fb pr ow E pn' ht rg bk := by
  obtain ⟨h1, h2, h3⟩ := h
  exact ⟨h1, fun p q => okc_pn (h2 p q) (hp p), h3⟩
theorem okt_tm {p : Nat} {tm' : Int} (h : okt o u F tm ht rg bk p) (ht' : tm ≤ tm') : okt o u F tm' ht rg bk p := by
  obtain ⟨⟨g1, g2⟩, g3⟩ := h
  exact ⟨⟨g1, by omega⟩, g3⟩
theorem okc_tm {p : Nat} {tm' : Int} (h : okc o u F tp tm pr pn ht rg bk p) (ht' : tm ≤ tm') : okc o u F tp tm' pr pn ht rg bk p := by
  rcases h with h | h | ⟨g1, g2, g3, g4, g5, g6, g7, g8⟩ | ⟨g1, g2, g3⟩
  · exact Or.inl h
  · exact Or.inr (Or.inl h)
  · exact Or.inr (Or.inr (Or.inl ⟨g1, g2, g3, g4, g5, g6, g7, g8.imp id (fun z => okt_tm z ht')⟩))
  · exact Or.inr (Or.inr (Or.inr ⟨g1, g2, g3.imp id (fun z => okt_tm z ht')⟩))
theorem CT_tm (h : CT o u N F tp fr tm fb pr ow E pn ht rg bk) {tm' : Int} (h0 : tm ≤ tm') (h1 : tm' ≤ N) : CT o u N F tp fr tm' fb pr ow E pn ht rg bk := by
  obtain ⟨⟨n1, n2, n3, n4⟩, h2, h3, h4, h5, h6, h7, h8⟩ := h
  refine ⟨⟨n1, n2, n3, h1⟩, fun p q => okc_tm (h2 p q) h0, h3, h4, h5, h6, h7, fun f hf => ?_⟩
  obtain ⟨⟨g1, g2⟩, g3⟩ := h8 f hf
  exact ⟨⟨g1, by omega⟩, g3⟩
theorem CT_tp (h : CT o u N F tp fr tm fb pr ow E pn ht rg bk) {tp' : Int} (h0 : tp ≤ tp') : CT o u N F tp' fr tm fb pr ow E pn ht rg bk := by
  obtain ⟨h1, h2, h3⟩ := h
  refine ⟨h1, fun p q => ?_, h3⟩
  rcases h2 p q with ⟨g1, g2⟩ | g | g | g
  · exact Or.inl ⟨ok1_tp g1 h0, g2⟩
  · exact Or.inr (Or.inl g)
  · exact Or.inr (Or.inr (Or.inl g))
  · exact Or.inr (Or.inr (Or.inr g))
/-- what is written of functions that are not whole yet doesn't count -/
theorem CT_fn (h : CT o u N F tp fr tm fb pr ow E pn ht rg bk) {fb' pr' ow' : Nat → Int} (hp : ∀ f : Nat, (f : Int) < F → fb' f = fb f ∧ pr' f = pr f ∧ ow' f = ow f) : CT o u N F tp fr tm fb' pr' ow' E pn ht rg bk := by
  have hrg : ∀ {p : Nat}, 1 ≤ p → (p : Int) ≤ N → rg p ≤ F := fun q1 q2 => CT_rgF h q1 q2
  obtain ⟨h1, h2, h3, h4, h5, h6, h7, h8⟩ := h
  refine ⟨h1, fun p q => ?_, h3, h4, h5, h6, h7, fun f hf => ?_⟩
  · rcases h2 p q with ⟨g1, g2⟩ | g | g | g
    · exact Or.inl ⟨ok1_pr g1 (hrg g2.2.2.2 (by omega)) (fun f hf => (hp f hf).2.1), g2⟩
    · exact Or.inr (Or.inl g)
    · exact Or.inr (Or.inr (Or.inl g))
    · exact Or.inr (Or.inr (Or.inr g))
  · obtain ⟨e1, e2, e3⟩ := hp f hf
    rw [e1, e2, e3]
    exact h8 f hf
theorem okt_ext {o' u' ht' rg' bk' : Nat → Int} {p : Nat} (h : okt o u F tm ht rg bk p) (hp : (p : Int) < N) (htm : tm ≤ N) (e : ∀ j : Nat, (j : Int) < N → o' j = o j ∧ u' j = u j ∧ bk' j = bk j) (e2 : ∀ j : Nat, 1 ≤ j → (j : Int) ≤ tm → ht' j = ht j ∧ rg' j = rg j ∧ bk' j = bk j) (e3 : 1 ≤ p → rg' p = rg p) : okt o' u' F tm ht' rg' bk' p := by
  obtain ⟨q1, q2, q3, q4, q5, q6, q7⟩ := h
  obtain ⟨a1, a2, a3⟩ := e p hp
  obtain ⟨b1, b2, b3⟩ := e2 (u p).toNat (by omega) (by omega)
  unfold okt
  rw [a2, a3, b1, b2, b3]
  refine ⟨q1, q2, q3, q4, fun z => ?_, fun z => by rw [e3 z]; exact q6 z, q7⟩
  obtain ⟨g1, g2, g3⟩ := q5 z
  exact ⟨g1, g2, by rw [(e (p - 1) (by omega)).1]; exact g3⟩
/-- the code grows by one order: what was ok stays ok -/
theorem okc_ext {o' u' ht' rg' bk' : Nat → Int} {p : Nat} (h : okc o u F tp tm pr pn ht rg bk p) (hp : (p : Int) < N) (htm : tm ≤ N) (e : ∀ j : Nat, (j : Int) < N → o' j = o j ∧ u' j = u j ∧ bk' j = bk j) (e1 : ∀ j : Nat, 1 ≤ j → (j : Int) ≤ N → ht' j = ht j ∧ rg' j = rg j) (e2 : ∀ j : Nat, 1 ≤ j → (j : Int) ≤ tm → bk' j = bk j) (e3 : o p ≠ 13 → bk (p + 1) = 0 → bk' (p + 1) = 0) : okc o' u' F tp tm pr pn ht' rg' bk' p := by
  have key : (pn p ∨ okt o u F tm ht rg bk p) → (pn p ∨ okt o' u' F tm ht' rg' bk' p) := fun z => z.imp id (fun z => okt_ext z hp htm e (fun j j1 j2 => ⟨(e1 j j1 (by omega)).1, (e1 j j1 (by omega)).2, e2 j j1 j2⟩) (fun z => (e1 p z (by omega)).2))
  obtain ⟨a1, a2, a3⟩ := e p hp
  rcases h with ⟨g1, g2, g3, g4, g5⟩ | ⟨g1, g2, g3, g4⟩ | ⟨g1, g2, g3, g4, g5, g6, g7, g8⟩ | ⟨g1, g2, g3⟩
  · obtain ⟨b1, b2⟩ := e1 p g5 (by omega)
    obtain ⟨c1, c2⟩ := e1 (p + 1) (by omega) (by omega)
    refine Or.inl ⟨?_, by rw [c2, b2]; exact g2, by rw [a3]; exact g3, fun z => e3 (by rw [← a1]; exact z) (g4 (by rw [← a1]; exact z)), g5⟩
    rw [a1, a2, b1, b2, c1]
    exact g1
  · obtain ⟨b1, b2⟩ := e1 p g4 (by omega)
    exact Or.inr (Or.inl ⟨by rw [a1]; exact g1, by rw [b1]; exact g2, by rw [a3]; exact g3, g4⟩)
  · obtain ⟨b1, b2⟩ := e1 p g7 (by omega)
    obtain ⟨c1, c2⟩ := e1 (p + 1) (by omega) (by omega)
    exact Or.inr (Or.inr (Or.inl ⟨by rw [a1]; exact g1, by rw [b1]; exact g2, by rw [c1]; exact g3, by rw [c2, b2]; exact g4, by rw [a3]; exact g5, e3 (by omega) g6, g7, key g8⟩))
  · exact Or.inr (Or.inr (Or.inr ⟨by rw [a1]; exact g1, fun z => by rw [(e1 p z (by omega)).1]; exact g2 z, key g3⟩))
/-- one order more -/
theorem CT_app (h : CT o u N F tp fr tm fb pr ow E pn ht rg bk) {w a y b fr' : Int} {pn' : Nat → Prop} (hfr : fr ≤ fr') (hpn : ∀ p, pn p → pn' p) (hy0 : 0 ≤ y) (hy1 : y ≤ fr' - E F.toNat) (hb : b ≠ 0 → tm < N ∧ o (N.toNat - 1) = 13 ∧ 2 ≤ N)
    (hok : okc (zp o N.toNat w) (zp u N.toNat a) F tp tm pr pn' (zp ht (N.toNat + 1) y) (zp rg (N.toNat + 1) F) (zp bk N.toNat b) N.toNat) : CT (zp o N.toNat w) (zp u N.toNat a) (N + 1) F tp fr' tm fb pr ow E pn' (zp ht (N.toNat + 1) y) (zp rg (N.toNat + 1) F) (zp bk N.toNat b) := by
  have hrgF : ∀ {p : Nat}, 1 ≤ p → (p : Int) ≤ N → rg p ≤ F := fun q1 q2 => CT_rgF h q1 q2
  obtain ⟨⟨n1, n2, n3, n4⟩, h2, h3, h4, h5, h6, ⟨h7, h8, h9⟩, h10⟩ := h
  have hN : (N + 1).toNat = N.toNat + 1 := by omega
  have eR : ∀ j : Nat, (j : Int) ≤ N → zp ht (N.toNat + 1) y j = ht j ∧ zp rg (N.toNat + 1) F j = rg j := fun j hj => ⟨zp_ne _ _ (by omega), zp_ne _ _ (by omega)⟩
  have eB : ∀ j : Nat, 1 ≤ j → (j : Int) ≤ tm → zp bk N.toNat b j = bk j := fun j j1 j2 => by
    by_cases hj : j = N.toNat
    · subst hj
      rw [zp_at, h3 _ (by omega)]
      by_cases hb0 : b = 0
      · exact hb0
      · have := (hb hb0).1
        omega
    · exact zp_ne _ _ hj
  refine ⟨⟨by omega, n2, n3, by omega⟩, fun p hp => ?_, fun p hp => ?_, ?_, fun p q p1 pq q1 => ?_, fun p p1 p2 => ?_, ⟨h7, h8, by omega⟩, fun f hf => ?_⟩
  · by_cases hpN : p = N.toNat
    · subst hpN
      exact hok
    · have hp2 : (p : Int) < N := by omega
      refine okc_pn (okc_ext (h2 p hp2) hp2 n4 (fun j hj => ⟨zp_ne _ _ (by omega), zp_ne _ _ (by omega), zp_ne _ _ (by omega)⟩) (fun j _ hj => eR j hj) eB (fun z1 z2 => ?_)) (hpn p)
      by_cases hq : p + 1 = N.toNat
      · rw [hq, zp_at]
        by_cases hb0 : b = 0
        · exact hb0
        · exact absurd (by rw [show p = N.toNat - 1 by omega]; exact (hb hb0).2.1) z1
      · rw [zp_ne _ _ hq]
        exact z2
  · rw [zp_ne _ _ (by omega)]
    exact h3 p (by omega)
  · rw [hN, zp_at]
  · by_cases hq : q = N.toNat + 1
    · subst hq
      rw [zp_at]
      by_cases hp : p = N.toNat + 1
      · subst hp
        rw [zp_at]
        omega
      · rw [zp_ne _ _ hp]
        exact hrgF p1 (by omega)
    · rw [zp_ne _ _ hq, zp_ne _ _ (by omega)]
      exact h5 p q p1 pq (by omega)
  · by_cases hq : p = N.toNat + 1
    · subst hq
      rw [zp_at, zp_at]
      exact ⟨n2, hy0, fun z => by omega, fun _ => hy1⟩
    · obtain ⟨e1, e2⟩ := eR p (by omega)
      rw [e1, e2]
      obtain ⟨g1, g2, g3, g4⟩ := h6 p p1 (by omega)
      exact ⟨g1, g2, g3, fun z => by have := g4 z; omega⟩
  · obtain ⟨⟨g1, g2⟩, g3, g4, g5, g6⟩ := h10 f hf
    obtain ⟨e1, e2⟩ := eR (fb f).toNat (by omega)
    rw [e1, e2, eB _ (by omega) (by omega)]
    exact ⟨⟨g1, g2⟩, g3, g4, g5, g6⟩
/-- an order that is no jump and no end -/
theorem CT_say (h : CT o u N F tp fr tm fb pr ow E pn ht rg bk) {w a y fr' : Int} (hfr : fr ≤ fr') (hy0 : 0 ≤ y) (hy1 : y ≤ fr' - E F.toNat) (hok : ok1 w a tp F pr (ht N.toNat) y) : CT (zp o N.toNat w) (zp u N.toNat a) (N + 1) F tp fr' tm fb pr ow E pn (zp ht (N.toNat + 1) y) (zp rg (N.toNat + 1) F) (zp bk N.toNat 0) ∧ zp ht (N.toNat + 1) y (N + 1).toNat = y := by
  obtain ⟨⟨n1, n2, n3, n4⟩, -, h3, h4, -⟩ := id h
  have hN : (N + 1).toNat = N.toNat + 1 := by omega
  refine ⟨CT_app h hfr (fun _ z => z) hy0 hy1 (fun z => absurd rfl z) (Or.inl ⟨?_, ?_, zp_at _ _ _, fun _ => ?_, by omega⟩), by rw [hN, zp_at]⟩
  · rw [zp_at, zp_at, zp_at, zp_ne ht _ (by omega), zp_ne rg _ (by omega), h4]
    exact hok
  · rw [zp_at, zp_ne rg _ (by omega), h4]
  · rw [zp_ne _ _ (by omega)]
    exact h3 _ (by omega)
/-- BRANCH, its target still open -/
theorem CT_br (h : CT o u N F tp fr tm fb pr ow E pn ht rg bk) {a fr' : Int} {pn' : Nat → Prop} (hfr : fr ≤ fr') (hpn : ∀ p, pn p → pn' p) (hN : pn' N.toNat) (hc : ht N.toNat = 1) : CT (zp o N.toNat 14) (zp u N.toNat a) (N + 1) F tp fr' tm fb pr ow E pn' (zp ht (N.toNat + 1) 0) (zp rg (N.toNat + 1) F) (zp bk N.toNat 0) ∧ zp ht (N.toNat + 1) 0 (N + 1).toNat = 0 := by
  obtain ⟨⟨n1, n2, n3, n4⟩, -, h3, h4, -, -, ⟨-, -, h9⟩, -⟩ := id h
  have hN' : (N + 1).toNat = N.toNat + 1 := by omega
  refine ⟨CT_app h hfr hpn (by omega) (by omega) (fun z => absurd rfl z) (Or.inr (Or.inr (Or.inl ⟨zp_at _ _ _, ?_, zp_at _ _ _, ?_, zp_at _ _ _, ?_, by omega, Or.inl hN⟩))), by rw [hN', zp_at]⟩
  · rw [zp_ne ht _ (by omega)]
    exact hc
  · rw [zp_at, zp_ne rg _ (by omega), h4]
  · rw [zp_ne _ _ (by omega)]
    exact h3 _ (by omega)
/-- GO, its target still open -/
theorem CT_go (h : CT o u N F tp fr tm fb pr ow E pn ht rg bk) {a fr' : Int} {pn' : Nat → Prop} (hfr : fr ≤ fr') (hpn : ∀ p, pn p → pn' p) (hN : pn' N.toNat) (hc : ht N.toNat = 0) : CT (zp o N.toNat 15) (zp u N.toNat a) (N + 1) F tp fr' tm fb pr ow E pn' (zp ht (N.toNat + 1) 0) (zp rg (N.toNat + 1) F) (zp bk N.toNat 0) ∧ zp ht (N.toNat + 1) 0 (N + 1).toNat = 0 := by
  obtain ⟨⟨n1, n2, n3, n4⟩, -, h3, h4, -, -, ⟨-, -, h9⟩, -⟩ := id h
  have hN' : (N + 1).toNat = N.toNat + 1 := by omega
  refine ⟨CT_app h hfr hpn (by omega) (by omega) (fun z => absurd rfl z) (Or.inr (Or.inr (Or.inr ⟨zp_at _ _ _, fun _ => ?_, Or.inl hN⟩))), by rw [hN', zp_at]⟩
  rw [zp_ne ht _ (by omega)]
  exact hc
/-- GO back to b, behind a STEP -/
theorem CT_bgo (h : CT o u N F tp fr tm fb pr ow E pn ht rg bk) {b fr' : Int} (hfr : fr ≤ fr') (htm : tm < N) (h13 : o (N.toNat - 1) = 13) (hN2 : 2 ≤ N) (hc : ht N.toNat = 0) (hb : (1 ≤ b ∧ b ≤ tm) ∧ ht b.toNat = 0 ∧ rg b.toNat = F ∧ bk b.toNat = 0) : CT (zp o N.toNat 15) (zp u N.toNat b) (N + 1) F tp fr' tm fb pr ow E pn (zp ht (N.toNat + 1) 0) (zp rg (N.toNat + 1) F) (zp bk N.toNat 1) ∧ zp ht (N.toNat + 1) 0 (N + 1).toNat = 0 := by
  obtain ⟨⟨n1, n2, n3, n4⟩, -, h3, h4, -, -, ⟨-, -, h9⟩, -⟩ := id h
  obtain ⟨⟨b1, b2⟩, b3, b4, b5⟩ := hb
  have hN' : (N + 1).toNat = N.toNat + 1 := by omega
  refine ⟨CT_app h hfr (fun _ z => z) (by omega) (by omega) (fun _ => ⟨htm, h13, hN2⟩) (Or.inr (Or.inr (Or.inr ⟨zp_at _ _ _, fun _ => ?_, Or.inr ?_⟩))), by rw [hN', zp_at]⟩
  · rw [zp_ne ht _ (by omega)]
    exact hc
  · unfold okt
    rw [zp_at u, zp_at bk]
    refine ⟨⟨b1, b2⟩, ?_, ?_, fun z => by omega, fun _ => ⟨by omega, by omega, ?_⟩, fun _ => ?_, fun z => by omega⟩
    · rw [zp_ne ht _ (by omega)]; exact b3
    · rw [zp_ne bk _ (by omega)]; exact b5
    · rw [zp_ne o _ (by omega)]; exact h13
    · rw [zp_ne rg _ (by omega), zp_ne rg _ (by omega), h4]; exact b4
/-- an open jump gets its target: the place where the next order will stand -/
theorem CT_patch (h : CT o u N F tp fr tm fb pr ow E pn ht rg bk) {p0 : Nat} {pn' : Nat → Prop} (hp0 : (p0 : Int) < N) (ho : o p0 = 14 ∨ o p0 = 15) (hb : bk p0 = 0) (hr : 1 ≤ p0 → rg p0 = F) (hc : ht N.toNat = 0) (hpn : ∀ p, p ≠ p0 → pn p → pn' p) : CT o (zp u p0 N) N F tp fr N fb pr ow E pn' ht rg bk := by
  obtain ⟨⟨n1, n2, n3, n4⟩, h2, h3, h4, h5, h6, h7, h8⟩ := CT_tm h (h.1.2.2.2) (Int.le_refl N)
  refine ⟨⟨n1, n2, n3, n4⟩, fun p hp => ?_, h3, h4, h5, h6, h7, h8⟩
  by_cases e : p = p0
  · subst e
    have hk : okt o (zp u p N) F N ht rg bk p := by
      unfold okt
      rw [zp_at]
      exact ⟨⟨n1, Int.le_refl N⟩, hc, h3 _ (by omega), fun _ => hp, fun z => absurd hb z, fun z => by rw [h4, hr z], fun _ => h4⟩
    rcases h2 p hp with ⟨g1, g2⟩ | ⟨g1, g2⟩ | ⟨g1, g2, g3, g4, g5, g6, g7, g8⟩ | ⟨g1, g2, g3⟩
    · exfalso
      have := ok1_w g1
      omega
    · exfalso
      omega
    · exact Or.inr (Or.inr (Or.inl ⟨g1, g2, g3, g4, g5, g6, g7, Or.inr hk⟩))
    · exact Or.inr (Or.inr (Or.inr ⟨g1, g2, Or.inr hk⟩))
  · have eu : zp u p0 N p = u p := zp_ne _ _ e
    have hk : okt o u F N ht rg bk p → okt o (zp u p0 N) F N ht rg bk p := fun z => by
      unfold okt at z ⊢
      rw [eu]
      exact z
    rcases h2 p hp with ⟨g1, g2⟩ | g | ⟨g1, g2, g3, g4, g5, g6, g7, g8⟩ | ⟨g1, g2, g3⟩
    · exact Or.inl ⟨by rw [eu]; exact g1, g2⟩
    · exact Or.inr (Or.inl g)
    · exact Or.inr (Or.inr (Or.inl ⟨g1, g2, g3, g4, g5, g6, g7, g8.imp (hpn p e) hk⟩))
    · exact Or.inr (Or.inr (Or.inr ⟨g1, g2, g3.imp (hpn p e) hk⟩))
/-- BACK, and the function is whole -/
theorem CT_fend (h : CT o u N F tp fr tm fb pr ow E pn ht rg bk) {a fr' : Int} {pn' : Nat → Prop} (hF : F < 6) (hfr : fr ≤ fr') (hpn : ∀ p, pn p → pn' p) (h0 : pn' 0) (hc : 1 ≤ ht N.toNat) (hfb : (1 ≤ fb F.toNat ∧ fb F.toNat ≤ tm) ∧ rg (fb F.toNat).toNat = F ∧ ht (fb F.toNat).toNat = 0 ∧ bk (fb F.toNat).toNat = 0) (hpr : 0 ≤ pr F.toNat ∧ pr F.toNat ≤ ow F.toNat ∧ ow F.toNat ≤ 12) :
    CT (zp o N.toNat 12) (zp u N.toNat a) (N + 1) (F + 1) tp fr' tm fb pr ow (zp E (F.toNat + 1) fr') pn' (zp ht (N.toNat + 1) 0) (zp rg (N.toNat + 1) (F + 1)) bk ∧ zp ht (N.toNat + 1) 0 (N + 1).toNat = 0 := by
  have hrgF : ∀ {p : Nat}, 1 ≤ p → (p : Int) ≤ N → rg p ≤ F := fun q1 q2 => CT_rgF h q1 q2
  obtain ⟨⟨n1, n2, n3, n4⟩, h2, h3, h4, h5, h6, ⟨h7, h8, h9⟩, h10⟩ := h
  have hN : (N + 1).toNat = N.toNat + 1 := by omega
  have hF1 : (F + 1).toNat = F.toNat + 1 := by omega
  have eR : ∀ j : Nat, (j : Int) ≤ N → zp ht (N.toNat + 1) 0 j = ht j ∧ zp rg (N.toNat + 1) (F + 1) j = rg j := fun j hj => ⟨zp_ne _ _ (by omega), zp_ne _ _ (by omega)⟩
  have okt' : ∀ p : Nat, 1 ≤ p → (p : Int) < N → okt o u F tm ht rg bk p → okt (zp o N.toNat 12) (zp u N.toNat a) (F + 1) tm (zp ht (N.toNat + 1) 0) (zp rg (N.toNat + 1) (F + 1)) bk p := fun p p1 hp z => by
    have z2 := okt_ext (o' := zp o N.toNat 12) (u' := zp u N.toNat a) (ht' := zp ht (N.toNat + 1) 0) (rg' := zp rg (N.toNat + 1) (F + 1)) (bk' := bk) z hp n4 (fun j hj => ⟨zp_ne _ _ (by omega), zp_ne _ _ (by omega), rfl⟩) (fun j _ hj => ⟨(eR j (by omega)).1, (eR j (by omega)).2, rfl⟩) (fun _ => (eR p (by omega)).2)
    obtain ⟨q1, q2, q3, q4, q5, q6, q7⟩ := z2
    exact ⟨q1, q2, q3, q4, q5, q6, fun e => by omega⟩
  refine ⟨⟨⟨by omega, by omega, by omega, by omega⟩, fun p hp => ?_, fun p hp => h3 p (by omega), by rw [hN, zp_at], fun p q p1 pq q1 => ?_, fun p p1 p2 => ?_, ⟨fun f hf => ?_, ?_, ?_⟩, fun f hf => ?_⟩, by rw [hN, zp_at]⟩
  · by_cases hpN : p = N.toNat
    · subst hpN
      refine Or.inr (Or.inl ⟨zp_at _ _ _, ?_, h3 _ (by omega), by omega⟩)
      rw [(eR _ (by omega)).1]
      exact hc
    · have hp2 : (p : Int) < N := by omega
      by_cases hp0 : p = 0
      · subst hp0
        rcases h2 0 hp2 with g | g | g | ⟨g1, g2, g3⟩
        · exact absurd g.2.2.2.2 (by omega)
        · exact absurd g.2.2.2 (by omega)
        · exact absurd g.2.2.2.2.2.2.1 (by omega)
        · exact Or.inr (Or.inr (Or.inr ⟨by rw [zp_ne _ _ (by omega)]; exact g1, fun z => by omega, Or.inl h0⟩))
      · have p1 : 1 ≤ p := by omega
        obtain ⟨b1, b2⟩ := eR p (by omega)
        obtain ⟨c1, c2⟩ := eR (p + 1) (by omega)
        have a1 : zp o N.toNat 12 p = o p := zp_ne _ _ hpN
        have a2 : zp u N.toNat a p = u p := zp_ne _ _ hpN
        rcases h2 p hp2 with ⟨g1, g2, g3, g4, g5⟩ | ⟨g1, g2, g3, g4⟩ | ⟨g1, g2, g3, g4, g5, g6, g7, g8⟩ | ⟨g1, g2, g3⟩
        · exact Or.inl ⟨by rw [a1, a2, b1, b2, c1]; exact g1, by rw [c2, b2]; exact g2, g3, fun z => g4 (by rw [← a1]; exact z), g5⟩
        · exact Or.inr (Or.inl ⟨by rw [a1]; exact g1, by rw [b1]; exact g2, g3, g4⟩)
        · exact Or.inr (Or.inr (Or.inl ⟨by rw [a1]; exact g1, by rw [b1]; exact g2, by rw [c1]; exact g3, by rw [c2, b2]; exact g4, g5, g6, g7, g8.imp (hpn p) (okt' p p1 hp2)⟩))
        · exact Or.inr (Or.inr (Or.inr ⟨by rw [a1]; exact g1, fun z => by rw [b1]; exact g2 z, g3.imp (hpn p) (okt' p p1 hp2)⟩))
  · by_cases hq : q = N.toNat + 1
    · subst hq
      rw [zp_at]
      by_cases hp : p = N.toNat + 1
      · subst hp
        rw [zp_at]
        omega
      · rw [zp_ne _ _ hp]
        have := hrgF p1 (show (p : Int) ≤ N by omega)
        omega
    · rw [zp_ne _ _ hq, zp_ne _ _ (by omega)]
      exact h5 p q p1 pq (by omega)
  · by_cases hq : p = N.toNat + 1
    · subst hq
      rw [zp_at, zp_at, hF1, zp_at]
      exact ⟨by omega, by omega, fun z => by omega, fun _ => by omega⟩
    · obtain ⟨e1, e2⟩ := eR p (by omega)
      rw [e1, e2]
      obtain ⟨g1, g2, g3, g4⟩ := h6 p p1 (by omega)
      have hle := hrgF p1 (show (p : Int) ≤ N by omega)
      refine ⟨g1, g2, fun z => ?_, fun z => by omega⟩
      by_cases hz : rg p = F
      · have := g4 hz
        rw [hz, hF1, zp_at, zp_ne _ _ (by omega)]
        omega
      · have := g3 (by omega)
        rw [zp_ne _ _ (by omega), zp_ne _ _ (by omega)]
        exact this
  · by_cases hz : (f : Int) = F
    · rw [show f + 1 = F.toNat + 1 by omega, zp_at, zp_ne _ _ (by omega), show f = F.toNat by omega]
      omega
    · rw [zp_ne _ _ (by omega), zp_ne _ _ (by omega)]
      exact h7 f (by omega)
  · rw [zp_ne _ _ (by omega)]
    exact h8
  · rw [hF1, zp_at]
    exact Int.le_refl _
  · by_cases hz : (f : Int) = F
    · have hf : f = F.toNat := by omega
      subst hf
      obtain ⟨⟨q1, q2⟩, q3, q4, q5⟩ := hfb
      obtain ⟨e1, e2⟩ := eR (fb F.toNat).toNat (by omega)
      rw [e1, e2]
      exact ⟨⟨q1, q2⟩, by omega, q4, q5, hpr⟩
    · obtain ⟨⟨g1, g2⟩, g3, g4, g5, g6⟩ := h10 f (by omega)
      obtain ⟨e1, e2⟩ := eR (fb f).toNat (by omega)
      rw [e1, e2]
      exact ⟨⟨g1, g2⟩, g3, g4, g5, g6⟩
end CT1
/-- the whole code: no jump is open, the last order is DONE -/
def FI (o u : Nat → Int) (N F tp : Int) (fb pr ow E : Nat → Int) (ht rg bk : Nat → Int) : Prop :=
  (2 ≤ N ∧ 0 ≤ F ∧ F ≤ 6) ∧ o (N - 1).toNat = 16 ∧
  (∀ p : Nat, (p : Int) < N - 1 → okc o u F tp (N - 1) pr (fun _ => False) ht rg bk p) ∧
  (∀ p q : Nat, 1 ≤ p → p ≤ q → (q : Int) ≤ N - 1 → rg p ≤ rg q) ∧
  (∀ p : Nat, 1 ≤ p → (p : Int) ≤ N - 1 → 0 ≤ rg p ∧ rg p ≤ F ∧ 0 ≤ ht p ∧ ht p ≤ E (rg p + 1).toNat - E (rg p).toNat) ∧
  ((∀ f : Nat, (f : Int) ≤ F → E f ≤ E (f + 1)) ∧ 0 ≤ E 0 ∧ E (F + 1).toNat ≤ 3000) ∧
  (∀ f : Nat, (f : Int) < F → (1 ≤ fb f ∧ fb f ≤ N - 1) ∧ rg (fb f).toNat = f ∧ ht (fb f).toNat = 0 ∧ bk (fb f).toNat = 0 ∧ (0 ≤ pr f ∧ pr f ≤ ow f ∧ ow f ≤ 12)) ∧ bk (N - 1).toNat = 0
theorem CT_done {o u : Nat → Int} {N F tp fr tm a : Int} {fb pr ow E : Nat → Int} {pn : Nat → Prop} {ht rg bk : Nat → Int} (h : CT o u N F tp fr tm fb pr ow E pn ht rg bk) (hpn : ∀ p, ¬ pn p) (hfr : fr ≤ 3000) : FI (zp o N.toNat 16) (zp u N.toNat a) (N + 1) F tp fb pr ow (zp E (F.toNat + 1) fr) ht rg bk := by
  have hrgF : ∀ {p : Nat}, 1 ≤ p → (p : Int) ≤ N → rg p ≤ F := fun q1 q2 => CT_rgF h q1 q2
  obtain ⟨⟨n1, n2, n3, n4⟩, h2, h3, h4, h5, h6, ⟨h7, h8, h9⟩, h10⟩ := h
  have hF1 : (F + 1).toNat = F.toNat + 1 := by omega
  have eN : N + 1 - 1 = N := by omega
  unfold FI
  rw [eN]
  refine ⟨⟨by omega, n2, n3⟩, zp_at _ _ _, fun p hp => ?_, h5, fun p p1 p2 => ?_, ⟨fun f hf => ?_, ?_, ?_⟩, fun f hf => ?_, h3 _ (by omega)⟩
  · have := okc_tm (okc_ext (o' := zp o N.toNat 16) (u' := zp u N.toNat a) (ht' := ht) (rg' := rg) (bk' := bk) (h2 p hp) hp n4 (fun j hj => ⟨zp_ne _ _ (by omega), zp_ne _ _ (by omega), rfl⟩) (fun _ _ _ => ⟨rfl, rfl⟩) (fun _ _ _ => rfl) (fun _ z => z)) n4
    exact okc_pn this (fun z => absurd z (hpn p))
  · obtain ⟨g1, g2, g3, g4⟩ := h6 p p1 p2
    have hle := hrgF p1 p2
    refine ⟨g1, hle, g2, ?_⟩
    by_cases hz : rg p = F
    · have := g4 hz
      rw [hz, hF1, zp_at, zp_ne _ _ (by omega)]
      exact this
    · have := g3 (by omega)
      rw [zp_ne _ _ (by omega), zp_ne _ _ (by omega)]
      exact this
  · by_cases hz : (f : Int) = F
    · rw [show f + 1 = F.toNat + 1 by omega, zp_at, zp_ne _ _ (by omega), show f = F.toNat by omega]
      omega
    · rw [zp_ne _ _ (by omega), zp_ne _ _ (by omega)]
      exact h7 f (by omega)
  · rw [zp_ne _ _ (by omega)]
    exact h8
  · rw [hF1, zp_at]
    exact hfr
  · obtain ⟨⟨g1, g2⟩, g3⟩ := h10 f hf
    exact ⟨⟨g1, by omega⟩, g3⟩
end
section
/-! The model's tasks -/
/-- what a task does: n tasks lie below it, it begins at height cur with op things open, and leaves c1 and o1 -/
def tt (w a b n cur op c1 o1 : Int) : Prop :=
  (w = 1 ∧ (n = 0 ∧ cur = 0 ∧ op = 0) ∧ c1 = 0 ∧ o1 = 0) ∨
  (w = 2 ∧ (n = 0 ∧ cur = 0 ∧ op = 0) ∧ c1 = 0 ∧ o1 = 0) ∨
  (w = 3 ∧ (n = 1 ∧ cur = 0 ∧ op = 0) ∧ c1 = 0 ∧ o1 = 0) ∨
  (w = 4 ∧ (n = 1 ∧ cur = 1 ∧ op = 0) ∧ c1 = 0 ∧ o1 = 0) ∨
  (w = 5 ∧ (1 ≤ n ∧ n ≤ 20 * op + 3 ∧ cur = 0 ∧ 0 ≤ op) ∧ c1 = 0 ∧ o1 = op) ∨
  (w = 6 ∧ (1 ≤ n ∧ n ≤ 20 * op - 15 ∧ cur = 0 ∧ 1 ≤ op) ∧ c1 = 0 ∧ o1 = op - 1) ∨
  (w = 7 ∧ (1 ≤ n ∧ n ≤ 20 * op - 14 ∧ cur = 1 ∧ 1 ≤ op) ∧ c1 = 0 ∧ o1 = op) ∨
  (w = 8 ∧ (1 ≤ n ∧ n ≤ 20 * op - 14 ∧ cur = 0 ∧ 1 ≤ op) ∧ c1 = 0 ∧ o1 = op) ∨
  (w = 9 ∧ (1 ≤ n ∧ n ≤ 20 * op - 14 ∧ cur = 0 ∧ 1 ≤ op) ∧ c1 = 0 ∧ o1 = op) ∨
  (w = 10 ∧ (1 ≤ n ∧ n ≤ 20 * op - 14 ∧ cur = 1 ∧ 1 ≤ op) ∧ c1 = 0 ∧ o1 = op) ∨
  (w = 11 ∧ (1 ≤ n ∧ n ≤ 20 * op - 14 ∧ cur = 0 ∧ 1 ≤ op) ∧ c1 = 0 ∧ o1 = op) ∨
  (w = 12 ∧ (1 ≤ n ∧ n ≤ 20 * op - 13 ∧ cur = 0 ∧ 1 ≤ op) ∧ c1 = 0 ∧ o1 = op) ∨
  (w = 13 ∧ (1 ≤ n ∧ n ≤ 20 * op - 15 ∧ cur = b ∧ 1 ≤ op) ∧ c1 = 0 ∧ o1 = op - 1) ∨
  (w = 14 ∧ (1 ≤ n ∧ n ≤ 20 * op - 15 ∧ cur = b + 1 ∧ 1 ≤ op) ∧ c1 = 0 ∧ o1 = op - 1) ∨
  (w = 15 ∧ (1 ≤ n ∧ n ≤ 20 * op + 13 ∧ 0 ≤ cur ∧ 0 ≤ op) ∧ c1 = cur + 1 ∧ o1 = op) ∨
  (w = 16 ∧ (1 ≤ n ∧ n ≤ 20 * op - 7 ∧ 1 ≤ cur ∧ 1 ≤ op) ∧ c1 = cur ∧ o1 = op - 1) ∨
  (w = 17 ∧ (1 ≤ n ∧ n ≤ 20 * op + 3 ∧ 0 ≤ cur ∧ 0 ≤ op) ∧ c1 = cur + 1 ∧ o1 = op) ∨
  (w = 18 ∧ (1 ≤ n ∧ n ≤ 20 * op + 3 ∧ 1 ≤ cur ∧ 0 ≤ op) ∧ c1 = cur ∧ o1 = op) ∨
  (w = 19 ∧ (1 ≤ n ∧ n ≤ 20 * op - 8 ∧ 2 ≤ cur ∧ 1 ≤ op) ∧ c1 = cur - 1 ∧ o1 = op - 1) ∨
  (w = 20 ∧ (1 ≤ n ∧ n ≤ 20 * op - 8 ∧ 3 ≤ cur ∧ 1 ≤ op) ∧ c1 = cur - 2 ∧ o1 = op - 1) ∨
  (w = 21 ∧ (1 ≤ n ∧ n ≤ 20 * op + 4 + a ∧ 0 ≤ cur ∧ 0 ≤ op) ∧ c1 = cur + 1 ∧ o1 = op) ∨
  (w = 22 ∧ (1 ≤ n ∧ n ≤ 20 * op + 4 + a ∧ 1 ≤ cur ∧ 0 ≤ op) ∧ c1 = cur ∧ o1 = op) ∨
  (w = 23 ∧ (1 ≤ n ∧ n ≤ 20 * op + 4 + a ∧ 2 ≤ cur ∧ 0 ≤ op) ∧ c1 = cur - 1 ∧ o1 = op) ∨
  (w = 24 ∧ (1 ≤ n ∧ n ≤ 20 * op + 12 ∧ 0 ≤ cur ∧ 0 ≤ op) ∧ c1 = cur + 1 ∧ o1 = op) ∨
  (w = 25 ∧ (1 ≤ n ∧ n ≤ 20 * op - 8 ∧ 1 ≤ cur ∧ 1 ≤ op) ∧ c1 = cur ∧ o1 = op - 1) ∨
  (w = 26 ∧ (1 ≤ n ∧ n ≤ 20 * op - 8 ∧ 1 ≤ cur ∧ 1 ≤ op) ∧ c1 = cur ∧ o1 = op - 1) ∨
  (w = 27 ∧ (1 ≤ n ∧ n ≤ 20 * op + 12 ∧ 1 ≤ cur ∧ 0 ≤ op) ∧ c1 = cur ∧ o1 = op) ∨
  (w = 28 ∧ (1 ≤ n ∧ n ≤ 20 * op - 8 ∧ b ≤ cur ∧ 0 ≤ b ∧ 1 ≤ op) ∧ c1 = cur - b + 1 ∧ o1 = op - 1) ∨
  (w = 29 ∧ (1 ≤ n ∧ n ≤ 20 * op - 8 ∧ b + 1 ≤ cur ∧ 0 ≤ b ∧ 1 ≤ op) ∧ c1 = cur - b ∧ o1 = op - 1)
theorem tt_1 {a b n cur op : Int} (h : n = 0 ∧ cur = 0 ∧ op = 0) : tt 1 a b n cur op (0) (0) := Or.inl ⟨rfl, h, rfl, rfl⟩
theorem tx_1 {a b n cur op c1 o1 : Int} (h : tt 1 a b n cur op c1 o1) : (n = 0 ∧ cur = 0 ∧ op = 0) ∧ c1 = 0 ∧ o1 = 0 := by
  unfold tt at h
  rcases h with h | h | h | h | h | h | h | h | h | h | h | h | h | h | h | h | h | h | h | h | h | h | h | h | h | h | h | h | h <;> first | exact h.2 | (exfalso; have := h.1; omega)
theorem tt_2 {a b n cur op : Int} (h : n = 0 ∧ cur = 0 ∧ op = 0) : tt 2 a b n cur op (0) (0) := Or.inr (Or.inl ⟨rfl, h, rfl, rfl⟩)
theorem tx_2 {a b n cur op c1 o1 : Int} (h : tt 2 a b n cur op c1 o1) : (n = 0 ∧ cur = 0 ∧ op = 0) ∧ c1 = 0 ∧ o1 = 0 := by
  unfold tt at h
  rcases h with h | h | h | h | h | h | h | h | h | h | h | h | h | h | h | h | h | h | h | h | h | h | h | h | h | h | h | h | h <;> first | exact h.2 | (exfalso; have := h.1; omega)
theorem tt_3 {a b n cur op : Int} (h : n = 1 ∧ cur = 0 ∧ op = 0) : tt 3 a b n cur op (0) (0) := Or.inr (Or.inr (Or.inl ⟨rfl, h, rfl, rfl⟩))
theorem tx_3 {a b n cur op c1 o1 : Int} (h : tt 3 a b n cur op c1 o1) : (n = 1 ∧ cur = 0 ∧ op = 0) ∧ c1 = 0 ∧ o1 = 0 := by
  unfold tt at h
  rcases h with h | h | h | h | h | h | h | h | h | h | h | h | h | h | h | h | h | h | h | h | h | h | h | h | h | h | h | h | h <;> first | exact h.2 | (exfalso; have := h.1; omega)
theorem tt_4 {a b n cur op : Int} (h : n = 1 ∧ cur = 1 ∧ op = 0) : tt 4 a b n cur op (0) (0) := Or.inr (Or.inr (Or.inr (Or.inl ⟨rfl, h, rfl, rfl⟩)))
theorem tx_4 {a b n cur op c1 o1 : Int} (h : tt 4 a b n cur op c1 o1) : (n = 1 ∧ cur = 1 ∧ op = 0) ∧ c1 = 0 ∧ o1 = 0 := by
  unfold tt at h
  rcases h with h | h | h | h | h | h | h | h | h | h | h | h | h | h | h | h | h | h | h | h | h | h | h | h | h | h | h | h | h <;> first | exact h.2 | (exfalso; have := h.1; omega)
theorem tt_5 {a b n cur op : Int} (h : 1 ≤ n ∧ n ≤ 20 * op + 3 ∧ cur = 0 ∧ 0 ≤ op) : tt 5 a b n cur op (0) (op) := Or.inr (Or.inr (Or.inr (Or.inr (Or.inl ⟨rfl, h, rfl, rfl⟩))))
theorem tx_5 {a b n cur op c1 o1 : Int} (h : tt 5 a b n cur op c1 o1) : (1 ≤ n ∧ n ≤ 20 * op + 3 ∧ cur = 0 ∧ 0 ≤ op) ∧ c1 = 0 ∧ o1 = op := by
  unfold tt at h
  rcases h with h | h | h | h | h | h | h | h | h | h | h | h | h | h | h | h | h | h | h | h | h | h | h | h | h | h | h | h | h <;> first | exact h.2 | (exfalso; have := h.1; omega)
theorem tt_6 {a b n cur op : Int} (h : 1 ≤ n ∧ n ≤ 20 * op - 15 ∧ cur = 0 ∧ 1 ≤ op) : tt 6 a b n cur op (0) (op - 1) := Or.inr (Or.inr (Or.inr (Or.inr (Or.inr (Or.inl ⟨rfl, h, rfl, rfl⟩)))))
theorem tx_6 {a b n cur op c1 o1 : Int} (h : tt 6 a b n cur op c1 o1) : (1 ≤ n ∧ n ≤ 20 * op - 15 ∧ cur = 0 ∧ 1 ≤ op) ∧ c1 = 0 ∧ o1 = op - 1 := by
  unfold tt at h
  rcases h with h | h | h | h | h | h | h | h | h | h | h | h | h | h | h | h | h | h | h | h | h | h | h | h | h | h | h | h | h <;> first | exact h.2 | (exfalso; have := h.1; omega)
theorem tt_7 {a b n cur op : Int} (h : 1 ≤ n ∧ n ≤ 20 * op - 14 ∧ cur = 1 ∧ 1 ≤ op) : tt 7 a b n cur op (0) (op) := Or.inr (Or.inr (Or.inr (Or.inr (Or.inr (Or.inr (Or.inl ⟨rfl, h, rfl, rfl⟩))))))
theorem tx_7 {a b n cur op c1 o1 : Int} (h : tt 7 a b n cur op c1 o1) : (1 ≤ n ∧ n ≤ 20 * op - 14 ∧ cur = 1 ∧ 1 ≤ op) ∧ c1 = 0 ∧ o1 = op := by
  unfold tt at h
  rcases h with h | h | h | h | h | h | h | h | h | h | h | h | h | h | h | h | h | h | h | h | h | h | h | h | h | h | h | h | h <;> first | exact h.2 | (exfalso; have := h.1; omega)
theorem tt_8 {a b n cur op : Int} (h : 1 ≤ n ∧ n ≤ 20 * op - 14 ∧ cur = 0 ∧ 1 ≤ op) : tt 8 a b n cur op (0) (op) := Or.inr (Or.inr (Or.inr (Or.inr (Or.inr (Or.inr (Or.inr (Or.inl ⟨rfl, h, rfl, rfl⟩)))))))
theorem tx_8 {a b n cur op c1 o1 : Int} (h : tt 8 a b n cur op c1 o1) : (1 ≤ n ∧ n ≤ 20 * op - 14 ∧ cur = 0 ∧ 1 ≤ op) ∧ c1 = 0 ∧ o1 = op := by
  unfold tt at h
  rcases h with h | h | h | h | h | h | h | h | h | h | h | h | h | h | h | h | h | h | h | h | h | h | h | h | h | h | h | h | h <;> first | exact h.2 | (exfalso; have := h.1; omega)
theorem tt_9 {a b n cur op : Int} (h : 1 ≤ n ∧ n ≤ 20 * op - 14 ∧ cur = 0 ∧ 1 ≤ op) : tt 9 a b n cur op (0) (op) := Or.inr (Or.inr (Or.inr (Or.inr (Or.inr (Or.inr (Or.inr (Or.inr (Or.inl ⟨rfl, h, rfl, rfl⟩))))))))
theorem tx_9 {a b n cur op c1 o1 : Int} (h : tt 9 a b n cur op c1 o1) : (1 ≤ n ∧ n ≤ 20 * op - 14 ∧ cur = 0 ∧ 1 ≤ op) ∧ c1 = 0 ∧ o1 = op := by
  unfold tt at h
  rcases h with h | h | h | h | h | h | h | h | h | h | h | h | h | h | h | h | h | h | h | h | h | h | h | h | h | h | h | h | h <;> first | exact h.2 | (exfalso; have := h.1; omega)
theorem tt_10 {a b n cur op : Int} (h : 1 ≤ n ∧ n ≤ 20 * op - 14 ∧ cur = 1 ∧ 1 ≤ op) : tt 10 a b n cur op (0) (op) := Or.inr (Or.inr (Or.inr (Or.inr (Or.inr (Or.inr (Or.inr (Or.inr (Or.inr (Or.inl ⟨rfl, h, rfl, rfl⟩)))))))))
theorem tx_10 {a b n cur op c1 o1 : Int} (h : tt 10 a b n cur op c1 o1) : (1 ≤ n ∧ n ≤ 20 * op - 14 ∧ cur = 1 ∧ 1 ≤ op) ∧ c1 = 0 ∧ o1 = op := by
  unfold tt at h
  rcases h with h | h | h | h | h | h | h | h | h | h | h | h | h | h | h | h | h | h | h | h | h | h | h | h | h | h | h | h | h <;> first | exact h.2 | (exfalso; have := h.1; omega)
theorem tt_11 {a b n cur op : Int} (h : 1 ≤ n ∧ n ≤ 20 * op - 14 ∧ cur = 0 ∧ 1 ≤ op) : tt 11 a b n cur op (0) (op) := Or.inr (Or.inr (Or.inr (Or.inr (Or.inr (Or.inr (Or.inr (Or.inr (Or.inr (Or.inr (Or.inl ⟨rfl, h, rfl, rfl⟩))))))))))
theorem tx_11 {a b n cur op c1 o1 : Int} (h : tt 11 a b n cur op c1 o1) : (1 ≤ n ∧ n ≤ 20 * op - 14 ∧ cur = 0 ∧ 1 ≤ op) ∧ c1 = 0 ∧ o1 = op := by
  unfold tt at h
  rcases h with h | h | h | h | h | h | h | h | h | h | h | h | h | h | h | h | h | h | h | h | h | h | h | h | h | h | h | h | h <;> first | exact h.2 | (exfalso; have := h.1; omega)
theorem tt_12 {a b n cur op : Int} (h : 1 ≤ n ∧ n ≤ 20 * op - 13 ∧ cur = 0 ∧ 1 ≤ op) : tt 12 a b n cur op (0) (op) := Or.inr (Or.inr (Or.inr (Or.inr (Or.inr (Or.inr (Or.inr (Or.inr (Or.inr (Or.inr (Or.inr (Or.inl ⟨rfl, h, rfl, rfl⟩)))))))))))
theorem tx_12 {a b n cur op c1 o1 : Int} (h : tt 12 a b n cur op c1 o1) : (1 ≤ n ∧ n ≤ 20 * op - 13 ∧ cur = 0 ∧ 1 ≤ op) ∧ c1 = 0 ∧ o1 = op := by
  unfold tt at h
  rcases h with h | h | h | h | h | h | h | h | h | h | h | h | h | h | h | h | h | h | h | h | h | h | h | h | h | h | h | h | h <;> first | exact h.2 | (exfalso; have := h.1; omega)
theorem tt_13 {a b n cur op : Int} (h : 1 ≤ n ∧ n ≤ 20 * op - 15 ∧ cur = b ∧ 1 ≤ op) : tt 13 a b n cur op (0) (op - 1) := Or.inr (Or.inr (Or.inr (Or.inr (Or.inr (Or.inr (Or.inr (Or.inr (Or.inr (Or.inr (Or.inr (Or.inr (Or.inl ⟨rfl, h, rfl, rfl⟩))))))))))))
theorem tx_13 {a b n cur op c1 o1 : Int} (h : tt 13 a b n cur op c1 o1) : (1 ≤ n ∧ n ≤ 20 * op - 15 ∧ cur = b ∧ 1 ≤ op) ∧ c1 = 0 ∧ o1 = op - 1 := by
  unfold tt at h
  rcases h with h | h | h | h | h | h | h | h | h | h | h | h | h | h | h | h | h | h | h | h | h | h | h | h | h | h | h | h | h <;> first | exact h.2 | (exfalso; have := h.1; omega)
theorem tt_14 {a b n cur op : Int} (h : 1 ≤ n ∧ n ≤ 20 * op - 15 ∧ cur = b + 1 ∧ 1 ≤ op) : tt 14 a b n cur op (0) (op - 1) := Or.inr (Or.inr (Or.inr (Or.inr (Or.inr (Or.inr (Or.inr (Or.inr (Or.inr (Or.inr (Or.inr (Or.inr (Or.inr (Or.inl ⟨rfl, h, rfl, rfl⟩)))))))))))))
theorem tx_14 {a b n cur op c1 o1 : Int} (h : tt 14 a b n cur op c1 o1) : (1 ≤ n ∧ n ≤ 20 * op - 15 ∧ cur = b + 1 ∧ 1 ≤ op) ∧ c1 = 0 ∧ o1 = op - 1 := by
  unfold tt at h
  rcases h with h | h | h | h | h | h | h | h | h | h | h | h | h | h | h | h | h | h | h | h | h | h | h | h | h | h | h | h | h <;> first | exact h.2 | (exfalso; have := h.1; omega)
theorem tt_15 {a b n cur op : Int} (h : 1 ≤ n ∧ n ≤ 20 * op + 13 ∧ 0 ≤ cur ∧ 0 ≤ op) : tt 15 a b n cur op (cur + 1) (op) := Or.inr (Or.inr (Or.inr (Or.inr (Or.inr (Or.inr (Or.inr (Or.inr (Or.inr (Or.inr (Or.inr (Or.inr (Or.inr (Or.inr (Or.inl ⟨rfl, h, rfl, rfl⟩))))))))))))))
theorem tx_15 {a b n cur op c1 o1 : Int} (h : tt 15 a b n cur op c1 o1) : (1 ≤ n ∧ n ≤ 20 * op + 13 ∧ 0 ≤ cur ∧ 0 ≤ op) ∧ c1 = cur + 1 ∧ o1 = op := by
  unfold tt at h
  rcases h with h | h | h | h | h | h | h | h | h | h | h | h | h | h | h | h | h | h | h | h | h | h | h | h | h | h | h | h | h <;> first | exact h.2 | (exfalso; have := h.1; omega)
theorem tt_16 {a b n cur op : Int} (h : 1 ≤ n ∧ n ≤ 20 * op - 7 ∧ 1 ≤ cur ∧ 1 ≤ op) : tt 16 a b n cur op (cur) (op - 1) := Or.inr (Or.inr (Or.inr (Or.inr (Or.inr (Or.inr (Or.inr (Or.inr (Or.inr (Or.inr (Or.inr (Or.inr (Or.inr (Or.inr (Or.inr (Or.inl ⟨rfl, h, rfl, rfl⟩)))))))))))))))
theorem tx_16 {a b n cur op c1 o1 : Int} (h : tt 16 a b n cur op c1 o1) : (1 ≤ n ∧ n ≤ 20 * op - 7 ∧ 1 ≤ cur ∧ 1 ≤ op) ∧ c1 = cur ∧ o1 = op - 1 := by
  unfold tt at h
  rcases h with h | h | h | h | h | h | h | h | h | h | h | h | h | h | h | h | h | h | h | h | h | h | h | h | h | h | h | h | h <;> first | exact h.2 | (exfalso; have := h.1; omega)
theorem tt_17 {a b n cur op : Int} (h : 1 ≤ n ∧ n ≤ 20 * op + 3 ∧ 0 ≤ cur ∧ 0 ≤ op) : tt 17 a b n cur op (cur + 1) (op) := Or.inr (Or.inr (Or.inr (Or.inr (Or.inr (Or.inr (Or.inr (Or.inr (Or.inr (Or.inr (Or.inr (Or.inr (Or.inr (Or.inr (Or.inr (Or.inr (Or.inl ⟨rfl, h, rfl, rfl⟩))))))))))))))))
theorem tx_17 {a b n cur op c1 o1 : Int} (h : tt 17 a b n cur op c1 o1) : (1 ≤ n ∧ n ≤ 20 * op + 3 ∧ 0 ≤ cur ∧ 0 ≤ op) ∧ c1 = cur + 1 ∧ o1 = op := by
  unfold tt at h
  rcases h with h | h | h | h | h | h | h | h | h | h | h | h | h | h | h | h | h | h | h | h | h | h | h | h | h | h | h | h | h <;> first | exact h.2 | (exfalso; have := h.1; omega)
theorem tt_18 {a b n cur op : Int} (h : 1 ≤ n ∧ n ≤ 20 * op + 3 ∧ 1 ≤ cur ∧ 0 ≤ op) : tt 18 a b n cur op (cur) (op) := Or.inr (Or.inr (Or.inr (Or.inr (Or.inr (Or.inr (Or.inr (Or.inr (Or.inr (Or.inr (Or.inr (Or.inr (Or.inr (Or.inr (Or.inr (Or.inr (Or.inr (Or.inl ⟨rfl, h, rfl, rfl⟩)))))))))))))))))
theorem tx_18 {a b n cur op c1 o1 : Int} (h : tt 18 a b n cur op c1 o1) : (1 ≤ n ∧ n ≤ 20 * op + 3 ∧ 1 ≤ cur ∧ 0 ≤ op) ∧ c1 = cur ∧ o1 = op := by
  unfold tt at h
  rcases h with h | h | h | h | h | h | h | h | h | h | h | h | h | h | h | h | h | h | h | h | h | h | h | h | h | h | h | h | h <;> first | exact h.2 | (exfalso; have := h.1; omega)
theorem tt_19 {a b n cur op : Int} (h : 1 ≤ n ∧ n ≤ 20 * op - 8 ∧ 2 ≤ cur ∧ 1 ≤ op) : tt 19 a b n cur op (cur - 1) (op - 1) := Or.inr (Or.inr (Or.inr (Or.inr (Or.inr (Or.inr (Or.inr (Or.inr (Or.inr (Or.inr (Or.inr (Or.inr (Or.inr (Or.inr (Or.inr (Or.inr (Or.inr (Or.inr (Or.inl ⟨rfl, h, rfl, rfl⟩))))))))))))))))))
theorem tx_19 {a b n cur op c1 o1 : Int} (h : tt 19 a b n cur op c1 o1) : (1 ≤ n ∧ n ≤ 20 * op - 8 ∧ 2 ≤ cur ∧ 1 ≤ op) ∧ c1 = cur - 1 ∧ o1 = op - 1 := by
  unfold tt at h
  rcases h with h | h | h | h | h | h | h | h | h | h | h | h | h | h | h | h | h | h | h | h | h | h | h | h | h | h | h | h | h <;> first | exact h.2 | (exfalso; have := h.1; omega)
theorem tt_20 {a b n cur op : Int} (h : 1 ≤ n ∧ n ≤ 20 * op - 8 ∧ 3 ≤ cur ∧ 1 ≤ op) : tt 20 a b n cur op (cur - 2) (op - 1) := Or.inr (Or.inr (Or.inr (Or.inr (Or.inr (Or.inr (Or.inr (Or.inr (Or.inr (Or.inr (Or.inr (Or.inr (Or.inr (Or.inr (Or.inr (Or.inr (Or.inr (Or.inr (Or.inr (Or.inl ⟨rfl, h, rfl, rfl⟩)))))))))))))))))))
theorem tx_20 {a b n cur op c1 o1 : Int} (h : tt 20 a b n cur op c1 o1) : (1 ≤ n ∧ n ≤ 20 * op - 8 ∧ 3 ≤ cur ∧ 1 ≤ op) ∧ c1 = cur - 2 ∧ o1 = op - 1 := by
  unfold tt at h
  rcases h with h | h | h | h | h | h | h | h | h | h | h | h | h | h | h | h | h | h | h | h | h | h | h | h | h | h | h | h | h <;> first | exact h.2 | (exfalso; have := h.1; omega)
theorem tt_21 {a b n cur op : Int} (h : 1 ≤ n ∧ n ≤ 20 * op + 4 + a ∧ 0 ≤ cur ∧ 0 ≤ op) : tt 21 a b n cur op (cur + 1) (op) := Or.inr (Or.inr (Or.inr (Or.inr (Or.inr (Or.inr (Or.inr (Or.inr (Or.inr (Or.inr (Or.inr (Or.inr (Or.inr (Or.inr (Or.inr (Or.inr (Or.inr (Or.inr (Or.inr (Or.inr (Or.inl ⟨rfl, h, rfl, rfl⟩))))))))))))))))))))
theorem tx_21 {a b n cur op c1 o1 : Int} (h : tt 21 a b n cur op c1 o1) : (1 ≤ n ∧ n ≤ 20 * op + 4 + a ∧ 0 ≤ cur ∧ 0 ≤ op) ∧ c1 = cur + 1 ∧ o1 = op := by
  unfold tt at h
  rcases h with h | h | h | h | h | h | h | h | h | h | h | h | h | h | h | h | h | h | h | h | h | h | h | h | h | h | h | h | h <;> first | exact h.2 | (exfalso; have := h.1; omega)
theorem tt_22 {a b n cur op : Int} (h : 1 ≤ n ∧ n ≤ 20 * op + 4 + a ∧ 1 ≤ cur ∧ 0 ≤ op) : tt 22 a b n cur op (cur) (op) := Or.inr (Or.inr (Or.inr (Or.inr (Or.inr (Or.inr (Or.inr (Or.inr (Or.inr (Or.inr (Or.inr (Or.inr (Or.inr (Or.inr (Or.inr (Or.inr (Or.inr (Or.inr (Or.inr (Or.inr (Or.inr (Or.inl ⟨rfl, h, rfl, rfl⟩)))))))))))))))))))))
theorem tx_22 {a b n cur op c1 o1 : Int} (h : tt 22 a b n cur op c1 o1) : (1 ≤ n ∧ n ≤ 20 * op + 4 + a ∧ 1 ≤ cur ∧ 0 ≤ op) ∧ c1 = cur ∧ o1 = op := by
  unfold tt at h
  rcases h with h | h | h | h | h | h | h | h | h | h | h | h | h | h | h | h | h | h | h | h | h | h | h | h | h | h | h | h | h <;> first | exact h.2 | (exfalso; have := h.1; omega)
theorem tt_23 {a b n cur op : Int} (h : 1 ≤ n ∧ n ≤ 20 * op + 4 + a ∧ 2 ≤ cur ∧ 0 ≤ op) : tt 23 a b n cur op (cur - 1) (op) := Or.inr (Or.inr (Or.inr (Or.inr (Or.inr (Or.inr (Or.inr (Or.inr (Or.inr (Or.inr (Or.inr (Or.inr (Or.inr (Or.inr (Or.inr (Or.inr (Or.inr (Or.inr (Or.inr (Or.inr (Or.inr (Or.inr (Or.inl ⟨rfl, h, rfl, rfl⟩))))))))))))))))))))))
theorem tx_23 {a b n cur op c1 o1 : Int} (h : tt 23 a b n cur op c1 o1) : (1 ≤ n ∧ n ≤ 20 * op + 4 + a ∧ 2 ≤ cur ∧ 0 ≤ op) ∧ c1 = cur - 1 ∧ o1 = op := by
  unfold tt at h
  rcases h with h | h | h | h | h | h | h | h | h | h | h | h | h | h | h | h | h | h | h | h | h | h | h | h | h | h | h | h | h <;> first | exact h.2 | (exfalso; have := h.1; omega)
theorem tt_24 {a b n cur op : Int} (h : 1 ≤ n ∧ n ≤ 20 * op + 12 ∧ 0 ≤ cur ∧ 0 ≤ op) : tt 24 a b n cur op (cur + 1) (op) := Or.inr (Or.inr (Or.inr (Or.inr (Or.inr (Or.inr (Or.inr (Or.inr (Or.inr (Or.inr (Or.inr (Or.inr (Or.inr (Or.inr (Or.inr (Or.inr (Or.inr (Or.inr (Or.inr (Or.inr (Or.inr (Or.inr (Or.inr (Or.inl ⟨rfl, h, rfl, rfl⟩)))))))))))))))))))))))
theorem tx_24 {a b n cur op c1 o1 : Int} (h : tt 24 a b n cur op c1 o1) : (1 ≤ n ∧ n ≤ 20 * op + 12 ∧ 0 ≤ cur ∧ 0 ≤ op) ∧ c1 = cur + 1 ∧ o1 = op := by
  unfold tt at h
  rcases h with h | h | h | h | h | h | h | h | h | h | h | h | h | h | h | h | h | h | h | h | h | h | h | h | h | h | h | h | h <;> first | exact h.2 | (exfalso; have := h.1; omega)
theorem tt_25 {a b n cur op : Int} (h : 1 ≤ n ∧ n ≤ 20 * op - 8 ∧ 1 ≤ cur ∧ 1 ≤ op) : tt 25 a b n cur op (cur) (op - 1) := Or.inr (Or.inr (Or.inr (Or.inr (Or.inr (Or.inr (Or.inr (Or.inr (Or.inr (Or.inr (Or.inr (Or.inr (Or.inr (Or.inr (Or.inr (Or.inr (Or.inr (Or.inr (Or.inr (Or.inr (Or.inr (Or.inr (Or.inr (Or.inr (Or.inl ⟨rfl, h, rfl, rfl⟩))))))))))))))))))))))))
theorem tx_25 {a b n cur op c1 o1 : Int} (h : tt 25 a b n cur op c1 o1) : (1 ≤ n ∧ n ≤ 20 * op - 8 ∧ 1 ≤ cur ∧ 1 ≤ op) ∧ c1 = cur ∧ o1 = op - 1 := by
  unfold tt at h
  rcases h with h | h | h | h | h | h | h | h | h | h | h | h | h | h | h | h | h | h | h | h | h | h | h | h | h | h | h | h | h <;> first | exact h.2 | (exfalso; have := h.1; omega)
theorem tt_26 {a b n cur op : Int} (h : 1 ≤ n ∧ n ≤ 20 * op - 8 ∧ 1 ≤ cur ∧ 1 ≤ op) : tt 26 a b n cur op (cur) (op - 1) := Or.inr (Or.inr (Or.inr (Or.inr (Or.inr (Or.inr (Or.inr (Or.inr (Or.inr (Or.inr (Or.inr (Or.inr (Or.inr (Or.inr (Or.inr (Or.inr (Or.inr (Or.inr (Or.inr (Or.inr (Or.inr (Or.inr (Or.inr (Or.inr (Or.inr (Or.inl ⟨rfl, h, rfl, rfl⟩)))))))))))))))))))))))))
theorem tx_26 {a b n cur op c1 o1 : Int} (h : tt 26 a b n cur op c1 o1) : (1 ≤ n ∧ n ≤ 20 * op - 8 ∧ 1 ≤ cur ∧ 1 ≤ op) ∧ c1 = cur ∧ o1 = op - 1 := by
  unfold tt at h
  rcases h with h | h | h | h | h | h | h | h | h | h | h | h | h | h | h | h | h | h | h | h | h | h | h | h | h | h | h | h | h <;> first | exact h.2 | (exfalso; have := h.1; omega)
theorem tt_27 {a b n cur op : Int} (h : 1 ≤ n ∧ n ≤ 20 * op + 12 ∧ 1 ≤ cur ∧ 0 ≤ op) : tt 27 a b n cur op (cur) (op) := Or.inr (Or.inr (Or.inr (Or.inr (Or.inr (Or.inr (Or.inr (Or.inr (Or.inr (Or.inr (Or.inr (Or.inr (Or.inr (Or.inr (Or.inr (Or.inr (Or.inr (Or.inr (Or.inr (Or.inr (Or.inr (Or.inr (Or.inr (Or.inr (Or.inr (Or.inr (Or.inl ⟨rfl, h, rfl, rfl⟩))))))))))))))))))))))))))
theorem tx_27 {a b n cur op c1 o1 : Int} (h : tt 27 a b n cur op c1 o1) : (1 ≤ n ∧ n ≤ 20 * op + 12 ∧ 1 ≤ cur ∧ 0 ≤ op) ∧ c1 = cur ∧ o1 = op := by
  unfold tt at h
  rcases h with h | h | h | h | h | h | h | h | h | h | h | h | h | h | h | h | h | h | h | h | h | h | h | h | h | h | h | h | h <;> first | exact h.2 | (exfalso; have := h.1; omega)
theorem tt_28 {a b n cur op : Int} (h : 1 ≤ n ∧ n ≤ 20 * op - 8 ∧ b ≤ cur ∧ 0 ≤ b ∧ 1 ≤ op) : tt 28 a b n cur op (cur - b + 1) (op - 1) := Or.inr (Or.inr (Or.inr (Or.inr (Or.inr (Or.inr (Or.inr (Or.inr (Or.inr (Or.inr (Or.inr (Or.inr (Or.inr (Or.inr (Or.inr (Or.inr (Or.inr (Or.inr (Or.inr (Or.inr (Or.inr (Or.inr (Or.inr (Or.inr (Or.inr (Or.inr (Or.inr (Or.inl ⟨rfl, h, rfl, rfl⟩)))))))))))))))))))))))))))
theorem tx_28 {a b n cur op c1 o1 : Int} (h : tt 28 a b n cur op c1 o1) : (1 ≤ n ∧ n ≤ 20 * op - 8 ∧ b ≤ cur ∧ 0 ≤ b ∧ 1 ≤ op) ∧ c1 = cur - b + 1 ∧ o1 = op - 1 := by
  unfold tt at h
  rcases h with h | h | h | h | h | h | h | h | h | h | h | h | h | h | h | h | h | h | h | h | h | h | h | h | h | h | h | h | h <;> first | exact h.2 | (exfalso; have := h.1; omega)
theorem tt_29 {a b n cur op : Int} (h : 1 ≤ n ∧ n ≤ 20 * op - 8 ∧ b + 1 ≤ cur ∧ 0 ≤ b ∧ 1 ≤ op) : tt 29 a b n cur op (cur - b) (op - 1) := Or.inr (Or.inr (Or.inr (Or.inr (Or.inr (Or.inr (Or.inr (Or.inr (Or.inr (Or.inr (Or.inr (Or.inr (Or.inr (Or.inr (Or.inr (Or.inr (Or.inr (Or.inr (Or.inr (Or.inr (Or.inr (Or.inr (Or.inr (Or.inr (Or.inr (Or.inr (Or.inr (Or.inr (⟨rfl, h, rfl, rfl⟩))))))))))))))))))))))))))))
theorem tx_29 {a b n cur op c1 o1 : Int} (h : tt 29 a b n cur op c1 o1) : (1 ≤ n ∧ n ≤ 20 * op - 8 ∧ b + 1 ≤ cur ∧ 0 ≤ b ∧ 1 ≤ op) ∧ c1 = cur - b ∧ o1 = op - 1 := by
  unfold tt at h
  rcases h with h | h | h | h | h | h | h | h | h | h | h | h | h | h | h | h | h | h | h | h | h | h | h | h | h | h | h | h | h <;> first | exact h.2 | (exfalso; have := h.1; omega)
theorem tx_w {w a b n cur op c1 o1 : Int} (h : tt w a b n cur op c1 o1) : 1 ≤ w ∧ w ≤ 29 ∧ 0 ≤ op ∧ (0 ≤ n ∧ n ≤ 20 * op + 14 ∨ w = 21 ∨ w = 22 ∨ w = 23) := by
  unfold tt at h
  rcases h with h | h | h | h | h | h | h | h | h | h | h | h | h | h | h | h | h | h | h | h | h | h | h | h | h | h | h | h | h <;> (obtain ⟨h1, h2, h3, h4⟩ := h; omega)
/-- what a task holds -/
def td (F tp N tm ow : Int) (o fb pr ht rg bk : Nat → Int) (w a b c e : Int) : Prop :=
  (w = 1 → a = 0) ∧
  (w = 3 ∨ w = 4 → (a = F ∧ b = 0 ∧ F < 6) ∧ ((1 ≤ fb F.toNat ∧ fb F.toNat ≤ tm) ∧ rg (fb F.toNat).toNat = F ∧ ht (fb F.toNat).toNat = 0 ∧ bk (fb F.toNat).toNat = 0) ∧ (0 ≤ pr F.toNat ∧ pr F.toNat ≤ ow)) ∧
  (w = 8 ∨ w = 11 → (1 ≤ a ∧ a < N) ∧ o a.toNat = 14 ∧ rg a.toNat = F ∧ bk a.toNat = 0) ∧
  (w = 9 → (1 ≤ a ∧ a < N) ∧ o a.toNat = 15 ∧ rg a.toNat = F ∧ bk a.toNat = 0) ∧
  (w = 10 ∨ w = 11 → (1 ≤ b ∧ b ≤ tm) ∧ ht b.toNat = 0 ∧ rg b.toNat = F ∧ bk b.toNat = 0) ∧
  (w = 13 ∨ w = 14 → (b = 0 ∨ b = 1) ∧ ((100 ≤ a ∧ a < 112 ∧ b = 0) ∨ (0 ≤ a ∧ a < tp))) ∧
  (w = 7 ∨ w = 10 ∨ w = 16 → -2147483648 ≤ a ∧ a < 2147483648) ∧
  (w = 4 ∨ w = 14 ∨ w = 23 ∨ w = 29 → -2147483648 ≤ c ∧ c < 2147483648) ∧
  (w = 19 ∨ w = 20 → a = 0 ∨ a = 1) ∧
  (w = 21 → 0 ≤ a ∧ a ≤ 8) ∧
  (w = 22 → 0 ≤ a ∧ a ≤ 7) ∧
  (w = 23 → (0 ≤ a ∧ a ≤ 7) ∧ isop b ∧ (e = 0 ∨ e = 1)) ∧
  (w = 27 → 0 ≤ a ∧ a < tp) ∧
  (w = 28 ∨ w = 29 → 0 ≤ a ∧ a < F)
/-- how many orders a task will say -/
def pdw (w : Int) : Int := if w = 11 then 2 else if w = 1 ∨ w = 2 ∨ w = 3 ∨ w = 4 ∨ w = 7 ∨ w = 10 ∨ w = 13 ∨ w = 14 ∨ w = 19 ∨ w = 20 ∨ w = 23 ∨ w = 25 ∨ w = 27 ∨ w = 28 ∨ w = 29 then 1 else 0
/-- how much a task weighs -/
def wtw (w a : Int) : Int := if w = 21 then 17 - 2 * a else if w = 17 then 19 else if w = 15 then 24 else if w = 28 then 22 else if w = 1 then 4 else if w = 23 then 2 else 1
def PD : List zE → Int
  | [] => 0
  | e :: st => pdw e.1 + PD st
def SW : List zE → Int
  | [] => 0
  | e :: st => wtw e.1 e.2.1 + SW st
theorem pdw_0 (w : Int) : 0 ≤ pdw w := by
  unfold pdw
  split
  · omega
  · split <;> omega
theorem PD_0 : ∀ st, 0 ≤ PD st := by
  intro st
  induction st with
  | nil => exact Int.le_refl 0
  | cons e st ih => have := pdw_0 e.1; show 0 ≤ pdw e.1 + PD st; omega
/-- the pile of tasks as a list, the top first -/
def sk (t ta tb tc te : Nat → Int) : List zE → Prop
  | [] => True
  | e :: st => (t st.length = e.1 ∧ ta st.length = e.2.1 ∧ tb st.length = e.2.2.1 ∧ tc st.length = e.2.2.2.1 ∧ te st.length = e.2.2.2.2) ∧ sk t ta tb tc te st
theorem sk_congr {t ta tb tc te t' ta' tb' tc' te' : Nat → Int} : ∀ {st : List zE}, (∀ j, j < st.length → t' j = t j ∧ ta' j = ta j ∧ tb' j = tb j ∧ tc' j = tc j ∧ te' j = te j) → sk t ta tb tc te st → sk t' ta' tb' tc' te' st := by
  intro st
  induction st with
  | nil => intro _ _; trivial
  | cons e st ih =>
    intro h hs
    obtain ⟨⟨q1, q2, q3, q4, q5⟩, hs⟩ := hs
    obtain ⟨e1, e2, e3, e4, e5⟩ := h st.length (by show st.length < st.length + 1; omega)
    exact ⟨⟨e1.trans q1, e2.trans q2, e3.trans q3, e4.trans q4, e5.trans q5⟩, ih (fun j hj => h j (by show j < st.length + 1; omega)) hs⟩
def skk (B : zF) (st : List zE) : Prop := (B 39 58) = (st.length : Int) ∧ sk (B 69) (B 70) (B 71) (B 72) (B 73) st
theorem skk_push {B : zF} {st : List zE} (h : skk B st) (w a b c e : Int) : skk (mW B st.length w a b c e) ((w, a, b, c, e) :: st) := by
  refine ⟨by show (st.length : Int) + 1 = ((st.length + 1 : Nat) : Int); omega, ⟨?_, ?_, ?_, ?_, ?_⟩, sk_congr (fun j hj => ?_) h.2⟩
  · rw [mW_ap]; simp
  · rw [mW_ap]; simp
  · rw [mW_ap]; simp
  · rw [mW_ap]; simp
  · rw [mW_ap]; simp
  · have : j ≠ st.length := by omega
    simp only [mW_ap]
    simp [this]
/-- the jumps that are still open -/
def pnd (st : List zE) (p : Nat) : Prop := ∃ e ∈ st, (e.1 = 1 ∨ e.1 = 8 ∨ e.1 = 9 ∨ e.1 = 11) ∧ e.2.1 = (p : Int)
theorem pnd_push {st : List zE} {p : Nat} (e : zE) (h : pnd st p) : pnd (e :: st) p := by
  obtain ⟨x, hx, h1⟩ := h
  exact ⟨x, List.mem_cons_of_mem _ hx, h1⟩
theorem pnd_pop {st : List zE} {p : Nat} {e : zE} (h : pnd (e :: st) p) (hn : ¬ ((e.1 = 1 ∨ e.1 = 8 ∨ e.1 = 9 ∨ e.1 = 11) ∧ e.2.1 = (p : Int))) : pnd st p := by
  obtain ⟨x, hx, h1⟩ := h
  rcases List.mem_cons.mp hx with rfl | hx
  · exact absurd h1 hn
  · exact ⟨x, hx, h1⟩
/-- the tasks fit each other -/
def WT : List zE → Int → Int → Prop
  | [], _, _ => False
  | e :: st, cur, op => ∃ c1 o1, tt e.1 e.2.1 e.2.2.1 (st.length : Int) cur op c1 o1 ∧ ((e.1 = 3 ∨ e.1 = 4) → st = [(1, 0, 0, 0, 0)]) ∧ ((e.1 = 1 ∨ e.1 = 2) ∨ WT st c1 o1)
theorem WT_cons {w a b c e : Int} {st : List zE} {cur op c1 o1 : Int} (h : tt w a b (st.length : Int) cur op c1 o1) (hs : WT st c1 o1) (h3 : (w = 3 ∨ w = 4) → st = [(1, 0, 0, 0, 0)] := by intro z; omega) : WT ((w, a, b, c, e) :: st) cur op := ⟨c1, o1, h, h3, Or.inr hs⟩
/-- all tasks hold what they must -/
def TD (F tp N tm ow : Int) (o fb pr ht rg bk : Nat → Int) (st : List zE) : Prop := ∀ e ∈ st, td F tp N tm ow o fb pr ht rg bk e.1 e.2.1 e.2.2.1 e.2.2.2.1 e.2.2.2.2
theorem TD_cons {F tp N tm ow : Int} {o fb pr ht rg bk : Nat → Int} {st : List zE} {w a b c e : Int} (h : td F tp N tm ow o fb pr ht rg bk w a b c e) (hs : TD F tp N tm ow o fb pr ht rg bk st) : TD F tp N tm ow o fb pr ht rg bk ((w, a, b, c, e) :: st) := by
  intro x hx
  rcases List.mem_cons.mp hx with rfl | hx
  · exact h
  · exact hs x hx
theorem TD_tl {F tp N tm ow : Int} {o fb pr ht rg bk : Nat → Int} {st : List zE} {x : zE} (h : TD F tp N tm ow o fb pr ht rg bk (x :: st)) : TD F tp N tm ow o fb pr ht rg bk st := fun e he => h e (List.mem_cons_of_mem _ he)
theorem td_mono {F tp tp' N N' tm tm' ow ow' : Int} {o fb pr ht rg bk o' ht' rg' bk' : Nat → Int} {w a b c e : Int} (h : td F tp N tm ow o fb pr ht rg bk w a b c e) (h1 : tp ≤ tp') (h2 : N ≤ N') (h3 : tm ≤ tm') (h4 : ow ≤ ow') (hm : tm ≤ N) (e1 : ∀ j : Nat, (j : Int) < N → o' j = o j) (e2 : ∀ j : Nat, 1 ≤ j → (j : Int) ≤ N → ht' j = ht j ∧ rg' j = rg j) (e3 : ∀ j : Nat, (j : Int) < N ∨ (j : Int) ≤ tm → bk' j = bk j) : td F tp' N' tm' ow' o' fb pr ht' rg' bk' w a b c e := by
  obtain ⟨q1, q2, q3, q4, q5, q6, q7, q8, q9, q10, q11, q12, q13, q14⟩ := h
  refine ⟨q1, fun z => ?_, fun z => ?_, fun z => ?_, fun z => ?_, fun z => ?_, q7, q8, q9, q10, q11, q12, fun z => ?_, q14⟩
  · obtain ⟨p1, ⟨⟨p2, p3⟩, p4, p5, p6⟩, p7⟩ := q2 z
    obtain ⟨r1, r2⟩ := e2 (fb F.toNat).toNat (by omega) (by omega)
    rw [r1, r2, e3 _ (by omega)]
    exact ⟨p1, ⟨⟨p2, by omega⟩, p4, p5, p6⟩, by omega⟩
  · obtain ⟨⟨p1, p2⟩, p3, p4, p5⟩ := q3 z
    obtain ⟨r1, r2⟩ := e2 a.toNat (by omega) (by omega)
    rw [r2, e1 _ (by omega), e3 _ (by omega)]
    exact ⟨⟨p1, by omega⟩, p3, p4, p5⟩
  · obtain ⟨⟨p1, p2⟩, p3, p4, p5⟩ := q4 z
    obtain ⟨r1, r2⟩ := e2 a.toNat (by omega) (by omega)
    rw [r2, e1 _ (by omega), e3 _ (by omega)]
    exact ⟨⟨p1, by omega⟩, p3, p4, p5⟩
  · obtain ⟨⟨p1, p2⟩, p3, p4, p5⟩ := q5 z
    obtain ⟨r1, r2⟩ := e2 b.toNat (by omega) (by omega)
    rw [r1, r2, e3 _ (by omega)]
    exact ⟨⟨p1, by omega⟩, p3, p4, p5⟩
  · obtain ⟨p1, p2⟩ := q6 z
    exact ⟨p1, by omega⟩
  · have := q13 z
    omega
theorem TD_mono {F tp tp' N N' tm tm' ow ow' : Int} {o fb pr ht rg bk o' ht' rg' bk' : Nat → Int} {st : List zE} (h : TD F tp N tm ow o fb pr ht rg bk st) (h1 : tp ≤ tp') (h2 : N ≤ N') (h3 : tm ≤ tm') (h4 : ow ≤ ow') (hm : tm ≤ N) (e1 : ∀ j : Nat, (j : Int) < N → o' j = o j) (e2 : ∀ j : Nat, 1 ≤ j → (j : Int) ≤ N → ht' j = ht j ∧ rg' j = rg j) (e3 : ∀ j : Nat, (j : Int) < N ∨ (j : Int) ≤ tm → bk' j = bk j) : TD F tp' N' tm' ow' o' fb pr ht' rg' bk' st := fun e he => td_mono (h e he) h1 h2 h3 h4 hm e1 e2 e3
/-- tasks that hold nothing -/
theorem td_0 {F tp N tm ow : Int} {o fb pr ht rg bk : Nat → Int} {w a b c e : Int} (hw : w = 2 ∨ w = 5 ∨ w = 6 ∨ w = 12 ∨ w = 15 ∨ w = 17 ∨ w = 18 ∨ w = 24 ∨ w = 25 ∨ w = 26) : td F tp N tm ow o fb pr ht rg bk w a b c e := by
  refine ⟨?_, ?_, ?_, ?_, ?_, ?_, ?_, ?_, ?_, ?_, ?_, ?_, ?_, ?_⟩ <;> (intro z; omega)
end
section
/-! The model's parser: its state, and what its small steps do to it -/
def mD (B : zF) : Prop := (0 ≤ (B 39 13) ∧ (B 39 13) ≤ 40) ∧ (0 ≤ (B 39 15) ∧ (B 39 15) ≤ 64 * (B 39 13)) ∧ (∀ k : Nat, (k : Int) < (B 39 13) → (0 ≤ (B 42) k ∧ 0 ≤ (B 43) k ∧ (B 42) k + (B 43) k ≤ 3000) ∧ (0 ≤ (B 44) k ∧ (B 44) k ≤ 64) ∧ 0 ≤ (B 46) k ∧ (B 46) k + (B 44) k ≤ (B 39 15) ∧ (B 46) k + 1 ≤ (B 39 15)) ∧ (∀ j, (B 47) j = 0 ∨ (B 47) j = 1)
def mO (B : zF) : Prop := (0 ≤ (B 39 16) ∧ (B 39 16) ≤ 12) ∧ (∀ k : Nat, (k : Int) < (B 39 16) → 0 ≤ (B 50) k ∧ 0 ≤ (B 51) k ∧ (B 50) k + (B 51) k ≤ 3000) ∧ (∀ j, (B 48) j = 0 ∨ (B 48) j = 1)
def mG (B : zF) : Prop := (0 ≤ (B 39 17) ∧ (B 39 17) ≤ 6) ∧ (∀ k : Nat, k < 6 → 0 ≤ (B 52) k ∧ 0 ≤ (B 53) k ∧ (B 52) k + (B 53) k ≤ 3000) ∧ (∀ j, (B 49) j = 0 ∨ (B 49) j = 1) ∧ (∀ j, (B 57) j = 0 ∨ (B 57) j = 1)
def mX (B : zF) : Prop := (-2147483648 ≤ (B 39 11) ∧ (B 39 11) < 2147483648) ∧ (-2147483648 ≤ (B 39 12) ∧ (B 39 12) < 2147483648) ∧ ((B 39 37) = 0 ∨ (B 39 37) = 1) ∧ ((B 39 42) = 0 ∨ (B 39 42) = 1)
/-- what the parser never touches -/
def FR (B B' : zF) : Prop := (B' 40) = (B 40) ∧ (B' 41) = (B 41) ∧ (B' 61) = (B 61) ∧ (B' 62) = (B 62) ∧ (B' 63) = (B 63) ∧ (B' 64) = (B 64) ∧ (B' 65) = (B 65) ∧ (B' 66) = (B 66) ∧ (B' 67) = (B 67) ∧ (B' 68) = (B 68) ∧ (B' 39 3) = (B 39 3) ∧ (B' 39 4) = (B 39 4)
theorem FR_rf (B : zF) : FR B B := ⟨rfl, rfl, rfl, rfl, rfl, rfl, rfl, rfl, rfl, rfl, rfl, rfl⟩
theorem FR_tr {B B' B'' : zF} (h : FR B B') (g : FR B' B'') : FR B B'' := by
  obtain ⟨a1, a2, a3, a4, a5, a6, a7, a8, a9, a10, a11, a12⟩ := h
  obtain ⟨b1, b2, b3, b4, b5, b6, b7, b8, b9, b10, b11, b12⟩ := g
  exact ⟨b1.trans a1, b2.trans a2, b3.trans a3, b4.trans a4, b5.trans a5, b6.trans a6, b7.trans a7, b8.trans a8, b9.trans a9, b10.trans a10, b11.trans a11, b12.trans a12⟩
/-- the tables of names and code stay -/
def SM (B B' : zF) : Prop := B' 42 = B 42 ∧ B' 43 = B 43 ∧ B' 44 = B 44 ∧ B' 45 = B 45 ∧ B' 46 = B 46 ∧ B' 47 = B 47 ∧ B' 48 = B 48 ∧ B' 49 = B 49 ∧ B' 50 = B 50 ∧ B' 51 = B 51 ∧ B' 52 = B 52 ∧ B' 53 = B 53 ∧ B' 54 = B 54 ∧ B' 55 = B 55 ∧ B' 56 = B 56 ∧ B' 57 = B 57 ∧ B' 58 = B 58 ∧ B' 59 = B 59 ∧ B' 60 = B 60
theorem SM_rf (B : zF) : SM B B := ⟨rfl, rfl, rfl, rfl, rfl, rfl, rfl, rfl, rfl, rfl, rfl, rfl, rfl, rfl, rfl, rfl, rfl, rfl, rfl⟩
theorem SM_tr {B B' B'' : zF} (h : SM B B') (g : SM B' B'') : SM B B'' := by
  obtain ⟨a42, a43, a44, a45, a46, a47, a48, a49, a50, a51, a52, a53, a54, a55, a56, a57, a58, a59, a60⟩ := h
  obtain ⟨b42, b43, b44, b45, b46, b47, b48, b49, b50, b51, b52, b53, b54, b55, b56, b57, b58, b59, b60⟩ := g
  exact ⟨b42.trans a42, b43.trans a43, b44.trans a44, b45.trans a45, b46.trans a46, b47.trans a47, b48.trans a48, b49.trans a49, b50.trans a50, b51.trans a51, b52.trans a52, b53.trans a53, b54.trans a54, b55.trans a55, b56.trans a56, b57.trans a57, b58.trans a58, b59.trans a59, b60.trans a60⟩
theorem SM_k {B B' : zF} (h : SM B B') : B' 47 = B 47 ∧ B' 48 = B 48 ∧ B' 49 = B 49 ∧ B' 54 = B 54 ∧ B' 55 = B 55 ∧ B' 58 = B 58 := by
  obtain ⟨a42, a43, a44, a45, a46, a47, a48, a49, a50, a51, a52, a53, a54, a55, a56, a57, a58, a59, a60⟩ := h
  exact ⟨a47, a48, a49, a54, a55, a58⟩
/-- no fault yet -/
def PZ (B0 B Y : zF) (st vs : List zE) (cur op fr fc N F tp ow tk sc tm : Int) (E ht rg bk : Nat → Int) : Prop :=
  FR B0 B ∧ mK B ∧ mY Y ∧ mT B ∧ ((B 39 10) = 0 ∧ (B 39 20) = op ∧ (B 39 7) = fr ∧ (B 39 38) = N ∧ (B 39 17) = F ∧ (B 39 13) = tp ∧ (B 39 16) = ow ∧ (B 39 6) = tk ∧ (B 39 42) = sc ∧ ht N.toNat = cur ∧ fc ≤ (B 39 5)) ∧ mD B ∧ mO B ∧ mG B ∧ mX B ∧ skk B st ∧ CT (B 58) (B 59) N F tp fc tm (B 54) (B 55) (B 56) E (pnd vs) ht rg bk ∧ TD F tp N tm ow (B 58) (B 54) (B 55) ht rg bk vs
/-- a fault was told -/
def PF (B0 B Y : zF) (on tn : Int) : Prop :=
  FR B0 B ∧ mK B ∧ mY Y ∧ mT B ∧ mF B ∧ ((B 39 10) ≠ 0 ∧ (0 ≤ (B 39 38) ∧ (B 39 38) ≤ on) ∧ (0 ≤ (B 39 58) ∧ (B 39 58) ≤ tn)) ∧ mD B ∧ mO B ∧ mG B ∧ mX B
section ZO
variable {d : Nat} {A B0 B Y : zF} {K : Nat} {T : zT} {st vs : List zE} {cur op fr fc N F tp ow tk sc tm on tn : Int} {E ht rg bk : Nat → Int}
theorem PZ_tk (h : PZ B0 B Y st vs cur op fr fc N F tp ow tk sc tm E ht rg bk) : (0 ≤ fr ∧ fr ≤ 3000) ∧ (tk ≠ 12 → fr < (B 39 5)) ∧ (-2147483648 ≤ tk ∧ tk < 2147483648) ∧ (sc = 0 ∨ sc = 1) ∧ (1 ≤ N ∧ 0 ≤ F ∧ F ≤ 6 ∧ tm ≤ N) ∧ (0 ≤ tp ∧ tp ≤ 40) ∧ (0 ≤ ow ∧ ow ≤ 12) ∧ (0 ≤ cur ∧ cur ≤ fc - E F.toNat) := by
  obtain ⟨-, hK, -, ⟨t1, t2, t3, t4, t5, t6⟩, ⟨f1, rfl, rfl, rfl, rfl, rfl, rfl, rfl, rfl, rfl, f2⟩, hD, hO, -, hX, -, hC, -⟩ := h
  have hk := hK.1
  exact ⟨by omega, t5, t6, hX.2.2.2, hC.1, hD.1, hO.1, CT_cur hC⟩
theorem PZ_eq (h : PZ B0 B Y st vs cur op fr fc N F tp ow tk sc tm E ht rg bk) : (B 39 10) = 0 ∧ (B 39 20) = op ∧ (B 39 7) = fr ∧ (B 39 38) = N ∧ (B 39 17) = F ∧ (B 39 13) = tp ∧ (B 39 16) = ow ∧ (B 39 6) = tk ∧ (B 39 42) = sc ∧ ht N.toNat = cur ∧ fc ≤ (B 39 5) ∧ (B 39 58) = (st.length : Int) := by
  obtain ⟨-, -, -, -, ⟨f1, f2, f3, f4, f5, f6, f7, f8, f9, f10, f11⟩, -, -, -, -, hs, -, -⟩ := h
  exact ⟨f1, f2, f3, f4, f5, f6, f7, f8, f9, f10, f11, hs.1⟩
theorem PZ_mF (h : PZ B0 B Y st vs cur op fr fc N F tp ow tk sc tm E ht rg bk) : mF B := by
  have := (PZ_eq h).1
  unfold mF
  omega
/-- a fault is told -/
theorem PZ_PF (h : PZ B0 B Y st vs cur op fr fc N F tp ow tk sc tm E ht rg bk) (hop : 0 ≤ op ∧ op ≤ 11) {x : Int} (h0 : 0 < x) (h1 : x ≤ 50000) : PF B0 (zu B 39 10 x) Y N (st.length : Int) := by
  obtain ⟨a1, a2, a3, a4, ⟨f1, f2, f3, f4, f5, f6, f7, f8, f9, f10, f11⟩, a5, a6, a7, a8, a9, a10, a11⟩ := h
  have hs := a9.1
  have hN := a10.1.1
  exact ⟨FR_tr a1 (FR_rf _), a2, a3, a4, ⟨by show 0 ≤ x; omega, h1⟩, ⟨by show x ≠ 0; omega, ⟨by show 0 ≤ (B 39 38); omega, by show (B 39 38) ≤ N; omega⟩, ⟨by show 0 ≤ (B 39 58); omega, by show (B 39 58) ≤ _; omega⟩⟩, a5, a6, a7, a8⟩
theorem PZ_lex (h : PZ B0 B Y st vs cur op fr fc N F tp ow tk sc tm E ht rg bk) {a k f : Int} {Y' : zF} (g1 : (B 39 5) ≤ f) (g2 : f ≤ a) (g3 : a ≤ (B 39 4)) (g4 : k ≠ 12 → f < a) (g5 : -2147483648 ≤ k ∧ k < 2147483648) (g6 : mY Y') : PZ B0 (mS B a k f a) Y' st vs cur op f f N F tp ow k sc tm E ht rg bk := by
  obtain ⟨a1, a2, a3, a4, ⟨f1, f2, f3, f4, f5, f6, f7, f8, f9, f10, f11⟩, a5, a6, a7, a8, a9, a10, a11⟩ := h
  obtain ⟨t1, t2, t3, t4, t5, t6⟩ := a4
  exact ⟨FR_tr a1 (FR_rf _), a2, g6, ⟨by show 0 ≤ f; omega, g2, rfl, g3, g4, g5⟩, ⟨f1, f2, rfl, f4, f5, f6, f7, rfl, f9, f10, g2⟩, a5, a6, a7, a8, a9, CT_from a10 (by omega), a11⟩
theorem PZ_open (h : PZ B0 B Y st vs cur op fr fc N F tp ow tk sc tm E ht rg bk) (v : Int) : PZ B0 (zu B 39 20 v) Y st vs cur v fr fc N F tp ow tk sc tm E ht rg bk := by
  obtain ⟨a1, a2, a3, a4, ⟨f1, f2, f3, f4, f5, f6, f7, f8, f9, f10, f11⟩, a5, a6, a7, a8, a9, a10, a11⟩ := h
  exact ⟨FR_tr a1 (FR_rf _), a2, a3, a4, ⟨f1, rfl, f3, f4, f5, f6, f7, f8, f9, f10, f11⟩, a5, a6, a7, a8, a9, a10, a11⟩
theorem PZ_sec (h : PZ B0 B Y st vs cur op fr fc N F tp ow tk sc tm E ht rg bk) {s : Int} (hs : s = 0 ∨ s = 1) : PZ B0 (zu B 39 42 s) Y st vs cur op fr fc N F tp ow tk s tm E ht rg bk := by
  obtain ⟨a1, a2, a3, a4, ⟨f1, f2, f3, f4, f5, f6, f7, f8, f9, f10, f11⟩, a5, a6, a7, a8, a9, a10, a11⟩ := h
  exact ⟨FR_tr a1 (FR_rf _), a2, a3, a4, ⟨f1, f2, f3, f4, f5, f6, f7, f8, rfl, f10, f11⟩, a5, a6, a7, ⟨a8.1, a8.2.1, a8.2.2.1, hs⟩, a9, a10, a11⟩
theorem PZ_stm (h : PZ B0 B Y st vs cur op fr fc N F tp ow tk sc tm E ht rg bk) (v : Int) : PZ B0 (zu B 39 19 v) Y st vs cur op fr fc N F tp ow tk sc tm E ht rg bk := by
  obtain ⟨a1, a2, a3, a4, ⟨f1, f2, f3, f4, f5, f6, f7, f8, f9, f10, f11⟩, a5, a6, a7, a8, a9, a10, a11⟩ := h
  exact ⟨FR_tr a1 (FR_rf _), a2, a3, a4, ⟨f1, f2, f3, f4, f5, f6, f7, f8, f9, f10, f11⟩, a5, a6, a7, a8, a9, a10, a11⟩
theorem PZ_fb (h : PZ B0 B Y st vs cur op fr fc N F tp ow tk sc tm E ht rg bk) {x y : Int} (hx : -2147483648 ≤ x ∧ x < 2147483648) (hy : -2147483648 ≤ y ∧ y < 2147483648) : PZ B0 (zu (zu B 39 11 x) 39 12 y) Y st vs cur op fr fc N F tp ow tk sc tm E ht rg bk := by
  obtain ⟨a1, a2, a3, a4, ⟨f1, f2, f3, f4, f5, f6, f7, f8, f9, f10, f11⟩, a5, a6, a7, a8, a9, a10, a11⟩ := h
  exact ⟨FR_tr a1 (FR_rf _), a2, a3, a4, ⟨f1, f2, f3, f4, f5, f6, f7, f8, f9, f10, f11⟩, a5, a6, a7, ⟨hx, hy, a8.2.2⟩, a9, a10, a11⟩
theorem PZ_push (h : PZ B0 B Y st vs cur op fr fc N F tp ow tk sc tm E ht rg bk) {w a b c e : Int} (hd : td F tp N tm ow (B 58) (B 54) (B 55) ht rg bk w a b c e) : PZ B0 (mW B st.length w a b c e) Y ((w, a, b, c, e) :: st) ((w, a, b, c, e) :: vs) cur op fr fc N F tp ow tk sc tm E ht rg bk := by
  obtain ⟨a1, a2, a3, a4, ⟨f1, f2, f3, f4, f5, f6, f7, f8, f9, f10, f11⟩, a5, a6, a7, a8, a9, a10, a11⟩ := h
  exact ⟨FR_tr a1 (FR_rf _), a2, a3, a4, ⟨f1, f2, f3, f4, f5, f6, f7, f8, f9, f10, f11⟩, a5, a6, a7, a8, skk_push a9 w a b c e, CT_pn a10 (fun p hp => pnd_push _ hp), TD_cons hd a11⟩
/-- the task that was taken off the pile holds no open jump -/
theorem PZ_drop {x : zE} (h : PZ B0 B Y st (x :: vs) cur op fr fc N F tp ow tk sc tm E ht rg bk) (hx : x.1 ≠ 1 ∧ x.1 ≠ 8 ∧ x.1 ≠ 9 ∧ x.1 ≠ 11) : PZ B0 B Y st vs cur op fr fc N F tp ow tk sc tm E ht rg bk := by
  obtain ⟨a1, a2, a3, a4, a5, a6, a7, a8, a9, a10, a11, a12⟩ := h
  exact ⟨a1, a2, a3, a4, a5, a6, a7, a8, a9, a10, CT_pn a11 (fun p hp => pnd_pop hp (fun z => by omega)), TD_tl a12⟩
theorem PZ_say (h : PZ B0 B Y st vs cur op fr fc N F tp ow tk sc tm E ht rg bk) {w a b y fc' : Int} (hfc : fc ≤ fc') (hfa : fc' ≤ (B 39 5)) (hy0 : 0 ≤ y) (hy1 : y ≤ fc' - E F.toNat) (hok : ok1 w a tp F (B 55) cur y) : PZ B0 (zu (zu (zu (zu B 58 (B 39 38).toNat w) 59 (B 39 38).toNat a) 60 (B 39 38).toNat b) 39 38 ((B 39 38) + 1)) Y st vs y op fr fc' (N + 1) F tp ow tk sc tm E (zp ht (N.toNat + 1) y) (zp rg (N.toNat + 1) F) (zp bk N.toNat 0) := by
  obtain ⟨a1, a2, a3, a4, ⟨f1, f2, f3, f4, f5, f6, f7, f8, f9, f10, f11⟩, a5, a6, a7, a8, a9, a10, a11⟩ := h
  subst f10
  obtain ⟨⟨n1, n2, n3, n4⟩, -, hb0, -⟩ := id a10
  obtain ⟨c1, c2⟩ := CT_say a10 hfc hy0 hy1 hok
  rw [f4]
  refine ⟨FR_tr a1 (FR_rf _), a2, a3, a4, ⟨f1, f2, f3, rfl, f5, f6, f7, f8, f9, c2, hfa⟩, a5, a6, a7, a8, a9, c1, ?_⟩
  refine TD_mono (o' := zp (B 58) N.toNat w) a11 (Int.le_refl _) (by omega) (Int.le_refl _) (Int.le_refl _) n4 (fun j hj => zp_ne _ _ (by omega)) (fun j _ hj => ⟨zp_ne _ _ (by omega), zp_ne _ _ (by omega)⟩) (fun j hj => ?_)
  by_cases e : j = N.toNat
  · subst e
    rw [zp_at, hb0 _ (by omega)]
  · exact zp_ne _ _ e
/-- BRANCH (14) or GO (15), the target open: the task x that will set it lies in vs -/
theorem PZ_jmp (h : PZ B0 B Y st vs cur op fr fc N F tp ow tk sc tm E ht rg bk) {w a b : Int} (hw : (w = 14 ∧ cur = 1) ∨ (w = 15 ∧ cur = 0)) {x : zE} (hx : (x.1 = 8 ∨ x.1 = 9 ∨ x.1 = 11) ∧ x.2.1 = N) (hxd : ∀ o' ht' rg' bk' : Nat → Int, o' N.toNat = w → rg' N.toNat = F → bk' N.toNat = 0 → (∀ j : Nat, 1 ≤ j → (j : Int) ≤ tm → ht' j = ht j ∧ rg' j = rg j ∧ bk' j = bk j) → td F tp (N + 1) tm ow o' (B 54) (B 55) ht' rg' bk' x.1 x.2.1 x.2.2.1 x.2.2.2.1 x.2.2.2.2) : PZ B0 (zu (zu (zu (zu B 58 (B 39 38).toNat w) 59 (B 39 38).toNat a) 60 (B 39 38).toNat b) 39 38 ((B 39 38) + 1)) Y st (x :: vs) 0 op fr fc (N + 1) F tp ow tk sc tm E (zp ht (N.toNat + 1) 0) (zp rg (N.toNat + 1) F) (zp bk N.toNat 0) := by
  obtain ⟨a1, a2, a3, a4, ⟨f1, f2, f3, f4, f5, f6, f7, f8, f9, f10, f11⟩, a5, a6, a7, a8, a9, a10, a11⟩ := h
  obtain ⟨⟨n1, n2, n3, n4⟩, -, hb0, hrN, -⟩ := id a10
  rw [f4]
  have hpN : pnd (x :: vs) N.toNat := ⟨x, List.mem_cons_self, by omega, by omega⟩
  have key : CT (zp (B 58) N.toNat w) (zp (B 59) N.toNat a) (N + 1) F tp fc tm (B 54) (B 55) (B 56) E (pnd (x :: vs)) (zp ht (N.toNat + 1) 0) (zp rg (N.toNat + 1) F) (zp bk N.toNat 0) ∧ zp ht (N.toNat + 1) 0 (N + 1).toNat = 0 := by
    rcases hw with ⟨rfl, hc⟩ | ⟨rfl, hc⟩
    · exact CT_br a10 (Int.le_refl _) (fun p hp => pnd_push _ hp) hpN (f10.trans hc)
    · exact CT_go a10 (Int.le_refl _) (fun p hp => pnd_push _ hp) hpN (f10.trans hc)
  have hbk : ∀ j : Nat, (j : Int) < N ∨ (j : Int) ≤ tm → zp bk N.toNat 0 j = bk j := fun j hj => by
    by_cases e : j = N.toNat
    · subst e
      rw [zp_at, hb0 _ (by omega)]
    · exact zp_ne _ _ e
  refine ⟨FR_tr a1 (FR_rf _), a2, a3, a4, ⟨f1, f2, f3, rfl, f5, f6, f7, f8, f9, key.2, f11⟩, a5, a6, a7, a8, a9, key.1, ?_⟩
  have t1 : TD F tp (N + 1) tm ow (zp (B 58) N.toNat w) (B 54) (B 55) (zp ht (N.toNat + 1) 0) (zp rg (N.toNat + 1) F) (zp bk N.toNat 0) vs := TD_mono (o' := zp (B 58) N.toNat w) a11 (Int.le_refl _) (by omega) (Int.le_refl _) (Int.le_refl _) n4 (fun j hj => zp_ne _ _ (by omega)) (fun j _ hj => ⟨zp_ne _ _ (by omega), zp_ne _ _ (by omega)⟩) hbk
  intro y hy
  rcases List.mem_cons.mp hy with rfl | hy
  · exact hxd _ _ _ _ (zp_at _ _ _) ((zp_ne _ _ (by omega)).trans hrN) (zp_at _ _ _) (fun j j1 j2 => ⟨zp_ne _ _ (by omega), zp_ne _ _ (by omega), hbk j (Or.inr j2)⟩)
  · exact t1 y hy
/-- an open jump gets its target -/
theorem PZ_patch {x : zE} (h : PZ B0 B Y st (x :: vs) cur op fr fc N F tp ow tk sc tm E ht rg bk) {a : Int} (ha : x.2.1 = a) (hx : (x.1 = 1 ∧ a = 0) ∨ x.1 = 8 ∨ x.1 = 9 ∨ x.1 = 11) (hc : cur = 0) : PZ B0 (zu B 59 a.toNat N) Y st vs cur op fr fc N F tp ow tk sc N E ht rg bk := by
  obtain ⟨a1, a2, a3, a4, ⟨f1, f2, f3, f4, f5, f6, f7, f8, f9, f10, f11⟩, a5, a6, a7, a8, a9, a10, a11⟩ := h
  obtain ⟨⟨n1, n2, n3, n4⟩, hk, hb0, -⟩ := id a10
  obtain ⟨q1, -, q3, q4, -⟩ := a11 x List.mem_cons_self
  have key : (0 ≤ a ∧ a < N) ∧ ((B 58) a.toNat = 14 ∨ (B 58) a.toNat = 15) ∧ bk a.toNat = 0 ∧ (1 ≤ a.toNat → rg a.toNat = F) := by
    rcases hx with ⟨hx, hx0⟩ | hx | hx | hx
    · have e0 : a.toNat = 0 := by omega
      rw [e0]
      rcases hk 0 (by omega) with g | g | g | g
      · exact absurd g.2.2.2.2 (by omega)
      · exact absurd g.2.2.2 (by omega)
      · exact absurd g.2.2.2.2.2.2.1 (by omega)
      · exact ⟨by omega, Or.inr g.1, hb0 0 (Or.inr rfl), fun z => by omega⟩
    · obtain ⟨p1, p2, p3, p4⟩ := q3 (Or.inl hx)
      rw [ha] at p1 p2 p3 p4
      exact ⟨by omega, Or.inl p2, p4, fun _ => p3⟩
    · obtain ⟨p1, p2, p3, p4⟩ := q4 hx
      rw [ha] at p1 p2 p3 p4
      exact ⟨by omega, Or.inr p2, p4, fun _ => p3⟩
    · obtain ⟨p1, p2, p3, p4⟩ := q3 (Or.inr hx)
      rw [ha] at p1 p2 p3 p4
      exact ⟨by omega, Or.inl p2, p4, fun _ => p3⟩
  obtain ⟨k1, k2, k3, k4⟩ := key
  refine ⟨FR_tr a1 (FR_rf _), a2, a3, a4, ⟨f1, f2, f3, f4, f5, f6, f7, f8, f9, f10, f11⟩, a5, a6, a7, a8, a9, CT_patch a10 (p0 := a.toNat) (by omega) k2 k3 k4 (f10.trans hc) (fun p hp hq => pnd_pop hq (fun z => hp (by omega))), ?_⟩
  exact TD_mono (TD_tl a11) (Int.le_refl _) (Int.le_refl _) n4 (Int.le_refl _) n4 (fun _ _ => rfl) (fun _ _ _ => ⟨rfl, rfl⟩) (fun _ _ => rfl)
set_option maxRecDepth 100000 in
set_option maxHeartbeats 4000000 in
theorem z_next {Q : zF → zF → zF → Nat → zT → Prop} (hd : 2 ≤ d) (h : PZ B0 B Y st vs cur op fr fc N F tp ow tk sc tm E ht rg bk) (q : ∀ B' Y' f k, fr ≤ f → (tk ≠ 12 → fr < f) → PZ B0 B' Y' st vs cur op f f N F tp ow k sc tm E ht rg bk → SM B B' → Q A B' Y' K T) : pzV d 5 [.inr (.inr 39)] (A, B, Y, K, T) Q := by
  obtain ⟨p1, p2, p3, -⟩ := PZ_tk h
  obtain ⟨-, hK, hY, ⟨t1, t2, t3, t4, t5, t6⟩, -⟩ := id h
  have e := PZ_eq h
  exact m_next hd hK hY (by omega) t4 (fun a k f Y' g1 g2 g3 g4 g5 g6 => q _ _ f k (by omega) (fun z => by have := p2 z; omega) (PZ_lex h g1 g2 g3 g4 g5 g6) (SM_rf B))
set_option maxRecDepth 100000 in
set_option maxHeartbeats 4000000 in
theorem z_meets {t : Int} {Q : Int → zF → zF → zF → Nat → zT → Prop} (hd : 3 ≤ d) (h : PZ B0 B Y st vs cur op fr fc N F tp ow tk sc tm E ht rg bk) (htt : -2147483648 ≤ t ∧ t < 2147483648) (q0 : tk ≠ t → Q 0 A B Y K T) (q1 : ∀ B' Y' f k, tk = t → fr ≤ f → (tk ≠ 12 → fr < f) → PZ B0 B' Y' st vs cur op f f N F tp ow k sc tm E ht rg bk → SM B B' → Q 1 A B' Y' K T) : pzI d 10 [.inr (.inr 39), .inl t] (A, B, Y, K, T) Q := by
  obtain ⟨p1, p2, p3, -⟩ := PZ_tk h
  obtain ⟨-, hK, hY, hT, -⟩ := id h
  obtain ⟨t1, t2, t3, t4, t5, t6⟩ := id hT
  have e := PZ_eq h
  refine m_meets hd hK hY hT (PZ_mF h) htt (fun z => q0 (fun w => ?_)) (fun a k f Y' z1 z2 g1 g2 g3 g4 g5 g6 => q1 _ _ f k (by omega) (by omega) (fun z => by have := p2 z; omega) (PZ_lex h g1 g2 g3 g4 g5 g6) (SM_rf B))
  exact z e.1 (by omega)
set_option maxRecDepth 100000 in
set_option maxHeartbeats 4000000 in
theorem z_must {t : Int} {Q : zF → zF → zF → Nat → zT → Prop} (hd : 4 ≤ d) (h : PZ B0 B Y st vs cur op fr fc N F tp ow tk sc tm E ht rg bk) (hop : 0 ≤ op ∧ op ≤ 11) (htt : -2147483648 ≤ t ∧ t < 2147483648) (q0 : ∀ B', PF B0 B' Y N (st.length : Int) → Q A B' Y K T) (q1 : ∀ B' Y' f k, tk = t → fr ≤ f → (tk ≠ 12 → fr < f) → PZ B0 B' Y' st vs cur op f f N F tp ow k sc tm E ht rg bk → SM B B' → Q A B' Y' K T) : pzV d 11 [.inr (.inr 39), .inl t] (A, B, Y, K, T) Q := by
  obtain ⟨p1, p2, p3, -⟩ := PZ_tk h
  obtain ⟨-, hK, hY, hT, -⟩ := id h
  obtain ⟨t1, t2, t3, t4, t5, t6⟩ := id hT
  have e := PZ_eq h
  exact m_must hd hK hY hT (PZ_mF h) htt (fun x x1 x2 => q0 _ (PZ_PF h hop x1 x2)) (fun a k f Y' z1 z2 g1 g2 g3 g4 g5 g6 => q1 _ _ f k (by omega) (by omega) (fun z => by have := p2 z; omega) (PZ_lex h g1 g2 g3 g4 g5 g6) (SM_rf B))
set_option maxRecDepth 100000 in
set_option maxHeartbeats 4000000 in
theorem z_fail {w : Int} {Q : zF → zF → zF → Nat → zT → Prop} (h : PZ B0 B Y st vs cur op fr fc N F tp ow tk sc tm E ht rg bk) (hop : 0 ≤ op ∧ op ≤ 11) (hw : 0 < w ∧ w ≤ 1000) (q0 : ∀ B', PF B0 B' Y N (st.length : Int) → (B' 39 20) = op → Q A B' Y K T) : pzV d 9 [.inr (.inr 39), .inl w] (A, B, Y, K, T) Q := by
  obtain ⟨p1, p2, p3, -⟩ := PZ_tk h
  have e := PZ_eq h
  refine m_fail (PZ_mF h) (fun x x1 x2 => q0 _ (PZ_PF h hop ?_ ?_) e.2.1)
  · have := x1 e.1; omega
  · have := x1 e.1; omega
set_option maxRecDepth 100000 in
set_option maxHeartbeats 4000000 in
theorem z_deeper {Q : zF → zF → zF → Nat → zT → Prop} (hd : 1 ≤ d) (h : PZ B0 B Y st vs cur op fr fc N F tp ow tk sc tm E ht rg bk) (hop : 0 ≤ op ∧ op ≤ 10) (q0 : ∀ B', PF B0 B' Y N (st.length : Int) → Q A B' Y K T) (q1 : ∀ B', op ≤ 9 → PZ B0 B' Y st vs cur (op + 1) fr fc N F tp ow tk sc tm E ht rg bk → SM B B' → Q A B' Y K T) : pzV d 16 [.inr (.inr 39)] (A, B, Y, K, T) Q := by
  obtain ⟨p1, p2, p3, -⟩ := PZ_tk h
  have e := PZ_eq h
  refine m_deeper hd (PZ_mF h) (by omega) (by omega) (fun x x1 x2 x3 => q0 _ ?_) (fun z => ?_)
  · obtain ⟨b1, b2, b3, b4, b5, ⟨b6, b7, b8⟩, b10⟩ := PZ_PF h (by omega) x1 x2
    exact ⟨FR_tr b1 (FR_rf _), b2, b3, b4, b5, ⟨b6, b7, b8⟩, b10⟩
  · rw [e.2.1]
    rw [e.2.1] at z
    exact q1 _ (by omega) (PZ_open h _) (SM_rf B)
set_option maxRecDepth 100000 in
set_option maxHeartbeats 4000000 in
theorem z_wait {w a b c e : Int} {Q : zF → zF → zF → Nat → zT → Prop} (h : PZ B0 B Y st vs cur op fr fc N F tp ow tk sc tm E ht rg bk) (hn : st.length < 2000) (hx : td F tp N tm ow (B 58) (B 54) (B 55) ht rg bk w a b c e) (q : ∀ B', PZ B0 B' Y ((w, a, b, c, e) :: st) ((w, a, b, c, e) :: vs) cur op fr fc N F tp ow tk sc tm E ht rg bk → SM B B' → Q A B' Y K T) : pzV d 20 [.inr (.inr 39), .inl w, .inl a, .inl b, .inl c, .inl e] (A, B, Y, K, T) Q :=
  m_wait (PZ_eq h).2.2.2.2.2.2.2.2.2.2.2 hn (q _ (PZ_push h hx) (SM_rf B))
set_option maxRecDepth 100000 in
set_option maxHeartbeats 4000000 in
theorem z_plain {w : Int} {Q : zF → zF → zF → Nat → zT → Prop} (hd : 1 ≤ d) (h : PZ B0 B Y st vs cur op fr fc N F tp ow tk sc tm E ht rg bk) (hn : st.length < 2000) (hx : td F tp N tm ow (B 58) (B 54) (B 55) ht rg bk w 0 0 0 0) (q : ∀ B', PZ B0 B' Y ((w, 0, 0, 0, 0) :: st) ((w, 0, 0, 0, 0) :: vs) cur op fr fc N F tp ow tk sc tm E ht rg bk → SM B B' → Q A B' Y K T) : pzV d 21 [.inr (.inr 39), .inl w] (A, B, Y, K, T) Q :=
  m_plain hd (PZ_eq h).2.2.2.2.2.2.2.2.2.2.2 hn (q _ (PZ_push h hx) (SM_rf B))
set_option maxRecDepth 100000 in
set_option maxHeartbeats 4000000 in
theorem z_forbid {w p : Int} {Q : zF → zF → zF → Nat → zT → Prop} (h : PZ B0 B Y st vs cur op fr fc N F tp ow tk sc tm E ht rg bk) (hw : -2147483648 ≤ w ∧ w < 2147483648) (hp : -2147483648 ≤ p ∧ p < 2147483648) (q : ∀ B', PZ B0 B' Y st vs cur op fr fc N F tp ow tk sc tm E ht rg bk → SM B B' → Q A B' Y K T) : pzV d 12 [.inr (.inr 39), .inl w, .inl p] (A, B, Y, K, T) Q := by
  obtain ⟨-, -, -, -, -, -, -, -, hX, -⟩ := id h
  exact m_forbid hX.1 hX.2.1 hw hp (fun x y hx hy => q _ (PZ_fb h hx hy) (SM_rf B))
set_option maxRecDepth 100000 in
set_option maxHeartbeats 4000000 in
theorem z_say {w a b y fc' : Int} {Q : zF → zF → zF → Nat → zT → Prop} (h : PZ B0 B Y st vs cur op fr fc N F tp ow tk sc tm E ht rg bk) (hN : N < 12000) (hfc : fc ≤ fc') (hfa : fc' ≤ (B 39 5)) (hy0 : 0 ≤ y) (hy1 : y ≤ fc' - E F.toNat) (hok : ok1 w a tp F (B 55) cur y) (q : ∀ B' ht' rg' bk', PZ B0 B' Y st vs y op fr fc' (N + 1) F tp ow tk sc tm E ht' rg' bk' → ((B' 58) N.toNat = w ∧ (B' 39 5) = (B 39 5) ∧ (B' 55) = (B 55) ∧ (B' 49) = (B 49) ∧ (B' 47) = (B 47) ∧ (B' 54) = (B 54)) → (∀ j : Nat, 1 ≤ j → (j : Int) ≤ tm → ht' j = ht j ∧ rg' j = rg j ∧ bk' j = bk j) → Q A B' Y K T) : pzV d 15 [.inr (.inr 39), .inl w, .inl a, .inl b] (A, B, Y, K, T) Q := by
  have e := PZ_eq h
  obtain ⟨-, -, -, -, p5, -⟩ := PZ_tk h
  have hb0 : ∀ p : Nat, (N ≤ (p : Int) ∨ p = 0) → bk p = 0 := by
    obtain ⟨-, -, -, -, -, -, -, -, -, -, ⟨-, -, hb0, -⟩, -⟩ := id h
    exact hb0
  refine m_say (by omega) (by omega) (q _ _ _ _ (PZ_say (b := b) h hfc hfa hy0 hy1 hok) ⟨?_, rfl, rfl, rfl, rfl, rfl⟩ (fun j j1 j2 => ⟨zp_ne _ _ (by omega), zp_ne _ _ (by omega), ?_⟩))
  · rw [e.2.2.2.1]
    show zp (B 58) N.toNat w N.toNat = w
    exact zp_at _ _ _
  · by_cases ej : j = N.toNat
    · subst ej
      rw [zp_at, hb0 _ (by omega)]
    · exact zp_ne _ _ ej
set_option maxRecDepth 100000 in
set_option maxHeartbeats 4000000 in
theorem f_say {w a b : Int} {Q : zF → zF → zF → Nat → zT → Prop} (h : PF B0 B Y on tn) (hN : on < 12000) (q : ∀ B', PF B0 B' Y (on + 1) tn → Q A B' Y K T) : pzV d 15 [.inr (.inr 39), .inl w, .inl a, .inl b] (A, B, Y, K, T) Q := by
  obtain ⟨b1, b2, b3, b4, b5, ⟨b6, b7, b8⟩, b10⟩ := h
  exact m_say (by omega) (by omega) (q _ ⟨FR_tr b1 (FR_rf _), b2, b3, b4, b5, ⟨b6, ⟨by show 0 ≤ (B 39 38) + 1; omega, by show (B 39 38) + 1 ≤ on + 1; omega⟩, b8⟩, b10⟩)
theorem f_wait {w a b c e : Int} {Q : zF → zF → zF → Nat → zT → Prop} (h : PF B0 B Y on tn) (hN : tn < 2000) (q : ∀ B', PF B0 B' Y on (tn + 1) → Q A B' Y K T) : pzV d 20 [.inr (.inr 39), .inl w, .inl a, .inl b, .inl c, .inl e] (A, B, Y, K, T) Q := by
  obtain ⟨b1, b2, b3, b4, b5, ⟨b6, b7, b8⟩, b10⟩ := h
  exact m_wait (n := (B 39 58).toNat) (by omega) (by omega) (q _ ⟨FR_tr b1 (FR_rf _), b2, b3, b4, b5, ⟨b6, b7, ⟨by show 0 ≤ (((B 39 58).toNat : Nat) : Int) + 1; omega, by show (((B 39 58).toNat : Nat) : Int) + 1 ≤ tn + 1; omega⟩⟩, b10⟩)
theorem f_plain {w : Int} {Q : zF → zF → zF → Nat → zT → Prop} (hd : 1 ≤ d) (h : PF B0 B Y on tn) (hN : tn < 2000) (q : ∀ B', PF B0 B' Y on (tn + 1) → Q A B' Y K T) : pzV d 21 [.inr (.inr 39), .inl w] (A, B, Y, K, T) Q := by
  obtain ⟨b1, b2, b3, b4, b5, ⟨b6, b7, b8⟩, b10⟩ := h
  exact m_plain (n := (B 39 58).toNat) hd (by omega) (by omega) (q _ ⟨FR_tr b1 (FR_rf _), b2, b3, b4, b5, ⟨b6, b7, ⟨by show 0 ≤ (((B 39 58).toNat : Nat) : Int) + 1; omega, by show (((B 39 58).toNat : Nat) : Int) + 1 ≤ tn + 1; omega⟩⟩, b10⟩)
theorem f_must {t : Int} {Q : zF → zF → zF → Nat → zT → Prop} (hd : 4 ≤ d) (h : PF B0 B Y on tn) (ht : -2147483648 ≤ t ∧ t < 2147483648) (q : ∀ B', PF B0 B' Y on tn → Q A B' Y K T) : pzV d 11 [.inr (.inr 39), .inl t] (A, B, Y, K, T) Q := by
  obtain ⟨b1, b2, b3, b4, b5, ⟨b6, b7, b8⟩, b10⟩ := h
  exact m_must hd b2 b3 b4 b5 ht (fun x x1 x2 => q _ ⟨FR_tr b1 (FR_rf _), b2, b3, b4, ⟨by show 0 ≤ x; omega, x2⟩, ⟨by show x ≠ 0; omega, b7, b8⟩, b10⟩) (fun a k f Y' z _ _ _ _ _ _ _ => absurd z b6)
theorem f_fail {w : Int} {Q : zF → zF → zF → Nat → zT → Prop} (h : PF B0 B Y on tn) (q : ∀ B', PF B0 B' Y on tn → Q A B' Y K T) : pzV d 9 [.inr (.inr 39), .inl w] (A, B, Y, K, T) Q := by
  obtain ⟨b1, b2, b3, b4, b5, ⟨b6, b7, b8⟩, b10⟩ := h
  obtain ⟨f1, f2⟩ := id b5
  exact m_fail b5 (fun x x1 x2 => by
    have e := x2 b6
    exact q _ ⟨FR_tr b1 (FR_rf _), b2, b3, b4, ⟨by show 0 ≤ x; omega, by show x ≤ 50000; omega⟩, ⟨by show x ≠ 0; omega, b7, b8⟩, b10⟩)
theorem f_meets {t : Int} {Q : Int → zF → zF → zF → Nat → zT → Prop} (hd : 3 ≤ d) (h : PF B0 B Y on tn) (ht : -2147483648 ≤ t ∧ t < 2147483648) (q : Q 0 A B Y K T) : pzI d 10 [.inr (.inr 39), .inl t] (A, B, Y, K, T) Q := by
  obtain ⟨b1, b2, b3, b4, b5, ⟨b6, b7, b8⟩, b10⟩ := h
  exact m_meets hd b2 b3 b4 b5 ht (fun _ => q) (fun a k f Y' z _ _ _ _ _ _ _ => absurd z b6)
theorem PF_eq (h : PF B0 B Y on tn) : 0 < (B 39 10) ∧ (B 39 10) ≤ 50000 ∧ (0 ≤ (B 39 58) ∧ (B 39 58) ≤ tn) ∧ (0 ≤ (B 39 38) ∧ (B 39 38) ≤ on) ∧ (0 ≤ (B 39 7) ∧ (B 39 7) ≤ 3000) ∧ (-2147483648 ≤ (B 39 6) ∧ (B 39 6) < 2147483648) ∧ ((B 39 42) = 0 ∨ (B 39 42) = 1) := by
  obtain ⟨b1, b2, b3, ⟨t1, t2, t3, t4, t5, t6⟩, ⟨f1, f2⟩, ⟨b6, b7, b8⟩, b10, b11, b12, b13⟩ := h
  have := b2.1
  exact ⟨by omega, by omega, b8, b7, by omega, t6, b13.2.2.2⟩
theorem PF_open (h : PF B0 B Y on tn) (v : Int) : PF B0 (zu B 39 20 v) Y on tn := by
  obtain ⟨b1, b2, b3, b4, b5, ⟨b6, b7, b8⟩, b10⟩ := h
  exact ⟨FR_tr b1 (FR_rf _), b2, b3, b4, b5, ⟨b6, b7, b8⟩, b10⟩
theorem PF_sec (h : PF B0 B Y on tn) {s : Int} (hs : s = 0 ∨ s = 1) : PF B0 (zu B 39 42 s) Y on tn := by
  obtain ⟨b1, b2, b3, b4, b5, b6, b7, b8, b9, b10⟩ := h
  exact ⟨FR_tr b1 (FR_rf _), b2, b3, b4, b5, b6, b7, b8, b9, ⟨b10.1, b10.2.1, b10.2.2.1, hs⟩⟩
theorem PF_one (h : PF B0 B Y on tn) (k : Nat) (v : Int) : PF B0 (zu B 59 k v) Y on tn := by
  obtain ⟨b1, b2, b3, b4, b5, b6, b7, b8, b9, b10⟩ := h
  exact ⟨FR_tr b1 (FR_rf _), b2, b3, b4, b5, b6, b7, b8, b9, b10⟩
end ZO
/-- all is read, without a fault -/
def PE (B0 B Y : zF) : Prop := FR B0 B ∧ mY Y ∧ ((B 39 10) = 0 ∧ (B 39 58) = 0 ∧ (-2147483648 ≤ (B 39 11) ∧ (B 39 11) < 2147483648)) ∧ mD B ∧ mG B ∧ ∃ E ht rg bk, FI (B 58) (B 59) (B 39 38) (B 39 17) (B 39 13) (B 54) (B 55) (B 56) E ht rg bk
/-- what a task's work leaves: a fault, or tasks that fit and weigh less than m, or all is read -/
def HQ (B0 : zF) (m : Int) (A : zF) (K : Nat) (T : zT) (Q : zF → zF → zF → Nat → zT → Prop) : Prop :=
  (∀ B Y on tn, PF B0 B Y on tn → Q A B Y K T) ∧
  (∀ B Y st cur op fr N F tp ow tk sc tm E ht rg bk, PZ B0 B Y st st cur op fr fr N F tp ow tk sc tm E ht rg bk → WT st cur op → N + PD st ≤ 3 * fr + 2 → op ≤ 10 → 64 * (3001 - fr) + SW st < m → Q A B Y K T) ∧
  (∀ B Y, PE B0 B Y → Q A B Y K T)
end
section
/-! The model's parser: expressions -/
theorem PD_1 {a b c e : Int} {st : List zE} : PD ((1, a, b, c, e) :: st) = 1 + PD st := rfl
theorem SW_1 {a b c e : Int} {st : List zE} : SW ((1, a, b, c, e) :: st) = 4 + SW st := rfl
theorem PD_2 {a b c e : Int} {st : List zE} : PD ((2, a, b, c, e) :: st) = 1 + PD st := rfl
theorem SW_2 {a b c e : Int} {st : List zE} : SW ((2, a, b, c, e) :: st) = 1 + SW st := rfl
theorem PD_3 {a b c e : Int} {st : List zE} : PD ((3, a, b, c, e) :: st) = 1 + PD st := rfl
theorem SW_3 {a b c e : Int} {st : List zE} : SW ((3, a, b, c, e) :: st) = 1 + SW st := rfl
theorem PD_4 {a b c e : Int} {st : List zE} : PD ((4, a, b, c, e) :: st) = 1 + PD st := rfl
theorem SW_4 {a b c e : Int} {st : List zE} : SW ((4, a, b, c, e) :: st) = 1 + SW st := rfl
theorem PD_5 {a b c e : Int} {st : List zE} : PD ((5, a, b, c, e) :: st) = 0 + PD st := rfl
theorem SW_5 {a b c e : Int} {st : List zE} : SW ((5, a, b, c, e) :: st) = 1 + SW st := rfl
theorem PD_6 {a b c e : Int} {st : List zE} : PD ((6, a, b, c, e) :: st) = 0 + PD st := rfl
theorem SW_6 {a b c e : Int} {st : List zE} : SW ((6, a, b, c, e) :: st) = 1 + SW st := rfl
theorem PD_7 {a b c e : Int} {st : List zE} : PD ((7, a, b, c, e) :: st) = 1 + PD st := rfl
theorem SW_7 {a b c e : Int} {st : List zE} : SW ((7, a, b, c, e) :: st) = 1 + SW st := rfl
theorem PD_8 {a b c e : Int} {st : List zE} : PD ((8, a, b, c, e) :: st) = 0 + PD st := rfl
theorem SW_8 {a b c e : Int} {st : List zE} : SW ((8, a, b, c, e) :: st) = 1 + SW st := rfl
theorem PD_9 {a b c e : Int} {st : List zE} : PD ((9, a, b, c, e) :: st) = 0 + PD st := rfl
theorem SW_9 {a b c e : Int} {st : List zE} : SW ((9, a, b, c, e) :: st) = 1 + SW st := rfl
theorem PD_10 {a b c e : Int} {st : List zE} : PD ((10, a, b, c, e) :: st) = 1 + PD st := rfl
theorem SW_10 {a b c e : Int} {st : List zE} : SW ((10, a, b, c, e) :: st) = 1 + SW st := rfl
theorem PD_11 {a b c e : Int} {st : List zE} : PD ((11, a, b, c, e) :: st) = 2 + PD st := rfl
theorem SW_11 {a b c e : Int} {st : List zE} : SW ((11, a, b, c, e) :: st) = 1 + SW st := rfl
theorem PD_12 {a b c e : Int} {st : List zE} : PD ((12, a, b, c, e) :: st) = 0 + PD st := rfl
theorem SW_12 {a b c e : Int} {st : List zE} : SW ((12, a, b, c, e) :: st) = 1 + SW st := rfl
theorem PD_13 {a b c e : Int} {st : List zE} : PD ((13, a, b, c, e) :: st) = 1 + PD st := rfl
theorem SW_13 {a b c e : Int} {st : List zE} : SW ((13, a, b, c, e) :: st) = 1 + SW st := rfl
theorem PD_14 {a b c e : Int} {st : List zE} : PD ((14, a, b, c, e) :: st) = 1 + PD st := rfl
theorem SW_14 {a b c e : Int} {st : List zE} : SW ((14, a, b, c, e) :: st) = 1 + SW st := rfl
theorem PD_15 {a b c e : Int} {st : List zE} : PD ((15, a, b, c, e) :: st) = 0 + PD st := rfl
theorem SW_15 {a b c e : Int} {st : List zE} : SW ((15, a, b, c, e) :: st) = 24 + SW st := rfl
theorem PD_16 {a b c e : Int} {st : List zE} : PD ((16, a, b, c, e) :: st) = 0 + PD st := rfl
theorem SW_16 {a b c e : Int} {st : List zE} : SW ((16, a, b, c, e) :: st) = 1 + SW st := rfl
theorem PD_17 {a b c e : Int} {st : List zE} : PD ((17, a, b, c, e) :: st) = 0 + PD st := rfl
theorem SW_17 {a b c e : Int} {st : List zE} : SW ((17, a, b, c, e) :: st) = 19 + SW st := rfl
theorem PD_18 {a b c e : Int} {st : List zE} : PD ((18, a, b, c, e) :: st) = 0 + PD st := rfl
theorem SW_18 {a b c e : Int} {st : List zE} : SW ((18, a, b, c, e) :: st) = 1 + SW st := rfl
theorem PD_19 {a b c e : Int} {st : List zE} : PD ((19, a, b, c, e) :: st) = 1 + PD st := rfl
theorem SW_19 {a b c e : Int} {st : List zE} : SW ((19, a, b, c, e) :: st) = 1 + SW st := rfl
theorem PD_20 {a b c e : Int} {st : List zE} : PD ((20, a, b, c, e) :: st) = 1 + PD st := rfl
theorem SW_20 {a b c e : Int} {st : List zE} : SW ((20, a, b, c, e) :: st) = 1 + SW st := rfl
theorem PD_21 {a b c e : Int} {st : List zE} : PD ((21, a, b, c, e) :: st) = 0 + PD st := rfl
theorem SW_21 {a b c e : Int} {st : List zE} : SW ((21, a, b, c, e) :: st) = (17 - 2 * a) + SW st := rfl
theorem PD_22 {a b c e : Int} {st : List zE} : PD ((22, a, b, c, e) :: st) = 0 + PD st := rfl
theorem SW_22 {a b c e : Int} {st : List zE} : SW ((22, a, b, c, e) :: st) = 1 + SW st := rfl
theorem PD_23 {a b c e : Int} {st : List zE} : PD ((23, a, b, c, e) :: st) = 1 + PD st := rfl
theorem SW_23 {a b c e : Int} {st : List zE} : SW ((23, a, b, c, e) :: st) = 2 + SW st := rfl
theorem PD_24 {a b c e : Int} {st : List zE} : PD ((24, a, b, c, e) :: st) = 0 + PD st := rfl
theorem SW_24 {a b c e : Int} {st : List zE} : SW ((24, a, b, c, e) :: st) = 1 + SW st := rfl
theorem PD_25 {a b c e : Int} {st : List zE} : PD ((25, a, b, c, e) :: st) = 1 + PD st := rfl
theorem SW_25 {a b c e : Int} {st : List zE} : SW ((25, a, b, c, e) :: st) = 1 + SW st := rfl
theorem PD_26 {a b c e : Int} {st : List zE} : PD ((26, a, b, c, e) :: st) = 0 + PD st := rfl
theorem SW_26 {a b c e : Int} {st : List zE} : SW ((26, a, b, c, e) :: st) = 1 + SW st := rfl
theorem PD_27 {a b c e : Int} {st : List zE} : PD ((27, a, b, c, e) :: st) = 1 + PD st := rfl
theorem SW_27 {a b c e : Int} {st : List zE} : SW ((27, a, b, c, e) :: st) = 1 + SW st := rfl
theorem PD_28 {a b c e : Int} {st : List zE} : PD ((28, a, b, c, e) :: st) = 1 + PD st := rfl
theorem SW_28 {a b c e : Int} {st : List zE} : SW ((28, a, b, c, e) :: st) = 22 + SW st := rfl
theorem PD_29 {a b c e : Int} {st : List zE} : PD ((29, a, b, c, e) :: st) = 1 + PD st := rfl
theorem SW_29 {a b c e : Int} {st : List zE} : SW ((29, a, b, c, e) :: st) = 1 + SW st := rfl
theorem WT_len {st : List zE} {c o : Int} (h : WT st c o) : 1 ≤ st.length := by
  cases st with
  | nil => exact h.elim
  | cons e st => show 1 ≤ st.length + 1; omega
theorem WT_c2 {w a b c e : Int} {st : List zE} {cur op c1 o1 c2 o2 : Int} (h : tt w a b (st.length : Int) cur op c1 o1) (hs : WT st c2 o2) (e1 : c1 = c2) (e2 : o1 = o2) (h3 : (w = 3 ∨ w = 4) → st = [(1, 0, 0, 0, 0)] := by intro z; omega) : WT ((w, a, b, c, e) :: st) cur op := by
  subst e1; subst e2
  exact WT_cons h hs h3
section TDS
variable {F tp N tm ow : Int} {o fb pr ht rg bk : Nat → Int} {w a b c e : Int}
theorem td_16 (ha : -2147483648 ≤ a ∧ a < 2147483648) : td F tp N tm ow o fb pr ht rg bk 16 a b c e := by
  refine ⟨?_, ?_, ?_, ?_, ?_, ?_, ?_, ?_, ?_, ?_, ?_, ?_, ?_, ?_⟩ <;> (intro z; omega)
theorem td_7 (ha : -2147483648 ≤ a ∧ a < 2147483648) : td F tp N tm ow o fb pr ht rg bk 7 a b c e := by
  refine ⟨?_, ?_, ?_, ?_, ?_, ?_, ?_, ?_, ?_, ?_, ?_, ?_, ?_, ?_⟩ <;> (intro z; omega)
theorem td_19 (ha : a = 0 ∨ a = 1) (hw : w = 19 ∨ w = 20) : td F tp N tm ow o fb pr ht rg bk w a b c e := by
  refine ⟨?_, ?_, ?_, ?_, ?_, ?_, ?_, ?_, ?_, ?_, ?_, ?_, ?_, ?_⟩ <;> (intro z; omega)
theorem td_21 (ha : 0 ≤ a ∧ a ≤ 8) : td F tp N tm ow o fb pr ht rg bk 21 a b c e := by
  refine ⟨?_, ?_, ?_, ?_, ?_, ?_, ?_, ?_, ?_, ?_, ?_, ?_, ?_, ?_⟩ <;> (intro z; omega)
theorem td_22 (ha : 0 ≤ a ∧ a ≤ 7) : td F tp N tm ow o fb pr ht rg bk 22 a b c e := by
  refine ⟨?_, ?_, ?_, ?_, ?_, ?_, ?_, ?_, ?_, ?_, ?_, ?_, ?_, ?_⟩ <;> (intro z; omega)
theorem td_27 (ha : 0 ≤ a ∧ a < tp) : td F tp N tm ow o fb pr ht rg bk 27 a b c e := by
  refine ⟨?_, ?_, ?_, ?_, ?_, ?_, ?_, ?_, ?_, ?_, ?_, ?_, ?_, ?_⟩ <;> (intro z; omega)
theorem td_28 (ha : 0 ≤ a ∧ a < F) : td F tp N tm ow o fb pr ht rg bk 28 a b c e := by
  refine ⟨?_, ?_, ?_, ?_, ?_, ?_, ?_, ?_, ?_, ?_, ?_, ?_, ?_, ?_⟩ <;> (intro z; omega)
theorem td_29 (ha : 0 ≤ a ∧ a < F) (hc : -2147483648 ≤ c ∧ c < 2147483648) : td F tp N tm ow o fb pr ht rg bk 29 a b c e := by
  refine ⟨?_, ?_, ?_, ?_, ?_, ?_, ?_, ?_, ?_, ?_, ?_, ?_, ?_, ?_⟩ <;> (intro z; omega)
theorem td_13 (hb : b = 0 ∨ b = 1) (ha : (100 ≤ a ∧ a < 112 ∧ b = 0) ∨ (0 ≤ a ∧ a < tp)) : td F tp N tm ow o fb pr ht rg bk 13 a b c e := by
  refine ⟨?_, ?_, ?_, ?_, ?_, ?_, ?_, ?_, ?_, ?_, ?_, ?_, ?_, ?_⟩ <;> (intro z; omega)
theorem td_14 (hb : b = 0 ∨ b = 1) (ha : (100 ≤ a ∧ a < 112 ∧ b = 0) ∨ (0 ≤ a ∧ a < tp)) (hc : -2147483648 ≤ c ∧ c < 2147483648) : td F tp N tm ow o fb pr ht rg bk 14 a b c e := by
  refine ⟨?_, ?_, ?_, ?_, ?_, ?_, ?_, ?_, ?_, ?_, ?_, ?_, ?_, ?_⟩ <;> (intro z; omega)
theorem td_23 (ha : 0 ≤ a ∧ a ≤ 7) (hb : isop b) (hc : -2147483648 ≤ c ∧ c < 2147483648) (he : e = 0 ∨ e = 1) : td F tp N tm ow o fb pr ht rg bk 23 a b c e := by
  refine ⟨?_, ?_, ?_, ?_, ?_, ?_, ?_, ?_, ?_, ?_, ?_, fun _ => ⟨ha, hb, he⟩, ?_, ?_⟩ <;> (intro z; omega)
end TDS
theorem isop_12 {t : Int} (h : isop t) : t ≠ 12 := by
  unfold isop at h
  omega
section EXPR
variable {d : Nat} {A B0 B Y : zF} {K : Nat} {T : zT} {st : List zE} {cur op fr N F tp ow tk sc tm m : Int} {E ht rg bk : Nat → Int} {Q : zF → zF → zF → Nat → zT → Prop}
set_option maxRecDepth 100000 in
set_option maxHeartbeats 4000000 in
theorem h_named {b : Int} {Q : Int → zF → zF → zF → Nat → zT → Prop} (hd : 3 ≤ d) (h : PZ B0 B Y st st cur op fr fr N F tp ow tk sc tm E ht rg bk) (hb : b = 0 ∨ b = 1) (q : ∀ r, r = -1 ∨ (100 ≤ r ∧ r < 112 ∧ b = 0) ∨ (0 ≤ r ∧ r < tp) → Q r A B Y K T) : pzI d 33 [.inr (.inr 39), .inl b] (A, B, Y, K, T) Q := by
  obtain ⟨-, hK, hY, hT, -, hD, hO, hG, hX, -⟩ := id h
  have e := PZ_eq h
  have x3 := hX.2.2.1
  have d1 := hD.1
  have o1 := hO.1
  have j80 : ∀ r x, 0 ≤ r → r < tp → (x = 0 ∨ x = 1) → pq d 33 80 [some (.inr (.inr 39)), some (.inl b), none, some (.inl r)] [.inl x] (A, B, Y, K, T) (qI Q) := by
    intro r x r1 r2 hx
    refine pq_of 5 [] [] ?_
    show ((-2147483648 ≤ x ∧ x < 2147483648) ∧ (-2147483648 ≤ b ∧ b < 2147483648) ∧ (x ≠ b → Q (-1 : Int) A B Y K T) ∧ (x = b → Q r A B Y K T))
    exact ⟨by omega, by omega, fun _ => q _ (Or.inl rfl), fun _ => q _ (Or.inr (Or.inr ⟨r1, r2⟩))⟩
  have j45 : pq d 33 45 [some (.inr (.inr 39)), some (.inl b), none, none] [] (A, B, Y, K, T) (qI Q) := by
    refine pq_of 18 [(80, [])] [] ?_
    show (0 < d ∧ pzI (d - 1) 14 [.inr (.inr (39 : Nat)), .inr (.inr (42 : Nat)), .inr (.inr (43 : Nat)), .inl (B 39 13)] (A, B, Y, K, T) (fun n1 A1 B1 Y1 K1 T1 => ((-2147483648 ≤ n1 ∧ n1 < 2147483648) ∧ (n1 < (0 : Int) → Q (-1 : Int) A1 B1 Y1 K1 T1) ∧ ((0 : Int) ≤ n1 → ((0 ≤ n1 ∧ n1 < (40 : Int)) ∧ ((-2147483648 ≤ (B1 44 (n1).toNat) ∧ (B1 44 (n1).toNat) < 2147483648) ∧ ((B1 44 (n1).toNat) ≤ (0 : Int) → pq d 33 80 [some (.inr (.inr (39 : Nat))), some (.inl b), none, some (.inl n1)] [.inl (0 : Int)] (A1, B1, Y1, K1, T1) (qI Q)) ∧ ((0 : Int) < (B1 44 (n1).toNat) → pq d 33 80 [some (.inr (.inr (39 : Nat))), some (.inl b), none, some (.inl n1)] [.inl (1 : Int)] (A1, B1, Y1, K1, T1) (qI Q))))))))
    refine ⟨by omega, m_find_42 (by omega) hK hT d1.1 d1.2 (fun k hk => (hD.2.2.1 k hk).1) (fun r r1 r2 => ⟨by omega, fun _ => q _ (Or.inl rfl), fun r3 => ⟨by omega, ?_⟩⟩)⟩
    have g := (hD.2.2.1 r.toNat (by omega)).2.1
    exact ⟨by omega, fun _ => j80 r 0 r3 (by omega) (Or.inl rfl), fun _ => j80 r 1 r3 (by omega) (Or.inr rfl)⟩
  have j27 : ∀ r, -1 ≤ r → r < ow ∨ r = -1 → pq d 33 27 [some (.inr (.inr 39)), some (.inl b), none, none] [.inl r] (A, B, Y, K, T) (qI Q) := by
    intro r r1 r2
    refine pq_of 9 [(45, [2])] [] ?_
    show ((-2147483648 ≤ r ∧ r < 2147483648) ∧ (r < (0 : Int) → pq d 33 45 [some (.inr (.inr (39 : Nat))), some (.inl b), none, none] [] (A, B, Y, K, T) (qI Q)) ∧ ((0 : Int) ≤ r → ((-2147483648 ≤ b ∧ b < 2147483648) ∧ (b = (0 : Int) → Q ((100 : Int) + r) A B Y K T) ∧ (b ≠ (0 : Int) → Q (-1 : Int) A B Y K T))))
    exact ⟨by omega, fun _ => j45, fun r3 => ⟨by omega, fun b0 => q _ (Or.inr (Or.inl (by omega))), fun _ => q _ (Or.inl rfl)⟩⟩
  refine pzI_of 12 [(27, []), (45, [2])] [] ?_
  show ((-2147483648 ≤ (B 39 37) ∧ (B 39 37) < 2147483648) ∧ ((B 39 37) = (0 : Int) → pq d 33 27 [some (.inr (.inr (39 : Nat))), some (.inl b), none, none] [.inl (-1 : Int)] (A, B, Y, K, T) (qI Q)) ∧ ((B 39 37) ≠ (0 : Int) → (0 < d ∧ pzI (d - 1) 14 [.inr (.inr (39 : Nat)), .inr (.inr (50 : Nat)), .inr (.inr (51 : Nat)), .inl (B 39 16)] (A, B, Y, K, T) (fun n1 A1 B1 Y1 K1 T1 => pq d 33 27 [some (.inr (.inr (39 : Nat))), some (.inl b), none, none] [.inl n1] (A1, B1, Y1, K1, T1) (qI Q)))))
  exact ⟨by omega, fun _ => j27 _ (by omega) (Or.inr rfl), fun _ => ⟨by omega, m_find_50 (by omega) hK hT o1.1 o1.2 (fun k hk => hO.2.1 k hk) (fun r r1 r2 => j27 r r1 (by omega))⟩⟩
set_option maxRecDepth 100000 in
set_option maxHeartbeats 4000000 in
theorem h_index (hd : 8 ≤ d) (h : PZ B0 B Y st st cur op fr fr N F tp ow tk sc tm E ht rg bk) (hw : WT st (cur + 1) op) (hn : (st.length : Int) ≤ 20 * op + 13) (ho : 0 ≤ op ∧ op ≤ 10) (hp : N + PD st ≤ 3 * fr + 2) (hm : 64 * (3001 - fr) + SW st + 24 ≤ m) (hq : HQ B0 m A K T Q) : pzV d 37 [.inr (.inr 39)] (A, B, Y, K, T) Q := by
  obtain ⟨p1, p2, p3, p4, p5, p6, p7, p8⟩ := PZ_tk h
  have e := PZ_eq h
  have wl := WT_len hw
  have pd0 := PD_0 st
  refine pzV_of 21 [] [] ?_
  show (0 < d ∧ pzV (d - 1) 16 [.inr (.inr (39 : Nat))] (A, B, Y, K, T) (fun A1 B1 Y1 K1 T1 => ((-2147483648 ≤ (B1 39 10) ∧ (B1 39 10) < 2147483648) ∧ ((B1 39 10) ≤ (0 : Int) → (0 < d ∧ pzV (d - 1) 5 [.inr (.inr (39 : Nat))] (A1, B1, Y1, K1, T1) (fun A2 B2 Y2 K2 T2 => (0 < d ∧ pzV (d - 1) 20 [.inr (.inr (39 : Nat)), .inl (16 : Int), .inl (B 39 7), .inl (0 : Int), .inl (0 : Int), .inl (0 : Int)] (A2, B2, Y2, K2, T2) (fun A3 B3 Y3 K3 T3 => (0 < d ∧ pzV (d - 1) 21 [.inr (.inr (39 : Nat)), .inl (17 : Int)] (A3, B3, Y3, K3, T3) (fun A4 B4 Y4 K4 T4 => Q A4 B4 Y4 K4 T4))))))) ∧ ((0 : Int) < (B1 39 10) → Q A1 B1 Y1 K1 T1))))
  refine ⟨by omega, z_deeper (by omega) h ho (fun B1 f1 => ?_) (fun B1 o1 h1 s1 => ?_)⟩
  · have g := PF_eq f1
    exact ⟨by omega, fun z => absurd z (by omega), fun _ => hq.1 _ _ _ _ f1⟩
  · have e1 := PZ_eq h1
    refine ⟨by omega, fun _ => ⟨by omega, z_next (by omega) h1 (fun B2 Y2 f k g1 g2 h2 s2 => ⟨by omega, z_wait h2 (by omega) (td_16 (by omega)) (fun B3 h3 s3 => ⟨by omega, z_plain (by omega) h3 (by simp only [List.length_cons]; omega) (td_0 (by omega)) (fun B4 h4 s4 => ?_)⟩)⟩)⟩, fun z => absurd z (by omega)⟩
    exact hq.2.1 _ _ _ _ _ _ _ _ _ _ _ _ _ _ _ _ _ h4 (WT_c2 (tt_17 (by simp only [List.length_cons]; omega)) (WT_c2 (tt_16 (by omega)) hw (by omega) (by omega)) rfl rfl) (by first | omega | (simp only [PD_1, SW_1, PD_2, SW_2, PD_3, SW_3, PD_4, SW_4, PD_5, SW_5, PD_6, SW_6, PD_7, SW_7, PD_8, SW_8, PD_9, SW_9, PD_10, SW_10, PD_11, SW_11, PD_12, SW_12, PD_13, SW_13, PD_14, SW_14, PD_15, SW_15, PD_16, SW_16, PD_17, SW_17, PD_18, SW_18, PD_19, SW_19, PD_20, SW_20, PD_21, SW_21, PD_22, SW_22, PD_23, SW_23, PD_24, SW_24, PD_25, SW_25, PD_26, SW_26, PD_27, SW_27, PD_28, SW_28, PD_29, SW_29]; omega)) (by omega) (by first | omega | (simp only [PD_1, SW_1, PD_2, SW_2, PD_3, SW_3, PD_4, SW_4, PD_5, SW_5, PD_6, SW_6, PD_7, SW_7, PD_8, SW_8, PD_9, SW_9, PD_10, SW_10, PD_11, SW_11, PD_12, SW_12, PD_13, SW_13, PD_14, SW_14, PD_15, SW_15, PD_16, SW_16, PD_17, SW_17, PD_18, SW_18, PD_19, SW_19, PD_20, SW_20, PD_21, SW_21, PD_22, SW_22, PD_23, SW_23, PD_24, SW_24, PD_25, SW_25, PD_26, SW_26, PD_27, SW_27, PD_28, SW_28, PD_29, SW_29]; omega))
set_option maxRecDepth 100000 in
set_option maxHeartbeats 4000000 in
theorem h_asked (hd : 8 ≤ d) (h : PZ B0 B Y st st cur op fr fr N F tp ow tk sc tm E ht rg bk) (hw : WT st cur op) (hc : 1 ≤ cur) (hn : (st.length : Int) ≤ 20 * op + 3) (ho : 0 ≤ op ∧ op ≤ 10) (hp : N + PD st ≤ 3 * fr + 2) (hm : 64 * (3001 - fr) + SW st + 1 ≤ m) (hq : HQ B0 m A K T Q) : pzV d 38 [.inr (.inr 39)] (A, B, Y, K, T) Q := by
  obtain ⟨p1, p2, p3, p4, p5, p6, p7, p8⟩ := PZ_tk h
  have e := PZ_eq h
  have wl := WT_len hw
  have pd0 := PD_0 st
  have key : ∀ B2 Y2 f k s, fr < f → (s = 0 ∨ s = 1) → op ≤ 9 → PZ B0 B2 Y2 st st cur (op + 1) f f N F tp ow k sc tm E ht rg bk → 0 < d ∧ pzV (d - 1) 20 [.inr (.inr 39), .inl 19, .inl s, .inl 0, .inl 0, .inl 0] (A, B2, Y2, K, T) (fun A3 B3 Y3 K3 T3 => (0 < d ∧ pzV (d - 1) 21 [.inr (.inr 39), .inl 17] (A3, B3, Y3, K3, T3) (fun A4 B4 Y4 K4 T4 => Q A4 B4 Y4 K4 T4))) := by
    intro B2 Y2 f k s g hs o9 h2
    refine ⟨by omega, z_wait h2 (by omega) (td_19 hs (by omega)) (fun B3 h3 s3 => ⟨by omega, z_plain (by omega) h3 (by simp only [List.length_cons]; omega) (td_0 (by omega)) (fun B4 h4 s4 => ?_)⟩)⟩
    exact hq.2.1 _ _ _ _ _ _ _ _ _ _ _ _ _ _ _ _ _ h4 (WT_c2 (tt_17 (by simp only [List.length_cons]; omega)) (WT_c2 (tt_19 (by omega)) hw (by omega) (by omega)) rfl rfl) (by first | omega | (simp only [PD_1, SW_1, PD_2, SW_2, PD_3, SW_3, PD_4, SW_4, PD_5, SW_5, PD_6, SW_6, PD_7, SW_7, PD_8, SW_8, PD_9, SW_9, PD_10, SW_10, PD_11, SW_11, PD_12, SW_12, PD_13, SW_13, PD_14, SW_14, PD_15, SW_15, PD_16, SW_16, PD_17, SW_17, PD_18, SW_18, PD_19, SW_19, PD_20, SW_20, PD_21, SW_21, PD_22, SW_22, PD_23, SW_23, PD_24, SW_24, PD_25, SW_25, PD_26, SW_26, PD_27, SW_27, PD_28, SW_28, PD_29, SW_29]; omega)) (by omega) (by first | omega | (simp only [PD_1, SW_1, PD_2, SW_2, PD_3, SW_3, PD_4, SW_4, PD_5, SW_5, PD_6, SW_6, PD_7, SW_7, PD_8, SW_8, PD_9, SW_9, PD_10, SW_10, PD_11, SW_11, PD_12, SW_12, PD_13, SW_13, PD_14, SW_14, PD_15, SW_15, PD_16, SW_16, PD_17, SW_17, PD_18, SW_18, PD_19, SW_19, PD_20, SW_20, PD_21, SW_21, PD_22, SW_22, PD_23, SW_23, PD_24, SW_24, PD_25, SW_25, PD_26, SW_26, PD_27, SW_27, PD_28, SW_28, PD_29, SW_29]; omega))
  refine pzV_of 28 [] [] ?_
  show ((-2147483648 ≤ (B 39 6) ∧ (B 39 6) < 2147483648) ∧ (-2147483648 ≤ (63 : Int) ∧ (63 : Int) < 2147483648) ∧ ((B 39 6) = (63 : Int) → (0 < d ∧ pzV (d - 1) 16 [.inr (.inr (39 : Nat))] (A, B, Y, K, T) (fun A1 B1 Y1 K1 T1 => ((-2147483648 ≤ (B1 39 10) ∧ (B1 39 10) < 2147483648) ∧ ((B1 39 10) ≤ (0 : Int) → (0 < d ∧ pzV (d - 1) 5 [.inr (.inr (39 : Nat))] (A1, B1, Y1, K1, T1) (fun A2 B2 Y2 K2 T2 => ((-2147483648 ≤ (B 39 42) ∧ (B 39 42) < 2147483648) ∧ ((B 39 42) = (0 : Int) → (0 < d ∧ pzV (d - 1) 20 [.inr (.inr (39 : Nat)), .inl (19 : Int), .inl (0 : Int), .inl (0 : Int), .inl (0 : Int), .inl (0 : Int)] (A2, B2, Y2, K2, T2) (fun A3 B3 Y3 K3 T3 => (0 < d ∧ pzV (d - 1) 21 [.inr (.inr (39 : Nat)), .inl (17 : Int)] (A3, B3, Y3, K3, T3) (fun A4 B4 Y4 K4 T4 => Q A4 B4 Y4 K4 T4))))) ∧ ((B 39 42) ≠ (0 : Int) → (0 < d ∧ pzV (d - 1) 20 [.inr (.inr (39 : Nat)), .inl (19 : Int), .inl (1 : Int), .inl (0 : Int), .inl (0 : Int), .inl (0 : Int)] (A2, B2, Y2, K2, T2) (fun A5 B5 Y5 K5 T5 => (0 < d ∧ pzV (d - 1) 21 [.inr (.inr (39 : Nat)), .inl (17 : Int)] (A5, B5, Y5, K5, T5) (fun A6 B6 Y6 K6 T6 => Q A6 B6 Y6 K6 T6))))))))) ∧ ((0 : Int) < (B1 39 10) → Q A1 B1 Y1 K1 T1))))) ∧ ((B 39 6) ≠ (63 : Int) → Q A B Y K T))
  refine ⟨by omega, by omega, fun z => ⟨by omega, z_deeper (by omega) h ho (fun B1 f1 => ?_) (fun B1 o1 h1 s1 => ?_)⟩, fun _ => hq.2.1 _ _ _ _ _ _ _ _ _ _ _ _ _ _ _ _ _ h hw (by first | omega | (simp only [PD_1, SW_1, PD_2, SW_2, PD_3, SW_3, PD_4, SW_4, PD_5, SW_5, PD_6, SW_6, PD_7, SW_7, PD_8, SW_8, PD_9, SW_9, PD_10, SW_10, PD_11, SW_11, PD_12, SW_12, PD_13, SW_13, PD_14, SW_14, PD_15, SW_15, PD_16, SW_16, PD_17, SW_17, PD_18, SW_18, PD_19, SW_19, PD_20, SW_20, PD_21, SW_21, PD_22, SW_22, PD_23, SW_23, PD_24, SW_24, PD_25, SW_25, PD_26, SW_26, PD_27, SW_27, PD_28, SW_28, PD_29, SW_29]; omega)) (by omega) (by first | omega | (simp only [PD_1, SW_1, PD_2, SW_2, PD_3, SW_3, PD_4, SW_4, PD_5, SW_5, PD_6, SW_6, PD_7, SW_7, PD_8, SW_8, PD_9, SW_9, PD_10, SW_10, PD_11, SW_11, PD_12, SW_12, PD_13, SW_13, PD_14, SW_14, PD_15, SW_15, PD_16, SW_16, PD_17, SW_17, PD_18, SW_18, PD_19, SW_19, PD_20, SW_20, PD_21, SW_21, PD_22, SW_22, PD_23, SW_23, PD_24, SW_24, PD_25, SW_25, PD_26, SW_26, PD_27, SW_27, PD_28, SW_28, PD_29, SW_29]; omega))⟩
  · have g := PF_eq f1
    exact ⟨by omega, fun z => absurd z (by omega), fun _ => hq.1 _ _ _ _ f1⟩
  · have e1 := PZ_eq h1
    refine ⟨by omega, fun _ => ⟨by omega, z_next (by omega) h1 (fun B2 Y2 f k g1 g2 h2 s2 => ⟨by omega, fun _ => key B2 Y2 f k 0 (g2 (by omega)) (Or.inl rfl) o1 h2, fun _ => key B2 Y2 f k 1 (g2 (by omega)) (Or.inr rfl) o1 h2⟩)⟩, fun z => absurd z (by omega)⟩
set_option maxRecDepth 100000 in
set_option maxHeartbeats 4000000 in
theorem h_first {z : Int} (hd : 8 ≤ d) (h : PZ B0 B Y st st cur op fr fr N F tp ow tk sc tm E ht rg bk) (hz : z = 0 ∨ z = 1) (hw : WT st (cur - 1) (op - 1)) (hc : 2 ≤ cur) (hn : (st.length : Int) ≤ 20 * op - 8) (ho : 1 ≤ op ∧ op ≤ 10) (hp : N + 1 + PD st ≤ 3 * fr + 2) (hm : 64 * (3001 - fr) + SW st + 1 ≤ m) (hq : HQ B0 m A K T Q) : pzV d 39 [.inr (.inr 39), .inl z] (A, B, Y, K, T) Q := by
  obtain ⟨p1, p2, p3, p4, p5, p6, p7, p8⟩ := PZ_tk h
  have e := PZ_eq h
  have wl := WT_len hw
  have pd0 := PD_0 st
  have key : ∀ B2 Y2 f k s, fr < f → (s = 0 ∨ s = 1) → PZ B0 B2 Y2 st st cur ((B 39 20) - 1 + 1) f f N F tp ow k sc tm E ht rg bk → 0 < d ∧ pzV (d - 1) 20 [.inr (.inr 39), .inl 20, .inl s, .inl 0, .inl 0, .inl 0] (A, B2, Y2, K, T) (fun A3 B3 Y3 K3 T3 => (0 < d ∧ pzV (d - 1) 21 [.inr (.inr 39), .inl 17] (A3, B3, Y3, K3, T3) (fun A4 B4 Y4 K4 T4 => Q A4 B4 Y4 K4 T4))) := by
    intro B2 Y2 f k s g hs h2
    refine ⟨by omega, z_wait h2 (by omega) (td_19 hs (by omega)) (fun B3 h3 s3 => ⟨by omega, z_plain (by omega) h3 (by simp only [List.length_cons]; omega) (td_0 (by omega)) (fun B4 h4 s4 => ?_)⟩)⟩
    exact hq.2.1 _ _ _ _ _ _ _ _ _ _ _ _ _ _ _ _ _ h4 (WT_c2 (tt_17 (by simp only [List.length_cons]; omega)) (WT_c2 (tt_20 (by omega)) hw (by omega) (by omega)) rfl rfl) (by first | omega | (simp only [PD_1, SW_1, PD_2, SW_2, PD_3, SW_3, PD_4, SW_4, PD_5, SW_5, PD_6, SW_6, PD_7, SW_7, PD_8, SW_8, PD_9, SW_9, PD_10, SW_10, PD_11, SW_11, PD_12, SW_12, PD_13, SW_13, PD_14, SW_14, PD_15, SW_15, PD_16, SW_16, PD_17, SW_17, PD_18, SW_18, PD_19, SW_19, PD_20, SW_20, PD_21, SW_21, PD_22, SW_22, PD_23, SW_23, PD_24, SW_24, PD_25, SW_25, PD_26, SW_26, PD_27, SW_27, PD_28, SW_28, PD_29, SW_29]; omega)) (by omega) (by first | omega | (simp only [PD_1, SW_1, PD_2, SW_2, PD_3, SW_3, PD_4, SW_4, PD_5, SW_5, PD_6, SW_6, PD_7, SW_7, PD_8, SW_8, PD_9, SW_9, PD_10, SW_10, PD_11, SW_11, PD_12, SW_12, PD_13, SW_13, PD_14, SW_14, PD_15, SW_15, PD_16, SW_16, PD_17, SW_17, PD_18, SW_18, PD_19, SW_19, PD_20, SW_20, PD_21, SW_21, PD_22, SW_22, PD_23, SW_23, PD_24, SW_24, PD_25, SW_25, PD_26, SW_26, PD_27, SW_27, PD_28, SW_28, PD_29, SW_29]; omega))
  have j16 : ∀ x, (x = 0 ∨ x = 1) → pq d 39 16 [some (.inr (.inr 39)), none, none] [.inl x] (A, B, Y, K, T) (qV Q) := by
    intro x hx
    have h0 := PZ_open h ((B 39 20) - 1)
    refine pq_of 32 [] [] ?_
    show ((-2147483648 ≤ (B 39 6) ∧ (B 39 6) < 2147483648) ∧ (-2147483648 ≤ (58 : Int) ∧ (58 : Int) < 2147483648) ∧ ((B 39 6) = (58 : Int) → (0 < d ∧ pzV (d - 1) 16 [.inr (.inr (39 : Nat))] (A, (zu B 39 20 ((B 39 20) - (1 : Int))), Y, K, T) (fun A1 B1 Y1 K1 T1 => ((-2147483648 ≤ (B1 39 10) ∧ (B1 39 10) < 2147483648) ∧ ((B1 39 10) ≤ (0 : Int) → (0 < d ∧ pzV (d - 1) 5 [.inr (.inr (39 : Nat))] (A1, B1, Y1, K1, T1) (fun A2 B2 Y2 K2 T2 => ((-2147483648 ≤ x ∧ x < 2147483648) ∧ (x = (0 : Int) → (0 < d ∧ pzV (d - 1) 20 [.inr (.inr (39 : Nat)), .inl (20 : Int), .inl (0 : Int), .inl (0 : Int), .inl (0 : Int), .inl (0 : Int)] (A2, B2, Y2, K2, T2) (fun A3 B3 Y3 K3 T3 => (0 < d ∧ pzV (d - 1) 21 [.inr (.inr (39 : Nat)), .inl (17 : Int)] (A3, B3, Y3, K3, T3) (fun A4 B4 Y4 K4 T4 => Q A4 B4 Y4 K4 T4))))) ∧ (x ≠ (0 : Int) → (0 < d ∧ pzV (d - 1) 20 [.inr (.inr (39 : Nat)), .inl (20 : Int), .inl (1 : Int), .inl (0 : Int), .inl (0 : Int), .inl (0 : Int)] (A2, B2, Y2, K2, T2) (fun A5 B5 Y5 K5 T5 => (0 < d ∧ pzV (d - 1) 21 [.inr (.inr (39 : Nat)), .inl (17 : Int)] (A5, B5, Y5, K5, T5) (fun A6 B6 Y6 K6 T6 => Q A6 B6 Y6 K6 T6))))))))) ∧ ((0 : Int) < (B1 39 10) → Q A1 B1 Y1 K1 T1))))) ∧ ((B 39 6) ≠ (58 : Int) → (0 < d ∧ pzV (d - 1) 9 [.inr (.inr (39 : Nat)), .inl (1 : Int)] (A, (zu B 39 20 ((B 39 20) - (1 : Int))), Y, K, T) (fun A7 B7 Y7 K7 T7 => Q A7 B7 Y7 K7 T7))))
    refine ⟨by omega, by omega, fun z => ⟨by omega, z_deeper (by omega) h0 (by omega) (fun B1 f1 => ?_) (fun B1 o1 h1 s1 => ?_)⟩, fun z => ⟨by omega, z_fail h0 (by omega) (by omega) (fun B1 f1 _ => hq.1 _ _ _ _ f1)⟩⟩
    · have g := PF_eq f1
      exact ⟨by omega, fun z => absurd z (by omega), fun _ => hq.1 _ _ _ _ f1⟩
    · have e1 := PZ_eq h1
      refine ⟨by omega, fun _ => ⟨by omega, z_next (by omega) h1 (fun B2 Y2 f k g1 g2 h2 s2 => ⟨by omega, fun _ => key B2 Y2 f k 0 (g2 (by omega)) (Or.inl rfl) h2, fun _ => key B2 Y2 f k 1 (g2 (by omega)) (Or.inr rfl) h2⟩)⟩, fun z => absurd z (by omega)⟩
  refine pzV_of 7 [(16, [1])] [] ?_
  show ((-2147483648 ≤ (B 39 42) ∧ (B 39 42) < 2147483648) ∧ ((B 39 42) ≠ (0 : Int) → pq d 39 16 [some (.inr (.inr (39 : Nat))), none, none] [.inl (1 : Int)] (A, B, Y, K, T) (qV Q)) ∧ ((B 39 42) = (0 : Int) → ((-2147483648 ≤ z ∧ z < 2147483648) ∧ (z = (0 : Int) → pq d 39 16 [some (.inr (.inr (39 : Nat))), none, none] [.inl (0 : Int)] (A, B, Y, K, T) (qV Q)) ∧ (z ≠ (0 : Int) → pq d 39 16 [some (.inr (.inr (39 : Nat))), none, none] [.inl (1 : Int)] (A, B, Y, K, T) (qV Q)))))
  exact ⟨by omega, fun _ => j16 1 (Or.inr rfl), fun _ => ⟨by omega, fun _ => j16 0 (Or.inl rfl), fun _ => j16 1 (Or.inr rfl)⟩⟩
set_option maxRecDepth 100000 in
set_option maxHeartbeats 4000000 in
theorem h_levelOn {l : Int} (hd : 8 ≤ d) (h : PZ B0 B Y st st cur op fr fr N F tp ow tk sc tm E ht rg bk) (hl : 0 ≤ l ∧ l ≤ 7) (hw : WT st cur op) (hc : 1 ≤ cur) (hn : (st.length : Int) ≤ 20 * op + 4 + l) (ho : 0 ≤ op ∧ op ≤ 10) (hp : N + PD st ≤ 3 * fr + 2) (hm : 64 * (3001 - fr) + SW st + 1 ≤ m) (hq : HQ B0 m A K T Q) : pzV d 41 [.inr (.inr 39), .inl l] (A, B, Y, K, T) Q := by
  obtain ⟨p1, p2, p3, p4, p5, p6, p7, p8⟩ := PZ_tk h
  have e := PZ_eq h
  have wl := WT_len hw
  have pd0 := PD_0 st
  have key : ∀ s, isop tk → (s = 0 ∨ s = 1) → 0 < d ∧ pzV (d - 1) 20 [.inr (.inr 39), .inl 23, .inl l, .inl (B 39 6), .inl (B 39 7), .inl s] (A, B, Y, K, T) (fun A2 B2 Y2 K2 T2 => (0 < d ∧ pzV (d - 1) 5 [.inr (.inr 39)] (A2, B2, Y2, K2, T2) (fun A3 B3 Y3 K3 T3 => (0 < d ∧ pzV (d - 1) 20 [.inr (.inr 39), .inl 21, .inl (l + 1), .inl 0, .inl 0, .inl 0] (A3, B3, Y3, K3, T3) (fun A4 B4 Y4 K4 T4 => Q A4 B4 Y4 K4 T4))))) := by
    intro s hop hs
    have h12 := isop_12 hop
    have hop2 : isop (B 39 6) := by rw [e.2.2.2.2.2.2.2.1]; exact hop
    refine ⟨by omega, z_wait h (by omega) (td_23 hl hop2 (by omega) hs) (fun B2 h2 s2 => ⟨by omega, z_next (by omega) h2 (fun B3 Y3 f k g1 g2 h3 s3 => ⟨by omega, z_wait h3 (by simp only [List.length_cons]; omega) (td_21 (by omega)) (fun B4 h4 s4 => ?_)⟩)⟩)⟩
    have g3 := g2 h12
    exact hq.2.1 _ _ _ _ _ _ _ _ _ _ _ _ _ _ _ _ _ h4 (WT_c2 (tt_21 (by simp only [List.length_cons]; omega)) (WT_c2 (tt_23 (by omega)) hw (by omega) (by omega)) rfl rfl) (by first | omega | (simp only [PD_1, SW_1, PD_2, SW_2, PD_3, SW_3, PD_4, SW_4, PD_5, SW_5, PD_6, SW_6, PD_7, SW_7, PD_8, SW_8, PD_9, SW_9, PD_10, SW_10, PD_11, SW_11, PD_12, SW_12, PD_13, SW_13, PD_14, SW_14, PD_15, SW_15, PD_16, SW_16, PD_17, SW_17, PD_18, SW_18, PD_19, SW_19, PD_20, SW_20, PD_21, SW_21, PD_22, SW_22, PD_23, SW_23, PD_24, SW_24, PD_25, SW_25, PD_26, SW_26, PD_27, SW_27, PD_28, SW_28, PD_29, SW_29]; omega)) (by omega) (by first | omega | (simp only [PD_1, SW_1, PD_2, SW_2, PD_3, SW_3, PD_4, SW_4, PD_5, SW_5, PD_6, SW_6, PD_7, SW_7, PD_8, SW_8, PD_9, SW_9, PD_10, SW_10, PD_11, SW_11, PD_12, SW_12, PD_13, SW_13, PD_14, SW_14, PD_15, SW_15, PD_16, SW_16, PD_17, SW_17, PD_18, SW_18, PD_19, SW_19, PD_20, SW_20, PD_21, SW_21, PD_22, SW_22, PD_23, SW_23, PD_24, SW_24, PD_25, SW_25, PD_26, SW_26, PD_27, SW_27, PD_28, SW_28, PD_29, SW_29]; omega))
  refine pzV_of 30 [] [] ?_
  show (0 < d ∧ pzI (d - 1) 40 [.inl (B 39 6)] (A, B, Y, K, T) (fun n1 A1 B1 Y1 K1 T1 => ((-2147483648 ≤ n1 ∧ n1 < 2147483648) ∧ (-2147483648 ≤ l ∧ l < 2147483648) ∧ (n1 = l → ((-2147483648 ≤ (B1 39 42) ∧ (B1 39 42) < 2147483648) ∧ ((B1 39 42) = (0 : Int) → (0 < d ∧ pzV (d - 1) 20 [.inr (.inr (39 : Nat)), .inl (23 : Int), .inl l, .inl (B1 39 6), .inl (B1 39 7), .inl (0 : Int)] (A1, B1, Y1, K1, T1) (fun A2 B2 Y2 K2 T2 => (0 < d ∧ pzV (d - 1) 5 [.inr (.inr (39 : Nat))] (A2, B2, Y2, K2, T2) (fun A3 B3 Y3 K3 T3 => (0 < d ∧ pzV (d - 1) 20 [.inr (.inr (39 : Nat)), .inl (21 : Int), .inl (l + (1 : Int)), .inl (0 : Int), .inl (0 : Int), .inl (0 : Int)] (A3, B3, Y3, K3, T3) (fun A4 B4 Y4 K4 T4 => Q A4 B4 Y4 K4 T4))))))) ∧ ((B1 39 42) ≠ (0 : Int) → (0 < d ∧ pzV (d - 1) 20 [.inr (.inr (39 : Nat)), .inl (23 : Int), .inl l, .inl (B1 39 6), .inl (B1 39 7), .inl (1 : Int)] (A1, B1, Y1, K1, T1) (fun A5 B5 Y5 K5 T5 => (0 < d ∧ pzV (d - 1) 5 [.inr (.inr (39 : Nat))] (A5, B5, Y5, K5, T5) (fun A6 B6 Y6 K6 T6 => (0 < d ∧ pzV (d - 1) 20 [.inr (.inr (39 : Nat)), .inl (21 : Int), .inl (l + (1 : Int)), .inl (0 : Int), .inl (0 : Int), .inl (0 : Int)] (A6, B6, Y6, K6, T6) (fun A7 B7 Y7 K7 T7 => Q A7 B7 Y7 K7 T7))))))))) ∧ (n1 ≠ l → Q A1 B1 Y1 K1 T1))))
  refine ⟨by omega, m_levelOf (by omega) (fun l1 hl1 => ⟨by omega, by omega, fun z => ?_, fun z => hq.2.1 _ _ _ _ _ _ _ _ _ _ _ _ _ _ _ _ _ h hw (by first | omega | (simp only [PD_1, SW_1, PD_2, SW_2, PD_3, SW_3, PD_4, SW_4, PD_5, SW_5, PD_6, SW_6, PD_7, SW_7, PD_8, SW_8, PD_9, SW_9, PD_10, SW_10, PD_11, SW_11, PD_12, SW_12, PD_13, SW_13, PD_14, SW_14, PD_15, SW_15, PD_16, SW_16, PD_17, SW_17, PD_18, SW_18, PD_19, SW_19, PD_20, SW_20, PD_21, SW_21, PD_22, SW_22, PD_23, SW_23, PD_24, SW_24, PD_25, SW_25, PD_26, SW_26, PD_27, SW_27, PD_28, SW_28, PD_29, SW_29]; omega)) (by omega) (by first | omega | (simp only [PD_1, SW_1, PD_2, SW_2, PD_3, SW_3, PD_4, SW_4, PD_5, SW_5, PD_6, SW_6, PD_7, SW_7, PD_8, SW_8, PD_9, SW_9, PD_10, SW_10, PD_11, SW_11, PD_12, SW_12, PD_13, SW_13, PD_14, SW_14, PD_15, SW_15, PD_16, SW_16, PD_17, SW_17, PD_18, SW_18, PD_19, SW_19, PD_20, SW_20, PD_21, SW_21, PD_22, SW_22, PD_23, SW_23, PD_24, SW_24, PD_25, SW_25, PD_26, SW_26, PD_27, SW_27, PD_28, SW_28, PD_29, SW_29]; omega))⟩)⟩
  rcases hl1 with w | ⟨w1, w2⟩
  · omega
  · rw [e.2.2.2.2.2.2.2.1] at w2
    exact ⟨by omega, fun _ => key 0 w2 (Or.inl rfl), fun _ => key 1 w2 (Or.inr rfl)⟩
set_option maxRecDepth 100000 in
set_option maxHeartbeats 4000000 in
theorem h_callEnd {f n : Int} (hd : 8 ≤ d) (h : PZ B0 B Y st st cur op fr fr N F tp ow tk sc tm E ht rg bk) (hf : 0 ≤ f ∧ f < F) (hnn : 0 ≤ n ∧ n ≤ cur) (hcu : cur ≤ 3000) (hw : WT st (cur - n + 1) (op - 1)) (ho : 1 ≤ op ∧ op ≤ 10) (hln : st.length ≤ 1000) (hp : N + 1 + PD st ≤ 3 * fr + 2) (hm : 64 * (3001 - fr) + SW st ≤ m) (hq : HQ B0 m A K T Q) : pzV d 46 [.inr (.inr 39), .inl f, .inl n] (A, B, Y, K, T) Q := by
  obtain ⟨p1, p2, p3, p4, p5, p6, p7, p8⟩ := PZ_tk h
  have e := PZ_eq h
  have wl := WT_len hw
  have pd0 := PD_0 st
  obtain ⟨-, -, -, -, -, -, -, hG, -, -, hC, -⟩ := id h
  have hpf := (hC.2.2.2.2.2.2.2 f.toNat (by omega)).2.2.2.2
  have j37 : ∀ B1 on tn, on ≤ 11000 → PF B0 B1 Y on tn → pq d 46 37 [some (.inr (.inr 39)), some (.inl f), none] [] (A, B1, Y, K, T) (qV Q) := by
    intro B1 on tn hon f1
    have g := PF_eq f1
    have f2 := PF_open f1 ((B1 39 20) - 1)
    refine pq_of 18 [] [] ?_
    show (0 < d ∧ pzV (d - 1) 15 [.inr (.inr (39 : Nat)), .inl (11 : Int), .inl f, .inl (0 : Int)] (A, (zu B1 39 20 ((B1 39 20) - (1 : Int))), Y, K, T) (fun A1 B1 Y1 K1 T1 => ((0 ≤ f ∧ f < (6 : Int)) ∧ (((B1 49 (f).toNat) = 0 ∨ (B1 49 (f).toNat) = 1) ∧ Q A1 (zu B1 39 42 (B1 49 (f).toNat)) Y1 K1 T1))))
    refine ⟨by omega, f_say f2 (by omega) (fun B3 f3 => ⟨by omega, ?_, hq.1 _ _ _ _ (PF_sec f3 ?_)⟩)⟩
    · obtain ⟨-, -, -, -, -, -, -, -, g3, -⟩ := f3
      exact g3.2.2.1 _
    · obtain ⟨-, -, -, -, -, -, -, -, g3, -⟩ := f3
      exact g3.2.2.1 _
  have j31 : (tk = 41 → n = (B 55) f.toNat) → pq d 46 31 [some (.inr (.inr 39)), some (.inl f), none] [] (A, B, Y, K, T) (qV Q) := by
    intro hpn
    refine pq_of 3 [(37, [])] [] ?_
    show (0 < d ∧ pzV (d - 1) 11 [.inr (.inr (39 : Nat)), .inl (41 : Int)] (A, B, Y, K, T) (fun A1 B1 Y1 K1 T1 => pq d 46 37 [some (.inr (.inr (39 : Nat))), some (.inl f), none] [] (A1, B1, Y1, K1, T1) (qV Q)))
    refine ⟨by omega, z_must (by omega) h (by omega) (by omega) (fun B1 f1 => j37 B1 _ _ (by omega) f1) (fun B1 Y1 fr1 k z g1 g2 h1 s1 => ?_)⟩
    have g3 := g2 (by omega)
    have e1 := PZ_eq h1
    have h2 := PZ_open h1 ((B1 39 20) - 1)
    obtain ⟨-, -, -, -, q5, -⟩ := SM_k s1
    have hpn := hpn z
    have at1 : fr1 ≤ (B1 39 5) := e1.2.2.2.2.2.2.2.2.2.2.1
    refine pq_of 18 [] [] ?_
    show (0 < d ∧ pzV (d - 1) 15 [.inr (.inr (39 : Nat)), .inl (11 : Int), .inl f, .inl (0 : Int)] (A, (zu B1 39 20 ((B1 39 20) - (1 : Int))), Y1, K, T) (fun A1 B1 Y1 K1 T1 => ((0 ≤ f ∧ f < (6 : Int)) ∧ (((B1 49 (f).toNat) = 0 ∨ (B1 49 (f).toNat) = 1) ∧ Q A1 (zu B1 39 42 (B1 49 (f).toNat)) Y1 K1 T1))))
    refine ⟨by omega, z_say (y := cur - n + 1) (fc' := fr1) h2 (by omega) (Int.le_refl _) at1 (by omega) (by omega) (Or.inr (Or.inr (Or.inr (Or.inr (Or.inr (Or.inr (Or.inr (Or.inr (Or.inr (Or.inr (Or.inl ⟨rfl, hf, ?_, ?_⟩))))))))))) (fun B3 ht3 rg3 bk3 h3 s3 l3 => ⟨by omega, ?_, ?_⟩)⟩
    · show (B1 55) f.toNat ≤ cur
      rw [q5]
      omega
    · show cur - n + 1 = cur - (B1 55) f.toNat + 1
      rw [q5]
      omega
    · obtain ⟨-, -, -, -, -, -, -, g5, -⟩ := h3
      exact g5.2.2.1 _
    · have hs : (B3 49) f.toNat = 0 ∨ (B3 49) f.toNat = 1 := by
        obtain ⟨-, -, -, -, -, -, -, g5, -⟩ := h3
        exact g5.2.2.1 _
      have hw2 : WT st (cur - n + 1) ((B1 39 20) - 1) := by rw [e1.2.1]; exact hw
      exact hq.2.1 _ _ _ _ _ _ _ _ _ _ _ _ _ _ _ _ _ (PZ_sec h3 hs) hw2 (by first | omega | (simp only [PD_1, SW_1, PD_2, SW_2, PD_3, SW_3, PD_4, SW_4, PD_5, SW_5, PD_6, SW_6, PD_7, SW_7, PD_8, SW_8, PD_9, SW_9, PD_10, SW_10, PD_11, SW_11, PD_12, SW_12, PD_13, SW_13, PD_14, SW_14, PD_15, SW_15, PD_16, SW_16, PD_17, SW_17, PD_18, SW_18, PD_19, SW_19, PD_20, SW_20, PD_21, SW_21, PD_22, SW_22, PD_23, SW_23, PD_24, SW_24, PD_25, SW_25, PD_26, SW_26, PD_27, SW_27, PD_28, SW_28, PD_29, SW_29]; omega)) (by omega) (by first | omega | (simp only [PD_1, SW_1, PD_2, SW_2, PD_3, SW_3, PD_4, SW_4, PD_5, SW_5, PD_6, SW_6, PD_7, SW_7, PD_8, SW_8, PD_9, SW_9, PD_10, SW_10, PD_11, SW_11, PD_12, SW_12, PD_13, SW_13, PD_14, SW_14, PD_15, SW_15, PD_16, SW_16, PD_17, SW_17, PD_18, SW_18, PD_19, SW_19, PD_20, SW_20, PD_21, SW_21, PD_22, SW_22, PD_23, SW_23, PD_24, SW_24, PD_25, SW_25, PD_26, SW_26, PD_27, SW_27, PD_28, SW_28, PD_29, SW_29]; omega))
  have j26 : pq d 46 26 [some (.inr (.inr 39)), some (.inl f), none] [] (A, B, Y, K, T) (qV Q) := by
    refine pq_of 3 [(31, []), (37, [])] [] ?_
    show (0 < d ∧ pzV (d - 1) 9 [.inr (.inr (39 : Nat)), .inl (5 : Int)] (A, B, Y, K, T) (fun A1 B1 Y1 K1 T1 => pq d 46 31 [some (.inr (.inr (39 : Nat))), some (.inl f), none] [] (A1, B1, Y1, K1, T1) (qV Q)))
    refine ⟨by omega, z_fail h (by omega) (by omega) (fun B1 f1 _ => ?_)⟩
    refine pq_of 3 [(37, [])] [] ?_
    show (0 < d ∧ pzV (d - 1) 11 [.inr (.inr (39 : Nat)), .inl (41 : Int)] (A, B1, Y, K, T) (fun A1 B1 Y1 K1 T1 => pq d 46 37 [some (.inr (.inr (39 : Nat))), some (.inl f), none] [] (A1, B1, Y1, K1, T1) (qV Q)))
    exact ⟨by omega, f_must (by omega) f1 (by omega) (fun B2 f2 => j37 B2 _ _ (by omega) f2)⟩
  refine pzV_of 13 [(26, [2]), (31, [2])] [] ?_
  show ((-2147483648 ≤ (B 39 10) ∧ (B 39 10) < 2147483648) ∧ ((B 39 10) ≠ (0 : Int) → pq d 46 31 [some (.inr (.inr (39 : Nat))), some (.inl f), none] [] (A, B, Y, K, T) (qV Q)) ∧ ((B 39 10) = (0 : Int) → ((-2147483648 ≤ (B 39 6) ∧ (B 39 6) < 2147483648) ∧ (-2147483648 ≤ (41 : Int) ∧ (41 : Int) < 2147483648) ∧ ((B 39 6) ≠ (41 : Int) → pq d 46 31 [some (.inr (.inr (39 : Nat))), some (.inl f), none] [] (A, B, Y, K, T) (qV Q)) ∧ ((B 39 6) = (41 : Int) → ((0 ≤ f ∧ f < (6 : Int)) ∧ ((-2147483648 ≤ n ∧ n < 2147483648) ∧ (-2147483648 ≤ (B 55 (f).toNat) ∧ (B 55 (f).toNat) < 2147483648) ∧ (n = (B 55 (f).toNat) → pq d 46 31 [some (.inr (.inr (39 : Nat))), some (.inl f), none] [] (A, B, Y, K, T) (qV Q)) ∧ (n ≠ (B 55 (f).toNat) → pq d 46 26 [some (.inr (.inr (39 : Nat))), some (.inl f), none] [] (A, B, Y, K, T) (qV Q))))))))
  exact ⟨by omega, fun z => j31 (fun _ => absurd e.1 z), fun _ => ⟨by omega, by omega, fun z => j31 (fun w => absurd (by omega) z), fun z => ⟨by omega, by omega, by omega, fun w => j31 (fun _ => w), fun w => j26⟩⟩⟩
set_option maxRecDepth 100000 in
set_option maxHeartbeats 4000000 in
theorem h_given {f n p : Int} (hd : 10 ≤ d) (h : PZ B0 B Y st st cur op fr fr N F tp ow tk sc tm E ht rg bk) (hf : 0 ≤ f ∧ f < F) (hnn : 0 ≤ n ∧ n + 1 ≤ cur) (hcu : cur ≤ 3000) (hpi : -2147483648 ≤ p ∧ p < 2147483648) (hw : WT st (cur - n) (op - 1)) (ho : 1 ≤ op ∧ op ≤ 10) (hln : (st.length : Int) ≤ 20 * op - 8) (hp : N + 1 + PD st ≤ 3 * fr + 2) (hm : 64 * (3001 - fr) + SW st + 1 ≤ m) (hq : HQ B0 m A K T Q) : pzV d 45 [.inr (.inr 39), .inl f, .inl n, .inl p] (A, B, Y, K, T) Q := by
  obtain ⟨p1, p2, p3, p4, p5, p6, p7, p8⟩ := PZ_tk h
  have e := PZ_eq h
  have wl := WT_len hw
  have pd0 := PD_0 st
  obtain ⟨-, -, -, -, -, -, -, hG, -, -, hC, -⟩ := id h
  have hpf := (hC.2.2.2.2.2.2.2 f.toNat (by omega)).2.2.2.2
  have hps := hG.2.2.2 ((12 : Int) * f + n).toNat
  have j38 : ∀ B1, PZ B0 B1 Y st st cur op fr fr N F tp ow tk sc tm E ht rg bk → pq d 45 38 [some (.inr (.inr 39)), some (.inl f), some (.inl n), none] [] (A, B1, Y, K, T) (qV Q) := by
    intro B1 h1
    refine pq_of 15 [] [] ?_
    show (0 < d ∧ pzI (d - 1) 10 [.inr (.inr (39 : Nat)), .inl (44 : Int)] (A, B1, Y, K, T) (fun n1 A1 B1 Y1 K1 T1 => ((-2147483648 ≤ n1 ∧ n1 < 2147483648) ∧ (n1 = (0 : Int) → (0 < d ∧ pzV (d - 1) 46 [.inr (.inr (39 : Nat)), .inl f, .inl (n + (1 : Int))] (A1, B1, Y1, K1, T1) (fun A2 B2 Y2 K2 T2 => Q A2 B2 Y2 K2 T2))) ∧ (n1 ≠ (0 : Int) → (0 < d ∧ pzV (d - 1) 20 [.inr (.inr (39 : Nat)), .inl (28 : Int), .inl f, .inl (n + (1 : Int)), .inl (0 : Int), .inl (0 : Int)] (A1, B1, Y1, K1, T1) (fun A3 B3 Y3 K3 T3 => Q A3 B3 Y3 K3 T3))))))
    refine ⟨by omega, z_meets (by omega) h1 (by omega) (fun z => ⟨by omega, fun _ => ⟨by omega, h_callEnd (by omega) h1 hf (by omega) hcu ?_ ho (by omega) hp (by omega) hq⟩, fun w => absurd rfl w⟩) (fun B2 Y2 f2 k z g1 g2 h2 s2 => ⟨by omega, fun w => absurd w (by omega), fun _ => ⟨by omega, z_wait h2 (by omega) (td_28 hf) (fun B3 h3 s3 => ?_)⟩⟩)⟩
    · rw [show cur - (n + 1) + 1 = cur - n by omega]
      exact hw
    · have g3 := g2 (by omega)
      exact hq.2.1 _ _ _ _ _ _ _ _ _ _ _ _ _ _ _ _ _ h3 (WT_c2 (tt_28 (by omega)) hw (by omega) (by omega)) (by first | omega | (simp only [PD_1, SW_1, PD_2, SW_2, PD_3, SW_3, PD_4, SW_4, PD_5, SW_5, PD_6, SW_6, PD_7, SW_7, PD_8, SW_8, PD_9, SW_9, PD_10, SW_10, PD_11, SW_11, PD_12, SW_12, PD_13, SW_13, PD_14, SW_14, PD_15, SW_15, PD_16, SW_16, PD_17, SW_17, PD_18, SW_18, PD_19, SW_19, PD_20, SW_20, PD_21, SW_21, PD_22, SW_22, PD_23, SW_23, PD_24, SW_24, PD_25, SW_25, PD_26, SW_26, PD_27, SW_27, PD_28, SW_28, PD_29, SW_29]; omega)) (by omega) (by first | omega | (simp only [PD_1, SW_1, PD_2, SW_2, PD_3, SW_3, PD_4, SW_4, PD_5, SW_5, PD_6, SW_6, PD_7, SW_7, PD_8, SW_8, PD_9, SW_9, PD_10, SW_10, PD_11, SW_11, PD_12, SW_12, PD_13, SW_13, PD_14, SW_14, PD_15, SW_15, PD_16, SW_16, PD_17, SW_17, PD_18, SW_18, PD_19, SW_19, PD_20, SW_20, PD_21, SW_21, PD_22, SW_22, PD_23, SW_23, PD_24, SW_24, PD_25, SW_25, PD_26, SW_26, PD_27, SW_27, PD_28, SW_28, PD_29, SW_29]; omega))
  refine pzV_of 22 [(38, [3])] [] ?_
  show ((-2147483648 ≤ (B 39 42) ∧ (B 39 42) < 2147483648) ∧ ((B 39 42) = (0 : Int) → pq d 45 38 [some (.inr (.inr (39 : Nat))), some (.inl f), some (.inl n), none] [] (A, B, Y, K, T) (qV Q)) ∧ ((B 39 42) ≠ (0 : Int) → ((0 ≤ f ∧ f < (6 : Int)) ∧ ((-2147483648 ≤ n ∧ n < 2147483648) ∧ (-2147483648 ≤ (B 55 (f).toNat) ∧ (B 55 (f).toNat) < 2147483648) ∧ ((B 55 (f).toNat) ≤ n → pq d 45 38 [some (.inr (.inr (39 : Nat))), some (.inl f), some (.inl n), none] [] (A, B, Y, K, T) (qV Q)) ∧ (n < (B 55 (f).toNat) → ((0 ≤ (((12 : Int) * f) + n) ∧ (((12 : Int) * f) + n) < (72 : Int)) ∧ ((-2147483648 ≤ (B 57 ((((12 : Int) * f) + n)).toNat) ∧ (B 57 ((((12 : Int) * f) + n)).toNat) < 2147483648) ∧ ((B 57 ((((12 : Int) * f) + n)).toNat) ≠ (0 : Int) → pq d 45 38 [some (.inr (.inr (39 : Nat))), some (.inl f), some (.inl n), none] [] (A, B, Y, K, T) (qV Q)) ∧ ((B 57 ((((12 : Int) * f) + n)).toNat) = (0 : Int) → (0 < d ∧ pzV (d - 1) 12 [.inr (.inr (39 : Nat)), .inl (8 : Int), .inl p] (A, B, Y, K, T) (fun A1 B1 Y1 K1 T1 => pq d 45 38 [some (.inr (.inr (39 : Nat))), some (.inl f), some (.inl n), none] [] (A1, B1, Y1, K1, T1) (qV Q)))))))))))
  exact ⟨by omega, fun _ => j38 B h, fun _ => ⟨by omega, by omega, by omega, fun _ => j38 B h, fun z => ⟨by omega, by omega, fun _ => j38 B h, fun _ => ⟨by omega, z_forbid h (by omega) hpi (fun B1 h1 s1 => j38 B1 h1)⟩⟩⟩⟩
set_option maxRecDepth 100000 in
set_option maxHeartbeats 4000000 in
theorem h_call (hd : 12 ≤ d) (h : PZ B0 B Y st st cur op fr fr N F tp ow tk sc tm E ht rg bk) (htk : tk = 3) (hw : WT st (cur + 1) op) (hn : (st.length : Int) ≤ 20 * op + 12) (ho : 0 ≤ op ∧ op ≤ 10) (hp : N + PD st ≤ 3 * fr + 2) (hm : 64 * (3001 - fr) + SW st + 1 ≤ m) (hE : 0 ≤ E F.toNat) (hq : HQ B0 m A K T Q) : pzV d 44 [.inr (.inr 39)] (A, B, Y, K, T) Q := by
  obtain ⟨p1, p2, p3, p4, p5, p6, p7, p8⟩ := PZ_tk h
  have e := PZ_eq h
  have wl := WT_len hw
  have pd0 := PD_0 st
  obtain ⟨-, hK, -, hT, -, -, -, hG, -⟩ := id h
  have g0 := hG.1
  refine pzV_of 33 [] [] ?_
  show (0 < d ∧ pzI (d - 1) 14 [.inr (.inr (39 : Nat)), .inr (.inr (52 : Nat)), .inr (.inr (53 : Nat)), .inl (B 39 17)] (A, B, Y, K, T) (fun n1 A1 B1 Y1 K1 T1 => ((-2147483648 ≤ n1 ∧ n1 < 2147483648) ∧ ((0 : Int) ≤ n1 → (0 < d ∧ pzV (d - 1) 5 [.inr (.inr (39 : Nat))] (A1, B1, Y1, K1, T1) (fun A2 B2 Y2 K2 T2 => (0 < d ∧ pzV (d - 1) 16 [.inr (.inr (39 : Nat))] (A2, B2, Y2, K2, T2) (fun A3 B3 Y3 K3 T3 => ((-2147483648 ≤ (B3 39 10) ∧ (B3 39 10) < 2147483648) ∧ ((B3 39 10) ≤ (0 : Int) → (0 < d ∧ pzV (d - 1) 5 [.inr (.inr (39 : Nat))] (A3, B3, Y3, K3, T3) (fun A4 B4 Y4 K4 T4 => ((-2147483648 ≤ (B4 39 6) ∧ (B4 39 6) < 2147483648) ∧ (-2147483648 ≤ (41 : Int) ∧ (41 : Int) < 2147483648) ∧ ((B4 39 6) = (41 : Int) → (0 < d ∧ pzV (d - 1) 46 [.inr (.inr (39 : Nat)), .inl n1, .inl (0 : Int)] (A4, B4, Y4, K4, T4) (fun A5 B5 Y5 K5 T5 => Q A5 B5 Y5 K5 T5))) ∧ ((B4 39 6) ≠ (41 : Int) → (0 < d ∧ pzV (d - 1) 20 [.inr (.inr (39 : Nat)), .inl (28 : Int), .inl n1, .inl (0 : Int), .inl (0 : Int), .inl (0 : Int)] (A4, B4, Y4, K4, T4) (fun A6 B6 Y6 K6 T6 => Q A6 B6 Y6 K6 T6))))))) ∧ ((0 : Int) < (B3 39 10) → Q A3 B3 Y3 K3 T3))))))) ∧ (n1 < (0 : Int) → (0 < d ∧ pzV (d - 1) 9 [.inr (.inr (39 : Nat)), .inl (2 : Int)] (A1, B1, Y1, K1, T1) (fun A7 B7 Y7 K7 T7 => Q A7 B7 Y7 K7 T7))))))
  refine ⟨by omega, m_find_52 (by omega) hK hT g0.1 g0.2 (fun k hk => hG.2.1 k (by omega)) (fun r r1 r2 => ⟨by omega, fun r3 => ⟨by omega, z_next (by omega) h (fun B1 Y1 f1 k1 a1 a2 h1 s1 => ⟨by omega, z_deeper (by omega) h1 ho (fun B2 q2 => ?_) (fun B2 o2 h2 s2 => ?_)⟩)⟩, fun r3 => ⟨by omega, z_fail h (by omega) (by omega) (fun B1 q1 _ => hq.1 _ _ _ _ q1)⟩⟩)⟩
  · have g := PF_eq q2
    exact ⟨by omega, fun z => absurd z (by omega), fun _ => hq.1 _ _ _ _ q2⟩
  · have e2 := PZ_eq h2
    have a3 := a2 (by omega)
    refine ⟨by omega, fun _ => ⟨by omega, z_next (by omega) h2 (fun B3 Y3 f3 k3 a4 a5 h3 s3 => ?_)⟩, fun z => absurd z (by omega)⟩
    have e3 := PZ_eq h3
    obtain ⟨p31, p32, p33, -⟩ := PZ_tk h3
    refine ⟨by omega, by omega, fun z => ⟨by omega, h_callEnd (by omega) h3 (by omega) (by omega) (by omega) ?_ (by omega) (by omega) (by omega) (by omega) hq⟩, fun z => ⟨by omega, z_wait h3 (by omega) (td_28 (by omega)) (fun B4 h4 s4 => ?_)⟩⟩
    · rw [show cur - 0 + 1 = cur + 1 by omega, show op + 1 - 1 = op by omega]
      exact hw
    · exact hq.2.1 _ _ _ _ _ _ _ _ _ _ _ _ _ _ _ _ _ h4 (WT_c2 (tt_28 (by omega)) hw (by omega) (by omega)) (by first | omega | (simp only [PD_1, SW_1, PD_2, SW_2, PD_3, SW_3, PD_4, SW_4, PD_5, SW_5, PD_6, SW_6, PD_7, SW_7, PD_8, SW_8, PD_9, SW_9, PD_10, SW_10, PD_11, SW_11, PD_12, SW_12, PD_13, SW_13, PD_14, SW_14, PD_15, SW_15, PD_16, SW_16, PD_17, SW_17, PD_18, SW_18, PD_19, SW_19, PD_20, SW_20, PD_21, SW_21, PD_22, SW_22, PD_23, SW_23, PD_24, SW_24, PD_25, SW_25, PD_26, SW_26, PD_27, SW_27, PD_28, SW_28, PD_29, SW_29]; omega)) (by omega) (by first | omega | (simp only [PD_1, SW_1, PD_2, SW_2, PD_3, SW_3, PD_4, SW_4, PD_5, SW_5, PD_6, SW_6, PD_7, SW_7, PD_8, SW_8, PD_9, SW_9, PD_10, SW_10, PD_11, SW_11, PD_12, SW_12, PD_13, SW_13, PD_14, SW_14, PD_15, SW_15, PD_16, SW_16, PD_17, SW_17, PD_18, SW_18, PD_19, SW_19, PD_20, SW_20, PD_21, SW_21, PD_22, SW_22, PD_23, SW_23, PD_24, SW_24, PD_25, SW_25, PD_26, SW_26, PD_27, SW_27, PD_28, SW_28, PD_29, SW_29]; omega))
set_option maxRecDepth 100000 in
set_option maxHeartbeats 4000000 in
theorem h_called (hd : 14 ≤ d) (h : PZ B0 B Y st st cur op fr fr N F tp ow tk sc tm E ht rg bk) (htk : tk = 3) (hw : WT st (cur + 1) op) (hn : (st.length : Int) ≤ 20 * op + 12) (ho : 0 ≤ op ∧ op ≤ 10) (hp : N + PD st ≤ 3 * fr + 2) (hm : 64 * (3001 - fr) + SW st + 1 ≤ m) (hE : 0 ≤ E F.toNat) (hq : HQ B0 m A K T Q) : pzV d 43 [.inr (.inr 39)] (A, B, Y, K, T) Q := by
  obtain ⟨p1, p2, p3, p4, p5, p6, p7, p8⟩ := PZ_tk h
  have e := PZ_eq h
  have wl := WT_len hw
  have pd0 := PD_0 st
  obtain ⟨-, hK, -, ⟨t1, t2, t3, t4, t5, t6⟩, -, hD, hO, -⟩ := id h
  have j109 : ∀ B1 Y1 f1 k1 r, fr < f1 → (100 ≤ r ∧ r < 112 ∨ (0 ≤ r ∧ r < tp)) → PZ B0 B1 Y1 st st cur op f1 f1 N F tp ow k1 sc tm E ht rg bk → pq d 43 76 [some (.inr (.inr 39)), none, some (.inl r)] [] (A, B1, Y1, K, T) (qV Q) := by
    intro B1 Y1 f1 k1 r a1 hr h1
    obtain ⟨p11, p12, p13, p14, p15, p16, p17, p18⟩ := PZ_tk h1
    have e1 := PZ_eq h1
    have at1 : f1 ≤ (B1 39 5) := e1.2.2.2.2.2.2.2.2.2.2.1
    have fin : ∀ B2 ht2 rg2 bk2 s, PZ B0 B2 Y1 st st (cur + 1) op f1 f1 (N + 1) F tp ow k1 sc tm E ht2 rg2 bk2 → (s = 0 ∨ s = 1) → Q A (zu B2 39 42 s) Y1 K T := by
      intro B2 ht2 rg2 bk2 s h2 hs
      exact hq.2.1 _ _ _ _ _ _ _ _ _ _ _ _ _ _ _ _ _ (PZ_sec h2 hs) hw (by first | omega | (simp only [PD_1, SW_1, PD_2, SW_2, PD_3, SW_3, PD_4, SW_4, PD_5, SW_5, PD_6, SW_6, PD_7, SW_7, PD_8, SW_8, PD_9, SW_9, PD_10, SW_10, PD_11, SW_11, PD_12, SW_12, PD_13, SW_13, PD_14, SW_14, PD_15, SW_15, PD_16, SW_16, PD_17, SW_17, PD_18, SW_18, PD_19, SW_19, PD_20, SW_20, PD_21, SW_21, PD_22, SW_22, PD_23, SW_23, PD_24, SW_24, PD_25, SW_25, PD_26, SW_26, PD_27, SW_27, PD_28, SW_28, PD_29, SW_29]; omega)) (by omega) (by first | omega | (simp only [PD_1, SW_1, PD_2, SW_2, PD_3, SW_3, PD_4, SW_4, PD_5, SW_5, PD_6, SW_6, PD_7, SW_7, PD_8, SW_8, PD_9, SW_9, PD_10, SW_10, PD_11, SW_11, PD_12, SW_12, PD_13, SW_13, PD_14, SW_14, PD_15, SW_15, PD_16, SW_16, PD_17, SW_17, PD_18, SW_18, PD_19, SW_19, PD_20, SW_20, PD_21, SW_21, PD_22, SW_22, PD_23, SW_23, PD_24, SW_24, PD_25, SW_25, PD_26, SW_26, PD_27, SW_27, PD_28, SW_28, PD_29, SW_29]; omega))
    have j111 : ∀ B2 ht2 rg2 bk2, PZ B0 B2 Y1 st st (cur + 1) op f1 f1 (N + 1) F tp ow k1 sc tm E ht2 rg2 bk2 → pq d 43 111 [some (.inr (.inr 39)), none, some (.inl r)] [] (A, B2, Y1, K, T) (qV Q) := by
      intro B2 ht2 rg2 bk2 h2
      have e2 := PZ_eq h2
      obtain ⟨-, -, -, -, -, hD2, hO2, -⟩ := id h2
      refine pq_of 13 [] [] ?_
      show ((-2147483648 ≤ r ∧ r < 2147483648) ∧ (-2147483648 ≤ (99 : Int) ∧ (99 : Int) < 2147483648) ∧ (r ≤ (99 : Int) → ((0 ≤ r ∧ r < (40 : Int)) ∧ (((B2 47 (r).toNat) = 0 ∨ (B2 47 (r).toNat) = 1) ∧ Q A (zu B2 39 42 (B2 47 (r).toNat)) Y1 K T))) ∧ ((99 : Int) < r → ((0 ≤ (r - (100 : Int)) ∧ (r - (100 : Int)) < (12 : Int)) ∧ (((B2 48 ((r - (100 : Int))).toNat) = 0 ∨ (B2 48 ((r - (100 : Int))).toNat) = 1) ∧ Q A (zu B2 39 42 (B2 48 ((r - (100 : Int))).toNat)) Y1 K T))))
      exact ⟨by omega, by omega, fun z => ⟨by omega, hD2.2.2.2 _, fin B2 ht2 rg2 bk2 _ h2 (hD2.2.2.2 _)⟩, fun z => ⟨by omega, hO2.2.2 _, fin B2 ht2 rg2 bk2 _ h2 (hO2.2.2 _)⟩⟩
    refine pq_of 15 [(111, [])] [] ?_
    show ((-2147483648 ≤ r ∧ r < 2147483648) ∧ (-2147483648 ≤ (99 : Int) ∧ (99 : Int) < 2147483648) ∧ (r ≤ (99 : Int) → ((-2147483648 ≤ r ∧ r < 2147483648) ∧ (-2147483648 ≤ (99 : Int) ∧ (99 : Int) < 2147483648) ∧ (r ≤ (99 : Int) → ((0 ≤ r ∧ r < (40 : Int)) ∧ (0 < d ∧ pzV (d - 1) 15 [.inr (.inr (39 : Nat)), .inl (2 : Int), .inl (B1 46 (r).toNat), .inl (0 : Int)] (A, B1, Y1, K, T) (fun A1 B1 Y1 K1 T1 => pq d 43 111 [some (.inr (.inr (39 : Nat))), none, some (.inl r)] [] (A1, B1, Y1, K1, T1) (qV Q))))) ∧ ((99 : Int) < r → (0 < d ∧ pzV (d - 1) 15 [.inr (.inr (39 : Nat)), .inl (2 : Int), .inl (r - (100 : Int)), .inl (0 : Int)] (A, B1, Y1, K, T) (fun A2 B2 Y2 K2 T2 => pq d 43 111 [some (.inr (.inr (39 : Nat))), none, some (.inl r)] [] (A2, B2, Y2, K2, T2) (qV Q)))))) ∧ ((99 : Int) < r → ((-2147483648 ≤ r ∧ r < 2147483648) ∧ (-2147483648 ≤ (99 : Int) ∧ (99 : Int) < 2147483648) ∧ (r ≤ (99 : Int) → ((0 ≤ r ∧ r < (40 : Int)) ∧ (0 < d ∧ pzV (d - 1) 15 [.inr (.inr (39 : Nat)), .inl (3 : Int), .inl (B1 46 (r).toNat), .inl (0 : Int)] (A, B1, Y1, K, T) (fun A3 B3 Y3 K3 T3 => pq d 43 111 [some (.inr (.inr (39 : Nat))), none, some (.inl r)] [] (A3, B3, Y3, K3, T3) (qV Q))))) ∧ ((99 : Int) < r → (0 < d ∧ pzV (d - 1) 15 [.inr (.inr (39 : Nat)), .inl (3 : Int), .inl (r - (100 : Int)), .inl (0 : Int)] (A, B1, Y1, K, T) (fun A4 B4 Y4 K4 T4 => pq d 43 111 [some (.inr (.inr (39 : Nat))), none, some (.inl r)] [] (A4, B4, Y4, K4, T4) (qV Q)))))))
    refine ⟨by omega, by omega, fun z => ⟨by omega, by omega, fun _ => ⟨by omega, ?_⟩, fun w => absurd w (by omega)⟩, fun z => ⟨by omega, by omega, fun w => absurd w (by omega), fun _ => ?_⟩⟩
    · obtain ⟨-, -, -, -, -, hD1, -⟩ := id h1
      have hc := hD1.2.2.1 r.toNat (by omega)
      have hc2 := hD1.2.1
      refine ⟨by omega, z_say (y := cur + 1) (fc' := f1) h1 (by omega) (Int.le_refl _) at1 (by omega) (by omega) (Or.inr (Or.inl ⟨rfl, by omega, rfl⟩)) (fun B2 ht2 rg2 bk2 h2 s2 l2 => j111 B2 ht2 rg2 bk2 h2)⟩
    · refine ⟨by omega, z_say (y := cur + 1) (fc' := f1) h1 (by omega) (Int.le_refl _) at1 (by omega) (by omega) (Or.inr (Or.inr (Or.inl ⟨rfl, by omega, rfl⟩))) (fun B2 ht2 rg2 bk2 h2 s2 l2 => j111 B2 ht2 rg2 bk2 h2)⟩
  have j41 : ∀ c r, (0 ≤ c ∧ c < 65536) → ((100 ≤ r ∧ r < 112 ∧ c ≠ 91) ∨ (0 ≤ r ∧ r < tp)) → pq d 43 41 [some (.inr (.inr 39)), some (.inl c), some (.inl r)] [] (A, B, Y, K, T) (qV Q) := by
    intro c r hc hr
    refine pq_of 19 [(76, [1])] [] ?_
    show ((-2147483648 ≤ (B 39 10) ∧ (B 39 10) < 2147483648) ∧ ((B 39 10) ≤ (0 : Int) → (0 < d ∧ pzV (d - 1) 5 [.inr (.inr (39 : Nat))] (A, B, Y, K, T) (fun A1 B1 Y1 K1 T1 => ((-2147483648 ≤ c ∧ c < 2147483648) ∧ (-2147483648 ≤ (91 : Int) ∧ (91 : Int) < 2147483648) ∧ (c ≠ (91 : Int) → pq d 43 76 [some (.inr (.inr (39 : Nat))), none, some (.inl r)] [] (A1, B1, Y1, K1, T1) (qV Q)) ∧ (c = (91 : Int) → (0 < d ∧ pzV (d - 1) 20 [.inr (.inr (39 : Nat)), .inl (27 : Int), .inl r, .inl (0 : Int), .inl (0 : Int), .inl (0 : Int)] (A1, B1, Y1, K1, T1) (fun A2 B2 Y2 K2 T2 => (0 < d ∧ pzV (d - 1) 21 [.inr (.inr (39 : Nat)), .inl (15 : Int)] (A2, B2, Y2, K2, T2) (fun A3 B3 Y3 K3 T3 => Q A3 B3 Y3 K3 T3))))))))) ∧ ((0 : Int) < (B 39 10) → Q A B Y K T))
    refine ⟨by omega, fun _ => ⟨by omega, z_next (by omega) h (fun B1 Y1 f1 k1 a1 a2 h1 s1 => ?_)⟩, fun z => absurd z (by omega)⟩
    have a3 := a2 (by omega)
    refine ⟨by omega, by omega, fun z => j109 B1 Y1 f1 k1 r a3 (by omega) h1, fun z => ⟨by omega, z_wait h1 (by omega) (td_27 (by omega)) (fun B2 h2 s2 => ⟨by omega, z_plain (by omega) h2 (by simp only [List.length_cons]; omega) (td_0 (by omega)) (fun B3 h3 s3 => ?_)⟩)⟩⟩
    exact hq.2.1 _ _ _ _ _ _ _ _ _ _ _ _ _ _ _ _ _ h3 (WT_c2 (tt_15 (by simp only [List.length_cons]; omega)) (WT_c2 (tt_27 (by omega)) hw (by omega) (by omega)) rfl rfl) (by first | omega | (simp only [PD_1, SW_1, PD_2, SW_2, PD_3, SW_3, PD_4, SW_4, PD_5, SW_5, PD_6, SW_6, PD_7, SW_7, PD_8, SW_8, PD_9, SW_9, PD_10, SW_10, PD_11, SW_11, PD_12, SW_12, PD_13, SW_13, PD_14, SW_14, PD_15, SW_15, PD_16, SW_16, PD_17, SW_17, PD_18, SW_18, PD_19, SW_19, PD_20, SW_20, PD_21, SW_21, PD_22, SW_22, PD_23, SW_23, PD_24, SW_24, PD_25, SW_25, PD_26, SW_26, PD_27, SW_27, PD_28, SW_28, PD_29, SW_29]; omega)) (by omega) (by first | omega | (simp only [PD_1, SW_1, PD_2, SW_2, PD_3, SW_3, PD_4, SW_4, PD_5, SW_5, PD_6, SW_6, PD_7, SW_7, PD_8, SW_8, PD_9, SW_9, PD_10, SW_10, PD_11, SW_11, PD_12, SW_12, PD_13, SW_13, PD_14, SW_14, PD_15, SW_15, PD_16, SW_16, PD_17, SW_17, PD_18, SW_18, PD_19, SW_19, PD_20, SW_20, PD_21, SW_21, PD_22, SW_22, PD_23, SW_23, PD_24, SW_24, PD_25, SW_25, PD_26, SW_26, PD_27, SW_27, PD_28, SW_28, PD_29, SW_29]; omega))
  have j28 : ∀ c b, (0 ≤ c ∧ c < 65536) → (b = 0 ∧ c ≠ 91 ∨ b = 1) → pq d 43 28 [some (.inr (.inr 39)), some (.inl c), none] [.inl b, .inr (.inr 39)] (A, B, Y, K, T) (qV Q) := by
    intro c b hc hb
    refine pq_of 7 [(41, [])] [] ?_
    show (0 < d ∧ pzI (d - 1) 33 [.inr (.inr (39 : Nat)), .inl b] (A, B, Y, K, T) (fun n1 A1 B1 Y1 K1 T1 => ((-2147483648 ≤ n1 ∧ n1 < 2147483648) ∧ ((0 : Int) ≤ n1 → pq d 43 41 [some (.inr (.inr (39 : Nat))), some (.inl c), some (.inl n1)] [] (A1, B1, Y1, K1, T1) (qV Q)) ∧ (n1 < (0 : Int) → (0 < d ∧ pzV (d - 1) 9 [.inr (.inr (39 : Nat)), .inl (2 : Int)] (A1, B1, Y1, K1, T1) (fun A2 B2 Y2 K2 T2 => pq d 43 41 [some (.inr (.inr (39 : Nat))), some (.inl c), some (.inl n1)] [] (A2, B2, Y2, K2, T2) (qV Q)))))))
    refine ⟨by omega, h_named (by omega) h (by omega) (fun r hr => ⟨by omega, fun z => j41 c r hc (by omega), fun z => ⟨by omega, z_fail h (by omega) (by omega) (fun B1 q1 _ => ?_)⟩⟩)⟩
    refine pq_of 4 [(49, [])] [] ?_
    show ((-2147483648 ≤ (B1 39 10) ∧ (B1 39 10) < 2147483648) ∧ ((B1 39 10) ≤ (0 : Int) → pq d 43 49 [some (.inr (.inr (39 : Nat))), some (.inl c), some (.inl r)] [] (A, B1, Y, K, T) (qV Q)) ∧ ((0 : Int) < (B1 39 10) → Q A B1 Y K T))
    have g := PF_eq q1
    exact ⟨by omega, fun z => absurd z (by omega), fun _ => hq.1 _ _ _ _ q1⟩
  refine pzV_of 12 [(28, [])] [] ?_
  show (0 < d ∧ pzI (d - 1) 34 [.inr (.inr (39 : Nat))] (A, B, Y, K, T) (fun n1 A1 B1 Y1 K1 T1 => ((-2147483648 ≤ n1 ∧ n1 < 2147483648) ∧ (-2147483648 ≤ (40 : Int) ∧ (40 : Int) < 2147483648) ∧ (n1 ≠ (40 : Int) → ((-2147483648 ≤ n1 ∧ n1 < 2147483648) ∧ (-2147483648 ≤ (91 : Int) ∧ (91 : Int) < 2147483648) ∧ (n1 ≠ (91 : Int) → pq d 43 28 [some (.inr (.inr (39 : Nat))), some (.inl n1), none] [.inl (0 : Int), .inr (.inr (39 : Nat))] (A1, B1, Y1, K1, T1) (qV Q)) ∧ (n1 = (91 : Int) → pq d 43 28 [some (.inr (.inr (39 : Nat))), some (.inl n1), none] [.inl (1 : Int), .inr (.inr (39 : Nat))] (A1, B1, Y1, K1, T1) (qV Q)))) ∧ (n1 = (40 : Int) → (0 < d ∧ pzV (d - 1) 44 [.inr (.inr (39 : Nat))] (A1, B1, Y1, K1, T1) (fun A2 B2 Y2 K2 T2 => Q A2 B2 Y2 K2 T2))))))
  exact ⟨by omega, m_ahead (by omega) hK (by omega) t4 (fun c hc => ⟨by omega, by omega, fun z => ⟨by omega, by omega, fun w => j28 c 0 hc (Or.inl ⟨rfl, w⟩), fun w => j28 c 1 hc (Or.inr rfl)⟩, fun z => ⟨by omega, h_call (by omega) h htk hw hn ho hp hm hE hq⟩⟩)⟩
set_option maxRecDepth 100000 in
set_option maxHeartbeats 4000000 in
theorem h_single (hd : 16 ≤ d) (h : PZ B0 B Y st st cur op fr fr N F tp ow tk sc tm E ht rg bk) (hw : WT st (cur + 1) op) (hn : (st.length : Int) ≤ 20 * op + 12) (ho : 0 ≤ op ∧ op ≤ 10) (hp : N + PD st ≤ 3 * fr + 2) (hm : 64 * (3001 - fr) + SW st + 1 ≤ m) (hE : 0 ≤ E F.toNat) (hq : HQ B0 m A K T Q) : pzV d 42 [.inr (.inr 39)] (A, B, Y, K, T) Q := by
  obtain ⟨p1, p2, p3, p4, p5, p6, p7, p8⟩ := PZ_tk h
  have e := PZ_eq h
  have wl := WT_len hw
  have pd0 := PD_0 st
  have j29 : (tk = 45 ∨ tk = 126 ∨ tk = 33 ∨ tk = 40) → pq d 42 29 [some (.inr (.inr 39)), some (.inl (B 39 6))] [] (A, B, Y, K, T) (qV Q) := by
    intro ht
    refine pq_of 27 [] [] ?_
    show (0 < d ∧ pzV (d - 1) 16 [.inr (.inr (39 : Nat))] (A, B, Y, K, T) (fun A1 B1 Y1 K1 T1 => ((-2147483648 ≤ (B1 39 10) ∧ (B1 39 10) < 2147483648) ∧ ((B1 39 10) ≤ (0 : Int) → (0 < d ∧ pzV (d - 1) 5 [.inr (.inr (39 : Nat))] (A1, B1, Y1, K1, T1) (fun A2 B2 Y2 K2 T2 => ((-2147483648 ≤ (B 39 6) ∧ (B 39 6) < 2147483648) ∧ (-2147483648 ≤ (40 : Int) ∧ (40 : Int) < 2147483648) ∧ ((B 39 6) ≠ (40 : Int) → (0 < d ∧ pzV (d - 1) 20 [.inr (.inr (39 : Nat)), .inl (25 : Int), .inl (B 39 6), .inl (0 : Int), .inl (0 : Int), .inl (0 : Int)] (A2, B2, Y2, K2, T2) (fun A3 B3 Y3 K3 T3 => ((-2147483648 ≤ (B 39 6) ∧ (B 39 6) < 2147483648) ∧ (-2147483648 ≤ (40 : Int) ∧ (40 : Int) < 2147483648) ∧ ((B 39 6) ≠ (40 : Int) → (0 < d ∧ pzV (d - 1) 21 [.inr (.inr (39 : Nat)), .inl (24 : Int)] (A3, B3, Y3, K3, T3) (fun A4 B4 Y4 K4 T4 => Q A4 B4 Y4 K4 T4))) ∧ ((B 39 6) = (40 : Int) → (0 < d ∧ pzV (d - 1) 21 [.inr (.inr (39 : Nat)), .inl (17 : Int)] (A3, B3, Y3, K3, T3) (fun A5 B5 Y5 K5 T5 => Q A5 B5 Y5 K5 T5))))))) ∧ ((B 39 6) = (40 : Int) → (0 < d ∧ pzV (d - 1) 20 [.inr (.inr (39 : Nat)), .inl (26 : Int), .inl (B 39 6), .inl (0 : Int), .inl (0 : Int), .inl (0 : Int)] (A2, B2, Y2, K2, T2) (fun A6 B6 Y6 K6 T6 => ((-2147483648 ≤ (B 39 6) ∧ (B 39 6) < 2147483648) ∧ (-2147483648 ≤ (40 : Int) ∧ (40 : Int) < 2147483648) ∧ ((B 39 6) ≠ (40 : Int) → (0 < d ∧ pzV (d - 1) 21 [.inr (.inr (39 : Nat)), .inl (24 : Int)] (A6, B6, Y6, K6, T6) (fun A7 B7 Y7 K7 T7 => Q A7 B7 Y7 K7 T7))) ∧ ((B 39 6) = (40 : Int) → (0 < d ∧ pzV (d - 1) 21 [.inr (.inr (39 : Nat)), .inl (17 : Int)] (A6, B6, Y6, K6, T6) (fun A8 B8 Y8 K8 T8 => Q A8 B8 Y8 K8 T8))))))))))) ∧ ((0 : Int) < (B1 39 10) → Q A1 B1 Y1 K1 T1))))
    refine ⟨by omega, z_deeper (by omega) h ho (fun B1 f1 => ?_) (fun B1 o1 h1 s1 => ?_)⟩
    · have g := PF_eq f1
      exact ⟨by omega, fun z => absurd z (by omega), fun _ => hq.1 _ _ _ _ f1⟩
    · have e1 := PZ_eq h1
      refine ⟨by omega, fun _ => ⟨by omega, z_next (by omega) h1 (fun B2 Y2 f k g1 g2 h2 s2 => ?_)⟩, fun z => absurd z (by omega)⟩
      have g3 := g2 (by omega)
      refine ⟨by omega, by omega, fun z => ⟨by omega, z_wait h2 (by omega) (td_0 (by omega)) (fun B3 h3 s3 => ⟨by omega, by omega, fun _ => ⟨by omega, z_plain (by omega) h3 (by simp only [List.length_cons]; omega) (td_0 (by omega)) (fun B4 h4 s4 => ?_)⟩, fun w => absurd w z⟩)⟩, fun z => ⟨by omega, z_wait h2 (by omega) (td_0 (by omega)) (fun B3 h3 s3 => ⟨by omega, by omega, fun w => absurd z w, fun _ => ⟨by omega, z_plain (by omega) h3 (by simp only [List.length_cons]; omega) (td_0 (by omega)) (fun B4 h4 s4 => ?_)⟩⟩)⟩⟩
      · exact hq.2.1 _ _ _ _ _ _ _ _ _ _ _ _ _ _ _ _ _ h4 (WT_c2 (tt_24 (by simp only [List.length_cons]; omega)) (WT_c2 (tt_25 (by omega)) hw (by omega) (by omega)) rfl rfl) (by first | omega | (simp only [PD_1, SW_1, PD_2, SW_2, PD_3, SW_3, PD_4, SW_4, PD_5, SW_5, PD_6, SW_6, PD_7, SW_7, PD_8, SW_8, PD_9, SW_9, PD_10, SW_10, PD_11, SW_11, PD_12, SW_12, PD_13, SW_13, PD_14, SW_14, PD_15, SW_15, PD_16, SW_16, PD_17, SW_17, PD_18, SW_18, PD_19, SW_19, PD_20, SW_20, PD_21, SW_21, PD_22, SW_22, PD_23, SW_23, PD_24, SW_24, PD_25, SW_25, PD_26, SW_26, PD_27, SW_27, PD_28, SW_28, PD_29, SW_29]; omega)) (by omega) (by first | omega | (simp only [PD_1, SW_1, PD_2, SW_2, PD_3, SW_3, PD_4, SW_4, PD_5, SW_5, PD_6, SW_6, PD_7, SW_7, PD_8, SW_8, PD_9, SW_9, PD_10, SW_10, PD_11, SW_11, PD_12, SW_12, PD_13, SW_13, PD_14, SW_14, PD_15, SW_15, PD_16, SW_16, PD_17, SW_17, PD_18, SW_18, PD_19, SW_19, PD_20, SW_20, PD_21, SW_21, PD_22, SW_22, PD_23, SW_23, PD_24, SW_24, PD_25, SW_25, PD_26, SW_26, PD_27, SW_27, PD_28, SW_28, PD_29, SW_29]; omega))
      · exact hq.2.1 _ _ _ _ _ _ _ _ _ _ _ _ _ _ _ _ _ h4 (WT_c2 (tt_17 (by simp only [List.length_cons]; omega)) (WT_c2 (tt_26 (by omega)) hw (by omega) (by omega)) rfl rfl) (by first | omega | (simp only [PD_1, SW_1, PD_2, SW_2, PD_3, SW_3, PD_4, SW_4, PD_5, SW_5, PD_6, SW_6, PD_7, SW_7, PD_8, SW_8, PD_9, SW_9, PD_10, SW_10, PD_11, SW_11, PD_12, SW_12, PD_13, SW_13, PD_14, SW_14, PD_15, SW_15, PD_16, SW_16, PD_17, SW_17, PD_18, SW_18, PD_19, SW_19, PD_20, SW_20, PD_21, SW_21, PD_22, SW_22, PD_23, SW_23, PD_24, SW_24, PD_25, SW_25, PD_26, SW_26, PD_27, SW_27, PD_28, SW_28, PD_29, SW_29]; omega)) (by omega) (by first | omega | (simp only [PD_1, SW_1, PD_2, SW_2, PD_3, SW_3, PD_4, SW_4, PD_5, SW_5, PD_6, SW_6, PD_7, SW_7, PD_8, SW_8, PD_9, SW_9, PD_10, SW_10, PD_11, SW_11, PD_12, SW_12, PD_13, SW_13, PD_14, SW_14, PD_15, SW_15, PD_16, SW_16, PD_17, SW_17, PD_18, SW_18, PD_19, SW_19, PD_20, SW_20, PD_21, SW_21, PD_22, SW_22, PD_23, SW_23, PD_24, SW_24, PD_25, SW_25, PD_26, SW_26, PD_27, SW_27, PD_28, SW_28, PD_29, SW_29]; omega))
  have j86 : pq d 42 86 [some (.inr (.inr 39)), some (.inl (B 39 6))] [] (A, B, Y, K, T) (qV Q) := by
    have at0 := p2
    refine pq_of 17 [] [97] ?_
    show ((-2147483648 ≤ (B 39 6) ∧ (B 39 6) < 2147483648) ∧ (-2147483648 ≤ (2 : Int) ∧ (2 : Int) < 2147483648) ∧ ((B 39 6) ≠ (2 : Int) → ((-2147483648 ≤ (B 39 6) ∧ (B 39 6) < 2147483648) ∧ (-2147483648 ≤ (3 : Int) ∧ (3 : Int) < 2147483648) ∧ ((B 39 6) ≠ (3 : Int) → (0 < d ∧ pzV (d - 1) 9 [.inr (.inr (39 : Nat)), .inl (1 : Int)] (A, B, Y, K, T) (fun A1 B1 Y1 K1 T1 => Q A1 B1 Y1 K1 T1))) ∧ ((B 39 6) = (3 : Int) → (0 < d ∧ pzV (d - 1) 43 [.inr (.inr (39 : Nat))] (A, B, Y, K, T) (fun A2 B2 Y2 K2 T2 => Q A2 B2 Y2 K2 T2))))) ∧ ((B 39 6) = (2 : Int) → (∀ c3 : Int, -2147483648 ≤ c3 → c3 < 2147483648 → (0 < d ∧ pzV (d - 1) 15 [.inr (.inr (39 : Nat)), .inl (1 : Int), .inl c3, .inl (0 : Int)] (A, B, Y, K, T) (fun A4 B4 Y4 K4 T4 => (((0 : Int) = 0 ∨ (0 : Int) = 1) ∧ (0 < d ∧ pzV (d - 1) 5 [.inr (.inr (39 : Nat))] (A4, (zu B4 39 42 (0 : Int)), Y4, K4, T4) (fun A5 B5 Y5 K5 T5 => Q A5 B5 Y5 K5 T5))))))))
    refine ⟨by omega, by omega, fun z => ⟨by omega, by omega, fun w => ⟨by omega, z_fail h (by omega) (by omega) (fun B1 f1 _ => hq.1 _ _ _ _ f1)⟩, fun w => ⟨by omega, h_called (by omega) h (by omega) hw hn ho hp hm hE hq⟩⟩, fun z => ?_⟩
    intro c c1 c2
    have at1 := p2 (by omega)
    refine ⟨by omega, z_say (y := cur + 1) (fc' := (B 39 5)) h (by omega) (by omega) (Int.le_refl _) (by omega) (by omega) (Or.inl ⟨rfl, ⟨c1, c2⟩, rfl⟩) (fun B2 ht2 rg2 bk2 h2 s2 l2 => ⟨Or.inl rfl, by omega, z_next (by omega) (PZ_sec h2 (Or.inl rfl)) (fun B3 Y3 f3 k3 g1 g2 h3 s3 => ?_)⟩)⟩
    have g3 := g2 (by omega)
    exact hq.2.1 _ _ _ _ _ _ _ _ _ _ _ _ _ _ _ _ _ h3 hw (by first | omega | (simp only [PD_1, SW_1, PD_2, SW_2, PD_3, SW_3, PD_4, SW_4, PD_5, SW_5, PD_6, SW_6, PD_7, SW_7, PD_8, SW_8, PD_9, SW_9, PD_10, SW_10, PD_11, SW_11, PD_12, SW_12, PD_13, SW_13, PD_14, SW_14, PD_15, SW_15, PD_16, SW_16, PD_17, SW_17, PD_18, SW_18, PD_19, SW_19, PD_20, SW_20, PD_21, SW_21, PD_22, SW_22, PD_23, SW_23, PD_24, SW_24, PD_25, SW_25, PD_26, SW_26, PD_27, SW_27, PD_28, SW_28, PD_29, SW_29]; omega)) (by omega) (by first | omega | (simp only [PD_1, SW_1, PD_2, SW_2, PD_3, SW_3, PD_4, SW_4, PD_5, SW_5, PD_6, SW_6, PD_7, SW_7, PD_8, SW_8, PD_9, SW_9, PD_10, SW_10, PD_11, SW_11, PD_12, SW_12, PD_13, SW_13, PD_14, SW_14, PD_15, SW_15, PD_16, SW_16, PD_17, SW_17, PD_18, SW_18, PD_19, SW_19, PD_20, SW_20, PD_21, SW_21, PD_22, SW_22, PD_23, SW_23, PD_24, SW_24, PD_25, SW_25, PD_26, SW_26, PD_27, SW_27, PD_28, SW_28, PD_29, SW_29]; omega))
  refine pzV_of 15 [(29, []), (86, [])] [] ?_
  show ((-2147483648 ≤ (B 39 6) ∧ (B 39 6) < 2147483648) ∧ (-2147483648 ≤ (45 : Int) ∧ (45 : Int) < 2147483648) ∧ ((B 39 6) = (45 : Int) → pq d 42 29 [some (.inr (.inr (39 : Nat))), some (.inl (B 39 6))] [] (A, B, Y, K, T) (qV Q)) ∧ ((B 39 6) ≠ (45 : Int) → ((-2147483648 ≤ (B 39 6) ∧ (B 39 6) < 2147483648) ∧ (-2147483648 ≤ (126 : Int) ∧ (126 : Int) < 2147483648) ∧ ((B 39 6) = (126 : Int) → pq d 42 29 [some (.inr (.inr (39 : Nat))), some (.inl (B 39 6))] [] (A, B, Y, K, T) (qV Q)) ∧ ((B 39 6) ≠ (126 : Int) → ((-2147483648 ≤ (B 39 6) ∧ (B 39 6) < 2147483648) ∧ (-2147483648 ≤ (33 : Int) ∧ (33 : Int) < 2147483648) ∧ ((B 39 6) = (33 : Int) → pq d 42 29 [some (.inr (.inr (39 : Nat))), some (.inl (B 39 6))] [] (A, B, Y, K, T) (qV Q)) ∧ ((B 39 6) ≠ (33 : Int) → ((-2147483648 ≤ (B 39 6) ∧ (B 39 6) < 2147483648) ∧ (-2147483648 ≤ (40 : Int) ∧ (40 : Int) < 2147483648) ∧ ((B 39 6) ≠ (40 : Int) → pq d 42 86 [some (.inr (.inr (39 : Nat))), some (.inl (B 39 6))] [] (A, B, Y, K, T) (qV Q)) ∧ ((B 39 6) = (40 : Int) → pq d 42 29 [some (.inr (.inr (39 : Nat))), some (.inl (B 39 6))] [] (A, B, Y, K, T) (qV Q)))))))))
  exact ⟨by omega, by omega, fun z => j29 (by omega), fun _ => ⟨by omega, by omega, fun z => j29 (by omega), fun _ => ⟨by omega, by omega, fun z => j29 (by omega), fun _ => ⟨by omega, by omega, fun z => j86, fun z => j29 (by omega)⟩⟩⟩⟩
end EXPR
end
section
/-! The model's parser: statements -/
section STM
variable {d : Nat} {A B0 B Y : zF} {K : Nat} {T : zT} {st vs vs' : List zE} {cur op fr fc N F tp ow tk sc tm m on tn : Int} {E ht rg bk : Nat → Int} {Q : zF → zF → zF → Nat → zT → Prop}
theorem PZ_perm (h : PZ B0 B Y st vs cur op fr fc N F tp ow tk sc tm E ht rg bk) (hv : ∀ e, e ∈ vs ↔ e ∈ vs') : PZ B0 B Y st vs' cur op fr fc N F tp ow tk sc tm E ht rg bk := by
  obtain ⟨a1, a2, a3, a4, a5, a6, a7, a8, a9, a10, a11, a12⟩ := h
  refine ⟨a1, a2, a3, a4, a5, a6, a7, a8, a9, a10, CT_pn a11 (fun p hp => ?_), fun x hx => a12 x ((hv x).mpr hx)⟩
  obtain ⟨x, hx, h1⟩ := hp
  exact ⟨x, (hv x).mp hx, h1⟩
/-- a task is put on the pile whose jump is not said yet -/
theorem PZ_push0 (h : PZ B0 B Y st vs cur op fr fc N F tp ow tk sc tm E ht rg bk) (w a b c e : Int) : PZ B0 (mW B st.length w a b c e) Y ((w, a, b, c, e) :: st) vs cur op fr fc N F tp ow tk sc tm E ht rg bk := by
  obtain ⟨a1, a2, a3, a4, ⟨f1, f2, f3, f4, f5, f6, f7, f8, f9, f10, f11⟩, a5, a6, a7, a8, a9, a10, a11⟩ := h
  exact ⟨FR_tr a1 (FR_rf _), a2, a3, a4, ⟨f1, f2, f3, f4, f5, f6, f7, f8, f9, f10, f11⟩, a5, a6, a7, a8, skk_push a9 w a b c e, a10, a11⟩
theorem z_wait0 {w a b c e : Int} (h : PZ B0 B Y st vs cur op fr fc N F tp ow tk sc tm E ht rg bk) (hn : st.length < 2000) (q : ∀ B', PZ B0 B' Y ((w, a, b, c, e) :: st) vs cur op fr fc N F tp ow tk sc tm E ht rg bk → Q A B' Y K T) : pzV d 20 [.inr (.inr 39), .inl w, .inl a, .inl b, .inl c, .inl e] (A, B, Y, K, T) Q :=
  m_wait (PZ_eq h).2.2.2.2.2.2.2.2.2.2.2 hn (q _ (PZ_push0 h w a b c e))
theorem f_forbid {w p : Int} (h : PF B0 B Y on tn) (hw : -2147483648 ≤ w ∧ w < 2147483648) (hp : -2147483648 ≤ p ∧ p < 2147483648) (q : ∀ B', PF B0 B' Y on tn → Q A B' Y K T) : pzV d 12 [.inr (.inr 39), .inl w, .inl p] (A, B, Y, K, T) Q := by
  obtain ⟨b1, b2, b3, b4, b5, b6, b7, b8, b9, b10⟩ := h
  exact m_forbid b10.1 b10.2.1 hw hp (fun x y hx hy => q _ ⟨FR_tr b1 (FR_rf _), b2, b3, b4, b5, b6, b7, b8, b9, ⟨hx, hy, b10.2.2⟩⟩)
theorem f_deeper (hd : 1 ≤ d) (h : PF B0 B Y on tn) (ho : -2147483648 ≤ (B 39 20) ∧ (B 39 20) < 2147483647) (q : ∀ B', PF B0 B' Y on tn → Q A B' Y K T) : pzV d 16 [.inr (.inr 39)] (A, B, Y, K, T) Q := by
  have g := PF_eq h
  obtain ⟨b1, b2, b3, b4, b5, ⟨b6, b7, b8⟩, b10⟩ := h
  exact m_deeper hd b5 (by omega) ho (fun x x1 x2 _ => q _ ⟨FR_tr b1 (FR_rf _), b2, b3, b4, ⟨by show 0 ≤ x; omega, x2⟩, ⟨by show x ≠ 0; omega, b7, b8⟩, b10⟩) (fun _ => q _ ⟨FR_tr b1 (FR_rf _), b2, b3, b4, b5, ⟨b6, b7, b8⟩, b10⟩)
set_option maxRecDepth 100000 in
set_option maxHeartbeats 4000000 in
theorem h_block (hd : 8 ≤ d) (h : PZ B0 B Y st st cur op fr fr N F tp ow tk sc tm E ht rg bk) (hc : cur = 0) (hw : WT st 0 op) (hn : (st.length : Int) ≤ 20 * op - 13) (ho : 1 ≤ op ∧ op ≤ 10) (hp : N + PD st ≤ 3 * fr + 4) (hm : 64 * (3001 - fr) + SW st ≤ m + 50) (hq : HQ B0 m A K T Q) : pzV d 31 [.inr (.inr 39)] (A, B, Y, K, T) Q := by
  obtain ⟨p1, p2, p3, p4, p5, p6, p7, p8⟩ := PZ_tk h
  have e := PZ_eq h
  have wl := WT_len hw
  have pd0 := PD_0 st
  refine pzV_of 10 [] [] ?_
  show (0 < d ∧ pzV (d - 1) 11 [.inr (.inr (39 : Nat)), .inl (123 : Int)] (A, B, Y, K, T) (fun A1 B1 Y1 K1 T1 => (0 < d ∧ pzV (d - 1) 21 [.inr (.inr (39 : Nat)), .inl (12 : Int)] (A1, B1, Y1, K1, T1) (fun A2 B2 Y2 K2 T2 => (0 < d ∧ pzV (d - 1) 21 [.inr (.inr (39 : Nat)), .inl (5 : Int)] (A2, B2, Y2, K2, T2) (fun A3 B3 Y3 K3 T3 => Q A3 B3 Y3 K3 T3))))))
  refine ⟨by omega, z_must (by omega) h (by omega) (by omega) (fun B1 f1 => ⟨by omega, f_plain (by omega) f1 (by omega) (fun B2 f2 => ⟨by omega, f_plain (by omega) f2 (by omega) (fun B3 f3 => hq.1 _ _ _ _ f3)⟩)⟩) (fun B1 Y1 f k z g1 g2 h1 s1 => ⟨by omega, z_plain (by omega) h1 (by omega) (td_0 (by omega)) (fun B2 h2 s2 => ⟨by omega, z_plain (by omega) h2 (by simp only [List.length_cons, true_and, and_true]; omega) (td_0 (by omega)) (fun B3 h3 s3 => ?_)⟩)⟩)⟩
  have g3 := g2 (by omega)
  exact hq.2.1 _ _ _ _ _ _ _ _ _ _ _ _ _ _ _ _ _ h3 (WT_c2 (tt_5 (by simp only [List.length_cons, true_and, and_true]; omega)) (WT_c2 (tt_12 (by omega)) hw (by omega) (by omega)) rfl rfl) (by first | omega | (simp only [PD_1, SW_1, PD_2, SW_2, PD_3, SW_3, PD_4, SW_4, PD_5, SW_5, PD_6, SW_6, PD_7, SW_7, PD_8, SW_8, PD_9, SW_9, PD_10, SW_10, PD_11, SW_11, PD_12, SW_12, PD_13, SW_13, PD_14, SW_14, PD_15, SW_15, PD_16, SW_16, PD_17, SW_17, PD_18, SW_18, PD_19, SW_19, PD_20, SW_20, PD_21, SW_21, PD_22, SW_22, PD_23, SW_23, PD_24, SW_24, PD_25, SW_25, PD_26, SW_26, PD_27, SW_27, PD_28, SW_28, PD_29, SW_29]; omega)) (by omega) (by first | omega | (simp only [PD_1, SW_1, PD_2, SW_2, PD_3, SW_3, PD_4, SW_4, PD_5, SW_5, PD_6, SW_6, PD_7, SW_7, PD_8, SW_8, PD_9, SW_9, PD_10, SW_10, PD_11, SW_11, PD_12, SW_12, PD_13, SW_13, PD_14, SW_14, PD_15, SW_15, PD_16, SW_16, PD_17, SW_17, PD_18, SW_18, PD_19, SW_19, PD_20, SW_20, PD_21, SW_21, PD_22, SW_22, PD_23, SW_23, PD_24, SW_24, PD_25, SW_25, PD_26, SW_26, PD_27, SW_27, PD_28, SW_28, PD_29, SW_29]; omega))
set_option maxRecDepth 100000 in
set_option maxHeartbeats 4000000 in
theorem h_branch {p : Int} {x : zE} {Q : Int → zF → zF → zF → Nat → zT → Prop} (hd : 4 ≤ d) (h : PZ B0 B Y st vs cur op fr fc N F tp ow tk sc tm E ht rg bk) (hN : N < 11990) (hc : cur = 1) (hpi : -2147483648 ≤ p ∧ p < 2147483648) (hx : x.1 = 8 ∨ x.1 = 11) (hx1 : x.2.1 = N) (hxb : x.1 = 11 → (1 ≤ x.2.2.1 ∧ x.2.2.1 ≤ tm) ∧ ht x.2.2.1.toNat = 0 ∧ rg x.2.2.1.toNat = F ∧ bk x.2.2.1.toNat = 0) (q : ∀ B' ht' rg' bk', PZ B0 B' Y st (x :: vs) 0 op fr fc (N + 1) F tp ow tk sc tm E ht' rg' bk' → Q N A B' Y K T) : pzI d 30 [.inr (.inr 39), .inl p] (A, B, Y, K, T) Q := by
  obtain ⟨p1, p2, p3, p4, p5, p6, p7, p8⟩ := PZ_tk h
  have e := PZ_eq h
  have j14 : ∀ B1, PZ B0 B1 Y st vs cur op fr fc N F tp ow tk sc tm E ht rg bk → pq d 30 14 [some (.inr (.inr 39)), some (.inl p)] [] (A, B1, Y, K, T) (qI Q) := by
    intro B1 h1
    have e1 := PZ_eq h1
    refine pq_of 10 [] [] ?_
    show (0 < d ∧ pzV (d - 1) 15 [.inr (.inr (39 : Nat)), .inl (14 : Int), .inl (0 : Int), .inl p] (A, B1, Y, K, T) (fun A1 B1 Y1 K1 T1 => Q ((B1 39 38) - (1 : Int)) A1 B1 Y1 K1 T1))
    refine ⟨by omega, m_say (by omega) (by omega) ?_⟩
    have key := PZ_jmp (w := 14) (a := 0) (b := p) h1 (Or.inl ⟨rfl, hc⟩) (x := x) ⟨by omega, hx1⟩ (fun o' ht' rg' bk' w1 w2 w3 w4 => ?_)
    · have e2 : (B1 39 38) + 1 - 1 = N := by omega
      have q2 := q _ _ _ _ key
      rw [← e2] at q2
      exact q2
    · refine ⟨?_, ?_, ?_, ?_, ?_, ?_, ?_, ?_, ?_, ?_, ?_, ?_, ?_, ?_⟩ <;> intro z <;> first | omega | skip
      · rw [hx1]
        exact ⟨by omega, w1, w2, w3⟩
      · obtain ⟨⟨b1, b2⟩, b3, b4, b5⟩ := hxb (by omega)
        obtain ⟨v1, v2, v3⟩ := w4 x.2.2.1.toNat (by omega) (by omega)
        rw [v1, v2, v3]
        exact ⟨⟨b1, b2⟩, b3, b4, b5⟩
  refine pzI_of 7 [(14, [])] [] ?_
  show ((-2147483648 ≤ (B 39 42) ∧ (B 39 42) < 2147483648) ∧ ((B 39 42) = (0 : Int) → pq d 30 14 [some (.inr (.inr (39 : Nat))), some (.inl p)] [] (A, B, Y, K, T) (qI Q)) ∧ ((B 39 42) ≠ (0 : Int) → (0 < d ∧ pzV (d - 1) 12 [.inr (.inr (39 : Nat)), .inl (6 : Int), .inl p] (A, B, Y, K, T) (fun A1 B1 Y1 K1 T1 => pq d 30 14 [some (.inr (.inr (39 : Nat))), some (.inl p)] [] (A1, B1, Y1, K1, T1) (qI Q)))))
  exact ⟨by omega, fun _ => j14 B h, fun _ => ⟨by omega, z_forbid h (by omega) hpi (fun B1 h1 s1 => j14 B1 h1)⟩⟩
set_option maxRecDepth 100000 in
set_option maxHeartbeats 4000000 in
theorem h_ifDone {b c1 c2 c3 : Int} (hd : 10 ≤ d) (h : PZ B0 B Y st ((8, b, c1, c2, c3) :: st) cur op fr fr N F tp ow tk sc tm E ht rg bk) (hc : cur = 0) (hw : WT st 0 op) (hn : (st.length : Int) ≤ 20 * op - 14) (ho : 1 ≤ op ∧ op ≤ 10) (hp : N + PD st ≤ 3 * fr + 2) (hm : 64 * (3001 - fr) + SW st + 1 ≤ m) (hq : HQ B0 m A K T Q) : pzV d 32 [.inr (.inr 39), .inl b] (A, B, Y, K, T) Q := by
  obtain ⟨p1, p2, p3, p4, p5, p6, p7, p8⟩ := PZ_tk h
  have e := PZ_eq h
  have wl := WT_len hw
  have pd0 := PD_0 st
  have hb : 1 ≤ b ∧ b < N := by
    obtain ⟨-, -, -, -, -, -, -, -, -, -, -, hTD⟩ := id h
    exact ((hTD _ List.mem_cons_self).2.2.1 (Or.inl rfl)).1
  refine pzV_of 26 [] [] ?_
  show (0 < d ∧ pzI (d - 1) 10 [.inr (.inr (39 : Nat)), .inl (9 : Int)] (A, B, Y, K, T) (fun n1 A1 B1 Y1 K1 T1 => ((-2147483648 ≤ n1 ∧ n1 < 2147483648) ∧ (n1 ≠ (0 : Int) → (0 < d ∧ pzV (d - 1) 20 [.inr (.inr (39 : Nat)), .inl (9 : Int), .inl (B1 39 38), .inl (0 : Int), .inl (0 : Int), .inl (0 : Int)] (A1, B1, Y1, K1, T1) (fun A2 B2 Y2 K2 T2 => (0 < d ∧ pzV (d - 1) 15 [.inr (.inr (39 : Nat)), .inl (15 : Int), .inl (0 : Int), .inl (0 : Int)] (A2, B2, Y2, K2, T2) (fun A3 B3 Y3 K3 T3 => ((0 ≤ b ∧ b < (12000 : Int)) ∧ (0 < d ∧ pzV (d - 1) 31 [.inr (.inr (39 : Nat))] (A3, (zu B3 59 (b).toNat (B3 39 38)), Y3, K3, T3) (fun A4 B4 Y4 K4 T4 => Q A4 B4 Y4 K4 T4)))))))) ∧ (n1 = (0 : Int) → ((0 ≤ b ∧ b < (12000 : Int)) ∧ Q A1 (zu B1 59 (b).toNat (B1 39 38)) Y1 K1 T1)))))
  refine ⟨by omega, z_meets (by omega) h (by omega) (fun z => ⟨by omega, fun w => absurd rfl w, fun _ => ⟨by omega, ?_⟩⟩) (fun B1 Y1 f k z g1 g2 h1 s1 => ⟨by omega, fun _ => ⟨by omega, ?_⟩, fun w => absurd w (by omega)⟩)⟩
  · have h2 := PZ_patch (a := b) h rfl (Or.inr (Or.inl rfl)) hc
    rw [e.2.2.2.1]
    subst hc
    exact hq.2.1 _ _ _ _ _ _ _ _ _ _ _ _ _ _ _ _ _ h2 hw (by first | omega | (simp only [PD_1, SW_1, PD_2, SW_2, PD_3, SW_3, PD_4, SW_4, PD_5, SW_5, PD_6, SW_6, PD_7, SW_7, PD_8, SW_8, PD_9, SW_9, PD_10, SW_10, PD_11, SW_11, PD_12, SW_12, PD_13, SW_13, PD_14, SW_14, PD_15, SW_15, PD_16, SW_16, PD_17, SW_17, PD_18, SW_18, PD_19, SW_19, PD_20, SW_20, PD_21, SW_21, PD_22, SW_22, PD_23, SW_23, PD_24, SW_24, PD_25, SW_25, PD_26, SW_26, PD_27, SW_27, PD_28, SW_28, PD_29, SW_29]; omega)) (by omega) (by first | omega | (simp only [PD_1, SW_1, PD_2, SW_2, PD_3, SW_3, PD_4, SW_4, PD_5, SW_5, PD_6, SW_6, PD_7, SW_7, PD_8, SW_8, PD_9, SW_9, PD_10, SW_10, PD_11, SW_11, PD_12, SW_12, PD_13, SW_13, PD_14, SW_14, PD_15, SW_15, PD_16, SW_16, PD_17, SW_17, PD_18, SW_18, PD_19, SW_19, PD_20, SW_20, PD_21, SW_21, PD_22, SW_22, PD_23, SW_23, PD_24, SW_24, PD_25, SW_25, PD_26, SW_26, PD_27, SW_27, PD_28, SW_28, PD_29, SW_29]; omega))
  · have g3 := g2 (by omega)
    have e1 := PZ_eq h1
    rw [e1.2.2.2.1]
    refine z_wait0 h1 (by omega) (fun B2 h2 => ⟨by omega, m_say (by have := PZ_eq h2; omega) (by have := PZ_eq h2; omega) ?_⟩)
    have e2 := PZ_eq h2
    have h3 := PZ_jmp (w := 15) (a := 0) (b := 0) h2 (Or.inr ⟨rfl, hc⟩) (x := (9, N, 0, 0, 0)) ⟨by omega, rfl⟩ (fun o' ht' rg' bk' w1 w2 w3 w4 => ?_)
    · have h4 := PZ_patch (x := (8, b, c1, c2, c3)) (a := b) (PZ_perm (vs' := (8, b, c1, c2, c3) :: (9, N, 0, 0, 0) :: st) h3 (fun x => by simp only [List.mem_cons]; exact ⟨fun z => by rcases z with z | z | z <;> simp [z], fun z => by rcases z with z | z | z <;> simp [z]⟩)) rfl (Or.inr (Or.inl rfl)) rfl
      refine ⟨by omega, by omega, ?_⟩
      have eo : (zu (zu (zu (zu B2 58 (B2 39 38).toNat 15) 59 (B2 39 38).toNat 0) 60 (B2 39 38).toNat 0) 39 38 ((B2 39 38) + 1)) 39 38 = N + 1 := by
        show (B2 39 38) + 1 = N + 1
        omega
      rw [show (B2 39 38) + 1 = N + 1 by omega] at h4 ⊢
      exact h_block (by omega) h4 rfl (WT_c2 (tt_9 (by omega)) hw (by omega) (by omega)) (by simp only [List.length_cons, true_and, and_true]; omega) ho (by first | omega | (simp only [PD_1, SW_1, PD_2, SW_2, PD_3, SW_3, PD_4, SW_4, PD_5, SW_5, PD_6, SW_6, PD_7, SW_7, PD_8, SW_8, PD_9, SW_9, PD_10, SW_10, PD_11, SW_11, PD_12, SW_12, PD_13, SW_13, PD_14, SW_14, PD_15, SW_15, PD_16, SW_16, PD_17, SW_17, PD_18, SW_18, PD_19, SW_19, PD_20, SW_20, PD_21, SW_21, PD_22, SW_22, PD_23, SW_23, PD_24, SW_24, PD_25, SW_25, PD_26, SW_26, PD_27, SW_27, PD_28, SW_28, PD_29, SW_29]; omega)) (by first | omega | (simp only [PD_1, SW_1, PD_2, SW_2, PD_3, SW_3, PD_4, SW_4, PD_5, SW_5, PD_6, SW_6, PD_7, SW_7, PD_8, SW_8, PD_9, SW_9, PD_10, SW_10, PD_11, SW_11, PD_12, SW_12, PD_13, SW_13, PD_14, SW_14, PD_15, SW_15, PD_16, SW_16, PD_17, SW_17, PD_18, SW_18, PD_19, SW_19, PD_20, SW_20, PD_21, SW_21, PD_22, SW_22, PD_23, SW_23, PD_24, SW_24, PD_25, SW_25, PD_26, SW_26, PD_27, SW_27, PD_28, SW_28, PD_29, SW_29]; omega)) hq
    · refine ⟨?_, ?_, ?_, fun _ => ⟨⟨by show 1 ≤ N; omega, by show N < N + 1; omega⟩, w1, w2, w3⟩, ?_, ?_, ?_, ?_, ?_, ?_, ?_, ?_, ?_, ?_⟩ <;> (intro z; omega)
set_option maxRecDepth 100000 in
set_option maxHeartbeats 4000000 in
theorem h_assigned {k b p : Int} (hd : 8 ≤ d) (h : PZ B0 B Y st st cur op fr fr N F tp ow tk sc tm E ht rg bk) (hb : b = 0 ∨ b = 1) (hk : (100 ≤ k ∧ k < 112 ∧ b = 0) ∨ (0 ≤ k ∧ k < tp)) (hpi : -2147483648 ≤ p ∧ p < 2147483648) (hc : cur = b + 1) (hw : WT st 0 (op - 1)) (hn : st.length ≤ 1000) (ho : 1 ≤ op ∧ op ≤ 10) (hp : N + 1 + PD st ≤ 3 * fr + 2) (hm : 64 * (3001 - fr) + SW st + 1 ≤ m) (hq : HQ B0 m A K T Q) : pzV d 36 [.inr (.inr 39), .inl k, .inl b, .inl p] (A, B, Y, K, T) Q := by
  obtain ⟨p1, p2, p3, p4, p5, p6, p7, p8⟩ := PZ_tk h
  have e := PZ_eq h
  have wl := WT_len hw
  have pd0 := PD_0 st
  have j92 : ∀ B1 ht1 rg1 bk1, PZ B0 B1 Y st st 0 op fr fr (N + 1) F tp ow tk sc tm E ht1 rg1 bk1 → pq d 36 92 [some (.inr (.inr 39)), none, none, none, none] [] (A, B1, Y, K, T) (qV Q) := by
    intro B1 ht1 rg1 bk1 h1
    refine pq_of 10 [] [] ?_
    show (0 < d ∧ pzV (d - 1) 11 [.inr (.inr (39 : Nat)), .inl (59 : Int)] (A, B1, Y, K, T) (fun A1 B1 Y1 K1 T1 => Q A1 (zu B1 39 20 ((B1 39 20) - (1 : Int))) Y1 K1 T1))
    refine ⟨by omega, z_must (by omega) h1 (by omega) (by omega) (fun B2 f2 => hq.1 _ _ _ _ (PF_open f2 _)) (fun B2 Y2 f k z g1 g2 h2 s2 => ?_)⟩
    have g3 := g2 (by omega)
    have e2 := PZ_eq h2
    have hw2 : WT st 0 ((B2 39 20) - 1) := by rw [e2.2.1]; exact hw
    have h3 := PZ_open h2 ((B2 39 20) - 1)
    exact hq.2.1 _ _ _ _ _ _ _ _ _ _ _ _ _ _ _ _ _ h3 hw2 (by first | omega | (simp only [PD_1, SW_1, PD_2, SW_2, PD_3, SW_3, PD_4, SW_4, PD_5, SW_5, PD_6, SW_6, PD_7, SW_7, PD_8, SW_8, PD_9, SW_9, PD_10, SW_10, PD_11, SW_11, PD_12, SW_12, PD_13, SW_13, PD_14, SW_14, PD_15, SW_15, PD_16, SW_16, PD_17, SW_17, PD_18, SW_18, PD_19, SW_19, PD_20, SW_20, PD_21, SW_21, PD_22, SW_22, PD_23, SW_23, PD_24, SW_24, PD_25, SW_25, PD_26, SW_26, PD_27, SW_27, PD_28, SW_28, PD_29, SW_29]; omega)) (by omega) (by first | omega | (simp only [PD_1, SW_1, PD_2, SW_2, PD_3, SW_3, PD_4, SW_4, PD_5, SW_5, PD_6, SW_6, PD_7, SW_7, PD_8, SW_8, PD_9, SW_9, PD_10, SW_10, PD_11, SW_11, PD_12, SW_12, PD_13, SW_13, PD_14, SW_14, PD_15, SW_15, PD_16, SW_16, PD_17, SW_17, PD_18, SW_18, PD_19, SW_19, PD_20, SW_20, PD_21, SW_21, PD_22, SW_22, PD_23, SW_23, PD_24, SW_24, PD_25, SW_25, PD_26, SW_26, PD_27, SW_27, PD_28, SW_28, PD_29, SW_29]; omega))
  have j45 : ∀ B1, PZ B0 B1 Y st st cur op fr fr N F tp ow tk sc tm E ht rg bk → pq d 36 45 [some (.inr (.inr 39)), some (.inl k), some (.inl b), none, none] [] (A, B1, Y, K, T) (qV Q) := by
    intro B1 h1
    have e1 := PZ_eq h1
    have at1 : fr ≤ (B1 39 5) := e1.2.2.2.2.2.2.2.2.2.2.1
    obtain ⟨-, -, -, -, -, hD1, -⟩ := id h1
    have hc2 := hD1.2.1
    refine pq_of 13 [(92, [1, 2])] [] ?_
    show ((-2147483648 ≤ b ∧ b < 2147483648) ∧ (b = (0 : Int) → ((-2147483648 ≤ k ∧ k < 2147483648) ∧ (-2147483648 ≤ (99 : Int) ∧ (99 : Int) < 2147483648) ∧ (k ≤ (99 : Int) → ((0 ≤ k ∧ k < (40 : Int)) ∧ (0 < d ∧ pzV (d - 1) 15 [.inr (.inr (39 : Nat)), .inl (5 : Int), .inl (B1 46 (k).toNat), .inl (0 : Int)] (A, B1, Y, K, T) (fun A1 B1 Y1 K1 T1 => pq d 36 92 [some (.inr (.inr (39 : Nat))), none, none, none, none] [] (A1, B1, Y1, K1, T1) (qV Q))))) ∧ ((99 : Int) < k → (0 < d ∧ pzV (d - 1) 15 [.inr (.inr (39 : Nat)), .inl (6 : Int), .inl (k - (100 : Int)), .inl (0 : Int)] (A, B1, Y, K, T) (fun A2 B2 Y2 K2 T2 => pq d 36 92 [some (.inr (.inr (39 : Nat))), none, none, none, none] [] (A2, B2, Y2, K2, T2) (qV Q)))))) ∧ (b ≠ (0 : Int) → (0 < d ∧ pzV (d - 1) 15 [.inr (.inr (39 : Nat)), .inl (7 : Int), .inl k, .inl (0 : Int)] (A, B1, Y, K, T) (fun A3 B3 Y3 K3 T3 => pq d 36 92 [some (.inr (.inr (39 : Nat))), none, none, none, none] [] (A3, B3, Y3, K3, T3) (qV Q)))))
    refine ⟨by omega, fun z => ⟨by omega, by omega, fun w => ⟨by omega, ?_⟩, fun w => ⟨by omega, z_say (y := 0) (fc' := fr) h1 (by omega) (Int.le_refl _) at1 (by omega) (by omega) (Or.inr (Or.inr (Or.inr (Or.inr (Or.inr (Or.inl ⟨rfl, by omega, by omega, by omega⟩)))))) (fun B2 ht2 rg2 bk2 h2 s2 l2 => j92 B2 ht2 rg2 bk2 h2)⟩⟩, fun z => ⟨by omega, z_say (y := 0) (fc' := fr) h1 (by omega) (Int.le_refl _) at1 (by omega) (by omega) (Or.inr (Or.inr (Or.inr (Or.inr (Or.inr (Or.inr (Or.inl ⟨rfl, by omega, by omega, by omega⟩))))))) (fun B2 ht2 rg2 bk2 h2 s2 l2 => j92 B2 ht2 rg2 bk2 h2)⟩⟩
    have hk2 := hD1.2.2.1 k.toNat (by omega)
    exact ⟨by omega, z_say (y := 0) (fc' := fr) h1 (by omega) (Int.le_refl _) at1 (by omega) (by omega) (Or.inr (Or.inr (Or.inr (Or.inr (Or.inl ⟨rfl, by omega, by omega, by omega⟩))))) (fun B2 ht2 rg2 bk2 h2 s2 l2 => j92 B2 ht2 rg2 bk2 h2)⟩
  obtain ⟨-, -, -, -, -, hD, hO, -⟩ := id h
  have j24 : ∀ x, (x = 0 ∨ x = 1) → pq d 36 24 [some (.inr (.inr 39)), some (.inl k), some (.inl b), some (.inl p), none] [.inl x] (A, B, Y, K, T) (qV Q) := by
    intro x hx
    refine pq_of 10 [(45, [3, 4])] [] ?_
    show ((-2147483648 ≤ (B 39 42) ∧ (B 39 42) < 2147483648) ∧ ((B 39 42) = (0 : Int) → pq d 36 45 [some (.inr (.inr (39 : Nat))), some (.inl k), some (.inl b), none, none] [] (A, B, Y, K, T) (qV Q)) ∧ ((B 39 42) ≠ (0 : Int) → ((-2147483648 ≤ x ∧ x < 2147483648) ∧ (x ≠ (0 : Int) → pq d 36 45 [some (.inr (.inr (39 : Nat))), some (.inl k), some (.inl b), none, none] [] (A, B, Y, K, T) (qV Q)) ∧ (x = (0 : Int) → (0 < d ∧ pzV (d - 1) 12 [.inr (.inr (39 : Nat)), .inl (8 : Int), .inl p] (A, B, Y, K, T) (fun A1 B1 Y1 K1 T1 => pq d 36 45 [some (.inr (.inr (39 : Nat))), some (.inl k), some (.inl b), none, none] [] (A1, B1, Y1, K1, T1) (qV Q)))))))
    exact ⟨by omega, fun _ => j45 B h, fun _ => ⟨by omega, fun _ => j45 B h, fun _ => ⟨by omega, z_forbid h (by omega) hpi (fun B1 h1 s1 => j45 B1 h1)⟩⟩⟩
  refine pzV_of 10 [(24, [])] [] ?_
  show ((-2147483648 ≤ k ∧ k < 2147483648) ∧ (-2147483648 ≤ (99 : Int) ∧ (99 : Int) < 2147483648) ∧ (k ≤ (99 : Int) → ((0 ≤ k ∧ k < (40 : Int)) ∧ pq d 36 24 [some (.inr (.inr (39 : Nat))), some (.inl k), some (.inl b), some (.inl p), none] [.inl (B 47 (k).toNat)] (A, B, Y, K, T) (qV Q))) ∧ ((99 : Int) < k → ((0 ≤ (k - (100 : Int)) ∧ (k - (100 : Int)) < (12 : Int)) ∧ pq d 36 24 [some (.inr (.inr (39 : Nat))), some (.inl k), some (.inl b), some (.inl p), none] [.inl (B 48 ((k - (100 : Int))).toNat)] (A, B, Y, K, T) (qV Q))))
  exact ⟨by omega, by omega, fun z => ⟨by omega, j24 _ (hD.2.2.2 _)⟩, fun z => ⟨by omega, j24 _ (hO.2.2 _)⟩⟩
set_option maxRecDepth 100000 in
set_option maxHeartbeats 4000000 in
theorem h_assignment (hd : 12 ≤ d) (h : PZ B0 B Y st st cur op fr fr N F tp ow tk sc tm E ht rg bk) (htk : tk = 3) (hc : cur = 0) (hw : WT st 0 op) (hn : (st.length : Int) ≤ 20 * op + 4) (ho : 0 ≤ op ∧ op ≤ 10) (hp : N + PD st ≤ 3 * fr + 2) (hm : 64 * (3001 - fr) + SW st ≤ m) (hq : HQ B0 m A K T Q) : pzV d 35 [.inr (.inr 39)] (A, B, Y, K, T) Q := by
  obtain ⟨p1, p2, p3, p4, p5, p6, p7, p8⟩ := PZ_tk h
  have e := PZ_eq h
  have wl := WT_len hw
  have pd0 := PD_0 st
  obtain ⟨-, hK, -, ⟨t1, t2, t3, t4, t5, t6⟩, -⟩ := id h
  have j30f : ∀ B1 b r on, on ≤ 11000 → PF B0 B1 Y on (st.length : Int) → (B1 39 20) = op → pq d 35 30 [some (.inr (.inr 39)), some (.inl b), some (.inl r)] [] (A, B1, Y, K, T) (qV Q) := by
    intro B1 b r on hon f1 o1
    refine pq_of 6 [(42, [])] [] ?_
    show (0 < d ∧ pzV (d - 1) 16 [.inr (.inr (39 : Nat))] (A, B1, Y, K, T) (fun A1 B1 Y1 K1 T1 => ((-2147483648 ≤ (B1 39 10) ∧ (B1 39 10) < 2147483648) ∧ ((B1 39 10) ≤ (0 : Int) → pq d 35 42 [some (.inr (.inr (39 : Nat))), some (.inl b), some (.inl r)] [] (A1, B1, Y1, K1, T1) (qV Q)) ∧ ((0 : Int) < (B1 39 10) → Q A1 B1 Y1 K1 T1))))
    refine ⟨by omega, f_deeper (by omega) f1 (by omega) (fun B2 f2 => ?_)⟩
    have g := PF_eq f2
    exact ⟨by omega, fun z => absurd z (by omega), fun _ => hq.1 _ _ _ _ f2⟩
  have j30 : ∀ b r, (b = 0 ∨ b = 1) → ((100 ≤ r ∧ r < 112 ∧ b = 0) ∨ (0 ≤ r ∧ r < tp)) → pq d 35 30 [some (.inr (.inr 39)), some (.inl b), some (.inl r)] [] (A, B, Y, K, T) (qV Q) := by
    intro b r hb hr
    refine pq_of 6 [(42, [])] [] ?_
    show (0 < d ∧ pzV (d - 1) 16 [.inr (.inr (39 : Nat))] (A, B, Y, K, T) (fun A1 B1 Y1 K1 T1 => ((-2147483648 ≤ (B1 39 10) ∧ (B1 39 10) < 2147483648) ∧ ((B1 39 10) ≤ (0 : Int) → pq d 35 42 [some (.inr (.inr (39 : Nat))), some (.inl b), some (.inl r)] [] (A1, B1, Y1, K1, T1) (qV Q)) ∧ ((0 : Int) < (B1 39 10) → Q A1 B1 Y1 K1 T1))))
    refine ⟨by omega, z_deeper (by omega) h ho (fun B1 f1 => ?_) (fun B1 o1 h1 s1 => ?_)⟩
    · have g := PF_eq f1
      exact ⟨by omega, fun z => absurd z (by omega), fun _ => hq.1 _ _ _ _ f1⟩
    · have e1 := PZ_eq h1
      refine ⟨by omega, fun _ => ?_, fun z => absurd z (by omega)⟩
      have h2 := PZ_stm h1 ((B1 39 19) + 1)
      have at1 : fr ≤ (B1 39 5) := e1.2.2.2.2.2.2.2.2.2.2.1
      refine pq_of 29 [] [] ?_
      show (0 < d ∧ pzV (d - 1) 15 [.inr (.inr (39 : Nat)), .inl (13 : Int), .inl (0 : Int), .inl (0 : Int)] (A, (zu B1 39 19 ((B1 39 19) + (1 : Int))), Y, K, T) (fun A1 B1 Y1 K1 T1 => (0 < d ∧ pzV (d - 1) 5 [.inr (.inr (39 : Nat))] (A1, B1, Y1, K1, T1) (fun A2 B2 Y2 K2 T2 => ((-2147483648 ≤ b ∧ b < 2147483648) ∧ (b = (0 : Int) → (0 < d ∧ pzV (d - 1) 20 [.inr (.inr (39 : Nat)), .inl (13 : Int), .inl r, .inl (0 : Int), .inl (0 : Int), .inl (0 : Int)] (A2, B2, Y2, K2, T2) (fun A3 B3 Y3 K3 T3 => ((-2147483648 ≤ b ∧ b < 2147483648) ∧ (b = (0 : Int) → Q A3 B3 Y3 K3 T3) ∧ (b ≠ (0 : Int) → (0 < d ∧ pzV (d - 1) 21 [.inr (.inr (39 : Nat)), .inl (15 : Int)] (A3, B3, Y3, K3, T3) (fun A4 B4 Y4 K4 T4 => Q A4 B4 Y4 K4 T4))))))) ∧ (b ≠ (0 : Int) → (0 < d ∧ pzV (d - 1) 20 [.inr (.inr (39 : Nat)), .inl (13 : Int), .inl r, .inl (1 : Int), .inl (0 : Int), .inl (0 : Int)] (A2, B2, Y2, K2, T2) (fun A5 B5 Y5 K5 T5 => ((-2147483648 ≤ b ∧ b < 2147483648) ∧ (b = (0 : Int) → Q A5 B5 Y5 K5 T5) ∧ (b ≠ (0 : Int) → (0 < d ∧ pzV (d - 1) 21 [.inr (.inr (39 : Nat)), .inl (15 : Int)] (A5, B5, Y5, K5, T5) (fun A6 B6 Y6 K6 T6 => Q A6 B6 Y6 K6 T6))))))))))))
      refine ⟨by omega, z_say (y := 0) (fc' := fr) h2 (by omega) (Int.le_refl _) at1 (by omega) (by omega) (Or.inr (Or.inr (Or.inr (Or.inr (Or.inr (Or.inr (Or.inr (Or.inr (Or.inr (Or.inr (Or.inr ⟨rfl, by omega⟩))))))))))) (fun B3 ht3 rg3 bk3 h3 s3 l3 => ⟨by omega, z_next (by omega) h3 (fun B4 Y4 f4 k4 g1 g2 h4 s4 => ?_)⟩)⟩
      have g3 := g2 (by omega)
      refine ⟨by omega, fun z => ⟨by omega, z_wait h4 (by omega) (td_13 (Or.inl rfl) (by omega)) (fun B5 h5 s5 => ⟨by omega, fun _ => ?_, fun w => absurd z w⟩)⟩, fun z => ⟨by omega, z_wait h4 (by omega) (td_13 (Or.inr rfl) (by omega)) (fun B5 h5 s5 => ⟨by omega, fun w => absurd w z, fun _ => ⟨by omega, z_plain (by omega) h5 (by simp only [List.length_cons, true_and, and_true]; omega) (td_0 (by omega)) (fun B6 h6 s6 => ?_)⟩⟩)⟩⟩
      · exact hq.2.1 _ _ _ _ _ _ _ _ _ _ _ _ _ _ _ _ _ h5 (WT_c2 (tt_13 (by omega)) hw (by omega) (by omega)) (by first | omega | (simp only [PD_1, SW_1, PD_2, SW_2, PD_3, SW_3, PD_4, SW_4, PD_5, SW_5, PD_6, SW_6, PD_7, SW_7, PD_8, SW_8, PD_9, SW_9, PD_10, SW_10, PD_11, SW_11, PD_12, SW_12, PD_13, SW_13, PD_14, SW_14, PD_15, SW_15, PD_16, SW_16, PD_17, SW_17, PD_18, SW_18, PD_19, SW_19, PD_20, SW_20, PD_21, SW_21, PD_22, SW_22, PD_23, SW_23, PD_24, SW_24, PD_25, SW_25, PD_26, SW_26, PD_27, SW_27, PD_28, SW_28, PD_29, SW_29]; omega)) (by omega) (by first | omega | (simp only [PD_1, SW_1, PD_2, SW_2, PD_3, SW_3, PD_4, SW_4, PD_5, SW_5, PD_6, SW_6, PD_7, SW_7, PD_8, SW_8, PD_9, SW_9, PD_10, SW_10, PD_11, SW_11, PD_12, SW_12, PD_13, SW_13, PD_14, SW_14, PD_15, SW_15, PD_16, SW_16, PD_17, SW_17, PD_18, SW_18, PD_19, SW_19, PD_20, SW_20, PD_21, SW_21, PD_22, SW_22, PD_23, SW_23, PD_24, SW_24, PD_25, SW_25, PD_26, SW_26, PD_27, SW_27, PD_28, SW_28, PD_29, SW_29]; omega))
      · exact hq.2.1 _ _ _ _ _ _ _ _ _ _ _ _ _ _ _ _ _ h6 (WT_c2 (c2 := 1) (tt_15 (by simp only [List.length_cons, true_and, and_true]; omega)) (WT_c2 (tt_13 (by omega)) hw (by omega) (by omega)) (by omega) rfl) (by first | omega | (simp only [PD_1, SW_1, PD_2, SW_2, PD_3, SW_3, PD_4, SW_4, PD_5, SW_5, PD_6, SW_6, PD_7, SW_7, PD_8, SW_8, PD_9, SW_9, PD_10, SW_10, PD_11, SW_11, PD_12, SW_12, PD_13, SW_13, PD_14, SW_14, PD_15, SW_15, PD_16, SW_16, PD_17, SW_17, PD_18, SW_18, PD_19, SW_19, PD_20, SW_20, PD_21, SW_21, PD_22, SW_22, PD_23, SW_23, PD_24, SW_24, PD_25, SW_25, PD_26, SW_26, PD_27, SW_27, PD_28, SW_28, PD_29, SW_29]; omega)) (by omega) (by first | omega | (simp only [PD_1, SW_1, PD_2, SW_2, PD_3, SW_3, PD_4, SW_4, PD_5, SW_5, PD_6, SW_6, PD_7, SW_7, PD_8, SW_8, PD_9, SW_9, PD_10, SW_10, PD_11, SW_11, PD_12, SW_12, PD_13, SW_13, PD_14, SW_14, PD_15, SW_15, PD_16, SW_16, PD_17, SW_17, PD_18, SW_18, PD_19, SW_19, PD_20, SW_20, PD_21, SW_21, PD_22, SW_22, PD_23, SW_23, PD_24, SW_24, PD_25, SW_25, PD_26, SW_26, PD_27, SW_27, PD_28, SW_28, PD_29, SW_29]; omega))
  have j14 : ∀ b, (b = 0 ∨ b = 1) → pq d 35 14 [some (.inr (.inr 39)), none, none] [.inl b] (A, B, Y, K, T) (qV Q) := by
    intro b hb
    refine pq_of 10 [(30, [])] [] ?_
    show (0 < d ∧ pzI (d - 1) 33 [.inr (.inr (39 : Nat)), .inl b] (A, B, Y, K, T) (fun n1 A1 B1 Y1 K1 T1 => ((-2147483648 ≤ n1 ∧ n1 < 2147483648) ∧ ((0 : Int) ≤ n1 → pq d 35 30 [some (.inr (.inr (39 : Nat))), some (.inl b), some (.inl n1)] [] (A1, B1, Y1, K1, T1) (qV Q)) ∧ (n1 < (0 : Int) → (0 < d ∧ pzV (d - 1) 9 [.inr (.inr (39 : Nat)), .inl (2 : Int)] (A1, B1, Y1, K1, T1) (fun A2 B2 Y2 K2 T2 => pq d 35 30 [some (.inr (.inr (39 : Nat))), some (.inl b), some (.inl n1)] [] (A2, B2, Y2, K2, T2) (qV Q)))))))
    exact ⟨by omega, h_named (by omega) h hb (fun r hr => ⟨by omega, fun z => j30 b r hb (by omega), fun z => ⟨by omega, z_fail h (by omega) (by omega) (fun B1 f1 o1 => j30f B1 b r _ (by omega) f1 o1)⟩⟩)⟩
  refine pzV_of 6 [(14, [])] [] ?_
  show (0 < d ∧ pzI (d - 1) 34 [.inr (.inr (39 : Nat))] (A, B, Y, K, T) (fun n1 A1 B1 Y1 K1 T1 => ((-2147483648 ≤ n1 ∧ n1 < 2147483648) ∧ (-2147483648 ≤ (91 : Int) ∧ (91 : Int) < 2147483648) ∧ (n1 ≠ (91 : Int) → pq d 35 14 [some (.inr (.inr (39 : Nat))), none, none] [.inl (0 : Int)] (A1, B1, Y1, K1, T1) (qV Q)) ∧ (n1 = (91 : Int) → pq d 35 14 [some (.inr (.inr (39 : Nat))), none, none] [.inl (1 : Int)] (A1, B1, Y1, K1, T1) (qV Q)))))
  exact ⟨by omega, m_ahead (by omega) hK (by omega) t4 (fun c hc => ⟨by omega, by omega, fun _ => j14 0 (Or.inl rfl), fun _ => j14 1 (Or.inr rfl)⟩)⟩
set_option maxRecDepth 100000 in
set_option maxHeartbeats 4000000 in
theorem h_statement (hd : 14 ≤ d) (h : PZ B0 B Y st st cur op fr fr N F tp ow tk sc tm E ht rg bk) (htk : tk = 3 ∨ tk = 8 ∨ tk = 10 ∨ tk = 11) (hc : cur = 0) (hw : WT st 0 op) (hn : (st.length : Int) ≤ 20 * op + 4) (ho : 0 ≤ op ∧ op ≤ 10) (hp : N + PD st ≤ 3 * fr + 2) (hm : 64 * (3001 - fr) + SW st ≤ m) (hq : HQ B0 m A K T Q) : pzV d 29 [.inr (.inr 39)] (A, B, Y, K, T) Q := by
  obtain ⟨p1, p2, p3, p4, p5, p6, p7, p8⟩ := PZ_tk h
  have e := PZ_eq h
  have wl := WT_len hw
  have pd0 := PD_0 st
  have j13 : tk ≠ 3 → pq d 29 13 [some (.inr (.inr 39)), none, none] [] (A, B, Y, K, T) (qV Q) := by
    intro h3
    refine pq_of 12 [(35, [])] [] ?_
    show (0 < d ∧ pzV (d - 1) 16 [.inr (.inr (39 : Nat))] (A, B, Y, K, T) (fun A1 B1 Y1 K1 T1 => ((-2147483648 ≤ (B1 39 10) ∧ (B1 39 10) < 2147483648) ∧ ((B1 39 10) ≤ (0 : Int) → pq d 29 35 [some (.inr (.inr (39 : Nat))), some (.inl (B 39 6)), some (.inl (B 39 7))] [] (A1, B1, Y1, K1, T1) (qV Q)) ∧ ((0 : Int) < (B1 39 10) → Q A1 B1 Y1 K1 T1))))
    refine ⟨by omega, z_deeper (by omega) h ho (fun B1 f1 => ?_) (fun B1 o1 h1 s1 => ?_)⟩
    · have g := PF_eq f1
      exact ⟨by omega, fun z => absurd z (by omega), fun _ => hq.1 _ _ _ _ f1⟩
    · have e1 := PZ_eq h1
      refine ⟨by omega, fun _ => ?_, fun z => absurd z (by omega)⟩
      have h2 := PZ_stm h1 ((B1 39 19) + 1)
      have at1 : fr ≤ (B1 39 5) := e1.2.2.2.2.2.2.2.2.2.2.1
      have j80 : ∀ B4 Y4 f4 k4 ht4 rg4 bk4, fr < f4 → tk ≠ 11 → PZ B0 B4 Y4 st st 0 (op + 1) f4 f4 (N + 1) F tp ow k4 sc tm E ht4 rg4 bk4 → pq d 29 80 [some (.inr (.inr 39)), some (.inl (B 39 6)), some (.inl (B 39 7))] [] (A, B4, Y4, K, T) (qV Q) := by
        intro B4 Y4 f4 k4 ht4 rg4 bk4 g3 n11 h4
        have e4 := PZ_eq h4
        obtain ⟨-, -, -, -, -, -, -, -, -, -, hC4, -⟩ := id h4
        have hC4' := hC4.1
        refine pq_of 19 [] [] ?_
        show (0 < d ∧ pzV (d - 1) 21 [.inr (.inr (39 : Nat)), .inl (6 : Int)] (A, B4, Y4, K, T) (fun A1 B1 Y1 K1 T1 => ((-2147483648 ≤ (B 39 6) ∧ (B 39 6) < 2147483648) ∧ (-2147483648 ≤ (8 : Int) ∧ (8 : Int) < 2147483648) ∧ ((B 39 6) ≠ (8 : Int) → (0 < d ∧ pzV (d - 1) 20 [.inr (.inr (39 : Nat)), .inl (10 : Int), .inl (B 39 7), .inl (B1 39 38), .inl (0 : Int), .inl (0 : Int)] (A1, B1, Y1, K1, T1) (fun A2 B2 Y2 K2 T2 => (0 < d ∧ pzV (d - 1) 21 [.inr (.inr (39 : Nat)), .inl (17 : Int)] (A2, B2, Y2, K2, T2) (fun A3 B3 Y3 K3 T3 => Q A3 B3 Y3 K3 T3))))) ∧ ((B 39 6) = (8 : Int) → (0 < d ∧ pzV (d - 1) 20 [.inr (.inr (39 : Nat)), .inl (7 : Int), .inl (B 39 7), .inl (B1 39 38), .inl (0 : Int), .inl (0 : Int)] (A1, B1, Y1, K1, T1) (fun A4 B4 Y4 K4 T4 => (0 < d ∧ pzV (d - 1) 21 [.inr (.inr (39 : Nat)), .inl (17 : Int)] (A4, B4, Y4, K4, T4) (fun A5 B5 Y5 K5 T5 => Q A5 B5 Y5 K5 T5))))))))
        refine ⟨by omega, z_plain (by omega) h4 (by omega) (td_0 (by omega)) (fun B5 h5 s5 => ⟨by omega, by omega, fun z => ⟨by omega, ?_⟩, fun z => ⟨by omega, ?_⟩⟩)⟩
        · -- while
          have e5 := PZ_eq h5
          have h6 : PZ B0 B5 Y4 ((6, 0, 0, 0, 0) :: st) ((6, 0, 0, 0, 0) :: st) 0 (op + 1) f4 f4 (N + 1) F tp ow k4 sc (N + 1) E ht4 rg4 bk4 := by
            obtain ⟨a1, a2, a3, a4, a5, a6, a7, a8, a9, a10, a11, a12⟩ := h5
            exact ⟨a1, a2, a3, a4, a5, a6, a7, a8, a9, a10, CT_tm a11 a11.1.2.2.2 (Int.le_refl _), TD_mono a12 (Int.le_refl _) (Int.le_refl _) a11.1.2.2.2 (Int.le_refl _) a11.1.2.2.2 (fun _ _ => rfl) (fun _ _ _ => ⟨rfl, rfl⟩) (fun _ _ => rfl)⟩
          have hl : (1 ≤ (B5 39 38) ∧ (B5 39 38) ≤ N + 1) ∧ ht4 (B5 39 38).toNat = 0 ∧ rg4 (B5 39 38).toNat = F ∧ bk4 (B5 39 38).toNat = 0 := by
            rw [e5.2.2.2.1]
            exact ⟨by omega, e5.2.2.2.2.2.2.2.2.2.1, hC4.2.2.2.1, hC4.2.2.1 _ (by omega)⟩
          refine z_wait h6 (by simp only [List.length_cons, true_and, and_true]; omega) ?_ (fun B6 h7 s7 => ⟨by omega, z_plain (by omega) h7 (by simp only [List.length_cons, true_and, and_true]; omega) (td_0 (by omega)) (fun B7 h8 s8 => ?_)⟩)
          · refine ⟨?_, ?_, ?_, ?_, fun _ => hl, ?_, ?_, ?_, ?_, ?_, ?_, ?_, ?_, ?_⟩ <;> (intro z; omega)
          · exact hq.2.1 _ _ _ _ _ _ _ _ _ _ _ _ _ _ _ _ _ h8 (WT_c2 (c2 := 1) (o2 := op + 1) (tt_17 (by simp only [List.length_cons, true_and, and_true]; omega)) (WT_c2 (c2 := 0) (o2 := op + 1) (tt_10 (by simp only [List.length_cons, true_and, and_true]; omega)) (WT_c2 (tt_6 (by omega)) hw (by omega) (by omega)) rfl rfl) (by omega) rfl) (by first | omega | (simp only [PD_1, SW_1, PD_2, SW_2, PD_3, SW_3, PD_4, SW_4, PD_5, SW_5, PD_6, SW_6, PD_7, SW_7, PD_8, SW_8, PD_9, SW_9, PD_10, SW_10, PD_11, SW_11, PD_12, SW_12, PD_13, SW_13, PD_14, SW_14, PD_15, SW_15, PD_16, SW_16, PD_17, SW_17, PD_18, SW_18, PD_19, SW_19, PD_20, SW_20, PD_21, SW_21, PD_22, SW_22, PD_23, SW_23, PD_24, SW_24, PD_25, SW_25, PD_26, SW_26, PD_27, SW_27, PD_28, SW_28, PD_29, SW_29]; omega)) (by omega) (by first | omega | (simp only [PD_1, SW_1, PD_2, SW_2, PD_3, SW_3, PD_4, SW_4, PD_5, SW_5, PD_6, SW_6, PD_7, SW_7, PD_8, SW_8, PD_9, SW_9, PD_10, SW_10, PD_11, SW_11, PD_12, SW_12, PD_13, SW_13, PD_14, SW_14, PD_15, SW_15, PD_16, SW_16, PD_17, SW_17, PD_18, SW_18, PD_19, SW_19, PD_20, SW_20, PD_21, SW_21, PD_22, SW_22, PD_23, SW_23, PD_24, SW_24, PD_25, SW_25, PD_26, SW_26, PD_27, SW_27, PD_28, SW_28, PD_29, SW_29]; omega))
        · -- if
          refine z_wait h5 (by simp only [List.length_cons, true_and, and_true]; omega) (td_7 (by omega)) (fun B6 h7 s7 => ⟨by omega, z_plain (by omega) h7 (by simp only [List.length_cons, true_and, and_true]; omega) (td_0 (by omega)) (fun B7 h8 s8 => ?_)⟩)
          exact hq.2.1 _ _ _ _ _ _ _ _ _ _ _ _ _ _ _ _ _ h8 (WT_c2 (c2 := 1) (o2 := op + 1) (tt_17 (by simp only [List.length_cons, true_and, and_true]; omega)) (WT_c2 (c2 := 0) (o2 := op + 1) (tt_7 (by simp only [List.length_cons, true_and, and_true]; omega)) (WT_c2 (tt_6 (by omega)) hw (by omega) (by omega)) rfl rfl) (by omega) rfl) (by first | omega | (simp only [PD_1, SW_1, PD_2, SW_2, PD_3, SW_3, PD_4, SW_4, PD_5, SW_5, PD_6, SW_6, PD_7, SW_7, PD_8, SW_8, PD_9, SW_9, PD_10, SW_10, PD_11, SW_11, PD_12, SW_12, PD_13, SW_13, PD_14, SW_14, PD_15, SW_15, PD_16, SW_16, PD_17, SW_17, PD_18, SW_18, PD_19, SW_19, PD_20, SW_20, PD_21, SW_21, PD_22, SW_22, PD_23, SW_23, PD_24, SW_24, PD_25, SW_25, PD_26, SW_26, PD_27, SW_27, PD_28, SW_28, PD_29, SW_29]; omega)) (by omega) (by first | omega | (simp only [PD_1, SW_1, PD_2, SW_2, PD_3, SW_3, PD_4, SW_4, PD_5, SW_5, PD_6, SW_6, PD_7, SW_7, PD_8, SW_8, PD_9, SW_9, PD_10, SW_10, PD_11, SW_11, PD_12, SW_12, PD_13, SW_13, PD_14, SW_14, PD_15, SW_15, PD_16, SW_16, PD_17, SW_17, PD_18, SW_18, PD_19, SW_19, PD_20, SW_20, PD_21, SW_21, PD_22, SW_22, PD_23, SW_23, PD_24, SW_24, PD_25, SW_25, PD_26, SW_26, PD_27, SW_27, PD_28, SW_28, PD_29, SW_29]; omega))
      refine pq_of 26 [(80, [])] [] ?_
      show (0 < d ∧ pzV (d - 1) 15 [.inr (.inr (39 : Nat)), .inl (13 : Int), .inl (0 : Int), .inl (0 : Int)] (A, (zu B1 39 19 ((B1 39 19) + (1 : Int))), Y, K, T) (fun A1 B1 Y1 K1 T1 => (0 < d ∧ pzV (d - 1) 5 [.inr (.inr (39 : Nat))] (A1, B1, Y1, K1, T1) (fun A2 B2 Y2 K2 T2 => ((-2147483648 ≤ (B 39 6) ∧ (B 39 6) < 2147483648) ∧ (-2147483648 ≤ (11 : Int) ∧ (11 : Int) < 2147483648) ∧ ((B 39 6) ≠ (11 : Int) → pq d 29 80 [some (.inr (.inr (39 : Nat))), some (.inl (B 39 6)), some (.inl (B 39 7))] [] (A2, B2, Y2, K2, T2) (qV Q)) ∧ ((B 39 6) = (11 : Int) → (0 < d ∧ pzV (d - 1) 11 [.inr (.inr (39 : Nat)), .inl (59 : Int)] (A2, B2, Y2, K2, T2) (fun A3 B3 Y3 K3 T3 => Q A3 (zu B3 39 20 ((B3 39 20) - (1 : Int))) Y3 K3 T3))))))))
      refine ⟨by omega, z_say (y := 0) (fc' := fr) h2 (by omega) (Int.le_refl _) at1 (by omega) (by omega) (Or.inr (Or.inr (Or.inr (Or.inr (Or.inr (Or.inr (Or.inr (Or.inr (Or.inr (Or.inr (Or.inr ⟨rfl, by omega⟩))))))))))) (fun B3 ht3 rg3 bk3 h3' s3 l3 => ⟨by omega, z_next (by omega) h3' (fun B4 Y4 f4 k4 g1 g2 h4 s4 => ?_)⟩)⟩
      have g3 := g2 (by omega)
      have e4 := PZ_eq h4
      refine ⟨by omega, by omega, fun z => j80 B4 Y4 f4 k4 _ _ _ g3 (by omega) h4, fun z => ⟨by omega, z_must (by omega) h4 (by omega) (by omega) (fun B5 f5 => hq.1 _ _ _ _ (PF_open f5 _)) (fun B5 Y5 f5 k5 w g4 g5 h5 s5 => ?_)⟩⟩
      have g6 := g5 (by omega)
      have e5 := PZ_eq h5
      have hw2 : WT st 0 ((B5 39 20) - 1) := by rw [e5.2.1, show op + 1 - 1 = op by omega]; exact hw
      have h6 := PZ_open h5 ((B5 39 20) - 1)
      exact hq.2.1 _ _ _ _ _ _ _ _ _ _ _ _ _ _ _ _ _ h6 hw2 (by first | omega | (simp only [PD_1, SW_1, PD_2, SW_2, PD_3, SW_3, PD_4, SW_4, PD_5, SW_5, PD_6, SW_6, PD_7, SW_7, PD_8, SW_8, PD_9, SW_9, PD_10, SW_10, PD_11, SW_11, PD_12, SW_12, PD_13, SW_13, PD_14, SW_14, PD_15, SW_15, PD_16, SW_16, PD_17, SW_17, PD_18, SW_18, PD_19, SW_19, PD_20, SW_20, PD_21, SW_21, PD_22, SW_22, PD_23, SW_23, PD_24, SW_24, PD_25, SW_25, PD_26, SW_26, PD_27, SW_27, PD_28, SW_28, PD_29, SW_29]; omega)) (by omega) (by first | omega | (simp only [PD_1, SW_1, PD_2, SW_2, PD_3, SW_3, PD_4, SW_4, PD_5, SW_5, PD_6, SW_6, PD_7, SW_7, PD_8, SW_8, PD_9, SW_9, PD_10, SW_10, PD_11, SW_11, PD_12, SW_12, PD_13, SW_13, PD_14, SW_14, PD_15, SW_15, PD_16, SW_16, PD_17, SW_17, PD_18, SW_18, PD_19, SW_19, PD_20, SW_20, PD_21, SW_21, PD_22, SW_22, PD_23, SW_23, PD_24, SW_24, PD_25, SW_25, PD_26, SW_26, PD_27, SW_27, PD_28, SW_28, PD_29, SW_29]; omega))
  refine pzV_of 7 [(13, [])] [] ?_
  show ((-2147483648 ≤ (B 39 6) ∧ (B 39 6) < 2147483648) ∧ (-2147483648 ≤ (3 : Int) ∧ (3 : Int) < 2147483648) ∧ ((B 39 6) ≠ (3 : Int) → pq d 29 13 [some (.inr (.inr (39 : Nat))), none, none] [] (A, B, Y, K, T) (qV Q)) ∧ ((B 39 6) = (3 : Int) → (0 < d ∧ pzV (d - 1) 35 [.inr (.inr (39 : Nat))] (A, B, Y, K, T) (fun A1 B1 Y1 K1 T1 => Q A1 B1 Y1 K1 T1))))
  exact ⟨by omega, by omega, fun z => j13 (by omega), fun z => ⟨by omega, h_assignment (by omega) h (by omega) hc hw hn ho hp hm hq⟩⟩
end STM
end
