-- ===== PART A: goes FIRST, ahead of the names: the tables' words, and 'selects' of the private methods out of them =====
/-- a private method of a class that the tables say can be made, by its rows of tables_1 -/
def lw_okq (q : MethodName × Nat) : Prop := (q.1.cls ≠ "java/lang/invoke/MethodHandle" ∧ q.1.cls ≠ "java/lang/invoke/VarHandle") ∧ Cond.instantiable q.1.cls q.2 ∈ tables_1 ∧ Cond.privateMethod q.1 ∈ tables_1 ∧ Cond.instanceMethod q.1 ∈ tables_1
theorem lw_p0 : lw_okq (⟨"LadderForge", "textAt", "(I)LLadderForge$Text;"⟩, 11) := ⟨⟨by decide +kernel, by decide +kernel⟩, List.mem_of_getElem? (i := 17) (by decide +kernel), List.mem_of_getElem? (i := 222) (by decide +kernel), List.mem_of_getElem? (i := 223) (by decide +kernel)⟩
theorem lw_p1 : lw_okq (⟨"LadderForge", "make", "(II)I"⟩, 11) := ⟨⟨by decide +kernel, by decide +kernel⟩, List.mem_of_getElem? (i := 17) (by decide +kernel), List.mem_of_getElem? (i := 244) (by decide +kernel), List.mem_of_getElem? (i := 245) (by decide +kernel)⟩
theorem lw_p2 : lw_okq (⟨"LadderForge", "makerBy", "(I)LLadderForge$Maker;"⟩, 11) := ⟨⟨by decide +kernel, by decide +kernel⟩, List.mem_of_getElem? (i := 17) (by decide +kernel), List.mem_of_getElem? (i := 248) (by decide +kernel), List.mem_of_getElem? (i := 249) (by decide +kernel)⟩
theorem lw_p3 : lw_okq (⟨"LadderForge$NamedMaker", "begin", "()V"⟩, 5) := ⟨⟨by decide +kernel, by decide +kernel⟩, List.mem_of_getElem? (i := 89) (by decide +kernel), List.mem_of_getElem? (i := 258) (by decide +kernel), List.mem_of_getElem? (i := 259) (by decide +kernel)⟩
theorem lw_p4 : lw_okq (⟨"LadderForge$NamedMaker", "takes", "(LLadderForge$Text;II)Z"⟩, 5) := ⟨⟨by decide +kernel, by decide +kernel⟩, List.mem_of_getElem? (i := 89) (by decide +kernel), List.mem_of_getElem? (i := 282) (by decide +kernel), List.mem_of_getElem? (i := 283) (by decide +kernel)⟩
theorem lw_p5 : lw_okq (⟨"LadderForge$NamedMaker", "takesColon", "(I)Z"⟩, 5) := ⟨⟨by decide +kernel, by decide +kernel⟩, List.mem_of_getElem? (i := 89) (by decide +kernel), List.mem_of_getElem? (i := 286) (by decide +kernel), List.mem_of_getElem? (i := 287) (by decide +kernel)⟩
theorem lw_p6 : lw_okq (⟨"LadderForge$NamedMaker", "takesLetter", "(II)Z"⟩, 5) := ⟨⟨by decide +kernel, by decide +kernel⟩, List.mem_of_getElem? (i := 89) (by decide +kernel), List.mem_of_getElem? (i := 290) (by decide +kernel), List.mem_of_getElem? (i := 291) (by decide +kernel)⟩
theorem lw_p7 : lw_okq (⟨"LadderForge$NamedMaker", "takesPlace", "(II)Z"⟩, 5) := ⟨⟨by decide +kernel, by decide +kernel⟩, List.mem_of_getElem? (i := 89) (by decide +kernel), List.mem_of_getElem? (i := 298) (by decide +kernel), List.mem_of_getElem? (i := 299) (by decide +kernel)⟩
theorem lw_p8 : lw_okq (⟨"LadderForge$NamedMaker", "takesNumber", "(II)Z"⟩, 5) := ⟨⟨by decide +kernel, by decide +kernel⟩, List.mem_of_getElem? (i := 89) (by decide +kernel), List.mem_of_getElem? (i := 305) (by decide +kernel), List.mem_of_getElem? (i := 306) (by decide +kernel)⟩
theorem lw_p9 : lw_okq (⟨"LadderForge$NamedMaker", "takesWord", "(II)Z"⟩, 5) := ⟨⟨by decide +kernel, by decide +kernel⟩, List.mem_of_getElem? (i := 89) (by decide +kernel), List.mem_of_getElem? (i := 361) (by decide +kernel), List.mem_of_getElem? (i := 362) (by decide +kernel)⟩
theorem lw_p10 : lw_okq (⟨"LadderForge$NamedMaker", "putPlaces", "()I"⟩, 5) := ⟨⟨by decide +kernel, by decide +kernel⟩, List.mem_of_getElem? (i := 89) (by decide +kernel), List.mem_of_getElem? (i := 368) (by decide +kernel), List.mem_of_getElem? (i := 369) (by decide +kernel)⟩
theorem lw_p11 : lw_okq (⟨"LadderForge", "keep", "(LLadderForge$Code;III)I"⟩, 11) := ⟨⟨by decide +kernel, by decide +kernel⟩, List.mem_of_getElem? (i := 17) (by decide +kernel), List.mem_of_getElem? (i := 389) (by decide +kernel), List.mem_of_getElem? (i := 390) (by decide +kernel)⟩
theorem lw_p12 : lw_okq (⟨"LadderForge", "toolAt", "(I)LLadderForge$Tool;"⟩, 11) := ⟨⟨by decide +kernel, by decide +kernel⟩, List.mem_of_getElem? (i := 17) (by decide +kernel), List.mem_of_getElem? (i := 440) (by decide +kernel), List.mem_of_getElem? (i := 441) (by decide +kernel)⟩
theorem lw_p13 : lw_okq (⟨"LadderForge$Machine", "load", "(LLadderForge$Code;)V"⟩, 9) := ⟨⟨by decide +kernel, by decide +kernel⟩, List.mem_of_getElem? (i := 109) (by decide +kernel), List.mem_of_getElem? (i := 452) (by decide +kernel), List.mem_of_getElem? (i := 453) (by decide +kernel)⟩
theorem lw_p14 : lw_okq (⟨"LadderForge$Machine", "harmOf", "(I)I"⟩, 9) := ⟨⟨by decide +kernel, by decide +kernel⟩, List.mem_of_getElem? (i := 109) (by decide +kernel), List.mem_of_getElem? (i := 457) (by decide +kernel), List.mem_of_getElem? (i := 458) (by decide +kernel)⟩
theorem lw_p15 : lw_okq (⟨"LadderForge$Machine", "obey", "(ILLadderForge$Text;)V"⟩, 9) := ⟨⟨by decide +kernel, by decide +kernel⟩, List.mem_of_getElem? (i := 109) (by decide +kernel), List.mem_of_getElem? (i := 461) (by decide +kernel), List.mem_of_getElem? (i := 462) (by decide +kernel)⟩
def lw_privs_1 : List (MethodName × Nat) := [(⟨"LadderForge", "textAt", "(I)LLadderForge$Text;"⟩, 11), (⟨"LadderForge", "make", "(II)I"⟩, 11), (⟨"LadderForge", "makerBy", "(I)LLadderForge$Maker;"⟩, 11), (⟨"LadderForge$NamedMaker", "begin", "()V"⟩, 5), (⟨"LadderForge$NamedMaker", "takes", "(LLadderForge$Text;II)Z"⟩, 5), (⟨"LadderForge$NamedMaker", "takesColon", "(I)Z"⟩, 5), (⟨"LadderForge$NamedMaker", "takesLetter", "(II)Z"⟩, 5), (⟨"LadderForge$NamedMaker", "takesPlace", "(II)Z"⟩, 5), (⟨"LadderForge$NamedMaker", "takesNumber", "(II)Z"⟩, 5), (⟨"LadderForge$NamedMaker", "takesWord", "(II)Z"⟩, 5), (⟨"LadderForge$NamedMaker", "putPlaces", "()I"⟩, 5), (⟨"LadderForge", "keep", "(LLadderForge$Code;III)I"⟩, 11), (⟨"LadderForge", "toolAt", "(I)LLadderForge$Tool;"⟩, 11), (⟨"LadderForge$Machine", "load", "(LLadderForge$Code;)V"⟩, 9), (⟨"LadderForge$Machine", "harmOf", "(I)I"⟩, 9), (⟨"LadderForge$Machine", "obey", "(ILLadderForge$Text;)V"⟩, 9)]
theorem lw_r1 : ∀ q ∈ lw_privs_1, lw_okq q := List.forall_mem_cons.mpr ⟨lw_p0, List.forall_mem_cons.mpr ⟨lw_p1, List.forall_mem_cons.mpr ⟨lw_p2, List.forall_mem_cons.mpr ⟨lw_p3, List.forall_mem_cons.mpr ⟨lw_p4, List.forall_mem_cons.mpr ⟨lw_p5, List.forall_mem_cons.mpr ⟨lw_p6, List.forall_mem_cons.mpr ⟨lw_p7, List.forall_mem_cons.mpr ⟨lw_p8, List.forall_mem_cons.mpr ⟨lw_p9, List.forall_mem_cons.mpr ⟨lw_p10, List.forall_mem_cons.mpr ⟨lw_p11, List.forall_mem_cons.mpr ⟨lw_p12, List.forall_mem_cons.mpr ⟨lw_p13, List.forall_mem_cons.mpr ⟨lw_p14, List.forall_mem_cons.mpr ⟨lw_p15, fun _ h => absurd h List.not_mem_nil⟩⟩⟩⟩⟩⟩⟩⟩⟩⟩⟩⟩⟩⟩⟩⟩
theorem lw_p16 : lw_okq (⟨"LadderForge$Machine", "take", "(I)V"⟩, 9) := ⟨⟨by decide +kernel, by decide +kernel⟩, List.mem_of_getElem? (i := 109) (by decide +kernel), List.mem_of_getElem? (i := 467) (by decide +kernel), List.mem_of_getElem? (i := 468) (by decide +kernel)⟩
theorem lw_p17 : lw_okq (⟨"LadderForge", "madeAgain", "(LLadderForge$Tool;)I"⟩, 11) := ⟨⟨by decide +kernel, by decide +kernel⟩, List.mem_of_getElem? (i := 17) (by decide +kernel), List.mem_of_getElem? (i := 506) (by decide +kernel), List.mem_of_getElem? (i := 507) (by decide +kernel)⟩
theorem lw_p18 : lw_okq (⟨"LadderForge", "builtAgain", "(LLadderForge$Tool;LLadderForge$Text;)I"⟩, 11) := ⟨⟨by decide +kernel, by decide +kernel⟩, List.mem_of_getElem? (i := 17) (by decide +kernel), List.mem_of_getElem? (i := 510) (by decide +kernel), List.mem_of_getElem? (i := 511) (by decide +kernel)⟩
theorem lw_p19 : lw_okq (⟨"LadderForge", "staleBits", "()I"⟩, 11) := ⟨⟨by decide +kernel, by decide +kernel⟩, List.mem_of_getElem? (i := 17) (by decide +kernel), List.mem_of_getElem? (i := 522) (by decide +kernel), List.mem_of_getElem? (i := 523) (by decide +kernel)⟩
theorem lw_p20 : lw_okq (⟨"LadderForge", "goneRound", "(LLadderForge$Tool;LLadderForge$Tool;LLadderForge$Text;)I"⟩, 11) := ⟨⟨by decide +kernel, by decide +kernel⟩, List.mem_of_getElem? (i := 17) (by decide +kernel), List.mem_of_getElem? (i := 540) (by decide +kernel), List.mem_of_getElem? (i := 541) (by decide +kernel)⟩
theorem lw_p21 : lw_okq (⟨"LadderForge", "chainLength", "(I)I"⟩, 11) := ⟨⟨by decide +kernel, by decide +kernel⟩, List.mem_of_getElem? (i := 17) (by decide +kernel), List.mem_of_getElem? (i := 556) (by decide +kernel), List.mem_of_getElem? (i := 557) (by decide +kernel)⟩
theorem lw_p22 : lw_okq (⟨"LadderForge", "chainAt", "(II)I"⟩, 11) := ⟨⟨by decide +kernel, by decide +kernel⟩, List.mem_of_getElem? (i := 17) (by decide +kernel), List.mem_of_getElem? (i := 560) (by decide +kernel), List.mem_of_getElem? (i := 561) (by decide +kernel)⟩
theorem lw_p23 : lw_okq (⟨"LadderForge", "isSealed", "(II)Z"⟩, 11) := ⟨⟨by decide +kernel, by decide +kernel⟩, List.mem_of_getElem? (i := 17) (by decide +kernel), List.mem_of_getElem? (i := 568) (by decide +kernel), List.mem_of_getElem? (i := 569) (by decide +kernel)⟩
theorem lw_p24 : lw_okq (⟨"LadderForge", "chainEnd", "(I)I"⟩, 11) := ⟨⟨by decide +kernel, by decide +kernel⟩, List.mem_of_getElem? (i := 17) (by decide +kernel), List.mem_of_getElem? (i := 572) (by decide +kernel), List.mem_of_getElem? (i := 573) (by decide +kernel)⟩
theorem lw_p25 : lw_okq (⟨"LadderForge$Editions", "reachBack", "(I)V"⟩, 4) := ⟨⟨by decide +kernel, by decide +kernel⟩, List.mem_of_getElem? (i := 152) (by decide +kernel), List.mem_of_getElem? (i := 606) (by decide +kernel), List.mem_of_getElem? (i := 607) (by decide +kernel)⟩
theorem lw_p26 : lw_okq (⟨"LadderForge$Editions", "firstBuilt", "(II)I"⟩, 4) := ⟨⟨by decide +kernel, by decide +kernel⟩, List.mem_of_getElem? (i := 152) (by decide +kernel), List.mem_of_getElem? (i := 610) (by decide +kernel), List.mem_of_getElem? (i := 611) (by decide +kernel)⟩
theorem lw_p27 : lw_okq (⟨"LadderForge", "asTool", "(LLadderForge$Tool;)I"⟩, 11) := ⟨⟨by decide +kernel, by decide +kernel⟩, List.mem_of_getElem? (i := 17) (by decide +kernel), List.mem_of_getElem? (i := 626) (by decide +kernel), List.mem_of_getElem? (i := 627) (by decide +kernel)⟩
theorem lw_p28 : lw_okq (⟨"LadderForge", "asPaired", "(LLadderForge$Tool;)I"⟩, 11) := ⟨⟨by decide +kernel, by decide +kernel⟩, List.mem_of_getElem? (i := 17) (by decide +kernel), List.mem_of_getElem? (i := 630) (by decide +kernel), List.mem_of_getElem? (i := 631) (by decide +kernel)⟩
theorem lw_p29 : lw_okq (⟨"LadderForge", "asNamed", "(LLadderForge$Tool;)I"⟩, 11) := ⟨⟨by decide +kernel, by decide +kernel⟩, List.mem_of_getElem? (i := 17) (by decide +kernel), List.mem_of_getElem? (i := 635) (by decide +kernel), List.mem_of_getElem? (i := 636) (by decide +kernel)⟩
theorem lw_p30 : lw_okq (⟨"LadderForge", "asBuilt", "(LLadderForge$Tool;I)I"⟩, 11) := ⟨⟨by decide +kernel, by decide +kernel⟩, List.mem_of_getElem? (i := 17) (by decide +kernel), List.mem_of_getElem? (i := 644) (by decide +kernel), List.mem_of_getElem? (i := 645) (by decide +kernel)⟩
theorem lw_p31 : lw_okq (⟨"LadderForge", "asSealed", "(LLadderForge$Tool;I)I"⟩, 11) := ⟨⟨by decide +kernel, by decide +kernel⟩, List.mem_of_getElem? (i := 17) (by decide +kernel), List.mem_of_getElem? (i := 649) (by decide +kernel), List.mem_of_getElem? (i := 650) (by decide +kernel)⟩
def lw_privs_2 : List (MethodName × Nat) := [(⟨"LadderForge$Machine", "take", "(I)V"⟩, 9), (⟨"LadderForge", "madeAgain", "(LLadderForge$Tool;)I"⟩, 11), (⟨"LadderForge", "builtAgain", "(LLadderForge$Tool;LLadderForge$Text;)I"⟩, 11), (⟨"LadderForge", "staleBits", "()I"⟩, 11), (⟨"LadderForge", "goneRound", "(LLadderForge$Tool;LLadderForge$Tool;LLadderForge$Text;)I"⟩, 11), (⟨"LadderForge", "chainLength", "(I)I"⟩, 11), (⟨"LadderForge", "chainAt", "(II)I"⟩, 11), (⟨"LadderForge", "isSealed", "(II)Z"⟩, 11), (⟨"LadderForge", "chainEnd", "(I)I"⟩, 11), (⟨"LadderForge$Editions", "reachBack", "(I)V"⟩, 4), (⟨"LadderForge$Editions", "firstBuilt", "(II)I"⟩, 4), (⟨"LadderForge", "asTool", "(LLadderForge$Tool;)I"⟩, 11), (⟨"LadderForge", "asPaired", "(LLadderForge$Tool;)I"⟩, 11), (⟨"LadderForge", "asNamed", "(LLadderForge$Tool;)I"⟩, 11), (⟨"LadderForge", "asBuilt", "(LLadderForge$Tool;I)I"⟩, 11), (⟨"LadderForge", "asSealed", "(LLadderForge$Tool;I)I"⟩, 11)]
theorem lw_r2 : ∀ q ∈ lw_privs_2, lw_okq q := List.forall_mem_cons.mpr ⟨lw_p16, List.forall_mem_cons.mpr ⟨lw_p17, List.forall_mem_cons.mpr ⟨lw_p18, List.forall_mem_cons.mpr ⟨lw_p19, List.forall_mem_cons.mpr ⟨lw_p20, List.forall_mem_cons.mpr ⟨lw_p21, List.forall_mem_cons.mpr ⟨lw_p22, List.forall_mem_cons.mpr ⟨lw_p23, List.forall_mem_cons.mpr ⟨lw_p24, List.forall_mem_cons.mpr ⟨lw_p25, List.forall_mem_cons.mpr ⟨lw_p26, List.forall_mem_cons.mpr ⟨lw_p27, List.forall_mem_cons.mpr ⟨lw_p28, List.forall_mem_cons.mpr ⟨lw_p29, List.forall_mem_cons.mpr ⟨lw_p30, List.forall_mem_cons.mpr ⟨lw_p31, fun _ h => absurd h List.not_mem_nil⟩⟩⟩⟩⟩⟩⟩⟩⟩⟩⟩⟩⟩⟩⟩⟩
theorem lw_p32 : lw_okq (⟨"LadderForge", "asDoubted", "(LLadderForge$Tool;)I"⟩, 11) := ⟨⟨by decide +kernel, by decide +kernel⟩, List.mem_of_getElem? (i := 17) (by decide +kernel), List.mem_of_getElem? (i := 654) (by decide +kernel), List.mem_of_getElem? (i := 655) (by decide +kernel)⟩
theorem lw_p33 : lw_okq (⟨"LadderForge", "checkedTools", "()I"⟩, 11) := ⟨⟨by decide +kernel, by decide +kernel⟩, List.mem_of_getElem? (i := 17) (by decide +kernel), List.mem_of_getElem? (i := 663) (by decide +kernel), List.mem_of_getElem? (i := 664) (by decide +kernel)⟩
theorem lw_p34 : lw_okq (⟨"LadderForge", "sealedTools", "(I)I"⟩, 11) := ⟨⟨by decide +kernel, by decide +kernel⟩, List.mem_of_getElem? (i := 17) (by decide +kernel), List.mem_of_getElem? (i := 667) (by decide +kernel), List.mem_of_getElem? (i := 668) (by decide +kernel)⟩
theorem lw_p35 : lw_okq (⟨"LadderForgeModel", "make", "(II)I"⟩, 39) := ⟨⟨by decide +kernel, by decide +kernel⟩, List.mem_of_getElem? (i := 675) (by decide +kernel), List.mem_of_getElem? (i := 826) (by decide +kernel), List.mem_of_getElem? (i := 827) (by decide +kernel)⟩
theorem lw_p36 : lw_okq (⟨"LadderForgeModel", "readPairs", "(II)I"⟩, 39) := ⟨⟨by decide +kernel, by decide +kernel⟩, List.mem_of_getElem? (i := 675) (by decide +kernel), List.mem_of_getElem? (i := 830) (by decide +kernel), List.mem_of_getElem? (i := 831) (by decide +kernel)⟩
theorem lw_p37 : lw_okq (⟨"LadderForgeModel", "open", "(I)V"⟩, 39) := ⟨⟨by decide +kernel, by decide +kernel⟩, List.mem_of_getElem? (i := 675) (by decide +kernel), List.mem_of_getElem? (i := 834) (by decide +kernel), List.mem_of_getElem? (i := 835) (by decide +kernel)⟩
theorem lw_p38 : lw_okq (⟨"LadderForgeModel", "pass", "()V"⟩, 39) := ⟨⟨by decide +kernel, by decide +kernel⟩, List.mem_of_getElem? (i := 675) (by decide +kernel), List.mem_of_getElem? (i := 838) (by decide +kernel), List.mem_of_getElem? (i := 839) (by decide +kernel)⟩
theorem lw_p39 : lw_okq (⟨"LadderForgeModel", "here", "()I"⟩, 39) := ⟨⟨by decide +kernel, by decide +kernel⟩, List.mem_of_getElem? (i := 675) (by decide +kernel), List.mem_of_getElem? (i := 842) (by decide +kernel), List.mem_of_getElem? (i := 843) (by decide +kernel)⟩
theorem lw_p40 : lw_okq (⟨"LadderForgeModel", "add", "(III)V"⟩, 39) := ⟨⟨by decide +kernel, by decide +kernel⟩, List.mem_of_getElem? (i := 675) (by decide +kernel), List.mem_of_getElem? (i := 849) (by decide +kernel), List.mem_of_getElem? (i := 850) (by decide +kernel)⟩
theorem lw_p41 : lw_okq (⟨"LadderForgeModel", "readNames", "(II)I"⟩, 39) := ⟨⟨by decide +kernel, by decide +kernel⟩, List.mem_of_getElem? (i := 675) (by decide +kernel), List.mem_of_getElem? (i := 853) (by decide +kernel), List.mem_of_getElem? (i := 854) (by decide +kernel)⟩
theorem lw_p42 : lw_okq (⟨"LadderForgeModel", "next", "()V"⟩, 39) := ⟨⟨by decide +kernel, by decide +kernel⟩, List.mem_of_getElem? (i := 675) (by decide +kernel), List.mem_of_getElem? (i := 857) (by decide +kernel), List.mem_of_getElem? (i := 858) (by decide +kernel)⟩
theorem lw_p43 : lw_okq (⟨"LadderForgeModel", "wordOf", "(II)I"⟩, 39) := ⟨⟨by decide +kernel, by decide +kernel⟩, List.mem_of_getElem? (i := 675) (by decide +kernel), List.mem_of_getElem? (i := 861) (by decide +kernel), List.mem_of_getElem? (i := 862) (by decide +kernel)⟩
theorem lw_p44 : lw_okq (⟨"LadderForgeModel", "due", "(Z)I"⟩, 39) := ⟨⟨by decide +kernel, by decide +kernel⟩, List.mem_of_getElem? (i := 675) (by decide +kernel), List.mem_of_getElem? (i := 873) (by decide +kernel), List.mem_of_getElem? (i := 874) (by decide +kernel)⟩
theorem lw_p45 : lw_okq (⟨"LadderForgeModel", "move", "(II)V"⟩, 39) := ⟨⟨by decide +kernel, by decide +kernel⟩, List.mem_of_getElem? (i := 675) (by decide +kernel), List.mem_of_getElem? (i := 880) (by decide +kernel), List.mem_of_getElem? (i := 881) (by decide +kernel)⟩
theorem lw_p46 : lw_okq (⟨"LadderForgeModel", "newTool", "(III)I"⟩, 39) := ⟨⟨by decide +kernel, by decide +kernel⟩, List.mem_of_getElem? (i := 675) (by decide +kernel), List.mem_of_getElem? (i := 887) (by decide +kernel), List.mem_of_getElem? (i := 888) (by decide +kernel)⟩
theorem lw_p47 : lw_okq (⟨"LadderForgeModel", "isTool", "(I)Z"⟩, 39) := ⟨⟨by decide +kernel, by decide +kernel⟩, List.mem_of_getElem? (i := 675) (by decide +kernel), List.mem_of_getElem? (i := 899) (by decide +kernel), List.mem_of_getElem? (i := 900) (by decide +kernel)⟩
def lw_privs_3 : List (MethodName × Nat) := [(⟨"LadderForge", "asDoubted", "(LLadderForge$Tool;)I"⟩, 11), (⟨"LadderForge", "checkedTools", "()I"⟩, 11), (⟨"LadderForge", "sealedTools", "(I)I"⟩, 11), (⟨"LadderForgeModel", "make", "(II)I"⟩, 39), (⟨"LadderForgeModel", "readPairs", "(II)I"⟩, 39), (⟨"LadderForgeModel", "open", "(I)V"⟩, 39), (⟨"LadderForgeModel", "pass", "()V"⟩, 39), (⟨"LadderForgeModel", "here", "()I"⟩, 39), (⟨"LadderForgeModel", "add", "(III)V"⟩, 39), (⟨"LadderForgeModel", "readNames", "(II)I"⟩, 39), (⟨"LadderForgeModel", "next", "()V"⟩, 39), (⟨"LadderForgeModel", "wordOf", "(II)I"⟩, 39), (⟨"LadderForgeModel", "due", "(Z)I"⟩, 39), (⟨"LadderForgeModel", "move", "(II)V"⟩, 39), (⟨"LadderForgeModel", "newTool", "(III)I"⟩, 39), (⟨"LadderForgeModel", "isTool", "(I)Z"⟩, 39)]
theorem lw_r3 : ∀ q ∈ lw_privs_3, lw_okq q := List.forall_mem_cons.mpr ⟨lw_p32, List.forall_mem_cons.mpr ⟨lw_p33, List.forall_mem_cons.mpr ⟨lw_p34, List.forall_mem_cons.mpr ⟨lw_p35, List.forall_mem_cons.mpr ⟨lw_p36, List.forall_mem_cons.mpr ⟨lw_p37, List.forall_mem_cons.mpr ⟨lw_p38, List.forall_mem_cons.mpr ⟨lw_p39, List.forall_mem_cons.mpr ⟨lw_p40, List.forall_mem_cons.mpr ⟨lw_p41, List.forall_mem_cons.mpr ⟨lw_p42, List.forall_mem_cons.mpr ⟨lw_p43, List.forall_mem_cons.mpr ⟨lw_p44, List.forall_mem_cons.mpr ⟨lw_p45, List.forall_mem_cons.mpr ⟨lw_p46, List.forall_mem_cons.mpr ⟨lw_p47, fun _ h => absurd h List.not_mem_nil⟩⟩⟩⟩⟩⟩⟩⟩⟩⟩⟩⟩⟩⟩⟩⟩
theorem lw_p48 : lw_okq (⟨"LadderForgeModel", "go", "(II)I"⟩, 39) := ⟨⟨by decide +kernel, by decide +kernel⟩, List.mem_of_getElem? (i := 675) (by decide +kernel), List.mem_of_getElem? (i := 911) (by decide +kernel), List.mem_of_getElem? (i := 912) (by decide +kernel)⟩
theorem lw_p49 : lw_okq (⟨"LadderForgeModel", "step", "(I)I"⟩, 39) := ⟨⟨by decide +kernel, by decide +kernel⟩, List.mem_of_getElem? (i := 675) (by decide +kernel), List.mem_of_getElem? (i := 915) (by decide +kernel), List.mem_of_getElem? (i := 916) (by decide +kernel)⟩
theorem lw_p50 : lw_okq (⟨"LadderForgeModel", "builds", "(III)I"⟩, 39) := ⟨⟨by decide +kernel, by decide +kernel⟩, List.mem_of_getElem? (i := 675) (by decide +kernel), List.mem_of_getElem? (i := 931) (by decide +kernel), List.mem_of_getElem? (i := 932) (by decide +kernel)⟩
theorem lw_p51 : lw_okq (⟨"LadderForgeModel", "take", "(I)V"⟩, 39) := ⟨⟨by decide +kernel, by decide +kernel⟩, List.mem_of_getElem? (i := 675) (by decide +kernel), List.mem_of_getElem? (i := 935) (by decide +kernel), List.mem_of_getElem? (i := 936) (by decide +kernel)⟩
theorem lw_p52 : lw_okq (⟨"LadderForgeModel", "again", "(I)I"⟩, 39) := ⟨⟨by decide +kernel, by decide +kernel⟩, List.mem_of_getElem? (i := 675) (by decide +kernel), List.mem_of_getElem? (i := 943) (by decide +kernel), List.mem_of_getElem? (i := 944) (by decide +kernel)⟩
theorem lw_p53 : lw_okq (⟨"LadderForgeModel", "unlike", "(II)I"⟩, 39) := ⟨⟨by decide +kernel, by decide +kernel⟩, List.mem_of_getElem? (i := 675) (by decide +kernel), List.mem_of_getElem? (i := 947) (by decide +kernel), List.mem_of_getElem? (i := 948) (by decide +kernel)⟩
theorem lw_p54 : lw_okq (⟨"LadderForgeModel", "goRound", "(III)I"⟩, 39) := ⟨⟨by decide +kernel, by decide +kernel⟩, List.mem_of_getElem? (i := 675) (by decide +kernel), List.mem_of_getElem? (i := 963) (by decide +kernel), List.mem_of_getElem? (i := 964) (by decide +kernel)⟩
theorem lw_p55 : lw_okq (⟨"LadderForgeModel", "lengthOf", "(I)I"⟩, 39) := ⟨⟨by decide +kernel, by decide +kernel⟩, List.mem_of_getElem? (i := 675) (by decide +kernel), List.mem_of_getElem? (i := 979) (by decide +kernel), List.mem_of_getElem? (i := 980) (by decide +kernel)⟩
theorem lw_p56 : lw_okq (⟨"LadderForgeModel", "sealedOnes", "()I"⟩, 39) := ⟨⟨by decide +kernel, by decide +kernel⟩, List.mem_of_getElem? (i := 675) (by decide +kernel), List.mem_of_getElem? (i := 987) (by decide +kernel), List.mem_of_getElem? (i := 988) (by decide +kernel)⟩
theorem lw_p57 : lw_okq (⟨"LadderForgeModel", "last", "(I)I"⟩, 39) := ⟨⟨by decide +kernel, by decide +kernel⟩, List.mem_of_getElem? (i := 675) (by decide +kernel), List.mem_of_getElem? (i := 992) (by decide +kernel), List.mem_of_getElem? (i := 993) (by decide +kernel)⟩
theorem lw_p58 : lw_okq (⟨"LadderForgeModel", "isEdition", "(I)Z"⟩, 39) := ⟨⟨by decide +kernel, by decide +kernel⟩, List.mem_of_getElem? (i := 675) (by decide +kernel), List.mem_of_getElem? (i := 1013) (by decide +kernel), List.mem_of_getElem? (i := 1014) (by decide +kernel)⟩
theorem lw_p59 : lw_okq (⟨"LadderForgeModel", "climb", "(III)I"⟩, 39) := ⟨⟨by decide +kernel, by decide +kernel⟩, List.mem_of_getElem? (i := 675) (by decide +kernel), List.mem_of_getElem? (i := 1017) (by decide +kernel), List.mem_of_getElem? (i := 1018) (by decide +kernel)⟩
def lw_privs_4 : List (MethodName × Nat) := [(⟨"LadderForgeModel", "go", "(II)I"⟩, 39), (⟨"LadderForgeModel", "step", "(I)I"⟩, 39), (⟨"LadderForgeModel", "builds", "(III)I"⟩, 39), (⟨"LadderForgeModel", "take", "(I)V"⟩, 39), (⟨"LadderForgeModel", "again", "(I)I"⟩, 39), (⟨"LadderForgeModel", "unlike", "(II)I"⟩, 39), (⟨"LadderForgeModel", "goRound", "(III)I"⟩, 39), (⟨"LadderForgeModel", "lengthOf", "(I)I"⟩, 39), (⟨"LadderForgeModel", "sealedOnes", "()I"⟩, 39), (⟨"LadderForgeModel", "last", "(I)I"⟩, 39), (⟨"LadderForgeModel", "isEdition", "(I)Z"⟩, 39), (⟨"LadderForgeModel", "climb", "(III)I"⟩, 39)]
theorem lw_r4 : ∀ q ∈ lw_privs_4, lw_okq q := List.forall_mem_cons.mpr ⟨lw_p48, List.forall_mem_cons.mpr ⟨lw_p49, List.forall_mem_cons.mpr ⟨lw_p50, List.forall_mem_cons.mpr ⟨lw_p51, List.forall_mem_cons.mpr ⟨lw_p52, List.forall_mem_cons.mpr ⟨lw_p53, List.forall_mem_cons.mpr ⟨lw_p54, List.forall_mem_cons.mpr ⟨lw_p55, List.forall_mem_cons.mpr ⟨lw_p56, List.forall_mem_cons.mpr ⟨lw_p57, List.forall_mem_cons.mpr ⟨lw_p58, List.forall_mem_cons.mpr ⟨lw_p59, fun _ h => absurd h List.not_mem_nil⟩⟩⟩⟩⟩⟩⟩⟩⟩⟩⟩⟩
def lw_privs : List (MethodName × Nat) := lw_privs_1 ++ (lw_privs_2 ++ (lw_privs_3 ++ (lw_privs_4)))
def lw_tbl : List Cond := k2_sels lw_privs ++ tables_1
theorem lw_privs_ok : ∀ q ∈ lw_privs, lw_okq q := by
  show ∀ q ∈ lw_privs_1 ++ (lw_privs_2 ++ (lw_privs_3 ++ (lw_privs_4))), lw_okq q
  exact List.forall_mem_append.mpr ⟨lw_r1, List.forall_mem_append.mpr ⟨lw_r2, List.forall_mem_append.mpr ⟨lw_r3, lw_r4⟩⟩⟩
def RX0 : String := "LadderForge$Code"
def TX0 : u_T := fun k => match k with
  | 0 => ("LadderForge$Code", "most", "I", true)
  | 1 => ("LadderForge$Code", "bytes", "[I", true)
  | 2 => ("LadderForge$Code", "led", "[I", true)
  | _ => ("LadderForge$Code", "length", "I", false)
def tyX0 : Nat → FieldType := fun k => match k with
  | 0 => .int
  | 1 => .array .int
  | 2 => .array .int
  | _ => .int
abbrev wsX00 : List Cond := u_ws RX0 TX0 4
theorem nmX0 : ∀ a, a < 4 → ∀ b, b < 4 → a ≠ b → (TX0 a).2.1 ≠ (TX0 b).2.1 := by decide +kernel
theorem tyX0_ok : ∀ k, k < 4 → parseFieldDescriptor (TX0 k).2.2.1 = some (tyX0 k) := by decide +kernel
abbrev cX0_init : ByteArray := prog_2_method_1_code
def yX0_init : MethodName := ⟨RX0, "<init>", "(I)V"⟩
abbrev cX0_add : ByteArray := prog_2_method_2_code
def yX0_add : MethodName := ⟨RX0, "add", "(II)Z"⟩
abbrev cX0_at : ByteArray := prog_2_method_3_code
def yX0_at : MethodName := ⟨RX0, "at", "(I)I"⟩
abbrev cX0_ledAt : ByteArray := prog_2_method_4_code
def yX0_ledAt : MethodName := ⟨RX0, "ledAt", "(I)I"⟩
abbrev cX0_change : ByteArray := prog_2_method_5_code
def yX0_change : MethodName := ⟨RX0, "change", "(II)V"⟩
abbrev cX0_unlike : ByteArray := prog_2_method_6_code
def yX0_unlike : MethodName := ⟨RX0, "unlike", "(LLadderForge$Code;)I"⟩
abbrev cX0_beyondOrders : ByteArray := prog_2_method_7_code
def yX0_beyondOrders : MethodName := ⟨RX0, "beyondOrders", "()I"⟩
abbrev cX0_copied : ByteArray := prog_2_method_8_code
def yX0_copied : MethodName := ⟨RX0, "copied", "()LLadderForge$Code;"⟩
def RX1 : String := "LadderForge$Editions"
def TX1 : u_T := fun k => match k with
  | 0 => ("LadderForge$Editions", "uses", "[I", true)
  | 1 => ("LadderForge$Editions", "knows", "[I", true)
  | 2 => ("LadderForge$Editions", "left", "[I", true)
  | _ => ("LadderForge$Editions", "held", "I", false)
def tyX1 : Nat → FieldType := fun k => match k with
  | 0 => .array .int
  | 1 => .array .int
  | 2 => .array .int
  | _ => .int
abbrev wsX10 : List Cond := u_ws RX1 TX1 4
theorem nmX1 : ∀ a, a < 4 → ∀ b, b < 4 → a ≠ b → (TX1 a).2.1 ≠ (TX1 b).2.1 := by decide +kernel
theorem tyX1_ok : ∀ k, k < 4 → parseFieldDescriptor (TX1 k).2.2.1 = some (tyX1 k) := by decide +kernel
abbrev cX1_init : ByteArray := prog_3_method_1_code
def yX1_init : MethodName := ⟨RX1, "<init>", "()V"⟩
abbrev cX1_add : ByteArray := prog_3_method_2_code
def yX1_add : MethodName := ⟨RX1, "add", "(II)I"⟩
abbrev cX1_has : ByteArray := prog_3_method_3_code
def yX1_has : MethodName := ⟨RX1, "has", "(I)Z"⟩
abbrev cX1_fewest : ByteArray := prog_3_method_4_code
def yX1_fewest : MethodName := ⟨RX1, "fewest", "(III)I"⟩
abbrev cX1_reachBack : ByteArray := prog_3_method_5_code
def yX1_reachBack : MethodName := ⟨RX1, "reachBack", "(I)V"⟩
abbrev cX1_firstBuilt : ByteArray := prog_3_method_6_code
def yX1_firstBuilt : MethodName := ⟨RX1, "firstBuilt", "(II)I"⟩
abbrev cX1_step : ByteArray := prog_3_method_7_code
def yX1_step : MethodName := ⟨RX1, "step", "(II)I"⟩
def RX2 : String := "LadderForge$Machine"
def TX2 : u_T := fun k => match k with
  | 0 => ("LadderForge$Machine", "memory", "[I", true)
  | 1 => ("LadderForge$Machine", "out", "LLadderForge$Code;", true)
  | 2 => ("LadderForge$Machine", "a", "I", false)
  | 3 => ("LadderForge$Machine", "x", "I", false)
  | 4 => ("LadderForge$Machine", "p", "I", false)
  | 5 => ("LadderForge$Machine", "ended", "Z", false)
  | 6 => ("LadderForge$Machine", "done", "I", false)
  | 7 => ("LadderForge$Machine", "taken", "I", false)
  | _ => ("LadderForge$Machine", "harm", "I", false)
def tyX2 : Nat → FieldType := fun k => match k with
  | 0 => .array .int
  | 1 => .object "LadderForge$Code"
  | 2 => .int
  | 3 => .int
  | 4 => .int
  | 5 => .boolean
  | 6 => .int
  | 7 => .int
  | _ => .int
abbrev wsX20 : List Cond := u_ws RX2 TX2 9
theorem nmX2 : ∀ a, a < 9 → ∀ b, b < 9 → a ≠ b → (TX2 a).2.1 ≠ (TX2 b).2.1 := by decide +kernel
theorem tyX2_ok : ∀ k, k < 9 → parseFieldDescriptor (TX2 k).2.2.1 = some (tyX2 k) := by decide +kernel
abbrev cX2_init : ByteArray := prog_4_method_1_code
def yX2_init : MethodName := ⟨RX2, "<init>", "()V"⟩
abbrev cX2_hasNumber : ByteArray := prog_4_method_2_code
def yX2_hasNumber : MethodName := ⟨RX2, "hasNumber", "(I)Z"⟩
abbrev cX2_memoryAt : ByteArray := prog_4_method_3_code
def yX2_memoryAt : MethodName := ⟨RX2, "memoryAt", "(I)I"⟩
abbrev cX2_builds : ByteArray := prog_4_method_4_code
def yX2_builds : MethodName := ⟨RX2, "builds", "(LLadderForge$Code;LLadderForge$Text;)Z"⟩
abbrev cX2_goThrough : ByteArray := prog_4_method_5_code
def yX2_goThrough : MethodName := ⟨RX2, "goThrough", "(LLadderForge$Code;LLadderForge$Text;)V"⟩
abbrev cX2_load : ByteArray := prog_4_method_6_code
def yX2_load : MethodName := ⟨RX2, "load", "(LLadderForge$Code;)V"⟩
abbrev cX2_harmOf : ByteArray := prog_4_method_7_code
def yX2_harmOf : MethodName := ⟨RX2, "harmOf", "(I)I"⟩
abbrev cX2_obey : ByteArray := prog_4_method_8_code
def yX2_obey : MethodName := ⟨RX2, "obey", "(ILLadderForge$Text;)V"⟩
abbrev cX2_take : ByteArray := prog_4_method_9_code
def yX2_take : MethodName := ⟨RX2, "take", "(I)V"⟩
def RX3 : String := "LadderForge$Maker"
def TX3 : u_T := fun k => match k with
  | _ => ("", "", "", false)
def tyX3 : Nat → FieldType := fun k => match k with
  | _ => .int
abbrev wsX30 : List Cond := u_ws RX3 TX3 0
theorem nmX3 : ∀ a, a < 0 → ∀ b, b < 0 → a ≠ b → (TX3 a).2.1 ≠ (TX3 b).2.1 := by decide +kernel
theorem tyX3_ok : ∀ k, k < 0 → parseFieldDescriptor (TX3 k).2.2.1 = some (tyX3 k) := by decide +kernel
abbrev cX3_init : ByteArray := prog_5_method_1_code
def yX3_init : MethodName := ⟨RX3, "<init>", "()V"⟩
def RX4 : String := "LadderForge$NamedMaker"
def TX4 : u_T := fun k => match k with
  | 0 => ("LadderForge$Maker", "draft", "LLadderForge$Code;", true)
  | 1 => ("LadderForge$NamedMaker", "placeOf", "[I", true)
  | 2 => ("LadderForge$NamedMaker", "letterUsed", "[I", true)
  | 3 => ("LadderForge$NamedMaker", "due", "I", false)
  | _ => ("LadderForge$NamedMaker", "letterAt", "I", false)
def tyX4 : Nat → FieldType := fun k => match k with
  | 0 => .object "LadderForge$Code"
  | 1 => .array .int
  | 2 => .array .int
  | 3 => .int
  | _ => .int
abbrev wsX40 : List Cond := u_ws RX4 TX4 5
theorem nmX4 : ∀ a, a < 5 → ∀ b, b < 5 → a ≠ b → (TX4 a).2.1 ≠ (TX4 b).2.1 := by decide +kernel
theorem tyX4_ok : ∀ k, k < 5 → parseFieldDescriptor (TX4 k).2.2.1 = some (tyX4 k) := by decide +kernel
abbrev cX4_init : ByteArray := prog_6_method_1_code
def yX4_init : MethodName := ⟨RX4, "<init>", "()V"⟩
abbrev cX4_faultIn : ByteArray := prog_6_method_2_code
def yX4_faultIn : MethodName := ⟨RX4, "faultIn", "(LLadderForge$Text;)I"⟩
abbrev cX4_begin : ByteArray := prog_6_method_3_code
def yX4_begin : MethodName := ⟨RX4, "begin", "()V"⟩
abbrev cX4_isDigit : ByteArray := prog_6_method_4_code
def yX4_isDigit : MethodName := ⟨RX4, "isDigit", "(I)Z"⟩
abbrev cX4_isSmall : ByteArray := prog_6_method_5_code
def yX4_isSmall : MethodName := ⟨RX4, "isSmall", "(I)Z"⟩
abbrev cX4_isLetter : ByteArray := prog_6_method_6_code
def yX4_isLetter : MethodName := ⟨RX4, "isLetter", "(I)Z"⟩
abbrev cX4_tokenSigns : ByteArray := prog_6_method_7_code
def yX4_tokenSigns : MethodName := ⟨RX4, "tokenSigns", "(LLadderForge$Text;I)I"⟩
abbrev cX4_isMoreOf : ByteArray := prog_6_method_8_code
def yX4_isMoreOf : MethodName := ⟨RX4, "isMoreOf", "(II)Z"⟩
abbrev cX4_takes : ByteArray := prog_6_method_9_code
def yX4_takes : MethodName := ⟨RX4, "takes", "(LLadderForge$Text;II)Z"⟩
abbrev cX4_takesColon : ByteArray := prog_6_method_10_code
def yX4_takesColon : MethodName := ⟨RX4, "takesColon", "(I)Z"⟩
abbrev cX4_takesPlace : ByteArray := prog_6_method_11_code
def yX4_takesPlace : MethodName := ⟨RX4, "takesPlace", "(II)Z"⟩
abbrev cX4_takesLetter : ByteArray := prog_6_method_12_code
def yX4_takesLetter : MethodName := ⟨RX4, "takesLetter", "(II)Z"⟩
abbrev cX4_takesNumber : ByteArray := prog_6_method_13_code
def yX4_takesNumber : MethodName := ⟨RX4, "takesNumber", "(II)Z"⟩
abbrev cX4_valueOf : ByteArray := prog_6_method_14_code
def yX4_valueOf : MethodName := ⟨RX4, "valueOf", "(LLadderForge$Text;II)I"⟩
abbrev cX4_takesWord : ByteArray := prog_6_method_15_code
def yX4_takesWord : MethodName := ⟨RX4, "takesWord", "(II)Z"⟩
abbrev cX4_wordOf : ByteArray := prog_6_method_16_code
def yX4_wordOf : MethodName := ⟨RX4, "wordOf", "(LLadderForge$Text;II)I"⟩
abbrev cX4_putPlaces : ByteArray := prog_6_method_17_code
def yX4_putPlaces : MethodName := ⟨RX4, "putPlaces", "()I"⟩
def RX5 : String := "LadderForge$PairsMaker"
def TX5 : u_T := fun k => match k with
  | _ => ("LadderForge$Maker", "draft", "LLadderForge$Code;", true)
def tyX5 : Nat → FieldType := fun k => match k with
  | _ => .object "LadderForge$Code"
abbrev wsX50 : List Cond := u_ws RX5 TX5 1
theorem nmX5 : ∀ a, a < 1 → ∀ b, b < 1 → a ≠ b → (TX5 a).2.1 ≠ (TX5 b).2.1 := by decide +kernel
theorem tyX5_ok : ∀ k, k < 1 → parseFieldDescriptor (TX5 k).2.2.1 = some (tyX5 k) := by decide +kernel
abbrev cX5_init : ByteArray := prog_7_method_1_code
def yX5_init : MethodName := ⟨RX5, "<init>", "()V"⟩
abbrev cX5_faultIn : ByteArray := prog_7_method_2_code
def yX5_faultIn : MethodName := ⟨RX5, "faultIn", "(LLadderForge$Text;)I"⟩
abbrev cX5_digit : ByteArray := prog_7_method_3_code
def yX5_digit : MethodName := ⟨RX5, "digit", "(I)I"⟩
def RX6 : String := "LadderForge$Text"
def TX6 : u_T := fun k => match k with
  | 0 => ("LadderForge$Text", "bytes", "[I", true)
  | _ => ("LadderForge$Text", "length", "I", false)
def tyX6 : Nat → FieldType := fun k => match k with
  | 0 => .array .int
  | _ => .int
abbrev wsX60 : List Cond := u_ws RX6 TX6 2
theorem nmX6 : ∀ a, a < 2 → ∀ b, b < 2 → a ≠ b → (TX6 a).2.1 ≠ (TX6 b).2.1 := by decide +kernel
theorem tyX6_ok : ∀ k, k < 2 → parseFieldDescriptor (TX6 k).2.2.1 = some (tyX6 k) := by decide +kernel
abbrev cX6_init : ByteArray := prog_8_method_1_code
def yX6_init : MethodName := ⟨RX6, "<init>", "()V"⟩
abbrev cX6_at : ByteArray := prog_8_method_2_code
def yX6_at : MethodName := ⟨RX6, "at", "(I)I"⟩
abbrev cX6_add : ByteArray := prog_8_method_3_code
def yX6_add : MethodName := ⟨RX6, "add", "(I)V"⟩
abbrev cX6_become : ByteArray := prog_8_method_4_code
def yX6_become : MethodName := ⟨RX6, "become", "(LLadderForge$Text;)V"⟩
abbrev cX6_pastGap : ByteArray := prog_8_method_5_code
def yX6_pastGap : MethodName := ⟨RX6, "pastGap", "(I)I"⟩
def RX7 : String := "LadderForge$Tool"
def TX7 : u_T := fun k => match k with
  | 0 => ("LadderForge$Tool", "code", "LLadderForge$Code;", true)
  | 1 => ("LadderForge$Tool", "how", "I", true)
  | 2 => ("LadderForge$Tool", "text", "I", true)
  | 3 => ("LadderForge$Tool", "builder", "I", true)
  | _ => ("LadderForge$Tool", "checked", "Z", false)
def tyX7 : Nat → FieldType := fun k => match k with
  | 0 => .object "LadderForge$Code"
  | 1 => .int
  | 2 => .int
  | 3 => .int
  | _ => .boolean
abbrev wsX70 : List Cond := u_ws RX7 TX7 5
theorem nmX7 : ∀ a, a < 5 → ∀ b, b < 5 → a ≠ b → (TX7 a).2.1 ≠ (TX7 b).2.1 := by decide +kernel
theorem tyX7_ok : ∀ k, k < 5 → parseFieldDescriptor (TX7 k).2.2.1 = some (tyX7 k) := by decide +kernel
abbrev cX7_init : ByteArray := prog_9_method_1_code
def yX7_init : MethodName := ⟨RX7, "<init>", "(LLadderForge$Code;III)V"⟩
def RX8 : String := "LadderForge"
def TX8 : u_T := fun k => match k with
  | 0 => ("LadderForge", "typed", "LLadderForge$Text;", true)
  | 1 => ("LadderForge", "texts", "[LLadderForge$Text;", true)
  | 2 => ("LadderForge", "tools", "[LLadderForge$Tool;", true)
  | 3 => ("LadderForge", "toolCount", "I", false)
  | 4 => ("LadderForge", "pairsMaker", "LLadderForge$Maker;", true)
  | 5 => ("LadderForge", "namedMaker", "LLadderForge$Maker;", true)
  | 6 => ("LadderForge", "latest", "LLadderForge$Machine;", true)
  | 7 => ("LadderForge", "one", "LLadderForge$Machine;", true)
  | 8 => ("LadderForge", "two", "LLadderForge$Machine;", true)
  | 9 => ("LadderForge", "editions", "LLadderForge$Editions;", true)
  | _ => ("LadderForge", "traced", "J", false)
def tyX8 : Nat → FieldType := fun k => match k with
  | 0 => .object "LadderForge$Text"
  | 1 => .array (.object "LadderForge$Text")
  | 2 => .array (.object "LadderForge$Tool")
  | 3 => .int
  | 4 => .object "LadderForge$Maker"
  | 5 => .object "LadderForge$Maker"
  | 6 => .object "LadderForge$Machine"
  | 7 => .object "LadderForge$Machine"
  | 8 => .object "LadderForge$Machine"
  | 9 => .object "LadderForge$Editions"
  | _ => .long
abbrev wsX80 : List Cond := u_ws RX8 TX8 11
theorem nmX8 : ∀ a, a < 11 → ∀ b, b < 11 → a ≠ b → (TX8 a).2.1 ≠ (TX8 b).2.1 := by decide +kernel
theorem tyX8_ok : ∀ k, k < 11 → parseFieldDescriptor (TX8 k).2.2.1 = some (tyX8 k) := by decide +kernel
abbrev cX8_init : ByteArray := prog_1_method_1_code
def yX8_init : MethodName := ⟨RX8, "<init>", "()V"⟩
abbrev cX8_type : ByteArray := prog_1_method_2_code
def yX8_type : MethodName := ⟨RX8, "type", "(JI)I"⟩
abbrev cX8_clear : ByteArray := prog_1_method_3_code
def yX8_clear : MethodName := ⟨RX8, "clear", "()I"⟩
abbrev cX8_text : ByteArray := prog_1_method_4_code
def yX8_text : MethodName := ⟨RX8, "text", "(I)I"⟩
abbrev cX8_read : ByteArray := prog_1_method_5_code
def yX8_read : MethodName := ⟨RX8, "read", "(II)I"⟩
abbrev cX8_pairs : ByteArray := prog_1_method_6_code
def yX8_pairs : MethodName := ⟨RX8, "pairs", "(I)I"⟩
abbrev cX8_named : ByteArray := prog_1_method_7_code
def yX8_named : MethodName := ⟨RX8, "named", "(I)I"⟩
abbrev cX8_build : ByteArray := prog_1_method_8_code
def yX8_build : MethodName := ⟨RX8, "build", "(II)I"⟩
abbrev cX8_tool : ByteArray := prog_1_method_9_code
def yX8_tool : MethodName := ⟨RX8, "tool", "(II)I"⟩
abbrev cX8_code : ByteArray := prog_1_method_10_code
def yX8_code : MethodName := ⟨RX8, "code", "(III)I"⟩
abbrev cX8_run : ByteArray := prog_1_method_11_code
def yX8_run : MethodName := ⟨RX8, "run", "(II)I"⟩
abbrev cX8_ran : ByteArray := prog_1_method_12_code
def yX8_ran : MethodName := ⟨RX8, "ran", "(I)I"⟩
abbrev cX8_tape : ByteArray := prog_1_method_13_code
def yX8_tape : MethodName := ⟨RX8, "tape", "(II)I"⟩
abbrev cX8_rebuilt : ByteArray := prog_1_method_14_code
def yX8_rebuilt : MethodName := ⟨RX8, "rebuilt", "(I)I"⟩
abbrev cX8_stale : ByteArray := prog_1_method_15_code
def yX8_stale : MethodName := ⟨RX8, "stale", "()I"⟩
abbrev cX8_settles : ByteArray := prog_1_method_16_code
def yX8_settles : MethodName := ⟨RX8, "settles", "(II)I"⟩
abbrev cX8_round : ByteArray := prog_1_method_17_code
def yX8_round : MethodName := ⟨RX8, "round", "(III)I"⟩
abbrev cX8_hides : ByteArray := prog_1_method_18_code
def yX8_hides : MethodName := ⟨RX8, "hides", "(III)I"⟩
abbrev cX8_check : ByteArray := prog_1_method_19_code
def yX8_check : MethodName := ⟨RX8, "check", "(II)I"⟩
abbrev cX8_chain : ByteArray := prog_1_method_20_code
def yX8_chain : MethodName := ⟨RX8, "chain", "(II)I"⟩
abbrev cX8_sealed : ByteArray := prog_1_method_21_code
def yX8_sealed : MethodName := ⟨RX8, "sealed", "(I)I"⟩
abbrev cX8_least : ByteArray := prog_1_method_22_code
def yX8_least : MethodName := ⟨RX8, "least", "(I)I"⟩
abbrev cX8_same : ByteArray := prog_1_method_23_code
def yX8_same : MethodName := ⟨RX8, "same", "(II)I"⟩
abbrev cX8_edition : ByteArray := prog_1_method_24_code
def yX8_edition : MethodName := ⟨RX8, "edition", "(II)I"⟩
abbrev cX8_ladder : ByteArray := prog_1_method_25_code
def yX8_ladder : MethodName := ⟨RX8, "ladder", "(III)I"⟩
abbrev cX8_needed : ByteArray := prog_1_method_26_code
def yX8_needed : MethodName := ⟨RX8, "needed", "(III)I"⟩
abbrev cX8_weight : ByteArray := prog_1_method_27_code
def yX8_weight : MethodName := ⟨RX8, "weight", "(II)I"⟩
abbrev cX8_count : ByteArray := prog_1_method_28_code
def yX8_count : MethodName := ⟨RX8, "count", "(I)I"⟩
abbrev cX8_trace : ByteArray := prog_1_method_29_code
def yX8_trace : MethodName := ⟨RX8, "trace", "()J"⟩
abbrev cX8_textAt : ByteArray := prog_1_method_30_code
def yX8_textAt : MethodName := ⟨RX8, "textAt", "(I)LLadderForge$Text;"⟩
abbrev cX8_toolAt : ByteArray := prog_1_method_31_code
def yX8_toolAt : MethodName := ⟨RX8, "toolAt", "(I)LLadderForge$Tool;"⟩
abbrev cX8_hasBit : ByteArray := prog_1_method_32_code
def yX8_hasBit : MethodName := ⟨RX8, "hasBit", "(II)Z"⟩
abbrev cX8_make : ByteArray := prog_1_method_33_code
def yX8_make : MethodName := ⟨RX8, "make", "(II)I"⟩
abbrev cX8_makerBy : ByteArray := prog_1_method_34_code
def yX8_makerBy : MethodName := ⟨RX8, "makerBy", "(I)LLadderForge$Maker;"⟩
abbrev cX8_keep : ByteArray := prog_1_method_35_code
def yX8_keep : MethodName := ⟨RX8, "keep", "(LLadderForge$Code;III)I"⟩
abbrev cX8_madeAgain : ByteArray := prog_1_method_36_code
def yX8_madeAgain : MethodName := ⟨RX8, "madeAgain", "(LLadderForge$Tool;)I"⟩
abbrev cX8_builtAgain : ByteArray := prog_1_method_37_code
def yX8_builtAgain : MethodName := ⟨RX8, "builtAgain", "(LLadderForge$Tool;LLadderForge$Text;)I"⟩
abbrev cX8_staleBits : ByteArray := prog_1_method_38_code
def yX8_staleBits : MethodName := ⟨RX8, "staleBits", "()I"⟩
abbrev cX8_isBuiltByOneOf : ByteArray := prog_1_method_39_code
def yX8_isBuiltByOneOf : MethodName := ⟨RX8, "isBuiltByOneOf", "(ILLadderForge$Tool;)Z"⟩
abbrev cX8_goneRound : ByteArray := prog_1_method_40_code
def yX8_goneRound : MethodName := ⟨RX8, "goneRound", "(LLadderForge$Tool;LLadderForge$Tool;LLadderForge$Text;)I"⟩
abbrev cX8_chainLength : ByteArray := prog_1_method_41_code
def yX8_chainLength : MethodName := ⟨RX8, "chainLength", "(I)I"⟩
abbrev cX8_chainAt : ByteArray := prog_1_method_42_code
def yX8_chainAt : MethodName := ⟨RX8, "chainAt", "(II)I"⟩
abbrev cX8_chainEnd : ByteArray := prog_1_method_43_code
def yX8_chainEnd : MethodName := ⟨RX8, "chainEnd", "(I)I"⟩
abbrev cX8_isSealed : ByteArray := prog_1_method_44_code
def yX8_isSealed : MethodName := ⟨RX8, "isSealed", "(II)Z"⟩
abbrev cX8_checkedTools : ByteArray := prog_1_method_45_code
def yX8_checkedTools : MethodName := ⟨RX8, "checkedTools", "()I"⟩
abbrev cX8_sealedTools : ByteArray := prog_1_method_46_code
def yX8_sealedTools : MethodName := ⟨RX8, "sealedTools", "(I)I"⟩
abbrev cX8_asTool : ByteArray := prog_1_method_47_code
def yX8_asTool : MethodName := ⟨RX8, "asTool", "(LLadderForge$Tool;)I"⟩
abbrev cX8_asPaired : ByteArray := prog_1_method_48_code
def yX8_asPaired : MethodName := ⟨RX8, "asPaired", "(LLadderForge$Tool;)I"⟩
abbrev cX8_asNamed : ByteArray := prog_1_method_49_code
def yX8_asNamed : MethodName := ⟨RX8, "asNamed", "(LLadderForge$Tool;)I"⟩
abbrev cX8_asBuilt : ByteArray := prog_1_method_50_code
def yX8_asBuilt : MethodName := ⟨RX8, "asBuilt", "(LLadderForge$Tool;I)I"⟩
abbrev cX8_asSealed : ByteArray := prog_1_method_51_code
def yX8_asSealed : MethodName := ⟨RX8, "asSealed", "(LLadderForge$Tool;I)I"⟩
abbrev cX8_asDoubted : ByteArray := prog_1_method_52_code
def yX8_asDoubted : MethodName := ⟨RX8, "asDoubted", "(LLadderForge$Tool;)I"⟩
def RX9 : String := "LadderForgeModel"
def TX9 : u_T := fun k => match k with
  | 0 => ("LadderForgeModel", "trace", "J", false)
  | 1 => ("LadderForgeModel", "typed", "[B", true)
  | 2 => ("LadderForgeModel", "many", "I", false)
  | 3 => ("LadderForgeModel", "text", "[B", true)
  | 4 => ("LadderForgeModel", "length", "[I", true)
  | 5 => ("LadderForgeModel", "tools", "I", false)
  | 6 => ("LadderForgeModel", "bytes", "[I", true)
  | 7 => ("LadderForgeModel", "led", "[I", true)
  | 8 => ("LadderForgeModel", "size", "[I", true)
  | 9 => ("LadderForgeModel", "how", "[I", true)
  | 10 => ("LadderForgeModel", "from", "[I", true)
  | 11 => ("LadderForgeModel", "builder", "[I", true)
  | 12 => ("LadderForgeModel", "isChecked", "[I", true)
  | 13 => ("LadderForgeModel", "base", "I", false)
  | 14 => ("LadderForgeModel", "end", "I", false)
  | 15 => ("LadderForgeModel", "at", "I", false)
  | 16 => ("LadderForgeModel", "fault", "I", false)
  | 17 => ("LadderForgeModel", "start", "I", false)
  | 18 => ("LadderForgeModel", "sort", "I", false)
  | 19 => ("LadderForgeModel", "value", "I", false)
  | 20 => ("LadderForgeModel", "ended", "I", false)
  | 21 => ("LadderForgeModel", "places", "[I", true)
  | 22 => ("LadderForgeModel", "memory", "[I", true)
  | 23 => ("LadderForgeModel", "out", "[I", true)
  | 24 => ("LadderForgeModel", "outLed", "[I", true)
  | 25 => ("LadderForgeModel", "came", "I", false)
  | 26 => ("LadderForgeModel", "a", "I", false)
  | 27 => ("LadderForgeModel", "x", "I", false)
  | 28 => ("LadderForgeModel", "p", "I", false)
  | 29 => ("LadderForgeModel", "done", "I", false)
  | 30 => ("LadderForgeModel", "taken", "I", false)
  | 31 => ("LadderForgeModel", "isEnd", "I", false)
  | 32 => ("LadderForgeModel", "told", "[I", true)
  | 33 => ("LadderForgeModel", "toldOut", "[I", true)
  | 34 => ("LadderForgeModel", "toldMemory", "[I", true)
  | 35 => ("LadderForgeModel", "editions", "I", false)
  | 36 => ("LadderForgeModel", "uses", "[I", true)
  | 37 => ("LadderForgeModel", "knows", "[I", true)
  | _ => ("LadderForgeModel", "far", "[I", true)
def tyX9 : Nat → FieldType := fun k => match k with
  | 0 => .long
  | 1 => .array .byte
  | 2 => .int
  | 3 => .array .byte
  | 4 => .array .int
  | 5 => .int
  | 6 => .array .int
  | 7 => .array .int
  | 8 => .array .int
  | 9 => .array .int
  | 10 => .array .int
  | 11 => .array .int
  | 12 => .array .int
  | 13 => .int
  | 14 => .int
  | 15 => .int
  | 16 => .int
  | 17 => .int
  | 18 => .int
  | 19 => .int
  | 20 => .int
  | 21 => .array .int
  | 22 => .array .int
  | 23 => .array .int
  | 24 => .array .int
  | 25 => .int
  | 26 => .int
  | 27 => .int
  | 28 => .int
  | 29 => .int
  | 30 => .int
  | 31 => .int
  | 32 => .array .int
  | 33 => .array .int
  | 34 => .array .int
  | 35 => .int
  | 36 => .array .int
  | 37 => .array .int
  | _ => .array .int
abbrev wsX90 : List Cond := u_ws RX9 TX9 39
theorem nmX9 : ∀ a, a < 39 → ∀ b, b < 39 → a ≠ b → (TX9 a).2.1 ≠ (TX9 b).2.1 := by decide +kernel
theorem tyX9_ok : ∀ k, k < 39 → parseFieldDescriptor (TX9 k).2.2.1 = some (tyX9 k) := by decide +kernel
abbrev cX9_init : ByteArray := prog_11_method_1_code
def yX9_init : MethodName := ⟨RX9, "<init>", "()V"⟩
abbrev cX9_in : ByteArray := prog_11_method_3_code
def yX9_in : MethodName := ⟨RX9, "in", "(III)Z"⟩
abbrev cX9_type : ByteArray := prog_11_method_4_code
def yX9_type : MethodName := ⟨RX9, "type", "(JI)I"⟩
abbrev cX9_clear : ByteArray := prog_11_method_5_code
def yX9_clear : MethodName := ⟨RX9, "clear", "()I"⟩
abbrev cX9_isText : ByteArray := prog_11_method_6_code
def yX9_isText : MethodName := ⟨RX9, "isText", "(I)Z"⟩
abbrev cX9_text : ByteArray := prog_11_method_7_code
def yX9_text : MethodName := ⟨RX9, "text", "(I)I"⟩
abbrev cX9_read : ByteArray := prog_11_method_8_code
def yX9_read : MethodName := ⟨RX9, "read", "(II)I"⟩
abbrev cX9_isTool : ByteArray := prog_11_method_9_code
def yX9_isTool : MethodName := ⟨RX9, "isTool", "(I)Z"⟩
abbrev cX9_add : ByteArray := prog_11_method_10_code
def yX9_add : MethodName := ⟨RX9, "add", "(III)V"⟩
abbrev cX9_here : ByteArray := prog_11_method_11_code
def yX9_here : MethodName := ⟨RX9, "here", "()I"⟩
abbrev cX9_open : ByteArray := prog_11_method_12_code
def yX9_open : MethodName := ⟨RX9, "open", "(I)V"⟩
abbrev cX9_pass : ByteArray := prog_11_method_13_code
def yX9_pass : MethodName := ⟨RX9, "pass", "()V"⟩
abbrev cX9_digit : ByteArray := prog_11_method_14_code
def yX9_digit : MethodName := ⟨RX9, "digit", "(I)I"⟩
abbrev cX9_readPairs : ByteArray := prog_11_method_15_code
def yX9_readPairs : MethodName := ⟨RX9, "readPairs", "(II)I"⟩
abbrev cX9_more : ByteArray := prog_11_method_16_code
def yX9_more : MethodName := ⟨RX9, "more", "(JI)J"⟩
abbrev cX9_spelled : ByteArray := prog_11_method_17_code
def yX9_spelled : MethodName := ⟨RX9, "spelled", "(IIIII)J"⟩
abbrev cX9_wordOf : ByteArray := prog_11_method_18_code
def yX9_wordOf : MethodName := ⟨RX9, "wordOf", "(II)I"⟩
abbrev cX9_hasNumber : ByteArray := prog_11_method_19_code
def yX9_hasNumber : MethodName := ⟨RX9, "hasNumber", "(I)Z"⟩
abbrev cX9_next : ByteArray := prog_11_method_20_code
def yX9_next : MethodName := ⟨RX9, "next", "()V"⟩
abbrev cX9_due : ByteArray := prog_11_method_21_code
def yX9_due : MethodName := ⟨RX9, "due", "(Z)I"⟩
abbrev cX9_readNames : ByteArray := prog_11_method_22_code
def yX9_readNames : MethodName := ⟨RX9, "readNames", "(II)I"⟩
abbrev cX9_newTool : ByteArray := prog_11_method_23_code
def yX9_newTool : MethodName := ⟨RX9, "newTool", "(III)I"⟩
abbrev cX9_copy : ByteArray := prog_11_method_24_code
def yX9_copy : MethodName := ⟨RX9, "copy", "([III)V"⟩
abbrev cX9_move : ByteArray := prog_11_method_25_code
def yX9_move : MethodName := ⟨RX9, "move", "(II)V"⟩
abbrev cX9_make : ByteArray := prog_11_method_26_code
def yX9_make : MethodName := ⟨RX9, "make", "(II)I"⟩
abbrev cX9_pairs : ByteArray := prog_11_method_27_code
def yX9_pairs : MethodName := ⟨RX9, "pairs", "(I)I"⟩
abbrev cX9_named : ByteArray := prog_11_method_28_code
def yX9_named : MethodName := ⟨RX9, "named", "(I)I"⟩
abbrev cX9_tool : ByteArray := prog_11_method_29_code
def yX9_tool : MethodName := ⟨RX9, "tool", "(II)I"⟩
abbrev cX9_code : ByteArray := prog_11_method_30_code
def yX9_code : MethodName := ⟨RX9, "code", "(III)I"⟩
abbrev cX9_step : ByteArray := prog_11_method_31_code
def yX9_step : MethodName := ⟨RX9, "step", "(I)I"⟩
abbrev cX9_go : ByteArray := prog_11_method_32_code
def yX9_go : MethodName := ⟨RX9, "go", "(II)I"⟩
abbrev cX9_take : ByteArray := prog_11_method_33_code
def yX9_take : MethodName := ⟨RX9, "take", "(I)V"⟩
abbrev cX9_builds : ByteArray := prog_11_method_34_code
def yX9_builds : MethodName := ⟨RX9, "builds", "(III)I"⟩
abbrev cX9_run : ByteArray := prog_11_method_35_code
def yX9_run : MethodName := ⟨RX9, "run", "(II)I"⟩
abbrev cX9_ran : ByteArray := prog_11_method_36_code
def yX9_ran : MethodName := ⟨RX9, "ran", "(I)I"⟩
abbrev cX9_tape : ByteArray := prog_11_method_37_code
def yX9_tape : MethodName := ⟨RX9, "tape", "(II)I"⟩
abbrev cX9_build : ByteArray := prog_11_method_38_code
def yX9_build : MethodName := ⟨RX9, "build", "(II)I"⟩
abbrev cX9_unlike : ByteArray := prog_11_method_39_code
def yX9_unlike : MethodName := ⟨RX9, "unlike", "(II)I"⟩
abbrev cX9_again : ByteArray := prog_11_method_40_code
def yX9_again : MethodName := ⟨RX9, "again", "(I)I"⟩
abbrev cX9_rebuilt : ByteArray := prog_11_method_41_code
def yX9_rebuilt : MethodName := ⟨RX9, "rebuilt", "(I)I"⟩
abbrev cX9_stale : ByteArray := prog_11_method_42_code
def yX9_stale : MethodName := ⟨RX9, "stale", "()I"⟩
abbrev cX9_settles : ByteArray := prog_11_method_43_code
def yX9_settles : MethodName := ⟨RX9, "settles", "(II)I"⟩
abbrev cX9_goRound : ByteArray := prog_11_method_44_code
def yX9_goRound : MethodName := ⟨RX9, "goRound", "(III)I"⟩
abbrev cX9_round : ByteArray := prog_11_method_45_code
def yX9_round : MethodName := ⟨RX9, "round", "(III)I"⟩
abbrev cX9_hides : ByteArray := prog_11_method_46_code
def yX9_hides : MethodName := ⟨RX9, "hides", "(III)I"⟩
abbrev cX9_check : ByteArray := prog_11_method_47_code
def yX9_check : MethodName := ⟨RX9, "check", "(II)I"⟩
abbrev cX9_lengthOf : ByteArray := prog_11_method_48_code
def yX9_lengthOf : MethodName := ⟨RX9, "lengthOf", "(I)I"⟩
abbrev cX9_last : ByteArray := prog_11_method_49_code
def yX9_last : MethodName := ⟨RX9, "last", "(I)I"⟩
abbrev cX9_chain : ByteArray := prog_11_method_50_code
def yX9_chain : MethodName := ⟨RX9, "chain", "(II)I"⟩
abbrev cX9_sealedOnes : ByteArray := prog_11_method_51_code
def yX9_sealedOnes : MethodName := ⟨RX9, "sealedOnes", "()I"⟩
abbrev cX9_sealed : ByteArray := prog_11_method_52_code
def yX9_sealed : MethodName := ⟨RX9, "sealed", "(I)I"⟩
abbrev cX9_least : ByteArray := prog_11_method_53_code
def yX9_least : MethodName := ⟨RX9, "least", "(I)I"⟩
abbrev cX9_same : ByteArray := prog_11_method_54_code
def yX9_same : MethodName := ⟨RX9, "same", "(II)I"⟩
abbrev cX9_edition : ByteArray := prog_11_method_55_code
def yX9_edition : MethodName := ⟨RX9, "edition", "(II)I"⟩
abbrev cX9_isEdition : ByteArray := prog_11_method_56_code
def yX9_isEdition : MethodName := ⟨RX9, "isEdition", "(I)Z"⟩
abbrev cX9_climb : ByteArray := prog_11_method_57_code
def yX9_climb : MethodName := ⟨RX9, "climb", "(III)I"⟩
abbrev cX9_ladder : ByteArray := prog_11_method_58_code
def yX9_ladder : MethodName := ⟨RX9, "ladder", "(III)I"⟩
abbrev cX9_needed : ByteArray := prog_11_method_59_code
def yX9_needed : MethodName := ⟨RX9, "needed", "(III)I"⟩
abbrev cX9_weight : ByteArray := prog_11_method_60_code
def yX9_weight : MethodName := ⟨RX9, "weight", "(II)I"⟩
abbrev cX9_count : ByteArray := prog_11_method_61_code
def yX9_count : MethodName := ⟨RX9, "count", "(I)I"⟩
abbrev cX9_trace : ByteArray := prog_11_method_62_code
def yX9_trace : MethodName := ⟨RX9, "trace", "()J"⟩
def RJ9 : String := "java/lang/Math"
def TJ9 : u_T := fun k => match k with
  | _ => ("", "", "", false)
def tyJ9 : Nat → FieldType := fun k => match k with
  | _ => .int
abbrev wsJ90 : List Cond := u_ws RJ9 TJ9 0
theorem nmJ9 : ∀ a, a < 0 → ∀ b, b < 0 → a ≠ b → (TJ9 a).2.1 ≠ (TJ9 b).2.1 := by decide +kernel
theorem tyJ9_ok : ∀ k, k < 0 → parseFieldDescriptor (TJ9 k).2.2.1 = some (tyJ9 k) := by decide +kernel
abbrev cJ9_max_7cf53 : ByteArray := prog_12_method_65_code
def yJ9_max_7cf53 : MethodName := ⟨RJ9, "max", "(II)I"⟩
abbrev cJ9_min_7cf53 : ByteArray := prog_12_method_69_code
def yJ9_min_7cf53 : MethodName := ⟨RJ9, "min", "(II)I"⟩
def RJ0 : String := "java/lang/String"
def TJ0 : u_T := fun k => match k with
  | _ => ("", "", "", false)
def tyJ0 : Nat → FieldType := fun k => match k with
  | _ => .int
abbrev wsJ00 : List Cond := u_ws RJ0 TJ0 0
theorem nmJ0 : ∀ a, a < 0 → ∀ b, b < 0 → a ≠ b → (TJ0 a).2.1 ≠ (TJ0 b).2.1 := by decide +kernel
theorem tyJ0_ok : ∀ k, k < 0 → parseFieldDescriptor (TJ0 k).2.2.1 = some (tyJ0 k) := by decide +kernel
abbrev cJ0_length_8abf5 : ByteArray := prog_13_method_54_code
def yJ0_length_8abf5 : MethodName := ⟨RJ0, "length", "()I"⟩
abbrev cJ0_charAt_5068e : ByteArray := prog_13_method_56_code
def yJ0_charAt_5068e : MethodName := ⟨RJ0, "charAt", "(I)C"⟩
abbrev cJ0_coder_7d493 : ByteArray := prog_13_method_152_code
def yJ0_coder_7d493 : MethodName := ⟨RJ0, "coder", "()B"⟩
abbrev cJ0_isLatin1_aae02 : ByteArray := prog_13_method_154_code
def yJ0_isLatin1_aae02 : MethodName := ⟨RJ0, "isLatin1", "()Z"⟩
abbrev cJ0_checkIndex_df160 : ByteArray := prog_13_method_155_code
def yJ0_checkIndex_df160 : MethodName := ⟨RJ0, "checkIndex", "(II)V"⟩
def RJ1 : String := "java/lang/StringLatin1"
def TJ1 : u_T := fun k => match k with
  | _ => ("", "", "", false)
def tyJ1 : Nat → FieldType := fun k => match k with
  | _ => .int
abbrev wsJ10 : List Cond := u_ws RJ1 TJ1 0
theorem nmJ1 : ∀ a, a < 0 → ∀ b, b < 0 → a ≠ b → (TJ1 a).2.1 ≠ (TJ1 b).2.1 := by decide +kernel
theorem tyJ1_ok : ∀ k, k < 0 → parseFieldDescriptor (TJ1 k).2.2.1 = some (tyJ1 k) := by decide +kernel
abbrev cJ1_charAt_3b067 : ByteArray := prog_14_method_2_code
def yJ1_charAt_3b067 : MethodName := ⟨RJ1, "charAt", "([BI)C"⟩
def RJ2 : String := "java/lang/StringUTF16"
def TJ2 : u_T := fun k => match k with
  | _ => ("", "", "", false)
def tyJ2 : Nat → FieldType := fun k => match k with
  | _ => .int
abbrev wsJ20 : List Cond := u_ws RJ2 TJ2 0
theorem nmJ2 : ∀ a, a < 0 → ∀ b, b < 0 → a ≠ b → (TJ2 a).2.1 ≠ (TJ2 b).2.1 := by decide +kernel
theorem tyJ2_ok : ∀ k, k < 0 → parseFieldDescriptor (TJ2 k).2.2.1 = some (tyJ2 k) := by decide +kernel
abbrev cJ2_getChar_3b067 : ByteArray := prog_15_method_5_code
def yJ2_getChar_3b067 : MethodName := ⟨RJ2, "getChar", "([BI)C"⟩
abbrev cJ2_length_9d52b : ByteArray := prog_15_method_6_code
def yJ2_length_9d52b : MethodName := ⟨RJ2, "length", "([B)I"⟩
abbrev cJ2_charAt_3b067 : ByteArray := prog_15_method_83_code
def yJ2_charAt_3b067 : MethodName := ⟨RJ2, "charAt", "([BI)C"⟩
abbrev cJ2_checkIndex_2214a : ByteArray := prog_15_method_91_code
def yJ2_checkIndex_2214a : MethodName := ⟨RJ2, "checkIndex", "(I[B)V"⟩
def RJ3 : String := "jdk/internal/util/Preconditions"
def TJ3 : u_T := fun k => match k with
  | _ => ("", "", "", false)
def tyJ3 : Nat → FieldType := fun k => match k with
  | _ => .int
abbrev wsJ30 : List Cond := u_ws RJ3 TJ3 0
theorem nmJ3 : ∀ a, a < 0 → ∀ b, b < 0 → a ≠ b → (TJ3 a).2.1 ≠ (TJ3 b).2.1 := by decide +kernel
theorem tyJ3_ok : ∀ k, k < 0 → parseFieldDescriptor (TJ3 k).2.2.1 = some (tyJ3 k) := by decide +kernel
abbrev cJ3_checkIndex_8e157 : ByteArray := prog_16_method_11_code
def yJ3_checkIndex_8e157 : MethodName := ⟨RJ3, "checkIndex", "(IILjava/util/function/BiFunction;)I"⟩
def RL : String := "LadderForgeLaw"
abbrev cL_law : ByteArray := code
def yL_law : MethodName := ⟨RL, "law", "([I)Z"⟩
abbrev vwCl : List vw_C := [(RX0, TX0, 4), (RX1, TX1, 4), (RX2, TX2, 9), (RX4, TX4, 5), (RX5, TX5, 1), (RX6, TX6, 2), (RX7, TX7, 5), (RX8, TX8, 11), (RX9, TX9, 39)]
/-- the words that stay good over a call -/
def gw : List Cond := lw_tbl.filter goodWord
/-- the words on nest mates and abstract methods -/
def nw : List Cond := [(Jvm.Cond.methodLinkNest "LadderForge" (9 : Nat) ({ cls := "LadderForge$Text", name := "<init>", desc := "()V" } : Jvm.MethodName) "LadderForge"),
  (Jvm.Cond.fieldLinkNest "LadderForge" (67 : Nat) "LadderForge$Text" "length" "I" "LadderForge"),
  (Jvm.Cond.fieldLinkNest "LadderForge$NamedMaker" (34 : Nat) "LadderForge$Text" "length" "I" "LadderForge"),
  (Jvm.Cond.fieldLinkNest "LadderForge$PairsMaker" (27 : Nat) "LadderForge$Text" "length" "I" "LadderForge"),
  (Jvm.Cond.methodLinkNest "LadderForge" (32 : Nat) ({ cls := "LadderForge$PairsMaker", name := "<init>", desc := "()V" } : Jvm.MethodName) "LadderForge"),
  (Jvm.Cond.methodLinkNest "LadderForge$PairsMaker" (3 : Nat) ({ cls := "LadderForge$Maker", name := "<init>", desc := "()V" } : Jvm.MethodName) "LadderForge"),
  (Jvm.Cond.fieldLinkNest "LadderForge$PairsMaker" (15 : Nat) "LadderForge$Code" "length" "I" "LadderForge"),
  (Jvm.Cond.fieldLinkNest "LadderForge$NamedMaker" (49 : Nat) "LadderForge$Code" "length" "I" "LadderForge"),
  (Jvm.Cond.fieldLinkNest "LadderForge$Machine" (51 : Nat) "LadderForge$Code" "length" "I" "LadderForge"),
  (Jvm.Cond.fieldLinkNest "LadderForge" (109 : Nat) "LadderForge$Code" "length" "I" "LadderForge"),
  (Jvm.Cond.methodLinkNest "LadderForge" (39 : Nat) ({ cls := "LadderForge$NamedMaker", name := "<init>", desc := "()V" } : Jvm.MethodName) "LadderForge"),
  (Jvm.Cond.methodLinkNest "LadderForge$NamedMaker" (3 : Nat) ({ cls := "LadderForge$Maker", name := "<init>", desc := "()V" } : Jvm.MethodName) "LadderForge"),
  (Jvm.Cond.methodLinkNest "LadderForge" (45 : Nat) ({ cls := "LadderForge$Machine", name := "<init>", desc := "()V" } : Jvm.MethodName) "LadderForge"),
  (Jvm.Cond.fieldLinkNest "LadderForge" (102 : Nat) "LadderForge$Machine" "out" "LLadderForge$Code;" "LadderForge"),
  (Jvm.Cond.fieldLinkNest "LadderForge" (142 : Nat) "LadderForge$Machine" "a" "I" "LadderForge"),
  (Jvm.Cond.fieldLinkNest "LadderForge" (145 : Nat) "LadderForge$Machine" "x" "I" "LadderForge"),
  (Jvm.Cond.fieldLinkNest "LadderForge" (148 : Nat) "LadderForge$Machine" "p" "I" "LadderForge"),
  (Jvm.Cond.fieldLinkNest "LadderForge" (136 : Nat) "LadderForge$Machine" "done" "I" "LadderForge"),
  (Jvm.Cond.fieldLinkNest "LadderForge" (139 : Nat) "LadderForge$Machine" "taken" "I" "LadderForge"),
  (Jvm.Cond.fieldLinkNest "LadderForge" (133 : Nat) "LadderForge$Machine" "harm" "I" "LadderForge"),
  (Jvm.Cond.methodLinkNest "LadderForge" (58 : Nat) ({ cls := "LadderForge$Editions", name := "<init>", desc := "()V" } : Jvm.MethodName) "LadderForge"),
  (Jvm.Cond.fieldLinkNest "LadderForge" (219 : Nat) "LadderForge$Editions" "held" "I" "LadderForge"),
  (Jvm.Cond.declares ({ cls := "LadderForge$Maker", name := "faultIn", desc := "(LLadderForge$Text;)I" } : Jvm.MethodName)),
  (Jvm.Cond.fieldLinkNest "LadderForge" (94 : Nat) "LadderForge$Tool" "code" "LLadderForge$Code;" "LadderForge"),
  (Jvm.Cond.fieldLinkNest "LadderForge" (112 : Nat) "LadderForge$Tool" "how" "I" "LadderForge"),
  (Jvm.Cond.fieldLinkNest "LadderForge" (115 : Nat) "LadderForge$Tool" "text" "I" "LadderForge"),
  (Jvm.Cond.fieldLinkNest "LadderForge" (118 : Nat) "LadderForge$Tool" "builder" "I" "LadderForge"),
  (Jvm.Cond.fieldLinkNest "LadderForge" (121 : Nat) "LadderForge$Tool" "checked" "Z" "LadderForge")]
theorem gw_of {w : Cond} (h : w ∈ lw_tbl) (hg : goodWord w = true) : w ∈ gw := List.mem_filter.mpr ⟨h, hg⟩
theorem gw_tbl {w : Cond} (h : w ∈ gw) : w ∈ lw_tbl := (List.mem_filter.mp h).1
theorem gw_good {w : Cond} (h : w ∈ gw) : goodWord w = true := (List.mem_filter.mp h).2
