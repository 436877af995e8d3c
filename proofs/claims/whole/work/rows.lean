section
-- ===== PART A: goes FIRST, ahead of the names: the tables' words, and 'selects' of the private methods out of them =====
/-- a private method of a class that the tables say can be made, by its rows of tables_1 -/
def lw_okq (q : MethodName × Nat) : Prop := (q.1.cls ≠ "java/lang/invoke/MethodHandle" ∧ q.1.cls ≠ "java/lang/invoke/VarHandle") ∧ Cond.instantiable q.1.cls q.2 ∈ tables_1 ∧ Cond.privateMethod q.1 ∈ tables_1 ∧ Cond.instanceMethod q.1 ∈ tables_1
theorem lw_p0 : lw_okq (⟨"LadderForge", "textAt", "(I)LLadderForge$Text;"⟩, 11) := ⟨⟨by decide +kernel, by decide +kernel⟩, List.mem_of_getElem? (i := 17) (by decide +kernel), List.mem_of_getElem? (i := 222) (by decide +kernel), List.mem_of_getElem? (i := 223) (by decide +kernel)⟩
theorem lw_p1 : lw_okq (⟨"LadderForge", "make", "(II)I"⟩, 11) := ⟨⟨by decide +kernel, by decide +kernel⟩, List.mem_of_getElem? (i := 17) (by decide +kernel), List.mem_of_getElem? (i := 244) (by decide +kernel), List.mem_of_getElem? (i := 245) (by decide +kernel)⟩
theorem lw_p2 : lw_okq (⟨"LadderForge", "makerBy", "(I)LLadderForge$Maker;"⟩, 11) := ⟨⟨by decide +kernel, by decide +kernel⟩, List.mem_of_getElem? (i := 17) (by decide +kernel), List.mem_of_getElem? (i := 248) (by decide +kernel), List.mem_of_getElem? (i := 249) (by decide +kernel)⟩
theorem lw_p3 : lw_okq (⟨"LadderForge$NamedMaker", "begin", "()V"⟩, 5) := ⟨⟨by decide +kernel, by decide +kernel⟩, List.mem_of_getElem? (i := 89) (by decide +kernel), List.mem_of_getElem? (i := 258) (by decide +kernel), List.mem_of_getElem? (i := 259) (by decide +kernel)⟩
theorem lw_p4 : lw_okq (⟨"LadderForge$NamedMaker", "takes", "(LLadderForge$Text;II)Z"⟩, 5) := ⟨⟨by decide +kernel, by decide +kernel⟩, List.mem_of_getElem? (i := 89) (by decide +kernel), List.mem_of_getElem? (i := 282) (by decide +kernel), List.mem_of_getElem? (i := 283) (by decide +kernel)⟩
theorem lw_p5 : lw_okq (⟨"LadderForge$NamedMaker", "takesColon", "(I)Z"⟩, 5) := ⟨⟨by decide +kernel, by decide +kernel⟩, List.mem_of_getElem? (i := 89) (by decide +kernel), List.mem_of_getElem? (i := 286) (by decide +kernel), List.mem_of_getElem? (i := 287) (by decide +kernel)⟩
theorem lw_p6 : lw_okq (⟨"LadderForge$NamedMaker", "takesLetter", "(II)Z"⟩, 5) := ⟨⟨by decide +kernel, by decide +kernel⟩, List.mem_of_getElem? (i := 89) (by decide +kernel), List.mem_of_getElem? (i := 290) (by decide +kernel), List.mem_of_getElem? (i := 291) (by decide +kernel)⟩
theorem lw_p7 : lw_okq (⟨"LadderForge$NamedMaker", "takesPlace", "(II)Z"⟩, 5) := ⟨⟨by decide +kernel, by decide +kernel⟩, List.mem_of_getElem? (i := 89) (by decide +kernel), List.mem_of_getElem? (i := 298) (by decide +kernel), List.mem_of_getElem? (i := 299) (by decide +kernel)⟩
theorem lw_p8 : lw_okq (⟨"LadderForge$NamedMaker", "takesNumber", "(II)Z"⟩, 5) := ⟨⟨by decide +kernel, by decide +kernel⟩, List.mem_of_getElem? (i := 89) (by decide +kernel), List.mem_of_getElem? (i := 305) (by decide +kernel), List.mem_of_getElem? (i := 306) (by decide +kernel)⟩
theorem lw_p9 : lw_okq (⟨"LadderForge$NamedMaker", "takesWord", "(II)Z"⟩, 5) := ⟨⟨by decide +kernel, by decide +kernel⟩, List.mem_of_getElem? (i := 89) (by decide +kernel), List.mem_of_getElem? (i := 361) (by decide +kernel), List.mem_of_getElem? (i := 362) (by decide +kernel)⟩
theorem lw_p10 : lw_okq (⟨"LadderForge$NamedMaker", "putPlaces", "()I"⟩, 5) := ⟨⟨by decide +kernel, by decide +kernel⟩, List.mem_of_getElem? (i := 89) (by decide +kernel), List.mem_of_getElem? (i := 368) (by decide +kernel), List.mem_of_getElem? (i := 369) (by decide +kernel)⟩
theorem lw_p11 : lw_okq (⟨"LadderForge", "keep", "(LLadderForge$Code;III)I"⟩, 11) := ⟨⟨by decide +kernel, by decide +kernel⟩, List.mem_of_getElem? (i := 17) (by decide +kernel), List.mem_of_getElem? (i := 389) (by decide +kernel), List.mem_of_getElem? (i := 390) (by decide +kernel)⟩
theorem lw_p12 : lw_okq (⟨"LadderForge", "toolAt", "(I)LLadderForge$Tool;"⟩, 11) := ⟨⟨by decide +kernel, by decide +kernel⟩, List.mem_of_getElem? (i := 17) (by decide +kernel), List.mem_of_getElem? (i := 440) (by decide +kernel), List.mem_of_getElem? (i := 441) (by decide +kernel)⟩
theorem lw_p13 : lw_okq (⟨"LadderForge$Machine", "load", "(LLadderForge$Code;)V"⟩, 9) := ⟨⟨by decide +kernel, by decide +kernel⟩, List.mem_of_getElem? (i := 109) (by decide +kernel), List.mem_of_getElem? (i := 452) (by decide +kernel), List.mem_of_getElem? (i := 453) (by decide +kernel)⟩
theorem lw_p14 : lw_okq (⟨"LadderForge$Machine", "harmOf", "(I)I"⟩, 9) := ⟨⟨by decide +kernel, by decide +kernel⟩, List.mem_of_getElem? (i := 109) (by decide +kernel), List.mem_of_getElem? (i := 457) (by decide +kernel), List.mem_of_getElem? (i := 458) (by decide +kernel)⟩
theorem lw_p15 : lw_okq (⟨"LadderForge$Machine", "obey", "(ILLadderForge$Text;)V"⟩, 9) := ⟨⟨by decide +kernel, by decide +kernel⟩, List.mem_of_getElem? (i := 109) (by decide +kernel), List.mem_of_getElem? (i := 461) (by decide +kernel), List.mem_of_getElem? (i := 462) (by decide +kernel)⟩
def lw_privs_1 : List (MethodName × Nat) := [(⟨"LadderForge", "textAt", "(I)LLadderForge$Text;"⟩, 11), (⟨"LadderForge", "make", "(II)I"⟩, 11), (⟨"LadderForge", "makerBy", "(I)LLadderForge$Maker;"⟩, 11), (⟨"LadderForge$NamedMaker", "begin", "()V"⟩, 5), (⟨"LadderForge$NamedMaker", "takes", "(LLadderForge$Text;II)Z"⟩, 5), (⟨"LadderForge$NamedMaker", "takesColon", "(I)Z"⟩, 5), (⟨"LadderForge$NamedMaker", "takesLetter", "(II)Z"⟩, 5), (⟨"LadderForge$NamedMaker", "takesPlace", "(II)Z"⟩, 5), (⟨"LadderForge$NamedMaker", "takesNumber", "(II)Z"⟩, 5), (⟨"LadderForge$NamedMaker", "takesWord", "(II)Z"⟩, 5), (⟨"LadderForge$NamedMaker", "putPlaces", "()I"⟩, 5), (⟨"LadderForge", "keep", "(LLadderForge$Code;III)I"⟩, 11), (⟨"LadderForge", "toolAt", "(I)LLadderForge$Tool;"⟩, 11), (⟨"LadderForge$Machine", "load", "(LLadderForge$Code;)V"⟩, 9), (⟨"LadderForge$Machine", "harmOf", "(I)I"⟩, 9), (⟨"LadderForge$Machine", "obey", "(ILLadderForge$Text;)V"⟩, 9)]
theorem lw_r1 : ∀ q ∈ lw_privs_1, lw_okq q := List.forall_mem_cons.mpr ⟨lw_p0, List.forall_mem_cons.mpr ⟨lw_p1, List.forall_mem_cons.mpr ⟨lw_p2, List.forall_mem_cons.mpr ⟨lw_p3, List.forall_mem_cons.mpr ⟨lw_p4, List.forall_mem_cons.mpr ⟨lw_p5, List.forall_mem_cons.mpr ⟨lw_p6, List.forall_mem_cons.mpr ⟨lw_p7, List.forall_mem_cons.mpr ⟨lw_p8, List.forall_mem_cons.mpr ⟨lw_p9, List.forall_mem_cons.mpr ⟨lw_p10, List.forall_mem_cons.mpr ⟨lw_p11, List.forall_mem_cons.mpr ⟨lw_p12, List.forall_mem_cons.mpr ⟨lw_p13, List.forall_mem_cons.mpr ⟨lw_p14, List.forall_mem_cons.mpr ⟨lw_p15, fun _ h => absurd h List.not_mem_nil⟩⟩⟩⟩⟩⟩⟩⟩⟩⟩⟩⟩⟩⟩⟩⟩
theorem lw_p16 : lw_okq (⟨"LadderForge$Machine", "take", "(I)V"⟩, 9) := ⟨⟨by decide +kernel, by decide +kernel⟩, List.mem_of_getElem? (i := 109) (by decide +kernel), List.mem_of_getElem? (i := 467) (by decide +kernel), List.mem_of_getElem? (i := 468) (by decide +kernel)⟩
theorem lw_p17 : lw_okq (⟨"LadderForge", "madeAgain", "(LLadderForge$Tool;)I"⟩, 11) := ⟨⟨by decide +kernel, by decide +kernel⟩, List.mem_of_getElem? (i := 17) (by decide +kernel), List.mem_of_getElem? (i := 506) (by decide +kernel), List.mem_of_getElem? (i := 507) (by decide +kernel)⟩
theorem lw_p18 : lw_okq (⟨"LadderForge", "builtAgain", "(LLadderForge$Tool;LLadderForge$Text;)I"⟩, 11) := ⟨⟨by decide +kernel, by decide +kernel⟩, List.mem_of_getElem? (i := 17) (by decide +kernel), List.mem_of_getElem? (i := 510) (by decide +kernel), List.mem_of_getElem? (i := 511) (by decide +kernel)⟩
theorem lw_p19 : lw_okq (⟨"LadderForge", "staleBits", "()I"⟩, 11) := ⟨⟨by decide +kernel, by decide +kernel⟩, List.mem_of_getElem? (i := 17) (by decide +kernel), List.mem_of_getElem? (i := 522) (by decide +kernel), List.mem_of_getElem? (i := 523) (by decide +kernel)⟩
theorem lw_p20 : lw_okq (⟨"LadderForge", "goneRound", "(LLadderForge$Tool;LLadderForge$Tool;LLadderForge$Text;)I"⟩, 11) := ⟨⟨by decide +kernel, by decide +kernel⟩, List.mem_of_getElem? (i := 17) (by decide +kernel), List.mem_of_getElem? (i := 540) (by decide +kernel), List.mem_of_getElem? (i := 541) (by decide +kernel)⟩
theorem lw_p21 : lw_okq (⟨"LadderForge", "chainLength", "(I)I"⟩, 11) := ⟨⟨by decide +kernel, by decide +kernel⟩, List.mem_of_getElem? (i := 17) (by decide +kernel), List.mem_of_getElem? (i := 556) (by decide +kernel), List.mem_of_getElem? (i := 557) (by decide +kernel)⟩
theorem lw_p22 : lw_okq (⟨"LadderForge", "chainAt", "(II)I"⟩, 11) := ⟨⟨by decide +kernel, by decide +kernel⟩, List.mem_of_getElem? (i := 17) (by decide +kernel), List.mem_of_getElem? (i := 560) (by decide +kernel), List.mem_of_getElem? (i := 561) (by decide +kernel)⟩
theorem lw_p23 : lw_okq (⟨"LadderForge", "isSealed", "(II)Z"⟩, 11) := ⟨⟨by decide +kernel, by decide +kernel⟩, List.mem_of_getElem? (i := 17) (by decide +kernel), List.mem_of_getElem? (i := 568) (by decide +kernel), List.mem_of_getElem? (i := 569) (by decide +kernel)⟩
theorem lw_p24 : lw_okq (⟨"LadderForge", "chainEnd", "(I)I"⟩, 11) := ⟨⟨by decide +kernel, by decide +kernel⟩, List.mem_of_getElem? (i := 17) (by decide +kernel), List.mem_of_getElem? (i := 572) (by decide +kernel), List.mem_of_getElem? (i := 573) (by decide +kernel)⟩
theorem lw_p25 : lw_okq (⟨"LadderForge$Editions", "reachBack", "(I)V"⟩, 4) := ⟨⟨by decide +kernel, by decide +kernel⟩, List.mem_of_getElem? (i := 152) (by decide +kernel), List.mem_of_getElem? (i := 606) (by decide +kernel), List.mem_of_getElem? (i := 607) (by decide +kernel)⟩
theorem lw_p26 : lw_okq (⟨"LadderForge$Editions", "firstBuilt", "(II)I"⟩, 4) := ⟨⟨by decide +kernel, by decide +kernel⟩, List.mem_of_getElem? (i := 152) (by decide +kernel), List.mem_of_getElem? (i := 610) (by decide +kernel), List.mem_of_getElem? (i := 611) (by decide +kernel)⟩
theorem lw_p27 : lw_okq (⟨"LadderForge", "asTool", "(LLadderForge$Tool;)I"⟩, 11) := ⟨⟨by decide +kernel, by decide +kernel⟩, List.mem_of_getElem? (i := 17) (by decide +kernel), List.mem_of_getElem? (i := 626) (by decide +kernel), List.mem_of_getElem? (i := 627) (by decide +kernel)⟩
theorem lw_p28 : lw_okq (⟨"LadderForge", "asPaired", "(LLadderForge$Tool;)I"⟩, 11) := ⟨⟨by decide +kernel, by decide +kernel⟩, List.mem_of_getElem? (i := 17) (by decide +kernel), List.mem_of_getElem? (i := 630) (by decide +kernel), List.mem_of_getElem? (i := 631) (by decide +kernel)⟩
theorem lw_p29 : lw_okq (⟨"LadderForge", "asNamed", "(LLadderForge$Tool;)I"⟩, 11) := ⟨⟨by decide +kernel, by decide +kernel⟩, List.mem_of_getElem? (i := 17) (by decide +kernel), List.mem_of_getElem? (i := 635) (by decide +kernel), List.mem_of_getElem? (i := 636) (by decide +kernel)⟩
theorem lw_p30 : lw_okq (⟨"LadderForge", "asBuilt", "(LLadderForge$Tool;I)I"⟩, 11) := ⟨⟨by decide +kernel, by decide +kernel⟩, List.mem_of_getElem? (i := 17) (by decide +kernel), List.mem_of_getElem? (i := 644) (by decide +kernel), List.mem_of_getElem? (i := 645) (by decide +kernel)⟩
theorem lw_p31 : lw_okq (⟨"LadderForge", "asSealed", "(LLadderForge$Tool;I)I"⟩, 11) := ⟨⟨by decide +kernel, by decide +kernel⟩, List.mem_of_getElem? (i := 17) (by decide +kernel), List.mem_of_getElem? (i := 649) (by decide +kernel), List.mem_of_getElem? (i := 650) (by decide +kernel)⟩
def lw_privs_2 : List (MethodName × Nat) := [(⟨"LadderForge$Machine", "take", "(I)V"⟩, 9), (⟨"LadderForge", "madeAgain", "(LLadderForge$Tool;)I"⟩, 11), (⟨"LadderForge", "builtAgain", "(LLadderForge$Tool;LLadderForge$Text;)I"⟩, 11), (⟨"LadderForge", "staleBits", "()I"⟩, 11), (⟨"LadderForge", "goneRound", "(LLadderForge$Tool;LLadderForge$Tool;LLadderForge$Text;)I"⟩, 11), (⟨"LadderForge", "chainLength", "(I)I"⟩, 11), (⟨"LadderForge", "chainAt", "(II)I"⟩, 11), (⟨"LadderForge", "isSealed", "(II)Z"⟩, 11), (⟨"LadderForge", "chainEnd", "(I)I"⟩, 11), (⟨"LadderForge$Editions", "reachBack", "(I)V"⟩, 4), (⟨"LadderForge$Editions", "firstBuilt", "(II)I"⟩, 4), (⟨"LadderForge", "asTool", "(LLadderForge$Tool;)I"⟩, 11), (⟨"LadderForge", "asPaired", "(LLadderForge$Tool;)I"⟩, 11), (⟨"LadderForge", "asNamed", "(LLadderForge$Tool;)I"⟩, 11), (⟨"LadderForge", "asBuilt", "(LLadderForge$Tool;I)I"⟩, 11), (⟨"LadderForge", "asSealed", "(LLadderForge$Tool;I)I"⟩, 11)]
theorem lw_r2 : ∀ q ∈ lw_privs_2, lw_okq q := List.forall_mem_cons.mpr ⟨lw_p16, List.forall_mem_cons.mpr ⟨lw_p17, List.forall_mem_cons.mpr ⟨lw_p18, List.forall_mem_cons.mpr ⟨lw_p19, List.forall_mem_cons.mpr ⟨lw_p20, List.forall_mem_cons.mpr ⟨lw_p21, List.forall_mem_cons.mpr ⟨lw_p22, List.forall_mem_cons.mpr ⟨lw_p23, List.forall_mem_cons.mpr ⟨lw_p24, List.forall_mem_cons.mpr ⟨lw_p25, List.forall_mem_cons.mpr ⟨lw_p26, List.forall_mem_cons.mpr ⟨lw_p27, List.forall_mem_cons.mpr ⟨lw_p28, List.forall_mem_cons.mpr ⟨lw_p29, List.forall_mem_cons.mpr ⟨lw_p30, List.forall_mem_cons.mpr ⟨lw_p31, fun _ h => absurd h List.not_mem_nil⟩⟩⟩⟩⟩⟩⟩⟩⟩⟩⟩⟩⟩⟩⟩⟩
theorem lw_p32 : lw_okq (⟨"LadderForge", "asDoubted", "(LLadderForge$Tool;)I"⟩, 11) := ⟨⟨by decide +kernel, by decide +kernel⟩, List.mem_of_getElem? (i := 17) (by decide +kernel), List.mem_of_getElem? (i := 654) (by decide +kernel), List.mem_of_getElem? (i := 655) (by decide +kernel)⟩
theorem lw_p33 : lw_okq (⟨"LadderForge", "checkedTools", "()I"⟩, 11) := ⟨⟨by decide +kernel, by decide +kernel⟩, List.mem_of_getElem? (i := 17) (by decide +kernel), List.mem_of_getElem? (i := 663) (by decide +kernel), List.mem_of_getElem? (i := 664) (by decide +kernel)⟩
theorem lw_p34 : lw_okq (⟨"LadderForge", "sealedTools", "(I)I"⟩, 11) := ⟨⟨by decide +kernel, by decide +kernel⟩, List.mem_of_getElem? (i := 17) (by decide +kernel), List.mem_of_getElem? (i := 667) (by decide +kernel), List.mem_of_getElem? (i := 668) (by decide +kernel)⟩
theorem lw_p35 : lw_okq (⟨"LadderForgeModel", "make", "(II)I"⟩, 39) := ⟨⟨by decide +kernel, by decide +kernel⟩, List.mem_of_getElem? (i := 675) (by decide +kernel), List.mem_of_getElem? (i := 826) (by decide +kernel), List.mem_of_getElem? (i := 827) (by decide +kernel)⟩
theorem lw_p36 : lw_okq (⟨"LadderForgeModel", "readPairs", "(II)I"⟩, 39) := ⟨⟨by decide +kernel, by decide +kernel⟩, List.mem_of_getElem? (i := 675) (by decide +kernel), List.mem_of_getElem? (i := 830) (by decide +kernel), List.mem_of_getElem? (i := 831) (by decide +kernel)⟩
theorem lw_p37 : lw_okq (⟨"LadderForgeModel", "open", "(I)V"⟩, 39) := ⟨⟨by decide +kernel, by decide +kernel⟩, List.mem_of_getElem? (i := 675) (by decide +kernel), List.mem_of_getElem? (i := 834) (by decide +kernel), List.mem_of_getElem? (i := 835) (by decide +kernel)⟩
theorem lw_p38 : lw_okq (⟨"LadderForgeModel", "pass", "()V"⟩, 39) := ⟨⟨by decide +kernel, by decide +kernel⟩, List.mem_of_getElem? (i := 675) (by decide +kernel), List.mem_of_getElem? (i := 838) (by decide +kernel), List.mem_of_getElem? (i := 839) (by decide +kernel)⟩
theorem lw_p39 : lw_okq (⟨"LadderForgeModel", "here", "()I"⟩, 39) := ⟨⟨by decide +kernel, by decide +kernel⟩, List.mem_of_getElem? (i := 675) (by decide +kernel), List.mem_of_getElem? (i := 842) (by decide +kernel), List.mem_of_getElem? (i := 843) (by decide +kernel)⟩
theorem lw_p40 : lw_okq (⟨"LadderForgeModel", "add", "(III)V"⟩, 39) := ⟨⟨by decide +kernel, by decide +kernel⟩, List.mem_of_getElem? (i := 675) (by decide +kernel), List.mem_of_getElem? (i := 849) (by decide +kernel), List.mem_of_getElem? (i := 850) (by decide +kernel)⟩
theorem lw_p41 : lw_okq (⟨"LadderForgeModel", "readNames", "(II)I"⟩, 39) := ⟨⟨by decide +kernel, by decide +kernel⟩, List.mem_of_getElem? (i := 675) (by decide +kernel), List.mem_of_getElem? (i := 853) (by decide +kernel), List.mem_of_getElem? (i := 854) (by decide +kernel)⟩
theorem lw_p42 : lw_okq (⟨"LadderForgeModel", "next", "()V"⟩, 39) := ⟨⟨by decide +kernel, by decide +kernel⟩, List.mem_of_getElem? (i := 675) (by decide +kernel), List.mem_of_getElem? (i := 857) (by decide +kernel), List.mem_of_getElem? (i := 858) (by decide +kernel)⟩
theorem lw_p43 : lw_okq (⟨"LadderForgeModel", "wordOf", "(II)I"⟩, 39) := ⟨⟨by decide +kernel, by decide +kernel⟩, List.mem_of_getElem? (i := 675) (by decide +kernel), List.mem_of_getElem? (i := 861) (by decide +kernel), List.mem_of_getElem? (i := 862) (by decide +kernel)⟩
theorem lw_p44 : lw_okq (⟨"LadderForgeModel", "due", "(Z)I"⟩, 39) := ⟨⟨by decide +kernel, by decide +kernel⟩, List.mem_of_getElem? (i := 675) (by decide +kernel), List.mem_of_getElem? (i := 873) (by decide +kernel), List.mem_of_getElem? (i := 874) (by decide +kernel)⟩
theorem lw_p45 : lw_okq (⟨"LadderForgeModel", "move", "(II)V"⟩, 39) := ⟨⟨by decide +kernel, by decide +kernel⟩, List.mem_of_getElem? (i := 675) (by decide +kernel), List.mem_of_getElem? (i := 880) (by decide +kernel), List.mem_of_getElem? (i := 881) (by decide +kernel)⟩
theorem lw_p46 : lw_okq (⟨"LadderForgeModel", "newTool", "(III)I"⟩, 39) := ⟨⟨by decide +kernel, by decide +kernel⟩, List.mem_of_getElem? (i := 675) (by decide +kernel), List.mem_of_getElem? (i := 887) (by decide +kernel), List.mem_of_getElem? (i := 888) (by decide +kernel)⟩
theorem lw_p47 : lw_okq (⟨"LadderForgeModel", "isTool", "(I)Z"⟩, 39) := ⟨⟨by decide +kernel, by decide +kernel⟩, List.mem_of_getElem? (i := 675) (by decide +kernel), List.mem_of_getElem? (i := 899) (by decide +kernel), List.mem_of_getElem? (i := 900) (by decide +kernel)⟩
def lw_privs_3 : List (MethodName × Nat) := [(⟨"LadderForge", "asDoubted", "(LLadderForge$Tool;)I"⟩, 11), (⟨"LadderForge", "checkedTools", "()I"⟩, 11), (⟨"LadderForge", "sealedTools", "(I)I"⟩, 11), (⟨"LadderForgeModel", "make", "(II)I"⟩, 39), (⟨"LadderForgeModel", "readPairs", "(II)I"⟩, 39), (⟨"LadderForgeModel", "open", "(I)V"⟩, 39), (⟨"LadderForgeModel", "pass", "()V"⟩, 39), (⟨"LadderForgeModel", "here", "()I"⟩, 39), (⟨"LadderForgeModel", "add", "(III)V"⟩, 39), (⟨"LadderForgeModel", "readNames", "(II)I"⟩, 39), (⟨"LadderForgeModel", "next", "()V"⟩, 39), (⟨"LadderForgeModel", "wordOf", "(II)I"⟩, 39), (⟨"LadderForgeModel", "due", "(Z)I"⟩, 39), (⟨"LadderForgeModel", "move", "(II)V"⟩, 39), (⟨"LadderForgeModel", "newTool", "(III)I"⟩, 39), (⟨"LadderForgeModel", "isTool", "(I)Z"⟩, 39)]
theorem lw_r3 : ∀ q ∈ lw_privs_3, lw_okq q := List.forall_mem_cons.mpr ⟨lw_p32, List.forall_mem_cons.mpr ⟨lw_p33, List.forall_mem_cons.mpr ⟨lw_p34, List.forall_mem_cons.mpr ⟨lw_p35, List.forall_mem_cons.mpr ⟨lw_p36, List.forall_mem_cons.mpr ⟨lw_p37, List.forall_mem_cons.mpr ⟨lw_p38, List.forall_mem_cons.mpr ⟨lw_p39, List.forall_mem_cons.mpr ⟨lw_p40, List.forall_mem_cons.mpr ⟨lw_p41, List.forall_mem_cons.mpr ⟨lw_p42, List.forall_mem_cons.mpr ⟨lw_p43, List.forall_mem_cons.mpr ⟨lw_p44, List.forall_mem_cons.mpr ⟨lw_p45, List.forall_mem_cons.mpr ⟨lw_p46, List.forall_mem_cons.mpr ⟨lw_p47, fun _ h => absurd h List.not_mem_nil⟩⟩⟩⟩⟩⟩⟩⟩⟩⟩⟩⟩⟩⟩⟩⟩
theorem lw_p48 : lw_okq (⟨"LadderForgeModel", "go", "(II)I"⟩, 39) := ⟨⟨by decide +kernel, by decide +kernel⟩, List.mem_of_getElem? (i := 675) (by decide +kernel), List.mem_of_getElem? (i := 911) (by decide +kernel), List.mem_of_getElem? (i := 912) (by decide +kernel)⟩
theorem lw_p49 : lw_okq (⟨"LadderForgeModel", "step", "(I)I"⟩, 39) := ⟨⟨by decide +kernel, by decide +kernel⟩, List.mem_of_getElem? (i := 675) (by decide +kernel), List.mem_of_getElem? (i := 915) (by decide +kernel), List.mem_of_getElem? (i := 916) (by decide +kernel)⟩
theorem lw_p50 : lw_okq (⟨"LadderForgeModel", "builds", "(III)I"⟩, 39) := ⟨⟨by decide +kernel, by decide +kernel⟩, List.mem_of_getElem? (i := 675) (by decide +kernel), List.mem_of_getElem? (i := 931) (by decide +kernel), List.mem_of_getElem? (i := 932) (by decide +kernel)⟩
theorem lw_p51 : lw_okq (⟨"LadderForgeModel", "take", "(I)V"⟩, 39) := ⟨⟨by decide +kernel, by decide +kernel⟩, List.mem_of_getElem? (i := 675) (by decide +kernel), List.mem_of_getElem? (i := 935) (by decide +kernel), List.mem_of_getElem? (i := 936) (by decide +kernel)⟩
theorem lw_p52 : lw_okq (⟨"LadderForgeModel", "again", "(I)I"⟩, 39) := ⟨⟨by decide +kernel, by decide +kernel⟩, List.mem_of_getElem? (i := 675) (by decide +kernel), List.mem_of_getElem? (i := 943) (by decide +kernel), List.mem_of_getElem? (i := 944) (by decide +kernel)⟩
theorem lw_p53 : lw_okq (⟨"LadderForgeModel", "unlike", "(II)I"⟩, 39) := ⟨⟨by decide +kernel, by decide +kernel⟩, List.mem_of_getElem? (i := 675) (by decide +kernel), List.mem_of_getElem? (i := 947) (by decide +kernel), List.mem_of_getElem? (i := 948) (by decide +kernel)⟩
theorem lw_p54 : lw_okq (⟨"LadderForgeModel", "goRound", "(III)I"⟩, 39) := ⟨⟨by decide +kernel, by decide +kernel⟩, List.mem_of_getElem? (i := 675) (by decide +kernel), List.mem_of_getElem? (i := 963) (by decide +kernel), List.mem_of_getElem? (i := 964) (by decide +kernel)⟩
theorem lw_p55 : lw_okq (⟨"LadderForgeModel", "lengthOf", "(I)I"⟩, 39) := ⟨⟨by decide +kernel, by decide +kernel⟩, List.mem_of_getElem? (i := 675) (by decide +kernel), List.mem_of_getElem? (i := 979) (by decide +kernel), List.mem_of_getElem? (i := 980) (by decide +kernel)⟩
theorem lw_p56 : lw_okq (⟨"LadderForgeModel", "sealedOnes", "()I"⟩, 39) := ⟨⟨by decide +kernel, by decide +kernel⟩, List.mem_of_getElem? (i := 675) (by decide +kernel), List.mem_of_getElem? (i := 987) (by decide +kernel), List.mem_of_getElem? (i := 988) (by decide +kernel)⟩
theorem lw_p57 : lw_okq (⟨"LadderForgeModel", "last", "(I)I"⟩, 39) := ⟨⟨by decide +kernel, by decide +kernel⟩, List.mem_of_getElem? (i := 675) (by decide +kernel), List.mem_of_getElem? (i := 992) (by decide +kernel), List.mem_of_getElem? (i := 993) (by decide +kernel)⟩
theorem lw_p58 : lw_okq (⟨"LadderForgeModel", "isEdition", "(I)Z"⟩, 39) := ⟨⟨by decide +kernel, by decide +kernel⟩, List.mem_of_getElem? (i := 675) (by decide +kernel), List.mem_of_getElem? (i := 1013) (by decide +kernel), List.mem_of_getElem? (i := 1014) (by decide +kernel)⟩
theorem lw_p59 : lw_okq (⟨"LadderForgeModel", "climb", "(III)I"⟩, 39) := ⟨⟨by decide +kernel, by decide +kernel⟩, List.mem_of_getElem? (i := 675) (by decide +kernel), List.mem_of_getElem? (i := 1017) (by decide +kernel), List.mem_of_getElem? (i := 1018) (by decide +kernel)⟩
def lw_privs_4 : List (MethodName × Nat) := [(⟨"LadderForgeModel", "go", "(II)I"⟩, 39), (⟨"LadderForgeModel", "step", "(I)I"⟩, 39), (⟨"LadderForgeModel", "builds", "(III)I"⟩, 39), (⟨"LadderForgeModel", "take", "(I)V"⟩, 39), (⟨"LadderForgeModel", "again", "(I)I"⟩, 39), (⟨"LadderForgeModel", "unlike", "(II)I"⟩, 39), (⟨"LadderForgeModel", "goRound", "(III)I"⟩, 39), (⟨"LadderForgeModel", "lengthOf", "(I)I"⟩, 39), (⟨"LadderForgeModel", "sealedOnes", "()I"⟩, 39), (⟨"LadderForgeModel", "last", "(I)I"⟩, 39), (⟨"LadderForgeModel", "isEdition", "(I)Z"⟩, 39), (⟨"LadderForgeModel", "climb", "(III)I"⟩, 39)]
theorem lw_r4 : ∀ q ∈ lw_privs_4, lw_okq q := List.forall_mem_cons.mpr ⟨lw_p48, List.forall_mem_cons.mpr ⟨lw_p49, List.forall_mem_cons.mpr ⟨lw_p50, List.forall_mem_cons.mpr ⟨lw_p51, List.forall_mem_cons.mpr ⟨lw_p52, List.forall_mem_cons.mpr ⟨lw_p53, List.forall_mem_cons.mpr ⟨lw_p54, List.forall_mem_cons.mpr ⟨lw_p55, List.forall_mem_cons.mpr ⟨lw_p56, List.forall_mem_cons.mpr ⟨lw_p57, List.forall_mem_cons.mpr ⟨lw_p58, List.forall_mem_cons.mpr ⟨lw_p59, fun _ h => absurd h List.not_mem_nil⟩⟩⟩⟩⟩⟩⟩⟩⟩⟩⟩⟩
def lw_privs : List (MethodName × Nat) := lw_privs_1 ++ (lw_privs_2 ++ (lw_privs_3 ++ (lw_privs_4)))
def lw_tbl : List Cond := k2_sels lw_privs ++ tables_1
theorem lw_privs_ok : ∀ q ∈ lw_privs, lw_okq q := by
  show ∀ q ∈ lw_privs_1 ++ (lw_privs_2 ++ (lw_privs_3 ++ (lw_privs_4))), lw_okq q
  exact List.forall_mem_append.mpr ⟨lw_r1, List.forall_mem_append.mpr ⟨lw_r2, List.forall_mem_append.mpr ⟨lw_r3, lw_r4⟩⟩⟩
def RX0 : String := "LadderForge$Code"
def TX0 : u_T := fun k => match k with
  | 0 => ("LadderForge$Code", "most", "I", true)
  | 1 => ("LadderForge$Code", "bytes", "[I", true)
  | 2 => ("LadderForge$Code", "led", "[I", true)
  | _ => ("LadderForge$Code", "length", "I", false)
def tyX0 : Nat → FieldType := fun k => match k with
  | 0 => .int
  | 1 => .array .int
  | 2 => .array .int
  | _ => .int
abbrev wsX00 : List Cond := u_ws RX0 TX0 4
theorem nmX0 : ∀ a, a < 4 → ∀ b, b < 4 → a ≠ b → (TX0 a).2.1 ≠ (TX0 b).2.1 := by decide +kernel
theorem tyX0_ok : ∀ k, k < 4 → parseFieldDescriptor (TX0 k).2.2.1 = some (tyX0 k) := by decide +kernel
abbrev cX0_init : ByteArray := prog_2_method_1_code
def yX0_init : MethodName := ⟨RX0, "<init>", "(I)V"⟩
abbrev cX0_add : ByteArray := prog_2_method_2_code
def yX0_add : MethodName := ⟨RX0, "add", "(II)Z"⟩
abbrev cX0_at : ByteArray := prog_2_method_3_code
def yX0_at : MethodName := ⟨RX0, "at", "(I)I"⟩
abbrev cX0_ledAt : ByteArray := prog_2_method_4_code
def yX0_ledAt : MethodName := ⟨RX0, "ledAt", "(I)I"⟩
abbrev cX0_change : ByteArray := prog_2_method_5_code
def yX0_change : MethodName := ⟨RX0, "change", "(II)V"⟩
abbrev cX0_unlike : ByteArray := prog_2_method_6_code
def yX0_unlike : MethodName := ⟨RX0, "unlike", "(LLadderForge$Code;)I"⟩
abbrev cX0_beyondOrders : ByteArray := prog_2_method_7_code
def yX0_beyondOrders : MethodName := ⟨RX0, "beyondOrders", "()I"⟩
abbrev cX0_copied : ByteArray := prog_2_method_8_code
def yX0_copied : MethodName := ⟨RX0, "copied", "()LLadderForge$Code;"⟩
def RX1 : String := "LadderForge$Editions"
def TX1 : u_T := fun k => match k with
  | 0 => ("LadderForge$Editions", "uses", "[I", true)
  | 1 => ("LadderForge$Editions", "knows", "[I", true)
  | 2 => ("LadderForge$Editions", "left", "[I", true)
  | _ => ("LadderForge$Editions", "held", "I", false)
def tyX1 : Nat → FieldType := fun k => match k with
  | 0 => .array .int
  | 1 => .array .int
  | 2 => .array .int
  | _ => .int
abbrev wsX10 : List Cond := u_ws RX1 TX1 4
theorem nmX1 : ∀ a, a < 4 → ∀ b, b < 4 → a ≠ b → (TX1 a).2.1 ≠ (TX1 b).2.1 := by decide +kernel
theorem tyX1_ok : ∀ k, k < 4 → parseFieldDescriptor (TX1 k).2.2.1 = some (tyX1 k) := by decide +kernel
abbrev cX1_init : ByteArray := prog_3_method_1_code
def yX1_init : MethodName := ⟨RX1, "<init>", "()V"⟩
abbrev cX1_add : ByteArray := prog_3_method_2_code
def yX1_add : MethodName := ⟨RX1, "add", "(II)I"⟩
abbrev cX1_has : ByteArray := prog_3_method_3_code
def yX1_has : MethodName := ⟨RX1, "has", "(I)Z"⟩
abbrev cX1_fewest : ByteArray := prog_3_method_4_code
def yX1_fewest : MethodName := ⟨RX1, "fewest", "(III)I"⟩
abbrev cX1_reachBack : ByteArray := prog_3_method_5_code
def yX1_reachBack : MethodName := ⟨RX1, "reachBack", "(I)V"⟩
abbrev cX1_firstBuilt : ByteArray := prog_3_method_6_code
def yX1_firstBuilt : MethodName := ⟨RX1, "firstBuilt", "(II)I"⟩
abbrev cX1_step : ByteArray := prog_3_method_7_code
def yX1_step : MethodName := ⟨RX1, "step", "(II)I"⟩
def RX2 : String := "LadderForge$Machine"
def TX2 : u_T := fun k => match k with
  | 0 => ("LadderForge$Machine", "memory", "[I", true)
  | 1 => ("LadderForge$Machine", "out", "LLadderForge$Code;", true)
  | 2 => ("LadderForge$Machine", "a", "I", false)
  | 3 => ("LadderForge$Machine", "x", "I", false)
  | 4 => ("LadderForge$Machine", "p", "I", false)
  | 5 => ("LadderForge$Machine", "ended", "Z", false)
  | 6 => ("LadderForge$Machine", "done", "I", false)
  | 7 => ("LadderForge$Machine", "taken", "I", false)
  | _ => ("LadderForge$Machine", "harm", "I", false)
def tyX2 : Nat → FieldType := fun k => match k with
  | 0 => .array .int
  | 1 => .object "LadderForge$Code"
  | 2 => .int
  | 3 => .int
  | 4 => .int
  | 5 => .boolean
  | 6 => .int
  | 7 => .int
  | _ => .int
abbrev wsX20 : List Cond := u_ws RX2 TX2 9
theorem nmX2 : ∀ a, a < 9 → ∀ b, b < 9 → a ≠ b → (TX2 a).2.1 ≠ (TX2 b).2.1 := by decide +kernel
theorem tyX2_ok : ∀ k, k < 9 → parseFieldDescriptor (TX2 k).2.2.1 = some (tyX2 k) := by decide +kernel
abbrev cX2_init : ByteArray := prog_4_method_1_code
def yX2_init : MethodName := ⟨RX2, "<init>", "()V"⟩
abbrev cX2_hasNumber : ByteArray := prog_4_method_2_code
def yX2_hasNumber : MethodName := ⟨RX2, "hasNumber", "(I)Z"⟩
abbrev cX2_memoryAt : ByteArray := prog_4_method_3_code
def yX2_memoryAt : MethodName := ⟨RX2, "memoryAt", "(I)I"⟩
abbrev cX2_builds : ByteArray := prog_4_method_4_code
def yX2_builds : MethodName := ⟨RX2, "builds", "(LLadderForge$Code;LLadderForge$Text;)Z"⟩
abbrev cX2_goThrough : ByteArray := prog_4_method_5_code
def yX2_goThrough : MethodName := ⟨RX2, "goThrough", "(LLadderForge$Code;LLadderForge$Text;)V"⟩
abbrev cX2_load : ByteArray := prog_4_method_6_code
def yX2_load : MethodName := ⟨RX2, "load", "(LLadderForge$Code;)V"⟩
abbrev cX2_harmOf : ByteArray := prog_4_method_7_code
def yX2_harmOf : MethodName := ⟨RX2, "harmOf", "(I)I"⟩
abbrev cX2_obey : ByteArray := prog_4_method_8_code
def yX2_obey : MethodName := ⟨RX2, "obey", "(ILLadderForge$Text;)V"⟩
abbrev cX2_take : ByteArray := prog_4_method_9_code
def yX2_take : MethodName := ⟨RX2, "take", "(I)V"⟩
def RX3 : String := "LadderForge$Maker"
def TX3 : u_T := fun k => match k with
  | _ => ("", "", "", false)
def tyX3 : Nat → FieldType := fun k => match k with
  | _ => .int
abbrev wsX30 : List Cond := u_ws RX3 TX3 0
theorem nmX3 : ∀ a, a < 0 → ∀ b, b < 0 → a ≠ b → (TX3 a).2.1 ≠ (TX3 b).2.1 := by decide +kernel
theorem tyX3_ok : ∀ k, k < 0 → parseFieldDescriptor (TX3 k).2.2.1 = some (tyX3 k) := by decide +kernel
abbrev cX3_init : ByteArray := prog_5_method_1_code
def yX3_init : MethodName := ⟨RX3, "<init>", "()V"⟩
def RX4 : String := "LadderForge$NamedMaker"
def TX4 : u_T := fun k => match k with
  | 0 => ("LadderForge$Maker", "draft", "LLadderForge$Code;", true)
  | 1 => ("LadderForge$NamedMaker", "placeOf", "[I", true)
  | 2 => ("LadderForge$NamedMaker", "letterUsed", "[I", true)
  | 3 => ("LadderForge$NamedMaker", "due", "I", false)
  | _ => ("LadderForge$NamedMaker", "letterAt", "I", false)
def tyX4 : Nat → FieldType := fun k => match k with
  | 0 => .object "LadderForge$Code"
  | 1 => .array .int
  | 2 => .array .int
  | 3 => .int
  | _ => .int
abbrev wsX40 : List Cond := u_ws RX4 TX4 5
theorem nmX4 : ∀ a, a < 5 → ∀ b, b < 5 → a ≠ b → (TX4 a).2.1 ≠ (TX4 b).2.1 := by decide +kernel
theorem tyX4_ok : ∀ k, k < 5 → parseFieldDescriptor (TX4 k).2.2.1 = some (tyX4 k) := by decide +kernel
abbrev cX4_init : ByteArray := prog_6_method_1_code
def yX4_init : MethodName := ⟨RX4, "<init>", "()V"⟩
abbrev cX4_faultIn : ByteArray := prog_6_method_2_code
def yX4_faultIn : MethodName := ⟨RX4, "faultIn", "(LLadderForge$Text;)I"⟩
abbrev cX4_begin : ByteArray := prog_6_method_3_code
def yX4_begin : MethodName := ⟨RX4, "begin", "()V"⟩
abbrev cX4_isDigit : ByteArray := prog_6_method_4_code
def yX4_isDigit : MethodName := ⟨RX4, "isDigit", "(I)Z"⟩
abbrev cX4_isSmall : ByteArray := prog_6_method_5_code
def yX4_isSmall : MethodName := ⟨RX4, "isSmall", "(I)Z"⟩
abbrev cX4_isLetter : ByteArray := prog_6_method_6_code
def yX4_isLetter : MethodName := ⟨RX4, "isLetter", "(I)Z"⟩
abbrev cX4_tokenSigns : ByteArray := prog_6_method_7_code
def yX4_tokenSigns : MethodName := ⟨RX4, "tokenSigns", "(LLadderForge$Text;I)I"⟩
abbrev cX4_isMoreOf : ByteArray := prog_6_method_8_code
def yX4_isMoreOf : MethodName := ⟨RX4, "isMoreOf", "(II)Z"⟩
abbrev cX4_takes : ByteArray := prog_6_method_9_code
def yX4_takes : MethodName := ⟨RX4, "takes", "(LLadderForge$Text;II)Z"⟩
abbrev cX4_takesColon : ByteArray := prog_6_method_10_code
def yX4_takesColon : MethodName := ⟨RX4, "takesColon", "(I)Z"⟩
abbrev cX4_takesPlace : ByteArray := prog_6_method_11_code
def yX4_takesPlace : MethodName := ⟨RX4, "takesPlace", "(II)Z"⟩
abbrev cX4_takesLetter : ByteArray := prog_6_method_12_code
def yX4_takesLetter : MethodName := ⟨RX4, "takesLetter", "(II)Z"⟩
abbrev cX4_takesNumber : ByteArray := prog_6_method_13_code
def yX4_takesNumber : MethodName := ⟨RX4, "takesNumber", "(II)Z"⟩
abbrev cX4_valueOf : ByteArray := prog_6_method_14_code
def yX4_valueOf : MethodName := ⟨RX4, "valueOf", "(LLadderForge$Text;II)I"⟩
abbrev cX4_takesWord : ByteArray := prog_6_method_15_code
def yX4_takesWord : MethodName := ⟨RX4, "takesWord", "(II)Z"⟩
abbrev cX4_wordOf : ByteArray := prog_6_method_16_code
def yX4_wordOf : MethodName := ⟨RX4, "wordOf", "(LLadderForge$Text;II)I"⟩
abbrev cX4_putPlaces : ByteArray := prog_6_method_17_code
def yX4_putPlaces : MethodName := ⟨RX4, "putPlaces", "()I"⟩
def RX5 : String := "LadderForge$PairsMaker"
def TX5 : u_T := fun k => match k with
  | _ => ("LadderForge$Maker", "draft", "LLadderForge$Code;", true)
def tyX5 : Nat → FieldType := fun k => match k with
  | _ => .object "LadderForge$Code"
abbrev wsX50 : List Cond := u_ws RX5 TX5 1
theorem nmX5 : ∀ a, a < 1 → ∀ b, b < 1 → a ≠ b → (TX5 a).2.1 ≠ (TX5 b).2.1 := by decide +kernel
theorem tyX5_ok : ∀ k, k < 1 → parseFieldDescriptor (TX5 k).2.2.1 = some (tyX5 k) := by decide +kernel
abbrev cX5_init : ByteArray := prog_7_method_1_code
def yX5_init : MethodName := ⟨RX5, "<init>", "()V"⟩
abbrev cX5_faultIn : ByteArray := prog_7_method_2_code
def yX5_faultIn : MethodName := ⟨RX5, "faultIn", "(LLadderForge$Text;)I"⟩
abbrev cX5_digit : ByteArray := prog_7_method_3_code
def yX5_digit : MethodName := ⟨RX5, "digit", "(I)I"⟩
def RX6 : String := "LadderForge$Text"
def TX6 : u_T := fun k => match k with
  | 0 => ("LadderForge$Text", "bytes", "[I", true)
  | _ => ("LadderForge$Text", "length", "I", false)
def tyX6 : Nat → FieldType := fun k => match k with
  | 0 => .array .int
  | _ => .int
abbrev wsX60 : List Cond := u_ws RX6 TX6 2
theorem nmX6 : ∀ a, a < 2 → ∀ b, b < 2 → a ≠ b → (TX6 a).2.1 ≠ (TX6 b).2.1 := by decide +kernel
theorem tyX6_ok : ∀ k, k < 2 → parseFieldDescriptor (TX6 k).2.2.1 = some (tyX6 k) := by decide +kernel
abbrev cX6_init : ByteArray := prog_8_method_1_code
def yX6_init : MethodName := ⟨RX6, "<init>", "()V"⟩
abbrev cX6_at : ByteArray := prog_8_method_2_code
def yX6_at : MethodName := ⟨RX6, "at", "(I)I"⟩
abbrev cX6_add : ByteArray := prog_8_method_3_code
def yX6_add : MethodName := ⟨RX6, "add", "(I)V"⟩
abbrev cX6_become : ByteArray := prog_8_method_4_code
def yX6_become : MethodName := ⟨RX6, "become", "(LLadderForge$Text;)V"⟩
abbrev cX6_pastGap : ByteArray := prog_8_method_5_code
def yX6_pastGap : MethodName := ⟨RX6, "pastGap", "(I)I"⟩
def RX7 : String := "LadderForge$Tool"
def TX7 : u_T := fun k => match k with
  | 0 => ("LadderForge$Tool", "code", "LLadderForge$Code;", true)
  | 1 => ("LadderForge$Tool", "how", "I", true)
  | 2 => ("LadderForge$Tool", "text", "I", true)
  | 3 => ("LadderForge$Tool", "builder", "I", true)
  | _ => ("LadderForge$Tool", "checked", "Z", false)
def tyX7 : Nat → FieldType := fun k => match k with
  | 0 => .object "LadderForge$Code"
  | 1 => .int
  | 2 => .int
  | 3 => .int
  | _ => .boolean
abbrev wsX70 : List Cond := u_ws RX7 TX7 5
theorem nmX7 : ∀ a, a < 5 → ∀ b, b < 5 → a ≠ b → (TX7 a).2.1 ≠ (TX7 b).2.1 := by decide +kernel
theorem tyX7_ok : ∀ k, k < 5 → parseFieldDescriptor (TX7 k).2.2.1 = some (tyX7 k) := by decide +kernel
abbrev cX7_init : ByteArray := prog_9_method_1_code
def yX7_init : MethodName := ⟨RX7, "<init>", "(LLadderForge$Code;III)V"⟩
def RX8 : String := "LadderForge"
def TX8 : u_T := fun k => match k with
  | 0 => ("LadderForge", "typed", "LLadderForge$Text;", true)
  | 1 => ("LadderForge", "texts", "[LLadderForge$Text;", true)
  | 2 => ("LadderForge", "tools", "[LLadderForge$Tool;", true)
  | 3 => ("LadderForge", "toolCount", "I", false)
  | 4 => ("LadderForge", "pairsMaker", "LLadderForge$Maker;", true)
  | 5 => ("LadderForge", "namedMaker", "LLadderForge$Maker;", true)
  | 6 => ("LadderForge", "latest", "LLadderForge$Machine;", true)
  | 7 => ("LadderForge", "one", "LLadderForge$Machine;", true)
  | 8 => ("LadderForge", "two", "LLadderForge$Machine;", true)
  | 9 => ("LadderForge", "editions", "LLadderForge$Editions;", true)
  | _ => ("LadderForge", "traced", "J", false)
def tyX8 : Nat → FieldType := fun k => match k with
  | 0 => .object "LadderForge$Text"
  | 1 => .array (.object "LadderForge$Text")
  | 2 => .array (.object "LadderForge$Tool")
  | 3 => .int
  | 4 => .object "LadderForge$Maker"
  | 5 => .object "LadderForge$Maker"
  | 6 => .object "LadderForge$Machine"
  | 7 => .object "LadderForge$Machine"
  | 8 => .object "LadderForge$Machine"
  | 9 => .object "LadderForge$Editions"
  | _ => .long
abbrev wsX80 : List Cond := u_ws RX8 TX8 11
theorem nmX8 : ∀ a, a < 11 → ∀ b, b < 11 → a ≠ b → (TX8 a).2.1 ≠ (TX8 b).2.1 := by decide +kernel
theorem tyX8_ok : ∀ k, k < 11 → parseFieldDescriptor (TX8 k).2.2.1 = some (tyX8 k) := by decide +kernel
abbrev cX8_init : ByteArray := prog_1_method_1_code
def yX8_init : MethodName := ⟨RX8, "<init>", "()V"⟩
abbrev cX8_type : ByteArray := prog_1_method_2_code
def yX8_type : MethodName := ⟨RX8, "type", "(JI)I"⟩
abbrev cX8_clear : ByteArray := prog_1_method_3_code
def yX8_clear : MethodName := ⟨RX8, "clear", "()I"⟩
abbrev cX8_text : ByteArray := prog_1_method_4_code
def yX8_text : MethodName := ⟨RX8, "text", "(I)I"⟩
abbrev cX8_read : ByteArray := prog_1_method_5_code
def yX8_read : MethodName := ⟨RX8, "read", "(II)I"⟩
abbrev cX8_pairs : ByteArray := prog_1_method_6_code
def yX8_pairs : MethodName := ⟨RX8, "pairs", "(I)I"⟩
abbrev cX8_named : ByteArray := prog_1_method_7_code
def yX8_named : MethodName := ⟨RX8, "named", "(I)I"⟩
abbrev cX8_build : ByteArray := prog_1_method_8_code
def yX8_build : MethodName := ⟨RX8, "build", "(II)I"⟩
abbrev cX8_tool : ByteArray := prog_1_method_9_code
def yX8_tool : MethodName := ⟨RX8, "tool", "(II)I"⟩
abbrev cX8_code : ByteArray := prog_1_method_10_code
def yX8_code : MethodName := ⟨RX8, "code", "(III)I"⟩
abbrev cX8_run : ByteArray := prog_1_method_11_code
def yX8_run : MethodName := ⟨RX8, "run", "(II)I"⟩
abbrev cX8_ran : ByteArray := prog_1_method_12_code
def yX8_ran : MethodName := ⟨RX8, "ran", "(I)I"⟩
abbrev cX8_tape : ByteArray := prog_1_method_13_code
def yX8_tape : MethodName := ⟨RX8, "tape", "(II)I"⟩
abbrev cX8_rebuilt : ByteArray := prog_1_method_14_code
def yX8_rebuilt : MethodName := ⟨RX8, "rebuilt", "(I)I"⟩
abbrev cX8_stale : ByteArray := prog_1_method_15_code
def yX8_stale : MethodName := ⟨RX8, "stale", "()I"⟩
abbrev cX8_settles : ByteArray := prog_1_method_16_code
def yX8_settles : MethodName := ⟨RX8, "settles", "(II)I"⟩
abbrev cX8_round : ByteArray := prog_1_method_17_code
def yX8_round : MethodName := ⟨RX8, "round", "(III)I"⟩
abbrev cX8_hides : ByteArray := prog_1_method_18_code
def yX8_hides : MethodName := ⟨RX8, "hides", "(III)I"⟩
abbrev cX8_check : ByteArray := prog_1_method_19_code
def yX8_check : MethodName := ⟨RX8, "check", "(II)I"⟩
abbrev cX8_chain : ByteArray := prog_1_method_20_code
def yX8_chain : MethodName := ⟨RX8, "chain", "(II)I"⟩
abbrev cX8_sealed : ByteArray := prog_1_method_21_code
def yX8_sealed : MethodName := ⟨RX8, "sealed", "(I)I"⟩
abbrev cX8_least : ByteArray := prog_1_method_22_code
def yX8_least : MethodName := ⟨RX8, "least", "(I)I"⟩
abbrev cX8_same : ByteArray := prog_1_method_23_code
def yX8_same : MethodName := ⟨RX8, "same", "(II)I"⟩
abbrev cX8_edition : ByteArray := prog_1_method_24_code
def yX8_edition : MethodName := ⟨RX8, "edition", "(II)I"⟩
abbrev cX8_ladder : ByteArray := prog_1_method_25_code
def yX8_ladder : MethodName := ⟨RX8, "ladder", "(III)I"⟩
abbrev cX8_needed : ByteArray := prog_1_method_26_code
def yX8_needed : MethodName := ⟨RX8, "needed", "(III)I"⟩
abbrev cX8_weight : ByteArray := prog_1_method_27_code
def yX8_weight : MethodName := ⟨RX8, "weight", "(II)I"⟩
abbrev cX8_count : ByteArray := prog_1_method_28_code
def yX8_count : MethodName := ⟨RX8, "count", "(I)I"⟩
abbrev cX8_trace : ByteArray := prog_1_method_29_code
def yX8_trace : MethodName := ⟨RX8, "trace", "()J"⟩
abbrev cX8_textAt : ByteArray := prog_1_method_30_code
def yX8_textAt : MethodName := ⟨RX8, "textAt", "(I)LLadderForge$Text;"⟩
abbrev cX8_toolAt : ByteArray := prog_1_method_31_code
def yX8_toolAt : MethodName := ⟨RX8, "toolAt", "(I)LLadderForge$Tool;"⟩
abbrev cX8_hasBit : ByteArray := prog_1_method_32_code
def yX8_hasBit : MethodName := ⟨RX8, "hasBit", "(II)Z"⟩
abbrev cX8_make : ByteArray := prog_1_method_33_code
def yX8_make : MethodName := ⟨RX8, "make", "(II)I"⟩
abbrev cX8_makerBy : ByteArray := prog_1_method_34_code
def yX8_makerBy : MethodName := ⟨RX8, "makerBy", "(I)LLadderForge$Maker;"⟩
abbrev cX8_keep : ByteArray := prog_1_method_35_code
def yX8_keep : MethodName := ⟨RX8, "keep", "(LLadderForge$Code;III)I"⟩
abbrev cX8_madeAgain : ByteArray := prog_1_method_36_code
def yX8_madeAgain : MethodName := ⟨RX8, "madeAgain", "(LLadderForge$Tool;)I"⟩
abbrev cX8_builtAgain : ByteArray := prog_1_method_37_code
def yX8_builtAgain : MethodName := ⟨RX8, "builtAgain", "(LLadderForge$Tool;LLadderForge$Text;)I"⟩
abbrev cX8_staleBits : ByteArray := prog_1_method_38_code
def yX8_staleBits : MethodName := ⟨RX8, "staleBits", "()I"⟩
abbrev cX8_isBuiltByOneOf : ByteArray := prog_1_method_39_code
def yX8_isBuiltByOneOf : MethodName := ⟨RX8, "isBuiltByOneOf", "(ILLadderForge$Tool;)Z"⟩
abbrev cX8_goneRound : ByteArray := prog_1_method_40_code
def yX8_goneRound : MethodName := ⟨RX8, "goneRound", "(LLadderForge$Tool;LLadderForge$Tool;LLadderForge$Text;)I"⟩
abbrev cX8_chainLength : ByteArray := prog_1_method_41_code
def yX8_chainLength : MethodName := ⟨RX8, "chainLength", "(I)I"⟩
abbrev cX8_chainAt : ByteArray := prog_1_method_42_code
def yX8_chainAt : MethodName := ⟨RX8, "chainAt", "(II)I"⟩
abbrev cX8_chainEnd : ByteArray := prog_1_method_43_code
def yX8_chainEnd : MethodName := ⟨RX8, "chainEnd", "(I)I"⟩
abbrev cX8_isSealed : ByteArray := prog_1_method_44_code
def yX8_isSealed : MethodName := ⟨RX8, "isSealed", "(II)Z"⟩
abbrev cX8_checkedTools : ByteArray := prog_1_method_45_code
def yX8_checkedTools : MethodName := ⟨RX8, "checkedTools", "()I"⟩
abbrev cX8_sealedTools : ByteArray := prog_1_method_46_code
def yX8_sealedTools : MethodName := ⟨RX8, "sealedTools", "(I)I"⟩
abbrev cX8_asTool : ByteArray := prog_1_method_47_code
def yX8_asTool : MethodName := ⟨RX8, "asTool", "(LLadderForge$Tool;)I"⟩
abbrev cX8_asPaired : ByteArray := prog_1_method_48_code
def yX8_asPaired : MethodName := ⟨RX8, "asPaired", "(LLadderForge$Tool;)I"⟩
abbrev cX8_asNamed : ByteArray := prog_1_method_49_code
def yX8_asNamed : MethodName := ⟨RX8, "asNamed", "(LLadderForge$Tool;)I"⟩
abbrev cX8_asBuilt : ByteArray := prog_1_method_50_code
def yX8_asBuilt : MethodName := ⟨RX8, "asBuilt", "(LLadderForge$Tool;I)I"⟩
abbrev cX8_asSealed : ByteArray := prog_1_method_51_code
def yX8_asSealed : MethodName := ⟨RX8, "asSealed", "(LLadderForge$Tool;I)I"⟩
abbrev cX8_asDoubted : ByteArray := prog_1_method_52_code
def yX8_asDoubted : MethodName := ⟨RX8, "asDoubted", "(LLadderForge$Tool;)I"⟩
def RX9 : String := "LadderForgeModel"
def TX9 : u_T := fun k => match k with
  | 0 => ("LadderForgeModel", "trace", "J", false)
  | 1 => ("LadderForgeModel", "typed", "[B", true)
  | 2 => ("LadderForgeModel", "many", "I", false)
  | 3 => ("LadderForgeModel", "text", "[B", true)
  | 4 => ("LadderForgeModel", "length", "[I", true)
  | 5 => ("LadderForgeModel", "tools", "I", false)
  | 6 => ("LadderForgeModel", "bytes", "[I", true)
  | 7 => ("LadderForgeModel", "led", "[I", true)
  | 8 => ("LadderForgeModel", "size", "[I", true)
  | 9 => ("LadderForgeModel", "how", "[I", true)
  | 10 => ("LadderForgeModel", "from", "[I", true)
  | 11 => ("LadderForgeModel", "builder", "[I", true)
  | 12 => ("LadderForgeModel", "isChecked", "[I", true)
  | 13 => ("LadderForgeModel", "base", "I", false)
  | 14 => ("LadderForgeModel", "end", "I", false)
  | 15 => ("LadderForgeModel", "at", "I", false)
  | 16 => ("LadderForgeModel", "fault", "I", false)
  | 17 => ("LadderForgeModel", "start", "I", false)
  | 18 => ("LadderForgeModel", "sort", "I", false)
  | 19 => ("LadderForgeModel", "value", "I", false)
  | 20 => ("LadderForgeModel", "ended", "I", false)
  | 21 => ("LadderForgeModel", "places", "[I", true)
  | 22 => ("LadderForgeModel", "memory", "[I", true)
  | 23 => ("LadderForgeModel", "out", "[I", true)
  | 24 => ("LadderForgeModel", "outLed", "[I", true)
  | 25 => ("LadderForgeModel", "came", "I", false)
  | 26 => ("LadderForgeModel", "a", "I", false)
  | 27 => ("LadderForgeModel", "x", "I", false)
  | 28 => ("LadderForgeModel", "p", "I", false)
  | 29 => ("LadderForgeModel", "done", "I", false)
  | 30 => ("LadderForgeModel", "taken", "I", false)
  | 31 => ("LadderForgeModel", "isEnd", "I", false)
  | 32 => ("LadderForgeModel", "told", "[I", true)
  | 33 => ("LadderForgeModel", "toldOut", "[I", true)
  | 34 => ("LadderForgeModel", "toldMemory", "[I", true)
  | 35 => ("LadderForgeModel", "editions", "I", false)
  | 36 => ("LadderForgeModel", "uses", "[I", true)
  | 37 => ("LadderForgeModel", "knows", "[I", true)
  | _ => ("LadderForgeModel", "far", "[I", true)
def tyX9 : Nat → FieldType := fun k => match k with
  | 0 => .long
  | 1 => .array .byte
  | 2 => .int
  | 3 => .array .byte
  | 4 => .array .int
  | 5 => .int
  | 6 => .array .int
  | 7 => .array .int
  | 8 => .array .int
  | 9 => .array .int
  | 10 => .array .int
  | 11 => .array .int
  | 12 => .array .int
  | 13 => .int
  | 14 => .int
  | 15 => .int
  | 16 => .int
  | 17 => .int
  | 18 => .int
  | 19 => .int
  | 20 => .int
  | 21 => .array .int
  | 22 => .array .int
  | 23 => .array .int
  | 24 => .array .int
  | 25 => .int
  | 26 => .int
  | 27 => .int
  | 28 => .int
  | 29 => .int
  | 30 => .int
  | 31 => .int
  | 32 => .array .int
  | 33 => .array .int
  | 34 => .array .int
  | 35 => .int
  | 36 => .array .int
  | 37 => .array .int
  | _ => .array .int
abbrev wsX90 : List Cond := u_ws RX9 TX9 39
theorem nmX9 : ∀ a, a < 39 → ∀ b, b < 39 → a ≠ b → (TX9 a).2.1 ≠ (TX9 b).2.1 := by decide +kernel
theorem tyX9_ok : ∀ k, k < 39 → parseFieldDescriptor (TX9 k).2.2.1 = some (tyX9 k) := by decide +kernel
abbrev cX9_init : ByteArray := prog_11_method_1_code
def yX9_init : MethodName := ⟨RX9, "<init>", "()V"⟩
abbrev cX9_in : ByteArray := prog_11_method_3_code
def yX9_in : MethodName := ⟨RX9, "in", "(III)Z"⟩
abbrev cX9_type : ByteArray := prog_11_method_4_code
def yX9_type : MethodName := ⟨RX9, "type", "(JI)I"⟩
abbrev cX9_clear : ByteArray := prog_11_method_5_code
def yX9_clear : MethodName := ⟨RX9, "clear", "()I"⟩
abbrev cX9_isText : ByteArray := prog_11_method_6_code
def yX9_isText : MethodName := ⟨RX9, "isText", "(I)Z"⟩
abbrev cX9_text : ByteArray := prog_11_method_7_code
def yX9_text : MethodName := ⟨RX9, "text", "(I)I"⟩
abbrev cX9_read : ByteArray := prog_11_method_8_code
def yX9_read : MethodName := ⟨RX9, "read", "(II)I"⟩
abbrev cX9_isTool : ByteArray := prog_11_method_9_code
def yX9_isTool : MethodName := ⟨RX9, "isTool", "(I)Z"⟩
abbrev cX9_add : ByteArray := prog_11_method_10_code
def yX9_add : MethodName := ⟨RX9, "add", "(III)V"⟩
abbrev cX9_here : ByteArray := prog_11_method_11_code
def yX9_here : MethodName := ⟨RX9, "here", "()I"⟩
abbrev cX9_open : ByteArray := prog_11_method_12_code
def yX9_open : MethodName := ⟨RX9, "open", "(I)V"⟩
abbrev cX9_pass : ByteArray := prog_11_method_13_code
def yX9_pass : MethodName := ⟨RX9, "pass", "()V"⟩
abbrev cX9_digit : ByteArray := prog_11_method_14_code
def yX9_digit : MethodName := ⟨RX9, "digit", "(I)I"⟩
abbrev cX9_readPairs : ByteArray := prog_11_method_15_code
def yX9_readPairs : MethodName := ⟨RX9, "readPairs", "(II)I"⟩
abbrev cX9_more : ByteArray := prog_11_method_16_code
def yX9_more : MethodName := ⟨RX9, "more", "(JI)J"⟩
abbrev cX9_spelled : ByteArray := prog_11_method_17_code
def yX9_spelled : MethodName := ⟨RX9, "spelled", "(IIIII)J"⟩
abbrev cX9_wordOf : ByteArray := prog_11_method_18_code
def yX9_wordOf : MethodName := ⟨RX9, "wordOf", "(II)I"⟩
abbrev cX9_hasNumber : ByteArray := prog_11_method_19_code
def yX9_hasNumber : MethodName := ⟨RX9, "hasNumber", "(I)Z"⟩
abbrev cX9_next : ByteArray := prog_11_method_20_code
def yX9_next : MethodName := ⟨RX9, "next", "()V"⟩
abbrev cX9_due : ByteArray := prog_11_method_21_code
def yX9_due : MethodName := ⟨RX9, "due", "(Z)I"⟩
abbrev cX9_readNames : ByteArray := prog_11_method_22_code
def yX9_readNames : MethodName := ⟨RX9, "readNames", "(II)I"⟩
abbrev cX9_newTool : ByteArray := prog_11_method_23_code
def yX9_newTool : MethodName := ⟨RX9, "newTool", "(III)I"⟩
abbrev cX9_copy : ByteArray := prog_11_method_24_code
def yX9_copy : MethodName := ⟨RX9, "copy", "([III)V"⟩
abbrev cX9_move : ByteArray := prog_11_method_25_code
def yX9_move : MethodName := ⟨RX9, "move", "(II)V"⟩
abbrev cX9_make : ByteArray := prog_11_method_26_code
def yX9_make : MethodName := ⟨RX9, "make", "(II)I"⟩
abbrev cX9_pairs : ByteArray := prog_11_method_27_code
def yX9_pairs : MethodName := ⟨RX9, "pairs", "(I)I"⟩
abbrev cX9_named : ByteArray := prog_11_method_28_code
def yX9_named : MethodName := ⟨RX9, "named", "(I)I"⟩
abbrev cX9_tool : ByteArray := prog_11_method_29_code
def yX9_tool : MethodName := ⟨RX9, "tool", "(II)I"⟩
abbrev cX9_code : ByteArray := prog_11_method_30_code
def yX9_code : MethodName := ⟨RX9, "code", "(III)I"⟩
abbrev cX9_step : ByteArray := prog_11_method_31_code
def yX9_step : MethodName := ⟨RX9, "step", "(I)I"⟩
abbrev cX9_go : ByteArray := prog_11_method_32_code
def yX9_go : MethodName := ⟨RX9, "go", "(II)I"⟩
abbrev cX9_take : ByteArray := prog_11_method_33_code
def yX9_take : MethodName := ⟨RX9, "take", "(I)V"⟩
abbrev cX9_builds : ByteArray := prog_11_method_34_code
def yX9_builds : MethodName := ⟨RX9, "builds", "(III)I"⟩
abbrev cX9_run : ByteArray := prog_11_method_35_code
def yX9_run : MethodName := ⟨RX9, "run", "(II)I"⟩
abbrev cX9_ran : ByteArray := prog_11_method_36_code
def yX9_ran : MethodName := ⟨RX9, "ran", "(I)I"⟩
abbrev cX9_tape : ByteArray := prog_11_method_37_code
def yX9_tape : MethodName := ⟨RX9, "tape", "(II)I"⟩
abbrev cX9_build : ByteArray := prog_11_method_38_code
def yX9_build : MethodName := ⟨RX9, "build", "(II)I"⟩
abbrev cX9_unlike : ByteArray := prog_11_method_39_code
def yX9_unlike : MethodName := ⟨RX9, "unlike", "(II)I"⟩
abbrev cX9_again : ByteArray := prog_11_method_40_code
def yX9_again : MethodName := ⟨RX9, "again", "(I)I"⟩
abbrev cX9_rebuilt : ByteArray := prog_11_method_41_code
def yX9_rebuilt : MethodName := ⟨RX9, "rebuilt", "(I)I"⟩
abbrev cX9_stale : ByteArray := prog_11_method_42_code
def yX9_stale : MethodName := ⟨RX9, "stale", "()I"⟩
abbrev cX9_settles : ByteArray := prog_11_method_43_code
def yX9_settles : MethodName := ⟨RX9, "settles", "(II)I"⟩
abbrev cX9_goRound : ByteArray := prog_11_method_44_code
def yX9_goRound : MethodName := ⟨RX9, "goRound", "(III)I"⟩
abbrev cX9_round : ByteArray := prog_11_method_45_code
def yX9_round : MethodName := ⟨RX9, "round", "(III)I"⟩
abbrev cX9_hides : ByteArray := prog_11_method_46_code
def yX9_hides : MethodName := ⟨RX9, "hides", "(III)I"⟩
abbrev cX9_check : ByteArray := prog_11_method_47_code
def yX9_check : MethodName := ⟨RX9, "check", "(II)I"⟩
abbrev cX9_lengthOf : ByteArray := prog_11_method_48_code
def yX9_lengthOf : MethodName := ⟨RX9, "lengthOf", "(I)I"⟩
abbrev cX9_last : ByteArray := prog_11_method_49_code
def yX9_last : MethodName := ⟨RX9, "last", "(I)I"⟩
abbrev cX9_chain : ByteArray := prog_11_method_50_code
def yX9_chain : MethodName := ⟨RX9, "chain", "(II)I"⟩
abbrev cX9_sealedOnes : ByteArray := prog_11_method_51_code
def yX9_sealedOnes : MethodName := ⟨RX9, "sealedOnes", "()I"⟩
abbrev cX9_sealed : ByteArray := prog_11_method_52_code
def yX9_sealed : MethodName := ⟨RX9, "sealed", "(I)I"⟩
abbrev cX9_least : ByteArray := prog_11_method_53_code
def yX9_least : MethodName := ⟨RX9, "least", "(I)I"⟩
abbrev cX9_same : ByteArray := prog_11_method_54_code
def yX9_same : MethodName := ⟨RX9, "same", "(II)I"⟩
abbrev cX9_edition : ByteArray := prog_11_method_55_code
def yX9_edition : MethodName := ⟨RX9, "edition", "(II)I"⟩
abbrev cX9_isEdition : ByteArray := prog_11_method_56_code
def yX9_isEdition : MethodName := ⟨RX9, "isEdition", "(I)Z"⟩
abbrev cX9_climb : ByteArray := prog_11_method_57_code
def yX9_climb : MethodName := ⟨RX9, "climb", "(III)I"⟩
abbrev cX9_ladder : ByteArray := prog_11_method_58_code
def yX9_ladder : MethodName := ⟨RX9, "ladder", "(III)I"⟩
abbrev cX9_needed : ByteArray := prog_11_method_59_code
def yX9_needed : MethodName := ⟨RX9, "needed", "(III)I"⟩
abbrev cX9_weight : ByteArray := prog_11_method_60_code
def yX9_weight : MethodName := ⟨RX9, "weight", "(II)I"⟩
abbrev cX9_count : ByteArray := prog_11_method_61_code
def yX9_count : MethodName := ⟨RX9, "count", "(I)I"⟩
abbrev cX9_trace : ByteArray := prog_11_method_62_code
def yX9_trace : MethodName := ⟨RX9, "trace", "()J"⟩
def RJ9 : String := "java/lang/Math"
def TJ9 : u_T := fun k => match k with
  | _ => ("", "", "", false)
def tyJ9 : Nat → FieldType := fun k => match k with
  | _ => .int
abbrev wsJ90 : List Cond := u_ws RJ9 TJ9 0
theorem nmJ9 : ∀ a, a < 0 → ∀ b, b < 0 → a ≠ b → (TJ9 a).2.1 ≠ (TJ9 b).2.1 := by decide +kernel
theorem tyJ9_ok : ∀ k, k < 0 → parseFieldDescriptor (TJ9 k).2.2.1 = some (tyJ9 k) := by decide +kernel
abbrev cJ9_max_7cf53 : ByteArray := prog_12_method_65_code
def yJ9_max_7cf53 : MethodName := ⟨RJ9, "max", "(II)I"⟩
abbrev cJ9_min_7cf53 : ByteArray := prog_12_method_69_code
def yJ9_min_7cf53 : MethodName := ⟨RJ9, "min", "(II)I"⟩
def RJ0 : String := "java/lang/String"
def TJ0 : u_T := fun k => match k with
  | _ => ("", "", "", false)
def tyJ0 : Nat → FieldType := fun k => match k with
  | _ => .int
abbrev wsJ00 : List Cond := u_ws RJ0 TJ0 0
theorem nmJ0 : ∀ a, a < 0 → ∀ b, b < 0 → a ≠ b → (TJ0 a).2.1 ≠ (TJ0 b).2.1 := by decide +kernel
theorem tyJ0_ok : ∀ k, k < 0 → parseFieldDescriptor (TJ0 k).2.2.1 = some (tyJ0 k) := by decide +kernel
abbrev cJ0_length_8abf5 : ByteArray := prog_13_method_54_code
def yJ0_length_8abf5 : MethodName := ⟨RJ0, "length", "()I"⟩
abbrev cJ0_charAt_5068e : ByteArray := prog_13_method_56_code
def yJ0_charAt_5068e : MethodName := ⟨RJ0, "charAt", "(I)C"⟩
abbrev cJ0_coder_7d493 : ByteArray := prog_13_method_152_code
def yJ0_coder_7d493 : MethodName := ⟨RJ0, "coder", "()B"⟩
abbrev cJ0_isLatin1_aae02 : ByteArray := prog_13_method_154_code
def yJ0_isLatin1_aae02 : MethodName := ⟨RJ0, "isLatin1", "()Z"⟩
abbrev cJ0_checkIndex_df160 : ByteArray := prog_13_method_155_code
def yJ0_checkIndex_df160 : MethodName := ⟨RJ0, "checkIndex", "(II)V"⟩
def RJ1 : String := "java/lang/StringLatin1"
def TJ1 : u_T := fun k => match k with
  | _ => ("", "", "", false)
def tyJ1 : Nat → FieldType := fun k => match k with
  | _ => .int
abbrev wsJ10 : List Cond := u_ws RJ1 TJ1 0
theorem nmJ1 : ∀ a, a < 0 → ∀ b, b < 0 → a ≠ b → (TJ1 a).2.1 ≠ (TJ1 b).2.1 := by decide +kernel
theorem tyJ1_ok : ∀ k, k < 0 → parseFieldDescriptor (TJ1 k).2.2.1 = some (tyJ1 k) := by decide +kernel
abbrev cJ1_charAt_3b067 : ByteArray := prog_14_method_2_code
def yJ1_charAt_3b067 : MethodName := ⟨RJ1, "charAt", "([BI)C"⟩
def RJ2 : String := "java/lang/StringUTF16"
def TJ2 : u_T := fun k => match k with
  | _ => ("", "", "", false)
def tyJ2 : Nat → FieldType := fun k => match k with
  | _ => .int
abbrev wsJ20 : List Cond := u_ws RJ2 TJ2 0
theorem nmJ2 : ∀ a, a < 0 → ∀ b, b < 0 → a ≠ b → (TJ2 a).2.1 ≠ (TJ2 b).2.1 := by decide +kernel
theorem tyJ2_ok : ∀ k, k < 0 → parseFieldDescriptor (TJ2 k).2.2.1 = some (tyJ2 k) := by decide +kernel
abbrev cJ2_getChar_3b067 : ByteArray := prog_15_method_5_code
def yJ2_getChar_3b067 : MethodName := ⟨RJ2, "getChar", "([BI)C"⟩
abbrev cJ2_length_9d52b : ByteArray := prog_15_method_6_code
def yJ2_length_9d52b : MethodName := ⟨RJ2, "length", "([B)I"⟩
abbrev cJ2_charAt_3b067 : ByteArray := prog_15_method_83_code
def yJ2_charAt_3b067 : MethodName := ⟨RJ2, "charAt", "([BI)C"⟩
abbrev cJ2_checkIndex_2214a : ByteArray := prog_15_method_91_code
def yJ2_checkIndex_2214a : MethodName := ⟨RJ2, "checkIndex", "(I[B)V"⟩
def RJ3 : String := "jdk/internal/util/Preconditions"
def TJ3 : u_T := fun k => match k with
  | _ => ("", "", "", false)
def tyJ3 : Nat → FieldType := fun k => match k with
  | _ => .int
abbrev wsJ30 : List Cond := u_ws RJ3 TJ3 0
theorem nmJ3 : ∀ a, a < 0 → ∀ b, b < 0 → a ≠ b → (TJ3 a).2.1 ≠ (TJ3 b).2.1 := by decide +kernel
theorem tyJ3_ok : ∀ k, k < 0 → parseFieldDescriptor (TJ3 k).2.2.1 = some (tyJ3 k) := by decide +kernel
abbrev cJ3_checkIndex_8e157 : ByteArray := prog_16_method_11_code
def yJ3_checkIndex_8e157 : MethodName := ⟨RJ3, "checkIndex", "(IILjava/util/function/BiFunction;)I"⟩
def RL : String := "LadderForgeLaw"
abbrev cL_law : ByteArray := code
def yL_law : MethodName := ⟨RL, "law", "([I)Z"⟩
abbrev vwCl : List vw_C := [(RX0, TX0, 4), (RX1, TX1, 4), (RX2, TX2, 9), (RX4, TX4, 5), (RX5, TX5, 1), (RX6, TX6, 2), (RX7, TX7, 5), (RX8, TX8, 11), (RX9, TX9, 39)]
/-- the words that stay good over a call -/
def gw : List Cond := lw_tbl.filter goodWord
/-- the words on nest mates and abstract methods -/
def nw : List Cond := [(Jvm.Cond.methodLinkNest "LadderForge" (9 : Nat) ({ cls := "LadderForge$Text", name := "<init>", desc := "()V" } : Jvm.MethodName) "LadderForge"),
  (Jvm.Cond.fieldLinkNest "LadderForge" (67 : Nat) "LadderForge$Text" "length" "I" "LadderForge"),
  (Jvm.Cond.fieldLinkNest "LadderForge$NamedMaker" (34 : Nat) "LadderForge$Text" "length" "I" "LadderForge"),
  (Jvm.Cond.fieldLinkNest "LadderForge$PairsMaker" (27 : Nat) "LadderForge$Text" "length" "I" "LadderForge"),
  (Jvm.Cond.methodLinkNest "LadderForge" (32 : Nat) ({ cls := "LadderForge$PairsMaker", name := "<init>", desc := "()V" } : Jvm.MethodName) "LadderForge"),
  (Jvm.Cond.methodLinkNest "LadderForge$PairsMaker" (3 : Nat) ({ cls := "LadderForge$Maker", name := "<init>", desc := "()V" } : Jvm.MethodName) "LadderForge"),
  (Jvm.Cond.fieldLinkNest "LadderForge$PairsMaker" (15 : Nat) "LadderForge$Code" "length" "I" "LadderForge"),
  (Jvm.Cond.fieldLinkNest "LadderForge$NamedMaker" (49 : Nat) "LadderForge$Code" "length" "I" "LadderForge"),
  (Jvm.Cond.fieldLinkNest "LadderForge$Machine" (51 : Nat) "LadderForge$Code" "length" "I" "LadderForge"),
  (Jvm.Cond.fieldLinkNest "LadderForge" (109 : Nat) "LadderForge$Code" "length" "I" "LadderForge"),
  (Jvm.Cond.methodLinkNest "LadderForge" (39 : Nat) ({ cls := "LadderForge$NamedMaker", name := "<init>", desc := "()V" } : Jvm.MethodName) "LadderForge"),
  (Jvm.Cond.methodLinkNest "LadderForge$NamedMaker" (3 : Nat) ({ cls := "LadderForge$Maker", name := "<init>", desc := "()V" } : Jvm.MethodName) "LadderForge"),
  (Jvm.Cond.methodLinkNest "LadderForge" (45 : Nat) ({ cls := "LadderForge$Machine", name := "<init>", desc := "()V" } : Jvm.MethodName) "LadderForge"),
  (Jvm.Cond.fieldLinkNest "LadderForge" (102 : Nat) "LadderForge$Machine" "out" "LLadderForge$Code;" "LadderForge"),
  (Jvm.Cond.fieldLinkNest "LadderForge" (142 : Nat) "LadderForge$Machine" "a" "I" "LadderForge"),
  (Jvm.Cond.fieldLinkNest "LadderForge" (145 : Nat) "LadderForge$Machine" "x" "I" "LadderForge"),
  (Jvm.Cond.fieldLinkNest "LadderForge" (148 : Nat) "LadderForge$Machine" "p" "I" "LadderForge"),
  (Jvm.Cond.fieldLinkNest "LadderForge" (136 : Nat) "LadderForge$Machine" "done" "I" "LadderForge"),
  (Jvm.Cond.fieldLinkNest "LadderForge" (139 : Nat) "LadderForge$Machine" "taken" "I" "LadderForge"),
  (Jvm.Cond.fieldLinkNest "LadderForge" (133 : Nat) "LadderForge$Machine" "harm" "I" "LadderForge"),
  (Jvm.Cond.methodLinkNest "LadderForge" (58 : Nat) ({ cls := "LadderForge$Editions", name := "<init>", desc := "()V" } : Jvm.MethodName) "LadderForge"),
  (Jvm.Cond.fieldLinkNest "LadderForge" (219 : Nat) "LadderForge$Editions" "held" "I" "LadderForge"),
  (Jvm.Cond.declares ({ cls := "LadderForge$Maker", name := "faultIn", desc := "(LLadderForge$Text;)I" } : Jvm.MethodName)),
  (Jvm.Cond.fieldLinkNest "LadderForge" (94 : Nat) "LadderForge$Tool" "code" "LLadderForge$Code;" "LadderForge"),
  (Jvm.Cond.fieldLinkNest "LadderForge" (112 : Nat) "LadderForge$Tool" "how" "I" "LadderForge"),
  (Jvm.Cond.fieldLinkNest "LadderForge" (115 : Nat) "LadderForge$Tool" "text" "I" "LadderForge"),
  (Jvm.Cond.fieldLinkNest "LadderForge" (118 : Nat) "LadderForge$Tool" "builder" "I" "LadderForge"),
  (Jvm.Cond.fieldLinkNest "LadderForge" (121 : Nat) "LadderForge$Tool" "checked" "Z" "LadderForge")]
theorem gw_of {w : Cond} (h : w ∈ lw_tbl) (hg : goodWord w = true) : w ∈ gw := List.mem_filter.mpr ⟨h, hg⟩
theorem gw_tbl {w : Cond} (h : w ∈ gw) : w ∈ lw_tbl := (List.mem_filter.mp h).1
theorem gw_good {w : Cond} (h : w ∈ gw) : goodWord w = true := (List.mem_filter.mp h).2
end
section
theorem dX0_init_0 : decode cX0_init 0 = .ok (.aload_n 0, 1) := by decide +kernel
theorem dX0_init_1 : decode cX0_init 1 = .ok (.invokespecial 3, 3) := by decide +kernel
theorem dX0_init_4 : decode cX0_init 4 = .ok (.aload_n 0, 1) := by decide +kernel
theorem dX0_init_5 : decode cX0_init 5 = .ok (.iconst 0, 1) := by decide +kernel
theorem dX0_init_6 : decode cX0_init 6 = .ok (.putfield 9, 3) := by decide +kernel
theorem dX0_init_9 : decode cX0_init 9 = .ok (.aload_n 0, 1) := by decide +kernel
theorem dX0_init_10 : decode cX0_init 10 = .ok (.iload_n 1, 1) := by decide +kernel
theorem dX0_init_11 : decode cX0_init 11 = .ok (.ifCond .ge 7, 3) := by decide +kernel
theorem dX0_init_14 : decode cX0_init 14 = .ok (.iconst 0, 1) := by decide +kernel
theorem dX0_init_15 : decode cX0_init 15 = .ok (.goto 10, 3) := by decide +kernel
theorem dX0_init_18 : decode cX0_init 18 = .ok (.iload_n 1, 1) := by decide +kernel
theorem dX0_init_19 : decode cX0_init 19 = .ok (.sipush 256, 3) := by decide +kernel
theorem dX0_init_22 : decode cX0_init 22 = .ok (.invokestatic 15, 3) := by decide +kernel
theorem dX0_init_25 : decode cX0_init 25 = .ok (.putfield 21, 3) := by decide +kernel
theorem dX0_init_28 : decode cX0_init 28 = .ok (.aload_n 0, 1) := by decide +kernel
theorem dX0_init_29 : decode cX0_init 29 = .ok (.aload_n 0, 1) := by decide +kernel
theorem dX0_init_30 : decode cX0_init 30 = .ok (.getfield 21, 3) := by decide +kernel
theorem dX0_init_33 : decode cX0_init 33 = .ok (.newarray .int, 2) := by decide +kernel
theorem dX0_init_35 : decode cX0_init 35 = .ok (.putfield 24, 3) := by decide +kernel
theorem dX0_init_38 : decode cX0_init 38 = .ok (.aload_n 0, 1) := by decide +kernel
theorem dX0_init_39 : decode cX0_init 39 = .ok (.aload_n 0, 1) := by decide +kernel
theorem dX0_init_40 : decode cX0_init 40 = .ok (.getfield 21, 3) := by decide +kernel
theorem dX0_init_43 : decode cX0_init 43 = .ok (.newarray .int, 2) := by decide +kernel
theorem dX0_init_45 : decode cX0_init 45 = .ok (.putfield 28, 3) := by decide +kernel
theorem dX0_init_48 : decode cX0_init 48 = .ok (.return_, 1) := by decide +kernel
theorem dX0_add_0 : decode cX0_add 0 = .ok (.aload_n 0, 1) := by decide +kernel
theorem dX0_add_1 : decode cX0_add 1 = .ok (.getfield 9, 3) := by decide +kernel
theorem dX0_add_4 : decode cX0_add 4 = .ok (.ifCond .lt 14, 3) := by decide +kernel
theorem dX0_add_7 : decode cX0_add 7 = .ok (.aload_n 0, 1) := by decide +kernel
theorem dX0_add_8 : decode cX0_add 8 = .ok (.getfield 9, 3) := by decide +kernel
theorem dX0_add_11 : decode cX0_add 11 = .ok (.aload_n 0, 1) := by decide +kernel
theorem dX0_add_12 : decode cX0_add 12 = .ok (.getfield 21, 3) := by decide +kernel
theorem dX0_add_15 : decode cX0_add 15 = .ok (.if_icmp .lt 5, 3) := by decide +kernel
theorem dX0_add_18 : decode cX0_add 18 = .ok (.iconst 0, 1) := by decide +kernel
theorem dX0_add_19 : decode cX0_add 19 = .ok (.ireturn, 1) := by decide +kernel
theorem dX0_add_20 : decode cX0_add 20 = .ok (.aload_n 0, 1) := by decide +kernel
theorem dX0_add_21 : decode cX0_add 21 = .ok (.getfield 24, 3) := by decide +kernel
theorem dX0_add_24 : decode cX0_add 24 = .ok (.aload_n 0, 1) := by decide +kernel
theorem dX0_add_25 : decode cX0_add 25 = .ok (.getfield 9, 3) := by decide +kernel
theorem dX0_add_28 : decode cX0_add 28 = .ok (.iload_n 1, 1) := by decide +kernel
theorem dX0_add_29 : decode cX0_add 29 = .ok (.iastore, 1) := by decide +kernel
theorem dX0_add_30 : decode cX0_add 30 = .ok (.aload_n 0, 1) := by decide +kernel
theorem dX0_add_31 : decode cX0_add 31 = .ok (.getfield 28, 3) := by decide +kernel
theorem dX0_add_34 : decode cX0_add 34 = .ok (.aload_n 0, 1) := by decide +kernel
theorem dX0_add_35 : decode cX0_add 35 = .ok (.getfield 9, 3) := by decide +kernel
theorem dX0_add_38 : decode cX0_add 38 = .ok (.iload_n 2, 1) := by decide +kernel
theorem dX0_add_39 : decode cX0_add 39 = .ok (.iastore, 1) := by decide +kernel
theorem dX0_add_40 : decode cX0_add 40 = .ok (.aload_n 0, 1) := by decide +kernel
theorem dX0_add_41 : decode cX0_add 41 = .ok (.dup, 1) := by decide +kernel
theorem dX0_add_42 : decode cX0_add 42 = .ok (.getfield 9, 3) := by decide +kernel
theorem dX0_add_45 : decode cX0_add 45 = .ok (.iconst 1, 1) := by decide +kernel
theorem dX0_add_46 : decode cX0_add 46 = .ok (.iadd, 1) := by decide +kernel
theorem dX0_add_47 : decode cX0_add 47 = .ok (.putfield 9, 3) := by decide +kernel
theorem dX0_add_50 : decode cX0_add 50 = .ok (.iconst 1, 1) := by decide +kernel
theorem dX0_add_51 : decode cX0_add 51 = .ok (.ireturn, 1) := by decide +kernel
theorem dX0_at_0 : decode cX0_at 0 = .ok (.iload_n 1, 1) := by decide +kernel
theorem dX0_at_1 : decode cX0_at 1 = .ok (.ifCond .lt 19, 3) := by decide +kernel
theorem dX0_at_4 : decode cX0_at 4 = .ok (.iload_n 1, 1) := by decide +kernel
theorem dX0_at_5 : decode cX0_at 5 = .ok (.aload_n 0, 1) := by decide +kernel
theorem dX0_at_6 : decode cX0_at 6 = .ok (.getfield 9, 3) := by decide +kernel
theorem dX0_at_9 : decode cX0_at 9 = .ok (.if_icmp .ge 11, 3) := by decide +kernel
theorem dX0_at_12 : decode cX0_at 12 = .ok (.iload_n 1, 1) := by decide +kernel
theorem dX0_at_13 : decode cX0_at 13 = .ok (.aload_n 0, 1) := by decide +kernel
theorem dX0_at_14 : decode cX0_at 14 = .ok (.getfield 21, 3) := by decide +kernel
theorem dX0_at_17 : decode cX0_at 17 = .ok (.if_icmp .lt 7, 3) := by decide +kernel
theorem dX0_at_20 : decode cX0_at 20 = .ok (.iconst (-1), 1) := by decide +kernel
theorem dX0_at_21 : decode cX0_at 21 = .ok (.goto 9, 3) := by decide +kernel
theorem dX0_at_24 : decode cX0_at 24 = .ok (.aload_n 0, 1) := by decide +kernel
theorem dX0_at_25 : decode cX0_at 25 = .ok (.getfield 24, 3) := by decide +kernel
theorem dX0_at_28 : decode cX0_at 28 = .ok (.iload_n 1, 1) := by decide +kernel
theorem dX0_at_29 : decode cX0_at 29 = .ok (.iaload, 1) := by decide +kernel
theorem dX0_at_30 : decode cX0_at 30 = .ok (.ireturn, 1) := by decide +kernel
theorem dX0_ledAt_0 : decode cX0_ledAt 0 = .ok (.iload_n 1, 1) := by decide +kernel
theorem dX0_ledAt_1 : decode cX0_ledAt 1 = .ok (.ifCond .lt 19, 3) := by decide +kernel
theorem dX0_ledAt_4 : decode cX0_ledAt 4 = .ok (.iload_n 1, 1) := by decide +kernel
theorem dX0_ledAt_5 : decode cX0_ledAt 5 = .ok (.aload_n 0, 1) := by decide +kernel
theorem dX0_ledAt_6 : decode cX0_ledAt 6 = .ok (.getfield 9, 3) := by decide +kernel
theorem dX0_ledAt_9 : decode cX0_ledAt 9 = .ok (.if_icmp .ge 11, 3) := by decide +kernel
theorem dX0_ledAt_12 : decode cX0_ledAt 12 = .ok (.iload_n 1, 1) := by decide +kernel
theorem dX0_ledAt_13 : decode cX0_ledAt 13 = .ok (.aload_n 0, 1) := by decide +kernel
theorem dX0_ledAt_14 : decode cX0_ledAt 14 = .ok (.getfield 21, 3) := by decide +kernel
theorem dX0_ledAt_17 : decode cX0_ledAt 17 = .ok (.if_icmp .lt 7, 3) := by decide +kernel
theorem dX0_ledAt_20 : decode cX0_ledAt 20 = .ok (.iconst (-1), 1) := by decide +kernel
theorem dX0_ledAt_21 : decode cX0_ledAt 21 = .ok (.goto 9, 3) := by decide +kernel
theorem dX0_ledAt_24 : decode cX0_ledAt 24 = .ok (.aload_n 0, 1) := by decide +kernel
theorem dX0_ledAt_25 : decode cX0_ledAt 25 = .ok (.getfield 28, 3) := by decide +kernel
theorem dX0_ledAt_28 : decode cX0_ledAt 28 = .ok (.iload_n 1, 1) := by decide +kernel
theorem dX0_ledAt_29 : decode cX0_ledAt 29 = .ok (.iaload, 1) := by decide +kernel
theorem dX0_ledAt_30 : decode cX0_ledAt 30 = .ok (.ireturn, 1) := by decide +kernel
theorem dX0_change_0 : decode cX0_change 0 = .ok (.iload_n 1, 1) := by decide +kernel
theorem dX0_change_1 : decode cX0_change 1 = .ok (.ifCond .lt 26, 3) := by decide +kernel
theorem dX0_change_4 : decode cX0_change 4 = .ok (.iload_n 1, 1) := by decide +kernel
theorem dX0_change_5 : decode cX0_change 5 = .ok (.aload_n 0, 1) := by decide +kernel
theorem dX0_change_6 : decode cX0_change 6 = .ok (.getfield 9, 3) := by decide +kernel
theorem dX0_change_9 : decode cX0_change 9 = .ok (.if_icmp .ge 18, 3) := by decide +kernel
theorem dX0_change_12 : decode cX0_change 12 = .ok (.iload_n 1, 1) := by decide +kernel
theorem dX0_change_13 : decode cX0_change 13 = .ok (.aload_n 0, 1) := by decide +kernel
theorem dX0_change_14 : decode cX0_change 14 = .ok (.getfield 21, 3) := by decide +kernel
theorem dX0_change_17 : decode cX0_change 17 = .ok (.if_icmp .ge 10, 3) := by decide +kernel
theorem dX0_change_20 : decode cX0_change 20 = .ok (.aload_n 0, 1) := by decide +kernel
theorem dX0_change_21 : decode cX0_change 21 = .ok (.getfield 24, 3) := by decide +kernel
theorem dX0_change_24 : decode cX0_change 24 = .ok (.iload_n 1, 1) := by decide +kernel
theorem dX0_change_25 : decode cX0_change 25 = .ok (.iload_n 2, 1) := by decide +kernel
theorem dX0_change_26 : decode cX0_change 26 = .ok (.iastore, 1) := by decide +kernel
theorem dX0_change_27 : decode cX0_change 27 = .ok (.return_, 1) := by decide +kernel
theorem dX0_unlike_0 : decode cX0_unlike 0 = .ok (.aload_n 0, 1) := by decide +kernel
theorem dX0_unlike_1 : decode cX0_unlike 1 = .ok (.getfield 9, 3) := by decide +kernel
theorem dX0_unlike_4 : decode cX0_unlike 4 = .ok (.aload_n 1, 1) := by decide +kernel
theorem dX0_unlike_5 : decode cX0_unlike 5 = .ok (.getfield 9, 3) := by decide +kernel
theorem dX0_unlike_8 : decode cX0_unlike 8 = .ok (.invokestatic 15, 3) := by decide +kernel
theorem dX0_unlike_11 : decode cX0_unlike 11 = .ok (.istore_n 2, 1) := by decide +kernel
theorem dX0_unlike_12 : decode cX0_unlike 12 = .ok (.iconst 0, 1) := by decide +kernel
theorem dX0_unlike_13 : decode cX0_unlike 13 = .ok (.istore_n 3, 1) := by decide +kernel
theorem dX0_unlike_14 : decode cX0_unlike 14 = .ok (.iload_n 3, 1) := by decide +kernel
theorem dX0_unlike_15 : decode cX0_unlike 15 = .ok (.iload_n 2, 1) := by decide +kernel
theorem dX0_unlike_16 : decode cX0_unlike 16 = .ok (.if_icmp .ge 26, 3) := by decide +kernel
theorem dX0_unlike_19 : decode cX0_unlike 19 = .ok (.aload_n 0, 1) := by decide +kernel
theorem dX0_unlike_20 : decode cX0_unlike 20 = .ok (.iload_n 3, 1) := by decide +kernel
theorem dX0_unlike_21 : decode cX0_unlike 21 = .ok (.invokevirtual 31, 3) := by decide +kernel
theorem dX0_unlike_24 : decode cX0_unlike 24 = .ok (.aload_n 1, 1) := by decide +kernel
theorem dX0_unlike_25 : decode cX0_unlike 25 = .ok (.iload_n 3, 1) := by decide +kernel
theorem dX0_unlike_26 : decode cX0_unlike 26 = .ok (.invokevirtual 31, 3) := by decide +kernel
theorem dX0_unlike_29 : decode cX0_unlike 29 = .ok (.if_icmp .eq 7, 3) := by decide +kernel
theorem dX0_unlike_32 : decode cX0_unlike 32 = .ok (.iconst 1, 1) := by decide +kernel
theorem dX0_unlike_33 : decode cX0_unlike 33 = .ok (.iload_n 3, 1) := by decide +kernel
theorem dX0_unlike_34 : decode cX0_unlike 34 = .ok (.iadd, 1) := by decide +kernel
theorem dX0_unlike_35 : decode cX0_unlike 35 = .ok (.ireturn, 1) := by decide +kernel
theorem dX0_unlike_36 : decode cX0_unlike 36 = .ok (.iinc 3 1, 3) := by decide +kernel
theorem dX0_unlike_39 : decode cX0_unlike 39 = .ok (.goto (-25), 3) := by decide +kernel
theorem dX0_unlike_42 : decode cX0_unlike 42 = .ok (.aload_n 0, 1) := by decide +kernel
theorem dX0_unlike_43 : decode cX0_unlike 43 = .ok (.getfield 9, 3) := by decide +kernel
theorem dX0_unlike_46 : decode cX0_unlike 46 = .ok (.aload_n 1, 1) := by decide +kernel
theorem dX0_unlike_47 : decode cX0_unlike 47 = .ok (.getfield 9, 3) := by decide +kernel
theorem dX0_unlike_50 : decode cX0_unlike 50 = .ok (.if_icmp .ne 7, 3) := by decide +kernel
theorem dX0_unlike_53 : decode cX0_unlike 53 = .ok (.iconst 0, 1) := by decide +kernel
theorem dX0_unlike_54 : decode cX0_unlike 54 = .ok (.goto 6, 3) := by decide +kernel
theorem dX0_unlike_57 : decode cX0_unlike 57 = .ok (.iconst 1, 1) := by decide +kernel
theorem dX0_unlike_58 : decode cX0_unlike 58 = .ok (.iload_n 2, 1) := by decide +kernel
theorem dX0_unlike_59 : decode cX0_unlike 59 = .ok (.iadd, 1) := by decide +kernel
theorem dX0_unlike_60 : decode cX0_unlike 60 = .ok (.ireturn, 1) := by decide +kernel
theorem dX0_beyondOrders_0 : decode cX0_beyondOrders 0 = .ok (.iconst 0, 1) := by decide +kernel
theorem dX0_beyondOrders_1 : decode cX0_beyondOrders 1 = .ok (.istore_n 1, 1) := by decide +kernel
theorem dX0_beyondOrders_2 : decode cX0_beyondOrders 2 = .ok (.iconst 0, 1) := by decide +kernel
theorem dX0_beyondOrders_3 : decode cX0_beyondOrders 3 = .ok (.istore_n 2, 1) := by decide +kernel
theorem dX0_beyondOrders_4 : decode cX0_beyondOrders 4 = .ok (.iload_n 2, 1) := by decide +kernel
theorem dX0_beyondOrders_5 : decode cX0_beyondOrders 5 = .ok (.aload_n 0, 1) := by decide +kernel
theorem dX0_beyondOrders_6 : decode cX0_beyondOrders 6 = .ok (.getfield 9, 3) := by decide +kernel
theorem dX0_beyondOrders_9 : decode cX0_beyondOrders 9 = .ok (.if_icmp .ge 22, 3) := by decide +kernel
theorem dX0_beyondOrders_12 : decode cX0_beyondOrders 12 = .ok (.aload_n 0, 1) := by decide +kernel
theorem dX0_beyondOrders_13 : decode cX0_beyondOrders 13 = .ok (.iload_n 2, 1) := by decide +kernel
theorem dX0_beyondOrders_14 : decode cX0_beyondOrders 14 = .ok (.invokevirtual 31, 3) := by decide +kernel
theorem dX0_beyondOrders_17 : decode cX0_beyondOrders 17 = .ok (.bipush 15, 2) := by decide +kernel
theorem dX0_beyondOrders_19 : decode cX0_beyondOrders 19 = .ok (.if_icmp .le 6, 3) := by decide +kernel
theorem dX0_beyondOrders_22 : decode cX0_beyondOrders 22 = .ok (.iinc 1 1, 3) := by decide +kernel
theorem dX0_beyondOrders_25 : decode cX0_beyondOrders 25 = .ok (.iinc 2 1, 3) := by decide +kernel
theorem dX0_beyondOrders_28 : decode cX0_beyondOrders 28 = .ok (.goto (-24), 3) := by decide +kernel
theorem dX0_beyondOrders_31 : decode cX0_beyondOrders 31 = .ok (.iload_n 1, 1) := by decide +kernel
theorem dX0_beyondOrders_32 : decode cX0_beyondOrders 32 = .ok (.ireturn, 1) := by decide +kernel
theorem dX0_copied_0 : decode cX0_copied 0 = .ok (.new 10, 3) := by decide +kernel
theorem dX0_copied_3 : decode cX0_copied 3 = .ok (.dup, 1) := by decide +kernel
theorem dX0_copied_4 : decode cX0_copied 4 = .ok (.aload_n 0, 1) := by decide +kernel
theorem dX0_copied_5 : decode cX0_copied 5 = .ok (.getfield 9, 3) := by decide +kernel
theorem dX0_copied_8 : decode cX0_copied 8 = .ok (.invokespecial 37, 3) := by decide +kernel
theorem dX0_copied_11 : decode cX0_copied 11 = .ok (.astore_n 1, 1) := by decide +kernel
theorem dX0_copied_12 : decode cX0_copied 12 = .ok (.iconst 0, 1) := by decide +kernel
theorem dX0_copied_13 : decode cX0_copied 13 = .ok (.istore_n 2, 1) := by decide +kernel
theorem dX0_copied_14 : decode cX0_copied 14 = .ok (.iload_n 2, 1) := by decide +kernel
theorem dX0_copied_15 : decode cX0_copied 15 = .ok (.aload_n 0, 1) := by decide +kernel
theorem dX0_copied_16 : decode cX0_copied 16 = .ok (.getfield 9, 3) := by decide +kernel
theorem dX0_copied_19 : decode cX0_copied 19 = .ok (.if_icmp .ge 24, 3) := by decide +kernel
theorem dX0_copied_22 : decode cX0_copied 22 = .ok (.aload_n 1, 1) := by decide +kernel
theorem dX0_copied_23 : decode cX0_copied 23 = .ok (.aload_n 0, 1) := by decide +kernel
theorem dX0_copied_24 : decode cX0_copied 24 = .ok (.iload_n 2, 1) := by decide +kernel
theorem dX0_copied_25 : decode cX0_copied 25 = .ok (.invokevirtual 31, 3) := by decide +kernel
theorem dX0_copied_28 : decode cX0_copied 28 = .ok (.aload_n 0, 1) := by decide +kernel
theorem dX0_copied_29 : decode cX0_copied 29 = .ok (.iload_n 2, 1) := by decide +kernel
theorem dX0_copied_30 : decode cX0_copied 30 = .ok (.invokevirtual 40, 3) := by decide +kernel
theorem dX0_copied_33 : decode cX0_copied 33 = .ok (.invokevirtual 43, 3) := by decide +kernel
theorem dX0_copied_36 : decode cX0_copied 36 = .ok (.pop, 1) := by decide +kernel
theorem dX0_copied_37 : decode cX0_copied 37 = .ok (.iinc 2 1, 3) := by decide +kernel
theorem dX0_copied_40 : decode cX0_copied 40 = .ok (.goto (-26), 3) := by decide +kernel
theorem dX0_copied_43 : decode cX0_copied 43 = .ok (.aload_n 1, 1) := by decide +kernel
theorem dX0_copied_44 : decode cX0_copied 44 = .ok (.areturn, 1) := by decide +kernel
theorem dX1_init_0 : decode cX1_init 0 = .ok (.aload_n 0, 1) := by decide +kernel
theorem dX1_init_1 : decode cX1_init 1 = .ok (.invokespecial 3, 3) := by decide +kernel
theorem dX1_init_4 : decode cX1_init 4 = .ok (.aload_n 0, 1) := by decide +kernel
theorem dX1_init_5 : decode cX1_init 5 = .ok (.bipush 12, 2) := by decide +kernel
theorem dX1_init_7 : decode cX1_init 7 = .ok (.newarray .int, 2) := by decide +kernel
theorem dX1_init_9 : decode cX1_init 9 = .ok (.putfield 9, 3) := by decide +kernel
theorem dX1_init_12 : decode cX1_init 12 = .ok (.aload_n 0, 1) := by decide +kernel
theorem dX1_init_13 : decode cX1_init 13 = .ok (.bipush 12, 2) := by decide +kernel
theorem dX1_init_15 : decode cX1_init 15 = .ok (.newarray .int, 2) := by decide +kernel
theorem dX1_init_17 : decode cX1_init 17 = .ok (.putfield 15, 3) := by decide +kernel
theorem dX1_init_20 : decode cX1_init 20 = .ok (.aload_n 0, 1) := by decide +kernel
theorem dX1_init_21 : decode cX1_init 21 = .ok (.bipush 12, 2) := by decide +kernel
theorem dX1_init_23 : decode cX1_init 23 = .ok (.newarray .int, 2) := by decide +kernel
theorem dX1_init_25 : decode cX1_init 25 = .ok (.putfield 18, 3) := by decide +kernel
theorem dX1_init_28 : decode cX1_init 28 = .ok (.aload_n 0, 1) := by decide +kernel
theorem dX1_init_29 : decode cX1_init 29 = .ok (.iconst 0, 1) := by decide +kernel
theorem dX1_init_30 : decode cX1_init 30 = .ok (.putfield 21, 3) := by decide +kernel
theorem dX1_init_33 : decode cX1_init 33 = .ok (.return_, 1) := by decide +kernel
theorem dX1_add_0 : decode cX1_add 0 = .ok (.aload_n 0, 1) := by decide +kernel
theorem dX1_add_1 : decode cX1_add 1 = .ok (.getfield 21, 3) := by decide +kernel
theorem dX1_add_4 : decode cX1_add 4 = .ok (.ifCond .lt 12, 3) := by decide +kernel
theorem dX1_add_7 : decode cX1_add 7 = .ok (.aload_n 0, 1) := by decide +kernel
theorem dX1_add_8 : decode cX1_add 8 = .ok (.getfield 21, 3) := by decide +kernel
theorem dX1_add_11 : decode cX1_add 11 = .ok (.bipush 12, 2) := by decide +kernel
theorem dX1_add_13 : decode cX1_add 13 = .ok (.if_icmp .lt 6, 3) := by decide +kernel
theorem dX1_add_16 : decode cX1_add 16 = .ok (.bipush (-3), 2) := by decide +kernel
theorem dX1_add_18 : decode cX1_add 18 = .ok (.ireturn, 1) := by decide +kernel
theorem dX1_add_19 : decode cX1_add 19 = .ok (.aload_n 0, 1) := by decide +kernel
theorem dX1_add_20 : decode cX1_add 20 = .ok (.getfield 9, 3) := by decide +kernel
theorem dX1_add_23 : decode cX1_add 23 = .ok (.aload_n 0, 1) := by decide +kernel
theorem dX1_add_24 : decode cX1_add 24 = .ok (.getfield 21, 3) := by decide +kernel
theorem dX1_add_27 : decode cX1_add 27 = .ok (.iload_n 1, 1) := by decide +kernel
theorem dX1_add_28 : decode cX1_add 28 = .ok (.iastore, 1) := by decide +kernel
theorem dX1_add_29 : decode cX1_add 29 = .ok (.aload_n 0, 1) := by decide +kernel
theorem dX1_add_30 : decode cX1_add 30 = .ok (.getfield 15, 3) := by decide +kernel
theorem dX1_add_33 : decode cX1_add 33 = .ok (.aload_n 0, 1) := by decide +kernel
theorem dX1_add_34 : decode cX1_add 34 = .ok (.getfield 21, 3) := by decide +kernel
theorem dX1_add_37 : decode cX1_add 37 = .ok (.iload_n 2, 1) := by decide +kernel
theorem dX1_add_38 : decode cX1_add 38 = .ok (.iastore, 1) := by decide +kernel
theorem dX1_add_39 : decode cX1_add 39 = .ok (.aload_n 0, 1) := by decide +kernel
theorem dX1_add_40 : decode cX1_add 40 = .ok (.dup, 1) := by decide +kernel
theorem dX1_add_41 : decode cX1_add 41 = .ok (.getfield 21, 3) := by decide +kernel
theorem dX1_add_44 : decode cX1_add 44 = .ok (.iconst 1, 1) := by decide +kernel
theorem dX1_add_45 : decode cX1_add 45 = .ok (.iadd, 1) := by decide +kernel
theorem dX1_add_46 : decode cX1_add 46 = .ok (.putfield 21, 3) := by decide +kernel
theorem dX1_add_49 : decode cX1_add 49 = .ok (.aload_n 0, 1) := by decide +kernel
theorem dX1_add_50 : decode cX1_add 50 = .ok (.getfield 21, 3) := by decide +kernel
theorem dX1_add_53 : decode cX1_add 53 = .ok (.iconst 1, 1) := by decide +kernel
theorem dX1_add_54 : decode cX1_add 54 = .ok (.isub, 1) := by decide +kernel
theorem dX1_add_55 : decode cX1_add 55 = .ok (.ireturn, 1) := by decide +kernel
theorem dX1_has_0 : decode cX1_has 0 = .ok (.iload_n 1, 1) := by decide +kernel
theorem dX1_has_1 : decode cX1_has 1 = .ok (.ifCond .lt 21, 3) := by decide +kernel
theorem dX1_has_4 : decode cX1_has 4 = .ok (.iload_n 1, 1) := by decide +kernel
theorem dX1_has_5 : decode cX1_has 5 = .ok (.aload_n 0, 1) := by decide +kernel
theorem dX1_has_6 : decode cX1_has 6 = .ok (.getfield 21, 3) := by decide +kernel
theorem dX1_has_9 : decode cX1_has 9 = .ok (.if_icmp .ge 13, 3) := by decide +kernel
theorem dX1_has_12 : decode cX1_has 12 = .ok (.iload_n 1, 1) := by decide +kernel
theorem dX1_has_13 : decode cX1_has 13 = .ok (.bipush 12, 2) := by decide +kernel
theorem dX1_has_15 : decode cX1_has 15 = .ok (.if_icmp .ge 7, 3) := by decide +kernel
theorem dX1_has_18 : decode cX1_has 18 = .ok (.iconst 1, 1) := by decide +kernel
theorem dX1_has_19 : decode cX1_has 19 = .ok (.goto 4, 3) := by decide +kernel
theorem dX1_has_22 : decode cX1_has 22 = .ok (.iconst 0, 1) := by decide +kernel
theorem dX1_has_23 : decode cX1_has 23 = .ok (.ireturn, 1) := by decide +kernel
theorem dX1_fewest_0 : decode cX1_fewest 0 = .ok (.aload_n 0, 1) := by decide +kernel
theorem dX1_fewest_1 : decode cX1_fewest 1 = .ok (.iload_n 1, 1) := by decide +kernel
theorem dX1_fewest_2 : decode cX1_fewest 2 = .ok (.invokevirtual 25, 3) := by decide +kernel
theorem dX1_fewest_5 : decode cX1_fewest 5 = .ok (.ifCond .eq 11, 3) := by decide +kernel
theorem dX1_fewest_8 : decode cX1_fewest 8 = .ok (.aload_n 0, 1) := by decide +kernel
theorem dX1_fewest_9 : decode cX1_fewest 9 = .ok (.iload_n 2, 1) := by decide +kernel
theorem dX1_fewest_10 : decode cX1_fewest 10 = .ok (.invokevirtual 25, 3) := by decide +kernel
theorem dX1_fewest_13 : decode cX1_fewest 13 = .ok (.ifCond .ne 6, 3) := by decide +kernel
theorem dX1_fewest_16 : decode cX1_fewest 16 = .ok (.bipush (-9), 2) := by decide +kernel
theorem dX1_fewest_18 : decode cX1_fewest 18 = .ok (.ireturn, 1) := by decide +kernel
theorem dX1_fewest_19 : decode cX1_fewest 19 = .ok (.iconst 0, 1) := by decide +kernel
theorem dX1_fewest_20 : decode cX1_fewest 20 = .ok (.istore 4, 2) := by decide +kernel
theorem dX1_fewest_22 : decode cX1_fewest 22 = .ok (.iload 4, 2) := by decide +kernel
theorem dX1_fewest_24 : decode cX1_fewest 24 = .ok (.bipush 12, 2) := by decide +kernel
theorem dX1_fewest_26 : decode cX1_fewest 26 = .ok (.if_icmp .ge 18, 3) := by decide +kernel
theorem dX1_fewest_29 : decode cX1_fewest 29 = .ok (.aload_n 0, 1) := by decide +kernel
theorem dX1_fewest_30 : decode cX1_fewest 30 = .ok (.getfield 18, 3) := by decide +kernel
theorem dX1_fewest_33 : decode cX1_fewest 33 = .ok (.iload 4, 2) := by decide +kernel
theorem dX1_fewest_35 : decode cX1_fewest 35 = .ok (.bipush (-9), 2) := by decide +kernel
theorem dX1_fewest_37 : decode cX1_fewest 37 = .ok (.iastore, 1) := by decide +kernel
theorem dX1_fewest_38 : decode cX1_fewest 38 = .ok (.iinc 4 1, 3) := by decide +kernel
theorem dX1_fewest_41 : decode cX1_fewest 41 = .ok (.goto (-19), 3) := by decide +kernel
theorem dX1_fewest_44 : decode cX1_fewest 44 = .ok (.aload_n 0, 1) := by decide +kernel
theorem dX1_fewest_45 : decode cX1_fewest 45 = .ok (.getfield 18, 3) := by decide +kernel
theorem dX1_fewest_48 : decode cX1_fewest 48 = .ok (.iload_n 2, 1) := by decide +kernel
theorem dX1_fewest_49 : decode cX1_fewest 49 = .ok (.iconst 0, 1) := by decide +kernel
theorem dX1_fewest_50 : decode cX1_fewest 50 = .ok (.iastore, 1) := by decide +kernel
theorem dX1_fewest_51 : decode cX1_fewest 51 = .ok (.aload_n 0, 1) := by decide +kernel
theorem dX1_fewest_52 : decode cX1_fewest 52 = .ok (.getfield 15, 3) := by decide +kernel
theorem dX1_fewest_55 : decode cX1_fewest 55 = .ok (.iload_n 1, 1) := by decide +kernel
theorem dX1_fewest_56 : decode cX1_fewest 56 = .ok (.iaload, 1) := by decide +kernel
theorem dX1_fewest_57 : decode cX1_fewest 57 = .ok (.istore 4, 2) := by decide +kernel
theorem dX1_fewest_59 : decode cX1_fewest 59 = .ok (.aload_n 0, 1) := by decide +kernel
theorem dX1_fewest_60 : decode cX1_fewest 60 = .ok (.getfield 15, 3) := by decide +kernel
theorem dX1_fewest_63 : decode cX1_fewest 63 = .ok (.iload_n 1, 1) := by decide +kernel
theorem dX1_fewest_64 : decode cX1_fewest 64 = .ok (.iload 4, 2) := by decide +kernel
theorem dX1_fewest_66 : decode cX1_fewest 66 = .ok (.iload_n 3, 1) := by decide +kernel
theorem dX1_fewest_67 : decode cX1_fewest 67 = .ok (.ior, 1) := by decide +kernel
theorem dX1_fewest_68 : decode cX1_fewest 68 = .ok (.iastore, 1) := by decide +kernel
theorem dX1_fewest_69 : decode cX1_fewest 69 = .ok (.iconst 0, 1) := by decide +kernel
theorem dX1_fewest_70 : decode cX1_fewest 70 = .ok (.istore 5, 2) := by decide +kernel
theorem dX1_fewest_72 : decode cX1_fewest 72 = .ok (.iload 5, 2) := by decide +kernel
theorem dX1_fewest_74 : decode cX1_fewest 74 = .ok (.aload_n 0, 1) := by decide +kernel
theorem dX1_fewest_75 : decode cX1_fewest 75 = .ok (.getfield 21, 3) := by decide +kernel
theorem dX1_fewest_78 : decode cX1_fewest 78 = .ok (.if_icmp .ge 15, 3) := by decide +kernel
theorem dX1_fewest_81 : decode cX1_fewest 81 = .ok (.aload_n 0, 1) := by decide +kernel
theorem dX1_fewest_82 : decode cX1_fewest 82 = .ok (.iload 5, 2) := by decide +kernel
theorem dX1_fewest_84 : decode cX1_fewest 84 = .ok (.invokevirtual 29, 3) := by decide +kernel
theorem dX1_fewest_87 : decode cX1_fewest 87 = .ok (.iinc 5 1, 3) := by decide +kernel
theorem dX1_fewest_90 : decode cX1_fewest 90 = .ok (.goto (-18), 3) := by decide +kernel
theorem dX1_fewest_93 : decode cX1_fewest 93 = .ok (.aload_n 0, 1) := by decide +kernel
theorem dX1_fewest_94 : decode cX1_fewest 94 = .ok (.getfield 15, 3) := by decide +kernel
theorem dX1_fewest_97 : decode cX1_fewest 97 = .ok (.iload_n 1, 1) := by decide +kernel
theorem dX1_fewest_98 : decode cX1_fewest 98 = .ok (.iload 4, 2) := by decide +kernel
theorem dX1_fewest_100 : decode cX1_fewest 100 = .ok (.iastore, 1) := by decide +kernel
theorem dX1_fewest_101 : decode cX1_fewest 101 = .ok (.aload_n 0, 1) := by decide +kernel
theorem dX1_fewest_102 : decode cX1_fewest 102 = .ok (.getfield 18, 3) := by decide +kernel
theorem dX1_fewest_105 : decode cX1_fewest 105 = .ok (.iload_n 1, 1) := by decide +kernel
theorem dX1_fewest_106 : decode cX1_fewest 106 = .ok (.iaload, 1) := by decide +kernel
theorem dX1_fewest_107 : decode cX1_fewest 107 = .ok (.ireturn, 1) := by decide +kernel
theorem dX1_reachBack_0 : decode cX1_reachBack 0 = .ok (.iconst 0, 1) := by decide +kernel
theorem dX1_reachBack_1 : decode cX1_reachBack 1 = .ok (.istore_n 2, 1) := by decide +kernel
theorem dX1_reachBack_2 : decode cX1_reachBack 2 = .ok (.iload_n 2, 1) := by decide +kernel
theorem dX1_reachBack_3 : decode cX1_reachBack 3 = .ok (.aload_n 0, 1) := by decide +kernel
theorem dX1_reachBack_4 : decode cX1_reachBack 4 = .ok (.getfield 21, 3) := by decide +kernel
theorem dX1_reachBack_7 : decode cX1_reachBack 7 = .ok (.if_icmp .ge 46, 3) := by decide +kernel
theorem dX1_reachBack_10 : decode cX1_reachBack 10 = .ok (.iload_n 2, 1) := by decide +kernel
theorem dX1_reachBack_11 : decode cX1_reachBack 11 = .ok (.bipush 12, 2) := by decide +kernel
theorem dX1_reachBack_13 : decode cX1_reachBack 13 = .ok (.if_icmp .ge 40, 3) := by decide +kernel
theorem dX1_reachBack_16 : decode cX1_reachBack 16 = .ok (.aload_n 0, 1) := by decide +kernel
theorem dX1_reachBack_17 : decode cX1_reachBack 17 = .ok (.getfield 18, 3) := by decide +kernel
theorem dX1_reachBack_20 : decode cX1_reachBack 20 = .ok (.iload_n 2, 1) := by decide +kernel
theorem dX1_reachBack_21 : decode cX1_reachBack 21 = .ok (.iaload, 1) := by decide +kernel
theorem dX1_reachBack_22 : decode cX1_reachBack 22 = .ok (.bipush (-9), 2) := by decide +kernel
theorem dX1_reachBack_24 : decode cX1_reachBack 24 = .ok (.if_icmp .ne 23, 3) := by decide +kernel
theorem dX1_reachBack_27 : decode cX1_reachBack 27 = .ok (.aload_n 0, 1) := by decide +kernel
theorem dX1_reachBack_28 : decode cX1_reachBack 28 = .ok (.iload_n 2, 1) := by decide +kernel
theorem dX1_reachBack_29 : decode cX1_reachBack 29 = .ok (.iload_n 1, 1) := by decide +kernel
theorem dX1_reachBack_30 : decode cX1_reachBack 30 = .ok (.invokevirtual 33, 3) := by decide +kernel
theorem dX1_reachBack_33 : decode cX1_reachBack 33 = .ok (.bipush (-9), 2) := by decide +kernel
theorem dX1_reachBack_35 : decode cX1_reachBack 35 = .ok (.if_icmp .eq 12, 3) := by decide +kernel
theorem dX1_reachBack_38 : decode cX1_reachBack 38 = .ok (.aload_n 0, 1) := by decide +kernel
theorem dX1_reachBack_39 : decode cX1_reachBack 39 = .ok (.getfield 18, 3) := by decide +kernel
theorem dX1_reachBack_42 : decode cX1_reachBack 42 = .ok (.iload_n 2, 1) := by decide +kernel
theorem dX1_reachBack_43 : decode cX1_reachBack 43 = .ok (.iload_n 1, 1) := by decide +kernel
theorem dX1_reachBack_44 : decode cX1_reachBack 44 = .ok (.iconst 1, 1) := by decide +kernel
theorem dX1_reachBack_45 : decode cX1_reachBack 45 = .ok (.iadd, 1) := by decide +kernel
theorem dX1_reachBack_46 : decode cX1_reachBack 46 = .ok (.iastore, 1) := by decide +kernel
theorem dX1_reachBack_47 : decode cX1_reachBack 47 = .ok (.iinc 2 1, 3) := by decide +kernel
theorem dX1_reachBack_50 : decode cX1_reachBack 50 = .ok (.goto (-48), 3) := by decide +kernel
theorem dX1_reachBack_53 : decode cX1_reachBack 53 = .ok (.return_, 1) := by decide +kernel
theorem dX1_firstBuilt_0 : decode cX1_firstBuilt 0 = .ok (.iconst 0, 1) := by decide +kernel
theorem dX1_firstBuilt_1 : decode cX1_firstBuilt 1 = .ok (.istore_n 3, 1) := by decide +kernel
theorem dX1_firstBuilt_2 : decode cX1_firstBuilt 2 = .ok (.iload_n 3, 1) := by decide +kernel
theorem dX1_firstBuilt_3 : decode cX1_firstBuilt 3 = .ok (.aload_n 0, 1) := by decide +kernel
theorem dX1_firstBuilt_4 : decode cX1_firstBuilt 4 = .ok (.getfield 21, 3) := by decide +kernel
theorem dX1_firstBuilt_7 : decode cX1_firstBuilt 7 = .ok (.if_icmp .ge 53, 3) := by decide +kernel
theorem dX1_firstBuilt_10 : decode cX1_firstBuilt 10 = .ok (.iload_n 3, 1) := by decide +kernel
theorem dX1_firstBuilt_11 : decode cX1_firstBuilt 11 = .ok (.bipush 12, 2) := by decide +kernel
theorem dX1_firstBuilt_13 : decode cX1_firstBuilt 13 = .ok (.if_icmp .ge 47, 3) := by decide +kernel
theorem dX1_firstBuilt_16 : decode cX1_firstBuilt 16 = .ok (.aload_n 0, 1) := by decide +kernel
theorem dX1_firstBuilt_17 : decode cX1_firstBuilt 17 = .ok (.getfield 18, 3) := by decide +kernel
theorem dX1_firstBuilt_20 : decode cX1_firstBuilt 20 = .ok (.iload_n 3, 1) := by decide +kernel
theorem dX1_firstBuilt_21 : decode cX1_firstBuilt 21 = .ok (.iaload, 1) := by decide +kernel
theorem dX1_firstBuilt_22 : decode cX1_firstBuilt 22 = .ok (.iload_n 2, 1) := by decide +kernel
theorem dX1_firstBuilt_23 : decode cX1_firstBuilt 23 = .ok (.if_icmp .ne 31, 3) := by decide +kernel
theorem dX1_firstBuilt_26 : decode cX1_firstBuilt 26 = .ok (.aload_n 0, 1) := by decide +kernel
theorem dX1_firstBuilt_27 : decode cX1_firstBuilt 27 = .ok (.iload_n 1, 1) := by decide +kernel
theorem dX1_firstBuilt_28 : decode cX1_firstBuilt 28 = .ok (.invokevirtual 25, 3) := by decide +kernel
theorem dX1_firstBuilt_31 : decode cX1_firstBuilt 31 = .ok (.ifCond .eq 23, 3) := by decide +kernel
theorem dX1_firstBuilt_34 : decode cX1_firstBuilt 34 = .ok (.aload_n 0, 1) := by decide +kernel
theorem dX1_firstBuilt_35 : decode cX1_firstBuilt 35 = .ok (.getfield 9, 3) := by decide +kernel
theorem dX1_firstBuilt_38 : decode cX1_firstBuilt 38 = .ok (.iload_n 3, 1) := by decide +kernel
theorem dX1_firstBuilt_39 : decode cX1_firstBuilt 39 = .ok (.iaload, 1) := by decide +kernel
theorem dX1_firstBuilt_40 : decode cX1_firstBuilt 40 = .ok (.aload_n 0, 1) := by decide +kernel
theorem dX1_firstBuilt_41 : decode cX1_firstBuilt 41 = .ok (.getfield 15, 3) := by decide +kernel
theorem dX1_firstBuilt_44 : decode cX1_firstBuilt 44 = .ok (.iload_n 1, 1) := by decide +kernel
theorem dX1_firstBuilt_45 : decode cX1_firstBuilt 45 = .ok (.iaload, 1) := by decide +kernel
theorem dX1_firstBuilt_46 : decode cX1_firstBuilt 46 = .ok (.iconst (-1), 1) := by decide +kernel
theorem dX1_firstBuilt_47 : decode cX1_firstBuilt 47 = .ok (.ixor, 1) := by decide +kernel
theorem dX1_firstBuilt_48 : decode cX1_firstBuilt 48 = .ok (.iand, 1) := by decide +kernel
theorem dX1_firstBuilt_49 : decode cX1_firstBuilt 49 = .ok (.ifCond .ne 5, 3) := by decide +kernel
theorem dX1_firstBuilt_52 : decode cX1_firstBuilt 52 = .ok (.iload_n 3, 1) := by decide +kernel
theorem dX1_firstBuilt_53 : decode cX1_firstBuilt 53 = .ok (.ireturn, 1) := by decide +kernel
theorem dX1_firstBuilt_54 : decode cX1_firstBuilt 54 = .ok (.iinc 3 1, 3) := by decide +kernel
theorem dX1_firstBuilt_57 : decode cX1_firstBuilt 57 = .ok (.goto (-55), 3) := by decide +kernel
theorem dX1_firstBuilt_60 : decode cX1_firstBuilt 60 = .ok (.bipush (-9), 2) := by decide +kernel
theorem dX1_firstBuilt_62 : decode cX1_firstBuilt 62 = .ok (.ireturn, 1) := by decide +kernel
theorem dX1_step_0 : decode cX1_step 0 = .ok (.iload_n 1, 1) := by decide +kernel
theorem dX1_step_1 : decode cX1_step 1 = .ok (.istore_n 3, 1) := by decide +kernel
theorem dX1_step_2 : decode cX1_step 2 = .ok (.iconst 0, 1) := by decide +kernel
theorem dX1_step_3 : decode cX1_step 3 = .ok (.istore 4, 2) := by decide +kernel
theorem dX1_step_5 : decode cX1_step 5 = .ok (.iload 4, 2) := by decide +kernel
theorem dX1_step_7 : decode cX1_step 7 = .ok (.iload_n 2, 1) := by decide +kernel
theorem dX1_step_8 : decode cX1_step 8 = .ok (.if_icmp .ge 43, 3) := by decide +kernel
theorem dX1_step_11 : decode cX1_step 11 = .ok (.iload 4, 2) := by decide +kernel
theorem dX1_step_13 : decode cX1_step 13 = .ok (.bipush 12, 2) := by decide +kernel
theorem dX1_step_15 : decode cX1_step 15 = .ok (.if_icmp .ge 36, 3) := by decide +kernel
theorem dX1_step_18 : decode cX1_step 18 = .ok (.aload_n 0, 1) := by decide +kernel
theorem dX1_step_19 : decode cX1_step 19 = .ok (.iload_n 3, 1) := by decide +kernel
theorem dX1_step_20 : decode cX1_step 20 = .ok (.invokevirtual 25, 3) := by decide +kernel
theorem dX1_step_23 : decode cX1_step 23 = .ok (.ifCond .eq 19, 3) := by decide +kernel
theorem dX1_step_26 : decode cX1_step 26 = .ok (.aload_n 0, 1) := by decide +kernel
theorem dX1_step_27 : decode cX1_step 27 = .ok (.iload_n 3, 1) := by decide +kernel
theorem dX1_step_28 : decode cX1_step 28 = .ok (.aload_n 0, 1) := by decide +kernel
theorem dX1_step_29 : decode cX1_step 29 = .ok (.getfield 18, 3) := by decide +kernel
theorem dX1_step_32 : decode cX1_step 32 = .ok (.iload_n 3, 1) := by decide +kernel
theorem dX1_step_33 : decode cX1_step 33 = .ok (.iaload, 1) := by decide +kernel
theorem dX1_step_34 : decode cX1_step 34 = .ok (.iconst 1, 1) := by decide +kernel
theorem dX1_step_35 : decode cX1_step 35 = .ok (.isub, 1) := by decide +kernel
theorem dX1_step_36 : decode cX1_step 36 = .ok (.invokevirtual 33, 3) := by decide +kernel
theorem dX1_step_39 : decode cX1_step 39 = .ok (.goto 5, 3) := by decide +kernel
theorem dX1_step_42 : decode cX1_step 42 = .ok (.bipush (-9), 2) := by decide +kernel
theorem dX1_step_44 : decode cX1_step 44 = .ok (.istore_n 3, 1) := by decide +kernel
theorem dX1_step_45 : decode cX1_step 45 = .ok (.iinc 4 1, 3) := by decide +kernel
theorem dX1_step_48 : decode cX1_step 48 = .ok (.goto (-43), 3) := by decide +kernel
theorem dX1_step_51 : decode cX1_step 51 = .ok (.iload_n 3, 1) := by decide +kernel
theorem dX1_step_52 : decode cX1_step 52 = .ok (.ireturn, 1) := by decide +kernel
theorem dX2_init_0 : decode cX2_init 0 = .ok (.aload_n 0, 1) := by decide +kernel
theorem dX2_init_1 : decode cX2_init 1 = .ok (.invokespecial 3, 3) := by decide +kernel
theorem dX2_init_4 : decode cX2_init 4 = .ok (.aload_n 0, 1) := by decide +kernel
theorem dX2_init_5 : decode cX2_init 5 = .ok (.sipush 256, 3) := by decide +kernel
theorem dX2_init_8 : decode cX2_init 8 = .ok (.newarray .int, 2) := by decide +kernel
theorem dX2_init_10 : decode cX2_init 10 = .ok (.putfield 9, 3) := by decide +kernel
theorem dX2_init_13 : decode cX2_init 13 = .ok (.aload_n 0, 1) := by decide +kernel
theorem dX2_init_14 : decode cX2_init 14 = .ok (.new 15, 3) := by decide +kernel
theorem dX2_init_17 : decode cX2_init 17 = .ok (.dup, 1) := by decide +kernel
theorem dX2_init_18 : decode cX2_init 18 = .ok (.sipush 256, 3) := by decide +kernel
theorem dX2_init_21 : decode cX2_init 21 = .ok (.invokespecial 17, 3) := by decide +kernel
theorem dX2_init_24 : decode cX2_init 24 = .ok (.putfield 20, 3) := by decide +kernel
theorem dX2_init_27 : decode cX2_init 27 = .ok (.aload_n 0, 1) := by decide +kernel
theorem dX2_init_28 : decode cX2_init 28 = .ok (.iconst 0, 1) := by decide +kernel
theorem dX2_init_29 : decode cX2_init 29 = .ok (.putfield 24, 3) := by decide +kernel
theorem dX2_init_32 : decode cX2_init 32 = .ok (.aload_n 0, 1) := by decide +kernel
theorem dX2_init_33 : decode cX2_init 33 = .ok (.iconst 0, 1) := by decide +kernel
theorem dX2_init_34 : decode cX2_init 34 = .ok (.putfield 28, 3) := by decide +kernel
theorem dX2_init_37 : decode cX2_init 37 = .ok (.aload_n 0, 1) := by decide +kernel
theorem dX2_init_38 : decode cX2_init 38 = .ok (.iconst 0, 1) := by decide +kernel
theorem dX2_init_39 : decode cX2_init 39 = .ok (.putfield 31, 3) := by decide +kernel
theorem dX2_init_42 : decode cX2_init 42 = .ok (.aload_n 0, 1) := by decide +kernel
theorem dX2_init_43 : decode cX2_init 43 = .ok (.iconst 0, 1) := by decide +kernel
theorem dX2_init_44 : decode cX2_init 44 = .ok (.putfield 34, 3) := by decide +kernel
theorem dX2_init_47 : decode cX2_init 47 = .ok (.aload_n 0, 1) := by decide +kernel
theorem dX2_init_48 : decode cX2_init 48 = .ok (.iconst 0, 1) := by decide +kernel
theorem dX2_init_49 : decode cX2_init 49 = .ok (.putfield 38, 3) := by decide +kernel
theorem dX2_init_52 : decode cX2_init 52 = .ok (.aload_n 0, 1) := by decide +kernel
theorem dX2_init_53 : decode cX2_init 53 = .ok (.iconst 0, 1) := by decide +kernel
theorem dX2_init_54 : decode cX2_init 54 = .ok (.putfield 41, 3) := by decide +kernel
theorem dX2_init_57 : decode cX2_init 57 = .ok (.aload_n 0, 1) := by decide +kernel
theorem dX2_init_58 : decode cX2_init 58 = .ok (.iconst 0, 1) := by decide +kernel
theorem dX2_init_59 : decode cX2_init 59 = .ok (.putfield 44, 3) := by decide +kernel
theorem dX2_init_62 : decode cX2_init 62 = .ok (.return_, 1) := by decide +kernel
theorem dX2_hasNumber_0 : decode cX2_hasNumber 0 = .ok (.iload_n 0, 1) := by decide +kernel
theorem dX2_hasNumber_1 : decode cX2_hasNumber 1 = .ok (.iconst 3, 1) := by decide +kernel
theorem dX2_hasNumber_2 : decode cX2_hasNumber 2 = .ok (.if_icmp .lt 9, 3) := by decide +kernel
theorem dX2_hasNumber_5 : decode cX2_hasNumber 5 = .ok (.iload_n 0, 1) := by decide +kernel
theorem dX2_hasNumber_6 : decode cX2_hasNumber 6 = .ok (.bipush 7, 2) := by decide +kernel
theorem dX2_hasNumber_8 : decode cX2_hasNumber 8 = .ok (.if_icmp .le 15, 3) := by decide +kernel
theorem dX2_hasNumber_11 : decode cX2_hasNumber 11 = .ok (.iload_n 0, 1) := by decide +kernel
theorem dX2_hasNumber_12 : decode cX2_hasNumber 12 = .ok (.bipush 11, 2) := by decide +kernel
theorem dX2_hasNumber_14 : decode cX2_hasNumber 14 = .ok (.if_icmp .lt 13, 3) := by decide +kernel
theorem dX2_hasNumber_17 : decode cX2_hasNumber 17 = .ok (.iload_n 0, 1) := by decide +kernel
theorem dX2_hasNumber_18 : decode cX2_hasNumber 18 = .ok (.bipush 15, 2) := by decide +kernel
theorem dX2_hasNumber_20 : decode cX2_hasNumber 20 = .ok (.if_icmp .gt 7, 3) := by decide +kernel
theorem dX2_hasNumber_23 : decode cX2_hasNumber 23 = .ok (.iconst 1, 1) := by decide +kernel
theorem dX2_hasNumber_24 : decode cX2_hasNumber 24 = .ok (.goto 4, 3) := by decide +kernel
theorem dX2_hasNumber_27 : decode cX2_hasNumber 27 = .ok (.iconst 0, 1) := by decide +kernel
theorem dX2_hasNumber_28 : decode cX2_hasNumber 28 = .ok (.ireturn, 1) := by decide +kernel
theorem dX2_memoryAt_0 : decode cX2_memoryAt 0 = .ok (.iload_n 1, 1) := by decide +kernel
theorem dX2_memoryAt_1 : decode cX2_memoryAt 1 = .ok (.ifCond .lt 10, 3) := by decide +kernel
theorem dX2_memoryAt_4 : decode cX2_memoryAt 4 = .ok (.iload_n 1, 1) := by decide +kernel
theorem dX2_memoryAt_5 : decode cX2_memoryAt 5 = .ok (.sipush 256, 3) := by decide +kernel
theorem dX2_memoryAt_8 : decode cX2_memoryAt 8 = .ok (.if_icmp .lt 7, 3) := by decide +kernel
theorem dX2_memoryAt_11 : decode cX2_memoryAt 11 = .ok (.iconst (-1), 1) := by decide +kernel
theorem dX2_memoryAt_12 : decode cX2_memoryAt 12 = .ok (.goto 9, 3) := by decide +kernel
theorem dX2_memoryAt_15 : decode cX2_memoryAt 15 = .ok (.aload_n 0, 1) := by decide +kernel
theorem dX2_memoryAt_16 : decode cX2_memoryAt 16 = .ok (.getfield 9, 3) := by decide +kernel
theorem dX2_memoryAt_19 : decode cX2_memoryAt 19 = .ok (.iload_n 1, 1) := by decide +kernel
theorem dX2_memoryAt_20 : decode cX2_memoryAt 20 = .ok (.iaload, 1) := by decide +kernel
theorem dX2_memoryAt_21 : decode cX2_memoryAt 21 = .ok (.ireturn, 1) := by decide +kernel
theorem dX2_builds_0 : decode cX2_builds 0 = .ok (.aload_n 0, 1) := by decide +kernel
theorem dX2_builds_1 : decode cX2_builds 1 = .ok (.aload_n 1, 1) := by decide +kernel
theorem dX2_builds_2 : decode cX2_builds 2 = .ok (.aload_n 2, 1) := by decide +kernel
theorem dX2_builds_3 : decode cX2_builds 3 = .ok (.invokevirtual 47, 3) := by decide +kernel
theorem dX2_builds_6 : decode cX2_builds 6 = .ok (.aload_n 0, 1) := by decide +kernel
theorem dX2_builds_7 : decode cX2_builds 7 = .ok (.getfield 44, 3) := by decide +kernel
theorem dX2_builds_10 : decode cX2_builds 10 = .ok (.ifCond .ne 17, 3) := by decide +kernel
theorem dX2_builds_13 : decode cX2_builds 13 = .ok (.aload_n 0, 1) := by decide +kernel
theorem dX2_builds_14 : decode cX2_builds 14 = .ok (.getfield 20, 3) := by decide +kernel
theorem dX2_builds_17 : decode cX2_builds 17 = .ok (.getfield 51, 3) := by decide +kernel
theorem dX2_builds_20 : decode cX2_builds 20 = .ok (.ifCond .le 7, 3) := by decide +kernel
theorem dX2_builds_23 : decode cX2_builds 23 = .ok (.iconst 1, 1) := by decide +kernel
theorem dX2_builds_24 : decode cX2_builds 24 = .ok (.goto 4, 3) := by decide +kernel
theorem dX2_builds_27 : decode cX2_builds 27 = .ok (.iconst 0, 1) := by decide +kernel
theorem dX2_builds_28 : decode cX2_builds 28 = .ok (.ireturn, 1) := by decide +kernel
theorem dX2_goThrough_0 : decode cX2_goThrough 0 = .ok (.aload_n 0, 1) := by decide +kernel
theorem dX2_goThrough_1 : decode cX2_goThrough 1 = .ok (.aload_n 1, 1) := by decide +kernel
theorem dX2_goThrough_2 : decode cX2_goThrough 2 = .ok (.invokevirtual 54, 3) := by decide +kernel
theorem dX2_goThrough_5 : decode cX2_goThrough 5 = .ok (.iconst 1, 1) := by decide +kernel
theorem dX2_goThrough_6 : decode cX2_goThrough 6 = .ok (.istore_n 3, 1) := by decide +kernel
theorem dX2_goThrough_7 : decode cX2_goThrough 7 = .ok (.iconst 0, 1) := by decide +kernel
theorem dX2_goThrough_8 : decode cX2_goThrough 8 = .ok (.istore 4, 2) := by decide +kernel
theorem dX2_goThrough_10 : decode cX2_goThrough 10 = .ok (.iload_n 3, 1) := by decide +kernel
theorem dX2_goThrough_11 : decode cX2_goThrough 11 = .ok (.ifCond .eq 84, 3) := by decide +kernel
theorem dX2_goThrough_14 : decode cX2_goThrough 14 = .ok (.iload 4, 2) := by decide +kernel
theorem dX2_goThrough_16 : decode cX2_goThrough 16 = .ok (.sipush 5000, 3) := by decide +kernel
theorem dX2_goThrough_19 : decode cX2_goThrough 19 = .ok (.if_icmp .gt 76, 3) := by decide +kernel
theorem dX2_goThrough_22 : decode cX2_goThrough 22 = .ok (.aload_n 0, 1) := by decide +kernel
theorem dX2_goThrough_23 : decode cX2_goThrough 23 = .ok (.getfield 9, 3) := by decide +kernel
theorem dX2_goThrough_26 : decode cX2_goThrough 26 = .ok (.aload_n 0, 1) := by decide +kernel
theorem dX2_goThrough_27 : decode cX2_goThrough 27 = .ok (.getfield 31, 3) := by decide +kernel
theorem dX2_goThrough_30 : decode cX2_goThrough 30 = .ok (.sipush 255, 3) := by decide +kernel
theorem dX2_goThrough_33 : decode cX2_goThrough 33 = .ok (.iand, 1) := by decide +kernel
theorem dX2_goThrough_34 : decode cX2_goThrough 34 = .ok (.iaload, 1) := by decide +kernel
theorem dX2_goThrough_35 : decode cX2_goThrough 35 = .ok (.istore 5, 2) := by decide +kernel
theorem dX2_goThrough_37 : decode cX2_goThrough 37 = .ok (.aload_n 0, 1) := by decide +kernel
theorem dX2_goThrough_38 : decode cX2_goThrough 38 = .ok (.aload_n 0, 1) := by decide +kernel
theorem dX2_goThrough_39 : decode cX2_goThrough 39 = .ok (.iload 5, 2) := by decide +kernel
theorem dX2_goThrough_41 : decode cX2_goThrough 41 = .ok (.invokevirtual 58, 3) := by decide +kernel
theorem dX2_goThrough_44 : decode cX2_goThrough 44 = .ok (.putfield 44, 3) := by decide +kernel
theorem dX2_goThrough_47 : decode cX2_goThrough 47 = .ok (.aload_n 0, 1) := by decide +kernel
theorem dX2_goThrough_48 : decode cX2_goThrough 48 = .ok (.getfield 44, 3) := by decide +kernel
theorem dX2_goThrough_51 : decode cX2_goThrough 51 = .ok (.ifCond .ne 12, 3) := by decide +kernel
theorem dX2_goThrough_54 : decode cX2_goThrough 54 = .ok (.iload 5, 2) := by decide +kernel
theorem dX2_goThrough_56 : decode cX2_goThrough 56 = .ok (.ifCond .eq 7, 3) := by decide +kernel
theorem dX2_goThrough_59 : decode cX2_goThrough 59 = .ok (.iconst 1, 1) := by decide +kernel
theorem dX2_goThrough_60 : decode cX2_goThrough 60 = .ok (.goto 4, 3) := by decide +kernel
theorem dX2_goThrough_63 : decode cX2_goThrough 63 = .ok (.iconst 0, 1) := by decide +kernel
theorem dX2_goThrough_64 : decode cX2_goThrough 64 = .ok (.istore_n 3, 1) := by decide +kernel
theorem dX2_goThrough_65 : decode cX2_goThrough 65 = .ok (.aload_n 0, 1) := by decide +kernel
theorem dX2_goThrough_66 : decode cX2_goThrough 66 = .ok (.getfield 44, 3) := by decide +kernel
theorem dX2_goThrough_69 : decode cX2_goThrough 69 = .ok (.ifCond .ne 20, 3) := by decide +kernel
theorem dX2_goThrough_72 : decode cX2_goThrough 72 = .ok (.aload_n 0, 1) := by decide +kernel
theorem dX2_goThrough_73 : decode cX2_goThrough 73 = .ok (.iload 5, 2) := by decide +kernel
theorem dX2_goThrough_75 : decode cX2_goThrough 75 = .ok (.aload_n 2, 1) := by decide +kernel
theorem dX2_goThrough_76 : decode cX2_goThrough 76 = .ok (.invokevirtual 62, 3) := by decide +kernel
theorem dX2_goThrough_79 : decode cX2_goThrough 79 = .ok (.aload_n 0, 1) := by decide +kernel
theorem dX2_goThrough_80 : decode cX2_goThrough 80 = .ok (.dup, 1) := by decide +kernel
theorem dX2_goThrough_81 : decode cX2_goThrough 81 = .ok (.getfield 38, 3) := by decide +kernel
theorem dX2_goThrough_84 : decode cX2_goThrough 84 = .ok (.iconst 1, 1) := by decide +kernel
theorem dX2_goThrough_85 : decode cX2_goThrough 85 = .ok (.iadd, 1) := by decide +kernel
theorem dX2_goThrough_86 : decode cX2_goThrough 86 = .ok (.putfield 38, 3) := by decide +kernel
theorem dX2_goThrough_89 : decode cX2_goThrough 89 = .ok (.iinc 4 1, 3) := by decide +kernel
theorem dX2_goThrough_92 : decode cX2_goThrough 92 = .ok (.goto (-82), 3) := by decide +kernel
theorem dX2_goThrough_95 : decode cX2_goThrough 95 = .ok (.return_, 1) := by decide +kernel
theorem dX2_load_0 : decode cX2_load 0 = .ok (.iconst 0, 1) := by decide +kernel
theorem dX2_load_1 : decode cX2_load 1 = .ok (.istore_n 2, 1) := by decide +kernel
theorem dX2_load_2 : decode cX2_load 2 = .ok (.iload_n 2, 1) := by decide +kernel
theorem dX2_load_3 : decode cX2_load 3 = .ok (.sipush 256, 3) := by decide +kernel
theorem dX2_load_6 : decode cX2_load 6 = .ok (.if_icmp .ge 32, 3) := by decide +kernel
theorem dX2_load_9 : decode cX2_load 9 = .ok (.aload_n 0, 1) := by decide +kernel
theorem dX2_load_10 : decode cX2_load 10 = .ok (.getfield 9, 3) := by decide +kernel
theorem dX2_load_13 : decode cX2_load 13 = .ok (.iload_n 2, 1) := by decide +kernel
theorem dX2_load_14 : decode cX2_load 14 = .ok (.iload_n 2, 1) := by decide +kernel
theorem dX2_load_15 : decode cX2_load 15 = .ok (.aload_n 1, 1) := by decide +kernel
theorem dX2_load_16 : decode cX2_load 16 = .ok (.getfield 51, 3) := by decide +kernel
theorem dX2_load_19 : decode cX2_load 19 = .ok (.if_icmp .ge 11, 3) := by decide +kernel
theorem dX2_load_22 : decode cX2_load 22 = .ok (.aload_n 1, 1) := by decide +kernel
theorem dX2_load_23 : decode cX2_load 23 = .ok (.iload_n 2, 1) := by decide +kernel
theorem dX2_load_24 : decode cX2_load 24 = .ok (.invokevirtual 66, 3) := by decide +kernel
theorem dX2_load_27 : decode cX2_load 27 = .ok (.goto 4, 3) := by decide +kernel
theorem dX2_load_30 : decode cX2_load 30 = .ok (.iconst 0, 1) := by decide +kernel
theorem dX2_load_31 : decode cX2_load 31 = .ok (.iastore, 1) := by decide +kernel
theorem dX2_load_32 : decode cX2_load 32 = .ok (.iinc 2 1, 3) := by decide +kernel
theorem dX2_load_35 : decode cX2_load 35 = .ok (.goto (-33), 3) := by decide +kernel
theorem dX2_load_38 : decode cX2_load 38 = .ok (.aload_n 0, 1) := by decide +kernel
theorem dX2_load_39 : decode cX2_load 39 = .ok (.getfield 20, 3) := by decide +kernel
theorem dX2_load_42 : decode cX2_load 42 = .ok (.iconst 0, 1) := by decide +kernel
theorem dX2_load_43 : decode cX2_load 43 = .ok (.putfield 51, 3) := by decide +kernel
theorem dX2_load_46 : decode cX2_load 46 = .ok (.aload_n 0, 1) := by decide +kernel
theorem dX2_load_47 : decode cX2_load 47 = .ok (.iconst 0, 1) := by decide +kernel
theorem dX2_load_48 : decode cX2_load 48 = .ok (.putfield 24, 3) := by decide +kernel
theorem dX2_load_51 : decode cX2_load 51 = .ok (.aload_n 0, 1) := by decide +kernel
theorem dX2_load_52 : decode cX2_load 52 = .ok (.iconst 0, 1) := by decide +kernel
theorem dX2_load_53 : decode cX2_load 53 = .ok (.putfield 28, 3) := by decide +kernel
theorem dX2_load_56 : decode cX2_load 56 = .ok (.aload_n 0, 1) := by decide +kernel
theorem dX2_load_57 : decode cX2_load 57 = .ok (.iconst 0, 1) := by decide +kernel
theorem dX2_load_58 : decode cX2_load 58 = .ok (.putfield 31, 3) := by decide +kernel
theorem dX2_load_61 : decode cX2_load 61 = .ok (.aload_n 0, 1) := by decide +kernel
theorem dX2_load_62 : decode cX2_load 62 = .ok (.iconst 0, 1) := by decide +kernel
theorem dX2_load_63 : decode cX2_load 63 = .ok (.putfield 34, 3) := by decide +kernel
theorem dX2_load_66 : decode cX2_load 66 = .ok (.aload_n 0, 1) := by decide +kernel
theorem dX2_load_67 : decode cX2_load 67 = .ok (.iconst 0, 1) := by decide +kernel
theorem dX2_load_68 : decode cX2_load 68 = .ok (.putfield 38, 3) := by decide +kernel
theorem dX2_load_71 : decode cX2_load 71 = .ok (.aload_n 0, 1) := by decide +kernel
theorem dX2_load_72 : decode cX2_load 72 = .ok (.iconst 0, 1) := by decide +kernel
theorem dX2_load_73 : decode cX2_load 73 = .ok (.putfield 41, 3) := by decide +kernel
theorem dX2_load_76 : decode cX2_load 76 = .ok (.aload_n 0, 1) := by decide +kernel
theorem dX2_load_77 : decode cX2_load 77 = .ok (.iconst 0, 1) := by decide +kernel
theorem dX2_load_78 : decode cX2_load 78 = .ok (.putfield 44, 3) := by decide +kernel
theorem dX2_load_81 : decode cX2_load 81 = .ok (.return_, 1) := by decide +kernel
theorem dX2_harmOf_0 : decode cX2_harmOf 0 = .ok (.iload_n 1, 1) := by decide +kernel
theorem dX2_harmOf_1 : decode cX2_harmOf 1 = .ok (.bipush 15, 2) := by decide +kernel
theorem dX2_harmOf_3 : decode cX2_harmOf 3 = .ok (.if_icmp .le 5, 3) := by decide +kernel
theorem dX2_harmOf_6 : decode cX2_harmOf 6 = .ok (.iconst 1, 1) := by decide +kernel
theorem dX2_harmOf_7 : decode cX2_harmOf 7 = .ok (.ireturn, 1) := by decide +kernel
theorem dX2_harmOf_8 : decode cX2_harmOf 8 = .ok (.aload_n 0, 1) := by decide +kernel
theorem dX2_harmOf_9 : decode cX2_harmOf 9 = .ok (.getfield 38, 3) := by decide +kernel
theorem dX2_harmOf_12 : decode cX2_harmOf 12 = .ok (.sipush 5000, 3) := by decide +kernel
theorem dX2_harmOf_15 : decode cX2_harmOf 15 = .ok (.if_icmp .lt 5, 3) := by decide +kernel
theorem dX2_harmOf_18 : decode cX2_harmOf 18 = .ok (.iconst 3, 1) := by decide +kernel
theorem dX2_harmOf_19 : decode cX2_harmOf 19 = .ok (.ireturn, 1) := by decide +kernel
theorem dX2_harmOf_20 : decode cX2_harmOf 20 = .ok (.iload_n 1, 1) := by decide +kernel
theorem dX2_harmOf_21 : decode cX2_harmOf 21 = .ok (.iconst 2, 1) := by decide +kernel
theorem dX2_harmOf_22 : decode cX2_harmOf 22 = .ok (.if_icmp .ne 20, 3) := by decide +kernel
theorem dX2_harmOf_25 : decode cX2_harmOf 25 = .ok (.aload_n 0, 1) := by decide +kernel
theorem dX2_harmOf_26 : decode cX2_harmOf 26 = .ok (.getfield 20, 3) := by decide +kernel
theorem dX2_harmOf_29 : decode cX2_harmOf 29 = .ok (.getfield 51, 3) := by decide +kernel
theorem dX2_harmOf_32 : decode cX2_harmOf 32 = .ok (.sipush 256, 3) := by decide +kernel
theorem dX2_harmOf_35 : decode cX2_harmOf 35 = .ok (.if_icmp .lt 7, 3) := by decide +kernel
theorem dX2_harmOf_38 : decode cX2_harmOf 38 = .ok (.iconst 2, 1) := by decide +kernel
theorem dX2_harmOf_39 : decode cX2_harmOf 39 = .ok (.goto 4, 3) := by decide +kernel
theorem dX2_harmOf_42 : decode cX2_harmOf 42 = .ok (.iconst 0, 1) := by decide +kernel
theorem dX2_harmOf_43 : decode cX2_harmOf 43 = .ok (.ireturn, 1) := by decide +kernel
theorem dX2_obey_0 : decode cX2_obey 0 = .ok (.aload_n 0, 1) := by decide +kernel
theorem dX2_obey_1 : decode cX2_obey 1 = .ok (.getfield 9, 3) := by decide +kernel
theorem dX2_obey_4 : decode cX2_obey 4 = .ok (.aload_n 0, 1) := by decide +kernel
theorem dX2_obey_5 : decode cX2_obey 5 = .ok (.getfield 31, 3) := by decide +kernel
theorem dX2_obey_8 : decode cX2_obey 8 = .ok (.iconst 1, 1) := by decide +kernel
theorem dX2_obey_9 : decode cX2_obey 9 = .ok (.iadd, 1) := by decide +kernel
theorem dX2_obey_10 : decode cX2_obey 10 = .ok (.sipush 255, 3) := by decide +kernel
theorem dX2_obey_13 : decode cX2_obey 13 = .ok (.iand, 1) := by decide +kernel
theorem dX2_obey_14 : decode cX2_obey 14 = .ok (.iaload, 1) := by decide +kernel
theorem dX2_obey_15 : decode cX2_obey 15 = .ok (.sipush 255, 3) := by decide +kernel
theorem dX2_obey_18 : decode cX2_obey 18 = .ok (.iand, 1) := by decide +kernel
theorem dX2_obey_19 : decode cX2_obey 19 = .ok (.istore_n 3, 1) := by decide +kernel
theorem dX2_obey_20 : decode cX2_obey 20 = .ok (.aload_n 0, 1) := by decide +kernel
theorem dX2_obey_21 : decode cX2_obey 21 = .ok (.getfield 31, 3) := by decide +kernel
theorem dX2_obey_24 : decode cX2_obey 24 = .ok (.iload_n 1, 1) := by decide +kernel
theorem dX2_obey_25 : decode cX2_obey 25 = .ok (.invokestatic 69, 3) := by decide +kernel
theorem dX2_obey_28 : decode cX2_obey 28 = .ok (.ifCond .eq 7, 3) := by decide +kernel
theorem dX2_obey_31 : decode cX2_obey 31 = .ok (.iconst 2, 1) := by decide +kernel
theorem dX2_obey_32 : decode cX2_obey 32 = .ok (.goto 4, 3) := by decide +kernel
theorem dX2_obey_35 : decode cX2_obey 35 = .ok (.iconst 1, 1) := by decide +kernel
theorem dX2_obey_36 : decode cX2_obey 36 = .ok (.iadd, 1) := by decide +kernel
theorem dX2_obey_37 : decode cX2_obey 37 = .ok (.istore 4, 2) := by decide +kernel
theorem dX2_obey_39 : decode cX2_obey 39 = .ok (.iload_n 1, 1) := by decide +kernel
theorem dX2_obey_40 : decode cX2_obey 40 = .ok (.tableswitch 325 1 15 #[76, 91, 116, 124, 137, 150, 172, 194, 214, 234, 245, 251, 269, 287, 304], 76) := by decide +kernel
theorem dX2_obey_116 : decode cX2_obey 116 = .ok (.aload_n 0, 1) := by decide +kernel
theorem dX2_obey_117 : decode cX2_obey 117 = .ok (.aload_n 2, 1) := by decide +kernel
theorem dX2_obey_118 : decode cX2_obey 118 = .ok (.aload_n 0, 1) := by decide +kernel
theorem dX2_obey_119 : decode cX2_obey 119 = .ok (.getfield 41, 3) := by decide +kernel
theorem dX2_obey_122 : decode cX2_obey 122 = .ok (.invokevirtual 73, 3) := by decide +kernel
theorem dX2_obey_125 : decode cX2_obey 125 = .ok (.invokevirtual 76, 3) := by decide +kernel
theorem dX2_obey_128 : decode cX2_obey 128 = .ok (.goto 237, 3) := by decide +kernel
theorem dX2_obey_131 : decode cX2_obey 131 = .ok (.aload_n 0, 1) := by decide +kernel
theorem dX2_obey_132 : decode cX2_obey 132 = .ok (.getfield 20, 3) := by decide +kernel
theorem dX2_obey_135 : decode cX2_obey 135 = .ok (.aload_n 0, 1) := by decide +kernel
theorem dX2_obey_136 : decode cX2_obey 136 = .ok (.getfield 24, 3) := by decide +kernel
theorem dX2_obey_139 : decode cX2_obey 139 = .ok (.iconst 0, 1) := by decide +kernel
theorem dX2_obey_140 : decode cX2_obey 140 = .ok (.aload_n 0, 1) := by decide +kernel
theorem dX2_obey_141 : decode cX2_obey 141 = .ok (.getfield 41, 3) := by decide +kernel
theorem dX2_obey_144 : decode cX2_obey 144 = .ok (.iconst 1, 1) := by decide +kernel
theorem dX2_obey_145 : decode cX2_obey 145 = .ok (.isub, 1) := by decide +kernel
theorem dX2_obey_146 : decode cX2_obey 146 = .ok (.invokestatic 79, 3) := by decide +kernel
theorem dX2_obey_149 : decode cX2_obey 149 = .ok (.invokevirtual 85, 3) := by decide +kernel
theorem dX2_obey_152 : decode cX2_obey 152 = .ok (.pop, 1) := by decide +kernel
theorem dX2_obey_153 : decode cX2_obey 153 = .ok (.goto 212, 3) := by decide +kernel
theorem dX2_obey_156 : decode cX2_obey 156 = .ok (.aload_n 0, 1) := by decide +kernel
theorem dX2_obey_157 : decode cX2_obey 157 = .ok (.iload_n 3, 1) := by decide +kernel
theorem dX2_obey_158 : decode cX2_obey 158 = .ok (.putfield 24, 3) := by decide +kernel
theorem dX2_obey_161 : decode cX2_obey 161 = .ok (.goto 204, 3) := by decide +kernel
theorem dX2_obey_164 : decode cX2_obey 164 = .ok (.aload_n 0, 1) := by decide +kernel
theorem dX2_obey_165 : decode cX2_obey 165 = .ok (.aload_n 0, 1) := by decide +kernel
theorem dX2_obey_166 : decode cX2_obey 166 = .ok (.getfield 9, 3) := by decide +kernel
theorem dX2_obey_169 : decode cX2_obey 169 = .ok (.iload_n 3, 1) := by decide +kernel
theorem dX2_obey_170 : decode cX2_obey 170 = .ok (.iaload, 1) := by decide +kernel
theorem dX2_obey_171 : decode cX2_obey 171 = .ok (.putfield 24, 3) := by decide +kernel
theorem dX2_obey_174 : decode cX2_obey 174 = .ok (.goto 191, 3) := by decide +kernel
theorem dX2_obey_177 : decode cX2_obey 177 = .ok (.aload_n 0, 1) := by decide +kernel
theorem dX2_obey_178 : decode cX2_obey 178 = .ok (.getfield 9, 3) := by decide +kernel
theorem dX2_obey_181 : decode cX2_obey 181 = .ok (.iload_n 3, 1) := by decide +kernel
theorem dX2_obey_182 : decode cX2_obey 182 = .ok (.aload_n 0, 1) := by decide +kernel
theorem dX2_obey_183 : decode cX2_obey 183 = .ok (.getfield 24, 3) := by decide +kernel
theorem dX2_obey_186 : decode cX2_obey 186 = .ok (.iastore, 1) := by decide +kernel
theorem dX2_obey_187 : decode cX2_obey 187 = .ok (.goto 178, 3) := by decide +kernel
theorem dX2_obey_190 : decode cX2_obey 190 = .ok (.aload_n 0, 1) := by decide +kernel
theorem dX2_obey_191 : decode cX2_obey 191 = .ok (.aload_n 0, 1) := by decide +kernel
theorem dX2_obey_192 : decode cX2_obey 192 = .ok (.getfield 24, 3) := by decide +kernel
theorem dX2_obey_195 : decode cX2_obey 195 = .ok (.aload_n 0, 1) := by decide +kernel
theorem dX2_obey_196 : decode cX2_obey 196 = .ok (.getfield 9, 3) := by decide +kernel
theorem dX2_obey_199 : decode cX2_obey 199 = .ok (.iload_n 3, 1) := by decide +kernel
theorem dX2_obey_200 : decode cX2_obey 200 = .ok (.iaload, 1) := by decide +kernel
theorem dX2_obey_201 : decode cX2_obey 201 = .ok (.iadd, 1) := by decide +kernel
theorem dX2_obey_202 : decode cX2_obey 202 = .ok (.sipush 255, 3) := by decide +kernel
theorem dX2_obey_205 : decode cX2_obey 205 = .ok (.iand, 1) := by decide +kernel
theorem dX2_obey_206 : decode cX2_obey 206 = .ok (.putfield 24, 3) := by decide +kernel
theorem dX2_obey_209 : decode cX2_obey 209 = .ok (.goto 156, 3) := by decide +kernel
theorem dX2_obey_212 : decode cX2_obey 212 = .ok (.aload_n 0, 1) := by decide +kernel
theorem dX2_obey_213 : decode cX2_obey 213 = .ok (.aload_n 0, 1) := by decide +kernel
theorem dX2_obey_214 : decode cX2_obey 214 = .ok (.getfield 24, 3) := by decide +kernel
theorem dX2_obey_217 : decode cX2_obey 217 = .ok (.aload_n 0, 1) := by decide +kernel
theorem dX2_obey_218 : decode cX2_obey 218 = .ok (.getfield 9, 3) := by decide +kernel
theorem dX2_obey_221 : decode cX2_obey 221 = .ok (.iload_n 3, 1) := by decide +kernel
theorem dX2_obey_222 : decode cX2_obey 222 = .ok (.iaload, 1) := by decide +kernel
theorem dX2_obey_223 : decode cX2_obey 223 = .ok (.isub, 1) := by decide +kernel
theorem dX2_obey_224 : decode cX2_obey 224 = .ok (.sipush 255, 3) := by decide +kernel
theorem dX2_obey_227 : decode cX2_obey 227 = .ok (.iand, 1) := by decide +kernel
theorem dX2_obey_228 : decode cX2_obey 228 = .ok (.putfield 24, 3) := by decide +kernel
theorem dX2_obey_231 : decode cX2_obey 231 = .ok (.goto 134, 3) := by decide +kernel
theorem dX2_obey_234 : decode cX2_obey 234 = .ok (.aload_n 0, 1) := by decide +kernel
theorem dX2_obey_235 : decode cX2_obey 235 = .ok (.aload_n 0, 1) := by decide +kernel
theorem dX2_obey_236 : decode cX2_obey 236 = .ok (.getfield 9, 3) := by decide +kernel
theorem dX2_obey_239 : decode cX2_obey 239 = .ok (.aload_n 0, 1) := by decide +kernel
theorem dX2_obey_240 : decode cX2_obey 240 = .ok (.getfield 28, 3) := by decide +kernel
theorem dX2_obey_243 : decode cX2_obey 243 = .ok (.sipush 255, 3) := by decide +kernel
theorem dX2_obey_246 : decode cX2_obey 246 = .ok (.iand, 1) := by decide +kernel
theorem dX2_obey_247 : decode cX2_obey 247 = .ok (.iaload, 1) := by decide +kernel
theorem dX2_obey_248 : decode cX2_obey 248 = .ok (.putfield 24, 3) := by decide +kernel
theorem dX2_obey_251 : decode cX2_obey 251 = .ok (.goto 114, 3) := by decide +kernel
theorem dX2_obey_254 : decode cX2_obey 254 = .ok (.aload_n 0, 1) := by decide +kernel
theorem dX2_obey_255 : decode cX2_obey 255 = .ok (.getfield 9, 3) := by decide +kernel
theorem dX2_obey_258 : decode cX2_obey 258 = .ok (.aload_n 0, 1) := by decide +kernel
theorem dX2_obey_259 : decode cX2_obey 259 = .ok (.getfield 28, 3) := by decide +kernel
theorem dX2_obey_262 : decode cX2_obey 262 = .ok (.sipush 255, 3) := by decide +kernel
theorem dX2_obey_265 : decode cX2_obey 265 = .ok (.iand, 1) := by decide +kernel
theorem dX2_obey_266 : decode cX2_obey 266 = .ok (.aload_n 0, 1) := by decide +kernel
theorem dX2_obey_267 : decode cX2_obey 267 = .ok (.getfield 24, 3) := by decide +kernel
theorem dX2_obey_270 : decode cX2_obey 270 = .ok (.iastore, 1) := by decide +kernel
theorem dX2_obey_271 : decode cX2_obey 271 = .ok (.goto 94, 3) := by decide +kernel
theorem dX2_obey_274 : decode cX2_obey 274 = .ok (.aload_n 0, 1) := by decide +kernel
theorem dX2_obey_275 : decode cX2_obey 275 = .ok (.aload_n 0, 1) := by decide +kernel
theorem dX2_obey_276 : decode cX2_obey 276 = .ok (.getfield 24, 3) := by decide +kernel
theorem dX2_obey_279 : decode cX2_obey 279 = .ok (.putfield 28, 3) := by decide +kernel
theorem dX2_obey_282 : decode cX2_obey 282 = .ok (.goto 83, 3) := by decide +kernel
theorem dX2_obey_285 : decode cX2_obey 285 = .ok (.iload_n 3, 1) := by decide +kernel
theorem dX2_obey_286 : decode cX2_obey 286 = .ok (.istore 4, 2) := by decide +kernel
theorem dX2_obey_288 : decode cX2_obey 288 = .ok (.goto 77, 3) := by decide +kernel
theorem dX2_obey_291 : decode cX2_obey 291 = .ok (.aload_n 0, 1) := by decide +kernel
theorem dX2_obey_292 : decode cX2_obey 292 = .ok (.getfield 24, 3) := by decide +kernel
theorem dX2_obey_295 : decode cX2_obey 295 = .ok (.ifCond .ne 7, 3) := by decide +kernel
theorem dX2_obey_298 : decode cX2_obey 298 = .ok (.iload_n 3, 1) := by decide +kernel
theorem dX2_obey_299 : decode cX2_obey 299 = .ok (.goto 5, 3) := by decide +kernel
theorem dX2_obey_302 : decode cX2_obey 302 = .ok (.iload 4, 2) := by decide +kernel
theorem dX2_obey_304 : decode cX2_obey 304 = .ok (.istore 4, 2) := by decide +kernel
theorem dX2_obey_306 : decode cX2_obey 306 = .ok (.goto 59, 3) := by decide +kernel
theorem dX2_obey_309 : decode cX2_obey 309 = .ok (.aload_n 0, 1) := by decide +kernel
theorem dX2_obey_310 : decode cX2_obey 310 = .ok (.getfield 34, 3) := by decide +kernel
theorem dX2_obey_313 : decode cX2_obey 313 = .ok (.ifCond .eq 7, 3) := by decide +kernel
theorem dX2_obey_316 : decode cX2_obey 316 = .ok (.iload_n 3, 1) := by decide +kernel
theorem dX2_obey_317 : decode cX2_obey 317 = .ok (.goto 5, 3) := by decide +kernel
theorem dX2_obey_320 : decode cX2_obey 320 = .ok (.iload 4, 2) := by decide +kernel
theorem dX2_obey_322 : decode cX2_obey 322 = .ok (.istore 4, 2) := by decide +kernel
theorem dX2_obey_324 : decode cX2_obey 324 = .ok (.goto 41, 3) := by decide +kernel
theorem dX2_obey_327 : decode cX2_obey 327 = .ok (.aload_n 0, 1) := by decide +kernel
theorem dX2_obey_328 : decode cX2_obey 328 = .ok (.aload_n 0, 1) := by decide +kernel
theorem dX2_obey_329 : decode cX2_obey 329 = .ok (.getfield 24, 3) := by decide +kernel
theorem dX2_obey_332 : decode cX2_obey 332 = .ok (.iload_n 3, 1) := by decide +kernel
theorem dX2_obey_333 : decode cX2_obey 333 = .ok (.iadd, 1) := by decide +kernel
theorem dX2_obey_334 : decode cX2_obey 334 = .ok (.sipush 255, 3) := by decide +kernel
theorem dX2_obey_337 : decode cX2_obey 337 = .ok (.iand, 1) := by decide +kernel
theorem dX2_obey_338 : decode cX2_obey 338 = .ok (.putfield 24, 3) := by decide +kernel
theorem dX2_obey_341 : decode cX2_obey 341 = .ok (.goto 24, 3) := by decide +kernel
theorem dX2_obey_344 : decode cX2_obey 344 = .ok (.aload_n 0, 1) := by decide +kernel
theorem dX2_obey_345 : decode cX2_obey 345 = .ok (.getfield 24, 3) := by decide +kernel
theorem dX2_obey_348 : decode cX2_obey 348 = .ok (.sipush 128, 3) := by decide +kernel
theorem dX2_obey_351 : decode cX2_obey 351 = .ok (.if_icmp .lt 7, 3) := by decide +kernel
theorem dX2_obey_354 : decode cX2_obey 354 = .ok (.iload_n 3, 1) := by decide +kernel
theorem dX2_obey_355 : decode cX2_obey 355 = .ok (.goto 5, 3) := by decide +kernel
theorem dX2_obey_358 : decode cX2_obey 358 = .ok (.iload 4, 2) := by decide +kernel
theorem dX2_obey_360 : decode cX2_obey 360 = .ok (.istore 4, 2) := by decide +kernel
theorem dX2_obey_362 : decode cX2_obey 362 = .ok (.goto 3, 3) := by decide +kernel
theorem dX2_obey_365 : decode cX2_obey 365 = .ok (.aload_n 0, 1) := by decide +kernel
theorem dX2_obey_366 : decode cX2_obey 366 = .ok (.iload 4, 2) := by decide +kernel
theorem dX2_obey_368 : decode cX2_obey 368 = .ok (.sipush 255, 3) := by decide +kernel
theorem dX2_obey_371 : decode cX2_obey 371 = .ok (.iand, 1) := by decide +kernel
theorem dX2_obey_372 : decode cX2_obey 372 = .ok (.putfield 31, 3) := by decide +kernel
theorem dX2_obey_375 : decode cX2_obey 375 = .ok (.return_, 1) := by decide +kernel
theorem dX2_take_0 : decode cX2_take 0 = .ok (.iload_n 1, 1) := by decide +kernel
theorem dX2_take_1 : decode cX2_take 1 = .ok (.iconst (-1), 1) := by decide +kernel
theorem dX2_take_2 : decode cX2_take 2 = .ok (.if_icmp .ne 16, 3) := by decide +kernel
theorem dX2_take_5 : decode cX2_take 5 = .ok (.aload_n 0, 1) := by decide +kernel
theorem dX2_take_6 : decode cX2_take 6 = .ok (.iconst 0, 1) := by decide +kernel
theorem dX2_take_7 : decode cX2_take 7 = .ok (.putfield 24, 3) := by decide +kernel
theorem dX2_take_10 : decode cX2_take 10 = .ok (.aload_n 0, 1) := by decide +kernel
theorem dX2_take_11 : decode cX2_take 11 = .ok (.iconst 1, 1) := by decide +kernel
theorem dX2_take_12 : decode cX2_take 12 = .ok (.putfield 34, 3) := by decide +kernel
theorem dX2_take_15 : decode cX2_take 15 = .ok (.goto 18, 3) := by decide +kernel
theorem dX2_take_18 : decode cX2_take 18 = .ok (.aload_n 0, 1) := by decide +kernel
theorem dX2_take_19 : decode cX2_take 19 = .ok (.iload_n 1, 1) := by decide +kernel
theorem dX2_take_20 : decode cX2_take 20 = .ok (.putfield 24, 3) := by decide +kernel
theorem dX2_take_23 : decode cX2_take 23 = .ok (.aload_n 0, 1) := by decide +kernel
theorem dX2_take_24 : decode cX2_take 24 = .ok (.dup, 1) := by decide +kernel
theorem dX2_take_25 : decode cX2_take 25 = .ok (.getfield 41, 3) := by decide +kernel
theorem dX2_take_28 : decode cX2_take 28 = .ok (.iconst 1, 1) := by decide +kernel
theorem dX2_take_29 : decode cX2_take 29 = .ok (.iadd, 1) := by decide +kernel
theorem dX2_take_30 : decode cX2_take 30 = .ok (.putfield 41, 3) := by decide +kernel
theorem dX2_take_33 : decode cX2_take 33 = .ok (.return_, 1) := by decide +kernel
theorem dX3_init_0 : decode cX3_init 0 = .ok (.aload_n 0, 1) := by decide +kernel
theorem dX3_init_1 : decode cX3_init 1 = .ok (.invokespecial 3, 3) := by decide +kernel
theorem dX3_init_4 : decode cX3_init 4 = .ok (.aload_n 0, 1) := by decide +kernel
theorem dX3_init_5 : decode cX3_init 5 = .ok (.new 9, 3) := by decide +kernel
theorem dX3_init_8 : decode cX3_init 8 = .ok (.dup, 1) := by decide +kernel
theorem dX3_init_9 : decode cX3_init 9 = .ok (.sipush 256, 3) := by decide +kernel
theorem dX3_init_12 : decode cX3_init 12 = .ok (.invokespecial 11, 3) := by decide +kernel
theorem dX3_init_15 : decode cX3_init 15 = .ok (.putfield 14, 3) := by decide +kernel
theorem dX3_init_18 : decode cX3_init 18 = .ok (.return_, 1) := by decide +kernel
theorem dX4_init_0 : decode cX4_init 0 = .ok (.aload_n 0, 1) := by decide +kernel
theorem dX4_init_1 : decode cX4_init 1 = .ok (.invokespecial 3, 3) := by decide +kernel
theorem dX4_init_4 : decode cX4_init 4 = .ok (.aload_n 0, 1) := by decide +kernel
theorem dX4_init_5 : decode cX4_init 5 = .ok (.bipush 26, 2) := by decide +kernel
theorem dX4_init_7 : decode cX4_init 7 = .ok (.newarray .int, 2) := by decide +kernel
theorem dX4_init_9 : decode cX4_init 9 = .ok (.putfield 11, 3) := by decide +kernel
theorem dX4_init_12 : decode cX4_init 12 = .ok (.aload_n 0, 1) := by decide +kernel
theorem dX4_init_13 : decode cX4_init 13 = .ok (.sipush 256, 3) := by decide +kernel
theorem dX4_init_16 : decode cX4_init 16 = .ok (.newarray .int, 2) := by decide +kernel
theorem dX4_init_18 : decode cX4_init 18 = .ok (.putfield 15, 3) := by decide +kernel
theorem dX4_init_21 : decode cX4_init 21 = .ok (.aload_n 0, 1) := by decide +kernel
theorem dX4_init_22 : decode cX4_init 22 = .ok (.iconst 0, 1) := by decide +kernel
theorem dX4_init_23 : decode cX4_init 23 = .ok (.putfield 18, 3) := by decide +kernel
theorem dX4_init_26 : decode cX4_init 26 = .ok (.aload_n 0, 1) := by decide +kernel
theorem dX4_init_27 : decode cX4_init 27 = .ok (.bipush (-9), 2) := by decide +kernel
theorem dX4_init_29 : decode cX4_init 29 = .ok (.putfield 22, 3) := by decide +kernel
theorem dX4_init_32 : decode cX4_init 32 = .ok (.return_, 1) := by decide +kernel
theorem dX4_faultIn_0 : decode cX4_faultIn 0 = .ok (.aload_n 0, 1) := by decide +kernel
theorem dX4_faultIn_1 : decode cX4_faultIn 1 = .ok (.invokevirtual 25, 3) := by decide +kernel
theorem dX4_faultIn_4 : decode cX4_faultIn 4 = .ok (.aload_n 1, 1) := by decide +kernel
theorem dX4_faultIn_5 : decode cX4_faultIn 5 = .ok (.iconst 0, 1) := by decide +kernel
theorem dX4_faultIn_6 : decode cX4_faultIn 6 = .ok (.invokevirtual 28, 3) := by decide +kernel
theorem dX4_faultIn_9 : decode cX4_faultIn 9 = .ok (.istore_n 2, 1) := by decide +kernel
theorem dX4_faultIn_10 : decode cX4_faultIn 10 = .ok (.iconst 0, 1) := by decide +kernel
theorem dX4_faultIn_11 : decode cX4_faultIn 11 = .ok (.istore_n 3, 1) := by decide +kernel
theorem dX4_faultIn_12 : decode cX4_faultIn 12 = .ok (.iload_n 3, 1) := by decide +kernel
theorem dX4_faultIn_13 : decode cX4_faultIn 13 = .ok (.sipush 200, 3) := by decide +kernel
theorem dX4_faultIn_16 : decode cX4_faultIn 16 = .ok (.if_icmp .ge 51, 3) := by decide +kernel
theorem dX4_faultIn_19 : decode cX4_faultIn 19 = .ok (.iload_n 2, 1) := by decide +kernel
theorem dX4_faultIn_20 : decode cX4_faultIn 20 = .ok (.aload_n 1, 1) := by decide +kernel
theorem dX4_faultIn_21 : decode cX4_faultIn 21 = .ok (.getfield 34, 3) := by decide +kernel
theorem dX4_faultIn_24 : decode cX4_faultIn 24 = .ok (.if_icmp .ge 43, 3) := by decide +kernel
theorem dX4_faultIn_27 : decode cX4_faultIn 27 = .ok (.aload_n 1, 1) := by decide +kernel
theorem dX4_faultIn_28 : decode cX4_faultIn 28 = .ok (.iload_n 2, 1) := by decide +kernel
theorem dX4_faultIn_29 : decode cX4_faultIn 29 = .ok (.invokestatic 37, 3) := by decide +kernel
theorem dX4_faultIn_32 : decode cX4_faultIn 32 = .ok (.istore 4, 2) := by decide +kernel
theorem dX4_faultIn_34 : decode cX4_faultIn 34 = .ok (.iload 4, 2) := by decide +kernel
theorem dX4_faultIn_36 : decode cX4_faultIn 36 = .ok (.ifCond .eq 14, 3) := by decide +kernel
theorem dX4_faultIn_39 : decode cX4_faultIn 39 = .ok (.aload_n 0, 1) := by decide +kernel
theorem dX4_faultIn_40 : decode cX4_faultIn 40 = .ok (.aload_n 1, 1) := by decide +kernel
theorem dX4_faultIn_41 : decode cX4_faultIn 41 = .ok (.iload_n 2, 1) := by decide +kernel
theorem dX4_faultIn_42 : decode cX4_faultIn 42 = .ok (.iload 4, 2) := by decide +kernel
theorem dX4_faultIn_44 : decode cX4_faultIn 44 = .ok (.invokevirtual 41, 3) := by decide +kernel
theorem dX4_faultIn_47 : decode cX4_faultIn 47 = .ok (.ifCond .ne 5, 3) := by decide +kernel
theorem dX4_faultIn_50 : decode cX4_faultIn 50 = .ok (.iload_n 2, 1) := by decide +kernel
theorem dX4_faultIn_51 : decode cX4_faultIn 51 = .ok (.ireturn, 1) := by decide +kernel
theorem dX4_faultIn_52 : decode cX4_faultIn 52 = .ok (.aload_n 1, 1) := by decide +kernel
theorem dX4_faultIn_53 : decode cX4_faultIn 53 = .ok (.iload_n 2, 1) := by decide +kernel
theorem dX4_faultIn_54 : decode cX4_faultIn 54 = .ok (.iload 4, 2) := by decide +kernel
theorem dX4_faultIn_56 : decode cX4_faultIn 56 = .ok (.iadd, 1) := by decide +kernel
theorem dX4_faultIn_57 : decode cX4_faultIn 57 = .ok (.invokevirtual 28, 3) := by decide +kernel
theorem dX4_faultIn_60 : decode cX4_faultIn 60 = .ok (.istore_n 2, 1) := by decide +kernel
theorem dX4_faultIn_61 : decode cX4_faultIn 61 = .ok (.iinc 3 1, 3) := by decide +kernel
theorem dX4_faultIn_64 : decode cX4_faultIn 64 = .ok (.goto (-52), 3) := by decide +kernel
theorem dX4_faultIn_67 : decode cX4_faultIn 67 = .ok (.aload_n 0, 1) := by decide +kernel
theorem dX4_faultIn_68 : decode cX4_faultIn 68 = .ok (.getfield 18, 3) := by decide +kernel
theorem dX4_faultIn_71 : decode cX4_faultIn 71 = .ok (.ifCond .ne 13, 3) := by decide +kernel
theorem dX4_faultIn_74 : decode cX4_faultIn 74 = .ok (.aload_n 0, 1) := by decide +kernel
theorem dX4_faultIn_75 : decode cX4_faultIn 75 = .ok (.getfield 45, 3) := by decide +kernel
theorem dX4_faultIn_78 : decode cX4_faultIn 78 = .ok (.getfield 49, 3) := by decide +kernel
theorem dX4_faultIn_81 : decode cX4_faultIn 81 = .ok (.ifCond .ne 8, 3) := by decide +kernel
theorem dX4_faultIn_84 : decode cX4_faultIn 84 = .ok (.aload_n 1, 1) := by decide +kernel
theorem dX4_faultIn_85 : decode cX4_faultIn 85 = .ok (.getfield 34, 3) := by decide +kernel
theorem dX4_faultIn_88 : decode cX4_faultIn 88 = .ok (.ireturn, 1) := by decide +kernel
theorem dX4_faultIn_89 : decode cX4_faultIn 89 = .ok (.aload_n 0, 1) := by decide +kernel
theorem dX4_faultIn_90 : decode cX4_faultIn 90 = .ok (.invokevirtual 52, 3) := by decide +kernel
theorem dX4_faultIn_93 : decode cX4_faultIn 93 = .ok (.ireturn, 1) := by decide +kernel
theorem dX4_begin_0 : decode cX4_begin 0 = .ok (.aload_n 0, 1) := by decide +kernel
theorem dX4_begin_1 : decode cX4_begin 1 = .ok (.getfield 45, 3) := by decide +kernel
theorem dX4_begin_4 : decode cX4_begin 4 = .ok (.iconst 0, 1) := by decide +kernel
theorem dX4_begin_5 : decode cX4_begin 5 = .ok (.putfield 49, 3) := by decide +kernel
theorem dX4_begin_8 : decode cX4_begin 8 = .ok (.aload_n 0, 1) := by decide +kernel
theorem dX4_begin_9 : decode cX4_begin 9 = .ok (.iconst 0, 1) := by decide +kernel
theorem dX4_begin_10 : decode cX4_begin 10 = .ok (.putfield 18, 3) := by decide +kernel
theorem dX4_begin_13 : decode cX4_begin 13 = .ok (.aload_n 0, 1) := by decide +kernel
theorem dX4_begin_14 : decode cX4_begin 14 = .ok (.bipush (-9), 2) := by decide +kernel
theorem dX4_begin_16 : decode cX4_begin 16 = .ok (.putfield 22, 3) := by decide +kernel
theorem dX4_begin_19 : decode cX4_begin 19 = .ok (.iconst 0, 1) := by decide +kernel
theorem dX4_begin_20 : decode cX4_begin 20 = .ok (.istore_n 1, 1) := by decide +kernel
theorem dX4_begin_21 : decode cX4_begin 21 = .ok (.iload_n 1, 1) := by decide +kernel
theorem dX4_begin_22 : decode cX4_begin 22 = .ok (.bipush 26, 2) := by decide +kernel
theorem dX4_begin_24 : decode cX4_begin 24 = .ok (.if_icmp .ge 17, 3) := by decide +kernel
theorem dX4_begin_27 : decode cX4_begin 27 = .ok (.aload_n 0, 1) := by decide +kernel
theorem dX4_begin_28 : decode cX4_begin 28 = .ok (.getfield 11, 3) := by decide +kernel
theorem dX4_begin_31 : decode cX4_begin 31 = .ok (.iload_n 1, 1) := by decide +kernel
theorem dX4_begin_32 : decode cX4_begin 32 = .ok (.bipush (-9), 2) := by decide +kernel
theorem dX4_begin_34 : decode cX4_begin 34 = .ok (.iastore, 1) := by decide +kernel
theorem dX4_begin_35 : decode cX4_begin 35 = .ok (.iinc 1 1, 3) := by decide +kernel
theorem dX4_begin_38 : decode cX4_begin 38 = .ok (.goto (-17), 3) := by decide +kernel
theorem dX4_begin_41 : decode cX4_begin 41 = .ok (.iconst 0, 1) := by decide +kernel
theorem dX4_begin_42 : decode cX4_begin 42 = .ok (.istore_n 1, 1) := by decide +kernel
theorem dX4_begin_43 : decode cX4_begin 43 = .ok (.iload_n 1, 1) := by decide +kernel
theorem dX4_begin_44 : decode cX4_begin 44 = .ok (.sipush 256, 3) := by decide +kernel
theorem dX4_begin_47 : decode cX4_begin 47 = .ok (.if_icmp .ge 17, 3) := by decide +kernel
theorem dX4_begin_50 : decode cX4_begin 50 = .ok (.aload_n 0, 1) := by decide +kernel
theorem dX4_begin_51 : decode cX4_begin 51 = .ok (.getfield 15, 3) := by decide +kernel
theorem dX4_begin_54 : decode cX4_begin 54 = .ok (.iload_n 1, 1) := by decide +kernel
theorem dX4_begin_55 : decode cX4_begin 55 = .ok (.bipush (-9), 2) := by decide +kernel
theorem dX4_begin_57 : decode cX4_begin 57 = .ok (.iastore, 1) := by decide +kernel
theorem dX4_begin_58 : decode cX4_begin 58 = .ok (.iinc 1 1, 3) := by decide +kernel
theorem dX4_begin_61 : decode cX4_begin 61 = .ok (.goto (-18), 3) := by decide +kernel
theorem dX4_begin_64 : decode cX4_begin 64 = .ok (.return_, 1) := by decide +kernel
theorem dX4_isDigit_0 : decode cX4_isDigit 0 = .ok (.iload_n 0, 1) := by decide +kernel
theorem dX4_isDigit_1 : decode cX4_isDigit 1 = .ok (.bipush 48, 2) := by decide +kernel
theorem dX4_isDigit_3 : decode cX4_isDigit 3 = .ok (.if_icmp .lt 13, 3) := by decide +kernel
theorem dX4_isDigit_6 : decode cX4_isDigit 6 = .ok (.iload_n 0, 1) := by decide +kernel
theorem dX4_isDigit_7 : decode cX4_isDigit 7 = .ok (.bipush 57, 2) := by decide +kernel
theorem dX4_isDigit_9 : decode cX4_isDigit 9 = .ok (.if_icmp .gt 7, 3) := by decide +kernel
theorem dX4_isDigit_12 : decode cX4_isDigit 12 = .ok (.iconst 1, 1) := by decide +kernel
theorem dX4_isDigit_13 : decode cX4_isDigit 13 = .ok (.goto 4, 3) := by decide +kernel
theorem dX4_isDigit_16 : decode cX4_isDigit 16 = .ok (.iconst 0, 1) := by decide +kernel
theorem dX4_isDigit_17 : decode cX4_isDigit 17 = .ok (.ireturn, 1) := by decide +kernel
theorem dX4_isSmall_0 : decode cX4_isSmall 0 = .ok (.iload_n 0, 1) := by decide +kernel
theorem dX4_isSmall_1 : decode cX4_isSmall 1 = .ok (.bipush 97, 2) := by decide +kernel
theorem dX4_isSmall_3 : decode cX4_isSmall 3 = .ok (.if_icmp .lt 13, 3) := by decide +kernel
theorem dX4_isSmall_6 : decode cX4_isSmall 6 = .ok (.iload_n 0, 1) := by decide +kernel
theorem dX4_isSmall_7 : decode cX4_isSmall 7 = .ok (.bipush 122, 2) := by decide +kernel
theorem dX4_isSmall_9 : decode cX4_isSmall 9 = .ok (.if_icmp .gt 7, 3) := by decide +kernel
theorem dX4_isSmall_12 : decode cX4_isSmall 12 = .ok (.iconst 1, 1) := by decide +kernel
theorem dX4_isSmall_13 : decode cX4_isSmall 13 = .ok (.goto 4, 3) := by decide +kernel
theorem dX4_isSmall_16 : decode cX4_isSmall 16 = .ok (.iconst 0, 1) := by decide +kernel
theorem dX4_isSmall_17 : decode cX4_isSmall 17 = .ok (.ireturn, 1) := by decide +kernel
theorem dX4_isLetter_0 : decode cX4_isLetter 0 = .ok (.iload_n 0, 1) := by decide +kernel
theorem dX4_isLetter_1 : decode cX4_isLetter 1 = .ok (.bipush 65, 2) := by decide +kernel
theorem dX4_isLetter_3 : decode cX4_isLetter 3 = .ok (.if_icmp .lt 13, 3) := by decide +kernel
theorem dX4_isLetter_6 : decode cX4_isLetter 6 = .ok (.iload_n 0, 1) := by decide +kernel
theorem dX4_isLetter_7 : decode cX4_isLetter 7 = .ok (.bipush 90, 2) := by decide +kernel
theorem dX4_isLetter_9 : decode cX4_isLetter 9 = .ok (.if_icmp .gt 7, 3) := by decide +kernel
theorem dX4_isLetter_12 : decode cX4_isLetter 12 = .ok (.iconst 1, 1) := by decide +kernel
theorem dX4_isLetter_13 : decode cX4_isLetter 13 = .ok (.goto 4, 3) := by decide +kernel
theorem dX4_isLetter_16 : decode cX4_isLetter 16 = .ok (.iconst 0, 1) := by decide +kernel
theorem dX4_isLetter_17 : decode cX4_isLetter 17 = .ok (.ireturn, 1) := by decide +kernel
theorem dX4_tokenSigns_0 : decode cX4_tokenSigns 0 = .ok (.aload_n 0, 1) := by decide +kernel
theorem dX4_tokenSigns_1 : decode cX4_tokenSigns 1 = .ok (.iload_n 1, 1) := by decide +kernel
theorem dX4_tokenSigns_2 : decode cX4_tokenSigns 2 = .ok (.invokevirtual 56, 3) := by decide +kernel
theorem dX4_tokenSigns_5 : decode cX4_tokenSigns 5 = .ok (.istore_n 2, 1) := by decide +kernel
theorem dX4_tokenSigns_6 : decode cX4_tokenSigns 6 = .ok (.iload_n 2, 1) := by decide +kernel
theorem dX4_tokenSigns_7 : decode cX4_tokenSigns 7 = .ok (.bipush 58, 2) := by decide +kernel
theorem dX4_tokenSigns_9 : decode cX4_tokenSigns 9 = .ok (.if_icmp .eq 10, 3) := by decide +kernel
theorem dX4_tokenSigns_12 : decode cX4_tokenSigns 12 = .ok (.iload_n 2, 1) := by decide +kernel
theorem dX4_tokenSigns_13 : decode cX4_tokenSigns 13 = .ok (.invokestatic 59, 3) := by decide +kernel
theorem dX4_tokenSigns_16 : decode cX4_tokenSigns 16 = .ok (.ifCond .eq 5, 3) := by decide +kernel
theorem dX4_tokenSigns_19 : decode cX4_tokenSigns 19 = .ok (.iconst 1, 1) := by decide +kernel
theorem dX4_tokenSigns_20 : decode cX4_tokenSigns 20 = .ok (.ireturn, 1) := by decide +kernel
theorem dX4_tokenSigns_21 : decode cX4_tokenSigns 21 = .ok (.iload_n 1, 1) := by decide +kernel
theorem dX4_tokenSigns_22 : decode cX4_tokenSigns 22 = .ok (.istore_n 3, 1) := by decide +kernel
theorem dX4_tokenSigns_23 : decode cX4_tokenSigns 23 = .ok (.iload_n 3, 1) := by decide +kernel
theorem dX4_tokenSigns_24 : decode cX4_tokenSigns 24 = .ok (.aload_n 0, 1) := by decide +kernel
theorem dX4_tokenSigns_25 : decode cX4_tokenSigns 25 = .ok (.getfield 34, 3) := by decide +kernel
theorem dX4_tokenSigns_28 : decode cX4_tokenSigns 28 = .ok (.if_icmp .ge 21, 3) := by decide +kernel
theorem dX4_tokenSigns_31 : decode cX4_tokenSigns 31 = .ok (.iload_n 2, 1) := by decide +kernel
theorem dX4_tokenSigns_32 : decode cX4_tokenSigns 32 = .ok (.aload_n 0, 1) := by decide +kernel
theorem dX4_tokenSigns_33 : decode cX4_tokenSigns 33 = .ok (.iload_n 3, 1) := by decide +kernel
theorem dX4_tokenSigns_34 : decode cX4_tokenSigns 34 = .ok (.invokevirtual 56, 3) := by decide +kernel
theorem dX4_tokenSigns_37 : decode cX4_tokenSigns 37 = .ok (.invokestatic 63, 3) := by decide +kernel
theorem dX4_tokenSigns_40 : decode cX4_tokenSigns 40 = .ok (.ifCond .eq 9, 3) := by decide +kernel
theorem dX4_tokenSigns_43 : decode cX4_tokenSigns 43 = .ok (.iinc 3 1, 3) := by decide +kernel
theorem dX4_tokenSigns_46 : decode cX4_tokenSigns 46 = .ok (.goto (-23), 3) := by decide +kernel
theorem dX4_tokenSigns_49 : decode cX4_tokenSigns 49 = .ok (.iload_n 3, 1) := by decide +kernel
theorem dX4_tokenSigns_50 : decode cX4_tokenSigns 50 = .ok (.iload_n 1, 1) := by decide +kernel
theorem dX4_tokenSigns_51 : decode cX4_tokenSigns 51 = .ok (.isub, 1) := by decide +kernel
theorem dX4_tokenSigns_52 : decode cX4_tokenSigns 52 = .ok (.ireturn, 1) := by decide +kernel
theorem dX4_isMoreOf_0 : decode cX4_isMoreOf 0 = .ok (.iload_n 0, 1) := by decide +kernel
theorem dX4_isMoreOf_1 : decode cX4_isMoreOf 1 = .ok (.invokestatic 67, 3) := by decide +kernel
theorem dX4_isMoreOf_4 : decode cX4_isMoreOf 4 = .ok (.ifCond .eq 10, 3) := by decide +kernel
theorem dX4_isMoreOf_7 : decode cX4_isMoreOf 7 = .ok (.iload_n 1, 1) := by decide +kernel
theorem dX4_isMoreOf_8 : decode cX4_isMoreOf 8 = .ok (.invokestatic 67, 3) := by decide +kernel
theorem dX4_isMoreOf_11 : decode cX4_isMoreOf 11 = .ok (.ifCond .ne 17, 3) := by decide +kernel
theorem dX4_isMoreOf_14 : decode cX4_isMoreOf 14 = .ok (.iload_n 0, 1) := by decide +kernel
theorem dX4_isMoreOf_15 : decode cX4_isMoreOf 15 = .ok (.invokestatic 70, 3) := by decide +kernel
theorem dX4_isMoreOf_18 : decode cX4_isMoreOf 18 = .ok (.ifCond .eq 14, 3) := by decide +kernel
theorem dX4_isMoreOf_21 : decode cX4_isMoreOf 21 = .ok (.iload_n 1, 1) := by decide +kernel
theorem dX4_isMoreOf_22 : decode cX4_isMoreOf 22 = .ok (.invokestatic 70, 3) := by decide +kernel
theorem dX4_isMoreOf_25 : decode cX4_isMoreOf 25 = .ok (.ifCond .eq 7, 3) := by decide +kernel
theorem dX4_isMoreOf_28 : decode cX4_isMoreOf 28 = .ok (.iconst 1, 1) := by decide +kernel
theorem dX4_isMoreOf_29 : decode cX4_isMoreOf 29 = .ok (.goto 4, 3) := by decide +kernel
theorem dX4_isMoreOf_32 : decode cX4_isMoreOf 32 = .ok (.iconst 0, 1) := by decide +kernel
theorem dX4_isMoreOf_33 : decode cX4_isMoreOf 33 = .ok (.ireturn, 1) := by decide +kernel
theorem dX4_takes_0 : decode cX4_takes 0 = .ok (.aload_n 1, 1) := by decide +kernel
theorem dX4_takes_1 : decode cX4_takes 1 = .ok (.iload_n 2, 1) := by decide +kernel
theorem dX4_takes_2 : decode cX4_takes 2 = .ok (.invokevirtual 56, 3) := by decide +kernel
theorem dX4_takes_5 : decode cX4_takes 5 = .ok (.istore 4, 2) := by decide +kernel
theorem dX4_takes_7 : decode cX4_takes 7 = .ok (.iload 4, 2) := by decide +kernel
theorem dX4_takes_9 : decode cX4_takes 9 = .ok (.bipush 58, 2) := by decide +kernel
theorem dX4_takes_11 : decode cX4_takes 11 = .ok (.if_icmp .ne 9, 3) := by decide +kernel
theorem dX4_takes_14 : decode cX4_takes 14 = .ok (.aload_n 0, 1) := by decide +kernel
theorem dX4_takes_15 : decode cX4_takes 15 = .ok (.iload_n 2, 1) := by decide +kernel
theorem dX4_takes_16 : decode cX4_takes 16 = .ok (.invokevirtual 73, 3) := by decide +kernel
theorem dX4_takes_19 : decode cX4_takes 19 = .ok (.ireturn, 1) := by decide +kernel
theorem dX4_takes_20 : decode cX4_takes 20 = .ok (.iload 4, 2) := by decide +kernel
theorem dX4_takes_22 : decode cX4_takes 22 = .ok (.invokestatic 59, 3) := by decide +kernel
theorem dX4_takes_25 : decode cX4_takes 25 = .ok (.ifCond .eq 35, 3) := by decide +kernel
theorem dX4_takes_28 : decode cX4_takes 28 = .ok (.aload_n 0, 1) := by decide +kernel
theorem dX4_takes_29 : decode cX4_takes 29 = .ok (.getfield 18, 3) := by decide +kernel
theorem dX4_takes_32 : decode cX4_takes 32 = .ok (.iconst 2, 1) := by decide +kernel
theorem dX4_takes_33 : decode cX4_takes 33 = .ok (.if_icmp .ne 16, 3) := by decide +kernel
theorem dX4_takes_36 : decode cX4_takes 36 = .ok (.aload_n 0, 1) := by decide +kernel
theorem dX4_takes_37 : decode cX4_takes 37 = .ok (.iload 4, 2) := by decide +kernel
theorem dX4_takes_39 : decode cX4_takes 39 = .ok (.bipush 65, 2) := by decide +kernel
theorem dX4_takes_41 : decode cX4_takes 41 = .ok (.isub, 1) := by decide +kernel
theorem dX4_takes_42 : decode cX4_takes 42 = .ok (.iload_n 2, 1) := by decide +kernel
theorem dX4_takes_43 : decode cX4_takes 43 = .ok (.invokevirtual 76, 3) := by decide +kernel
theorem dX4_takes_46 : decode cX4_takes 46 = .ok (.goto 13, 3) := by decide +kernel
theorem dX4_takes_49 : decode cX4_takes 49 = .ok (.aload_n 0, 1) := by decide +kernel
theorem dX4_takes_50 : decode cX4_takes 50 = .ok (.iload 4, 2) := by decide +kernel
theorem dX4_takes_52 : decode cX4_takes 52 = .ok (.bipush 65, 2) := by decide +kernel
theorem dX4_takes_54 : decode cX4_takes 54 = .ok (.isub, 1) := by decide +kernel
theorem dX4_takes_55 : decode cX4_takes 55 = .ok (.iload_n 2, 1) := by decide +kernel
theorem dX4_takes_56 : decode cX4_takes 56 = .ok (.invokevirtual 79, 3) := by decide +kernel
theorem dX4_takes_59 : decode cX4_takes 59 = .ok (.ireturn, 1) := by decide +kernel
theorem dX4_takes_60 : decode cX4_takes 60 = .ok (.iload 4, 2) := by decide +kernel
theorem dX4_takes_62 : decode cX4_takes 62 = .ok (.invokestatic 67, 3) := by decide +kernel
theorem dX4_takes_65 : decode cX4_takes 65 = .ok (.ifCond .eq 17, 3) := by decide +kernel
theorem dX4_takes_68 : decode cX4_takes 68 = .ok (.aload_n 0, 1) := by decide +kernel
theorem dX4_takes_69 : decode cX4_takes 69 = .ok (.aload_n 1, 1) := by decide +kernel
theorem dX4_takes_70 : decode cX4_takes 70 = .ok (.iload_n 2, 1) := by decide +kernel
theorem dX4_takes_71 : decode cX4_takes 71 = .ok (.iload_n 3, 1) := by decide +kernel
theorem dX4_takes_72 : decode cX4_takes 72 = .ok (.invokestatic 82, 3) := by decide +kernel
theorem dX4_takes_75 : decode cX4_takes 75 = .ok (.iload_n 2, 1) := by decide +kernel
theorem dX4_takes_76 : decode cX4_takes 76 = .ok (.invokevirtual 86, 3) := by decide +kernel
theorem dX4_takes_79 : decode cX4_takes 79 = .ok (.goto 14, 3) := by decide +kernel
theorem dX4_takes_82 : decode cX4_takes 82 = .ok (.aload_n 0, 1) := by decide +kernel
theorem dX4_takes_83 : decode cX4_takes 83 = .ok (.aload_n 1, 1) := by decide +kernel
theorem dX4_takes_84 : decode cX4_takes 84 = .ok (.iload_n 2, 1) := by decide +kernel
theorem dX4_takes_85 : decode cX4_takes 85 = .ok (.iload_n 3, 1) := by decide +kernel
theorem dX4_takes_86 : decode cX4_takes 86 = .ok (.invokestatic 89, 3) := by decide +kernel
theorem dX4_takes_89 : decode cX4_takes 89 = .ok (.iload_n 2, 1) := by decide +kernel
theorem dX4_takes_90 : decode cX4_takes 90 = .ok (.invokevirtual 92, 3) := by decide +kernel
theorem dX4_takes_93 : decode cX4_takes 93 = .ok (.ireturn, 1) := by decide +kernel
theorem dX4_takesColon_0 : decode cX4_takesColon 0 = .ok (.aload_n 0, 1) := by decide +kernel
theorem dX4_takesColon_1 : decode cX4_takesColon 1 = .ok (.getfield 18, 3) := by decide +kernel
theorem dX4_takesColon_4 : decode cX4_takesColon 4 = .ok (.iconst 1, 1) := by decide +kernel
theorem dX4_takesColon_5 : decode cX4_takesColon 5 = .ok (.if_icmp .ne 13, 3) := by decide +kernel
theorem dX4_takesColon_8 : decode cX4_takesColon 8 = .ok (.iload_n 1, 1) := by decide +kernel
theorem dX4_takesColon_9 : decode cX4_takesColon 9 = .ok (.aload_n 0, 1) := by decide +kernel
theorem dX4_takesColon_10 : decode cX4_takesColon 10 = .ok (.getfield 22, 3) := by decide +kernel
theorem dX4_takesColon_13 : decode cX4_takesColon 13 = .ok (.iconst 1, 1) := by decide +kernel
theorem dX4_takesColon_14 : decode cX4_takesColon 14 = .ok (.iadd, 1) := by decide +kernel
theorem dX4_takesColon_15 : decode cX4_takesColon 15 = .ok (.if_icmp .eq 5, 3) := by decide +kernel
theorem dX4_takesColon_18 : decode cX4_takesColon 18 = .ok (.iconst 0, 1) := by decide +kernel
theorem dX4_takesColon_19 : decode cX4_takesColon 19 = .ok (.ireturn, 1) := by decide +kernel
theorem dX4_takesColon_20 : decode cX4_takesColon 20 = .ok (.aload_n 0, 1) := by decide +kernel
theorem dX4_takesColon_21 : decode cX4_takesColon 21 = .ok (.iconst 0, 1) := by decide +kernel
theorem dX4_takesColon_22 : decode cX4_takesColon 22 = .ok (.putfield 18, 3) := by decide +kernel
theorem dX4_takesColon_25 : decode cX4_takesColon 25 = .ok (.iconst 1, 1) := by decide +kernel
theorem dX4_takesColon_26 : decode cX4_takesColon 26 = .ok (.ireturn, 1) := by decide +kernel
theorem dX4_takesPlace_0 : decode cX4_takesPlace 0 = .ok (.aload_n 0, 1) := by decide +kernel
theorem dX4_takesPlace_1 : decode cX4_takesPlace 1 = .ok (.getfield 18, 3) := by decide +kernel
theorem dX4_takesPlace_4 : decode cX4_takesPlace 4 = .ok (.ifCond .ne 24, 3) := by decide +kernel
theorem dX4_takesPlace_7 : decode cX4_takesPlace 7 = .ok (.iload_n 1, 1) := by decide +kernel
theorem dX4_takesPlace_8 : decode cX4_takesPlace 8 = .ok (.ifCond .lt 20, 3) := by decide +kernel
theorem dX4_takesPlace_11 : decode cX4_takesPlace 11 = .ok (.iload_n 1, 1) := by decide +kernel
theorem dX4_takesPlace_12 : decode cX4_takesPlace 12 = .ok (.bipush 26, 2) := by decide +kernel
theorem dX4_takesPlace_14 : decode cX4_takesPlace 14 = .ok (.if_icmp .ge 14, 3) := by decide +kernel
theorem dX4_takesPlace_17 : decode cX4_takesPlace 17 = .ok (.aload_n 0, 1) := by decide +kernel
theorem dX4_takesPlace_18 : decode cX4_takesPlace 18 = .ok (.getfield 11, 3) := by decide +kernel
theorem dX4_takesPlace_21 : decode cX4_takesPlace 21 = .ok (.iload_n 1, 1) := by decide +kernel
theorem dX4_takesPlace_22 : decode cX4_takesPlace 22 = .ok (.iaload, 1) := by decide +kernel
theorem dX4_takesPlace_23 : decode cX4_takesPlace 23 = .ok (.bipush (-9), 2) := by decide +kernel
theorem dX4_takesPlace_25 : decode cX4_takesPlace 25 = .ok (.if_icmp .eq 5, 3) := by decide +kernel
theorem dX4_takesPlace_28 : decode cX4_takesPlace 28 = .ok (.iconst 0, 1) := by decide +kernel
theorem dX4_takesPlace_29 : decode cX4_takesPlace 29 = .ok (.ireturn, 1) := by decide +kernel
theorem dX4_takesPlace_30 : decode cX4_takesPlace 30 = .ok (.aload_n 0, 1) := by decide +kernel
theorem dX4_takesPlace_31 : decode cX4_takesPlace 31 = .ok (.getfield 11, 3) := by decide +kernel
theorem dX4_takesPlace_34 : decode cX4_takesPlace 34 = .ok (.iload_n 1, 1) := by decide +kernel
theorem dX4_takesPlace_35 : decode cX4_takesPlace 35 = .ok (.aload_n 0, 1) := by decide +kernel
theorem dX4_takesPlace_36 : decode cX4_takesPlace 36 = .ok (.getfield 45, 3) := by decide +kernel
theorem dX4_takesPlace_39 : decode cX4_takesPlace 39 = .ok (.getfield 49, 3) := by decide +kernel
theorem dX4_takesPlace_42 : decode cX4_takesPlace 42 = .ok (.iastore, 1) := by decide +kernel
theorem dX4_takesPlace_43 : decode cX4_takesPlace 43 = .ok (.aload_n 0, 1) := by decide +kernel
theorem dX4_takesPlace_44 : decode cX4_takesPlace 44 = .ok (.iload_n 2, 1) := by decide +kernel
theorem dX4_takesPlace_45 : decode cX4_takesPlace 45 = .ok (.putfield 22, 3) := by decide +kernel
theorem dX4_takesPlace_48 : decode cX4_takesPlace 48 = .ok (.aload_n 0, 1) := by decide +kernel
theorem dX4_takesPlace_49 : decode cX4_takesPlace 49 = .ok (.iconst 1, 1) := by decide +kernel
theorem dX4_takesPlace_50 : decode cX4_takesPlace 50 = .ok (.putfield 18, 3) := by decide +kernel
theorem dX4_takesPlace_53 : decode cX4_takesPlace 53 = .ok (.iconst 1, 1) := by decide +kernel
theorem dX4_takesPlace_54 : decode cX4_takesPlace 54 = .ok (.ireturn, 1) := by decide +kernel
theorem dX4_takesLetter_0 : decode cX4_takesLetter 0 = .ok (.aload_n 0, 1) := by decide +kernel
theorem dX4_takesLetter_1 : decode cX4_takesLetter 1 = .ok (.getfield 45, 3) := by decide +kernel
theorem dX4_takesLetter_4 : decode cX4_takesLetter 4 = .ok (.getfield 49, 3) := by decide +kernel
theorem dX4_takesLetter_7 : decode cX4_takesLetter 7 = .ok (.istore_n 3, 1) := by decide +kernel
theorem dX4_takesLetter_8 : decode cX4_takesLetter 8 = .ok (.iload_n 3, 1) := by decide +kernel
theorem dX4_takesLetter_9 : decode cX4_takesLetter 9 = .ok (.ifCond .lt 10, 3) := by decide +kernel
theorem dX4_takesLetter_12 : decode cX4_takesLetter 12 = .ok (.iload_n 3, 1) := by decide +kernel
theorem dX4_takesLetter_13 : decode cX4_takesLetter 13 = .ok (.sipush 256, 3) := by decide +kernel
theorem dX4_takesLetter_16 : decode cX4_takesLetter 16 = .ok (.if_icmp .lt 5, 3) := by decide +kernel
theorem dX4_takesLetter_19 : decode cX4_takesLetter 19 = .ok (.iconst 0, 1) := by decide +kernel
theorem dX4_takesLetter_20 : decode cX4_takesLetter 20 = .ok (.ireturn, 1) := by decide +kernel
theorem dX4_takesLetter_21 : decode cX4_takesLetter 21 = .ok (.aload_n 0, 1) := by decide +kernel
theorem dX4_takesLetter_22 : decode cX4_takesLetter 22 = .ok (.getfield 15, 3) := by decide +kernel
theorem dX4_takesLetter_25 : decode cX4_takesLetter 25 = .ok (.iload_n 3, 1) := by decide +kernel
theorem dX4_takesLetter_26 : decode cX4_takesLetter 26 = .ok (.iload_n 1, 1) := by decide +kernel
theorem dX4_takesLetter_27 : decode cX4_takesLetter 27 = .ok (.iastore, 1) := by decide +kernel
theorem dX4_takesLetter_28 : decode cX4_takesLetter 28 = .ok (.aload_n 0, 1) := by decide +kernel
theorem dX4_takesLetter_29 : decode cX4_takesLetter 29 = .ok (.iconst 0, 1) := by decide +kernel
theorem dX4_takesLetter_30 : decode cX4_takesLetter 30 = .ok (.putfield 18, 3) := by decide +kernel
theorem dX4_takesLetter_33 : decode cX4_takesLetter 33 = .ok (.aload_n 0, 1) := by decide +kernel
theorem dX4_takesLetter_34 : decode cX4_takesLetter 34 = .ok (.getfield 45, 3) := by decide +kernel
theorem dX4_takesLetter_37 : decode cX4_takesLetter 37 = .ok (.iconst 0, 1) := by decide +kernel
theorem dX4_takesLetter_38 : decode cX4_takesLetter 38 = .ok (.iload_n 2, 1) := by decide +kernel
theorem dX4_takesLetter_39 : decode cX4_takesLetter 39 = .ok (.invokevirtual 95, 3) := by decide +kernel
theorem dX4_takesLetter_42 : decode cX4_takesLetter 42 = .ok (.ireturn, 1) := by decide +kernel
theorem dX4_takesNumber_0 : decode cX4_takesNumber 0 = .ok (.aload_n 0, 1) := by decide +kernel
theorem dX4_takesNumber_1 : decode cX4_takesNumber 1 = .ok (.getfield 18, 3) := by decide +kernel
theorem dX4_takesNumber_4 : decode cX4_takesNumber 4 = .ok (.iconst 2, 1) := by decide +kernel
theorem dX4_takesNumber_5 : decode cX4_takesNumber 5 = .ok (.if_icmp .ne 9, 3) := by decide +kernel
theorem dX4_takesNumber_8 : decode cX4_takesNumber 8 = .ok (.iload_n 1, 1) := by decide +kernel
theorem dX4_takesNumber_9 : decode cX4_takesNumber 9 = .ok (.bipush (-9), 2) := by decide +kernel
theorem dX4_takesNumber_11 : decode cX4_takesNumber 11 = .ok (.if_icmp .ne 5, 3) := by decide +kernel
theorem dX4_takesNumber_14 : decode cX4_takesNumber 14 = .ok (.iconst 0, 1) := by decide +kernel
theorem dX4_takesNumber_15 : decode cX4_takesNumber 15 = .ok (.ireturn, 1) := by decide +kernel
theorem dX4_takesNumber_16 : decode cX4_takesNumber 16 = .ok (.aload_n 0, 1) := by decide +kernel
theorem dX4_takesNumber_17 : decode cX4_takesNumber 17 = .ok (.iconst 0, 1) := by decide +kernel
theorem dX4_takesNumber_18 : decode cX4_takesNumber 18 = .ok (.putfield 18, 3) := by decide +kernel
theorem dX4_takesNumber_21 : decode cX4_takesNumber 21 = .ok (.aload_n 0, 1) := by decide +kernel
theorem dX4_takesNumber_22 : decode cX4_takesNumber 22 = .ok (.getfield 45, 3) := by decide +kernel
theorem dX4_takesNumber_25 : decode cX4_takesNumber 25 = .ok (.iload_n 1, 1) := by decide +kernel
theorem dX4_takesNumber_26 : decode cX4_takesNumber 26 = .ok (.iload_n 2, 1) := by decide +kernel
theorem dX4_takesNumber_27 : decode cX4_takesNumber 27 = .ok (.invokevirtual 95, 3) := by decide +kernel
theorem dX4_takesNumber_30 : decode cX4_takesNumber 30 = .ok (.ireturn, 1) := by decide +kernel
theorem dX4_valueOf_0 : decode cX4_valueOf 0 = .ok (.iload_n 2, 1) := by decide +kernel
theorem dX4_valueOf_1 : decode cX4_valueOf 1 = .ok (.iconst 3, 1) := by decide +kernel
theorem dX4_valueOf_2 : decode cX4_valueOf 2 = .ok (.if_icmp .gt 18, 3) := by decide +kernel
theorem dX4_valueOf_5 : decode cX4_valueOf 5 = .ok (.iload_n 2, 1) := by decide +kernel
theorem dX4_valueOf_6 : decode cX4_valueOf 6 = .ok (.iconst 1, 1) := by decide +kernel
theorem dX4_valueOf_7 : decode cX4_valueOf 7 = .ok (.if_icmp .le 16, 3) := by decide +kernel
theorem dX4_valueOf_10 : decode cX4_valueOf 10 = .ok (.aload_n 0, 1) := by decide +kernel
theorem dX4_valueOf_11 : decode cX4_valueOf 11 = .ok (.iload_n 1, 1) := by decide +kernel
theorem dX4_valueOf_12 : decode cX4_valueOf 12 = .ok (.invokevirtual 56, 3) := by decide +kernel
theorem dX4_valueOf_15 : decode cX4_valueOf 15 = .ok (.bipush 48, 2) := by decide +kernel
theorem dX4_valueOf_17 : decode cX4_valueOf 17 = .ok (.if_icmp .ne 6, 3) := by decide +kernel
theorem dX4_valueOf_20 : decode cX4_valueOf 20 = .ok (.bipush (-9), 2) := by decide +kernel
theorem dX4_valueOf_22 : decode cX4_valueOf 22 = .ok (.ireturn, 1) := by decide +kernel
theorem dX4_valueOf_23 : decode cX4_valueOf 23 = .ok (.iconst 0, 1) := by decide +kernel
theorem dX4_valueOf_24 : decode cX4_valueOf 24 = .ok (.istore_n 3, 1) := by decide +kernel
theorem dX4_valueOf_25 : decode cX4_valueOf 25 = .ok (.iconst 0, 1) := by decide +kernel
theorem dX4_valueOf_26 : decode cX4_valueOf 26 = .ok (.istore 4, 2) := by decide +kernel
theorem dX4_valueOf_28 : decode cX4_valueOf 28 = .ok (.iload 4, 2) := by decide +kernel
theorem dX4_valueOf_30 : decode cX4_valueOf 30 = .ok (.iload_n 2, 1) := by decide +kernel
theorem dX4_valueOf_31 : decode cX4_valueOf 31 = .ok (.if_icmp .ge 26, 3) := by decide +kernel
theorem dX4_valueOf_34 : decode cX4_valueOf 34 = .ok (.bipush 10, 2) := by decide +kernel
theorem dX4_valueOf_36 : decode cX4_valueOf 36 = .ok (.iload_n 3, 1) := by decide +kernel
theorem dX4_valueOf_37 : decode cX4_valueOf 37 = .ok (.imul, 1) := by decide +kernel
theorem dX4_valueOf_38 : decode cX4_valueOf 38 = .ok (.aload_n 0, 1) := by decide +kernel
theorem dX4_valueOf_39 : decode cX4_valueOf 39 = .ok (.iload_n 1, 1) := by decide +kernel
theorem dX4_valueOf_40 : decode cX4_valueOf 40 = .ok (.iload 4, 2) := by decide +kernel
theorem dX4_valueOf_42 : decode cX4_valueOf 42 = .ok (.iadd, 1) := by decide +kernel
theorem dX4_valueOf_43 : decode cX4_valueOf 43 = .ok (.invokevirtual 56, 3) := by decide +kernel
theorem dX4_valueOf_46 : decode cX4_valueOf 46 = .ok (.iadd, 1) := by decide +kernel
theorem dX4_valueOf_47 : decode cX4_valueOf 47 = .ok (.bipush 48, 2) := by decide +kernel
theorem dX4_valueOf_49 : decode cX4_valueOf 49 = .ok (.isub, 1) := by decide +kernel
theorem dX4_valueOf_50 : decode cX4_valueOf 50 = .ok (.istore_n 3, 1) := by decide +kernel
theorem dX4_valueOf_51 : decode cX4_valueOf 51 = .ok (.iinc 4 1, 3) := by decide +kernel
theorem dX4_valueOf_54 : decode cX4_valueOf 54 = .ok (.goto (-26), 3) := by decide +kernel
theorem dX4_valueOf_57 : decode cX4_valueOf 57 = .ok (.iload_n 3, 1) := by decide +kernel
theorem dX4_valueOf_58 : decode cX4_valueOf 58 = .ok (.sipush 255, 3) := by decide +kernel
theorem dX4_valueOf_61 : decode cX4_valueOf 61 = .ok (.if_icmp .le 8, 3) := by decide +kernel
theorem dX4_valueOf_64 : decode cX4_valueOf 64 = .ok (.bipush (-9), 2) := by decide +kernel
theorem dX4_valueOf_66 : decode cX4_valueOf 66 = .ok (.goto 4, 3) := by decide +kernel
theorem dX4_valueOf_69 : decode cX4_valueOf 69 = .ok (.iload_n 3, 1) := by decide +kernel
theorem dX4_valueOf_70 : decode cX4_valueOf 70 = .ok (.ireturn, 1) := by decide +kernel
theorem dX4_takesWord_0 : decode cX4_takesWord 0 = .ok (.aload_n 0, 1) := by decide +kernel
theorem dX4_takesWord_1 : decode cX4_takesWord 1 = .ok (.getfield 18, 3) := by decide +kernel
theorem dX4_takesWord_4 : decode cX4_takesWord 4 = .ok (.ifCond .ne 9, 3) := by decide +kernel
theorem dX4_takesWord_7 : decode cX4_takesWord 7 = .ok (.iload_n 1, 1) := by decide +kernel
theorem dX4_takesWord_8 : decode cX4_takesWord 8 = .ok (.bipush (-9), 2) := by decide +kernel
theorem dX4_takesWord_10 : decode cX4_takesWord 10 = .ok (.if_icmp .ne 5, 3) := by decide +kernel
theorem dX4_takesWord_13 : decode cX4_takesWord 13 = .ok (.iconst 0, 1) := by decide +kernel
theorem dX4_takesWord_14 : decode cX4_takesWord 14 = .ok (.ireturn, 1) := by decide +kernel
theorem dX4_takesWord_15 : decode cX4_takesWord 15 = .ok (.iload_n 1, 1) := by decide +kernel
theorem dX4_takesWord_16 : decode cX4_takesWord 16 = .ok (.bipush 16, 2) := by decide +kernel
theorem dX4_takesWord_18 : decode cX4_takesWord 18 = .ok (.if_icmp .ne 10, 3) := by decide +kernel
theorem dX4_takesWord_21 : decode cX4_takesWord 21 = .ok (.aload_n 0, 1) := by decide +kernel
theorem dX4_takesWord_22 : decode cX4_takesWord 22 = .ok (.iconst 2, 1) := by decide +kernel
theorem dX4_takesWord_23 : decode cX4_takesWord 23 = .ok (.putfield 18, 3) := by decide +kernel
theorem dX4_takesWord_26 : decode cX4_takesWord 26 = .ok (.iconst 1, 1) := by decide +kernel
theorem dX4_takesWord_27 : decode cX4_takesWord 27 = .ok (.ireturn, 1) := by decide +kernel
theorem dX4_takesWord_28 : decode cX4_takesWord 28 = .ok (.aload_n 0, 1) := by decide +kernel
theorem dX4_takesWord_29 : decode cX4_takesWord 29 = .ok (.iload_n 1, 1) := by decide +kernel
theorem dX4_takesWord_30 : decode cX4_takesWord 30 = .ok (.invokestatic 98, 3) := by decide +kernel
theorem dX4_takesWord_33 : decode cX4_takesWord 33 = .ok (.ifCond .eq 7, 3) := by decide +kernel
theorem dX4_takesWord_36 : decode cX4_takesWord 36 = .ok (.iconst 2, 1) := by decide +kernel
theorem dX4_takesWord_37 : decode cX4_takesWord 37 = .ok (.goto 4, 3) := by decide +kernel
theorem dX4_takesWord_40 : decode cX4_takesWord 40 = .ok (.iconst 0, 1) := by decide +kernel
theorem dX4_takesWord_41 : decode cX4_takesWord 41 = .ok (.putfield 18, 3) := by decide +kernel
theorem dX4_takesWord_44 : decode cX4_takesWord 44 = .ok (.aload_n 0, 1) := by decide +kernel
theorem dX4_takesWord_45 : decode cX4_takesWord 45 = .ok (.getfield 45, 3) := by decide +kernel
theorem dX4_takesWord_48 : decode cX4_takesWord 48 = .ok (.iload_n 1, 1) := by decide +kernel
theorem dX4_takesWord_49 : decode cX4_takesWord 49 = .ok (.iload_n 2, 1) := by decide +kernel
theorem dX4_takesWord_50 : decode cX4_takesWord 50 = .ok (.invokevirtual 95, 3) := by decide +kernel
theorem dX4_takesWord_53 : decode cX4_takesWord 53 = .ok (.ireturn, 1) := by decide +kernel
theorem dX4_wordOf_0 : decode cX4_wordOf 0 = .ok (.iload_n 2, 1) := by decide +kernel
theorem dX4_wordOf_1 : decode cX4_wordOf 1 = .ok (.iconst 5, 1) := by decide +kernel
theorem dX4_wordOf_2 : decode cX4_wordOf 2 = .ok (.if_icmp .le 6, 3) := by decide +kernel
theorem dX4_wordOf_5 : decode cX4_wordOf 5 = .ok (.bipush (-9), 2) := by decide +kernel
theorem dX4_wordOf_7 : decode cX4_wordOf 7 = .ok (.ireturn, 1) := by decide +kernel
theorem dX4_wordOf_8 : decode cX4_wordOf 8 = .ok (.iconst 0, 1) := by decide +kernel
theorem dX4_wordOf_9 : decode cX4_wordOf 9 = .ok (.istore_n 3, 1) := by decide +kernel
theorem dX4_wordOf_10 : decode cX4_wordOf 10 = .ok (.iload_n 3, 1) := by decide +kernel
theorem dX4_wordOf_11 : decode cX4_wordOf 11 = .ok (.bipush 17, 2) := by decide +kernel
theorem dX4_wordOf_13 : decode cX4_wordOf 13 = .ok (.if_icmp .ge 96, 3) := by decide +kernel
theorem dX4_wordOf_16 : decode cX4_wordOf 16 = .ok (.iconst 0, 1) := by decide +kernel
theorem dX4_wordOf_17 : decode cX4_wordOf 17 = .ok (.istore 4, 2) := by decide +kernel
theorem dX4_wordOf_19 : decode cX4_wordOf 19 = .ok (.iconst 0, 1) := by decide +kernel
theorem dX4_wordOf_20 : decode cX4_wordOf 20 = .ok (.istore 5, 2) := by decide +kernel
theorem dX4_wordOf_22 : decode cX4_wordOf 22 = .ok (.iload 5, 2) := by decide +kernel
theorem dX4_wordOf_24 : decode cX4_wordOf 24 = .ok (.iconst 5, 1) := by decide +kernel
theorem dX4_wordOf_25 : decode cX4_wordOf 25 = .ok (.if_icmp .ge 70, 3) := by decide +kernel
theorem dX4_wordOf_28 : decode cX4_wordOf 28 = .ok (.iload 4, 2) := by decide +kernel
theorem dX4_wordOf_30 : decode cX4_wordOf 30 = .ok (.iload 5, 2) := by decide +kernel
theorem dX4_wordOf_32 : decode cX4_wordOf 32 = .ok (.if_icmp .ne 63, 3) := by decide +kernel
theorem dX4_wordOf_35 : decode cX4_wordOf 35 = .ok (.iconst 5, 1) := by decide +kernel
theorem dX4_wordOf_36 : decode cX4_wordOf 36 = .ok (.iload_n 3, 1) := by decide +kernel
theorem dX4_wordOf_37 : decode cX4_wordOf 37 = .ok (.imul, 1) := by decide +kernel
theorem dX4_wordOf_38 : decode cX4_wordOf 38 = .ok (.iload 5, 2) := by decide +kernel
theorem dX4_wordOf_40 : decode cX4_wordOf 40 = .ok (.iadd, 1) := by decide +kernel
theorem dX4_wordOf_41 : decode cX4_wordOf 41 = .ok (.istore 6, 2) := by decide +kernel
theorem dX4_wordOf_43 : decode cX4_wordOf 43 = .ok (.iload 5, 2) := by decide +kernel
theorem dX4_wordOf_45 : decode cX4_wordOf 45 = .ok (.iload_n 2, 1) := by decide +kernel
theorem dX4_wordOf_46 : decode cX4_wordOf 46 = .ok (.if_icmp .ge 14, 3) := by decide +kernel
theorem dX4_wordOf_49 : decode cX4_wordOf 49 = .ok (.aload_n 0, 1) := by decide +kernel
theorem dX4_wordOf_50 : decode cX4_wordOf 50 = .ok (.iload_n 1, 1) := by decide +kernel
theorem dX4_wordOf_51 : decode cX4_wordOf 51 = .ok (.iload 5, 2) := by decide +kernel
theorem dX4_wordOf_53 : decode cX4_wordOf 53 = .ok (.iadd, 1) := by decide +kernel
theorem dX4_wordOf_54 : decode cX4_wordOf 54 = .ok (.invokevirtual 56, 3) := by decide +kernel
theorem dX4_wordOf_57 : decode cX4_wordOf 57 = .ok (.goto 5, 3) := by decide +kernel
theorem dX4_wordOf_60 : decode cX4_wordOf 60 = .ok (.bipush 32, 2) := by decide +kernel
theorem dX4_wordOf_62 : decode cX4_wordOf 62 = .ok (.istore 7, 2) := by decide +kernel
theorem dX4_wordOf_64 : decode cX4_wordOf 64 = .ok (.iload 6, 2) := by decide +kernel
theorem dX4_wordOf_66 : decode cX4_wordOf 66 = .ok (.ldc 103, 2) := by decide +kernel
theorem dX4_wordOf_68 : decode cX4_wordOf 68 = .ok (.invokevirtual 105, 3) := by decide +kernel
theorem dX4_wordOf_71 : decode cX4_wordOf 71 = .ok (.if_icmp .ge 18, 3) := by decide +kernel
theorem dX4_wordOf_74 : decode cX4_wordOf 74 = .ok (.ldc 103, 2) := by decide +kernel
theorem dX4_wordOf_76 : decode cX4_wordOf 76 = .ok (.iload 6, 2) := by decide +kernel
theorem dX4_wordOf_78 : decode cX4_wordOf 78 = .ok (.invokevirtual 109, 3) := by decide +kernel
theorem dX4_wordOf_81 : decode cX4_wordOf 81 = .ok (.iload 7, 2) := by decide +kernel
theorem dX4_wordOf_83 : decode cX4_wordOf 83 = .ok (.if_icmp .ne 6, 3) := by decide +kernel
theorem dX4_wordOf_86 : decode cX4_wordOf 86 = .ok (.iinc 4 1, 3) := by decide +kernel
theorem dX4_wordOf_89 : decode cX4_wordOf 89 = .ok (.iinc 5 1, 3) := by decide +kernel
theorem dX4_wordOf_92 : decode cX4_wordOf 92 = .ok (.goto (-70), 3) := by decide +kernel
theorem dX4_wordOf_95 : decode cX4_wordOf 95 = .ok (.iload 4, 2) := by decide +kernel
theorem dX4_wordOf_97 : decode cX4_wordOf 97 = .ok (.iconst 5, 1) := by decide +kernel
theorem dX4_wordOf_98 : decode cX4_wordOf 98 = .ok (.if_icmp .ne 5, 3) := by decide +kernel
theorem dX4_wordOf_101 : decode cX4_wordOf 101 = .ok (.iload_n 3, 1) := by decide +kernel
theorem dX4_wordOf_102 : decode cX4_wordOf 102 = .ok (.ireturn, 1) := by decide +kernel
theorem dX4_wordOf_103 : decode cX4_wordOf 103 = .ok (.iinc 3 1, 3) := by decide +kernel
theorem dX4_wordOf_106 : decode cX4_wordOf 106 = .ok (.goto (-96), 3) := by decide +kernel
theorem dX4_wordOf_109 : decode cX4_wordOf 109 = .ok (.bipush (-9), 2) := by decide +kernel
theorem dX4_wordOf_111 : decode cX4_wordOf 111 = .ok (.ireturn, 1) := by decide +kernel
theorem dX4_putPlaces_0 : decode cX4_putPlaces 0 = .ok (.iconst 0, 1) := by decide +kernel
theorem dX4_putPlaces_1 : decode cX4_putPlaces 1 = .ok (.istore_n 1, 1) := by decide +kernel
theorem dX4_putPlaces_2 : decode cX4_putPlaces 2 = .ok (.iload_n 1, 1) := by decide +kernel
theorem dX4_putPlaces_3 : decode cX4_putPlaces 3 = .ok (.aload_n 0, 1) := by decide +kernel
theorem dX4_putPlaces_4 : decode cX4_putPlaces 4 = .ok (.getfield 45, 3) := by decide +kernel
theorem dX4_putPlaces_7 : decode cX4_putPlaces 7 = .ok (.getfield 49, 3) := by decide +kernel
theorem dX4_putPlaces_10 : decode cX4_putPlaces 10 = .ok (.if_icmp .ge 67, 3) := by decide +kernel
theorem dX4_putPlaces_13 : decode cX4_putPlaces 13 = .ok (.iload_n 1, 1) := by decide +kernel
theorem dX4_putPlaces_14 : decode cX4_putPlaces 14 = .ok (.sipush 256, 3) := by decide +kernel
theorem dX4_putPlaces_17 : decode cX4_putPlaces 17 = .ok (.if_icmp .ge 60, 3) := by decide +kernel
theorem dX4_putPlaces_20 : decode cX4_putPlaces 20 = .ok (.aload_n 0, 1) := by decide +kernel
theorem dX4_putPlaces_21 : decode cX4_putPlaces 21 = .ok (.getfield 15, 3) := by decide +kernel
theorem dX4_putPlaces_24 : decode cX4_putPlaces 24 = .ok (.iload_n 1, 1) := by decide +kernel
theorem dX4_putPlaces_25 : decode cX4_putPlaces 25 = .ok (.iaload, 1) := by decide +kernel
theorem dX4_putPlaces_26 : decode cX4_putPlaces 26 = .ok (.istore_n 2, 1) := by decide +kernel
theorem dX4_putPlaces_27 : decode cX4_putPlaces 27 = .ok (.iload_n 2, 1) := by decide +kernel
theorem dX4_putPlaces_28 : decode cX4_putPlaces 28 = .ok (.ifCond .lt 43, 3) := by decide +kernel
theorem dX4_putPlaces_31 : decode cX4_putPlaces 31 = .ok (.iload_n 2, 1) := by decide +kernel
theorem dX4_putPlaces_32 : decode cX4_putPlaces 32 = .ok (.bipush 26, 2) := by decide +kernel
theorem dX4_putPlaces_34 : decode cX4_putPlaces 34 = .ok (.if_icmp .ge 37, 3) := by decide +kernel
theorem dX4_putPlaces_37 : decode cX4_putPlaces 37 = .ok (.aload_n 0, 1) := by decide +kernel
theorem dX4_putPlaces_38 : decode cX4_putPlaces 38 = .ok (.getfield 11, 3) := by decide +kernel
theorem dX4_putPlaces_41 : decode cX4_putPlaces 41 = .ok (.iload_n 2, 1) := by decide +kernel
theorem dX4_putPlaces_42 : decode cX4_putPlaces 42 = .ok (.iaload, 1) := by decide +kernel
theorem dX4_putPlaces_43 : decode cX4_putPlaces 43 = .ok (.bipush (-9), 2) := by decide +kernel
theorem dX4_putPlaces_45 : decode cX4_putPlaces 45 = .ok (.if_icmp .ne 12, 3) := by decide +kernel
theorem dX4_putPlaces_48 : decode cX4_putPlaces 48 = .ok (.aload_n 0, 1) := by decide +kernel
theorem dX4_putPlaces_49 : decode cX4_putPlaces 49 = .ok (.getfield 45, 3) := by decide +kernel
theorem dX4_putPlaces_52 : decode cX4_putPlaces 52 = .ok (.iload_n 1, 1) := by decide +kernel
theorem dX4_putPlaces_53 : decode cX4_putPlaces 53 = .ok (.invokevirtual 113, 3) := by decide +kernel
theorem dX4_putPlaces_56 : decode cX4_putPlaces 56 = .ok (.ireturn, 1) := by decide +kernel
theorem dX4_putPlaces_57 : decode cX4_putPlaces 57 = .ok (.aload_n 0, 1) := by decide +kernel
theorem dX4_putPlaces_58 : decode cX4_putPlaces 58 = .ok (.getfield 45, 3) := by decide +kernel
theorem dX4_putPlaces_61 : decode cX4_putPlaces 61 = .ok (.iload_n 1, 1) := by decide +kernel
theorem dX4_putPlaces_62 : decode cX4_putPlaces 62 = .ok (.aload_n 0, 1) := by decide +kernel
theorem dX4_putPlaces_63 : decode cX4_putPlaces 63 = .ok (.getfield 11, 3) := by decide +kernel
theorem dX4_putPlaces_66 : decode cX4_putPlaces 66 = .ok (.iload_n 2, 1) := by decide +kernel
theorem dX4_putPlaces_67 : decode cX4_putPlaces 67 = .ok (.iaload, 1) := by decide +kernel
theorem dX4_putPlaces_68 : decode cX4_putPlaces 68 = .ok (.invokevirtual 116, 3) := by decide +kernel
theorem dX4_putPlaces_71 : decode cX4_putPlaces 71 = .ok (.iinc 1 1, 3) := by decide +kernel
theorem dX4_putPlaces_74 : decode cX4_putPlaces 74 = .ok (.goto (-72), 3) := by decide +kernel
theorem dX4_putPlaces_77 : decode cX4_putPlaces 77 = .ok (.bipush (-9), 2) := by decide +kernel
theorem dX4_putPlaces_79 : decode cX4_putPlaces 79 = .ok (.ireturn, 1) := by decide +kernel
theorem dX5_init_0 : decode cX5_init 0 = .ok (.aload_n 0, 1) := by decide +kernel
theorem dX5_init_1 : decode cX5_init 1 = .ok (.invokespecial 3, 3) := by decide +kernel
theorem dX5_init_4 : decode cX5_init 4 = .ok (.return_, 1) := by decide +kernel
theorem dX5_faultIn_0 : decode cX5_faultIn 0 = .ok (.aload_n 0, 1) := by decide +kernel
theorem dX5_faultIn_1 : decode cX5_faultIn 1 = .ok (.getfield 9, 3) := by decide +kernel
theorem dX5_faultIn_4 : decode cX5_faultIn 4 = .ok (.iconst 0, 1) := by decide +kernel
theorem dX5_faultIn_5 : decode cX5_faultIn 5 = .ok (.putfield 15, 3) := by decide +kernel
theorem dX5_faultIn_8 : decode cX5_faultIn 8 = .ok (.aload_n 1, 1) := by decide +kernel
theorem dX5_faultIn_9 : decode cX5_faultIn 9 = .ok (.iconst 0, 1) := by decide +kernel
theorem dX5_faultIn_10 : decode cX5_faultIn 10 = .ok (.invokevirtual 21, 3) := by decide +kernel
theorem dX5_faultIn_13 : decode cX5_faultIn 13 = .ok (.istore_n 2, 1) := by decide +kernel
theorem dX5_faultIn_14 : decode cX5_faultIn 14 = .ok (.iconst 0, 1) := by decide +kernel
theorem dX5_faultIn_15 : decode cX5_faultIn 15 = .ok (.istore_n 3, 1) := by decide +kernel
theorem dX5_faultIn_16 : decode cX5_faultIn 16 = .ok (.iload_n 3, 1) := by decide +kernel
theorem dX5_faultIn_17 : decode cX5_faultIn 17 = .ok (.sipush 200, 3) := by decide +kernel
theorem dX5_faultIn_20 : decode cX5_faultIn 20 = .ok (.if_icmp .ge 86, 3) := by decide +kernel
theorem dX5_faultIn_23 : decode cX5_faultIn 23 = .ok (.iload_n 2, 1) := by decide +kernel
theorem dX5_faultIn_24 : decode cX5_faultIn 24 = .ok (.aload_n 1, 1) := by decide +kernel
theorem dX5_faultIn_25 : decode cX5_faultIn 25 = .ok (.getfield 27, 3) := by decide +kernel
theorem dX5_faultIn_28 : decode cX5_faultIn 28 = .ok (.if_icmp .ge 78, 3) := by decide +kernel
theorem dX5_faultIn_31 : decode cX5_faultIn 31 = .ok (.aload_n 1, 1) := by decide +kernel
theorem dX5_faultIn_32 : decode cX5_faultIn 32 = .ok (.iload_n 2, 1) := by decide +kernel
theorem dX5_faultIn_33 : decode cX5_faultIn 33 = .ok (.invokevirtual 28, 3) := by decide +kernel
theorem dX5_faultIn_36 : decode cX5_faultIn 36 = .ok (.invokestatic 31, 3) := by decide +kernel
theorem dX5_faultIn_39 : decode cX5_faultIn 39 = .ok (.istore 4, 2) := by decide +kernel
theorem dX5_faultIn_41 : decode cX5_faultIn 41 = .ok (.iload 4, 2) := by decide +kernel
theorem dX5_faultIn_43 : decode cX5_faultIn 43 = .ok (.bipush (-9), 2) := by decide +kernel
theorem dX5_faultIn_45 : decode cX5_faultIn 45 = .ok (.if_icmp .ne 5, 3) := by decide +kernel
theorem dX5_faultIn_48 : decode cX5_faultIn 48 = .ok (.iload_n 2, 1) := by decide +kernel
theorem dX5_faultIn_49 : decode cX5_faultIn 49 = .ok (.ireturn, 1) := by decide +kernel
theorem dX5_faultIn_50 : decode cX5_faultIn 50 = .ok (.aload_n 1, 1) := by decide +kernel
theorem dX5_faultIn_51 : decode cX5_faultIn 51 = .ok (.iload_n 2, 1) := by decide +kernel
theorem dX5_faultIn_52 : decode cX5_faultIn 52 = .ok (.iconst 1, 1) := by decide +kernel
theorem dX5_faultIn_53 : decode cX5_faultIn 53 = .ok (.iadd, 1) := by decide +kernel
theorem dX5_faultIn_54 : decode cX5_faultIn 54 = .ok (.invokevirtual 28, 3) := by decide +kernel
theorem dX5_faultIn_57 : decode cX5_faultIn 57 = .ok (.invokestatic 31, 3) := by decide +kernel
theorem dX5_faultIn_60 : decode cX5_faultIn 60 = .ok (.istore 5, 2) := by decide +kernel
theorem dX5_faultIn_62 : decode cX5_faultIn 62 = .ok (.iload 5, 2) := by decide +kernel
theorem dX5_faultIn_64 : decode cX5_faultIn 64 = .ok (.bipush (-9), 2) := by decide +kernel
theorem dX5_faultIn_66 : decode cX5_faultIn 66 = .ok (.if_icmp .eq 22, 3) := by decide +kernel
theorem dX5_faultIn_69 : decode cX5_faultIn 69 = .ok (.aload_n 0, 1) := by decide +kernel
theorem dX5_faultIn_70 : decode cX5_faultIn 70 = .ok (.getfield 9, 3) := by decide +kernel
theorem dX5_faultIn_73 : decode cX5_faultIn 73 = .ok (.bipush 16, 2) := by decide +kernel
theorem dX5_faultIn_75 : decode cX5_faultIn 75 = .ok (.iload 4, 2) := by decide +kernel
theorem dX5_faultIn_77 : decode cX5_faultIn 77 = .ok (.imul, 1) := by decide +kernel
theorem dX5_faultIn_78 : decode cX5_faultIn 78 = .ok (.iload 5, 2) := by decide +kernel
theorem dX5_faultIn_80 : decode cX5_faultIn 80 = .ok (.iadd, 1) := by decide +kernel
theorem dX5_faultIn_81 : decode cX5_faultIn 81 = .ok (.iload_n 2, 1) := by decide +kernel
theorem dX5_faultIn_82 : decode cX5_faultIn 82 = .ok (.invokevirtual 34, 3) := by decide +kernel
theorem dX5_faultIn_85 : decode cX5_faultIn 85 = .ok (.ifCond .ne 7, 3) := by decide +kernel
theorem dX5_faultIn_88 : decode cX5_faultIn 88 = .ok (.iload_n 2, 1) := by decide +kernel
theorem dX5_faultIn_89 : decode cX5_faultIn 89 = .ok (.iconst 1, 1) := by decide +kernel
theorem dX5_faultIn_90 : decode cX5_faultIn 90 = .ok (.iadd, 1) := by decide +kernel
theorem dX5_faultIn_91 : decode cX5_faultIn 91 = .ok (.ireturn, 1) := by decide +kernel
theorem dX5_faultIn_92 : decode cX5_faultIn 92 = .ok (.aload_n 1, 1) := by decide +kernel
theorem dX5_faultIn_93 : decode cX5_faultIn 93 = .ok (.iload_n 2, 1) := by decide +kernel
theorem dX5_faultIn_94 : decode cX5_faultIn 94 = .ok (.iconst 2, 1) := by decide +kernel
theorem dX5_faultIn_95 : decode cX5_faultIn 95 = .ok (.iadd, 1) := by decide +kernel
theorem dX5_faultIn_96 : decode cX5_faultIn 96 = .ok (.invokevirtual 21, 3) := by decide +kernel
theorem dX5_faultIn_99 : decode cX5_faultIn 99 = .ok (.istore_n 2, 1) := by decide +kernel
theorem dX5_faultIn_100 : decode cX5_faultIn 100 = .ok (.iinc 3 1, 3) := by decide +kernel
theorem dX5_faultIn_103 : decode cX5_faultIn 103 = .ok (.goto (-87), 3) := by decide +kernel
theorem dX5_faultIn_106 : decode cX5_faultIn 106 = .ok (.aload_n 0, 1) := by decide +kernel
theorem dX5_faultIn_107 : decode cX5_faultIn 107 = .ok (.getfield 9, 3) := by decide +kernel
theorem dX5_faultIn_110 : decode cX5_faultIn 110 = .ok (.getfield 15, 3) := by decide +kernel
theorem dX5_faultIn_113 : decode cX5_faultIn 113 = .ok (.ifCond .ne 10, 3) := by decide +kernel
theorem dX5_faultIn_116 : decode cX5_faultIn 116 = .ok (.aload_n 1, 1) := by decide +kernel
theorem dX5_faultIn_117 : decode cX5_faultIn 117 = .ok (.getfield 27, 3) := by decide +kernel
theorem dX5_faultIn_120 : decode cX5_faultIn 120 = .ok (.goto 5, 3) := by decide +kernel
theorem dX5_faultIn_123 : decode cX5_faultIn 123 = .ok (.bipush (-9), 2) := by decide +kernel
theorem dX5_faultIn_125 : decode cX5_faultIn 125 = .ok (.ireturn, 1) := by decide +kernel
theorem dX5_digit_0 : decode cX5_digit 0 = .ok (.iload_n 0, 1) := by decide +kernel
theorem dX5_digit_1 : decode cX5_digit 1 = .ok (.bipush 48, 2) := by decide +kernel
theorem dX5_digit_3 : decode cX5_digit 3 = .ok (.if_icmp .lt 14, 3) := by decide +kernel
theorem dX5_digit_6 : decode cX5_digit 6 = .ok (.iload_n 0, 1) := by decide +kernel
theorem dX5_digit_7 : decode cX5_digit 7 = .ok (.bipush 57, 2) := by decide +kernel
theorem dX5_digit_9 : decode cX5_digit 9 = .ok (.if_icmp .gt 8, 3) := by decide +kernel
theorem dX5_digit_12 : decode cX5_digit 12 = .ok (.iload_n 0, 1) := by decide +kernel
theorem dX5_digit_13 : decode cX5_digit 13 = .ok (.bipush 48, 2) := by decide +kernel
theorem dX5_digit_15 : decode cX5_digit 15 = .ok (.isub, 1) := by decide +kernel
theorem dX5_digit_16 : decode cX5_digit 16 = .ok (.ireturn, 1) := by decide +kernel
theorem dX5_digit_17 : decode cX5_digit 17 = .ok (.iload_n 0, 1) := by decide +kernel
theorem dX5_digit_18 : decode cX5_digit 18 = .ok (.bipush 97, 2) := by decide +kernel
theorem dX5_digit_20 : decode cX5_digit 20 = .ok (.if_icmp .lt 19, 3) := by decide +kernel
theorem dX5_digit_23 : decode cX5_digit 23 = .ok (.iload_n 0, 1) := by decide +kernel
theorem dX5_digit_24 : decode cX5_digit 24 = .ok (.bipush 102, 2) := by decide +kernel
theorem dX5_digit_26 : decode cX5_digit 26 = .ok (.if_icmp .gt 13, 3) := by decide +kernel
theorem dX5_digit_29 : decode cX5_digit 29 = .ok (.iload_n 0, 1) := by decide +kernel
theorem dX5_digit_30 : decode cX5_digit 30 = .ok (.bipush 97, 2) := by decide +kernel
theorem dX5_digit_32 : decode cX5_digit 32 = .ok (.isub, 1) := by decide +kernel
theorem dX5_digit_33 : decode cX5_digit 33 = .ok (.bipush 10, 2) := by decide +kernel
theorem dX5_digit_35 : decode cX5_digit 35 = .ok (.iadd, 1) := by decide +kernel
theorem dX5_digit_36 : decode cX5_digit 36 = .ok (.goto 5, 3) := by decide +kernel
theorem dX5_digit_39 : decode cX5_digit 39 = .ok (.bipush (-9), 2) := by decide +kernel
theorem dX5_digit_41 : decode cX5_digit 41 = .ok (.ireturn, 1) := by decide +kernel
theorem dX6_init_0 : decode cX6_init 0 = .ok (.aload_n 0, 1) := by decide +kernel
theorem dX6_init_1 : decode cX6_init 1 = .ok (.invokespecial 3, 3) := by decide +kernel
theorem dX6_init_4 : decode cX6_init 4 = .ok (.aload_n 0, 1) := by decide +kernel
theorem dX6_init_5 : decode cX6_init 5 = .ok (.sipush 200, 3) := by decide +kernel
theorem dX6_init_8 : decode cX6_init 8 = .ok (.newarray .int, 2) := by decide +kernel
theorem dX6_init_10 : decode cX6_init 10 = .ok (.putfield 9, 3) := by decide +kernel
theorem dX6_init_13 : decode cX6_init 13 = .ok (.aload_n 0, 1) := by decide +kernel
theorem dX6_init_14 : decode cX6_init 14 = .ok (.iconst 0, 1) := by decide +kernel
theorem dX6_init_15 : decode cX6_init 15 = .ok (.putfield 15, 3) := by decide +kernel
theorem dX6_init_18 : decode cX6_init 18 = .ok (.return_, 1) := by decide +kernel
theorem dX6_at_0 : decode cX6_at 0 = .ok (.iload_n 1, 1) := by decide +kernel
theorem dX6_at_1 : decode cX6_at 1 = .ok (.ifCond .lt 18, 3) := by decide +kernel
theorem dX6_at_4 : decode cX6_at 4 = .ok (.iload_n 1, 1) := by decide +kernel
theorem dX6_at_5 : decode cX6_at 5 = .ok (.aload_n 0, 1) := by decide +kernel
end
section
theorem dX6_at_6 : decode cX6_at 6 = .ok (.getfield 15, 3) := by decide +kernel
theorem dX6_at_9 : decode cX6_at 9 = .ok (.if_icmp .ge 10, 3) := by decide +kernel
theorem dX6_at_12 : decode cX6_at 12 = .ok (.iload_n 1, 1) := by decide +kernel
theorem dX6_at_13 : decode cX6_at 13 = .ok (.sipush 200, 3) := by decide +kernel
theorem dX6_at_16 : decode cX6_at 16 = .ok (.if_icmp .lt 7, 3) := by decide +kernel
theorem dX6_at_19 : decode cX6_at 19 = .ok (.iconst (-1), 1) := by decide +kernel
theorem dX6_at_20 : decode cX6_at 20 = .ok (.goto 9, 3) := by decide +kernel
theorem dX6_at_23 : decode cX6_at 23 = .ok (.aload_n 0, 1) := by decide +kernel
theorem dX6_at_24 : decode cX6_at 24 = .ok (.getfield 9, 3) := by decide +kernel
theorem dX6_at_27 : decode cX6_at 27 = .ok (.iload_n 1, 1) := by decide +kernel
theorem dX6_at_28 : decode cX6_at 28 = .ok (.iaload, 1) := by decide +kernel
theorem dX6_at_29 : decode cX6_at 29 = .ok (.ireturn, 1) := by decide +kernel
theorem dX6_add_0 : decode cX6_add 0 = .ok (.aload_n 0, 1) := by decide +kernel
theorem dX6_add_1 : decode cX6_add 1 = .ok (.getfield 15, 3) := by decide +kernel
theorem dX6_add_4 : decode cX6_add 4 = .ok (.ifCond .lt 33, 3) := by decide +kernel
theorem dX6_add_7 : decode cX6_add 7 = .ok (.aload_n 0, 1) := by decide +kernel
theorem dX6_add_8 : decode cX6_add 8 = .ok (.getfield 15, 3) := by decide +kernel
theorem dX6_add_11 : decode cX6_add 11 = .ok (.sipush 200, 3) := by decide +kernel
theorem dX6_add_14 : decode cX6_add 14 = .ok (.if_icmp .ge 23, 3) := by decide +kernel
theorem dX6_add_17 : decode cX6_add 17 = .ok (.aload_n 0, 1) := by decide +kernel
theorem dX6_add_18 : decode cX6_add 18 = .ok (.getfield 9, 3) := by decide +kernel
theorem dX6_add_21 : decode cX6_add 21 = .ok (.aload_n 0, 1) := by decide +kernel
theorem dX6_add_22 : decode cX6_add 22 = .ok (.getfield 15, 3) := by decide +kernel
theorem dX6_add_25 : decode cX6_add 25 = .ok (.iload_n 1, 1) := by decide +kernel
theorem dX6_add_26 : decode cX6_add 26 = .ok (.iastore, 1) := by decide +kernel
theorem dX6_add_27 : decode cX6_add 27 = .ok (.aload_n 0, 1) := by decide +kernel
theorem dX6_add_28 : decode cX6_add 28 = .ok (.dup, 1) := by decide +kernel
theorem dX6_add_29 : decode cX6_add 29 = .ok (.getfield 15, 3) := by decide +kernel
theorem dX6_add_32 : decode cX6_add 32 = .ok (.iconst 1, 1) := by decide +kernel
theorem dX6_add_33 : decode cX6_add 33 = .ok (.iadd, 1) := by decide +kernel
theorem dX6_add_34 : decode cX6_add 34 = .ok (.putfield 15, 3) := by decide +kernel
theorem dX6_add_37 : decode cX6_add 37 = .ok (.return_, 1) := by decide +kernel
theorem dX6_become_0 : decode cX6_become 0 = .ok (.aload_n 0, 1) := by decide +kernel
theorem dX6_become_1 : decode cX6_become 1 = .ok (.iconst 0, 1) := by decide +kernel
theorem dX6_become_2 : decode cX6_become 2 = .ok (.putfield 15, 3) := by decide +kernel
theorem dX6_become_5 : decode cX6_become 5 = .ok (.iconst 0, 1) := by decide +kernel
theorem dX6_become_6 : decode cX6_become 6 = .ok (.istore_n 2, 1) := by decide +kernel
theorem dX6_become_7 : decode cX6_become 7 = .ok (.iload_n 2, 1) := by decide +kernel
theorem dX6_become_8 : decode cX6_become 8 = .ok (.aload_n 1, 1) := by decide +kernel
theorem dX6_become_9 : decode cX6_become 9 = .ok (.getfield 15, 3) := by decide +kernel
theorem dX6_become_12 : decode cX6_become 12 = .ok (.if_icmp .ge 18, 3) := by decide +kernel
theorem dX6_become_15 : decode cX6_become 15 = .ok (.aload_n 0, 1) := by decide +kernel
theorem dX6_become_16 : decode cX6_become 16 = .ok (.aload_n 1, 1) := by decide +kernel
theorem dX6_become_17 : decode cX6_become 17 = .ok (.iload_n 2, 1) := by decide +kernel
theorem dX6_become_18 : decode cX6_become 18 = .ok (.invokevirtual 19, 3) := by decide +kernel
theorem dX6_become_21 : decode cX6_become 21 = .ok (.invokevirtual 23, 3) := by decide +kernel
theorem dX6_become_24 : decode cX6_become 24 = .ok (.iinc 2 1, 3) := by decide +kernel
theorem dX6_become_27 : decode cX6_become 27 = .ok (.goto (-20), 3) := by decide +kernel
theorem dX6_become_30 : decode cX6_become 30 = .ok (.return_, 1) := by decide +kernel
theorem dX6_pastGap_0 : decode cX6_pastGap 0 = .ok (.iconst 0, 1) := by decide +kernel
theorem dX6_pastGap_1 : decode cX6_pastGap 1 = .ok (.istore_n 2, 1) := by decide +kernel
theorem dX6_pastGap_2 : decode cX6_pastGap 2 = .ok (.iload_n 1, 1) := by decide +kernel
theorem dX6_pastGap_3 : decode cX6_pastGap 3 = .ok (.istore_n 3, 1) := by decide +kernel
theorem dX6_pastGap_4 : decode cX6_pastGap 4 = .ok (.iload_n 3, 1) := by decide +kernel
theorem dX6_pastGap_5 : decode cX6_pastGap 5 = .ok (.aload_n 0, 1) := by decide +kernel
theorem dX6_pastGap_6 : decode cX6_pastGap 6 = .ok (.getfield 15, 3) := by decide +kernel
theorem dX6_pastGap_9 : decode cX6_pastGap 9 = .ok (.if_icmp .ge 53, 3) := by decide +kernel
theorem dX6_pastGap_12 : decode cX6_pastGap 12 = .ok (.aload_n 0, 1) := by decide +kernel
theorem dX6_pastGap_13 : decode cX6_pastGap 13 = .ok (.iload_n 3, 1) := by decide +kernel
theorem dX6_pastGap_14 : decode cX6_pastGap 14 = .ok (.invokevirtual 19, 3) := by decide +kernel
theorem dX6_pastGap_17 : decode cX6_pastGap 17 = .ok (.istore 4, 2) := by decide +kernel
theorem dX6_pastGap_19 : decode cX6_pastGap 19 = .ok (.iload 4, 2) := by decide +kernel
theorem dX6_pastGap_21 : decode cX6_pastGap 21 = .ok (.bipush 10, 2) := by decide +kernel
theorem dX6_pastGap_23 : decode cX6_pastGap 23 = .ok (.if_icmp .ne 8, 3) := by decide +kernel
theorem dX6_pastGap_26 : decode cX6_pastGap 26 = .ok (.iconst 0, 1) := by decide +kernel
theorem dX6_pastGap_27 : decode cX6_pastGap 27 = .ok (.istore_n 2, 1) := by decide +kernel
theorem dX6_pastGap_28 : decode cX6_pastGap 28 = .ok (.goto 28, 3) := by decide +kernel
theorem dX6_pastGap_31 : decode cX6_pastGap 31 = .ok (.iload 4, 2) := by decide +kernel
theorem dX6_pastGap_33 : decode cX6_pastGap 33 = .ok (.bipush 35, 2) := by decide +kernel
theorem dX6_pastGap_35 : decode cX6_pastGap 35 = .ok (.if_icmp .ne 8, 3) := by decide +kernel
theorem dX6_pastGap_38 : decode cX6_pastGap 38 = .ok (.iconst 1, 1) := by decide +kernel
theorem dX6_pastGap_39 : decode cX6_pastGap 39 = .ok (.istore_n 2, 1) := by decide +kernel
theorem dX6_pastGap_40 : decode cX6_pastGap 40 = .ok (.goto 16, 3) := by decide +kernel
theorem dX6_pastGap_43 : decode cX6_pastGap 43 = .ok (.iload_n 2, 1) := by decide +kernel
theorem dX6_pastGap_44 : decode cX6_pastGap 44 = .ok (.ifCond .ne 12, 3) := by decide +kernel
theorem dX6_pastGap_47 : decode cX6_pastGap 47 = .ok (.iload 4, 2) := by decide +kernel
theorem dX6_pastGap_49 : decode cX6_pastGap 49 = .ok (.bipush 32, 2) := by decide +kernel
theorem dX6_pastGap_51 : decode cX6_pastGap 51 = .ok (.if_icmp .eq 5, 3) := by decide +kernel
theorem dX6_pastGap_54 : decode cX6_pastGap 54 = .ok (.iload_n 3, 1) := by decide +kernel
theorem dX6_pastGap_55 : decode cX6_pastGap 55 = .ok (.ireturn, 1) := by decide +kernel
theorem dX6_pastGap_56 : decode cX6_pastGap 56 = .ok (.iinc 3 1, 3) := by decide +kernel
theorem dX6_pastGap_59 : decode cX6_pastGap 59 = .ok (.goto (-55), 3) := by decide +kernel
theorem dX6_pastGap_62 : decode cX6_pastGap 62 = .ok (.aload_n 0, 1) := by decide +kernel
theorem dX6_pastGap_63 : decode cX6_pastGap 63 = .ok (.getfield 15, 3) := by decide +kernel
theorem dX6_pastGap_66 : decode cX6_pastGap 66 = .ok (.ireturn, 1) := by decide +kernel
theorem dX7_init_0 : decode cX7_init 0 = .ok (.aload_n 0, 1) := by decide +kernel
theorem dX7_init_1 : decode cX7_init 1 = .ok (.invokespecial 1, 3) := by decide +kernel
theorem dX7_init_4 : decode cX7_init 4 = .ok (.aload_n 0, 1) := by decide +kernel
theorem dX7_init_5 : decode cX7_init 5 = .ok (.iconst 0, 1) := by decide +kernel
theorem dX7_init_6 : decode cX7_init 6 = .ok (.putfield 7, 3) := by decide +kernel
theorem dX7_init_9 : decode cX7_init 9 = .ok (.aload_n 0, 1) := by decide +kernel
theorem dX7_init_10 : decode cX7_init 10 = .ok (.aload_n 1, 1) := by decide +kernel
theorem dX7_init_11 : decode cX7_init 11 = .ok (.putfield 13, 3) := by decide +kernel
theorem dX7_init_14 : decode cX7_init 14 = .ok (.aload_n 0, 1) := by decide +kernel
theorem dX7_init_15 : decode cX7_init 15 = .ok (.iload_n 2, 1) := by decide +kernel
theorem dX7_init_16 : decode cX7_init 16 = .ok (.putfield 17, 3) := by decide +kernel
theorem dX7_init_19 : decode cX7_init 19 = .ok (.aload_n 0, 1) := by decide +kernel
theorem dX7_init_20 : decode cX7_init 20 = .ok (.iload_n 3, 1) := by decide +kernel
theorem dX7_init_21 : decode cX7_init 21 = .ok (.putfield 21, 3) := by decide +kernel
theorem dX7_init_24 : decode cX7_init 24 = .ok (.aload_n 0, 1) := by decide +kernel
theorem dX7_init_25 : decode cX7_init 25 = .ok (.iload 4, 2) := by decide +kernel
theorem dX7_init_27 : decode cX7_init 27 = .ok (.putfield 24, 3) := by decide +kernel
theorem dX7_init_30 : decode cX7_init 30 = .ok (.return_, 1) := by decide +kernel
theorem dX8_init_0 : decode cX8_init 0 = .ok (.aload_n 0, 1) := by decide +kernel
theorem dX8_init_1 : decode cX8_init 1 = .ok (.invokespecial 1, 3) := by decide +kernel
theorem dX8_init_4 : decode cX8_init 4 = .ok (.aload_n 0, 1) := by decide +kernel
theorem dX8_init_5 : decode cX8_init 5 = .ok (.new 7, 3) := by decide +kernel
theorem dX8_init_8 : decode cX8_init 8 = .ok (.dup, 1) := by decide +kernel
theorem dX8_init_9 : decode cX8_init 9 = .ok (.invokespecial 9, 3) := by decide +kernel
theorem dX8_init_12 : decode cX8_init 12 = .ok (.putfield 10, 3) := by decide +kernel
theorem dX8_init_15 : decode cX8_init 15 = .ok (.aload_n 0, 1) := by decide +kernel
theorem dX8_init_16 : decode cX8_init 16 = .ok (.bipush 8, 2) := by decide +kernel
theorem dX8_init_18 : decode cX8_init 18 = .ok (.anewarray 7, 3) := by decide +kernel
theorem dX8_init_21 : decode cX8_init 21 = .ok (.putfield 16, 3) := by decide +kernel
theorem dX8_init_24 : decode cX8_init 24 = .ok (.aload_n 0, 1) := by decide +kernel
theorem dX8_init_25 : decode cX8_init 25 = .ok (.bipush 12, 2) := by decide +kernel
theorem dX8_init_27 : decode cX8_init 27 = .ok (.anewarray 20, 3) := by decide +kernel
theorem dX8_init_30 : decode cX8_init 30 = .ok (.putfield 22, 3) := by decide +kernel
theorem dX8_init_33 : decode cX8_init 33 = .ok (.aload_n 0, 1) := by decide +kernel
theorem dX8_init_34 : decode cX8_init 34 = .ok (.iconst 0, 1) := by decide +kernel
theorem dX8_init_35 : decode cX8_init 35 = .ok (.putfield 26, 3) := by decide +kernel
theorem dX8_init_38 : decode cX8_init 38 = .ok (.aload_n 0, 1) := by decide +kernel
theorem dX8_init_39 : decode cX8_init 39 = .ok (.new 30, 3) := by decide +kernel
theorem dX8_init_42 : decode cX8_init 42 = .ok (.dup, 1) := by decide +kernel
theorem dX8_init_43 : decode cX8_init 43 = .ok (.invokespecial 32, 3) := by decide +kernel
theorem dX8_init_46 : decode cX8_init 46 = .ok (.putfield 33, 3) := by decide +kernel
theorem dX8_init_49 : decode cX8_init 49 = .ok (.aload_n 0, 1) := by decide +kernel
theorem dX8_init_50 : decode cX8_init 50 = .ok (.new 37, 3) := by decide +kernel
theorem dX8_init_53 : decode cX8_init 53 = .ok (.dup, 1) := by decide +kernel
theorem dX8_init_54 : decode cX8_init 54 = .ok (.invokespecial 39, 3) := by decide +kernel
theorem dX8_init_57 : decode cX8_init 57 = .ok (.putfield 40, 3) := by decide +kernel
theorem dX8_init_60 : decode cX8_init 60 = .ok (.aload_n 0, 1) := by decide +kernel
theorem dX8_init_61 : decode cX8_init 61 = .ok (.new 43, 3) := by decide +kernel
theorem dX8_init_64 : decode cX8_init 64 = .ok (.dup, 1) := by decide +kernel
theorem dX8_init_65 : decode cX8_init 65 = .ok (.invokespecial 45, 3) := by decide +kernel
theorem dX8_init_68 : decode cX8_init 68 = .ok (.putfield 46, 3) := by decide +kernel
theorem dX8_init_71 : decode cX8_init 71 = .ok (.aload_n 0, 1) := by decide +kernel
theorem dX8_init_72 : decode cX8_init 72 = .ok (.new 43, 3) := by decide +kernel
theorem dX8_init_75 : decode cX8_init 75 = .ok (.dup, 1) := by decide +kernel
theorem dX8_init_76 : decode cX8_init 76 = .ok (.invokespecial 45, 3) := by decide +kernel
theorem dX8_init_79 : decode cX8_init 79 = .ok (.putfield 50, 3) := by decide +kernel
theorem dX8_init_82 : decode cX8_init 82 = .ok (.aload_n 0, 1) := by decide +kernel
theorem dX8_init_83 : decode cX8_init 83 = .ok (.new 43, 3) := by decide +kernel
theorem dX8_init_86 : decode cX8_init 86 = .ok (.dup, 1) := by decide +kernel
theorem dX8_init_87 : decode cX8_init 87 = .ok (.invokespecial 45, 3) := by decide +kernel
theorem dX8_init_90 : decode cX8_init 90 = .ok (.putfield 53, 3) := by decide +kernel
theorem dX8_init_93 : decode cX8_init 93 = .ok (.aload_n 0, 1) := by decide +kernel
theorem dX8_init_94 : decode cX8_init 94 = .ok (.new 56, 3) := by decide +kernel
theorem dX8_init_97 : decode cX8_init 97 = .ok (.dup, 1) := by decide +kernel
theorem dX8_init_98 : decode cX8_init 98 = .ok (.invokespecial 58, 3) := by decide +kernel
theorem dX8_init_101 : decode cX8_init 101 = .ok (.putfield 59, 3) := by decide +kernel
theorem dX8_init_104 : decode cX8_init 104 = .ok (.aload_n 0, 1) := by decide +kernel
theorem dX8_init_105 : decode cX8_init 105 = .ok (.lconst 0, 1) := by decide +kernel
theorem dX8_init_106 : decode cX8_init 106 = .ok (.putfield 63, 3) := by decide +kernel
theorem dX8_init_109 : decode cX8_init 109 = .ok (.iconst 0, 1) := by decide +kernel
theorem dX8_init_110 : decode cX8_init 110 = .ok (.istore_n 1, 1) := by decide +kernel
theorem dX8_init_111 : decode cX8_init 111 = .ok (.iload_n 1, 1) := by decide +kernel
theorem dX8_init_112 : decode cX8_init 112 = .ok (.bipush 8, 2) := by decide +kernel
theorem dX8_init_114 : decode cX8_init 114 = .ok (.if_icmp .ge 22, 3) := by decide +kernel
theorem dX8_init_117 : decode cX8_init 117 = .ok (.aload_n 0, 1) := by decide +kernel
theorem dX8_init_118 : decode cX8_init 118 = .ok (.getfield 16, 3) := by decide +kernel
theorem dX8_init_121 : decode cX8_init 121 = .ok (.iload_n 1, 1) := by decide +kernel
theorem dX8_init_122 : decode cX8_init 122 = .ok (.new 7, 3) := by decide +kernel
theorem dX8_init_125 : decode cX8_init 125 = .ok (.dup, 1) := by decide +kernel
theorem dX8_init_126 : decode cX8_init 126 = .ok (.invokespecial 9, 3) := by decide +kernel
theorem dX8_init_129 : decode cX8_init 129 = .ok (.aastore, 1) := by decide +kernel
theorem dX8_init_130 : decode cX8_init 130 = .ok (.iinc 1 1, 3) := by decide +kernel
theorem dX8_init_133 : decode cX8_init 133 = .ok (.goto (-22), 3) := by decide +kernel
theorem dX8_init_136 : decode cX8_init 136 = .ok (.return_, 1) := by decide +kernel
theorem dX8_type_0 : decode cX8_type 0 = .ok (.iload_n 3, 1) := by decide +kernel
theorem dX8_type_1 : decode cX8_type 1 = .ok (.iconst 1, 1) := by decide +kernel
theorem dX8_type_2 : decode cX8_type 2 = .ok (.if_icmp .lt 9, 3) := by decide +kernel
theorem dX8_type_5 : decode cX8_type 5 = .ok (.iload_n 3, 1) := by decide +kernel
theorem dX8_type_6 : decode cX8_type 6 = .ok (.bipush 8, 2) := by decide +kernel
theorem dX8_type_8 : decode cX8_type 8 = .ok (.if_icmp .le 5, 3) := by decide +kernel
theorem dX8_type_11 : decode cX8_type 11 = .ok (.iconst (-1), 1) := by decide +kernel
theorem dX8_type_12 : decode cX8_type 12 = .ok (.ireturn, 1) := by decide +kernel
theorem dX8_type_13 : decode cX8_type 13 = .ok (.aload_n 0, 1) := by decide +kernel
theorem dX8_type_14 : decode cX8_type 14 = .ok (.getfield 10, 3) := by decide +kernel
theorem dX8_type_17 : decode cX8_type 17 = .ok (.getfield 67, 3) := by decide +kernel
theorem dX8_type_20 : decode cX8_type 20 = .ok (.iload_n 3, 1) := by decide +kernel
theorem dX8_type_21 : decode cX8_type 21 = .ok (.iadd, 1) := by decide +kernel
theorem dX8_type_22 : decode cX8_type 22 = .ok (.sipush 200, 3) := by decide +kernel
theorem dX8_type_25 : decode cX8_type 25 = .ok (.if_icmp .le 6, 3) := by decide +kernel
theorem dX8_type_28 : decode cX8_type 28 = .ok (.bipush (-3), 2) := by decide +kernel
theorem dX8_type_30 : decode cX8_type 30 = .ok (.ireturn, 1) := by decide +kernel
theorem dX8_type_31 : decode cX8_type 31 = .ok (.iload_n 3, 1) := by decide +kernel
theorem dX8_type_32 : decode cX8_type 32 = .ok (.iconst 1, 1) := by decide +kernel
theorem dX8_type_33 : decode cX8_type 33 = .ok (.isub, 1) := by decide +kernel
theorem dX8_type_34 : decode cX8_type 34 = .ok (.istore 4, 2) := by decide +kernel
theorem dX8_type_36 : decode cX8_type 36 = .ok (.iload 4, 2) := by decide +kernel
theorem dX8_type_38 : decode cX8_type 38 = .ok (.ifCond .lt 28, 3) := by decide +kernel
theorem dX8_type_41 : decode cX8_type 41 = .ok (.aload_n 0, 1) := by decide +kernel
theorem dX8_type_42 : decode cX8_type 42 = .ok (.getfield 10, 3) := by decide +kernel
theorem dX8_type_45 : decode cX8_type 45 = .ok (.lload_n 1, 1) := by decide +kernel
theorem dX8_type_46 : decode cX8_type 46 = .ok (.bipush 8, 2) := by decide +kernel
theorem dX8_type_48 : decode cX8_type 48 = .ok (.iload 4, 2) := by decide +kernel
theorem dX8_type_50 : decode cX8_type 50 = .ok (.imul, 1) := by decide +kernel
theorem dX8_type_51 : decode cX8_type 51 = .ok (.lushr, 1) := by decide +kernel
theorem dX8_type_52 : decode cX8_type 52 = .ok (.l2i, 1) := by decide +kernel
theorem dX8_type_53 : decode cX8_type 53 = .ok (.sipush 255, 3) := by decide +kernel
theorem dX8_type_56 : decode cX8_type 56 = .ok (.iand, 1) := by decide +kernel
theorem dX8_type_57 : decode cX8_type 57 = .ok (.invokevirtual 70, 3) := by decide +kernel
theorem dX8_type_60 : decode cX8_type 60 = .ok (.iinc 4 (-1), 3) := by decide +kernel
theorem dX8_type_63 : decode cX8_type 63 = .ok (.goto (-27), 3) := by decide +kernel
theorem dX8_type_66 : decode cX8_type 66 = .ok (.aload_n 0, 1) := by decide +kernel
theorem dX8_type_67 : decode cX8_type 67 = .ok (.getfield 10, 3) := by decide +kernel
theorem dX8_type_70 : decode cX8_type 70 = .ok (.getfield 67, 3) := by decide +kernel
theorem dX8_type_73 : decode cX8_type 73 = .ok (.ireturn, 1) := by decide +kernel
theorem dX8_clear_0 : decode cX8_clear 0 = .ok (.aload_n 0, 1) := by decide +kernel
theorem dX8_clear_1 : decode cX8_clear 1 = .ok (.getfield 10, 3) := by decide +kernel
theorem dX8_clear_4 : decode cX8_clear 4 = .ok (.getfield 67, 3) := by decide +kernel
theorem dX8_clear_7 : decode cX8_clear 7 = .ok (.istore_n 1, 1) := by decide +kernel
theorem dX8_clear_8 : decode cX8_clear 8 = .ok (.aload_n 0, 1) := by decide +kernel
theorem dX8_clear_9 : decode cX8_clear 9 = .ok (.getfield 10, 3) := by decide +kernel
theorem dX8_clear_12 : decode cX8_clear 12 = .ok (.iconst 0, 1) := by decide +kernel
theorem dX8_clear_13 : decode cX8_clear 13 = .ok (.putfield 67, 3) := by decide +kernel
theorem dX8_clear_16 : decode cX8_clear 16 = .ok (.iload_n 1, 1) := by decide +kernel
theorem dX8_clear_17 : decode cX8_clear 17 = .ok (.ireturn, 1) := by decide +kernel
theorem dX8_text_0 : decode cX8_text 0 = .ok (.aload_n 0, 1) := by decide +kernel
theorem dX8_text_1 : decode cX8_text 1 = .ok (.iload_n 1, 1) := by decide +kernel
theorem dX8_text_2 : decode cX8_text 2 = .ok (.invokevirtual 74, 3) := by decide +kernel
theorem dX8_text_5 : decode cX8_text 5 = .ok (.astore_n 2, 1) := by decide +kernel
theorem dX8_text_6 : decode cX8_text 6 = .ok (.aload_n 2, 1) := by decide +kernel
theorem dX8_text_7 : decode cX8_text 7 = .ok (.ifnonnull 5, 3) := by decide +kernel
theorem dX8_text_10 : decode cX8_text 10 = .ok (.iconst (-1), 1) := by decide +kernel
theorem dX8_text_11 : decode cX8_text 11 = .ok (.ireturn, 1) := by decide +kernel
theorem dX8_text_12 : decode cX8_text 12 = .ok (.aload_n 2, 1) := by decide +kernel
theorem dX8_text_13 : decode cX8_text 13 = .ok (.aload_n 0, 1) := by decide +kernel
theorem dX8_text_14 : decode cX8_text 14 = .ok (.getfield 10, 3) := by decide +kernel
theorem dX8_text_17 : decode cX8_text 17 = .ok (.invokevirtual 78, 3) := by decide +kernel
theorem dX8_text_20 : decode cX8_text 20 = .ok (.aload_n 0, 1) := by decide +kernel
theorem dX8_text_21 : decode cX8_text 21 = .ok (.getfield 10, 3) := by decide +kernel
theorem dX8_text_24 : decode cX8_text 24 = .ok (.iconst 0, 1) := by decide +kernel
theorem dX8_text_25 : decode cX8_text 25 = .ok (.putfield 67, 3) := by decide +kernel
theorem dX8_text_28 : decode cX8_text 28 = .ok (.aload_n 2, 1) := by decide +kernel
theorem dX8_text_29 : decode cX8_text 29 = .ok (.getfield 67, 3) := by decide +kernel
theorem dX8_text_32 : decode cX8_text 32 = .ok (.ireturn, 1) := by decide +kernel
theorem dX8_read_0 : decode cX8_read 0 = .ok (.aload_n 0, 1) := by decide +kernel
theorem dX8_read_1 : decode cX8_read 1 = .ok (.iload_n 1, 1) := by decide +kernel
theorem dX8_read_2 : decode cX8_read 2 = .ok (.invokevirtual 74, 3) := by decide +kernel
theorem dX8_read_5 : decode cX8_read 5 = .ok (.astore_n 3, 1) := by decide +kernel
theorem dX8_read_6 : decode cX8_read 6 = .ok (.aload_n 3, 1) := by decide +kernel
theorem dX8_read_7 : decode cX8_read 7 = .ok (.ifnonnull 7, 3) := by decide +kernel
theorem dX8_read_10 : decode cX8_read 10 = .ok (.iconst (-1), 1) := by decide +kernel
theorem dX8_read_11 : decode cX8_read 11 = .ok (.goto 8, 3) := by decide +kernel
theorem dX8_read_14 : decode cX8_read 14 = .ok (.aload_n 3, 1) := by decide +kernel
theorem dX8_read_15 : decode cX8_read 15 = .ok (.iload_n 2, 1) := by decide +kernel
theorem dX8_read_16 : decode cX8_read 16 = .ok (.invokevirtual 82, 3) := by decide +kernel
theorem dX8_read_19 : decode cX8_read 19 = .ok (.ireturn, 1) := by decide +kernel
theorem dX8_pairs_0 : decode cX8_pairs 0 = .ok (.aload_n 0, 1) := by decide +kernel
theorem dX8_pairs_1 : decode cX8_pairs 1 = .ok (.iconst 0, 1) := by decide +kernel
theorem dX8_pairs_2 : decode cX8_pairs 2 = .ok (.iload_n 1, 1) := by decide +kernel
theorem dX8_pairs_3 : decode cX8_pairs 3 = .ok (.invokevirtual 86, 3) := by decide +kernel
theorem dX8_pairs_6 : decode cX8_pairs 6 = .ok (.ireturn, 1) := by decide +kernel
theorem dX8_named_0 : decode cX8_named 0 = .ok (.aload_n 0, 1) := by decide +kernel
theorem dX8_named_1 : decode cX8_named 1 = .ok (.iconst 1, 1) := by decide +kernel
theorem dX8_named_2 : decode cX8_named 2 = .ok (.iload_n 1, 1) := by decide +kernel
theorem dX8_named_3 : decode cX8_named 3 = .ok (.invokevirtual 86, 3) := by decide +kernel
theorem dX8_named_6 : decode cX8_named 6 = .ok (.ireturn, 1) := by decide +kernel
theorem dX8_build_0 : decode cX8_build 0 = .ok (.aload_n 0, 1) := by decide +kernel
theorem dX8_build_1 : decode cX8_build 1 = .ok (.iload_n 1, 1) := by decide +kernel
theorem dX8_build_2 : decode cX8_build 2 = .ok (.invokevirtual 90, 3) := by decide +kernel
theorem dX8_build_5 : decode cX8_build 5 = .ok (.astore_n 3, 1) := by decide +kernel
theorem dX8_build_6 : decode cX8_build 6 = .ok (.aload_n 0, 1) := by decide +kernel
theorem dX8_build_7 : decode cX8_build 7 = .ok (.iload_n 2, 1) := by decide +kernel
theorem dX8_build_8 : decode cX8_build 8 = .ok (.invokevirtual 74, 3) := by decide +kernel
theorem dX8_build_11 : decode cX8_build 11 = .ok (.astore 4, 2) := by decide +kernel
theorem dX8_build_13 : decode cX8_build 13 = .ok (.aload_n 3, 1) := by decide +kernel
theorem dX8_build_14 : decode cX8_build 14 = .ok (.ifnull 8, 3) := by decide +kernel
theorem dX8_build_17 : decode cX8_build 17 = .ok (.aload 4, 2) := by decide +kernel
theorem dX8_build_19 : decode cX8_build 19 = .ok (.ifnonnull 5, 3) := by decide +kernel
theorem dX8_build_22 : decode cX8_build 22 = .ok (.iconst (-1), 1) := by decide +kernel
theorem dX8_build_23 : decode cX8_build 23 = .ok (.ireturn, 1) := by decide +kernel
theorem dX8_build_24 : decode cX8_build 24 = .ok (.aload_n 0, 1) := by decide +kernel
theorem dX8_build_25 : decode cX8_build 25 = .ok (.getfield 50, 3) := by decide +kernel
theorem dX8_build_28 : decode cX8_build 28 = .ok (.aload_n 3, 1) := by decide +kernel
theorem dX8_build_29 : decode cX8_build 29 = .ok (.getfield 94, 3) := by decide +kernel
theorem dX8_build_32 : decode cX8_build 32 = .ok (.aload 4, 2) := by decide +kernel
theorem dX8_build_34 : decode cX8_build 34 = .ok (.invokevirtual 98, 3) := by decide +kernel
theorem dX8_build_37 : decode cX8_build 37 = .ok (.ifCond .ne 6, 3) := by decide +kernel
theorem dX8_build_40 : decode cX8_build 40 = .ok (.bipush (-2), 2) := by decide +kernel
theorem dX8_build_42 : decode cX8_build 42 = .ok (.ireturn, 1) := by decide +kernel
theorem dX8_build_43 : decode cX8_build 43 = .ok (.aload_n 0, 1) := by decide +kernel
theorem dX8_build_44 : decode cX8_build 44 = .ok (.aload_n 0, 1) := by decide +kernel
theorem dX8_build_45 : decode cX8_build 45 = .ok (.getfield 50, 3) := by decide +kernel
theorem dX8_build_48 : decode cX8_build 48 = .ok (.getfield 102, 3) := by decide +kernel
theorem dX8_build_51 : decode cX8_build 51 = .ok (.iconst 2, 1) := by decide +kernel
theorem dX8_build_52 : decode cX8_build 52 = .ok (.iload_n 2, 1) := by decide +kernel
theorem dX8_build_53 : decode cX8_build 53 = .ok (.iload_n 1, 1) := by decide +kernel
theorem dX8_build_54 : decode cX8_build 54 = .ok (.invokevirtual 105, 3) := by decide +kernel
theorem dX8_build_57 : decode cX8_build 57 = .ok (.ireturn, 1) := by decide +kernel
theorem dX8_tool_0 : decode cX8_tool 0 = .ok (.aload_n 0, 1) := by decide +kernel
theorem dX8_tool_1 : decode cX8_tool 1 = .ok (.iload_n 1, 1) := by decide +kernel
theorem dX8_tool_2 : decode cX8_tool 2 = .ok (.invokevirtual 90, 3) := by decide +kernel
theorem dX8_tool_5 : decode cX8_tool 5 = .ok (.astore_n 3, 1) := by decide +kernel
theorem dX8_tool_6 : decode cX8_tool 6 = .ok (.aload_n 3, 1) := by decide +kernel
theorem dX8_tool_7 : decode cX8_tool 7 = .ok (.ifnonnull 5, 3) := by decide +kernel
theorem dX8_tool_10 : decode cX8_tool 10 = .ok (.iconst (-1), 1) := by decide +kernel
theorem dX8_tool_11 : decode cX8_tool 11 = .ok (.ireturn, 1) := by decide +kernel
theorem dX8_tool_12 : decode cX8_tool 12 = .ok (.iload_n 2, 1) := by decide +kernel
theorem dX8_tool_13 : decode cX8_tool 13 = .ok (.tableswitch 71 0 4 #[35, 43, 48, 53, 58], 35) := by decide +kernel
theorem dX8_tool_48 : decode cX8_tool 48 = .ok (.aload_n 3, 1) := by decide +kernel
theorem dX8_tool_49 : decode cX8_tool 49 = .ok (.getfield 94, 3) := by decide +kernel
theorem dX8_tool_52 : decode cX8_tool 52 = .ok (.getfield 109, 3) := by decide +kernel
theorem dX8_tool_55 : decode cX8_tool 55 = .ok (.ireturn, 1) := by decide +kernel
theorem dX8_tool_56 : decode cX8_tool 56 = .ok (.aload_n 3, 1) := by decide +kernel
theorem dX8_tool_57 : decode cX8_tool 57 = .ok (.getfield 112, 3) := by decide +kernel
theorem dX8_tool_60 : decode cX8_tool 60 = .ok (.ireturn, 1) := by decide +kernel
theorem dX8_tool_61 : decode cX8_tool 61 = .ok (.aload_n 3, 1) := by decide +kernel
theorem dX8_tool_62 : decode cX8_tool 62 = .ok (.getfield 115, 3) := by decide +kernel
theorem dX8_tool_65 : decode cX8_tool 65 = .ok (.ireturn, 1) := by decide +kernel
theorem dX8_tool_66 : decode cX8_tool 66 = .ok (.aload_n 3, 1) := by decide +kernel
theorem dX8_tool_67 : decode cX8_tool 67 = .ok (.getfield 118, 3) := by decide +kernel
theorem dX8_tool_70 : decode cX8_tool 70 = .ok (.ireturn, 1) := by decide +kernel
theorem dX8_tool_71 : decode cX8_tool 71 = .ok (.aload_n 3, 1) := by decide +kernel
theorem dX8_tool_72 : decode cX8_tool 72 = .ok (.getfield 121, 3) := by decide +kernel
theorem dX8_tool_75 : decode cX8_tool 75 = .ok (.ifCond .eq 7, 3) := by decide +kernel
theorem dX8_tool_78 : decode cX8_tool 78 = .ok (.iconst 1, 1) := by decide +kernel
theorem dX8_tool_79 : decode cX8_tool 79 = .ok (.goto 4, 3) := by decide +kernel
theorem dX8_tool_82 : decode cX8_tool 82 = .ok (.iconst 0, 1) := by decide +kernel
theorem dX8_tool_83 : decode cX8_tool 83 = .ok (.ireturn, 1) := by decide +kernel
theorem dX8_tool_84 : decode cX8_tool 84 = .ok (.iconst (-1), 1) := by decide +kernel
theorem dX8_tool_85 : decode cX8_tool 85 = .ok (.ireturn, 1) := by decide +kernel
theorem dX8_code_0 : decode cX8_code 0 = .ok (.aload_n 0, 1) := by decide +kernel
theorem dX8_code_1 : decode cX8_code 1 = .ok (.iload_n 1, 1) := by decide +kernel
theorem dX8_code_2 : decode cX8_code 2 = .ok (.invokevirtual 90, 3) := by decide +kernel
theorem dX8_code_5 : decode cX8_code 5 = .ok (.astore 4, 2) := by decide +kernel
theorem dX8_code_7 : decode cX8_code 7 = .ok (.aload 4, 2) := by decide +kernel
theorem dX8_code_9 : decode cX8_code 9 = .ok (.ifnull 12, 3) := by decide +kernel
theorem dX8_code_12 : decode cX8_code 12 = .ok (.iload_n 3, 1) := by decide +kernel
theorem dX8_code_13 : decode cX8_code 13 = .ok (.ifCond .lt 8, 3) := by decide +kernel
theorem dX8_code_16 : decode cX8_code 16 = .ok (.iload_n 3, 1) := by decide +kernel
theorem dX8_code_17 : decode cX8_code 17 = .ok (.iconst 1, 1) := by decide +kernel
theorem dX8_code_18 : decode cX8_code 18 = .ok (.if_icmp .le 5, 3) := by decide +kernel
theorem dX8_code_21 : decode cX8_code 21 = .ok (.iconst (-1), 1) := by decide +kernel
theorem dX8_code_22 : decode cX8_code 22 = .ok (.ireturn, 1) := by decide +kernel
theorem dX8_code_23 : decode cX8_code 23 = .ok (.iload_n 3, 1) := by decide +kernel
theorem dX8_code_24 : decode cX8_code 24 = .ok (.ifCond .ne 15, 3) := by decide +kernel
theorem dX8_code_27 : decode cX8_code 27 = .ok (.aload 4, 2) := by decide +kernel
theorem dX8_code_29 : decode cX8_code 29 = .ok (.getfield 94, 3) := by decide +kernel
theorem dX8_code_32 : decode cX8_code 32 = .ok (.iload_n 2, 1) := by decide +kernel
theorem dX8_code_33 : decode cX8_code 33 = .ok (.invokevirtual 125, 3) := by decide +kernel
theorem dX8_code_36 : decode cX8_code 36 = .ok (.goto 12, 3) := by decide +kernel
theorem dX8_code_39 : decode cX8_code 39 = .ok (.aload 4, 2) := by decide +kernel
theorem dX8_code_41 : decode cX8_code 41 = .ok (.getfield 94, 3) := by decide +kernel
theorem dX8_code_44 : decode cX8_code 44 = .ok (.iload_n 2, 1) := by decide +kernel
theorem dX8_code_45 : decode cX8_code 45 = .ok (.invokevirtual 126, 3) := by decide +kernel
theorem dX8_code_48 : decode cX8_code 48 = .ok (.ireturn, 1) := by decide +kernel
theorem dX8_run_0 : decode cX8_run 0 = .ok (.aload_n 0, 1) := by decide +kernel
theorem dX8_run_1 : decode cX8_run 1 = .ok (.iload_n 1, 1) := by decide +kernel
theorem dX8_run_2 : decode cX8_run 2 = .ok (.invokevirtual 90, 3) := by decide +kernel
theorem dX8_run_5 : decode cX8_run 5 = .ok (.astore_n 3, 1) := by decide +kernel
theorem dX8_run_6 : decode cX8_run 6 = .ok (.aload_n 0, 1) := by decide +kernel
theorem dX8_run_7 : decode cX8_run 7 = .ok (.iload_n 2, 1) := by decide +kernel
theorem dX8_run_8 : decode cX8_run 8 = .ok (.invokevirtual 74, 3) := by decide +kernel
theorem dX8_run_11 : decode cX8_run 11 = .ok (.astore 4, 2) := by decide +kernel
theorem dX8_run_13 : decode cX8_run 13 = .ok (.aload_n 3, 1) := by decide +kernel
theorem dX8_run_14 : decode cX8_run 14 = .ok (.ifnull 8, 3) := by decide +kernel
theorem dX8_run_17 : decode cX8_run 17 = .ok (.aload 4, 2) := by decide +kernel
theorem dX8_run_19 : decode cX8_run 19 = .ok (.ifnonnull 5, 3) := by decide +kernel
theorem dX8_run_22 : decode cX8_run 22 = .ok (.iconst (-1), 1) := by decide +kernel
theorem dX8_run_23 : decode cX8_run 23 = .ok (.ireturn, 1) := by decide +kernel
theorem dX8_run_24 : decode cX8_run 24 = .ok (.aload_n 0, 1) := by decide +kernel
theorem dX8_run_25 : decode cX8_run 25 = .ok (.getfield 46, 3) := by decide +kernel
theorem dX8_run_28 : decode cX8_run 28 = .ok (.aload_n 3, 1) := by decide +kernel
theorem dX8_run_29 : decode cX8_run 29 = .ok (.getfield 94, 3) := by decide +kernel
theorem dX8_run_32 : decode cX8_run 32 = .ok (.aload 4, 2) := by decide +kernel
theorem dX8_run_34 : decode cX8_run 34 = .ok (.invokevirtual 129, 3) := by decide +kernel
theorem dX8_run_37 : decode cX8_run 37 = .ok (.aload_n 0, 1) := by decide +kernel
theorem dX8_run_38 : decode cX8_run 38 = .ok (.getfield 46, 3) := by decide +kernel
theorem dX8_run_41 : decode cX8_run 41 = .ok (.getfield 133, 3) := by decide +kernel
theorem dX8_run_44 : decode cX8_run 44 = .ok (.ifCond .ne 16, 3) := by decide +kernel
theorem dX8_run_47 : decode cX8_run 47 = .ok (.aload_n 0, 1) := by decide +kernel
theorem dX8_run_48 : decode cX8_run 48 = .ok (.getfield 46, 3) := by decide +kernel
theorem dX8_run_51 : decode cX8_run 51 = .ok (.getfield 102, 3) := by decide +kernel
theorem dX8_run_54 : decode cX8_run 54 = .ok (.getfield 109, 3) := by decide +kernel
theorem dX8_run_57 : decode cX8_run 57 = .ok (.goto 13, 3) := by decide +kernel
theorem dX8_run_60 : decode cX8_run 60 = .ok (.bipush (-10), 2) := by decide +kernel
theorem dX8_run_62 : decode cX8_run 62 = .ok (.aload_n 0, 1) := by decide +kernel
theorem dX8_run_63 : decode cX8_run 63 = .ok (.getfield 46, 3) := by decide +kernel
theorem dX8_run_66 : decode cX8_run 66 = .ok (.getfield 133, 3) := by decide +kernel
theorem dX8_run_69 : decode cX8_run 69 = .ok (.isub, 1) := by decide +kernel
theorem dX8_run_70 : decode cX8_run 70 = .ok (.ireturn, 1) := by decide +kernel
theorem dX8_ran_0 : decode cX8_ran 0 = .ok (.iload_n 1, 1) := by decide +kernel
theorem dX8_ran_1 : decode cX8_ran 1 = .ok (.tableswitch 90 0 5 #[39, 47, 55, 63, 71, 79], 39) := by decide +kernel
theorem dX8_ran_40 : decode cX8_ran 40 = .ok (.aload_n 0, 1) := by decide +kernel
theorem dX8_ran_41 : decode cX8_ran 41 = .ok (.getfield 46, 3) := by decide +kernel
theorem dX8_ran_44 : decode cX8_ran 44 = .ok (.getfield 136, 3) := by decide +kernel
theorem dX8_ran_47 : decode cX8_ran 47 = .ok (.ireturn, 1) := by decide +kernel
theorem dX8_ran_48 : decode cX8_ran 48 = .ok (.aload_n 0, 1) := by decide +kernel
theorem dX8_ran_49 : decode cX8_ran 49 = .ok (.getfield 46, 3) := by decide +kernel
theorem dX8_ran_52 : decode cX8_ran 52 = .ok (.getfield 139, 3) := by decide +kernel
theorem dX8_ran_55 : decode cX8_ran 55 = .ok (.ireturn, 1) := by decide +kernel
theorem dX8_ran_56 : decode cX8_ran 56 = .ok (.aload_n 0, 1) := by decide +kernel
theorem dX8_ran_57 : decode cX8_ran 57 = .ok (.getfield 46, 3) := by decide +kernel
theorem dX8_ran_60 : decode cX8_ran 60 = .ok (.getfield 142, 3) := by decide +kernel
theorem dX8_ran_63 : decode cX8_ran 63 = .ok (.ireturn, 1) := by decide +kernel
theorem dX8_ran_64 : decode cX8_ran 64 = .ok (.aload_n 0, 1) := by decide +kernel
theorem dX8_ran_65 : decode cX8_ran 65 = .ok (.getfield 46, 3) := by decide +kernel
theorem dX8_ran_68 : decode cX8_ran 68 = .ok (.getfield 145, 3) := by decide +kernel
theorem dX8_ran_71 : decode cX8_ran 71 = .ok (.ireturn, 1) := by decide +kernel
theorem dX8_ran_72 : decode cX8_ran 72 = .ok (.aload_n 0, 1) := by decide +kernel
theorem dX8_ran_73 : decode cX8_ran 73 = .ok (.getfield 46, 3) := by decide +kernel
theorem dX8_ran_76 : decode cX8_ran 76 = .ok (.getfield 148, 3) := by decide +kernel
theorem dX8_ran_79 : decode cX8_ran 79 = .ok (.ireturn, 1) := by decide +kernel
theorem dX8_ran_80 : decode cX8_ran 80 = .ok (.aload_n 0, 1) := by decide +kernel
theorem dX8_ran_81 : decode cX8_ran 81 = .ok (.getfield 46, 3) := by decide +kernel
theorem dX8_ran_84 : decode cX8_ran 84 = .ok (.getfield 102, 3) := by decide +kernel
theorem dX8_ran_87 : decode cX8_ran 87 = .ok (.getfield 109, 3) := by decide +kernel
theorem dX8_ran_90 : decode cX8_ran 90 = .ok (.ireturn, 1) := by decide +kernel
theorem dX8_ran_91 : decode cX8_ran 91 = .ok (.iconst (-1), 1) := by decide +kernel
theorem dX8_ran_92 : decode cX8_ran 92 = .ok (.ireturn, 1) := by decide +kernel
theorem dX8_tape_0 : decode cX8_tape 0 = .ok (.iload_n 2, 1) := by decide +kernel
theorem dX8_tape_1 : decode cX8_tape 1 = .ok (.ifCond .ne 15, 3) := by decide +kernel
theorem dX8_tape_4 : decode cX8_tape 4 = .ok (.aload_n 0, 1) := by decide +kernel
theorem dX8_tape_5 : decode cX8_tape 5 = .ok (.getfield 46, 3) := by decide +kernel
theorem dX8_tape_8 : decode cX8_tape 8 = .ok (.getfield 102, 3) := by decide +kernel
theorem dX8_tape_11 : decode cX8_tape 11 = .ok (.iload_n 1, 1) := by decide +kernel
theorem dX8_tape_12 : decode cX8_tape 12 = .ok (.invokevirtual 125, 3) := by decide +kernel
theorem dX8_tape_15 : decode cX8_tape 15 = .ok (.ireturn, 1) := by decide +kernel
theorem dX8_tape_16 : decode cX8_tape 16 = .ok (.iload_n 2, 1) := by decide +kernel
theorem dX8_tape_17 : decode cX8_tape 17 = .ok (.iconst 1, 1) := by decide +kernel
theorem dX8_tape_18 : decode cX8_tape 18 = .ok (.if_icmp .ne 14, 3) := by decide +kernel
theorem dX8_tape_21 : decode cX8_tape 21 = .ok (.aload_n 0, 1) := by decide +kernel
theorem dX8_tape_22 : decode cX8_tape 22 = .ok (.getfield 46, 3) := by decide +kernel
theorem dX8_tape_25 : decode cX8_tape 25 = .ok (.iload_n 1, 1) := by decide +kernel
theorem dX8_tape_26 : decode cX8_tape 26 = .ok (.invokevirtual 151, 3) := by decide +kernel
theorem dX8_tape_29 : decode cX8_tape 29 = .ok (.goto 4, 3) := by decide +kernel
theorem dX8_tape_32 : decode cX8_tape 32 = .ok (.iconst (-1), 1) := by decide +kernel
theorem dX8_tape_33 : decode cX8_tape 33 = .ok (.ireturn, 1) := by decide +kernel
theorem dX8_rebuilt_0 : decode cX8_rebuilt 0 = .ok (.aload_n 0, 1) := by decide +kernel
theorem dX8_rebuilt_1 : decode cX8_rebuilt 1 = .ok (.iload_n 1, 1) := by decide +kernel
theorem dX8_rebuilt_2 : decode cX8_rebuilt 2 = .ok (.invokevirtual 90, 3) := by decide +kernel
theorem dX8_rebuilt_5 : decode cX8_rebuilt 5 = .ok (.astore_n 2, 1) := by decide +kernel
theorem dX8_rebuilt_6 : decode cX8_rebuilt 6 = .ok (.aload_n 2, 1) := by decide +kernel
theorem dX8_rebuilt_7 : decode cX8_rebuilt 7 = .ok (.ifnonnull 7, 3) := by decide +kernel
theorem dX8_rebuilt_10 : decode cX8_rebuilt 10 = .ok (.iconst (-1), 1) := by decide +kernel
theorem dX8_rebuilt_11 : decode cX8_rebuilt 11 = .ok (.goto 8, 3) := by decide +kernel
theorem dX8_rebuilt_14 : decode cX8_rebuilt 14 = .ok (.aload_n 0, 1) := by decide +kernel
theorem dX8_rebuilt_15 : decode cX8_rebuilt 15 = .ok (.aload_n 2, 1) := by decide +kernel
theorem dX8_rebuilt_16 : decode cX8_rebuilt 16 = .ok (.invokevirtual 154, 3) := by decide +kernel
theorem dX8_rebuilt_19 : decode cX8_rebuilt 19 = .ok (.ireturn, 1) := by decide +kernel
theorem dX8_stale_0 : decode cX8_stale 0 = .ok (.aload_n 0, 1) := by decide +kernel
theorem dX8_stale_1 : decode cX8_stale 1 = .ok (.invokevirtual 158, 3) := by decide +kernel
theorem dX8_stale_4 : decode cX8_stale 4 = .ok (.ireturn, 1) := by decide +kernel
theorem dX8_settles_0 : decode cX8_settles 0 = .ok (.aload_n 0, 1) := by decide +kernel
theorem dX8_settles_1 : decode cX8_settles 1 = .ok (.iload_n 1, 1) := by decide +kernel
theorem dX8_settles_2 : decode cX8_settles 2 = .ok (.invokevirtual 90, 3) := by decide +kernel
theorem dX8_settles_5 : decode cX8_settles 5 = .ok (.astore_n 3, 1) := by decide +kernel
theorem dX8_settles_6 : decode cX8_settles 6 = .ok (.aload_n 0, 1) := by decide +kernel
theorem dX8_settles_7 : decode cX8_settles 7 = .ok (.iload_n 2, 1) := by decide +kernel
theorem dX8_settles_8 : decode cX8_settles 8 = .ok (.invokevirtual 74, 3) := by decide +kernel
theorem dX8_settles_11 : decode cX8_settles 11 = .ok (.astore 4, 2) := by decide +kernel
theorem dX8_settles_13 : decode cX8_settles 13 = .ok (.aload_n 3, 1) := by decide +kernel
theorem dX8_settles_14 : decode cX8_settles 14 = .ok (.ifnull 8, 3) := by decide +kernel
theorem dX8_settles_17 : decode cX8_settles 17 = .ok (.aload 4, 2) := by decide +kernel
theorem dX8_settles_19 : decode cX8_settles 19 = .ok (.ifnonnull 5, 3) := by decide +kernel
theorem dX8_settles_22 : decode cX8_settles 22 = .ok (.iconst (-1), 1) := by decide +kernel
theorem dX8_settles_23 : decode cX8_settles 23 = .ok (.ireturn, 1) := by decide +kernel
theorem dX8_settles_24 : decode cX8_settles 24 = .ok (.aload_n 3, 1) := by decide +kernel
theorem dX8_settles_25 : decode cX8_settles 25 = .ok (.getfield 94, 3) := by decide +kernel
theorem dX8_settles_28 : decode cX8_settles 28 = .ok (.astore 5, 2) := by decide +kernel
theorem dX8_settles_30 : decode cX8_settles 30 = .ok (.iconst 1, 1) := by decide +kernel
theorem dX8_settles_31 : decode cX8_settles 31 = .ok (.istore 6, 2) := by decide +kernel
theorem dX8_settles_33 : decode cX8_settles 33 = .ok (.iload 6, 2) := by decide +kernel
theorem dX8_settles_35 : decode cX8_settles 35 = .ok (.bipush 6, 2) := by decide +kernel
theorem dX8_settles_37 : decode cX8_settles 37 = .ok (.if_icmp .gt 68, 3) := by decide +kernel
theorem dX8_settles_40 : decode cX8_settles 40 = .ok (.iload 6, 2) := by decide +kernel
theorem dX8_settles_42 : decode cX8_settles 42 = .ok (.iconst 2, 1) := by decide +kernel
theorem dX8_settles_43 : decode cX8_settles 43 = .ok (.irem, 1) := by decide +kernel
theorem dX8_settles_44 : decode cX8_settles 44 = .ok (.iconst 1, 1) := by decide +kernel
theorem dX8_settles_45 : decode cX8_settles 45 = .ok (.if_icmp .ne 10, 3) := by decide +kernel
theorem dX8_settles_48 : decode cX8_settles 48 = .ok (.aload_n 0, 1) := by decide +kernel
theorem dX8_settles_49 : decode cX8_settles 49 = .ok (.getfield 50, 3) := by decide +kernel
theorem dX8_settles_52 : decode cX8_settles 52 = .ok (.goto 7, 3) := by decide +kernel
theorem dX8_settles_55 : decode cX8_settles 55 = .ok (.aload_n 0, 1) := by decide +kernel
theorem dX8_settles_56 : decode cX8_settles 56 = .ok (.getfield 53, 3) := by decide +kernel
theorem dX8_settles_59 : decode cX8_settles 59 = .ok (.astore 7, 2) := by decide +kernel
theorem dX8_settles_61 : decode cX8_settles 61 = .ok (.aload 7, 2) := by decide +kernel
theorem dX8_settles_63 : decode cX8_settles 63 = .ok (.aload 5, 2) := by decide +kernel
theorem dX8_settles_65 : decode cX8_settles 65 = .ok (.aload 4, 2) := by decide +kernel
theorem dX8_settles_67 : decode cX8_settles 67 = .ok (.invokevirtual 98, 3) := by decide +kernel
theorem dX8_settles_70 : decode cX8_settles 70 = .ok (.ifCond .ne 6, 3) := by decide +kernel
theorem dX8_settles_73 : decode cX8_settles 73 = .ok (.bipush (-9), 2) := by decide +kernel
theorem dX8_settles_75 : decode cX8_settles 75 = .ok (.ireturn, 1) := by decide +kernel
theorem dX8_settles_76 : decode cX8_settles 76 = .ok (.aload 5, 2) := by decide +kernel
theorem dX8_settles_78 : decode cX8_settles 78 = .ok (.aload 7, 2) := by decide +kernel
theorem dX8_settles_80 : decode cX8_settles 80 = .ok (.getfield 102, 3) := by decide +kernel
theorem dX8_settles_83 : decode cX8_settles 83 = .ok (.invokevirtual 162, 3) := by decide +kernel
theorem dX8_settles_86 : decode cX8_settles 86 = .ok (.ifCond .ne 6, 3) := by decide +kernel
theorem dX8_settles_89 : decode cX8_settles 89 = .ok (.iload 6, 2) := by decide +kernel
theorem dX8_settles_91 : decode cX8_settles 91 = .ok (.ireturn, 1) := by decide +kernel
theorem dX8_settles_92 : decode cX8_settles 92 = .ok (.aload 7, 2) := by decide +kernel
theorem dX8_settles_94 : decode cX8_settles 94 = .ok (.getfield 102, 3) := by decide +kernel
theorem dX8_settles_97 : decode cX8_settles 97 = .ok (.astore 5, 2) := by decide +kernel
theorem dX8_settles_99 : decode cX8_settles 99 = .ok (.iinc 6 1, 3) := by decide +kernel
theorem dX8_settles_102 : decode cX8_settles 102 = .ok (.goto (-69), 3) := by decide +kernel
theorem dX8_settles_105 : decode cX8_settles 105 = .ok (.bipush (-9), 2) := by decide +kernel
theorem dX8_settles_107 : decode cX8_settles 107 = .ok (.ireturn, 1) := by decide +kernel
theorem dX8_round_0 : decode cX8_round 0 = .ok (.aload_n 0, 1) := by decide +kernel
theorem dX8_round_1 : decode cX8_round 1 = .ok (.iload_n 1, 1) := by decide +kernel
theorem dX8_round_2 : decode cX8_round 2 = .ok (.invokevirtual 90, 3) := by decide +kernel
theorem dX8_round_5 : decode cX8_round 5 = .ok (.astore 4, 2) := by decide +kernel
theorem dX8_round_7 : decode cX8_round 7 = .ok (.aload_n 0, 1) := by decide +kernel
theorem dX8_round_8 : decode cX8_round 8 = .ok (.iload_n 2, 1) := by decide +kernel
theorem dX8_round_9 : decode cX8_round 9 = .ok (.invokevirtual 90, 3) := by decide +kernel
theorem dX8_round_12 : decode cX8_round 12 = .ok (.astore 5, 2) := by decide +kernel
theorem dX8_round_14 : decode cX8_round 14 = .ok (.aload_n 0, 1) := by decide +kernel
theorem dX8_round_15 : decode cX8_round 15 = .ok (.iload_n 3, 1) := by decide +kernel
theorem dX8_round_16 : decode cX8_round 16 = .ok (.invokevirtual 74, 3) := by decide +kernel
theorem dX8_round_19 : decode cX8_round 19 = .ok (.astore 6, 2) := by decide +kernel
theorem dX8_round_21 : decode cX8_round 21 = .ok (.aload 4, 2) := by decide +kernel
theorem dX8_round_23 : decode cX8_round 23 = .ok (.ifnull 13, 3) := by decide +kernel
theorem dX8_round_26 : decode cX8_round 26 = .ok (.aload 5, 2) := by decide +kernel
theorem dX8_round_28 : decode cX8_round 28 = .ok (.ifnull 8, 3) := by decide +kernel
theorem dX8_round_31 : decode cX8_round 31 = .ok (.aload 6, 2) := by decide +kernel
theorem dX8_round_33 : decode cX8_round 33 = .ok (.ifnonnull 5, 3) := by decide +kernel
theorem dX8_round_36 : decode cX8_round 36 = .ok (.iconst (-1), 1) := by decide +kernel
theorem dX8_round_37 : decode cX8_round 37 = .ok (.ireturn, 1) := by decide +kernel
theorem dX8_round_38 : decode cX8_round 38 = .ok (.aload_n 0, 1) := by decide +kernel
theorem dX8_round_39 : decode cX8_round 39 = .ok (.aload 4, 2) := by decide +kernel
theorem dX8_round_41 : decode cX8_round 41 = .ok (.aload 5, 2) := by decide +kernel
theorem dX8_round_43 : decode cX8_round 43 = .ok (.aload 6, 2) := by decide +kernel
theorem dX8_round_45 : decode cX8_round 45 = .ok (.invokevirtual 166, 3) := by decide +kernel
theorem dX8_round_48 : decode cX8_round 48 = .ok (.ireturn, 1) := by decide +kernel
theorem dX8_hides_0 : decode cX8_hides 0 = .ok (.aload_n 0, 1) := by decide +kernel
theorem dX8_hides_1 : decode cX8_hides 1 = .ok (.iload_n 1, 1) := by decide +kernel
theorem dX8_hides_2 : decode cX8_hides 2 = .ok (.invokevirtual 90, 3) := by decide +kernel
theorem dX8_hides_5 : decode cX8_hides 5 = .ok (.astore 4, 2) := by decide +kernel
theorem dX8_hides_7 : decode cX8_hides 7 = .ok (.aload_n 0, 1) := by decide +kernel
theorem dX8_hides_8 : decode cX8_hides 8 = .ok (.iload_n 2, 1) := by decide +kernel
theorem dX8_hides_9 : decode cX8_hides 9 = .ok (.invokevirtual 90, 3) := by decide +kernel
theorem dX8_hides_12 : decode cX8_hides 12 = .ok (.astore 5, 2) := by decide +kernel
theorem dX8_hides_14 : decode cX8_hides 14 = .ok (.aload_n 0, 1) := by decide +kernel
theorem dX8_hides_15 : decode cX8_hides 15 = .ok (.iload_n 3, 1) := by decide +kernel
theorem dX8_hides_16 : decode cX8_hides 16 = .ok (.invokevirtual 74, 3) := by decide +kernel
theorem dX8_hides_19 : decode cX8_hides 19 = .ok (.astore 6, 2) := by decide +kernel
theorem dX8_hides_21 : decode cX8_hides 21 = .ok (.aload 4, 2) := by decide +kernel
theorem dX8_hides_23 : decode cX8_hides 23 = .ok (.ifnull 13, 3) := by decide +kernel
theorem dX8_hides_26 : decode cX8_hides 26 = .ok (.aload 5, 2) := by decide +kernel
theorem dX8_hides_28 : decode cX8_hides 28 = .ok (.ifnull 8, 3) := by decide +kernel
theorem dX8_hides_31 : decode cX8_hides 31 = .ok (.aload 6, 2) := by decide +kernel
theorem dX8_hides_33 : decode cX8_hides 33 = .ok (.ifnonnull 5, 3) := by decide +kernel
theorem dX8_hides_36 : decode cX8_hides 36 = .ok (.iconst (-1), 1) := by decide +kernel
theorem dX8_hides_37 : decode cX8_hides 37 = .ok (.ireturn, 1) := by decide +kernel
theorem dX8_hides_38 : decode cX8_hides 38 = .ok (.aload_n 0, 1) := by decide +kernel
theorem dX8_hides_39 : decode cX8_hides 39 = .ok (.aload 4, 2) := by decide +kernel
theorem dX8_hides_41 : decode cX8_hides 41 = .ok (.aload 5, 2) := by decide +kernel
theorem dX8_hides_43 : decode cX8_hides 43 = .ok (.aload 6, 2) := by decide +kernel
theorem dX8_hides_45 : decode cX8_hides 45 = .ok (.invokevirtual 166, 3) := by decide +kernel
theorem dX8_hides_48 : decode cX8_hides 48 = .ok (.istore 7, 2) := by decide +kernel
theorem dX8_hides_50 : decode cX8_hides 50 = .ok (.iload 7, 2) := by decide +kernel
theorem dX8_hides_52 : decode cX8_hides 52 = .ok (.ifCond .gt 6, 3) := by decide +kernel
theorem dX8_hides_55 : decode cX8_hides 55 = .ok (.iload 7, 2) := by decide +kernel
theorem dX8_hides_57 : decode cX8_hides 57 = .ok (.ireturn, 1) := by decide +kernel
theorem dX8_hides_58 : decode cX8_hides 58 = .ok (.aload_n 0, 1) := by decide +kernel
theorem dX8_hides_59 : decode cX8_hides 59 = .ok (.getfield 50, 3) := by decide +kernel
theorem dX8_hides_62 : decode cX8_hides 62 = .ok (.aload 4, 2) := by decide +kernel
theorem dX8_hides_64 : decode cX8_hides 64 = .ok (.getfield 94, 3) := by decide +kernel
theorem dX8_hides_67 : decode cX8_hides 67 = .ok (.aload 6, 2) := by decide +kernel
theorem dX8_hides_69 : decode cX8_hides 69 = .ok (.invokevirtual 98, 3) := by decide +kernel
theorem dX8_hides_72 : decode cX8_hides 72 = .ok (.ifCond .eq 25, 3) := by decide +kernel
theorem dX8_hides_75 : decode cX8_hides 75 = .ok (.aload 4, 2) := by decide +kernel
theorem dX8_hides_77 : decode cX8_hides 77 = .ok (.getfield 94, 3) := by decide +kernel
theorem dX8_hides_80 : decode cX8_hides 80 = .ok (.aload_n 0, 1) := by decide +kernel
theorem dX8_hides_81 : decode cX8_hides 81 = .ok (.getfield 50, 3) := by decide +kernel
theorem dX8_hides_84 : decode cX8_hides 84 = .ok (.getfield 102, 3) := by decide +kernel
theorem dX8_hides_87 : decode cX8_hides 87 = .ok (.invokevirtual 162, 3) := by decide +kernel
theorem dX8_hides_90 : decode cX8_hides 90 = .ok (.ifCond .ne 7, 3) := by decide +kernel
theorem dX8_hides_93 : decode cX8_hides 93 = .ok (.iconst 1, 1) := by decide +kernel
theorem dX8_hides_94 : decode cX8_hides 94 = .ok (.goto 4, 3) := by decide +kernel
theorem dX8_hides_97 : decode cX8_hides 97 = .ok (.iconst 0, 1) := by decide +kernel
theorem dX8_hides_98 : decode cX8_hides 98 = .ok (.ireturn, 1) := by decide +kernel
theorem dX8_check_0 : decode cX8_check 0 = .ok (.aload_n 0, 1) := by decide +kernel
theorem dX8_check_1 : decode cX8_check 1 = .ok (.iload_n 1, 1) := by decide +kernel
theorem dX8_check_2 : decode cX8_check 2 = .ok (.invokevirtual 90, 3) := by decide +kernel
theorem dX8_check_5 : decode cX8_check 5 = .ok (.astore_n 3, 1) := by decide +kernel
theorem dX8_check_6 : decode cX8_check 6 = .ok (.aload_n 3, 1) := by decide +kernel
theorem dX8_check_7 : decode cX8_check 7 = .ok (.ifnull 12, 3) := by decide +kernel
theorem dX8_check_10 : decode cX8_check 10 = .ok (.iload_n 2, 1) := by decide +kernel
theorem dX8_check_11 : decode cX8_check 11 = .ok (.ifCond .lt 8, 3) := by decide +kernel
theorem dX8_check_14 : decode cX8_check 14 = .ok (.iload_n 2, 1) := by decide +kernel
theorem dX8_check_15 : decode cX8_check 15 = .ok (.iconst 1, 1) := by decide +kernel
theorem dX8_check_16 : decode cX8_check 16 = .ok (.if_icmp .le 5, 3) := by decide +kernel
theorem dX8_check_19 : decode cX8_check 19 = .ok (.iconst (-1), 1) := by decide +kernel
theorem dX8_check_20 : decode cX8_check 20 = .ok (.ireturn, 1) := by decide +kernel
theorem dX8_check_21 : decode cX8_check 21 = .ok (.aload_n 3, 1) := by decide +kernel
theorem dX8_check_22 : decode cX8_check 22 = .ok (.getfield 112, 3) := by decide +kernel
theorem dX8_check_25 : decode cX8_check 25 = .ok (.ifCond .eq 6, 3) := by decide +kernel
theorem dX8_check_28 : decode cX8_check 28 = .ok (.bipush (-2), 2) := by decide +kernel
theorem dX8_check_30 : decode cX8_check 30 = .ok (.ireturn, 1) := by decide +kernel
theorem dX8_check_31 : decode cX8_check 31 = .ok (.aload_n 3, 1) := by decide +kernel
theorem dX8_check_32 : decode cX8_check 32 = .ok (.getfield 121, 3) := by decide +kernel
theorem dX8_check_35 : decode cX8_check 35 = .ok (.ifCond .eq 7, 3) := by decide +kernel
theorem dX8_check_38 : decode cX8_check 38 = .ok (.iconst 1, 1) := by decide +kernel
theorem dX8_check_39 : decode cX8_check 39 = .ok (.goto 4, 3) := by decide +kernel
theorem dX8_check_42 : decode cX8_check 42 = .ok (.iconst 0, 1) := by decide +kernel
theorem dX8_check_43 : decode cX8_check 43 = .ok (.istore 4, 2) := by decide +kernel
theorem dX8_check_45 : decode cX8_check 45 = .ok (.aload_n 3, 1) := by decide +kernel
theorem dX8_check_46 : decode cX8_check 46 = .ok (.iload_n 2, 1) := by decide +kernel
theorem dX8_check_47 : decode cX8_check 47 = .ok (.iconst 1, 1) := by decide +kernel
theorem dX8_check_48 : decode cX8_check 48 = .ok (.if_icmp .ne 7, 3) := by decide +kernel
theorem dX8_check_51 : decode cX8_check 51 = .ok (.iconst 1, 1) := by decide +kernel
theorem dX8_check_52 : decode cX8_check 52 = .ok (.goto 4, 3) := by decide +kernel
theorem dX8_check_55 : decode cX8_check 55 = .ok (.iconst 0, 1) := by decide +kernel
theorem dX8_check_56 : decode cX8_check 56 = .ok (.putfield 121, 3) := by decide +kernel
theorem dX8_check_59 : decode cX8_check 59 = .ok (.iload 4, 2) := by decide +kernel
theorem dX8_check_61 : decode cX8_check 61 = .ok (.ireturn, 1) := by decide +kernel
theorem dX8_chain_0 : decode cX8_chain 0 = .ok (.aload_n 0, 1) := by decide +kernel
theorem dX8_chain_1 : decode cX8_chain 1 = .ok (.iload_n 1, 1) := by decide +kernel
theorem dX8_chain_2 : decode cX8_chain 2 = .ok (.invokevirtual 90, 3) := by decide +kernel
theorem dX8_chain_5 : decode cX8_chain 5 = .ok (.ifnonnull 5, 3) := by decide +kernel
theorem dX8_chain_8 : decode cX8_chain 8 = .ok (.iconst (-1), 1) := by decide +kernel
theorem dX8_chain_9 : decode cX8_chain 9 = .ok (.ireturn, 1) := by decide +kernel
theorem dX8_chain_10 : decode cX8_chain 10 = .ok (.aload_n 0, 1) := by decide +kernel
theorem dX8_chain_11 : decode cX8_chain 11 = .ok (.iload_n 1, 1) := by decide +kernel
theorem dX8_chain_12 : decode cX8_chain 12 = .ok (.invokevirtual 170, 3) := by decide +kernel
theorem dX8_chain_15 : decode cX8_chain 15 = .ok (.istore_n 3, 1) := by decide +kernel
theorem dX8_chain_16 : decode cX8_chain 16 = .ok (.iload_n 2, 1) := by decide +kernel
theorem dX8_chain_17 : decode cX8_chain 17 = .ok (.iconst (-1), 1) := by decide +kernel
theorem dX8_chain_18 : decode cX8_chain 18 = .ok (.if_icmp .ne 5, 3) := by decide +kernel
theorem dX8_chain_21 : decode cX8_chain 21 = .ok (.iload_n 3, 1) := by decide +kernel
theorem dX8_chain_22 : decode cX8_chain 22 = .ok (.ireturn, 1) := by decide +kernel
theorem dX8_chain_23 : decode cX8_chain 23 = .ok (.iload_n 2, 1) := by decide +kernel
theorem dX8_chain_24 : decode cX8_chain 24 = .ok (.ifCond .lt 8, 3) := by decide +kernel
theorem dX8_chain_27 : decode cX8_chain 27 = .ok (.iload_n 2, 1) := by decide +kernel
theorem dX8_chain_28 : decode cX8_chain 28 = .ok (.iload_n 3, 1) := by decide +kernel
theorem dX8_chain_29 : decode cX8_chain 29 = .ok (.if_icmp .lt 7, 3) := by decide +kernel
theorem dX8_chain_32 : decode cX8_chain 32 = .ok (.iconst (-1), 1) := by decide +kernel
theorem dX8_chain_33 : decode cX8_chain 33 = .ok (.goto 9, 3) := by decide +kernel
theorem dX8_chain_36 : decode cX8_chain 36 = .ok (.aload_n 0, 1) := by decide +kernel
theorem dX8_chain_37 : decode cX8_chain 37 = .ok (.iload_n 1, 1) := by decide +kernel
theorem dX8_chain_38 : decode cX8_chain 38 = .ok (.iload_n 2, 1) := by decide +kernel
theorem dX8_chain_39 : decode cX8_chain 39 = .ok (.invokevirtual 173, 3) := by decide +kernel
theorem dX8_chain_42 : decode cX8_chain 42 = .ok (.ireturn, 1) := by decide +kernel
theorem dX8_sealed_0 : decode cX8_sealed 0 = .ok (.aload_n 0, 1) := by decide +kernel
theorem dX8_sealed_1 : decode cX8_sealed 1 = .ok (.iload_n 1, 1) := by decide +kernel
theorem dX8_sealed_2 : decode cX8_sealed 2 = .ok (.invokevirtual 90, 3) := by decide +kernel
theorem dX8_sealed_5 : decode cX8_sealed 5 = .ok (.ifnonnull 5, 3) := by decide +kernel
theorem dX8_sealed_8 : decode cX8_sealed 8 = .ok (.iconst (-1), 1) := by decide +kernel
theorem dX8_sealed_9 : decode cX8_sealed 9 = .ok (.ireturn, 1) := by decide +kernel
theorem dX8_sealed_10 : decode cX8_sealed 10 = .ok (.aload_n 0, 1) := by decide +kernel
theorem dX8_sealed_11 : decode cX8_sealed 11 = .ok (.iload_n 1, 1) := by decide +kernel
theorem dX8_sealed_12 : decode cX8_sealed 12 = .ok (.aload_n 0, 1) := by decide +kernel
theorem dX8_sealed_13 : decode cX8_sealed 13 = .ok (.invokevirtual 158, 3) := by decide +kernel
theorem dX8_sealed_16 : decode cX8_sealed 16 = .ok (.invokevirtual 176, 3) := by decide +kernel
theorem dX8_sealed_19 : decode cX8_sealed 19 = .ok (.ifCond .eq 7, 3) := by decide +kernel
theorem dX8_sealed_22 : decode cX8_sealed 22 = .ok (.iconst 1, 1) := by decide +kernel
theorem dX8_sealed_23 : decode cX8_sealed 23 = .ok (.goto 4, 3) := by decide +kernel
theorem dX8_sealed_26 : decode cX8_sealed 26 = .ok (.iconst 0, 1) := by decide +kernel
theorem dX8_sealed_27 : decode cX8_sealed 27 = .ok (.ireturn, 1) := by decide +kernel
theorem dX8_least_0 : decode cX8_least 0 = .ok (.iload_n 1, 1) := by decide +kernel
theorem dX8_least_1 : decode cX8_least 1 = .ok (.ifCond .lt 13, 3) := by decide +kernel
theorem dX8_least_4 : decode cX8_least 4 = .ok (.iload_n 1, 1) := by decide +kernel
theorem dX8_least_5 : decode cX8_least 5 = .ok (.iconst 1, 1) := by decide +kernel
theorem dX8_least_6 : decode cX8_least 6 = .ok (.aload_n 0, 1) := by decide +kernel
theorem dX8_least_7 : decode cX8_least 7 = .ok (.getfield 26, 3) := by decide +kernel
theorem dX8_least_10 : decode cX8_least 10 = .ok (.ishl, 1) := by decide +kernel
theorem dX8_least_11 : decode cX8_least 11 = .ok (.if_icmp .lt 5, 3) := by decide +kernel
theorem dX8_least_14 : decode cX8_least 14 = .ok (.iconst (-1), 1) := by decide +kernel
theorem dX8_least_15 : decode cX8_least 15 = .ok (.ireturn, 1) := by decide +kernel
theorem dX8_least_16 : decode cX8_least 16 = .ok (.iload_n 1, 1) := by decide +kernel
theorem dX8_least_17 : decode cX8_least 17 = .ok (.aload_n 0, 1) := by decide +kernel
theorem dX8_least_18 : decode cX8_least 18 = .ok (.invokevirtual 158, 3) := by decide +kernel
theorem dX8_least_21 : decode cX8_least 21 = .ok (.iconst (-1), 1) := by decide +kernel
theorem dX8_least_22 : decode cX8_least 22 = .ok (.ixor, 1) := by decide +kernel
theorem dX8_least_23 : decode cX8_least 23 = .ok (.iand, 1) := by decide +kernel
theorem dX8_least_24 : decode cX8_least 24 = .ok (.istore_n 2, 1) := by decide +kernel
theorem dX8_least_25 : decode cX8_least 25 = .ok (.iconst 0, 1) := by decide +kernel
theorem dX8_least_26 : decode cX8_least 26 = .ok (.istore_n 3, 1) := by decide +kernel
theorem dX8_least_27 : decode cX8_least 27 = .ok (.iconst 0, 1) := by decide +kernel
theorem dX8_least_28 : decode cX8_least 28 = .ok (.istore 4, 2) := by decide +kernel
theorem dX8_least_30 : decode cX8_least 30 = .ok (.iload 4, 2) := by decide +kernel
theorem dX8_least_32 : decode cX8_least 32 = .ok (.bipush 12, 2) := by decide +kernel
theorem dX8_least_34 : decode cX8_least 34 = .ok (.if_icmp .ge 62, 3) := by decide +kernel
theorem dX8_least_37 : decode cX8_least 37 = .ok (.iload_n 2, 1) := by decide +kernel
theorem dX8_least_38 : decode cX8_least 38 = .ok (.iload 4, 2) := by decide +kernel
theorem dX8_least_40 : decode cX8_least 40 = .ok (.invokestatic 180, 3) := by decide +kernel
theorem dX8_least_43 : decode cX8_least 43 = .ok (.ifCond .eq 47, 3) := by decide +kernel
theorem dX8_least_46 : decode cX8_least 46 = .ok (.aload_n 0, 1) := by decide +kernel
theorem dX8_least_47 : decode cX8_least 47 = .ok (.iload 4, 2) := by decide +kernel
theorem dX8_least_49 : decode cX8_least 49 = .ok (.invokevirtual 183, 3) := by decide +kernel
theorem dX8_least_52 : decode cX8_least 52 = .ok (.istore 5, 2) := by decide +kernel
theorem dX8_least_54 : decode cX8_least 54 = .ok (.aload_n 0, 1) := by decide +kernel
theorem dX8_least_55 : decode cX8_least 55 = .ok (.iload 5, 2) := by decide +kernel
theorem dX8_least_57 : decode cX8_least 57 = .ok (.invokevirtual 90, 3) := by decide +kernel
theorem dX8_least_60 : decode cX8_least 60 = .ok (.astore 6, 2) := by decide +kernel
theorem dX8_least_62 : decode cX8_least 62 = .ok (.aload 6, 2) := by decide +kernel
theorem dX8_least_64 : decode cX8_least 64 = .ok (.ifnull 26, 3) := by decide +kernel
theorem dX8_least_67 : decode cX8_least 67 = .ok (.aload 6, 2) := by decide +kernel
theorem dX8_least_69 : decode cX8_least 69 = .ok (.getfield 112, 3) := by decide +kernel
theorem dX8_least_72 : decode cX8_least 72 = .ok (.ifCond .ne 18, 3) := by decide +kernel
theorem dX8_least_75 : decode cX8_least 75 = .ok (.aload 6, 2) := by decide +kernel
theorem dX8_least_77 : decode cX8_least 77 = .ok (.getfield 121, 3) := by decide +kernel
theorem dX8_least_80 : decode cX8_least 80 = .ok (.ifCond .ne 10, 3) := by decide +kernel
theorem dX8_least_83 : decode cX8_least 83 = .ok (.iload_n 3, 1) := by decide +kernel
theorem dX8_least_84 : decode cX8_least 84 = .ok (.iconst 1, 1) := by decide +kernel
theorem dX8_least_85 : decode cX8_least 85 = .ok (.iload 5, 2) := by decide +kernel
theorem dX8_least_87 : decode cX8_least 87 = .ok (.ishl, 1) := by decide +kernel
theorem dX8_least_88 : decode cX8_least 88 = .ok (.ior, 1) := by decide +kernel
theorem dX8_least_89 : decode cX8_least 89 = .ok (.istore_n 3, 1) := by decide +kernel
theorem dX8_least_90 : decode cX8_least 90 = .ok (.iinc 4 1, 3) := by decide +kernel
theorem dX8_least_93 : decode cX8_least 93 = .ok (.goto (-63), 3) := by decide +kernel
theorem dX8_least_96 : decode cX8_least 96 = .ok (.iload_n 3, 1) := by decide +kernel
theorem dX8_least_97 : decode cX8_least 97 = .ok (.ireturn, 1) := by decide +kernel
theorem dX8_same_0 : decode cX8_same 0 = .ok (.aload_n 0, 1) := by decide +kernel
theorem dX8_same_1 : decode cX8_same 1 = .ok (.iload_n 1, 1) := by decide +kernel
theorem dX8_same_2 : decode cX8_same 2 = .ok (.invokevirtual 90, 3) := by decide +kernel
theorem dX8_same_5 : decode cX8_same 5 = .ok (.astore_n 3, 1) := by decide +kernel
theorem dX8_same_6 : decode cX8_same 6 = .ok (.aload_n 0, 1) := by decide +kernel
theorem dX8_same_7 : decode cX8_same 7 = .ok (.iload_n 2, 1) := by decide +kernel
theorem dX8_same_8 : decode cX8_same 8 = .ok (.invokevirtual 90, 3) := by decide +kernel
theorem dX8_same_11 : decode cX8_same 11 = .ok (.astore 4, 2) := by decide +kernel
theorem dX8_same_13 : decode cX8_same 13 = .ok (.aload_n 3, 1) := by decide +kernel
theorem dX8_same_14 : decode cX8_same 14 = .ok (.ifnull 8, 3) := by decide +kernel
theorem dX8_same_17 : decode cX8_same 17 = .ok (.aload 4, 2) := by decide +kernel
theorem dX8_same_19 : decode cX8_same 19 = .ok (.ifnonnull 7, 3) := by decide +kernel
theorem dX8_same_22 : decode cX8_same 22 = .ok (.iconst (-1), 1) := by decide +kernel
theorem dX8_same_23 : decode cX8_same 23 = .ok (.goto 15, 3) := by decide +kernel
theorem dX8_same_26 : decode cX8_same 26 = .ok (.aload_n 3, 1) := by decide +kernel
theorem dX8_same_27 : decode cX8_same 27 = .ok (.getfield 94, 3) := by decide +kernel
theorem dX8_same_30 : decode cX8_same 30 = .ok (.aload 4, 2) := by decide +kernel
theorem dX8_same_32 : decode cX8_same 32 = .ok (.getfield 94, 3) := by decide +kernel
theorem dX8_same_35 : decode cX8_same 35 = .ok (.invokevirtual 162, 3) := by decide +kernel
theorem dX8_same_38 : decode cX8_same 38 = .ok (.ireturn, 1) := by decide +kernel
theorem dX8_edition_0 : decode cX8_edition 0 = .ok (.iload_n 1, 1) := by decide +kernel
theorem dX8_edition_1 : decode cX8_edition 1 = .ok (.ifCond .lt 19, 3) := by decide +kernel
theorem dX8_edition_4 : decode cX8_edition 4 = .ok (.iload_n 1, 1) := by decide +kernel
theorem dX8_edition_5 : decode cX8_edition 5 = .ok (.ldc 186, 2) := by decide +kernel
theorem dX8_edition_7 : decode cX8_edition 7 = .ok (.if_icmp .gt 13, 3) := by decide +kernel
theorem dX8_edition_10 : decode cX8_edition 10 = .ok (.iload_n 2, 1) := by decide +kernel
theorem dX8_edition_11 : decode cX8_edition 11 = .ok (.ifCond .lt 9, 3) := by decide +kernel
theorem dX8_edition_14 : decode cX8_edition 14 = .ok (.iload_n 2, 1) := by decide +kernel
theorem dX8_edition_15 : decode cX8_edition 15 = .ok (.ldc 186, 2) := by decide +kernel
theorem dX8_edition_17 : decode cX8_edition 17 = .ok (.if_icmp .le 5, 3) := by decide +kernel
theorem dX8_edition_20 : decode cX8_edition 20 = .ok (.iconst (-1), 1) := by decide +kernel
theorem dX8_edition_21 : decode cX8_edition 21 = .ok (.ireturn, 1) := by decide +kernel
theorem dX8_edition_22 : decode cX8_edition 22 = .ok (.aload_n 0, 1) := by decide +kernel
theorem dX8_edition_23 : decode cX8_edition 23 = .ok (.getfield 59, 3) := by decide +kernel
theorem dX8_edition_26 : decode cX8_edition 26 = .ok (.iload_n 1, 1) := by decide +kernel
theorem dX8_edition_27 : decode cX8_edition 27 = .ok (.iload_n 2, 1) := by decide +kernel
theorem dX8_edition_28 : decode cX8_edition 28 = .ok (.invokevirtual 187, 3) := by decide +kernel
theorem dX8_edition_31 : decode cX8_edition 31 = .ok (.ireturn, 1) := by decide +kernel
theorem dX8_ladder_0 : decode cX8_ladder 0 = .ok (.aload_n 0, 1) := by decide +kernel
theorem dX8_ladder_1 : decode cX8_ladder 1 = .ok (.getfield 59, 3) := by decide +kernel
theorem dX8_ladder_4 : decode cX8_ladder 4 = .ok (.iload_n 1, 1) := by decide +kernel
theorem dX8_ladder_5 : decode cX8_ladder 5 = .ok (.invokevirtual 189, 3) := by decide +kernel
theorem dX8_ladder_8 : decode cX8_ladder 8 = .ok (.ifCond .eq 19, 3) := by decide +kernel
theorem dX8_ladder_11 : decode cX8_ladder 11 = .ok (.aload_n 0, 1) := by decide +kernel
theorem dX8_ladder_12 : decode cX8_ladder 12 = .ok (.getfield 59, 3) := by decide +kernel
theorem dX8_ladder_15 : decode cX8_ladder 15 = .ok (.iload_n 2, 1) := by decide +kernel
theorem dX8_ladder_16 : decode cX8_ladder 16 = .ok (.invokevirtual 189, 3) := by decide +kernel
theorem dX8_ladder_19 : decode cX8_ladder 19 = .ok (.ifCond .eq 8, 3) := by decide +kernel
theorem dX8_ladder_22 : decode cX8_ladder 22 = .ok (.iload_n 3, 1) := by decide +kernel
theorem dX8_ladder_23 : decode cX8_ladder 23 = .ok (.iconst (-1), 1) := by decide +kernel
theorem dX8_ladder_24 : decode cX8_ladder 24 = .ok (.if_icmp .ge 5, 3) := by decide +kernel
theorem dX8_ladder_27 : decode cX8_ladder 27 = .ok (.iconst (-1), 1) := by decide +kernel
theorem dX8_ladder_28 : decode cX8_ladder 28 = .ok (.ireturn, 1) := by decide +kernel
theorem dX8_ladder_29 : decode cX8_ladder 29 = .ok (.aload_n 0, 1) := by decide +kernel
theorem dX8_ladder_30 : decode cX8_ladder 30 = .ok (.getfield 59, 3) := by decide +kernel
theorem dX8_ladder_33 : decode cX8_ladder 33 = .ok (.iload_n 1, 1) := by decide +kernel
theorem dX8_ladder_34 : decode cX8_ladder 34 = .ok (.iload_n 2, 1) := by decide +kernel
theorem dX8_ladder_35 : decode cX8_ladder 35 = .ok (.iconst 0, 1) := by decide +kernel
theorem dX8_ladder_36 : decode cX8_ladder 36 = .ok (.invokevirtual 193, 3) := by decide +kernel
theorem dX8_ladder_39 : decode cX8_ladder 39 = .ok (.istore 4, 2) := by decide +kernel
theorem dX8_ladder_41 : decode cX8_ladder 41 = .ok (.iload 4, 2) := by decide +kernel
theorem dX8_ladder_43 : decode cX8_ladder 43 = .ok (.bipush (-9), 2) := by decide +kernel
theorem dX8_ladder_45 : decode cX8_ladder 45 = .ok (.if_icmp .eq 9, 3) := by decide +kernel
theorem dX8_ladder_48 : decode cX8_ladder 48 = .ok (.iload_n 3, 1) := by decide +kernel
theorem dX8_ladder_49 : decode cX8_ladder 49 = .ok (.iload 4, 2) := by decide +kernel
theorem dX8_ladder_51 : decode cX8_ladder 51 = .ok (.if_icmp .le 6, 3) := by decide +kernel
theorem dX8_ladder_54 : decode cX8_ladder 54 = .ok (.bipush (-9), 2) := by decide +kernel
theorem dX8_ladder_56 : decode cX8_ladder 56 = .ok (.ireturn, 1) := by decide +kernel
theorem dX8_ladder_57 : decode cX8_ladder 57 = .ok (.iload_n 3, 1) := by decide +kernel
theorem dX8_ladder_58 : decode cX8_ladder 58 = .ok (.iconst (-1), 1) := by decide +kernel
theorem dX8_ladder_59 : decode cX8_ladder 59 = .ok (.if_icmp .ne 8, 3) := by decide +kernel
theorem dX8_ladder_62 : decode cX8_ladder 62 = .ok (.iload 4, 2) := by decide +kernel
theorem dX8_ladder_64 : decode cX8_ladder 64 = .ok (.goto 12, 3) := by decide +kernel
theorem dX8_ladder_67 : decode cX8_ladder 67 = .ok (.aload_n 0, 1) := by decide +kernel
theorem dX8_ladder_68 : decode cX8_ladder 68 = .ok (.getfield 59, 3) := by decide +kernel
theorem dX8_ladder_71 : decode cX8_ladder 71 = .ok (.iload_n 1, 1) := by decide +kernel
theorem dX8_ladder_72 : decode cX8_ladder 72 = .ok (.iload_n 3, 1) := by decide +kernel
theorem dX8_ladder_73 : decode cX8_ladder 73 = .ok (.invokevirtual 197, 3) := by decide +kernel
theorem dX8_ladder_76 : decode cX8_ladder 76 = .ok (.ireturn, 1) := by decide +kernel
theorem dX8_needed_0 : decode cX8_needed 0 = .ok (.aload_n 0, 1) := by decide +kernel
theorem dX8_needed_1 : decode cX8_needed 1 = .ok (.getfield 59, 3) := by decide +kernel
theorem dX8_needed_4 : decode cX8_needed 4 = .ok (.iload_n 1, 1) := by decide +kernel
theorem dX8_needed_5 : decode cX8_needed 5 = .ok (.invokevirtual 189, 3) := by decide +kernel
theorem dX8_needed_8 : decode cX8_needed 8 = .ok (.ifCond .eq 23, 3) := by decide +kernel
theorem dX8_needed_11 : decode cX8_needed 11 = .ok (.aload_n 0, 1) := by decide +kernel
theorem dX8_needed_12 : decode cX8_needed 12 = .ok (.getfield 59, 3) := by decide +kernel
theorem dX8_needed_15 : decode cX8_needed 15 = .ok (.iload_n 2, 1) := by decide +kernel
theorem dX8_needed_16 : decode cX8_needed 16 = .ok (.invokevirtual 189, 3) := by decide +kernel
theorem dX8_needed_19 : decode cX8_needed 19 = .ok (.ifCond .eq 12, 3) := by decide +kernel
theorem dX8_needed_22 : decode cX8_needed 22 = .ok (.iload_n 3, 1) := by decide +kernel
theorem dX8_needed_23 : decode cX8_needed 23 = .ok (.ifCond .lt 8, 3) := by decide +kernel
theorem dX8_needed_26 : decode cX8_needed 26 = .ok (.iload_n 3, 1) := by decide +kernel
theorem dX8_needed_27 : decode cX8_needed 27 = .ok (.iconst 1, 1) := by decide +kernel
theorem dX8_needed_28 : decode cX8_needed 28 = .ok (.if_icmp .le 5, 3) := by decide +kernel
theorem dX8_needed_31 : decode cX8_needed 31 = .ok (.iconst (-1), 1) := by decide +kernel
theorem dX8_needed_32 : decode cX8_needed 32 = .ok (.ireturn, 1) := by decide +kernel
theorem dX8_needed_33 : decode cX8_needed 33 = .ok (.bipush (-9), 2) := by decide +kernel
theorem dX8_needed_35 : decode cX8_needed 35 = .ok (.istore 4, 2) := by decide +kernel
theorem dX8_needed_37 : decode cX8_needed 37 = .ok (.aload_n 0, 1) := by decide +kernel
theorem dX8_needed_38 : decode cX8_needed 38 = .ok (.getfield 59, 3) := by decide +kernel
theorem dX8_needed_41 : decode cX8_needed 41 = .ok (.iload_n 1, 1) := by decide +kernel
theorem dX8_needed_42 : decode cX8_needed 42 = .ok (.iload_n 2, 1) := by decide +kernel
theorem dX8_needed_43 : decode cX8_needed 43 = .ok (.iconst 0, 1) := by decide +kernel
theorem dX8_needed_44 : decode cX8_needed 44 = .ok (.invokevirtual 193, 3) := by decide +kernel
theorem dX8_needed_47 : decode cX8_needed 47 = .ok (.istore 5, 2) := by decide +kernel
theorem dX8_needed_49 : decode cX8_needed 49 = .ok (.iconst 0, 1) := by decide +kernel
theorem dX8_needed_50 : decode cX8_needed 50 = .ok (.istore 6, 2) := by decide +kernel
theorem dX8_needed_52 : decode cX8_needed 52 = .ok (.iload 6, 2) := by decide +kernel
theorem dX8_needed_54 : decode cX8_needed 54 = .ok (.bipush 16, 2) := by decide +kernel
theorem dX8_needed_56 : decode cX8_needed 56 = .ok (.if_icmp .ge 53, 3) := by decide +kernel
theorem dX8_needed_59 : decode cX8_needed 59 = .ok (.aload_n 0, 1) := by decide +kernel
theorem dX8_needed_60 : decode cX8_needed 60 = .ok (.getfield 59, 3) := by decide +kernel
theorem dX8_needed_63 : decode cX8_needed 63 = .ok (.iload_n 1, 1) := by decide +kernel
theorem dX8_needed_64 : decode cX8_needed 64 = .ok (.iload_n 2, 1) := by decide +kernel
theorem dX8_needed_65 : decode cX8_needed 65 = .ok (.iconst 1, 1) := by decide +kernel
theorem dX8_needed_66 : decode cX8_needed 66 = .ok (.iload 6, 2) := by decide +kernel
theorem dX8_needed_68 : decode cX8_needed 68 = .ok (.ishl, 1) := by decide +kernel
theorem dX8_needed_69 : decode cX8_needed 69 = .ok (.invokevirtual 193, 3) := by decide +kernel
theorem dX8_needed_72 : decode cX8_needed 72 = .ok (.istore 7, 2) := by decide +kernel
theorem dX8_needed_74 : decode cX8_needed 74 = .ok (.iload 7, 2) := by decide +kernel
theorem dX8_needed_76 : decode cX8_needed 76 = .ok (.bipush (-9), 2) := by decide +kernel
theorem dX8_needed_78 : decode cX8_needed 78 = .ok (.if_icmp .eq 25, 3) := by decide +kernel
theorem dX8_needed_81 : decode cX8_needed 81 = .ok (.iload 5, 2) := by decide +kernel
theorem dX8_needed_83 : decode cX8_needed 83 = .ok (.bipush (-9), 2) := by decide +kernel
theorem dX8_needed_85 : decode cX8_needed 85 = .ok (.if_icmp .eq 10, 3) := by decide +kernel
theorem dX8_needed_88 : decode cX8_needed 88 = .ok (.iload 7, 2) := by decide +kernel
theorem dX8_needed_90 : decode cX8_needed 90 = .ok (.iload 5, 2) := by decide +kernel
theorem dX8_needed_92 : decode cX8_needed 92 = .ok (.if_icmp .ge 11, 3) := by decide +kernel
theorem dX8_needed_95 : decode cX8_needed 95 = .ok (.iload 7, 2) := by decide +kernel
theorem dX8_needed_97 : decode cX8_needed 97 = .ok (.istore 5, 2) := by decide +kernel
theorem dX8_needed_99 : decode cX8_needed 99 = .ok (.iload 6, 2) := by decide +kernel
theorem dX8_needed_101 : decode cX8_needed 101 = .ok (.istore 4, 2) := by decide +kernel
theorem dX8_needed_103 : decode cX8_needed 103 = .ok (.iinc 6 1, 3) := by decide +kernel
theorem dX8_needed_106 : decode cX8_needed 106 = .ok (.goto (-54), 3) := by decide +kernel
theorem dX8_needed_109 : decode cX8_needed 109 = .ok (.iload 4, 2) := by decide +kernel
theorem dX8_needed_111 : decode cX8_needed 111 = .ok (.bipush (-9), 2) := by decide +kernel
theorem dX8_needed_113 : decode cX8_needed 113 = .ok (.if_icmp .eq 7, 3) := by decide +kernel
theorem dX8_needed_116 : decode cX8_needed 116 = .ok (.iload_n 3, 1) := by decide +kernel
theorem dX8_needed_117 : decode cX8_needed 117 = .ok (.ifCond .ne 8, 3) := by decide +kernel
theorem dX8_needed_120 : decode cX8_needed 120 = .ok (.iload 4, 2) := by decide +kernel
theorem dX8_needed_122 : decode cX8_needed 122 = .ok (.goto 5, 3) := by decide +kernel
theorem dX8_needed_125 : decode cX8_needed 125 = .ok (.iload 5, 2) := by decide +kernel
theorem dX8_needed_127 : decode cX8_needed 127 = .ok (.ireturn, 1) := by decide +kernel
theorem dX8_weight_0 : decode cX8_weight 0 = .ok (.aload_n 0, 1) := by decide +kernel
theorem dX8_weight_1 : decode cX8_weight 1 = .ok (.iload_n 2, 1) := by decide +kernel
theorem dX8_weight_2 : decode cX8_weight 2 = .ok (.invokevirtual 90, 3) := by decide +kernel
theorem dX8_weight_5 : decode cX8_weight 5 = .ok (.astore_n 3, 1) := by decide +kernel
theorem dX8_weight_6 : decode cX8_weight 6 = .ok (.aload_n 3, 1) := by decide +kernel
theorem dX8_weight_7 : decode cX8_weight 7 = .ok (.ifnonnull 5, 3) := by decide +kernel
theorem dX8_weight_10 : decode cX8_weight 10 = .ok (.iconst (-1), 1) := by decide +kernel
theorem dX8_weight_11 : decode cX8_weight 11 = .ok (.ireturn, 1) := by decide +kernel
theorem dX8_weight_12 : decode cX8_weight 12 = .ok (.iload_n 1, 1) := by decide +kernel
theorem dX8_weight_13 : decode cX8_weight 13 = .ok (.tableswitch 77 0 5 #[39, 45, 51, 57, 64, 71], 39) := by decide +kernel
theorem dX8_weight_52 : decode cX8_weight 52 = .ok (.aload_n 0, 1) := by decide +kernel
theorem dX8_weight_53 : decode cX8_weight 53 = .ok (.aload_n 3, 1) := by decide +kernel
theorem dX8_weight_54 : decode cX8_weight 54 = .ok (.invokevirtual 200, 3) := by decide +kernel
theorem dX8_weight_57 : decode cX8_weight 57 = .ok (.ireturn, 1) := by decide +kernel
theorem dX8_weight_58 : decode cX8_weight 58 = .ok (.aload_n 0, 1) := by decide +kernel
theorem dX8_weight_59 : decode cX8_weight 59 = .ok (.aload_n 3, 1) := by decide +kernel
theorem dX8_weight_60 : decode cX8_weight 60 = .ok (.invokevirtual 203, 3) := by decide +kernel
theorem dX8_weight_63 : decode cX8_weight 63 = .ok (.ireturn, 1) := by decide +kernel
theorem dX8_weight_64 : decode cX8_weight 64 = .ok (.aload_n 0, 1) := by decide +kernel
theorem dX8_weight_65 : decode cX8_weight 65 = .ok (.aload_n 3, 1) := by decide +kernel
theorem dX8_weight_66 : decode cX8_weight 66 = .ok (.invokevirtual 206, 3) := by decide +kernel
theorem dX8_weight_69 : decode cX8_weight 69 = .ok (.ireturn, 1) := by decide +kernel
theorem dX8_weight_70 : decode cX8_weight 70 = .ok (.aload_n 0, 1) := by decide +kernel
theorem dX8_weight_71 : decode cX8_weight 71 = .ok (.aload_n 3, 1) := by decide +kernel
theorem dX8_weight_72 : decode cX8_weight 72 = .ok (.iload_n 2, 1) := by decide +kernel
theorem dX8_weight_73 : decode cX8_weight 73 = .ok (.invokevirtual 209, 3) := by decide +kernel
theorem dX8_weight_76 : decode cX8_weight 76 = .ok (.ireturn, 1) := by decide +kernel
theorem dX8_weight_77 : decode cX8_weight 77 = .ok (.aload_n 0, 1) := by decide +kernel
theorem dX8_weight_78 : decode cX8_weight 78 = .ok (.aload_n 3, 1) := by decide +kernel
theorem dX8_weight_79 : decode cX8_weight 79 = .ok (.iload_n 2, 1) := by decide +kernel
theorem dX8_weight_80 : decode cX8_weight 80 = .ok (.invokevirtual 213, 3) := by decide +kernel
theorem dX8_weight_83 : decode cX8_weight 83 = .ok (.ireturn, 1) := by decide +kernel
theorem dX8_weight_84 : decode cX8_weight 84 = .ok (.aload_n 0, 1) := by decide +kernel
theorem dX8_weight_85 : decode cX8_weight 85 = .ok (.aload_n 3, 1) := by decide +kernel
theorem dX8_weight_86 : decode cX8_weight 86 = .ok (.invokevirtual 216, 3) := by decide +kernel
theorem dX8_weight_89 : decode cX8_weight 89 = .ok (.ireturn, 1) := by decide +kernel
theorem dX8_weight_90 : decode cX8_weight 90 = .ok (.iconst (-1), 1) := by decide +kernel
theorem dX8_weight_91 : decode cX8_weight 91 = .ok (.ireturn, 1) := by decide +kernel
theorem dX8_count_0 : decode cX8_count 0 = .ok (.iload_n 1, 1) := by decide +kernel
theorem dX8_count_1 : decode cX8_count 1 = .ok (.tableswitch 70 0 4 #[35, 40, 48, 56, 61], 35) := by decide +kernel
theorem dX8_count_36 : decode cX8_count 36 = .ok (.aload_n 0, 1) := by decide +kernel
theorem dX8_count_37 : decode cX8_count 37 = .ok (.getfield 26, 3) := by decide +kernel
theorem dX8_count_40 : decode cX8_count 40 = .ok (.ireturn, 1) := by decide +kernel
theorem dX8_count_41 : decode cX8_count 41 = .ok (.aload_n 0, 1) := by decide +kernel
theorem dX8_count_42 : decode cX8_count 42 = .ok (.getfield 59, 3) := by decide +kernel
theorem dX8_count_45 : decode cX8_count 45 = .ok (.getfield 219, 3) := by decide +kernel
theorem dX8_count_48 : decode cX8_count 48 = .ok (.ireturn, 1) := by decide +kernel
theorem dX8_count_49 : decode cX8_count 49 = .ok (.aload_n 0, 1) := by decide +kernel
theorem dX8_count_50 : decode cX8_count 50 = .ok (.getfield 10, 3) := by decide +kernel
theorem dX8_count_53 : decode cX8_count 53 = .ok (.getfield 67, 3) := by decide +kernel
theorem dX8_count_56 : decode cX8_count 56 = .ok (.ireturn, 1) := by decide +kernel
theorem dX8_count_57 : decode cX8_count 57 = .ok (.aload_n 0, 1) := by decide +kernel
theorem dX8_count_58 : decode cX8_count 58 = .ok (.invokevirtual 222, 3) := by decide +kernel
theorem dX8_count_61 : decode cX8_count 61 = .ok (.ireturn, 1) := by decide +kernel
theorem dX8_count_62 : decode cX8_count 62 = .ok (.aload_n 0, 1) := by decide +kernel
theorem dX8_count_63 : decode cX8_count 63 = .ok (.aload_n 0, 1) := by decide +kernel
theorem dX8_count_64 : decode cX8_count 64 = .ok (.invokevirtual 158, 3) := by decide +kernel
theorem dX8_count_67 : decode cX8_count 67 = .ok (.invokevirtual 225, 3) := by decide +kernel
theorem dX8_count_70 : decode cX8_count 70 = .ok (.ireturn, 1) := by decide +kernel
theorem dX8_count_71 : decode cX8_count 71 = .ok (.iconst (-1), 1) := by decide +kernel
theorem dX8_count_72 : decode cX8_count 72 = .ok (.ireturn, 1) := by decide +kernel
theorem dX8_trace_0 : decode cX8_trace 0 = .ok (.aload_n 0, 1) := by decide +kernel
theorem dX8_trace_1 : decode cX8_trace 1 = .ok (.getfield 63, 3) := by decide +kernel
theorem dX8_trace_4 : decode cX8_trace 4 = .ok (.lreturn, 1) := by decide +kernel
theorem dX8_textAt_0 : decode cX8_textAt 0 = .ok (.iload_n 1, 1) := by decide +kernel
theorem dX8_textAt_1 : decode cX8_textAt 1 = .ok (.ifCond .lt 9, 3) := by decide +kernel
theorem dX8_textAt_4 : decode cX8_textAt 4 = .ok (.iload_n 1, 1) := by decide +kernel
theorem dX8_textAt_5 : decode cX8_textAt 5 = .ok (.bipush 8, 2) := by decide +kernel
theorem dX8_textAt_7 : decode cX8_textAt 7 = .ok (.if_icmp .lt 7, 3) := by decide +kernel
theorem dX8_textAt_10 : decode cX8_textAt 10 = .ok (.aconst_null, 1) := by decide +kernel
theorem dX8_textAt_11 : decode cX8_textAt 11 = .ok (.goto 9, 3) := by decide +kernel
theorem dX8_textAt_14 : decode cX8_textAt 14 = .ok (.aload_n 0, 1) := by decide +kernel
theorem dX8_textAt_15 : decode cX8_textAt 15 = .ok (.getfield 16, 3) := by decide +kernel
theorem dX8_textAt_18 : decode cX8_textAt 18 = .ok (.iload_n 1, 1) := by decide +kernel
theorem dX8_textAt_19 : decode cX8_textAt 19 = .ok (.aaload, 1) := by decide +kernel
theorem dX8_textAt_20 : decode cX8_textAt 20 = .ok (.areturn, 1) := by decide +kernel
theorem dX8_toolAt_0 : decode cX8_toolAt 0 = .ok (.iload_n 1, 1) := by decide +kernel
theorem dX8_toolAt_1 : decode cX8_toolAt 1 = .ok (.ifCond .lt 17, 3) := by decide +kernel
theorem dX8_toolAt_4 : decode cX8_toolAt 4 = .ok (.iload_n 1, 1) := by decide +kernel
theorem dX8_toolAt_5 : decode cX8_toolAt 5 = .ok (.aload_n 0, 1) := by decide +kernel
theorem dX8_toolAt_6 : decode cX8_toolAt 6 = .ok (.getfield 26, 3) := by decide +kernel
theorem dX8_toolAt_9 : decode cX8_toolAt 9 = .ok (.if_icmp .ge 9, 3) := by decide +kernel
theorem dX8_toolAt_12 : decode cX8_toolAt 12 = .ok (.iload_n 1, 1) := by decide +kernel
theorem dX8_toolAt_13 : decode cX8_toolAt 13 = .ok (.bipush 12, 2) := by decide +kernel
theorem dX8_toolAt_15 : decode cX8_toolAt 15 = .ok (.if_icmp .lt 7, 3) := by decide +kernel
theorem dX8_toolAt_18 : decode cX8_toolAt 18 = .ok (.aconst_null, 1) := by decide +kernel
theorem dX8_toolAt_19 : decode cX8_toolAt 19 = .ok (.goto 9, 3) := by decide +kernel
theorem dX8_toolAt_22 : decode cX8_toolAt 22 = .ok (.aload_n 0, 1) := by decide +kernel
theorem dX8_toolAt_23 : decode cX8_toolAt 23 = .ok (.getfield 22, 3) := by decide +kernel
theorem dX8_toolAt_26 : decode cX8_toolAt 26 = .ok (.iload_n 1, 1) := by decide +kernel
theorem dX8_toolAt_27 : decode cX8_toolAt 27 = .ok (.aaload, 1) := by decide +kernel
theorem dX8_toolAt_28 : decode cX8_toolAt 28 = .ok (.areturn, 1) := by decide +kernel
theorem dX8_hasBit_0 : decode cX8_hasBit 0 = .ok (.iload_n 0, 1) := by decide +kernel
theorem dX8_hasBit_1 : decode cX8_hasBit 1 = .ok (.iload_n 1, 1) := by decide +kernel
theorem dX8_hasBit_2 : decode cX8_hasBit 2 = .ok (.ishr, 1) := by decide +kernel
theorem dX8_hasBit_3 : decode cX8_hasBit 3 = .ok (.iconst 1, 1) := by decide +kernel
theorem dX8_hasBit_4 : decode cX8_hasBit 4 = .ok (.iand, 1) := by decide +kernel
theorem dX8_hasBit_5 : decode cX8_hasBit 5 = .ok (.iconst 1, 1) := by decide +kernel
theorem dX8_hasBit_6 : decode cX8_hasBit 6 = .ok (.if_icmp .ne 7, 3) := by decide +kernel
theorem dX8_hasBit_9 : decode cX8_hasBit 9 = .ok (.iconst 1, 1) := by decide +kernel
theorem dX8_hasBit_10 : decode cX8_hasBit 10 = .ok (.goto 4, 3) := by decide +kernel
theorem dX8_hasBit_13 : decode cX8_hasBit 13 = .ok (.iconst 0, 1) := by decide +kernel
theorem dX8_hasBit_14 : decode cX8_hasBit 14 = .ok (.ireturn, 1) := by decide +kernel
theorem dX8_make_0 : decode cX8_make 0 = .ok (.aload_n 0, 1) := by decide +kernel
theorem dX8_make_1 : decode cX8_make 1 = .ok (.iload_n 2, 1) := by decide +kernel
theorem dX8_make_2 : decode cX8_make 2 = .ok (.invokevirtual 74, 3) := by decide +kernel
theorem dX8_make_5 : decode cX8_make 5 = .ok (.astore_n 3, 1) := by decide +kernel
theorem dX8_make_6 : decode cX8_make 6 = .ok (.aload_n 3, 1) := by decide +kernel
theorem dX8_make_7 : decode cX8_make 7 = .ok (.ifnonnull 5, 3) := by decide +kernel
theorem dX8_make_10 : decode cX8_make 10 = .ok (.iconst (-1), 1) := by decide +kernel
theorem dX8_make_11 : decode cX8_make 11 = .ok (.ireturn, 1) := by decide +kernel
theorem dX8_make_12 : decode cX8_make 12 = .ok (.aload_n 0, 1) := by decide +kernel
theorem dX8_make_13 : decode cX8_make 13 = .ok (.iload_n 1, 1) := by decide +kernel
theorem dX8_make_14 : decode cX8_make 14 = .ok (.invokevirtual 228, 3) := by decide +kernel
theorem dX8_make_17 : decode cX8_make 17 = .ok (.astore 4, 2) := by decide +kernel
theorem dX8_make_19 : decode cX8_make 19 = .ok (.aload 4, 2) := by decide +kernel
theorem dX8_make_21 : decode cX8_make 21 = .ok (.aload_n 3, 1) := by decide +kernel
theorem dX8_make_22 : decode cX8_make 22 = .ok (.invokevirtual 232, 3) := by decide +kernel
theorem dX8_make_25 : decode cX8_make 25 = .ok (.istore 5, 2) := by decide +kernel
theorem dX8_make_27 : decode cX8_make 27 = .ok (.iload 5, 2) := by decide +kernel
theorem dX8_make_29 : decode cX8_make 29 = .ok (.bipush (-9), 2) := by decide +kernel
theorem dX8_make_31 : decode cX8_make 31 = .ok (.if_icmp .ne 19, 3) := by decide +kernel
theorem dX8_make_34 : decode cX8_make 34 = .ok (.aload_n 0, 1) := by decide +kernel
theorem dX8_make_35 : decode cX8_make 35 = .ok (.aload 4, 2) := by decide +kernel
theorem dX8_make_37 : decode cX8_make 37 = .ok (.getfield 238, 3) := by decide +kernel
theorem dX8_make_40 : decode cX8_make 40 = .ok (.iload_n 1, 1) := by decide +kernel
theorem dX8_make_41 : decode cX8_make 41 = .ok (.iload_n 2, 1) := by decide +kernel
theorem dX8_make_42 : decode cX8_make 42 = .ok (.bipush (-9), 2) := by decide +kernel
theorem dX8_make_44 : decode cX8_make 44 = .ok (.invokevirtual 105, 3) := by decide +kernel
theorem dX8_make_47 : decode cX8_make 47 = .ok (.goto 8, 3) := by decide +kernel
theorem dX8_make_50 : decode cX8_make 50 = .ok (.bipush (-10), 2) := by decide +kernel
theorem dX8_make_52 : decode cX8_make 52 = .ok (.iload 5, 2) := by decide +kernel
theorem dX8_make_54 : decode cX8_make 54 = .ok (.isub, 1) := by decide +kernel
theorem dX8_make_55 : decode cX8_make 55 = .ok (.ireturn, 1) := by decide +kernel
theorem dX8_makerBy_0 : decode cX8_makerBy 0 = .ok (.iload_n 1, 1) := by decide +kernel
theorem dX8_makerBy_1 : decode cX8_makerBy 1 = .ok (.ifCond .ne 10, 3) := by decide +kernel
theorem dX8_makerBy_4 : decode cX8_makerBy 4 = .ok (.aload_n 0, 1) := by decide +kernel
theorem dX8_makerBy_5 : decode cX8_makerBy 5 = .ok (.getfield 33, 3) := by decide +kernel
theorem dX8_makerBy_8 : decode cX8_makerBy 8 = .ok (.goto 7, 3) := by decide +kernel
theorem dX8_makerBy_11 : decode cX8_makerBy 11 = .ok (.aload_n 0, 1) := by decide +kernel
theorem dX8_makerBy_12 : decode cX8_makerBy 12 = .ok (.getfield 40, 3) := by decide +kernel
theorem dX8_makerBy_15 : decode cX8_makerBy 15 = .ok (.areturn, 1) := by decide +kernel
theorem dX8_keep_0 : decode cX8_keep 0 = .ok (.aload_n 0, 1) := by decide +kernel
theorem dX8_keep_1 : decode cX8_keep 1 = .ok (.getfield 26, 3) := by decide +kernel
theorem dX8_keep_4 : decode cX8_keep 4 = .ok (.bipush 12, 2) := by decide +kernel
theorem dX8_keep_6 : decode cX8_keep 6 = .ok (.if_icmp .lt 6, 3) := by decide +kernel
theorem dX8_keep_9 : decode cX8_keep 9 = .ok (.bipush (-3), 2) := by decide +kernel
theorem dX8_keep_11 : decode cX8_keep 11 = .ok (.ireturn, 1) := by decide +kernel
theorem dX8_keep_12 : decode cX8_keep 12 = .ok (.aload_n 0, 1) := by decide +kernel
theorem dX8_keep_13 : decode cX8_keep 13 = .ok (.getfield 22, 3) := by decide +kernel
theorem dX8_keep_16 : decode cX8_keep 16 = .ok (.aload_n 0, 1) := by decide +kernel
theorem dX8_keep_17 : decode cX8_keep 17 = .ok (.getfield 26, 3) := by decide +kernel
theorem dX8_keep_20 : decode cX8_keep 20 = .ok (.new 20, 3) := by decide +kernel
theorem dX8_keep_23 : decode cX8_keep 23 = .ok (.dup, 1) := by decide +kernel
theorem dX8_keep_24 : decode cX8_keep 24 = .ok (.aload_n 1, 1) := by decide +kernel
theorem dX8_keep_25 : decode cX8_keep 25 = .ok (.invokevirtual 241, 3) := by decide +kernel
theorem dX8_keep_28 : decode cX8_keep 28 = .ok (.iload_n 2, 1) := by decide +kernel
theorem dX8_keep_29 : decode cX8_keep 29 = .ok (.iload_n 3, 1) := by decide +kernel
theorem dX8_keep_30 : decode cX8_keep 30 = .ok (.iload 4, 2) := by decide +kernel
theorem dX8_keep_32 : decode cX8_keep 32 = .ok (.invokespecial 245, 3) := by decide +kernel
theorem dX8_keep_35 : decode cX8_keep 35 = .ok (.aastore, 1) := by decide +kernel
theorem dX8_keep_36 : decode cX8_keep 36 = .ok (.aload_n 0, 1) := by decide +kernel
theorem dX8_keep_37 : decode cX8_keep 37 = .ok (.dup, 1) := by decide +kernel
theorem dX8_keep_38 : decode cX8_keep 38 = .ok (.getfield 26, 3) := by decide +kernel
theorem dX8_keep_41 : decode cX8_keep 41 = .ok (.iconst 1, 1) := by decide +kernel
theorem dX8_keep_42 : decode cX8_keep 42 = .ok (.iadd, 1) := by decide +kernel
theorem dX8_keep_43 : decode cX8_keep 43 = .ok (.putfield 26, 3) := by decide +kernel
theorem dX8_keep_46 : decode cX8_keep 46 = .ok (.aload_n 0, 1) := by decide +kernel
theorem dX8_keep_47 : decode cX8_keep 47 = .ok (.getfield 26, 3) := by decide +kernel
theorem dX8_keep_50 : decode cX8_keep 50 = .ok (.iconst 1, 1) := by decide +kernel
theorem dX8_keep_51 : decode cX8_keep 51 = .ok (.isub, 1) := by decide +kernel
theorem dX8_keep_52 : decode cX8_keep 52 = .ok (.ireturn, 1) := by decide +kernel
theorem dX8_madeAgain_0 : decode cX8_madeAgain 0 = .ok (.aload_n 0, 1) := by decide +kernel
theorem dX8_madeAgain_1 : decode cX8_madeAgain 1 = .ok (.aload_n 1, 1) := by decide +kernel
theorem dX8_madeAgain_2 : decode cX8_madeAgain 2 = .ok (.getfield 115, 3) := by decide +kernel
theorem dX8_madeAgain_5 : decode cX8_madeAgain 5 = .ok (.invokevirtual 74, 3) := by decide +kernel
theorem dX8_madeAgain_8 : decode cX8_madeAgain 8 = .ok (.astore_n 2, 1) := by decide +kernel
theorem dX8_madeAgain_9 : decode cX8_madeAgain 9 = .ok (.aload_n 2, 1) := by decide +kernel
theorem dX8_madeAgain_10 : decode cX8_madeAgain 10 = .ok (.ifnonnull 6, 3) := by decide +kernel
theorem dX8_madeAgain_13 : decode cX8_madeAgain 13 = .ok (.bipush (-20), 2) := by decide +kernel
theorem dX8_madeAgain_15 : decode cX8_madeAgain 15 = .ok (.ireturn, 1) := by decide +kernel
theorem dX8_madeAgain_16 : decode cX8_madeAgain 16 = .ok (.aload_n 1, 1) := by decide +kernel
theorem dX8_madeAgain_17 : decode cX8_madeAgain 17 = .ok (.getfield 112, 3) := by decide +kernel
theorem dX8_madeAgain_20 : decode cX8_madeAgain 20 = .ok (.iconst 2, 1) := by decide +kernel
theorem dX8_madeAgain_21 : decode cX8_madeAgain 21 = .ok (.if_icmp .ne 10, 3) := by decide +kernel
theorem dX8_madeAgain_24 : decode cX8_madeAgain 24 = .ok (.aload_n 0, 1) := by decide +kernel
theorem dX8_madeAgain_25 : decode cX8_madeAgain 25 = .ok (.aload_n 1, 1) := by decide +kernel
theorem dX8_madeAgain_26 : decode cX8_madeAgain 26 = .ok (.aload_n 2, 1) := by decide +kernel
theorem dX8_madeAgain_27 : decode cX8_madeAgain 27 = .ok (.invokevirtual 248, 3) := by decide +kernel
theorem dX8_madeAgain_30 : decode cX8_madeAgain 30 = .ok (.ireturn, 1) := by decide +kernel
theorem dX8_madeAgain_31 : decode cX8_madeAgain 31 = .ok (.aload_n 0, 1) := by decide +kernel
theorem dX8_madeAgain_32 : decode cX8_madeAgain 32 = .ok (.aload_n 1, 1) := by decide +kernel
theorem dX8_madeAgain_33 : decode cX8_madeAgain 33 = .ok (.getfield 112, 3) := by decide +kernel
theorem dX8_madeAgain_36 : decode cX8_madeAgain 36 = .ok (.invokevirtual 228, 3) := by decide +kernel
theorem dX8_madeAgain_39 : decode cX8_madeAgain 39 = .ok (.astore_n 3, 1) := by decide +kernel
theorem dX8_madeAgain_40 : decode cX8_madeAgain 40 = .ok (.aload_n 3, 1) := by decide +kernel
theorem dX8_madeAgain_41 : decode cX8_madeAgain 41 = .ok (.aload_n 2, 1) := by decide +kernel
theorem dX8_madeAgain_42 : decode cX8_madeAgain 42 = .ok (.invokevirtual 232, 3) := by decide +kernel
theorem dX8_madeAgain_45 : decode cX8_madeAgain 45 = .ok (.bipush (-9), 2) := by decide +kernel
theorem dX8_madeAgain_47 : decode cX8_madeAgain 47 = .ok (.if_icmp .ne 17, 3) := by decide +kernel
theorem dX8_madeAgain_50 : decode cX8_madeAgain 50 = .ok (.aload_n 1, 1) := by decide +kernel
theorem dX8_madeAgain_51 : decode cX8_madeAgain 51 = .ok (.getfield 94, 3) := by decide +kernel
theorem dX8_madeAgain_54 : decode cX8_madeAgain 54 = .ok (.aload_n 3, 1) := by decide +kernel
theorem dX8_madeAgain_55 : decode cX8_madeAgain 55 = .ok (.getfield 238, 3) := by decide +kernel
theorem dX8_madeAgain_58 : decode cX8_madeAgain 58 = .ok (.invokevirtual 162, 3) := by decide +kernel
theorem dX8_madeAgain_61 : decode cX8_madeAgain 61 = .ok (.goto 5, 3) := by decide +kernel
theorem dX8_madeAgain_64 : decode cX8_madeAgain 64 = .ok (.bipush (-20), 2) := by decide +kernel
theorem dX8_madeAgain_66 : decode cX8_madeAgain 66 = .ok (.ireturn, 1) := by decide +kernel
theorem dX8_builtAgain_0 : decode cX8_builtAgain 0 = .ok (.aload_n 0, 1) := by decide +kernel
theorem dX8_builtAgain_1 : decode cX8_builtAgain 1 = .ok (.aload_n 1, 1) := by decide +kernel
theorem dX8_builtAgain_2 : decode cX8_builtAgain 2 = .ok (.getfield 118, 3) := by decide +kernel
theorem dX8_builtAgain_5 : decode cX8_builtAgain 5 = .ok (.invokevirtual 90, 3) := by decide +kernel
theorem dX8_builtAgain_8 : decode cX8_builtAgain 8 = .ok (.astore_n 3, 1) := by decide +kernel
theorem dX8_builtAgain_9 : decode cX8_builtAgain 9 = .ok (.aload_n 3, 1) := by decide +kernel
theorem dX8_builtAgain_10 : decode cX8_builtAgain 10 = .ok (.ifnonnull 6, 3) := by decide +kernel
theorem dX8_builtAgain_13 : decode cX8_builtAgain 13 = .ok (.bipush (-20), 2) := by decide +kernel
theorem dX8_builtAgain_15 : decode cX8_builtAgain 15 = .ok (.ireturn, 1) := by decide +kernel
theorem dX8_builtAgain_16 : decode cX8_builtAgain 16 = .ok (.aload_n 0, 1) := by decide +kernel
theorem dX8_builtAgain_17 : decode cX8_builtAgain 17 = .ok (.getfield 50, 3) := by decide +kernel
theorem dX8_builtAgain_20 : decode cX8_builtAgain 20 = .ok (.aload_n 3, 1) := by decide +kernel
theorem dX8_builtAgain_21 : decode cX8_builtAgain 21 = .ok (.getfield 94, 3) := by decide +kernel
theorem dX8_builtAgain_24 : decode cX8_builtAgain 24 = .ok (.aload_n 2, 1) := by decide +kernel
theorem dX8_builtAgain_25 : decode cX8_builtAgain 25 = .ok (.invokevirtual 129, 3) := by decide +kernel
theorem dX8_builtAgain_28 : decode cX8_builtAgain 28 = .ok (.aload_n 0, 1) := by decide +kernel
theorem dX8_builtAgain_29 : decode cX8_builtAgain 29 = .ok (.getfield 50, 3) := by decide +kernel
theorem dX8_builtAgain_32 : decode cX8_builtAgain 32 = .ok (.getfield 133, 3) := by decide +kernel
theorem dX8_builtAgain_35 : decode cX8_builtAgain 35 = .ok (.ifCond .eq 14, 3) := by decide +kernel
theorem dX8_builtAgain_38 : decode cX8_builtAgain 38 = .ok (.bipush (-10), 2) := by decide +kernel
theorem dX8_builtAgain_40 : decode cX8_builtAgain 40 = .ok (.aload_n 0, 1) := by decide +kernel
theorem dX8_builtAgain_41 : decode cX8_builtAgain 41 = .ok (.getfield 50, 3) := by decide +kernel
theorem dX8_builtAgain_44 : decode cX8_builtAgain 44 = .ok (.getfield 133, 3) := by decide +kernel
theorem dX8_builtAgain_47 : decode cX8_builtAgain 47 = .ok (.isub, 1) := by decide +kernel
theorem dX8_builtAgain_48 : decode cX8_builtAgain 48 = .ok (.ireturn, 1) := by decide +kernel
theorem dX8_builtAgain_49 : decode cX8_builtAgain 49 = .ok (.aload_n 0, 1) := by decide +kernel
theorem dX8_builtAgain_50 : decode cX8_builtAgain 50 = .ok (.getfield 50, 3) := by decide +kernel
theorem dX8_builtAgain_53 : decode cX8_builtAgain 53 = .ok (.getfield 102, 3) := by decide +kernel
theorem dX8_builtAgain_56 : decode cX8_builtAgain 56 = .ok (.getfield 109, 3) := by decide +kernel
theorem dX8_builtAgain_59 : decode cX8_builtAgain 59 = .ok (.ifCond .ne 8, 3) := by decide +kernel
theorem dX8_builtAgain_62 : decode cX8_builtAgain 62 = .ok (.bipush (-20), 2) := by decide +kernel
theorem dX8_builtAgain_64 : decode cX8_builtAgain 64 = .ok (.goto 17, 3) := by decide +kernel
theorem dX8_builtAgain_67 : decode cX8_builtAgain 67 = .ok (.aload_n 1, 1) := by decide +kernel
theorem dX8_builtAgain_68 : decode cX8_builtAgain 68 = .ok (.getfield 94, 3) := by decide +kernel
theorem dX8_builtAgain_71 : decode cX8_builtAgain 71 = .ok (.aload_n 0, 1) := by decide +kernel
theorem dX8_builtAgain_72 : decode cX8_builtAgain 72 = .ok (.getfield 50, 3) := by decide +kernel
theorem dX8_builtAgain_75 : decode cX8_builtAgain 75 = .ok (.getfield 102, 3) := by decide +kernel
theorem dX8_builtAgain_78 : decode cX8_builtAgain 78 = .ok (.invokevirtual 162, 3) := by decide +kernel
theorem dX8_builtAgain_81 : decode cX8_builtAgain 81 = .ok (.ireturn, 1) := by decide +kernel
theorem dX8_staleBits_0 : decode cX8_staleBits 0 = .ok (.iconst 0, 1) := by decide +kernel
theorem dX8_staleBits_1 : decode cX8_staleBits 1 = .ok (.istore_n 1, 1) := by decide +kernel
theorem dX8_staleBits_2 : decode cX8_staleBits 2 = .ok (.iconst 0, 1) := by decide +kernel
theorem dX8_staleBits_3 : decode cX8_staleBits 3 = .ok (.istore_n 2, 1) := by decide +kernel
theorem dX8_staleBits_4 : decode cX8_staleBits 4 = .ok (.iload_n 2, 1) := by decide +kernel
theorem dX8_staleBits_5 : decode cX8_staleBits 5 = .ok (.aload_n 0, 1) := by decide +kernel
theorem dX8_staleBits_6 : decode cX8_staleBits 6 = .ok (.getfield 26, 3) := by decide +kernel
theorem dX8_staleBits_9 : decode cX8_staleBits 9 = .ok (.if_icmp .ge 41, 3) := by decide +kernel
theorem dX8_staleBits_12 : decode cX8_staleBits 12 = .ok (.aload_n 0, 1) := by decide +kernel
theorem dX8_staleBits_13 : decode cX8_staleBits 13 = .ok (.iload_n 2, 1) := by decide +kernel
theorem dX8_staleBits_14 : decode cX8_staleBits 14 = .ok (.invokevirtual 90, 3) := by decide +kernel
theorem dX8_staleBits_17 : decode cX8_staleBits 17 = .ok (.astore_n 3, 1) := by decide +kernel
theorem dX8_staleBits_18 : decode cX8_staleBits 18 = .ok (.aload_n 3, 1) := by decide +kernel
theorem dX8_staleBits_19 : decode cX8_staleBits 19 = .ok (.ifnull 25, 3) := by decide +kernel
theorem dX8_staleBits_22 : decode cX8_staleBits 22 = .ok (.iload_n 1, 1) := by decide +kernel
theorem dX8_staleBits_23 : decode cX8_staleBits 23 = .ok (.aload_n 3, 1) := by decide +kernel
theorem dX8_staleBits_24 : decode cX8_staleBits 24 = .ok (.invokestatic 252, 3) := by decide +kernel
theorem dX8_staleBits_27 : decode cX8_staleBits 27 = .ok (.ifCond .ne 11, 3) := by decide +kernel
theorem dX8_staleBits_30 : decode cX8_staleBits 30 = .ok (.aload_n 0, 1) := by decide +kernel
theorem dX8_staleBits_31 : decode cX8_staleBits 31 = .ok (.aload_n 3, 1) := by decide +kernel
theorem dX8_staleBits_32 : decode cX8_staleBits 32 = .ok (.invokevirtual 154, 3) := by decide +kernel
theorem dX8_staleBits_35 : decode cX8_staleBits 35 = .ok (.ifCond .eq 9, 3) := by decide +kernel
theorem dX8_staleBits_38 : decode cX8_staleBits 38 = .ok (.iload_n 1, 1) := by decide +kernel
theorem dX8_staleBits_39 : decode cX8_staleBits 39 = .ok (.iconst 1, 1) := by decide +kernel
theorem dX8_staleBits_40 : decode cX8_staleBits 40 = .ok (.iload_n 2, 1) := by decide +kernel
theorem dX8_staleBits_41 : decode cX8_staleBits 41 = .ok (.ishl, 1) := by decide +kernel
theorem dX8_staleBits_42 : decode cX8_staleBits 42 = .ok (.ior, 1) := by decide +kernel
theorem dX8_staleBits_43 : decode cX8_staleBits 43 = .ok (.istore_n 1, 1) := by decide +kernel
theorem dX8_staleBits_44 : decode cX8_staleBits 44 = .ok (.iinc 2 1, 3) := by decide +kernel
theorem dX8_staleBits_47 : decode cX8_staleBits 47 = .ok (.goto (-43), 3) := by decide +kernel
theorem dX8_staleBits_50 : decode cX8_staleBits 50 = .ok (.iload_n 1, 1) := by decide +kernel
theorem dX8_staleBits_51 : decode cX8_staleBits 51 = .ok (.ireturn, 1) := by decide +kernel
theorem dX8_isBuiltByOneOf_0 : decode cX8_isBuiltByOneOf 0 = .ok (.aload_n 1, 1) := by decide +kernel
theorem dX8_isBuiltByOneOf_1 : decode cX8_isBuiltByOneOf 1 = .ok (.getfield 112, 3) := by decide +kernel
theorem dX8_isBuiltByOneOf_4 : decode cX8_isBuiltByOneOf 4 = .ok (.iconst 2, 1) := by decide +kernel
theorem dX8_isBuiltByOneOf_5 : decode cX8_isBuiltByOneOf 5 = .ok (.if_icmp .ne 18, 3) := by decide +kernel
theorem dX8_isBuiltByOneOf_8 : decode cX8_isBuiltByOneOf 8 = .ok (.iload_n 0, 1) := by decide +kernel
theorem dX8_isBuiltByOneOf_9 : decode cX8_isBuiltByOneOf 9 = .ok (.aload_n 1, 1) := by decide +kernel
theorem dX8_isBuiltByOneOf_10 : decode cX8_isBuiltByOneOf 10 = .ok (.getfield 118, 3) := by decide +kernel
theorem dX8_isBuiltByOneOf_13 : decode cX8_isBuiltByOneOf 13 = .ok (.invokestatic 180, 3) := by decide +kernel
theorem dX8_isBuiltByOneOf_16 : decode cX8_isBuiltByOneOf 16 = .ok (.ifCond .eq 7, 3) := by decide +kernel
theorem dX8_isBuiltByOneOf_19 : decode cX8_isBuiltByOneOf 19 = .ok (.iconst 1, 1) := by decide +kernel
theorem dX8_isBuiltByOneOf_20 : decode cX8_isBuiltByOneOf 20 = .ok (.goto 4, 3) := by decide +kernel
theorem dX8_isBuiltByOneOf_23 : decode cX8_isBuiltByOneOf 23 = .ok (.iconst 0, 1) := by decide +kernel
theorem dX8_isBuiltByOneOf_24 : decode cX8_isBuiltByOneOf 24 = .ok (.ireturn, 1) := by decide +kernel
theorem dX8_goneRound_0 : decode cX8_goneRound 0 = .ok (.aload_n 0, 1) := by decide +kernel
theorem dX8_goneRound_1 : decode cX8_goneRound 1 = .ok (.getfield 50, 3) := by decide +kernel
theorem dX8_goneRound_4 : decode cX8_goneRound 4 = .ok (.aload_n 1, 1) := by decide +kernel
theorem dX8_goneRound_5 : decode cX8_goneRound 5 = .ok (.getfield 94, 3) := by decide +kernel
theorem dX8_goneRound_8 : decode cX8_goneRound 8 = .ok (.aload_n 3, 1) := by decide +kernel
theorem dX8_goneRound_9 : decode cX8_goneRound 9 = .ok (.invokevirtual 98, 3) := by decide +kernel
theorem dX8_goneRound_12 : decode cX8_goneRound 12 = .ok (.ifCond .eq 58, 3) := by decide +kernel
theorem dX8_goneRound_15 : decode cX8_goneRound 15 = .ok (.aload_n 0, 1) := by decide +kernel
theorem dX8_goneRound_16 : decode cX8_goneRound 16 = .ok (.getfield 50, 3) := by decide +kernel
theorem dX8_goneRound_19 : decode cX8_goneRound 19 = .ok (.aload_n 0, 1) := by decide +kernel
theorem dX8_goneRound_20 : decode cX8_goneRound 20 = .ok (.getfield 50, 3) := by decide +kernel
theorem dX8_goneRound_23 : decode cX8_goneRound 23 = .ok (.getfield 102, 3) := by decide +kernel
theorem dX8_goneRound_26 : decode cX8_goneRound 26 = .ok (.aload_n 3, 1) := by decide +kernel
theorem dX8_goneRound_27 : decode cX8_goneRound 27 = .ok (.invokevirtual 98, 3) := by decide +kernel
theorem dX8_goneRound_30 : decode cX8_goneRound 30 = .ok (.ifCond .eq 40, 3) := by decide +kernel
theorem dX8_goneRound_33 : decode cX8_goneRound 33 = .ok (.aload_n 0, 1) := by decide +kernel
theorem dX8_goneRound_34 : decode cX8_goneRound 34 = .ok (.getfield 53, 3) := by decide +kernel
theorem dX8_goneRound_37 : decode cX8_goneRound 37 = .ok (.aload_n 2, 1) := by decide +kernel
theorem dX8_goneRound_38 : decode cX8_goneRound 38 = .ok (.getfield 94, 3) := by decide +kernel
theorem dX8_goneRound_41 : decode cX8_goneRound 41 = .ok (.aload_n 3, 1) := by decide +kernel
theorem dX8_goneRound_42 : decode cX8_goneRound 42 = .ok (.invokevirtual 98, 3) := by decide +kernel
theorem dX8_goneRound_45 : decode cX8_goneRound 45 = .ok (.ifCond .eq 25, 3) := by decide +kernel
theorem dX8_goneRound_48 : decode cX8_goneRound 48 = .ok (.aload_n 0, 1) := by decide +kernel
theorem dX8_goneRound_49 : decode cX8_goneRound 49 = .ok (.getfield 53, 3) := by decide +kernel
theorem dX8_goneRound_52 : decode cX8_goneRound 52 = .ok (.aload_n 0, 1) := by decide +kernel
theorem dX8_goneRound_53 : decode cX8_goneRound 53 = .ok (.getfield 53, 3) := by decide +kernel
theorem dX8_goneRound_56 : decode cX8_goneRound 56 = .ok (.getfield 102, 3) := by decide +kernel
theorem dX8_goneRound_59 : decode cX8_goneRound 59 = .ok (.aload_n 3, 1) := by decide +kernel
theorem dX8_goneRound_60 : decode cX8_goneRound 60 = .ok (.invokevirtual 98, 3) := by decide +kernel
theorem dX8_goneRound_63 : decode cX8_goneRound 63 = .ok (.ifCond .eq 7, 3) := by decide +kernel
theorem dX8_goneRound_66 : decode cX8_goneRound 66 = .ok (.iconst 1, 1) := by decide +kernel
theorem dX8_goneRound_67 : decode cX8_goneRound 67 = .ok (.goto 4, 3) := by decide +kernel
theorem dX8_goneRound_70 : decode cX8_goneRound 70 = .ok (.iconst 0, 1) := by decide +kernel
theorem dX8_goneRound_71 : decode cX8_goneRound 71 = .ok (.istore 4, 2) := by decide +kernel
theorem dX8_goneRound_73 : decode cX8_goneRound 73 = .ok (.iload 4, 2) := by decide +kernel
theorem dX8_goneRound_75 : decode cX8_goneRound 75 = .ok (.ifCond .eq 23, 3) := by decide +kernel
theorem dX8_goneRound_78 : decode cX8_goneRound 78 = .ok (.aload_n 0, 1) := by decide +kernel
theorem dX8_goneRound_79 : decode cX8_goneRound 79 = .ok (.getfield 50, 3) := by decide +kernel
theorem dX8_goneRound_82 : decode cX8_goneRound 82 = .ok (.getfield 102, 3) := by decide +kernel
theorem dX8_goneRound_85 : decode cX8_goneRound 85 = .ok (.aload_n 0, 1) := by decide +kernel
theorem dX8_goneRound_86 : decode cX8_goneRound 86 = .ok (.getfield 53, 3) := by decide +kernel
theorem dX8_goneRound_89 : decode cX8_goneRound 89 = .ok (.getfield 102, 3) := by decide +kernel
theorem dX8_goneRound_92 : decode cX8_goneRound 92 = .ok (.invokevirtual 162, 3) := by decide +kernel
theorem dX8_goneRound_95 : decode cX8_goneRound 95 = .ok (.goto 5, 3) := by decide +kernel
theorem dX8_goneRound_98 : decode cX8_goneRound 98 = .ok (.bipush (-2), 2) := by decide +kernel
theorem dX8_goneRound_100 : decode cX8_goneRound 100 = .ok (.ireturn, 1) := by decide +kernel
theorem dX8_chainLength_0 : decode cX8_chainLength 0 = .ok (.iconst 0, 1) := by decide +kernel
theorem dX8_chainLength_1 : decode cX8_chainLength 1 = .ok (.istore_n 2, 1) := by decide +kernel
theorem dX8_chainLength_2 : decode cX8_chainLength 2 = .ok (.aload_n 0, 1) := by decide +kernel
theorem dX8_chainLength_3 : decode cX8_chainLength 3 = .ok (.iload_n 1, 1) := by decide +kernel
theorem dX8_chainLength_4 : decode cX8_chainLength 4 = .ok (.invokevirtual 90, 3) := by decide +kernel
theorem dX8_chainLength_7 : decode cX8_chainLength 7 = .ok (.astore_n 3, 1) := by decide +kernel
theorem dX8_chainLength_8 : decode cX8_chainLength 8 = .ok (.aload_n 3, 1) := by decide +kernel
theorem dX8_chainLength_9 : decode cX8_chainLength 9 = .ok (.ifnull 24, 3) := by decide +kernel
theorem dX8_chainLength_12 : decode cX8_chainLength 12 = .ok (.iload_n 2, 1) := by decide +kernel
theorem dX8_chainLength_13 : decode cX8_chainLength 13 = .ok (.bipush 12, 2) := by decide +kernel
theorem dX8_chainLength_15 : decode cX8_chainLength 15 = .ok (.if_icmp .ge 18, 3) := by decide +kernel
theorem dX8_chainLength_18 : decode cX8_chainLength 18 = .ok (.iinc 2 1, 3) := by decide +kernel
theorem dX8_chainLength_21 : decode cX8_chainLength 21 = .ok (.aload_n 0, 1) := by decide +kernel
theorem dX8_chainLength_22 : decode cX8_chainLength 22 = .ok (.aload_n 3, 1) := by decide +kernel
theorem dX8_chainLength_23 : decode cX8_chainLength 23 = .ok (.getfield 118, 3) := by decide +kernel
theorem dX8_chainLength_26 : decode cX8_chainLength 26 = .ok (.invokevirtual 90, 3) := by decide +kernel
theorem dX8_chainLength_29 : decode cX8_chainLength 29 = .ok (.astore_n 3, 1) := by decide +kernel
theorem dX8_chainLength_30 : decode cX8_chainLength 30 = .ok (.goto (-22), 3) := by decide +kernel
theorem dX8_chainLength_33 : decode cX8_chainLength 33 = .ok (.iload_n 2, 1) := by decide +kernel
theorem dX8_chainLength_34 : decode cX8_chainLength 34 = .ok (.ireturn, 1) := by decide +kernel
theorem dX8_chainAt_0 : decode cX8_chainAt 0 = .ok (.iload_n 1, 1) := by decide +kernel
theorem dX8_chainAt_1 : decode cX8_chainAt 1 = .ok (.istore_n 3, 1) := by decide +kernel
theorem dX8_chainAt_2 : decode cX8_chainAt 2 = .ok (.iconst 0, 1) := by decide +kernel
theorem dX8_chainAt_3 : decode cX8_chainAt 3 = .ok (.istore 4, 2) := by decide +kernel
theorem dX8_chainAt_5 : decode cX8_chainAt 5 = .ok (.iload 4, 2) := by decide +kernel
theorem dX8_chainAt_7 : decode cX8_chainAt 7 = .ok (.iload_n 2, 1) := by decide +kernel
theorem dX8_chainAt_8 : decode cX8_chainAt 8 = .ok (.if_icmp .ge 39, 3) := by decide +kernel
theorem dX8_chainAt_11 : decode cX8_chainAt 11 = .ok (.iload 4, 2) := by decide +kernel
theorem dX8_chainAt_13 : decode cX8_chainAt 13 = .ok (.bipush 12, 2) := by decide +kernel
theorem dX8_chainAt_15 : decode cX8_chainAt 15 = .ok (.if_icmp .ge 32, 3) := by decide +kernel
theorem dX8_chainAt_18 : decode cX8_chainAt 18 = .ok (.aload_n 0, 1) := by decide +kernel
theorem dX8_chainAt_19 : decode cX8_chainAt 19 = .ok (.iload_n 3, 1) := by decide +kernel
theorem dX8_chainAt_20 : decode cX8_chainAt 20 = .ok (.invokevirtual 90, 3) := by decide +kernel
theorem dX8_chainAt_23 : decode cX8_chainAt 23 = .ok (.astore 5, 2) := by decide +kernel
theorem dX8_chainAt_25 : decode cX8_chainAt 25 = .ok (.aload 5, 2) := by decide +kernel
theorem dX8_chainAt_27 : decode cX8_chainAt 27 = .ok (.ifnonnull 8, 3) := by decide +kernel
theorem dX8_chainAt_30 : decode cX8_chainAt 30 = .ok (.bipush (-9), 2) := by decide +kernel
theorem dX8_chainAt_32 : decode cX8_chainAt 32 = .ok (.goto 8, 3) := by decide +kernel
theorem dX8_chainAt_35 : decode cX8_chainAt 35 = .ok (.aload 5, 2) := by decide +kernel
theorem dX8_chainAt_37 : decode cX8_chainAt 37 = .ok (.getfield 118, 3) := by decide +kernel
theorem dX8_chainAt_40 : decode cX8_chainAt 40 = .ok (.istore_n 3, 1) := by decide +kernel
theorem dX8_chainAt_41 : decode cX8_chainAt 41 = .ok (.iinc 4 1, 3) := by decide +kernel
theorem dX8_chainAt_44 : decode cX8_chainAt 44 = .ok (.goto (-39), 3) := by decide +kernel
theorem dX8_chainAt_47 : decode cX8_chainAt 47 = .ok (.iload_n 3, 1) := by decide +kernel
theorem dX8_chainAt_48 : decode cX8_chainAt 48 = .ok (.ireturn, 1) := by decide +kernel
theorem dX8_chainEnd_0 : decode cX8_chainEnd 0 = .ok (.aload_n 0, 1) := by decide +kernel
theorem dX8_chainEnd_1 : decode cX8_chainEnd 1 = .ok (.iload_n 1, 1) := by decide +kernel
theorem dX8_chainEnd_2 : decode cX8_chainEnd 2 = .ok (.aload_n 0, 1) := by decide +kernel
theorem dX8_chainEnd_3 : decode cX8_chainEnd 3 = .ok (.iload_n 1, 1) := by decide +kernel
theorem dX8_chainEnd_4 : decode cX8_chainEnd 4 = .ok (.invokevirtual 170, 3) := by decide +kernel
theorem dX8_chainEnd_7 : decode cX8_chainEnd 7 = .ok (.iconst 1, 1) := by decide +kernel
theorem dX8_chainEnd_8 : decode cX8_chainEnd 8 = .ok (.isub, 1) := by decide +kernel
theorem dX8_chainEnd_9 : decode cX8_chainEnd 9 = .ok (.invokevirtual 173, 3) := by decide +kernel
theorem dX8_chainEnd_12 : decode cX8_chainEnd 12 = .ok (.ireturn, 1) := by decide +kernel
theorem dX8_isSealed_0 : decode cX8_isSealed 0 = .ok (.aload_n 0, 1) := by decide +kernel
theorem dX8_isSealed_1 : decode cX8_isSealed 1 = .ok (.aload_n 0, 1) := by decide +kernel
theorem dX8_isSealed_2 : decode cX8_isSealed 2 = .ok (.iload_n 1, 1) := by decide +kernel
theorem dX8_isSealed_3 : decode cX8_isSealed 3 = .ok (.invokevirtual 183, 3) := by decide +kernel
theorem dX8_isSealed_6 : decode cX8_isSealed 6 = .ok (.invokevirtual 90, 3) := by decide +kernel
theorem dX8_isSealed_9 : decode cX8_isSealed 9 = .ok (.astore_n 3, 1) := by decide +kernel
theorem dX8_isSealed_10 : decode cX8_isSealed 10 = .ok (.aload_n 3, 1) := by decide +kernel
theorem dX8_isSealed_11 : decode cX8_isSealed 11 = .ok (.ifnull 22, 3) := by decide +kernel
theorem dX8_isSealed_14 : decode cX8_isSealed 14 = .ok (.aload_n 3, 1) := by decide +kernel
theorem dX8_isSealed_15 : decode cX8_isSealed 15 = .ok (.getfield 121, 3) := by decide +kernel
theorem dX8_isSealed_18 : decode cX8_isSealed 18 = .ok (.ifCond .eq 15, 3) := by decide +kernel
theorem dX8_isSealed_21 : decode cX8_isSealed 21 = .ok (.iload_n 2, 1) := by decide +kernel
theorem dX8_isSealed_22 : decode cX8_isSealed 22 = .ok (.iload_n 1, 1) := by decide +kernel
theorem dX8_isSealed_23 : decode cX8_isSealed 23 = .ok (.invokestatic 180, 3) := by decide +kernel
theorem dX8_isSealed_26 : decode cX8_isSealed 26 = .ok (.ifCond .ne 7, 3) := by decide +kernel
theorem dX8_isSealed_29 : decode cX8_isSealed 29 = .ok (.iconst 1, 1) := by decide +kernel
theorem dX8_isSealed_30 : decode cX8_isSealed 30 = .ok (.goto 4, 3) := by decide +kernel
theorem dX8_isSealed_33 : decode cX8_isSealed 33 = .ok (.iconst 0, 1) := by decide +kernel
theorem dX8_isSealed_34 : decode cX8_isSealed 34 = .ok (.ireturn, 1) := by decide +kernel
theorem dX8_checkedTools_0 : decode cX8_checkedTools 0 = .ok (.iconst 0, 1) := by decide +kernel
theorem dX8_checkedTools_1 : decode cX8_checkedTools 1 = .ok (.istore_n 1, 1) := by decide +kernel
theorem dX8_checkedTools_2 : decode cX8_checkedTools 2 = .ok (.iconst 0, 1) := by decide +kernel
theorem dX8_checkedTools_3 : decode cX8_checkedTools 3 = .ok (.istore_n 2, 1) := by decide +kernel
theorem dX8_checkedTools_4 : decode cX8_checkedTools 4 = .ok (.iload_n 2, 1) := by decide +kernel
theorem dX8_checkedTools_5 : decode cX8_checkedTools 5 = .ok (.aload_n 0, 1) := by decide +kernel
theorem dX8_checkedTools_6 : decode cX8_checkedTools 6 = .ok (.getfield 26, 3) := by decide +kernel
theorem dX8_checkedTools_9 : decode cX8_checkedTools 9 = .ok (.if_icmp .ge 29, 3) := by decide +kernel
theorem dX8_checkedTools_12 : decode cX8_checkedTools 12 = .ok (.aload_n 0, 1) := by decide +kernel
theorem dX8_checkedTools_13 : decode cX8_checkedTools 13 = .ok (.iload_n 2, 1) := by decide +kernel
theorem dX8_checkedTools_14 : decode cX8_checkedTools 14 = .ok (.invokevirtual 90, 3) := by decide +kernel
theorem dX8_checkedTools_17 : decode cX8_checkedTools 17 = .ok (.astore_n 3, 1) := by decide +kernel
theorem dX8_checkedTools_18 : decode cX8_checkedTools 18 = .ok (.aload_n 3, 1) := by decide +kernel
theorem dX8_checkedTools_19 : decode cX8_checkedTools 19 = .ok (.ifnull 13, 3) := by decide +kernel
theorem dX8_checkedTools_22 : decode cX8_checkedTools 22 = .ok (.aload_n 3, 1) := by decide +kernel
theorem dX8_checkedTools_23 : decode cX8_checkedTools 23 = .ok (.getfield 121, 3) := by decide +kernel
theorem dX8_checkedTools_26 : decode cX8_checkedTools 26 = .ok (.ifCond .eq 6, 3) := by decide +kernel
theorem dX8_checkedTools_29 : decode cX8_checkedTools 29 = .ok (.iinc 1 1, 3) := by decide +kernel
theorem dX8_checkedTools_32 : decode cX8_checkedTools 32 = .ok (.iinc 2 1, 3) := by decide +kernel
theorem dX8_checkedTools_35 : decode cX8_checkedTools 35 = .ok (.goto (-31), 3) := by decide +kernel
theorem dX8_checkedTools_38 : decode cX8_checkedTools 38 = .ok (.iload_n 1, 1) := by decide +kernel
theorem dX8_checkedTools_39 : decode cX8_checkedTools 39 = .ok (.ireturn, 1) := by decide +kernel
theorem dX8_sealedTools_0 : decode cX8_sealedTools 0 = .ok (.iconst 0, 1) := by decide +kernel
theorem dX8_sealedTools_1 : decode cX8_sealedTools 1 = .ok (.istore_n 2, 1) := by decide +kernel
theorem dX8_sealedTools_2 : decode cX8_sealedTools 2 = .ok (.iconst 0, 1) := by decide +kernel
theorem dX8_sealedTools_3 : decode cX8_sealedTools 3 = .ok (.istore_n 3, 1) := by decide +kernel
theorem dX8_sealedTools_4 : decode cX8_sealedTools 4 = .ok (.iload_n 3, 1) := by decide +kernel
theorem dX8_sealedTools_5 : decode cX8_sealedTools 5 = .ok (.aload_n 0, 1) := by decide +kernel
theorem dX8_sealedTools_6 : decode cX8_sealedTools 6 = .ok (.getfield 26, 3) := by decide +kernel
theorem dX8_sealedTools_9 : decode cX8_sealedTools 9 = .ok (.if_icmp .ge 21, 3) := by decide +kernel
theorem dX8_sealedTools_12 : decode cX8_sealedTools 12 = .ok (.aload_n 0, 1) := by decide +kernel
theorem dX8_sealedTools_13 : decode cX8_sealedTools 13 = .ok (.iload_n 3, 1) := by decide +kernel
theorem dX8_sealedTools_14 : decode cX8_sealedTools 14 = .ok (.iload_n 1, 1) := by decide +kernel
theorem dX8_sealedTools_15 : decode cX8_sealedTools 15 = .ok (.invokevirtual 176, 3) := by decide +kernel
theorem dX8_sealedTools_18 : decode cX8_sealedTools 18 = .ok (.ifCond .eq 6, 3) := by decide +kernel
theorem dX8_sealedTools_21 : decode cX8_sealedTools 21 = .ok (.iinc 2 1, 3) := by decide +kernel
theorem dX8_sealedTools_24 : decode cX8_sealedTools 24 = .ok (.iinc 3 1, 3) := by decide +kernel
theorem dX8_sealedTools_27 : decode cX8_sealedTools 27 = .ok (.goto (-23), 3) := by decide +kernel
theorem dX8_sealedTools_30 : decode cX8_sealedTools 30 = .ok (.iload_n 2, 1) := by decide +kernel
theorem dX8_sealedTools_31 : decode cX8_sealedTools 31 = .ok (.ireturn, 1) := by decide +kernel
theorem dX8_asTool_0 : decode cX8_asTool 0 = .ok (.aload_n 0, 1) := by decide +kernel
theorem dX8_asTool_1 : decode cX8_asTool 1 = .ok (.dup, 1) := by decide +kernel
theorem dX8_asTool_2 : decode cX8_asTool 2 = .ok (.getfield 63, 3) := by decide +kernel
theorem dX8_asTool_5 : decode cX8_asTool 5 = .ok (.lconst 1, 1) := by decide +kernel
theorem dX8_asTool_6 : decode cX8_asTool 6 = .ok (.ladd, 1) := by decide +kernel
theorem dX8_asTool_7 : decode cX8_asTool 7 = .ok (.putfield 63, 3) := by decide +kernel
theorem dX8_asTool_10 : decode cX8_asTool 10 = .ok (.aload_n 1, 1) := by decide +kernel
theorem dX8_asTool_11 : decode cX8_asTool 11 = .ok (.getfield 94, 3) := by decide +kernel
theorem dX8_asTool_14 : decode cX8_asTool 14 = .ok (.getfield 109, 3) := by decide +kernel
theorem dX8_asTool_17 : decode cX8_asTool 17 = .ok (.ireturn, 1) := by decide +kernel
theorem dX8_asPaired_0 : decode cX8_asPaired 0 = .ok (.aload_n 0, 1) := by decide +kernel
theorem dX8_asPaired_1 : decode cX8_asPaired 1 = .ok (.dup, 1) := by decide +kernel
theorem dX8_asPaired_2 : decode cX8_asPaired 2 = .ok (.getfield 63, 3) := by decide +kernel
theorem dX8_asPaired_5 : decode cX8_asPaired 5 = .ok (.ldc2_w 256, 3) := by decide +kernel
theorem dX8_asPaired_8 : decode cX8_asPaired 8 = .ok (.ladd, 1) := by decide +kernel
theorem dX8_asPaired_9 : decode cX8_asPaired 9 = .ok (.putfield 63, 3) := by decide +kernel
theorem dX8_asPaired_12 : decode cX8_asPaired 12 = .ok (.aload_n 0, 1) := by decide +kernel
theorem dX8_asPaired_13 : decode cX8_asPaired 13 = .ok (.aload_n 1, 1) := by decide +kernel
theorem dX8_asPaired_14 : decode cX8_asPaired 14 = .ok (.invokevirtual 200, 3) := by decide +kernel
theorem dX8_asPaired_17 : decode cX8_asPaired 17 = .ok (.aload_n 1, 1) := by decide +kernel
theorem dX8_asPaired_18 : decode cX8_asPaired 18 = .ok (.getfield 121, 3) := by decide +kernel
theorem dX8_asPaired_21 : decode cX8_asPaired 21 = .ok (.ifCond .eq 8, 3) := by decide +kernel
theorem dX8_asPaired_24 : decode cX8_asPaired 24 = .ok (.bipush 9, 2) := by decide +kernel
theorem dX8_asPaired_26 : decode cX8_asPaired 26 = .ok (.goto 4, 3) := by decide +kernel
theorem dX8_asPaired_29 : decode cX8_asPaired 29 = .ok (.iconst 0, 1) := by decide +kernel
theorem dX8_asPaired_30 : decode cX8_asPaired 30 = .ok (.iadd, 1) := by decide +kernel
theorem dX8_asPaired_31 : decode cX8_asPaired 31 = .ok (.ireturn, 1) := by decide +kernel
theorem dX8_asNamed_0 : decode cX8_asNamed 0 = .ok (.aload_n 0, 1) := by decide +kernel
theorem dX8_asNamed_1 : decode cX8_asNamed 1 = .ok (.dup, 1) := by decide +kernel
theorem dX8_asNamed_2 : decode cX8_asNamed 2 = .ok (.getfield 63, 3) := by decide +kernel
theorem dX8_asNamed_5 : decode cX8_asNamed 5 = .ok (.ldc2_w 258, 3) := by decide +kernel
theorem dX8_asNamed_8 : decode cX8_asNamed 8 = .ok (.ladd, 1) := by decide +kernel
theorem dX8_asNamed_9 : decode cX8_asNamed 9 = .ok (.putfield 63, 3) := by decide +kernel
theorem dX8_asNamed_12 : decode cX8_asNamed 12 = .ok (.aload_n 0, 1) := by decide +kernel
theorem dX8_asNamed_13 : decode cX8_asNamed 13 = .ok (.aload_n 1, 1) := by decide +kernel
theorem dX8_asNamed_14 : decode cX8_asNamed 14 = .ok (.invokevirtual 200, 3) := by decide +kernel
theorem dX8_asNamed_17 : decode cX8_asNamed 17 = .ok (.iconst 2, 1) := by decide +kernel
theorem dX8_asNamed_18 : decode cX8_asNamed 18 = .ok (.aload_n 1, 1) := by decide +kernel
theorem dX8_asNamed_19 : decode cX8_asNamed 19 = .ok (.getfield 94, 3) := by decide +kernel
theorem dX8_asNamed_22 : decode cX8_asNamed 22 = .ok (.invokevirtual 260, 3) := by decide +kernel
theorem dX8_asNamed_25 : decode cX8_asNamed 25 = .ok (.imul, 1) := by decide +kernel
theorem dX8_asNamed_26 : decode cX8_asNamed 26 = .ok (.iadd, 1) := by decide +kernel
theorem dX8_asNamed_27 : decode cX8_asNamed 27 = .ok (.ireturn, 1) := by decide +kernel
theorem dX8_asBuilt_0 : decode cX8_asBuilt 0 = .ok (.aload_n 0, 1) := by decide +kernel
theorem dX8_asBuilt_1 : decode cX8_asBuilt 1 = .ok (.dup, 1) := by decide +kernel
theorem dX8_asBuilt_2 : decode cX8_asBuilt 2 = .ok (.getfield 63, 3) := by decide +kernel
theorem dX8_asBuilt_5 : decode cX8_asBuilt 5 = .ok (.ldc2_w 263, 3) := by decide +kernel
theorem dX8_asBuilt_8 : decode cX8_asBuilt 8 = .ok (.ladd, 1) := by decide +kernel
theorem dX8_asBuilt_9 : decode cX8_asBuilt 9 = .ok (.putfield 63, 3) := by decide +kernel
theorem dX8_asBuilt_12 : decode cX8_asBuilt 12 = .ok (.aload_n 0, 1) := by decide +kernel
theorem dX8_asBuilt_13 : decode cX8_asBuilt 13 = .ok (.aload_n 1, 1) := by decide +kernel
theorem dX8_asBuilt_14 : decode cX8_asBuilt 14 = .ok (.invokevirtual 206, 3) := by decide +kernel
theorem dX8_asBuilt_17 : decode cX8_asBuilt 17 = .ok (.aload_n 0, 1) := by decide +kernel
theorem dX8_asBuilt_18 : decode cX8_asBuilt 18 = .ok (.iload_n 2, 1) := by decide +kernel
theorem dX8_asBuilt_19 : decode cX8_asBuilt 19 = .ok (.invokevirtual 170, 3) := by decide +kernel
theorem dX8_asBuilt_22 : decode cX8_asBuilt 22 = .ok (.iadd, 1) := by decide +kernel
theorem dX8_asBuilt_23 : decode cX8_asBuilt 23 = .ok (.ireturn, 1) := by decide +kernel
theorem dX8_asSealed_0 : decode cX8_asSealed 0 = .ok (.aload_n 0, 1) := by decide +kernel
theorem dX8_asSealed_1 : decode cX8_asSealed 1 = .ok (.dup, 1) := by decide +kernel
theorem dX8_asSealed_2 : decode cX8_asSealed 2 = .ok (.getfield 63, 3) := by decide +kernel
theorem dX8_asSealed_5 : decode cX8_asSealed 5 = .ok (.ldc2_w 265, 3) := by decide +kernel
theorem dX8_asSealed_8 : decode cX8_asSealed 8 = .ok (.ladd, 1) := by decide +kernel
theorem dX8_asSealed_9 : decode cX8_asSealed 9 = .ok (.putfield 63, 3) := by decide +kernel
theorem dX8_asSealed_12 : decode cX8_asSealed 12 = .ok (.aload_n 0, 1) := by decide +kernel
theorem dX8_asSealed_13 : decode cX8_asSealed 13 = .ok (.aload_n 1, 1) := by decide +kernel
theorem dX8_asSealed_14 : decode cX8_asSealed 14 = .ok (.iload_n 2, 1) := by decide +kernel
theorem dX8_asSealed_15 : decode cX8_asSealed 15 = .ok (.invokevirtual 209, 3) := by decide +kernel
theorem dX8_asSealed_18 : decode cX8_asSealed 18 = .ok (.iconst 3, 1) := by decide +kernel
theorem dX8_asSealed_19 : decode cX8_asSealed 19 = .ok (.imul, 1) := by decide +kernel
theorem dX8_asSealed_20 : decode cX8_asSealed 20 = .ok (.sipush 251, 3) := by decide +kernel
theorem dX8_asSealed_23 : decode cX8_asSealed 23 = .ok (.irem, 1) := by decide +kernel
theorem dX8_asSealed_24 : decode cX8_asSealed 24 = .ok (.ireturn, 1) := by decide +kernel
theorem dX8_asDoubted_0 : decode cX8_asDoubted 0 = .ok (.aload_n 0, 1) := by decide +kernel
theorem dX8_asDoubted_1 : decode cX8_asDoubted 1 = .ok (.dup, 1) := by decide +kernel
theorem dX8_asDoubted_2 : decode cX8_asDoubted 2 = .ok (.getfield 63, 3) := by decide +kernel
theorem dX8_asDoubted_5 : decode cX8_asDoubted 5 = .ok (.ldc2_w 267, 3) := by decide +kernel
theorem dX8_asDoubted_8 : decode cX8_asDoubted 8 = .ok (.ladd, 1) := by decide +kernel
theorem dX8_asDoubted_9 : decode cX8_asDoubted 9 = .ok (.putfield 63, 3) := by decide +kernel
theorem dX8_asDoubted_12 : decode cX8_asDoubted 12 = .ok (.aload_n 0, 1) := by decide +kernel
theorem dX8_asDoubted_13 : decode cX8_asDoubted 13 = .ok (.aload_n 1, 1) := by decide +kernel
theorem dX8_asDoubted_14 : decode cX8_asDoubted 14 = .ok (.invokevirtual 200, 3) := by decide +kernel
theorem dX8_asDoubted_17 : decode cX8_asDoubted 17 = .ok (.iconst 3, 1) := by decide +kernel
theorem dX8_asDoubted_18 : decode cX8_asDoubted 18 = .ok (.idiv, 1) := by decide +kernel
theorem dX8_asDoubted_19 : decode cX8_asDoubted 19 = .ok (.ireturn, 1) := by decide +kernel
end
section
theorem dX9_init_0 : decode cX9_init 0 = .ok (.aload_n 0, 1) := by decide +kernel
theorem dX9_init_1 : decode cX9_init 1 = .ok (.invokespecial 1, 3) := by decide +kernel
theorem dX9_init_4 : decode cX9_init 4 = .ok (.aload_n 0, 1) := by decide +kernel
theorem dX9_init_5 : decode cX9_init 5 = .ok (.sipush 200, 3) := by decide +kernel
theorem dX9_init_8 : decode cX9_init 8 = .ok (.newarray .byte, 2) := by decide +kernel
theorem dX9_init_10 : decode cX9_init 10 = .ok (.putfield 7, 3) := by decide +kernel
theorem dX9_init_13 : decode cX9_init 13 = .ok (.aload_n 0, 1) := by decide +kernel
theorem dX9_init_14 : decode cX9_init 14 = .ok (.sipush 1600, 3) := by decide +kernel
theorem dX9_init_17 : decode cX9_init 17 = .ok (.newarray .byte, 2) := by decide +kernel
theorem dX9_init_19 : decode cX9_init 19 = .ok (.putfield 13, 3) := by decide +kernel
theorem dX9_init_22 : decode cX9_init 22 = .ok (.aload_n 0, 1) := by decide +kernel
theorem dX9_init_23 : decode cX9_init 23 = .ok (.bipush 8, 2) := by decide +kernel
theorem dX9_init_25 : decode cX9_init 25 = .ok (.newarray .int, 2) := by decide +kernel
theorem dX9_init_27 : decode cX9_init 27 = .ok (.putfield 16, 3) := by decide +kernel
theorem dX9_init_30 : decode cX9_init 30 = .ok (.aload_n 0, 1) := by decide +kernel
theorem dX9_init_31 : decode cX9_init 31 = .ok (.sipush 4096, 3) := by decide +kernel
theorem dX9_init_34 : decode cX9_init 34 = .ok (.newarray .int, 2) := by decide +kernel
theorem dX9_init_36 : decode cX9_init 36 = .ok (.putfield 20, 3) := by decide +kernel
theorem dX9_init_39 : decode cX9_init 39 = .ok (.aload_n 0, 1) := by decide +kernel
theorem dX9_init_40 : decode cX9_init 40 = .ok (.sipush 4096, 3) := by decide +kernel
theorem dX9_init_43 : decode cX9_init 43 = .ok (.newarray .int, 2) := by decide +kernel
theorem dX9_init_45 : decode cX9_init 45 = .ok (.putfield 23, 3) := by decide +kernel
theorem dX9_init_48 : decode cX9_init 48 = .ok (.aload_n 0, 1) := by decide +kernel
theorem dX9_init_49 : decode cX9_init 49 = .ok (.bipush 16, 2) := by decide +kernel
theorem dX9_init_51 : decode cX9_init 51 = .ok (.newarray .int, 2) := by decide +kernel
theorem dX9_init_53 : decode cX9_init 53 = .ok (.putfield 26, 3) := by decide +kernel
theorem dX9_init_56 : decode cX9_init 56 = .ok (.aload_n 0, 1) := by decide +kernel
theorem dX9_init_57 : decode cX9_init 57 = .ok (.bipush 12, 2) := by decide +kernel
theorem dX9_init_59 : decode cX9_init 59 = .ok (.newarray .int, 2) := by decide +kernel
theorem dX9_init_61 : decode cX9_init 61 = .ok (.putfield 29, 3) := by decide +kernel
theorem dX9_init_64 : decode cX9_init 64 = .ok (.aload_n 0, 1) := by decide +kernel
theorem dX9_init_65 : decode cX9_init 65 = .ok (.bipush 12, 2) := by decide +kernel
theorem dX9_init_67 : decode cX9_init 67 = .ok (.newarray .int, 2) := by decide +kernel
theorem dX9_init_69 : decode cX9_init 69 = .ok (.putfield 32, 3) := by decide +kernel
theorem dX9_init_72 : decode cX9_init 72 = .ok (.aload_n 0, 1) := by decide +kernel
theorem dX9_init_73 : decode cX9_init 73 = .ok (.bipush 12, 2) := by decide +kernel
theorem dX9_init_75 : decode cX9_init 75 = .ok (.newarray .int, 2) := by decide +kernel
theorem dX9_init_77 : decode cX9_init 77 = .ok (.putfield 35, 3) := by decide +kernel
theorem dX9_init_80 : decode cX9_init 80 = .ok (.aload_n 0, 1) := by decide +kernel
theorem dX9_init_81 : decode cX9_init 81 = .ok (.bipush 12, 2) := by decide +kernel
theorem dX9_init_83 : decode cX9_init 83 = .ok (.newarray .int, 2) := by decide +kernel
theorem dX9_init_85 : decode cX9_init 85 = .ok (.putfield 38, 3) := by decide +kernel
theorem dX9_init_88 : decode cX9_init 88 = .ok (.aload_n 0, 1) := by decide +kernel
theorem dX9_init_89 : decode cX9_init 89 = .ok (.bipush 26, 2) := by decide +kernel
theorem dX9_init_91 : decode cX9_init 91 = .ok (.newarray .int, 2) := by decide +kernel
theorem dX9_init_93 : decode cX9_init 93 = .ok (.putfield 41, 3) := by decide +kernel
theorem dX9_init_96 : decode cX9_init 96 = .ok (.aload_n 0, 1) := by decide +kernel
theorem dX9_init_97 : decode cX9_init 97 = .ok (.sipush 256, 3) := by decide +kernel
theorem dX9_init_100 : decode cX9_init 100 = .ok (.newarray .int, 2) := by decide +kernel
theorem dX9_init_102 : decode cX9_init 102 = .ok (.putfield 44, 3) := by decide +kernel
theorem dX9_init_105 : decode cX9_init 105 = .ok (.aload_n 0, 1) := by decide +kernel
theorem dX9_init_106 : decode cX9_init 106 = .ok (.sipush 256, 3) := by decide +kernel
theorem dX9_init_109 : decode cX9_init 109 = .ok (.newarray .int, 2) := by decide +kernel
theorem dX9_init_111 : decode cX9_init 111 = .ok (.putfield 47, 3) := by decide +kernel
theorem dX9_init_114 : decode cX9_init 114 = .ok (.aload_n 0, 1) := by decide +kernel
theorem dX9_init_115 : decode cX9_init 115 = .ok (.sipush 256, 3) := by decide +kernel
theorem dX9_init_118 : decode cX9_init 118 = .ok (.newarray .int, 2) := by decide +kernel
theorem dX9_init_120 : decode cX9_init 120 = .ok (.putfield 50, 3) := by decide +kernel
theorem dX9_init_123 : decode cX9_init 123 = .ok (.aload_n 0, 1) := by decide +kernel
theorem dX9_init_124 : decode cX9_init 124 = .ok (.bipush 6, 2) := by decide +kernel
theorem dX9_init_126 : decode cX9_init 126 = .ok (.newarray .int, 2) := by decide +kernel
theorem dX9_init_128 : decode cX9_init 128 = .ok (.putfield 53, 3) := by decide +kernel
theorem dX9_init_131 : decode cX9_init 131 = .ok (.aload_n 0, 1) := by decide +kernel
theorem dX9_init_132 : decode cX9_init 132 = .ok (.sipush 256, 3) := by decide +kernel
theorem dX9_init_135 : decode cX9_init 135 = .ok (.newarray .int, 2) := by decide +kernel
theorem dX9_init_137 : decode cX9_init 137 = .ok (.putfield 56, 3) := by decide +kernel
theorem dX9_init_140 : decode cX9_init 140 = .ok (.aload_n 0, 1) := by decide +kernel
theorem dX9_init_141 : decode cX9_init 141 = .ok (.sipush 256, 3) := by decide +kernel
theorem dX9_init_144 : decode cX9_init 144 = .ok (.newarray .int, 2) := by decide +kernel
theorem dX9_init_146 : decode cX9_init 146 = .ok (.putfield 59, 3) := by decide +kernel
theorem dX9_init_149 : decode cX9_init 149 = .ok (.aload_n 0, 1) := by decide +kernel
theorem dX9_init_150 : decode cX9_init 150 = .ok (.bipush 12, 2) := by decide +kernel
theorem dX9_init_152 : decode cX9_init 152 = .ok (.newarray .int, 2) := by decide +kernel
theorem dX9_init_154 : decode cX9_init 154 = .ok (.putfield 62, 3) := by decide +kernel
theorem dX9_init_157 : decode cX9_init 157 = .ok (.aload_n 0, 1) := by decide +kernel
theorem dX9_init_158 : decode cX9_init 158 = .ok (.bipush 12, 2) := by decide +kernel
theorem dX9_init_160 : decode cX9_init 160 = .ok (.newarray .int, 2) := by decide +kernel
theorem dX9_init_162 : decode cX9_init 162 = .ok (.putfield 65, 3) := by decide +kernel
theorem dX9_init_165 : decode cX9_init 165 = .ok (.aload_n 0, 1) := by decide +kernel
theorem dX9_init_166 : decode cX9_init 166 = .ok (.bipush 12, 2) := by decide +kernel
theorem dX9_init_168 : decode cX9_init 168 = .ok (.newarray .int, 2) := by decide +kernel
theorem dX9_init_170 : decode cX9_init 170 = .ok (.putfield 68, 3) := by decide +kernel
theorem dX9_init_173 : decode cX9_init 173 = .ok (.aload_n 0, 1) := by decide +kernel
theorem dX9_init_174 : decode cX9_init 174 = .ok (.iconst 0, 1) := by decide +kernel
theorem dX9_init_175 : decode cX9_init 175 = .ok (.putfield 71, 3) := by decide +kernel
theorem dX9_init_178 : decode cX9_init 178 = .ok (.return_, 1) := by decide +kernel
theorem dX9_in_0 : decode cX9_in 0 = .ok (.iload_n 0, 1) := by decide +kernel
theorem dX9_in_1 : decode cX9_in 1 = .ok (.iload_n 1, 1) := by decide +kernel
theorem dX9_in_2 : decode cX9_in 2 = .ok (.if_icmp .lt 12, 3) := by decide +kernel
theorem dX9_in_5 : decode cX9_in 5 = .ok (.iload_n 0, 1) := by decide +kernel
theorem dX9_in_6 : decode cX9_in 6 = .ok (.iload_n 2, 1) := by decide +kernel
theorem dX9_in_7 : decode cX9_in 7 = .ok (.if_icmp .gt 7, 3) := by decide +kernel
theorem dX9_in_10 : decode cX9_in 10 = .ok (.iconst 1, 1) := by decide +kernel
theorem dX9_in_11 : decode cX9_in 11 = .ok (.goto 4, 3) := by decide +kernel
theorem dX9_in_14 : decode cX9_in 14 = .ok (.iconst 0, 1) := by decide +kernel
theorem dX9_in_15 : decode cX9_in 15 = .ok (.ireturn, 1) := by decide +kernel
theorem dX9_type_0 : decode cX9_type 0 = .ok (.iload_n 3, 1) := by decide +kernel
theorem dX9_type_1 : decode cX9_type 1 = .ok (.iconst 1, 1) := by decide +kernel
theorem dX9_type_2 : decode cX9_type 2 = .ok (.bipush 8, 2) := by decide +kernel
theorem dX9_type_4 : decode cX9_type 4 = .ok (.invokestatic 75, 3) := by decide +kernel
theorem dX9_type_7 : decode cX9_type 7 = .ok (.ifCond .ne 5, 3) := by decide +kernel
theorem dX9_type_10 : decode cX9_type 10 = .ok (.iconst (-1), 1) := by decide +kernel
theorem dX9_type_11 : decode cX9_type 11 = .ok (.ireturn, 1) := by decide +kernel
theorem dX9_type_12 : decode cX9_type 12 = .ok (.aload_n 0, 1) := by decide +kernel
theorem dX9_type_13 : decode cX9_type 13 = .ok (.getfield 71, 3) := by decide +kernel
theorem dX9_type_16 : decode cX9_type 16 = .ok (.iload_n 3, 1) := by decide +kernel
theorem dX9_type_17 : decode cX9_type 17 = .ok (.iadd, 1) := by decide +kernel
theorem dX9_type_18 : decode cX9_type 18 = .ok (.sipush 200, 3) := by decide +kernel
theorem dX9_type_21 : decode cX9_type 21 = .ok (.if_icmp .le 6, 3) := by decide +kernel
theorem dX9_type_24 : decode cX9_type 24 = .ok (.bipush (-3), 2) := by decide +kernel
theorem dX9_type_26 : decode cX9_type 26 = .ok (.ireturn, 1) := by decide +kernel
theorem dX9_type_27 : decode cX9_type 27 = .ok (.iload_n 3, 1) := by decide +kernel
theorem dX9_type_28 : decode cX9_type 28 = .ok (.iconst 1, 1) := by decide +kernel
theorem dX9_type_29 : decode cX9_type 29 = .ok (.isub, 1) := by decide +kernel
theorem dX9_type_30 : decode cX9_type 30 = .ok (.istore 4, 2) := by decide +kernel
theorem dX9_type_32 : decode cX9_type 32 = .ok (.iload 4, 2) := by decide +kernel
theorem dX9_type_34 : decode cX9_type 34 = .ok (.ifCond .lt 41, 3) := by decide +kernel
theorem dX9_type_37 : decode cX9_type 37 = .ok (.aload_n 0, 1) := by decide +kernel
theorem dX9_type_38 : decode cX9_type 38 = .ok (.getfield 7, 3) := by decide +kernel
theorem dX9_type_41 : decode cX9_type 41 = .ok (.aload_n 0, 1) := by decide +kernel
theorem dX9_type_42 : decode cX9_type 42 = .ok (.getfield 71, 3) := by decide +kernel
theorem dX9_type_45 : decode cX9_type 45 = .ok (.lload_n 1, 1) := by decide +kernel
theorem dX9_type_46 : decode cX9_type 46 = .ok (.bipush 8, 2) := by decide +kernel
theorem dX9_type_48 : decode cX9_type 48 = .ok (.iload 4, 2) := by decide +kernel
theorem dX9_type_50 : decode cX9_type 50 = .ok (.imul, 1) := by decide +kernel
theorem dX9_type_51 : decode cX9_type 51 = .ok (.lshr, 1) := by decide +kernel
theorem dX9_type_52 : decode cX9_type 52 = .ok (.ldc2_w 79, 3) := by decide +kernel
theorem dX9_type_55 : decode cX9_type 55 = .ok (.land, 1) := by decide +kernel
theorem dX9_type_56 : decode cX9_type 56 = .ok (.l2i, 1) := by decide +kernel
theorem dX9_type_57 : decode cX9_type 57 = .ok (.i2b, 1) := by decide +kernel
theorem dX9_type_58 : decode cX9_type 58 = .ok (.bastore, 1) := by decide +kernel
theorem dX9_type_59 : decode cX9_type 59 = .ok (.aload_n 0, 1) := by decide +kernel
theorem dX9_type_60 : decode cX9_type 60 = .ok (.dup, 1) := by decide +kernel
theorem dX9_type_61 : decode cX9_type 61 = .ok (.getfield 71, 3) := by decide +kernel
theorem dX9_type_64 : decode cX9_type 64 = .ok (.iconst 1, 1) := by decide +kernel
theorem dX9_type_65 : decode cX9_type 65 = .ok (.iadd, 1) := by decide +kernel
theorem dX9_type_66 : decode cX9_type 66 = .ok (.putfield 71, 3) := by decide +kernel
theorem dX9_type_69 : decode cX9_type 69 = .ok (.iinc 4 (-1), 3) := by decide +kernel
theorem dX9_type_72 : decode cX9_type 72 = .ok (.goto (-40), 3) := by decide +kernel
theorem dX9_type_75 : decode cX9_type 75 = .ok (.aload_n 0, 1) := by decide +kernel
theorem dX9_type_76 : decode cX9_type 76 = .ok (.getfield 71, 3) := by decide +kernel
theorem dX9_type_79 : decode cX9_type 79 = .ok (.ireturn, 1) := by decide +kernel
theorem dX9_clear_0 : decode cX9_clear 0 = .ok (.aload_n 0, 1) := by decide +kernel
theorem dX9_clear_1 : decode cX9_clear 1 = .ok (.getfield 71, 3) := by decide +kernel
theorem dX9_clear_4 : decode cX9_clear 4 = .ok (.istore_n 1, 1) := by decide +kernel
theorem dX9_clear_5 : decode cX9_clear 5 = .ok (.aload_n 0, 1) := by decide +kernel
theorem dX9_clear_6 : decode cX9_clear 6 = .ok (.iconst 0, 1) := by decide +kernel
theorem dX9_clear_7 : decode cX9_clear 7 = .ok (.putfield 71, 3) := by decide +kernel
theorem dX9_clear_10 : decode cX9_clear 10 = .ok (.iload_n 1, 1) := by decide +kernel
theorem dX9_clear_11 : decode cX9_clear 11 = .ok (.ireturn, 1) := by decide +kernel
theorem dX9_isText_0 : decode cX9_isText 0 = .ok (.iload_n 0, 1) := by decide +kernel
theorem dX9_isText_1 : decode cX9_isText 1 = .ok (.iconst 0, 1) := by decide +kernel
theorem dX9_isText_2 : decode cX9_isText 2 = .ok (.bipush 7, 2) := by decide +kernel
theorem dX9_isText_4 : decode cX9_isText 4 = .ok (.invokestatic 75, 3) := by decide +kernel
theorem dX9_isText_7 : decode cX9_isText 7 = .ok (.ireturn, 1) := by decide +kernel
theorem dX9_text_0 : decode cX9_text 0 = .ok (.iload_n 1, 1) := by decide +kernel
theorem dX9_text_1 : decode cX9_text 1 = .ok (.invokestatic 81, 3) := by decide +kernel
theorem dX9_text_4 : decode cX9_text 4 = .ok (.ifCond .ne 5, 3) := by decide +kernel
theorem dX9_text_7 : decode cX9_text 7 = .ok (.iconst (-1), 1) := by decide +kernel
theorem dX9_text_8 : decode cX9_text 8 = .ok (.ireturn, 1) := by decide +kernel
theorem dX9_text_9 : decode cX9_text 9 = .ok (.iconst 0, 1) := by decide +kernel
theorem dX9_text_10 : decode cX9_text 10 = .ok (.istore_n 2, 1) := by decide +kernel
theorem dX9_text_11 : decode cX9_text 11 = .ok (.iload_n 2, 1) := by decide +kernel
theorem dX9_text_12 : decode cX9_text 12 = .ok (.aload_n 0, 1) := by decide +kernel
theorem dX9_text_13 : decode cX9_text 13 = .ok (.getfield 71, 3) := by decide +kernel
theorem dX9_text_16 : decode cX9_text 16 = .ok (.if_icmp .ge 27, 3) := by decide +kernel
theorem dX9_text_19 : decode cX9_text 19 = .ok (.aload_n 0, 1) := by decide +kernel
theorem dX9_text_20 : decode cX9_text 20 = .ok (.getfield 13, 3) := by decide +kernel
theorem dX9_text_23 : decode cX9_text 23 = .ok (.sipush 200, 3) := by decide +kernel
theorem dX9_text_26 : decode cX9_text 26 = .ok (.iload_n 1, 1) := by decide +kernel
theorem dX9_text_27 : decode cX9_text 27 = .ok (.imul, 1) := by decide +kernel
theorem dX9_text_28 : decode cX9_text 28 = .ok (.iload_n 2, 1) := by decide +kernel
theorem dX9_text_29 : decode cX9_text 29 = .ok (.iadd, 1) := by decide +kernel
theorem dX9_text_30 : decode cX9_text 30 = .ok (.aload_n 0, 1) := by decide +kernel
theorem dX9_text_31 : decode cX9_text 31 = .ok (.getfield 7, 3) := by decide +kernel
theorem dX9_text_34 : decode cX9_text 34 = .ok (.iload_n 2, 1) := by decide +kernel
theorem dX9_text_35 : decode cX9_text 35 = .ok (.baload, 1) := by decide +kernel
theorem dX9_text_36 : decode cX9_text 36 = .ok (.bastore, 1) := by decide +kernel
theorem dX9_text_37 : decode cX9_text 37 = .ok (.iinc 2 1, 3) := by decide +kernel
theorem dX9_text_40 : decode cX9_text 40 = .ok (.goto (-29), 3) := by decide +kernel
theorem dX9_text_43 : decode cX9_text 43 = .ok (.aload_n 0, 1) := by decide +kernel
theorem dX9_text_44 : decode cX9_text 44 = .ok (.getfield 16, 3) := by decide +kernel
theorem dX9_text_47 : decode cX9_text 47 = .ok (.iload_n 1, 1) := by decide +kernel
theorem dX9_text_48 : decode cX9_text 48 = .ok (.aload_n 0, 1) := by decide +kernel
theorem dX9_text_49 : decode cX9_text 49 = .ok (.getfield 71, 3) := by decide +kernel
theorem dX9_text_52 : decode cX9_text 52 = .ok (.iastore, 1) := by decide +kernel
theorem dX9_text_53 : decode cX9_text 53 = .ok (.aload_n 0, 1) := by decide +kernel
theorem dX9_text_54 : decode cX9_text 54 = .ok (.iconst 0, 1) := by decide +kernel
theorem dX9_text_55 : decode cX9_text 55 = .ok (.putfield 71, 3) := by decide +kernel
theorem dX9_text_58 : decode cX9_text 58 = .ok (.aload_n 0, 1) := by decide +kernel
theorem dX9_text_59 : decode cX9_text 59 = .ok (.getfield 16, 3) := by decide +kernel
theorem dX9_text_62 : decode cX9_text 62 = .ok (.iload_n 1, 1) := by decide +kernel
theorem dX9_text_63 : decode cX9_text 63 = .ok (.iaload, 1) := by decide +kernel
theorem dX9_text_64 : decode cX9_text 64 = .ok (.ireturn, 1) := by decide +kernel
theorem dX9_read_0 : decode cX9_read 0 = .ok (.iload_n 1, 1) := by decide +kernel
theorem dX9_read_1 : decode cX9_read 1 = .ok (.invokestatic 81, 3) := by decide +kernel
theorem dX9_read_4 : decode cX9_read 4 = .ok (.ifCond .eq 38, 3) := by decide +kernel
theorem dX9_read_7 : decode cX9_read 7 = .ok (.iload_n 2, 1) := by decide +kernel
theorem dX9_read_8 : decode cX9_read 8 = .ok (.iconst 0, 1) := by decide +kernel
theorem dX9_read_9 : decode cX9_read 9 = .ok (.aload_n 0, 1) := by decide +kernel
theorem dX9_read_10 : decode cX9_read 10 = .ok (.getfield 16, 3) := by decide +kernel
theorem dX9_read_13 : decode cX9_read 13 = .ok (.iload_n 1, 1) := by decide +kernel
theorem dX9_read_14 : decode cX9_read 14 = .ok (.iaload, 1) := by decide +kernel
theorem dX9_read_15 : decode cX9_read 15 = .ok (.iconst 1, 1) := by decide +kernel
theorem dX9_read_16 : decode cX9_read 16 = .ok (.isub, 1) := by decide +kernel
theorem dX9_read_17 : decode cX9_read 17 = .ok (.invokestatic 75, 3) := by decide +kernel
theorem dX9_read_20 : decode cX9_read 20 = .ok (.ifCond .eq 22, 3) := by decide +kernel
theorem dX9_read_23 : decode cX9_read 23 = .ok (.aload_n 0, 1) := by decide +kernel
theorem dX9_read_24 : decode cX9_read 24 = .ok (.getfield 13, 3) := by decide +kernel
theorem dX9_read_27 : decode cX9_read 27 = .ok (.sipush 200, 3) := by decide +kernel
theorem dX9_read_30 : decode cX9_read 30 = .ok (.iload_n 1, 1) := by decide +kernel
theorem dX9_read_31 : decode cX9_read 31 = .ok (.imul, 1) := by decide +kernel
theorem dX9_read_32 : decode cX9_read 32 = .ok (.iload_n 2, 1) := by decide +kernel
theorem dX9_read_33 : decode cX9_read 33 = .ok (.iadd, 1) := by decide +kernel
theorem dX9_read_34 : decode cX9_read 34 = .ok (.baload, 1) := by decide +kernel
theorem dX9_read_35 : decode cX9_read 35 = .ok (.sipush 255, 3) := by decide +kernel
theorem dX9_read_38 : decode cX9_read 38 = .ok (.iand, 1) := by decide +kernel
theorem dX9_read_39 : decode cX9_read 39 = .ok (.goto 4, 3) := by decide +kernel
theorem dX9_read_42 : decode cX9_read 42 = .ok (.iconst (-1), 1) := by decide +kernel
theorem dX9_read_43 : decode cX9_read 43 = .ok (.ireturn, 1) := by decide +kernel
theorem dX9_isTool_0 : decode cX9_isTool 0 = .ok (.iload_n 1, 1) := by decide +kernel
theorem dX9_isTool_1 : decode cX9_isTool 1 = .ok (.iconst 0, 1) := by decide +kernel
theorem dX9_isTool_2 : decode cX9_isTool 2 = .ok (.aload_n 0, 1) := by decide +kernel
theorem dX9_isTool_3 : decode cX9_isTool 3 = .ok (.getfield 85, 3) := by decide +kernel
theorem dX9_isTool_6 : decode cX9_isTool 6 = .ok (.iconst 1, 1) := by decide +kernel
theorem dX9_isTool_7 : decode cX9_isTool 7 = .ok (.isub, 1) := by decide +kernel
theorem dX9_isTool_8 : decode cX9_isTool 8 = .ok (.invokestatic 75, 3) := by decide +kernel
theorem dX9_isTool_11 : decode cX9_isTool 11 = .ok (.ireturn, 1) := by decide +kernel
theorem dX9_add_0 : decode cX9_add 0 = .ok (.aload_n 0, 1) := by decide +kernel
theorem dX9_add_1 : decode cX9_add 1 = .ok (.getfield 20, 3) := by decide +kernel
theorem dX9_add_4 : decode cX9_add 4 = .ok (.sipush 256, 3) := by decide +kernel
theorem dX9_add_7 : decode cX9_add 7 = .ok (.iload_n 1, 1) := by decide +kernel
theorem dX9_add_8 : decode cX9_add 8 = .ok (.imul, 1) := by decide +kernel
theorem dX9_add_9 : decode cX9_add 9 = .ok (.aload_n 0, 1) := by decide +kernel
theorem dX9_add_10 : decode cX9_add 10 = .ok (.getfield 26, 3) := by decide +kernel
theorem dX9_add_13 : decode cX9_add 13 = .ok (.iload_n 1, 1) := by decide +kernel
theorem dX9_add_14 : decode cX9_add 14 = .ok (.iaload, 1) := by decide +kernel
theorem dX9_add_15 : decode cX9_add 15 = .ok (.iadd, 1) := by decide +kernel
theorem dX9_add_16 : decode cX9_add 16 = .ok (.iload_n 2, 1) := by decide +kernel
theorem dX9_add_17 : decode cX9_add 17 = .ok (.iastore, 1) := by decide +kernel
theorem dX9_add_18 : decode cX9_add 18 = .ok (.aload_n 0, 1) := by decide +kernel
theorem dX9_add_19 : decode cX9_add 19 = .ok (.getfield 23, 3) := by decide +kernel
theorem dX9_add_22 : decode cX9_add 22 = .ok (.sipush 256, 3) := by decide +kernel
theorem dX9_add_25 : decode cX9_add 25 = .ok (.iload_n 1, 1) := by decide +kernel
theorem dX9_add_26 : decode cX9_add 26 = .ok (.imul, 1) := by decide +kernel
theorem dX9_add_27 : decode cX9_add 27 = .ok (.aload_n 0, 1) := by decide +kernel
theorem dX9_add_28 : decode cX9_add 28 = .ok (.getfield 26, 3) := by decide +kernel
theorem dX9_add_31 : decode cX9_add 31 = .ok (.iload_n 1, 1) := by decide +kernel
theorem dX9_add_32 : decode cX9_add 32 = .ok (.iaload, 1) := by decide +kernel
theorem dX9_add_33 : decode cX9_add 33 = .ok (.iadd, 1) := by decide +kernel
theorem dX9_add_34 : decode cX9_add 34 = .ok (.iload_n 3, 1) := by decide +kernel
theorem dX9_add_35 : decode cX9_add 35 = .ok (.iastore, 1) := by decide +kernel
theorem dX9_add_36 : decode cX9_add 36 = .ok (.aload_n 0, 1) := by decide +kernel
theorem dX9_add_37 : decode cX9_add 37 = .ok (.getfield 26, 3) := by decide +kernel
theorem dX9_add_40 : decode cX9_add 40 = .ok (.iload_n 1, 1) := by decide +kernel
theorem dX9_add_41 : decode cX9_add 41 = .ok (.dup2, 1) := by decide +kernel
theorem dX9_add_42 : decode cX9_add 42 = .ok (.iaload, 1) := by decide +kernel
theorem dX9_add_43 : decode cX9_add 43 = .ok (.iconst 1, 1) := by decide +kernel
theorem dX9_add_44 : decode cX9_add 44 = .ok (.iadd, 1) := by decide +kernel
theorem dX9_add_45 : decode cX9_add 45 = .ok (.iastore, 1) := by decide +kernel
theorem dX9_add_46 : decode cX9_add 46 = .ok (.return_, 1) := by decide +kernel
theorem dX9_here_0 : decode cX9_here 0 = .ok (.aload_n 0, 1) := by decide +kernel
theorem dX9_here_1 : decode cX9_here 1 = .ok (.getfield 88, 3) := by decide +kernel
theorem dX9_here_4 : decode cX9_here 4 = .ok (.aload_n 0, 1) := by decide +kernel
theorem dX9_here_5 : decode cX9_here 5 = .ok (.getfield 91, 3) := by decide +kernel
theorem dX9_here_8 : decode cX9_here 8 = .ok (.if_icmp .ge 24, 3) := by decide +kernel
theorem dX9_here_11 : decode cX9_here 11 = .ok (.aload_n 0, 1) := by decide +kernel
theorem dX9_here_12 : decode cX9_here 12 = .ok (.getfield 13, 3) := by decide +kernel
theorem dX9_here_15 : decode cX9_here 15 = .ok (.aload_n 0, 1) := by decide +kernel
theorem dX9_here_16 : decode cX9_here 16 = .ok (.getfield 94, 3) := by decide +kernel
theorem dX9_here_19 : decode cX9_here 19 = .ok (.aload_n 0, 1) := by decide +kernel
theorem dX9_here_20 : decode cX9_here 20 = .ok (.getfield 88, 3) := by decide +kernel
theorem dX9_here_23 : decode cX9_here 23 = .ok (.iadd, 1) := by decide +kernel
theorem dX9_here_24 : decode cX9_here 24 = .ok (.baload, 1) := by decide +kernel
theorem dX9_here_25 : decode cX9_here 25 = .ok (.sipush 255, 3) := by decide +kernel
theorem dX9_here_28 : decode cX9_here 28 = .ok (.iand, 1) := by decide +kernel
theorem dX9_here_29 : decode cX9_here 29 = .ok (.goto 4, 3) := by decide +kernel
theorem dX9_here_32 : decode cX9_here 32 = .ok (.iconst (-1), 1) := by decide +kernel
theorem dX9_here_33 : decode cX9_here 33 = .ok (.ireturn, 1) := by decide +kernel
theorem dX9_open_0 : decode cX9_open 0 = .ok (.aload_n 0, 1) := by decide +kernel
theorem dX9_open_1 : decode cX9_open 1 = .ok (.sipush 200, 3) := by decide +kernel
theorem dX9_open_4 : decode cX9_open 4 = .ok (.iload_n 1, 1) := by decide +kernel
theorem dX9_open_5 : decode cX9_open 5 = .ok (.imul, 1) := by decide +kernel
theorem dX9_open_6 : decode cX9_open 6 = .ok (.putfield 94, 3) := by decide +kernel
theorem dX9_open_9 : decode cX9_open 9 = .ok (.aload_n 0, 1) := by decide +kernel
theorem dX9_open_10 : decode cX9_open 10 = .ok (.aload_n 0, 1) := by decide +kernel
theorem dX9_open_11 : decode cX9_open 11 = .ok (.getfield 16, 3) := by decide +kernel
theorem dX9_open_14 : decode cX9_open 14 = .ok (.iload_n 1, 1) := by decide +kernel
theorem dX9_open_15 : decode cX9_open 15 = .ok (.iaload, 1) := by decide +kernel
theorem dX9_open_16 : decode cX9_open 16 = .ok (.putfield 91, 3) := by decide +kernel
theorem dX9_open_19 : decode cX9_open 19 = .ok (.aload_n 0, 1) := by decide +kernel
theorem dX9_open_20 : decode cX9_open 20 = .ok (.iconst 0, 1) := by decide +kernel
theorem dX9_open_21 : decode cX9_open 21 = .ok (.putfield 88, 3) := by decide +kernel
theorem dX9_open_24 : decode cX9_open 24 = .ok (.aload_n 0, 1) := by decide +kernel
theorem dX9_open_25 : decode cX9_open 25 = .ok (.bipush (-9), 2) := by decide +kernel
theorem dX9_open_27 : decode cX9_open 27 = .ok (.putfield 97, 3) := by decide +kernel
theorem dX9_open_30 : decode cX9_open 30 = .ok (.return_, 1) := by decide +kernel
theorem dX9_pass_0 : decode cX9_pass 0 = .ok (.iconst 1, 1) := by decide +kernel
theorem dX9_pass_1 : decode cX9_pass 1 = .ok (.istore_n 1, 1) := by decide +kernel
theorem dX9_pass_2 : decode cX9_pass 2 = .ok (.iload_n 1, 1) := by decide +kernel
theorem dX9_pass_3 : decode cX9_pass 3 = .ok (.ifCond .eq 82, 3) := by decide +kernel
theorem dX9_pass_6 : decode cX9_pass 6 = .ok (.aload_n 0, 1) := by decide +kernel
theorem dX9_pass_7 : decode cX9_pass 7 = .ok (.invokevirtual 100, 3) := by decide +kernel
theorem dX9_pass_10 : decode cX9_pass 10 = .ok (.istore_n 2, 1) := by decide +kernel
theorem dX9_pass_11 : decode cX9_pass 11 = .ok (.iload_n 2, 1) := by decide +kernel
theorem dX9_pass_12 : decode cX9_pass 12 = .ok (.bipush 35, 2) := by decide +kernel
theorem dX9_pass_14 : decode cX9_pass 14 = .ok (.if_icmp .ne 32, 3) := by decide +kernel
theorem dX9_pass_17 : decode cX9_pass 17 = .ok (.aload_n 0, 1) := by decide +kernel
theorem dX9_pass_18 : decode cX9_pass 18 = .ok (.invokevirtual 100, 3) := by decide +kernel
theorem dX9_pass_21 : decode cX9_pass 21 = .ok (.ifCond .lt 61, 3) := by decide +kernel
theorem dX9_pass_24 : decode cX9_pass 24 = .ok (.aload_n 0, 1) := by decide +kernel
theorem dX9_pass_25 : decode cX9_pass 25 = .ok (.invokevirtual 100, 3) := by decide +kernel
theorem dX9_pass_28 : decode cX9_pass 28 = .ok (.bipush 10, 2) := by decide +kernel
theorem dX9_pass_30 : decode cX9_pass 30 = .ok (.if_icmp .eq 52, 3) := by decide +kernel
theorem dX9_pass_33 : decode cX9_pass 33 = .ok (.aload_n 0, 1) := by decide +kernel
theorem dX9_pass_34 : decode cX9_pass 34 = .ok (.dup, 1) := by decide +kernel
theorem dX9_pass_35 : decode cX9_pass 35 = .ok (.getfield 88, 3) := by decide +kernel
theorem dX9_pass_38 : decode cX9_pass 38 = .ok (.iconst 1, 1) := by decide +kernel
theorem dX9_pass_39 : decode cX9_pass 39 = .ok (.iadd, 1) := by decide +kernel
theorem dX9_pass_40 : decode cX9_pass 40 = .ok (.putfield 88, 3) := by decide +kernel
theorem dX9_pass_43 : decode cX9_pass 43 = .ok (.goto (-26), 3) := by decide +kernel
theorem dX9_pass_46 : decode cX9_pass 46 = .ok (.iload_n 2, 1) := by decide +kernel
theorem dX9_pass_47 : decode cX9_pass 47 = .ok (.bipush 32, 2) := by decide +kernel
theorem dX9_pass_49 : decode cX9_pass 49 = .ok (.if_icmp .eq 9, 3) := by decide +kernel
theorem dX9_pass_52 : decode cX9_pass 52 = .ok (.iload_n 2, 1) := by decide +kernel
theorem dX9_pass_53 : decode cX9_pass 53 = .ok (.bipush 10, 2) := by decide +kernel
theorem dX9_pass_55 : decode cX9_pass 55 = .ok (.if_icmp .ne 7, 3) := by decide +kernel
theorem dX9_pass_58 : decode cX9_pass 58 = .ok (.iconst 1, 1) := by decide +kernel
theorem dX9_pass_59 : decode cX9_pass 59 = .ok (.goto 4, 3) := by decide +kernel
theorem dX9_pass_62 : decode cX9_pass 62 = .ok (.iconst 0, 1) := by decide +kernel
theorem dX9_pass_63 : decode cX9_pass 63 = .ok (.istore_n 1, 1) := by decide +kernel
theorem dX9_pass_64 : decode cX9_pass 64 = .ok (.aload_n 0, 1) := by decide +kernel
theorem dX9_pass_65 : decode cX9_pass 65 = .ok (.dup, 1) := by decide +kernel
theorem dX9_pass_66 : decode cX9_pass 66 = .ok (.getfield 88, 3) := by decide +kernel
theorem dX9_pass_69 : decode cX9_pass 69 = .ok (.iload_n 1, 1) := by decide +kernel
theorem dX9_pass_70 : decode cX9_pass 70 = .ok (.ifCond .eq 7, 3) := by decide +kernel
theorem dX9_pass_73 : decode cX9_pass 73 = .ok (.iconst 1, 1) := by decide +kernel
theorem dX9_pass_74 : decode cX9_pass 74 = .ok (.goto 4, 3) := by decide +kernel
theorem dX9_pass_77 : decode cX9_pass 77 = .ok (.iconst 0, 1) := by decide +kernel
theorem dX9_pass_78 : decode cX9_pass 78 = .ok (.iadd, 1) := by decide +kernel
theorem dX9_pass_79 : decode cX9_pass 79 = .ok (.putfield 88, 3) := by decide +kernel
theorem dX9_pass_82 : decode cX9_pass 82 = .ok (.goto (-80), 3) := by decide +kernel
theorem dX9_pass_85 : decode cX9_pass 85 = .ok (.return_, 1) := by decide +kernel
theorem dX9_digit_0 : decode cX9_digit 0 = .ok (.iload_n 0, 1) := by decide +kernel
theorem dX9_digit_1 : decode cX9_digit 1 = .ok (.bipush 48, 2) := by decide +kernel
theorem dX9_digit_3 : decode cX9_digit 3 = .ok (.bipush 57, 2) := by decide +kernel
theorem dX9_digit_5 : decode cX9_digit 5 = .ok (.invokestatic 75, 3) := by decide +kernel
theorem dX9_digit_8 : decode cX9_digit 8 = .ok (.ifCond .eq 10, 3) := by decide +kernel
theorem dX9_digit_11 : decode cX9_digit 11 = .ok (.iload_n 0, 1) := by decide +kernel
theorem dX9_digit_12 : decode cX9_digit 12 = .ok (.bipush 48, 2) := by decide +kernel
theorem dX9_digit_14 : decode cX9_digit 14 = .ok (.isub, 1) := by decide +kernel
theorem dX9_digit_15 : decode cX9_digit 15 = .ok (.goto 26, 3) := by decide +kernel
theorem dX9_digit_18 : decode cX9_digit 18 = .ok (.iload_n 0, 1) := by decide +kernel
theorem dX9_digit_19 : decode cX9_digit 19 = .ok (.bipush 97, 2) := by decide +kernel
theorem dX9_digit_21 : decode cX9_digit 21 = .ok (.bipush 102, 2) := by decide +kernel
theorem dX9_digit_23 : decode cX9_digit 23 = .ok (.invokestatic 75, 3) := by decide +kernel
theorem dX9_digit_26 : decode cX9_digit 26 = .ok (.ifCond .eq 13, 3) := by decide +kernel
theorem dX9_digit_29 : decode cX9_digit 29 = .ok (.iload_n 0, 1) := by decide +kernel
theorem dX9_digit_30 : decode cX9_digit 30 = .ok (.bipush 97, 2) := by decide +kernel
theorem dX9_digit_32 : decode cX9_digit 32 = .ok (.isub, 1) := by decide +kernel
theorem dX9_digit_33 : decode cX9_digit 33 = .ok (.bipush 10, 2) := by decide +kernel
theorem dX9_digit_35 : decode cX9_digit 35 = .ok (.iadd, 1) := by decide +kernel
theorem dX9_digit_36 : decode cX9_digit 36 = .ok (.goto 5, 3) := by decide +kernel
theorem dX9_digit_39 : decode cX9_digit 39 = .ok (.bipush (-9), 2) := by decide +kernel
theorem dX9_digit_41 : decode cX9_digit 41 = .ok (.ireturn, 1) := by decide +kernel
theorem dX9_readPairs_0 : decode cX9_readPairs 0 = .ok (.aload_n 0, 1) := by decide +kernel
theorem dX9_readPairs_1 : decode cX9_readPairs 1 = .ok (.iload_n 1, 1) := by decide +kernel
theorem dX9_readPairs_2 : decode cX9_readPairs 2 = .ok (.invokevirtual 104, 3) := by decide +kernel
theorem dX9_readPairs_5 : decode cX9_readPairs 5 = .ok (.aload_n 0, 1) := by decide +kernel
theorem dX9_readPairs_6 : decode cX9_readPairs 6 = .ok (.getfield 26, 3) := by decide +kernel
theorem dX9_readPairs_9 : decode cX9_readPairs 9 = .ok (.iload_n 2, 1) := by decide +kernel
theorem dX9_readPairs_10 : decode cX9_readPairs 10 = .ok (.iconst 0, 1) := by decide +kernel
theorem dX9_readPairs_11 : decode cX9_readPairs 11 = .ok (.iastore, 1) := by decide +kernel
theorem dX9_readPairs_12 : decode cX9_readPairs 12 = .ok (.aload_n 0, 1) := by decide +kernel
theorem dX9_readPairs_13 : decode cX9_readPairs 13 = .ok (.invokevirtual 108, 3) := by decide +kernel
theorem dX9_readPairs_16 : decode cX9_readPairs 16 = .ok (.aload_n 0, 1) := by decide +kernel
theorem dX9_readPairs_17 : decode cX9_readPairs 17 = .ok (.getfield 88, 3) := by decide +kernel
theorem dX9_readPairs_20 : decode cX9_readPairs 20 = .ok (.aload_n 0, 1) := by decide +kernel
theorem dX9_readPairs_21 : decode cX9_readPairs 21 = .ok (.getfield 91, 3) := by decide +kernel
theorem dX9_readPairs_24 : decode cX9_readPairs 24 = .ok (.if_icmp .ge 91, 3) := by decide +kernel
theorem dX9_readPairs_27 : decode cX9_readPairs 27 = .ok (.aload_n 0, 1) := by decide +kernel
theorem dX9_readPairs_28 : decode cX9_readPairs 28 = .ok (.getfield 88, 3) := by decide +kernel
theorem dX9_readPairs_31 : decode cX9_readPairs 31 = .ok (.istore_n 3, 1) := by decide +kernel
theorem dX9_readPairs_32 : decode cX9_readPairs 32 = .ok (.aload_n 0, 1) := by decide +kernel
theorem dX9_readPairs_33 : decode cX9_readPairs 33 = .ok (.invokevirtual 100, 3) := by decide +kernel
theorem dX9_readPairs_36 : decode cX9_readPairs 36 = .ok (.invokestatic 111, 3) := by decide +kernel
theorem dX9_readPairs_39 : decode cX9_readPairs 39 = .ok (.istore 4, 2) := by decide +kernel
theorem dX9_readPairs_41 : decode cX9_readPairs 41 = .ok (.iload 4, 2) := by decide +kernel
theorem dX9_readPairs_43 : decode cX9_readPairs 43 = .ok (.bipush (-9), 2) := by decide +kernel
theorem dX9_readPairs_45 : decode cX9_readPairs 45 = .ok (.if_icmp .ne 8, 3) := by decide +kernel
theorem dX9_readPairs_48 : decode cX9_readPairs 48 = .ok (.aload_n 0, 1) := by decide +kernel
theorem dX9_readPairs_49 : decode cX9_readPairs 49 = .ok (.getfield 88, 3) := by decide +kernel
theorem dX9_readPairs_52 : decode cX9_readPairs 52 = .ok (.ireturn, 1) := by decide +kernel
theorem dX9_readPairs_53 : decode cX9_readPairs 53 = .ok (.aload_n 0, 1) := by decide +kernel
theorem dX9_readPairs_54 : decode cX9_readPairs 54 = .ok (.dup, 1) := by decide +kernel
theorem dX9_readPairs_55 : decode cX9_readPairs 55 = .ok (.getfield 88, 3) := by decide +kernel
theorem dX9_readPairs_58 : decode cX9_readPairs 58 = .ok (.iconst 1, 1) := by decide +kernel
theorem dX9_readPairs_59 : decode cX9_readPairs 59 = .ok (.iadd, 1) := by decide +kernel
theorem dX9_readPairs_60 : decode cX9_readPairs 60 = .ok (.putfield 88, 3) := by decide +kernel
theorem dX9_readPairs_63 : decode cX9_readPairs 63 = .ok (.aload_n 0, 1) := by decide +kernel
theorem dX9_readPairs_64 : decode cX9_readPairs 64 = .ok (.invokevirtual 100, 3) := by decide +kernel
theorem dX9_readPairs_67 : decode cX9_readPairs 67 = .ok (.invokestatic 111, 3) := by decide +kernel
theorem dX9_readPairs_70 : decode cX9_readPairs 70 = .ok (.istore 5, 2) := by decide +kernel
theorem dX9_readPairs_72 : decode cX9_readPairs 72 = .ok (.iload 5, 2) := by decide +kernel
theorem dX9_readPairs_74 : decode cX9_readPairs 74 = .ok (.bipush (-9), 2) := by decide +kernel
theorem dX9_readPairs_76 : decode cX9_readPairs 76 = .ok (.if_icmp .ne 8, 3) := by decide +kernel
theorem dX9_readPairs_79 : decode cX9_readPairs 79 = .ok (.aload_n 0, 1) := by decide +kernel
theorem dX9_readPairs_80 : decode cX9_readPairs 80 = .ok (.getfield 88, 3) := by decide +kernel
theorem dX9_readPairs_83 : decode cX9_readPairs 83 = .ok (.ireturn, 1) := by decide +kernel
theorem dX9_readPairs_84 : decode cX9_readPairs 84 = .ok (.aload_n 0, 1) := by decide +kernel
theorem dX9_readPairs_85 : decode cX9_readPairs 85 = .ok (.dup, 1) := by decide +kernel
theorem dX9_readPairs_86 : decode cX9_readPairs 86 = .ok (.getfield 88, 3) := by decide +kernel
theorem dX9_readPairs_89 : decode cX9_readPairs 89 = .ok (.iconst 1, 1) := by decide +kernel
theorem dX9_readPairs_90 : decode cX9_readPairs 90 = .ok (.iadd, 1) := by decide +kernel
theorem dX9_readPairs_91 : decode cX9_readPairs 91 = .ok (.putfield 88, 3) := by decide +kernel
theorem dX9_readPairs_94 : decode cX9_readPairs 94 = .ok (.aload_n 0, 1) := by decide +kernel
theorem dX9_readPairs_95 : decode cX9_readPairs 95 = .ok (.iload_n 2, 1) := by decide +kernel
theorem dX9_readPairs_96 : decode cX9_readPairs 96 = .ok (.bipush 16, 2) := by decide +kernel
theorem dX9_readPairs_98 : decode cX9_readPairs 98 = .ok (.iload 4, 2) := by decide +kernel
theorem dX9_readPairs_100 : decode cX9_readPairs 100 = .ok (.imul, 1) := by decide +kernel
theorem dX9_readPairs_101 : decode cX9_readPairs 101 = .ok (.iload 5, 2) := by decide +kernel
theorem dX9_readPairs_103 : decode cX9_readPairs 103 = .ok (.iadd, 1) := by decide +kernel
theorem dX9_readPairs_104 : decode cX9_readPairs 104 = .ok (.iload_n 3, 1) := by decide +kernel
theorem dX9_readPairs_105 : decode cX9_readPairs 105 = .ok (.invokevirtual 115, 3) := by decide +kernel
theorem dX9_readPairs_108 : decode cX9_readPairs 108 = .ok (.aload_n 0, 1) := by decide +kernel
theorem dX9_readPairs_109 : decode cX9_readPairs 109 = .ok (.invokevirtual 108, 3) := by decide +kernel
theorem dX9_readPairs_112 : decode cX9_readPairs 112 = .ok (.goto (-96), 3) := by decide +kernel
theorem dX9_readPairs_115 : decode cX9_readPairs 115 = .ok (.aload_n 0, 1) := by decide +kernel
theorem dX9_readPairs_116 : decode cX9_readPairs 116 = .ok (.getfield 26, 3) := by decide +kernel
theorem dX9_readPairs_119 : decode cX9_readPairs 119 = .ok (.iload_n 2, 1) := by decide +kernel
theorem dX9_readPairs_120 : decode cX9_readPairs 120 = .ok (.iaload, 1) := by decide +kernel
theorem dX9_readPairs_121 : decode cX9_readPairs 121 = .ok (.ifCond .ne 10, 3) := by decide +kernel
theorem dX9_readPairs_124 : decode cX9_readPairs 124 = .ok (.aload_n 0, 1) := by decide +kernel
theorem dX9_readPairs_125 : decode cX9_readPairs 125 = .ok (.getfield 91, 3) := by decide +kernel
theorem dX9_readPairs_128 : decode cX9_readPairs 128 = .ok (.goto 5, 3) := by decide +kernel
theorem dX9_readPairs_131 : decode cX9_readPairs 131 = .ok (.bipush (-9), 2) := by decide +kernel
theorem dX9_readPairs_133 : decode cX9_readPairs 133 = .ok (.ireturn, 1) := by decide +kernel
theorem dX9_more_0 : decode cX9_more 0 = .ok (.iload_n 2, 1) := by decide +kernel
theorem dX9_more_1 : decode cX9_more 1 = .ok (.ifCond .ne 7, 3) := by decide +kernel
theorem dX9_more_4 : decode cX9_more 4 = .ok (.lload_n 0, 1) := by decide +kernel
theorem dX9_more_5 : decode cX9_more 5 = .ok (.goto 17, 3) := by decide +kernel
theorem dX9_more_8 : decode cX9_more 8 = .ok (.lload_n 0, 1) := by decide +kernel
theorem dX9_more_9 : decode cX9_more 9 = .ok (.ldc2_w 119, 3) := by decide +kernel
theorem dX9_more_12 : decode cX9_more 12 = .ok (.lmul, 1) := by decide +kernel
theorem dX9_more_13 : decode cX9_more 13 = .ok (.iload_n 2, 1) := by decide +kernel
theorem dX9_more_14 : decode cX9_more 14 = .ok (.i2l, 1) := by decide +kernel
theorem dX9_more_15 : decode cX9_more 15 = .ok (.ladd, 1) := by decide +kernel
theorem dX9_more_16 : decode cX9_more 16 = .ok (.ldc2_w 121, 3) := by decide +kernel
theorem dX9_more_19 : decode cX9_more 19 = .ok (.lsub, 1) := by decide +kernel
theorem dX9_more_20 : decode cX9_more 20 = .ok (.lconst 1, 1) := by decide +kernel
theorem dX9_more_21 : decode cX9_more 21 = .ok (.ladd, 1) := by decide +kernel
theorem dX9_more_22 : decode cX9_more 22 = .ok (.lreturn, 1) := by decide +kernel
theorem dX9_spelled_0 : decode cX9_spelled 0 = .ok (.lconst 0, 1) := by decide +kernel
theorem dX9_spelled_1 : decode cX9_spelled 1 = .ok (.iload_n 0, 1) := by decide +kernel
theorem dX9_spelled_2 : decode cX9_spelled 2 = .ok (.invokestatic 123, 3) := by decide +kernel
theorem dX9_spelled_5 : decode cX9_spelled 5 = .ok (.iload_n 1, 1) := by decide +kernel
theorem dX9_spelled_6 : decode cX9_spelled 6 = .ok (.invokestatic 123, 3) := by decide +kernel
theorem dX9_spelled_9 : decode cX9_spelled 9 = .ok (.iload_n 2, 1) := by decide +kernel
theorem dX9_spelled_10 : decode cX9_spelled 10 = .ok (.invokestatic 123, 3) := by decide +kernel
theorem dX9_spelled_13 : decode cX9_spelled 13 = .ok (.iload_n 3, 1) := by decide +kernel
theorem dX9_spelled_14 : decode cX9_spelled 14 = .ok (.invokestatic 123, 3) := by decide +kernel
theorem dX9_spelled_17 : decode cX9_spelled 17 = .ok (.iload 4, 2) := by decide +kernel
theorem dX9_spelled_19 : decode cX9_spelled 19 = .ok (.invokestatic 123, 3) := by decide +kernel
theorem dX9_spelled_22 : decode cX9_spelled 22 = .ok (.lreturn, 1) := by decide +kernel
theorem dX9_wordOf_0 : decode cX9_wordOf 0 = .ok (.lconst 0, 1) := by decide +kernel
theorem dX9_wordOf_1 : decode cX9_wordOf 1 = .ok (.lstore_n 3, 1) := by decide +kernel
theorem dX9_wordOf_2 : decode cX9_wordOf 2 = .ok (.iload_n 1, 1) := by decide +kernel
theorem dX9_wordOf_3 : decode cX9_wordOf 3 = .ok (.istore 5, 2) := by decide +kernel
theorem dX9_wordOf_5 : decode cX9_wordOf 5 = .ok (.iload 5, 2) := by decide +kernel
theorem dX9_wordOf_7 : decode cX9_wordOf 7 = .ok (.iload_n 2, 1) := by decide +kernel
theorem dX9_wordOf_8 : decode cX9_wordOf 8 = .ok (.if_icmp .ge 35, 3) := by decide +kernel
theorem dX9_wordOf_11 : decode cX9_wordOf 11 = .ok (.iload 5, 2) := by decide +kernel
theorem dX9_wordOf_13 : decode cX9_wordOf 13 = .ok (.iload_n 1, 1) := by decide +kernel
theorem dX9_wordOf_14 : decode cX9_wordOf 14 = .ok (.bipush 6, 2) := by decide +kernel
theorem dX9_wordOf_16 : decode cX9_wordOf 16 = .ok (.iadd, 1) := by decide +kernel
theorem dX9_wordOf_17 : decode cX9_wordOf 17 = .ok (.if_icmp .ge 26, 3) := by decide +kernel
theorem dX9_wordOf_20 : decode cX9_wordOf 20 = .ok (.lload_n 3, 1) := by decide +kernel
theorem dX9_wordOf_21 : decode cX9_wordOf 21 = .ok (.aload_n 0, 1) := by decide +kernel
theorem dX9_wordOf_22 : decode cX9_wordOf 22 = .ok (.getfield 13, 3) := by decide +kernel
theorem dX9_wordOf_25 : decode cX9_wordOf 25 = .ok (.aload_n 0, 1) := by decide +kernel
theorem dX9_wordOf_26 : decode cX9_wordOf 26 = .ok (.getfield 94, 3) := by decide +kernel
theorem dX9_wordOf_29 : decode cX9_wordOf 29 = .ok (.iload 5, 2) := by decide +kernel
theorem dX9_wordOf_31 : decode cX9_wordOf 31 = .ok (.iadd, 1) := by decide +kernel
theorem dX9_wordOf_32 : decode cX9_wordOf 32 = .ok (.baload, 1) := by decide +kernel
theorem dX9_wordOf_33 : decode cX9_wordOf 33 = .ok (.invokestatic 123, 3) := by decide +kernel
theorem dX9_wordOf_36 : decode cX9_wordOf 36 = .ok (.lstore_n 3, 1) := by decide +kernel
theorem dX9_wordOf_37 : decode cX9_wordOf 37 = .ok (.iinc 5 1, 3) := by decide +kernel
theorem dX9_wordOf_40 : decode cX9_wordOf 40 = .ok (.goto (-35), 3) := by decide +kernel
theorem dX9_wordOf_43 : decode cX9_wordOf 43 = .ok (.bipush (-9), 2) := by decide +kernel
theorem dX9_wordOf_45 : decode cX9_wordOf 45 = .ok (.istore 5, 2) := by decide +kernel
theorem dX9_wordOf_47 : decode cX9_wordOf 47 = .ok (.lload_n 3, 1) := by decide +kernel
theorem dX9_wordOf_48 : decode cX9_wordOf 48 = .ok (.bipush 115, 2) := by decide +kernel
theorem dX9_wordOf_50 : decode cX9_wordOf 50 = .ok (.bipush 116, 2) := by decide +kernel
theorem dX9_wordOf_52 : decode cX9_wordOf 52 = .ok (.bipush 111, 2) := by decide +kernel
theorem dX9_wordOf_54 : decode cX9_wordOf 54 = .ok (.bipush 112, 2) := by decide +kernel
theorem dX9_wordOf_56 : decode cX9_wordOf 56 = .ok (.iconst 0, 1) := by decide +kernel
theorem dX9_wordOf_57 : decode cX9_wordOf 57 = .ok (.invokestatic 127, 3) := by decide +kernel
theorem dX9_wordOf_60 : decode cX9_wordOf 60 = .ok (.lcmp, 1) := by decide +kernel
theorem dX9_wordOf_61 : decode cX9_wordOf 61 = .ok (.ifCond .ne 7, 3) := by decide +kernel
theorem dX9_wordOf_64 : decode cX9_wordOf 64 = .ok (.iconst 0, 1) := by decide +kernel
theorem dX9_wordOf_65 : decode cX9_wordOf 65 = .ok (.goto 5, 3) := by decide +kernel
theorem dX9_wordOf_68 : decode cX9_wordOf 68 = .ok (.iload 5, 2) := by decide +kernel
theorem dX9_wordOf_70 : decode cX9_wordOf 70 = .ok (.istore 5, 2) := by decide +kernel
theorem dX9_wordOf_72 : decode cX9_wordOf 72 = .ok (.lload_n 3, 1) := by decide +kernel
theorem dX9_wordOf_73 : decode cX9_wordOf 73 = .ok (.bipush 105, 2) := by decide +kernel
theorem dX9_wordOf_75 : decode cX9_wordOf 75 = .ok (.bipush 110, 2) := by decide +kernel
theorem dX9_wordOf_77 : decode cX9_wordOf 77 = .ok (.iconst 0, 1) := by decide +kernel
theorem dX9_wordOf_78 : decode cX9_wordOf 78 = .ok (.iconst 0, 1) := by decide +kernel
theorem dX9_wordOf_79 : decode cX9_wordOf 79 = .ok (.iconst 0, 1) := by decide +kernel
theorem dX9_wordOf_80 : decode cX9_wordOf 80 = .ok (.invokestatic 127, 3) := by decide +kernel
theorem dX9_wordOf_83 : decode cX9_wordOf 83 = .ok (.lcmp, 1) := by decide +kernel
theorem dX9_wordOf_84 : decode cX9_wordOf 84 = .ok (.ifCond .ne 7, 3) := by decide +kernel
theorem dX9_wordOf_87 : decode cX9_wordOf 87 = .ok (.iconst 1, 1) := by decide +kernel
theorem dX9_wordOf_88 : decode cX9_wordOf 88 = .ok (.goto 5, 3) := by decide +kernel
theorem dX9_wordOf_91 : decode cX9_wordOf 91 = .ok (.iload 5, 2) := by decide +kernel
theorem dX9_wordOf_93 : decode cX9_wordOf 93 = .ok (.istore 5, 2) := by decide +kernel
theorem dX9_wordOf_95 : decode cX9_wordOf 95 = .ok (.lload_n 3, 1) := by decide +kernel
theorem dX9_wordOf_96 : decode cX9_wordOf 96 = .ok (.bipush 111, 2) := by decide +kernel
theorem dX9_wordOf_98 : decode cX9_wordOf 98 = .ok (.bipush 117, 2) := by decide +kernel
theorem dX9_wordOf_100 : decode cX9_wordOf 100 = .ok (.bipush 116, 2) := by decide +kernel
theorem dX9_wordOf_102 : decode cX9_wordOf 102 = .ok (.iconst 0, 1) := by decide +kernel
theorem dX9_wordOf_103 : decode cX9_wordOf 103 = .ok (.iconst 0, 1) := by decide +kernel
theorem dX9_wordOf_104 : decode cX9_wordOf 104 = .ok (.invokestatic 127, 3) := by decide +kernel
theorem dX9_wordOf_107 : decode cX9_wordOf 107 = .ok (.lcmp, 1) := by decide +kernel
theorem dX9_wordOf_108 : decode cX9_wordOf 108 = .ok (.ifCond .ne 7, 3) := by decide +kernel
theorem dX9_wordOf_111 : decode cX9_wordOf 111 = .ok (.iconst 2, 1) := by decide +kernel
theorem dX9_wordOf_112 : decode cX9_wordOf 112 = .ok (.goto 5, 3) := by decide +kernel
theorem dX9_wordOf_115 : decode cX9_wordOf 115 = .ok (.iload 5, 2) := by decide +kernel
theorem dX9_wordOf_117 : decode cX9_wordOf 117 = .ok (.istore 5, 2) := by decide +kernel
theorem dX9_wordOf_119 : decode cX9_wordOf 119 = .ok (.lload_n 3, 1) := by decide +kernel
theorem dX9_wordOf_120 : decode cX9_wordOf 120 = .ok (.bipush 115, 2) := by decide +kernel
theorem dX9_wordOf_122 : decode cX9_wordOf 122 = .ok (.bipush 101, 2) := by decide +kernel
theorem dX9_wordOf_124 : decode cX9_wordOf 124 = .ok (.bipush 116, 2) := by decide +kernel
theorem dX9_wordOf_126 : decode cX9_wordOf 126 = .ok (.iconst 0, 1) := by decide +kernel
theorem dX9_wordOf_127 : decode cX9_wordOf 127 = .ok (.iconst 0, 1) := by decide +kernel
theorem dX9_wordOf_128 : decode cX9_wordOf 128 = .ok (.invokestatic 127, 3) := by decide +kernel
theorem dX9_wordOf_131 : decode cX9_wordOf 131 = .ok (.lcmp, 1) := by decide +kernel
theorem dX9_wordOf_132 : decode cX9_wordOf 132 = .ok (.ifCond .ne 7, 3) := by decide +kernel
theorem dX9_wordOf_135 : decode cX9_wordOf 135 = .ok (.iconst 3, 1) := by decide +kernel
theorem dX9_wordOf_136 : decode cX9_wordOf 136 = .ok (.goto 5, 3) := by decide +kernel
theorem dX9_wordOf_139 : decode cX9_wordOf 139 = .ok (.iload 5, 2) := by decide +kernel
theorem dX9_wordOf_141 : decode cX9_wordOf 141 = .ok (.istore 5, 2) := by decide +kernel
theorem dX9_wordOf_143 : decode cX9_wordOf 143 = .ok (.lload_n 3, 1) := by decide +kernel
theorem dX9_wordOf_144 : decode cX9_wordOf 144 = .ok (.bipush 108, 2) := by decide +kernel
theorem dX9_wordOf_146 : decode cX9_wordOf 146 = .ok (.bipush 111, 2) := by decide +kernel
theorem dX9_wordOf_148 : decode cX9_wordOf 148 = .ok (.bipush 97, 2) := by decide +kernel
theorem dX9_wordOf_150 : decode cX9_wordOf 150 = .ok (.bipush 100, 2) := by decide +kernel
theorem dX9_wordOf_152 : decode cX9_wordOf 152 = .ok (.iconst 0, 1) := by decide +kernel
theorem dX9_wordOf_153 : decode cX9_wordOf 153 = .ok (.invokestatic 127, 3) := by decide +kernel
theorem dX9_wordOf_156 : decode cX9_wordOf 156 = .ok (.lcmp, 1) := by decide +kernel
theorem dX9_wordOf_157 : decode cX9_wordOf 157 = .ok (.ifCond .ne 7, 3) := by decide +kernel
theorem dX9_wordOf_160 : decode cX9_wordOf 160 = .ok (.iconst 4, 1) := by decide +kernel
theorem dX9_wordOf_161 : decode cX9_wordOf 161 = .ok (.goto 5, 3) := by decide +kernel
theorem dX9_wordOf_164 : decode cX9_wordOf 164 = .ok (.iload 5, 2) := by decide +kernel
theorem dX9_wordOf_166 : decode cX9_wordOf 166 = .ok (.istore 5, 2) := by decide +kernel
theorem dX9_wordOf_168 : decode cX9_wordOf 168 = .ok (.lload_n 3, 1) := by decide +kernel
theorem dX9_wordOf_169 : decode cX9_wordOf 169 = .ok (.bipush 115, 2) := by decide +kernel
theorem dX9_wordOf_171 : decode cX9_wordOf 171 = .ok (.bipush 116, 2) := by decide +kernel
theorem dX9_wordOf_173 : decode cX9_wordOf 173 = .ok (.bipush 111, 2) := by decide +kernel
theorem dX9_wordOf_175 : decode cX9_wordOf 175 = .ok (.bipush 114, 2) := by decide +kernel
theorem dX9_wordOf_177 : decode cX9_wordOf 177 = .ok (.bipush 101, 2) := by decide +kernel
theorem dX9_wordOf_179 : decode cX9_wordOf 179 = .ok (.invokestatic 127, 3) := by decide +kernel
theorem dX9_wordOf_182 : decode cX9_wordOf 182 = .ok (.lcmp, 1) := by decide +kernel
theorem dX9_wordOf_183 : decode cX9_wordOf 183 = .ok (.ifCond .ne 7, 3) := by decide +kernel
theorem dX9_wordOf_186 : decode cX9_wordOf 186 = .ok (.iconst 5, 1) := by decide +kernel
theorem dX9_wordOf_187 : decode cX9_wordOf 187 = .ok (.goto 5, 3) := by decide +kernel
theorem dX9_wordOf_190 : decode cX9_wordOf 190 = .ok (.iload 5, 2) := by decide +kernel
theorem dX9_wordOf_192 : decode cX9_wordOf 192 = .ok (.istore 5, 2) := by decide +kernel
theorem dX9_wordOf_194 : decode cX9_wordOf 194 = .ok (.lload_n 3, 1) := by decide +kernel
theorem dX9_wordOf_195 : decode cX9_wordOf 195 = .ok (.bipush 97, 2) := by decide +kernel
theorem dX9_wordOf_197 : decode cX9_wordOf 197 = .ok (.bipush 100, 2) := by decide +kernel
theorem dX9_wordOf_199 : decode cX9_wordOf 199 = .ok (.bipush 100, 2) := by decide +kernel
theorem dX9_wordOf_201 : decode cX9_wordOf 201 = .ok (.iconst 0, 1) := by decide +kernel
theorem dX9_wordOf_202 : decode cX9_wordOf 202 = .ok (.iconst 0, 1) := by decide +kernel
theorem dX9_wordOf_203 : decode cX9_wordOf 203 = .ok (.invokestatic 127, 3) := by decide +kernel
theorem dX9_wordOf_206 : decode cX9_wordOf 206 = .ok (.lcmp, 1) := by decide +kernel
theorem dX9_wordOf_207 : decode cX9_wordOf 207 = .ok (.ifCond .ne 8, 3) := by decide +kernel
theorem dX9_wordOf_210 : decode cX9_wordOf 210 = .ok (.bipush 6, 2) := by decide +kernel
theorem dX9_wordOf_212 : decode cX9_wordOf 212 = .ok (.goto 5, 3) := by decide +kernel
theorem dX9_wordOf_215 : decode cX9_wordOf 215 = .ok (.iload 5, 2) := by decide +kernel
theorem dX9_wordOf_217 : decode cX9_wordOf 217 = .ok (.istore 5, 2) := by decide +kernel
theorem dX9_wordOf_219 : decode cX9_wordOf 219 = .ok (.lload_n 3, 1) := by decide +kernel
theorem dX9_wordOf_220 : decode cX9_wordOf 220 = .ok (.bipush 115, 2) := by decide +kernel
theorem dX9_wordOf_222 : decode cX9_wordOf 222 = .ok (.bipush 117, 2) := by decide +kernel
theorem dX9_wordOf_224 : decode cX9_wordOf 224 = .ok (.bipush 98, 2) := by decide +kernel
theorem dX9_wordOf_226 : decode cX9_wordOf 226 = .ok (.iconst 0, 1) := by decide +kernel
theorem dX9_wordOf_227 : decode cX9_wordOf 227 = .ok (.iconst 0, 1) := by decide +kernel
theorem dX9_wordOf_228 : decode cX9_wordOf 228 = .ok (.invokestatic 127, 3) := by decide +kernel
theorem dX9_wordOf_231 : decode cX9_wordOf 231 = .ok (.lcmp, 1) := by decide +kernel
theorem dX9_wordOf_232 : decode cX9_wordOf 232 = .ok (.ifCond .ne 8, 3) := by decide +kernel
theorem dX9_wordOf_235 : decode cX9_wordOf 235 = .ok (.bipush 7, 2) := by decide +kernel
theorem dX9_wordOf_237 : decode cX9_wordOf 237 = .ok (.goto 5, 3) := by decide +kernel
theorem dX9_wordOf_240 : decode cX9_wordOf 240 = .ok (.iload 5, 2) := by decide +kernel
theorem dX9_wordOf_242 : decode cX9_wordOf 242 = .ok (.istore 5, 2) := by decide +kernel
theorem dX9_wordOf_244 : decode cX9_wordOf 244 = .ok (.lload_n 3, 1) := by decide +kernel
theorem dX9_wordOf_245 : decode cX9_wordOf 245 = .ok (.bipush 103, 2) := by decide +kernel
theorem dX9_wordOf_247 : decode cX9_wordOf 247 = .ok (.bipush 101, 2) := by decide +kernel
theorem dX9_wordOf_249 : decode cX9_wordOf 249 = .ok (.bipush 116, 2) := by decide +kernel
theorem dX9_wordOf_251 : decode cX9_wordOf 251 = .ok (.iconst 0, 1) := by decide +kernel
theorem dX9_wordOf_252 : decode cX9_wordOf 252 = .ok (.iconst 0, 1) := by decide +kernel
theorem dX9_wordOf_253 : decode cX9_wordOf 253 = .ok (.invokestatic 127, 3) := by decide +kernel
theorem dX9_wordOf_256 : decode cX9_wordOf 256 = .ok (.lcmp, 1) := by decide +kernel
theorem dX9_wordOf_257 : decode cX9_wordOf 257 = .ok (.ifCond .ne 8, 3) := by decide +kernel
theorem dX9_wordOf_260 : decode cX9_wordOf 260 = .ok (.bipush 8, 2) := by decide +kernel
theorem dX9_wordOf_262 : decode cX9_wordOf 262 = .ok (.goto 5, 3) := by decide +kernel
theorem dX9_wordOf_265 : decode cX9_wordOf 265 = .ok (.iload 5, 2) := by decide +kernel
theorem dX9_wordOf_267 : decode cX9_wordOf 267 = .ok (.istore 5, 2) := by decide +kernel
theorem dX9_wordOf_269 : decode cX9_wordOf 269 = .ok (.lload_n 3, 1) := by decide +kernel
theorem dX9_wordOf_270 : decode cX9_wordOf 270 = .ok (.bipush 112, 2) := by decide +kernel
theorem dX9_wordOf_272 : decode cX9_wordOf 272 = .ok (.bipush 117, 2) := by decide +kernel
theorem dX9_wordOf_274 : decode cX9_wordOf 274 = .ok (.bipush 116, 2) := by decide +kernel
theorem dX9_wordOf_276 : decode cX9_wordOf 276 = .ok (.iconst 0, 1) := by decide +kernel
theorem dX9_wordOf_277 : decode cX9_wordOf 277 = .ok (.iconst 0, 1) := by decide +kernel
theorem dX9_wordOf_278 : decode cX9_wordOf 278 = .ok (.invokestatic 127, 3) := by decide +kernel
theorem dX9_wordOf_281 : decode cX9_wordOf 281 = .ok (.lcmp, 1) := by decide +kernel
theorem dX9_wordOf_282 : decode cX9_wordOf 282 = .ok (.ifCond .ne 8, 3) := by decide +kernel
theorem dX9_wordOf_285 : decode cX9_wordOf 285 = .ok (.bipush 9, 2) := by decide +kernel
theorem dX9_wordOf_287 : decode cX9_wordOf 287 = .ok (.goto 5, 3) := by decide +kernel
theorem dX9_wordOf_290 : decode cX9_wordOf 290 = .ok (.iload 5, 2) := by decide +kernel
theorem dX9_wordOf_292 : decode cX9_wordOf 292 = .ok (.istore 5, 2) := by decide +kernel
theorem dX9_wordOf_294 : decode cX9_wordOf 294 = .ok (.lload_n 3, 1) := by decide +kernel
theorem dX9_wordOf_295 : decode cX9_wordOf 295 = .ok (.bipush 116, 2) := by decide +kernel
theorem dX9_wordOf_297 : decode cX9_wordOf 297 = .ok (.bipush 111, 2) := by decide +kernel
theorem dX9_wordOf_299 : decode cX9_wordOf 299 = .ok (.iconst 0, 1) := by decide +kernel
theorem dX9_wordOf_300 : decode cX9_wordOf 300 = .ok (.iconst 0, 1) := by decide +kernel
theorem dX9_wordOf_301 : decode cX9_wordOf 301 = .ok (.iconst 0, 1) := by decide +kernel
theorem dX9_wordOf_302 : decode cX9_wordOf 302 = .ok (.invokestatic 127, 3) := by decide +kernel
theorem dX9_wordOf_305 : decode cX9_wordOf 305 = .ok (.lcmp, 1) := by decide +kernel
theorem dX9_wordOf_306 : decode cX9_wordOf 306 = .ok (.ifCond .ne 8, 3) := by decide +kernel
theorem dX9_wordOf_309 : decode cX9_wordOf 309 = .ok (.bipush 10, 2) := by decide +kernel
theorem dX9_wordOf_311 : decode cX9_wordOf 311 = .ok (.goto 5, 3) := by decide +kernel
theorem dX9_wordOf_314 : decode cX9_wordOf 314 = .ok (.iload 5, 2) := by decide +kernel
theorem dX9_wordOf_316 : decode cX9_wordOf 316 = .ok (.istore 5, 2) := by decide +kernel
theorem dX9_wordOf_318 : decode cX9_wordOf 318 = .ok (.lload_n 3, 1) := by decide +kernel
theorem dX9_wordOf_319 : decode cX9_wordOf 319 = .ok (.bipush 106, 2) := by decide +kernel
theorem dX9_wordOf_321 : decode cX9_wordOf 321 = .ok (.bipush 117, 2) := by decide +kernel
theorem dX9_wordOf_323 : decode cX9_wordOf 323 = .ok (.bipush 109, 2) := by decide +kernel
theorem dX9_wordOf_325 : decode cX9_wordOf 325 = .ok (.bipush 112, 2) := by decide +kernel
theorem dX9_wordOf_327 : decode cX9_wordOf 327 = .ok (.iconst 0, 1) := by decide +kernel
theorem dX9_wordOf_328 : decode cX9_wordOf 328 = .ok (.invokestatic 127, 3) := by decide +kernel
theorem dX9_wordOf_331 : decode cX9_wordOf 331 = .ok (.lcmp, 1) := by decide +kernel
theorem dX9_wordOf_332 : decode cX9_wordOf 332 = .ok (.ifCond .ne 8, 3) := by decide +kernel
theorem dX9_wordOf_335 : decode cX9_wordOf 335 = .ok (.bipush 11, 2) := by decide +kernel
theorem dX9_wordOf_337 : decode cX9_wordOf 337 = .ok (.goto 5, 3) := by decide +kernel
theorem dX9_wordOf_340 : decode cX9_wordOf 340 = .ok (.iload 5, 2) := by decide +kernel
theorem dX9_wordOf_342 : decode cX9_wordOf 342 = .ok (.istore 5, 2) := by decide +kernel
theorem dX9_wordOf_344 : decode cX9_wordOf 344 = .ok (.lload_n 3, 1) := by decide +kernel
theorem dX9_wordOf_345 : decode cX9_wordOf 345 = .ok (.bipush 122, 2) := by decide +kernel
theorem dX9_wordOf_347 : decode cX9_wordOf 347 = .ok (.bipush 101, 2) := by decide +kernel
theorem dX9_wordOf_349 : decode cX9_wordOf 349 = .ok (.bipush 114, 2) := by decide +kernel
theorem dX9_wordOf_351 : decode cX9_wordOf 351 = .ok (.bipush 111, 2) := by decide +kernel
theorem dX9_wordOf_353 : decode cX9_wordOf 353 = .ok (.iconst 0, 1) := by decide +kernel
theorem dX9_wordOf_354 : decode cX9_wordOf 354 = .ok (.invokestatic 127, 3) := by decide +kernel
theorem dX9_wordOf_357 : decode cX9_wordOf 357 = .ok (.lcmp, 1) := by decide +kernel
theorem dX9_wordOf_358 : decode cX9_wordOf 358 = .ok (.ifCond .ne 8, 3) := by decide +kernel
theorem dX9_wordOf_361 : decode cX9_wordOf 361 = .ok (.bipush 12, 2) := by decide +kernel
theorem dX9_wordOf_363 : decode cX9_wordOf 363 = .ok (.goto 5, 3) := by decide +kernel
theorem dX9_wordOf_366 : decode cX9_wordOf 366 = .ok (.iload 5, 2) := by decide +kernel
theorem dX9_wordOf_368 : decode cX9_wordOf 368 = .ok (.istore 5, 2) := by decide +kernel
theorem dX9_wordOf_370 : decode cX9_wordOf 370 = .ok (.lload_n 3, 1) := by decide +kernel
theorem dX9_wordOf_371 : decode cX9_wordOf 371 = .ok (.bipush 101, 2) := by decide +kernel
theorem dX9_wordOf_373 : decode cX9_wordOf 373 = .ok (.bipush 110, 2) := by decide +kernel
theorem dX9_wordOf_375 : decode cX9_wordOf 375 = .ok (.bipush 100, 2) := by decide +kernel
theorem dX9_wordOf_377 : decode cX9_wordOf 377 = .ok (.iconst 0, 1) := by decide +kernel
theorem dX9_wordOf_378 : decode cX9_wordOf 378 = .ok (.iconst 0, 1) := by decide +kernel
theorem dX9_wordOf_379 : decode cX9_wordOf 379 = .ok (.invokestatic 127, 3) := by decide +kernel
theorem dX9_wordOf_382 : decode cX9_wordOf 382 = .ok (.lcmp, 1) := by decide +kernel
theorem dX9_wordOf_383 : decode cX9_wordOf 383 = .ok (.ifCond .ne 8, 3) := by decide +kernel
theorem dX9_wordOf_386 : decode cX9_wordOf 386 = .ok (.bipush 13, 2) := by decide +kernel
theorem dX9_wordOf_388 : decode cX9_wordOf 388 = .ok (.goto 5, 3) := by decide +kernel
theorem dX9_wordOf_391 : decode cX9_wordOf 391 = .ok (.iload 5, 2) := by decide +kernel
theorem dX9_wordOf_393 : decode cX9_wordOf 393 = .ok (.istore 5, 2) := by decide +kernel
theorem dX9_wordOf_395 : decode cX9_wordOf 395 = .ok (.lload_n 3, 1) := by decide +kernel
theorem dX9_wordOf_396 : decode cX9_wordOf 396 = .ok (.bipush 112, 2) := by decide +kernel
theorem dX9_wordOf_398 : decode cX9_wordOf 398 = .ok (.bipush 108, 2) := by decide +kernel
theorem dX9_wordOf_400 : decode cX9_wordOf 400 = .ok (.bipush 117, 2) := by decide +kernel
theorem dX9_wordOf_402 : decode cX9_wordOf 402 = .ok (.bipush 115, 2) := by decide +kernel
theorem dX9_wordOf_404 : decode cX9_wordOf 404 = .ok (.iconst 0, 1) := by decide +kernel
theorem dX9_wordOf_405 : decode cX9_wordOf 405 = .ok (.invokestatic 127, 3) := by decide +kernel
theorem dX9_wordOf_408 : decode cX9_wordOf 408 = .ok (.lcmp, 1) := by decide +kernel
theorem dX9_wordOf_409 : decode cX9_wordOf 409 = .ok (.ifCond .ne 8, 3) := by decide +kernel
theorem dX9_wordOf_412 : decode cX9_wordOf 412 = .ok (.bipush 14, 2) := by decide +kernel
theorem dX9_wordOf_414 : decode cX9_wordOf 414 = .ok (.goto 5, 3) := by decide +kernel
theorem dX9_wordOf_417 : decode cX9_wordOf 417 = .ok (.iload 5, 2) := by decide +kernel
theorem dX9_wordOf_419 : decode cX9_wordOf 419 = .ok (.istore 5, 2) := by decide +kernel
theorem dX9_wordOf_421 : decode cX9_wordOf 421 = .ok (.lload_n 3, 1) := by decide +kernel
theorem dX9_wordOf_422 : decode cX9_wordOf 422 = .ok (.bipush 109, 2) := by decide +kernel
theorem dX9_wordOf_424 : decode cX9_wordOf 424 = .ok (.bipush 105, 2) := by decide +kernel
theorem dX9_wordOf_426 : decode cX9_wordOf 426 = .ok (.bipush 110, 2) := by decide +kernel
theorem dX9_wordOf_428 : decode cX9_wordOf 428 = .ok (.bipush 117, 2) := by decide +kernel
theorem dX9_wordOf_430 : decode cX9_wordOf 430 = .ok (.bipush 115, 2) := by decide +kernel
theorem dX9_wordOf_432 : decode cX9_wordOf 432 = .ok (.invokestatic 127, 3) := by decide +kernel
theorem dX9_wordOf_435 : decode cX9_wordOf 435 = .ok (.lcmp, 1) := by decide +kernel
theorem dX9_wordOf_436 : decode cX9_wordOf 436 = .ok (.ifCond .ne 8, 3) := by decide +kernel
theorem dX9_wordOf_439 : decode cX9_wordOf 439 = .ok (.bipush 15, 2) := by decide +kernel
theorem dX9_wordOf_441 : decode cX9_wordOf 441 = .ok (.goto 5, 3) := by decide +kernel
theorem dX9_wordOf_444 : decode cX9_wordOf 444 = .ok (.iload 5, 2) := by decide +kernel
theorem dX9_wordOf_446 : decode cX9_wordOf 446 = .ok (.istore 5, 2) := by decide +kernel
theorem dX9_wordOf_448 : decode cX9_wordOf 448 = .ok (.lload_n 3, 1) := by decide +kernel
theorem dX9_wordOf_449 : decode cX9_wordOf 449 = .ok (.bipush 98, 2) := by decide +kernel
theorem dX9_wordOf_451 : decode cX9_wordOf 451 = .ok (.bipush 121, 2) := by decide +kernel
theorem dX9_wordOf_453 : decode cX9_wordOf 453 = .ok (.bipush 116, 2) := by decide +kernel
theorem dX9_wordOf_455 : decode cX9_wordOf 455 = .ok (.bipush 101, 2) := by decide +kernel
theorem dX9_wordOf_457 : decode cX9_wordOf 457 = .ok (.iconst 0, 1) := by decide +kernel
theorem dX9_wordOf_458 : decode cX9_wordOf 458 = .ok (.invokestatic 127, 3) := by decide +kernel
theorem dX9_wordOf_461 : decode cX9_wordOf 461 = .ok (.lcmp, 1) := by decide +kernel
theorem dX9_wordOf_462 : decode cX9_wordOf 462 = .ok (.ifCond .ne 8, 3) := by decide +kernel
theorem dX9_wordOf_465 : decode cX9_wordOf 465 = .ok (.bipush 16, 2) := by decide +kernel
theorem dX9_wordOf_467 : decode cX9_wordOf 467 = .ok (.goto 5, 3) := by decide +kernel
theorem dX9_wordOf_470 : decode cX9_wordOf 470 = .ok (.iload 5, 2) := by decide +kernel
theorem dX9_wordOf_472 : decode cX9_wordOf 472 = .ok (.istore 5, 2) := by decide +kernel
theorem dX9_wordOf_474 : decode cX9_wordOf 474 = .ok (.iload_n 2, 1) := by decide +kernel
theorem dX9_wordOf_475 : decode cX9_wordOf 475 = .ok (.iload_n 1, 1) := by decide +kernel
theorem dX9_wordOf_476 : decode cX9_wordOf 476 = .ok (.isub, 1) := by decide +kernel
theorem dX9_wordOf_477 : decode cX9_wordOf 477 = .ok (.iconst 5, 1) := by decide +kernel
theorem dX9_wordOf_478 : decode cX9_wordOf 478 = .ok (.if_icmp .le 8, 3) := by decide +kernel
theorem dX9_wordOf_481 : decode cX9_wordOf 481 = .ok (.bipush (-9), 2) := by decide +kernel
theorem dX9_wordOf_483 : decode cX9_wordOf 483 = .ok (.goto 5, 3) := by decide +kernel
theorem dX9_wordOf_486 : decode cX9_wordOf 486 = .ok (.iload 5, 2) := by decide +kernel
theorem dX9_wordOf_488 : decode cX9_wordOf 488 = .ok (.ireturn, 1) := by decide +kernel
theorem dX9_hasNumber_0 : decode cX9_hasNumber 0 = .ok (.iload_n 0, 1) := by decide +kernel
theorem dX9_hasNumber_1 : decode cX9_hasNumber 1 = .ok (.iconst 3, 1) := by decide +kernel
theorem dX9_hasNumber_2 : decode cX9_hasNumber 2 = .ok (.bipush 7, 2) := by decide +kernel
theorem dX9_hasNumber_4 : decode cX9_hasNumber 4 = .ok (.invokestatic 75, 3) := by decide +kernel
theorem dX9_hasNumber_7 : decode cX9_hasNumber 7 = .ok (.ifCond .ne 14, 3) := by decide +kernel
theorem dX9_hasNumber_10 : decode cX9_hasNumber 10 = .ok (.iload_n 0, 1) := by decide +kernel
theorem dX9_hasNumber_11 : decode cX9_hasNumber 11 = .ok (.bipush 11, 2) := by decide +kernel
theorem dX9_hasNumber_13 : decode cX9_hasNumber 13 = .ok (.bipush 15, 2) := by decide +kernel
theorem dX9_hasNumber_15 : decode cX9_hasNumber 15 = .ok (.invokestatic 75, 3) := by decide +kernel
theorem dX9_hasNumber_18 : decode cX9_hasNumber 18 = .ok (.ifCond .eq 7, 3) := by decide +kernel
theorem dX9_hasNumber_21 : decode cX9_hasNumber 21 = .ok (.iconst 1, 1) := by decide +kernel
theorem dX9_hasNumber_22 : decode cX9_hasNumber 22 = .ok (.goto 4, 3) := by decide +kernel
theorem dX9_hasNumber_25 : decode cX9_hasNumber 25 = .ok (.iconst 0, 1) := by decide +kernel
theorem dX9_hasNumber_26 : decode cX9_hasNumber 26 = .ok (.ireturn, 1) := by decide +kernel
theorem dX9_next_0 : decode cX9_next 0 = .ok (.aload_n 0, 1) := by decide +kernel
theorem dX9_next_1 : decode cX9_next 1 = .ok (.aload_n 0, 1) := by decide +kernel
theorem dX9_next_2 : decode cX9_next 2 = .ok (.getfield 88, 3) := by decide +kernel
theorem dX9_next_5 : decode cX9_next 5 = .ok (.putfield 131, 3) := by decide +kernel
theorem dX9_next_8 : decode cX9_next 8 = .ok (.aload_n 0, 1) := by decide +kernel
theorem dX9_next_9 : decode cX9_next 9 = .ok (.invokevirtual 108, 3) := by decide +kernel
theorem dX9_next_12 : decode cX9_next 12 = .ok (.aload_n 0, 1) := by decide +kernel
theorem dX9_next_13 : decode cX9_next 13 = .ok (.aload_n 0, 1) := by decide +kernel
theorem dX9_next_14 : decode cX9_next 14 = .ok (.getfield 88, 3) := by decide +kernel
theorem dX9_next_17 : decode cX9_next 17 = .ok (.putfield 134, 3) := by decide +kernel
theorem dX9_next_20 : decode cX9_next 20 = .ok (.aload_n 0, 1) := by decide +kernel
theorem dX9_next_21 : decode cX9_next 21 = .ok (.iconst 0, 1) := by decide +kernel
theorem dX9_next_22 : decode cX9_next 22 = .ok (.putfield 137, 3) := by decide +kernel
theorem dX9_next_25 : decode cX9_next 25 = .ok (.aload_n 0, 1) := by decide +kernel
theorem dX9_next_26 : decode cX9_next 26 = .ok (.invokevirtual 100, 3) := by decide +kernel
theorem dX9_next_29 : decode cX9_next 29 = .ok (.istore_n 1, 1) := by decide +kernel
theorem dX9_next_30 : decode cX9_next 30 = .ok (.iload_n 1, 1) := by decide +kernel
theorem dX9_next_31 : decode cX9_next 31 = .ok (.ifCond .ge 11, 3) := by decide +kernel
theorem dX9_next_34 : decode cX9_next 34 = .ok (.aload_n 0, 1) := by decide +kernel
theorem dX9_next_35 : decode cX9_next 35 = .ok (.iconst 0, 1) := by decide +kernel
theorem dX9_next_36 : decode cX9_next 36 = .ok (.putfield 140, 3) := by decide +kernel
theorem dX9_next_39 : decode cX9_next 39 = .ok (.goto 241, 3) := by decide +kernel
theorem dX9_next_42 : decode cX9_next 42 = .ok (.iload_n 1, 1) := by decide +kernel
theorem dX9_next_43 : decode cX9_next 43 = .ok (.bipush 97, 2) := by decide +kernel
theorem dX9_next_45 : decode cX9_next 45 = .ok (.bipush 122, 2) := by decide +kernel
theorem dX9_next_47 : decode cX9_next 47 = .ok (.invokestatic 75, 3) := by decide +kernel
theorem dX9_next_50 : decode cX9_next 50 = .ok (.ifCond .eq 67, 3) := by decide +kernel
theorem dX9_next_53 : decode cX9_next 53 = .ok (.aload_n 0, 1) := by decide +kernel
theorem dX9_next_54 : decode cX9_next 54 = .ok (.invokevirtual 100, 3) := by decide +kernel
theorem dX9_next_57 : decode cX9_next 57 = .ok (.bipush 97, 2) := by decide +kernel
theorem dX9_next_59 : decode cX9_next 59 = .ok (.bipush 122, 2) := by decide +kernel
theorem dX9_next_61 : decode cX9_next 61 = .ok (.invokestatic 75, 3) := by decide +kernel
theorem dX9_next_64 : decode cX9_next 64 = .ok (.ifCond .eq 16, 3) := by decide +kernel
theorem dX9_next_67 : decode cX9_next 67 = .ok (.aload_n 0, 1) := by decide +kernel
theorem dX9_next_68 : decode cX9_next 68 = .ok (.dup, 1) := by decide +kernel
theorem dX9_next_69 : decode cX9_next 69 = .ok (.getfield 88, 3) := by decide +kernel
theorem dX9_next_72 : decode cX9_next 72 = .ok (.iconst 1, 1) := by decide +kernel
theorem dX9_next_73 : decode cX9_next 73 = .ok (.iadd, 1) := by decide +kernel
theorem dX9_next_74 : decode cX9_next 74 = .ok (.putfield 88, 3) := by decide +kernel
theorem dX9_next_77 : decode cX9_next 77 = .ok (.goto (-24), 3) := by decide +kernel
theorem dX9_next_80 : decode cX9_next 80 = .ok (.aload_n 0, 1) := by decide +kernel
theorem dX9_next_81 : decode cX9_next 81 = .ok (.aload_n 0, 1) := by decide +kernel
theorem dX9_next_82 : decode cX9_next 82 = .ok (.aload_n 0, 1) := by decide +kernel
theorem dX9_next_83 : decode cX9_next 83 = .ok (.getfield 134, 3) := by decide +kernel
theorem dX9_next_86 : decode cX9_next 86 = .ok (.aload_n 0, 1) := by decide +kernel
theorem dX9_next_87 : decode cX9_next 87 = .ok (.getfield 88, 3) := by decide +kernel
theorem dX9_next_90 : decode cX9_next 90 = .ok (.invokevirtual 143, 3) := by decide +kernel
theorem dX9_next_93 : decode cX9_next 93 = .ok (.putfield 137, 3) := by decide +kernel
theorem dX9_next_96 : decode cX9_next 96 = .ok (.aload_n 0, 1) := by decide +kernel
theorem dX9_next_97 : decode cX9_next 97 = .ok (.aload_n 0, 1) := by decide +kernel
theorem dX9_next_98 : decode cX9_next 98 = .ok (.getfield 137, 3) := by decide +kernel
theorem dX9_next_101 : decode cX9_next 101 = .ok (.bipush (-9), 2) := by decide +kernel
theorem dX9_next_103 : decode cX9_next 103 = .ok (.if_icmp .ne 7, 3) := by decide +kernel
theorem dX9_next_106 : decode cX9_next 106 = .ok (.iconst 5, 1) := by decide +kernel
theorem dX9_next_107 : decode cX9_next 107 = .ok (.goto 4, 3) := by decide +kernel
theorem dX9_next_110 : decode cX9_next 110 = .ok (.iconst 1, 1) := by decide +kernel
theorem dX9_next_111 : decode cX9_next 111 = .ok (.putfield 140, 3) := by decide +kernel
theorem dX9_next_114 : decode cX9_next 114 = .ok (.goto 166, 3) := by decide +kernel
theorem dX9_next_117 : decode cX9_next 117 = .ok (.iload_n 1, 1) := by decide +kernel
theorem dX9_next_118 : decode cX9_next 118 = .ok (.bipush 48, 2) := by decide +kernel
theorem dX9_next_120 : decode cX9_next 120 = .ok (.bipush 57, 2) := by decide +kernel
theorem dX9_next_122 : decode cX9_next 122 = .ok (.invokestatic 75, 3) := by decide +kernel
theorem dX9_next_125 : decode cX9_next 125 = .ok (.ifCond .eq 107, 3) := by decide +kernel
theorem dX9_next_128 : decode cX9_next 128 = .ok (.aload_n 0, 1) := by decide +kernel
theorem dX9_next_129 : decode cX9_next 129 = .ok (.invokevirtual 100, 3) := by decide +kernel
theorem dX9_next_132 : decode cX9_next 132 = .ok (.bipush 48, 2) := by decide +kernel
theorem dX9_next_134 : decode cX9_next 134 = .ok (.bipush 57, 2) := by decide +kernel
theorem dX9_next_136 : decode cX9_next 136 = .ok (.invokestatic 75, 3) := by decide +kernel
theorem dX9_next_139 : decode cX9_next 139 = .ok (.ifCond .eq 52, 3) := by decide +kernel
theorem dX9_next_142 : decode cX9_next 142 = .ok (.aload_n 0, 1) := by decide +kernel
theorem dX9_next_143 : decode cX9_next 143 = .ok (.aload_n 0, 1) := by decide +kernel
theorem dX9_next_144 : decode cX9_next 144 = .ok (.getfield 137, 3) := by decide +kernel
theorem dX9_next_147 : decode cX9_next 147 = .ok (.sipush 255, 3) := by decide +kernel
theorem dX9_next_150 : decode cX9_next 150 = .ok (.if_icmp .le 10, 3) := by decide +kernel
theorem dX9_next_153 : decode cX9_next 153 = .ok (.aload_n 0, 1) := by decide +kernel
theorem dX9_next_154 : decode cX9_next 154 = .ok (.getfield 137, 3) := by decide +kernel
theorem dX9_next_157 : decode cX9_next 157 = .ok (.goto 18, 3) := by decide +kernel
theorem dX9_next_160 : decode cX9_next 160 = .ok (.bipush 10, 2) := by decide +kernel
theorem dX9_next_162 : decode cX9_next 162 = .ok (.aload_n 0, 1) := by decide +kernel
theorem dX9_next_163 : decode cX9_next 163 = .ok (.getfield 137, 3) := by decide +kernel
theorem dX9_next_166 : decode cX9_next 166 = .ok (.imul, 1) := by decide +kernel
theorem dX9_next_167 : decode cX9_next 167 = .ok (.aload_n 0, 1) := by decide +kernel
theorem dX9_next_168 : decode cX9_next 168 = .ok (.invokevirtual 100, 3) := by decide +kernel
theorem dX9_next_171 : decode cX9_next 171 = .ok (.iadd, 1) := by decide +kernel
theorem dX9_next_172 : decode cX9_next 172 = .ok (.bipush 48, 2) := by decide +kernel
theorem dX9_next_174 : decode cX9_next 174 = .ok (.isub, 1) := by decide +kernel
theorem dX9_next_175 : decode cX9_next 175 = .ok (.putfield 137, 3) := by decide +kernel
theorem dX9_next_178 : decode cX9_next 178 = .ok (.aload_n 0, 1) := by decide +kernel
theorem dX9_next_179 : decode cX9_next 179 = .ok (.dup, 1) := by decide +kernel
theorem dX9_next_180 : decode cX9_next 180 = .ok (.getfield 88, 3) := by decide +kernel
theorem dX9_next_183 : decode cX9_next 183 = .ok (.iconst 1, 1) := by decide +kernel
theorem dX9_next_184 : decode cX9_next 184 = .ok (.iadd, 1) := by decide +kernel
theorem dX9_next_185 : decode cX9_next 185 = .ok (.putfield 88, 3) := by decide +kernel
theorem dX9_next_188 : decode cX9_next 188 = .ok (.goto (-60), 3) := by decide +kernel
theorem dX9_next_191 : decode cX9_next 191 = .ok (.aload_n 0, 1) := by decide +kernel
theorem dX9_next_192 : decode cX9_next 192 = .ok (.aload_n 0, 1) := by decide +kernel
theorem dX9_next_193 : decode cX9_next 193 = .ok (.getfield 137, 3) := by decide +kernel
theorem dX9_next_196 : decode cX9_next 196 = .ok (.sipush 255, 3) := by decide +kernel
theorem dX9_next_199 : decode cX9_next 199 = .ok (.if_icmp .gt 22, 3) := by decide +kernel
theorem dX9_next_202 : decode cX9_next 202 = .ok (.iload_n 1, 1) := by decide +kernel
theorem dX9_next_203 : decode cX9_next 203 = .ok (.bipush 48, 2) := by decide +kernel
theorem dX9_next_205 : decode cX9_next 205 = .ok (.if_icmp .ne 20, 3) := by decide +kernel
theorem dX9_next_208 : decode cX9_next 208 = .ok (.aload_n 0, 1) := by decide +kernel
theorem dX9_next_209 : decode cX9_next 209 = .ok (.getfield 88, 3) := by decide +kernel
theorem dX9_next_212 : decode cX9_next 212 = .ok (.aload_n 0, 1) := by decide +kernel
theorem dX9_next_213 : decode cX9_next 213 = .ok (.getfield 134, 3) := by decide +kernel
theorem dX9_next_216 : decode cX9_next 216 = .ok (.isub, 1) := by decide +kernel
theorem dX9_next_217 : decode cX9_next 217 = .ok (.iconst 1, 1) := by decide +kernel
theorem dX9_next_218 : decode cX9_next 218 = .ok (.if_icmp .le 7, 3) := by decide +kernel
theorem dX9_next_221 : decode cX9_next 221 = .ok (.iconst 5, 1) := by decide +kernel
theorem dX9_next_222 : decode cX9_next 222 = .ok (.goto 4, 3) := by decide +kernel
theorem dX9_next_225 : decode cX9_next 225 = .ok (.iconst 3, 1) := by decide +kernel
theorem dX9_next_226 : decode cX9_next 226 = .ok (.putfield 140, 3) := by decide +kernel
theorem dX9_next_229 : decode cX9_next 229 = .ok (.goto 51, 3) := by decide +kernel
theorem dX9_next_232 : decode cX9_next 232 = .ok (.aload_n 0, 1) := by decide +kernel
theorem dX9_next_233 : decode cX9_next 233 = .ok (.dup, 1) := by decide +kernel
theorem dX9_next_234 : decode cX9_next 234 = .ok (.getfield 88, 3) := by decide +kernel
theorem dX9_next_237 : decode cX9_next 237 = .ok (.iconst 1, 1) := by decide +kernel
theorem dX9_next_238 : decode cX9_next 238 = .ok (.iadd, 1) := by decide +kernel
theorem dX9_next_239 : decode cX9_next 239 = .ok (.putfield 88, 3) := by decide +kernel
theorem dX9_next_242 : decode cX9_next 242 = .ok (.aload_n 0, 1) := by decide +kernel
theorem dX9_next_243 : decode cX9_next 243 = .ok (.iload_n 1, 1) := by decide +kernel
theorem dX9_next_244 : decode cX9_next 244 = .ok (.bipush 65, 2) := by decide +kernel
theorem dX9_next_246 : decode cX9_next 246 = .ok (.isub, 1) := by decide +kernel
theorem dX9_next_247 : decode cX9_next 247 = .ok (.putfield 137, 3) := by decide +kernel
theorem dX9_next_250 : decode cX9_next 250 = .ok (.aload_n 0, 1) := by decide +kernel
theorem dX9_next_251 : decode cX9_next 251 = .ok (.iload_n 1, 1) := by decide +kernel
theorem dX9_next_252 : decode cX9_next 252 = .ok (.bipush 65, 2) := by decide +kernel
theorem dX9_next_254 : decode cX9_next 254 = .ok (.bipush 90, 2) := by decide +kernel
theorem dX9_next_256 : decode cX9_next 256 = .ok (.invokestatic 75, 3) := by decide +kernel
theorem dX9_next_259 : decode cX9_next 259 = .ok (.ifCond .eq 7, 3) := by decide +kernel
theorem dX9_next_262 : decode cX9_next 262 = .ok (.iconst 2, 1) := by decide +kernel
theorem dX9_next_263 : decode cX9_next 263 = .ok (.goto 14, 3) := by decide +kernel
theorem dX9_next_266 : decode cX9_next 266 = .ok (.iload_n 1, 1) := by decide +kernel
theorem dX9_next_267 : decode cX9_next 267 = .ok (.bipush 58, 2) := by decide +kernel
theorem dX9_next_269 : decode cX9_next 269 = .ok (.if_icmp .ne 7, 3) := by decide +kernel
theorem dX9_next_272 : decode cX9_next 272 = .ok (.iconst 4, 1) := by decide +kernel
theorem dX9_next_273 : decode cX9_next 273 = .ok (.goto 4, 3) := by decide +kernel
theorem dX9_next_276 : decode cX9_next 276 = .ok (.iconst 5, 1) := by decide +kernel
theorem dX9_next_277 : decode cX9_next 277 = .ok (.putfield 140, 3) := by decide +kernel
theorem dX9_next_280 : decode cX9_next 280 = .ok (.return_, 1) := by decide +kernel
theorem dX9_due_0 : decode cX9_due 0 = .ok (.aload_n 0, 1) := by decide +kernel
theorem dX9_due_1 : decode cX9_due 1 = .ok (.getfield 137, 3) := by decide +kernel
theorem dX9_due_4 : decode cX9_due 4 = .ok (.istore_n 2, 1) := by decide +kernel
theorem dX9_due_5 : decode cX9_due 5 = .ok (.aload_n 0, 1) := by decide +kernel
theorem dX9_due_6 : decode cX9_due 6 = .ok (.getfield 97, 3) := by decide +kernel
theorem dX9_due_9 : decode cX9_due 9 = .ok (.bipush (-9), 2) := by decide +kernel
theorem dX9_due_11 : decode cX9_due 11 = .ok (.if_icmp .ne 22, 3) := by decide +kernel
theorem dX9_due_14 : decode cX9_due 14 = .ok (.iload_n 1, 1) := by decide +kernel
theorem dX9_due_15 : decode cX9_due 15 = .ok (.ifCond .eq 10, 3) := by decide +kernel
theorem dX9_due_18 : decode cX9_due 18 = .ok (.aload_n 0, 1) := by decide +kernel
theorem dX9_due_19 : decode cX9_due 19 = .ok (.invokevirtual 147, 3) := by decide +kernel
theorem dX9_due_22 : decode cX9_due 22 = .ok (.goto 11, 3) := by decide +kernel
theorem dX9_due_25 : decode cX9_due 25 = .ok (.aload_n 0, 1) := by decide +kernel
theorem dX9_due_26 : decode cX9_due 26 = .ok (.aload_n 0, 1) := by decide +kernel
theorem dX9_due_27 : decode cX9_due 27 = .ok (.getfield 134, 3) := by decide +kernel
theorem dX9_due_30 : decode cX9_due 30 = .ok (.putfield 97, 3) := by decide +kernel
theorem dX9_due_33 : decode cX9_due 33 = .ok (.iload_n 2, 1) := by decide +kernel
theorem dX9_due_34 : decode cX9_due 34 = .ok (.ireturn, 1) := by decide +kernel
theorem dX9_readNames_0 : decode cX9_readNames 0 = .ok (.aload_n 0, 1) := by decide +kernel
theorem dX9_readNames_1 : decode cX9_readNames 1 = .ok (.iload_n 1, 1) := by decide +kernel
theorem dX9_readNames_2 : decode cX9_readNames 2 = .ok (.invokevirtual 104, 3) := by decide +kernel
theorem dX9_readNames_5 : decode cX9_readNames 5 = .ok (.aload_n 0, 1) := by decide +kernel
theorem dX9_readNames_6 : decode cX9_readNames 6 = .ok (.getfield 26, 3) := by decide +kernel
theorem dX9_readNames_9 : decode cX9_readNames 9 = .ok (.iload_n 2, 1) := by decide +kernel
theorem dX9_readNames_10 : decode cX9_readNames 10 = .ok (.iconst 0, 1) := by decide +kernel
theorem dX9_readNames_11 : decode cX9_readNames 11 = .ok (.iastore, 1) := by decide +kernel
theorem dX9_readNames_12 : decode cX9_readNames 12 = .ok (.iconst 0, 1) := by decide +kernel
theorem dX9_readNames_13 : decode cX9_readNames 13 = .ok (.istore_n 3, 1) := by decide +kernel
theorem dX9_readNames_14 : decode cX9_readNames 14 = .ok (.iload_n 3, 1) := by decide +kernel
theorem dX9_readNames_15 : decode cX9_readNames 15 = .ok (.bipush 26, 2) := by decide +kernel
theorem dX9_readNames_17 : decode cX9_readNames 17 = .ok (.if_icmp .ge 17, 3) := by decide +kernel
theorem dX9_readNames_20 : decode cX9_readNames 20 = .ok (.aload_n 0, 1) := by decide +kernel
theorem dX9_readNames_21 : decode cX9_readNames 21 = .ok (.getfield 41, 3) := by decide +kernel
theorem dX9_readNames_24 : decode cX9_readNames 24 = .ok (.iload_n 3, 1) := by decide +kernel
theorem dX9_readNames_25 : decode cX9_readNames 25 = .ok (.bipush (-9), 2) := by decide +kernel
theorem dX9_readNames_27 : decode cX9_readNames 27 = .ok (.iastore, 1) := by decide +kernel
theorem dX9_readNames_28 : decode cX9_readNames 28 = .ok (.iinc 3 1, 3) := by decide +kernel
theorem dX9_readNames_31 : decode cX9_readNames 31 = .ok (.goto (-17), 3) := by decide +kernel
theorem dX9_readNames_34 : decode cX9_readNames 34 = .ok (.aload_n 0, 1) := by decide +kernel
theorem dX9_readNames_35 : decode cX9_readNames 35 = .ok (.invokevirtual 147, 3) := by decide +kernel
theorem dX9_readNames_38 : decode cX9_readNames 38 = .ok (.aload_n 0, 1) := by decide +kernel
theorem dX9_readNames_39 : decode cX9_readNames 39 = .ok (.getfield 97, 3) := by decide +kernel
theorem dX9_readNames_42 : decode cX9_readNames 42 = .ok (.bipush (-9), 2) := by decide +kernel
theorem dX9_readNames_44 : decode cX9_readNames 44 = .ok (.if_icmp .ne 243, 3) := by decide +kernel
theorem dX9_readNames_47 : decode cX9_readNames 47 = .ok (.aload_n 0, 1) := by decide +kernel
theorem dX9_readNames_48 : decode cX9_readNames 48 = .ok (.getfield 140, 3) := by decide +kernel
theorem dX9_readNames_51 : decode cX9_readNames 51 = .ok (.ifCond .eq 236, 3) := by decide +kernel
theorem dX9_readNames_54 : decode cX9_readNames 54 = .ok (.aload_n 0, 1) := by decide +kernel
theorem dX9_readNames_55 : decode cX9_readNames 55 = .ok (.getfield 140, 3) := by decide +kernel
theorem dX9_readNames_58 : decode cX9_readNames 58 = .ok (.iconst 2, 1) := by decide +kernel
theorem dX9_readNames_59 : decode cX9_readNames 59 = .ok (.if_icmp .ne 80, 3) := by decide +kernel
theorem dX9_readNames_62 : decode cX9_readNames 62 = .ok (.aload_n 0, 1) := by decide +kernel
theorem dX9_readNames_63 : decode cX9_readNames 63 = .ok (.aload_n 0, 1) := by decide +kernel
theorem dX9_readNames_64 : decode cX9_readNames 64 = .ok (.getfield 41, 3) := by decide +kernel
theorem dX9_readNames_67 : decode cX9_readNames 67 = .ok (.aload_n 0, 1) := by decide +kernel
theorem dX9_readNames_68 : decode cX9_readNames 68 = .ok (.getfield 137, 3) := by decide +kernel
theorem dX9_readNames_71 : decode cX9_readNames 71 = .ok (.iaload, 1) := by decide +kernel
theorem dX9_readNames_72 : decode cX9_readNames 72 = .ok (.bipush (-9), 2) := by decide +kernel
theorem dX9_readNames_74 : decode cX9_readNames 74 = .ok (.if_icmp .ne 7, 3) := by decide +kernel
theorem dX9_readNames_77 : decode cX9_readNames 77 = .ok (.iconst 1, 1) := by decide +kernel
theorem dX9_readNames_78 : decode cX9_readNames 78 = .ok (.goto 4, 3) := by decide +kernel
theorem dX9_readNames_81 : decode cX9_readNames 81 = .ok (.iconst 0, 1) := by decide +kernel
theorem dX9_readNames_82 : decode cX9_readNames 82 = .ok (.invokevirtual 150, 3) := by decide +kernel
theorem dX9_readNames_85 : decode cX9_readNames 85 = .ok (.istore_n 3, 1) := by decide +kernel
theorem dX9_readNames_86 : decode cX9_readNames 86 = .ok (.aload_n 0, 1) := by decide +kernel
theorem dX9_readNames_87 : decode cX9_readNames 87 = .ok (.aload_n 0, 1) := by decide +kernel
theorem dX9_readNames_88 : decode cX9_readNames 88 = .ok (.getfield 140, 3) := by decide +kernel
theorem dX9_readNames_91 : decode cX9_readNames 91 = .ok (.iconst 4, 1) := by decide +kernel
theorem dX9_readNames_92 : decode cX9_readNames 92 = .ok (.if_icmp .ne 18, 3) := by decide +kernel
theorem dX9_readNames_95 : decode cX9_readNames 95 = .ok (.aload_n 0, 1) := by decide +kernel
theorem dX9_readNames_96 : decode cX9_readNames 96 = .ok (.getfield 134, 3) := by decide +kernel
theorem dX9_readNames_99 : decode cX9_readNames 99 = .ok (.aload_n 0, 1) := by decide +kernel
theorem dX9_readNames_100 : decode cX9_readNames 100 = .ok (.getfield 131, 3) := by decide +kernel
theorem dX9_readNames_103 : decode cX9_readNames 103 = .ok (.if_icmp .ne 7, 3) := by decide +kernel
theorem dX9_readNames_106 : decode cX9_readNames 106 = .ok (.iconst 1, 1) := by decide +kernel
theorem dX9_readNames_107 : decode cX9_readNames 107 = .ok (.goto 4, 3) := by decide +kernel
theorem dX9_readNames_110 : decode cX9_readNames 110 = .ok (.iconst 0, 1) := by decide +kernel
theorem dX9_readNames_111 : decode cX9_readNames 111 = .ok (.invokevirtual 150, 3) := by decide +kernel
theorem dX9_readNames_114 : decode cX9_readNames 114 = .ok (.pop, 1) := by decide +kernel
theorem dX9_readNames_115 : decode cX9_readNames 115 = .ok (.aload_n 0, 1) := by decide +kernel
theorem dX9_readNames_116 : decode cX9_readNames 116 = .ok (.getfield 97, 3) := by decide +kernel
theorem dX9_readNames_119 : decode cX9_readNames 119 = .ok (.bipush (-9), 2) := by decide +kernel
theorem dX9_readNames_121 : decode cX9_readNames 121 = .ok (.if_icmp .ne 15, 3) := by decide +kernel
theorem dX9_readNames_124 : decode cX9_readNames 124 = .ok (.aload_n 0, 1) := by decide +kernel
theorem dX9_readNames_125 : decode cX9_readNames 125 = .ok (.getfield 41, 3) := by decide +kernel
theorem dX9_readNames_128 : decode cX9_readNames 128 = .ok (.iload_n 3, 1) := by decide +kernel
theorem dX9_readNames_129 : decode cX9_readNames 129 = .ok (.aload_n 0, 1) := by decide +kernel
theorem dX9_readNames_130 : decode cX9_readNames 130 = .ok (.getfield 26, 3) := by decide +kernel
theorem dX9_readNames_133 : decode cX9_readNames 133 = .ok (.iload_n 2, 1) := by decide +kernel
theorem dX9_readNames_134 : decode cX9_readNames 134 = .ok (.iaload, 1) := by decide +kernel
end
section
theorem dX9_readNames_135 : decode cX9_readNames 135 = .ok (.iastore, 1) := by decide +kernel
theorem dX9_readNames_136 : decode cX9_readNames 136 = .ok (.goto (-98), 3) := by decide +kernel
theorem dX9_readNames_139 : decode cX9_readNames 139 = .ok (.aload_n 0, 1) := by decide +kernel
theorem dX9_readNames_140 : decode cX9_readNames 140 = .ok (.getfield 134, 3) := by decide +kernel
theorem dX9_readNames_143 : decode cX9_readNames 143 = .ok (.istore_n 3, 1) := by decide +kernel
theorem dX9_readNames_144 : decode cX9_readNames 144 = .ok (.aload_n 0, 1) := by decide +kernel
theorem dX9_readNames_145 : decode cX9_readNames 145 = .ok (.aload_n 0, 1) := by decide +kernel
theorem dX9_readNames_146 : decode cX9_readNames 146 = .ok (.getfield 140, 3) := by decide +kernel
theorem dX9_readNames_149 : decode cX9_readNames 149 = .ok (.iconst 1, 1) := by decide +kernel
theorem dX9_readNames_150 : decode cX9_readNames 150 = .ok (.if_icmp .ne 7, 3) := by decide +kernel
theorem dX9_readNames_153 : decode cX9_readNames 153 = .ok (.iconst 1, 1) := by decide +kernel
theorem dX9_readNames_154 : decode cX9_readNames 154 = .ok (.goto 4, 3) := by decide +kernel
theorem dX9_readNames_157 : decode cX9_readNames 157 = .ok (.iconst 0, 1) := by decide +kernel
theorem dX9_readNames_158 : decode cX9_readNames 158 = .ok (.invokevirtual 150, 3) := by decide +kernel
theorem dX9_readNames_161 : decode cX9_readNames 161 = .ok (.istore 4, 2) := by decide +kernel
theorem dX9_readNames_163 : decode cX9_readNames 163 = .ok (.aload_n 0, 1) := by decide +kernel
theorem dX9_readNames_164 : decode cX9_readNames 164 = .ok (.getfield 97, 3) := by decide +kernel
theorem dX9_readNames_167 : decode cX9_readNames 167 = .ok (.bipush (-9), 2) := by decide +kernel
theorem dX9_readNames_169 : decode cX9_readNames 169 = .ok (.if_icmp .ne 18, 3) := by decide +kernel
theorem dX9_readNames_172 : decode cX9_readNames 172 = .ok (.iload 4, 2) := by decide +kernel
theorem dX9_readNames_174 : decode cX9_readNames 174 = .ok (.bipush 16, 2) := by decide +kernel
theorem dX9_readNames_176 : decode cX9_readNames 176 = .ok (.if_icmp .ge 11, 3) := by decide +kernel
theorem dX9_readNames_179 : decode cX9_readNames 179 = .ok (.aload_n 0, 1) := by decide +kernel
theorem dX9_readNames_180 : decode cX9_readNames 180 = .ok (.iload_n 2, 1) := by decide +kernel
theorem dX9_readNames_181 : decode cX9_readNames 181 = .ok (.iload 4, 2) := by decide +kernel
theorem dX9_readNames_183 : decode cX9_readNames 183 = .ok (.iload_n 3, 1) := by decide +kernel
theorem dX9_readNames_184 : decode cX9_readNames 184 = .ok (.invokevirtual 115, 3) := by decide +kernel
theorem dX9_readNames_187 : decode cX9_readNames 187 = .ok (.aload_n 0, 1) := by decide +kernel
theorem dX9_readNames_188 : decode cX9_readNames 188 = .ok (.getfield 97, 3) := by decide +kernel
theorem dX9_readNames_191 : decode cX9_readNames 191 = .ok (.bipush (-9), 2) := by decide +kernel
theorem dX9_readNames_193 : decode cX9_readNames 193 = .ok (.if_icmp .ne 91, 3) := by decide +kernel
theorem dX9_readNames_196 : decode cX9_readNames 196 = .ok (.iload 4, 2) := by decide +kernel
theorem dX9_readNames_198 : decode cX9_readNames 198 = .ok (.bipush 16, 2) := by decide +kernel
theorem dX9_readNames_200 : decode cX9_readNames 200 = .ok (.if_icmp .eq 11, 3) := by decide +kernel
theorem dX9_readNames_203 : decode cX9_readNames 203 = .ok (.iload 4, 2) := by decide +kernel
theorem dX9_readNames_205 : decode cX9_readNames 205 = .ok (.invokestatic 154, 3) := by decide +kernel
theorem dX9_readNames_208 : decode cX9_readNames 208 = .ok (.ifCond .eq 76, 3) := by decide +kernel
theorem dX9_readNames_211 : decode cX9_readNames 211 = .ok (.aload_n 0, 1) := by decide +kernel
theorem dX9_readNames_212 : decode cX9_readNames 212 = .ok (.getfield 134, 3) := by decide +kernel
theorem dX9_readNames_215 : decode cX9_readNames 215 = .ok (.istore_n 3, 1) := by decide +kernel
theorem dX9_readNames_216 : decode cX9_readNames 216 = .ok (.aload_n 0, 1) := by decide +kernel
theorem dX9_readNames_217 : decode cX9_readNames 217 = .ok (.getfield 140, 3) := by decide +kernel
theorem dX9_readNames_220 : decode cX9_readNames 220 = .ok (.iconst 2, 1) := by decide +kernel
theorem dX9_readNames_221 : decode cX9_readNames 221 = .ok (.if_icmp .ne 7, 3) := by decide +kernel
theorem dX9_readNames_224 : decode cX9_readNames 224 = .ok (.iconst 1, 1) := by decide +kernel
theorem dX9_readNames_225 : decode cX9_readNames 225 = .ok (.goto 4, 3) := by decide +kernel
theorem dX9_readNames_228 : decode cX9_readNames 228 = .ok (.iconst 0, 1) := by decide +kernel
theorem dX9_readNames_229 : decode cX9_readNames 229 = .ok (.istore 5, 2) := by decide +kernel
theorem dX9_readNames_231 : decode cX9_readNames 231 = .ok (.aload_n 0, 1) := by decide +kernel
theorem dX9_readNames_232 : decode cX9_readNames 232 = .ok (.iload 5, 2) := by decide +kernel
theorem dX9_readNames_234 : decode cX9_readNames 234 = .ok (.ifCond .ne 11, 3) := by decide +kernel
theorem dX9_readNames_237 : decode cX9_readNames 237 = .ok (.aload_n 0, 1) := by decide +kernel
theorem dX9_readNames_238 : decode cX9_readNames 238 = .ok (.getfield 140, 3) := by decide +kernel
theorem dX9_readNames_241 : decode cX9_readNames 241 = .ok (.iconst 3, 1) := by decide +kernel
theorem dX9_readNames_242 : decode cX9_readNames 242 = .ok (.if_icmp .ne 7, 3) := by decide +kernel
theorem dX9_readNames_245 : decode cX9_readNames 245 = .ok (.iconst 1, 1) := by decide +kernel
theorem dX9_readNames_246 : decode cX9_readNames 246 = .ok (.goto 4, 3) := by decide +kernel
theorem dX9_readNames_249 : decode cX9_readNames 249 = .ok (.iconst 0, 1) := by decide +kernel
theorem dX9_readNames_250 : decode cX9_readNames 250 = .ok (.invokevirtual 150, 3) := by decide +kernel
theorem dX9_readNames_253 : decode cX9_readNames 253 = .ok (.istore 6, 2) := by decide +kernel
theorem dX9_readNames_255 : decode cX9_readNames 255 = .ok (.aload_n 0, 1) := by decide +kernel
theorem dX9_readNames_256 : decode cX9_readNames 256 = .ok (.getfield 97, 3) := by decide +kernel
theorem dX9_readNames_259 : decode cX9_readNames 259 = .ok (.bipush (-9), 2) := by decide +kernel
theorem dX9_readNames_261 : decode cX9_readNames 261 = .ok (.if_icmp .ne 23, 3) := by decide +kernel
theorem dX9_readNames_264 : decode cX9_readNames 264 = .ok (.aload_n 0, 1) := by decide +kernel
theorem dX9_readNames_265 : decode cX9_readNames 265 = .ok (.iload_n 2, 1) := by decide +kernel
theorem dX9_readNames_266 : decode cX9_readNames 266 = .ok (.iload 5, 2) := by decide +kernel
theorem dX9_readNames_268 : decode cX9_readNames 268 = .ok (.ifCond .eq 10, 3) := by decide +kernel
theorem dX9_readNames_271 : decode cX9_readNames 271 = .ok (.iconst (-1), 1) := by decide +kernel
theorem dX9_readNames_272 : decode cX9_readNames 272 = .ok (.iload 6, 2) := by decide +kernel
theorem dX9_readNames_274 : decode cX9_readNames 274 = .ok (.isub, 1) := by decide +kernel
theorem dX9_readNames_275 : decode cX9_readNames 275 = .ok (.goto 5, 3) := by decide +kernel
theorem dX9_readNames_278 : decode cX9_readNames 278 = .ok (.iload 6, 2) := by decide +kernel
theorem dX9_readNames_280 : decode cX9_readNames 280 = .ok (.iload_n 3, 1) := by decide +kernel
theorem dX9_readNames_281 : decode cX9_readNames 281 = .ok (.invokevirtual 115, 3) := by decide +kernel
theorem dX9_readNames_284 : decode cX9_readNames 284 = .ok (.goto (-246), 3) := by decide +kernel
theorem dX9_readNames_287 : decode cX9_readNames 287 = .ok (.aload_n 0, 1) := by decide +kernel
theorem dX9_readNames_288 : decode cX9_readNames 288 = .ok (.getfield 97, 3) := by decide +kernel
theorem dX9_readNames_291 : decode cX9_readNames 291 = .ok (.bipush (-9), 2) := by decide +kernel
theorem dX9_readNames_293 : decode cX9_readNames 293 = .ok (.if_icmp .ne 12, 3) := by decide +kernel
theorem dX9_readNames_296 : decode cX9_readNames 296 = .ok (.aload_n 0, 1) := by decide +kernel
theorem dX9_readNames_297 : decode cX9_readNames 297 = .ok (.getfield 26, 3) := by decide +kernel
theorem dX9_readNames_300 : decode cX9_readNames 300 = .ok (.iload_n 2, 1) := by decide +kernel
theorem dX9_readNames_301 : decode cX9_readNames 301 = .ok (.iaload, 1) := by decide +kernel
theorem dX9_readNames_302 : decode cX9_readNames 302 = .ok (.ifCond .ne 24, 3) := by decide +kernel
theorem dX9_readNames_305 : decode cX9_readNames 305 = .ok (.aload_n 0, 1) := by decide +kernel
theorem dX9_readNames_306 : decode cX9_readNames 306 = .ok (.getfield 97, 3) := by decide +kernel
theorem dX9_readNames_309 : decode cX9_readNames 309 = .ok (.bipush (-9), 2) := by decide +kernel
theorem dX9_readNames_311 : decode cX9_readNames 311 = .ok (.if_icmp .eq 10, 3) := by decide +kernel
theorem dX9_readNames_314 : decode cX9_readNames 314 = .ok (.aload_n 0, 1) := by decide +kernel
theorem dX9_readNames_315 : decode cX9_readNames 315 = .ok (.getfield 97, 3) := by decide +kernel
theorem dX9_readNames_318 : decode cX9_readNames 318 = .ok (.goto 7, 3) := by decide +kernel
theorem dX9_readNames_321 : decode cX9_readNames 321 = .ok (.aload_n 0, 1) := by decide +kernel
theorem dX9_readNames_322 : decode cX9_readNames 322 = .ok (.getfield 91, 3) := by decide +kernel
theorem dX9_readNames_325 : decode cX9_readNames 325 = .ok (.ireturn, 1) := by decide +kernel
theorem dX9_readNames_326 : decode cX9_readNames 326 = .ok (.iconst 0, 1) := by decide +kernel
theorem dX9_readNames_327 : decode cX9_readNames 327 = .ok (.istore_n 3, 1) := by decide +kernel
theorem dX9_readNames_328 : decode cX9_readNames 328 = .ok (.iload_n 3, 1) := by decide +kernel
theorem dX9_readNames_329 : decode cX9_readNames 329 = .ok (.aload_n 0, 1) := by decide +kernel
theorem dX9_readNames_330 : decode cX9_readNames 330 = .ok (.getfield 26, 3) := by decide +kernel
theorem dX9_readNames_333 : decode cX9_readNames 333 = .ok (.iload_n 2, 1) := by decide +kernel
theorem dX9_readNames_334 : decode cX9_readNames 334 = .ok (.iaload, 1) := by decide +kernel
theorem dX9_readNames_335 : decode cX9_readNames 335 = .ok (.if_icmp .ge 76, 3) := by decide +kernel
theorem dX9_readNames_338 : decode cX9_readNames 338 = .ok (.aload_n 0, 1) := by decide +kernel
theorem dX9_readNames_339 : decode cX9_readNames 339 = .ok (.getfield 20, 3) := by decide +kernel
theorem dX9_readNames_342 : decode cX9_readNames 342 = .ok (.sipush 256, 3) := by decide +kernel
theorem dX9_readNames_345 : decode cX9_readNames 345 = .ok (.iload_n 2, 1) := by decide +kernel
theorem dX9_readNames_346 : decode cX9_readNames 346 = .ok (.imul, 1) := by decide +kernel
theorem dX9_readNames_347 : decode cX9_readNames 347 = .ok (.iload_n 3, 1) := by decide +kernel
theorem dX9_readNames_348 : decode cX9_readNames 348 = .ok (.iadd, 1) := by decide +kernel
theorem dX9_readNames_349 : decode cX9_readNames 349 = .ok (.iaload, 1) := by decide +kernel
theorem dX9_readNames_350 : decode cX9_readNames 350 = .ok (.istore 4, 2) := by decide +kernel
theorem dX9_readNames_352 : decode cX9_readNames 352 = .ok (.iload 4, 2) := by decide +kernel
theorem dX9_readNames_354 : decode cX9_readNames 354 = .ok (.ifCond .ge 51, 3) := by decide +kernel
theorem dX9_readNames_357 : decode cX9_readNames 357 = .ok (.aload_n 0, 1) := by decide +kernel
theorem dX9_readNames_358 : decode cX9_readNames 358 = .ok (.getfield 41, 3) := by decide +kernel
theorem dX9_readNames_361 : decode cX9_readNames 361 = .ok (.iconst (-1), 1) := by decide +kernel
theorem dX9_readNames_362 : decode cX9_readNames 362 = .ok (.iload 4, 2) := by decide +kernel
theorem dX9_readNames_364 : decode cX9_readNames 364 = .ok (.isub, 1) := by decide +kernel
theorem dX9_readNames_365 : decode cX9_readNames 365 = .ok (.iaload, 1) := by decide +kernel
theorem dX9_readNames_366 : decode cX9_readNames 366 = .ok (.bipush (-9), 2) := by decide +kernel
theorem dX9_readNames_368 : decode cX9_readNames 368 = .ok (.if_icmp .ne 16, 3) := by decide +kernel
theorem dX9_readNames_371 : decode cX9_readNames 371 = .ok (.aload_n 0, 1) := by decide +kernel
theorem dX9_readNames_372 : decode cX9_readNames 372 = .ok (.getfield 23, 3) := by decide +kernel
theorem dX9_readNames_375 : decode cX9_readNames 375 = .ok (.sipush 256, 3) := by decide +kernel
theorem dX9_readNames_378 : decode cX9_readNames 378 = .ok (.iload_n 2, 1) := by decide +kernel
theorem dX9_readNames_379 : decode cX9_readNames 379 = .ok (.imul, 1) := by decide +kernel
theorem dX9_readNames_380 : decode cX9_readNames 380 = .ok (.iload_n 3, 1) := by decide +kernel
theorem dX9_readNames_381 : decode cX9_readNames 381 = .ok (.iadd, 1) := by decide +kernel
theorem dX9_readNames_382 : decode cX9_readNames 382 = .ok (.iaload, 1) := by decide +kernel
theorem dX9_readNames_383 : decode cX9_readNames 383 = .ok (.ireturn, 1) := by decide +kernel
theorem dX9_readNames_384 : decode cX9_readNames 384 = .ok (.aload_n 0, 1) := by decide +kernel
theorem dX9_readNames_385 : decode cX9_readNames 385 = .ok (.getfield 20, 3) := by decide +kernel
theorem dX9_readNames_388 : decode cX9_readNames 388 = .ok (.sipush 256, 3) := by decide +kernel
theorem dX9_readNames_391 : decode cX9_readNames 391 = .ok (.iload_n 2, 1) := by decide +kernel
theorem dX9_readNames_392 : decode cX9_readNames 392 = .ok (.imul, 1) := by decide +kernel
theorem dX9_readNames_393 : decode cX9_readNames 393 = .ok (.iload_n 3, 1) := by decide +kernel
theorem dX9_readNames_394 : decode cX9_readNames 394 = .ok (.iadd, 1) := by decide +kernel
theorem dX9_readNames_395 : decode cX9_readNames 395 = .ok (.aload_n 0, 1) := by decide +kernel
theorem dX9_readNames_396 : decode cX9_readNames 396 = .ok (.getfield 41, 3) := by decide +kernel
theorem dX9_readNames_399 : decode cX9_readNames 399 = .ok (.iconst (-1), 1) := by decide +kernel
theorem dX9_readNames_400 : decode cX9_readNames 400 = .ok (.iload 4, 2) := by decide +kernel
theorem dX9_readNames_402 : decode cX9_readNames 402 = .ok (.isub, 1) := by decide +kernel
theorem dX9_readNames_403 : decode cX9_readNames 403 = .ok (.iaload, 1) := by decide +kernel
theorem dX9_readNames_404 : decode cX9_readNames 404 = .ok (.iastore, 1) := by decide +kernel
theorem dX9_readNames_405 : decode cX9_readNames 405 = .ok (.iinc 3 1, 3) := by decide +kernel
theorem dX9_readNames_408 : decode cX9_readNames 408 = .ok (.goto (-80), 3) := by decide +kernel
theorem dX9_readNames_411 : decode cX9_readNames 411 = .ok (.bipush (-9), 2) := by decide +kernel
theorem dX9_readNames_413 : decode cX9_readNames 413 = .ok (.ireturn, 1) := by decide +kernel
theorem dX9_newTool_0 : decode cX9_newTool 0 = .ok (.aload_n 0, 1) := by decide +kernel
theorem dX9_newTool_1 : decode cX9_newTool 1 = .ok (.getfield 85, 3) := by decide +kernel
theorem dX9_newTool_4 : decode cX9_newTool 4 = .ok (.istore 4, 2) := by decide +kernel
theorem dX9_newTool_6 : decode cX9_newTool 6 = .ok (.aload_n 0, 1) := by decide +kernel
theorem dX9_newTool_7 : decode cX9_newTool 7 = .ok (.getfield 29, 3) := by decide +kernel
theorem dX9_newTool_10 : decode cX9_newTool 10 = .ok (.iload 4, 2) := by decide +kernel
theorem dX9_newTool_12 : decode cX9_newTool 12 = .ok (.iload_n 1, 1) := by decide +kernel
theorem dX9_newTool_13 : decode cX9_newTool 13 = .ok (.iastore, 1) := by decide +kernel
theorem dX9_newTool_14 : decode cX9_newTool 14 = .ok (.aload_n 0, 1) := by decide +kernel
theorem dX9_newTool_15 : decode cX9_newTool 15 = .ok (.getfield 32, 3) := by decide +kernel
theorem dX9_newTool_18 : decode cX9_newTool 18 = .ok (.iload 4, 2) := by decide +kernel
theorem dX9_newTool_20 : decode cX9_newTool 20 = .ok (.iload_n 2, 1) := by decide +kernel
theorem dX9_newTool_21 : decode cX9_newTool 21 = .ok (.iastore, 1) := by decide +kernel
theorem dX9_newTool_22 : decode cX9_newTool 22 = .ok (.aload_n 0, 1) := by decide +kernel
theorem dX9_newTool_23 : decode cX9_newTool 23 = .ok (.getfield 35, 3) := by decide +kernel
theorem dX9_newTool_26 : decode cX9_newTool 26 = .ok (.iload 4, 2) := by decide +kernel
theorem dX9_newTool_28 : decode cX9_newTool 28 = .ok (.iload_n 3, 1) := by decide +kernel
theorem dX9_newTool_29 : decode cX9_newTool 29 = .ok (.iastore, 1) := by decide +kernel
theorem dX9_newTool_30 : decode cX9_newTool 30 = .ok (.aload_n 0, 1) := by decide +kernel
theorem dX9_newTool_31 : decode cX9_newTool 31 = .ok (.getfield 38, 3) := by decide +kernel
theorem dX9_newTool_34 : decode cX9_newTool 34 = .ok (.iload 4, 2) := by decide +kernel
theorem dX9_newTool_36 : decode cX9_newTool 36 = .ok (.iconst 0, 1) := by decide +kernel
theorem dX9_newTool_37 : decode cX9_newTool 37 = .ok (.iastore, 1) := by decide +kernel
theorem dX9_newTool_38 : decode cX9_newTool 38 = .ok (.aload_n 0, 1) := by decide +kernel
theorem dX9_newTool_39 : decode cX9_newTool 39 = .ok (.dup, 1) := by decide +kernel
theorem dX9_newTool_40 : decode cX9_newTool 40 = .ok (.getfield 85, 3) := by decide +kernel
theorem dX9_newTool_43 : decode cX9_newTool 43 = .ok (.iconst 1, 1) := by decide +kernel
theorem dX9_newTool_44 : decode cX9_newTool 44 = .ok (.iadd, 1) := by decide +kernel
theorem dX9_newTool_45 : decode cX9_newTool 45 = .ok (.putfield 85, 3) := by decide +kernel
theorem dX9_newTool_48 : decode cX9_newTool 48 = .ok (.iload 4, 2) := by decide +kernel
theorem dX9_newTool_50 : decode cX9_newTool 50 = .ok (.ireturn, 1) := by decide +kernel
theorem dX9_copy_0 : decode cX9_copy 0 = .ok (.iconst 0, 1) := by decide +kernel
theorem dX9_copy_1 : decode cX9_copy 1 = .ok (.istore_n 3, 1) := by decide +kernel
theorem dX9_copy_2 : decode cX9_copy 2 = .ok (.iload_n 3, 1) := by decide +kernel
theorem dX9_copy_3 : decode cX9_copy 3 = .ok (.sipush 256, 3) := by decide +kernel
theorem dX9_copy_6 : decode cX9_copy 6 = .ok (.if_icmp .ge 27, 3) := by decide +kernel
theorem dX9_copy_9 : decode cX9_copy 9 = .ok (.aload_n 0, 1) := by decide +kernel
theorem dX9_copy_10 : decode cX9_copy 10 = .ok (.sipush 256, 3) := by decide +kernel
theorem dX9_copy_13 : decode cX9_copy 13 = .ok (.iload_n 2, 1) := by decide +kernel
theorem dX9_copy_14 : decode cX9_copy 14 = .ok (.imul, 1) := by decide +kernel
theorem dX9_copy_15 : decode cX9_copy 15 = .ok (.iload_n 3, 1) := by decide +kernel
theorem dX9_copy_16 : decode cX9_copy 16 = .ok (.iadd, 1) := by decide +kernel
theorem dX9_copy_17 : decode cX9_copy 17 = .ok (.aload_n 0, 1) := by decide +kernel
theorem dX9_copy_18 : decode cX9_copy 18 = .ok (.sipush 256, 3) := by decide +kernel
theorem dX9_copy_21 : decode cX9_copy 21 = .ok (.iload_n 1, 1) := by decide +kernel
theorem dX9_copy_22 : decode cX9_copy 22 = .ok (.imul, 1) := by decide +kernel
theorem dX9_copy_23 : decode cX9_copy 23 = .ok (.iload_n 3, 1) := by decide +kernel
theorem dX9_copy_24 : decode cX9_copy 24 = .ok (.iadd, 1) := by decide +kernel
theorem dX9_copy_25 : decode cX9_copy 25 = .ok (.iaload, 1) := by decide +kernel
theorem dX9_copy_26 : decode cX9_copy 26 = .ok (.iastore, 1) := by decide +kernel
theorem dX9_copy_27 : decode cX9_copy 27 = .ok (.iinc 3 1, 3) := by decide +kernel
theorem dX9_copy_30 : decode cX9_copy 30 = .ok (.goto (-28), 3) := by decide +kernel
theorem dX9_copy_33 : decode cX9_copy 33 = .ok (.return_, 1) := by decide +kernel
theorem dX9_move_0 : decode cX9_move 0 = .ok (.aload_n 0, 1) := by decide +kernel
theorem dX9_move_1 : decode cX9_move 1 = .ok (.getfield 20, 3) := by decide +kernel
theorem dX9_move_4 : decode cX9_move 4 = .ok (.iload_n 1, 1) := by decide +kernel
theorem dX9_move_5 : decode cX9_move 5 = .ok (.iload_n 2, 1) := by decide +kernel
theorem dX9_move_6 : decode cX9_move 6 = .ok (.invokestatic 157, 3) := by decide +kernel
theorem dX9_move_9 : decode cX9_move 9 = .ok (.aload_n 0, 1) := by decide +kernel
theorem dX9_move_10 : decode cX9_move 10 = .ok (.getfield 23, 3) := by decide +kernel
theorem dX9_move_13 : decode cX9_move 13 = .ok (.iload_n 1, 1) := by decide +kernel
theorem dX9_move_14 : decode cX9_move 14 = .ok (.iload_n 2, 1) := by decide +kernel
theorem dX9_move_15 : decode cX9_move 15 = .ok (.invokestatic 157, 3) := by decide +kernel
theorem dX9_move_18 : decode cX9_move 18 = .ok (.aload_n 0, 1) := by decide +kernel
theorem dX9_move_19 : decode cX9_move 19 = .ok (.getfield 26, 3) := by decide +kernel
theorem dX9_move_22 : decode cX9_move 22 = .ok (.iload_n 2, 1) := by decide +kernel
theorem dX9_move_23 : decode cX9_move 23 = .ok (.aload_n 0, 1) := by decide +kernel
theorem dX9_move_24 : decode cX9_move 24 = .ok (.getfield 26, 3) := by decide +kernel
theorem dX9_move_27 : decode cX9_move 27 = .ok (.iload_n 1, 1) := by decide +kernel
theorem dX9_move_28 : decode cX9_move 28 = .ok (.iaload, 1) := by decide +kernel
theorem dX9_move_29 : decode cX9_move 29 = .ok (.iastore, 1) := by decide +kernel
theorem dX9_move_30 : decode cX9_move 30 = .ok (.return_, 1) := by decide +kernel
theorem dX9_make_0 : decode cX9_make 0 = .ok (.iload_n 1, 1) := by decide +kernel
theorem dX9_make_1 : decode cX9_make 1 = .ok (.invokestatic 81, 3) := by decide +kernel
theorem dX9_make_4 : decode cX9_make 4 = .ok (.ifCond .ne 5, 3) := by decide +kernel
theorem dX9_make_7 : decode cX9_make 7 = .ok (.iconst (-1), 1) := by decide +kernel
theorem dX9_make_8 : decode cX9_make 8 = .ok (.ireturn, 1) := by decide +kernel
theorem dX9_make_9 : decode cX9_make 9 = .ok (.iload_n 2, 1) := by decide +kernel
theorem dX9_make_10 : decode cX9_make 10 = .ok (.ifCond .ne 13, 3) := by decide +kernel
theorem dX9_make_13 : decode cX9_make 13 = .ok (.aload_n 0, 1) := by decide +kernel
theorem dX9_make_14 : decode cX9_make 14 = .ok (.iload_n 1, 1) := by decide +kernel
theorem dX9_make_15 : decode cX9_make 15 = .ok (.bipush 12, 2) := by decide +kernel
theorem dX9_make_17 : decode cX9_make 17 = .ok (.invokevirtual 161, 3) := by decide +kernel
theorem dX9_make_20 : decode cX9_make 20 = .ok (.goto 10, 3) := by decide +kernel
theorem dX9_make_23 : decode cX9_make 23 = .ok (.aload_n 0, 1) := by decide +kernel
theorem dX9_make_24 : decode cX9_make 24 = .ok (.iload_n 1, 1) := by decide +kernel
theorem dX9_make_25 : decode cX9_make 25 = .ok (.bipush 12, 2) := by decide +kernel
theorem dX9_make_27 : decode cX9_make 27 = .ok (.invokevirtual 164, 3) := by decide +kernel
theorem dX9_make_30 : decode cX9_make 30 = .ok (.istore_n 3, 1) := by decide +kernel
theorem dX9_make_31 : decode cX9_make 31 = .ok (.iload_n 3, 1) := by decide +kernel
theorem dX9_make_32 : decode cX9_make 32 = .ok (.bipush (-9), 2) := by decide +kernel
theorem dX9_make_34 : decode cX9_make 34 = .ok (.if_icmp .eq 8, 3) := by decide +kernel
theorem dX9_make_37 : decode cX9_make 37 = .ok (.bipush (-10), 2) := by decide +kernel
theorem dX9_make_39 : decode cX9_make 39 = .ok (.iload_n 3, 1) := by decide +kernel
theorem dX9_make_40 : decode cX9_make 40 = .ok (.isub, 1) := by decide +kernel
theorem dX9_make_41 : decode cX9_make 41 = .ok (.ireturn, 1) := by decide +kernel
theorem dX9_make_42 : decode cX9_make 42 = .ok (.aload_n 0, 1) := by decide +kernel
theorem dX9_make_43 : decode cX9_make 43 = .ok (.getfield 85, 3) := by decide +kernel
theorem dX9_make_46 : decode cX9_make 46 = .ok (.bipush 12, 2) := by decide +kernel
theorem dX9_make_48 : decode cX9_make 48 = .ok (.if_icmp .ne 6, 3) := by decide +kernel
theorem dX9_make_51 : decode cX9_make 51 = .ok (.bipush (-3), 2) := by decide +kernel
theorem dX9_make_53 : decode cX9_make 53 = .ok (.ireturn, 1) := by decide +kernel
theorem dX9_make_54 : decode cX9_make 54 = .ok (.aload_n 0, 1) := by decide +kernel
theorem dX9_make_55 : decode cX9_make 55 = .ok (.bipush 12, 2) := by decide +kernel
theorem dX9_make_57 : decode cX9_make 57 = .ok (.aload_n 0, 1) := by decide +kernel
theorem dX9_make_58 : decode cX9_make 58 = .ok (.getfield 85, 3) := by decide +kernel
theorem dX9_make_61 : decode cX9_make 61 = .ok (.invokevirtual 167, 3) := by decide +kernel
theorem dX9_make_64 : decode cX9_make 64 = .ok (.aload_n 0, 1) := by decide +kernel
theorem dX9_make_65 : decode cX9_make 65 = .ok (.iload_n 2, 1) := by decide +kernel
theorem dX9_make_66 : decode cX9_make 66 = .ok (.iload_n 1, 1) := by decide +kernel
theorem dX9_make_67 : decode cX9_make 67 = .ok (.bipush (-9), 2) := by decide +kernel
theorem dX9_make_69 : decode cX9_make 69 = .ok (.invokevirtual 171, 3) := by decide +kernel
theorem dX9_make_72 : decode cX9_make 72 = .ok (.ireturn, 1) := by decide +kernel
theorem dX9_pairs_0 : decode cX9_pairs 0 = .ok (.aload_n 0, 1) := by decide +kernel
theorem dX9_pairs_1 : decode cX9_pairs 1 = .ok (.iload_n 1, 1) := by decide +kernel
theorem dX9_pairs_2 : decode cX9_pairs 2 = .ok (.iconst 0, 1) := by decide +kernel
theorem dX9_pairs_3 : decode cX9_pairs 3 = .ok (.invokevirtual 175, 3) := by decide +kernel
theorem dX9_pairs_6 : decode cX9_pairs 6 = .ok (.ireturn, 1) := by decide +kernel
theorem dX9_named_0 : decode cX9_named 0 = .ok (.aload_n 0, 1) := by decide +kernel
theorem dX9_named_1 : decode cX9_named 1 = .ok (.iload_n 1, 1) := by decide +kernel
theorem dX9_named_2 : decode cX9_named 2 = .ok (.iconst 1, 1) := by decide +kernel
theorem dX9_named_3 : decode cX9_named 3 = .ok (.invokevirtual 175, 3) := by decide +kernel
theorem dX9_named_6 : decode cX9_named 6 = .ok (.ireturn, 1) := by decide +kernel
theorem dX9_tool_0 : decode cX9_tool 0 = .ok (.aload_n 0, 1) := by decide +kernel
theorem dX9_tool_1 : decode cX9_tool 1 = .ok (.iload_n 1, 1) := by decide +kernel
theorem dX9_tool_2 : decode cX9_tool 2 = .ok (.invokevirtual 178, 3) := by decide +kernel
theorem dX9_tool_5 : decode cX9_tool 5 = .ok (.ifCond .ne 5, 3) := by decide +kernel
theorem dX9_tool_8 : decode cX9_tool 8 = .ok (.iconst (-1), 1) := by decide +kernel
theorem dX9_tool_9 : decode cX9_tool 9 = .ok (.ireturn, 1) := by decide +kernel
theorem dX9_tool_10 : decode cX9_tool 10 = .ok (.iload_n 2, 1) := by decide +kernel
theorem dX9_tool_11 : decode cX9_tool 11 = .ok (.tableswitch 68 0 4 #[33, 40, 47, 54, 61], 33) := by decide +kernel
theorem dX9_tool_44 : decode cX9_tool 44 = .ok (.aload_n 0, 1) := by decide +kernel
theorem dX9_tool_45 : decode cX9_tool 45 = .ok (.getfield 26, 3) := by decide +kernel
theorem dX9_tool_48 : decode cX9_tool 48 = .ok (.iload_n 1, 1) := by decide +kernel
theorem dX9_tool_49 : decode cX9_tool 49 = .ok (.iaload, 1) := by decide +kernel
theorem dX9_tool_50 : decode cX9_tool 50 = .ok (.ireturn, 1) := by decide +kernel
theorem dX9_tool_51 : decode cX9_tool 51 = .ok (.aload_n 0, 1) := by decide +kernel
theorem dX9_tool_52 : decode cX9_tool 52 = .ok (.getfield 29, 3) := by decide +kernel
theorem dX9_tool_55 : decode cX9_tool 55 = .ok (.iload_n 1, 1) := by decide +kernel
theorem dX9_tool_56 : decode cX9_tool 56 = .ok (.iaload, 1) := by decide +kernel
theorem dX9_tool_57 : decode cX9_tool 57 = .ok (.ireturn, 1) := by decide +kernel
theorem dX9_tool_58 : decode cX9_tool 58 = .ok (.aload_n 0, 1) := by decide +kernel
theorem dX9_tool_59 : decode cX9_tool 59 = .ok (.getfield 32, 3) := by decide +kernel
theorem dX9_tool_62 : decode cX9_tool 62 = .ok (.iload_n 1, 1) := by decide +kernel
theorem dX9_tool_63 : decode cX9_tool 63 = .ok (.iaload, 1) := by decide +kernel
theorem dX9_tool_64 : decode cX9_tool 64 = .ok (.ireturn, 1) := by decide +kernel
theorem dX9_tool_65 : decode cX9_tool 65 = .ok (.aload_n 0, 1) := by decide +kernel
theorem dX9_tool_66 : decode cX9_tool 66 = .ok (.getfield 35, 3) := by decide +kernel
theorem dX9_tool_69 : decode cX9_tool 69 = .ok (.iload_n 1, 1) := by decide +kernel
theorem dX9_tool_70 : decode cX9_tool 70 = .ok (.iaload, 1) := by decide +kernel
theorem dX9_tool_71 : decode cX9_tool 71 = .ok (.ireturn, 1) := by decide +kernel
theorem dX9_tool_72 : decode cX9_tool 72 = .ok (.aload_n 0, 1) := by decide +kernel
theorem dX9_tool_73 : decode cX9_tool 73 = .ok (.getfield 38, 3) := by decide +kernel
theorem dX9_tool_76 : decode cX9_tool 76 = .ok (.iload_n 1, 1) := by decide +kernel
theorem dX9_tool_77 : decode cX9_tool 77 = .ok (.iaload, 1) := by decide +kernel
theorem dX9_tool_78 : decode cX9_tool 78 = .ok (.ireturn, 1) := by decide +kernel
theorem dX9_tool_79 : decode cX9_tool 79 = .ok (.iconst (-1), 1) := by decide +kernel
theorem dX9_tool_80 : decode cX9_tool 80 = .ok (.ireturn, 1) := by decide +kernel
theorem dX9_code_0 : decode cX9_code 0 = .ok (.aload_n 0, 1) := by decide +kernel
theorem dX9_code_1 : decode cX9_code 1 = .ok (.iload_n 1, 1) := by decide +kernel
theorem dX9_code_2 : decode cX9_code 2 = .ok (.invokevirtual 178, 3) := by decide +kernel
theorem dX9_code_5 : decode cX9_code 5 = .ok (.ifCond .eq 28, 3) := by decide +kernel
theorem dX9_code_8 : decode cX9_code 8 = .ok (.iload_n 2, 1) := by decide +kernel
theorem dX9_code_9 : decode cX9_code 9 = .ok (.iconst 0, 1) := by decide +kernel
theorem dX9_code_10 : decode cX9_code 10 = .ok (.aload_n 0, 1) := by decide +kernel
theorem dX9_code_11 : decode cX9_code 11 = .ok (.getfield 26, 3) := by decide +kernel
theorem dX9_code_14 : decode cX9_code 14 = .ok (.iload_n 1, 1) := by decide +kernel
theorem dX9_code_15 : decode cX9_code 15 = .ok (.iaload, 1) := by decide +kernel
theorem dX9_code_16 : decode cX9_code 16 = .ok (.iconst 1, 1) := by decide +kernel
theorem dX9_code_17 : decode cX9_code 17 = .ok (.isub, 1) := by decide +kernel
theorem dX9_code_18 : decode cX9_code 18 = .ok (.invokestatic 75, 3) := by decide +kernel
theorem dX9_code_21 : decode cX9_code 21 = .ok (.ifCond .eq 12, 3) := by decide +kernel
theorem dX9_code_24 : decode cX9_code 24 = .ok (.iload_n 3, 1) := by decide +kernel
theorem dX9_code_25 : decode cX9_code 25 = .ok (.iconst 0, 1) := by decide +kernel
theorem dX9_code_26 : decode cX9_code 26 = .ok (.iconst 1, 1) := by decide +kernel
theorem dX9_code_27 : decode cX9_code 27 = .ok (.invokestatic 75, 3) := by decide +kernel
theorem dX9_code_30 : decode cX9_code 30 = .ok (.ifCond .ne 5, 3) := by decide +kernel
theorem dX9_code_33 : decode cX9_code 33 = .ok (.iconst (-1), 1) := by decide +kernel
theorem dX9_code_34 : decode cX9_code 34 = .ok (.ireturn, 1) := by decide +kernel
theorem dX9_code_35 : decode cX9_code 35 = .ok (.iload_n 3, 1) := by decide +kernel
theorem dX9_code_36 : decode cX9_code 36 = .ok (.ifCond .ne 18, 3) := by decide +kernel
theorem dX9_code_39 : decode cX9_code 39 = .ok (.aload_n 0, 1) := by decide +kernel
theorem dX9_code_40 : decode cX9_code 40 = .ok (.getfield 20, 3) := by decide +kernel
theorem dX9_code_43 : decode cX9_code 43 = .ok (.sipush 256, 3) := by decide +kernel
theorem dX9_code_46 : decode cX9_code 46 = .ok (.iload_n 1, 1) := by decide +kernel
theorem dX9_code_47 : decode cX9_code 47 = .ok (.imul, 1) := by decide +kernel
theorem dX9_code_48 : decode cX9_code 48 = .ok (.iload_n 2, 1) := by decide +kernel
theorem dX9_code_49 : decode cX9_code 49 = .ok (.iadd, 1) := by decide +kernel
theorem dX9_code_50 : decode cX9_code 50 = .ok (.iaload, 1) := by decide +kernel
theorem dX9_code_51 : decode cX9_code 51 = .ok (.goto 15, 3) := by decide +kernel
theorem dX9_code_54 : decode cX9_code 54 = .ok (.aload_n 0, 1) := by decide +kernel
theorem dX9_code_55 : decode cX9_code 55 = .ok (.getfield 23, 3) := by decide +kernel
theorem dX9_code_58 : decode cX9_code 58 = .ok (.sipush 256, 3) := by decide +kernel
theorem dX9_code_61 : decode cX9_code 61 = .ok (.iload_n 1, 1) := by decide +kernel
theorem dX9_code_62 : decode cX9_code 62 = .ok (.imul, 1) := by decide +kernel
theorem dX9_code_63 : decode cX9_code 63 = .ok (.iload_n 2, 1) := by decide +kernel
theorem dX9_code_64 : decode cX9_code 64 = .ok (.iadd, 1) := by decide +kernel
theorem dX9_code_65 : decode cX9_code 65 = .ok (.iaload, 1) := by decide +kernel
theorem dX9_code_66 : decode cX9_code 66 = .ok (.ireturn, 1) := by decide +kernel
theorem dX9_step_0 : decode cX9_step 0 = .ok (.aload_n 0, 1) := by decide +kernel
theorem dX9_step_1 : decode cX9_step 1 = .ok (.getfield 44, 3) := by decide +kernel
theorem dX9_step_4 : decode cX9_step 4 = .ok (.aload_n 0, 1) := by decide +kernel
theorem dX9_step_5 : decode cX9_step 5 = .ok (.getfield 181, 3) := by decide +kernel
theorem dX9_step_8 : decode cX9_step 8 = .ok (.iaload, 1) := by decide +kernel
theorem dX9_step_9 : decode cX9_step 9 = .ok (.istore_n 2, 1) := by decide +kernel
theorem dX9_step_10 : decode cX9_step 10 = .ok (.iload_n 2, 1) := by decide +kernel
theorem dX9_step_11 : decode cX9_step 11 = .ok (.bipush 15, 2) := by decide +kernel
theorem dX9_step_13 : decode cX9_step 13 = .ok (.if_icmp .le 5, 3) := by decide +kernel
theorem dX9_step_16 : decode cX9_step 16 = .ok (.iconst 1, 1) := by decide +kernel
theorem dX9_step_17 : decode cX9_step 17 = .ok (.ireturn, 1) := by decide +kernel
theorem dX9_step_18 : decode cX9_step 18 = .ok (.iload_n 2, 1) := by decide +kernel
theorem dX9_step_19 : decode cX9_step 19 = .ok (.iconst 2, 1) := by decide +kernel
theorem dX9_step_20 : decode cX9_step 20 = .ok (.if_icmp .ne 15, 3) := by decide +kernel
theorem dX9_step_23 : decode cX9_step 23 = .ok (.aload_n 0, 1) := by decide +kernel
theorem dX9_step_24 : decode cX9_step 24 = .ok (.getfield 184, 3) := by decide +kernel
theorem dX9_step_27 : decode cX9_step 27 = .ok (.sipush 256, 3) := by decide +kernel
theorem dX9_step_30 : decode cX9_step 30 = .ok (.if_icmp .ne 5, 3) := by decide +kernel
theorem dX9_step_33 : decode cX9_step 33 = .ok (.iconst 2, 1) := by decide +kernel
theorem dX9_step_34 : decode cX9_step 34 = .ok (.ireturn, 1) := by decide +kernel
theorem dX9_step_35 : decode cX9_step 35 = .ok (.aload_n 0, 1) := by decide +kernel
theorem dX9_step_36 : decode cX9_step 36 = .ok (.getfield 44, 3) := by decide +kernel
theorem dX9_step_39 : decode cX9_step 39 = .ok (.aload_n 0, 1) := by decide +kernel
theorem dX9_step_40 : decode cX9_step 40 = .ok (.getfield 181, 3) := by decide +kernel
theorem dX9_step_43 : decode cX9_step 43 = .ok (.iconst 1, 1) := by decide +kernel
theorem dX9_step_44 : decode cX9_step 44 = .ok (.iadd, 1) := by decide +kernel
theorem dX9_step_45 : decode cX9_step 45 = .ok (.sipush 255, 3) := by decide +kernel
theorem dX9_step_48 : decode cX9_step 48 = .ok (.iand, 1) := by decide +kernel
theorem dX9_step_49 : decode cX9_step 49 = .ok (.iaload, 1) := by decide +kernel
theorem dX9_step_50 : decode cX9_step 50 = .ok (.istore_n 3, 1) := by decide +kernel
theorem dX9_step_51 : decode cX9_step 51 = .ok (.aload_n 0, 1) := by decide +kernel
theorem dX9_step_52 : decode cX9_step 52 = .ok (.aload_n 0, 1) := by decide +kernel
theorem dX9_step_53 : decode cX9_step 53 = .ok (.getfield 181, 3) := by decide +kernel
theorem dX9_step_56 : decode cX9_step 56 = .ok (.iload_n 2, 1) := by decide +kernel
theorem dX9_step_57 : decode cX9_step 57 = .ok (.invokestatic 154, 3) := by decide +kernel
theorem dX9_step_60 : decode cX9_step 60 = .ok (.ifCond .eq 7, 3) := by decide +kernel
theorem dX9_step_63 : decode cX9_step 63 = .ok (.iconst 2, 1) := by decide +kernel
theorem dX9_step_64 : decode cX9_step 64 = .ok (.goto 4, 3) := by decide +kernel
theorem dX9_step_67 : decode cX9_step 67 = .ok (.iconst 1, 1) := by decide +kernel
theorem dX9_step_68 : decode cX9_step 68 = .ok (.iadd, 1) := by decide +kernel
theorem dX9_step_69 : decode cX9_step 69 = .ok (.sipush 255, 3) := by decide +kernel
theorem dX9_step_72 : decode cX9_step 72 = .ok (.iand, 1) := by decide +kernel
theorem dX9_step_73 : decode cX9_step 73 = .ok (.putfield 181, 3) := by decide +kernel
theorem dX9_step_76 : decode cX9_step 76 = .ok (.aload_n 0, 1) := by decide +kernel
theorem dX9_step_77 : decode cX9_step 77 = .ok (.dup, 1) := by decide +kernel
theorem dX9_step_78 : decode cX9_step 78 = .ok (.getfield 187, 3) := by decide +kernel
theorem dX9_step_81 : decode cX9_step 81 = .ok (.iconst 1, 1) := by decide +kernel
theorem dX9_step_82 : decode cX9_step 82 = .ok (.iadd, 1) := by decide +kernel
theorem dX9_step_83 : decode cX9_step 83 = .ok (.putfield 187, 3) := by decide +kernel
theorem dX9_step_86 : decode cX9_step 86 = .ok (.iload_n 2, 1) := by decide +kernel
theorem dX9_step_87 : decode cX9_step 87 = .ok (.tableswitch 409 0 14 #[73, 75, 166, 218, 226, 239, 252, 274, 296, 312, 328, 339, 347, 369, 392], 73) := by decide +kernel
theorem dX9_step_160 : decode cX9_step 160 = .ok (.iconst (-1), 1) := by decide +kernel
theorem dX9_step_161 : decode cX9_step 161 = .ok (.ireturn, 1) := by decide +kernel
theorem dX9_step_162 : decode cX9_step 162 = .ok (.aload_n 0, 1) := by decide +kernel
theorem dX9_step_163 : decode cX9_step 163 = .ok (.getfield 190, 3) := by decide +kernel
theorem dX9_step_166 : decode cX9_step 166 = .ok (.aload_n 0, 1) := by decide +kernel
theorem dX9_step_167 : decode cX9_step 167 = .ok (.getfield 16, 3) := by decide +kernel
theorem dX9_step_170 : decode cX9_step 170 = .ok (.iload_n 1, 1) := by decide +kernel
theorem dX9_step_171 : decode cX9_step 171 = .ok (.iaload, 1) := by decide +kernel
theorem dX9_step_172 : decode cX9_step 172 = .ok (.if_icmp .ge 7, 3) := by decide +kernel
theorem dX9_step_175 : decode cX9_step 175 = .ok (.iconst 1, 1) := by decide +kernel
theorem dX9_step_176 : decode cX9_step 176 = .ok (.goto 4, 3) := by decide +kernel
theorem dX9_step_179 : decode cX9_step 179 = .ok (.iconst 0, 1) := by decide +kernel
theorem dX9_step_180 : decode cX9_step 180 = .ok (.istore 4, 2) := by decide +kernel
theorem dX9_step_182 : decode cX9_step 182 = .ok (.aload_n 0, 1) := by decide +kernel
theorem dX9_step_183 : decode cX9_step 183 = .ok (.iload 4, 2) := by decide +kernel
theorem dX9_step_185 : decode cX9_step 185 = .ok (.ifCond .eq 25, 3) := by decide +kernel
theorem dX9_step_188 : decode cX9_step 188 = .ok (.aload_n 0, 1) := by decide +kernel
theorem dX9_step_189 : decode cX9_step 189 = .ok (.getfield 13, 3) := by decide +kernel
theorem dX9_step_192 : decode cX9_step 192 = .ok (.sipush 200, 3) := by decide +kernel
theorem dX9_step_195 : decode cX9_step 195 = .ok (.iload_n 1, 1) := by decide +kernel
theorem dX9_step_196 : decode cX9_step 196 = .ok (.imul, 1) := by decide +kernel
theorem dX9_step_197 : decode cX9_step 197 = .ok (.aload_n 0, 1) := by decide +kernel
theorem dX9_step_198 : decode cX9_step 198 = .ok (.getfield 190, 3) := by decide +kernel
theorem dX9_step_201 : decode cX9_step 201 = .ok (.iadd, 1) := by decide +kernel
theorem dX9_step_202 : decode cX9_step 202 = .ok (.baload, 1) := by decide +kernel
theorem dX9_step_203 : decode cX9_step 203 = .ok (.sipush 255, 3) := by decide +kernel
theorem dX9_step_206 : decode cX9_step 206 = .ok (.iand, 1) := by decide +kernel
theorem dX9_step_207 : decode cX9_step 207 = .ok (.goto 4, 3) := by decide +kernel
theorem dX9_step_210 : decode cX9_step 210 = .ok (.iconst 0, 1) := by decide +kernel
theorem dX9_step_211 : decode cX9_step 211 = .ok (.putfield 193, 3) := by decide +kernel
theorem dX9_step_214 : decode cX9_step 214 = .ok (.aload_n 0, 1) := by decide +kernel
theorem dX9_step_215 : decode cX9_step 215 = .ok (.dup, 1) := by decide +kernel
theorem dX9_step_216 : decode cX9_step 216 = .ok (.getfield 190, 3) := by decide +kernel
theorem dX9_step_219 : decode cX9_step 219 = .ok (.iload 4, 2) := by decide +kernel
theorem dX9_step_221 : decode cX9_step 221 = .ok (.ifCond .eq 7, 3) := by decide +kernel
theorem dX9_step_224 : decode cX9_step 224 = .ok (.iconst 1, 1) := by decide +kernel
theorem dX9_step_225 : decode cX9_step 225 = .ok (.goto 4, 3) := by decide +kernel
theorem dX9_step_228 : decode cX9_step 228 = .ok (.iconst 0, 1) := by decide +kernel
theorem dX9_step_229 : decode cX9_step 229 = .ok (.iadd, 1) := by decide +kernel
theorem dX9_step_230 : decode cX9_step 230 = .ok (.putfield 190, 3) := by decide +kernel
theorem dX9_step_233 : decode cX9_step 233 = .ok (.aload_n 0, 1) := by decide +kernel
theorem dX9_step_234 : decode cX9_step 234 = .ok (.iload 4, 2) := by decide +kernel
theorem dX9_step_236 : decode cX9_step 236 = .ok (.ifCond .eq 10, 3) := by decide +kernel
theorem dX9_step_239 : decode cX9_step 239 = .ok (.aload_n 0, 1) := by decide +kernel
theorem dX9_step_240 : decode cX9_step 240 = .ok (.getfield 196, 3) := by decide +kernel
theorem dX9_step_243 : decode cX9_step 243 = .ok (.goto 4, 3) := by decide +kernel
theorem dX9_step_246 : decode cX9_step 246 = .ok (.iconst 1, 1) := by decide +kernel
theorem dX9_step_247 : decode cX9_step 247 = .ok (.putfield 196, 3) := by decide +kernel
theorem dX9_step_250 : decode cX9_step 250 = .ok (.goto 268, 3) := by decide +kernel
theorem dX9_step_253 : decode cX9_step 253 = .ok (.aload_n 0, 1) := by decide +kernel
theorem dX9_step_254 : decode cX9_step 254 = .ok (.getfield 47, 3) := by decide +kernel
theorem dX9_step_257 : decode cX9_step 257 = .ok (.aload_n 0, 1) := by decide +kernel
theorem dX9_step_258 : decode cX9_step 258 = .ok (.getfield 184, 3) := by decide +kernel
theorem dX9_step_261 : decode cX9_step 261 = .ok (.aload_n 0, 1) := by decide +kernel
theorem dX9_step_262 : decode cX9_step 262 = .ok (.getfield 193, 3) := by decide +kernel
theorem dX9_step_265 : decode cX9_step 265 = .ok (.iastore, 1) := by decide +kernel
theorem dX9_step_266 : decode cX9_step 266 = .ok (.aload_n 0, 1) := by decide +kernel
theorem dX9_step_267 : decode cX9_step 267 = .ok (.getfield 50, 3) := by decide +kernel
theorem dX9_step_270 : decode cX9_step 270 = .ok (.aload_n 0, 1) := by decide +kernel
theorem dX9_step_271 : decode cX9_step 271 = .ok (.getfield 184, 3) := by decide +kernel
theorem dX9_step_274 : decode cX9_step 274 = .ok (.aload_n 0, 1) := by decide +kernel
theorem dX9_step_275 : decode cX9_step 275 = .ok (.getfield 190, 3) := by decide +kernel
theorem dX9_step_278 : decode cX9_step 278 = .ok (.ifCond .ne 7, 3) := by decide +kernel
theorem dX9_step_281 : decode cX9_step 281 = .ok (.iconst 0, 1) := by decide +kernel
theorem dX9_step_282 : decode cX9_step 282 = .ok (.goto 9, 3) := by decide +kernel
theorem dX9_step_285 : decode cX9_step 285 = .ok (.aload_n 0, 1) := by decide +kernel
theorem dX9_step_286 : decode cX9_step 286 = .ok (.getfield 190, 3) := by decide +kernel
theorem dX9_step_289 : decode cX9_step 289 = .ok (.iconst 1, 1) := by decide +kernel
theorem dX9_step_290 : decode cX9_step 290 = .ok (.isub, 1) := by decide +kernel
theorem dX9_step_291 : decode cX9_step 291 = .ok (.iastore, 1) := by decide +kernel
theorem dX9_step_292 : decode cX9_step 292 = .ok (.aload_n 0, 1) := by decide +kernel
theorem dX9_step_293 : decode cX9_step 293 = .ok (.dup, 1) := by decide +kernel
theorem dX9_step_294 : decode cX9_step 294 = .ok (.getfield 184, 3) := by decide +kernel
theorem dX9_step_297 : decode cX9_step 297 = .ok (.iconst 1, 1) := by decide +kernel
theorem dX9_step_298 : decode cX9_step 298 = .ok (.iadd, 1) := by decide +kernel
theorem dX9_step_299 : decode cX9_step 299 = .ok (.putfield 184, 3) := by decide +kernel
theorem dX9_step_302 : decode cX9_step 302 = .ok (.goto 216, 3) := by decide +kernel
theorem dX9_step_305 : decode cX9_step 305 = .ok (.aload_n 0, 1) := by decide +kernel
theorem dX9_step_306 : decode cX9_step 306 = .ok (.iload_n 3, 1) := by decide +kernel
theorem dX9_step_307 : decode cX9_step 307 = .ok (.putfield 193, 3) := by decide +kernel
theorem dX9_step_310 : decode cX9_step 310 = .ok (.goto 208, 3) := by decide +kernel
theorem dX9_step_313 : decode cX9_step 313 = .ok (.aload_n 0, 1) := by decide +kernel
theorem dX9_step_314 : decode cX9_step 314 = .ok (.aload_n 0, 1) := by decide +kernel
theorem dX9_step_315 : decode cX9_step 315 = .ok (.getfield 44, 3) := by decide +kernel
theorem dX9_step_318 : decode cX9_step 318 = .ok (.iload_n 3, 1) := by decide +kernel
theorem dX9_step_319 : decode cX9_step 319 = .ok (.iaload, 1) := by decide +kernel
theorem dX9_step_320 : decode cX9_step 320 = .ok (.putfield 193, 3) := by decide +kernel
theorem dX9_step_323 : decode cX9_step 323 = .ok (.goto 195, 3) := by decide +kernel
theorem dX9_step_326 : decode cX9_step 326 = .ok (.aload_n 0, 1) := by decide +kernel
theorem dX9_step_327 : decode cX9_step 327 = .ok (.getfield 44, 3) := by decide +kernel
theorem dX9_step_330 : decode cX9_step 330 = .ok (.iload_n 3, 1) := by decide +kernel
theorem dX9_step_331 : decode cX9_step 331 = .ok (.aload_n 0, 1) := by decide +kernel
theorem dX9_step_332 : decode cX9_step 332 = .ok (.getfield 193, 3) := by decide +kernel
theorem dX9_step_335 : decode cX9_step 335 = .ok (.iastore, 1) := by decide +kernel
theorem dX9_step_336 : decode cX9_step 336 = .ok (.goto 182, 3) := by decide +kernel
theorem dX9_step_339 : decode cX9_step 339 = .ok (.aload_n 0, 1) := by decide +kernel
theorem dX9_step_340 : decode cX9_step 340 = .ok (.aload_n 0, 1) := by decide +kernel
theorem dX9_step_341 : decode cX9_step 341 = .ok (.getfield 193, 3) := by decide +kernel
theorem dX9_step_344 : decode cX9_step 344 = .ok (.aload_n 0, 1) := by decide +kernel
theorem dX9_step_345 : decode cX9_step 345 = .ok (.getfield 44, 3) := by decide +kernel
theorem dX9_step_348 : decode cX9_step 348 = .ok (.iload_n 3, 1) := by decide +kernel
theorem dX9_step_349 : decode cX9_step 349 = .ok (.iaload, 1) := by decide +kernel
theorem dX9_step_350 : decode cX9_step 350 = .ok (.iadd, 1) := by decide +kernel
theorem dX9_step_351 : decode cX9_step 351 = .ok (.sipush 255, 3) := by decide +kernel
theorem dX9_step_354 : decode cX9_step 354 = .ok (.iand, 1) := by decide +kernel
theorem dX9_step_355 : decode cX9_step 355 = .ok (.putfield 193, 3) := by decide +kernel
theorem dX9_step_358 : decode cX9_step 358 = .ok (.goto 160, 3) := by decide +kernel
theorem dX9_step_361 : decode cX9_step 361 = .ok (.aload_n 0, 1) := by decide +kernel
theorem dX9_step_362 : decode cX9_step 362 = .ok (.aload_n 0, 1) := by decide +kernel
theorem dX9_step_363 : decode cX9_step 363 = .ok (.getfield 193, 3) := by decide +kernel
theorem dX9_step_366 : decode cX9_step 366 = .ok (.aload_n 0, 1) := by decide +kernel
theorem dX9_step_367 : decode cX9_step 367 = .ok (.getfield 44, 3) := by decide +kernel
theorem dX9_step_370 : decode cX9_step 370 = .ok (.iload_n 3, 1) := by decide +kernel
theorem dX9_step_371 : decode cX9_step 371 = .ok (.iaload, 1) := by decide +kernel
theorem dX9_step_372 : decode cX9_step 372 = .ok (.isub, 1) := by decide +kernel
theorem dX9_step_373 : decode cX9_step 373 = .ok (.sipush 255, 3) := by decide +kernel
theorem dX9_step_376 : decode cX9_step 376 = .ok (.iand, 1) := by decide +kernel
theorem dX9_step_377 : decode cX9_step 377 = .ok (.putfield 193, 3) := by decide +kernel
theorem dX9_step_380 : decode cX9_step 380 = .ok (.goto 138, 3) := by decide +kernel
theorem dX9_step_383 : decode cX9_step 383 = .ok (.aload_n 0, 1) := by decide +kernel
theorem dX9_step_384 : decode cX9_step 384 = .ok (.aload_n 0, 1) := by decide +kernel
theorem dX9_step_385 : decode cX9_step 385 = .ok (.getfield 44, 3) := by decide +kernel
theorem dX9_step_388 : decode cX9_step 388 = .ok (.aload_n 0, 1) := by decide +kernel
theorem dX9_step_389 : decode cX9_step 389 = .ok (.getfield 199, 3) := by decide +kernel
theorem dX9_step_392 : decode cX9_step 392 = .ok (.iaload, 1) := by decide +kernel
theorem dX9_step_393 : decode cX9_step 393 = .ok (.putfield 193, 3) := by decide +kernel
theorem dX9_step_396 : decode cX9_step 396 = .ok (.goto 122, 3) := by decide +kernel
theorem dX9_step_399 : decode cX9_step 399 = .ok (.aload_n 0, 1) := by decide +kernel
theorem dX9_step_400 : decode cX9_step 400 = .ok (.getfield 44, 3) := by decide +kernel
theorem dX9_step_403 : decode cX9_step 403 = .ok (.aload_n 0, 1) := by decide +kernel
theorem dX9_step_404 : decode cX9_step 404 = .ok (.getfield 199, 3) := by decide +kernel
theorem dX9_step_407 : decode cX9_step 407 = .ok (.aload_n 0, 1) := by decide +kernel
theorem dX9_step_408 : decode cX9_step 408 = .ok (.getfield 193, 3) := by decide +kernel
theorem dX9_step_411 : decode cX9_step 411 = .ok (.iastore, 1) := by decide +kernel
theorem dX9_step_412 : decode cX9_step 412 = .ok (.goto 106, 3) := by decide +kernel
theorem dX9_step_415 : decode cX9_step 415 = .ok (.aload_n 0, 1) := by decide +kernel
theorem dX9_step_416 : decode cX9_step 416 = .ok (.aload_n 0, 1) := by decide +kernel
theorem dX9_step_417 : decode cX9_step 417 = .ok (.getfield 193, 3) := by decide +kernel
theorem dX9_step_420 : decode cX9_step 420 = .ok (.putfield 199, 3) := by decide +kernel
theorem dX9_step_423 : decode cX9_step 423 = .ok (.goto 95, 3) := by decide +kernel
theorem dX9_step_426 : decode cX9_step 426 = .ok (.aload_n 0, 1) := by decide +kernel
theorem dX9_step_427 : decode cX9_step 427 = .ok (.iload_n 3, 1) := by decide +kernel
theorem dX9_step_428 : decode cX9_step 428 = .ok (.putfield 181, 3) := by decide +kernel
theorem dX9_step_431 : decode cX9_step 431 = .ok (.goto 87, 3) := by decide +kernel
theorem dX9_step_434 : decode cX9_step 434 = .ok (.aload_n 0, 1) := by decide +kernel
theorem dX9_step_435 : decode cX9_step 435 = .ok (.aload_n 0, 1) := by decide +kernel
theorem dX9_step_436 : decode cX9_step 436 = .ok (.getfield 193, 3) := by decide +kernel
theorem dX9_step_439 : decode cX9_step 439 = .ok (.ifCond .ne 7, 3) := by decide +kernel
theorem dX9_step_442 : decode cX9_step 442 = .ok (.iload_n 3, 1) := by decide +kernel
theorem dX9_step_443 : decode cX9_step 443 = .ok (.goto 7, 3) := by decide +kernel
theorem dX9_step_446 : decode cX9_step 446 = .ok (.aload_n 0, 1) := by decide +kernel
theorem dX9_step_447 : decode cX9_step 447 = .ok (.getfield 181, 3) := by decide +kernel
theorem dX9_step_450 : decode cX9_step 450 = .ok (.putfield 181, 3) := by decide +kernel
theorem dX9_step_453 : decode cX9_step 453 = .ok (.goto 65, 3) := by decide +kernel
theorem dX9_step_456 : decode cX9_step 456 = .ok (.aload_n 0, 1) := by decide +kernel
theorem dX9_step_457 : decode cX9_step 457 = .ok (.aload_n 0, 1) := by decide +kernel
theorem dX9_step_458 : decode cX9_step 458 = .ok (.getfield 196, 3) := by decide +kernel
theorem dX9_step_461 : decode cX9_step 461 = .ok (.iconst 1, 1) := by decide +kernel
theorem dX9_step_462 : decode cX9_step 462 = .ok (.if_icmp .ne 7, 3) := by decide +kernel
theorem dX9_step_465 : decode cX9_step 465 = .ok (.iload_n 3, 1) := by decide +kernel
theorem dX9_step_466 : decode cX9_step 466 = .ok (.goto 7, 3) := by decide +kernel
theorem dX9_step_469 : decode cX9_step 469 = .ok (.aload_n 0, 1) := by decide +kernel
theorem dX9_step_470 : decode cX9_step 470 = .ok (.getfield 181, 3) := by decide +kernel
theorem dX9_step_473 : decode cX9_step 473 = .ok (.putfield 181, 3) := by decide +kernel
theorem dX9_step_476 : decode cX9_step 476 = .ok (.goto 42, 3) := by decide +kernel
theorem dX9_step_479 : decode cX9_step 479 = .ok (.aload_n 0, 1) := by decide +kernel
theorem dX9_step_480 : decode cX9_step 480 = .ok (.aload_n 0, 1) := by decide +kernel
theorem dX9_step_481 : decode cX9_step 481 = .ok (.getfield 193, 3) := by decide +kernel
theorem dX9_step_484 : decode cX9_step 484 = .ok (.iload_n 3, 1) := by decide +kernel
theorem dX9_step_485 : decode cX9_step 485 = .ok (.iadd, 1) := by decide +kernel
theorem dX9_step_486 : decode cX9_step 486 = .ok (.sipush 255, 3) := by decide +kernel
theorem dX9_step_489 : decode cX9_step 489 = .ok (.iand, 1) := by decide +kernel
theorem dX9_step_490 : decode cX9_step 490 = .ok (.putfield 193, 3) := by decide +kernel
theorem dX9_step_493 : decode cX9_step 493 = .ok (.goto 25, 3) := by decide +kernel
theorem dX9_step_496 : decode cX9_step 496 = .ok (.aload_n 0, 1) := by decide +kernel
theorem dX9_step_497 : decode cX9_step 497 = .ok (.aload_n 0, 1) := by decide +kernel
theorem dX9_step_498 : decode cX9_step 498 = .ok (.getfield 193, 3) := by decide +kernel
theorem dX9_step_501 : decode cX9_step 501 = .ok (.sipush 128, 3) := by decide +kernel
theorem dX9_step_504 : decode cX9_step 504 = .ok (.if_icmp .lt 7, 3) := by decide +kernel
theorem dX9_step_507 : decode cX9_step 507 = .ok (.iload_n 3, 1) := by decide +kernel
theorem dX9_step_508 : decode cX9_step 508 = .ok (.goto 7, 3) := by decide +kernel
theorem dX9_step_511 : decode cX9_step 511 = .ok (.aload_n 0, 1) := by decide +kernel
theorem dX9_step_512 : decode cX9_step 512 = .ok (.getfield 181, 3) := by decide +kernel
theorem dX9_step_515 : decode cX9_step 515 = .ok (.putfield 181, 3) := by decide +kernel
theorem dX9_step_518 : decode cX9_step 518 = .ok (.iconst 0, 1) := by decide +kernel
theorem dX9_step_519 : decode cX9_step 519 = .ok (.ireturn, 1) := by decide +kernel
theorem dX9_go_0 : decode cX9_go 0 = .ok (.iconst 0, 1) := by decide +kernel
theorem dX9_go_1 : decode cX9_go 1 = .ok (.istore_n 3, 1) := by decide +kernel
theorem dX9_go_2 : decode cX9_go 2 = .ok (.iload_n 3, 1) := by decide +kernel
theorem dX9_go_3 : decode cX9_go 3 = .ok (.sipush 256, 3) := by decide +kernel
theorem dX9_go_6 : decode cX9_go 6 = .ok (.if_icmp .ge 41, 3) := by decide +kernel
theorem dX9_go_9 : decode cX9_go 9 = .ok (.aload_n 0, 1) := by decide +kernel
theorem dX9_go_10 : decode cX9_go 10 = .ok (.getfield 44, 3) := by decide +kernel
theorem dX9_go_13 : decode cX9_go 13 = .ok (.iload_n 3, 1) := by decide +kernel
theorem dX9_go_14 : decode cX9_go 14 = .ok (.iload_n 3, 1) := by decide +kernel
theorem dX9_go_15 : decode cX9_go 15 = .ok (.aload_n 0, 1) := by decide +kernel
theorem dX9_go_16 : decode cX9_go 16 = .ok (.getfield 26, 3) := by decide +kernel
theorem dX9_go_19 : decode cX9_go 19 = .ok (.iload_n 1, 1) := by decide +kernel
theorem dX9_go_20 : decode cX9_go 20 = .ok (.iaload, 1) := by decide +kernel
theorem dX9_go_21 : decode cX9_go 21 = .ok (.if_icmp .ge 18, 3) := by decide +kernel
theorem dX9_go_24 : decode cX9_go 24 = .ok (.aload_n 0, 1) := by decide +kernel
theorem dX9_go_25 : decode cX9_go 25 = .ok (.getfield 20, 3) := by decide +kernel
theorem dX9_go_28 : decode cX9_go 28 = .ok (.sipush 256, 3) := by decide +kernel
theorem dX9_go_31 : decode cX9_go 31 = .ok (.iload_n 1, 1) := by decide +kernel
theorem dX9_go_32 : decode cX9_go 32 = .ok (.imul, 1) := by decide +kernel
theorem dX9_go_33 : decode cX9_go 33 = .ok (.iload_n 3, 1) := by decide +kernel
theorem dX9_go_34 : decode cX9_go 34 = .ok (.iadd, 1) := by decide +kernel
theorem dX9_go_35 : decode cX9_go 35 = .ok (.iaload, 1) := by decide +kernel
theorem dX9_go_36 : decode cX9_go 36 = .ok (.goto 4, 3) := by decide +kernel
theorem dX9_go_39 : decode cX9_go 39 = .ok (.iconst 0, 1) := by decide +kernel
theorem dX9_go_40 : decode cX9_go 40 = .ok (.iastore, 1) := by decide +kernel
theorem dX9_go_41 : decode cX9_go 41 = .ok (.iinc 3 1, 3) := by decide +kernel
theorem dX9_go_44 : decode cX9_go 44 = .ok (.goto (-42), 3) := by decide +kernel
theorem dX9_go_47 : decode cX9_go 47 = .ok (.aload_n 0, 1) := by decide +kernel
theorem dX9_go_48 : decode cX9_go 48 = .ok (.iconst 0, 1) := by decide +kernel
theorem dX9_go_49 : decode cX9_go 49 = .ok (.putfield 193, 3) := by decide +kernel
theorem dX9_go_52 : decode cX9_go 52 = .ok (.aload_n 0, 1) := by decide +kernel
theorem dX9_go_53 : decode cX9_go 53 = .ok (.iconst 0, 1) := by decide +kernel
theorem dX9_go_54 : decode cX9_go 54 = .ok (.putfield 199, 3) := by decide +kernel
theorem dX9_go_57 : decode cX9_go 57 = .ok (.aload_n 0, 1) := by decide +kernel
theorem dX9_go_58 : decode cX9_go 58 = .ok (.iconst 0, 1) := by decide +kernel
theorem dX9_go_59 : decode cX9_go 59 = .ok (.putfield 181, 3) := by decide +kernel
theorem dX9_go_62 : decode cX9_go 62 = .ok (.aload_n 0, 1) := by decide +kernel
theorem dX9_go_63 : decode cX9_go 63 = .ok (.iconst 0, 1) := by decide +kernel
theorem dX9_go_64 : decode cX9_go 64 = .ok (.putfield 187, 3) := by decide +kernel
theorem dX9_go_67 : decode cX9_go 67 = .ok (.aload_n 0, 1) := by decide +kernel
theorem dX9_go_68 : decode cX9_go 68 = .ok (.iconst 0, 1) := by decide +kernel
theorem dX9_go_69 : decode cX9_go 69 = .ok (.putfield 190, 3) := by decide +kernel
theorem dX9_go_72 : decode cX9_go 72 = .ok (.aload_n 0, 1) := by decide +kernel
theorem dX9_go_73 : decode cX9_go 73 = .ok (.iconst 0, 1) := by decide +kernel
theorem dX9_go_74 : decode cX9_go 74 = .ok (.putfield 196, 3) := by decide +kernel
theorem dX9_go_77 : decode cX9_go 77 = .ok (.aload_n 0, 1) := by decide +kernel
theorem dX9_go_78 : decode cX9_go 78 = .ok (.iconst 0, 1) := by decide +kernel
theorem dX9_go_79 : decode cX9_go 79 = .ok (.putfield 184, 3) := by decide +kernel
theorem dX9_go_82 : decode cX9_go 82 = .ok (.iconst 0, 1) := by decide +kernel
theorem dX9_go_83 : decode cX9_go 83 = .ok (.istore_n 3, 1) := by decide +kernel
theorem dX9_go_84 : decode cX9_go 84 = .ok (.iload_n 3, 1) := by decide +kernel
theorem dX9_go_85 : decode cX9_go 85 = .ok (.ifCond .ne 26, 3) := by decide +kernel
theorem dX9_go_88 : decode cX9_go 88 = .ok (.aload_n 0, 1) := by decide +kernel
theorem dX9_go_89 : decode cX9_go 89 = .ok (.getfield 187, 3) := by decide +kernel
theorem dX9_go_92 : decode cX9_go 92 = .ok (.sipush 5000, 3) := by decide +kernel
theorem dX9_go_95 : decode cX9_go 95 = .ok (.if_icmp .ne 7, 3) := by decide +kernel
theorem dX9_go_98 : decode cX9_go 98 = .ok (.iconst 3, 1) := by decide +kernel
theorem dX9_go_99 : decode cX9_go 99 = .ok (.goto 8, 3) := by decide +kernel
theorem dX9_go_102 : decode cX9_go 102 = .ok (.aload_n 0, 1) := by decide +kernel
theorem dX9_go_103 : decode cX9_go 103 = .ok (.iload_n 2, 1) := by decide +kernel
theorem dX9_go_104 : decode cX9_go 104 = .ok (.invokevirtual 202, 3) := by decide +kernel
theorem dX9_go_107 : decode cX9_go 107 = .ok (.istore_n 3, 1) := by decide +kernel
theorem dX9_go_108 : decode cX9_go 108 = .ok (.goto (-24), 3) := by decide +kernel
theorem dX9_go_111 : decode cX9_go 111 = .ok (.iload_n 3, 1) := by decide +kernel
theorem dX9_go_112 : decode cX9_go 112 = .ok (.ifCond .ge 7, 3) := by decide +kernel
theorem dX9_go_115 : decode cX9_go 115 = .ok (.iconst 0, 1) := by decide +kernel
theorem dX9_go_116 : decode cX9_go 116 = .ok (.goto 4, 3) := by decide +kernel
theorem dX9_go_119 : decode cX9_go 119 = .ok (.iload_n 3, 1) := by decide +kernel
theorem dX9_go_120 : decode cX9_go 120 = .ok (.ireturn, 1) := by decide +kernel
theorem dX9_take_0 : decode cX9_take 0 = .ok (.iconst 0, 1) := by decide +kernel
theorem dX9_take_1 : decode cX9_take 1 = .ok (.istore_n 2, 1) := by decide +kernel
theorem dX9_take_2 : decode cX9_take 2 = .ok (.iload_n 2, 1) := by decide +kernel
theorem dX9_take_3 : decode cX9_take 3 = .ok (.aload_n 0, 1) := by decide +kernel
theorem dX9_take_4 : decode cX9_take 4 = .ok (.getfield 184, 3) := by decide +kernel
theorem dX9_take_7 : decode cX9_take 7 = .ok (.if_icmp .ge 45, 3) := by decide +kernel
theorem dX9_take_10 : decode cX9_take 10 = .ok (.aload_n 0, 1) := by decide +kernel
theorem dX9_take_11 : decode cX9_take 11 = .ok (.getfield 20, 3) := by decide +kernel
theorem dX9_take_14 : decode cX9_take 14 = .ok (.sipush 256, 3) := by decide +kernel
theorem dX9_take_17 : decode cX9_take 17 = .ok (.iload_n 1, 1) := by decide +kernel
theorem dX9_take_18 : decode cX9_take 18 = .ok (.imul, 1) := by decide +kernel
theorem dX9_take_19 : decode cX9_take 19 = .ok (.iload_n 2, 1) := by decide +kernel
theorem dX9_take_20 : decode cX9_take 20 = .ok (.iadd, 1) := by decide +kernel
theorem dX9_take_21 : decode cX9_take 21 = .ok (.aload_n 0, 1) := by decide +kernel
theorem dX9_take_22 : decode cX9_take 22 = .ok (.getfield 47, 3) := by decide +kernel
theorem dX9_take_25 : decode cX9_take 25 = .ok (.iload_n 2, 1) := by decide +kernel
theorem dX9_take_26 : decode cX9_take 26 = .ok (.iaload, 1) := by decide +kernel
theorem dX9_take_27 : decode cX9_take 27 = .ok (.iastore, 1) := by decide +kernel
theorem dX9_take_28 : decode cX9_take 28 = .ok (.aload_n 0, 1) := by decide +kernel
theorem dX9_take_29 : decode cX9_take 29 = .ok (.getfield 23, 3) := by decide +kernel
theorem dX9_take_32 : decode cX9_take 32 = .ok (.sipush 256, 3) := by decide +kernel
theorem dX9_take_35 : decode cX9_take 35 = .ok (.iload_n 1, 1) := by decide +kernel
theorem dX9_take_36 : decode cX9_take 36 = .ok (.imul, 1) := by decide +kernel
theorem dX9_take_37 : decode cX9_take 37 = .ok (.iload_n 2, 1) := by decide +kernel
theorem dX9_take_38 : decode cX9_take 38 = .ok (.iadd, 1) := by decide +kernel
theorem dX9_take_39 : decode cX9_take 39 = .ok (.aload_n 0, 1) := by decide +kernel
theorem dX9_take_40 : decode cX9_take 40 = .ok (.getfield 50, 3) := by decide +kernel
theorem dX9_take_43 : decode cX9_take 43 = .ok (.iload_n 2, 1) := by decide +kernel
theorem dX9_take_44 : decode cX9_take 44 = .ok (.iaload, 1) := by decide +kernel
theorem dX9_take_45 : decode cX9_take 45 = .ok (.iastore, 1) := by decide +kernel
theorem dX9_take_46 : decode cX9_take 46 = .ok (.iinc 2 1, 3) := by decide +kernel
theorem dX9_take_49 : decode cX9_take 49 = .ok (.goto (-47), 3) := by decide +kernel
theorem dX9_take_52 : decode cX9_take 52 = .ok (.aload_n 0, 1) := by decide +kernel
theorem dX9_take_53 : decode cX9_take 53 = .ok (.getfield 26, 3) := by decide +kernel
theorem dX9_take_56 : decode cX9_take 56 = .ok (.iload_n 1, 1) := by decide +kernel
theorem dX9_take_57 : decode cX9_take 57 = .ok (.aload_n 0, 1) := by decide +kernel
theorem dX9_take_58 : decode cX9_take 58 = .ok (.getfield 184, 3) := by decide +kernel
theorem dX9_take_61 : decode cX9_take 61 = .ok (.iastore, 1) := by decide +kernel
theorem dX9_take_62 : decode cX9_take 62 = .ok (.return_, 1) := by decide +kernel
theorem dX9_builds_0 : decode cX9_builds 0 = .ok (.aload_n 0, 1) := by decide +kernel
theorem dX9_builds_1 : decode cX9_builds 1 = .ok (.iload_n 1, 1) := by decide +kernel
theorem dX9_builds_2 : decode cX9_builds 2 = .ok (.iload_n 2, 1) := by decide +kernel
theorem dX9_builds_3 : decode cX9_builds 3 = .ok (.invokevirtual 205, 3) := by decide +kernel
theorem dX9_builds_6 : decode cX9_builds 6 = .ok (.istore 4, 2) := by decide +kernel
theorem dX9_builds_8 : decode cX9_builds 8 = .ok (.iload 4, 2) := by decide +kernel
theorem dX9_builds_10 : decode cX9_builds 10 = .ok (.ifCond .ne 15, 3) := by decide +kernel
theorem dX9_builds_13 : decode cX9_builds 13 = .ok (.aload_n 0, 1) := by decide +kernel
theorem dX9_builds_14 : decode cX9_builds 14 = .ok (.getfield 184, 3) := by decide +kernel
theorem dX9_builds_17 : decode cX9_builds 17 = .ok (.ifCond .le 8, 3) := by decide +kernel
theorem dX9_builds_20 : decode cX9_builds 20 = .ok (.aload_n 0, 1) := by decide +kernel
theorem dX9_builds_21 : decode cX9_builds 21 = .ok (.iload_n 3, 1) := by decide +kernel
theorem dX9_builds_22 : decode cX9_builds 22 = .ok (.invokevirtual 208, 3) := by decide +kernel
theorem dX9_builds_25 : decode cX9_builds 25 = .ok (.iload 4, 2) := by decide +kernel
theorem dX9_builds_27 : decode cX9_builds 27 = .ok (.ifCond .le 8, 3) := by decide +kernel
theorem dX9_builds_30 : decode cX9_builds 30 = .ok (.iload 4, 2) := by decide +kernel
theorem dX9_builds_32 : decode cX9_builds 32 = .ok (.goto 15, 3) := by decide +kernel
theorem dX9_builds_35 : decode cX9_builds 35 = .ok (.aload_n 0, 1) := by decide +kernel
theorem dX9_builds_36 : decode cX9_builds 36 = .ok (.getfield 184, 3) := by decide +kernel
theorem dX9_builds_39 : decode cX9_builds 39 = .ok (.ifCond .ne 7, 3) := by decide +kernel
theorem dX9_builds_42 : decode cX9_builds 42 = .ok (.iconst 4, 1) := by decide +kernel
theorem dX9_builds_43 : decode cX9_builds 43 = .ok (.goto 4, 3) := by decide +kernel
theorem dX9_builds_46 : decode cX9_builds 46 = .ok (.iconst 0, 1) := by decide +kernel
theorem dX9_builds_47 : decode cX9_builds 47 = .ok (.ireturn, 1) := by decide +kernel
theorem dX9_run_0 : decode cX9_run 0 = .ok (.aload_n 0, 1) := by decide +kernel
theorem dX9_run_1 : decode cX9_run 1 = .ok (.iload_n 1, 1) := by decide +kernel
theorem dX9_run_2 : decode cX9_run 2 = .ok (.invokevirtual 178, 3) := by decide +kernel
theorem dX9_run_5 : decode cX9_run 5 = .ok (.ifCond .eq 10, 3) := by decide +kernel
theorem dX9_run_8 : decode cX9_run 8 = .ok (.iload_n 2, 1) := by decide +kernel
theorem dX9_run_9 : decode cX9_run 9 = .ok (.invokestatic 81, 3) := by decide +kernel
theorem dX9_run_12 : decode cX9_run 12 = .ok (.ifCond .ne 5, 3) := by decide +kernel
theorem dX9_run_15 : decode cX9_run 15 = .ok (.iconst (-1), 1) := by decide +kernel
theorem dX9_run_16 : decode cX9_run 16 = .ok (.ireturn, 1) := by decide +kernel
theorem dX9_run_17 : decode cX9_run 17 = .ok (.aload_n 0, 1) := by decide +kernel
theorem dX9_run_18 : decode cX9_run 18 = .ok (.iload_n 1, 1) := by decide +kernel
theorem dX9_run_19 : decode cX9_run 19 = .ok (.iload_n 2, 1) := by decide +kernel
theorem dX9_run_20 : decode cX9_run 20 = .ok (.invokevirtual 205, 3) := by decide +kernel
theorem dX9_run_23 : decode cX9_run 23 = .ok (.istore_n 3, 1) := by decide +kernel
theorem dX9_run_24 : decode cX9_run 24 = .ok (.aload_n 0, 1) := by decide +kernel
theorem dX9_run_25 : decode cX9_run 25 = .ok (.getfield 53, 3) := by decide +kernel
theorem dX9_run_28 : decode cX9_run 28 = .ok (.iconst 0, 1) := by decide +kernel
theorem dX9_run_29 : decode cX9_run 29 = .ok (.aload_n 0, 1) := by decide +kernel
theorem dX9_run_30 : decode cX9_run 30 = .ok (.getfield 187, 3) := by decide +kernel
theorem dX9_run_33 : decode cX9_run 33 = .ok (.iastore, 1) := by decide +kernel
theorem dX9_run_34 : decode cX9_run 34 = .ok (.aload_n 0, 1) := by decide +kernel
theorem dX9_run_35 : decode cX9_run 35 = .ok (.getfield 53, 3) := by decide +kernel
theorem dX9_run_38 : decode cX9_run 38 = .ok (.iconst 1, 1) := by decide +kernel
theorem dX9_run_39 : decode cX9_run 39 = .ok (.aload_n 0, 1) := by decide +kernel
theorem dX9_run_40 : decode cX9_run 40 = .ok (.getfield 190, 3) := by decide +kernel
theorem dX9_run_43 : decode cX9_run 43 = .ok (.iastore, 1) := by decide +kernel
theorem dX9_run_44 : decode cX9_run 44 = .ok (.aload_n 0, 1) := by decide +kernel
theorem dX9_run_45 : decode cX9_run 45 = .ok (.getfield 53, 3) := by decide +kernel
theorem dX9_run_48 : decode cX9_run 48 = .ok (.iconst 2, 1) := by decide +kernel
theorem dX9_run_49 : decode cX9_run 49 = .ok (.aload_n 0, 1) := by decide +kernel
theorem dX9_run_50 : decode cX9_run 50 = .ok (.getfield 193, 3) := by decide +kernel
theorem dX9_run_53 : decode cX9_run 53 = .ok (.iastore, 1) := by decide +kernel
theorem dX9_run_54 : decode cX9_run 54 = .ok (.aload_n 0, 1) := by decide +kernel
theorem dX9_run_55 : decode cX9_run 55 = .ok (.getfield 53, 3) := by decide +kernel
theorem dX9_run_58 : decode cX9_run 58 = .ok (.iconst 3, 1) := by decide +kernel
theorem dX9_run_59 : decode cX9_run 59 = .ok (.aload_n 0, 1) := by decide +kernel
theorem dX9_run_60 : decode cX9_run 60 = .ok (.getfield 199, 3) := by decide +kernel
theorem dX9_run_63 : decode cX9_run 63 = .ok (.iastore, 1) := by decide +kernel
theorem dX9_run_64 : decode cX9_run 64 = .ok (.aload_n 0, 1) := by decide +kernel
theorem dX9_run_65 : decode cX9_run 65 = .ok (.getfield 53, 3) := by decide +kernel
theorem dX9_run_68 : decode cX9_run 68 = .ok (.iconst 4, 1) := by decide +kernel
theorem dX9_run_69 : decode cX9_run 69 = .ok (.aload_n 0, 1) := by decide +kernel
theorem dX9_run_70 : decode cX9_run 70 = .ok (.getfield 181, 3) := by decide +kernel
theorem dX9_run_73 : decode cX9_run 73 = .ok (.iastore, 1) := by decide +kernel
theorem dX9_run_74 : decode cX9_run 74 = .ok (.aload_n 0, 1) := by decide +kernel
theorem dX9_run_75 : decode cX9_run 75 = .ok (.getfield 53, 3) := by decide +kernel
theorem dX9_run_78 : decode cX9_run 78 = .ok (.iconst 5, 1) := by decide +kernel
theorem dX9_run_79 : decode cX9_run 79 = .ok (.aload_n 0, 1) := by decide +kernel
theorem dX9_run_80 : decode cX9_run 80 = .ok (.getfield 184, 3) := by decide +kernel
theorem dX9_run_83 : decode cX9_run 83 = .ok (.iastore, 1) := by decide +kernel
theorem dX9_run_84 : decode cX9_run 84 = .ok (.iconst 0, 1) := by decide +kernel
theorem dX9_run_85 : decode cX9_run 85 = .ok (.istore 4, 2) := by decide +kernel
theorem dX9_run_87 : decode cX9_run 87 = .ok (.iload 4, 2) := by decide +kernel
theorem dX9_run_89 : decode cX9_run 89 = .ok (.sipush 256, 3) := by decide +kernel
theorem dX9_run_92 : decode cX9_run 92 = .ok (.if_icmp .ge 50, 3) := by decide +kernel
theorem dX9_run_95 : decode cX9_run 95 = .ok (.aload_n 0, 1) := by decide +kernel
theorem dX9_run_96 : decode cX9_run 96 = .ok (.getfield 56, 3) := by decide +kernel
theorem dX9_run_99 : decode cX9_run 99 = .ok (.iload 4, 2) := by decide +kernel
theorem dX9_run_101 : decode cX9_run 101 = .ok (.iload 4, 2) := by decide +kernel
theorem dX9_run_103 : decode cX9_run 103 = .ok (.aload_n 0, 1) := by decide +kernel
theorem dX9_run_104 : decode cX9_run 104 = .ok (.getfield 184, 3) := by decide +kernel
theorem dX9_run_107 : decode cX9_run 107 = .ok (.if_icmp .ge 13, 3) := by decide +kernel
theorem dX9_run_110 : decode cX9_run 110 = .ok (.aload_n 0, 1) := by decide +kernel
theorem dX9_run_111 : decode cX9_run 111 = .ok (.getfield 47, 3) := by decide +kernel
theorem dX9_run_114 : decode cX9_run 114 = .ok (.iload 4, 2) := by decide +kernel
theorem dX9_run_116 : decode cX9_run 116 = .ok (.iaload, 1) := by decide +kernel
theorem dX9_run_117 : decode cX9_run 117 = .ok (.goto 4, 3) := by decide +kernel
theorem dX9_run_120 : decode cX9_run 120 = .ok (.iconst 0, 1) := by decide +kernel
theorem dX9_run_121 : decode cX9_run 121 = .ok (.iastore, 1) := by decide +kernel
theorem dX9_run_122 : decode cX9_run 122 = .ok (.aload_n 0, 1) := by decide +kernel
theorem dX9_run_123 : decode cX9_run 123 = .ok (.getfield 59, 3) := by decide +kernel
theorem dX9_run_126 : decode cX9_run 126 = .ok (.iload 4, 2) := by decide +kernel
theorem dX9_run_128 : decode cX9_run 128 = .ok (.aload_n 0, 1) := by decide +kernel
theorem dX9_run_129 : decode cX9_run 129 = .ok (.getfield 44, 3) := by decide +kernel
theorem dX9_run_132 : decode cX9_run 132 = .ok (.iload 4, 2) := by decide +kernel
theorem dX9_run_134 : decode cX9_run 134 = .ok (.iaload, 1) := by decide +kernel
theorem dX9_run_135 : decode cX9_run 135 = .ok (.iastore, 1) := by decide +kernel
theorem dX9_run_136 : decode cX9_run 136 = .ok (.iinc 4 1, 3) := by decide +kernel
theorem dX9_run_139 : decode cX9_run 139 = .ok (.goto (-52), 3) := by decide +kernel
theorem dX9_run_142 : decode cX9_run 142 = .ok (.iload_n 3, 1) := by decide +kernel
theorem dX9_run_143 : decode cX9_run 143 = .ok (.ifCond .ne 10, 3) := by decide +kernel
theorem dX9_run_146 : decode cX9_run 146 = .ok (.aload_n 0, 1) := by decide +kernel
theorem dX9_run_147 : decode cX9_run 147 = .ok (.getfield 184, 3) := by decide +kernel
theorem dX9_run_150 : decode cX9_run 150 = .ok (.goto 7, 3) := by decide +kernel
theorem dX9_run_153 : decode cX9_run 153 = .ok (.bipush (-10), 2) := by decide +kernel
theorem dX9_run_155 : decode cX9_run 155 = .ok (.iload_n 3, 1) := by decide +kernel
theorem dX9_run_156 : decode cX9_run 156 = .ok (.isub, 1) := by decide +kernel
theorem dX9_run_157 : decode cX9_run 157 = .ok (.ireturn, 1) := by decide +kernel
theorem dX9_ran_0 : decode cX9_ran 0 = .ok (.iload_n 1, 1) := by decide +kernel
theorem dX9_ran_1 : decode cX9_ran 1 = .ok (.iconst 0, 1) := by decide +kernel
theorem dX9_ran_2 : decode cX9_ran 2 = .ok (.iconst 5, 1) := by decide +kernel
theorem dX9_ran_3 : decode cX9_ran 3 = .ok (.invokestatic 75, 3) := by decide +kernel
theorem dX9_ran_6 : decode cX9_ran 6 = .ok (.ifCond .eq 12, 3) := by decide +kernel
theorem dX9_ran_9 : decode cX9_ran 9 = .ok (.aload_n 0, 1) := by decide +kernel
theorem dX9_ran_10 : decode cX9_ran 10 = .ok (.getfield 53, 3) := by decide +kernel
theorem dX9_ran_13 : decode cX9_ran 13 = .ok (.iload_n 1, 1) := by decide +kernel
theorem dX9_ran_14 : decode cX9_ran 14 = .ok (.iaload, 1) := by decide +kernel
theorem dX9_ran_15 : decode cX9_ran 15 = .ok (.goto 4, 3) := by decide +kernel
theorem dX9_ran_18 : decode cX9_ran 18 = .ok (.iconst (-1), 1) := by decide +kernel
theorem dX9_ran_19 : decode cX9_ran 19 = .ok (.ireturn, 1) := by decide +kernel
theorem dX9_tape_0 : decode cX9_tape 0 = .ok (.iload_n 2, 1) := by decide +kernel
theorem dX9_tape_1 : decode cX9_tape 1 = .ok (.iconst 0, 1) := by decide +kernel
theorem dX9_tape_2 : decode cX9_tape 2 = .ok (.iconst 1, 1) := by decide +kernel
theorem dX9_tape_3 : decode cX9_tape 3 = .ok (.invokestatic 75, 3) := by decide +kernel
theorem dX9_tape_6 : decode cX9_tape 6 = .ok (.ifCond .eq 29, 3) := by decide +kernel
theorem dX9_tape_9 : decode cX9_tape 9 = .ok (.iload_n 1, 1) := by decide +kernel
theorem dX9_tape_10 : decode cX9_tape 10 = .ok (.iconst 0, 1) := by decide +kernel
theorem dX9_tape_11 : decode cX9_tape 11 = .ok (.iload_n 2, 1) := by decide +kernel
theorem dX9_tape_12 : decode cX9_tape 12 = .ok (.ifCond .ne 14, 3) := by decide +kernel
theorem dX9_tape_15 : decode cX9_tape 15 = .ok (.aload_n 0, 1) := by decide +kernel
theorem dX9_tape_16 : decode cX9_tape 16 = .ok (.getfield 53, 3) := by decide +kernel
theorem dX9_tape_19 : decode cX9_tape 19 = .ok (.iconst 5, 1) := by decide +kernel
theorem dX9_tape_20 : decode cX9_tape 20 = .ok (.iaload, 1) := by decide +kernel
theorem dX9_tape_21 : decode cX9_tape 21 = .ok (.iconst 1, 1) := by decide +kernel
theorem dX9_tape_22 : decode cX9_tape 22 = .ok (.isub, 1) := by decide +kernel
theorem dX9_tape_23 : decode cX9_tape 23 = .ok (.goto 6, 3) := by decide +kernel
theorem dX9_tape_26 : decode cX9_tape 26 = .ok (.sipush 255, 3) := by decide +kernel
theorem dX9_tape_29 : decode cX9_tape 29 = .ok (.invokestatic 75, 3) := by decide +kernel
theorem dX9_tape_32 : decode cX9_tape 32 = .ok (.ifCond .ne 5, 3) := by decide +kernel
theorem dX9_tape_35 : decode cX9_tape 35 = .ok (.iconst (-1), 1) := by decide +kernel
theorem dX9_tape_36 : decode cX9_tape 36 = .ok (.ireturn, 1) := by decide +kernel
theorem dX9_tape_37 : decode cX9_tape 37 = .ok (.iload_n 2, 1) := by decide +kernel
theorem dX9_tape_38 : decode cX9_tape 38 = .ok (.ifCond .ne 12, 3) := by decide +kernel
theorem dX9_tape_41 : decode cX9_tape 41 = .ok (.aload_n 0, 1) := by decide +kernel
theorem dX9_tape_42 : decode cX9_tape 42 = .ok (.getfield 56, 3) := by decide +kernel
theorem dX9_tape_45 : decode cX9_tape 45 = .ok (.iload_n 1, 1) := by decide +kernel
theorem dX9_tape_46 : decode cX9_tape 46 = .ok (.iaload, 1) := by decide +kernel
theorem dX9_tape_47 : decode cX9_tape 47 = .ok (.goto 9, 3) := by decide +kernel
theorem dX9_tape_50 : decode cX9_tape 50 = .ok (.aload_n 0, 1) := by decide +kernel
theorem dX9_tape_51 : decode cX9_tape 51 = .ok (.getfield 59, 3) := by decide +kernel
theorem dX9_tape_54 : decode cX9_tape 54 = .ok (.iload_n 1, 1) := by decide +kernel
theorem dX9_tape_55 : decode cX9_tape 55 = .ok (.iaload, 1) := by decide +kernel
theorem dX9_tape_56 : decode cX9_tape 56 = .ok (.ireturn, 1) := by decide +kernel
theorem dX9_build_0 : decode cX9_build 0 = .ok (.aload_n 0, 1) := by decide +kernel
theorem dX9_build_1 : decode cX9_build 1 = .ok (.iload_n 1, 1) := by decide +kernel
theorem dX9_build_2 : decode cX9_build 2 = .ok (.invokevirtual 178, 3) := by decide +kernel
theorem dX9_build_5 : decode cX9_build 5 = .ok (.ifCond .eq 10, 3) := by decide +kernel
theorem dX9_build_8 : decode cX9_build 8 = .ok (.iload_n 2, 1) := by decide +kernel
theorem dX9_build_9 : decode cX9_build 9 = .ok (.invokestatic 81, 3) := by decide +kernel
theorem dX9_build_12 : decode cX9_build 12 = .ok (.ifCond .ne 5, 3) := by decide +kernel
theorem dX9_build_15 : decode cX9_build 15 = .ok (.iconst (-1), 1) := by decide +kernel
theorem dX9_build_16 : decode cX9_build 16 = .ok (.ireturn, 1) := by decide +kernel
theorem dX9_build_17 : decode cX9_build 17 = .ok (.aload_n 0, 1) := by decide +kernel
theorem dX9_build_18 : decode cX9_build 18 = .ok (.iload_n 1, 1) := by decide +kernel
theorem dX9_build_19 : decode cX9_build 19 = .ok (.iload_n 2, 1) := by decide +kernel
theorem dX9_build_20 : decode cX9_build 20 = .ok (.bipush 12, 2) := by decide +kernel
theorem dX9_build_22 : decode cX9_build 22 = .ok (.invokevirtual 211, 3) := by decide +kernel
theorem dX9_build_25 : decode cX9_build 25 = .ok (.ifCond .eq 6, 3) := by decide +kernel
theorem dX9_build_28 : decode cX9_build 28 = .ok (.bipush (-2), 2) := by decide +kernel
theorem dX9_build_30 : decode cX9_build 30 = .ok (.ireturn, 1) := by decide +kernel
theorem dX9_build_31 : decode cX9_build 31 = .ok (.aload_n 0, 1) := by decide +kernel
theorem dX9_build_32 : decode cX9_build 32 = .ok (.getfield 85, 3) := by decide +kernel
theorem dX9_build_35 : decode cX9_build 35 = .ok (.bipush 12, 2) := by decide +kernel
theorem dX9_build_37 : decode cX9_build 37 = .ok (.if_icmp .ne 6, 3) := by decide +kernel
theorem dX9_build_40 : decode cX9_build 40 = .ok (.bipush (-3), 2) := by decide +kernel
theorem dX9_build_42 : decode cX9_build 42 = .ok (.ireturn, 1) := by decide +kernel
theorem dX9_build_43 : decode cX9_build 43 = .ok (.aload_n 0, 1) := by decide +kernel
theorem dX9_build_44 : decode cX9_build 44 = .ok (.bipush 12, 2) := by decide +kernel
theorem dX9_build_46 : decode cX9_build 46 = .ok (.aload_n 0, 1) := by decide +kernel
theorem dX9_build_47 : decode cX9_build 47 = .ok (.getfield 85, 3) := by decide +kernel
theorem dX9_build_50 : decode cX9_build 50 = .ok (.invokevirtual 167, 3) := by decide +kernel
theorem dX9_build_53 : decode cX9_build 53 = .ok (.aload_n 0, 1) := by decide +kernel
theorem dX9_build_54 : decode cX9_build 54 = .ok (.iconst 2, 1) := by decide +kernel
theorem dX9_build_55 : decode cX9_build 55 = .ok (.iload_n 2, 1) := by decide +kernel
theorem dX9_build_56 : decode cX9_build 56 = .ok (.iload_n 1, 1) := by decide +kernel
theorem dX9_build_57 : decode cX9_build 57 = .ok (.invokevirtual 171, 3) := by decide +kernel
theorem dX9_build_60 : decode cX9_build 60 = .ok (.ireturn, 1) := by decide +kernel
theorem dX9_unlike_0 : decode cX9_unlike 0 = .ok (.aload_n 0, 1) := by decide +kernel
theorem dX9_unlike_1 : decode cX9_unlike 1 = .ok (.getfield 26, 3) := by decide +kernel
theorem dX9_unlike_4 : decode cX9_unlike 4 = .ok (.iload_n 1, 1) := by decide +kernel
theorem dX9_unlike_5 : decode cX9_unlike 5 = .ok (.iaload, 1) := by decide +kernel
theorem dX9_unlike_6 : decode cX9_unlike 6 = .ok (.aload_n 0, 1) := by decide +kernel
theorem dX9_unlike_7 : decode cX9_unlike 7 = .ok (.getfield 26, 3) := by decide +kernel
theorem dX9_unlike_10 : decode cX9_unlike 10 = .ok (.iload_n 2, 1) := by decide +kernel
theorem dX9_unlike_11 : decode cX9_unlike 11 = .ok (.iaload, 1) := by decide +kernel
theorem dX9_unlike_12 : decode cX9_unlike 12 = .ok (.if_icmp .ge 12, 3) := by decide +kernel
theorem dX9_unlike_15 : decode cX9_unlike 15 = .ok (.aload_n 0, 1) := by decide +kernel
theorem dX9_unlike_16 : decode cX9_unlike 16 = .ok (.getfield 26, 3) := by decide +kernel
theorem dX9_unlike_19 : decode cX9_unlike 19 = .ok (.iload_n 1, 1) := by decide +kernel
theorem dX9_unlike_20 : decode cX9_unlike 20 = .ok (.iaload, 1) := by decide +kernel
theorem dX9_unlike_21 : decode cX9_unlike 21 = .ok (.goto 9, 3) := by decide +kernel
theorem dX9_unlike_24 : decode cX9_unlike 24 = .ok (.aload_n 0, 1) := by decide +kernel
theorem dX9_unlike_25 : decode cX9_unlike 25 = .ok (.getfield 26, 3) := by decide +kernel
theorem dX9_unlike_28 : decode cX9_unlike 28 = .ok (.iload_n 2, 1) := by decide +kernel
theorem dX9_unlike_29 : decode cX9_unlike 29 = .ok (.iaload, 1) := by decide +kernel
theorem dX9_unlike_30 : decode cX9_unlike 30 = .ok (.istore_n 3, 1) := by decide +kernel
theorem dX9_unlike_31 : decode cX9_unlike 31 = .ok (.iconst 0, 1) := by decide +kernel
theorem dX9_unlike_32 : decode cX9_unlike 32 = .ok (.istore 4, 2) := by decide +kernel
theorem dX9_unlike_34 : decode cX9_unlike 34 = .ok (.iload 4, 2) := by decide +kernel
theorem dX9_unlike_36 : decode cX9_unlike 36 = .ok (.iload_n 3, 1) := by decide +kernel
theorem dX9_unlike_37 : decode cX9_unlike 37 = .ok (.if_icmp .ge 43, 3) := by decide +kernel
theorem dX9_unlike_40 : decode cX9_unlike 40 = .ok (.aload_n 0, 1) := by decide +kernel
theorem dX9_unlike_41 : decode cX9_unlike 41 = .ok (.getfield 20, 3) := by decide +kernel
theorem dX9_unlike_44 : decode cX9_unlike 44 = .ok (.sipush 256, 3) := by decide +kernel
theorem dX9_unlike_47 : decode cX9_unlike 47 = .ok (.iload_n 1, 1) := by decide +kernel
theorem dX9_unlike_48 : decode cX9_unlike 48 = .ok (.imul, 1) := by decide +kernel
theorem dX9_unlike_49 : decode cX9_unlike 49 = .ok (.iload 4, 2) := by decide +kernel
theorem dX9_unlike_51 : decode cX9_unlike 51 = .ok (.iadd, 1) := by decide +kernel
theorem dX9_unlike_52 : decode cX9_unlike 52 = .ok (.iaload, 1) := by decide +kernel
theorem dX9_unlike_53 : decode cX9_unlike 53 = .ok (.aload_n 0, 1) := by decide +kernel
theorem dX9_unlike_54 : decode cX9_unlike 54 = .ok (.getfield 20, 3) := by decide +kernel
theorem dX9_unlike_57 : decode cX9_unlike 57 = .ok (.sipush 256, 3) := by decide +kernel
theorem dX9_unlike_60 : decode cX9_unlike 60 = .ok (.iload_n 2, 1) := by decide +kernel
theorem dX9_unlike_61 : decode cX9_unlike 61 = .ok (.imul, 1) := by decide +kernel
theorem dX9_unlike_62 : decode cX9_unlike 62 = .ok (.iload 4, 2) := by decide +kernel
theorem dX9_unlike_64 : decode cX9_unlike 64 = .ok (.iadd, 1) := by decide +kernel
theorem dX9_unlike_65 : decode cX9_unlike 65 = .ok (.iaload, 1) := by decide +kernel
theorem dX9_unlike_66 : decode cX9_unlike 66 = .ok (.if_icmp .eq 8, 3) := by decide +kernel
theorem dX9_unlike_69 : decode cX9_unlike 69 = .ok (.iconst 1, 1) := by decide +kernel
theorem dX9_unlike_70 : decode cX9_unlike 70 = .ok (.iload 4, 2) := by decide +kernel
theorem dX9_unlike_72 : decode cX9_unlike 72 = .ok (.iadd, 1) := by decide +kernel
theorem dX9_unlike_73 : decode cX9_unlike 73 = .ok (.ireturn, 1) := by decide +kernel
theorem dX9_unlike_74 : decode cX9_unlike 74 = .ok (.iinc 4 1, 3) := by decide +kernel
theorem dX9_unlike_77 : decode cX9_unlike 77 = .ok (.goto (-43), 3) := by decide +kernel
theorem dX9_unlike_80 : decode cX9_unlike 80 = .ok (.aload_n 0, 1) := by decide +kernel
theorem dX9_unlike_81 : decode cX9_unlike 81 = .ok (.getfield 26, 3) := by decide +kernel
theorem dX9_unlike_84 : decode cX9_unlike 84 = .ok (.iload_n 1, 1) := by decide +kernel
theorem dX9_unlike_85 : decode cX9_unlike 85 = .ok (.iaload, 1) := by decide +kernel
theorem dX9_unlike_86 : decode cX9_unlike 86 = .ok (.aload_n 0, 1) := by decide +kernel
theorem dX9_unlike_87 : decode cX9_unlike 87 = .ok (.getfield 26, 3) := by decide +kernel
theorem dX9_unlike_90 : decode cX9_unlike 90 = .ok (.iload_n 2, 1) := by decide +kernel
theorem dX9_unlike_91 : decode cX9_unlike 91 = .ok (.iaload, 1) := by decide +kernel
theorem dX9_unlike_92 : decode cX9_unlike 92 = .ok (.if_icmp .ne 7, 3) := by decide +kernel
theorem dX9_unlike_95 : decode cX9_unlike 95 = .ok (.iconst 0, 1) := by decide +kernel
theorem dX9_unlike_96 : decode cX9_unlike 96 = .ok (.goto 6, 3) := by decide +kernel
theorem dX9_unlike_99 : decode cX9_unlike 99 = .ok (.iconst 1, 1) := by decide +kernel
theorem dX9_unlike_100 : decode cX9_unlike 100 = .ok (.iload_n 3, 1) := by decide +kernel
theorem dX9_unlike_101 : decode cX9_unlike 101 = .ok (.iadd, 1) := by decide +kernel
theorem dX9_unlike_102 : decode cX9_unlike 102 = .ok (.ireturn, 1) := by decide +kernel
theorem dX9_again_0 : decode cX9_again 0 = .ok (.aload_n 0, 1) := by decide +kernel
theorem dX9_again_1 : decode cX9_again 1 = .ok (.getfield 29, 3) := by decide +kernel
theorem dX9_again_4 : decode cX9_again 4 = .ok (.iload_n 1, 1) := by decide +kernel
theorem dX9_again_5 : decode cX9_again 5 = .ok (.iaload, 1) := by decide +kernel
theorem dX9_again_6 : decode cX9_again 6 = .ok (.iconst 2, 1) := by decide +kernel
theorem dX9_again_7 : decode cX9_again 7 = .ok (.if_icmp .ne 51, 3) := by decide +kernel
theorem dX9_again_10 : decode cX9_again 10 = .ok (.aload_n 0, 1) := by decide +kernel
theorem dX9_again_11 : decode cX9_again 11 = .ok (.aload_n 0, 1) := by decide +kernel
theorem dX9_again_12 : decode cX9_again 12 = .ok (.getfield 35, 3) := by decide +kernel
theorem dX9_again_15 : decode cX9_again 15 = .ok (.iload_n 1, 1) := by decide +kernel
theorem dX9_again_16 : decode cX9_again 16 = .ok (.iaload, 1) := by decide +kernel
theorem dX9_again_17 : decode cX9_again 17 = .ok (.aload_n 0, 1) := by decide +kernel
theorem dX9_again_18 : decode cX9_again 18 = .ok (.getfield 32, 3) := by decide +kernel
theorem dX9_again_21 : decode cX9_again 21 = .ok (.iload_n 1, 1) := by decide +kernel
theorem dX9_again_22 : decode cX9_again 22 = .ok (.iaload, 1) := by decide +kernel
theorem dX9_again_23 : decode cX9_again 23 = .ok (.bipush 12, 2) := by decide +kernel
theorem dX9_again_25 : decode cX9_again 25 = .ok (.invokevirtual 211, 3) := by decide +kernel
theorem dX9_again_28 : decode cX9_again 28 = .ok (.istore_n 2, 1) := by decide +kernel
theorem dX9_again_29 : decode cX9_again 29 = .ok (.iload_n 2, 1) := by decide +kernel
end
section
theorem dX9_again_30 : decode cX9_again 30 = .ok (.ifCond .ne 13, 3) := by decide +kernel
theorem dX9_again_33 : decode cX9_again 33 = .ok (.aload_n 0, 1) := by decide +kernel
theorem dX9_again_34 : decode cX9_again 34 = .ok (.iload_n 1, 1) := by decide +kernel
theorem dX9_again_35 : decode cX9_again 35 = .ok (.bipush 12, 2) := by decide +kernel
theorem dX9_again_37 : decode cX9_again 37 = .ok (.invokevirtual 214, 3) := by decide +kernel
theorem dX9_again_40 : decode cX9_again 40 = .ok (.goto 17, 3) := by decide +kernel
theorem dX9_again_43 : decode cX9_again 43 = .ok (.iload_n 2, 1) := by decide +kernel
theorem dX9_again_44 : decode cX9_again 44 = .ok (.iconst 4, 1) := by decide +kernel
theorem dX9_again_45 : decode cX9_again 45 = .ok (.if_icmp .ne 8, 3) := by decide +kernel
theorem dX9_again_48 : decode cX9_again 48 = .ok (.bipush (-20), 2) := by decide +kernel
theorem dX9_again_50 : decode cX9_again 50 = .ok (.goto 7, 3) := by decide +kernel
theorem dX9_again_53 : decode cX9_again 53 = .ok (.bipush (-10), 2) := by decide +kernel
theorem dX9_again_55 : decode cX9_again 55 = .ok (.iload_n 2, 1) := by decide +kernel
theorem dX9_again_56 : decode cX9_again 56 = .ok (.isub, 1) := by decide +kernel
theorem dX9_again_57 : decode cX9_again 57 = .ok (.ireturn, 1) := by decide +kernel
theorem dX9_again_58 : decode cX9_again 58 = .ok (.aload_n 0, 1) := by decide +kernel
theorem dX9_again_59 : decode cX9_again 59 = .ok (.getfield 29, 3) := by decide +kernel
theorem dX9_again_62 : decode cX9_again 62 = .ok (.iload_n 1, 1) := by decide +kernel
theorem dX9_again_63 : decode cX9_again 63 = .ok (.iaload, 1) := by decide +kernel
theorem dX9_again_64 : decode cX9_again 64 = .ok (.ifCond .ne 18, 3) := by decide +kernel
theorem dX9_again_67 : decode cX9_again 67 = .ok (.aload_n 0, 1) := by decide +kernel
theorem dX9_again_68 : decode cX9_again 68 = .ok (.aload_n 0, 1) := by decide +kernel
theorem dX9_again_69 : decode cX9_again 69 = .ok (.getfield 32, 3) := by decide +kernel
theorem dX9_again_72 : decode cX9_again 72 = .ok (.iload_n 1, 1) := by decide +kernel
theorem dX9_again_73 : decode cX9_again 73 = .ok (.iaload, 1) := by decide +kernel
theorem dX9_again_74 : decode cX9_again 74 = .ok (.bipush 12, 2) := by decide +kernel
theorem dX9_again_76 : decode cX9_again 76 = .ok (.invokevirtual 161, 3) := by decide +kernel
theorem dX9_again_79 : decode cX9_again 79 = .ok (.goto 15, 3) := by decide +kernel
theorem dX9_again_82 : decode cX9_again 82 = .ok (.aload_n 0, 1) := by decide +kernel
theorem dX9_again_83 : decode cX9_again 83 = .ok (.aload_n 0, 1) := by decide +kernel
theorem dX9_again_84 : decode cX9_again 84 = .ok (.getfield 32, 3) := by decide +kernel
theorem dX9_again_87 : decode cX9_again 87 = .ok (.iload_n 1, 1) := by decide +kernel
theorem dX9_again_88 : decode cX9_again 88 = .ok (.iaload, 1) := by decide +kernel
theorem dX9_again_89 : decode cX9_again 89 = .ok (.bipush 12, 2) := by decide +kernel
theorem dX9_again_91 : decode cX9_again 91 = .ok (.invokevirtual 164, 3) := by decide +kernel
theorem dX9_again_94 : decode cX9_again 94 = .ok (.istore_n 2, 1) := by decide +kernel
theorem dX9_again_95 : decode cX9_again 95 = .ok (.iload_n 2, 1) := by decide +kernel
theorem dX9_again_96 : decode cX9_again 96 = .ok (.bipush (-9), 2) := by decide +kernel
theorem dX9_again_98 : decode cX9_again 98 = .ok (.if_icmp .ne 13, 3) := by decide +kernel
theorem dX9_again_101 : decode cX9_again 101 = .ok (.aload_n 0, 1) := by decide +kernel
theorem dX9_again_102 : decode cX9_again 102 = .ok (.iload_n 1, 1) := by decide +kernel
theorem dX9_again_103 : decode cX9_again 103 = .ok (.bipush 12, 2) := by decide +kernel
theorem dX9_again_105 : decode cX9_again 105 = .ok (.invokevirtual 214, 3) := by decide +kernel
theorem dX9_again_108 : decode cX9_again 108 = .ok (.goto 5, 3) := by decide +kernel
theorem dX9_again_111 : decode cX9_again 111 = .ok (.bipush (-20), 2) := by decide +kernel
theorem dX9_again_113 : decode cX9_again 113 = .ok (.ireturn, 1) := by decide +kernel
theorem dX9_rebuilt_0 : decode cX9_rebuilt 0 = .ok (.aload_n 0, 1) := by decide +kernel
theorem dX9_rebuilt_1 : decode cX9_rebuilt 1 = .ok (.iload_n 1, 1) := by decide +kernel
theorem dX9_rebuilt_2 : decode cX9_rebuilt 2 = .ok (.invokevirtual 178, 3) := by decide +kernel
theorem dX9_rebuilt_5 : decode cX9_rebuilt 5 = .ok (.ifCond .eq 11, 3) := by decide +kernel
theorem dX9_rebuilt_8 : decode cX9_rebuilt 8 = .ok (.aload_n 0, 1) := by decide +kernel
theorem dX9_rebuilt_9 : decode cX9_rebuilt 9 = .ok (.iload_n 1, 1) := by decide +kernel
theorem dX9_rebuilt_10 : decode cX9_rebuilt 10 = .ok (.invokevirtual 217, 3) := by decide +kernel
theorem dX9_rebuilt_13 : decode cX9_rebuilt 13 = .ok (.goto 4, 3) := by decide +kernel
theorem dX9_rebuilt_16 : decode cX9_rebuilt 16 = .ok (.iconst (-1), 1) := by decide +kernel
theorem dX9_rebuilt_17 : decode cX9_rebuilt 17 = .ok (.ireturn, 1) := by decide +kernel
theorem dX9_stale_0 : decode cX9_stale 0 = .ok (.iconst 0, 1) := by decide +kernel
theorem dX9_stale_1 : decode cX9_stale 1 = .ok (.istore_n 1, 1) := by decide +kernel
theorem dX9_stale_2 : decode cX9_stale 2 = .ok (.iconst 0, 1) := by decide +kernel
theorem dX9_stale_3 : decode cX9_stale 3 = .ok (.istore_n 2, 1) := by decide +kernel
theorem dX9_stale_4 : decode cX9_stale 4 = .ok (.iload_n 2, 1) := by decide +kernel
theorem dX9_stale_5 : decode cX9_stale 5 = .ok (.aload_n 0, 1) := by decide +kernel
theorem dX9_stale_6 : decode cX9_stale 6 = .ok (.getfield 85, 3) := by decide +kernel
theorem dX9_stale_9 : decode cX9_stale 9 = .ok (.if_icmp .ge 62, 3) := by decide +kernel
theorem dX9_stale_12 : decode cX9_stale 12 = .ok (.aload_n 0, 1) := by decide +kernel
theorem dX9_stale_13 : decode cX9_stale 13 = .ok (.getfield 35, 3) := by decide +kernel
theorem dX9_stale_16 : decode cX9_stale 16 = .ok (.iload_n 2, 1) := by decide +kernel
theorem dX9_stale_17 : decode cX9_stale 17 = .ok (.iaload, 1) := by decide +kernel
theorem dX9_stale_18 : decode cX9_stale 18 = .ok (.bipush (-9), 2) := by decide +kernel
theorem dX9_stale_20 : decode cX9_stale 20 = .ok (.if_icmp .eq 21, 3) := by decide +kernel
theorem dX9_stale_23 : decode cX9_stale 23 = .ok (.iload_n 1, 1) := by decide +kernel
theorem dX9_stale_24 : decode cX9_stale 24 = .ok (.aload_n 0, 1) := by decide +kernel
theorem dX9_stale_25 : decode cX9_stale 25 = .ok (.getfield 35, 3) := by decide +kernel
theorem dX9_stale_28 : decode cX9_stale 28 = .ok (.iload_n 2, 1) := by decide +kernel
theorem dX9_stale_29 : decode cX9_stale 29 = .ok (.iaload, 1) := by decide +kernel
theorem dX9_stale_30 : decode cX9_stale 30 = .ok (.ishr, 1) := by decide +kernel
theorem dX9_stale_31 : decode cX9_stale 31 = .ok (.iconst 1, 1) := by decide +kernel
theorem dX9_stale_32 : decode cX9_stale 32 = .ok (.iand, 1) := by decide +kernel
theorem dX9_stale_33 : decode cX9_stale 33 = .ok (.iconst 1, 1) := by decide +kernel
theorem dX9_stale_34 : decode cX9_stale 34 = .ok (.if_icmp .ne 7, 3) := by decide +kernel
theorem dX9_stale_37 : decode cX9_stale 37 = .ok (.iconst 1, 1) := by decide +kernel
theorem dX9_stale_38 : decode cX9_stale 38 = .ok (.goto 4, 3) := by decide +kernel
theorem dX9_stale_41 : decode cX9_stale 41 = .ok (.iconst 0, 1) := by decide +kernel
theorem dX9_stale_42 : decode cX9_stale 42 = .ok (.istore_n 3, 1) := by decide +kernel
theorem dX9_stale_43 : decode cX9_stale 43 = .ok (.iload_n 1, 1) := by decide +kernel
theorem dX9_stale_44 : decode cX9_stale 44 = .ok (.iload_n 3, 1) := by decide +kernel
theorem dX9_stale_45 : decode cX9_stale 45 = .ok (.ifCond .ne 11, 3) := by decide +kernel
theorem dX9_stale_48 : decode cX9_stale 48 = .ok (.aload_n 0, 1) := by decide +kernel
theorem dX9_stale_49 : decode cX9_stale 49 = .ok (.iload_n 2, 1) := by decide +kernel
theorem dX9_stale_50 : decode cX9_stale 50 = .ok (.invokevirtual 217, 3) := by decide +kernel
theorem dX9_stale_53 : decode cX9_stale 53 = .ok (.ifCond .eq 9, 3) := by decide +kernel
theorem dX9_stale_56 : decode cX9_stale 56 = .ok (.iconst 1, 1) := by decide +kernel
theorem dX9_stale_57 : decode cX9_stale 57 = .ok (.iload_n 2, 1) := by decide +kernel
theorem dX9_stale_58 : decode cX9_stale 58 = .ok (.ishl, 1) := by decide +kernel
theorem dX9_stale_59 : decode cX9_stale 59 = .ok (.goto 4, 3) := by decide +kernel
theorem dX9_stale_62 : decode cX9_stale 62 = .ok (.iconst 0, 1) := by decide +kernel
theorem dX9_stale_63 : decode cX9_stale 63 = .ok (.ior, 1) := by decide +kernel
theorem dX9_stale_64 : decode cX9_stale 64 = .ok (.istore_n 1, 1) := by decide +kernel
theorem dX9_stale_65 : decode cX9_stale 65 = .ok (.iinc 2 1, 3) := by decide +kernel
theorem dX9_stale_68 : decode cX9_stale 68 = .ok (.goto (-64), 3) := by decide +kernel
theorem dX9_stale_71 : decode cX9_stale 71 = .ok (.iload_n 1, 1) := by decide +kernel
theorem dX9_stale_72 : decode cX9_stale 72 = .ok (.ireturn, 1) := by decide +kernel
theorem dX9_settles_0 : decode cX9_settles 0 = .ok (.aload_n 0, 1) := by decide +kernel
theorem dX9_settles_1 : decode cX9_settles 1 = .ok (.iload_n 1, 1) := by decide +kernel
theorem dX9_settles_2 : decode cX9_settles 2 = .ok (.invokevirtual 178, 3) := by decide +kernel
theorem dX9_settles_5 : decode cX9_settles 5 = .ok (.ifCond .eq 10, 3) := by decide +kernel
theorem dX9_settles_8 : decode cX9_settles 8 = .ok (.iload_n 2, 1) := by decide +kernel
theorem dX9_settles_9 : decode cX9_settles 9 = .ok (.invokestatic 81, 3) := by decide +kernel
theorem dX9_settles_12 : decode cX9_settles 12 = .ok (.ifCond .ne 5, 3) := by decide +kernel
theorem dX9_settles_15 : decode cX9_settles 15 = .ok (.iconst (-1), 1) := by decide +kernel
theorem dX9_settles_16 : decode cX9_settles 16 = .ok (.ireturn, 1) := by decide +kernel
theorem dX9_settles_17 : decode cX9_settles 17 = .ok (.aload_n 0, 1) := by decide +kernel
theorem dX9_settles_18 : decode cX9_settles 18 = .ok (.iload_n 1, 1) := by decide +kernel
theorem dX9_settles_19 : decode cX9_settles 19 = .ok (.bipush 13, 2) := by decide +kernel
theorem dX9_settles_21 : decode cX9_settles 21 = .ok (.invokevirtual 167, 3) := by decide +kernel
theorem dX9_settles_24 : decode cX9_settles 24 = .ok (.iconst 1, 1) := by decide +kernel
theorem dX9_settles_25 : decode cX9_settles 25 = .ok (.istore_n 3, 1) := by decide +kernel
theorem dX9_settles_26 : decode cX9_settles 26 = .ok (.iload_n 3, 1) := by decide +kernel
theorem dX9_settles_27 : decode cX9_settles 27 = .ok (.bipush 6, 2) := by decide +kernel
theorem dX9_settles_29 : decode cX9_settles 29 = .ok (.if_icmp .gt 45, 3) := by decide +kernel
theorem dX9_settles_32 : decode cX9_settles 32 = .ok (.aload_n 0, 1) := by decide +kernel
theorem dX9_settles_33 : decode cX9_settles 33 = .ok (.bipush 13, 2) := by decide +kernel
theorem dX9_settles_35 : decode cX9_settles 35 = .ok (.iload_n 2, 1) := by decide +kernel
theorem dX9_settles_36 : decode cX9_settles 36 = .ok (.bipush 14, 2) := by decide +kernel
theorem dX9_settles_38 : decode cX9_settles 38 = .ok (.invokevirtual 211, 3) := by decide +kernel
theorem dX9_settles_41 : decode cX9_settles 41 = .ok (.ifCond .eq 6, 3) := by decide +kernel
theorem dX9_settles_44 : decode cX9_settles 44 = .ok (.bipush (-9), 2) := by decide +kernel
theorem dX9_settles_46 : decode cX9_settles 46 = .ok (.ireturn, 1) := by decide +kernel
theorem dX9_settles_47 : decode cX9_settles 47 = .ok (.aload_n 0, 1) := by decide +kernel
theorem dX9_settles_48 : decode cX9_settles 48 = .ok (.bipush 13, 2) := by decide +kernel
theorem dX9_settles_50 : decode cX9_settles 50 = .ok (.bipush 14, 2) := by decide +kernel
theorem dX9_settles_52 : decode cX9_settles 52 = .ok (.invokevirtual 214, 3) := by decide +kernel
theorem dX9_settles_55 : decode cX9_settles 55 = .ok (.ifCond .ne 5, 3) := by decide +kernel
theorem dX9_settles_58 : decode cX9_settles 58 = .ok (.iload_n 3, 1) := by decide +kernel
theorem dX9_settles_59 : decode cX9_settles 59 = .ok (.ireturn, 1) := by decide +kernel
theorem dX9_settles_60 : decode cX9_settles 60 = .ok (.aload_n 0, 1) := by decide +kernel
theorem dX9_settles_61 : decode cX9_settles 61 = .ok (.bipush 14, 2) := by decide +kernel
theorem dX9_settles_63 : decode cX9_settles 63 = .ok (.bipush 13, 2) := by decide +kernel
theorem dX9_settles_65 : decode cX9_settles 65 = .ok (.invokevirtual 167, 3) := by decide +kernel
theorem dX9_settles_68 : decode cX9_settles 68 = .ok (.iinc 3 1, 3) := by decide +kernel
theorem dX9_settles_71 : decode cX9_settles 71 = .ok (.goto (-45), 3) := by decide +kernel
theorem dX9_settles_74 : decode cX9_settles 74 = .ok (.bipush (-9), 2) := by decide +kernel
theorem dX9_settles_76 : decode cX9_settles 76 = .ok (.ireturn, 1) := by decide +kernel
theorem dX9_goRound_0 : decode cX9_goRound 0 = .ok (.aload_n 0, 1) := by decide +kernel
theorem dX9_goRound_1 : decode cX9_goRound 1 = .ok (.iload_n 1, 1) := by decide +kernel
theorem dX9_goRound_2 : decode cX9_goRound 2 = .ok (.iload_n 3, 1) := by decide +kernel
theorem dX9_goRound_3 : decode cX9_goRound 3 = .ok (.bipush 12, 2) := by decide +kernel
theorem dX9_goRound_5 : decode cX9_goRound 5 = .ok (.invokevirtual 211, 3) := by decide +kernel
theorem dX9_goRound_8 : decode cX9_goRound 8 = .ok (.ifCond .ne 42, 3) := by decide +kernel
theorem dX9_goRound_11 : decode cX9_goRound 11 = .ok (.aload_n 0, 1) := by decide +kernel
theorem dX9_goRound_12 : decode cX9_goRound 12 = .ok (.bipush 12, 2) := by decide +kernel
theorem dX9_goRound_14 : decode cX9_goRound 14 = .ok (.iload_n 3, 1) := by decide +kernel
theorem dX9_goRound_15 : decode cX9_goRound 15 = .ok (.bipush 13, 2) := by decide +kernel
theorem dX9_goRound_17 : decode cX9_goRound 17 = .ok (.invokevirtual 211, 3) := by decide +kernel
theorem dX9_goRound_20 : decode cX9_goRound 20 = .ok (.ifCond .ne 30, 3) := by decide +kernel
theorem dX9_goRound_23 : decode cX9_goRound 23 = .ok (.aload_n 0, 1) := by decide +kernel
theorem dX9_goRound_24 : decode cX9_goRound 24 = .ok (.iload_n 2, 1) := by decide +kernel
theorem dX9_goRound_25 : decode cX9_goRound 25 = .ok (.iload_n 3, 1) := by decide +kernel
theorem dX9_goRound_26 : decode cX9_goRound 26 = .ok (.bipush 14, 2) := by decide +kernel
theorem dX9_goRound_28 : decode cX9_goRound 28 = .ok (.invokevirtual 211, 3) := by decide +kernel
theorem dX9_goRound_31 : decode cX9_goRound 31 = .ok (.ifCond .ne 19, 3) := by decide +kernel
theorem dX9_goRound_34 : decode cX9_goRound 34 = .ok (.aload_n 0, 1) := by decide +kernel
theorem dX9_goRound_35 : decode cX9_goRound 35 = .ok (.bipush 14, 2) := by decide +kernel
theorem dX9_goRound_37 : decode cX9_goRound 37 = .ok (.iload_n 3, 1) := by decide +kernel
theorem dX9_goRound_38 : decode cX9_goRound 38 = .ok (.bipush 15, 2) := by decide +kernel
theorem dX9_goRound_40 : decode cX9_goRound 40 = .ok (.invokevirtual 211, 3) := by decide +kernel
theorem dX9_goRound_43 : decode cX9_goRound 43 = .ok (.ifCond .ne 7, 3) := by decide +kernel
theorem dX9_goRound_46 : decode cX9_goRound 46 = .ok (.iconst 1, 1) := by decide +kernel
theorem dX9_goRound_47 : decode cX9_goRound 47 = .ok (.goto 4, 3) := by decide +kernel
theorem dX9_goRound_50 : decode cX9_goRound 50 = .ok (.iconst 0, 1) := by decide +kernel
theorem dX9_goRound_51 : decode cX9_goRound 51 = .ok (.istore 4, 2) := by decide +kernel
theorem dX9_goRound_53 : decode cX9_goRound 53 = .ok (.iload 4, 2) := by decide +kernel
theorem dX9_goRound_55 : decode cX9_goRound 55 = .ok (.ifCond .eq 14, 3) := by decide +kernel
theorem dX9_goRound_58 : decode cX9_goRound 58 = .ok (.aload_n 0, 1) := by decide +kernel
theorem dX9_goRound_59 : decode cX9_goRound 59 = .ok (.bipush 13, 2) := by decide +kernel
theorem dX9_goRound_61 : decode cX9_goRound 61 = .ok (.bipush 15, 2) := by decide +kernel
theorem dX9_goRound_63 : decode cX9_goRound 63 = .ok (.invokevirtual 214, 3) := by decide +kernel
theorem dX9_goRound_66 : decode cX9_goRound 66 = .ok (.goto 5, 3) := by decide +kernel
theorem dX9_goRound_69 : decode cX9_goRound 69 = .ok (.bipush (-2), 2) := by decide +kernel
theorem dX9_goRound_71 : decode cX9_goRound 71 = .ok (.ireturn, 1) := by decide +kernel
theorem dX9_round_0 : decode cX9_round 0 = .ok (.aload_n 0, 1) := by decide +kernel
theorem dX9_round_1 : decode cX9_round 1 = .ok (.iload_n 1, 1) := by decide +kernel
theorem dX9_round_2 : decode cX9_round 2 = .ok (.invokevirtual 178, 3) := by decide +kernel
theorem dX9_round_5 : decode cX9_round 5 = .ok (.ifCond .eq 28, 3) := by decide +kernel
theorem dX9_round_8 : decode cX9_round 8 = .ok (.aload_n 0, 1) := by decide +kernel
theorem dX9_round_9 : decode cX9_round 9 = .ok (.iload_n 2, 1) := by decide +kernel
theorem dX9_round_10 : decode cX9_round 10 = .ok (.invokevirtual 178, 3) := by decide +kernel
theorem dX9_round_13 : decode cX9_round 13 = .ok (.ifCond .eq 20, 3) := by decide +kernel
theorem dX9_round_16 : decode cX9_round 16 = .ok (.iload_n 3, 1) := by decide +kernel
theorem dX9_round_17 : decode cX9_round 17 = .ok (.invokestatic 81, 3) := by decide +kernel
theorem dX9_round_20 : decode cX9_round 20 = .ok (.ifCond .eq 13, 3) := by decide +kernel
theorem dX9_round_23 : decode cX9_round 23 = .ok (.aload_n 0, 1) := by decide +kernel
theorem dX9_round_24 : decode cX9_round 24 = .ok (.iload_n 1, 1) := by decide +kernel
theorem dX9_round_25 : decode cX9_round 25 = .ok (.iload_n 2, 1) := by decide +kernel
theorem dX9_round_26 : decode cX9_round 26 = .ok (.iload_n 3, 1) := by decide +kernel
theorem dX9_round_27 : decode cX9_round 27 = .ok (.invokevirtual 220, 3) := by decide +kernel
theorem dX9_round_30 : decode cX9_round 30 = .ok (.goto 4, 3) := by decide +kernel
theorem dX9_round_33 : decode cX9_round 33 = .ok (.iconst (-1), 1) := by decide +kernel
theorem dX9_round_34 : decode cX9_round 34 = .ok (.ireturn, 1) := by decide +kernel
theorem dX9_hides_0 : decode cX9_hides 0 = .ok (.aload_n 0, 1) := by decide +kernel
theorem dX9_hides_1 : decode cX9_hides 1 = .ok (.iload_n 1, 1) := by decide +kernel
theorem dX9_hides_2 : decode cX9_hides 2 = .ok (.invokevirtual 178, 3) := by decide +kernel
theorem dX9_hides_5 : decode cX9_hides 5 = .ok (.ifCond .eq 18, 3) := by decide +kernel
theorem dX9_hides_8 : decode cX9_hides 8 = .ok (.aload_n 0, 1) := by decide +kernel
theorem dX9_hides_9 : decode cX9_hides 9 = .ok (.iload_n 2, 1) := by decide +kernel
theorem dX9_hides_10 : decode cX9_hides 10 = .ok (.invokevirtual 178, 3) := by decide +kernel
theorem dX9_hides_13 : decode cX9_hides 13 = .ok (.ifCond .eq 10, 3) := by decide +kernel
theorem dX9_hides_16 : decode cX9_hides 16 = .ok (.iload_n 3, 1) := by decide +kernel
theorem dX9_hides_17 : decode cX9_hides 17 = .ok (.invokestatic 81, 3) := by decide +kernel
theorem dX9_hides_20 : decode cX9_hides 20 = .ok (.ifCond .ne 5, 3) := by decide +kernel
theorem dX9_hides_23 : decode cX9_hides 23 = .ok (.iconst (-1), 1) := by decide +kernel
theorem dX9_hides_24 : decode cX9_hides 24 = .ok (.ireturn, 1) := by decide +kernel
theorem dX9_hides_25 : decode cX9_hides 25 = .ok (.aload_n 0, 1) := by decide +kernel
theorem dX9_hides_26 : decode cX9_hides 26 = .ok (.iload_n 1, 1) := by decide +kernel
theorem dX9_hides_27 : decode cX9_hides 27 = .ok (.iload_n 2, 1) := by decide +kernel
theorem dX9_hides_28 : decode cX9_hides 28 = .ok (.iload_n 3, 1) := by decide +kernel
theorem dX9_hides_29 : decode cX9_hides 29 = .ok (.invokevirtual 220, 3) := by decide +kernel
theorem dX9_hides_32 : decode cX9_hides 32 = .ok (.istore 4, 2) := by decide +kernel
theorem dX9_hides_34 : decode cX9_hides 34 = .ok (.iload 4, 2) := by decide +kernel
theorem dX9_hides_36 : decode cX9_hides 36 = .ok (.ifCond .ge 8, 3) := by decide +kernel
theorem dX9_hides_39 : decode cX9_hides 39 = .ok (.bipush (-2), 2) := by decide +kernel
theorem dX9_hides_41 : decode cX9_hides 41 = .ok (.goto 23, 3) := by decide +kernel
theorem dX9_hides_44 : decode cX9_hides 44 = .ok (.iload 4, 2) := by decide +kernel
theorem dX9_hides_46 : decode cX9_hides 46 = .ok (.ifCond .le 17, 3) := by decide +kernel
theorem dX9_hides_49 : decode cX9_hides 49 = .ok (.aload_n 0, 1) := by decide +kernel
theorem dX9_hides_50 : decode cX9_hides 50 = .ok (.iload_n 1, 1) := by decide +kernel
theorem dX9_hides_51 : decode cX9_hides 51 = .ok (.bipush 12, 2) := by decide +kernel
theorem dX9_hides_53 : decode cX9_hides 53 = .ok (.invokevirtual 214, 3) := by decide +kernel
theorem dX9_hides_56 : decode cX9_hides 56 = .ok (.ifCond .ne 7, 3) := by decide +kernel
theorem dX9_hides_59 : decode cX9_hides 59 = .ok (.iconst 1, 1) := by decide +kernel
theorem dX9_hides_60 : decode cX9_hides 60 = .ok (.goto 4, 3) := by decide +kernel
theorem dX9_hides_63 : decode cX9_hides 63 = .ok (.iconst 0, 1) := by decide +kernel
theorem dX9_hides_64 : decode cX9_hides 64 = .ok (.ireturn, 1) := by decide +kernel
theorem dX9_check_0 : decode cX9_check 0 = .ok (.aload_n 0, 1) := by decide +kernel
theorem dX9_check_1 : decode cX9_check 1 = .ok (.iload_n 1, 1) := by decide +kernel
theorem dX9_check_2 : decode cX9_check 2 = .ok (.invokevirtual 178, 3) := by decide +kernel
theorem dX9_check_5 : decode cX9_check 5 = .ok (.ifCond .eq 12, 3) := by decide +kernel
theorem dX9_check_8 : decode cX9_check 8 = .ok (.iload_n 2, 1) := by decide +kernel
theorem dX9_check_9 : decode cX9_check 9 = .ok (.iconst 0, 1) := by decide +kernel
theorem dX9_check_10 : decode cX9_check 10 = .ok (.iconst 1, 1) := by decide +kernel
theorem dX9_check_11 : decode cX9_check 11 = .ok (.invokestatic 75, 3) := by decide +kernel
theorem dX9_check_14 : decode cX9_check 14 = .ok (.ifCond .ne 5, 3) := by decide +kernel
theorem dX9_check_17 : decode cX9_check 17 = .ok (.iconst (-1), 1) := by decide +kernel
theorem dX9_check_18 : decode cX9_check 18 = .ok (.ireturn, 1) := by decide +kernel
theorem dX9_check_19 : decode cX9_check 19 = .ok (.aload_n 0, 1) := by decide +kernel
theorem dX9_check_20 : decode cX9_check 20 = .ok (.getfield 29, 3) := by decide +kernel
theorem dX9_check_23 : decode cX9_check 23 = .ok (.iload_n 1, 1) := by decide +kernel
theorem dX9_check_24 : decode cX9_check 24 = .ok (.iaload, 1) := by decide +kernel
theorem dX9_check_25 : decode cX9_check 25 = .ok (.ifCond .eq 6, 3) := by decide +kernel
theorem dX9_check_28 : decode cX9_check 28 = .ok (.bipush (-2), 2) := by decide +kernel
theorem dX9_check_30 : decode cX9_check 30 = .ok (.ireturn, 1) := by decide +kernel
theorem dX9_check_31 : decode cX9_check 31 = .ok (.aload_n 0, 1) := by decide +kernel
theorem dX9_check_32 : decode cX9_check 32 = .ok (.getfield 38, 3) := by decide +kernel
theorem dX9_check_35 : decode cX9_check 35 = .ok (.iload_n 1, 1) := by decide +kernel
theorem dX9_check_36 : decode cX9_check 36 = .ok (.iaload, 1) := by decide +kernel
theorem dX9_check_37 : decode cX9_check 37 = .ok (.istore_n 3, 1) := by decide +kernel
theorem dX9_check_38 : decode cX9_check 38 = .ok (.aload_n 0, 1) := by decide +kernel
theorem dX9_check_39 : decode cX9_check 39 = .ok (.getfield 38, 3) := by decide +kernel
theorem dX9_check_42 : decode cX9_check 42 = .ok (.iload_n 1, 1) := by decide +kernel
theorem dX9_check_43 : decode cX9_check 43 = .ok (.iload_n 2, 1) := by decide +kernel
theorem dX9_check_44 : decode cX9_check 44 = .ok (.iastore, 1) := by decide +kernel
theorem dX9_check_45 : decode cX9_check 45 = .ok (.iload_n 3, 1) := by decide +kernel
theorem dX9_check_46 : decode cX9_check 46 = .ok (.ireturn, 1) := by decide +kernel
theorem dX9_lengthOf_0 : decode cX9_lengthOf 0 = .ok (.iconst 0, 1) := by decide +kernel
theorem dX9_lengthOf_1 : decode cX9_lengthOf 1 = .ok (.istore_n 2, 1) := by decide +kernel
theorem dX9_lengthOf_2 : decode cX9_lengthOf 2 = .ok (.iload_n 1, 1) := by decide +kernel
theorem dX9_lengthOf_3 : decode cX9_lengthOf 3 = .ok (.istore_n 3, 1) := by decide +kernel
theorem dX9_lengthOf_4 : decode cX9_lengthOf 4 = .ok (.iload_n 3, 1) := by decide +kernel
theorem dX9_lengthOf_5 : decode cX9_lengthOf 5 = .ok (.bipush (-9), 2) := by decide +kernel
theorem dX9_lengthOf_7 : decode cX9_lengthOf 7 = .ok (.if_icmp .eq 16, 3) := by decide +kernel
theorem dX9_lengthOf_10 : decode cX9_lengthOf 10 = .ok (.iinc 2 1, 3) := by decide +kernel
theorem dX9_lengthOf_13 : decode cX9_lengthOf 13 = .ok (.aload_n 0, 1) := by decide +kernel
theorem dX9_lengthOf_14 : decode cX9_lengthOf 14 = .ok (.getfield 35, 3) := by decide +kernel
theorem dX9_lengthOf_17 : decode cX9_lengthOf 17 = .ok (.iload_n 3, 1) := by decide +kernel
theorem dX9_lengthOf_18 : decode cX9_lengthOf 18 = .ok (.iaload, 1) := by decide +kernel
theorem dX9_lengthOf_19 : decode cX9_lengthOf 19 = .ok (.istore_n 3, 1) := by decide +kernel
theorem dX9_lengthOf_20 : decode cX9_lengthOf 20 = .ok (.goto (-16), 3) := by decide +kernel
theorem dX9_lengthOf_23 : decode cX9_lengthOf 23 = .ok (.iload_n 2, 1) := by decide +kernel
theorem dX9_lengthOf_24 : decode cX9_lengthOf 24 = .ok (.ireturn, 1) := by decide +kernel
theorem dX9_last_0 : decode cX9_last 0 = .ok (.iload_n 1, 1) := by decide +kernel
theorem dX9_last_1 : decode cX9_last 1 = .ok (.istore_n 2, 1) := by decide +kernel
theorem dX9_last_2 : decode cX9_last 2 = .ok (.aload_n 0, 1) := by decide +kernel
theorem dX9_last_3 : decode cX9_last 3 = .ok (.getfield 35, 3) := by decide +kernel
theorem dX9_last_6 : decode cX9_last 6 = .ok (.iload_n 2, 1) := by decide +kernel
theorem dX9_last_7 : decode cX9_last 7 = .ok (.iaload, 1) := by decide +kernel
theorem dX9_last_8 : decode cX9_last 8 = .ok (.bipush (-9), 2) := by decide +kernel
theorem dX9_last_10 : decode cX9_last 10 = .ok (.if_icmp .eq 13, 3) := by decide +kernel
theorem dX9_last_13 : decode cX9_last 13 = .ok (.aload_n 0, 1) := by decide +kernel
theorem dX9_last_14 : decode cX9_last 14 = .ok (.getfield 35, 3) := by decide +kernel
theorem dX9_last_17 : decode cX9_last 17 = .ok (.iload_n 2, 1) := by decide +kernel
theorem dX9_last_18 : decode cX9_last 18 = .ok (.iaload, 1) := by decide +kernel
theorem dX9_last_19 : decode cX9_last 19 = .ok (.istore_n 2, 1) := by decide +kernel
theorem dX9_last_20 : decode cX9_last 20 = .ok (.goto (-18), 3) := by decide +kernel
theorem dX9_last_23 : decode cX9_last 23 = .ok (.iload_n 2, 1) := by decide +kernel
theorem dX9_last_24 : decode cX9_last 24 = .ok (.ireturn, 1) := by decide +kernel
theorem dX9_chain_0 : decode cX9_chain 0 = .ok (.aload_n 0, 1) := by decide +kernel
theorem dX9_chain_1 : decode cX9_chain 1 = .ok (.iload_n 1, 1) := by decide +kernel
theorem dX9_chain_2 : decode cX9_chain 2 = .ok (.invokevirtual 178, 3) := by decide +kernel
theorem dX9_chain_5 : decode cX9_chain 5 = .ok (.ifCond .eq 18, 3) := by decide +kernel
theorem dX9_chain_8 : decode cX9_chain 8 = .ok (.iload_n 2, 1) := by decide +kernel
theorem dX9_chain_9 : decode cX9_chain 9 = .ok (.iconst (-1), 1) := by decide +kernel
theorem dX9_chain_10 : decode cX9_chain 10 = .ok (.aload_n 0, 1) := by decide +kernel
theorem dX9_chain_11 : decode cX9_chain 11 = .ok (.iload_n 1, 1) := by decide +kernel
theorem dX9_chain_12 : decode cX9_chain 12 = .ok (.invokevirtual 223, 3) := by decide +kernel
theorem dX9_chain_15 : decode cX9_chain 15 = .ok (.iconst 1, 1) := by decide +kernel
theorem dX9_chain_16 : decode cX9_chain 16 = .ok (.isub, 1) := by decide +kernel
theorem dX9_chain_17 : decode cX9_chain 17 = .ok (.invokestatic 75, 3) := by decide +kernel
theorem dX9_chain_20 : decode cX9_chain 20 = .ok (.ifCond .ne 5, 3) := by decide +kernel
theorem dX9_chain_23 : decode cX9_chain 23 = .ok (.iconst (-1), 1) := by decide +kernel
theorem dX9_chain_24 : decode cX9_chain 24 = .ok (.ireturn, 1) := by decide +kernel
theorem dX9_chain_25 : decode cX9_chain 25 = .ok (.iload_n 1, 1) := by decide +kernel
theorem dX9_chain_26 : decode cX9_chain 26 = .ok (.istore_n 3, 1) := by decide +kernel
theorem dX9_chain_27 : decode cX9_chain 27 = .ok (.iconst 0, 1) := by decide +kernel
theorem dX9_chain_28 : decode cX9_chain 28 = .ok (.istore 4, 2) := by decide +kernel
theorem dX9_chain_30 : decode cX9_chain 30 = .ok (.iload 4, 2) := by decide +kernel
theorem dX9_chain_32 : decode cX9_chain 32 = .ok (.iload_n 2, 1) := by decide +kernel
theorem dX9_chain_33 : decode cX9_chain 33 = .ok (.if_icmp .ge 16, 3) := by decide +kernel
theorem dX9_chain_36 : decode cX9_chain 36 = .ok (.aload_n 0, 1) := by decide +kernel
theorem dX9_chain_37 : decode cX9_chain 37 = .ok (.getfield 35, 3) := by decide +kernel
theorem dX9_chain_40 : decode cX9_chain 40 = .ok (.iload_n 3, 1) := by decide +kernel
theorem dX9_chain_41 : decode cX9_chain 41 = .ok (.iaload, 1) := by decide +kernel
theorem dX9_chain_42 : decode cX9_chain 42 = .ok (.istore_n 3, 1) := by decide +kernel
theorem dX9_chain_43 : decode cX9_chain 43 = .ok (.iinc 4 1, 3) := by decide +kernel
theorem dX9_chain_46 : decode cX9_chain 46 = .ok (.goto (-16), 3) := by decide +kernel
theorem dX9_chain_49 : decode cX9_chain 49 = .ok (.iload_n 2, 1) := by decide +kernel
theorem dX9_chain_50 : decode cX9_chain 50 = .ok (.ifCond .ge 11, 3) := by decide +kernel
theorem dX9_chain_53 : decode cX9_chain 53 = .ok (.aload_n 0, 1) := by decide +kernel
theorem dX9_chain_54 : decode cX9_chain 54 = .ok (.iload_n 1, 1) := by decide +kernel
theorem dX9_chain_55 : decode cX9_chain 55 = .ok (.invokevirtual 223, 3) := by decide +kernel
theorem dX9_chain_58 : decode cX9_chain 58 = .ok (.goto 4, 3) := by decide +kernel
theorem dX9_chain_61 : decode cX9_chain 61 = .ok (.iload_n 3, 1) := by decide +kernel
theorem dX9_chain_62 : decode cX9_chain 62 = .ok (.ireturn, 1) := by decide +kernel
theorem dX9_sealedOnes_0 : decode cX9_sealedOnes 0 = .ok (.aload_n 0, 1) := by decide +kernel
theorem dX9_sealedOnes_1 : decode cX9_sealedOnes 1 = .ok (.invokevirtual 226, 3) := by decide +kernel
theorem dX9_sealedOnes_4 : decode cX9_sealedOnes 4 = .ok (.istore_n 1, 1) := by decide +kernel
theorem dX9_sealedOnes_5 : decode cX9_sealedOnes 5 = .ok (.iconst 0, 1) := by decide +kernel
theorem dX9_sealedOnes_6 : decode cX9_sealedOnes 6 = .ok (.istore_n 2, 1) := by decide +kernel
theorem dX9_sealedOnes_7 : decode cX9_sealedOnes 7 = .ok (.iconst 0, 1) := by decide +kernel
theorem dX9_sealedOnes_8 : decode cX9_sealedOnes 8 = .ok (.istore_n 3, 1) := by decide +kernel
theorem dX9_sealedOnes_9 : decode cX9_sealedOnes 9 = .ok (.iload_n 3, 1) := by decide +kernel
theorem dX9_sealedOnes_10 : decode cX9_sealedOnes 10 = .ok (.aload_n 0, 1) := by decide +kernel
theorem dX9_sealedOnes_11 : decode cX9_sealedOnes 11 = .ok (.getfield 85, 3) := by decide +kernel
theorem dX9_sealedOnes_14 : decode cX9_sealedOnes 14 = .ok (.if_icmp .ge 41, 3) := by decide +kernel
theorem dX9_sealedOnes_17 : decode cX9_sealedOnes 17 = .ok (.iload_n 2, 1) := by decide +kernel
theorem dX9_sealedOnes_18 : decode cX9_sealedOnes 18 = .ok (.iload_n 1, 1) := by decide +kernel
theorem dX9_sealedOnes_19 : decode cX9_sealedOnes 19 = .ok (.iload_n 3, 1) := by decide +kernel
theorem dX9_sealedOnes_20 : decode cX9_sealedOnes 20 = .ok (.ishr, 1) := by decide +kernel
theorem dX9_sealedOnes_21 : decode cX9_sealedOnes 21 = .ok (.iconst 1, 1) := by decide +kernel
theorem dX9_sealedOnes_22 : decode cX9_sealedOnes 22 = .ok (.iand, 1) := by decide +kernel
theorem dX9_sealedOnes_23 : decode cX9_sealedOnes 23 = .ok (.ifCond .ne 23, 3) := by decide +kernel
theorem dX9_sealedOnes_26 : decode cX9_sealedOnes 26 = .ok (.aload_n 0, 1) := by decide +kernel
theorem dX9_sealedOnes_27 : decode cX9_sealedOnes 27 = .ok (.getfield 38, 3) := by decide +kernel
theorem dX9_sealedOnes_30 : decode cX9_sealedOnes 30 = .ok (.aload_n 0, 1) := by decide +kernel
theorem dX9_sealedOnes_31 : decode cX9_sealedOnes 31 = .ok (.iload_n 3, 1) := by decide +kernel
theorem dX9_sealedOnes_32 : decode cX9_sealedOnes 32 = .ok (.invokevirtual 229, 3) := by decide +kernel
theorem dX9_sealedOnes_35 : decode cX9_sealedOnes 35 = .ok (.iaload, 1) := by decide +kernel
theorem dX9_sealedOnes_36 : decode cX9_sealedOnes 36 = .ok (.iconst 1, 1) := by decide +kernel
theorem dX9_sealedOnes_37 : decode cX9_sealedOnes 37 = .ok (.if_icmp .ne 9, 3) := by decide +kernel
theorem dX9_sealedOnes_40 : decode cX9_sealedOnes 40 = .ok (.iconst 1, 1) := by decide +kernel
theorem dX9_sealedOnes_41 : decode cX9_sealedOnes 41 = .ok (.iload_n 3, 1) := by decide +kernel
theorem dX9_sealedOnes_42 : decode cX9_sealedOnes 42 = .ok (.ishl, 1) := by decide +kernel
theorem dX9_sealedOnes_43 : decode cX9_sealedOnes 43 = .ok (.goto 4, 3) := by decide +kernel
theorem dX9_sealedOnes_46 : decode cX9_sealedOnes 46 = .ok (.iconst 0, 1) := by decide +kernel
theorem dX9_sealedOnes_47 : decode cX9_sealedOnes 47 = .ok (.ior, 1) := by decide +kernel
theorem dX9_sealedOnes_48 : decode cX9_sealedOnes 48 = .ok (.istore_n 2, 1) := by decide +kernel
theorem dX9_sealedOnes_49 : decode cX9_sealedOnes 49 = .ok (.iinc 3 1, 3) := by decide +kernel
theorem dX9_sealedOnes_52 : decode cX9_sealedOnes 52 = .ok (.goto (-43), 3) := by decide +kernel
theorem dX9_sealedOnes_55 : decode cX9_sealedOnes 55 = .ok (.iload_n 2, 1) := by decide +kernel
theorem dX9_sealedOnes_56 : decode cX9_sealedOnes 56 = .ok (.ireturn, 1) := by decide +kernel
theorem dX9_sealed_0 : decode cX9_sealed 0 = .ok (.aload_n 0, 1) := by decide +kernel
theorem dX9_sealed_1 : decode cX9_sealed 1 = .ok (.iload_n 1, 1) := by decide +kernel
theorem dX9_sealed_2 : decode cX9_sealed 2 = .ok (.invokevirtual 178, 3) := by decide +kernel
theorem dX9_sealed_5 : decode cX9_sealed 5 = .ok (.ifCond .eq 14, 3) := by decide +kernel
theorem dX9_sealed_8 : decode cX9_sealed 8 = .ok (.aload_n 0, 1) := by decide +kernel
theorem dX9_sealed_9 : decode cX9_sealed 9 = .ok (.invokevirtual 232, 3) := by decide +kernel
theorem dX9_sealed_12 : decode cX9_sealed 12 = .ok (.iload_n 1, 1) := by decide +kernel
theorem dX9_sealed_13 : decode cX9_sealed 13 = .ok (.ishr, 1) := by decide +kernel
theorem dX9_sealed_14 : decode cX9_sealed 14 = .ok (.iconst 1, 1) := by decide +kernel
theorem dX9_sealed_15 : decode cX9_sealed 15 = .ok (.iand, 1) := by decide +kernel
theorem dX9_sealed_16 : decode cX9_sealed 16 = .ok (.goto 4, 3) := by decide +kernel
theorem dX9_sealed_19 : decode cX9_sealed 19 = .ok (.iconst (-1), 1) := by decide +kernel
theorem dX9_sealed_20 : decode cX9_sealed 20 = .ok (.ireturn, 1) := by decide +kernel
theorem dX9_least_0 : decode cX9_least 0 = .ok (.iload_n 1, 1) := by decide +kernel
theorem dX9_least_1 : decode cX9_least 1 = .ok (.iconst 0, 1) := by decide +kernel
theorem dX9_least_2 : decode cX9_least 2 = .ok (.iconst 1, 1) := by decide +kernel
theorem dX9_least_3 : decode cX9_least 3 = .ok (.aload_n 0, 1) := by decide +kernel
theorem dX9_least_4 : decode cX9_least 4 = .ok (.getfield 85, 3) := by decide +kernel
theorem dX9_least_7 : decode cX9_least 7 = .ok (.ishl, 1) := by decide +kernel
theorem dX9_least_8 : decode cX9_least 8 = .ok (.iconst 1, 1) := by decide +kernel
theorem dX9_least_9 : decode cX9_least 9 = .ok (.isub, 1) := by decide +kernel
theorem dX9_least_10 : decode cX9_least 10 = .ok (.invokestatic 75, 3) := by decide +kernel
theorem dX9_least_13 : decode cX9_least 13 = .ok (.ifCond .ne 5, 3) := by decide +kernel
theorem dX9_least_16 : decode cX9_least 16 = .ok (.iconst (-1), 1) := by decide +kernel
theorem dX9_least_17 : decode cX9_least 17 = .ok (.ireturn, 1) := by decide +kernel
theorem dX9_least_18 : decode cX9_least 18 = .ok (.aload_n 0, 1) := by decide +kernel
theorem dX9_least_19 : decode cX9_least 19 = .ok (.invokevirtual 226, 3) := by decide +kernel
theorem dX9_least_22 : decode cX9_least 22 = .ok (.istore_n 2, 1) := by decide +kernel
theorem dX9_least_23 : decode cX9_least 23 = .ok (.iconst 0, 1) := by decide +kernel
theorem dX9_least_24 : decode cX9_least 24 = .ok (.istore_n 3, 1) := by decide +kernel
theorem dX9_least_25 : decode cX9_least 25 = .ok (.iconst 0, 1) := by decide +kernel
theorem dX9_least_26 : decode cX9_least 26 = .ok (.istore 4, 2) := by decide +kernel
theorem dX9_least_28 : decode cX9_least 28 = .ok (.iload 4, 2) := by decide +kernel
theorem dX9_least_30 : decode cX9_least 30 = .ok (.aload_n 0, 1) := by decide +kernel
theorem dX9_least_31 : decode cX9_least 31 = .ok (.getfield 85, 3) := by decide +kernel
theorem dX9_least_34 : decode cX9_least 34 = .ok (.if_icmp .ge 78, 3) := by decide +kernel
theorem dX9_least_37 : decode cX9_least 37 = .ok (.iload_n 1, 1) := by decide +kernel
theorem dX9_least_38 : decode cX9_least 38 = .ok (.iload_n 2, 1) := by decide +kernel
theorem dX9_least_39 : decode cX9_least 39 = .ok (.iconst (-1), 1) := by decide +kernel
theorem dX9_least_40 : decode cX9_least 40 = .ok (.ixor, 1) := by decide +kernel
theorem dX9_least_41 : decode cX9_least 41 = .ok (.iand, 1) := by decide +kernel
theorem dX9_least_42 : decode cX9_least 42 = .ok (.iload 4, 2) := by decide +kernel
theorem dX9_least_44 : decode cX9_least 44 = .ok (.ishr, 1) := by decide +kernel
theorem dX9_least_45 : decode cX9_least 45 = .ok (.iconst 1, 1) := by decide +kernel
theorem dX9_least_46 : decode cX9_least 46 = .ok (.iand, 1) := by decide +kernel
theorem dX9_least_47 : decode cX9_least 47 = .ok (.iconst 1, 1) := by decide +kernel
theorem dX9_least_48 : decode cX9_least 48 = .ok (.if_icmp .ne 7, 3) := by decide +kernel
theorem dX9_least_51 : decode cX9_least 51 = .ok (.iconst 1, 1) := by decide +kernel
theorem dX9_least_52 : decode cX9_least 52 = .ok (.goto 4, 3) := by decide +kernel
theorem dX9_least_55 : decode cX9_least 55 = .ok (.iconst 0, 1) := by decide +kernel
theorem dX9_least_56 : decode cX9_least 56 = .ok (.istore 5, 2) := by decide +kernel
theorem dX9_least_58 : decode cX9_least 58 = .ok (.iload_n 3, 1) := by decide +kernel
theorem dX9_least_59 : decode cX9_least 59 = .ok (.iload 5, 2) := by decide +kernel
theorem dX9_least_61 : decode cX9_least 61 = .ok (.ifCond .eq 42, 3) := by decide +kernel
theorem dX9_least_64 : decode cX9_least 64 = .ok (.aload_n 0, 1) := by decide +kernel
theorem dX9_least_65 : decode cX9_least 65 = .ok (.getfield 29, 3) := by decide +kernel
theorem dX9_least_68 : decode cX9_least 68 = .ok (.aload_n 0, 1) := by decide +kernel
theorem dX9_least_69 : decode cX9_least 69 = .ok (.iload 4, 2) := by decide +kernel
theorem dX9_least_71 : decode cX9_least 71 = .ok (.invokevirtual 229, 3) := by decide +kernel
theorem dX9_least_74 : decode cX9_least 74 = .ok (.iaload, 1) := by decide +kernel
theorem dX9_least_75 : decode cX9_least 75 = .ok (.ifCond .ne 28, 3) := by decide +kernel
theorem dX9_least_78 : decode cX9_least 78 = .ok (.aload_n 0, 1) := by decide +kernel
theorem dX9_least_79 : decode cX9_least 79 = .ok (.getfield 38, 3) := by decide +kernel
theorem dX9_least_82 : decode cX9_least 82 = .ok (.aload_n 0, 1) := by decide +kernel
theorem dX9_least_83 : decode cX9_least 83 = .ok (.iload 4, 2) := by decide +kernel
theorem dX9_least_85 : decode cX9_least 85 = .ok (.invokevirtual 229, 3) := by decide +kernel
theorem dX9_least_88 : decode cX9_least 88 = .ok (.iaload, 1) := by decide +kernel
theorem dX9_least_89 : decode cX9_least 89 = .ok (.ifCond .ne 14, 3) := by decide +kernel
theorem dX9_least_92 : decode cX9_least 92 = .ok (.iconst 1, 1) := by decide +kernel
theorem dX9_least_93 : decode cX9_least 93 = .ok (.aload_n 0, 1) := by decide +kernel
theorem dX9_least_94 : decode cX9_least 94 = .ok (.iload 4, 2) := by decide +kernel
theorem dX9_least_96 : decode cX9_least 96 = .ok (.invokevirtual 229, 3) := by decide +kernel
theorem dX9_least_99 : decode cX9_least 99 = .ok (.ishl, 1) := by decide +kernel
theorem dX9_least_100 : decode cX9_least 100 = .ok (.goto 4, 3) := by decide +kernel
theorem dX9_least_103 : decode cX9_least 103 = .ok (.iconst 0, 1) := by decide +kernel
theorem dX9_least_104 : decode cX9_least 104 = .ok (.ior, 1) := by decide +kernel
theorem dX9_least_105 : decode cX9_least 105 = .ok (.istore_n 3, 1) := by decide +kernel
theorem dX9_least_106 : decode cX9_least 106 = .ok (.iinc 4 1, 3) := by decide +kernel
theorem dX9_least_109 : decode cX9_least 109 = .ok (.goto (-81), 3) := by decide +kernel
theorem dX9_least_112 : decode cX9_least 112 = .ok (.iload_n 3, 1) := by decide +kernel
theorem dX9_least_113 : decode cX9_least 113 = .ok (.ireturn, 1) := by decide +kernel
theorem dX9_same_0 : decode cX9_same 0 = .ok (.aload_n 0, 1) := by decide +kernel
theorem dX9_same_1 : decode cX9_same 1 = .ok (.iload_n 1, 1) := by decide +kernel
theorem dX9_same_2 : decode cX9_same 2 = .ok (.invokevirtual 178, 3) := by decide +kernel
theorem dX9_same_5 : decode cX9_same 5 = .ok (.ifCond .eq 20, 3) := by decide +kernel
theorem dX9_same_8 : decode cX9_same 8 = .ok (.aload_n 0, 1) := by decide +kernel
theorem dX9_same_9 : decode cX9_same 9 = .ok (.iload_n 2, 1) := by decide +kernel
theorem dX9_same_10 : decode cX9_same 10 = .ok (.invokevirtual 178, 3) := by decide +kernel
theorem dX9_same_13 : decode cX9_same 13 = .ok (.ifCond .eq 12, 3) := by decide +kernel
theorem dX9_same_16 : decode cX9_same 16 = .ok (.aload_n 0, 1) := by decide +kernel
theorem dX9_same_17 : decode cX9_same 17 = .ok (.iload_n 1, 1) := by decide +kernel
theorem dX9_same_18 : decode cX9_same 18 = .ok (.iload_n 2, 1) := by decide +kernel
theorem dX9_same_19 : decode cX9_same 19 = .ok (.invokevirtual 214, 3) := by decide +kernel
theorem dX9_same_22 : decode cX9_same 22 = .ok (.goto 4, 3) := by decide +kernel
theorem dX9_same_25 : decode cX9_same 25 = .ok (.iconst (-1), 1) := by decide +kernel
theorem dX9_same_26 : decode cX9_same 26 = .ok (.ireturn, 1) := by decide +kernel
theorem dX9_edition_0 : decode cX9_edition 0 = .ok (.iload_n 1, 1) := by decide +kernel
theorem dX9_edition_1 : decode cX9_edition 1 = .ok (.iconst 0, 1) := by decide +kernel
theorem dX9_edition_2 : decode cX9_edition 2 = .ok (.ldc 235, 2) := by decide +kernel
theorem dX9_edition_4 : decode cX9_edition 4 = .ok (.invokestatic 75, 3) := by decide +kernel
theorem dX9_edition_7 : decode cX9_edition 7 = .ok (.ifCond .eq 13, 3) := by decide +kernel
theorem dX9_edition_10 : decode cX9_edition 10 = .ok (.iload_n 2, 1) := by decide +kernel
theorem dX9_edition_11 : decode cX9_edition 11 = .ok (.iconst 0, 1) := by decide +kernel
theorem dX9_edition_12 : decode cX9_edition 12 = .ok (.ldc 235, 2) := by decide +kernel
theorem dX9_edition_14 : decode cX9_edition 14 = .ok (.invokestatic 75, 3) := by decide +kernel
theorem dX9_edition_17 : decode cX9_edition 17 = .ok (.ifCond .ne 5, 3) := by decide +kernel
theorem dX9_edition_20 : decode cX9_edition 20 = .ok (.iconst (-1), 1) := by decide +kernel
theorem dX9_edition_21 : decode cX9_edition 21 = .ok (.ireturn, 1) := by decide +kernel
theorem dX9_edition_22 : decode cX9_edition 22 = .ok (.aload_n 0, 1) := by decide +kernel
theorem dX9_edition_23 : decode cX9_edition 23 = .ok (.getfield 236, 3) := by decide +kernel
theorem dX9_edition_26 : decode cX9_edition 26 = .ok (.bipush 12, 2) := by decide +kernel
theorem dX9_edition_28 : decode cX9_edition 28 = .ok (.if_icmp .ne 6, 3) := by decide +kernel
theorem dX9_edition_31 : decode cX9_edition 31 = .ok (.bipush (-3), 2) := by decide +kernel
theorem dX9_edition_33 : decode cX9_edition 33 = .ok (.ireturn, 1) := by decide +kernel
theorem dX9_edition_34 : decode cX9_edition 34 = .ok (.aload_n 0, 1) := by decide +kernel
theorem dX9_edition_35 : decode cX9_edition 35 = .ok (.getfield 62, 3) := by decide +kernel
theorem dX9_edition_38 : decode cX9_edition 38 = .ok (.aload_n 0, 1) := by decide +kernel
theorem dX9_edition_39 : decode cX9_edition 39 = .ok (.getfield 236, 3) := by decide +kernel
theorem dX9_edition_42 : decode cX9_edition 42 = .ok (.iload_n 1, 1) := by decide +kernel
theorem dX9_edition_43 : decode cX9_edition 43 = .ok (.iastore, 1) := by decide +kernel
theorem dX9_edition_44 : decode cX9_edition 44 = .ok (.aload_n 0, 1) := by decide +kernel
theorem dX9_edition_45 : decode cX9_edition 45 = .ok (.getfield 65, 3) := by decide +kernel
theorem dX9_edition_48 : decode cX9_edition 48 = .ok (.aload_n 0, 1) := by decide +kernel
theorem dX9_edition_49 : decode cX9_edition 49 = .ok (.getfield 236, 3) := by decide +kernel
theorem dX9_edition_52 : decode cX9_edition 52 = .ok (.iload_n 2, 1) := by decide +kernel
theorem dX9_edition_53 : decode cX9_edition 53 = .ok (.iastore, 1) := by decide +kernel
theorem dX9_edition_54 : decode cX9_edition 54 = .ok (.aload_n 0, 1) := by decide +kernel
theorem dX9_edition_55 : decode cX9_edition 55 = .ok (.dup, 1) := by decide +kernel
theorem dX9_edition_56 : decode cX9_edition 56 = .ok (.getfield 236, 3) := by decide +kernel
theorem dX9_edition_59 : decode cX9_edition 59 = .ok (.iconst 1, 1) := by decide +kernel
theorem dX9_edition_60 : decode cX9_edition 60 = .ok (.iadd, 1) := by decide +kernel
theorem dX9_edition_61 : decode cX9_edition 61 = .ok (.putfield 236, 3) := by decide +kernel
theorem dX9_edition_64 : decode cX9_edition 64 = .ok (.aload_n 0, 1) := by decide +kernel
theorem dX9_edition_65 : decode cX9_edition 65 = .ok (.getfield 236, 3) := by decide +kernel
theorem dX9_edition_68 : decode cX9_edition 68 = .ok (.iconst 1, 1) := by decide +kernel
theorem dX9_edition_69 : decode cX9_edition 69 = .ok (.isub, 1) := by decide +kernel
theorem dX9_edition_70 : decode cX9_edition 70 = .ok (.ireturn, 1) := by decide +kernel
theorem dX9_isEdition_0 : decode cX9_isEdition 0 = .ok (.iload_n 1, 1) := by decide +kernel
theorem dX9_isEdition_1 : decode cX9_isEdition 1 = .ok (.iconst 0, 1) := by decide +kernel
theorem dX9_isEdition_2 : decode cX9_isEdition 2 = .ok (.aload_n 0, 1) := by decide +kernel
theorem dX9_isEdition_3 : decode cX9_isEdition 3 = .ok (.getfield 236, 3) := by decide +kernel
theorem dX9_isEdition_6 : decode cX9_isEdition 6 = .ok (.iconst 1, 1) := by decide +kernel
theorem dX9_isEdition_7 : decode cX9_isEdition 7 = .ok (.isub, 1) := by decide +kernel
theorem dX9_isEdition_8 : decode cX9_isEdition 8 = .ok (.invokestatic 75, 3) := by decide +kernel
theorem dX9_isEdition_11 : decode cX9_isEdition 11 = .ok (.ireturn, 1) := by decide +kernel
theorem dX9_climb_0 : decode cX9_climb 0 = .ok (.iconst 0, 1) := by decide +kernel
theorem dX9_climb_1 : decode cX9_climb 1 = .ok (.istore 4, 2) := by decide +kernel
theorem dX9_climb_3 : decode cX9_climb 3 = .ok (.iload 4, 2) := by decide +kernel
theorem dX9_climb_5 : decode cX9_climb 5 = .ok (.aload_n 0, 1) := by decide +kernel
theorem dX9_climb_6 : decode cX9_climb 6 = .ok (.getfield 236, 3) := by decide +kernel
theorem dX9_climb_9 : decode cX9_climb 9 = .ok (.if_icmp .ge 28, 3) := by decide +kernel
theorem dX9_climb_12 : decode cX9_climb 12 = .ok (.aload_n 0, 1) := by decide +kernel
theorem dX9_climb_13 : decode cX9_climb 13 = .ok (.getfield 68, 3) := by decide +kernel
theorem dX9_climb_16 : decode cX9_climb 16 = .ok (.iload 4, 2) := by decide +kernel
theorem dX9_climb_18 : decode cX9_climb 18 = .ok (.iload 4, 2) := by decide +kernel
theorem dX9_climb_20 : decode cX9_climb 20 = .ok (.iload_n 2, 1) := by decide +kernel
theorem dX9_climb_21 : decode cX9_climb 21 = .ok (.if_icmp .ne 7, 3) := by decide +kernel
theorem dX9_climb_24 : decode cX9_climb 24 = .ok (.iconst 0, 1) := by decide +kernel
theorem dX9_climb_25 : decode cX9_climb 25 = .ok (.goto 5, 3) := by decide +kernel
theorem dX9_climb_28 : decode cX9_climb 28 = .ok (.bipush (-9), 2) := by decide +kernel
theorem dX9_climb_30 : decode cX9_climb 30 = .ok (.iastore, 1) := by decide +kernel
theorem dX9_climb_31 : decode cX9_climb 31 = .ok (.iinc 4 1, 3) := by decide +kernel
theorem dX9_climb_34 : decode cX9_climb 34 = .ok (.goto (-31), 3) := by decide +kernel
theorem dX9_climb_37 : decode cX9_climb 37 = .ok (.iconst 1, 1) := by decide +kernel
theorem dX9_climb_38 : decode cX9_climb 38 = .ok (.istore 4, 2) := by decide +kernel
theorem dX9_climb_40 : decode cX9_climb 40 = .ok (.iload 4, 2) := by decide +kernel
theorem dX9_climb_42 : decode cX9_climb 42 = .ok (.aload_n 0, 1) := by decide +kernel
theorem dX9_climb_43 : decode cX9_climb 43 = .ok (.getfield 236, 3) := by decide +kernel
theorem dX9_climb_46 : decode cX9_climb 46 = .ok (.if_icmp .ge 146, 3) := by decide +kernel
theorem dX9_climb_49 : decode cX9_climb 49 = .ok (.iconst 0, 1) := by decide +kernel
theorem dX9_climb_50 : decode cX9_climb 50 = .ok (.istore 5, 2) := by decide +kernel
theorem dX9_climb_52 : decode cX9_climb 52 = .ok (.iload 5, 2) := by decide +kernel
theorem dX9_climb_54 : decode cX9_climb 54 = .ok (.aload_n 0, 1) := by decide +kernel
theorem dX9_climb_55 : decode cX9_climb 55 = .ok (.getfield 236, 3) := by decide +kernel
theorem dX9_climb_58 : decode cX9_climb 58 = .ok (.if_icmp .ge 128, 3) := by decide +kernel
theorem dX9_climb_61 : decode cX9_climb 61 = .ok (.iconst 0, 1) := by decide +kernel
theorem dX9_climb_62 : decode cX9_climb 62 = .ok (.istore 6, 2) := by decide +kernel
theorem dX9_climb_64 : decode cX9_climb 64 = .ok (.iconst 0, 1) := by decide +kernel
theorem dX9_climb_65 : decode cX9_climb 65 = .ok (.istore 7, 2) := by decide +kernel
theorem dX9_climb_67 : decode cX9_climb 67 = .ok (.iload 7, 2) := by decide +kernel
theorem dX9_climb_69 : decode cX9_climb 69 = .ok (.aload_n 0, 1) := by decide +kernel
theorem dX9_climb_70 : decode cX9_climb 70 = .ok (.getfield 236, 3) := by decide +kernel
theorem dX9_climb_73 : decode cX9_climb 73 = .ok (.if_icmp .ge 71, 3) := by decide +kernel
theorem dX9_climb_76 : decode cX9_climb 76 = .ok (.aload_n 0, 1) := by decide +kernel
theorem dX9_climb_77 : decode cX9_climb 77 = .ok (.getfield 65, 3) := by decide +kernel
theorem dX9_climb_80 : decode cX9_climb 80 = .ok (.iload 5, 2) := by decide +kernel
theorem dX9_climb_82 : decode cX9_climb 82 = .ok (.iaload, 1) := by decide +kernel
theorem dX9_climb_83 : decode cX9_climb 83 = .ok (.iload 5, 2) := by decide +kernel
theorem dX9_climb_85 : decode cX9_climb 85 = .ok (.iload_n 1, 1) := by decide +kernel
theorem dX9_climb_86 : decode cX9_climb 86 = .ok (.if_icmp .ne 7, 3) := by decide +kernel
theorem dX9_climb_89 : decode cX9_climb 89 = .ok (.iload_n 3, 1) := by decide +kernel
theorem dX9_climb_90 : decode cX9_climb 90 = .ok (.goto 4, 3) := by decide +kernel
theorem dX9_climb_93 : decode cX9_climb 93 = .ok (.iconst 0, 1) := by decide +kernel
theorem dX9_climb_94 : decode cX9_climb 94 = .ok (.ior, 1) := by decide +kernel
theorem dX9_climb_95 : decode cX9_climb 95 = .ok (.istore 8, 2) := by decide +kernel
theorem dX9_climb_97 : decode cX9_climb 97 = .ok (.iload 6, 2) := by decide +kernel
theorem dX9_climb_99 : decode cX9_climb 99 = .ok (.ifCond .ne 32, 3) := by decide +kernel
theorem dX9_climb_102 : decode cX9_climb 102 = .ok (.aload_n 0, 1) := by decide +kernel
theorem dX9_climb_103 : decode cX9_climb 103 = .ok (.getfield 68, 3) := by decide +kernel
theorem dX9_climb_106 : decode cX9_climb 106 = .ok (.iload 7, 2) := by decide +kernel
theorem dX9_climb_108 : decode cX9_climb 108 = .ok (.iaload, 1) := by decide +kernel
theorem dX9_climb_109 : decode cX9_climb 109 = .ok (.iload 4, 2) := by decide +kernel
theorem dX9_climb_111 : decode cX9_climb 111 = .ok (.iconst 1, 1) := by decide +kernel
theorem dX9_climb_112 : decode cX9_climb 112 = .ok (.isub, 1) := by decide +kernel
theorem dX9_climb_113 : decode cX9_climb 113 = .ok (.if_icmp .ne 22, 3) := by decide +kernel
theorem dX9_climb_116 : decode cX9_climb 116 = .ok (.aload_n 0, 1) := by decide +kernel
theorem dX9_climb_117 : decode cX9_climb 117 = .ok (.getfield 62, 3) := by decide +kernel
theorem dX9_climb_120 : decode cX9_climb 120 = .ok (.iload 7, 2) := by decide +kernel
theorem dX9_climb_122 : decode cX9_climb 122 = .ok (.iaload, 1) := by decide +kernel
theorem dX9_climb_123 : decode cX9_climb 123 = .ok (.iload 8, 2) := by decide +kernel
theorem dX9_climb_125 : decode cX9_climb 125 = .ok (.iconst (-1), 1) := by decide +kernel
theorem dX9_climb_126 : decode cX9_climb 126 = .ok (.ixor, 1) := by decide +kernel
theorem dX9_climb_127 : decode cX9_climb 127 = .ok (.iand, 1) := by decide +kernel
theorem dX9_climb_128 : decode cX9_climb 128 = .ok (.ifCond .ne 7, 3) := by decide +kernel
theorem dX9_climb_131 : decode cX9_climb 131 = .ok (.iconst 1, 1) := by decide +kernel
theorem dX9_climb_132 : decode cX9_climb 132 = .ok (.goto 4, 3) := by decide +kernel
theorem dX9_climb_135 : decode cX9_climb 135 = .ok (.iconst 0, 1) := by decide +kernel
theorem dX9_climb_136 : decode cX9_climb 136 = .ok (.istore 6, 2) := by decide +kernel
theorem dX9_climb_138 : decode cX9_climb 138 = .ok (.iinc 7 1, 3) := by decide +kernel
theorem dX9_climb_141 : decode cX9_climb 141 = .ok (.goto (-74), 3) := by decide +kernel
theorem dX9_climb_144 : decode cX9_climb 144 = .ok (.aload_n 0, 1) := by decide +kernel
theorem dX9_climb_145 : decode cX9_climb 145 = .ok (.getfield 68, 3) := by decide +kernel
theorem dX9_climb_148 : decode cX9_climb 148 = .ok (.iload 5, 2) := by decide +kernel
theorem dX9_climb_150 : decode cX9_climb 150 = .ok (.aload_n 0, 1) := by decide +kernel
theorem dX9_climb_151 : decode cX9_climb 151 = .ok (.getfield 68, 3) := by decide +kernel
theorem dX9_climb_154 : decode cX9_climb 154 = .ok (.iload 5, 2) := by decide +kernel
theorem dX9_climb_156 : decode cX9_climb 156 = .ok (.iaload, 1) := by decide +kernel
theorem dX9_climb_157 : decode cX9_climb 157 = .ok (.bipush (-9), 2) := by decide +kernel
theorem dX9_climb_159 : decode cX9_climb 159 = .ok (.if_icmp .ne 13, 3) := by decide +kernel
theorem dX9_climb_162 : decode cX9_climb 162 = .ok (.iload 6, 2) := by decide +kernel
theorem dX9_climb_164 : decode cX9_climb 164 = .ok (.ifCond .eq 8, 3) := by decide +kernel
theorem dX9_climb_167 : decode cX9_climb 167 = .ok (.iload 4, 2) := by decide +kernel
theorem dX9_climb_169 : decode cX9_climb 169 = .ok (.goto 10, 3) := by decide +kernel
theorem dX9_climb_172 : decode cX9_climb 172 = .ok (.aload_n 0, 1) := by decide +kernel
theorem dX9_climb_173 : decode cX9_climb 173 = .ok (.getfield 68, 3) := by decide +kernel
theorem dX9_climb_176 : decode cX9_climb 176 = .ok (.iload 5, 2) := by decide +kernel
theorem dX9_climb_178 : decode cX9_climb 178 = .ok (.iaload, 1) := by decide +kernel
theorem dX9_climb_179 : decode cX9_climb 179 = .ok (.iastore, 1) := by decide +kernel
theorem dX9_climb_180 : decode cX9_climb 180 = .ok (.iinc 5 1, 3) := by decide +kernel
theorem dX9_climb_183 : decode cX9_climb 183 = .ok (.goto (-131), 3) := by decide +kernel
theorem dX9_climb_186 : decode cX9_climb 186 = .ok (.iinc 4 1, 3) := by decide +kernel
theorem dX9_climb_189 : decode cX9_climb 189 = .ok (.goto (-149), 3) := by decide +kernel
theorem dX9_climb_192 : decode cX9_climb 192 = .ok (.aload_n 0, 1) := by decide +kernel
theorem dX9_climb_193 : decode cX9_climb 193 = .ok (.getfield 68, 3) := by decide +kernel
theorem dX9_climb_196 : decode cX9_climb 196 = .ok (.iload_n 1, 1) := by decide +kernel
theorem dX9_climb_197 : decode cX9_climb 197 = .ok (.iaload, 1) := by decide +kernel
theorem dX9_climb_198 : decode cX9_climb 198 = .ok (.ireturn, 1) := by decide +kernel
theorem dX9_ladder_0 : decode cX9_ladder 0 = .ok (.aload_n 0, 1) := by decide +kernel
theorem dX9_ladder_1 : decode cX9_ladder 1 = .ok (.iload_n 1, 1) := by decide +kernel
theorem dX9_ladder_2 : decode cX9_ladder 2 = .ok (.invokevirtual 239, 3) := by decide +kernel
theorem dX9_ladder_5 : decode cX9_ladder 5 = .ok (.ifCond .eq 16, 3) := by decide +kernel
theorem dX9_ladder_8 : decode cX9_ladder 8 = .ok (.aload_n 0, 1) := by decide +kernel
theorem dX9_ladder_9 : decode cX9_ladder 9 = .ok (.iload_n 2, 1) := by decide +kernel
theorem dX9_ladder_10 : decode cX9_ladder 10 = .ok (.invokevirtual 239, 3) := by decide +kernel
theorem dX9_ladder_13 : decode cX9_ladder 13 = .ok (.ifCond .eq 8, 3) := by decide +kernel
theorem dX9_ladder_16 : decode cX9_ladder 16 = .ok (.iload_n 3, 1) := by decide +kernel
theorem dX9_ladder_17 : decode cX9_ladder 17 = .ok (.iconst (-1), 1) := by decide +kernel
theorem dX9_ladder_18 : decode cX9_ladder 18 = .ok (.if_icmp .ge 5, 3) := by decide +kernel
theorem dX9_ladder_21 : decode cX9_ladder 21 = .ok (.iconst (-1), 1) := by decide +kernel
theorem dX9_ladder_22 : decode cX9_ladder 22 = .ok (.ireturn, 1) := by decide +kernel
theorem dX9_ladder_23 : decode cX9_ladder 23 = .ok (.aload_n 0, 1) := by decide +kernel
theorem dX9_ladder_24 : decode cX9_ladder 24 = .ok (.iload_n 1, 1) := by decide +kernel
theorem dX9_ladder_25 : decode cX9_ladder 25 = .ok (.iload_n 2, 1) := by decide +kernel
theorem dX9_ladder_26 : decode cX9_ladder 26 = .ok (.iconst 0, 1) := by decide +kernel
theorem dX9_ladder_27 : decode cX9_ladder 27 = .ok (.invokevirtual 242, 3) := by decide +kernel
theorem dX9_ladder_30 : decode cX9_ladder 30 = .ok (.istore 4, 2) := by decide +kernel
theorem dX9_ladder_32 : decode cX9_ladder 32 = .ok (.iload 4, 2) := by decide +kernel
theorem dX9_ladder_34 : decode cX9_ladder 34 = .ok (.bipush (-9), 2) := by decide +kernel
theorem dX9_ladder_36 : decode cX9_ladder 36 = .ok (.if_icmp .eq 7, 3) := by decide +kernel
theorem dX9_ladder_39 : decode cX9_ladder 39 = .ok (.iload_n 3, 1) := by decide +kernel
theorem dX9_ladder_40 : decode cX9_ladder 40 = .ok (.ifCond .ge 6, 3) := by decide +kernel
theorem dX9_ladder_43 : decode cX9_ladder 43 = .ok (.iload 4, 2) := by decide +kernel
theorem dX9_ladder_45 : decode cX9_ladder 45 = .ok (.ireturn, 1) := by decide +kernel
theorem dX9_ladder_46 : decode cX9_ladder 46 = .ok (.iload_n 3, 1) := by decide +kernel
theorem dX9_ladder_47 : decode cX9_ladder 47 = .ok (.iload 4, 2) := by decide +kernel
theorem dX9_ladder_49 : decode cX9_ladder 49 = .ok (.if_icmp .le 6, 3) := by decide +kernel
theorem dX9_ladder_52 : decode cX9_ladder 52 = .ok (.bipush (-9), 2) := by decide +kernel
theorem dX9_ladder_54 : decode cX9_ladder 54 = .ok (.ireturn, 1) := by decide +kernel
theorem dX9_ladder_55 : decode cX9_ladder 55 = .ok (.iload_n 1, 1) := by decide +kernel
theorem dX9_ladder_56 : decode cX9_ladder 56 = .ok (.istore 5, 2) := by decide +kernel
theorem dX9_ladder_58 : decode cX9_ladder 58 = .ok (.iconst 0, 1) := by decide +kernel
theorem dX9_ladder_59 : decode cX9_ladder 59 = .ok (.istore 6, 2) := by decide +kernel
theorem dX9_ladder_61 : decode cX9_ladder 61 = .ok (.iload 6, 2) := by decide +kernel
theorem dX9_ladder_63 : decode cX9_ladder 63 = .ok (.iload_n 3, 1) := by decide +kernel
theorem dX9_ladder_64 : decode cX9_ladder 64 = .ok (.if_icmp .ge 90, 3) := by decide +kernel
theorem dX9_ladder_67 : decode cX9_ladder 67 = .ok (.bipush (-9), 2) := by decide +kernel
theorem dX9_ladder_69 : decode cX9_ladder 69 = .ok (.istore 7, 2) := by decide +kernel
theorem dX9_ladder_71 : decode cX9_ladder 71 = .ok (.iconst 0, 1) := by decide +kernel
theorem dX9_ladder_72 : decode cX9_ladder 72 = .ok (.istore 8, 2) := by decide +kernel
theorem dX9_ladder_74 : decode cX9_ladder 74 = .ok (.iload 8, 2) := by decide +kernel
theorem dX9_ladder_76 : decode cX9_ladder 76 = .ok (.aload_n 0, 1) := by decide +kernel
theorem dX9_ladder_77 : decode cX9_ladder 77 = .ok (.getfield 236, 3) := by decide +kernel
theorem dX9_ladder_80 : decode cX9_ladder 80 = .ok (.if_icmp .ge 64, 3) := by decide +kernel
theorem dX9_ladder_83 : decode cX9_ladder 83 = .ok (.iload 7, 2) := by decide +kernel
theorem dX9_ladder_85 : decode cX9_ladder 85 = .ok (.bipush (-9), 2) := by decide +kernel
theorem dX9_ladder_87 : decode cX9_ladder 87 = .ok (.if_icmp .ne 47, 3) := by decide +kernel
theorem dX9_ladder_90 : decode cX9_ladder 90 = .ok (.aload_n 0, 1) := by decide +kernel
theorem dX9_ladder_91 : decode cX9_ladder 91 = .ok (.getfield 68, 3) := by decide +kernel
theorem dX9_ladder_94 : decode cX9_ladder 94 = .ok (.iload 8, 2) := by decide +kernel
theorem dX9_ladder_96 : decode cX9_ladder 96 = .ok (.iaload, 1) := by decide +kernel
theorem dX9_ladder_97 : decode cX9_ladder 97 = .ok (.aload_n 0, 1) := by decide +kernel
theorem dX9_ladder_98 : decode cX9_ladder 98 = .ok (.getfield 68, 3) := by decide +kernel
theorem dX9_ladder_101 : decode cX9_ladder 101 = .ok (.iload 5, 2) := by decide +kernel
theorem dX9_ladder_103 : decode cX9_ladder 103 = .ok (.iaload, 1) := by decide +kernel
theorem dX9_ladder_104 : decode cX9_ladder 104 = .ok (.iconst 1, 1) := by decide +kernel
theorem dX9_ladder_105 : decode cX9_ladder 105 = .ok (.isub, 1) := by decide +kernel
theorem dX9_ladder_106 : decode cX9_ladder 106 = .ok (.if_icmp .ne 28, 3) := by decide +kernel
theorem dX9_ladder_109 : decode cX9_ladder 109 = .ok (.aload_n 0, 1) := by decide +kernel
theorem dX9_ladder_110 : decode cX9_ladder 110 = .ok (.getfield 62, 3) := by decide +kernel
theorem dX9_ladder_113 : decode cX9_ladder 113 = .ok (.iload 8, 2) := by decide +kernel
theorem dX9_ladder_115 : decode cX9_ladder 115 = .ok (.iaload, 1) := by decide +kernel
theorem dX9_ladder_116 : decode cX9_ladder 116 = .ok (.aload_n 0, 1) := by decide +kernel
theorem dX9_ladder_117 : decode cX9_ladder 117 = .ok (.getfield 65, 3) := by decide +kernel
theorem dX9_ladder_120 : decode cX9_ladder 120 = .ok (.iload 5, 2) := by decide +kernel
theorem dX9_ladder_122 : decode cX9_ladder 122 = .ok (.iaload, 1) := by decide +kernel
theorem dX9_ladder_123 : decode cX9_ladder 123 = .ok (.iconst (-1), 1) := by decide +kernel
theorem dX9_ladder_124 : decode cX9_ladder 124 = .ok (.ixor, 1) := by decide +kernel
theorem dX9_ladder_125 : decode cX9_ladder 125 = .ok (.iand, 1) := by decide +kernel
theorem dX9_ladder_126 : decode cX9_ladder 126 = .ok (.ifCond .ne 8, 3) := by decide +kernel
theorem dX9_ladder_129 : decode cX9_ladder 129 = .ok (.iload 8, 2) := by decide +kernel
theorem dX9_ladder_131 : decode cX9_ladder 131 = .ok (.goto 5, 3) := by decide +kernel
theorem dX9_ladder_134 : decode cX9_ladder 134 = .ok (.iload 7, 2) := by decide +kernel
theorem dX9_ladder_136 : decode cX9_ladder 136 = .ok (.istore 7, 2) := by decide +kernel
theorem dX9_ladder_138 : decode cX9_ladder 138 = .ok (.iinc 8 1, 3) := by decide +kernel
theorem dX9_ladder_141 : decode cX9_ladder 141 = .ok (.goto (-67), 3) := by decide +kernel
theorem dX9_ladder_144 : decode cX9_ladder 144 = .ok (.iload 7, 2) := by decide +kernel
theorem dX9_ladder_146 : decode cX9_ladder 146 = .ok (.istore 5, 2) := by decide +kernel
theorem dX9_ladder_148 : decode cX9_ladder 148 = .ok (.iinc 6 1, 3) := by decide +kernel
theorem dX9_ladder_151 : decode cX9_ladder 151 = .ok (.goto (-90), 3) := by decide +kernel
theorem dX9_ladder_154 : decode cX9_ladder 154 = .ok (.iload 5, 2) := by decide +kernel
theorem dX9_ladder_156 : decode cX9_ladder 156 = .ok (.ireturn, 1) := by decide +kernel
theorem dX9_needed_0 : decode cX9_needed 0 = .ok (.aload_n 0, 1) := by decide +kernel
theorem dX9_needed_1 : decode cX9_needed 1 = .ok (.iload_n 1, 1) := by decide +kernel
theorem dX9_needed_2 : decode cX9_needed 2 = .ok (.invokevirtual 239, 3) := by decide +kernel
theorem dX9_needed_5 : decode cX9_needed 5 = .ok (.ifCond .eq 20, 3) := by decide +kernel
theorem dX9_needed_8 : decode cX9_needed 8 = .ok (.aload_n 0, 1) := by decide +kernel
theorem dX9_needed_9 : decode cX9_needed 9 = .ok (.iload_n 2, 1) := by decide +kernel
theorem dX9_needed_10 : decode cX9_needed 10 = .ok (.invokevirtual 239, 3) := by decide +kernel
theorem dX9_needed_13 : decode cX9_needed 13 = .ok (.ifCond .eq 12, 3) := by decide +kernel
theorem dX9_needed_16 : decode cX9_needed 16 = .ok (.iload_n 3, 1) := by decide +kernel
theorem dX9_needed_17 : decode cX9_needed 17 = .ok (.iconst 0, 1) := by decide +kernel
theorem dX9_needed_18 : decode cX9_needed 18 = .ok (.iconst 1, 1) := by decide +kernel
theorem dX9_needed_19 : decode cX9_needed 19 = .ok (.invokestatic 75, 3) := by decide +kernel
theorem dX9_needed_22 : decode cX9_needed 22 = .ok (.ifCond .ne 5, 3) := by decide +kernel
theorem dX9_needed_25 : decode cX9_needed 25 = .ok (.iconst (-1), 1) := by decide +kernel
theorem dX9_needed_26 : decode cX9_needed 26 = .ok (.ireturn, 1) := by decide +kernel
theorem dX9_needed_27 : decode cX9_needed 27 = .ok (.bipush (-9), 2) := by decide +kernel
theorem dX9_needed_29 : decode cX9_needed 29 = .ok (.istore 4, 2) := by decide +kernel
theorem dX9_needed_31 : decode cX9_needed 31 = .ok (.aload_n 0, 1) := by decide +kernel
theorem dX9_needed_32 : decode cX9_needed 32 = .ok (.iload_n 1, 1) := by decide +kernel
theorem dX9_needed_33 : decode cX9_needed 33 = .ok (.iload_n 2, 1) := by decide +kernel
theorem dX9_needed_34 : decode cX9_needed 34 = .ok (.iconst 0, 1) := by decide +kernel
theorem dX9_needed_35 : decode cX9_needed 35 = .ok (.invokevirtual 242, 3) := by decide +kernel
theorem dX9_needed_38 : decode cX9_needed 38 = .ok (.istore 5, 2) := by decide +kernel
theorem dX9_needed_40 : decode cX9_needed 40 = .ok (.iconst 0, 1) := by decide +kernel
theorem dX9_needed_41 : decode cX9_needed 41 = .ok (.istore 6, 2) := by decide +kernel
theorem dX9_needed_43 : decode cX9_needed 43 = .ok (.iload 6, 2) := by decide +kernel
theorem dX9_needed_45 : decode cX9_needed 45 = .ok (.bipush 16, 2) := by decide +kernel
theorem dX9_needed_47 : decode cX9_needed 47 = .ok (.if_icmp .ge 77, 3) := by decide +kernel
theorem dX9_needed_50 : decode cX9_needed 50 = .ok (.aload_n 0, 1) := by decide +kernel
theorem dX9_needed_51 : decode cX9_needed 51 = .ok (.iload_n 1, 1) := by decide +kernel
theorem dX9_needed_52 : decode cX9_needed 52 = .ok (.iload_n 2, 1) := by decide +kernel
theorem dX9_needed_53 : decode cX9_needed 53 = .ok (.iconst 1, 1) := by decide +kernel
theorem dX9_needed_54 : decode cX9_needed 54 = .ok (.iload 6, 2) := by decide +kernel
theorem dX9_needed_56 : decode cX9_needed 56 = .ok (.ishl, 1) := by decide +kernel
theorem dX9_needed_57 : decode cX9_needed 57 = .ok (.invokevirtual 242, 3) := by decide +kernel
theorem dX9_needed_60 : decode cX9_needed 60 = .ok (.istore 7, 2) := by decide +kernel
theorem dX9_needed_62 : decode cX9_needed 62 = .ok (.iload 7, 2) := by decide +kernel
theorem dX9_needed_64 : decode cX9_needed 64 = .ok (.bipush (-9), 2) := by decide +kernel
theorem dX9_needed_66 : decode cX9_needed 66 = .ok (.if_icmp .eq 21, 3) := by decide +kernel
theorem dX9_needed_69 : decode cX9_needed 69 = .ok (.iload 5, 2) := by decide +kernel
theorem dX9_needed_71 : decode cX9_needed 71 = .ok (.bipush (-9), 2) := by decide +kernel
theorem dX9_needed_73 : decode cX9_needed 73 = .ok (.if_icmp .eq 10, 3) := by decide +kernel
theorem dX9_needed_76 : decode cX9_needed 76 = .ok (.iload 7, 2) := by decide +kernel
theorem dX9_needed_78 : decode cX9_needed 78 = .ok (.iload 5, 2) := by decide +kernel
theorem dX9_needed_80 : decode cX9_needed 80 = .ok (.if_icmp .ge 7, 3) := by decide +kernel
theorem dX9_needed_83 : decode cX9_needed 83 = .ok (.iconst 1, 1) := by decide +kernel
theorem dX9_needed_84 : decode cX9_needed 84 = .ok (.goto 4, 3) := by decide +kernel
theorem dX9_needed_87 : decode cX9_needed 87 = .ok (.iconst 0, 1) := by decide +kernel
theorem dX9_needed_88 : decode cX9_needed 88 = .ok (.istore 8, 2) := by decide +kernel
theorem dX9_needed_90 : decode cX9_needed 90 = .ok (.iload 8, 2) := by decide +kernel
theorem dX9_needed_92 : decode cX9_needed 92 = .ok (.ifCond .eq 8, 3) := by decide +kernel
theorem dX9_needed_95 : decode cX9_needed 95 = .ok (.iload 6, 2) := by decide +kernel
theorem dX9_needed_97 : decode cX9_needed 97 = .ok (.goto 5, 3) := by decide +kernel
theorem dX9_needed_100 : decode cX9_needed 100 = .ok (.iload 4, 2) := by decide +kernel
theorem dX9_needed_102 : decode cX9_needed 102 = .ok (.istore 4, 2) := by decide +kernel
theorem dX9_needed_104 : decode cX9_needed 104 = .ok (.iload 8, 2) := by decide +kernel
theorem dX9_needed_106 : decode cX9_needed 106 = .ok (.ifCond .eq 8, 3) := by decide +kernel
theorem dX9_needed_109 : decode cX9_needed 109 = .ok (.iload 7, 2) := by decide +kernel
theorem dX9_needed_111 : decode cX9_needed 111 = .ok (.goto 5, 3) := by decide +kernel
theorem dX9_needed_114 : decode cX9_needed 114 = .ok (.iload 5, 2) := by decide +kernel
theorem dX9_needed_116 : decode cX9_needed 116 = .ok (.istore 5, 2) := by decide +kernel
theorem dX9_needed_118 : decode cX9_needed 118 = .ok (.iinc 6 1, 3) := by decide +kernel
theorem dX9_needed_121 : decode cX9_needed 121 = .ok (.goto (-78), 3) := by decide +kernel
theorem dX9_needed_124 : decode cX9_needed 124 = .ok (.iload 4, 2) := by decide +kernel
theorem dX9_needed_126 : decode cX9_needed 126 = .ok (.bipush (-9), 2) := by decide +kernel
theorem dX9_needed_128 : decode cX9_needed 128 = .ok (.if_icmp .eq 7, 3) := by decide +kernel
theorem dX9_needed_131 : decode cX9_needed 131 = .ok (.iload_n 3, 1) := by decide +kernel
theorem dX9_needed_132 : decode cX9_needed 132 = .ok (.ifCond .ne 8, 3) := by decide +kernel
theorem dX9_needed_135 : decode cX9_needed 135 = .ok (.iload 4, 2) := by decide +kernel
theorem dX9_needed_137 : decode cX9_needed 137 = .ok (.goto 5, 3) := by decide +kernel
theorem dX9_needed_140 : decode cX9_needed 140 = .ok (.iload 5, 2) := by decide +kernel
theorem dX9_needed_142 : decode cX9_needed 142 = .ok (.ireturn, 1) := by decide +kernel
theorem dX9_weight_0 : decode cX9_weight 0 = .ok (.iload_n 1, 1) := by decide +kernel
theorem dX9_weight_1 : decode cX9_weight 1 = .ok (.iconst 0, 1) := by decide +kernel
theorem dX9_weight_2 : decode cX9_weight 2 = .ok (.iconst 5, 1) := by decide +kernel
theorem dX9_weight_3 : decode cX9_weight 3 = .ok (.invokestatic 75, 3) := by decide +kernel
theorem dX9_weight_6 : decode cX9_weight 6 = .ok (.ifCond .eq 11, 3) := by decide +kernel
theorem dX9_weight_9 : decode cX9_weight 9 = .ok (.aload_n 0, 1) := by decide +kernel
theorem dX9_weight_10 : decode cX9_weight 10 = .ok (.iload_n 2, 1) := by decide +kernel
theorem dX9_weight_11 : decode cX9_weight 11 = .ok (.invokevirtual 178, 3) := by decide +kernel
theorem dX9_weight_14 : decode cX9_weight 14 = .ok (.ifCond .ne 5, 3) := by decide +kernel
theorem dX9_weight_17 : decode cX9_weight 17 = .ok (.iconst (-1), 1) := by decide +kernel
theorem dX9_weight_18 : decode cX9_weight 18 = .ok (.ireturn, 1) := by decide +kernel
theorem dX9_weight_19 : decode cX9_weight 19 = .ok (.iconst 0, 1) := by decide +kernel
theorem dX9_weight_20 : decode cX9_weight 20 = .ok (.istore_n 3, 1) := by decide +kernel
theorem dX9_weight_21 : decode cX9_weight 21 = .ok (.iconst 0, 1) := by decide +kernel
theorem dX9_weight_22 : decode cX9_weight 22 = .ok (.istore 4, 2) := by decide +kernel
theorem dX9_weight_24 : decode cX9_weight 24 = .ok (.iload 4, 2) := by decide +kernel
theorem dX9_weight_26 : decode cX9_weight 26 = .ok (.aload_n 0, 1) := by decide +kernel
theorem dX9_weight_27 : decode cX9_weight 27 = .ok (.getfield 26, 3) := by decide +kernel
theorem dX9_weight_30 : decode cX9_weight 30 = .ok (.iload_n 2, 1) := by decide +kernel
theorem dX9_weight_31 : decode cX9_weight 31 = .ok (.iaload, 1) := by decide +kernel
theorem dX9_weight_32 : decode cX9_weight 32 = .ok (.if_icmp .ge 35, 3) := by decide +kernel
theorem dX9_weight_35 : decode cX9_weight 35 = .ok (.iload_n 3, 1) := by decide +kernel
theorem dX9_weight_36 : decode cX9_weight 36 = .ok (.aload_n 0, 1) := by decide +kernel
theorem dX9_weight_37 : decode cX9_weight 37 = .ok (.getfield 20, 3) := by decide +kernel
theorem dX9_weight_40 : decode cX9_weight 40 = .ok (.sipush 256, 3) := by decide +kernel
theorem dX9_weight_43 : decode cX9_weight 43 = .ok (.iload_n 2, 1) := by decide +kernel
theorem dX9_weight_44 : decode cX9_weight 44 = .ok (.imul, 1) := by decide +kernel
theorem dX9_weight_45 : decode cX9_weight 45 = .ok (.iload 4, 2) := by decide +kernel
theorem dX9_weight_47 : decode cX9_weight 47 = .ok (.iadd, 1) := by decide +kernel
theorem dX9_weight_48 : decode cX9_weight 48 = .ok (.iaload, 1) := by decide +kernel
theorem dX9_weight_49 : decode cX9_weight 49 = .ok (.bipush 15, 2) := by decide +kernel
theorem dX9_weight_51 : decode cX9_weight 51 = .ok (.if_icmp .le 7, 3) := by decide +kernel
theorem dX9_weight_54 : decode cX9_weight 54 = .ok (.iconst 1, 1) := by decide +kernel
theorem dX9_weight_55 : decode cX9_weight 55 = .ok (.goto 4, 3) := by decide +kernel
theorem dX9_weight_58 : decode cX9_weight 58 = .ok (.iconst 0, 1) := by decide +kernel
theorem dX9_weight_59 : decode cX9_weight 59 = .ok (.iadd, 1) := by decide +kernel
theorem dX9_weight_60 : decode cX9_weight 60 = .ok (.istore_n 3, 1) := by decide +kernel
theorem dX9_weight_61 : decode cX9_weight 61 = .ok (.iinc 4 1, 3) := by decide +kernel
theorem dX9_weight_64 : decode cX9_weight 64 = .ok (.goto (-40), 3) := by decide +kernel
theorem dX9_weight_67 : decode cX9_weight 67 = .ok (.aload_n 0, 1) := by decide +kernel
theorem dX9_weight_68 : decode cX9_weight 68 = .ok (.getfield 26, 3) := by decide +kernel
theorem dX9_weight_71 : decode cX9_weight 71 = .ok (.iload_n 2, 1) := by decide +kernel
theorem dX9_weight_72 : decode cX9_weight 72 = .ok (.iaload, 1) := by decide +kernel
theorem dX9_weight_73 : decode cX9_weight 73 = .ok (.iconst 2, 1) := by decide +kernel
theorem dX9_weight_74 : decode cX9_weight 74 = .ok (.iload_n 3, 1) := by decide +kernel
theorem dX9_weight_75 : decode cX9_weight 75 = .ok (.imul, 1) := by decide +kernel
theorem dX9_weight_76 : decode cX9_weight 76 = .ok (.iadd, 1) := by decide +kernel
theorem dX9_weight_77 : decode cX9_weight 77 = .ok (.istore 4, 2) := by decide +kernel
theorem dX9_weight_79 : decode cX9_weight 79 = .ok (.iload 4, 2) := by decide +kernel
theorem dX9_weight_81 : decode cX9_weight 81 = .ok (.aload_n 0, 1) := by decide +kernel
theorem dX9_weight_82 : decode cX9_weight 82 = .ok (.iload_n 2, 1) := by decide +kernel
theorem dX9_weight_83 : decode cX9_weight 83 = .ok (.invokevirtual 223, 3) := by decide +kernel
theorem dX9_weight_86 : decode cX9_weight 86 = .ok (.iadd, 1) := by decide +kernel
theorem dX9_weight_87 : decode cX9_weight 87 = .ok (.istore 5, 2) := by decide +kernel
theorem dX9_weight_89 : decode cX9_weight 89 = .ok (.aload_n 0, 1) := by decide +kernel
theorem dX9_weight_90 : decode cX9_weight 90 = .ok (.dup, 1) := by decide +kernel
theorem dX9_weight_91 : decode cX9_weight 91 = .ok (.getfield 245, 3) := by decide +kernel
theorem dX9_weight_94 : decode cX9_weight 94 = .ok (.iload_n 1, 1) := by decide +kernel
theorem dX9_weight_95 : decode cX9_weight 95 = .ok (.ifCond .ne 7, 3) := by decide +kernel
theorem dX9_weight_98 : decode cX9_weight 98 = .ok (.lconst 1, 1) := by decide +kernel
theorem dX9_weight_99 : decode cX9_weight 99 = .ok (.goto 50, 3) := by decide +kernel
theorem dX9_weight_102 : decode cX9_weight 102 = .ok (.iload_n 1, 1) := by decide +kernel
theorem dX9_weight_103 : decode cX9_weight 103 = .ok (.iconst 1, 1) := by decide +kernel
theorem dX9_weight_104 : decode cX9_weight 104 = .ok (.if_icmp .ne 9, 3) := by decide +kernel
theorem dX9_weight_107 : decode cX9_weight 107 = .ok (.ldc2_w 249, 3) := by decide +kernel
theorem dX9_weight_110 : decode cX9_weight 110 = .ok (.goto 39, 3) := by decide +kernel
theorem dX9_weight_113 : decode cX9_weight 113 = .ok (.iload_n 1, 1) := by decide +kernel
theorem dX9_weight_114 : decode cX9_weight 114 = .ok (.iconst 2, 1) := by decide +kernel
theorem dX9_weight_115 : decode cX9_weight 115 = .ok (.if_icmp .ne 9, 3) := by decide +kernel
theorem dX9_weight_118 : decode cX9_weight 118 = .ok (.ldc2_w 251, 3) := by decide +kernel
theorem dX9_weight_121 : decode cX9_weight 121 = .ok (.goto 28, 3) := by decide +kernel
theorem dX9_weight_124 : decode cX9_weight 124 = .ok (.iload_n 1, 1) := by decide +kernel
theorem dX9_weight_125 : decode cX9_weight 125 = .ok (.iconst 3, 1) := by decide +kernel
theorem dX9_weight_126 : decode cX9_weight 126 = .ok (.if_icmp .ne 9, 3) := by decide +kernel
theorem dX9_weight_129 : decode cX9_weight 129 = .ok (.ldc2_w 253, 3) := by decide +kernel
theorem dX9_weight_132 : decode cX9_weight 132 = .ok (.goto 17, 3) := by decide +kernel
theorem dX9_weight_135 : decode cX9_weight 135 = .ok (.iload_n 1, 1) := by decide +kernel
theorem dX9_weight_136 : decode cX9_weight 136 = .ok (.iconst 4, 1) := by decide +kernel
theorem dX9_weight_137 : decode cX9_weight 137 = .ok (.if_icmp .ne 9, 3) := by decide +kernel
theorem dX9_weight_140 : decode cX9_weight 140 = .ok (.ldc2_w 255, 3) := by decide +kernel
theorem dX9_weight_143 : decode cX9_weight 143 = .ok (.goto 6, 3) := by decide +kernel
theorem dX9_weight_146 : decode cX9_weight 146 = .ok (.ldc2_w 257, 3) := by decide +kernel
theorem dX9_weight_149 : decode cX9_weight 149 = .ok (.ladd, 1) := by decide +kernel
theorem dX9_weight_150 : decode cX9_weight 150 = .ok (.putfield 245, 3) := by decide +kernel
theorem dX9_weight_153 : decode cX9_weight 153 = .ok (.iload_n 1, 1) := by decide +kernel
theorem dX9_weight_154 : decode cX9_weight 154 = .ok (.ifCond .ne 12, 3) := by decide +kernel
theorem dX9_weight_157 : decode cX9_weight 157 = .ok (.aload_n 0, 1) := by decide +kernel
theorem dX9_weight_158 : decode cX9_weight 158 = .ok (.getfield 26, 3) := by decide +kernel
theorem dX9_weight_161 : decode cX9_weight 161 = .ok (.iload_n 2, 1) := by decide +kernel
theorem dX9_weight_162 : decode cX9_weight 162 = .ok (.iaload, 1) := by decide +kernel
theorem dX9_weight_163 : decode cX9_weight 163 = .ok (.goto 71, 3) := by decide +kernel
theorem dX9_weight_166 : decode cX9_weight 166 = .ok (.iload_n 1, 1) := by decide +kernel
theorem dX9_weight_167 : decode cX9_weight 167 = .ok (.iconst 1, 1) := by decide +kernel
theorem dX9_weight_168 : decode cX9_weight 168 = .ok (.if_icmp .ne 22, 3) := by decide +kernel
theorem dX9_weight_171 : decode cX9_weight 171 = .ok (.aload_n 0, 1) := by decide +kernel
theorem dX9_weight_172 : decode cX9_weight 172 = .ok (.getfield 26, 3) := by decide +kernel
theorem dX9_weight_175 : decode cX9_weight 175 = .ok (.iload_n 2, 1) := by decide +kernel
theorem dX9_weight_176 : decode cX9_weight 176 = .ok (.iaload, 1) := by decide +kernel
theorem dX9_weight_177 : decode cX9_weight 177 = .ok (.bipush 9, 2) := by decide +kernel
theorem dX9_weight_179 : decode cX9_weight 179 = .ok (.aload_n 0, 1) := by decide +kernel
theorem dX9_weight_180 : decode cX9_weight 180 = .ok (.getfield 38, 3) := by decide +kernel
theorem dX9_weight_183 : decode cX9_weight 183 = .ok (.iload_n 2, 1) := by decide +kernel
theorem dX9_weight_184 : decode cX9_weight 184 = .ok (.iaload, 1) := by decide +kernel
theorem dX9_weight_185 : decode cX9_weight 185 = .ok (.imul, 1) := by decide +kernel
theorem dX9_weight_186 : decode cX9_weight 186 = .ok (.iadd, 1) := by decide +kernel
theorem dX9_weight_187 : decode cX9_weight 187 = .ok (.goto 47, 3) := by decide +kernel
theorem dX9_weight_190 : decode cX9_weight 190 = .ok (.iload_n 1, 1) := by decide +kernel
theorem dX9_weight_191 : decode cX9_weight 191 = .ok (.iconst 2, 1) := by decide +kernel
theorem dX9_weight_192 : decode cX9_weight 192 = .ok (.if_icmp .ne 8, 3) := by decide +kernel
theorem dX9_weight_195 : decode cX9_weight 195 = .ok (.iload 4, 2) := by decide +kernel
theorem dX9_weight_197 : decode cX9_weight 197 = .ok (.goto 37, 3) := by decide +kernel
theorem dX9_weight_200 : decode cX9_weight 200 = .ok (.iload_n 1, 1) := by decide +kernel
theorem dX9_weight_201 : decode cX9_weight 201 = .ok (.iconst 3, 1) := by decide +kernel
theorem dX9_weight_202 : decode cX9_weight 202 = .ok (.if_icmp .ne 8, 3) := by decide +kernel
theorem dX9_weight_205 : decode cX9_weight 205 = .ok (.iload 5, 2) := by decide +kernel
theorem dX9_weight_207 : decode cX9_weight 207 = .ok (.goto 27, 3) := by decide +kernel
theorem dX9_weight_210 : decode cX9_weight 210 = .ok (.iload_n 1, 1) := by decide +kernel
theorem dX9_weight_211 : decode cX9_weight 211 = .ok (.iconst 4, 1) := by decide +kernel
theorem dX9_weight_212 : decode cX9_weight 212 = .ok (.if_icmp .ne 14, 3) := by decide +kernel
theorem dX9_weight_215 : decode cX9_weight 215 = .ok (.iconst 3, 1) := by decide +kernel
theorem dX9_weight_216 : decode cX9_weight 216 = .ok (.iload 5, 2) := by decide +kernel
theorem dX9_weight_218 : decode cX9_weight 218 = .ok (.imul, 1) := by decide +kernel
theorem dX9_weight_219 : decode cX9_weight 219 = .ok (.sipush 251, 3) := by decide +kernel
theorem dX9_weight_222 : decode cX9_weight 222 = .ok (.irem, 1) := by decide +kernel
theorem dX9_weight_223 : decode cX9_weight 223 = .ok (.goto 11, 3) := by decide +kernel
theorem dX9_weight_226 : decode cX9_weight 226 = .ok (.aload_n 0, 1) := by decide +kernel
theorem dX9_weight_227 : decode cX9_weight 227 = .ok (.getfield 26, 3) := by decide +kernel
theorem dX9_weight_230 : decode cX9_weight 230 = .ok (.iload_n 2, 1) := by decide +kernel
theorem dX9_weight_231 : decode cX9_weight 231 = .ok (.iaload, 1) := by decide +kernel
theorem dX9_weight_232 : decode cX9_weight 232 = .ok (.iconst 3, 1) := by decide +kernel
theorem dX9_weight_233 : decode cX9_weight 233 = .ok (.idiv, 1) := by decide +kernel
theorem dX9_weight_234 : decode cX9_weight 234 = .ok (.ireturn, 1) := by decide +kernel
theorem dX9_count_0 : decode cX9_count 0 = .ok (.iconst 0, 1) := by decide +kernel
theorem dX9_count_1 : decode cX9_count 1 = .ok (.istore_n 2, 1) := by decide +kernel
theorem dX9_count_2 : decode cX9_count 2 = .ok (.iload_n 1, 1) := by decide +kernel
theorem dX9_count_3 : decode cX9_count 3 = .ok (.iconst 4, 1) := by decide +kernel
theorem dX9_count_4 : decode cX9_count 4 = .ok (.if_icmp .ne 10, 3) := by decide +kernel
theorem dX9_count_7 : decode cX9_count 7 = .ok (.aload_n 0, 1) := by decide +kernel
theorem dX9_count_8 : decode cX9_count 8 = .ok (.invokevirtual 232, 3) := by decide +kernel
theorem dX9_count_11 : decode cX9_count 11 = .ok (.goto 4, 3) := by decide +kernel
theorem dX9_count_14 : decode cX9_count 14 = .ok (.iconst 0, 1) := by decide +kernel
theorem dX9_count_15 : decode cX9_count 15 = .ok (.istore_n 3, 1) := by decide +kernel
theorem dX9_count_16 : decode cX9_count 16 = .ok (.iload_n 1, 1) := by decide +kernel
theorem dX9_count_17 : decode cX9_count 17 = .ok (.tableswitch 109 0 4 #[35, 40, 45, 50, 80], 35) := by decide +kernel
theorem dX9_count_52 : decode cX9_count 52 = .ok (.aload_n 0, 1) := by decide +kernel
theorem dX9_count_53 : decode cX9_count 53 = .ok (.getfield 85, 3) := by decide +kernel
theorem dX9_count_56 : decode cX9_count 56 = .ok (.ireturn, 1) := by decide +kernel
theorem dX9_count_57 : decode cX9_count 57 = .ok (.aload_n 0, 1) := by decide +kernel
theorem dX9_count_58 : decode cX9_count 58 = .ok (.getfield 236, 3) := by decide +kernel
theorem dX9_count_61 : decode cX9_count 61 = .ok (.ireturn, 1) := by decide +kernel
theorem dX9_count_62 : decode cX9_count 62 = .ok (.aload_n 0, 1) := by decide +kernel
theorem dX9_count_63 : decode cX9_count 63 = .ok (.getfield 71, 3) := by decide +kernel
theorem dX9_count_66 : decode cX9_count 66 = .ok (.ireturn, 1) := by decide +kernel
theorem dX9_count_67 : decode cX9_count 67 = .ok (.iconst 0, 1) := by decide +kernel
theorem dX9_count_68 : decode cX9_count 68 = .ok (.istore 4, 2) := by decide +kernel
theorem dX9_count_70 : decode cX9_count 70 = .ok (.iload 4, 2) := by decide +kernel
theorem dX9_count_72 : decode cX9_count 72 = .ok (.aload_n 0, 1) := by decide +kernel
theorem dX9_count_73 : decode cX9_count 73 = .ok (.getfield 85, 3) := by decide +kernel
theorem dX9_count_76 : decode cX9_count 76 = .ok (.if_icmp .ge 19, 3) := by decide +kernel
theorem dX9_count_79 : decode cX9_count 79 = .ok (.iload_n 2, 1) := by decide +kernel
theorem dX9_count_80 : decode cX9_count 80 = .ok (.aload_n 0, 1) := by decide +kernel
theorem dX9_count_81 : decode cX9_count 81 = .ok (.getfield 38, 3) := by decide +kernel
theorem dX9_count_84 : decode cX9_count 84 = .ok (.iload 4, 2) := by decide +kernel
theorem dX9_count_86 : decode cX9_count 86 = .ok (.iaload, 1) := by decide +kernel
theorem dX9_count_87 : decode cX9_count 87 = .ok (.iadd, 1) := by decide +kernel
theorem dX9_count_88 : decode cX9_count 88 = .ok (.istore_n 2, 1) := by decide +kernel
theorem dX9_count_89 : decode cX9_count 89 = .ok (.iinc 4 1, 3) := by decide +kernel
theorem dX9_count_92 : decode cX9_count 92 = .ok (.goto (-22), 3) := by decide +kernel
theorem dX9_count_95 : decode cX9_count 95 = .ok (.iload_n 2, 1) := by decide +kernel
theorem dX9_count_96 : decode cX9_count 96 = .ok (.ireturn, 1) := by decide +kernel
theorem dX9_count_97 : decode cX9_count 97 = .ok (.iconst 0, 1) := by decide +kernel
theorem dX9_count_98 : decode cX9_count 98 = .ok (.istore 4, 2) := by decide +kernel
theorem dX9_count_100 : decode cX9_count 100 = .ok (.iload 4, 2) := by decide +kernel
theorem dX9_count_102 : decode cX9_count 102 = .ok (.aload_n 0, 1) := by decide +kernel
theorem dX9_count_103 : decode cX9_count 103 = .ok (.getfield 85, 3) := by decide +kernel
theorem dX9_count_106 : decode cX9_count 106 = .ok (.if_icmp .ge 18, 3) := by decide +kernel
theorem dX9_count_109 : decode cX9_count 109 = .ok (.iload_n 2, 1) := by decide +kernel
theorem dX9_count_110 : decode cX9_count 110 = .ok (.iload_n 3, 1) := by decide +kernel
theorem dX9_count_111 : decode cX9_count 111 = .ok (.iload 4, 2) := by decide +kernel
theorem dX9_count_113 : decode cX9_count 113 = .ok (.ishr, 1) := by decide +kernel
theorem dX9_count_114 : decode cX9_count 114 = .ok (.iconst 1, 1) := by decide +kernel
theorem dX9_count_115 : decode cX9_count 115 = .ok (.iand, 1) := by decide +kernel
theorem dX9_count_116 : decode cX9_count 116 = .ok (.iadd, 1) := by decide +kernel
theorem dX9_count_117 : decode cX9_count 117 = .ok (.istore_n 2, 1) := by decide +kernel
theorem dX9_count_118 : decode cX9_count 118 = .ok (.iinc 4 1, 3) := by decide +kernel
theorem dX9_count_121 : decode cX9_count 121 = .ok (.goto (-21), 3) := by decide +kernel
theorem dX9_count_124 : decode cX9_count 124 = .ok (.iload_n 2, 1) := by decide +kernel
theorem dX9_count_125 : decode cX9_count 125 = .ok (.ireturn, 1) := by decide +kernel
theorem dX9_count_126 : decode cX9_count 126 = .ok (.iconst (-1), 1) := by decide +kernel
theorem dX9_count_127 : decode cX9_count 127 = .ok (.ireturn, 1) := by decide +kernel
theorem dX9_trace_0 : decode cX9_trace 0 = .ok (.aload_n 0, 1) := by decide +kernel
theorem dX9_trace_1 : decode cX9_trace 1 = .ok (.getfield 245, 3) := by decide +kernel
theorem dX9_trace_4 : decode cX9_trace 4 = .ok (.lreturn, 1) := by decide +kernel
end
section
/-! THE SMALL MACHINE: a heap is a list of cells (a cell's number is its place from 'b' on), a frame is pc, locals, stack; Go: the method comes to its end with Q -/
abbrev MH : Type := List va_E
abbrev ML : Type := List (Option Value)
/-- a method: its name, code, locals, answer's type, frames and words that it needs -/
abbrev MD : Type := MethodName × ByteArray × Nat × Option FieldType × Nat × Nat
def mv (b : Nat) (v : Value) : Value := match v with
  | .ref k => .ref (b + k)
  | v => v
def me (b : Nat) (kA : Nat → ClassId) (e : va_E) : va_E := match e with
  | .inl (k, n, .inl f) => .inl (kA k, n, .inl f)
  | .inl (k, n, .inr (.inl f)) => .inl (kA k, n, .inr (.inl f))
  | .inl (k, n, .inr (.inr (.inl f))) => .inl (kA k, n, .inr (.inr (.inl f)))
  | .inl (k, n, .inr (.inr (.inr (.inl f)))) => .inl (kA k, n, .inr (.inr (.inr (.inl f))))
  | .inl (k, n, .inr (.inr (.inr (.inr f)))) => .inl (kA k, n, .inr (.inr (.inr (.inr (fun j => (f j).map (fun x => b + x))))))
  | .inr (c, fs) => .inr (c, fs.map (mv b))
def mw (b : Nat) (kA : Nat → ClassId) (h : MH) : va_W := h.mapIdx (fun i e => (b + i, me b kA e))
def mcl (e : va_E) : Nat := match e with
  | .inl a => a.2.1
  | .inr o => o.2.length
def msz (h : MH) : Nat := (h.map mcl).sum
theorem mw_at {b : Nat} {kA : Nat → ClassId} {h : MH} {i : Nat} {e : va_E} (he : h[i]? = some e) : (mw b kA h)[i]? = some (b + i, me b kA e) := by
  simp [mw, List.getElem?_mapIdx, he]
theorem mw_inv {b : Nat} {kA : Nat → ClassId} {h : MH} {i : Nat} {q : Nat × va_E} (hq : (mw b kA h)[i]? = some q) : ∃ e, h[i]? = some e ∧ q = (b + i, me b kA e) := by
  simp only [mw, List.getElem?_mapIdx, Option.map_eq_some_iff] at hq
  obtain ⟨e, h1, h2⟩ := hq
  exact ⟨e, h1, h2.symm⟩
theorem mw_len {b : Nat} {kA : Nat → ClassId} {h : MH} : (mw b kA h).length = h.length := by simp [mw]
theorem mw_set {b : Nat} {kA : Nat → ClassId} {h : MH} {i : Nat} {e : va_E} : mw b kA (h.set i e) = (mw b kA h).set i (b + i, me b kA e) := by
  apply List.ext_getElem?
  intro j
  simp only [mw, List.getElem?_mapIdx, List.getElem?_set, List.length_mapIdx]
  by_cases hj : i = j
  · subst hj
    by_cases hl : i < h.length <;> simp [hl]
  · simp [hj]
theorem mw_push {b : Nat} {kA : Nat → ClassId} {h : MH} {e : va_E} : mw b kA (h ++ [e]) = mw b kA h ++ [(b + h.length, me b kA e)] := by
  simp [mw, List.mapIdx_append]
theorem mw_D {b : Nat} {kA : Nat → ClassId} {h : MH} : va_D (fun q => b ≤ q) (mw b kA h) := by
  refine ⟨fun i j p q hp hq he => ?_, fun k q hq => ?_⟩
  · obtain ⟨e1, -, rfl⟩ := mw_inv hp
    obtain ⟨e2, -, rfl⟩ := mw_inv hq
    have : b + i = b + j := he
    omega
  · obtain ⟨e1, -, rfl⟩ := mw_inv hq
    exact Nat.le_add_right b k
theorem msz_set {h : MH} {i : Nat} {e e' : va_E} (he : h[i]? = some e) (hc : mcl e' = mcl e) : msz (h.set i e') = msz h := by
  have : (h.set i e').map mcl = h.map mcl := by
    apply List.ext_getElem?
    intro j
    simp only [List.getElem?_map, List.getElem?_set]
    by_cases hj : i = j
    · subst hj
      obtain ⟨hl, he2⟩ := List.getElem?_eq_some_iff.mp he
      simp [hl, hc, he2]
    · simp [hj]
  unfold msz
  rw [this]
theorem msz_push {h : MH} {e : va_E} : msz (h ++ [e]) = msz h + mcl e := by simp [msz]
/-- the locals hold these -/
def Lh (b : Nat) (ls : Array Slot) (n : Nat) (L : ML) : Prop := ls.size = n ∧ lv_wf ls ∧ ∀ (i : Nat) (v : Value), L[i]? = some (some v) → ls[i]? = some (.val (mv b v))
def al (b : Nat) (L : ML) : List (Nat × Value) := (List.range L.length).filterMap (fun i => match L[i]? with
  | some (some v) => some (i, mv b v)
  | _ => none)
theorem al_mem {b : Nat} {L : ML} {i : Nat} {v : Value} (h : L[i]? = some (some v)) : (i, mv b v) ∈ al b L := by
  refine List.mem_filterMap.mpr ⟨i, List.mem_range.mpr (List.getElem?_eq_some_iff.mp h).1, ?_⟩
  rw [h]
theorem al_inv {b : Nat} {L : ML} {q : Nat × Value} (h : q ∈ al b L) : ∃ v, L[q.1]? = some (some v) ∧ q.2 = mv b v := by
  obtain ⟨i, -, hi⟩ := List.mem_filterMap.mp h
  split at hi
  next v hv => cases hi; exact ⟨v, hv, rfl⟩
  next => cases hi
theorem mv_cat (b : Nat) (v : Value) : (mv b v).category = v.category := by cases v <;> rfl
theorem Lh.has {b : Nat} {ls : Array Slot} {n : Nat} {L : ML} (h : Lh b ls n L) : lv_has ls n (al b L) := by
  refine ⟨h.1, h.2.1, fun q hq => ?_⟩
  obtain ⟨v, h1, h2⟩ := al_inv hq
  rw [h2]
  exact h.2.2 q.1 v h1
/-- a store at i may clear a long ahead of it -/
def Lok (L : ML) : Nat → Bool
  | 0 => true
  | i + 1 => match L[i]? with
    | some (some v) => v.category == 1
    | _ => true
theorem Lh.put1 {b : Nat} {ls : Array Slot} {n : Nat} {L : ML} {i : Nat} {v : Value} (hk : Lok L i = true) (h : lv_has ls n ((i, mv b v) :: (al b L).filter (fun q => !(q.1 == i) && !(q.1 + 1 == i && q.2.category == 2)))) : Lh b ls n (L.set i (some v)) := by
  refine ⟨h.1, h.2.1, fun j w hj => ?_⟩
  rw [List.getElem?_set] at hj
  by_cases hij : i = j
  · subst hij
    simp only [if_true] at hj
    split at hj
    · cases hj
      exact h.2.2 (i, mv b v) List.mem_cons_self
    · cases hj
  · rw [if_neg hij] at hj
    refine h.2.2 (j, mv b w) (List.mem_cons_of_mem _ (List.mem_filter.mpr ⟨al_mem hj, ?_⟩))
    have h1 : (j == i) = false := by simp; omega
    simp only [h1, Bool.not_false, Bool.true_and, Bool.not_eq_true', Bool.and_eq_false_iff]
    by_cases h2 : j + 1 = i
    · right
      subst h2
      simp only [Lok, hj] at hk
      rw [mv_cat]
      have : w.category = 1 := by simpa using hk
      rw [this]
      rfl
    · left
      simp [h2]
theorem Lh.put2 {b : Nat} {ls : Array Slot} {n : Nat} {L : ML} {i : Nat} {v : Value} (hk : Lok L i = true) (h : lv_has ls n ((i, mv b v) :: (al b L).filter (fun q => !(q.1 == i) && (!(q.1 == i + 1) && !(q.1 + 1 == i && q.2.category == 2))))) : Lh b ls n ((L.set i (some v)).set (i + 1) none) := by
  refine ⟨h.1, h.2.1, fun j w hj => ?_⟩
  rw [List.getElem?_set] at hj
  by_cases hij1 : i + 1 = j
  · subst hij1
    simp only [if_true] at hj
    split at hj <;> cases hj
  rw [if_neg hij1, List.getElem?_set] at hj
  by_cases hij : i = j
  · subst hij
    simp only [if_true] at hj
    split at hj
    · cases hj
      exact h.2.2 (i, mv b v) List.mem_cons_self
    · cases hj
  · rw [if_neg hij] at hj
    refine h.2.2 (j, mv b w) (List.mem_cons_of_mem _ (List.mem_filter.mpr ⟨al_mem hj, ?_⟩))
    have h1 : (j == i) = false := by simp; omega
    have h3 : (j == i + 1) = false := by simp; omega
    simp only [h1, h3, Bool.not_false, Bool.true_and, Bool.not_eq_true', Bool.and_eq_false_iff]
    by_cases h2 : j + 1 = i
    · right
      subst h2
      simp only [Lok, hj] at hk
      rw [mv_cat]
      have : w.category = 1 := by simpa using hk
      rw [this]
      rfl
    · left
      simp [h2]
def Le : List Value → ML
  | [] => []
  | v :: vs => if v.category = 2 then some v :: none :: Le vs else some v :: Le vs
/-- the locals at a method's entry -/
def Len (vs : List Value) (n : Nat) : ML := Le vs ++ List.replicate (n - (Le vs).length) none
theorem Le_len (b : Nat) : ∀ vs : List Value, (lg_sl (vs.map (mv b))).length = (Le vs).length
  | [] => rfl
  | v :: vs => by
    have ih := Le_len b vs
    simp only [lg_sl, List.map_cons, List.flatMap_cons, List.length_append] at ih ⊢
    rw [ih, mv_cat, Le]
    by_cases h : v.category = 2
    · simp [h]; omega
    · simp [h]; omega
theorem Le_args (b : Nat) : ∀ (vs : List Value) (k i : Nat) (v : Value), (Le vs)[i]? = some (some v) → (k + i, mv b v) ∈ lv_args k (vs.map (mv b))
  | [], k, i, v, h => by simp [Le] at h
  | u :: vs, k, i, v, h => by
    simp only [List.map_cons, lv_args, mv_cat]
    rw [Le] at h
    by_cases hc : u.category = 2
    · rw [if_pos hc] at h ⊢
      match i, h with
      | 0, h => simp at h; subst h; exact List.mem_cons_self
      | 1, h => simp at h
      | i + 2, h =>
        simp at h
        have := Le_args b vs (k + 2) i v h
        rw [show k + (i + 2) = k + 2 + i by omega]
        exact List.mem_cons_of_mem _ this
    · rw [if_neg hc] at h ⊢
      match i, h with
      | 0, h => simp at h; subst h; exact List.mem_cons_self
      | i + 1, h =>
        simp at h
        have := Le_args b vs (k + 1) i v h
        rw [show k + (i + 1) = k + 1 + i by omega]
        exact List.mem_cons_of_mem _ this
theorem Lh.entry {b : Nat} {vs : List Value} {n : Nat} (hn : (Le vs).length ≤ n) : Lh b ((lg_sl (vs.map (mv b)) ++ List.replicate (n - (lg_sl (vs.map (mv b))).length) Slot.unset).toArray) n (Len vs n) := by
  have h := lv_entry (vs.map (mv b)) (n := n) (by rw [Le_len]; exact hn)
  refine ⟨h.1, h.2.1, fun i v hv => ?_⟩
  unfold Len at hv
  by_cases hi : i < (Le vs).length
  · rw [List.getElem?_append_left hi] at hv
    have := Le_args b vs 0 i v hv
    rw [Nat.zero_add] at this
    exact h.2.2 _ this
  · rw [List.getElem?_append_right (by omega)] at hv
    have := List.eq_of_mem_replicate (List.mem_of_getElem? hv)
    cases this
def tyk (kA : Nat → ClassId) : List (ClassId × FieldType) := [(kA 0, .int), (kA 1, .byte), (kA 2, .object "LadderForge$Text"), (kA 3, .object "LadderForge$Tool")]
def Rp (b : Nat) (D : va_G) (kA : Nat → ClassId) (h : MH) (H : Heap) : Prop := H.size = b + h.length ∧ va_P D vwCl (mw b kA h) H
def Kx (D : va_G) (kA : Nat → ClassId) (U : State) : Prop := va_K D vwCl (tyk kA) U ∧ (∀ w ∈ nw, va_Nw w U) ∧ va_AO "LadderForge$Text" U ∧ va_AO "LadderForge$Tool" U
theorem nw_kind : ∀ w ∈ nw, (∃ a i b n d h, w = Cond.fieldLinkNest a i b n d h) ∨ (∃ a i x h, w = Cond.methodLinkNest a i x h) ∨ ∃ x, w = Cond.declares x := by
  intro w hw
  simp only [nw, List.mem_cons, List.not_mem_nil, or_false] at hw
  rcases hw with rfl | rfl | rfl | rfl | rfl | rfl | rfl | rfl | rfl | rfl | rfl | rfl | rfl | rfl | rfl | rfl | rfl | rfl | rfl | rfl | rfl | rfl | rfl | rfl | rfl | rfl | rfl | rfl <;>
    first
    | exact Or.inl ⟨_, _, _, _, _, _, rfl⟩
    | exact Or.inr (Or.inl ⟨_, _, _, _, rfl⟩)
    | exact Or.inr (Or.inr ⟨_, rfl⟩)
theorem Kx.warm {D : va_G} {kA : Nat → ClassId} {s U : State} (hW : s.WarmedH U.vm) (h : Kx D kA s) : Kx D kA U := by
  obtain ⟨h1, h2, h3, h4⟩ := h
  refine ⟨va_K.moved hW.alike h1, fun w hw => ?_, h3.moved hW.alike, h4.moved hW.alike⟩
  have hz := h2 w hw
  rcases nw_kind w hw with ⟨_, _, _, _, _, _, rfl⟩ | ⟨_, _, _, _, rfl⟩ | ⟨_, rfl⟩
  · exact va_Nw.warmF hW hz
  · exact va_Nw.warmM hW hz
  · exact va_Nw.warmD hW hz
/-- what holds all through a method -/
def Cx (y : MD) (p : Program) (s : State) (m : MethodId) (args : Array Value) (meth : Method) (c : Code) (b : Nat) (D : va_G) (kA : Nat → ClassId) : Prop :=
  p.tables.exec = Jvm.exec ∧ c.code = y.2.1 ∧ c.maxLocals = y.2.2.1 ∧ s.vm.findClass y.1.cls = some m.cls ∧ (∀ w ∈ gw, w.before args s = true) ∧ meth.sig.returnType = y.2.2.2.1 ∧ meth.locks = false ∧ meth.name = y.1.name ∧ Kx D kA s ∧ b ≤ s.heap.size
def Qe (b : Nat) (D : va_G) (kA : Nat → ClassId) (r : Option Value) (h' : MH) : Array Value → State → Outcome → State → Prop := fun _ st o t => o = .returned (r.map (mv b)) ∧ Rp b D kA h' t.heap ∧ va_F (fun q => b ≤ q) st t
def Ge (l : Launch) (y : MD) (pc : Nat) (L : ML) (S : List Value) (h : MH) (r : Option Value) (h' : MH) : Prop :=
  h.length ≤ h'.length ∧ msz h ≤ msz h' ∧
  ∀ (p : Program) (e : Env) (R : Room) (s : State) (m : MethodId) (args : Array Value) (below : List Frame) (meth : Method) (c : Code) (b : Nat) (D : va_G) (kA : Nat → ClassId) (H : Heap) (locs : List Loc) (cells slots : Nat) (ls : Array Slot),
    Cx y p s m args meth c b D kA → y.2.2.2.2.1 ≤ R.frames → y.2.2.2.2.2 ≤ R.locals → cells + (h'.length - h.length) ≤ R.cells → slots + (msz h' - msz h) ≤ R.slots → Rp b D kA h H → va_S (fun q => b ≤ q) s.heap H locs → Lh b ls y.2.2.1 L →
    W p l e R s m args below meth c H locs cells slots (MQ below (Qe b D kA r h') args s (cells + (h'.length - h.length)) (slots + (msz h' - msz h)) (fun q => b ≤ q)) (F0 m pc ls (S.map (mv b)))
/-- from here the method comes to its end, and Q holds of its answer and of the cells then -/
def Go (l : Launch) (y : MD) (pc : Nat) (L : ML) (S : List Value) (h : MH) (Q : Option Value → MH → Prop) : Prop := ∃ r h', Q r h' ∧ Ge l y pc L S h r h'
theorem Go.stp {l : Launch} {y : MD} {pc pc1 : Nat} {L L1 : ML} {S S1 : List Value} {h h1 : MH} {Q : Option Value → MH → Prop} (h01 : h.length ≤ h1.length) (hm1 : msz h ≤ msz h1)
    (hW : ∀ (p : Program) (e : Env) (R : Room) (s : State) (m : MethodId) (args : Array Value) (below : List Frame) (meth : Method) (c : Code) (b : Nat) (D : va_G) (kA : Nat → ClassId) (H : Heap) (locs : List Loc) (cells slots : Nat) (ls : Array Slot) (Qf : State → Prop),
      Cx y p s m args meth c b D kA → y.2.2.2.2.1 ≤ R.frames → y.2.2.2.2.2 ≤ R.locals → cells + (h1.length - h.length) ≤ R.cells → slots + (msz h1 - msz h) ≤ R.slots → Rp b D kA h H → va_S (fun q => b ≤ q) s.heap H locs → Lh b ls y.2.2.1 L →
      (∀ (H1 : Heap) (locs1 : List Loc) (ls1 : Array Slot), Rp b D kA h1 H1 → va_S (fun q => b ≤ q) s.heap H1 locs1 → Lh b ls1 y.2.2.1 L1 → W p l e R s m args below meth c H1 locs1 (cells + (h1.length - h.length)) (slots + (msz h1 - msz h)) Qf (F0 m pc1 ls1 (S1.map (mv b)))) →
      W p l e R s m args below meth c H locs cells slots Qf (F0 m pc ls (S.map (mv b))))
    (k : Go l y pc1 L1 S1 h1 Q) : Go l y pc L S h Q := by
  obtain ⟨r, h', q, g1, g2, g3⟩ := k
  refine ⟨r, h', q, Nat.le_trans h01 g1, Nat.le_trans hm1 g2, ?_⟩
  intro p e R s m args below meth c b D kA H locs cells slots ls C hf ho hc hs hR hS hL
  refine hW p e R s m args below meth c b D kA H locs cells slots ls _ C hf ho (by omega) (by omega) hR hS hL (fun H1 locs1 ls1 hR1 hS1 hL1 => ?_)
  have e1 : cells + (h1.length - h.length) + (h'.length - h1.length) = cells + (h'.length - h.length) := by omega
  have e2 : slots + (msz h1 - msz h) + (msz h' - msz h1) = slots + (msz h' - msz h) := by omega
  have g := g3 p e R s m args below meth c b D kA H1 locs1 (cells + (h1.length - h.length)) (slots + (msz h1 - msz h)) ls1 C hf ho (by omega) (by omega) hR1 hS1 hL1
  rw [e1, e2] at g
  exact g
/-- an instruction that leaves the cells as they are, or changes some in place -/
theorem Go.st {l : Launch} {y : MD} {pc pc1 : Nat} {L L1 : ML} {S S1 : List Value} {h h1 : MH} {Q : Option Value → MH → Prop} (h01 : h1.length = h.length) (hm1 : msz h1 = msz h)
    (hW : ∀ (p : Program) (e : Env) (R : Room) (s : State) (m : MethodId) (args : Array Value) (below : List Frame) (meth : Method) (c : Code) (b : Nat) (D : va_G) (kA : Nat → ClassId) (H : Heap) (locs : List Loc) (cells slots : Nat) (ls : Array Slot) (Qf : State → Prop),
      Cx y p s m args meth c b D kA → y.2.2.2.2.1 ≤ R.frames → y.2.2.2.2.2 ≤ R.locals → cells ≤ R.cells → slots ≤ R.slots → Rp b D kA h H → va_S (fun q => b ≤ q) s.heap H locs → Lh b ls y.2.2.1 L →
      (∀ (H1 : Heap) (locs1 : List Loc) (ls1 : Array Slot), Rp b D kA h1 H1 → va_S (fun q => b ≤ q) s.heap H1 locs1 → Lh b ls1 y.2.2.1 L1 → W p l e R s m args below meth c H1 locs1 cells slots Qf (F0 m pc1 ls1 (S1.map (mv b)))) →
      W p l e R s m args below meth c H locs cells slots Qf (F0 m pc ls (S.map (mv b))))
    (k : Go l y pc1 L1 S1 h1 Q) : Go l y pc L S h Q := by
  refine Go.stp (Nat.le_of_eq h01.symm) (Nat.le_of_eq hm1.symm) ?_ k
  intro p e R s m args below meth c b D kA H locs cells slots ls Qf C hf ho hc hs hR hS hL kk
  have e1 : h1.length - h.length = 0 := by omega
  have e2 : msz h1 - msz h = 0 := by omega
  rw [e1, e2] at kk
  exact hW p e R s m args below meth c b D kA H locs cells slots ls Qf C hf ho (by omega) (by omega) hR hS hL kk
/-- an instruction that changes pc, stack and locals alone -/
theorem Go.s0 {l : Launch} {y : MD} {pc pc1 : Nat} {L L1 : ML} {S S1 : List Value} {h : MH} {Q : Option Value → MH → Prop}
    (hW : ∀ (p : Program) (e : Env) (R : Room) (s : State) (m : MethodId) (args : Array Value) (below : List Frame) (meth : Method) (c : Code) (b : Nat) (D : va_G) (kA : Nat → ClassId) (H : Heap) (locs : List Loc) (cells slots : Nat) (ls : Array Slot) (Qf : State → Prop),
      Cx y p s m args meth c b D kA → y.2.2.2.2.1 ≤ R.frames → y.2.2.2.2.2 ≤ R.locals → cells ≤ R.cells → slots ≤ R.slots → Rp b D kA h H → Lh b ls y.2.2.1 L →
      (∀ ls1 : Array Slot, Lh b ls1 y.2.2.1 L1 → W p l e R s m args below meth c H locs cells slots Qf (F0 m pc1 ls1 (S1.map (mv b)))) →
      W p l e R s m args below meth c H locs cells slots Qf (F0 m pc ls (S.map (mv b))))
    (k : Go l y pc1 L1 S1 h Q) : Go l y pc L S h Q :=
  Go.st rfl rfl (fun p e R s m args below meth c b D kA H locs cells slots ls Qf C hf ho hc hs hR hS hL kk => hW p e R s m args below meth c b D kA H locs cells slots ls Qf C hf ho hc hs hR hL (fun ls1 hl1 => kk H locs ls1 hR hS hl1)) k
theorem Go.conseq {l : Launch} {y : MD} {pc : Nat} {L : ML} {S : List Value} {h : MH} {Q Q' : Option Value → MH → Prop} (k : Go l y pc L S h Q) (hq : ∀ r h', Q r h' → Q' r h') : Go l y pc L S h Q' := by
  obtain ⟨r, h', q, g⟩ := k
  exact ⟨r, h', hq r h' q, g⟩
end
section
section RUL
variable {l : Launch} {y : MD} {pc : Nat} {L : ML} {S : List Value} {h : MH} {Q : Option Value → MH → Prop}
theorem g_iadd {x z : Int32} (n : Nat) (d : decode y.2.1 pc = .ok (.iadd, 1))  (hn : pc + 1 = n) (k : Go l y n L (.int (x + z) :: S) h Q) : Go l y pc L (.int z :: .int x :: S) h Q := by
  subst hn
  exact Go.s0 (fun p e R s m args below meth c b D kA H locs cells slots ls Qf C hf ho hc hs hR hl kk => lv_iadd C.1 C.2.1 d (kk ls hl)) k
theorem g_isub {x z : Int32} (n : Nat) (d : decode y.2.1 pc = .ok (.isub, 1))  (hn : pc + 1 = n) (k : Go l y n L (.int (x - z) :: S) h Q) : Go l y pc L (.int z :: .int x :: S) h Q := by
  subst hn
  exact Go.s0 (fun p e R s m args below meth c b D kA H locs cells slots ls Qf C hf ho hc hs hR hl kk => lv_isub C.1 C.2.1 d (kk ls hl)) k
theorem g_imul {x z : Int32} (n : Nat) (d : decode y.2.1 pc = .ok (.imul, 1))  (hn : pc + 1 = n) (k : Go l y n L (.int (x * z) :: S) h Q) : Go l y pc L (.int z :: .int x :: S) h Q := by
  subst hn
  exact Go.s0 (fun p e R s m args below meth c b D kA H locs cells slots ls Qf C hf ho hc hs hR hl kk => lv_imul C.1 C.2.1 d (kk ls hl)) k
theorem g_iand {x z : Int32} (n : Nat) (d : decode y.2.1 pc = .ok (.iand, 1))  (hn : pc + 1 = n) (k : Go l y n L (.int (x &&& z) :: S) h Q) : Go l y pc L (.int z :: .int x :: S) h Q := by
  subst hn
  exact Go.s0 (fun p e R s m args below meth c b D kA H locs cells slots ls Qf C hf ho hc hs hR hl kk => lv_iand C.1 C.2.1 d (kk ls hl)) k
theorem g_ior {x z : Int32} (n : Nat) (d : decode y.2.1 pc = .ok (.ior, 1))  (hn : pc + 1 = n) (k : Go l y n L (.int (x ||| z) :: S) h Q) : Go l y pc L (.int z :: .int x :: S) h Q := by
  subst hn
  exact Go.s0 (fun p e R s m args below meth c b D kA H locs cells slots ls Qf C hf ho hc hs hR hl kk => lv_ior C.1 C.2.1 d (kk ls hl)) k
theorem g_ixor {x z : Int32} (n : Nat) (d : decode y.2.1 pc = .ok (.ixor, 1))  (hn : pc + 1 = n) (k : Go l y n L (.int (x ^^^ z) :: S) h Q) : Go l y pc L (.int z :: .int x :: S) h Q := by
  subst hn
  exact Go.s0 (fun p e R s m args below meth c b D kA H locs cells slots ls Qf C hf ho hc hs hR hl kk => lv_ixor C.1 C.2.1 d (kk ls hl)) k
theorem g_ishl {x z : Int32} (n : Nat) (d : decode y.2.1 pc = .ok (.ishl, 1))  (hn : pc + 1 = n) (k : Go l y n L (.int (x <<< (z &&& 31)) :: S) h Q) : Go l y pc L (.int z :: .int x :: S) h Q := by
  subst hn
  exact Go.s0 (fun p e R s m args below meth c b D kA H locs cells slots ls Qf C hf ho hc hs hR hl kk => lv_ishl C.1 C.2.1 d (kk ls hl)) k
theorem g_ishr {x z : Int32} (n : Nat) (d : decode y.2.1 pc = .ok (.ishr, 1))  (hn : pc + 1 = n) (k : Go l y n L (.int (x >>> (z &&& 31)) :: S) h Q) : Go l y pc L (.int z :: .int x :: S) h Q := by
  subst hn
  exact Go.s0 (fun p e R s m args below meth c b D kA H locs cells slots ls Qf C hf ho hc hs hR hl kk => lv_ishr C.1 C.2.1 d (kk ls hl)) k
theorem g_idiv {x z : Int32} (n : Nat) (d : decode y.2.1 pc = .ok (.idiv, 1)) (hne : ¬ z = 0) (hn : pc + 1 = n) (k : Go l y n L (.int (x / z) :: S) h Q) : Go l y pc L (.int z :: .int x :: S) h Q := by
  subst hn
  exact Go.s0 (fun p e R s m args below meth c b D kA H locs cells slots ls Qf C hf ho hc hs hR hl kk => lv_idiv C.1 C.2.1 d hne (kk ls hl)) k
theorem g_irem {x z : Int32} (n : Nat) (d : decode y.2.1 pc = .ok (.irem, 1)) (hne : ¬ z = 0) (hn : pc + 1 = n) (k : Go l y n L (.int (x - x / z * z) :: S) h Q) : Go l y pc L (.int z :: .int x :: S) h Q := by
  subst hn
  exact Go.s0 (fun p e R s m args below meth c b D kA H locs cells slots ls Qf C hf ho hc hs hR hl kk => lv_irem C.1 C.2.1 d hne (kk ls hl)) k
theorem g_ladd {x z : Int64} (n : Nat) (d : decode y.2.1 pc = .ok (.ladd, 1))  (hn : pc + 1 = n) (k : Go l y n L (.long (x + z) :: S) h Q) : Go l y pc L (.long z :: .long x :: S) h Q := by
  subst hn
  exact Go.s0 (fun p e R s m args below meth c b D kA H locs cells slots ls Qf C hf ho hc hs hR hl kk => lv_ladd C.1 C.2.1 d (kk ls hl)) k
theorem g_lsub {x z : Int64} (n : Nat) (d : decode y.2.1 pc = .ok (.lsub, 1))  (hn : pc + 1 = n) (k : Go l y n L (.long (x - z) :: S) h Q) : Go l y pc L (.long z :: .long x :: S) h Q := by
  subst hn
  exact Go.s0 (fun p e R s m args below meth c b D kA H locs cells slots ls Qf C hf ho hc hs hR hl kk => lv_lsub C.1 C.2.1 d (kk ls hl)) k
theorem g_lmul {x z : Int64} (n : Nat) (d : decode y.2.1 pc = .ok (.lmul, 1))  (hn : pc + 1 = n) (k : Go l y n L (.long (x * z) :: S) h Q) : Go l y pc L (.long z :: .long x :: S) h Q := by
  subst hn
  exact Go.s0 (fun p e R s m args below meth c b D kA H locs cells slots ls Qf C hf ho hc hs hR hl kk => lv_lmul C.1 C.2.1 d (kk ls hl)) k
theorem g_land {x z : Int64} (n : Nat) (d : decode y.2.1 pc = .ok (.land, 1))  (hn : pc + 1 = n) (k : Go l y n L (.long (x &&& z) :: S) h Q) : Go l y pc L (.long z :: .long x :: S) h Q := by
  subst hn
  exact Go.s0 (fun p e R s m args below meth c b D kA H locs cells slots ls Qf C hf ho hc hs hR hl kk => lv_land C.1 C.2.1 d (kk ls hl)) k
theorem g_lor {x z : Int64} (n : Nat) (d : decode y.2.1 pc = .ok (.lor, 1))  (hn : pc + 1 = n) (k : Go l y n L (.long (x ||| z) :: S) h Q) : Go l y pc L (.long z :: .long x :: S) h Q := by
  subst hn
  exact Go.s0 (fun p e R s m args below meth c b D kA H locs cells slots ls Qf C hf ho hc hs hR hl kk => lv_lor C.1 C.2.1 d (kk ls hl)) k
theorem g_lshl {x : Int64} {z : Int32} (n : Nat) (d : decode y.2.1 pc = .ok (.lshl, 1))  (hn : pc + 1 = n) (k : Go l y n L (.long (x <<< (z.toInt64 &&& 63)) :: S) h Q) : Go l y pc L (.int z :: .long x :: S) h Q := by
  subst hn
  exact Go.s0 (fun p e R s m args below meth c b D kA H locs cells slots ls Qf C hf ho hc hs hR hl kk => lv_lshl C.1 C.2.1 d rfl (kk ls hl)) k
theorem g_lshr {x : Int64} {z : Int32} (n : Nat) (d : decode y.2.1 pc = .ok (.lshr, 1))  (hn : pc + 1 = n) (k : Go l y n L (.long (x >>> (z.toInt64 &&& 63)) :: S) h Q) : Go l y pc L (.int z :: .long x :: S) h Q := by
  subst hn
  exact Go.s0 (fun p e R s m args below meth c b D kA H locs cells slots ls Qf C hf ho hc hs hR hl kk => lv_lshr C.1 C.2.1 d rfl (kk ls hl)) k
theorem g_lushr {x : Int64} {z : Int32} (n : Nat) (d : decode y.2.1 pc = .ok (.lushr, 1))  (hn : pc + 1 = n) (k : Go l y n L (.long ((x.toUInt64 >>> (z.toInt64.toUInt64 &&& Int64.toUInt64 63)).toInt64) :: S) h Q) : Go l y pc L (.int z :: .long x :: S) h Q := by
  subst hn
  exact Go.s0 (fun p e R s m args below meth c b D kA H locs cells slots ls Qf C hf ho hc hs hR hl kk => lv_lushr C.1 C.2.1 d rfl (kk ls hl)) k
theorem g_i2l {x : Int32} (n : Nat) (d : decode y.2.1 pc = .ok (.i2l, 1))  (hn : pc + 1 = n) (k : Go l y n L (.long x.toInt64 :: S) h Q) : Go l y pc L (.int x :: S) h Q := by
  subst hn
  exact Go.s0 (fun p e R s m args below meth c b D kA H locs cells slots ls Qf C hf ho hc hs hR hl kk => lv_i2l C.1 C.2.1 d rfl (kk ls hl)) k
theorem g_l2i {x : Int64} (n : Nat) (d : decode y.2.1 pc = .ok (.l2i, 1))  (hn : pc + 1 = n) (k : Go l y n L (.int x.toInt32 :: S) h Q) : Go l y pc L (.long x :: S) h Q := by
  subst hn
  exact Go.s0 (fun p e R s m args below meth c b D kA H locs cells slots ls Qf C hf ho hc hs hR hl kk => lv_l2i C.1 C.2.1 d rfl (kk ls hl)) k
theorem g_i2b {x : Int32} (n : Nat) (d : decode y.2.1 pc = .ok (.i2b, 1))  (hn : pc + 1 = n) (k : Go l y n L (.int x.toInt8.toInt32 :: S) h Q) : Go l y pc L (.int x :: S) h Q := by
  subst hn
  exact Go.s0 (fun p e R s m args below meth c b D kA H locs cells slots ls Qf C hf ho hc hs hR hl kk => lv_i2b C.1 C.2.1 d rfl (kk ls hl)) k
theorem g_lcmp {x z : Int64} (n : Nat) (d : decode y.2.1 pc = .ok (.lcmp, 1))  (hn : pc + 1 = n) (k : Go l y n L (.int (lg_cmp x z) :: S) h Q) : Go l y pc L (.long z :: .long x :: S) h Q := by
  subst hn
  exact Go.s0 (fun p e R s m args below meth c b D kA H locs cells slots ls Qf C hf ho hc hs hR hl kk => W.lcmp C.1 C.2.1 d (kk ls hl)) k
theorem g_iconst {i : Int} {v : Int32} (n : Nat) (d : decode y.2.1 pc = .ok (.iconst i, 1)) (hv : Int32.ofInt i = v) (hn : pc + 1 = n) (k : Go l y n L (.int v :: S) h Q) : Go l y pc L (S) h Q := by
  subst hn
  exact Go.s0 (fun p e R s m args below meth c b D kA H locs cells slots ls Qf C hf ho hc hs hR hl kk => lv_iconst C.1 C.2.1 d hv (kk ls hl)) k
theorem g_bipush {i : Int} {v : Int32} (n : Nat) (d : decode y.2.1 pc = .ok (.bipush i, 2)) (hv : (Int8.ofInt i).toInt32 = v) (hn : pc + 2 = n) (k : Go l y n L (.int v :: S) h Q) : Go l y pc L (S) h Q := by
  subst hn
  exact Go.s0 (fun p e R s m args below meth c b D kA H locs cells slots ls Qf C hf ho hc hs hR hl kk => lv_bipush C.1 C.2.1 d hv (kk ls hl)) k
theorem g_sipush {i : Int} {v : Int32} (n : Nat) (d : decode y.2.1 pc = .ok (.sipush i, 3)) (hv : (Int16.ofInt i).toInt32 = v) (hn : pc + 3 = n) (k : Go l y n L (.int v :: S) h Q) : Go l y pc L (S) h Q := by
  subst hn
  exact Go.s0 (fun p e R s m args below meth c b D kA H locs cells slots ls Qf C hf ho hc hs hR hl kk => lv_sipush C.1 C.2.1 d hv (kk ls hl)) k
theorem g_lconst {i : Fin 2} {v : Int64} (n : Nat) (d : decode y.2.1 pc = .ok (.lconst i, 1)) (hv : Int64.ofNat (i : Nat) = v) (hn : pc + 1 = n) (k : Go l y n L (.long v :: S) h Q) : Go l y pc L (S) h Q := by
  subst hn
  exact Go.s0 (fun p e R s m args below meth c b D kA H locs cells slots ls Qf C hf ho hc hs hR hl kk => lv_lconst C.1 C.2.1 d hv (kk ls hl)) k
theorem g_null  (n : Nat) (d : decode y.2.1 pc = .ok (.aconst_null, 1))  (hn : pc + 1 = n) (k : Go l y n L (.null :: S) h Q) : Go l y pc L (S) h Q := by
  subst hn
  exact Go.s0 (fun p e R s m args below meth c b D kA H locs cells slots ls Qf C hf ho hc hs hR hl kk => lv_null C.1 C.2.1 d (kk ls hl)) k
theorem g_ldc {i : Nat} {v : Int32} (n : Nat) (d : decode y.2.1 pc = .ok (.ldc i, 2)) (hw : Cond.constant y.1.cls i v ∈ gw) (hn : pc + 2 = n) (k : Go l y n L (.int v :: S) h Q) : Go l y pc L (S) h Q := by
  subst hn
  exact Go.s0 (fun p e R s m args below meth c b D kA H locs cells slots ls Qf C hf ho hc hs hR hl kk => lv_ldc C.1 C.2.1 C.2.2.2.1 (C.2.2.2.2.1 _ hw) d (kk ls hl)) k
theorem g_ldc2 {i : Nat} {v : Int64} (n : Nat) (d : decode y.2.1 pc = .ok (.ldc2_w i, 3)) (hw : Cond.constantLong y.1.cls i v ∈ gw) (hn : pc + 3 = n) (k : Go l y n L (.long v :: S) h Q) : Go l y pc L (S) h Q := by
  subst hn
  exact Go.s0 (fun p e R s m args below meth c b D kA H locs cells slots ls Qf C hf ho hc hs hR hl kk => lv_ldc2 C.1 C.2.1 C.2.2.2.1 (C.2.2.2.2.1 _ hw) d (kk ls hl)) k
theorem g_iload_n {i : Fin 4} {x : Int32} (n : Nat) (d : decode y.2.1 pc = .ok (.iload_n i, 1)) (hg : L[(i : Nat)]? = some (some (.int x))) (hn : pc + 1 = n) (k : Go l y n L (.int x :: S) h Q) : Go l y pc L (S) h Q := by
  subst hn
  exact Go.s0 (fun p e R s m args below meth c b D kA H locs cells slots ls Qf C hf ho hc hs hR hl kk => lv_iload_n C.1 C.2.1 d rfl (hl.2.2 _ _ hg) (kk ls hl)) k
theorem g_iload {i : Nat} {x : Int32} (n : Nat) (d : decode y.2.1 pc = .ok (.iload i, 2)) (hg : L[i]? = some (some (.int x))) (hn : pc + 2 = n) (k : Go l y n L (.int x :: S) h Q) : Go l y pc L (S) h Q := by
  subst hn
  exact Go.s0 (fun p e R s m args below meth c b D kA H locs cells slots ls Qf C hf ho hc hs hR hl kk => lv_iload C.1 C.2.1 d (hl.2.2 _ _ hg) (kk ls hl)) k
theorem g_lload_n {i : Fin 4} {x : Int64} (n : Nat) (d : decode y.2.1 pc = .ok (.lload_n i, 1)) (hg : L[(i : Nat)]? = some (some (.long x))) (hn : pc + 1 = n) (k : Go l y n L (.long x :: S) h Q) : Go l y pc L (S) h Q := by
  subst hn
  exact Go.s0 (fun p e R s m args below meth c b D kA H locs cells slots ls Qf C hf ho hc hs hR hl kk => lv_lload_n C.1 C.2.1 d rfl (hl.2.2 _ _ hg) (kk ls hl)) k
theorem g_lload {i : Nat} {x : Int64} (n : Nat) (d : decode y.2.1 pc = .ok (.lload i, 2)) (hg : L[i]? = some (some (.long x))) (hn : pc + 2 = n) (k : Go l y n L (.long x :: S) h Q) : Go l y pc L (S) h Q := by
  subst hn
  exact Go.s0 (fun p e R s m args below meth c b D kA H locs cells slots ls Qf C hf ho hc hs hR hl kk => lv_lload C.1 C.2.1 d (hl.2.2 _ _ hg) (kk ls hl)) k
theorem g_aload_n {i : Fin 4} {x : Nat} (n : Nat) (d : decode y.2.1 pc = .ok (.aload_n i, 1)) (hg : L[(i : Nat)]? = some (some (.ref x))) (hn : pc + 1 = n) (k : Go l y n L (.ref x :: S) h Q) : Go l y pc L (S) h Q := by
  subst hn
  exact Go.s0 (fun p e R s m args below meth c b D kA H locs cells slots ls Qf C hf ho hc hs hR hl kk => lv_aload_n C.1 C.2.1 d rfl (hl.2.2 _ _ hg) (kk ls hl)) k
theorem g_aload {i : Nat} {x : Nat} (n : Nat) (d : decode y.2.1 pc = .ok (.aload i, 2)) (hg : L[i]? = some (some (.ref x))) (hn : pc + 2 = n) (k : Go l y n L (.ref x :: S) h Q) : Go l y pc L (S) h Q := by
  subst hn
  exact Go.s0 (fun p e R s m args below meth c b D kA H locs cells slots ls Qf C hf ho hc hs hR hl kk => lv_aload C.1 C.2.1 d (hl.2.2 _ _ hg) (kk ls hl)) k
theorem g_aload_nN {i : Fin 4} (n : Nat) (d : decode y.2.1 pc = .ok (.aload_n i, 1)) (hg : L[(i : Nat)]? = some (some .null)) (hn : pc + 1 = n) (k : Go l y n L (.null :: S) h Q) : Go l y pc L (S) h Q := by
  subst hn
  exact Go.s0 (fun p e R s m args below meth c b D kA H locs cells slots ls Qf C hf ho hc hs hR hl kk => lv_aload_nN C.1 C.2.1 d rfl (hl.2.2 _ _ hg) (kk ls hl)) k
theorem g_aloadN {i : Nat} (n : Nat) (d : decode y.2.1 pc = .ok (.aload i, 2)) (hg : L[i]? = some (some .null)) (hn : pc + 2 = n) (k : Go l y n L (.null :: S) h Q) : Go l y pc L (S) h Q := by
  subst hn
  exact Go.s0 (fun p e R s m args below meth c b D kA H locs cells slots ls Qf C hf ho hc hs hR hl kk => lv_aloadN C.1 C.2.1 d (hl.2.2 _ _ hg) (kk ls hl)) k
theorem g_istore_n {i : Fin 4} {x : Int32} {L1 : ML} (n : Nat) (d : decode y.2.1 pc = .ok (.istore_n i, 1)) (hi : (i : Nat) < y.2.2.1) (hok : Lok L i = true) (hL : L.set i (some (.int x)) = L1) (hn : pc + 1 = n) (k : Go l y n L1 (S) h Q) : Go l y pc L (.int x :: S) h Q := by
  subst hn
  exact Go.s0 (fun p e R s m args below meth c b D kA H locs cells slots ls Qf C hf ho hc hs hR hl kk => lv_istore_n C.1 C.2.1 d rfl hl.has hi rfl (fun ls1 h1 => kk ls1 (by rw [← hL]; exact Lh.put1 (v := .int x) hok h1))) k
theorem g_istore {i : Nat} {x : Int32} {L1 : ML} (n : Nat) (d : decode y.2.1 pc = .ok (.istore i, 2)) (hi : i < y.2.2.1) (hok : Lok L i = true) (hL : L.set i (some (.int x)) = L1) (hn : pc + 2 = n) (k : Go l y n L1 (S) h Q) : Go l y pc L (.int x :: S) h Q := by
  subst hn
  exact Go.s0 (fun p e R s m args below meth c b D kA H locs cells slots ls Qf C hf ho hc hs hR hl kk => lv_istore C.1 C.2.1 d hl.has hi rfl (fun ls1 h1 => kk ls1 (by rw [← hL]; exact Lh.put1 (v := .int x) hok h1))) k
theorem g_astore_n {i : Fin 4} {x : Nat} {L1 : ML} (n : Nat) (d : decode y.2.1 pc = .ok (.astore_n i, 1)) (hi : (i : Nat) < y.2.2.1) (hok : Lok L i = true) (hL : L.set i (some (.ref x)) = L1) (hn : pc + 1 = n) (k : Go l y n L1 (S) h Q) : Go l y pc L (.ref x :: S) h Q := by
  subst hn
  exact Go.s0 (fun p e R s m args below meth c b D kA H locs cells slots ls Qf C hf ho hc hs hR hl kk => lv_astore_n C.1 C.2.1 d rfl hl.has hi rfl (fun ls1 h1 => kk ls1 (by rw [← hL]; exact Lh.put1 (v := .ref x) hok h1))) k
theorem g_astore {i : Nat} {x : Nat} {L1 : ML} (n : Nat) (d : decode y.2.1 pc = .ok (.astore i, 2)) (hi : i < y.2.2.1) (hok : Lok L i = true) (hL : L.set i (some (.ref x)) = L1) (hn : pc + 2 = n) (k : Go l y n L1 (S) h Q) : Go l y pc L (.ref x :: S) h Q := by
  subst hn
  exact Go.s0 (fun p e R s m args below meth c b D kA H locs cells slots ls Qf C hf ho hc hs hR hl kk => lv_astore C.1 C.2.1 d hl.has hi rfl (fun ls1 h1 => kk ls1 (by rw [← hL]; exact Lh.put1 (v := .ref x) hok h1))) k
theorem g_astore_nN {i : Fin 4} {L1 : ML} (n : Nat) (d : decode y.2.1 pc = .ok (.astore_n i, 1)) (hi : (i : Nat) < y.2.2.1) (hok : Lok L i = true) (hL : L.set i (some .null) = L1) (hn : pc + 1 = n) (k : Go l y n L1 (S) h Q) : Go l y pc L (.null :: S) h Q := by
  subst hn
  exact Go.s0 (fun p e R s m args below meth c b D kA H locs cells slots ls Qf C hf ho hc hs hR hl kk => lv_astore_nN C.1 C.2.1 d rfl hl.has hi rfl (fun ls1 h1 => kk ls1 (by rw [← hL]; exact Lh.put1 (v := .null) hok h1))) k
theorem g_astoreN {i : Nat} {L1 : ML} (n : Nat) (d : decode y.2.1 pc = .ok (.astore i, 2)) (hi : i < y.2.2.1) (hok : Lok L i = true) (hL : L.set i (some .null) = L1) (hn : pc + 2 = n) (k : Go l y n L1 (S) h Q) : Go l y pc L (.null :: S) h Q := by
  subst hn
  exact Go.s0 (fun p e R s m args below meth c b D kA H locs cells slots ls Qf C hf ho hc hs hR hl kk => lv_astoreN C.1 C.2.1 d hl.has hi rfl (fun ls1 h1 => kk ls1 (by rw [← hL]; exact Lh.put1 (v := .null) hok h1))) k
theorem g_lstore_n {i : Fin 4} {x : Int64} {L1 : ML} (n : Nat) (d : decode y.2.1 pc = .ok (.lstore_n i, 1)) (hi : (i : Nat) + 1 < y.2.2.1) (hok : Lok L i = true) (hL : (L.set i (some (.long x))).set (i + 1) none = L1) (hn : pc + 1 = n) (k : Go l y n L1 (S) h Q) : Go l y pc L (.long x :: S) h Q := by
  subst hn
  exact Go.s0 (fun p e R s m args below meth c b D kA H locs cells slots ls Qf C hf ho hc hs hR hl kk => lv_lstore_n C.1 C.2.1 d rfl hl.has hi rfl (fun ls1 h1 => kk ls1 (by rw [← hL]; exact Lh.put2 (v := .long x) hok h1))) k
theorem g_lstore {i : Nat} {x : Int64} {L1 : ML} (n : Nat) (d : decode y.2.1 pc = .ok (.lstore i, 2)) (hi : i + 1 < y.2.2.1) (hok : Lok L i = true) (hL : (L.set i (some (.long x))).set (i + 1) none = L1) (hn : pc + 2 = n) (k : Go l y n L1 (S) h Q) : Go l y pc L (.long x :: S) h Q := by
  subst hn
  exact Go.s0 (fun p e R s m args below meth c b D kA H locs cells slots ls Qf C hf ho hc hs hR hl kk => lv_lstore C.1 C.2.1 d hl.has hi rfl (fun ls1 h1 => kk ls1 (by rw [← hL]; exact Lh.put2 (v := .long x) hok h1))) k
theorem g_iinc {i : Nat} {j : Int} {x v : Int32} {L1 : ML} (n : Nat) (d : decode y.2.1 pc = .ok (.iinc i j, 3)) (hg : L[i]? = some (some (.int x))) (hv : x + Int32.ofInt j = v) (hi : i < y.2.2.1) (hok : Lok L i = true) (hL : L.set i (some (.int v)) = L1) (hn : pc + 3 = n) (k : Go l y n L1 S h Q) : Go l y pc L S h Q := by
  subst hn
  refine Go.s0 (fun p e R s m args below meth c b D kA H locs cells slots ls Qf C hf ho hc hs hR hl kk => ?_) k
  obtain ⟨q, hq⟩ := List.getElem?_of_mem (al_mem (b := b) hg)
  exact lv_iinc C.1 C.2.1 d hl.has hq hv hi rfl (fun ls1 h1 => kk ls1 (by rw [← hL]; exact Lh.put1 (v := .int v) hok h1))
theorem g_dup {v : Value} (n : Nat) (d : decode y.2.1 pc = .ok (.dup, 1)) (hv : v.category = 1) (hn : pc + 1 = n) (k : Go l y n L (v :: v :: S) h Q) : Go l y pc L (v :: S) h Q := by
  subst hn
  exact Go.s0 (fun p e R s m args below meth c b D kA H locs cells slots ls Qf C hf ho hc hs hR hl kk => lv_dup C.1 C.2.1 d ((mv_cat b v).trans hv) (kk ls hl)) k
theorem g_dup2 {v w : Value} (n : Nat) (d : decode y.2.1 pc = .ok (.dup2, 1)) (hv : v.category = 1) (hw : w.category = 1) (hn : pc + 1 = n) (k : Go l y n L (v :: w :: v :: w :: S) h Q) : Go l y pc L (v :: w :: S) h Q := by
  subst hn
  exact Go.s0 (fun p e R s m args below meth c b D kA H locs cells slots ls Qf C hf ho hc hs hR hl kk => lv_dup2_11 C.1 C.2.1 d ((mv_cat b v).trans hv) ((mv_cat b w).trans hw) (kk ls hl)) k
theorem g_pop {v : Value} (n : Nat) (d : decode y.2.1 pc = .ok (.pop, 1)) (hv : v.category = 1) (hn : pc + 1 = n) (k : Go l y n L (S) h Q) : Go l y pc L (v :: S) h Q := by
  subst hn
  exact Go.s0 (fun p e R s m args below meth c b D kA H locs cells slots ls Qf C hf ho hc hs hR hl kk => lv_pop C.1 C.2.1 d ((mv_cat b v).trans hv) (kk ls hl)) k
theorem Go.fork {pt pf : Nat} {S1 : List Value} {c0 : Prop} [Decidable c0]
    (hW : ∀ (p : Program) (e : Env) (R : Room) (s : State) (m : MethodId) (args : Array Value) (below : List Frame) (meth : Method) (c : Code) (b : Nat) (D : va_G) (kA : Nat → ClassId) (H : Heap) (locs : List Loc) (cells slots : Nat) (ls : Array Slot) (Qf : State → Prop),
      Cx y p s m args meth c b D kA → (c0 → W p l e R s m args below meth c H locs cells slots Qf (F0 m pt ls (S1.map (mv b)))) → (¬ c0 → W p l e R s m args below meth c H locs cells slots Qf (F0 m pf ls (S1.map (mv b)))) →
      W p l e R s m args below meth c H locs cells slots Qf (F0 m pc ls (S.map (mv b))))
    (kt : c0 → Go l y pt L S1 h Q) (kf : ¬ c0 → Go l y pf L S1 h Q) : Go l y pc L S h Q := by
  by_cases hc0 : c0
  · exact Go.s0 (fun p e R s m args below meth c b D kA H locs cells slots ls Qf C hf ho hc hs hR hl kk => hW p e R s m args below meth c b D kA H locs cells slots ls Qf C (fun _ => kk ls hl) (fun q => absurd hc0 q)) (kt hc0)
  · exact Go.s0 (fun p e R s m args below meth c b D kA H locs cells slots ls Qf C hf ho hc hs hR hl kk => hW p e R s m args below meth c b D kA H locs cells slots ls Qf C (fun q => absurd q hc0) (fun _ => kk ls hl)) (kf hc0)
theorem g_if_eq {x : Int32} {off : Int} (t n : Nat) (d : decode y.2.1 pc = .ok (.ifCond .eq off, 3)) (ht : (pc : Int) + off = (t : Int)) (hn : pc + 3 = n) (kt : x = 0 → Go l y t L S h Q) (kf : ¬ x = 0 → Go l y n L S h Q) : Go l y pc L (.int x :: S) h Q := by
  subst hn
  exact Go.fork (fun p e R s m args below meth c b D kA H locs cells slots ls Qf C ut uf => lv_if_eq C.1 C.2.1 d ht ut uf) kt kf
theorem g_icmp_eq {x z : Int32} {off : Int} (t n : Nat) (d : decode y.2.1 pc = .ok (.if_icmp .eq off, 3)) (ht : (pc : Int) + off = (t : Int)) (hn : pc + 3 = n) (kt : x = z → Go l y t L S h Q) (kf : ¬ x = z → Go l y n L S h Q) : Go l y pc L (.int z :: .int x :: S) h Q := by
  subst hn
  exact Go.fork (fun p e R s m args below meth c b D kA H locs cells slots ls Qf C ut uf => lv_icmp_eq C.1 C.2.1 d ht ut uf) kt kf
theorem g_if_ne {x : Int32} {off : Int} (t n : Nat) (d : decode y.2.1 pc = .ok (.ifCond .ne off, 3)) (ht : (pc : Int) + off = (t : Int)) (hn : pc + 3 = n) (kt : ¬ x = 0 → Go l y t L S h Q) (kf : x = 0 → Go l y n L S h Q) : Go l y pc L (.int x :: S) h Q := by
  subst hn
  exact Go.fork (fun p e R s m args below meth c b D kA H locs cells slots ls Qf C ut uf => lv_if_ne C.1 C.2.1 d ht ut (fun q => uf (not_not_intro q))) kt (fun q => kf (Decidable.of_not_not q))
theorem g_icmp_ne {x z : Int32} {off : Int} (t n : Nat) (d : decode y.2.1 pc = .ok (.if_icmp .ne off, 3)) (ht : (pc : Int) + off = (t : Int)) (hn : pc + 3 = n) (kt : ¬ x = z → Go l y t L S h Q) (kf : x = z → Go l y n L S h Q) : Go l y pc L (.int z :: .int x :: S) h Q := by
  subst hn
  exact Go.fork (fun p e R s m args below meth c b D kA H locs cells slots ls Qf C ut uf => lv_icmp_ne C.1 C.2.1 d ht ut (fun q => uf (not_not_intro q))) kt (fun q => kf (Decidable.of_not_not q))
theorem g_if_lt {x : Int32} {off : Int} (t n : Nat) (d : decode y.2.1 pc = .ok (.ifCond .lt off, 3)) (ht : (pc : Int) + off = (t : Int)) (hn : pc + 3 = n) (kt : x < 0 → Go l y t L S h Q) (kf : ¬ x < 0 → Go l y n L S h Q) : Go l y pc L (.int x :: S) h Q := by
  subst hn
  exact Go.fork (fun p e R s m args below meth c b D kA H locs cells slots ls Qf C ut uf => lv_if_lt C.1 C.2.1 d ht ut uf) kt kf
theorem g_icmp_lt {x z : Int32} {off : Int} (t n : Nat) (d : decode y.2.1 pc = .ok (.if_icmp .lt off, 3)) (ht : (pc : Int) + off = (t : Int)) (hn : pc + 3 = n) (kt : x < z → Go l y t L S h Q) (kf : ¬ x < z → Go l y n L S h Q) : Go l y pc L (.int z :: .int x :: S) h Q := by
  subst hn
  exact Go.fork (fun p e R s m args below meth c b D kA H locs cells slots ls Qf C ut uf => lv_icmp_lt C.1 C.2.1 d ht ut uf) kt kf
theorem g_if_ge {x : Int32} {off : Int} (t n : Nat) (d : decode y.2.1 pc = .ok (.ifCond .ge off, 3)) (ht : (pc : Int) + off = (t : Int)) (hn : pc + 3 = n) (kt : 0 ≤ x → Go l y t L S h Q) (kf : ¬ 0 ≤ x → Go l y n L S h Q) : Go l y pc L (.int x :: S) h Q := by
  subst hn
  exact Go.fork (fun p e R s m args below meth c b D kA H locs cells slots ls Qf C ut uf => lv_if_ge C.1 C.2.1 d ht ut uf) kt kf
theorem g_icmp_ge {x z : Int32} {off : Int} (t n : Nat) (d : decode y.2.1 pc = .ok (.if_icmp .ge off, 3)) (ht : (pc : Int) + off = (t : Int)) (hn : pc + 3 = n) (kt : z ≤ x → Go l y t L S h Q) (kf : ¬ z ≤ x → Go l y n L S h Q) : Go l y pc L (.int z :: .int x :: S) h Q := by
  subst hn
  exact Go.fork (fun p e R s m args below meth c b D kA H locs cells slots ls Qf C ut uf => lv_icmp_ge C.1 C.2.1 d ht ut uf) kt kf
theorem g_if_gt {x : Int32} {off : Int} (t n : Nat) (d : decode y.2.1 pc = .ok (.ifCond .gt off, 3)) (ht : (pc : Int) + off = (t : Int)) (hn : pc + 3 = n) (kt : 0 < x → Go l y t L S h Q) (kf : ¬ 0 < x → Go l y n L S h Q) : Go l y pc L (.int x :: S) h Q := by
  subst hn
  exact Go.fork (fun p e R s m args below meth c b D kA H locs cells slots ls Qf C ut uf => lv_if_gt C.1 C.2.1 d ht ut uf) kt kf
theorem g_icmp_gt {x z : Int32} {off : Int} (t n : Nat) (d : decode y.2.1 pc = .ok (.if_icmp .gt off, 3)) (ht : (pc : Int) + off = (t : Int)) (hn : pc + 3 = n) (kt : z < x → Go l y t L S h Q) (kf : ¬ z < x → Go l y n L S h Q) : Go l y pc L (.int z :: .int x :: S) h Q := by
  subst hn
  exact Go.fork (fun p e R s m args below meth c b D kA H locs cells slots ls Qf C ut uf => lv_icmp_gt C.1 C.2.1 d ht ut uf) kt kf
theorem g_if_le {x : Int32} {off : Int} (t n : Nat) (d : decode y.2.1 pc = .ok (.ifCond .le off, 3)) (ht : (pc : Int) + off = (t : Int)) (hn : pc + 3 = n) (kt : x ≤ 0 → Go l y t L S h Q) (kf : ¬ x ≤ 0 → Go l y n L S h Q) : Go l y pc L (.int x :: S) h Q := by
  subst hn
  exact Go.fork (fun p e R s m args below meth c b D kA H locs cells slots ls Qf C ut uf => lv_if_le C.1 C.2.1 d ht ut uf) kt kf
theorem g_icmp_le {x z : Int32} {off : Int} (t n : Nat) (d : decode y.2.1 pc = .ok (.if_icmp .le off, 3)) (ht : (pc : Int) + off = (t : Int)) (hn : pc + 3 = n) (kt : x ≤ z → Go l y t L S h Q) (kf : ¬ x ≤ z → Go l y n L S h Q) : Go l y pc L (.int z :: .int x :: S) h Q := by
  subst hn
  exact Go.fork (fun p e R s m args below meth c b D kA H locs cells slots ls Qf C ut uf => lv_icmp_le C.1 C.2.1 d ht ut uf) kt kf
theorem g_goto {off : Int} (t : Nat) (d : decode y.2.1 pc = .ok (.goto off, 3)) (ht : (pc : Int) + off = (t : Int)) (k : Go l y t L S h Q) : Go l y pc L S h Q :=
  Go.s0 (fun p e R s m args below meth c b D kA H locs cells slots ls Qf C hf ho hc hs hR hl kk => lv_goto C.1 C.2.1 d ht (kk ls hl)) k
theorem g_ifnull {x : Nat} {off : Int} (n : Nat) (d : decode y.2.1 pc = .ok (.ifnull off, 3)) (hn : pc + 3 = n) (k : Go l y n L S h Q) : Go l y pc L (.ref x :: S) h Q := by
  subst hn
  exact Go.s0 (fun p e R s m args below meth c b D kA H locs cells slots ls Qf C hf ho hc hs hR hl kk => lv_ifnull C.1 C.2.1 d (kk ls hl)) k
theorem g_ifnullN {off : Int} (t : Nat) (d : decode y.2.1 pc = .ok (.ifnull off, 3)) (ht : (pc : Int) + off = (t : Int)) (k : Go l y t L S h Q) : Go l y pc L (.null :: S) h Q :=
  Go.s0 (fun p e R s m args below meth c b D kA H locs cells slots ls Qf C hf ho hc hs hR hl kk => lv_ifnullN C.1 C.2.1 d ht (kk ls hl)) k
theorem g_ifnonnull {x : Nat} {off : Int} (t : Nat) (d : decode y.2.1 pc = .ok (.ifnonnull off, 3)) (ht : (pc : Int) + off = (t : Int)) (k : Go l y t L S h Q) : Go l y pc L (.ref x :: S) h Q :=
  Go.s0 (fun p e R s m args below meth c b D kA H locs cells slots ls Qf C hf ho hc hs hR hl kk => lv_ifnonnull C.1 C.2.1 d ht (kk ls hl)) k
theorem g_ifnonnullN {off : Int} (n : Nat) (d : decode y.2.1 pc = .ok (.ifnonnull off, 3)) (hn : pc + 3 = n) (k : Go l y n L S h Q) : Go l y pc L (.null :: S) h Q := by
  subst hn
  exact Go.s0 (fun p e R s m args below meth c b D kA H locs cells slots ls Qf C hf ho hc hs hR hl kk => lv_ifnonnullN C.1 C.2.1 d (kk ls hl)) k
/-- a table: outside of it -/
theorem g_tabOut {dflt lo hi : Int} {offs : Array Int} {len : Nat} {x : Int32} (t : Nat) (d : decode y.2.1 pc = .ok (.tableswitch dflt lo hi offs, len)) (hx : x.toInt < lo ∨ hi < x.toInt) (ht : (pc : Int) + dflt = (t : Int)) (k : Go l y t L S h Q) : Go l y pc L (.int x :: S) h Q :=
  Go.s0 (fun p e R s m args below meth c b D kA H locs cells slots ls Qf C hf ho hc hs hR hl kk => lv_tableOut C.1 C.2.1 d hx ht (kk ls hl)) k
theorem g_tabIn {dflt lo hi : Int} {offs : Array Int} {len : Nat} {x : Int32} {off : Int} (t : Nat) (d : decode y.2.1 pc = .ok (.tableswitch dflt lo hi offs, len)) (h1 : ¬ x.toInt < lo) (h2 : ¬ hi < x.toInt) (hof : offs[(x.toInt - lo).toNat]? = some off) (ht : (pc : Int) + off = (t : Int)) (k : Go l y t L S h Q) : Go l y pc L (.int x :: S) h Q :=
  Go.s0 (fun p e R s m args below meth c b D kA H locs cells slots ls Qf C hf ho hc hs hR hl kk => lv_tableIn C.1 C.2.1 d h1 h2 hof ht (kk ls hl)) k
theorem g_min {i : Nat} {x z : Int32} (n : Nat) (d : decode y.2.1 pc = .ok (.invokestatic i, 3)) (hw : Cond.methodLink y.1.cls i Lib.Math.min.name ∈ gw) (hw2 : Cond.static Lib.Math.min.name ∈ gw) (hw3 : Cond.initialized "java/lang/Math" ∈ gw) (hw4 : Cond.code Lib.Math.min.name Lib.Math.min.code 2 (some .int) ∈ gw) (h1 : 1 ≤ y.2.2.2.2.1) (h2 : (S.map fun v => v.category).sum + 13 ≤ y.2.2.2.2.2) (hn : pc + 3 = n) (k : Go l y n L (.int (if z < x then z else x) :: S) h Q) : Go l y pc L (.int z :: .int x :: S) h Q := by
  subst hn
  refine Go.s0 (fun p e R s m args below meth c b D kA H locs cells slots ls Qf C hf ho hc hs hR hl kk => ?_) k
  have e1 : ((S.map (mv b)).map fun v => v.category) = S.map fun v => v.category := by simp [mv_cat]
  exact va_mmin C.1 C.2.1 (C.2.2.1.trans hl.1.symm) C.2.2.2.1 (C.2.2.2.2.1 _ hw) (C.2.2.2.2.1 _ hw2) (C.2.2.2.2.1 _ hw3) (C.2.2.2.2.1 _ hw4) (Nat.le_trans h1 hf) (by rw [e1]; exact Nat.le_trans h2 ho) hc hs d (kk ls hl)
theorem g_max {i : Nat} {x z : Int32} (n : Nat) (d : decode y.2.1 pc = .ok (.invokestatic i, 3)) (hw : Cond.methodLink y.1.cls i Lib.Math.max.name ∈ gw) (hw2 : Cond.static Lib.Math.max.name ∈ gw) (hw3 : Cond.initialized "java/lang/Math" ∈ gw) (hw4 : Cond.code Lib.Math.max.name Lib.Math.max.code 2 (some .int) ∈ gw) (h1 : 1 ≤ y.2.2.2.2.1) (h2 : (S.map fun v => v.category).sum + 13 ≤ y.2.2.2.2.2) (hn : pc + 3 = n) (k : Go l y n L (.int (if x < z then z else x) :: S) h Q) : Go l y pc L (.int z :: .int x :: S) h Q := by
  subst hn
  refine Go.s0 (fun p e R s m args below meth c b D kA H locs cells slots ls Qf C hf ho hc hs hR hl kk => ?_) k
  have e1 : ((S.map (mv b)).map fun v => v.category) = S.map fun v => v.category := by simp [mv_cat]
  exact va_mmax C.1 C.2.1 (C.2.2.1.trans hl.1.symm) C.2.2.2.1 (C.2.2.2.2.1 _ hw) (C.2.2.2.2.1 _ hw2) (C.2.2.2.2.1 _ hw3) (C.2.2.2.2.1 _ hw4) (Nat.le_trans h1 hf) (by rw [e1]; exact Nat.le_trans h2 ho) hc hs d (kk ls hl)
/-- Object's constructor -/
theorem g_obj {i a : Nat} (n : Nat) (d : decode y.2.1 pc = .ok (.invokespecial i, 3)) (hw : Cond.methodLink y.1.cls i objectInit ∈ gw) (hw2 : Cond.instanceMethod objectInit ∈ gw) (hw3 : Cond.code objectInit ⟨#[0xb1]⟩ 1 none ∈ gw) (h1 : 1 ≤ y.2.2.2.2.1) (h2 : (S.map fun v => v.category).sum + 12 ≤ y.2.2.2.2.2) (hn : pc + 3 = n) (k : Go l y n L S h Q) : Go l y pc L (.ref a :: S) h Q := by
  subst hn
  refine Go.s0 (fun p e R s m args below meth c b D kA H locs cells slots ls Qf C hf ho hc hs hR hl kk => ?_) k
  have e1 : ((S.map (mv b)).map fun v => v.category) = S.map fun v => v.category := by simp [mv_cat]
  refine W.objInit (rest := S.map (mv b)) (a := b + a) C.1 C.2.1 C.2.2.2.1 (C.2.2.2.2.1 _ hw) (C.2.2.2.2.1 _ hw2) (C.2.2.2.2.1 _ hw3) rfl (hl.1.trans C.2.2.1.symm) rfl d (Nat.le_trans h1 hf) ?_ (kk ls hl)
  show 2 * 0 + _ + 12 ≤ _
  rw [e1]
  have := Nat.le_trans h2 ho
  omega
/-- ends -/
theorem g_iret {x : Int32} (hr : y.2.2.2.1 = some .int) (d : decode y.2.1 pc = .ok (.ireturn, 1)) (hq : Q (some (.int x)) h) : Go l y pc L [.int x] h Q := by
  refine ⟨_, h, hq, Nat.le_refl _, Nat.le_refl _, fun p e R s m args below meth c b D kA H locs cells slots ls C hf ho hc hs hR hS hl => ?_⟩
  simp only [Nat.sub_self, Nat.add_zero]
  have hlk := C.2.2.2.2.2.2.1
  exact W.iret C.1 C.2.1 (C.2.2.2.2.2.1.trans hr) (fun t ht hW => ⟨rfl, by rw [ht]; exact hR, hS.F ht⟩) hS.2.2 d hlk
theorem g_zret {x : Int32} (hr : y.2.2.2.1 = some .boolean) (hx : x = 0 ∨ x = 1) (d : decode y.2.1 pc = .ok (.ireturn, 1)) (hq : Q (some (.int x)) h) : Go l y pc L [.int x] h Q := by
  refine ⟨_, h, hq, Nat.le_refl _, Nat.le_refl _, fun p e R s m args below meth c b D kA H locs cells slots ls C hf ho hc hs hR hS hl => ?_⟩
  simp only [Nat.sub_self, Nat.add_zero]
  have hlk := C.2.2.2.2.2.2.1
  exact W.zret C.1 C.2.1 (C.2.2.2.2.2.1.trans hr) (by rcases hx with rfl | rfl <;> decide) (fun t ht hW => ⟨rfl, by rw [ht]; exact hR, hS.F ht⟩) hS.2.2 d hlk
theorem g_lret {x : Int64} (hr : y.2.2.2.1 = some .long) (d : decode y.2.1 pc = .ok (.lreturn, 1)) (hq : Q (some (.long x)) h) : Go l y pc L [.long x] h Q := by
  refine ⟨_, h, hq, Nat.le_refl _, Nat.le_refl _, fun p e R s m args below meth c b D kA H locs cells slots ls C hf ho hc hs hR hS hl => ?_⟩
  simp only [Nat.sub_self, Nat.add_zero]
  have hlk := C.2.2.2.2.2.2.1
  exact W.lret C.1 C.2.1 (C.2.2.2.2.2.1.trans hr) (fun t ht hW => ⟨rfl, by rw [ht]; exact hR, hS.F ht⟩) hS.2.2 d hlk
theorem g_aret {v : Value} {C0 : String} (hr : y.2.2.2.1 = some (.object C0)) (hv : v = .null ∨ ∃ a, v = .ref a) (d : decode y.2.1 pc = .ok (.areturn, 1)) (hq : Q (some v) h) : Go l y pc L [v] h Q := by
  refine ⟨_, h, hq, Nat.le_refl _, Nat.le_refl _, fun p e R s m args below meth c b D kA H locs cells slots ls C hf ho hc hs hR hS hl => ?_⟩
  simp only [Nat.sub_self, Nat.add_zero]
  have hlk := C.2.2.2.2.2.2.1
  exact W.aret (v := mv b v) C.1 C.2.1 (C.2.2.2.2.2.1.trans hr) (Or.inl ⟨_, rfl⟩) (by rcases hv with rfl | ⟨a, rfl⟩; exact Or.inl rfl; exact Or.inr ⟨_, rfl⟩) (fun t ht hW => ⟨rfl, by rw [ht]; exact hR, hS.F ht⟩) hS.2.2 d hlk
theorem g_vret (hr : y.2.2.2.1 = none) (d : decode y.2.1 pc = .ok (.return_, 1)) (hq : Q none h) : Go l y pc L [] h Q := by
  refine ⟨_, h, hq, Nat.le_refl _, Nat.le_refl _, fun p e R s m args below meth c b D kA H locs cells slots ls C hf ho hc hs hR hS hl => ?_⟩
  simp only [Nat.sub_self, Nat.add_zero]
  have hlk := C.2.2.2.2.2.2.1
  exact W.vret C.1 C.2.1 (C.2.2.2.2.2.1.trans hr) (fun t ht hW => ⟨rfl, by rw [ht]; exact hR, hS.F ht⟩) hS.2.2 d hlk
end RUL
end
section
/-- field k of class ci is what the entry idx of own's pool names -/
def FA (own : String) (idx ci k : Nat) : Prop := ∃ (C ref : String) (T : u_T) (N : Nat), vwCl[ci]? = some (C, T, N) ∧ k < N ∧ (∀ w ∈ u_ws C T N, w ∈ gw) ∧ (Cond.fieldLink own idx ref (T k).2.1 (T k).2.2.1 ∈ gw ∨ ∃ host, Cond.fieldLinkNest own idx ref (T k).2.1 (T k).2.2.1 host ∈ nw) ∧ (ref = (T k).1 ∨ Cond.sameField ref (T k).1 (T k).2.1 (T k).2.2.1 ∈ gw)
def FP (own : String) (idx ci k : Nat) (ty : FieldType) : Prop := ∃ (C ref : String) (T : u_T) (N : Nat) (ty0 : Nat → FieldType), vwCl[ci]? = some (C, T, N) ∧ k < N ∧ (∀ w ∈ u_ws C T N, w ∈ gw) ∧ (Cond.fieldLink own idx ref (T k).2.1 (T k).2.2.1 ∈ gw ∨ ∃ host, Cond.fieldLinkNest own idx ref (T k).2.1 (T k).2.2.1 host ∈ nw) ∧ (ref = (T k).1 ∨ Cond.sameField ref (T k).1 (T k).2.1 (T k).2.2.1 ∈ gw) ∧
  (∀ k, k < N → parseFieldDescriptor (T k).2.2.1 = some (ty0 k)) ∧ (∀ a, a < N → ∀ b, b < N → a ≠ b → (T a).2.1 ≠ (T b).2.1) ∧ (T k).2.2.2 = false ∧ parseFieldDescriptor (T k).2.2.1 = some ty
def FPF (own : String) (idx ci k : Nat) (ty : FieldType) : Prop := ∃ (C ref : String) (T : u_T) (N : Nat) (ty0 : Nat → FieldType), vwCl[ci]? = some (C, T, N) ∧ k < N ∧ (∀ w ∈ u_ws C T N, w ∈ gw) ∧ Cond.fieldLink own idx ref (T k).2.1 (T k).2.2.1 ∈ gw ∧ (ref = (T k).1 ∨ Cond.sameField ref (T k).1 (T k).2.1 (T k).2.2.1 ∈ gw) ∧
  (∀ k, k < N → parseFieldDescriptor (T k).2.2.1 = some (ty0 k)) ∧ (∀ a, a < N → ∀ b, b < N → a ≠ b → (T a).2.1 ≠ (T b).2.1) ∧ (T k).2.2.2 = true ∧ (T k).1 = own ∧ parseFieldDescriptor (T k).2.2.1 = some ty
def FN (own : String) (idx ci : Nat) (fs : List Value) : Prop := ∃ (C : String) (T : u_T) (N : Nat) (ty0 : Nat → FieldType), vwCl[ci]? = some (C, T, N) ∧ (∀ w ∈ u_ws C T N, w ∈ gw) ∧ (∀ k, k < N → parseFieldDescriptor (T k).2.2.1 = some (ty0 k)) ∧
  Cond.classLink own idx C ∈ gw ∧ Cond.instantiable C N ∈ gw ∧ Cond.initialized C ∈ gw ∧ (∀ j, j < N → defaultValue (ty0 j) = vp_V fs j) ∧ fs.length = N ∧ (∀ b, fs.map (mv b) = fs)
section HP
variable {l : Launch} {y : MD} {pc : Nat} {L : ML} {S : List Value} {h : MH} {Q : Option Value → MH → Prop}
theorem g_get {i ci k a : Nat} {fs : List Value} {v : Value} (n : Nat) (d : decode y.2.1 pc = .ok (.getfield i, 3)) (hF : FA y.1.cls i ci k) (ha : h[a]? = some (.inr (ci, fs))) (hv : fs[k]? = some v) (hn : pc + 3 = n) (kk : Go l y n L (v :: S) h Q) : Go l y pc L (.ref a :: S) h Q := by
  subst hn
  obtain ⟨C0, ref, T, N, hc0, hk, hin, hlk, hsm⟩ := hF
  refine Go.s0 (fun p e R s m args below meth c b D kA H locs cells slots ls Qf C hf ho hc hs hR hl kk => ?_) kk
  obtain ⟨hx, hb, hml, hown, hts, hr, hlk2, hnm, hK, hbs⟩ := C
  have hv' : (fs.map (mv b))[k]? = some (mv b v) := by rw [List.getElem?_map, hv]; rfl
  have hsame : ∀ x, s.fieldFound? (T k).1 (T k).2.1 (T k).2.2.1 = some x → s.fieldFound? ref (T k).2.1 (T k).2.2.1 = some x := by
    rcases hsm with rfl | hw
    · exact fun _ h => h
    · exact u_same (hts _ hw)
  rcases hlk with hw | ⟨host, hw⟩
  · exact va_get (D := D) (a := b + a) hx hb (Ts := gw) hts hin hown hK.1 hR.2 a (mw_at ha) hc0 k hk (hts _ hw) hsame hv' d (kk ls hl)
  · exact va_getN (D := D) (a := b + a) hx hb (Ts := gw) hts hin hown hK.1 hR.2 a (mw_at ha) hc0 k hk ((hK.2.1 _ hw).use rfl) hsame hv' d (kk ls hl)
theorem g_put {i ci k a : Nat} {fs fs1 : List Value} {v : Value} {ty : FieldType} (n : Nat) (d : decode y.2.1 pc = .ok (.putfield i, 3)) (hF : FP y.1.cls i ci k ty) (ha : h[a]? = some (.inr (ci, fs))) (hk1 : k < fs.length) (hv : ∀ b, narrow ty (mv b v) = mv b v ∧ fits ty (mv b v) = true) (hf1 : fs.set k v = fs1) (hn : pc + 3 = n) (kk : Go l y n L S (h.set a (.inr (ci, fs1))) Q) : Go l y pc L (v :: .ref a :: S) h Q := by
  subst hn
  subst hf1
  obtain ⟨C0, ref, T, N, ty0, hc0, hk, hin, hlk, hsm, hty, hnm0, hfin, hd⟩ := hF
  refine Go.st (h1 := h.set a (.inr (ci, fs.set k v))) (by simp) (msz_set ha (by simp [mcl])) (fun p e R s m args below meth c b D kA H locs cells slots ls Qf C hf ho hc hs hR hS hl kk => ?_) kk
  obtain ⟨hx, hb, hml, hown, hts, hr, hlk2, hnm, hK, hbs⟩ := C
  have hsame : ∀ x, s.fieldFound? (T k).1 (T k).2.1 (T k).2.2.1 = some x → s.fieldFound? ref (T k).2.1 (T k).2.2.1 = some x := by
    rcases hsm with rfl | hw
    · exact fun _ h => h
    · exact u_same (hts _ hw)
  have he : (mw b kA h)[a]? = some (b + a, .inr (ci, fs.map (mv b))) := mw_at ha
  have hP := hR.2
  have hD : va_D (fun q => b ≤ q) (mw b kA h) := mw_D
  have hap := va_apart (own := y.1.cls) hts hin ty0 hty hnm0 hK.1 hc0
  obtain ⟨r, h1, cell, q1, q2, q3, q4⟩ := hP a _ he
  have hr : r = (C0, T, N) := Option.some.inj (h1.symm.trans hc0)
  subst hr
  obtain ⟨hS0, hfc, kC, hkC, hkind⟩ := hK.1.1 ci _ hc0
  obtain ⟨cf, kf, fi, f, hi, hsl⟩ := hS0 k hk
  have hlay := hts _ (hin _ (u_in_lay hk))
  unfold u_lay at hlay
  rw [if_neg (by rw [hfin]; decide)] at hlay
  have hst := (u_facts hfc hkC (u_lays hts hin hk) hi).1
  have h6 := u_store hfc hkC hkind hlay hi hd (hv b).1 (hv b).2
  have fin : ∀ H' : Heap, H'[b + a]? = some (cell.setSlot f.slot (mv b v)) → H'.size = H.size → (∀ q, q ≠ b + a → H'[q]? = H[q]?) → W p l e R s m args below meth c H' (locs ++ [⟨b + a, f.slot⟩]) cells slots Qf (F0 m (pc + 3) ls (S.map (mv b))) := by
    intro H' e1 e2 e3
    rw [hsl] at e1 ⊢
    refine kk H' _ ls ⟨by rw [e2, hR.1]; simp, ?_⟩ (hS.put e2 e3 (hD.2 a _ he)) hl
    rw [mw_set]
    have : me b kA (.inr (ci, fs.set k v)) = .inr (ci, (fs.map (mv b)).set k (mv b v)) := by simp [me, List.map_set]
    rw [this]
    exact hP.set hD he ⟨_, hc0, t_OB.to (V := updV (vp_V (fs.map (mv b))) k (mv b v)) ⟨_, e1, q2, q3, t_set q4 hap hk _⟩ (fun j _ => vp_updV_set (by simpa using hk1) (mv b v) j)⟩ e3
  rcases hlk with hw | ⟨host, hw⟩
  · exact W.putK hx hb (f := f) ⟨hown, hts _ hw, ⟨_, _, _, hsame _ hi⟩, hst⟩ (by rw [q2]; exact h6) q1 q3 (by rw [hsl]; exact k2_hasslot (q4 k hk)) rfl rfl d fin
  · exact va_WputK hx hb (f := f) hown ((hK.2.1 _ hw).use rfl) (hsame _ hi) hst (by rw [q2]; exact h6) q1 q3 (by rw [hsl]; exact k2_hasslot (q4 k hk)) rfl rfl d fin
theorem g_putF {i ci k a : Nat} {fs fs1 : List Value} {v : Value} {ty : FieldType} (n : Nat) (d : decode y.2.1 pc = .ok (.putfield i, 3)) (hF : FPF y.1.cls i ci k ty) (hin0 : y.1.name = "<init>") (ha : h[a]? = some (.inr (ci, fs))) (hk1 : k < fs.length) (hv : ∀ b, narrow ty (mv b v) = mv b v ∧ fits ty (mv b v) = true) (hf1 : fs.set k v = fs1) (hn : pc + 3 = n) (kk : Go l y n L S (h.set a (.inr (ci, fs1))) Q) : Go l y pc L (v :: .ref a :: S) h Q := by
  subst hn
  subst hf1
  obtain ⟨C0, ref, T, N, ty0, hc0, hk, hin, hw, hsm, hty, hnm0, hfin, hdecl, hd⟩ := hF
  refine Go.st (h1 := h.set a (.inr (ci, fs.set k v))) (by simp) (msz_set ha (by simp [mcl])) (fun p e R s m args below meth c b D kA H locs cells slots ls Qf C hf ho hc hs hR hS hl kk => ?_) kk
  obtain ⟨hx, hb, hml, hown, hts, hr, hlk2, hnm, hK, hbs⟩ := C
  have hsame : ∀ x, s.fieldFound? (T k).1 (T k).2.1 (T k).2.2.1 = some x → s.fieldFound? ref (T k).2.1 (T k).2.2.1 = some x := by
    rcases hsm with rfl | hw
    · exact fun _ h => h
    · exact u_same (hts _ hw)
  have he : (mw b kA h)[a]? = some (b + a, .inr (ci, fs.map (mv b))) := mw_at ha
  have hP := hR.2
  have hD : va_D (fun q => b ≤ q) (mw b kA h) := mw_D
  have hap := va_apart (own := y.1.cls) hts hin ty0 hty hnm0 hK.1 hc0
  obtain ⟨r, h1, cell, q1, q2, q3, q4⟩ := hP a _ he
  have hr : r = (C0, T, N) := Option.some.inj (h1.symm.trans hc0)
  subst hr
  obtain ⟨hS0, hfc, kC, hkC, hkind⟩ := hK.1.1 ci _ hc0
  obtain ⟨cf, kf, fi, f, hi, hsl⟩ := hS0 k hk
  have hlay := hts _ (hin _ (u_in_lay hk))
  unfold u_lay at hlay
  rw [if_pos hfin] at hlay
  have hst := (u_facts hfc hkC (u_lays hts hin hk) hi).1
  have hcf : m.cls = cf := by
    obtain ⟨_, _, c', _, _, _, -, -, hf', -, -, -, hown2, -⟩ := Cond.laysFinal_spec hlay
    have e1 : c' = cf := by have := hi.symm.trans hf'; simp at this; exact this.1.symm
    rw [hdecl] at hown2
    rw [← e1]; exact Option.some.inj (hown.symm.trans hown2)
  have h6 := u_fits hfc hkC hkind (Or.inr hlay) hi hd (hv b).1 (hv b).2
  refine W.putFinK hx hb hown (hts _ hw) (hsame _ hi) hst hcf (hnm.trans hin0) (by rw [q2]; exact h6) q1 q3 (by rw [hsl]; exact k2_hasslot (q4 k hk)) rfl rfl d fun H' e1 e2 e3 => ?_
  rw [hsl] at e1 ⊢
  refine kk H' _ ls ⟨by rw [e2, hR.1]; simp, ?_⟩ (hS.put e2 e3 (hD.2 a _ he)) hl
  rw [mw_set]
  have : me b kA (.inr (ci, fs.set k v)) = .inr (ci, (fs.map (mv b)).set k (mv b v)) := by simp [me, List.map_set]
  rw [this]
  exact hP.set hD he ⟨_, hc0, t_OB.to (V := updV (vp_V (fs.map (mv b))) k (mv b v)) ⟨_, e1, q2, q3, t_set q4 hap hk _⟩ (fun j _ => vp_updV_set (by simpa using hk1) (mv b v) j)⟩ e3
theorem g_iald {a N : Nat} {f : Nat → Int32} {x v : Int32} (n : Nat) (d : decode y.2.1 pc = .ok (.iaload, 1)) (ha : h[a]? = some (.inl (0, N, .inl f))) (hin : vp_in x N) (hv : f x.toNatClampNeg = v) (hn : pc + 1 = n) (kk : Go l y n L (.int v :: S) h Q) : Go l y pc L (.int x :: .ref a :: S) h Q := by
  subst hn
  subst hv
  refine Go.s0 (fun p e R s m args below meth c b D kA H locs cells slots ls Qf C hf ho hc hs hR hl kk => ?_) kk
  exact va_iald (D := D) (a := b + a) C.1 C.2.1 C.2.2.2.2.2.2.2.2.1.1 hR.2 a 0 (mw_at ha) rfl hin d (kk ls hl)
theorem g_bald {a N : Nat} {f : Nat → Int32} {x v : Int32} (n : Nat) (d : decode y.2.1 pc = .ok (.baload, 1)) (ha : h[a]? = some (.inl (1, N, .inl f))) (hin : vp_in x N) (hv : f x.toNatClampNeg = v) (hn : pc + 1 = n) (kk : Go l y n L (.int v :: S) h Q) : Go l y pc L (.int x :: .ref a :: S) h Q := by
  subst hn
  subst hv
  refine Go.s0 (fun p e R s m args below meth c b D kA H locs cells slots ls Qf C hf ho hc hs hR hl kk => ?_) kk
  exact va_bald (D := D) (a := b + a) C.1 C.2.1 C.2.2.2.2.2.2.2.2.1.1 hR.2 a 1 (mw_at ha) rfl hin d (kk ls hl)
theorem mv_rf (b : Nat) (o : Option Nat) : va_rf (o.map (fun x => b + x)) = mv b (va_rf o) := by cases o <;> rfl
theorem g_aald {a N kd : Nat} {f : Nat → Option Nat} {x : Int32} {v : Value} (n : Nat) (d : decode y.2.1 pc = .ok (.aaload, 1)) (ha : h[a]? = some (.inl (kd, N, .inr (.inr (.inr (.inr f)))))) (hkd : kd = 2 ∨ kd = 3) (hin : vp_in x N) (hv : va_rf (f x.toNatClampNeg) = v) (hn : pc + 1 = n) (kk : Go l y n L (v :: S) h Q) : Go l y pc L (.int x :: .ref a :: S) h Q := by
  subst hn
  subst hv
  refine Go.s0 (fun p e R s m args below meth c b D kA H locs cells slots ls Qf C hf ho hc hs hR hl kk => ?_) kk
  have k2 := kk ls hl
  simp only [List.map_cons] at k2
  rw [← mv_rf] at k2
  rcases hkd with rfl | rfl
  · exact va_aldq (D := D) (a := b + a) C.1 C.2.1 C.2.2.2.2.2.2.2.2.1.1 hR.2 a 2 (mw_at ha) rfl hin d k2
  · exact va_aldq (D := D) (a := b + a) C.1 C.2.1 C.2.2.2.2.2.2.2.2.1.1 hR.2 a 3 (mw_at ha) rfl hin d k2
theorem g_iast {a N : Nat} {f f1 : Nat → Int32} {x i : Int32} (n : Nat) (d : decode y.2.1 pc = .ok (.iastore, 1)) (ha : h[a]? = some (.inl (0, N, .inl f))) (hin : vp_in i N) (hf1 : upd f i.toNatClampNeg x = f1) (hn : pc + 1 = n) (kk : Go l y n L S (h.set a (.inl (0, N, .inl f1))) Q) : Go l y pc L (.int x :: .int i :: .ref a :: S) h Q := by
  subst hn
  subst hf1
  refine Go.st (h1 := h.set a (.inl (0, N, .inl (upd f i.toNatClampNeg x)))) (by simp) (msz_set ha (by simp [mcl])) (fun p e R s m args below meth c b D kA H locs cells slots ls Qf C hf ho hc hs hR hS hl kk => ?_) kk
  have hP := hR.2
  have hD : va_D (fun q => b ≤ q) (mw b kA h) := mw_D
  have he : (mw b kA h)[a]? = some (b + a, .inl (kA 0, N, .inl f)) := mw_at ha
  have hK := C.2.2.2.2.2.2.2.2.1.1
  refine W.iast C.1 C.2.1 (hP a _ he) ((hK.2 0 (kA 0, .int) rfl).1 N (fun j => .int (f j))) (fun q => by cases q) (by show ¬ (i < 0 ∨ (arrV _ _ _).slots.size ≤ _); rw [arrV_size]; exact hin) rfl rfl d fun H1 e z oq => ?_
  refine kk H1 _ ls ⟨by rw [z, hR.1]; simp, ?_⟩ (hS.put z oq (hD.2 a _ he)) hl
  rw [mw_set]
  refine hP.set hD he ?_ oq
  show H1[b + a]? = some (vp_cell _ _)
  rw [e]
  rw [vp_cell_i, vp_cell_i, arrV_store]
  congr 2
  funext q
  by_cases hq : q = i.toNatClampNeg
  · subst hq
    simp [updV, upd]
  · simp [updV, upd, hq]
theorem g_bast {a N : Nat} {f f1 : Nat → Int32} {x i : Int32} (n : Nat) (d : decode y.2.1 pc = .ok (.bastore, 1)) (ha : h[a]? = some (.inl (1, N, .inl f))) (hin : vp_in i N) (hf1 : upd f i.toNatClampNeg (vp_nar .byte x) = f1) (hn : pc + 1 = n) (kk : Go l y n L S (h.set a (.inl (1, N, .inl f1))) Q) : Go l y pc L (.int x :: .int i :: .ref a :: S) h Q := by
  subst hn
  subst hf1
  refine Go.st (h1 := h.set a (.inl (1, N, .inl (upd f i.toNatClampNeg (vp_nar .byte x))))) (by simp) (msz_set ha (by simp [mcl])) (fun p e R s m args below meth c b D kA H locs cells slots ls Qf C hf ho hc hs hR hS hl kk => ?_) kk
  have hP := hR.2
  have hD : va_D (fun q => b ≤ q) (mw b kA h) := mw_D
  have he : (mw b kA h)[a]? = some (b + a, .inl (kA 1, N, .inl f)) := mw_at ha
  have hK := C.2.2.2.2.2.2.2.2.1.1
  refine W.bast C.1 C.2.1 (hP a _ he) ((hK.2 1 (kA 1, .byte) rfl).1 N (fun j => .int (f j))) (fun q => by cases q) (by show ¬ (i < 0 ∨ (arrV _ _ _).slots.size ≤ _); rw [arrV_size]; exact hin) rfl rfl d fun H1 e z oq => ?_
  refine kk H1 _ ls ⟨by rw [z, hR.1]; simp, ?_⟩ (hS.put z oq (hD.2 a _ he)) hl
  rw [mw_set]
  refine hP.set hD he ?_ oq
  show H1[b + a]? = some (vp_cell _ _)
  rw [e]
  rw [vp_cell_i, vp_cell_i, arrV_store]
  congr 2
  funext q
  by_cases hq : q = i.toNatClampNeg
  · subst hq
    simp [updV, upd, vp_nar]
    try rfl
  · simp [updV, upd, hq]
/-- what an array of references takes: the kind's class -/
def kcl (kd : Nat) : String := if kd = 2 then "LadderForge$Text" else "LadderForge$Tool"
theorem g_aast {a N kd ci v : Nat} {vs : List Value} {r : vw_C} {f f1 : Nat → Option Nat} {i : Int32} (n : Nat) (d : decode y.2.1 pc = .ok (.aastore, 1)) (ha : h[a]? = some (.inl (kd, N, .inr (.inr (.inr (.inr f)))))) (hkd : kd = 2 ∨ kd = 3) (hvv : h[v]? = some (.inr (ci, vs))) (hc0 : vwCl[ci]? = some r) (hr1 : r.1 = kcl kd) (hin : vp_in i N) (hf1 : va_up f i.toNatClampNeg (some v) = f1) (hn : pc + 1 = n) (kk : Go l y n L S (h.set a (.inl (kd, N, .inr (.inr (.inr (.inr f1)))))) Q) : Go l y pc L (.ref v :: .int i :: .ref a :: S) h Q := by
  subst hn
  subst hf1
  refine Go.st (h1 := h.set a (.inl (kd, N, .inr (.inr (.inr (.inr (va_up f i.toNatClampNeg (some v)))))))) (by simp) (msz_set ha (by simp [mcl])) (fun p e R s m args below meth c b D kA H locs cells slots ls Qf C hf ho hc hs hR hS hl kk => ?_) kk
  have hP := hR.2
  have hD : va_D (fun q => b ≤ q) (mw b kA h) := mw_D
  have he : (mw b kA h)[a]? = some (b + a, .inl (kA kd, N, .inr (.inr (.inr (.inr (fun j => (f j).map (fun x => b + x))))))) := mw_at ha
  have hev : (mw b kA h)[v]? = some (b + v, .inr (ci, vs.map (mv b))) := mw_at hvv
  have hK := C.2.2.2.2.2.2.2.2.1.1
  have hlt : i.toNatClampNeg < N := Nat.not_le.mp fun q => hin (Or.inr q)
  have h0 : ¬ i < 0 := fun q => hin (Or.inl q)
  obtain ⟨r', hr', cellV, g1, g2, g3, -⟩ := hP v _ hev
  have hcls := (hK.1 ci r hc0).2
  have ht : (tyk kA)[kd]? = some (kA kd, .object r.1) := by
    rw [hr1]
    rcases hkd with rfl | rfl <;> rfl
  obtain ⟨kA2, comp, k1, k2, k3, -⟩ := (hK.2 kd _ ht).2
  have hcomp : comp = D.1 ci := Option.some.inj (k3.symm.trans hcls.1)
  subst hcomp
  have hasg := va_assign hcls
  obtain ⟨kC, hkC, -⟩ := hcls.2
  refine W.aast C.1 C.2.1 (hP a _ he) (fun q h => by cases h) (fun h => by cases h) k1 k2 rfl hkC ⟨h0, by show _ < (arrV _ _ _).slots.size; rw [arrV_size]; exact hlt⟩ g1 (fun q h => by rw [g3] at h; cases h) (by rw [g2]; exact hkC) (by rw [g2]; exact hasg) rfl rfl d fun H1 e z oq => ?_
  refine kk H1 _ ls ⟨by rw [z, hR.1]; simp, ?_⟩ (hS.put z oq (hD.2 a _ he)) hl
  rw [mw_set]
  refine hP.set hD he ?_ oq
  show H1[b + a]? = some (vp_cell _ _)
  rw [e]
  rw [vp_cell_q, vp_cell_q, arrV_store]
  congr 2
  funext q
  by_cases hq : q = i.toNatClampNeg
  · subst hq
    simp [updV, va_up, va_rf]
  · simp [updV, va_up, hq]
theorem g_new {i ci : Nat} {fs : List Value} (n : Nat) (d : decode y.2.1 pc = .ok (.new i, 3)) (hF : FN y.1.cls i ci fs) (hn : pc + 3 = n) (kk : Go l y n L (.ref h.length :: S) (h ++ [.inr (ci, fs)]) Q) : Go l y pc L S h Q := by
  subst hn
  obtain ⟨C0, T, N, ty0, hc0, hin, hty, hw1, hw2, hw3, hfs, hlen, hmap⟩ := hF
  refine Go.stp (h1 := h ++ [.inr (ci, fs)]) (by simp) (by rw [msz_push]; omega) (fun p e R s m args below meth c b D kA H locs cells slots ls Qf C hf ho hc hs hR hS hl kk => ?_) kk
  obtain ⟨hx, hb, hml, hown, hts, hr, hlk2, hnm, hK, hbs⟩ := C
  have e1 : (h ++ [(.inr (ci, fs) : va_E)]).length - h.length = 1 := by simp
  have e2 : msz (h ++ [(.inr (ci, fs) : va_E)]) - msz h = N := by rw [msz_push]; simp [mcl, hlen]
  rw [e1, e2] at kk
  rw [e1] at hc
  rw [e2] at hs
  have hKn := hK.1.1 ci _ hc0
  refine W.newcK hx hb hown (hts _ hw1) (hts _ hw2) (hts _ hw3) rfl d hc hs hKn.2.1 hR.1 fun H1 kC hkC q1 z1 o1 => ?_
  have hk : ∀ (k : Nat) (x : Nat × va_E), (mw b kA h)[k]? = some x → H1[x.1]? = H[x.1]? := fun k x hx => o1 x.1 (by have := (hR.2 k x hx).lt; rw [hR.1] at this; exact this)
  refine kk H1 locs ls ⟨by rw [z1]; simp; omega, ?_⟩ ⟨Nat.le_trans hS.1 (by rw [z1, hR.1]; omega), fun x h1 h2 => (o1 x (by have := Nat.lt_of_lt_of_le h1 hS.1; rw [hR.1] at this; exact this)).trans (hS.2.1 x h1 h2), hS.2.2⟩ hl
  rw [mw_push]
  refine (hR.2.kept hk).app (fun k x hx => ?_)
  have hz : k < 1 := (List.getElem?_eq_some_iff.mp hx).1
  rw [show k = 0 by omega] at hx
  cases hx
  have : me b kA (.inr (ci, fs)) = .inr (ci, fs) := by simp [me, hmap b]
  rw [this]
  exact ⟨_, hc0, (u_born ty0 hts hin hKn hkC q1 hty).to hfs⟩
/-- a new array of a small type: kind kd -/
theorem g_newarr {at_ : ArrayType} {kd N : Nat} {x : Int32} (n : Nat) (d : decode y.2.1 pc = .ok (.newarray at_, 2)) (hk : (at_ = .int ∧ kd = 0) ∨ (at_ = .byte ∧ kd = 1)) (hw : Cond.arrayClass (newarray.typeOf at_) ∈ gw) (hx0 : ¬ x < 0) (hN : x.toNatClampNeg = N) (hbig : N ≤ 100000) (hn : pc + 2 = n) (kk : Go l y n L (.ref h.length :: S) (h ++ [.inl (kd, N, .inl (fun _ => 0))]) Q) : Go l y pc L (.int x :: S) h Q := by
  subst hn
  refine Go.stp (h1 := h ++ [.inl (kd, N, .inl (fun _ => 0))]) (by simp) (by rw [msz_push]; omega) (fun p e R s m args below meth c b D kA H locs cells slots ls Qf C hf ho hc hs hR hS hl kk => ?_) kk
  obtain ⟨hx, hb, hml, hown, hts, hr, hlk2, hnm, hK, hbs⟩ := C
  have e1 : (h ++ [(.inl (kd, N, .inl (fun _ => 0)) : va_E)]).length - h.length = 1 := by simp
  have e2 : msz (h ++ [(.inl (kd, N, .inl (fun _ => 0)) : va_E)]) - msz h = N := by rw [msz_push]; simp [mcl]
  rw [e1, e2] at kk
  rw [e1] at hc
  rw [e2] at hs
  have hby : N * componentBytes (newarray.typeOf at_) ≤ 536870912 := by
    rcases hk with ⟨rfl, -⟩ | ⟨rfl, -⟩
    · have : componentBytes (newarray.typeOf .int) = 4 := by decide
      rw [this]; omega
    · have : componentBytes (newarray.typeOf .byte) = 1 := by decide
      rw [this]; omega
  refine va_newaK (g := F0 m pc ls (.int x :: S.map (mv b))) hx hb (hts _ hw) rfl d rfl hx0 hN hby hc hs hR.1 fun H1 cA q1 z1 o1 hAr hNm => ?_
  have hk2 : ∀ (k : Nat) (x : Nat × va_E), (mw b kA h)[k]? = some x → H1[x.1]? = H[x.1]? := fun k x hx => o1 x.1 (by have := (hR.2 k x hx).lt; rw [hR.1] at this; exact this)
  refine kk H1 locs ls ⟨by rw [z1]; simp; omega, ?_⟩ ⟨Nat.le_trans hS.1 (by rw [z1, hR.1]; omega), fun x h1 h2 => (o1 x (by have := Nat.lt_of_lt_of_le h1 hS.1; rw [hR.1] at this; exact this)).trans (hS.2.1 x h1 h2), hS.2.2⟩ hl
  rw [mw_push]
  refine (hR.2.kept hk2).app (fun k x hx => ?_)
  have hz : k < 1 := (List.getElem?_eq_some_iff.mp hx).1
  rw [show k = 0 by omega] at hx
  cases hx
  show H1[b + h.length]? = some (vp_cell _ _)
  rcases hk with ⟨rfl, rfl⟩ | ⟨rfl, rfl⟩
  · have hA : cA = kA 0 := Option.some.inj (hNm.symm.trans (hK.1.2 0 (kA 0, .int) rfl).2)
    rw [q1, hA]
    rfl
  · have hA : cA = kA 1 := Option.some.inj (hNm.symm.trans (hK.1.2 1 (kA 1, .byte) rfl).2)
    rw [q1, hA]
    rfl
/-- a new array of references: kind kd -/
theorem g_anew {i kd N : Nat} {x : Int32} (n : Nat) (d : decode y.2.1 pc = .ok (.anewarray i, 3)) (hk : kd = 2 ∨ kd = 3) (hw : Cond.classLink y.1.cls i (kcl kd) ∈ gw) (hx0 : ¬ x < 0) (hN : x.toNatClampNeg = N) (hbig : N ≤ 100000) (hn : pc + 3 = n) (kk : Go l y n L (.ref h.length :: S) (h ++ [.inl (kd, N, .inr (.inr (.inr (.inr (fun _ => none)))))]) Q) : Go l y pc L (.int x :: S) h Q := by
  subst hn
  refine Go.stp (h1 := h ++ [.inl (kd, N, .inr (.inr (.inr (.inr (fun _ => none)))))]) (by simp) (by rw [msz_push]; omega) (fun p e R s m args below meth c b D kA H locs cells slots ls Qf C hf ho hc hs hR hS hl kk => ?_) kk
  obtain ⟨hx, hb, hml, hown, hts, hr, hlk2, hnm, hK, hbs⟩ := C
  have e1 : (h ++ [(.inl (kd, N, .inr (.inr (.inr (.inr (fun _ => none))))) : va_E)]).length - h.length = 1 := by simp
  have e2 : msz (h ++ [(.inl (kd, N, .inr (.inr (.inr (.inr (fun _ => none))))) : va_E)]) - msz h = N := by rw [msz_push]; simp [mcl]
  rw [e1, e2] at kk
  rw [e1] at hc
  rw [e2] at hs
  subst hN
  have hover : va_AO (kcl kd) s := by
    rcases hk with rfl | rfl
    · exact hK.2.2.1
    · exact hK.2.2.2
  refine W.anew (g := F0 m pc ls (.int x :: S.map (mv b))) hx hb hown (hts _ hw) (va_AO.use hover) rfl d rfl hx0 (by omega) hc hs fun cA kA2 comp f1 f2 f3 f4 => ?_
  generalize hH1 : H.push ({ cls := cA, slots := Array.replicate x.toNatClampNeg .null, vm := .none } : Cell) = H1
  have z1 : H1.size = H.size + 1 := by rw [← hH1, Array.size_push]
  have q1 : H1[H.size]? = some (arrV cA x.toNatClampNeg (fun _ => .null)) := by rw [← hH1, Array.getElem?_push_size, ← arrV_new]
  have o1 : ∀ q : Nat, q < H.size → H1[q]? = H[q]? := fun q hq => by rw [← hH1, Array.getElem?_push, if_neg (Nat.ne_of_lt hq)]
  have hk2 : ∀ (k : Nat) (x : Nat × va_E), (mw b kA h)[k]? = some x → H1[x.1]? = H[x.1]? := fun k x hx => o1 x.1 ((hR.2 k x hx).lt)
  have eH : H.size = b + h.length := hR.1
  have k3 := kk H1 locs ls ⟨by rw [z1, hR.1]; simp; omega, ?_⟩ ⟨Nat.le_trans hS.1 (by rw [z1]; omega), fun x h1 h2 => (o1 x (Nat.lt_of_lt_of_le h1 hS.1)).trans (hS.2.1 x h1 h2), hS.2.2⟩ hl
  · rw [eH]
    exact k3
  rw [mw_push]
  refine (hR.2.kept hk2).app (fun k x hx => ?_)
  have hz : k < 1 := (List.getElem?_eq_some_iff.mp hx).1
  rw [show k = 0 by omega] at hx
  cases hx
  show H1[b + h.length]? = some (vp_cell _ _)
  rw [← eH, q1]
  rcases hk with rfl | rfl
  · obtain ⟨_, _, -, -, -, hA⟩ := (hK.1.2 2 (kA 2, .object "LadderForge$Text") rfl).2
    have hA : cA = kA 2 := Option.some.inj (f1.symm.trans hA)
    rw [hA]
    rfl
  · obtain ⟨_, _, -, -, -, hA⟩ := (hK.1.2 3 (kA 3, .object "LadderForge$Tool") rfl).2
    have hA : cA = kA 3 := Option.some.inj (f1.symm.trans hA)
    rw [hA]
    rfl
end HP
end
section
/-- what a method's own words are -/
def wsm (z : MD) : List Cond := Cond.code z.1 z.2.1 z.2.2.1 z.2.2.2.1 :: gw
/-- a method's code stands in the tables, its class is made -/
def MW (z : MD) : Prop := Cond.code z.1 z.2.1 z.2.2.1 z.2.2.2.1 ∈ gw ∧ Cond.initialized z.1.cls ∈ gw ∧ plainName z.1.cls = true ∧ z.1.cls ≠ "java/lang/invoke/MethodHandle" ∧ z.1.cls ≠ "java/lang/invoke/VarHandle"
theorem goodIn_gw {z : MD} (hz : MW z) : GoodIn gw (wsm z) := by
  intro w hw
  rcases List.mem_cons.mp hw with rfl | hw
  · exact ⟨hz.1, good_of_word (gw_good hz.1)⟩
  · exact ⟨hw, good_of_word (gw_good hw)⟩
theorem met_G {l : Launch} {z : MD} {vs : List Value} {h h' : MH} {r : Option Value} (hz : MW z) (hlen : (Le vs).length ≤ z.2.2.1) (g : Ge l z 0 (Len vs z.2.2.1) [] h r h') (b : Nat) (D : va_G) (kA : Nat → ClassId) :
    Met l z.1 (wsm z) ({ frames := z.2.2.2.2.1, cells := h'.length - h.length, slots := msz h' - msz h, locals := z.2.2.2.2.2 }) (va_Pc (vs.map (mv b)) (fun U => Rp b D kA h U.heap ∧ Kx D kA U)) (Qe b D kA r h') (h'.length - h.length) (msz h' - msz h) (fun q => b ≤ q) := by
  refine Met.ofW (cc := z.2.1) (maxL := z.2.2.1) (ret := z.2.2.2.1) hz.2.2.1 rfl ?_
  intro p e s m args below meth c s₁ B hml hv
  obtain ⟨rfl, hR, hK⟩ := hv
  have hts := atoms_spec (ws := wsm z) B.pre
  have g3 := g.2.2 p e ({ frames := z.2.2.2.2.1, cells := h'.length - h.length, slots := msz h' - msz h, locals := z.2.2.2.2.2 }) s m (vs.map (mv b)).toArray below meth c b D kA s.heap [] 0 0 _ ⟨B.exec, B.bytes, hml, findClass_of_methodNamed B.named, fun w hw => hts w (List.mem_cons_of_mem _ hw), B.returns, B.notSynchronized, (name_of_methodNamed B.named B.method).1, hK, by rw [hR.1]; omega⟩ (Nat.le_refl _) (Nat.le_refl _) (Nat.le_of_eq (Nat.zero_add _)) (Nat.le_of_eq (Nat.zero_add _)) hR va_S.rf (Lh.entry hlen)
  rw [lg_entry_eq]
  simp only [Nat.zero_add] at g3
  exact g3
section CL
variable {l : Launch} {y z : MD} {pc : Nat} {L : ML} {S S0 : List Value} {h : MH} {Q : Option Value → MH → Prop}
theorem cat_mv (b : Nat) (S : List Value) : ((S.map (mv b)).map fun v => v.category) = S.map fun v => v.category := by simp [mv_cat]
/-- from a call's run to the caller's next instruction -/
theorem run_go {vs : List Value} {n0 : Nat} (hpc : pc + 3 = n0)
    (hrun : ∀ (h1 : MH) (r1 : Option Value), Ge l z 0 (Len vs z.2.2.1) [] h r1 h1 → ∀ (p : Program) (e : Env) (R : Room) (s : State) (m : MethodId) (args : Array Value) (below : List Frame) (meth : Method) (c : Code) (b : Nat) (D : va_G) (kA : Nat → ClassId) (H : Heap) (locs : List Loc) (cells slots : Nat) (ls : Array Slot),
      Cx y p s m args meth c b D kA → y.2.2.2.2.1 ≤ R.frames → y.2.2.2.2.2 ≤ R.locals → cells + (h1.length - h.length) ≤ R.cells → slots + (msz h1 - msz h) ≤ R.slots → Rp b D kA h H → Lh b ls y.2.2.1 L →
      ∃ a : Array Value, va_Run p l e R s m args below meth c H locs cells slots (h1.length - h.length) (msz h1 - msz h) (F0 m pc ls (S0.map (mv b))) (S.map (mv b)) (Qe b D kA r1 h1 a) (fun q => b ≤ q))
    (kk : Go l z 0 (Len vs z.2.2.1) [] h (fun r1 h1 => Go l y n0 L (r1.toList ++ S) h1 Q)) : Go l y pc L S0 h Q := by
  subst hpc
  obtain ⟨r1, h1, hgo, g⟩ := kk
  refine Go.stp g.1 g.2.1 (fun p e R s m args below meth c b D kA H locs cells slots ls Qf C hf ho hc hs hR hS hl kk => ?_) hgo
  obtain ⟨a, hr⟩ := hrun h1 r1 g p e R s m args below meth c b D kA H locs cells slots ls C hf ho hc hs hR hl
  intro T hT X
  obtain ⟨v, st₀, t, T', Lc, h0, X', hL, e1, e2, ⟨hv, hR1, hz, hk⟩, st⟩ := hr T hT X
  have hv' : v = r1.map (mv b) := by cases hv; rfl
  subst hv'
  rw [h0] at hz hk
  have hsv : (r1.map (mv b)).toList ++ S.map (mv b) = (r1.toList ++ S).map (mv b) := by cases r1 <;> simp
  obtain ⟨t2, a1, b1⟩ := kk T'.heap (locs ++ Lc) ls (by rw [e1]; exact hR1) ⟨Nat.le_trans hS.1 (by rw [e1]; exact hz), fun q h1 h2 => by rw [e1, hk q (Nat.lt_of_lt_of_le h1 hS.1) h2]; exact hS.2.1 q h1 h2, fun q hq => by
      rcases List.mem_append.mp hq with h | h
      · exact hS.2.2 q h
      · exact hL q h⟩ hl T' rfl X'
  rw [← hsv] at a1
  exact ⟨t2, st t2 a1, b1⟩
theorem blind_G {av : List Value} {b : Nat} {D : va_G} {kA : Nat → ClassId} {h : MH} : FrameBlind (va_Pc av (fun U => Rp b D kA h U.heap ∧ Kx D kA U)) := by
  intro a U g mk q
  obtain ⟨q0, qR, qK, qN, q3, q4⟩ := q
  have hvm : U.vm = (U.calling g mk a).vm := rfl
  refine ⟨q0, qR, va_K.moved (u := U) (U := U.calling g mk a) (Vm.Alike.refl U.vm) qK, fun w hw => ?_, va_AO.moved (u := U) (U := U.calling g mk a) (Vm.Alike.refl U.vm) q3, va_AO.moved (u := U) (U := U.calling g mk a) (Vm.Alike.refl U.vm) q4⟩
  rcases nw_kind w hw with ⟨_, _, _, _, _, _, rfl⟩ | ⟨_, _, _, _, rfl⟩ | ⟨_, rfl⟩
  · exact va_Nw.same rfl hvm (qN _ hw)
  · exact va_Nw.same rfl hvm (qN _ hw)
  · exact va_Nw.same rfl hvm (qN _ hw)
/-- the callee's room within the caller's -/
def RM (y z : MD) : Prop := z.2.2.2.2.1 + 1 ≤ y.2.2.2.2.1 ∧ 8 + (z.2.2.1 + 11) + z.2.2.2.2.2 ≤ y.2.2.2.2.2
def np (z : MD) (n : Nat) : Prop := (parseMethodDescriptor z.1.desc).map (fun d => d.parameters.length) = some n
/-- invokevirtual of a method that isn't overridden -/
theorem g_callV {i a ci : Nat} {fs As : List Value} {r : vw_C} (n0 : Nat) (d : decode y.2.1 pc = .ok (.invokevirtual i, 3)) (hz : MW z) (hRM : RM y z) (hnp : np z As.length) (hw1 : Cond.methodLink y.1.cls i z.1 ∈ gw) (hw2 : Cond.instanceMethod z.1 ∈ gw) (hw3 : Cond.selects z.1.cls z.1 z.1 ∈ gw)
    (ha : h[a]? = some (.inr (ci, fs))) (hc0 : vwCl[ci]? = some r) (hr1 : r.1 = z.1.cls) (hS0 : S0 = As.reverse ++ .ref a :: S) (hst : (S.map fun v => v.category).sum ≤ 8) (hlen : (Le (.ref a :: As)).length ≤ z.2.2.1) (hn : pc + 3 = n0)
    (kk : Go l z 0 (Len (.ref a :: As) z.2.2.1) [] h (fun r1 h1 => Go l y n0 L (r1.toList ++ S) h1 Q)) : Go l y pc L S0 h Q := by
  refine run_go hn ?_ kk
  intro h1 r1 g p e R s m args below meth c b D kA H locs cells slots ls C hf ho hc hs hR hl
  obtain ⟨hx, hb, hml, hown, hts, hr, hlk2, hnm, hK, hbs⟩ := C
  refine ⟨(Value.ref (b + a) :: As.map (mv b)).toArray, ?_⟩
  have hM := met_G hz hlen g b D kA
  have hG : GoodIn gw (wsV y.1.cls i z.1.cls z.1 (wsm z)) := by
    intro w hw
    rcases List.mem_append.mp hw with hw | hw
    · simp only [List.mem_cons, List.not_mem_nil, or_false] at hw
      rcases hw with rfl | rfl | rfl | rfl
      · exact ⟨hw1, good_of_word (gw_good hw1)⟩
      · exact ⟨hw2, good_of_word (gw_good hw2)⟩
      · exact ⟨hw3, good_of_word (gw_good hw3)⟩
      · exact ⟨hz.2.1, good_of_word (gw_good hz.2.1)⟩
    · exact goodIn_gw hz w hw
  have hcw := cwV (R := R) (args := args) (s := s) (n := As.length) (Ts := gw) (own := y.1.cls) (index := i) (C := z.1.cls) (y := z.1) (ws := wsm z) (rm := { frames := z.2.2.2.2.1, cells := h1.length - h.length, slots := msz h1 - msz h, locals := z.2.2.2.2.2 }) hts hG rfl rfl rfl ⟨rfl, hz.2.2.2.1, hz.2.2.2.2, hnp⟩ ⟨Nat.le_trans hRM.1 hf, Nat.le_trans hRM.2 ho⟩
  refine va_runV (As := As.map (mv b)) (rest := S.map (mv b)) (b := b + a) ⟨hx, hb, hml, hown, hts⟩ hM hcw ⟨blind_G, ?_, fun U hU hW => ⟨rfl, by rw [hU]; exact hR, hK.warm hW⟩⟩ rfl (by simp) hl.1 ?_ (lv_room (by rw [cat_mv]; exact hst)) d ⟨hc, hs⟩
  · rw [← hr1]
    exact va_recv hK.1 hR.2 hc0 (mw_at ha)
  · rw [hS0]
    simp [mv]
/-- invokestatic of a method of ours -/
theorem g_callS {i : Nat} {As : List Value} (n0 : Nat) (d : decode y.2.1 pc = .ok (.invokestatic i, 3)) (hz : MW z) (hRM : RM y z) (hnp : np z As.length) (hw1 : Cond.methodLink y.1.cls i z.1 ∈ gw) (hw2 : Cond.static z.1 ∈ gw)
    (hS0 : S0 = As.reverse ++ S) (hst : (S.map fun v => v.category).sum ≤ 8) (hlen : (Le As).length ≤ z.2.2.1) (hn : pc + 3 = n0)
    (kk : Go l z 0 (Len As z.2.2.1) [] h (fun r1 h1 => Go l y n0 L (r1.toList ++ S) h1 Q)) : Go l y pc L S0 h Q := by
  refine run_go hn ?_ kk
  intro h1 r1 g p e R s m args below meth c b D kA H locs cells slots ls C hf ho hc hs hR hl
  obtain ⟨hx, hb, hml, hown, hts, hr, hlk2, hnm, hK, hbs⟩ := C
  refine ⟨(As.map (mv b)).toArray, ?_⟩
  have hM := met_G hz hlen g b D kA
  have hcb := callB_of (R := R) (args := args) (s := s) (n := As.length) (Ts := gw) (own := y.1.cls) (index := i) (y := z.1) (ws := wsm z) (rm := { frames := z.2.2.2.2.1, cells := h1.length - h.length, slots := msz h1 - msz h, locals := z.2.2.2.2.2 }) hts (goodIn_gw hz) rfl rfl rfl (hts _ hz.2.1) (hts _ hw1) ⟨hz.2.2.2.1, hz.2.2.2.2, hnp⟩ ⟨Nat.le_trans hRM.1 hf, Nat.le_trans hRM.2 ho⟩
  refine va_runS (As := As.map (mv b)) (rest := S.map (mv b)) ⟨hx, hb, hml, hown, hts⟩ hM ⟨hcb, hts _ hw2⟩ ⟨blind_G, fun U hU hW => ⟨rfl, by rw [hU]; exact hR, hK.warm hW⟩⟩ rfl (by simp) hl.1 ?_ (lv_room (by rw [cat_mv]; exact hst)) d ⟨hc, hs⟩
  rw [hS0]
  simp
/-- a constructor of ours -/
theorem g_callI {i a : Nat} {As : List Value} (n0 : Nat) (d : decode y.2.1 pc = .ok (.invokespecial i, 3)) (hz : MW z) (hret : z.2.2.2.1 = none) (hRM : RM y z) (hnp : np z As.length) (hw1 : Cond.methodLink y.1.cls i z.1 ∈ gw) (hw2 : Cond.instanceMethod z.1 ∈ gw) (hnm0 : z.1.name = "<init>")
    (hS0 : S0 = As.reverse ++ .ref a :: S) (hst : (S.map fun v => v.category).sum ≤ 8) (hlen : (Le (.ref a :: As)).length ≤ z.2.2.1) (hn : pc + 3 = n0)
    (kk : Go l z 0 (Len (.ref a :: As) z.2.2.1) [] h (fun r1 h1 => Go l y n0 L (r1.toList ++ S) h1 Q)) : Go l y pc L S0 h Q := by
  refine run_go hn ?_ kk
  intro h1 r1 g p e R s m args below meth c b D kA H locs cells slots ls C hf ho hc hs hR hl
  obtain ⟨hx, hb, hml, hown, hts, hr, hlk2, hnm, hK, hbs⟩ := C
  refine ⟨(Value.ref (b + a) :: As.map (mv b)).toArray, ?_⟩
  have hM := met_G hz hlen g b D kA
  have hcb := callB_of (R := R) (args := args) (s := s) (n := As.length) (Ts := gw) (own := y.1.cls) (index := i) (y := z.1) (ws := wsm z) (ret := none) (rm := { frames := z.2.2.2.2.1, cells := h1.length - h.length, slots := msz h1 - msz h, locals := z.2.2.2.2.2 }) hts (goodIn_gw hz) (by unfold wsm; rw [hret]) rfl rfl (hts _ hz.2.1) (hts _ hw1) ⟨hz.2.2.2.1, hz.2.2.2.2, hnp⟩ ⟨Nat.le_trans hRM.1 hf, Nat.le_trans hRM.2 ho⟩
  refine va_runI (As := As.map (mv b)) (rest := S.map (mv b)) (b := b + a) ⟨hx, hb, hml, hown, hts⟩ hM ⟨hcb, hnm0, hts _ hw2⟩ ⟨blind_G, fun U hU hW => ⟨rfl, by rw [hU]; exact hR, hK.warm hW⟩⟩ rfl (by simp) hl.1 ?_ (lv_room (by rw [cat_mv]; exact hst)) d ⟨hc, hs⟩
  rw [hS0]
  simp [mv]
/-- a constructor of a nest mate -/
theorem g_callIN {i a : Nat} {As : List Value} {host : String} (n0 : Nat) (d : decode y.2.1 pc = .ok (.invokespecial i, 3)) (hz : MW z) (hret : z.2.2.2.1 = none) (hRM : RM y z) (hnp : np z As.length) (hw1 : Cond.methodLinkNest y.1.cls i z.1 host ∈ nw) (hw2 : Cond.instanceMethod z.1 ∈ gw) (hnm0 : z.1.name = "<init>")
    (hS0 : S0 = As.reverse ++ .ref a :: S) (hst : (S.map fun v => v.category).sum ≤ 8) (hlen : (Le (.ref a :: As)).length ≤ z.2.2.1) (hn : pc + 3 = n0)
    (kk : Go l z 0 (Len (.ref a :: As) z.2.2.1) [] h (fun r1 h1 => Go l y n0 L (r1.toList ++ S) h1 Q)) : Go l y pc L S0 h Q := by
  refine run_go hn ?_ kk
  intro h1 r1 g p e R s m args below meth c b D kA H locs cells slots ls C hf ho hc hs hR hl
  obtain ⟨hx, hb, hml, hown, hts, hr, hlk2, hnm, hK, hbs⟩ := C
  refine ⟨(Value.ref (b + a) :: As.map (mv b)).toArray, ?_⟩
  have hM := met_G hz hlen g b D kA
  have hcb := va_cnB (R := R) (args := args) (s := s) (n := As.length) (Ts := gw) (own := y.1.cls) (index := i) (y := z.1) (host := host) (ws := wsm z) (ret := none) (rm := { frames := z.2.2.2.2.1, cells := h1.length - h.length, slots := msz h1 - msz h, locals := z.2.2.2.2.2 }) hts (goodIn_gw hz) (by unfold wsm; rw [hret]) rfl rfl (hK.2.1 _ hw1) (hts _ hz.2.1) ⟨hz.2.2.2.1, hz.2.2.2.2, hnp⟩ ⟨Nat.le_trans hRM.1 hf, Nat.le_trans hRM.2 ho⟩
  refine va_runIN (As := As.map (mv b)) (rest := S.map (mv b)) (b := b + a) ⟨hx, hb, hml, hown, hts⟩ hM ⟨hcb, hnm0, hts _ hw2⟩ ⟨blind_G, fun U hU hW => ⟨rfl, by rw [hU]; exact hR, hK.warm hW⟩⟩ rfl (by simp) hl.1 ?_ (lv_room (by rw [cat_mv]; exact hst)) d ⟨hc, hs⟩
  rw [hS0]
  simp [mv]
/-- invokevirtual of an abstract method x: the receiver's class has z -/
theorem g_callA {i a ci : Nat} {fs As : List Value} {r : vw_C} {x : MethodName} (n0 : Nat) (d : decode y.2.1 pc = .ok (.invokevirtual i, 3)) (hz : MW z) (hRM : RM y z) (hnx : (parseMethodDescriptor x.desc).map (fun d => d.parameters.length) = some As.length) (hw1 : Cond.methodLink y.1.cls i x ∈ gw) (hw4 : Cond.sameMethod x.cls x.cls x.name x.desc ∈ gw) (hw2 : Cond.instanceMethod z.1 ∈ gw) (hw3 : Cond.selects r.1 x z.1 ∈ gw) (hw5 : Cond.declares ⟨x.cls, x.name, x.desc⟩ ∈ nw) (hx1 : x.cls ≠ "java/lang/invoke/MethodHandle" ∧ x.cls ≠ "java/lang/invoke/VarHandle")
    (ha : h[a]? = some (.inr (ci, fs))) (hc0 : vwCl[ci]? = some r) (hS0 : S0 = As.reverse ++ .ref a :: S) (hst : (S.map fun v => v.category).sum ≤ 8) (hlen : (Le (.ref a :: As)).length ≤ z.2.2.1) (hn : pc + 3 = n0)
    (kk : Go l z 0 (Len (.ref a :: As) z.2.2.1) [] h (fun r1 h1 => Go l y n0 L (r1.toList ++ S) h1 Q)) : Go l y pc L S0 h Q := by
  refine run_go hn ?_ kk
  intro h1 r1 g p e R s m args below meth c b D kA H locs cells slots ls C hf ho hc hs hR hl
  obtain ⟨hx, hb, hml, hown, hts, hr, hlk2, hnm, hK, hbs⟩ := C
  refine ⟨(Value.ref (b + a) :: As.map (mv b)).toArray, ?_⟩
  have hM := met_G hz hlen g b D kA
  have hG : GoodIn gw (va_wsU y.1.cls i r.1 x.cls x z.1 (wsm z)) := by
    intro w hw
    rcases List.mem_append.mp hw with hw | hw
    · simp only [List.mem_cons, List.not_mem_nil, or_false] at hw
      rcases hw with rfl | rfl | rfl | rfl | rfl
      · exact ⟨hw1, good_of_word (gw_good hw1)⟩
      · exact ⟨hw4, good_of_word (gw_good hw4)⟩
      · exact ⟨hw3, good_of_word (gw_good hw3)⟩
      · exact ⟨hw2, good_of_word (gw_good hw2)⟩
      · exact ⟨hz.2.1, good_of_word (gw_good hz.2.1)⟩
    · exact goodIn_gw hz w hw
  have hcw := va_cwA (R := R) (args := args) (s := s) (n := As.length) (Ts := gw) (own := y.1.cls) (index := i) (C := r.1) (owner := x.cls) (x := x) (y := z.1) (ws := wsm z) (rm := { frames := z.2.2.2.2.1, cells := h1.length - h.length, slots := msz h1 - msz h, locals := z.2.2.2.2.2 }) hts hG rfl rfl rfl (hK.2.1 _ hw5) ⟨hx1.1, hx1.2, hnx⟩ ⟨Nat.le_trans hRM.1 hf, Nat.le_trans hRM.2 ho⟩
  refine va_runU (As := As.map (mv b)) (rest := S.map (mv b)) (b := b + a) ⟨hx, hb, hml, hown, hts⟩ hM hcw ⟨blind_G, va_recv hK.1 hR.2 hc0 (mw_at ha), fun U hU hW => ⟨rfl, by rw [hU]; exact hR, hK.warm hW⟩⟩ rfl (by simp) hl.1 ?_ (lv_room (by rw [cat_mv]; exact hst)) d ⟨hc, hs⟩
  rw [hS0]
  simp [mv]
end CL
end
section
set_option maxRecDepth 20000 in
theorem inwX0 : ∀ w ∈ u_ws RX0 TX0 4, w ∈ gw := by decide +kernel
set_option maxRecDepth 20000 in
theorem inwX1 : ∀ w ∈ u_ws RX1 TX1 4, w ∈ gw := by decide +kernel
set_option maxRecDepth 20000 in
theorem inwX2 : ∀ w ∈ u_ws RX2 TX2 9, w ∈ gw := by decide +kernel
set_option maxRecDepth 20000 in
theorem inwX4 : ∀ w ∈ u_ws RX4 TX4 5, w ∈ gw := by decide +kernel
set_option maxRecDepth 20000 in
theorem inwX5 : ∀ w ∈ u_ws RX5 TX5 1, w ∈ gw := by decide +kernel
set_option maxRecDepth 20000 in
theorem inwX6 : ∀ w ∈ u_ws RX6 TX6 2, w ∈ gw := by decide +kernel
set_option maxRecDepth 20000 in
theorem inwX7 : ∀ w ∈ u_ws RX7 TX7 5, w ∈ gw := by decide +kernel
set_option maxRecDepth 20000 in
theorem inwX8 : ∀ w ∈ u_ws RX8 TX8 11, w ∈ gw := by decide +kernel
set_option maxRecDepth 20000 in
theorem inwX9 : ∀ w ∈ u_ws RX9 TX9 39, w ∈ gw := by decide +kernel
def mX0_init : MD := (yX0_init, cX0_init, 2, (none : Option Jvm.ClassFile.FieldType), 1, 24)
theorem mwX0_init : MW mX0_init := ⟨(gw_of (List.mem_append_right _ (List.mem_of_getElem? (i := 57) (by decide +kernel))) (by decide +kernel)), (gw_of (List.mem_append_right _ (List.mem_of_getElem? (i := 5) (by decide +kernel))) (by decide +kernel)), by decide +kernel, by decide +kernel, by decide +kernel⟩
theorem wiX0_init : Cond.instanceMethod yX0_init ∈ gw := (gw_of (List.mem_append_right _ (List.mem_of_getElem? (i := 56) (by decide +kernel))) (by decide +kernel))
def mX0_add : MD := (yX0_add, cX0_add, 3, (some .boolean), 0, 0)
theorem mwX0_add : MW mX0_add := ⟨(gw_of (List.mem_append_right _ (List.mem_of_getElem? (i := 296) (by decide +kernel))) (by decide +kernel)), (gw_of (List.mem_append_right _ (List.mem_of_getElem? (i := 5) (by decide +kernel))) (by decide +kernel)), by decide +kernel, by decide +kernel, by decide +kernel⟩
theorem wiX0_add : Cond.instanceMethod yX0_add ∈ gw := (gw_of (List.mem_append_right _ (List.mem_of_getElem? (i := 294) (by decide +kernel))) (by decide +kernel))
theorem wsX0_add : Cond.selects RX0 yX0_add yX0_add ∈ gw := (gw_of (List.mem_append_right _ (List.mem_of_getElem? (i := 295) (by decide +kernel))) (by decide +kernel))
def mX0_at : MD := (yX0_at, cX0_at, 2, (some .int), 0, 0)
theorem mwX0_at : MW mX0_at := ⟨(gw_of (List.mem_append_right _ (List.mem_of_getElem? (i := 402) (by decide +kernel))) (by decide +kernel)), (gw_of (List.mem_append_right _ (List.mem_of_getElem? (i := 5) (by decide +kernel))) (by decide +kernel)), by decide +kernel, by decide +kernel, by decide +kernel⟩
theorem wiX0_at : Cond.instanceMethod yX0_at ∈ gw := (gw_of (List.mem_append_right _ (List.mem_of_getElem? (i := 400) (by decide +kernel))) (by decide +kernel))
theorem wsX0_at : Cond.selects RX0 yX0_at yX0_at ∈ gw := (gw_of (List.mem_append_right _ (List.mem_of_getElem? (i := 401) (by decide +kernel))) (by decide +kernel))
def mX0_ledAt : MD := (yX0_ledAt, cX0_ledAt, 2, (some .int), 0, 0)
theorem mwX0_ledAt : MW mX0_ledAt := ⟨(gw_of (List.mem_append_right _ (List.mem_of_getElem? (i := 374) (by decide +kernel))) (by decide +kernel)), (gw_of (List.mem_append_right _ (List.mem_of_getElem? (i := 5) (by decide +kernel))) (by decide +kernel)), by decide +kernel, by decide +kernel, by decide +kernel⟩
theorem wiX0_ledAt : Cond.instanceMethod yX0_ledAt ∈ gw := (gw_of (List.mem_append_right _ (List.mem_of_getElem? (i := 372) (by decide +kernel))) (by decide +kernel))
theorem wsX0_ledAt : Cond.selects RX0 yX0_ledAt yX0_ledAt ∈ gw := (gw_of (List.mem_append_right _ (List.mem_of_getElem? (i := 373) (by decide +kernel))) (by decide +kernel))
def mX0_change : MD := (yX0_change, cX0_change, 3, (none : Option Jvm.ClassFile.FieldType), 0, 0)
theorem mwX0_change : MW mX0_change := ⟨(gw_of (List.mem_append_right _ (List.mem_of_getElem? (i := 378) (by decide +kernel))) (by decide +kernel)), (gw_of (List.mem_append_right _ (List.mem_of_getElem? (i := 5) (by decide +kernel))) (by decide +kernel)), by decide +kernel, by decide +kernel, by decide +kernel⟩
theorem wiX0_change : Cond.instanceMethod yX0_change ∈ gw := (gw_of (List.mem_append_right _ (List.mem_of_getElem? (i := 376) (by decide +kernel))) (by decide +kernel))
theorem wsX0_change : Cond.selects RX0 yX0_change yX0_change ∈ gw := (gw_of (List.mem_append_right _ (List.mem_of_getElem? (i := 377) (by decide +kernel))) (by decide +kernel))
def mX0_unlike : MD := (yX0_unlike, cX0_unlike, 4, (some .int), 1, 24)
theorem mwX0_unlike : MW mX0_unlike := ⟨(gw_of (List.mem_append_right _ (List.mem_of_getElem? (i := 516) (by decide +kernel))) (by decide +kernel)), (gw_of (List.mem_append_right _ (List.mem_of_getElem? (i := 5) (by decide +kernel))) (by decide +kernel)), by decide +kernel, by decide +kernel, by decide +kernel⟩
theorem wiX0_unlike : Cond.instanceMethod yX0_unlike ∈ gw := (gw_of (List.mem_append_right _ (List.mem_of_getElem? (i := 514) (by decide +kernel))) (by decide +kernel))
theorem wsX0_unlike : Cond.selects RX0 yX0_unlike yX0_unlike ∈ gw := (gw_of (List.mem_append_right _ (List.mem_of_getElem? (i := 515) (by decide +kernel))) (by decide +kernel))
def mX0_beyondOrders : MD := (yX0_beyondOrders, cX0_beyondOrders, 3, (some .int), 1, 21)
theorem mwX0_beyondOrders : MW mX0_beyondOrders := ⟨(gw_of (List.mem_append_right _ (List.mem_of_getElem? (i := 642) (by decide +kernel))) (by decide +kernel)), (gw_of (List.mem_append_right _ (List.mem_of_getElem? (i := 5) (by decide +kernel))) (by decide +kernel)), by decide +kernel, by decide +kernel, by decide +kernel⟩
theorem wiX0_beyondOrders : Cond.instanceMethod yX0_beyondOrders ∈ gw := (gw_of (List.mem_append_right _ (List.mem_of_getElem? (i := 640) (by decide +kernel))) (by decide +kernel))
theorem wsX0_beyondOrders : Cond.selects RX0 yX0_beyondOrders yX0_beyondOrders ∈ gw := (gw_of (List.mem_append_right _ (List.mem_of_getElem? (i := 641) (by decide +kernel))) (by decide +kernel))
def mX0_copied : MD := (yX0_copied, cX0_copied, 3, (some (.object "LadderForge$Code")), 2, 45)
theorem mwX0_copied : MW mX0_copied := ⟨(gw_of (List.mem_append_right _ (List.mem_of_getElem? (i := 396) (by decide +kernel))) (by decide +kernel)), (gw_of (List.mem_append_right _ (List.mem_of_getElem? (i := 5) (by decide +kernel))) (by decide +kernel)), by decide +kernel, by decide +kernel, by decide +kernel⟩
theorem wiX0_copied : Cond.instanceMethod yX0_copied ∈ gw := (gw_of (List.mem_append_right _ (List.mem_of_getElem? (i := 394) (by decide +kernel))) (by decide +kernel))
theorem wsX0_copied : Cond.selects RX0 yX0_copied yX0_copied ∈ gw := (gw_of (List.mem_append_right _ (List.mem_of_getElem? (i := 395) (by decide +kernel))) (by decide +kernel))
def mX1_init : MD := (yX1_init, cX1_init, 1, (none : Option Jvm.ClassFile.FieldType), 1, 24)
theorem mwX1_init : MW mX1_init := ⟨(gw_of (List.mem_append_right _ (List.mem_of_getElem? (i := 155) (by decide +kernel))) (by decide +kernel)), (gw_of (List.mem_append_right _ (List.mem_of_getElem? (i := 9) (by decide +kernel))) (by decide +kernel)), by decide +kernel, by decide +kernel, by decide +kernel⟩
theorem wiX1_init : Cond.instanceMethod yX1_init ∈ gw := (gw_of (List.mem_append_right _ (List.mem_of_getElem? (i := 154) (by decide +kernel))) (by decide +kernel))
def mX1_add : MD := (yX1_add, cX1_add, 3, (some .int), 0, 0)
theorem mwX1_add : MW mX1_add := ⟨(gw_of (List.mem_append_right _ (List.mem_of_getElem? (i := 591) (by decide +kernel))) (by decide +kernel)), (gw_of (List.mem_append_right _ (List.mem_of_getElem? (i := 9) (by decide +kernel))) (by decide +kernel)), by decide +kernel, by decide +kernel, by decide +kernel⟩
theorem wiX1_add : Cond.instanceMethod yX1_add ∈ gw := (gw_of (List.mem_append_right _ (List.mem_of_getElem? (i := 589) (by decide +kernel))) (by decide +kernel))
theorem wsX1_add : Cond.selects RX1 yX1_add yX1_add ∈ gw := (gw_of (List.mem_append_right _ (List.mem_of_getElem? (i := 590) (by decide +kernel))) (by decide +kernel))
def mX1_has : MD := (yX1_has, cX1_has, 2, (some .boolean), 0, 0)
theorem mwX1_has : MW mX1_has := ⟨(gw_of (List.mem_append_right _ (List.mem_of_getElem? (i := 599) (by decide +kernel))) (by decide +kernel)), (gw_of (List.mem_append_right _ (List.mem_of_getElem? (i := 9) (by decide +kernel))) (by decide +kernel)), by decide +kernel, by decide +kernel, by decide +kernel⟩
theorem wiX1_has : Cond.instanceMethod yX1_has ∈ gw := (gw_of (List.mem_append_right _ (List.mem_of_getElem? (i := 597) (by decide +kernel))) (by decide +kernel))
theorem wsX1_has : Cond.selects RX1 yX1_has yX1_has ∈ gw := (gw_of (List.mem_append_right _ (List.mem_of_getElem? (i := 598) (by decide +kernel))) (by decide +kernel))
def mX1_firstBuilt : MD := (yX1_firstBuilt, cX1_firstBuilt, 4, (some .int), 1, 21)
theorem mwX1_firstBuilt : MW mX1_firstBuilt := ⟨(gw_of (List.mem_append_right _ (List.mem_of_getElem? (i := 612) (by decide +kernel))) (by decide +kernel)), (gw_of (List.mem_append_right _ (List.mem_of_getElem? (i := 9) (by decide +kernel))) (by decide +kernel)), by decide +kernel, by decide +kernel, by decide +kernel⟩
theorem wiX1_firstBuilt : Cond.instanceMethod yX1_firstBuilt ∈ gw := (gw_of (List.mem_append_right _ (List.mem_of_getElem? (i := 611) (by decide +kernel))) (by decide +kernel))
theorem wsX1_firstBuilt : Cond.selects RX1 yX1_firstBuilt yX1_firstBuilt ∈ gw := (gw_of (List.mem_append_left _ (List.mem_of_getElem? (i := 26) (by decide +kernel))) (by decide +kernel))
def mX1_reachBack : MD := (yX1_reachBack, cX1_reachBack, 3, (none : Option Jvm.ClassFile.FieldType), 2, 44)
theorem mwX1_reachBack : MW mX1_reachBack := ⟨(gw_of (List.mem_append_right _ (List.mem_of_getElem? (i := 608) (by decide +kernel))) (by decide +kernel)), (gw_of (List.mem_append_right _ (List.mem_of_getElem? (i := 9) (by decide +kernel))) (by decide +kernel)), by decide +kernel, by decide +kernel, by decide +kernel⟩
theorem wiX1_reachBack : Cond.instanceMethod yX1_reachBack ∈ gw := (gw_of (List.mem_append_right _ (List.mem_of_getElem? (i := 607) (by decide +kernel))) (by decide +kernel))
theorem wsX1_reachBack : Cond.selects RX1 yX1_reachBack yX1_reachBack ∈ gw := (gw_of (List.mem_append_left _ (List.mem_of_getElem? (i := 25) (by decide +kernel))) (by decide +kernel))
def mX1_fewest : MD := (yX1_fewest, cX1_fewest, 6, (some .int), 3, 66)
theorem mwX1_fewest : MW mX1_fewest := ⟨(gw_of (List.mem_append_right _ (List.mem_of_getElem? (i := 603) (by decide +kernel))) (by decide +kernel)), (gw_of (List.mem_append_right _ (List.mem_of_getElem? (i := 9) (by decide +kernel))) (by decide +kernel)), by decide +kernel, by decide +kernel, by decide +kernel⟩
theorem wiX1_fewest : Cond.instanceMethod yX1_fewest ∈ gw := (gw_of (List.mem_append_right _ (List.mem_of_getElem? (i := 601) (by decide +kernel))) (by decide +kernel))
theorem wsX1_fewest : Cond.selects RX1 yX1_fewest yX1_fewest ∈ gw := (gw_of (List.mem_append_right _ (List.mem_of_getElem? (i := 602) (by decide +kernel))) (by decide +kernel))
def mX1_step : MD := (yX1_step, cX1_step, 5, (some .int), 2, 44)
theorem mwX1_step : MW mX1_step := ⟨(gw_of (List.mem_append_right _ (List.mem_of_getElem? (i := 616) (by decide +kernel))) (by decide +kernel)), (gw_of (List.mem_append_right _ (List.mem_of_getElem? (i := 9) (by decide +kernel))) (by decide +kernel)), by decide +kernel, by decide +kernel, by decide +kernel⟩
theorem wiX1_step : Cond.instanceMethod yX1_step ∈ gw := (gw_of (List.mem_append_right _ (List.mem_of_getElem? (i := 614) (by decide +kernel))) (by decide +kernel))
theorem wsX1_step : Cond.selects RX1 yX1_step yX1_step ∈ gw := (gw_of (List.mem_append_right _ (List.mem_of_getElem? (i := 615) (by decide +kernel))) (by decide +kernel))
def mX2_init : MD := (yX2_init, cX2_init, 1, (none : Option Jvm.ClassFile.FieldType), 2, 45)
theorem mwX2_init : MW mX2_init := ⟨(gw_of (List.mem_append_right _ (List.mem_of_getElem? (i := 112) (by decide +kernel))) (by decide +kernel)), (gw_of (List.mem_append_right _ (List.mem_of_getElem? (i := 8) (by decide +kernel))) (by decide +kernel)), by decide +kernel, by decide +kernel, by decide +kernel⟩
theorem wiX2_init : Cond.instanceMethod yX2_init ∈ gw := (gw_of (List.mem_append_right _ (List.mem_of_getElem? (i := 111) (by decide +kernel))) (by decide +kernel))
def mX2_hasNumber : MD := (yX2_hasNumber, cX2_hasNumber, 1, (some .boolean), 0, 0)
theorem mwX2_hasNumber : MW mX2_hasNumber := ⟨(gw_of (List.mem_append_right _ (List.mem_of_getElem? (i := 366) (by decide +kernel))) (by decide +kernel)), (gw_of (List.mem_append_right _ (List.mem_of_getElem? (i := 8) (by decide +kernel))) (by decide +kernel)), by decide +kernel, by decide +kernel, by decide +kernel⟩
theorem wtX2_hasNumber : Cond.static yX2_hasNumber ∈ gw := (gw_of (List.mem_append_right _ (List.mem_of_getElem? (i := 365) (by decide +kernel))) (by decide +kernel))
def mX2_memoryAt : MD := (yX2_memoryAt, cX2_memoryAt, 2, (some .int), 0, 0)
theorem mwX2_memoryAt : MW mX2_memoryAt := ⟨(gw_of (List.mem_append_right _ (List.mem_of_getElem? (i := 500) (by decide +kernel))) (by decide +kernel)), (gw_of (List.mem_append_right _ (List.mem_of_getElem? (i := 8) (by decide +kernel))) (by decide +kernel)), by decide +kernel, by decide +kernel, by decide +kernel⟩
theorem wiX2_memoryAt : Cond.instanceMethod yX2_memoryAt ∈ gw := (gw_of (List.mem_append_right _ (List.mem_of_getElem? (i := 498) (by decide +kernel))) (by decide +kernel))
theorem wsX2_memoryAt : Cond.selects RX2 yX2_memoryAt yX2_memoryAt ∈ gw := (gw_of (List.mem_append_right _ (List.mem_of_getElem? (i := 499) (by decide +kernel))) (by decide +kernel))
def mX2_load : MD := (yX2_load, cX2_load, 3, (none : Option Jvm.ClassFile.FieldType), 1, 21)
theorem mwX2_load : MW mX2_load := ⟨(gw_of (List.mem_append_right _ (List.mem_of_getElem? (i := 454) (by decide +kernel))) (by decide +kernel)), (gw_of (List.mem_append_right _ (List.mem_of_getElem? (i := 8) (by decide +kernel))) (by decide +kernel)), by decide +kernel, by decide +kernel, by decide +kernel⟩
theorem wiX2_load : Cond.instanceMethod yX2_load ∈ gw := (gw_of (List.mem_append_right _ (List.mem_of_getElem? (i := 453) (by decide +kernel))) (by decide +kernel))
theorem wsX2_load : Cond.selects RX2 yX2_load yX2_load ∈ gw := (gw_of (List.mem_append_left _ (List.mem_of_getElem? (i := 13) (by decide +kernel))) (by decide +kernel))
def mX2_harmOf : MD := (yX2_harmOf, cX2_harmOf, 2, (some .int), 0, 0)
theorem mwX2_harmOf : MW mX2_harmOf := ⟨(gw_of (List.mem_append_right _ (List.mem_of_getElem? (i := 459) (by decide +kernel))) (by decide +kernel)), (gw_of (List.mem_append_right _ (List.mem_of_getElem? (i := 8) (by decide +kernel))) (by decide +kernel)), by decide +kernel, by decide +kernel, by decide +kernel⟩
theorem wiX2_harmOf : Cond.instanceMethod yX2_harmOf ∈ gw := (gw_of (List.mem_append_right _ (List.mem_of_getElem? (i := 458) (by decide +kernel))) (by decide +kernel))
theorem wsX2_harmOf : Cond.selects RX2 yX2_harmOf yX2_harmOf ∈ gw := (gw_of (List.mem_append_left _ (List.mem_of_getElem? (i := 14) (by decide +kernel))) (by decide +kernel))
def mX6_at : MD := (yX6_at, cX6_at, 2, (some .int), 0, 0)
theorem mwX6_at : MW mX6_at := ⟨(gw_of (List.mem_append_right _ (List.mem_of_getElem? (i := 232) (by decide +kernel))) (by decide +kernel)), (gw_of (List.mem_append_right _ (List.mem_of_getElem? (i := 2) (by decide +kernel))) (by decide +kernel)), by decide +kernel, by decide +kernel, by decide +kernel⟩
theorem wiX6_at : Cond.instanceMethod yX6_at ∈ gw := (gw_of (List.mem_append_right _ (List.mem_of_getElem? (i := 230) (by decide +kernel))) (by decide +kernel))
theorem wsX6_at : Cond.selects RX6 yX6_at yX6_at ∈ gw := (gw_of (List.mem_append_right _ (List.mem_of_getElem? (i := 231) (by decide +kernel))) (by decide +kernel))
def mX2_take : MD := (yX2_take, cX2_take, 2, (none : Option Jvm.ClassFile.FieldType), 0, 0)
theorem mwX2_take : MW mX2_take := ⟨(gw_of (List.mem_append_right _ (List.mem_of_getElem? (i := 469) (by decide +kernel))) (by decide +kernel)), (gw_of (List.mem_append_right _ (List.mem_of_getElem? (i := 8) (by decide +kernel))) (by decide +kernel)), by decide +kernel, by decide +kernel, by decide +kernel⟩
theorem wiX2_take : Cond.instanceMethod yX2_take ∈ gw := (gw_of (List.mem_append_right _ (List.mem_of_getElem? (i := 468) (by decide +kernel))) (by decide +kernel))
theorem wsX2_take : Cond.selects RX2 yX2_take yX2_take ∈ gw := (gw_of (List.mem_append_left _ (List.mem_of_getElem? (i := 16) (by decide +kernel))) (by decide +kernel))
def mX2_obey : MD := (yX2_obey, cX2_obey, 5, (none : Option Jvm.ClassFile.FieldType), 1, 24)
theorem mwX2_obey : MW mX2_obey := ⟨(gw_of (List.mem_append_right _ (List.mem_of_getElem? (i := 463) (by decide +kernel))) (by decide +kernel)), (gw_of (List.mem_append_right _ (List.mem_of_getElem? (i := 8) (by decide +kernel))) (by decide +kernel)), by decide +kernel, by decide +kernel, by decide +kernel⟩
theorem wiX2_obey : Cond.instanceMethod yX2_obey ∈ gw := (gw_of (List.mem_append_right _ (List.mem_of_getElem? (i := 462) (by decide +kernel))) (by decide +kernel))
theorem wsX2_obey : Cond.selects RX2 yX2_obey yX2_obey ∈ gw := (gw_of (List.mem_append_left _ (List.mem_of_getElem? (i := 15) (by decide +kernel))) (by decide +kernel))
def mX2_goThrough : MD := (yX2_goThrough, cX2_goThrough, 6, (none : Option Jvm.ClassFile.FieldType), 2, 48)
theorem mwX2_goThrough : MW mX2_goThrough := ⟨(gw_of (List.mem_append_right _ (List.mem_of_getElem? (i := 450) (by decide +kernel))) (by decide +kernel)), (gw_of (List.mem_append_right _ (List.mem_of_getElem? (i := 8) (by decide +kernel))) (by decide +kernel)), by decide +kernel, by decide +kernel, by decide +kernel⟩
theorem wiX2_goThrough : Cond.instanceMethod yX2_goThrough ∈ gw := (gw_of (List.mem_append_right _ (List.mem_of_getElem? (i := 448) (by decide +kernel))) (by decide +kernel))
theorem wsX2_goThrough : Cond.selects RX2 yX2_goThrough yX2_goThrough ∈ gw := (gw_of (List.mem_append_right _ (List.mem_of_getElem? (i := 449) (by decide +kernel))) (by decide +kernel))
def mX2_builds : MD := (yX2_builds, cX2_builds, 3, (some .boolean), 3, 73)
theorem mwX2_builds : MW mX2_builds := ⟨(gw_of (List.mem_append_right _ (List.mem_of_getElem? (i := 446) (by decide +kernel))) (by decide +kernel)), (gw_of (List.mem_append_right _ (List.mem_of_getElem? (i := 8) (by decide +kernel))) (by decide +kernel)), by decide +kernel, by decide +kernel, by decide +kernel⟩
theorem wiX2_builds : Cond.instanceMethod yX2_builds ∈ gw := (gw_of (List.mem_append_right _ (List.mem_of_getElem? (i := 444) (by decide +kernel))) (by decide +kernel))
theorem wsX2_builds : Cond.selects RX2 yX2_builds yX2_builds ∈ gw := (gw_of (List.mem_append_right _ (List.mem_of_getElem? (i := 445) (by decide +kernel))) (by decide +kernel))
def mX3_init : MD := (yX3_init, cX3_init, 1, (none : Option Jvm.ClassFile.FieldType), 2, 45)
theorem mwX3_init : MW mX3_init := ⟨(gw_of (List.mem_append_right _ (List.mem_of_getElem? (i := 51) (by decide +kernel))) (by decide +kernel)), (gw_of (List.mem_append_right _ (List.mem_of_getElem? (i := 3) (by decide +kernel))) (by decide +kernel)), by decide +kernel, by decide +kernel, by decide +kernel⟩
theorem wiX3_init : Cond.instanceMethod yX3_init ∈ gw := (gw_of (List.mem_append_right _ (List.mem_of_getElem? (i := 50) (by decide +kernel))) (by decide +kernel))
def mX4_init : MD := (yX4_init, cX4_init, 1, (none : Option Jvm.ClassFile.FieldType), 3, 65)
theorem mwX4_init : MW mX4_init := ⟨(gw_of (List.mem_append_right _ (List.mem_of_getElem? (i := 92) (by decide +kernel))) (by decide +kernel)), (gw_of (List.mem_append_right _ (List.mem_of_getElem? (i := 7) (by decide +kernel))) (by decide +kernel)), by decide +kernel, by decide +kernel, by decide +kernel⟩
theorem wiX4_init : Cond.instanceMethod yX4_init ∈ gw := (gw_of (List.mem_append_right _ (List.mem_of_getElem? (i := 91) (by decide +kernel))) (by decide +kernel))
def mX4_begin : MD := (yX4_begin, cX4_begin, 2, (none : Option Jvm.ClassFile.FieldType), 0, 0)
theorem mwX4_begin : MW mX4_begin := ⟨(gw_of (List.mem_append_right _ (List.mem_of_getElem? (i := 260) (by decide +kernel))) (by decide +kernel)), (gw_of (List.mem_append_right _ (List.mem_of_getElem? (i := 7) (by decide +kernel))) (by decide +kernel)), by decide +kernel, by decide +kernel, by decide +kernel⟩
theorem wiX4_begin : Cond.instanceMethod yX4_begin ∈ gw := (gw_of (List.mem_append_right _ (List.mem_of_getElem? (i := 259) (by decide +kernel))) (by decide +kernel))
theorem wsX4_begin : Cond.selects RX4 yX4_begin yX4_begin ∈ gw := (gw_of (List.mem_append_left _ (List.mem_of_getElem? (i := 3) (by decide +kernel))) (by decide +kernel))
def mX6_pastGap : MD := (yX6_pastGap, cX6_pastGap, 5, (some .int), 1, 21)
theorem mwX6_pastGap : MW mX6_pastGap := ⟨(gw_of (List.mem_append_right _ (List.mem_of_getElem? (i := 264) (by decide +kernel))) (by decide +kernel)), (gw_of (List.mem_append_right _ (List.mem_of_getElem? (i := 2) (by decide +kernel))) (by decide +kernel)), by decide +kernel, by decide +kernel, by decide +kernel⟩
theorem wiX6_pastGap : Cond.instanceMethod yX6_pastGap ∈ gw := (gw_of (List.mem_append_right _ (List.mem_of_getElem? (i := 262) (by decide +kernel))) (by decide +kernel))
theorem wsX6_pastGap : Cond.selects RX6 yX6_pastGap yX6_pastGap ∈ gw := (gw_of (List.mem_append_right _ (List.mem_of_getElem? (i := 263) (by decide +kernel))) (by decide +kernel))
def mX4_isLetter : MD := (yX4_isLetter, cX4_isLetter, 1, (some .boolean), 0, 0)
theorem mwX4_isLetter : MW mX4_isLetter := ⟨(gw_of (List.mem_append_right _ (List.mem_of_getElem? (i := 271) (by decide +kernel))) (by decide +kernel)), (gw_of (List.mem_append_right _ (List.mem_of_getElem? (i := 7) (by decide +kernel))) (by decide +kernel)), by decide +kernel, by decide +kernel, by decide +kernel⟩
theorem wtX4_isLetter : Cond.static yX4_isLetter ∈ gw := (gw_of (List.mem_append_right _ (List.mem_of_getElem? (i := 270) (by decide +kernel))) (by decide +kernel))
def mX4_isDigit : MD := (yX4_isDigit, cX4_isDigit, 1, (some .boolean), 0, 0)
theorem mwX4_isDigit : MW mX4_isDigit := ⟨(gw_of (List.mem_append_right _ (List.mem_of_getElem? (i := 277) (by decide +kernel))) (by decide +kernel)), (gw_of (List.mem_append_right _ (List.mem_of_getElem? (i := 7) (by decide +kernel))) (by decide +kernel)), by decide +kernel, by decide +kernel, by decide +kernel⟩
theorem wtX4_isDigit : Cond.static yX4_isDigit ∈ gw := (gw_of (List.mem_append_right _ (List.mem_of_getElem? (i := 276) (by decide +kernel))) (by decide +kernel))
def mX4_isSmall : MD := (yX4_isSmall, cX4_isSmall, 1, (some .boolean), 0, 0)
theorem mwX4_isSmall : MW mX4_isSmall := ⟨(gw_of (List.mem_append_right _ (List.mem_of_getElem? (i := 280) (by decide +kernel))) (by decide +kernel)), (gw_of (List.mem_append_right _ (List.mem_of_getElem? (i := 7) (by decide +kernel))) (by decide +kernel)), by decide +kernel, by decide +kernel, by decide +kernel⟩
theorem wtX4_isSmall : Cond.static yX4_isSmall ∈ gw := (gw_of (List.mem_append_right _ (List.mem_of_getElem? (i := 279) (by decide +kernel))) (by decide +kernel))
def mX4_isMoreOf : MD := (yX4_isMoreOf, cX4_isMoreOf, 2, (some .boolean), 1, 20)
theorem mwX4_isMoreOf : MW mX4_isMoreOf := ⟨(gw_of (List.mem_append_right _ (List.mem_of_getElem? (i := 274) (by decide +kernel))) (by decide +kernel)), (gw_of (List.mem_append_right _ (List.mem_of_getElem? (i := 7) (by decide +kernel))) (by decide +kernel)), by decide +kernel, by decide +kernel, by decide +kernel⟩
theorem wtX4_isMoreOf : Cond.static yX4_isMoreOf ∈ gw := (gw_of (List.mem_append_right _ (List.mem_of_getElem? (i := 273) (by decide +kernel))) (by decide +kernel))
def mX4_tokenSigns : MD := (yX4_tokenSigns, cX4_tokenSigns, 4, (some .int), 2, 41)
theorem mwX4_tokenSigns : MW mX4_tokenSigns := ⟨(gw_of (List.mem_append_right _ (List.mem_of_getElem? (i := 267) (by decide +kernel))) (by decide +kernel)), (gw_of (List.mem_append_right _ (List.mem_of_getElem? (i := 7) (by decide +kernel))) (by decide +kernel)), by decide +kernel, by decide +kernel, by decide +kernel⟩
theorem wtX4_tokenSigns : Cond.static yX4_tokenSigns ∈ gw := (gw_of (List.mem_append_right _ (List.mem_of_getElem? (i := 266) (by decide +kernel))) (by decide +kernel))
def mX4_takesColon : MD := (yX4_takesColon, cX4_takesColon, 2, (some .boolean), 0, 0)
theorem mwX4_takesColon : MW mX4_takesColon := ⟨(gw_of (List.mem_append_right _ (List.mem_of_getElem? (i := 288) (by decide +kernel))) (by decide +kernel)), (gw_of (List.mem_append_right _ (List.mem_of_getElem? (i := 7) (by decide +kernel))) (by decide +kernel)), by decide +kernel, by decide +kernel, by decide +kernel⟩
theorem wiX4_takesColon : Cond.instanceMethod yX4_takesColon ∈ gw := (gw_of (List.mem_append_right _ (List.mem_of_getElem? (i := 287) (by decide +kernel))) (by decide +kernel))
theorem wsX4_takesColon : Cond.selects RX4 yX4_takesColon yX4_takesColon ∈ gw := (gw_of (List.mem_append_left _ (List.mem_of_getElem? (i := 5) (by decide +kernel))) (by decide +kernel))
def mX4_takesLetter : MD := (yX4_takesLetter, cX4_takesLetter, 4, (some .boolean), 1, 22)
theorem mwX4_takesLetter : MW mX4_takesLetter := ⟨(gw_of (List.mem_append_right _ (List.mem_of_getElem? (i := 292) (by decide +kernel))) (by decide +kernel)), (gw_of (List.mem_append_right _ (List.mem_of_getElem? (i := 7) (by decide +kernel))) (by decide +kernel)), by decide +kernel, by decide +kernel, by decide +kernel⟩
theorem wiX4_takesLetter : Cond.instanceMethod yX4_takesLetter ∈ gw := (gw_of (List.mem_append_right _ (List.mem_of_getElem? (i := 291) (by decide +kernel))) (by decide +kernel))
theorem wsX4_takesLetter : Cond.selects RX4 yX4_takesLetter yX4_takesLetter ∈ gw := (gw_of (List.mem_append_left _ (List.mem_of_getElem? (i := 6) (by decide +kernel))) (by decide +kernel))
def mX4_takesPlace : MD := (yX4_takesPlace, cX4_takesPlace, 3, (some .boolean), 0, 0)
theorem mwX4_takesPlace : MW mX4_takesPlace := ⟨(gw_of (List.mem_append_right _ (List.mem_of_getElem? (i := 300) (by decide +kernel))) (by decide +kernel)), (gw_of (List.mem_append_right _ (List.mem_of_getElem? (i := 7) (by decide +kernel))) (by decide +kernel)), by decide +kernel, by decide +kernel, by decide +kernel⟩
theorem wiX4_takesPlace : Cond.instanceMethod yX4_takesPlace ∈ gw := (gw_of (List.mem_append_right _ (List.mem_of_getElem? (i := 299) (by decide +kernel))) (by decide +kernel))
theorem wsX4_takesPlace : Cond.selects RX4 yX4_takesPlace yX4_takesPlace ∈ gw := (gw_of (List.mem_append_left _ (List.mem_of_getElem? (i := 7) (by decide +kernel))) (by decide +kernel))
def mX4_valueOf : MD := (yX4_valueOf, cX4_valueOf, 5, (some .int), 1, 21)
theorem mwX4_valueOf : MW mX4_valueOf := ⟨(gw_of (List.mem_append_right _ (List.mem_of_getElem? (i := 303) (by decide +kernel))) (by decide +kernel)), (gw_of (List.mem_append_right _ (List.mem_of_getElem? (i := 7) (by decide +kernel))) (by decide +kernel)), by decide +kernel, by decide +kernel, by decide +kernel⟩
theorem wtX4_valueOf : Cond.static yX4_valueOf ∈ gw := (gw_of (List.mem_append_right _ (List.mem_of_getElem? (i := 302) (by decide +kernel))) (by decide +kernel))
def mX4_takesNumber : MD := (yX4_takesNumber, cX4_takesNumber, 3, (some .boolean), 1, 22)
theorem mwX4_takesNumber : MW mX4_takesNumber := ⟨(gw_of (List.mem_append_right _ (List.mem_of_getElem? (i := 307) (by decide +kernel))) (by decide +kernel)), (gw_of (List.mem_append_right _ (List.mem_of_getElem? (i := 7) (by decide +kernel))) (by decide +kernel)), by decide +kernel, by decide +kernel, by decide +kernel⟩
theorem wiX4_takesNumber : Cond.instanceMethod yX4_takesNumber ∈ gw := (gw_of (List.mem_append_right _ (List.mem_of_getElem? (i := 306) (by decide +kernel))) (by decide +kernel))
theorem wsX4_takesNumber : Cond.selects RX4 yX4_takesNumber yX4_takesNumber ∈ gw := (gw_of (List.mem_append_left _ (List.mem_of_getElem? (i := 8) (by decide +kernel))) (by decide +kernel))
def mX4_wordOf : MD := (yX4_wordOf, cX4_wordOf, 8, (some .int), 3, 90)
theorem mwX4_wordOf : MW mX4_wordOf := ⟨(gw_of (List.mem_append_right _ (List.mem_of_getElem? (i := 310) (by decide +kernel))) (by decide +kernel)), (gw_of (List.mem_append_right _ (List.mem_of_getElem? (i := 7) (by decide +kernel))) (by decide +kernel)), by decide +kernel, by decide +kernel, by decide +kernel⟩
theorem wtX4_wordOf : Cond.static yX4_wordOf ∈ gw := (gw_of (List.mem_append_right _ (List.mem_of_getElem? (i := 309) (by decide +kernel))) (by decide +kernel))
def mX4_takesWord : MD := (yX4_takesWord, cX4_takesWord, 3, (some .boolean), 1, 22)
theorem mwX4_takesWord : MW mX4_takesWord := ⟨(gw_of (List.mem_append_right _ (List.mem_of_getElem? (i := 363) (by decide +kernel))) (by decide +kernel)), (gw_of (List.mem_append_right _ (List.mem_of_getElem? (i := 7) (by decide +kernel))) (by decide +kernel)), by decide +kernel, by decide +kernel, by decide +kernel⟩
theorem wiX4_takesWord : Cond.instanceMethod yX4_takesWord ∈ gw := (gw_of (List.mem_append_right _ (List.mem_of_getElem? (i := 362) (by decide +kernel))) (by decide +kernel))
theorem wsX4_takesWord : Cond.selects RX4 yX4_takesWord yX4_takesWord ∈ gw := (gw_of (List.mem_append_left _ (List.mem_of_getElem? (i := 9) (by decide +kernel))) (by decide +kernel))
def mX4_takes : MD := (yX4_takes, cX4_takes, 5, (some .boolean), 4, 117)
theorem mwX4_takes : MW mX4_takes := ⟨(gw_of (List.mem_append_right _ (List.mem_of_getElem? (i := 284) (by decide +kernel))) (by decide +kernel)), (gw_of (List.mem_append_right _ (List.mem_of_getElem? (i := 7) (by decide +kernel))) (by decide +kernel)), by decide +kernel, by decide +kernel, by decide +kernel⟩
theorem wiX4_takes : Cond.instanceMethod yX4_takes ∈ gw := (gw_of (List.mem_append_right _ (List.mem_of_getElem? (i := 283) (by decide +kernel))) (by decide +kernel))
theorem wsX4_takes : Cond.selects RX4 yX4_takes yX4_takes ∈ gw := (gw_of (List.mem_append_left _ (List.mem_of_getElem? (i := 4) (by decide +kernel))) (by decide +kernel))
def mX4_putPlaces : MD := (yX4_putPlaces, cX4_putPlaces, 3, (some .int), 1, 22)
theorem mwX4_putPlaces : MW mX4_putPlaces := ⟨(gw_of (List.mem_append_right _ (List.mem_of_getElem? (i := 370) (by decide +kernel))) (by decide +kernel)), (gw_of (List.mem_append_right _ (List.mem_of_getElem? (i := 7) (by decide +kernel))) (by decide +kernel)), by decide +kernel, by decide +kernel, by decide +kernel⟩
theorem wiX4_putPlaces : Cond.instanceMethod yX4_putPlaces ∈ gw := (gw_of (List.mem_append_right _ (List.mem_of_getElem? (i := 369) (by decide +kernel))) (by decide +kernel))
theorem wsX4_putPlaces : Cond.selects RX4 yX4_putPlaces yX4_putPlaces ∈ gw := (gw_of (List.mem_append_left _ (List.mem_of_getElem? (i := 10) (by decide +kernel))) (by decide +kernel))
def mX4_faultIn : MD := (yX4_faultIn, cX4_faultIn, 5, (some .int), 5, 141)
theorem mwX4_faultIn : MW mX4_faultIn := ⟨(gw_of (List.mem_append_right _ (List.mem_of_getElem? (i := 256) (by decide +kernel))) (by decide +kernel)), (gw_of (List.mem_append_right _ (List.mem_of_getElem? (i := 7) (by decide +kernel))) (by decide +kernel)), by decide +kernel, by decide +kernel, by decide +kernel⟩
theorem wiX4_faultIn : Cond.instanceMethod yX4_faultIn ∈ gw := (gw_of (List.mem_append_right _ (List.mem_of_getElem? (i := 255) (by decide +kernel))) (by decide +kernel))
def mX5_init : MD := (yX5_init, cX5_init, 1, (none : Option Jvm.ClassFile.FieldType), 3, 65)
theorem mwX5_init : MW mX5_init := ⟨(gw_of (List.mem_append_right _ (List.mem_of_getElem? (i := 48) (by decide +kernel))) (by decide +kernel)), (gw_of (List.mem_append_right _ (List.mem_of_getElem? (i := 4) (by decide +kernel))) (by decide +kernel)), by decide +kernel, by decide +kernel, by decide +kernel⟩
theorem wiX5_init : Cond.instanceMethod yX5_init ∈ gw := (gw_of (List.mem_append_right _ (List.mem_of_getElem? (i := 47) (by decide +kernel))) (by decide +kernel))
def mX5_digit : MD := (yX5_digit, cX5_digit, 1, (some .int), 0, 0)
theorem mwX5_digit : MW mX5_digit := ⟨(gw_of (List.mem_append_right _ (List.mem_of_getElem? (i := 386) (by decide +kernel))) (by decide +kernel)), (gw_of (List.mem_append_right _ (List.mem_of_getElem? (i := 4) (by decide +kernel))) (by decide +kernel)), by decide +kernel, by decide +kernel, by decide +kernel⟩
theorem wtX5_digit : Cond.static yX5_digit ∈ gw := (gw_of (List.mem_append_right _ (List.mem_of_getElem? (i := 385) (by decide +kernel))) (by decide +kernel))
def mX5_faultIn : MD := (yX5_faultIn, cX5_faultIn, 6, (some .int), 2, 45)
theorem mwX5_faultIn : MW mX5_faultIn := ⟨(gw_of (List.mem_append_right _ (List.mem_of_getElem? (i := 381) (by decide +kernel))) (by decide +kernel)), (gw_of (List.mem_append_right _ (List.mem_of_getElem? (i := 4) (by decide +kernel))) (by decide +kernel)), by decide +kernel, by decide +kernel, by decide +kernel⟩
theorem wiX5_faultIn : Cond.instanceMethod yX5_faultIn ∈ gw := (gw_of (List.mem_append_right _ (List.mem_of_getElem? (i := 380) (by decide +kernel))) (by decide +kernel))
def mX6_init : MD := (yX6_init, cX6_init, 1, (none : Option Jvm.ClassFile.FieldType), 1, 24)
theorem mwX6_init : MW mX6_init := ⟨(gw_of (List.mem_append_right _ (List.mem_of_getElem? (i := 28) (by decide +kernel))) (by decide +kernel)), (gw_of (List.mem_append_right _ (List.mem_of_getElem? (i := 2) (by decide +kernel))) (by decide +kernel)), by decide +kernel, by decide +kernel, by decide +kernel⟩
theorem wiX6_init : Cond.instanceMethod yX6_init ∈ gw := (gw_of (List.mem_append_right _ (List.mem_of_getElem? (i := 27) (by decide +kernel))) (by decide +kernel))
def mX6_add : MD := (yX6_add, cX6_add, 2, (none : Option Jvm.ClassFile.FieldType), 0, 0)
theorem mwX6_add : MW mX6_add := ⟨(gw_of (List.mem_append_right _ (List.mem_of_getElem? (i := 212) (by decide +kernel))) (by decide +kernel)), (gw_of (List.mem_append_right _ (List.mem_of_getElem? (i := 2) (by decide +kernel))) (by decide +kernel)), by decide +kernel, by decide +kernel, by decide +kernel⟩
theorem wiX6_add : Cond.instanceMethod yX6_add ∈ gw := (gw_of (List.mem_append_right _ (List.mem_of_getElem? (i := 210) (by decide +kernel))) (by decide +kernel))
theorem wsX6_add : Cond.selects RX6 yX6_add yX6_add ∈ gw := (gw_of (List.mem_append_right _ (List.mem_of_getElem? (i := 211) (by decide +kernel))) (by decide +kernel))
def mX6_become : MD := (yX6_become, cX6_become, 3, (none : Option Jvm.ClassFile.FieldType), 1, 21)
theorem mwX6_become : MW mX6_become := ⟨(gw_of (List.mem_append_right _ (List.mem_of_getElem? (i := 228) (by decide +kernel))) (by decide +kernel)), (gw_of (List.mem_append_right _ (List.mem_of_getElem? (i := 2) (by decide +kernel))) (by decide +kernel)), by decide +kernel, by decide +kernel, by decide +kernel⟩
theorem wiX6_become : Cond.instanceMethod yX6_become ∈ gw := (gw_of (List.mem_append_right _ (List.mem_of_getElem? (i := 226) (by decide +kernel))) (by decide +kernel))
theorem wsX6_become : Cond.selects RX6 yX6_become yX6_become ∈ gw := (gw_of (List.mem_append_right _ (List.mem_of_getElem? (i := 227) (by decide +kernel))) (by decide +kernel))
def mX7_init : MD := (yX7_init, cX7_init, 5, (none : Option Jvm.ClassFile.FieldType), 1, 24)
theorem mwX7_init : MW mX7_init := ⟨(gw_of (List.mem_append_right _ (List.mem_of_getElem? (i := 407) (by decide +kernel))) (by decide +kernel)), (gw_of (List.mem_append_right _ (List.mem_of_getElem? (i := 15) (by decide +kernel))) (by decide +kernel)), by decide +kernel, by decide +kernel, by decide +kernel⟩
theorem wiX7_init : Cond.instanceMethod yX7_init ∈ gw := (gw_of (List.mem_append_right _ (List.mem_of_getElem? (i := 406) (by decide +kernel))) (by decide +kernel))
def mX8_init : MD := (yX8_init, cX8_init, 2, (none : Option Jvm.ClassFile.FieldType), 4, 85)
theorem mwX8_init : MW mX8_init := ⟨(gw_of (List.mem_append_right _ (List.mem_of_getElem? (i := 20) (by decide +kernel))) (by decide +kernel)), (gw_of (List.mem_append_right _ (List.mem_of_getElem? (i := 1) (by decide +kernel))) (by decide +kernel)), by decide +kernel, by decide +kernel, by decide +kernel⟩
theorem wiX8_init : Cond.instanceMethod yX8_init ∈ gw := (gw_of (List.mem_append_right _ (List.mem_of_getElem? (i := 19) (by decide +kernel))) (by decide +kernel))
def mX8_type : MD := (yX8_type, cX8_type, 5, (some .int), 1, 21)
theorem mwX8_type : MW mX8_type := ⟨(gw_of (List.mem_append_right _ (List.mem_of_getElem? (i := 208) (by decide +kernel))) (by decide +kernel)), (gw_of (List.mem_append_right _ (List.mem_of_getElem? (i := 1) (by decide +kernel))) (by decide +kernel)), by decide +kernel, by decide +kernel, by decide +kernel⟩
theorem wiX8_type : Cond.instanceMethod yX8_type ∈ gw := (gw_of (List.mem_append_right _ (List.mem_of_getElem? (i := 206) (by decide +kernel))) (by decide +kernel))
theorem wsX8_type : Cond.selects RX8 yX8_type yX8_type ∈ gw := (gw_of (List.mem_append_right _ (List.mem_of_getElem? (i := 207) (by decide +kernel))) (by decide +kernel))
def mX8_clear : MD := (yX8_clear, cX8_clear, 2, (some .int), 0, 0)
theorem mwX8_clear : MW mX8_clear := ⟨(gw_of (List.mem_append_right _ (List.mem_of_getElem? (i := 216) (by decide +kernel))) (by decide +kernel)), (gw_of (List.mem_append_right _ (List.mem_of_getElem? (i := 1) (by decide +kernel))) (by decide +kernel)), by decide +kernel, by decide +kernel, by decide +kernel⟩
theorem wiX8_clear : Cond.instanceMethod yX8_clear ∈ gw := (gw_of (List.mem_append_right _ (List.mem_of_getElem? (i := 214) (by decide +kernel))) (by decide +kernel))
theorem wsX8_clear : Cond.selects RX8 yX8_clear yX8_clear ∈ gw := (gw_of (List.mem_append_right _ (List.mem_of_getElem? (i := 215) (by decide +kernel))) (by decide +kernel))
def mX8_textAt : MD := (yX8_textAt, cX8_textAt, 2, (some (.object "LadderForge$Text")), 0, 0)
theorem mwX8_textAt : MW mX8_textAt := ⟨(gw_of (List.mem_append_right _ (List.mem_of_getElem? (i := 224) (by decide +kernel))) (by decide +kernel)), (gw_of (List.mem_append_right _ (List.mem_of_getElem? (i := 1) (by decide +kernel))) (by decide +kernel)), by decide +kernel, by decide +kernel, by decide +kernel⟩
theorem wiX8_textAt : Cond.instanceMethod yX8_textAt ∈ gw := (gw_of (List.mem_append_right _ (List.mem_of_getElem? (i := 223) (by decide +kernel))) (by decide +kernel))
theorem wsX8_textAt : Cond.selects RX8 yX8_textAt yX8_textAt ∈ gw := (gw_of (List.mem_append_left _ (List.mem_of_getElem? (i := 0) (by decide +kernel))) (by decide +kernel))
def mX8_text : MD := (yX8_text, cX8_text, 3, (some .int), 2, 43)
theorem mwX8_text : MW mX8_text := ⟨(gw_of (List.mem_append_right _ (List.mem_of_getElem? (i := 220) (by decide +kernel))) (by decide +kernel)), (gw_of (List.mem_append_right _ (List.mem_of_getElem? (i := 1) (by decide +kernel))) (by decide +kernel)), by decide +kernel, by decide +kernel, by decide +kernel⟩
theorem wiX8_text : Cond.instanceMethod yX8_text ∈ gw := (gw_of (List.mem_append_right _ (List.mem_of_getElem? (i := 218) (by decide +kernel))) (by decide +kernel))
theorem wsX8_text : Cond.selects RX8 yX8_text yX8_text ∈ gw := (gw_of (List.mem_append_right _ (List.mem_of_getElem? (i := 219) (by decide +kernel))) (by decide +kernel))
def mX8_read : MD := (yX8_read, cX8_read, 4, (some .int), 1, 21)
theorem mwX8_read : MW mX8_read := ⟨(gw_of (List.mem_append_right _ (List.mem_of_getElem? (i := 237) (by decide +kernel))) (by decide +kernel)), (gw_of (List.mem_append_right _ (List.mem_of_getElem? (i := 1) (by decide +kernel))) (by decide +kernel)), by decide +kernel, by decide +kernel, by decide +kernel⟩
theorem wiX8_read : Cond.instanceMethod yX8_read ∈ gw := (gw_of (List.mem_append_right _ (List.mem_of_getElem? (i := 235) (by decide +kernel))) (by decide +kernel))
theorem wsX8_read : Cond.selects RX8 yX8_read yX8_read ∈ gw := (gw_of (List.mem_append_right _ (List.mem_of_getElem? (i := 236) (by decide +kernel))) (by decide +kernel))
def mX8_makerBy : MD := (yX8_makerBy, cX8_makerBy, 2, (some (.object "LadderForge$Maker")), 0, 0)
theorem mwX8_makerBy : MW mX8_makerBy := ⟨(gw_of (List.mem_append_right _ (List.mem_of_getElem? (i := 250) (by decide +kernel))) (by decide +kernel)), (gw_of (List.mem_append_right _ (List.mem_of_getElem? (i := 1) (by decide +kernel))) (by decide +kernel)), by decide +kernel, by decide +kernel, by decide +kernel⟩
theorem wiX8_makerBy : Cond.instanceMethod yX8_makerBy ∈ gw := (gw_of (List.mem_append_right _ (List.mem_of_getElem? (i := 249) (by decide +kernel))) (by decide +kernel))
theorem wsX8_makerBy : Cond.selects RX8 yX8_makerBy yX8_makerBy ∈ gw := (gw_of (List.mem_append_left _ (List.mem_of_getElem? (i := 2) (by decide +kernel))) (by decide +kernel))
def mX8_keep : MD := (yX8_keep, cX8_keep, 5, (some .int), 3, 67)
theorem mwX8_keep : MW mX8_keep := ⟨(gw_of (List.mem_append_right _ (List.mem_of_getElem? (i := 391) (by decide +kernel))) (by decide +kernel)), (gw_of (List.mem_append_right _ (List.mem_of_getElem? (i := 1) (by decide +kernel))) (by decide +kernel)), by decide +kernel, by decide +kernel, by decide +kernel⟩
theorem wiX8_keep : Cond.instanceMethod yX8_keep ∈ gw := (gw_of (List.mem_append_right _ (List.mem_of_getElem? (i := 390) (by decide +kernel))) (by decide +kernel))
theorem wsX8_keep : Cond.selects RX8 yX8_keep yX8_keep ∈ gw := (gw_of (List.mem_append_left _ (List.mem_of_getElem? (i := 11) (by decide +kernel))) (by decide +kernel))
def mX8_make : MD := (yX8_make, cX8_make, 6, (some .int), 6, 165)
theorem mwX8_make : MW mX8_make := ⟨(gw_of (List.mem_append_right _ (List.mem_of_getElem? (i := 246) (by decide +kernel))) (by decide +kernel)), (gw_of (List.mem_append_right _ (List.mem_of_getElem? (i := 1) (by decide +kernel))) (by decide +kernel)), by decide +kernel, by decide +kernel, by decide +kernel⟩
theorem wiX8_make : Cond.instanceMethod yX8_make ∈ gw := (gw_of (List.mem_append_right _ (List.mem_of_getElem? (i := 245) (by decide +kernel))) (by decide +kernel))
theorem wsX8_make : Cond.selects RX8 yX8_make yX8_make ∈ gw := (gw_of (List.mem_append_left _ (List.mem_of_getElem? (i := 1) (by decide +kernel))) (by decide +kernel))
def mX8_pairs : MD := (yX8_pairs, cX8_pairs, 2, (some .int), 7, 190)
theorem mwX8_pairs : MW mX8_pairs := ⟨(gw_of (List.mem_append_right _ (List.mem_of_getElem? (i := 242) (by decide +kernel))) (by decide +kernel)), (gw_of (List.mem_append_right _ (List.mem_of_getElem? (i := 1) (by decide +kernel))) (by decide +kernel)), by decide +kernel, by decide +kernel, by decide +kernel⟩
theorem wiX8_pairs : Cond.instanceMethod yX8_pairs ∈ gw := (gw_of (List.mem_append_right _ (List.mem_of_getElem? (i := 240) (by decide +kernel))) (by decide +kernel))
theorem wsX8_pairs : Cond.selects RX8 yX8_pairs yX8_pairs ∈ gw := (gw_of (List.mem_append_right _ (List.mem_of_getElem? (i := 241) (by decide +kernel))) (by decide +kernel))
def mX8_named : MD := (yX8_named, cX8_named, 2, (some .int), 7, 190)
theorem mwX8_named : MW mX8_named := ⟨(gw_of (List.mem_append_right _ (List.mem_of_getElem? (i := 434) (by decide +kernel))) (by decide +kernel)), (gw_of (List.mem_append_right _ (List.mem_of_getElem? (i := 1) (by decide +kernel))) (by decide +kernel)), by decide +kernel, by decide +kernel, by decide +kernel⟩
theorem wiX8_named : Cond.instanceMethod yX8_named ∈ gw := (gw_of (List.mem_append_right _ (List.mem_of_getElem? (i := 432) (by decide +kernel))) (by decide +kernel))
theorem wsX8_named : Cond.selects RX8 yX8_named yX8_named ∈ gw := (gw_of (List.mem_append_right _ (List.mem_of_getElem? (i := 433) (by decide +kernel))) (by decide +kernel))
def mX8_toolAt : MD := (yX8_toolAt, cX8_toolAt, 2, (some (.object "LadderForge$Tool")), 0, 0)
theorem mwX8_toolAt : MW mX8_toolAt := ⟨(gw_of (List.mem_append_right _ (List.mem_of_getElem? (i := 442) (by decide +kernel))) (by decide +kernel)), (gw_of (List.mem_append_right _ (List.mem_of_getElem? (i := 1) (by decide +kernel))) (by decide +kernel)), by decide +kernel, by decide +kernel, by decide +kernel⟩
theorem wiX8_toolAt : Cond.instanceMethod yX8_toolAt ∈ gw := (gw_of (List.mem_append_right _ (List.mem_of_getElem? (i := 441) (by decide +kernel))) (by decide +kernel))
theorem wsX8_toolAt : Cond.selects RX8 yX8_toolAt yX8_toolAt ∈ gw := (gw_of (List.mem_append_left _ (List.mem_of_getElem? (i := 12) (by decide +kernel))) (by decide +kernel))
def mX8_build : MD := (yX8_build, cX8_build, 5, (some .int), 4, 95)
theorem mwX8_build : MW mX8_build := ⟨(gw_of (List.mem_append_right _ (List.mem_of_getElem? (i := 438) (by decide +kernel))) (by decide +kernel)), (gw_of (List.mem_append_right _ (List.mem_of_getElem? (i := 1) (by decide +kernel))) (by decide +kernel)), by decide +kernel, by decide +kernel, by decide +kernel⟩
theorem wiX8_build : Cond.instanceMethod yX8_build ∈ gw := (gw_of (List.mem_append_right _ (List.mem_of_getElem? (i := 436) (by decide +kernel))) (by decide +kernel))
theorem wsX8_build : Cond.selects RX8 yX8_build yX8_build ∈ gw := (gw_of (List.mem_append_right _ (List.mem_of_getElem? (i := 437) (by decide +kernel))) (by decide +kernel))
def mX8_tool : MD := (yX8_tool, cX8_tool, 4, (some .int), 1, 21)
theorem mwX8_tool : MW mX8_tool := ⟨(gw_of (List.mem_append_right _ (List.mem_of_getElem? (i := 477) (by decide +kernel))) (by decide +kernel)), (gw_of (List.mem_append_right _ (List.mem_of_getElem? (i := 1) (by decide +kernel))) (by decide +kernel)), by decide +kernel, by decide +kernel, by decide +kernel⟩
theorem wiX8_tool : Cond.instanceMethod yX8_tool ∈ gw := (gw_of (List.mem_append_right _ (List.mem_of_getElem? (i := 475) (by decide +kernel))) (by decide +kernel))
theorem wsX8_tool : Cond.selects RX8 yX8_tool yX8_tool ∈ gw := (gw_of (List.mem_append_right _ (List.mem_of_getElem? (i := 476) (by decide +kernel))) (by decide +kernel))
def mX8_code : MD := (yX8_code, cX8_code, 5, (some .int), 1, 21)
theorem mwX8_code : MW mX8_code := ⟨(gw_of (List.mem_append_right _ (List.mem_of_getElem? (i := 481) (by decide +kernel))) (by decide +kernel)), (gw_of (List.mem_append_right _ (List.mem_of_getElem? (i := 1) (by decide +kernel))) (by decide +kernel)), by decide +kernel, by decide +kernel, by decide +kernel⟩
theorem wiX8_code : Cond.instanceMethod yX8_code ∈ gw := (gw_of (List.mem_append_right _ (List.mem_of_getElem? (i := 479) (by decide +kernel))) (by decide +kernel))
theorem wsX8_code : Cond.selects RX8 yX8_code yX8_code ∈ gw := (gw_of (List.mem_append_right _ (List.mem_of_getElem? (i := 480) (by decide +kernel))) (by decide +kernel))
def mX8_run : MD := (yX8_run, cX8_run, 5, (some .int), 3, 73)
theorem mwX8_run : MW mX8_run := ⟨(gw_of (List.mem_append_right _ (List.mem_of_getElem? (i := 487) (by decide +kernel))) (by decide +kernel)), (gw_of (List.mem_append_right _ (List.mem_of_getElem? (i := 1) (by decide +kernel))) (by decide +kernel)), by decide +kernel, by decide +kernel, by decide +kernel⟩
theorem wiX8_run : Cond.instanceMethod yX8_run ∈ gw := (gw_of (List.mem_append_right _ (List.mem_of_getElem? (i := 485) (by decide +kernel))) (by decide +kernel))
theorem wsX8_run : Cond.selects RX8 yX8_run yX8_run ∈ gw := (gw_of (List.mem_append_right _ (List.mem_of_getElem? (i := 486) (by decide +kernel))) (by decide +kernel))
def mX8_ran : MD := (yX8_ran, cX8_ran, 2, (some .int), 0, 0)
theorem mwX8_ran : MW mX8_ran := ⟨(gw_of (List.mem_append_right _ (List.mem_of_getElem? (i := 492) (by decide +kernel))) (by decide +kernel)), (gw_of (List.mem_append_right _ (List.mem_of_getElem? (i := 1) (by decide +kernel))) (by decide +kernel)), by decide +kernel, by decide +kernel, by decide +kernel⟩
theorem wiX8_ran : Cond.instanceMethod yX8_ran ∈ gw := (gw_of (List.mem_append_right _ (List.mem_of_getElem? (i := 490) (by decide +kernel))) (by decide +kernel))
theorem wsX8_ran : Cond.selects RX8 yX8_ran yX8_ran ∈ gw := (gw_of (List.mem_append_right _ (List.mem_of_getElem? (i := 491) (by decide +kernel))) (by decide +kernel))
def mX8_tape : MD := (yX8_tape, cX8_tape, 3, (some .int), 1, 21)
theorem mwX8_tape : MW mX8_tape := ⟨(gw_of (List.mem_append_right _ (List.mem_of_getElem? (i := 496) (by decide +kernel))) (by decide +kernel)), (gw_of (List.mem_append_right _ (List.mem_of_getElem? (i := 1) (by decide +kernel))) (by decide +kernel)), by decide +kernel, by decide +kernel, by decide +kernel⟩
theorem wiX8_tape : Cond.instanceMethod yX8_tape ∈ gw := (gw_of (List.mem_append_right _ (List.mem_of_getElem? (i := 494) (by decide +kernel))) (by decide +kernel))
theorem wsX8_tape : Cond.selects RX8 yX8_tape yX8_tape ∈ gw := (gw_of (List.mem_append_right _ (List.mem_of_getElem? (i := 495) (by decide +kernel))) (by decide +kernel))
def mX8_builtAgain : MD := (yX8_builtAgain, cX8_builtAgain, 4, (some .int), 3, 73)
theorem mwX8_builtAgain : MW mX8_builtAgain := ⟨(gw_of (List.mem_append_right _ (List.mem_of_getElem? (i := 512) (by decide +kernel))) (by decide +kernel)), (gw_of (List.mem_append_right _ (List.mem_of_getElem? (i := 1) (by decide +kernel))) (by decide +kernel)), by decide +kernel, by decide +kernel, by decide +kernel⟩
theorem wiX8_builtAgain : Cond.instanceMethod yX8_builtAgain ∈ gw := (gw_of (List.mem_append_right _ (List.mem_of_getElem? (i := 511) (by decide +kernel))) (by decide +kernel))
theorem wsX8_builtAgain : Cond.selects RX8 yX8_builtAgain yX8_builtAgain ∈ gw := (gw_of (List.mem_append_left _ (List.mem_of_getElem? (i := 18) (by decide +kernel))) (by decide +kernel))
def mX8_madeAgain : MD := (yX8_madeAgain, cX8_madeAgain, 4, (some .int), 6, 165)
theorem mwX8_madeAgain : MW mX8_madeAgain := ⟨(gw_of (List.mem_append_right _ (List.mem_of_getElem? (i := 508) (by decide +kernel))) (by decide +kernel)), (gw_of (List.mem_append_right _ (List.mem_of_getElem? (i := 1) (by decide +kernel))) (by decide +kernel)), by decide +kernel, by decide +kernel, by decide +kernel⟩
theorem wiX8_madeAgain : Cond.instanceMethod yX8_madeAgain ∈ gw := (gw_of (List.mem_append_right _ (List.mem_of_getElem? (i := 507) (by decide +kernel))) (by decide +kernel))
theorem wsX8_madeAgain : Cond.selects RX8 yX8_madeAgain yX8_madeAgain ∈ gw := (gw_of (List.mem_append_left _ (List.mem_of_getElem? (i := 17) (by decide +kernel))) (by decide +kernel))
def mX8_rebuilt : MD := (yX8_rebuilt, cX8_rebuilt, 3, (some .int), 7, 188)
theorem mwX8_rebuilt : MW mX8_rebuilt := ⟨(gw_of (List.mem_append_right _ (List.mem_of_getElem? (i := 504) (by decide +kernel))) (by decide +kernel)), (gw_of (List.mem_append_right _ (List.mem_of_getElem? (i := 1) (by decide +kernel))) (by decide +kernel)), by decide +kernel, by decide +kernel, by decide +kernel⟩
theorem wiX8_rebuilt : Cond.instanceMethod yX8_rebuilt ∈ gw := (gw_of (List.mem_append_right _ (List.mem_of_getElem? (i := 502) (by decide +kernel))) (by decide +kernel))
theorem wsX8_rebuilt : Cond.selects RX8 yX8_rebuilt yX8_rebuilt ∈ gw := (gw_of (List.mem_append_right _ (List.mem_of_getElem? (i := 503) (by decide +kernel))) (by decide +kernel))
def mX8_hasBit : MD := (yX8_hasBit, cX8_hasBit, 2, (some .boolean), 0, 0)
theorem mwX8_hasBit : MW mX8_hasBit := ⟨(gw_of (List.mem_append_right _ (List.mem_of_getElem? (i := 530) (by decide +kernel))) (by decide +kernel)), (gw_of (List.mem_append_right _ (List.mem_of_getElem? (i := 1) (by decide +kernel))) (by decide +kernel)), by decide +kernel, by decide +kernel, by decide +kernel⟩
theorem wtX8_hasBit : Cond.static yX8_hasBit ∈ gw := (gw_of (List.mem_append_right _ (List.mem_of_getElem? (i := 529) (by decide +kernel))) (by decide +kernel))
def mX8_isBuiltByOneOf : MD := (yX8_isBuiltByOneOf, cX8_isBuiltByOneOf, 2, (some .boolean), 1, 21)
theorem mwX8_isBuiltByOneOf : MW mX8_isBuiltByOneOf := ⟨(gw_of (List.mem_append_right _ (List.mem_of_getElem? (i := 527) (by decide +kernel))) (by decide +kernel)), (gw_of (List.mem_append_right _ (List.mem_of_getElem? (i := 1) (by decide +kernel))) (by decide +kernel)), by decide +kernel, by decide +kernel, by decide +kernel⟩
theorem wtX8_isBuiltByOneOf : Cond.static yX8_isBuiltByOneOf ∈ gw := (gw_of (List.mem_append_right _ (List.mem_of_getElem? (i := 526) (by decide +kernel))) (by decide +kernel))
def mX8_staleBits : MD := (yX8_staleBits, cX8_staleBits, 4, (some .int), 7, 188)
theorem mwX8_staleBits : MW mX8_staleBits := ⟨(gw_of (List.mem_append_right _ (List.mem_of_getElem? (i := 524) (by decide +kernel))) (by decide +kernel)), (gw_of (List.mem_append_right _ (List.mem_of_getElem? (i := 1) (by decide +kernel))) (by decide +kernel)), by decide +kernel, by decide +kernel, by decide +kernel⟩
theorem wiX8_staleBits : Cond.instanceMethod yX8_staleBits ∈ gw := (gw_of (List.mem_append_right _ (List.mem_of_getElem? (i := 523) (by decide +kernel))) (by decide +kernel))
theorem wsX8_staleBits : Cond.selects RX8 yX8_staleBits yX8_staleBits ∈ gw := (gw_of (List.mem_append_left _ (List.mem_of_getElem? (i := 19) (by decide +kernel))) (by decide +kernel))
def mX8_stale : MD := (yX8_stale, cX8_stale, 1, (some .int), 8, 211)
theorem mwX8_stale : MW mX8_stale := ⟨(gw_of (List.mem_append_right _ (List.mem_of_getElem? (i := 520) (by decide +kernel))) (by decide +kernel)), (gw_of (List.mem_append_right _ (List.mem_of_getElem? (i := 1) (by decide +kernel))) (by decide +kernel)), by decide +kernel, by decide +kernel, by decide +kernel⟩
theorem wiX8_stale : Cond.instanceMethod yX8_stale ∈ gw := (gw_of (List.mem_append_right _ (List.mem_of_getElem? (i := 518) (by decide +kernel))) (by decide +kernel))
theorem wsX8_stale : Cond.selects RX8 yX8_stale yX8_stale ∈ gw := (gw_of (List.mem_append_right _ (List.mem_of_getElem? (i := 519) (by decide +kernel))) (by decide +kernel))
def mX8_settles : MD := (yX8_settles, cX8_settles, 8, (some .int), 4, 95)
theorem mwX8_settles : MW mX8_settles := ⟨(gw_of (List.mem_append_right _ (List.mem_of_getElem? (i := 534) (by decide +kernel))) (by decide +kernel)), (gw_of (List.mem_append_right _ (List.mem_of_getElem? (i := 1) (by decide +kernel))) (by decide +kernel)), by decide +kernel, by decide +kernel, by decide +kernel⟩
theorem wiX8_settles : Cond.instanceMethod yX8_settles ∈ gw := (gw_of (List.mem_append_right _ (List.mem_of_getElem? (i := 532) (by decide +kernel))) (by decide +kernel))
theorem wsX8_settles : Cond.selects RX8 yX8_settles yX8_settles ∈ gw := (gw_of (List.mem_append_right _ (List.mem_of_getElem? (i := 533) (by decide +kernel))) (by decide +kernel))
def mX8_goneRound : MD := (yX8_goneRound, cX8_goneRound, 5, (some .int), 4, 95)
theorem mwX8_goneRound : MW mX8_goneRound := ⟨(gw_of (List.mem_append_right _ (List.mem_of_getElem? (i := 542) (by decide +kernel))) (by decide +kernel)), (gw_of (List.mem_append_right _ (List.mem_of_getElem? (i := 1) (by decide +kernel))) (by decide +kernel)), by decide +kernel, by decide +kernel, by decide +kernel⟩
theorem wiX8_goneRound : Cond.instanceMethod yX8_goneRound ∈ gw := (gw_of (List.mem_append_right _ (List.mem_of_getElem? (i := 541) (by decide +kernel))) (by decide +kernel))
theorem wsX8_goneRound : Cond.selects RX8 yX8_goneRound yX8_goneRound ∈ gw := (gw_of (List.mem_append_left _ (List.mem_of_getElem? (i := 20) (by decide +kernel))) (by decide +kernel))
def mX8_round : MD := (yX8_round, cX8_round, 7, (some .int), 5, 119)
theorem mwX8_round : MW mX8_round := ⟨(gw_of (List.mem_append_right _ (List.mem_of_getElem? (i := 538) (by decide +kernel))) (by decide +kernel)), (gw_of (List.mem_append_right _ (List.mem_of_getElem? (i := 1) (by decide +kernel))) (by decide +kernel)), by decide +kernel, by decide +kernel, by decide +kernel⟩
theorem wiX8_round : Cond.instanceMethod yX8_round ∈ gw := (gw_of (List.mem_append_right _ (List.mem_of_getElem? (i := 536) (by decide +kernel))) (by decide +kernel))
theorem wsX8_round : Cond.selects RX8 yX8_round yX8_round ∈ gw := (gw_of (List.mem_append_right _ (List.mem_of_getElem? (i := 537) (by decide +kernel))) (by decide +kernel))
def mX8_hides : MD := (yX8_hides, cX8_hides, 8, (some .int), 5, 119)
theorem mwX8_hides : MW mX8_hides := ⟨(gw_of (List.mem_append_right _ (List.mem_of_getElem? (i := 546) (by decide +kernel))) (by decide +kernel)), (gw_of (List.mem_append_right _ (List.mem_of_getElem? (i := 1) (by decide +kernel))) (by decide +kernel)), by decide +kernel, by decide +kernel, by decide +kernel⟩
theorem wiX8_hides : Cond.instanceMethod yX8_hides ∈ gw := (gw_of (List.mem_append_right _ (List.mem_of_getElem? (i := 544) (by decide +kernel))) (by decide +kernel))
theorem wsX8_hides : Cond.selects RX8 yX8_hides yX8_hides ∈ gw := (gw_of (List.mem_append_right _ (List.mem_of_getElem? (i := 545) (by decide +kernel))) (by decide +kernel))
def mX8_check : MD := (yX8_check, cX8_check, 5, (some .int), 1, 21)
theorem mwX8_check : MW mX8_check := ⟨(gw_of (List.mem_append_right _ (List.mem_of_getElem? (i := 550) (by decide +kernel))) (by decide +kernel)), (gw_of (List.mem_append_right _ (List.mem_of_getElem? (i := 1) (by decide +kernel))) (by decide +kernel)), by decide +kernel, by decide +kernel, by decide +kernel⟩
theorem wiX8_check : Cond.instanceMethod yX8_check ∈ gw := (gw_of (List.mem_append_right _ (List.mem_of_getElem? (i := 548) (by decide +kernel))) (by decide +kernel))
theorem wsX8_check : Cond.selects RX8 yX8_check yX8_check ∈ gw := (gw_of (List.mem_append_right _ (List.mem_of_getElem? (i := 549) (by decide +kernel))) (by decide +kernel))
def mX8_chainLength : MD := (yX8_chainLength, cX8_chainLength, 4, (some .int), 1, 21)
theorem mwX8_chainLength : MW mX8_chainLength := ⟨(gw_of (List.mem_append_right _ (List.mem_of_getElem? (i := 558) (by decide +kernel))) (by decide +kernel)), (gw_of (List.mem_append_right _ (List.mem_of_getElem? (i := 1) (by decide +kernel))) (by decide +kernel)), by decide +kernel, by decide +kernel, by decide +kernel⟩
theorem wiX8_chainLength : Cond.instanceMethod yX8_chainLength ∈ gw := (gw_of (List.mem_append_right _ (List.mem_of_getElem? (i := 557) (by decide +kernel))) (by decide +kernel))
theorem wsX8_chainLength : Cond.selects RX8 yX8_chainLength yX8_chainLength ∈ gw := (gw_of (List.mem_append_left _ (List.mem_of_getElem? (i := 21) (by decide +kernel))) (by decide +kernel))
def mX8_chainAt : MD := (yX8_chainAt, cX8_chainAt, 6, (some .int), 1, 21)
theorem mwX8_chainAt : MW mX8_chainAt := ⟨(gw_of (List.mem_append_right _ (List.mem_of_getElem? (i := 562) (by decide +kernel))) (by decide +kernel)), (gw_of (List.mem_append_right _ (List.mem_of_getElem? (i := 1) (by decide +kernel))) (by decide +kernel)), by decide +kernel, by decide +kernel, by decide +kernel⟩
theorem wiX8_chainAt : Cond.instanceMethod yX8_chainAt ∈ gw := (gw_of (List.mem_append_right _ (List.mem_of_getElem? (i := 561) (by decide +kernel))) (by decide +kernel))
theorem wsX8_chainAt : Cond.selects RX8 yX8_chainAt yX8_chainAt ∈ gw := (gw_of (List.mem_append_left _ (List.mem_of_getElem? (i := 22) (by decide +kernel))) (by decide +kernel))
def mX8_chain : MD := (yX8_chain, cX8_chain, 4, (some .int), 2, 46)
theorem mwX8_chain : MW mX8_chain := ⟨(gw_of (List.mem_append_right _ (List.mem_of_getElem? (i := 554) (by decide +kernel))) (by decide +kernel)), (gw_of (List.mem_append_right _ (List.mem_of_getElem? (i := 1) (by decide +kernel))) (by decide +kernel)), by decide +kernel, by decide +kernel, by decide +kernel⟩
theorem wiX8_chain : Cond.instanceMethod yX8_chain ∈ gw := (gw_of (List.mem_append_right _ (List.mem_of_getElem? (i := 552) (by decide +kernel))) (by decide +kernel))
theorem wsX8_chain : Cond.selects RX8 yX8_chain yX8_chain ∈ gw := (gw_of (List.mem_append_right _ (List.mem_of_getElem? (i := 553) (by decide +kernel))) (by decide +kernel))
def mX8_chainEnd : MD := (yX8_chainEnd, cX8_chainEnd, 2, (some .int), 2, 46)
theorem mwX8_chainEnd : MW mX8_chainEnd := ⟨(gw_of (List.mem_append_right _ (List.mem_of_getElem? (i := 574) (by decide +kernel))) (by decide +kernel)), (gw_of (List.mem_append_right _ (List.mem_of_getElem? (i := 1) (by decide +kernel))) (by decide +kernel)), by decide +kernel, by decide +kernel, by decide +kernel⟩
theorem wiX8_chainEnd : Cond.instanceMethod yX8_chainEnd ∈ gw := (gw_of (List.mem_append_right _ (List.mem_of_getElem? (i := 573) (by decide +kernel))) (by decide +kernel))
theorem wsX8_chainEnd : Cond.selects RX8 yX8_chainEnd yX8_chainEnd ∈ gw := (gw_of (List.mem_append_left _ (List.mem_of_getElem? (i := 24) (by decide +kernel))) (by decide +kernel))
def mX8_isSealed : MD := (yX8_isSealed, cX8_isSealed, 4, (some .boolean), 3, 67)
theorem mwX8_isSealed : MW mX8_isSealed := ⟨(gw_of (List.mem_append_right _ (List.mem_of_getElem? (i := 570) (by decide +kernel))) (by decide +kernel)), (gw_of (List.mem_append_right _ (List.mem_of_getElem? (i := 1) (by decide +kernel))) (by decide +kernel)), by decide +kernel, by decide +kernel, by decide +kernel⟩
theorem wiX8_isSealed : Cond.instanceMethod yX8_isSealed ∈ gw := (gw_of (List.mem_append_right _ (List.mem_of_getElem? (i := 569) (by decide +kernel))) (by decide +kernel))
theorem wsX8_isSealed : Cond.selects RX8 yX8_isSealed yX8_isSealed ∈ gw := (gw_of (List.mem_append_left _ (List.mem_of_getElem? (i := 23) (by decide +kernel))) (by decide +kernel))
def mX8_sealed : MD := (yX8_sealed, cX8_sealed, 2, (some .int), 8, 211)
theorem mwX8_sealed : MW mX8_sealed := ⟨(gw_of (List.mem_append_right _ (List.mem_of_getElem? (i := 566) (by decide +kernel))) (by decide +kernel)), (gw_of (List.mem_append_right _ (List.mem_of_getElem? (i := 1) (by decide +kernel))) (by decide +kernel)), by decide +kernel, by decide +kernel, by decide +kernel⟩
theorem wiX8_sealed : Cond.instanceMethod yX8_sealed ∈ gw := (gw_of (List.mem_append_right _ (List.mem_of_getElem? (i := 564) (by decide +kernel))) (by decide +kernel))
theorem wsX8_sealed : Cond.selects RX8 yX8_sealed yX8_sealed ∈ gw := (gw_of (List.mem_append_right _ (List.mem_of_getElem? (i := 565) (by decide +kernel))) (by decide +kernel))
def mX8_least : MD := (yX8_least, cX8_least, 7, (some .int), 8, 211)
theorem mwX8_least : MW mX8_least := ⟨(gw_of (List.mem_append_right _ (List.mem_of_getElem? (i := 578) (by decide +kernel))) (by decide +kernel)), (gw_of (List.mem_append_right _ (List.mem_of_getElem? (i := 1) (by decide +kernel))) (by decide +kernel)), by decide +kernel, by decide +kernel, by decide +kernel⟩
theorem wiX8_least : Cond.instanceMethod yX8_least ∈ gw := (gw_of (List.mem_append_right _ (List.mem_of_getElem? (i := 576) (by decide +kernel))) (by decide +kernel))
theorem wsX8_least : Cond.selects RX8 yX8_least yX8_least ∈ gw := (gw_of (List.mem_append_right _ (List.mem_of_getElem? (i := 577) (by decide +kernel))) (by decide +kernel))
def mX8_same : MD := (yX8_same, cX8_same, 5, (some .int), 2, 47)
theorem mwX8_same : MW mX8_same := ⟨(gw_of (List.mem_append_right _ (List.mem_of_getElem? (i := 582) (by decide +kernel))) (by decide +kernel)), (gw_of (List.mem_append_right _ (List.mem_of_getElem? (i := 1) (by decide +kernel))) (by decide +kernel)), by decide +kernel, by decide +kernel, by decide +kernel⟩
theorem wiX8_same : Cond.instanceMethod yX8_same ∈ gw := (gw_of (List.mem_append_right _ (List.mem_of_getElem? (i := 580) (by decide +kernel))) (by decide +kernel))
theorem wsX8_same : Cond.selects RX8 yX8_same yX8_same ∈ gw := (gw_of (List.mem_append_right _ (List.mem_of_getElem? (i := 581) (by decide +kernel))) (by decide +kernel))
def mX8_edition : MD := (yX8_edition, cX8_edition, 3, (some .int), 1, 22)
theorem mwX8_edition : MW mX8_edition := ⟨(gw_of (List.mem_append_right _ (List.mem_of_getElem? (i := 586) (by decide +kernel))) (by decide +kernel)), (gw_of (List.mem_append_right _ (List.mem_of_getElem? (i := 1) (by decide +kernel))) (by decide +kernel)), by decide +kernel, by decide +kernel, by decide +kernel⟩
theorem wiX8_edition : Cond.instanceMethod yX8_edition ∈ gw := (gw_of (List.mem_append_right _ (List.mem_of_getElem? (i := 584) (by decide +kernel))) (by decide +kernel))
theorem wsX8_edition : Cond.selects RX8 yX8_edition yX8_edition ∈ gw := (gw_of (List.mem_append_right _ (List.mem_of_getElem? (i := 585) (by decide +kernel))) (by decide +kernel))
def mX8_ladder : MD := (yX8_ladder, cX8_ladder, 5, (some .int), 4, 91)
theorem mwX8_ladder : MW mX8_ladder := ⟨(gw_of (List.mem_append_right _ (List.mem_of_getElem? (i := 595) (by decide +kernel))) (by decide +kernel)), (gw_of (List.mem_append_right _ (List.mem_of_getElem? (i := 1) (by decide +kernel))) (by decide +kernel)), by decide +kernel, by decide +kernel, by decide +kernel⟩
theorem wiX8_ladder : Cond.instanceMethod yX8_ladder ∈ gw := (gw_of (List.mem_append_right _ (List.mem_of_getElem? (i := 593) (by decide +kernel))) (by decide +kernel))
theorem wsX8_ladder : Cond.selects RX8 yX8_ladder yX8_ladder ∈ gw := (gw_of (List.mem_append_right _ (List.mem_of_getElem? (i := 594) (by decide +kernel))) (by decide +kernel))
def mX8_needed : MD := (yX8_needed, cX8_needed, 8, (some .int), 4, 91)
theorem mwX8_needed : MW mX8_needed := ⟨(gw_of (List.mem_append_right _ (List.mem_of_getElem? (i := 620) (by decide +kernel))) (by decide +kernel)), (gw_of (List.mem_append_right _ (List.mem_of_getElem? (i := 1) (by decide +kernel))) (by decide +kernel)), by decide +kernel, by decide +kernel, by decide +kernel⟩
theorem wiX8_needed : Cond.instanceMethod yX8_needed ∈ gw := (gw_of (List.mem_append_right _ (List.mem_of_getElem? (i := 618) (by decide +kernel))) (by decide +kernel))
theorem wsX8_needed : Cond.selects RX8 yX8_needed yX8_needed ∈ gw := (gw_of (List.mem_append_right _ (List.mem_of_getElem? (i := 619) (by decide +kernel))) (by decide +kernel))
def mX8_asTool : MD := (yX8_asTool, cX8_asTool, 2, (some .int), 0, 0)
theorem mwX8_asTool : MW mX8_asTool := ⟨(gw_of (List.mem_append_right _ (List.mem_of_getElem? (i := 628) (by decide +kernel))) (by decide +kernel)), (gw_of (List.mem_append_right _ (List.mem_of_getElem? (i := 1) (by decide +kernel))) (by decide +kernel)), by decide +kernel, by decide +kernel, by decide +kernel⟩
theorem wiX8_asTool : Cond.instanceMethod yX8_asTool ∈ gw := (gw_of (List.mem_append_right _ (List.mem_of_getElem? (i := 627) (by decide +kernel))) (by decide +kernel))
theorem wsX8_asTool : Cond.selects RX8 yX8_asTool yX8_asTool ∈ gw := (gw_of (List.mem_append_left _ (List.mem_of_getElem? (i := 27) (by decide +kernel))) (by decide +kernel))
def mX8_asPaired : MD := (yX8_asPaired, cX8_asPaired, 2, (some .int), 1, 21)
theorem mwX8_asPaired : MW mX8_asPaired := ⟨(gw_of (List.mem_append_right _ (List.mem_of_getElem? (i := 632) (by decide +kernel))) (by decide +kernel)), (gw_of (List.mem_append_right _ (List.mem_of_getElem? (i := 1) (by decide +kernel))) (by decide +kernel)), by decide +kernel, by decide +kernel, by decide +kernel⟩
theorem wiX8_asPaired : Cond.instanceMethod yX8_asPaired ∈ gw := (gw_of (List.mem_append_right _ (List.mem_of_getElem? (i := 631) (by decide +kernel))) (by decide +kernel))
theorem wsX8_asPaired : Cond.selects RX8 yX8_asPaired yX8_asPaired ∈ gw := (gw_of (List.mem_append_left _ (List.mem_of_getElem? (i := 28) (by decide +kernel))) (by decide +kernel))
def mX8_asNamed : MD := (yX8_asNamed, cX8_asNamed, 2, (some .int), 2, 43)
theorem mwX8_asNamed : MW mX8_asNamed := ⟨(gw_of (List.mem_append_right _ (List.mem_of_getElem? (i := 637) (by decide +kernel))) (by decide +kernel)), (gw_of (List.mem_append_right _ (List.mem_of_getElem? (i := 1) (by decide +kernel))) (by decide +kernel)), by decide +kernel, by decide +kernel, by decide +kernel⟩
theorem wiX8_asNamed : Cond.instanceMethod yX8_asNamed ∈ gw := (gw_of (List.mem_append_right _ (List.mem_of_getElem? (i := 636) (by decide +kernel))) (by decide +kernel))
theorem wsX8_asNamed : Cond.selects RX8 yX8_asNamed yX8_asNamed ∈ gw := (gw_of (List.mem_append_left _ (List.mem_of_getElem? (i := 29) (by decide +kernel))) (by decide +kernel))
def mX8_asBuilt : MD := (yX8_asBuilt, cX8_asBuilt, 3, (some .int), 3, 64)
theorem mwX8_asBuilt : MW mX8_asBuilt := ⟨(gw_of (List.mem_append_right _ (List.mem_of_getElem? (i := 646) (by decide +kernel))) (by decide +kernel)), (gw_of (List.mem_append_right _ (List.mem_of_getElem? (i := 1) (by decide +kernel))) (by decide +kernel)), by decide +kernel, by decide +kernel, by decide +kernel⟩
theorem wiX8_asBuilt : Cond.instanceMethod yX8_asBuilt ∈ gw := (gw_of (List.mem_append_right _ (List.mem_of_getElem? (i := 645) (by decide +kernel))) (by decide +kernel))
theorem wsX8_asBuilt : Cond.selects RX8 yX8_asBuilt yX8_asBuilt ∈ gw := (gw_of (List.mem_append_left _ (List.mem_of_getElem? (i := 30) (by decide +kernel))) (by decide +kernel))
def mX8_asSealed : MD := (yX8_asSealed, cX8_asSealed, 3, (some .int), 4, 86)
theorem mwX8_asSealed : MW mX8_asSealed := ⟨(gw_of (List.mem_append_right _ (List.mem_of_getElem? (i := 651) (by decide +kernel))) (by decide +kernel)), (gw_of (List.mem_append_right _ (List.mem_of_getElem? (i := 1) (by decide +kernel))) (by decide +kernel)), by decide +kernel, by decide +kernel, by decide +kernel⟩
theorem wiX8_asSealed : Cond.instanceMethod yX8_asSealed ∈ gw := (gw_of (List.mem_append_right _ (List.mem_of_getElem? (i := 650) (by decide +kernel))) (by decide +kernel))
theorem wsX8_asSealed : Cond.selects RX8 yX8_asSealed yX8_asSealed ∈ gw := (gw_of (List.mem_append_left _ (List.mem_of_getElem? (i := 31) (by decide +kernel))) (by decide +kernel))
def mX8_asDoubted : MD := (yX8_asDoubted, cX8_asDoubted, 2, (some .int), 1, 21)
theorem mwX8_asDoubted : MW mX8_asDoubted := ⟨(gw_of (List.mem_append_right _ (List.mem_of_getElem? (i := 656) (by decide +kernel))) (by decide +kernel)), (gw_of (List.mem_append_right _ (List.mem_of_getElem? (i := 1) (by decide +kernel))) (by decide +kernel)), by decide +kernel, by decide +kernel, by decide +kernel⟩
theorem wiX8_asDoubted : Cond.instanceMethod yX8_asDoubted ∈ gw := (gw_of (List.mem_append_right _ (List.mem_of_getElem? (i := 655) (by decide +kernel))) (by decide +kernel))
theorem wsX8_asDoubted : Cond.selects RX8 yX8_asDoubted yX8_asDoubted ∈ gw := (gw_of (List.mem_append_left _ (List.mem_of_getElem? (i := 32) (by decide +kernel))) (by decide +kernel))
def mX8_weight : MD := (yX8_weight, cX8_weight, 4, (some .int), 5, 108)
theorem mwX8_weight : MW mX8_weight := ⟨(gw_of (List.mem_append_right _ (List.mem_of_getElem? (i := 624) (by decide +kernel))) (by decide +kernel)), (gw_of (List.mem_append_right _ (List.mem_of_getElem? (i := 1) (by decide +kernel))) (by decide +kernel)), by decide +kernel, by decide +kernel, by decide +kernel⟩
theorem wiX8_weight : Cond.instanceMethod yX8_weight ∈ gw := (gw_of (List.mem_append_right _ (List.mem_of_getElem? (i := 622) (by decide +kernel))) (by decide +kernel))
theorem wsX8_weight : Cond.selects RX8 yX8_weight yX8_weight ∈ gw := (gw_of (List.mem_append_right _ (List.mem_of_getElem? (i := 623) (by decide +kernel))) (by decide +kernel))
def mX8_checkedTools : MD := (yX8_checkedTools, cX8_checkedTools, 4, (some .int), 1, 21)
theorem mwX8_checkedTools : MW mX8_checkedTools := ⟨(gw_of (List.mem_append_right _ (List.mem_of_getElem? (i := 665) (by decide +kernel))) (by decide +kernel)), (gw_of (List.mem_append_right _ (List.mem_of_getElem? (i := 1) (by decide +kernel))) (by decide +kernel)), by decide +kernel, by decide +kernel, by decide +kernel⟩
theorem wiX8_checkedTools : Cond.instanceMethod yX8_checkedTools ∈ gw := (gw_of (List.mem_append_right _ (List.mem_of_getElem? (i := 664) (by decide +kernel))) (by decide +kernel))
theorem wsX8_checkedTools : Cond.selects RX8 yX8_checkedTools yX8_checkedTools ∈ gw := (gw_of (List.mem_append_left _ (List.mem_of_getElem? (i := 33) (by decide +kernel))) (by decide +kernel))
def mX8_sealedTools : MD := (yX8_sealedTools, cX8_sealedTools, 4, (some .int), 4, 90)
theorem mwX8_sealedTools : MW mX8_sealedTools := ⟨(gw_of (List.mem_append_right _ (List.mem_of_getElem? (i := 669) (by decide +kernel))) (by decide +kernel)), (gw_of (List.mem_append_right _ (List.mem_of_getElem? (i := 1) (by decide +kernel))) (by decide +kernel)), by decide +kernel, by decide +kernel, by decide +kernel⟩
theorem wiX8_sealedTools : Cond.instanceMethod yX8_sealedTools ∈ gw := (gw_of (List.mem_append_right _ (List.mem_of_getElem? (i := 668) (by decide +kernel))) (by decide +kernel))
theorem wsX8_sealedTools : Cond.selects RX8 yX8_sealedTools yX8_sealedTools ∈ gw := (gw_of (List.mem_append_left _ (List.mem_of_getElem? (i := 34) (by decide +kernel))) (by decide +kernel))
def mX8_count : MD := (yX8_count, cX8_count, 2, (some .int), 8, 211)
theorem mwX8_count : MW mX8_count := ⟨(gw_of (List.mem_append_right _ (List.mem_of_getElem? (i := 661) (by decide +kernel))) (by decide +kernel)), (gw_of (List.mem_append_right _ (List.mem_of_getElem? (i := 1) (by decide +kernel))) (by decide +kernel)), by decide +kernel, by decide +kernel, by decide +kernel⟩
theorem wiX8_count : Cond.instanceMethod yX8_count ∈ gw := (gw_of (List.mem_append_right _ (List.mem_of_getElem? (i := 659) (by decide +kernel))) (by decide +kernel))
theorem wsX8_count : Cond.selects RX8 yX8_count yX8_count ∈ gw := (gw_of (List.mem_append_right _ (List.mem_of_getElem? (i := 660) (by decide +kernel))) (by decide +kernel))
def mX8_trace : MD := (yX8_trace, cX8_trace, 1, (some .long), 0, 0)
theorem mwX8_trace : MW mX8_trace := ⟨(gw_of (List.mem_append_right _ (List.mem_of_getElem? (i := 673) (by decide +kernel))) (by decide +kernel)), (gw_of (List.mem_append_right _ (List.mem_of_getElem? (i := 1) (by decide +kernel))) (by decide +kernel)), by decide +kernel, by decide +kernel, by decide +kernel⟩
theorem wiX8_trace : Cond.instanceMethod yX8_trace ∈ gw := (gw_of (List.mem_append_right _ (List.mem_of_getElem? (i := 671) (by decide +kernel))) (by decide +kernel))
theorem wsX8_trace : Cond.selects RX8 yX8_trace yX8_trace ∈ gw := (gw_of (List.mem_append_right _ (List.mem_of_getElem? (i := 672) (by decide +kernel))) (by decide +kernel))
def mX9_init : MD := (yX9_init, cX9_init, 1, (none : Option Jvm.ClassFile.FieldType), 1, 24)
theorem mwX9_init : MW mX9_init := ⟨(gw_of (List.mem_append_right _ (List.mem_of_getElem? (i := 678) (by decide +kernel))) (by decide +kernel)), (gw_of (List.mem_append_right _ (List.mem_of_getElem? (i := 10) (by decide +kernel))) (by decide +kernel)), by decide +kernel, by decide +kernel, by decide +kernel⟩
theorem wiX9_init : Cond.instanceMethod yX9_init ∈ gw := (gw_of (List.mem_append_right _ (List.mem_of_getElem? (i := 677) (by decide +kernel))) (by decide +kernel))
def mX9_in : MD := (yX9_in, cX9_in, 3, (some .boolean), 0, 0)
theorem mwX9_in : MW mX9_in := ⟨(gw_of (List.mem_append_right _ (List.mem_of_getElem? (i := 804) (by decide +kernel))) (by decide +kernel)), (gw_of (List.mem_append_right _ (List.mem_of_getElem? (i := 10) (by decide +kernel))) (by decide +kernel)), by decide +kernel, by decide +kernel, by decide +kernel⟩
theorem wtX9_in : Cond.static yX9_in ∈ gw := (gw_of (List.mem_append_right _ (List.mem_of_getElem? (i := 803) (by decide +kernel))) (by decide +kernel))
def mX9_type : MD := (yX9_type, cX9_type, 5, (some .int), 1, 22)
theorem mwX9_type : MW mX9_type := ⟨(gw_of (List.mem_append_right _ (List.mem_of_getElem? (i := 801) (by decide +kernel))) (by decide +kernel)), (gw_of (List.mem_append_right _ (List.mem_of_getElem? (i := 10) (by decide +kernel))) (by decide +kernel)), by decide +kernel, by decide +kernel, by decide +kernel⟩
theorem wiX9_type : Cond.instanceMethod yX9_type ∈ gw := (gw_of (List.mem_append_right _ (List.mem_of_getElem? (i := 799) (by decide +kernel))) (by decide +kernel))
theorem wsX9_type : Cond.selects RX9 yX9_type yX9_type ∈ gw := (gw_of (List.mem_append_right _ (List.mem_of_getElem? (i := 800) (by decide +kernel))) (by decide +kernel))
def mX9_clear : MD := (yX9_clear, cX9_clear, 2, (some .int), 0, 0)
theorem mwX9_clear : MW mX9_clear := ⟨(gw_of (List.mem_append_right _ (List.mem_of_getElem? (i := 809) (by decide +kernel))) (by decide +kernel)), (gw_of (List.mem_append_right _ (List.mem_of_getElem? (i := 10) (by decide +kernel))) (by decide +kernel)), by decide +kernel, by decide +kernel, by decide +kernel⟩
theorem wiX9_clear : Cond.instanceMethod yX9_clear ∈ gw := (gw_of (List.mem_append_right _ (List.mem_of_getElem? (i := 807) (by decide +kernel))) (by decide +kernel))
theorem wsX9_clear : Cond.selects RX9 yX9_clear yX9_clear ∈ gw := (gw_of (List.mem_append_right _ (List.mem_of_getElem? (i := 808) (by decide +kernel))) (by decide +kernel))
def mX9_isText : MD := (yX9_isText, cX9_isText, 1, (some .boolean), 1, 22)
theorem mwX9_isText : MW mX9_isText := ⟨(gw_of (List.mem_append_right _ (List.mem_of_getElem? (i := 816) (by decide +kernel))) (by decide +kernel)), (gw_of (List.mem_append_right _ (List.mem_of_getElem? (i := 10) (by decide +kernel))) (by decide +kernel)), by decide +kernel, by decide +kernel, by decide +kernel⟩
theorem wtX9_isText : Cond.static yX9_isText ∈ gw := (gw_of (List.mem_append_right _ (List.mem_of_getElem? (i := 815) (by decide +kernel))) (by decide +kernel))
def mX9_text : MD := (yX9_text, cX9_text, 3, (some .int), 2, 42)
theorem mwX9_text : MW mX9_text := ⟨(gw_of (List.mem_append_right _ (List.mem_of_getElem? (i := 813) (by decide +kernel))) (by decide +kernel)), (gw_of (List.mem_append_right _ (List.mem_of_getElem? (i := 10) (by decide +kernel))) (by decide +kernel)), by decide +kernel, by decide +kernel, by decide +kernel⟩
theorem wiX9_text : Cond.instanceMethod yX9_text ∈ gw := (gw_of (List.mem_append_right _ (List.mem_of_getElem? (i := 811) (by decide +kernel))) (by decide +kernel))
theorem wsX9_text : Cond.selects RX9 yX9_text yX9_text ∈ gw := (gw_of (List.mem_append_right _ (List.mem_of_getElem? (i := 812) (by decide +kernel))) (by decide +kernel))
def mX9_read : MD := (yX9_read, cX9_read, 3, (some .int), 2, 42)
theorem mwX9_read : MW mX9_read := ⟨(gw_of (List.mem_append_right _ (List.mem_of_getElem? (i := 820) (by decide +kernel))) (by decide +kernel)), (gw_of (List.mem_append_right _ (List.mem_of_getElem? (i := 10) (by decide +kernel))) (by decide +kernel)), by decide +kernel, by decide +kernel, by decide +kernel⟩
theorem wiX9_read : Cond.instanceMethod yX9_read ∈ gw := (gw_of (List.mem_append_right _ (List.mem_of_getElem? (i := 818) (by decide +kernel))) (by decide +kernel))
theorem wsX9_read : Cond.selects RX9 yX9_read yX9_read ∈ gw := (gw_of (List.mem_append_right _ (List.mem_of_getElem? (i := 819) (by decide +kernel))) (by decide +kernel))
def mX9_isTool : MD := (yX9_isTool, cX9_isTool, 2, (some .boolean), 1, 22)
theorem mwX9_isTool : MW mX9_isTool := ⟨(gw_of (List.mem_append_right _ (List.mem_of_getElem? (i := 901) (by decide +kernel))) (by decide +kernel)), (gw_of (List.mem_append_right _ (List.mem_of_getElem? (i := 10) (by decide +kernel))) (by decide +kernel)), by decide +kernel, by decide +kernel, by decide +kernel⟩
theorem wiX9_isTool : Cond.instanceMethod yX9_isTool ∈ gw := (gw_of (List.mem_append_right _ (List.mem_of_getElem? (i := 900) (by decide +kernel))) (by decide +kernel))
theorem wsX9_isTool : Cond.selects RX9 yX9_isTool yX9_isTool ∈ gw := (gw_of (List.mem_append_left _ (List.mem_of_getElem? (i := 47) (by decide +kernel))) (by decide +kernel))
def mX9_add : MD := (yX9_add, cX9_add, 4, (none : Option Jvm.ClassFile.FieldType), 0, 0)
theorem mwX9_add : MW mX9_add := ⟨(gw_of (List.mem_append_right _ (List.mem_of_getElem? (i := 851) (by decide +kernel))) (by decide +kernel)), (gw_of (List.mem_append_right _ (List.mem_of_getElem? (i := 10) (by decide +kernel))) (by decide +kernel)), by decide +kernel, by decide +kernel, by decide +kernel⟩
theorem wiX9_add : Cond.instanceMethod yX9_add ∈ gw := (gw_of (List.mem_append_right _ (List.mem_of_getElem? (i := 850) (by decide +kernel))) (by decide +kernel))
theorem wsX9_add : Cond.selects RX9 yX9_add yX9_add ∈ gw := (gw_of (List.mem_append_left _ (List.mem_of_getElem? (i := 40) (by decide +kernel))) (by decide +kernel))
def mX9_here : MD := (yX9_here, cX9_here, 1, (some .int), 0, 0)
theorem mwX9_here : MW mX9_here := ⟨(gw_of (List.mem_append_right _ (List.mem_of_getElem? (i := 844) (by decide +kernel))) (by decide +kernel)), (gw_of (List.mem_append_right _ (List.mem_of_getElem? (i := 10) (by decide +kernel))) (by decide +kernel)), by decide +kernel, by decide +kernel, by decide +kernel⟩
theorem wiX9_here : Cond.instanceMethod yX9_here ∈ gw := (gw_of (List.mem_append_right _ (List.mem_of_getElem? (i := 843) (by decide +kernel))) (by decide +kernel))
theorem wsX9_here : Cond.selects RX9 yX9_here yX9_here ∈ gw := (gw_of (List.mem_append_left _ (List.mem_of_getElem? (i := 39) (by decide +kernel))) (by decide +kernel))
def mX9_open : MD := (yX9_open, cX9_open, 2, (none : Option Jvm.ClassFile.FieldType), 0, 0)
theorem mwX9_open : MW mX9_open := ⟨(gw_of (List.mem_append_right _ (List.mem_of_getElem? (i := 836) (by decide +kernel))) (by decide +kernel)), (gw_of (List.mem_append_right _ (List.mem_of_getElem? (i := 10) (by decide +kernel))) (by decide +kernel)), by decide +kernel, by decide +kernel, by decide +kernel⟩
theorem wiX9_open : Cond.instanceMethod yX9_open ∈ gw := (gw_of (List.mem_append_right _ (List.mem_of_getElem? (i := 835) (by decide +kernel))) (by decide +kernel))
theorem wsX9_open : Cond.selects RX9 yX9_open yX9_open ∈ gw := (gw_of (List.mem_append_left _ (List.mem_of_getElem? (i := 37) (by decide +kernel))) (by decide +kernel))
def mX9_pass : MD := (yX9_pass, cX9_pass, 3, (none : Option Jvm.ClassFile.FieldType), 1, 20)
theorem mwX9_pass : MW mX9_pass := ⟨(gw_of (List.mem_append_right _ (List.mem_of_getElem? (i := 840) (by decide +kernel))) (by decide +kernel)), (gw_of (List.mem_append_right _ (List.mem_of_getElem? (i := 10) (by decide +kernel))) (by decide +kernel)), by decide +kernel, by decide +kernel, by decide +kernel⟩
theorem wiX9_pass : Cond.instanceMethod yX9_pass ∈ gw := (gw_of (List.mem_append_right _ (List.mem_of_getElem? (i := 839) (by decide +kernel))) (by decide +kernel))
theorem wsX9_pass : Cond.selects RX9 yX9_pass yX9_pass ∈ gw := (gw_of (List.mem_append_left _ (List.mem_of_getElem? (i := 38) (by decide +kernel))) (by decide +kernel))
def mX9_digit : MD := (yX9_digit, cX9_digit, 1, (some .int), 1, 22)
theorem mwX9_digit : MW mX9_digit := ⟨(gw_of (List.mem_append_right _ (List.mem_of_getElem? (i := 847) (by decide +kernel))) (by decide +kernel)), (gw_of (List.mem_append_right _ (List.mem_of_getElem? (i := 10) (by decide +kernel))) (by decide +kernel)), by decide +kernel, by decide +kernel, by decide +kernel⟩
theorem wtX9_digit : Cond.static yX9_digit ∈ gw := (gw_of (List.mem_append_right _ (List.mem_of_getElem? (i := 846) (by decide +kernel))) (by decide +kernel))
def mX9_readPairs : MD := (yX9_readPairs, cX9_readPairs, 6, (some .int), 2, 42)
theorem mwX9_readPairs : MW mX9_readPairs := ⟨(gw_of (List.mem_append_right _ (List.mem_of_getElem? (i := 832) (by decide +kernel))) (by decide +kernel)), (gw_of (List.mem_append_right _ (List.mem_of_getElem? (i := 10) (by decide +kernel))) (by decide +kernel)), by decide +kernel, by decide +kernel, by decide +kernel⟩
theorem wiX9_readPairs : Cond.instanceMethod yX9_readPairs ∈ gw := (gw_of (List.mem_append_right _ (List.mem_of_getElem? (i := 831) (by decide +kernel))) (by decide +kernel))
theorem wsX9_readPairs : Cond.selects RX9 yX9_readPairs yX9_readPairs ∈ gw := (gw_of (List.mem_append_left _ (List.mem_of_getElem? (i := 36) (by decide +kernel))) (by decide +kernel))
def mX9_more : MD := (yX9_more, cX9_more, 3, (some .long), 0, 0)
theorem mwX9_more : MW mX9_more := ⟨(gw_of (List.mem_append_right _ (List.mem_of_getElem? (i := 866) (by decide +kernel))) (by decide +kernel)), (gw_of (List.mem_append_right _ (List.mem_of_getElem? (i := 10) (by decide +kernel))) (by decide +kernel)), by decide +kernel, by decide +kernel, by decide +kernel⟩
theorem wtX9_more : Cond.static yX9_more ∈ gw := (gw_of (List.mem_append_right _ (List.mem_of_getElem? (i := 865) (by decide +kernel))) (by decide +kernel))
def mX9_spelled : MD := (yX9_spelled, cX9_spelled, 5, (some .long), 1, 22)
theorem mwX9_spelled : MW mX9_spelled := ⟨(gw_of (List.mem_append_right _ (List.mem_of_getElem? (i := 871) (by decide +kernel))) (by decide +kernel)), (gw_of (List.mem_append_right _ (List.mem_of_getElem? (i := 10) (by decide +kernel))) (by decide +kernel)), by decide +kernel, by decide +kernel, by decide +kernel⟩
theorem wtX9_spelled : Cond.static yX9_spelled ∈ gw := (gw_of (List.mem_append_right _ (List.mem_of_getElem? (i := 870) (by decide +kernel))) (by decide +kernel))
def mX9_wordOf : MD := (yX9_wordOf, cX9_wordOf, 6, (some .int), 2, 46)
theorem mwX9_wordOf : MW mX9_wordOf := ⟨(gw_of (List.mem_append_right _ (List.mem_of_getElem? (i := 863) (by decide +kernel))) (by decide +kernel)), (gw_of (List.mem_append_right _ (List.mem_of_getElem? (i := 10) (by decide +kernel))) (by decide +kernel)), by decide +kernel, by decide +kernel, by decide +kernel⟩
theorem wiX9_wordOf : Cond.instanceMethod yX9_wordOf ∈ gw := (gw_of (List.mem_append_right _ (List.mem_of_getElem? (i := 862) (by decide +kernel))) (by decide +kernel))
theorem wsX9_wordOf : Cond.selects RX9 yX9_wordOf yX9_wordOf ∈ gw := (gw_of (List.mem_append_left _ (List.mem_of_getElem? (i := 43) (by decide +kernel))) (by decide +kernel))
def mX9_hasNumber : MD := (yX9_hasNumber, cX9_hasNumber, 1, (some .boolean), 1, 22)
theorem mwX9_hasNumber : MW mX9_hasNumber := ⟨(gw_of (List.mem_append_right _ (List.mem_of_getElem? (i := 878) (by decide +kernel))) (by decide +kernel)), (gw_of (List.mem_append_right _ (List.mem_of_getElem? (i := 10) (by decide +kernel))) (by decide +kernel)), by decide +kernel, by decide +kernel, by decide +kernel⟩
theorem wtX9_hasNumber : Cond.static yX9_hasNumber ∈ gw := (gw_of (List.mem_append_right _ (List.mem_of_getElem? (i := 877) (by decide +kernel))) (by decide +kernel))
def mX9_next : MD := (yX9_next, cX9_next, 2, (none : Option Jvm.ClassFile.FieldType), 3, 71)
theorem mwX9_next : MW mX9_next := ⟨(gw_of (List.mem_append_right _ (List.mem_of_getElem? (i := 859) (by decide +kernel))) (by decide +kernel)), (gw_of (List.mem_append_right _ (List.mem_of_getElem? (i := 10) (by decide +kernel))) (by decide +kernel)), by decide +kernel, by decide +kernel, by decide +kernel⟩
theorem wiX9_next : Cond.instanceMethod yX9_next ∈ gw := (gw_of (List.mem_append_right _ (List.mem_of_getElem? (i := 858) (by decide +kernel))) (by decide +kernel))
theorem wsX9_next : Cond.selects RX9 yX9_next yX9_next ∈ gw := (gw_of (List.mem_append_left _ (List.mem_of_getElem? (i := 42) (by decide +kernel))) (by decide +kernel))
def mX9_due : MD := (yX9_due, cX9_due, 3, (some .int), 4, 92)
theorem mwX9_due : MW mX9_due := ⟨(gw_of (List.mem_append_right _ (List.mem_of_getElem? (i := 875) (by decide +kernel))) (by decide +kernel)), (gw_of (List.mem_append_right _ (List.mem_of_getElem? (i := 10) (by decide +kernel))) (by decide +kernel)), by decide +kernel, by decide +kernel, by decide +kernel⟩
theorem wiX9_due : Cond.instanceMethod yX9_due ∈ gw := (gw_of (List.mem_append_right _ (List.mem_of_getElem? (i := 874) (by decide +kernel))) (by decide +kernel))
theorem wsX9_due : Cond.selects RX9 yX9_due yX9_due ∈ gw := (gw_of (List.mem_append_left _ (List.mem_of_getElem? (i := 44) (by decide +kernel))) (by decide +kernel))
def mX9_readNames : MD := (yX9_readNames, cX9_readNames, 7, (some .int), 5, 114)
theorem mwX9_readNames : MW mX9_readNames := ⟨(gw_of (List.mem_append_right _ (List.mem_of_getElem? (i := 855) (by decide +kernel))) (by decide +kernel)), (gw_of (List.mem_append_right _ (List.mem_of_getElem? (i := 10) (by decide +kernel))) (by decide +kernel)), by decide +kernel, by decide +kernel, by decide +kernel⟩
theorem wiX9_readNames : Cond.instanceMethod yX9_readNames ∈ gw := (gw_of (List.mem_append_right _ (List.mem_of_getElem? (i := 854) (by decide +kernel))) (by decide +kernel))
theorem wsX9_readNames : Cond.selects RX9 yX9_readNames yX9_readNames ∈ gw := (gw_of (List.mem_append_left _ (List.mem_of_getElem? (i := 41) (by decide +kernel))) (by decide +kernel))
def mX9_newTool : MD := (yX9_newTool, cX9_newTool, 5, (some .int), 0, 0)
theorem mwX9_newTool : MW mX9_newTool := ⟨(gw_of (List.mem_append_right _ (List.mem_of_getElem? (i := 889) (by decide +kernel))) (by decide +kernel)), (gw_of (List.mem_append_right _ (List.mem_of_getElem? (i := 10) (by decide +kernel))) (by decide +kernel)), by decide +kernel, by decide +kernel, by decide +kernel⟩
theorem wiX9_newTool : Cond.instanceMethod yX9_newTool ∈ gw := (gw_of (List.mem_append_right _ (List.mem_of_getElem? (i := 888) (by decide +kernel))) (by decide +kernel))
theorem wsX9_newTool : Cond.selects RX9 yX9_newTool yX9_newTool ∈ gw := (gw_of (List.mem_append_left _ (List.mem_of_getElem? (i := 46) (by decide +kernel))) (by decide +kernel))
def mX9_copy : MD := (yX9_copy, cX9_copy, 4, (none : Option Jvm.ClassFile.FieldType), 0, 0)
theorem mwX9_copy : MW mX9_copy := ⟨(gw_of (List.mem_append_right _ (List.mem_of_getElem? (i := 885) (by decide +kernel))) (by decide +kernel)), (gw_of (List.mem_append_right _ (List.mem_of_getElem? (i := 10) (by decide +kernel))) (by decide +kernel)), by decide +kernel, by decide +kernel, by decide +kernel⟩
theorem wtX9_copy : Cond.static yX9_copy ∈ gw := (gw_of (List.mem_append_right _ (List.mem_of_getElem? (i := 884) (by decide +kernel))) (by decide +kernel))
def mX9_move : MD := (yX9_move, cX9_move, 3, (none : Option Jvm.ClassFile.FieldType), 1, 23)
theorem mwX9_move : MW mX9_move := ⟨(gw_of (List.mem_append_right _ (List.mem_of_getElem? (i := 882) (by decide +kernel))) (by decide +kernel)), (gw_of (List.mem_append_right _ (List.mem_of_getElem? (i := 10) (by decide +kernel))) (by decide +kernel)), by decide +kernel, by decide +kernel, by decide +kernel⟩
theorem wiX9_move : Cond.instanceMethod yX9_move ∈ gw := (gw_of (List.mem_append_right _ (List.mem_of_getElem? (i := 881) (by decide +kernel))) (by decide +kernel))
theorem wsX9_move : Cond.selects RX9 yX9_move yX9_move ∈ gw := (gw_of (List.mem_append_left _ (List.mem_of_getElem? (i := 45) (by decide +kernel))) (by decide +kernel))
def mX9_make : MD := (yX9_make, cX9_make, 4, (some .int), 6, 140)
theorem mwX9_make : MW mX9_make := ⟨(gw_of (List.mem_append_right _ (List.mem_of_getElem? (i := 828) (by decide +kernel))) (by decide +kernel)), (gw_of (List.mem_append_right _ (List.mem_of_getElem? (i := 10) (by decide +kernel))) (by decide +kernel)), by decide +kernel, by decide +kernel, by decide +kernel⟩
theorem wiX9_make : Cond.instanceMethod yX9_make ∈ gw := (gw_of (List.mem_append_right _ (List.mem_of_getElem? (i := 827) (by decide +kernel))) (by decide +kernel))
theorem wsX9_make : Cond.selects RX9 yX9_make yX9_make ∈ gw := (gw_of (List.mem_append_left _ (List.mem_of_getElem? (i := 35) (by decide +kernel))) (by decide +kernel))
def mX9_pairs : MD := (yX9_pairs, cX9_pairs, 2, (some .int), 7, 163)
theorem mwX9_pairs : MW mX9_pairs := ⟨(gw_of (List.mem_append_right _ (List.mem_of_getElem? (i := 824) (by decide +kernel))) (by decide +kernel)), (gw_of (List.mem_append_right _ (List.mem_of_getElem? (i := 10) (by decide +kernel))) (by decide +kernel)), by decide +kernel, by decide +kernel, by decide +kernel⟩
theorem wiX9_pairs : Cond.instanceMethod yX9_pairs ∈ gw := (gw_of (List.mem_append_right _ (List.mem_of_getElem? (i := 822) (by decide +kernel))) (by decide +kernel))
theorem wsX9_pairs : Cond.selects RX9 yX9_pairs yX9_pairs ∈ gw := (gw_of (List.mem_append_right _ (List.mem_of_getElem? (i := 823) (by decide +kernel))) (by decide +kernel))
def mX9_named : MD := (yX9_named, cX9_named, 2, (some .int), 7, 163)
theorem mwX9_named : MW mX9_named := ⟨(gw_of (List.mem_append_right _ (List.mem_of_getElem? (i := 893) (by decide +kernel))) (by decide +kernel)), (gw_of (List.mem_append_right _ (List.mem_of_getElem? (i := 10) (by decide +kernel))) (by decide +kernel)), by decide +kernel, by decide +kernel, by decide +kernel⟩
theorem wiX9_named : Cond.instanceMethod yX9_named ∈ gw := (gw_of (List.mem_append_right _ (List.mem_of_getElem? (i := 891) (by decide +kernel))) (by decide +kernel))
theorem wsX9_named : Cond.selects RX9 yX9_named yX9_named ∈ gw := (gw_of (List.mem_append_right _ (List.mem_of_getElem? (i := 892) (by decide +kernel))) (by decide +kernel))
def mX9_tool : MD := (yX9_tool, cX9_tool, 3, (some .int), 2, 43)
theorem mwX9_tool : MW mX9_tool := ⟨(gw_of (List.mem_append_right _ (List.mem_of_getElem? (i := 897) (by decide +kernel))) (by decide +kernel)), (gw_of (List.mem_append_right _ (List.mem_of_getElem? (i := 10) (by decide +kernel))) (by decide +kernel)), by decide +kernel, by decide +kernel, by decide +kernel⟩
theorem wiX9_tool : Cond.instanceMethod yX9_tool ∈ gw := (gw_of (List.mem_append_right _ (List.mem_of_getElem? (i := 895) (by decide +kernel))) (by decide +kernel))
theorem wsX9_tool : Cond.selects RX9 yX9_tool yX9_tool ∈ gw := (gw_of (List.mem_append_right _ (List.mem_of_getElem? (i := 896) (by decide +kernel))) (by decide +kernel))
def mX9_code : MD := (yX9_code, cX9_code, 4, (some .int), 2, 43)
theorem mwX9_code : MW mX9_code := ⟨(gw_of (List.mem_append_right _ (List.mem_of_getElem? (i := 905) (by decide +kernel))) (by decide +kernel)), (gw_of (List.mem_append_right _ (List.mem_of_getElem? (i := 10) (by decide +kernel))) (by decide +kernel)), by decide +kernel, by decide +kernel, by decide +kernel⟩
theorem wiX9_code : Cond.instanceMethod yX9_code ∈ gw := (gw_of (List.mem_append_right _ (List.mem_of_getElem? (i := 903) (by decide +kernel))) (by decide +kernel))
theorem wsX9_code : Cond.selects RX9 yX9_code yX9_code ∈ gw := (gw_of (List.mem_append_right _ (List.mem_of_getElem? (i := 904) (by decide +kernel))) (by decide +kernel))
def mX9_step : MD := (yX9_step, cX9_step, 5, (some .int), 2, 42)
theorem mwX9_step : MW mX9_step := ⟨(gw_of (List.mem_append_right _ (List.mem_of_getElem? (i := 917) (by decide +kernel))) (by decide +kernel)), (gw_of (List.mem_append_right _ (List.mem_of_getElem? (i := 10) (by decide +kernel))) (by decide +kernel)), by decide +kernel, by decide +kernel, by decide +kernel⟩
theorem wiX9_step : Cond.instanceMethod yX9_step ∈ gw := (gw_of (List.mem_append_right _ (List.mem_of_getElem? (i := 916) (by decide +kernel))) (by decide +kernel))
theorem wsX9_step : Cond.selects RX9 yX9_step yX9_step ∈ gw := (gw_of (List.mem_append_left _ (List.mem_of_getElem? (i := 49) (by decide +kernel))) (by decide +kernel))
def mX9_go : MD := (yX9_go, cX9_go, 4, (some .int), 3, 66)
theorem mwX9_go : MW mX9_go := ⟨(gw_of (List.mem_append_right _ (List.mem_of_getElem? (i := 913) (by decide +kernel))) (by decide +kernel)), (gw_of (List.mem_append_right _ (List.mem_of_getElem? (i := 10) (by decide +kernel))) (by decide +kernel)), by decide +kernel, by decide +kernel, by decide +kernel⟩
theorem wiX9_go : Cond.instanceMethod yX9_go ∈ gw := (gw_of (List.mem_append_right _ (List.mem_of_getElem? (i := 912) (by decide +kernel))) (by decide +kernel))
theorem wsX9_go : Cond.selects RX9 yX9_go yX9_go ∈ gw := (gw_of (List.mem_append_left _ (List.mem_of_getElem? (i := 48) (by decide +kernel))) (by decide +kernel))
def mX9_take : MD := (yX9_take, cX9_take, 3, (none : Option Jvm.ClassFile.FieldType), 0, 0)
theorem mwX9_take : MW mX9_take := ⟨(gw_of (List.mem_append_right _ (List.mem_of_getElem? (i := 937) (by decide +kernel))) (by decide +kernel)), (gw_of (List.mem_append_right _ (List.mem_of_getElem? (i := 10) (by decide +kernel))) (by decide +kernel)), by decide +kernel, by decide +kernel, by decide +kernel⟩
theorem wiX9_take : Cond.instanceMethod yX9_take ∈ gw := (gw_of (List.mem_append_right _ (List.mem_of_getElem? (i := 936) (by decide +kernel))) (by decide +kernel))
theorem wsX9_take : Cond.selects RX9 yX9_take yX9_take ∈ gw := (gw_of (List.mem_append_left _ (List.mem_of_getElem? (i := 51) (by decide +kernel))) (by decide +kernel))
def mX9_builds : MD := (yX9_builds, cX9_builds, 5, (some .int), 4, 89)
theorem mwX9_builds : MW mX9_builds := ⟨(gw_of (List.mem_append_right _ (List.mem_of_getElem? (i := 933) (by decide +kernel))) (by decide +kernel)), (gw_of (List.mem_append_right _ (List.mem_of_getElem? (i := 10) (by decide +kernel))) (by decide +kernel)), by decide +kernel, by decide +kernel, by decide +kernel⟩
theorem wiX9_builds : Cond.instanceMethod yX9_builds ∈ gw := (gw_of (List.mem_append_right _ (List.mem_of_getElem? (i := 932) (by decide +kernel))) (by decide +kernel))
theorem wsX9_builds : Cond.selects RX9 yX9_builds yX9_builds ∈ gw := (gw_of (List.mem_append_left _ (List.mem_of_getElem? (i := 50) (by decide +kernel))) (by decide +kernel))
def mX9_run : MD := (yX9_run, cX9_run, 5, (some .int), 4, 89)
theorem mwX9_run : MW mX9_run := ⟨(gw_of (List.mem_append_right _ (List.mem_of_getElem? (i := 909) (by decide +kernel))) (by decide +kernel)), (gw_of (List.mem_append_right _ (List.mem_of_getElem? (i := 10) (by decide +kernel))) (by decide +kernel)), by decide +kernel, by decide +kernel, by decide +kernel⟩
theorem wiX9_run : Cond.instanceMethod yX9_run ∈ gw := (gw_of (List.mem_append_right _ (List.mem_of_getElem? (i := 907) (by decide +kernel))) (by decide +kernel))
theorem wsX9_run : Cond.selects RX9 yX9_run yX9_run ∈ gw := (gw_of (List.mem_append_right _ (List.mem_of_getElem? (i := 908) (by decide +kernel))) (by decide +kernel))
def mX9_ran : MD := (yX9_ran, cX9_ran, 2, (some .int), 1, 22)
theorem mwX9_ran : MW mX9_ran := ⟨(gw_of (List.mem_append_right _ (List.mem_of_getElem? (i := 921) (by decide +kernel))) (by decide +kernel)), (gw_of (List.mem_append_right _ (List.mem_of_getElem? (i := 10) (by decide +kernel))) (by decide +kernel)), by decide +kernel, by decide +kernel, by decide +kernel⟩
theorem wiX9_ran : Cond.instanceMethod yX9_ran ∈ gw := (gw_of (List.mem_append_right _ (List.mem_of_getElem? (i := 919) (by decide +kernel))) (by decide +kernel))
theorem wsX9_ran : Cond.selects RX9 yX9_ran yX9_ran ∈ gw := (gw_of (List.mem_append_right _ (List.mem_of_getElem? (i := 920) (by decide +kernel))) (by decide +kernel))
def mX9_tape : MD := (yX9_tape, cX9_tape, 3, (some .int), 1, 22)
theorem mwX9_tape : MW mX9_tape := ⟨(gw_of (List.mem_append_right _ (List.mem_of_getElem? (i := 925) (by decide +kernel))) (by decide +kernel)), (gw_of (List.mem_append_right _ (List.mem_of_getElem? (i := 10) (by decide +kernel))) (by decide +kernel)), by decide +kernel, by decide +kernel, by decide +kernel⟩
theorem wiX9_tape : Cond.instanceMethod yX9_tape ∈ gw := (gw_of (List.mem_append_right _ (List.mem_of_getElem? (i := 923) (by decide +kernel))) (by decide +kernel))
theorem wsX9_tape : Cond.selects RX9 yX9_tape yX9_tape ∈ gw := (gw_of (List.mem_append_right _ (List.mem_of_getElem? (i := 924) (by decide +kernel))) (by decide +kernel))
def mX9_build : MD := (yX9_build, cX9_build, 3, (some .int), 5, 113)
theorem mwX9_build : MW mX9_build := ⟨(gw_of (List.mem_append_right _ (List.mem_of_getElem? (i := 929) (by decide +kernel))) (by decide +kernel)), (gw_of (List.mem_append_right _ (List.mem_of_getElem? (i := 10) (by decide +kernel))) (by decide +kernel)), by decide +kernel, by decide +kernel, by decide +kernel⟩
theorem wiX9_build : Cond.instanceMethod yX9_build ∈ gw := (gw_of (List.mem_append_right _ (List.mem_of_getElem? (i := 927) (by decide +kernel))) (by decide +kernel))
theorem wsX9_build : Cond.selects RX9 yX9_build yX9_build ∈ gw := (gw_of (List.mem_append_right _ (List.mem_of_getElem? (i := 928) (by decide +kernel))) (by decide +kernel))
def mX9_unlike : MD := (yX9_unlike, cX9_unlike, 5, (some .int), 0, 0)
theorem mwX9_unlike : MW mX9_unlike := ⟨(gw_of (List.mem_append_right _ (List.mem_of_getElem? (i := 949) (by decide +kernel))) (by decide +kernel)), (gw_of (List.mem_append_right _ (List.mem_of_getElem? (i := 10) (by decide +kernel))) (by decide +kernel)), by decide +kernel, by decide +kernel, by decide +kernel⟩
theorem wiX9_unlike : Cond.instanceMethod yX9_unlike ∈ gw := (gw_of (List.mem_append_right _ (List.mem_of_getElem? (i := 948) (by decide +kernel))) (by decide +kernel))
theorem wsX9_unlike : Cond.selects RX9 yX9_unlike yX9_unlike ∈ gw := (gw_of (List.mem_append_left _ (List.mem_of_getElem? (i := 53) (by decide +kernel))) (by decide +kernel))
def mX9_again : MD := (yX9_again, cX9_again, 3, (some .int), 6, 140)
theorem mwX9_again : MW mX9_again := ⟨(gw_of (List.mem_append_right _ (List.mem_of_getElem? (i := 945) (by decide +kernel))) (by decide +kernel)), (gw_of (List.mem_append_right _ (List.mem_of_getElem? (i := 10) (by decide +kernel))) (by decide +kernel)), by decide +kernel, by decide +kernel, by decide +kernel⟩
theorem wiX9_again : Cond.instanceMethod yX9_again ∈ gw := (gw_of (List.mem_append_right _ (List.mem_of_getElem? (i := 944) (by decide +kernel))) (by decide +kernel))
theorem wsX9_again : Cond.selects RX9 yX9_again yX9_again ∈ gw := (gw_of (List.mem_append_left _ (List.mem_of_getElem? (i := 52) (by decide +kernel))) (by decide +kernel))
def mX9_rebuilt : MD := (yX9_rebuilt, cX9_rebuilt, 2, (some .int), 7, 162)
theorem mwX9_rebuilt : MW mX9_rebuilt := ⟨(gw_of (List.mem_append_right _ (List.mem_of_getElem? (i := 941) (by decide +kernel))) (by decide +kernel)), (gw_of (List.mem_append_right _ (List.mem_of_getElem? (i := 10) (by decide +kernel))) (by decide +kernel)), by decide +kernel, by decide +kernel, by decide +kernel⟩
theorem wiX9_rebuilt : Cond.instanceMethod yX9_rebuilt ∈ gw := (gw_of (List.mem_append_right _ (List.mem_of_getElem? (i := 939) (by decide +kernel))) (by decide +kernel))
theorem wsX9_rebuilt : Cond.selects RX9 yX9_rebuilt yX9_rebuilt ∈ gw := (gw_of (List.mem_append_right _ (List.mem_of_getElem? (i := 940) (by decide +kernel))) (by decide +kernel))
def mX9_stale : MD := (yX9_stale, cX9_stale, 4, (some .int), 7, 162)
theorem mwX9_stale : MW mX9_stale := ⟨(gw_of (List.mem_append_right _ (List.mem_of_getElem? (i := 953) (by decide +kernel))) (by decide +kernel)), (gw_of (List.mem_append_right _ (List.mem_of_getElem? (i := 10) (by decide +kernel))) (by decide +kernel)), by decide +kernel, by decide +kernel, by decide +kernel⟩
theorem wiX9_stale : Cond.instanceMethod yX9_stale ∈ gw := (gw_of (List.mem_append_right _ (List.mem_of_getElem? (i := 951) (by decide +kernel))) (by decide +kernel))
theorem wsX9_stale : Cond.selects RX9 yX9_stale yX9_stale ∈ gw := (gw_of (List.mem_append_right _ (List.mem_of_getElem? (i := 952) (by decide +kernel))) (by decide +kernel))
def mX9_settles : MD := (yX9_settles, cX9_settles, 4, (some .int), 5, 113)
theorem mwX9_settles : MW mX9_settles := ⟨(gw_of (List.mem_append_right _ (List.mem_of_getElem? (i := 957) (by decide +kernel))) (by decide +kernel)), (gw_of (List.mem_append_right _ (List.mem_of_getElem? (i := 10) (by decide +kernel))) (by decide +kernel)), by decide +kernel, by decide +kernel, by decide +kernel⟩
theorem wiX9_settles : Cond.instanceMethod yX9_settles ∈ gw := (gw_of (List.mem_append_right _ (List.mem_of_getElem? (i := 955) (by decide +kernel))) (by decide +kernel))
theorem wsX9_settles : Cond.selects RX9 yX9_settles yX9_settles ∈ gw := (gw_of (List.mem_append_right _ (List.mem_of_getElem? (i := 956) (by decide +kernel))) (by decide +kernel))
def mX9_goRound : MD := (yX9_goRound, cX9_goRound, 5, (some .int), 5, 113)
theorem mwX9_goRound : MW mX9_goRound := ⟨(gw_of (List.mem_append_right _ (List.mem_of_getElem? (i := 965) (by decide +kernel))) (by decide +kernel)), (gw_of (List.mem_append_right _ (List.mem_of_getElem? (i := 10) (by decide +kernel))) (by decide +kernel)), by decide +kernel, by decide +kernel, by decide +kernel⟩
theorem wiX9_goRound : Cond.instanceMethod yX9_goRound ∈ gw := (gw_of (List.mem_append_right _ (List.mem_of_getElem? (i := 964) (by decide +kernel))) (by decide +kernel))
theorem wsX9_goRound : Cond.selects RX9 yX9_goRound yX9_goRound ∈ gw := (gw_of (List.mem_append_left _ (List.mem_of_getElem? (i := 54) (by decide +kernel))) (by decide +kernel))
def mX9_round : MD := (yX9_round, cX9_round, 4, (some .int), 6, 137)
theorem mwX9_round : MW mX9_round := ⟨(gw_of (List.mem_append_right _ (List.mem_of_getElem? (i := 961) (by decide +kernel))) (by decide +kernel)), (gw_of (List.mem_append_right _ (List.mem_of_getElem? (i := 10) (by decide +kernel))) (by decide +kernel)), by decide +kernel, by decide +kernel, by decide +kernel⟩
theorem wiX9_round : Cond.instanceMethod yX9_round ∈ gw := (gw_of (List.mem_append_right _ (List.mem_of_getElem? (i := 959) (by decide +kernel))) (by decide +kernel))
theorem wsX9_round : Cond.selects RX9 yX9_round yX9_round ∈ gw := (gw_of (List.mem_append_right _ (List.mem_of_getElem? (i := 960) (by decide +kernel))) (by decide +kernel))
def mX9_hides : MD := (yX9_hides, cX9_hides, 5, (some .int), 6, 137)
theorem mwX9_hides : MW mX9_hides := ⟨(gw_of (List.mem_append_right _ (List.mem_of_getElem? (i := 969) (by decide +kernel))) (by decide +kernel)), (gw_of (List.mem_append_right _ (List.mem_of_getElem? (i := 10) (by decide +kernel))) (by decide +kernel)), by decide +kernel, by decide +kernel, by decide +kernel⟩
theorem wiX9_hides : Cond.instanceMethod yX9_hides ∈ gw := (gw_of (List.mem_append_right _ (List.mem_of_getElem? (i := 967) (by decide +kernel))) (by decide +kernel))
theorem wsX9_hides : Cond.selects RX9 yX9_hides yX9_hides ∈ gw := (gw_of (List.mem_append_right _ (List.mem_of_getElem? (i := 968) (by decide +kernel))) (by decide +kernel))
def mX9_check : MD := (yX9_check, cX9_check, 4, (some .int), 2, 43)
theorem mwX9_check : MW mX9_check := ⟨(gw_of (List.mem_append_right _ (List.mem_of_getElem? (i := 973) (by decide +kernel))) (by decide +kernel)), (gw_of (List.mem_append_right _ (List.mem_of_getElem? (i := 10) (by decide +kernel))) (by decide +kernel)), by decide +kernel, by decide +kernel, by decide +kernel⟩
theorem wiX9_check : Cond.instanceMethod yX9_check ∈ gw := (gw_of (List.mem_append_right _ (List.mem_of_getElem? (i := 971) (by decide +kernel))) (by decide +kernel))
theorem wsX9_check : Cond.selects RX9 yX9_check yX9_check ∈ gw := (gw_of (List.mem_append_right _ (List.mem_of_getElem? (i := 972) (by decide +kernel))) (by decide +kernel))
def mX9_lengthOf : MD := (yX9_lengthOf, cX9_lengthOf, 4, (some .int), 0, 0)
theorem mwX9_lengthOf : MW mX9_lengthOf := ⟨(gw_of (List.mem_append_right _ (List.mem_of_getElem? (i := 981) (by decide +kernel))) (by decide +kernel)), (gw_of (List.mem_append_right _ (List.mem_of_getElem? (i := 10) (by decide +kernel))) (by decide +kernel)), by decide +kernel, by decide +kernel, by decide +kernel⟩
theorem wiX9_lengthOf : Cond.instanceMethod yX9_lengthOf ∈ gw := (gw_of (List.mem_append_right _ (List.mem_of_getElem? (i := 980) (by decide +kernel))) (by decide +kernel))
theorem wsX9_lengthOf : Cond.selects RX9 yX9_lengthOf yX9_lengthOf ∈ gw := (gw_of (List.mem_append_left _ (List.mem_of_getElem? (i := 55) (by decide +kernel))) (by decide +kernel))
def mX9_last : MD := (yX9_last, cX9_last, 3, (some .int), 0, 0)
theorem mwX9_last : MW mX9_last := ⟨(gw_of (List.mem_append_right _ (List.mem_of_getElem? (i := 994) (by decide +kernel))) (by decide +kernel)), (gw_of (List.mem_append_right _ (List.mem_of_getElem? (i := 10) (by decide +kernel))) (by decide +kernel)), by decide +kernel, by decide +kernel, by decide +kernel⟩
theorem wiX9_last : Cond.instanceMethod yX9_last ∈ gw := (gw_of (List.mem_append_right _ (List.mem_of_getElem? (i := 993) (by decide +kernel))) (by decide +kernel))
theorem wsX9_last : Cond.selects RX9 yX9_last yX9_last ∈ gw := (gw_of (List.mem_append_left _ (List.mem_of_getElem? (i := 57) (by decide +kernel))) (by decide +kernel))
def mX9_chain : MD := (yX9_chain, cX9_chain, 5, (some .int), 2, 43)
theorem mwX9_chain : MW mX9_chain := ⟨(gw_of (List.mem_append_right _ (List.mem_of_getElem? (i := 977) (by decide +kernel))) (by decide +kernel)), (gw_of (List.mem_append_right _ (List.mem_of_getElem? (i := 10) (by decide +kernel))) (by decide +kernel)), by decide +kernel, by decide +kernel, by decide +kernel⟩
theorem wiX9_chain : Cond.instanceMethod yX9_chain ∈ gw := (gw_of (List.mem_append_right _ (List.mem_of_getElem? (i := 975) (by decide +kernel))) (by decide +kernel))
theorem wsX9_chain : Cond.selects RX9 yX9_chain yX9_chain ∈ gw := (gw_of (List.mem_append_right _ (List.mem_of_getElem? (i := 976) (by decide +kernel))) (by decide +kernel))
def mX9_sealedOnes : MD := (yX9_sealedOnes, cX9_sealedOnes, 4, (some .int), 8, 185)
theorem mwX9_sealedOnes : MW mX9_sealedOnes := ⟨(gw_of (List.mem_append_right _ (List.mem_of_getElem? (i := 989) (by decide +kernel))) (by decide +kernel)), (gw_of (List.mem_append_right _ (List.mem_of_getElem? (i := 10) (by decide +kernel))) (by decide +kernel)), by decide +kernel, by decide +kernel, by decide +kernel⟩
theorem wiX9_sealedOnes : Cond.instanceMethod yX9_sealedOnes ∈ gw := (gw_of (List.mem_append_right _ (List.mem_of_getElem? (i := 988) (by decide +kernel))) (by decide +kernel))
theorem wsX9_sealedOnes : Cond.selects RX9 yX9_sealedOnes yX9_sealedOnes ∈ gw := (gw_of (List.mem_append_left _ (List.mem_of_getElem? (i := 56) (by decide +kernel))) (by decide +kernel))
def mX9_sealed : MD := (yX9_sealed, cX9_sealed, 2, (some .int), 9, 208)
theorem mwX9_sealed : MW mX9_sealed := ⟨(gw_of (List.mem_append_right _ (List.mem_of_getElem? (i := 985) (by decide +kernel))) (by decide +kernel)), (gw_of (List.mem_append_right _ (List.mem_of_getElem? (i := 10) (by decide +kernel))) (by decide +kernel)), by decide +kernel, by decide +kernel, by decide +kernel⟩
theorem wiX9_sealed : Cond.instanceMethod yX9_sealed ∈ gw := (gw_of (List.mem_append_right _ (List.mem_of_getElem? (i := 983) (by decide +kernel))) (by decide +kernel))
theorem wsX9_sealed : Cond.selects RX9 yX9_sealed yX9_sealed ∈ gw := (gw_of (List.mem_append_right _ (List.mem_of_getElem? (i := 984) (by decide +kernel))) (by decide +kernel))
def mX9_least : MD := (yX9_least, cX9_least, 6, (some .int), 8, 185)
theorem mwX9_least : MW mX9_least := ⟨(gw_of (List.mem_append_right _ (List.mem_of_getElem? (i := 998) (by decide +kernel))) (by decide +kernel)), (gw_of (List.mem_append_right _ (List.mem_of_getElem? (i := 10) (by decide +kernel))) (by decide +kernel)), by decide +kernel, by decide +kernel, by decide +kernel⟩
theorem wiX9_least : Cond.instanceMethod yX9_least ∈ gw := (gw_of (List.mem_append_right _ (List.mem_of_getElem? (i := 996) (by decide +kernel))) (by decide +kernel))
theorem wsX9_least : Cond.selects RX9 yX9_least yX9_least ∈ gw := (gw_of (List.mem_append_right _ (List.mem_of_getElem? (i := 997) (by decide +kernel))) (by decide +kernel))
def mX9_same : MD := (yX9_same, cX9_same, 3, (some .int), 2, 43)
theorem mwX9_same : MW mX9_same := ⟨(gw_of (List.mem_append_right _ (List.mem_of_getElem? (i := 1002) (by decide +kernel))) (by decide +kernel)), (gw_of (List.mem_append_right _ (List.mem_of_getElem? (i := 10) (by decide +kernel))) (by decide +kernel)), by decide +kernel, by decide +kernel, by decide +kernel⟩
theorem wiX9_same : Cond.instanceMethod yX9_same ∈ gw := (gw_of (List.mem_append_right _ (List.mem_of_getElem? (i := 1000) (by decide +kernel))) (by decide +kernel))
theorem wsX9_same : Cond.selects RX9 yX9_same yX9_same ∈ gw := (gw_of (List.mem_append_right _ (List.mem_of_getElem? (i := 1001) (by decide +kernel))) (by decide +kernel))
def mX9_edition : MD := (yX9_edition, cX9_edition, 3, (some .int), 1, 22)
theorem mwX9_edition : MW mX9_edition := ⟨(gw_of (List.mem_append_right _ (List.mem_of_getElem? (i := 1006) (by decide +kernel))) (by decide +kernel)), (gw_of (List.mem_append_right _ (List.mem_of_getElem? (i := 10) (by decide +kernel))) (by decide +kernel)), by decide +kernel, by decide +kernel, by decide +kernel⟩
theorem wiX9_edition : Cond.instanceMethod yX9_edition ∈ gw := (gw_of (List.mem_append_right _ (List.mem_of_getElem? (i := 1004) (by decide +kernel))) (by decide +kernel))
theorem wsX9_edition : Cond.selects RX9 yX9_edition yX9_edition ∈ gw := (gw_of (List.mem_append_right _ (List.mem_of_getElem? (i := 1005) (by decide +kernel))) (by decide +kernel))
def mX9_isEdition : MD := (yX9_isEdition, cX9_isEdition, 2, (some .boolean), 1, 22)
theorem mwX9_isEdition : MW mX9_isEdition := ⟨(gw_of (List.mem_append_right _ (List.mem_of_getElem? (i := 1015) (by decide +kernel))) (by decide +kernel)), (gw_of (List.mem_append_right _ (List.mem_of_getElem? (i := 10) (by decide +kernel))) (by decide +kernel)), by decide +kernel, by decide +kernel, by decide +kernel⟩
theorem wiX9_isEdition : Cond.instanceMethod yX9_isEdition ∈ gw := (gw_of (List.mem_append_right _ (List.mem_of_getElem? (i := 1014) (by decide +kernel))) (by decide +kernel))
theorem wsX9_isEdition : Cond.selects RX9 yX9_isEdition yX9_isEdition ∈ gw := (gw_of (List.mem_append_left _ (List.mem_of_getElem? (i := 58) (by decide +kernel))) (by decide +kernel))
def mX9_climb : MD := (yX9_climb, cX9_climb, 9, (some .int), 0, 0)
theorem mwX9_climb : MW mX9_climb := ⟨(gw_of (List.mem_append_right _ (List.mem_of_getElem? (i := 1019) (by decide +kernel))) (by decide +kernel)), (gw_of (List.mem_append_right _ (List.mem_of_getElem? (i := 10) (by decide +kernel))) (by decide +kernel)), by decide +kernel, by decide +kernel, by decide +kernel⟩
theorem wiX9_climb : Cond.instanceMethod yX9_climb ∈ gw := (gw_of (List.mem_append_right _ (List.mem_of_getElem? (i := 1018) (by decide +kernel))) (by decide +kernel))
theorem wsX9_climb : Cond.selects RX9 yX9_climb yX9_climb ∈ gw := (gw_of (List.mem_append_left _ (List.mem_of_getElem? (i := 59) (by decide +kernel))) (by decide +kernel))
def mX9_ladder : MD := (yX9_ladder, cX9_ladder, 9, (some .int), 2, 43)
theorem mwX9_ladder : MW mX9_ladder := ⟨(gw_of (List.mem_append_right _ (List.mem_of_getElem? (i := 1011) (by decide +kernel))) (by decide +kernel)), (gw_of (List.mem_append_right _ (List.mem_of_getElem? (i := 10) (by decide +kernel))) (by decide +kernel)), by decide +kernel, by decide +kernel, by decide +kernel⟩
theorem wiX9_ladder : Cond.instanceMethod yX9_ladder ∈ gw := (gw_of (List.mem_append_right _ (List.mem_of_getElem? (i := 1009) (by decide +kernel))) (by decide +kernel))
theorem wsX9_ladder : Cond.selects RX9 yX9_ladder yX9_ladder ∈ gw := (gw_of (List.mem_append_right _ (List.mem_of_getElem? (i := 1010) (by decide +kernel))) (by decide +kernel))
def mX9_needed : MD := (yX9_needed, cX9_needed, 9, (some .int), 2, 43)
theorem mwX9_needed : MW mX9_needed := ⟨(gw_of (List.mem_append_right _ (List.mem_of_getElem? (i := 1023) (by decide +kernel))) (by decide +kernel)), (gw_of (List.mem_append_right _ (List.mem_of_getElem? (i := 10) (by decide +kernel))) (by decide +kernel)), by decide +kernel, by decide +kernel, by decide +kernel⟩
theorem wiX9_needed : Cond.instanceMethod yX9_needed ∈ gw := (gw_of (List.mem_append_right _ (List.mem_of_getElem? (i := 1021) (by decide +kernel))) (by decide +kernel))
theorem wsX9_needed : Cond.selects RX9 yX9_needed yX9_needed ∈ gw := (gw_of (List.mem_append_right _ (List.mem_of_getElem? (i := 1022) (by decide +kernel))) (by decide +kernel))
def mX9_weight : MD := (yX9_weight, cX9_weight, 6, (some .int), 2, 43)
theorem mwX9_weight : MW mX9_weight := ⟨(gw_of (List.mem_append_right _ (List.mem_of_getElem? (i := 1027) (by decide +kernel))) (by decide +kernel)), (gw_of (List.mem_append_right _ (List.mem_of_getElem? (i := 10) (by decide +kernel))) (by decide +kernel)), by decide +kernel, by decide +kernel, by decide +kernel⟩
theorem wiX9_weight : Cond.instanceMethod yX9_weight ∈ gw := (gw_of (List.mem_append_right _ (List.mem_of_getElem? (i := 1025) (by decide +kernel))) (by decide +kernel))
theorem wsX9_weight : Cond.selects RX9 yX9_weight yX9_weight ∈ gw := (gw_of (List.mem_append_right _ (List.mem_of_getElem? (i := 1026) (by decide +kernel))) (by decide +kernel))
def mX9_count : MD := (yX9_count, cX9_count, 5, (some .int), 9, 208)
theorem mwX9_count : MW mX9_count := ⟨(gw_of (List.mem_append_right _ (List.mem_of_getElem? (i := 1036) (by decide +kernel))) (by decide +kernel)), (gw_of (List.mem_append_right _ (List.mem_of_getElem? (i := 10) (by decide +kernel))) (by decide +kernel)), by decide +kernel, by decide +kernel, by decide +kernel⟩
theorem wiX9_count : Cond.instanceMethod yX9_count ∈ gw := (gw_of (List.mem_append_right _ (List.mem_of_getElem? (i := 1034) (by decide +kernel))) (by decide +kernel))
theorem wsX9_count : Cond.selects RX9 yX9_count yX9_count ∈ gw := (gw_of (List.mem_append_right _ (List.mem_of_getElem? (i := 1035) (by decide +kernel))) (by decide +kernel))
def mX9_trace : MD := (yX9_trace, cX9_trace, 1, (some .long), 0, 0)
theorem mwX9_trace : MW mX9_trace := ⟨(gw_of (List.mem_append_right _ (List.mem_of_getElem? (i := 1040) (by decide +kernel))) (by decide +kernel)), (gw_of (List.mem_append_right _ (List.mem_of_getElem? (i := 10) (by decide +kernel))) (by decide +kernel)), by decide +kernel, by decide +kernel, by decide +kernel⟩
theorem wiX9_trace : Cond.instanceMethod yX9_trace ∈ gw := (gw_of (List.mem_append_right _ (List.mem_of_getElem? (i := 1038) (by decide +kernel))) (by decide +kernel))
theorem wsX9_trace : Cond.selects RX9 yX9_trace yX9_trace ∈ gw := (gw_of (List.mem_append_right _ (List.mem_of_getElem? (i := 1039) (by decide +kernel))) (by decide +kernel))
theorem wlX0_3 : Cond.methodLink RX0 3 objectInit ∈ gw := (gw_of (List.mem_append_right _ (List.mem_of_getElem? (i := 58) (by decide +kernel))) (by decide +kernel))
theorem fpX0_9_X0 : FP RX0 9 0 3 .int := ⟨RX0, "LadderForge$Code", TX0, 4, tyX0, rfl, by decide, inwX0, Or.inl (gw_of (List.mem_append_right _ (List.mem_of_getElem? (i := 65) (by decide +kernel))) (by decide +kernel)), Or.inl rfl, tyX0_ok, nmX0, rfl, by decide +kernel⟩
theorem wlX0_15 : Cond.methodLink RX0 15 Lib.Math.min.name ∈ gw := (gw_of (List.mem_append_right _ (List.mem_of_getElem? (i := 59) (by decide +kernel))) (by decide +kernel))
theorem ffX0_21_X0 : FPF RX0 21 0 0 .int := ⟨RX0, "LadderForge$Code", TX0, 4, tyX0, rfl, by decide, inwX0, (gw_of (List.mem_append_right _ (List.mem_of_getElem? (i := 62) (by decide +kernel))) (by decide +kernel)), Or.inl rfl, tyX0_ok, nmX0, rfl, rfl, by decide +kernel⟩
theorem faX0_21_X0 : FA RX0 21 0 0 := ⟨RX0, "LadderForge$Code", TX0, 4, rfl, by decide, inwX0, Or.inl (gw_of (List.mem_append_right _ (List.mem_of_getElem? (i := 62) (by decide +kernel))) (by decide +kernel)), Or.inl rfl⟩
theorem ffX0_24_X0 : FPF RX0 24 0 1 (.array .int) := ⟨RX0, "LadderForge$Code", TX0, 4, tyX0, rfl, by decide, inwX0, (gw_of (List.mem_append_right _ (List.mem_of_getElem? (i := 63) (by decide +kernel))) (by decide +kernel)), Or.inl rfl, tyX0_ok, nmX0, rfl, rfl, by decide +kernel⟩
theorem ffX0_28_X0 : FPF RX0 28 0 2 (.array .int) := ⟨RX0, "LadderForge$Code", TX0, 4, tyX0, rfl, by decide, inwX0, (gw_of (List.mem_append_right _ (List.mem_of_getElem? (i := 64) (by decide +kernel))) (by decide +kernel)), Or.inl rfl, tyX0_ok, nmX0, rfl, rfl, by decide +kernel⟩
theorem faX0_9_X0 : FA RX0 9 0 3 := ⟨RX0, "LadderForge$Code", TX0, 4, rfl, by decide, inwX0, Or.inl (gw_of (List.mem_append_right _ (List.mem_of_getElem? (i := 65) (by decide +kernel))) (by decide +kernel)), Or.inl rfl⟩
theorem faX0_24_X0 : FA RX0 24 0 1 := ⟨RX0, "LadderForge$Code", TX0, 4, rfl, by decide, inwX0, Or.inl (gw_of (List.mem_append_right _ (List.mem_of_getElem? (i := 63) (by decide +kernel))) (by decide +kernel)), Or.inl rfl⟩
theorem faX0_28_X0 : FA RX0 28 0 2 := ⟨RX0, "LadderForge$Code", TX0, 4, rfl, by decide, inwX0, Or.inl (gw_of (List.mem_append_right _ (List.mem_of_getElem? (i := 64) (by decide +kernel))) (by decide +kernel)), Or.inl rfl⟩
theorem wlX0_31 : Cond.methodLink RX0 31 yX0_at ∈ gw := (gw_of (List.mem_append_right _ (List.mem_of_getElem? (i := 399) (by decide +kernel))) (by decide +kernel))
theorem fnX0_10 : FN RX0 10 0 [.int 0, .null, .null, .int 0] := ⟨RX0, TX0, 4, tyX0, rfl, inwX0, tyX0_ok, (gw_of (List.mem_append_right _ (List.mem_of_getElem? (i := 397) (by decide +kernel))) (by decide +kernel)), (gw_of (List.mem_append_right _ (List.mem_of_getElem? (i := 54) (by decide +kernel))) (by decide +kernel)), (gw_of (List.mem_append_right _ (List.mem_of_getElem? (i := 5) (by decide +kernel))) (by decide +kernel)), by decide +kernel, rfl, fun _ => rfl⟩
theorem wlX0_37 : Cond.methodLink RX0 37 yX0_init ∈ gw := (gw_of (List.mem_append_right _ (List.mem_of_getElem? (i := 398) (by decide +kernel))) (by decide +kernel))
theorem wlX0_40 : Cond.methodLink RX0 40 yX0_ledAt ∈ gw := (gw_of (List.mem_append_right _ (List.mem_of_getElem? (i := 403) (by decide +kernel))) (by decide +kernel))
theorem wlX0_43 : Cond.methodLink RX0 43 yX0_add ∈ gw := (gw_of (List.mem_append_right _ (List.mem_of_getElem? (i := 404) (by decide +kernel))) (by decide +kernel))
theorem wlX1_3 : Cond.methodLink RX1 3 objectInit ∈ gw := (gw_of (List.mem_append_right _ (List.mem_of_getElem? (i := 156) (by decide +kernel))) (by decide +kernel))
theorem ffX1_9_X1 : FPF RX1 9 1 0 (.array .int) := ⟨RX1, "LadderForge$Editions", TX1, 4, tyX1, rfl, by decide, inwX1, (gw_of (List.mem_append_right _ (List.mem_of_getElem? (i := 157) (by decide +kernel))) (by decide +kernel)), Or.inl rfl, tyX1_ok, nmX1, rfl, rfl, by decide +kernel⟩
theorem ffX1_15_X1 : FPF RX1 15 1 1 (.array .int) := ⟨RX1, "LadderForge$Editions", TX1, 4, tyX1, rfl, by decide, inwX1, (gw_of (List.mem_append_right _ (List.mem_of_getElem? (i := 158) (by decide +kernel))) (by decide +kernel)), Or.inl rfl, tyX1_ok, nmX1, rfl, rfl, by decide +kernel⟩
theorem ffX1_18_X1 : FPF RX1 18 1 2 (.array .int) := ⟨RX1, "LadderForge$Editions", TX1, 4, tyX1, rfl, by decide, inwX1, (gw_of (List.mem_append_right _ (List.mem_of_getElem? (i := 159) (by decide +kernel))) (by decide +kernel)), Or.inl rfl, tyX1_ok, nmX1, rfl, rfl, by decide +kernel⟩
theorem fpX1_21_X1 : FP RX1 21 1 3 .int := ⟨RX1, "LadderForge$Editions", TX1, 4, tyX1, rfl, by decide, inwX1, Or.inl (gw_of (List.mem_append_right _ (List.mem_of_getElem? (i := 160) (by decide +kernel))) (by decide +kernel)), Or.inl rfl, tyX1_ok, nmX1, rfl, by decide +kernel⟩
theorem faX1_21_X1 : FA RX1 21 1 3 := ⟨RX1, "LadderForge$Editions", TX1, 4, rfl, by decide, inwX1, Or.inl (gw_of (List.mem_append_right _ (List.mem_of_getElem? (i := 160) (by decide +kernel))) (by decide +kernel)), Or.inl rfl⟩
theorem faX1_9_X1 : FA RX1 9 1 0 := ⟨RX1, "LadderForge$Editions", TX1, 4, rfl, by decide, inwX1, Or.inl (gw_of (List.mem_append_right _ (List.mem_of_getElem? (i := 157) (by decide +kernel))) (by decide +kernel)), Or.inl rfl⟩
theorem faX1_15_X1 : FA RX1 15 1 1 := ⟨RX1, "LadderForge$Editions", TX1, 4, rfl, by decide, inwX1, Or.inl (gw_of (List.mem_append_right _ (List.mem_of_getElem? (i := 158) (by decide +kernel))) (by decide +kernel)), Or.inl rfl⟩
theorem faX1_18_X1 : FA RX1 18 1 2 := ⟨RX1, "LadderForge$Editions", TX1, 4, rfl, by decide, inwX1, Or.inl (gw_of (List.mem_append_right _ (List.mem_of_getElem? (i := 159) (by decide +kernel))) (by decide +kernel)), Or.inl rfl⟩
theorem wlX1_25 : Cond.methodLink RX1 25 yX1_has ∈ gw := (gw_of (List.mem_append_right _ (List.mem_of_getElem? (i := 604) (by decide +kernel))) (by decide +kernel))
theorem wlX1_33 : Cond.methodLink RX1 33 yX1_firstBuilt ∈ gw := (gw_of (List.mem_append_right _ (List.mem_of_getElem? (i := 609) (by decide +kernel))) (by decide +kernel))
theorem wlX1_29 : Cond.methodLink RX1 29 yX1_reachBack ∈ gw := (gw_of (List.mem_append_right _ (List.mem_of_getElem? (i := 605) (by decide +kernel))) (by decide +kernel))
theorem wlX2_3 : Cond.methodLink RX2 3 objectInit ∈ gw := (gw_of (List.mem_append_right _ (List.mem_of_getElem? (i := 113) (by decide +kernel))) (by decide +kernel))
theorem ffX2_9_X2 : FPF RX2 9 2 0 (.array .int) := ⟨RX2, "LadderForge$Machine", TX2, 9, tyX2, rfl, by decide, inwX2, (gw_of (List.mem_append_right _ (List.mem_of_getElem? (i := 116) (by decide +kernel))) (by decide +kernel)), Or.inl rfl, tyX2_ok, nmX2, rfl, rfl, by decide +kernel⟩
theorem fnX2_15 : FN RX2 15 0 [.int 0, .null, .null, .int 0] := ⟨RX0, TX0, 4, tyX0, rfl, inwX0, tyX0_ok, (gw_of (List.mem_append_right _ (List.mem_of_getElem? (i := 114) (by decide +kernel))) (by decide +kernel)), (gw_of (List.mem_append_right _ (List.mem_of_getElem? (i := 54) (by decide +kernel))) (by decide +kernel)), (gw_of (List.mem_append_right _ (List.mem_of_getElem? (i := 5) (by decide +kernel))) (by decide +kernel)), by decide +kernel, rfl, fun _ => rfl⟩
theorem wlX2_17 : Cond.methodLink RX2 17 yX0_init ∈ gw := (gw_of (List.mem_append_right _ (List.mem_of_getElem? (i := 115) (by decide +kernel))) (by decide +kernel))
theorem ffX2_20_X2 : FPF RX2 20 2 1 (.object "LadderForge$Code") := ⟨RX2, "LadderForge$Machine", TX2, 9, tyX2, rfl, by decide, inwX2, (gw_of (List.mem_append_right _ (List.mem_of_getElem? (i := 117) (by decide +kernel))) (by decide +kernel)), Or.inl rfl, tyX2_ok, nmX2, rfl, rfl, by decide +kernel⟩
theorem fpX2_24_X2 : FP RX2 24 2 2 .int := ⟨RX2, "LadderForge$Machine", TX2, 9, tyX2, rfl, by decide, inwX2, Or.inl (gw_of (List.mem_append_right _ (List.mem_of_getElem? (i := 119) (by decide +kernel))) (by decide +kernel)), Or.inl rfl, tyX2_ok, nmX2, rfl, by decide +kernel⟩
theorem fpX2_28_X2 : FP RX2 28 2 3 .int := ⟨RX2, "LadderForge$Machine", TX2, 9, tyX2, rfl, by decide, inwX2, Or.inl (gw_of (List.mem_append_right _ (List.mem_of_getElem? (i := 121) (by decide +kernel))) (by decide +kernel)), Or.inl rfl, tyX2_ok, nmX2, rfl, by decide +kernel⟩
theorem fpX2_31_X2 : FP RX2 31 2 4 .int := ⟨RX2, "LadderForge$Machine", TX2, 9, tyX2, rfl, by decide, inwX2, Or.inl (gw_of (List.mem_append_right _ (List.mem_of_getElem? (i := 123) (by decide +kernel))) (by decide +kernel)), Or.inl rfl, tyX2_ok, nmX2, rfl, by decide +kernel⟩
theorem fpX2_34_X2 : FP RX2 34 2 5 .boolean := ⟨RX2, "LadderForge$Machine", TX2, 9, tyX2, rfl, by decide, inwX2, Or.inl (gw_of (List.mem_append_right _ (List.mem_of_getElem? (i := 125) (by decide +kernel))) (by decide +kernel)), Or.inl rfl, tyX2_ok, nmX2, rfl, by decide +kernel⟩
theorem fpX2_38_X2 : FP RX2 38 2 6 .int := ⟨RX2, "LadderForge$Machine", TX2, 9, tyX2, rfl, by decide, inwX2, Or.inl (gw_of (List.mem_append_right _ (List.mem_of_getElem? (i := 126) (by decide +kernel))) (by decide +kernel)), Or.inl rfl, tyX2_ok, nmX2, rfl, by decide +kernel⟩
theorem fpX2_41_X2 : FP RX2 41 2 7 .int := ⟨RX2, "LadderForge$Machine", TX2, 9, tyX2, rfl, by decide, inwX2, Or.inl (gw_of (List.mem_append_right _ (List.mem_of_getElem? (i := 128) (by decide +kernel))) (by decide +kernel)), Or.inl rfl, tyX2_ok, nmX2, rfl, by decide +kernel⟩
theorem fpX2_44_X2 : FP RX2 44 2 8 .int := ⟨RX2, "LadderForge$Machine", TX2, 9, tyX2, rfl, by decide, inwX2, Or.inl (gw_of (List.mem_append_right _ (List.mem_of_getElem? (i := 130) (by decide +kernel))) (by decide +kernel)), Or.inl rfl, tyX2_ok, nmX2, rfl, by decide +kernel⟩
theorem faX2_9_X2 : FA RX2 9 2 0 := ⟨RX2, "LadderForge$Machine", TX2, 9, rfl, by decide, inwX2, Or.inl (gw_of (List.mem_append_right _ (List.mem_of_getElem? (i := 116) (by decide +kernel))) (by decide +kernel)), Or.inl rfl⟩
theorem faX2_51_X0 : FA RX2 51 0 3 := ⟨RX0, "LadderForge$Code", TX0, 4, rfl, by decide, inwX0, Or.inr ⟨"LadderForge", (List.mem_of_getElem? (i := 8) (by decide +kernel))⟩, Or.inl rfl⟩
theorem wlX2_66 : Cond.methodLink RX2 66 yX0_at ∈ gw := (gw_of (List.mem_append_right _ (List.mem_of_getElem? (i := 455) (by decide +kernel))) (by decide +kernel))
theorem faX2_20_X2 : FA RX2 20 2 1 := ⟨RX2, "LadderForge$Machine", TX2, 9, rfl, by decide, inwX2, Or.inl (gw_of (List.mem_append_right _ (List.mem_of_getElem? (i := 117) (by decide +kernel))) (by decide +kernel)), Or.inl rfl⟩
theorem fpX2_51_X0 : FP RX2 51 0 3 .int := ⟨RX0, "LadderForge$Code", TX0, 4, tyX0, rfl, by decide, inwX0, Or.inr ⟨"LadderForge", (List.mem_of_getElem? (i := 8) (by decide +kernel))⟩, Or.inl rfl, tyX0_ok, nmX0, rfl, by decide +kernel⟩
theorem faX2_38_X2 : FA RX2 38 2 6 := ⟨RX2, "LadderForge$Machine", TX2, 9, rfl, by decide, inwX2, Or.inl (gw_of (List.mem_append_right _ (List.mem_of_getElem? (i := 126) (by decide +kernel))) (by decide +kernel)), Or.inl rfl⟩
theorem faX6_15_X6 : FA RX6 15 5 1 := ⟨RX6, "LadderForge$Text", TX6, 2, rfl, by decide, inwX6, Or.inl (gw_of (List.mem_append_right _ (List.mem_of_getElem? (i := 31) (by decide +kernel))) (by decide +kernel)), Or.inl rfl⟩
theorem faX6_9_X6 : FA RX6 9 5 0 := ⟨RX6, "LadderForge$Text", TX6, 2, rfl, by decide, inwX6, Or.inl (gw_of (List.mem_append_right _ (List.mem_of_getElem? (i := 30) (by decide +kernel))) (by decide +kernel)), Or.inl rfl⟩
theorem faX2_41_X2 : FA RX2 41 2 7 := ⟨RX2, "LadderForge$Machine", TX2, 9, rfl, by decide, inwX2, Or.inl (gw_of (List.mem_append_right _ (List.mem_of_getElem? (i := 128) (by decide +kernel))) (by decide +kernel)), Or.inl rfl⟩
theorem faX2_31_X2 : FA RX2 31 2 4 := ⟨RX2, "LadderForge$Machine", TX2, 9, rfl, by decide, inwX2, Or.inl (gw_of (List.mem_append_right _ (List.mem_of_getElem? (i := 123) (by decide +kernel))) (by decide +kernel)), Or.inl rfl⟩
theorem wlX2_69 : Cond.methodLink RX2 69 yX2_hasNumber ∈ gw := (gw_of (List.mem_append_right _ (List.mem_of_getElem? (i := 464) (by decide +kernel))) (by decide +kernel))
theorem wlX2_73 : Cond.methodLink RX2 73 yX6_at ∈ gw := (gw_of (List.mem_append_right _ (List.mem_of_getElem? (i := 465) (by decide +kernel))) (by decide +kernel))
theorem wlX2_76 : Cond.methodLink RX2 76 yX2_take ∈ gw := (gw_of (List.mem_append_right _ (List.mem_of_getElem? (i := 466) (by decide +kernel))) (by decide +kernel))
theorem faX2_24_X2 : FA RX2 24 2 2 := ⟨RX2, "LadderForge$Machine", TX2, 9, rfl, by decide, inwX2, Or.inl (gw_of (List.mem_append_right _ (List.mem_of_getElem? (i := 119) (by decide +kernel))) (by decide +kernel)), Or.inl rfl⟩
theorem wlX2_79 : Cond.methodLink RX2 79 Lib.Math.max.name ∈ gw := (gw_of (List.mem_append_right _ (List.mem_of_getElem? (i := 470) (by decide +kernel))) (by decide +kernel))
theorem wlX2_85 : Cond.methodLink RX2 85 yX0_add ∈ gw := (gw_of (List.mem_append_right _ (List.mem_of_getElem? (i := 473) (by decide +kernel))) (by decide +kernel))
theorem faX2_28_X2 : FA RX2 28 2 3 := ⟨RX2, "LadderForge$Machine", TX2, 9, rfl, by decide, inwX2, Or.inl (gw_of (List.mem_append_right _ (List.mem_of_getElem? (i := 121) (by decide +kernel))) (by decide +kernel)), Or.inl rfl⟩
theorem faX2_34_X2 : FA RX2 34 2 5 := ⟨RX2, "LadderForge$Machine", TX2, 9, rfl, by decide, inwX2, Or.inl (gw_of (List.mem_append_right _ (List.mem_of_getElem? (i := 125) (by decide +kernel))) (by decide +kernel)), Or.inl rfl⟩
theorem wlX2_54 : Cond.methodLink RX2 54 yX2_load ∈ gw := (gw_of (List.mem_append_right _ (List.mem_of_getElem? (i := 451) (by decide +kernel))) (by decide +kernel))
theorem wlX2_58 : Cond.methodLink RX2 58 yX2_harmOf ∈ gw := (gw_of (List.mem_append_right _ (List.mem_of_getElem? (i := 456) (by decide +kernel))) (by decide +kernel))
theorem faX2_44_X2 : FA RX2 44 2 8 := ⟨RX2, "LadderForge$Machine", TX2, 9, rfl, by decide, inwX2, Or.inl (gw_of (List.mem_append_right _ (List.mem_of_getElem? (i := 130) (by decide +kernel))) (by decide +kernel)), Or.inl rfl⟩
theorem wlX2_62 : Cond.methodLink RX2 62 yX2_obey ∈ gw := (gw_of (List.mem_append_right _ (List.mem_of_getElem? (i := 460) (by decide +kernel))) (by decide +kernel))
theorem wlX2_47 : Cond.methodLink RX2 47 yX2_goThrough ∈ gw := (gw_of (List.mem_append_right _ (List.mem_of_getElem? (i := 447) (by decide +kernel))) (by decide +kernel))
theorem wlX3_3 : Cond.methodLink RX3 3 objectInit ∈ gw := (gw_of (List.mem_append_right _ (List.mem_of_getElem? (i := 52) (by decide +kernel))) (by decide +kernel))
theorem fnX3_9 : FN RX3 9 0 [.int 0, .null, .null, .int 0] := ⟨RX0, TX0, 4, tyX0, rfl, inwX0, tyX0_ok, (gw_of (List.mem_append_right _ (List.mem_of_getElem? (i := 53) (by decide +kernel))) (by decide +kernel)), (gw_of (List.mem_append_right _ (List.mem_of_getElem? (i := 54) (by decide +kernel))) (by decide +kernel)), (gw_of (List.mem_append_right _ (List.mem_of_getElem? (i := 5) (by decide +kernel))) (by decide +kernel)), by decide +kernel, rfl, fun _ => rfl⟩
theorem wlX3_11 : Cond.methodLink RX3 11 yX0_init ∈ gw := (gw_of (List.mem_append_right _ (List.mem_of_getElem? (i := 55) (by decide +kernel))) (by decide +kernel))
theorem ffX3_14_X4 : FPF RX3 14 3 0 (.object "LadderForge$Code") := ⟨RX4, "LadderForge$Maker", TX4, 5, tyX4, rfl, by decide, inwX4, (gw_of (List.mem_append_right _ (List.mem_of_getElem? (i := 79) (by decide +kernel))) (by decide +kernel)), Or.inl rfl, tyX4_ok, nmX4, rfl, rfl, by decide +kernel⟩
theorem ffX3_14_X5 : FPF RX3 14 4 0 (.object "LadderForge$Code") := ⟨RX5, "LadderForge$Maker", TX5, 1, tyX5, rfl, by decide, inwX5, (gw_of (List.mem_append_right _ (List.mem_of_getElem? (i := 79) (by decide +kernel))) (by decide +kernel)), Or.inl rfl, tyX5_ok, nmX5, rfl, rfl, by decide +kernel⟩
theorem wlX4_3 : Cond.methodLinkNest RX4 3 yX3_init "LadderForge" ∈ nw := (List.mem_of_getElem? (i := 11) (by decide +kernel))
theorem ffX4_11_X4 : FPF RX4 11 3 1 (.array .int) := ⟨RX4, "LadderForge$NamedMaker", TX4, 5, tyX4, rfl, by decide, inwX4, (gw_of (List.mem_append_right _ (List.mem_of_getElem? (i := 94) (by decide +kernel))) (by decide +kernel)), Or.inl rfl, tyX4_ok, nmX4, rfl, rfl, by decide +kernel⟩
theorem ffX4_15_X4 : FPF RX4 15 3 2 (.array .int) := ⟨RX4, "LadderForge$NamedMaker", TX4, 5, tyX4, rfl, by decide, inwX4, (gw_of (List.mem_append_right _ (List.mem_of_getElem? (i := 95) (by decide +kernel))) (by decide +kernel)), Or.inl rfl, tyX4_ok, nmX4, rfl, rfl, by decide +kernel⟩
theorem fpX4_18_X4 : FP RX4 18 3 3 .int := ⟨RX4, "LadderForge$NamedMaker", TX4, 5, tyX4, rfl, by decide, inwX4, Or.inl (gw_of (List.mem_append_right _ (List.mem_of_getElem? (i := 96) (by decide +kernel))) (by decide +kernel)), Or.inl rfl, tyX4_ok, nmX4, rfl, by decide +kernel⟩
theorem fpX4_22_X4 : FP RX4 22 3 4 .int := ⟨RX4, "LadderForge$NamedMaker", TX4, 5, tyX4, rfl, by decide, inwX4, Or.inl (gw_of (List.mem_append_right _ (List.mem_of_getElem? (i := 97) (by decide +kernel))) (by decide +kernel)), Or.inl rfl, tyX4_ok, nmX4, rfl, by decide +kernel⟩
theorem faX4_45_X4 : FA RX4 45 3 0 := ⟨RX4, "LadderForge$NamedMaker", TX4, 5, rfl, by decide, inwX4, Or.inl (gw_of (List.mem_append_right _ (List.mem_of_getElem? (i := 82) (by decide +kernel))) (by decide +kernel)), Or.inr (gw_of (List.mem_append_right _ (List.mem_of_getElem? (i := 83) (by decide +kernel))) (by decide +kernel))⟩
theorem fpX4_49_X0 : FP RX4 49 0 3 .int := ⟨RX0, "LadderForge$Code", TX0, 4, tyX0, rfl, by decide, inwX0, Or.inr ⟨"LadderForge", (List.mem_of_getElem? (i := 7) (by decide +kernel))⟩, Or.inl rfl, tyX0_ok, nmX0, rfl, by decide +kernel⟩
theorem faX4_11_X4 : FA RX4 11 3 1 := ⟨RX4, "LadderForge$NamedMaker", TX4, 5, rfl, by decide, inwX4, Or.inl (gw_of (List.mem_append_right _ (List.mem_of_getElem? (i := 94) (by decide +kernel))) (by decide +kernel)), Or.inl rfl⟩
theorem faX4_15_X4 : FA RX4 15 3 2 := ⟨RX4, "LadderForge$NamedMaker", TX4, 5, rfl, by decide, inwX4, Or.inl (gw_of (List.mem_append_right _ (List.mem_of_getElem? (i := 95) (by decide +kernel))) (by decide +kernel)), Or.inl rfl⟩
theorem wlX6_19 : Cond.methodLink RX6 19 yX6_at ∈ gw := (gw_of (List.mem_append_right _ (List.mem_of_getElem? (i := 229) (by decide +kernel))) (by decide +kernel))
theorem wlX4_67 : Cond.methodLink RX4 67 yX4_isDigit ∈ gw := (gw_of (List.mem_append_right _ (List.mem_of_getElem? (i := 275) (by decide +kernel))) (by decide +kernel))
theorem wlX4_70 : Cond.methodLink RX4 70 yX4_isSmall ∈ gw := (gw_of (List.mem_append_right _ (List.mem_of_getElem? (i := 278) (by decide +kernel))) (by decide +kernel))
theorem wlX4_56 : Cond.methodLink RX4 56 yX6_at ∈ gw := (gw_of (List.mem_append_right _ (List.mem_of_getElem? (i := 268) (by decide +kernel))) (by decide +kernel))
theorem wlX4_59 : Cond.methodLink RX4 59 yX4_isLetter ∈ gw := (gw_of (List.mem_append_right _ (List.mem_of_getElem? (i := 269) (by decide +kernel))) (by decide +kernel))
theorem faX4_34_X6 : FA RX4 34 5 1 := ⟨RX6, "LadderForge$Text", TX6, 2, rfl, by decide, inwX6, Or.inr ⟨"LadderForge", (List.mem_of_getElem? (i := 2) (by decide +kernel))⟩, Or.inl rfl⟩
theorem wlX4_63 : Cond.methodLink RX4 63 yX4_isMoreOf ∈ gw := (gw_of (List.mem_append_right _ (List.mem_of_getElem? (i := 272) (by decide +kernel))) (by decide +kernel))
theorem faX4_18_X4 : FA RX4 18 3 3 := ⟨RX4, "LadderForge$NamedMaker", TX4, 5, rfl, by decide, inwX4, Or.inl (gw_of (List.mem_append_right _ (List.mem_of_getElem? (i := 96) (by decide +kernel))) (by decide +kernel)), Or.inl rfl⟩
theorem faX4_22_X4 : FA RX4 22 3 4 := ⟨RX4, "LadderForge$NamedMaker", TX4, 5, rfl, by decide, inwX4, Or.inl (gw_of (List.mem_append_right _ (List.mem_of_getElem? (i := 97) (by decide +kernel))) (by decide +kernel)), Or.inl rfl⟩
theorem faX4_49_X0 : FA RX4 49 0 3 := ⟨RX0, "LadderForge$Code", TX0, 4, rfl, by decide, inwX0, Or.inr ⟨"LadderForge", (List.mem_of_getElem? (i := 7) (by decide +kernel))⟩, Or.inl rfl⟩
theorem wlX4_95 : Cond.methodLink RX4 95 yX0_add ∈ gw := (gw_of (List.mem_append_right _ (List.mem_of_getElem? (i := 293) (by decide +kernel))) (by decide +kernel))
theorem wlX4_98 : Cond.methodLink RX4 98 yX2_hasNumber ∈ gw := (gw_of (List.mem_append_right _ (List.mem_of_getElem? (i := 364) (by decide +kernel))) (by decide +kernel))
theorem wlX4_73 : Cond.methodLink RX4 73 yX4_takesColon ∈ gw := (gw_of (List.mem_append_right _ (List.mem_of_getElem? (i := 285) (by decide +kernel))) (by decide +kernel))
theorem wlX4_76 : Cond.methodLink RX4 76 yX4_takesLetter ∈ gw := (gw_of (List.mem_append_right _ (List.mem_of_getElem? (i := 289) (by decide +kernel))) (by decide +kernel))
theorem wlX4_79 : Cond.methodLink RX4 79 yX4_takesPlace ∈ gw := (gw_of (List.mem_append_right _ (List.mem_of_getElem? (i := 297) (by decide +kernel))) (by decide +kernel))
theorem wlX4_82 : Cond.methodLink RX4 82 yX4_valueOf ∈ gw := (gw_of (List.mem_append_right _ (List.mem_of_getElem? (i := 301) (by decide +kernel))) (by decide +kernel))
theorem wlX4_86 : Cond.methodLink RX4 86 yX4_takesNumber ∈ gw := (gw_of (List.mem_append_right _ (List.mem_of_getElem? (i := 304) (by decide +kernel))) (by decide +kernel))
theorem wlX4_89 : Cond.methodLink RX4 89 yX4_wordOf ∈ gw := (gw_of (List.mem_append_right _ (List.mem_of_getElem? (i := 308) (by decide +kernel))) (by decide +kernel))
theorem wlX4_92 : Cond.methodLink RX4 92 yX4_takesWord ∈ gw := (gw_of (List.mem_append_right _ (List.mem_of_getElem? (i := 360) (by decide +kernel))) (by decide +kernel))
theorem wlX4_113 : Cond.methodLink RX4 113 yX0_ledAt ∈ gw := (gw_of (List.mem_append_right _ (List.mem_of_getElem? (i := 371) (by decide +kernel))) (by decide +kernel))
theorem wlX4_116 : Cond.methodLink RX4 116 yX0_change ∈ gw := (gw_of (List.mem_append_right _ (List.mem_of_getElem? (i := 375) (by decide +kernel))) (by decide +kernel))
theorem wlX4_25 : Cond.methodLink RX4 25 yX4_begin ∈ gw := (gw_of (List.mem_append_right _ (List.mem_of_getElem? (i := 257) (by decide +kernel))) (by decide +kernel))
theorem wlX4_28 : Cond.methodLink RX4 28 yX6_pastGap ∈ gw := (gw_of (List.mem_append_right _ (List.mem_of_getElem? (i := 261) (by decide +kernel))) (by decide +kernel))
theorem wlX4_37 : Cond.methodLink RX4 37 yX4_tokenSigns ∈ gw := (gw_of (List.mem_append_right _ (List.mem_of_getElem? (i := 265) (by decide +kernel))) (by decide +kernel))
theorem wlX4_41 : Cond.methodLink RX4 41 yX4_takes ∈ gw := (gw_of (List.mem_append_right _ (List.mem_of_getElem? (i := 281) (by decide +kernel))) (by decide +kernel))
theorem wlX4_52 : Cond.methodLink RX4 52 yX4_putPlaces ∈ gw := (gw_of (List.mem_append_right _ (List.mem_of_getElem? (i := 367) (by decide +kernel))) (by decide +kernel))
theorem wlX5_3 : Cond.methodLinkNest RX5 3 yX3_init "LadderForge" ∈ nw := (List.mem_of_getElem? (i := 5) (by decide +kernel))
theorem faX5_9_X5 : FA RX5 9 4 0 := ⟨RX5, "LadderForge$PairsMaker", TX5, 1, rfl, by decide, inwX5, Or.inl (gw_of (List.mem_append_right _ (List.mem_of_getElem? (i := 80) (by decide +kernel))) (by decide +kernel)), Or.inr (gw_of (List.mem_append_right _ (List.mem_of_getElem? (i := 81) (by decide +kernel))) (by decide +kernel))⟩
theorem fpX5_15_X0 : FP RX5 15 0 3 .int := ⟨RX0, "LadderForge$Code", TX0, 4, tyX0, rfl, by decide, inwX0, Or.inr ⟨"LadderForge", (List.mem_of_getElem? (i := 6) (by decide +kernel))⟩, Or.inl rfl, tyX0_ok, nmX0, rfl, by decide +kernel⟩
theorem wlX5_21 : Cond.methodLink RX5 21 yX6_pastGap ∈ gw := (gw_of (List.mem_append_right _ (List.mem_of_getElem? (i := 382) (by decide +kernel))) (by decide +kernel))
theorem faX5_27_X6 : FA RX5 27 5 1 := ⟨RX6, "LadderForge$Text", TX6, 2, rfl, by decide, inwX6, Or.inr ⟨"LadderForge", (List.mem_of_getElem? (i := 3) (by decide +kernel))⟩, Or.inl rfl⟩
theorem wlX5_28 : Cond.methodLink RX5 28 yX6_at ∈ gw := (gw_of (List.mem_append_right _ (List.mem_of_getElem? (i := 383) (by decide +kernel))) (by decide +kernel))
theorem wlX5_31 : Cond.methodLink RX5 31 yX5_digit ∈ gw := (gw_of (List.mem_append_right _ (List.mem_of_getElem? (i := 384) (by decide +kernel))) (by decide +kernel))
theorem wlX5_34 : Cond.methodLink RX5 34 yX0_add ∈ gw := (gw_of (List.mem_append_right _ (List.mem_of_getElem? (i := 387) (by decide +kernel))) (by decide +kernel))
theorem faX5_15_X0 : FA RX5 15 0 3 := ⟨RX0, "LadderForge$Code", TX0, 4, rfl, by decide, inwX0, Or.inr ⟨"LadderForge", (List.mem_of_getElem? (i := 6) (by decide +kernel))⟩, Or.inl rfl⟩
theorem wlX6_3 : Cond.methodLink RX6 3 objectInit ∈ gw := (gw_of (List.mem_append_right _ (List.mem_of_getElem? (i := 29) (by decide +kernel))) (by decide +kernel))
theorem ffX6_9_X6 : FPF RX6 9 5 0 (.array .int) := ⟨RX6, "LadderForge$Text", TX6, 2, tyX6, rfl, by decide, inwX6, (gw_of (List.mem_append_right _ (List.mem_of_getElem? (i := 30) (by decide +kernel))) (by decide +kernel)), Or.inl rfl, tyX6_ok, nmX6, rfl, rfl, by decide +kernel⟩
theorem fpX6_15_X6 : FP RX6 15 5 1 .int := ⟨RX6, "LadderForge$Text", TX6, 2, tyX6, rfl, by decide, inwX6, Or.inl (gw_of (List.mem_append_right _ (List.mem_of_getElem? (i := 31) (by decide +kernel))) (by decide +kernel)), Or.inl rfl, tyX6_ok, nmX6, rfl, by decide +kernel⟩
theorem wlX6_23 : Cond.methodLink RX6 23 yX6_add ∈ gw := (gw_of (List.mem_append_right _ (List.mem_of_getElem? (i := 233) (by decide +kernel))) (by decide +kernel))
theorem wlX7_1 : Cond.methodLink RX7 1 objectInit ∈ gw := (gw_of (List.mem_append_right _ (List.mem_of_getElem? (i := 408) (by decide +kernel))) (by decide +kernel))
theorem fpX7_7_X7 : FP RX7 7 6 4 .boolean := ⟨RX7, "LadderForge$Tool", TX7, 5, tyX7, rfl, by decide, inwX7, Or.inl (gw_of (List.mem_append_right _ (List.mem_of_getElem? (i := 417) (by decide +kernel))) (by decide +kernel)), Or.inl rfl, tyX7_ok, nmX7, rfl, by decide +kernel⟩
theorem ffX7_13_X7 : FPF RX7 13 6 0 (.object "LadderForge$Code") := ⟨RX7, "LadderForge$Tool", TX7, 5, tyX7, rfl, by decide, inwX7, (gw_of (List.mem_append_right _ (List.mem_of_getElem? (i := 409) (by decide +kernel))) (by decide +kernel)), Or.inl rfl, tyX7_ok, nmX7, rfl, rfl, by decide +kernel⟩
theorem ffX7_17_X7 : FPF RX7 17 6 1 .int := ⟨RX7, "LadderForge$Tool", TX7, 5, tyX7, rfl, by decide, inwX7, (gw_of (List.mem_append_right _ (List.mem_of_getElem? (i := 411) (by decide +kernel))) (by decide +kernel)), Or.inl rfl, tyX7_ok, nmX7, rfl, rfl, by decide +kernel⟩
theorem ffX7_21_X7 : FPF RX7 21 6 2 .int := ⟨RX7, "LadderForge$Tool", TX7, 5, tyX7, rfl, by decide, inwX7, (gw_of (List.mem_append_right _ (List.mem_of_getElem? (i := 413) (by decide +kernel))) (by decide +kernel)), Or.inl rfl, tyX7_ok, nmX7, rfl, rfl, by decide +kernel⟩
theorem ffX7_24_X7 : FPF RX7 24 6 3 .int := ⟨RX7, "LadderForge$Tool", TX7, 5, tyX7, rfl, by decide, inwX7, (gw_of (List.mem_append_right _ (List.mem_of_getElem? (i := 415) (by decide +kernel))) (by decide +kernel)), Or.inl rfl, tyX7_ok, nmX7, rfl, rfl, by decide +kernel⟩
theorem wlX8_1 : Cond.methodLink RX8 1 objectInit ∈ gw := (gw_of (List.mem_append_right _ (List.mem_of_getElem? (i := 21) (by decide +kernel))) (by decide +kernel))
theorem fnX8_7 : FN RX8 7 5 [.null, .int 0] := ⟨RX6, TX6, 2, tyX6, rfl, inwX6, tyX6_ok, (gw_of (List.mem_append_right _ (List.mem_of_getElem? (i := 24) (by decide +kernel))) (by decide +kernel)), (gw_of (List.mem_append_right _ (List.mem_of_getElem? (i := 25) (by decide +kernel))) (by decide +kernel)), (gw_of (List.mem_append_right _ (List.mem_of_getElem? (i := 2) (by decide +kernel))) (by decide +kernel)), by decide +kernel, rfl, fun _ => rfl⟩
theorem wlX8_9 : Cond.methodLinkNest RX8 9 yX6_init "LadderForge" ∈ nw := (List.mem_of_getElem? (i := 0) (by decide +kernel))
theorem ffX8_10_X8 : FPF RX8 10 7 0 (.object "LadderForge$Text") := ⟨RX8, "LadderForge", TX8, 11, tyX8, rfl, by decide, inwX8, (gw_of (List.mem_append_right _ (List.mem_of_getElem? (i := 171) (by decide +kernel))) (by decide +kernel)), Or.inl rfl, tyX8_ok, nmX8, rfl, rfl, by decide +kernel⟩
theorem wkX8_7 : Cond.classLink RX8 7 (kcl 2) ∈ gw := (gw_of (List.mem_append_right _ (List.mem_of_getElem? (i := 24) (by decide +kernel))) (by decide +kernel))
theorem ffX8_16_X8 : FPF RX8 16 7 1 (.array (.object "LadderForge$Text")) := ⟨RX8, "LadderForge", TX8, 11, tyX8, rfl, by decide, inwX8, (gw_of (List.mem_append_right _ (List.mem_of_getElem? (i := 172) (by decide +kernel))) (by decide +kernel)), Or.inl rfl, tyX8_ok, nmX8, rfl, rfl, by decide +kernel⟩
theorem wkX8_20 : Cond.classLink RX8 20 (kcl 3) ∈ gw := (gw_of (List.mem_append_right _ (List.mem_of_getElem? (i := 42) (by decide +kernel))) (by decide +kernel))
theorem ffX8_22_X8 : FPF RX8 22 7 2 (.array (.object "LadderForge$Tool")) := ⟨RX8, "LadderForge", TX8, 11, tyX8, rfl, by decide, inwX8, (gw_of (List.mem_append_right _ (List.mem_of_getElem? (i := 173) (by decide +kernel))) (by decide +kernel)), Or.inl rfl, tyX8_ok, nmX8, rfl, rfl, by decide +kernel⟩
theorem fpX8_26_X8 : FP RX8 26 7 3 .int := ⟨RX8, "LadderForge", TX8, 11, tyX8, rfl, by decide, inwX8, Or.inl (gw_of (List.mem_append_right _ (List.mem_of_getElem? (i := 174) (by decide +kernel))) (by decide +kernel)), Or.inl rfl, tyX8_ok, nmX8, rfl, by decide +kernel⟩
theorem fnX8_30 : FN RX8 30 4 [.null] := ⟨RX5, TX5, 1, tyX5, rfl, inwX5, tyX5_ok, (gw_of (List.mem_append_right _ (List.mem_of_getElem? (i := 44) (by decide +kernel))) (by decide +kernel)), (gw_of (List.mem_append_right _ (List.mem_of_getElem? (i := 45) (by decide +kernel))) (by decide +kernel)), (gw_of (List.mem_append_right _ (List.mem_of_getElem? (i := 4) (by decide +kernel))) (by decide +kernel)), by decide +kernel, rfl, fun _ => rfl⟩
theorem wlX8_32 : Cond.methodLinkNest RX8 32 yX5_init "LadderForge" ∈ nw := (List.mem_of_getElem? (i := 4) (by decide +kernel))
theorem ffX8_33_X8 : FPF RX8 33 7 4 (.object "LadderForge$Maker") := ⟨RX8, "LadderForge", TX8, 11, tyX8, rfl, by decide, inwX8, (gw_of (List.mem_append_right _ (List.mem_of_getElem? (i := 175) (by decide +kernel))) (by decide +kernel)), Or.inl rfl, tyX8_ok, nmX8, rfl, rfl, by decide +kernel⟩
theorem fnX8_37 : FN RX8 37 3 [.null, .null, .null, .int 0, .int 0] := ⟨RX4, TX4, 5, tyX4, rfl, inwX4, tyX4_ok, (gw_of (List.mem_append_right _ (List.mem_of_getElem? (i := 88) (by decide +kernel))) (by decide +kernel)), (gw_of (List.mem_append_right _ (List.mem_of_getElem? (i := 89) (by decide +kernel))) (by decide +kernel)), (gw_of (List.mem_append_right _ (List.mem_of_getElem? (i := 7) (by decide +kernel))) (by decide +kernel)), by decide +kernel, rfl, fun _ => rfl⟩
theorem wlX8_39 : Cond.methodLinkNest RX8 39 yX4_init "LadderForge" ∈ nw := (List.mem_of_getElem? (i := 10) (by decide +kernel))
theorem ffX8_40_X8 : FPF RX8 40 7 5 (.object "LadderForge$Maker") := ⟨RX8, "LadderForge", TX8, 11, tyX8, rfl, by decide, inwX8, (gw_of (List.mem_append_right _ (List.mem_of_getElem? (i := 176) (by decide +kernel))) (by decide +kernel)), Or.inl rfl, tyX8_ok, nmX8, rfl, rfl, by decide +kernel⟩
theorem fnX8_43 : FN RX8 43 2 [.null, .null, .int 0, .int 0, .int 0, .int 0, .int 0, .int 0, .int 0] := ⟨RX2, TX2, 9, tyX2, rfl, inwX2, tyX2_ok, (gw_of (List.mem_append_right _ (List.mem_of_getElem? (i := 108) (by decide +kernel))) (by decide +kernel)), (gw_of (List.mem_append_right _ (List.mem_of_getElem? (i := 109) (by decide +kernel))) (by decide +kernel)), (gw_of (List.mem_append_right _ (List.mem_of_getElem? (i := 8) (by decide +kernel))) (by decide +kernel)), by decide +kernel, rfl, fun _ => rfl⟩
theorem wlX8_45 : Cond.methodLinkNest RX8 45 yX2_init "LadderForge" ∈ nw := (List.mem_of_getElem? (i := 12) (by decide +kernel))
theorem ffX8_46_X8 : FPF RX8 46 7 6 (.object "LadderForge$Machine") := ⟨RX8, "LadderForge", TX8, 11, tyX8, rfl, by decide, inwX8, (gw_of (List.mem_append_right _ (List.mem_of_getElem? (i := 177) (by decide +kernel))) (by decide +kernel)), Or.inl rfl, tyX8_ok, nmX8, rfl, rfl, by decide +kernel⟩
theorem ffX8_50_X8 : FPF RX8 50 7 7 (.object "LadderForge$Machine") := ⟨RX8, "LadderForge", TX8, 11, tyX8, rfl, by decide, inwX8, (gw_of (List.mem_append_right _ (List.mem_of_getElem? (i := 178) (by decide +kernel))) (by decide +kernel)), Or.inl rfl, tyX8_ok, nmX8, rfl, rfl, by decide +kernel⟩
theorem ffX8_53_X8 : FPF RX8 53 7 8 (.object "LadderForge$Machine") := ⟨RX8, "LadderForge", TX8, 11, tyX8, rfl, by decide, inwX8, (gw_of (List.mem_append_right _ (List.mem_of_getElem? (i := 179) (by decide +kernel))) (by decide +kernel)), Or.inl rfl, tyX8_ok, nmX8, rfl, rfl, by decide +kernel⟩
theorem fnX8_56 : FN RX8 56 1 [.null, .null, .null, .int 0] := ⟨RX1, TX1, 4, tyX1, rfl, inwX1, tyX1_ok, (gw_of (List.mem_append_right _ (List.mem_of_getElem? (i := 151) (by decide +kernel))) (by decide +kernel)), (gw_of (List.mem_append_right _ (List.mem_of_getElem? (i := 152) (by decide +kernel))) (by decide +kernel)), (gw_of (List.mem_append_right _ (List.mem_of_getElem? (i := 9) (by decide +kernel))) (by decide +kernel)), by decide +kernel, rfl, fun _ => rfl⟩
theorem wlX8_58 : Cond.methodLinkNest RX8 58 yX1_init "LadderForge" ∈ nw := (List.mem_of_getElem? (i := 20) (by decide +kernel))
theorem ffX8_59_X8 : FPF RX8 59 7 9 (.object "LadderForge$Editions") := ⟨RX8, "LadderForge", TX8, 11, tyX8, rfl, by decide, inwX8, (gw_of (List.mem_append_right _ (List.mem_of_getElem? (i := 180) (by decide +kernel))) (by decide +kernel)), Or.inl rfl, tyX8_ok, nmX8, rfl, rfl, by decide +kernel⟩
theorem fpX8_63_X8 : FP RX8 63 7 10 .long := ⟨RX8, "LadderForge", TX8, 11, tyX8, rfl, by decide, inwX8, Or.inl (gw_of (List.mem_append_right _ (List.mem_of_getElem? (i := 181) (by decide +kernel))) (by decide +kernel)), Or.inl rfl, tyX8_ok, nmX8, rfl, by decide +kernel⟩
theorem faX8_16_X8 : FA RX8 16 7 1 := ⟨RX8, "LadderForge", TX8, 11, rfl, by decide, inwX8, Or.inl (gw_of (List.mem_append_right _ (List.mem_of_getElem? (i := 172) (by decide +kernel))) (by decide +kernel)), Or.inl rfl⟩
theorem faX8_10_X8 : FA RX8 10 7 0 := ⟨RX8, "LadderForge", TX8, 11, rfl, by decide, inwX8, Or.inl (gw_of (List.mem_append_right _ (List.mem_of_getElem? (i := 171) (by decide +kernel))) (by decide +kernel)), Or.inl rfl⟩
theorem faX8_67_X6 : FA RX8 67 5 1 := ⟨RX6, "LadderForge$Text", TX6, 2, rfl, by decide, inwX6, Or.inr ⟨"LadderForge", (List.mem_of_getElem? (i := 1) (by decide +kernel))⟩, Or.inl rfl⟩
theorem wlX8_70 : Cond.methodLink RX8 70 yX6_add ∈ gw := (gw_of (List.mem_append_right _ (List.mem_of_getElem? (i := 209) (by decide +kernel))) (by decide +kernel))
theorem fpX8_67_X6 : FP RX8 67 5 1 .int := ⟨RX6, "LadderForge$Text", TX6, 2, tyX6, rfl, by decide, inwX6, Or.inr ⟨"LadderForge", (List.mem_of_getElem? (i := 1) (by decide +kernel))⟩, Or.inl rfl, tyX6_ok, nmX6, rfl, by decide +kernel⟩
theorem wlX8_74 : Cond.methodLink RX8 74 yX8_textAt ∈ gw := (gw_of (List.mem_append_right _ (List.mem_of_getElem? (i := 221) (by decide +kernel))) (by decide +kernel))
theorem wlX8_78 : Cond.methodLink RX8 78 yX6_become ∈ gw := (gw_of (List.mem_append_right _ (List.mem_of_getElem? (i := 225) (by decide +kernel))) (by decide +kernel))
theorem wlX8_82 : Cond.methodLink RX8 82 yX6_at ∈ gw := (gw_of (List.mem_append_right _ (List.mem_of_getElem? (i := 238) (by decide +kernel))) (by decide +kernel))
theorem faX8_33_X8 : FA RX8 33 7 4 := ⟨RX8, "LadderForge", TX8, 11, rfl, by decide, inwX8, Or.inl (gw_of (List.mem_append_right _ (List.mem_of_getElem? (i := 175) (by decide +kernel))) (by decide +kernel)), Or.inl rfl⟩
theorem faX8_40_X8 : FA RX8 40 7 5 := ⟨RX8, "LadderForge", TX8, 11, rfl, by decide, inwX8, Or.inl (gw_of (List.mem_append_right _ (List.mem_of_getElem? (i := 176) (by decide +kernel))) (by decide +kernel)), Or.inl rfl⟩
theorem faX8_26_X8 : FA RX8 26 7 3 := ⟨RX8, "LadderForge", TX8, 11, rfl, by decide, inwX8, Or.inl (gw_of (List.mem_append_right _ (List.mem_of_getElem? (i := 174) (by decide +kernel))) (by decide +kernel)), Or.inl rfl⟩
theorem faX8_22_X8 : FA RX8 22 7 2 := ⟨RX8, "LadderForge", TX8, 11, rfl, by decide, inwX8, Or.inl (gw_of (List.mem_append_right _ (List.mem_of_getElem? (i := 173) (by decide +kernel))) (by decide +kernel)), Or.inl rfl⟩
theorem fnX8_20 : FN RX8 20 6 [.null, .int 0, .int 0, .int 0, .int 0] := ⟨RX7, TX7, 5, tyX7, rfl, inwX7, tyX7_ok, (gw_of (List.mem_append_right _ (List.mem_of_getElem? (i := 42) (by decide +kernel))) (by decide +kernel)), (gw_of (List.mem_append_right _ (List.mem_of_getElem? (i := 392) (by decide +kernel))) (by decide +kernel)), (gw_of (List.mem_append_right _ (List.mem_of_getElem? (i := 15) (by decide +kernel))) (by decide +kernel)), by decide +kernel, rfl, fun _ => rfl⟩
theorem wlX8_241 : Cond.methodLink RX8 241 yX0_copied ∈ gw := (gw_of (List.mem_append_right _ (List.mem_of_getElem? (i := 393) (by decide +kernel))) (by decide +kernel))
theorem wlX8_245 : Cond.methodLink RX8 245 yX7_init ∈ gw := (gw_of (List.mem_append_right _ (List.mem_of_getElem? (i := 405) (by decide +kernel))) (by decide +kernel))
theorem wlX8_228 : Cond.methodLink RX8 228 yX8_makerBy ∈ gw := (gw_of (List.mem_append_right _ (List.mem_of_getElem? (i := 247) (by decide +kernel))) (by decide +kernel))
def yMk_faultIn : MethodName := ⟨"LadderForge$Maker", "faultIn", "(LLadderForge$Text;)I"⟩
theorem wlX8_232 : Cond.methodLink RX8 232 yMk_faultIn ∈ gw := (gw_of (List.mem_append_right _ (List.mem_of_getElem? (i := 251) (by decide +kernel))) (by decide +kernel))
theorem wsmMk : Cond.sameMethod "LadderForge$Maker" "LadderForge$Maker" "faultIn" "(LLadderForge$Text;)I" ∈ gw := (gw_of (List.mem_append_right _ (List.mem_of_getElem? (i := 253) (by decide +kernel))) (by decide +kernel))
theorem wdMk : Cond.declares yMk_faultIn ∈ nw := (List.mem_of_getElem? (i := 22) (by decide +kernel))
theorem wsaX4 : Cond.selects RX4 yMk_faultIn yX4_faultIn ∈ gw := (gw_of (List.mem_append_right _ (List.mem_of_getElem? (i := 254) (by decide +kernel))) (by decide +kernel))
theorem wsaX5 : Cond.selects RX5 yMk_faultIn yX5_faultIn ∈ gw := (gw_of (List.mem_append_right _ (List.mem_of_getElem? (i := 379) (by decide +kernel))) (by decide +kernel))
theorem faX8_238_X4 : FA RX8 238 3 0 := ⟨RX4, "LadderForge$Maker", TX4, 5, rfl, by decide, inwX4, Or.inl (gw_of (List.mem_append_right _ (List.mem_of_getElem? (i := 84) (by decide +kernel))) (by decide +kernel)), Or.inl rfl⟩
theorem faX8_238_X5 : FA RX8 238 4 0 := ⟨RX5, "LadderForge$Maker", TX5, 1, rfl, by decide, inwX5, Or.inl (gw_of (List.mem_append_right _ (List.mem_of_getElem? (i := 84) (by decide +kernel))) (by decide +kernel)), Or.inl rfl⟩
theorem wlX8_105 : Cond.methodLink RX8 105 yX8_keep ∈ gw := (gw_of (List.mem_append_right _ (List.mem_of_getElem? (i := 388) (by decide +kernel))) (by decide +kernel))
theorem wlX8_86 : Cond.methodLink RX8 86 yX8_make ∈ gw := (gw_of (List.mem_append_right _ (List.mem_of_getElem? (i := 243) (by decide +kernel))) (by decide +kernel))
theorem wlX8_90 : Cond.methodLink RX8 90 yX8_toolAt ∈ gw := (gw_of (List.mem_append_right _ (List.mem_of_getElem? (i := 439) (by decide +kernel))) (by decide +kernel))
theorem faX8_50_X8 : FA RX8 50 7 7 := ⟨RX8, "LadderForge", TX8, 11, rfl, by decide, inwX8, Or.inl (gw_of (List.mem_append_right _ (List.mem_of_getElem? (i := 178) (by decide +kernel))) (by decide +kernel)), Or.inl rfl⟩
theorem faX8_94_X7 : FA RX8 94 6 0 := ⟨RX7, "LadderForge$Tool", TX7, 5, rfl, by decide, inwX7, Or.inr ⟨"LadderForge", (List.mem_of_getElem? (i := 23) (by decide +kernel))⟩, Or.inl rfl⟩
theorem wlX8_98 : Cond.methodLink RX8 98 yX2_builds ∈ gw := (gw_of (List.mem_append_right _ (List.mem_of_getElem? (i := 443) (by decide +kernel))) (by decide +kernel))
theorem faX8_102_X2 : FA RX8 102 2 1 := ⟨RX2, "LadderForge$Machine", TX2, 9, rfl, by decide, inwX2, Or.inr ⟨"LadderForge", (List.mem_of_getElem? (i := 13) (by decide +kernel))⟩, Or.inl rfl⟩
theorem faX8_109_X0 : FA RX8 109 0 3 := ⟨RX0, "LadderForge$Code", TX0, 4, rfl, by decide, inwX0, Or.inr ⟨"LadderForge", (List.mem_of_getElem? (i := 9) (by decide +kernel))⟩, Or.inl rfl⟩
theorem faX8_112_X7 : FA RX8 112 6 1 := ⟨RX7, "LadderForge$Tool", TX7, 5, rfl, by decide, inwX7, Or.inr ⟨"LadderForge", (List.mem_of_getElem? (i := 24) (by decide +kernel))⟩, Or.inl rfl⟩
theorem faX8_115_X7 : FA RX8 115 6 2 := ⟨RX7, "LadderForge$Tool", TX7, 5, rfl, by decide, inwX7, Or.inr ⟨"LadderForge", (List.mem_of_getElem? (i := 25) (by decide +kernel))⟩, Or.inl rfl⟩
theorem faX8_118_X7 : FA RX8 118 6 3 := ⟨RX7, "LadderForge$Tool", TX7, 5, rfl, by decide, inwX7, Or.inr ⟨"LadderForge", (List.mem_of_getElem? (i := 26) (by decide +kernel))⟩, Or.inl rfl⟩
theorem faX8_121_X7 : FA RX8 121 6 4 := ⟨RX7, "LadderForge$Tool", TX7, 5, rfl, by decide, inwX7, Or.inr ⟨"LadderForge", (List.mem_of_getElem? (i := 27) (by decide +kernel))⟩, Or.inl rfl⟩
theorem wlX8_125 : Cond.methodLink RX8 125 yX0_at ∈ gw := (gw_of (List.mem_append_right _ (List.mem_of_getElem? (i := 482) (by decide +kernel))) (by decide +kernel))
theorem wlX8_126 : Cond.methodLink RX8 126 yX0_ledAt ∈ gw := (gw_of (List.mem_append_right _ (List.mem_of_getElem? (i := 483) (by decide +kernel))) (by decide +kernel))
theorem faX8_46_X8 : FA RX8 46 7 6 := ⟨RX8, "LadderForge", TX8, 11, rfl, by decide, inwX8, Or.inl (gw_of (List.mem_append_right _ (List.mem_of_getElem? (i := 177) (by decide +kernel))) (by decide +kernel)), Or.inl rfl⟩
theorem wlX8_129 : Cond.methodLink RX8 129 yX2_goThrough ∈ gw := (gw_of (List.mem_append_right _ (List.mem_of_getElem? (i := 488) (by decide +kernel))) (by decide +kernel))
theorem faX8_133_X2 : FA RX8 133 2 8 := ⟨RX2, "LadderForge$Machine", TX2, 9, rfl, by decide, inwX2, Or.inr ⟨"LadderForge", (List.mem_of_getElem? (i := 19) (by decide +kernel))⟩, Or.inl rfl⟩
theorem faX8_136_X2 : FA RX8 136 2 6 := ⟨RX2, "LadderForge$Machine", TX2, 9, rfl, by decide, inwX2, Or.inr ⟨"LadderForge", (List.mem_of_getElem? (i := 17) (by decide +kernel))⟩, Or.inl rfl⟩
theorem faX8_139_X2 : FA RX8 139 2 7 := ⟨RX2, "LadderForge$Machine", TX2, 9, rfl, by decide, inwX2, Or.inr ⟨"LadderForge", (List.mem_of_getElem? (i := 18) (by decide +kernel))⟩, Or.inl rfl⟩
theorem faX8_142_X2 : FA RX8 142 2 2 := ⟨RX2, "LadderForge$Machine", TX2, 9, rfl, by decide, inwX2, Or.inr ⟨"LadderForge", (List.mem_of_getElem? (i := 14) (by decide +kernel))⟩, Or.inl rfl⟩
theorem faX8_145_X2 : FA RX8 145 2 3 := ⟨RX2, "LadderForge$Machine", TX2, 9, rfl, by decide, inwX2, Or.inr ⟨"LadderForge", (List.mem_of_getElem? (i := 15) (by decide +kernel))⟩, Or.inl rfl⟩
theorem faX8_148_X2 : FA RX8 148 2 4 := ⟨RX2, "LadderForge$Machine", TX2, 9, rfl, by decide, inwX2, Or.inr ⟨"LadderForge", (List.mem_of_getElem? (i := 16) (by decide +kernel))⟩, Or.inl rfl⟩
theorem wlX8_151 : Cond.methodLink RX8 151 yX2_memoryAt ∈ gw := (gw_of (List.mem_append_right _ (List.mem_of_getElem? (i := 497) (by decide +kernel))) (by decide +kernel))
theorem wlX8_162 : Cond.methodLink RX8 162 yX0_unlike ∈ gw := (gw_of (List.mem_append_right _ (List.mem_of_getElem? (i := 513) (by decide +kernel))) (by decide +kernel))
theorem wlX8_248 : Cond.methodLink RX8 248 yX8_builtAgain ∈ gw := (gw_of (List.mem_append_right _ (List.mem_of_getElem? (i := 509) (by decide +kernel))) (by decide +kernel))
theorem wlX8_154 : Cond.methodLink RX8 154 yX8_madeAgain ∈ gw := (gw_of (List.mem_append_right _ (List.mem_of_getElem? (i := 505) (by decide +kernel))) (by decide +kernel))
theorem wlX8_180 : Cond.methodLink RX8 180 yX8_hasBit ∈ gw := (gw_of (List.mem_append_right _ (List.mem_of_getElem? (i := 528) (by decide +kernel))) (by decide +kernel))
theorem wlX8_252 : Cond.methodLink RX8 252 yX8_isBuiltByOneOf ∈ gw := (gw_of (List.mem_append_right _ (List.mem_of_getElem? (i := 525) (by decide +kernel))) (by decide +kernel))
theorem wlX8_158 : Cond.methodLink RX8 158 yX8_staleBits ∈ gw := (gw_of (List.mem_append_right _ (List.mem_of_getElem? (i := 521) (by decide +kernel))) (by decide +kernel))
theorem faX8_53_X8 : FA RX8 53 7 8 := ⟨RX8, "LadderForge", TX8, 11, rfl, by decide, inwX8, Or.inl (gw_of (List.mem_append_right _ (List.mem_of_getElem? (i := 179) (by decide +kernel))) (by decide +kernel)), Or.inl rfl⟩
theorem wlX8_166 : Cond.methodLink RX8 166 yX8_goneRound ∈ gw := (gw_of (List.mem_append_right _ (List.mem_of_getElem? (i := 539) (by decide +kernel))) (by decide +kernel))
theorem fpX8_121_X7 : FP RX8 121 6 4 .boolean := ⟨RX7, "LadderForge$Tool", TX7, 5, tyX7, rfl, by decide, inwX7, Or.inr ⟨"LadderForge", (List.mem_of_getElem? (i := 27) (by decide +kernel))⟩, Or.inl rfl, tyX7_ok, nmX7, rfl, by decide +kernel⟩
theorem wlX8_170 : Cond.methodLink RX8 170 yX8_chainLength ∈ gw := (gw_of (List.mem_append_right _ (List.mem_of_getElem? (i := 555) (by decide +kernel))) (by decide +kernel))
theorem wlX8_173 : Cond.methodLink RX8 173 yX8_chainAt ∈ gw := (gw_of (List.mem_append_right _ (List.mem_of_getElem? (i := 559) (by decide +kernel))) (by decide +kernel))
theorem wlX8_183 : Cond.methodLink RX8 183 yX8_chainEnd ∈ gw := (gw_of (List.mem_append_right _ (List.mem_of_getElem? (i := 571) (by decide +kernel))) (by decide +kernel))
theorem wlX8_176 : Cond.methodLink RX8 176 yX8_isSealed ∈ gw := (gw_of (List.mem_append_right _ (List.mem_of_getElem? (i := 567) (by decide +kernel))) (by decide +kernel))
theorem wnX8_186 : Cond.constant RX8 186 (65535) ∈ gw := (gw_of (List.mem_append_right _ (List.mem_of_getElem? (i := 587) (by decide +kernel))) (by decide +kernel))
theorem faX8_59_X8 : FA RX8 59 7 9 := ⟨RX8, "LadderForge", TX8, 11, rfl, by decide, inwX8, Or.inl (gw_of (List.mem_append_right _ (List.mem_of_getElem? (i := 180) (by decide +kernel))) (by decide +kernel)), Or.inl rfl⟩
theorem wlX8_187 : Cond.methodLink RX8 187 yX1_add ∈ gw := (gw_of (List.mem_append_right _ (List.mem_of_getElem? (i := 588) (by decide +kernel))) (by decide +kernel))
theorem wlX8_189 : Cond.methodLink RX8 189 yX1_has ∈ gw := (gw_of (List.mem_append_right _ (List.mem_of_getElem? (i := 596) (by decide +kernel))) (by decide +kernel))
theorem wlX8_193 : Cond.methodLink RX8 193 yX1_fewest ∈ gw := (gw_of (List.mem_append_right _ (List.mem_of_getElem? (i := 600) (by decide +kernel))) (by decide +kernel))
theorem wlX8_197 : Cond.methodLink RX8 197 yX1_step ∈ gw := (gw_of (List.mem_append_right _ (List.mem_of_getElem? (i := 613) (by decide +kernel))) (by decide +kernel))
theorem faX8_63_X8 : FA RX8 63 7 10 := ⟨RX8, "LadderForge", TX8, 11, rfl, by decide, inwX8, Or.inl (gw_of (List.mem_append_right _ (List.mem_of_getElem? (i := 181) (by decide +kernel))) (by decide +kernel)), Or.inl rfl⟩
theorem wnX8_256 : Cond.constantLong RX8 256 (10) ∈ gw := (gw_of (List.mem_append_right _ (List.mem_of_getElem? (i := 633) (by decide +kernel))) (by decide +kernel))
theorem wlX8_200 : Cond.methodLink RX8 200 yX8_asTool ∈ gw := (gw_of (List.mem_append_right _ (List.mem_of_getElem? (i := 625) (by decide +kernel))) (by decide +kernel))
theorem wnX8_258 : Cond.constantLong RX8 258 (100) ∈ gw := (gw_of (List.mem_append_right _ (List.mem_of_getElem? (i := 638) (by decide +kernel))) (by decide +kernel))
theorem wlX8_260 : Cond.methodLink RX8 260 yX0_beyondOrders ∈ gw := (gw_of (List.mem_append_right _ (List.mem_of_getElem? (i := 639) (by decide +kernel))) (by decide +kernel))
theorem wnX8_263 : Cond.constantLong RX8 263 (1000) ∈ gw := (gw_of (List.mem_append_right _ (List.mem_of_getElem? (i := 647) (by decide +kernel))) (by decide +kernel))
theorem wlX8_206 : Cond.methodLink RX8 206 yX8_asNamed ∈ gw := (gw_of (List.mem_append_right _ (List.mem_of_getElem? (i := 634) (by decide +kernel))) (by decide +kernel))
theorem wnX8_265 : Cond.constantLong RX8 265 (10000) ∈ gw := (gw_of (List.mem_append_right _ (List.mem_of_getElem? (i := 652) (by decide +kernel))) (by decide +kernel))
theorem wlX8_209 : Cond.methodLink RX8 209 yX8_asBuilt ∈ gw := (gw_of (List.mem_append_right _ (List.mem_of_getElem? (i := 643) (by decide +kernel))) (by decide +kernel))
theorem wnX8_267 : Cond.constantLong RX8 267 (100000) ∈ gw := (gw_of (List.mem_append_right _ (List.mem_of_getElem? (i := 657) (by decide +kernel))) (by decide +kernel))
theorem wlX8_203 : Cond.methodLink RX8 203 yX8_asPaired ∈ gw := (gw_of (List.mem_append_right _ (List.mem_of_getElem? (i := 629) (by decide +kernel))) (by decide +kernel))
theorem wlX8_213 : Cond.methodLink RX8 213 yX8_asSealed ∈ gw := (gw_of (List.mem_append_right _ (List.mem_of_getElem? (i := 648) (by decide +kernel))) (by decide +kernel))
theorem wlX8_216 : Cond.methodLink RX8 216 yX8_asDoubted ∈ gw := (gw_of (List.mem_append_right _ (List.mem_of_getElem? (i := 653) (by decide +kernel))) (by decide +kernel))
theorem faX8_219_X1 : FA RX8 219 1 3 := ⟨RX1, "LadderForge$Editions", TX1, 4, rfl, by decide, inwX1, Or.inr ⟨"LadderForge", (List.mem_of_getElem? (i := 21) (by decide +kernel))⟩, Or.inl rfl⟩
theorem wlX8_222 : Cond.methodLink RX8 222 yX8_checkedTools ∈ gw := (gw_of (List.mem_append_right _ (List.mem_of_getElem? (i := 662) (by decide +kernel))) (by decide +kernel))
theorem wlX8_225 : Cond.methodLink RX8 225 yX8_sealedTools ∈ gw := (gw_of (List.mem_append_right _ (List.mem_of_getElem? (i := 666) (by decide +kernel))) (by decide +kernel))
theorem wlX9_1 : Cond.methodLink RX9 1 objectInit ∈ gw := (gw_of (List.mem_append_right _ (List.mem_of_getElem? (i := 679) (by decide +kernel))) (by decide +kernel))
theorem ffX9_7_X9 : FPF RX9 7 8 1 (.array .byte) := ⟨RX9, "LadderForgeModel", TX9, 39, tyX9, rfl, by decide, inwX9, (gw_of (List.mem_append_right _ (List.mem_of_getElem? (i := 681) (by decide +kernel))) (by decide +kernel)), Or.inl rfl, tyX9_ok, nmX9, rfl, rfl, by decide +kernel⟩
theorem ffX9_13_X9 : FPF RX9 13 8 3 (.array .byte) := ⟨RX9, "LadderForgeModel", TX9, 39, tyX9, rfl, by decide, inwX9, (gw_of (List.mem_append_right _ (List.mem_of_getElem? (i := 683) (by decide +kernel))) (by decide +kernel)), Or.inl rfl, tyX9_ok, nmX9, rfl, rfl, by decide +kernel⟩
theorem ffX9_16_X9 : FPF RX9 16 8 4 (.array .int) := ⟨RX9, "LadderForgeModel", TX9, 39, tyX9, rfl, by decide, inwX9, (gw_of (List.mem_append_right _ (List.mem_of_getElem? (i := 684) (by decide +kernel))) (by decide +kernel)), Or.inl rfl, tyX9_ok, nmX9, rfl, rfl, by decide +kernel⟩
theorem ffX9_20_X9 : FPF RX9 20 8 6 (.array .int) := ⟨RX9, "LadderForgeModel", TX9, 39, tyX9, rfl, by decide, inwX9, (gw_of (List.mem_append_right _ (List.mem_of_getElem? (i := 686) (by decide +kernel))) (by decide +kernel)), Or.inl rfl, tyX9_ok, nmX9, rfl, rfl, by decide +kernel⟩
theorem ffX9_23_X9 : FPF RX9 23 8 7 (.array .int) := ⟨RX9, "LadderForgeModel", TX9, 39, tyX9, rfl, by decide, inwX9, (gw_of (List.mem_append_right _ (List.mem_of_getElem? (i := 687) (by decide +kernel))) (by decide +kernel)), Or.inl rfl, tyX9_ok, nmX9, rfl, rfl, by decide +kernel⟩
theorem ffX9_26_X9 : FPF RX9 26 8 8 (.array .int) := ⟨RX9, "LadderForgeModel", TX9, 39, tyX9, rfl, by decide, inwX9, (gw_of (List.mem_append_right _ (List.mem_of_getElem? (i := 688) (by decide +kernel))) (by decide +kernel)), Or.inl rfl, tyX9_ok, nmX9, rfl, rfl, by decide +kernel⟩
theorem ffX9_29_X9 : FPF RX9 29 8 9 (.array .int) := ⟨RX9, "LadderForgeModel", TX9, 39, tyX9, rfl, by decide, inwX9, (gw_of (List.mem_append_right _ (List.mem_of_getElem? (i := 689) (by decide +kernel))) (by decide +kernel)), Or.inl rfl, tyX9_ok, nmX9, rfl, rfl, by decide +kernel⟩
theorem ffX9_32_X9 : FPF RX9 32 8 10 (.array .int) := ⟨RX9, "LadderForgeModel", TX9, 39, tyX9, rfl, by decide, inwX9, (gw_of (List.mem_append_right _ (List.mem_of_getElem? (i := 690) (by decide +kernel))) (by decide +kernel)), Or.inl rfl, tyX9_ok, nmX9, rfl, rfl, by decide +kernel⟩
theorem ffX9_35_X9 : FPF RX9 35 8 11 (.array .int) := ⟨RX9, "LadderForgeModel", TX9, 39, tyX9, rfl, by decide, inwX9, (gw_of (List.mem_append_right _ (List.mem_of_getElem? (i := 691) (by decide +kernel))) (by decide +kernel)), Or.inl rfl, tyX9_ok, nmX9, rfl, rfl, by decide +kernel⟩
theorem ffX9_38_X9 : FPF RX9 38 8 12 (.array .int) := ⟨RX9, "LadderForgeModel", TX9, 39, tyX9, rfl, by decide, inwX9, (gw_of (List.mem_append_right _ (List.mem_of_getElem? (i := 692) (by decide +kernel))) (by decide +kernel)), Or.inl rfl, tyX9_ok, nmX9, rfl, rfl, by decide +kernel⟩
theorem ffX9_41_X9 : FPF RX9 41 8 21 (.array .int) := ⟨RX9, "LadderForgeModel", TX9, 39, tyX9, rfl, by decide, inwX9, (gw_of (List.mem_append_right _ (List.mem_of_getElem? (i := 701) (by decide +kernel))) (by decide +kernel)), Or.inl rfl, tyX9_ok, nmX9, rfl, rfl, by decide +kernel⟩
theorem ffX9_44_X9 : FPF RX9 44 8 22 (.array .int) := ⟨RX9, "LadderForgeModel", TX9, 39, tyX9, rfl, by decide, inwX9, (gw_of (List.mem_append_right _ (List.mem_of_getElem? (i := 702) (by decide +kernel))) (by decide +kernel)), Or.inl rfl, tyX9_ok, nmX9, rfl, rfl, by decide +kernel⟩
theorem ffX9_47_X9 : FPF RX9 47 8 23 (.array .int) := ⟨RX9, "LadderForgeModel", TX9, 39, tyX9, rfl, by decide, inwX9, (gw_of (List.mem_append_right _ (List.mem_of_getElem? (i := 703) (by decide +kernel))) (by decide +kernel)), Or.inl rfl, tyX9_ok, nmX9, rfl, rfl, by decide +kernel⟩
theorem ffX9_50_X9 : FPF RX9 50 8 24 (.array .int) := ⟨RX9, "LadderForgeModel", TX9, 39, tyX9, rfl, by decide, inwX9, (gw_of (List.mem_append_right _ (List.mem_of_getElem? (i := 704) (by decide +kernel))) (by decide +kernel)), Or.inl rfl, tyX9_ok, nmX9, rfl, rfl, by decide +kernel⟩
theorem ffX9_53_X9 : FPF RX9 53 8 32 (.array .int) := ⟨RX9, "LadderForgeModel", TX9, 39, tyX9, rfl, by decide, inwX9, (gw_of (List.mem_append_right _ (List.mem_of_getElem? (i := 712) (by decide +kernel))) (by decide +kernel)), Or.inl rfl, tyX9_ok, nmX9, rfl, rfl, by decide +kernel⟩
theorem ffX9_56_X9 : FPF RX9 56 8 33 (.array .int) := ⟨RX9, "LadderForgeModel", TX9, 39, tyX9, rfl, by decide, inwX9, (gw_of (List.mem_append_right _ (List.mem_of_getElem? (i := 713) (by decide +kernel))) (by decide +kernel)), Or.inl rfl, tyX9_ok, nmX9, rfl, rfl, by decide +kernel⟩
theorem ffX9_59_X9 : FPF RX9 59 8 34 (.array .int) := ⟨RX9, "LadderForgeModel", TX9, 39, tyX9, rfl, by decide, inwX9, (gw_of (List.mem_append_right _ (List.mem_of_getElem? (i := 714) (by decide +kernel))) (by decide +kernel)), Or.inl rfl, tyX9_ok, nmX9, rfl, rfl, by decide +kernel⟩
theorem ffX9_62_X9 : FPF RX9 62 8 36 (.array .int) := ⟨RX9, "LadderForgeModel", TX9, 39, tyX9, rfl, by decide, inwX9, (gw_of (List.mem_append_right _ (List.mem_of_getElem? (i := 716) (by decide +kernel))) (by decide +kernel)), Or.inl rfl, tyX9_ok, nmX9, rfl, rfl, by decide +kernel⟩
theorem ffX9_65_X9 : FPF RX9 65 8 37 (.array .int) := ⟨RX9, "LadderForgeModel", TX9, 39, tyX9, rfl, by decide, inwX9, (gw_of (List.mem_append_right _ (List.mem_of_getElem? (i := 717) (by decide +kernel))) (by decide +kernel)), Or.inl rfl, tyX9_ok, nmX9, rfl, rfl, by decide +kernel⟩
theorem ffX9_68_X9 : FPF RX9 68 8 38 (.array .int) := ⟨RX9, "LadderForgeModel", TX9, 39, tyX9, rfl, by decide, inwX9, (gw_of (List.mem_append_right _ (List.mem_of_getElem? (i := 718) (by decide +kernel))) (by decide +kernel)), Or.inl rfl, tyX9_ok, nmX9, rfl, rfl, by decide +kernel⟩
theorem fpX9_71_X9 : FP RX9 71 8 2 .int := ⟨RX9, "LadderForgeModel", TX9, 39, tyX9, rfl, by decide, inwX9, Or.inl (gw_of (List.mem_append_right _ (List.mem_of_getElem? (i := 682) (by decide +kernel))) (by decide +kernel)), Or.inl rfl, tyX9_ok, nmX9, rfl, by decide +kernel⟩
theorem wlX9_75 : Cond.methodLink RX9 75 yX9_in ∈ gw := (gw_of (List.mem_append_right _ (List.mem_of_getElem? (i := 802) (by decide +kernel))) (by decide +kernel))
theorem faX9_71_X9 : FA RX9 71 8 2 := ⟨RX9, "LadderForgeModel", TX9, 39, rfl, by decide, inwX9, Or.inl (gw_of (List.mem_append_right _ (List.mem_of_getElem? (i := 682) (by decide +kernel))) (by decide +kernel)), Or.inl rfl⟩
theorem faX9_7_X9 : FA RX9 7 8 1 := ⟨RX9, "LadderForgeModel", TX9, 39, rfl, by decide, inwX9, Or.inl (gw_of (List.mem_append_right _ (List.mem_of_getElem? (i := 681) (by decide +kernel))) (by decide +kernel)), Or.inl rfl⟩
theorem wnX9_79 : Cond.constantLong RX9 79 (255) ∈ gw := (gw_of (List.mem_append_right _ (List.mem_of_getElem? (i := 805) (by decide +kernel))) (by decide +kernel))
theorem wlX9_81 : Cond.methodLink RX9 81 yX9_isText ∈ gw := (gw_of (List.mem_append_right _ (List.mem_of_getElem? (i := 814) (by decide +kernel))) (by decide +kernel))
theorem faX9_13_X9 : FA RX9 13 8 3 := ⟨RX9, "LadderForgeModel", TX9, 39, rfl, by decide, inwX9, Or.inl (gw_of (List.mem_append_right _ (List.mem_of_getElem? (i := 683) (by decide +kernel))) (by decide +kernel)), Or.inl rfl⟩
theorem faX9_16_X9 : FA RX9 16 8 4 := ⟨RX9, "LadderForgeModel", TX9, 39, rfl, by decide, inwX9, Or.inl (gw_of (List.mem_append_right _ (List.mem_of_getElem? (i := 684) (by decide +kernel))) (by decide +kernel)), Or.inl rfl⟩
theorem faX9_85_X9 : FA RX9 85 8 5 := ⟨RX9, "LadderForgeModel", TX9, 39, rfl, by decide, inwX9, Or.inl (gw_of (List.mem_append_right _ (List.mem_of_getElem? (i := 685) (by decide +kernel))) (by decide +kernel)), Or.inl rfl⟩
theorem faX9_20_X9 : FA RX9 20 8 6 := ⟨RX9, "LadderForgeModel", TX9, 39, rfl, by decide, inwX9, Or.inl (gw_of (List.mem_append_right _ (List.mem_of_getElem? (i := 686) (by decide +kernel))) (by decide +kernel)), Or.inl rfl⟩
theorem faX9_26_X9 : FA RX9 26 8 8 := ⟨RX9, "LadderForgeModel", TX9, 39, rfl, by decide, inwX9, Or.inl (gw_of (List.mem_append_right _ (List.mem_of_getElem? (i := 688) (by decide +kernel))) (by decide +kernel)), Or.inl rfl⟩
theorem faX9_23_X9 : FA RX9 23 8 7 := ⟨RX9, "LadderForgeModel", TX9, 39, rfl, by decide, inwX9, Or.inl (gw_of (List.mem_append_right _ (List.mem_of_getElem? (i := 687) (by decide +kernel))) (by decide +kernel)), Or.inl rfl⟩
theorem faX9_88_X9 : FA RX9 88 8 15 := ⟨RX9, "LadderForgeModel", TX9, 39, rfl, by decide, inwX9, Or.inl (gw_of (List.mem_append_right _ (List.mem_of_getElem? (i := 695) (by decide +kernel))) (by decide +kernel)), Or.inl rfl⟩
theorem faX9_91_X9 : FA RX9 91 8 14 := ⟨RX9, "LadderForgeModel", TX9, 39, rfl, by decide, inwX9, Or.inl (gw_of (List.mem_append_right _ (List.mem_of_getElem? (i := 694) (by decide +kernel))) (by decide +kernel)), Or.inl rfl⟩
theorem faX9_94_X9 : FA RX9 94 8 13 := ⟨RX9, "LadderForgeModel", TX9, 39, rfl, by decide, inwX9, Or.inl (gw_of (List.mem_append_right _ (List.mem_of_getElem? (i := 693) (by decide +kernel))) (by decide +kernel)), Or.inl rfl⟩
theorem fpX9_94_X9 : FP RX9 94 8 13 .int := ⟨RX9, "LadderForgeModel", TX9, 39, tyX9, rfl, by decide, inwX9, Or.inl (gw_of (List.mem_append_right _ (List.mem_of_getElem? (i := 693) (by decide +kernel))) (by decide +kernel)), Or.inl rfl, tyX9_ok, nmX9, rfl, by decide +kernel⟩
theorem fpX9_91_X9 : FP RX9 91 8 14 .int := ⟨RX9, "LadderForgeModel", TX9, 39, tyX9, rfl, by decide, inwX9, Or.inl (gw_of (List.mem_append_right _ (List.mem_of_getElem? (i := 694) (by decide +kernel))) (by decide +kernel)), Or.inl rfl, tyX9_ok, nmX9, rfl, by decide +kernel⟩
theorem fpX9_88_X9 : FP RX9 88 8 15 .int := ⟨RX9, "LadderForgeModel", TX9, 39, tyX9, rfl, by decide, inwX9, Or.inl (gw_of (List.mem_append_right _ (List.mem_of_getElem? (i := 695) (by decide +kernel))) (by decide +kernel)), Or.inl rfl, tyX9_ok, nmX9, rfl, by decide +kernel⟩
theorem fpX9_97_X9 : FP RX9 97 8 16 .int := ⟨RX9, "LadderForgeModel", TX9, 39, tyX9, rfl, by decide, inwX9, Or.inl (gw_of (List.mem_append_right _ (List.mem_of_getElem? (i := 696) (by decide +kernel))) (by decide +kernel)), Or.inl rfl, tyX9_ok, nmX9, rfl, by decide +kernel⟩
theorem wlX9_100 : Cond.methodLink RX9 100 yX9_here ∈ gw := (gw_of (List.mem_append_right _ (List.mem_of_getElem? (i := 841) (by decide +kernel))) (by decide +kernel))
theorem wlX9_104 : Cond.methodLink RX9 104 yX9_open ∈ gw := (gw_of (List.mem_append_right _ (List.mem_of_getElem? (i := 833) (by decide +kernel))) (by decide +kernel))
theorem wlX9_108 : Cond.methodLink RX9 108 yX9_pass ∈ gw := (gw_of (List.mem_append_right _ (List.mem_of_getElem? (i := 837) (by decide +kernel))) (by decide +kernel))
theorem wlX9_111 : Cond.methodLink RX9 111 yX9_digit ∈ gw := (gw_of (List.mem_append_right _ (List.mem_of_getElem? (i := 845) (by decide +kernel))) (by decide +kernel))
theorem wlX9_115 : Cond.methodLink RX9 115 yX9_add ∈ gw := (gw_of (List.mem_append_right _ (List.mem_of_getElem? (i := 848) (by decide +kernel))) (by decide +kernel))
theorem wnX9_119 : Cond.constantLong RX9 119 (27) ∈ gw := (gw_of (List.mem_append_right _ (List.mem_of_getElem? (i := 867) (by decide +kernel))) (by decide +kernel))
theorem wnX9_121 : Cond.constantLong RX9 121 (97) ∈ gw := (gw_of (List.mem_append_right _ (List.mem_of_getElem? (i := 868) (by decide +kernel))) (by decide +kernel))
theorem wlX9_123 : Cond.methodLink RX9 123 yX9_more ∈ gw := (gw_of (List.mem_append_right _ (List.mem_of_getElem? (i := 864) (by decide +kernel))) (by decide +kernel))
theorem wlX9_127 : Cond.methodLink RX9 127 yX9_spelled ∈ gw := (gw_of (List.mem_append_right _ (List.mem_of_getElem? (i := 869) (by decide +kernel))) (by decide +kernel))
theorem fpX9_131_X9 : FP RX9 131 8 20 .int := ⟨RX9, "LadderForgeModel", TX9, 39, tyX9, rfl, by decide, inwX9, Or.inl (gw_of (List.mem_append_right _ (List.mem_of_getElem? (i := 700) (by decide +kernel))) (by decide +kernel)), Or.inl rfl, tyX9_ok, nmX9, rfl, by decide +kernel⟩
theorem fpX9_134_X9 : FP RX9 134 8 17 .int := ⟨RX9, "LadderForgeModel", TX9, 39, tyX9, rfl, by decide, inwX9, Or.inl (gw_of (List.mem_append_right _ (List.mem_of_getElem? (i := 697) (by decide +kernel))) (by decide +kernel)), Or.inl rfl, tyX9_ok, nmX9, rfl, by decide +kernel⟩
theorem fpX9_137_X9 : FP RX9 137 8 19 .int := ⟨RX9, "LadderForgeModel", TX9, 39, tyX9, rfl, by decide, inwX9, Or.inl (gw_of (List.mem_append_right _ (List.mem_of_getElem? (i := 699) (by decide +kernel))) (by decide +kernel)), Or.inl rfl, tyX9_ok, nmX9, rfl, by decide +kernel⟩
theorem fpX9_140_X9 : FP RX9 140 8 18 .int := ⟨RX9, "LadderForgeModel", TX9, 39, tyX9, rfl, by decide, inwX9, Or.inl (gw_of (List.mem_append_right _ (List.mem_of_getElem? (i := 698) (by decide +kernel))) (by decide +kernel)), Or.inl rfl, tyX9_ok, nmX9, rfl, by decide +kernel⟩
theorem faX9_134_X9 : FA RX9 134 8 17 := ⟨RX9, "LadderForgeModel", TX9, 39, rfl, by decide, inwX9, Or.inl (gw_of (List.mem_append_right _ (List.mem_of_getElem? (i := 697) (by decide +kernel))) (by decide +kernel)), Or.inl rfl⟩
theorem wlX9_143 : Cond.methodLink RX9 143 yX9_wordOf ∈ gw := (gw_of (List.mem_append_right _ (List.mem_of_getElem? (i := 860) (by decide +kernel))) (by decide +kernel))
theorem faX9_137_X9 : FA RX9 137 8 19 := ⟨RX9, "LadderForgeModel", TX9, 39, rfl, by decide, inwX9, Or.inl (gw_of (List.mem_append_right _ (List.mem_of_getElem? (i := 699) (by decide +kernel))) (by decide +kernel)), Or.inl rfl⟩
theorem faX9_97_X9 : FA RX9 97 8 16 := ⟨RX9, "LadderForgeModel", TX9, 39, rfl, by decide, inwX9, Or.inl (gw_of (List.mem_append_right _ (List.mem_of_getElem? (i := 696) (by decide +kernel))) (by decide +kernel)), Or.inl rfl⟩
theorem wlX9_147 : Cond.methodLink RX9 147 yX9_next ∈ gw := (gw_of (List.mem_append_right _ (List.mem_of_getElem? (i := 856) (by decide +kernel))) (by decide +kernel))
theorem faX9_41_X9 : FA RX9 41 8 21 := ⟨RX9, "LadderForgeModel", TX9, 39, rfl, by decide, inwX9, Or.inl (gw_of (List.mem_append_right _ (List.mem_of_getElem? (i := 701) (by decide +kernel))) (by decide +kernel)), Or.inl rfl⟩
theorem faX9_140_X9 : FA RX9 140 8 18 := ⟨RX9, "LadderForgeModel", TX9, 39, rfl, by decide, inwX9, Or.inl (gw_of (List.mem_append_right _ (List.mem_of_getElem? (i := 698) (by decide +kernel))) (by decide +kernel)), Or.inl rfl⟩
theorem wlX9_150 : Cond.methodLink RX9 150 yX9_due ∈ gw := (gw_of (List.mem_append_right _ (List.mem_of_getElem? (i := 872) (by decide +kernel))) (by decide +kernel))
theorem faX9_131_X9 : FA RX9 131 8 20 := ⟨RX9, "LadderForgeModel", TX9, 39, rfl, by decide, inwX9, Or.inl (gw_of (List.mem_append_right _ (List.mem_of_getElem? (i := 700) (by decide +kernel))) (by decide +kernel)), Or.inl rfl⟩
theorem wlX9_154 : Cond.methodLink RX9 154 yX9_hasNumber ∈ gw := (gw_of (List.mem_append_right _ (List.mem_of_getElem? (i := 876) (by decide +kernel))) (by decide +kernel))
theorem faX9_29_X9 : FA RX9 29 8 9 := ⟨RX9, "LadderForgeModel", TX9, 39, rfl, by decide, inwX9, Or.inl (gw_of (List.mem_append_right _ (List.mem_of_getElem? (i := 689) (by decide +kernel))) (by decide +kernel)), Or.inl rfl⟩
theorem faX9_32_X9 : FA RX9 32 8 10 := ⟨RX9, "LadderForgeModel", TX9, 39, rfl, by decide, inwX9, Or.inl (gw_of (List.mem_append_right _ (List.mem_of_getElem? (i := 690) (by decide +kernel))) (by decide +kernel)), Or.inl rfl⟩
theorem faX9_35_X9 : FA RX9 35 8 11 := ⟨RX9, "LadderForgeModel", TX9, 39, rfl, by decide, inwX9, Or.inl (gw_of (List.mem_append_right _ (List.mem_of_getElem? (i := 691) (by decide +kernel))) (by decide +kernel)), Or.inl rfl⟩
theorem faX9_38_X9 : FA RX9 38 8 12 := ⟨RX9, "LadderForgeModel", TX9, 39, rfl, by decide, inwX9, Or.inl (gw_of (List.mem_append_right _ (List.mem_of_getElem? (i := 692) (by decide +kernel))) (by decide +kernel)), Or.inl rfl⟩
theorem fpX9_85_X9 : FP RX9 85 8 5 .int := ⟨RX9, "LadderForgeModel", TX9, 39, tyX9, rfl, by decide, inwX9, Or.inl (gw_of (List.mem_append_right _ (List.mem_of_getElem? (i := 685) (by decide +kernel))) (by decide +kernel)), Or.inl rfl, tyX9_ok, nmX9, rfl, by decide +kernel⟩
theorem wlX9_157 : Cond.methodLink RX9 157 yX9_copy ∈ gw := (gw_of (List.mem_append_right _ (List.mem_of_getElem? (i := 883) (by decide +kernel))) (by decide +kernel))
theorem wlX9_161 : Cond.methodLink RX9 161 yX9_readPairs ∈ gw := (gw_of (List.mem_append_right _ (List.mem_of_getElem? (i := 829) (by decide +kernel))) (by decide +kernel))
theorem wlX9_164 : Cond.methodLink RX9 164 yX9_readNames ∈ gw := (gw_of (List.mem_append_right _ (List.mem_of_getElem? (i := 852) (by decide +kernel))) (by decide +kernel))
theorem wlX9_167 : Cond.methodLink RX9 167 yX9_move ∈ gw := (gw_of (List.mem_append_right _ (List.mem_of_getElem? (i := 879) (by decide +kernel))) (by decide +kernel))
theorem wlX9_171 : Cond.methodLink RX9 171 yX9_newTool ∈ gw := (gw_of (List.mem_append_right _ (List.mem_of_getElem? (i := 886) (by decide +kernel))) (by decide +kernel))
theorem wlX9_175 : Cond.methodLink RX9 175 yX9_make ∈ gw := (gw_of (List.mem_append_right _ (List.mem_of_getElem? (i := 825) (by decide +kernel))) (by decide +kernel))
theorem wlX9_178 : Cond.methodLink RX9 178 yX9_isTool ∈ gw := (gw_of (List.mem_append_right _ (List.mem_of_getElem? (i := 898) (by decide +kernel))) (by decide +kernel))
theorem faX9_44_X9 : FA RX9 44 8 22 := ⟨RX9, "LadderForgeModel", TX9, 39, rfl, by decide, inwX9, Or.inl (gw_of (List.mem_append_right _ (List.mem_of_getElem? (i := 702) (by decide +kernel))) (by decide +kernel)), Or.inl rfl⟩
theorem faX9_181_X9 : FA RX9 181 8 28 := ⟨RX9, "LadderForgeModel", TX9, 39, rfl, by decide, inwX9, Or.inl (gw_of (List.mem_append_right _ (List.mem_of_getElem? (i := 708) (by decide +kernel))) (by decide +kernel)), Or.inl rfl⟩
theorem faX9_184_X9 : FA RX9 184 8 25 := ⟨RX9, "LadderForgeModel", TX9, 39, rfl, by decide, inwX9, Or.inl (gw_of (List.mem_append_right _ (List.mem_of_getElem? (i := 705) (by decide +kernel))) (by decide +kernel)), Or.inl rfl⟩
theorem fpX9_181_X9 : FP RX9 181 8 28 .int := ⟨RX9, "LadderForgeModel", TX9, 39, tyX9, rfl, by decide, inwX9, Or.inl (gw_of (List.mem_append_right _ (List.mem_of_getElem? (i := 708) (by decide +kernel))) (by decide +kernel)), Or.inl rfl, tyX9_ok, nmX9, rfl, by decide +kernel⟩
theorem faX9_187_X9 : FA RX9 187 8 29 := ⟨RX9, "LadderForgeModel", TX9, 39, rfl, by decide, inwX9, Or.inl (gw_of (List.mem_append_right _ (List.mem_of_getElem? (i := 709) (by decide +kernel))) (by decide +kernel)), Or.inl rfl⟩
theorem fpX9_187_X9 : FP RX9 187 8 29 .int := ⟨RX9, "LadderForgeModel", TX9, 39, tyX9, rfl, by decide, inwX9, Or.inl (gw_of (List.mem_append_right _ (List.mem_of_getElem? (i := 709) (by decide +kernel))) (by decide +kernel)), Or.inl rfl, tyX9_ok, nmX9, rfl, by decide +kernel⟩
theorem faX9_190_X9 : FA RX9 190 8 30 := ⟨RX9, "LadderForgeModel", TX9, 39, rfl, by decide, inwX9, Or.inl (gw_of (List.mem_append_right _ (List.mem_of_getElem? (i := 710) (by decide +kernel))) (by decide +kernel)), Or.inl rfl⟩
theorem fpX9_193_X9 : FP RX9 193 8 26 .int := ⟨RX9, "LadderForgeModel", TX9, 39, tyX9, rfl, by decide, inwX9, Or.inl (gw_of (List.mem_append_right _ (List.mem_of_getElem? (i := 706) (by decide +kernel))) (by decide +kernel)), Or.inl rfl, tyX9_ok, nmX9, rfl, by decide +kernel⟩
theorem fpX9_190_X9 : FP RX9 190 8 30 .int := ⟨RX9, "LadderForgeModel", TX9, 39, tyX9, rfl, by decide, inwX9, Or.inl (gw_of (List.mem_append_right _ (List.mem_of_getElem? (i := 710) (by decide +kernel))) (by decide +kernel)), Or.inl rfl, tyX9_ok, nmX9, rfl, by decide +kernel⟩
theorem faX9_196_X9 : FA RX9 196 8 31 := ⟨RX9, "LadderForgeModel", TX9, 39, rfl, by decide, inwX9, Or.inl (gw_of (List.mem_append_right _ (List.mem_of_getElem? (i := 711) (by decide +kernel))) (by decide +kernel)), Or.inl rfl⟩
theorem fpX9_196_X9 : FP RX9 196 8 31 .int := ⟨RX9, "LadderForgeModel", TX9, 39, tyX9, rfl, by decide, inwX9, Or.inl (gw_of (List.mem_append_right _ (List.mem_of_getElem? (i := 711) (by decide +kernel))) (by decide +kernel)), Or.inl rfl, tyX9_ok, nmX9, rfl, by decide +kernel⟩
theorem faX9_47_X9 : FA RX9 47 8 23 := ⟨RX9, "LadderForgeModel", TX9, 39, rfl, by decide, inwX9, Or.inl (gw_of (List.mem_append_right _ (List.mem_of_getElem? (i := 703) (by decide +kernel))) (by decide +kernel)), Or.inl rfl⟩
theorem faX9_193_X9 : FA RX9 193 8 26 := ⟨RX9, "LadderForgeModel", TX9, 39, rfl, by decide, inwX9, Or.inl (gw_of (List.mem_append_right _ (List.mem_of_getElem? (i := 706) (by decide +kernel))) (by decide +kernel)), Or.inl rfl⟩
theorem faX9_50_X9 : FA RX9 50 8 24 := ⟨RX9, "LadderForgeModel", TX9, 39, rfl, by decide, inwX9, Or.inl (gw_of (List.mem_append_right _ (List.mem_of_getElem? (i := 704) (by decide +kernel))) (by decide +kernel)), Or.inl rfl⟩
theorem fpX9_184_X9 : FP RX9 184 8 25 .int := ⟨RX9, "LadderForgeModel", TX9, 39, tyX9, rfl, by decide, inwX9, Or.inl (gw_of (List.mem_append_right _ (List.mem_of_getElem? (i := 705) (by decide +kernel))) (by decide +kernel)), Or.inl rfl, tyX9_ok, nmX9, rfl, by decide +kernel⟩
theorem faX9_199_X9 : FA RX9 199 8 27 := ⟨RX9, "LadderForgeModel", TX9, 39, rfl, by decide, inwX9, Or.inl (gw_of (List.mem_append_right _ (List.mem_of_getElem? (i := 707) (by decide +kernel))) (by decide +kernel)), Or.inl rfl⟩
theorem fpX9_199_X9 : FP RX9 199 8 27 .int := ⟨RX9, "LadderForgeModel", TX9, 39, tyX9, rfl, by decide, inwX9, Or.inl (gw_of (List.mem_append_right _ (List.mem_of_getElem? (i := 707) (by decide +kernel))) (by decide +kernel)), Or.inl rfl, tyX9_ok, nmX9, rfl, by decide +kernel⟩
theorem wlX9_202 : Cond.methodLink RX9 202 yX9_step ∈ gw := (gw_of (List.mem_append_right _ (List.mem_of_getElem? (i := 914) (by decide +kernel))) (by decide +kernel))
theorem wlX9_205 : Cond.methodLink RX9 205 yX9_go ∈ gw := (gw_of (List.mem_append_right _ (List.mem_of_getElem? (i := 910) (by decide +kernel))) (by decide +kernel))
theorem wlX9_208 : Cond.methodLink RX9 208 yX9_take ∈ gw := (gw_of (List.mem_append_right _ (List.mem_of_getElem? (i := 934) (by decide +kernel))) (by decide +kernel))
theorem faX9_53_X9 : FA RX9 53 8 32 := ⟨RX9, "LadderForgeModel", TX9, 39, rfl, by decide, inwX9, Or.inl (gw_of (List.mem_append_right _ (List.mem_of_getElem? (i := 712) (by decide +kernel))) (by decide +kernel)), Or.inl rfl⟩
theorem faX9_56_X9 : FA RX9 56 8 33 := ⟨RX9, "LadderForgeModel", TX9, 39, rfl, by decide, inwX9, Or.inl (gw_of (List.mem_append_right _ (List.mem_of_getElem? (i := 713) (by decide +kernel))) (by decide +kernel)), Or.inl rfl⟩
theorem faX9_59_X9 : FA RX9 59 8 34 := ⟨RX9, "LadderForgeModel", TX9, 39, rfl, by decide, inwX9, Or.inl (gw_of (List.mem_append_right _ (List.mem_of_getElem? (i := 714) (by decide +kernel))) (by decide +kernel)), Or.inl rfl⟩
theorem wlX9_211 : Cond.methodLink RX9 211 yX9_builds ∈ gw := (gw_of (List.mem_append_right _ (List.mem_of_getElem? (i := 930) (by decide +kernel))) (by decide +kernel))
theorem wlX9_214 : Cond.methodLink RX9 214 yX9_unlike ∈ gw := (gw_of (List.mem_append_right _ (List.mem_of_getElem? (i := 946) (by decide +kernel))) (by decide +kernel))
theorem wlX9_217 : Cond.methodLink RX9 217 yX9_again ∈ gw := (gw_of (List.mem_append_right _ (List.mem_of_getElem? (i := 942) (by decide +kernel))) (by decide +kernel))
theorem wlX9_220 : Cond.methodLink RX9 220 yX9_goRound ∈ gw := (gw_of (List.mem_append_right _ (List.mem_of_getElem? (i := 962) (by decide +kernel))) (by decide +kernel))
theorem wlX9_223 : Cond.methodLink RX9 223 yX9_lengthOf ∈ gw := (gw_of (List.mem_append_right _ (List.mem_of_getElem? (i := 978) (by decide +kernel))) (by decide +kernel))
theorem wlX9_226 : Cond.methodLink RX9 226 yX9_stale ∈ gw := (gw_of (List.mem_append_right _ (List.mem_of_getElem? (i := 990) (by decide +kernel))) (by decide +kernel))
theorem wlX9_229 : Cond.methodLink RX9 229 yX9_last ∈ gw := (gw_of (List.mem_append_right _ (List.mem_of_getElem? (i := 991) (by decide +kernel))) (by decide +kernel))
theorem wlX9_232 : Cond.methodLink RX9 232 yX9_sealedOnes ∈ gw := (gw_of (List.mem_append_right _ (List.mem_of_getElem? (i := 986) (by decide +kernel))) (by decide +kernel))
theorem wnX9_235 : Cond.constant RX9 235 (65535) ∈ gw := (gw_of (List.mem_append_right _ (List.mem_of_getElem? (i := 1007) (by decide +kernel))) (by decide +kernel))
theorem faX9_236_X9 : FA RX9 236 8 35 := ⟨RX9, "LadderForgeModel", TX9, 39, rfl, by decide, inwX9, Or.inl (gw_of (List.mem_append_right _ (List.mem_of_getElem? (i := 715) (by decide +kernel))) (by decide +kernel)), Or.inl rfl⟩
theorem faX9_62_X9 : FA RX9 62 8 36 := ⟨RX9, "LadderForgeModel", TX9, 39, rfl, by decide, inwX9, Or.inl (gw_of (List.mem_append_right _ (List.mem_of_getElem? (i := 716) (by decide +kernel))) (by decide +kernel)), Or.inl rfl⟩
theorem faX9_65_X9 : FA RX9 65 8 37 := ⟨RX9, "LadderForgeModel", TX9, 39, rfl, by decide, inwX9, Or.inl (gw_of (List.mem_append_right _ (List.mem_of_getElem? (i := 717) (by decide +kernel))) (by decide +kernel)), Or.inl rfl⟩
theorem fpX9_236_X9 : FP RX9 236 8 35 .int := ⟨RX9, "LadderForgeModel", TX9, 39, tyX9, rfl, by decide, inwX9, Or.inl (gw_of (List.mem_append_right _ (List.mem_of_getElem? (i := 715) (by decide +kernel))) (by decide +kernel)), Or.inl rfl, tyX9_ok, nmX9, rfl, by decide +kernel⟩
theorem faX9_68_X9 : FA RX9 68 8 38 := ⟨RX9, "LadderForgeModel", TX9, 39, rfl, by decide, inwX9, Or.inl (gw_of (List.mem_append_right _ (List.mem_of_getElem? (i := 718) (by decide +kernel))) (by decide +kernel)), Or.inl rfl⟩
theorem wlX9_239 : Cond.methodLink RX9 239 yX9_isEdition ∈ gw := (gw_of (List.mem_append_right _ (List.mem_of_getElem? (i := 1012) (by decide +kernel))) (by decide +kernel))
theorem wlX9_242 : Cond.methodLink RX9 242 yX9_climb ∈ gw := (gw_of (List.mem_append_right _ (List.mem_of_getElem? (i := 1016) (by decide +kernel))) (by decide +kernel))
theorem faX9_245_X9 : FA RX9 245 8 0 := ⟨RX9, "LadderForgeModel", TX9, 39, rfl, by decide, inwX9, Or.inl (gw_of (List.mem_append_right _ (List.mem_of_getElem? (i := 680) (by decide +kernel))) (by decide +kernel)), Or.inl rfl⟩
theorem wnX9_249 : Cond.constantLong RX9 249 (11) ∈ gw := (gw_of (List.mem_append_right _ (List.mem_of_getElem? (i := 1028) (by decide +kernel))) (by decide +kernel))
theorem wnX9_251 : Cond.constantLong RX9 251 (101) ∈ gw := (gw_of (List.mem_append_right _ (List.mem_of_getElem? (i := 1029) (by decide +kernel))) (by decide +kernel))
theorem wnX9_253 : Cond.constantLong RX9 253 (1101) ∈ gw := (gw_of (List.mem_append_right _ (List.mem_of_getElem? (i := 1030) (by decide +kernel))) (by decide +kernel))
theorem wnX9_255 : Cond.constantLong RX9 255 (11101) ∈ gw := (gw_of (List.mem_append_right _ (List.mem_of_getElem? (i := 1031) (by decide +kernel))) (by decide +kernel))
theorem wnX9_257 : Cond.constantLong RX9 257 (100001) ∈ gw := (gw_of (List.mem_append_right _ (List.mem_of_getElem? (i := 1032) (by decide +kernel))) (by decide +kernel))
theorem fpX9_245_X9 : FP RX9 245 8 0 .long := ⟨RX9, "LadderForgeModel", TX9, 39, tyX9, rfl, by decide, inwX9, Or.inl (gw_of (List.mem_append_right _ (List.mem_of_getElem? (i := 680) (by decide +kernel))) (by decide +kernel)), Or.inl rfl, tyX9_ok, nmX9, rfl, by decide +kernel⟩
theorem wObj1 : Cond.instanceMethod objectInit ∈ gw := (gw_of (List.mem_append_right _ (List.mem_of_getElem? (i := 22) (by decide +kernel))) (by decide +kernel))
theorem wObj2 : Cond.code objectInit ⟨#[0xb1]⟩ 1 none ∈ gw := (gw_of (List.mem_append_right _ (List.mem_of_getElem? (i := 23) (by decide +kernel))) (by decide +kernel))
theorem wmin1 : Cond.static Lib.Math.min.name ∈ gw := (gw_of (List.mem_append_right _ (List.mem_of_getElem? (i := 60) (by decide +kernel))) (by decide +kernel))
theorem wmin2 : Cond.code Lib.Math.min.name Lib.Math.min.code 2 (some .int) ∈ gw := (gw_of (List.mem_append_right _ (List.mem_of_getElem? (i := 61) (by decide +kernel))) (by decide +kernel))
theorem wmax1 : Cond.static Lib.Math.max.name ∈ gw := (gw_of (List.mem_append_right _ (List.mem_of_getElem? (i := 471) (by decide +kernel))) (by decide +kernel))
theorem wmax2 : Cond.code Lib.Math.max.name Lib.Math.max.code 2 (some .int) ∈ gw := (gw_of (List.mem_append_right _ (List.mem_of_getElem? (i := 472) (by decide +kernel))) (by decide +kernel))
theorem wMath : Cond.initialized "java/lang/Math" ∈ gw := (gw_of (List.mem_append_right _ (List.mem_of_getElem? (i := 6) (by decide +kernel))) (by decide +kernel))
theorem wArrI : Cond.arrayClass (newarray.typeOf .int) ∈ gw := (gw_of (List.mem_append_right _ (List.mem_of_getElem? (i := 40) (by decide +kernel))) (by decide +kernel))
theorem wArrB : Cond.arrayClass (newarray.typeOf .byte) ∈ gw := (gw_of (List.mem_append_right _ (List.mem_of_getElem? (i := 430) (by decide +kernel))) (by decide +kernel))
end
section
/-! rules for numbers nI n, and cells by lookups -/
def nA (g : Nat → Nat) : Nat → Int32 := fun j => nI (g j)
theorem nA_up (g : Nat → Nat) (i v : Nat) : upd (nA g) i (nI v) = nA (va_up g i v) := by
  funext j
  unfold upd nA va_up
  by_cases h : j = i <;> simp [h]
def Sm (A : List Nat) (h h' : MH) : Prop := h'.length = h.length ∧ ∀ q, q ∉ A → h'[q]? = h[q]?
theorem Sm.set (h : MH) (a : Nat) (e : va_E) : Sm [a] h (h.set a e) := by
  refine ⟨by simp, fun q hq => ?_⟩
  rw [List.getElem?_set_ne]
  simp at hq
  exact fun z => hq z.symm
theorem Sm.refl (A : List Nat) (h : MH) : Sm A h h := ⟨rfl, fun _ _ => rfl⟩
theorem Sm.get {A : List Nat} {h h' : MH} {a : Nat} {e : va_E} (s : Sm A h h') (hn : a ∉ A) (ha : h[a]? = some e) : h'[a]? = some e := (s.2 a hn).trans ha
theorem Sm.tr {A B C : List Nat} {h h1 h2 : MH} (s1 : Sm A h h1) (s2 : Sm B h1 h2) (hA : ∀ q, q ∈ A → q ∈ C) (hB : ∀ q, q ∈ B → q ∈ C) : Sm C h h2 :=
  ⟨s2.1.trans s1.1, fun q hq => (s2.2 q (fun z => hq (hB q z))).trans (s1.2 q (fun z => hq (hA q z)))⟩
theorem Sm.mono {A C : List Nat} {h h1 : MH} (s1 : Sm A h h1) (hA : ∀ q, q ∈ A → q ∈ C) : Sm C h h1 := ⟨s1.1, fun q hq => s1.2 q (fun z => hq (hA q z))⟩
theorem hs_eq {h : MH} {a : Nat} {e e0 : va_E} (h0 : h[a]? = some e0) : (h.set a e)[a]? = some e := by
  have hl : a < h.length := (List.getElem?_eq_some_iff.mp h0).1
  simp [hl]
theorem qI {Q : Option Value → MH → Prop} {h : MH} {x z : Int32} (k : Q (some (.int x)) h) (e : x = z) : Q (some (.int z)) h := e ▸ k
section NR
variable {l : Launch} {y : MD} {pc : Nat} {L : ML} {S : List Value} {h : MH} {Q : Option Value → MH → Prop}
theorem Go.hnew {a : Nat} {e e0 : va_E} {n : Nat} (ha : h[a]? = some e0) (k : ∀ h1 : MH, Sm [a] h h1 → h1[a]? = some e → Go l y n L S h1 Q) : Go l y n L S (h.set a e) Q := k _ (Sm.set h a e) (hs_eq ha)
theorem g_iaddN {a b c : Nat} (n : Nat) (d : decode y.2.1 pc = .ok (.iadd, 1)) (hc : a + b = c) (hn : pc + 1 = n) (k : Go l y n L (.int (nI c) :: S) h Q) : Go l y pc L (.int (nI b) :: .int (nI a) :: S) h Q := g_iadd n d hn (by rw [nI_add, hc]; exact k)
theorem g_isubN {a b c : Nat} (n : Nat) (d : decode y.2.1 pc = .ok (.isub, 1)) (hle : b ≤ a) (hc : a - b = c) (hn : pc + 1 = n) (k : Go l y n L (.int (nI c) :: S) h Q) : Go l y pc L (.int (nI b) :: .int (nI a) :: S) h Q := g_isub n d hn (by rw [pk_sub hle, hc]; exact k)
theorem g_imulN {a b c : Nat} (n : Nat) (d : decode y.2.1 pc = .ok (.imul, 1)) (hc : a * b = c) (hn : pc + 1 = n) (k : Go l y n L (.int (nI c) :: S) h Q) : Go l y pc L (.int (nI b) :: .int (nI a) :: S) h Q := g_imul n d hn (by rw [pk_mul, hc]; exact k)
theorem g_and255 {a c : Nat} (n : Nat) (d : decode y.2.1 pc = .ok (.iand, 1)) (ha : a < 4294967296) (hc : a % 256 = c) (hn : pc + 1 = n) (k : Go l y n L (.int (nI c) :: S) h Q) : Go l y pc L (.int (nI 255) :: .int (nI a) :: S) h Q := g_iand n d hn (by rw [pk_andN (m := nI 255) ha 8 (by decide)]; subst hc; exact k)
theorem g_iincN {i a : Nat} {L1 : ML} (n : Nat) (d : decode y.2.1 pc = .ok (.iinc i 1, 3)) (hg : L[i]? = some (some (.int (nI a)))) (hi : i < y.2.2.1) (hok : Lok L i = true) (hL : L.set i (some (.int (nI (a + 1)))) = L1) (hn : pc + 3 = n) (k : Go l y n L1 S h Q) : Go l y pc L S h Q := g_iinc n d hg (by rw [← nI_1]; rfl) hi hok hL hn k
theorem g_icN_eq {a b : Nat} {off : Int} (t n : Nat) (d : decode y.2.1 pc = .ok (.if_icmp .eq off, 3)) (ht : (pc : Int) + off = (t : Int)) (hn : pc + 3 = n) (ha : a < 2 ^ 31) (hb : b < 2 ^ 31) (kt : a = b → Go l y t L S h Q) (kf : a ≠ b → Go l y n L S h Q) : Go l y pc L (.int (nI b) :: .int (nI a) :: S) h Q := g_icmp_eq t n d ht hn (fun q => kt ((nI_eq ha hb).mp q)) (fun q => kf (fun z => q ((nI_eq ha hb).mpr z)))
theorem g_icN_ne {a b : Nat} {off : Int} (t n : Nat) (d : decode y.2.1 pc = .ok (.if_icmp .ne off, 3)) (ht : (pc : Int) + off = (t : Int)) (hn : pc + 3 = n) (ha : a < 2 ^ 31) (hb : b < 2 ^ 31) (kt : a ≠ b → Go l y t L S h Q) (kf : a = b → Go l y n L S h Q) : Go l y pc L (.int (nI b) :: .int (nI a) :: S) h Q := g_icmp_ne t n d ht hn (fun q => kt (fun z => q ((nI_eq ha hb).mpr z))) (fun q => kf ((nI_eq ha hb).mp q))
theorem g_icN_lt {a b : Nat} {off : Int} (t n : Nat) (d : decode y.2.1 pc = .ok (.if_icmp .lt off, 3)) (ht : (pc : Int) + off = (t : Int)) (hn : pc + 3 = n) (ha : a < 2 ^ 31) (hb : b < 2 ^ 31) (kt : a < b → Go l y t L S h Q) (kf : b ≤ a → Go l y n L S h Q) : Go l y pc L (.int (nI b) :: .int (nI a) :: S) h Q := g_icmp_lt t n d ht hn (fun q => kt ((nI_ltI ha hb).mp q)) (fun q => kf (Nat.not_lt.mp (fun z => q ((nI_ltI ha hb).mpr z))))
theorem g_icN_ge {a b : Nat} {off : Int} (t n : Nat) (d : decode y.2.1 pc = .ok (.if_icmp .ge off, 3)) (ht : (pc : Int) + off = (t : Int)) (hn : pc + 3 = n) (ha : a < 2 ^ 31) (hb : b < 2 ^ 31) (kt : b ≤ a → Go l y t L S h Q) (kf : a < b → Go l y n L S h Q) : Go l y pc L (.int (nI b) :: .int (nI a) :: S) h Q := g_icmp_ge t n d ht hn (fun q => kt ((nI_leI hb ha).mp q)) (fun q => kf (Nat.not_le.mp (fun z => q ((nI_leI hb ha).mpr z))))
theorem g_icN_gt {a b : Nat} {off : Int} (t n : Nat) (d : decode y.2.1 pc = .ok (.if_icmp .gt off, 3)) (ht : (pc : Int) + off = (t : Int)) (hn : pc + 3 = n) (ha : a < 2 ^ 31) (hb : b < 2 ^ 31) (kt : b < a → Go l y t L S h Q) (kf : a ≤ b → Go l y n L S h Q) : Go l y pc L (.int (nI b) :: .int (nI a) :: S) h Q := g_icmp_gt t n d ht hn (fun q => kt ((nI_ltI hb ha).mp q)) (fun q => kf (Nat.not_lt.mp (fun z => q ((nI_ltI hb ha).mpr z))))
theorem g_icN_le {a b : Nat} {off : Int} (t n : Nat) (d : decode y.2.1 pc = .ok (.if_icmp .le off, 3)) (ht : (pc : Int) + off = (t : Int)) (hn : pc + 3 = n) (ha : a < 2 ^ 31) (hb : b < 2 ^ 31) (kt : a ≤ b → Go l y t L S h Q) (kf : b < a → Go l y n L S h Q) : Go l y pc L (.int (nI b) :: .int (nI a) :: S) h Q := g_icmp_le t n d ht hn (fun q => kt ((nI_leI ha hb).mp q)) (fun q => kf (Nat.not_le.mp (fun z => q ((nI_leI ha hb).mpr z))))
theorem g_ifN_lt {a : Nat} {off : Int} (n : Nat) (d : decode y.2.1 pc = .ok (.ifCond .lt off, 3)) (t : Nat) (ht : (pc : Int) + off = (t : Int)) (hn : pc + 3 = n) (ha : a < 2 ^ 31) (k : Go l y n L S h Q) : Go l y pc L (.int (nI a) :: S) h Q := g_if_lt t n d ht hn (fun q => absurd q (nI_pos ha)) (fun _ => k)
theorem g_ifN_ge {a : Nat} {off : Int} (n : Nat) (d : decode y.2.1 pc = .ok (.ifCond .ge off, 3)) (t : Nat) (ht : (pc : Int) + off = (t : Int)) (hn : pc + 3 = n) (ha : a < 2 ^ 31) (k : Go l y t L S h Q) : Go l y pc L (.int (nI a) :: S) h Q := g_if_ge t n d ht hn (fun _ => k) (fun q => absurd (nI_pos' ha) q)
theorem nI_0iff {a : Nat} (ha : a < 2 ^ 31) : nI a = 0 ↔ a = 0 := by
  rw [← nI_0]
  exact nI_eq ha (by decide)
theorem g_ifN_eq {a : Nat} {off : Int} (t n : Nat) (d : decode y.2.1 pc = .ok (.ifCond .eq off, 3)) (ht : (pc : Int) + off = (t : Int)) (hn : pc + 3 = n) (ha : a < 2 ^ 31) (kt : a = 0 → Go l y t L S h Q) (kf : a ≠ 0 → Go l y n L S h Q) : Go l y pc L (.int (nI a) :: S) h Q := g_if_eq t n d ht hn (fun q => kt ((nI_0iff ha).mp q)) (fun q => kf (fun z => q ((nI_0iff ha).mpr z)))
theorem g_ifN_ne {a : Nat} {off : Int} (t n : Nat) (d : decode y.2.1 pc = .ok (.ifCond .ne off, 3)) (ht : (pc : Int) + off = (t : Int)) (hn : pc + 3 = n) (ha : a < 2 ^ 31) (kt : a ≠ 0 → Go l y t L S h Q) (kf : a = 0 → Go l y n L S h Q) : Go l y pc L (.int (nI a) :: S) h Q := g_if_ne t n d ht hn (fun q => kt (fun z => q ((nI_0iff ha).mpr z))) (fun q => kf ((nI_0iff ha).mp q))
theorem g_ifN_le {a : Nat} {off : Int} (t n : Nat) (d : decode y.2.1 pc = .ok (.ifCond .le off, 3)) (ht : (pc : Int) + off = (t : Int)) (hn : pc + 3 = n) (ha : a < 2 ^ 31) (kt : a = 0 → Go l y t L S h Q) (kf : 0 < a → Go l y n L S h Q) : Go l y pc L (.int (nI a) :: S) h Q := g_if_le t n d ht hn (fun q => kt (by
    rcases Nat.eq_zero_or_pos a with z | z
    · exact z
    · exact absurd q (nI_nle z ha))) (fun q => kf (by
    rcases Nat.eq_zero_or_pos a with z | z
    · exact absurd (by rw [z]; decide) q
    · exact z))
theorem g_ifN_gt {a : Nat} {off : Int} (t n : Nat) (d : decode y.2.1 pc = .ok (.ifCond .gt off, 3)) (ht : (pc : Int) + off = (t : Int)) (hn : pc + 3 = n) (ha : a < 2 ^ 31) (kt : 0 < a → Go l y t L S h Q) (kf : a = 0 → Go l y n L S h Q) : Go l y pc L (.int (nI a) :: S) h Q := g_if_gt t n d ht hn (fun q => kt (by
    rcases Nat.eq_zero_or_pos a with z | z
    · exact absurd q (by rw [z]; decide)
    · exact z)) (fun q => kf (by
    rcases Nat.eq_zero_or_pos a with z | z
    · exact z
    · exact absurd (by rw [← nI_0]; exact nI_lt z ha) q))
theorem g_ialdN {a N i : Nat} {f : Nat → Int32} {v : Int32} (n : Nat) (d : decode y.2.1 pc = .ok (.iaload, 1)) (ha : h[a]? = some (.inl (0, N, .inl f))) (hi : i < N) (hN : N < 2 ^ 31) (hv : f i = v) (hn : pc + 1 = n) (kk : Go l y n L (.int v :: S) h Q) : Go l y pc L (.int (nI i) :: .ref a :: S) h Q :=
  g_iald n d ha (vp_in_nI hi hN) (by rw [nI_clamp (Nat.lt_trans hi hN)]; exact hv) hn kk
theorem g_baldN {a N i : Nat} {f : Nat → Int32} {v : Int32} (n : Nat) (d : decode y.2.1 pc = .ok (.baload, 1)) (ha : h[a]? = some (.inl (1, N, .inl f))) (hi : i < N) (hN : N < 2 ^ 31) (hv : f i = v) (hn : pc + 1 = n) (kk : Go l y n L (.int v :: S) h Q) : Go l y pc L (.int (nI i) :: .ref a :: S) h Q :=
  g_bald n d ha (vp_in_nI hi hN) (by rw [nI_clamp (Nat.lt_trans hi hN)]; exact hv) hn kk
theorem g_aaldN {a N i kd : Nat} {f : Nat → Option Nat} {v : Value} (n : Nat) (d : decode y.2.1 pc = .ok (.aaload, 1)) (ha : h[a]? = some (.inl (kd, N, .inr (.inr (.inr (.inr f)))))) (hkd : kd = 2 ∨ kd = 3) (hi : i < N) (hN : N < 2 ^ 31) (hv : va_rf (f i) = v) (hn : pc + 1 = n) (kk : Go l y n L (v :: S) h Q) : Go l y pc L (.int (nI i) :: .ref a :: S) h Q :=
  g_aald n d ha hkd (vp_in_nI hi hN) (by rw [nI_clamp (Nat.lt_trans hi hN)]; exact hv) hn kk
theorem g_iastN {a N i : Nat} {f f1 : Nat → Int32} {x : Int32} (n : Nat) (d : decode y.2.1 pc = .ok (.iastore, 1)) (ha : h[a]? = some (.inl (0, N, .inl f))) (hi : i < N) (hN : N < 2 ^ 31) (hf1 : upd f i x = f1) (hn : pc + 1 = n) (kk : ∀ h1 : MH, Sm [a] h h1 → h1[a]? = some (.inl (0, N, .inl f1)) → Go l y n L S h1 Q) : Go l y pc L (.int x :: .int (nI i) :: .ref a :: S) h Q :=
  g_iast n d ha (vp_in_nI hi hN) (by rw [nI_clamp (Nat.lt_trans hi hN)]; exact hf1) hn (Go.hnew ha kk)
theorem g_bastN {a N i : Nat} {f f1 : Nat → Int32} {x : Int32} (n : Nat) (d : decode y.2.1 pc = .ok (.bastore, 1)) (ha : h[a]? = some (.inl (1, N, .inl f))) (hi : i < N) (hN : N < 2 ^ 31) (hf1 : upd f i (vp_nar .byte x) = f1) (hn : pc + 1 = n) (kk : ∀ h1 : MH, Sm [a] h h1 → h1[a]? = some (.inl (1, N, .inl f1)) → Go l y n L S h1 Q) : Go l y pc L (.int x :: .int (nI i) :: .ref a :: S) h Q :=
  g_bast n d ha (vp_in_nI hi hN) (by rw [nI_clamp (Nat.lt_trans hi hN)]; exact hf1) hn (Go.hnew ha kk)
theorem g_putC {i ci k a : Nat} {fs fs1 : List Value} {v : Value} {ty : FieldType} (n : Nat) (d : decode y.2.1 pc = .ok (.putfield i, 3)) (hF : FP y.1.cls i ci k ty) (ha : h[a]? = some (.inr (ci, fs))) (hk1 : k < fs.length) (hv : ∀ b, narrow ty (mv b v) = mv b v ∧ fits ty (mv b v) = true) (hf1 : fs.set k v = fs1) (hn : pc + 3 = n) (kk : ∀ h1 : MH, Sm [a] h h1 → h1[a]? = some (.inr (ci, fs1)) → Go l y n L S h1 Q) : Go l y pc L (v :: .ref a :: S) h Q :=
  g_put n d hF ha hk1 hv hf1 hn (Go.hnew ha kk)
/-- forget or restate -/
theorem Go.to {n : Nat} {L1 : ML} {S1 : List Value} (hL : L = L1) (hS : S = S1) (k : Go l y n L1 S1 h Q) : Go l y n L S h Q := by
  subst hL
  subst hS
  exact k
end NR
end
section
theorem tt1 (x : Int32) (h : ¬ x < 0) (h2 : x < 200) : x.toInt < 200 := by grind
theorem tt2 (x : Int32) (h : ¬ x < 0) (h2 : ¬ 200 ≤ x) : 0 ≤ x.toInt ∧ x.toInt < 200 := by lia
theorem tt3 (x : Int32) (h : ¬ x < 0) (h2 : ¬ 200 ≤ x) : (x + 1).toInt = x.toInt + 1 := by grind
theorem tt4 (x : Int32) (h : 0 ≤ x) (h2 : ¬ 200 ≤ x) : x.toNatClampNeg < 200 := by grind
theorem tt5 (a b : Nat) (h : a < 200) (hb : b < 200) (h2 : nI a < nI b) : a < b := by
  simp (disch := omega) only [nI_ltI] at h2
  exact h2
theorem tt7 (x : Int) (h : (if x < 3 then 1 else 2) = 1) : x < 3 := by omega
theorem tt8 (x : Int) (h : (x + 1).bmod (2^32) = 5) (h1 : 0 ≤ x) (h2 : x < 1000) : x = 4 := by omega
theorem tt9 (x : Int32) (h : ¬ x < 0) (h2 : x < 200) : 0 ≤ x.toInt ∧ x.toInt < 200 := by
  simp only [Int32.lt_iff_toInt_lt] at h h2
  have e0 : (0 : Int32).toInt = 0 := rfl
  have e1 : (200 : Int32).toInt = 200 := rfl
  omega
theorem tt10 (x : Int32) : x &&& 255 = nI (x.toBitVec.toNat % 256) := pk_and x 8 (by decide)
end
