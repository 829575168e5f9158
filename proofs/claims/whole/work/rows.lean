section
/-- a private method of a class that the tables say can be made, by its rows of tables_1 -/
def lw_okq (q : MethodName × Nat) : Prop := (q.1.cls ≠ "java/lang/invoke/MethodHandle" ∧ q.1.cls ≠ "java/lang/invoke/VarHandle") ∧ Cond.instantiable q.1.cls q.2 ∈ tables_1 ∧ Cond.privateMethod q.1 ∈ tables_1 ∧ Cond.instanceMethod q.1 ∈ tables_1
theorem lw_p0 : lw_okq (⟨"LetterAlgebra", "add", "(LLetterAlgebra$Machine;)I"⟩, 4) := ⟨⟨by decide +kernel, by decide +kernel⟩, List.mem_of_getElem? (i := 13) (by decide +kernel), List.mem_of_getElem? (i := 138) (by decide +kernel), List.mem_of_getElem? (i := 139) (by decide +kernel)⟩
theorem lw_p1 : lw_okq (⟨"LetterAlgebra$Reducer", "explore", "(LLetterAlgebra$Machine;)V"⟩, 7) := ⟨⟨by decide +kernel, by decide +kernel⟩, List.mem_of_getElem? (i := 23) (by decide +kernel), List.mem_of_getElem? (i := 146) (by decide +kernel), List.mem_of_getElem? (i := 147) (by decide +kernel)⟩
theorem lw_p2 : lw_okq (⟨"LetterAlgebra$ChainMachine", "codeOf", "(II)I"⟩, 2) := ⟨⟨by decide +kernel, by decide +kernel⟩, List.mem_of_getElem? (i := 171) (by decide +kernel), List.mem_of_getElem? (i := 169) (by decide +kernel), List.mem_of_getElem? (i := 170) (by decide +kernel)⟩
theorem lw_p3 : lw_okq (⟨"LetterAlgebra$Reducer", "numberFor", "(I)I"⟩, 7) := ⟨⟨by decide +kernel, by decide +kernel⟩, List.mem_of_getElem? (i := 23) (by decide +kernel), List.mem_of_getElem? (i := 196) (by decide +kernel), List.mem_of_getElem? (i := 197) (by decide +kernel)⟩
theorem lw_p4 : lw_okq (⟨"LetterAlgebra$Reducer", "partByAcceptance", "(LLetterAlgebra$Machine;)V"⟩, 7) := ⟨⟨by decide +kernel, by decide +kernel⟩, List.mem_of_getElem? (i := 23) (by decide +kernel), List.mem_of_getElem? (i := 245) (by decide +kernel), List.mem_of_getElem? (i := 246) (by decide +kernel)⟩
theorem lw_p5 : lw_okq (⟨"LetterAlgebra$Reducer", "refine", "()I"⟩, 7) := ⟨⟨by decide +kernel, by decide +kernel⟩, List.mem_of_getElem? (i := 23) (by decide +kernel), List.mem_of_getElem? (i := 281) (by decide +kernel), List.mem_of_getElem? (i := 282) (by decide +kernel)⟩
theorem lw_p6 : lw_okq (⟨"LetterAlgebra$Reducer", "split", "()I"⟩, 7) := ⟨⟨by decide +kernel, by decide +kernel⟩, List.mem_of_getElem? (i := 23) (by decide +kernel), List.mem_of_getElem? (i := 285) (by decide +kernel), List.mem_of_getElem? (i := 286) (by decide +kernel)⟩
theorem lw_p7 : lw_okq (⟨"LetterAlgebra$Reducer", "partLike", "(II)I"⟩, 7) := ⟨⟨by decide +kernel, by decide +kernel⟩, List.mem_of_getElem? (i := 23) (by decide +kernel), List.mem_of_getElem? (i := 289) (by decide +kernel), List.mem_of_getElem? (i := 290) (by decide +kernel)⟩
theorem lw_p8 : lw_okq (⟨"LetterAlgebra$Reducer", "goAlike", "(II)Z"⟩, 7) := ⟨⟨by decide +kernel, by decide +kernel⟩, List.mem_of_getElem? (i := 23) (by decide +kernel), List.mem_of_getElem? (i := 293) (by decide +kernel), List.mem_of_getElem? (i := 294) (by decide +kernel)⟩
theorem lw_p9 : lw_okq (⟨"LetterAlgebra$Reducer", "write", "(LLetterAlgebra$Machine;ILLetterAlgebra$Automaton;)V"⟩, 7) := ⟨⟨by decide +kernel, by decide +kernel⟩, List.mem_of_getElem? (i := 23) (by decide +kernel), List.mem_of_getElem? (i := 297) (by decide +kernel), List.mem_of_getElem? (i := 298) (by decide +kernel)⟩
theorem lw_p10 : lw_okq (⟨"LetterAlgebra", "isListed", "(I)Z"⟩, 4) := ⟨⟨by decide +kernel, by decide +kernel⟩, List.mem_of_getElem? (i := 13) (by decide +kernel), List.mem_of_getElem? (i := 305) (by decide +kernel), List.mem_of_getElem? (i := 306) (by decide +kernel)⟩
theorem lw_p11 : lw_okq (⟨"LetterAlgebra$Algebra", "search", "(LLetterAlgebra$Automaton;)I"⟩, 10) := ⟨⟨by decide +kernel, by decide +kernel⟩, List.mem_of_getElem? (i := 52) (by decide +kernel), List.mem_of_getElem? (i := 419) (by decide +kernel), List.mem_of_getElem? (i := 420) (by decide +kernel)⟩
theorem lw_p12 : lw_okq (⟨"LetterAlgebra$Algebra", "placeOf", "(II)I"⟩, 10) := ⟨⟨by decide +kernel, by decide +kernel⟩, List.mem_of_getElem? (i := 52) (by decide +kernel), List.mem_of_getElem? (i := 431) (by decide +kernel), List.mem_of_getElem? (i := 432) (by decide +kernel)⟩
theorem lw_p13 : lw_okq (⟨"LetterAlgebra$Algebra", "keepWords", "()V"⟩, 10) := ⟨⟨by decide +kernel, by decide +kernel⟩, List.mem_of_getElem? (i := 52) (by decide +kernel), List.mem_of_getElem? (i := 435) (by decide +kernel), List.mem_of_getElem? (i := 436) (by decide +kernel)⟩
theorem lw_p14 : lw_okq (⟨"LetterAlgebra$Algebra", "keepProducts", "()V"⟩, 10) := ⟨⟨by decide +kernel, by decide +kernel⟩, List.mem_of_getElem? (i := 52) (by decide +kernel), List.mem_of_getElem? (i := 440) (by decide +kernel), List.mem_of_getElem? (i := 441) (by decide +kernel)⟩
theorem lw_p15 : lw_okq (⟨"LetterAlgebra$Algebra", "keepSets", "()V"⟩, 10) := ⟨⟨by decide +kernel, by decide +kernel⟩, List.mem_of_getElem? (i := 52) (by decide +kernel), List.mem_of_getElem? (i := 444) (by decide +kernel), List.mem_of_getElem? (i := 445) (by decide +kernel)⟩
def lw_privs_1 : List (MethodName × Nat) := [(⟨"LetterAlgebra", "add", "(LLetterAlgebra$Machine;)I"⟩, 4), (⟨"LetterAlgebra$Reducer", "explore", "(LLetterAlgebra$Machine;)V"⟩, 7), (⟨"LetterAlgebra$ChainMachine", "codeOf", "(II)I"⟩, 2), (⟨"LetterAlgebra$Reducer", "numberFor", "(I)I"⟩, 7), (⟨"LetterAlgebra$Reducer", "partByAcceptance", "(LLetterAlgebra$Machine;)V"⟩, 7), (⟨"LetterAlgebra$Reducer", "refine", "()I"⟩, 7), (⟨"LetterAlgebra$Reducer", "split", "()I"⟩, 7), (⟨"LetterAlgebra$Reducer", "partLike", "(II)I"⟩, 7), (⟨"LetterAlgebra$Reducer", "goAlike", "(II)Z"⟩, 7), (⟨"LetterAlgebra$Reducer", "write", "(LLetterAlgebra$Machine;ILLetterAlgebra$Automaton;)V"⟩, 7), (⟨"LetterAlgebra", "isListed", "(I)Z"⟩, 4), (⟨"LetterAlgebra$Algebra", "search", "(LLetterAlgebra$Automaton;)I"⟩, 10), (⟨"LetterAlgebra$Algebra", "placeOf", "(II)I"⟩, 10), (⟨"LetterAlgebra$Algebra", "keepWords", "()V"⟩, 10), (⟨"LetterAlgebra$Algebra", "keepProducts", "()V"⟩, 10), (⟨"LetterAlgebra$Algebra", "keepSets", "()V"⟩, 10)]
theorem lw_r1 : ∀ q ∈ lw_privs_1, lw_okq q := List.forall_mem_cons.mpr ⟨lw_p0, List.forall_mem_cons.mpr ⟨lw_p1, List.forall_mem_cons.mpr ⟨lw_p2, List.forall_mem_cons.mpr ⟨lw_p3, List.forall_mem_cons.mpr ⟨lw_p4, List.forall_mem_cons.mpr ⟨lw_p5, List.forall_mem_cons.mpr ⟨lw_p6, List.forall_mem_cons.mpr ⟨lw_p7, List.forall_mem_cons.mpr ⟨lw_p8, List.forall_mem_cons.mpr ⟨lw_p9, List.forall_mem_cons.mpr ⟨lw_p10, List.forall_mem_cons.mpr ⟨lw_p11, List.forall_mem_cons.mpr ⟨lw_p12, List.forall_mem_cons.mpr ⟨lw_p13, List.forall_mem_cons.mpr ⟨lw_p14, List.forall_mem_cons.mpr ⟨lw_p15, fun _ h => absurd h List.not_mem_nil⟩⟩⟩⟩⟩⟩⟩⟩⟩⟩⟩⟩⟩⟩⟩⟩
theorem lw_p16 : lw_okq (⟨"LetterAlgebra$Algebra", "isFirstOfClass", "(II)Z"⟩, 10) := ⟨⟨by decide +kernel, by decide +kernel⟩, List.mem_of_getElem? (i := 52) (by decide +kernel), List.mem_of_getElem? (i := 493) (by decide +kernel), List.mem_of_getElem? (i := 494) (by decide +kernel)⟩
theorem lw_p17 : lw_okq (⟨"LetterAlgebraModel", "make", "(III)I"⟩, 19) := ⟨⟨by decide +kernel, by decide +kernel⟩, List.mem_of_getElem? (i := 506) (by decide +kernel), List.mem_of_getElem? (i := 575) (by decide +kernel), List.mem_of_getElem? (i := 576) (by decide +kernel)⟩
theorem lw_p18 : lw_okq (⟨"LetterAlgebraModel", "listen", "()V"⟩, 19) := ⟨⟨by decide +kernel, by decide +kernel⟩, List.mem_of_getElem? (i := 506) (by decide +kernel), List.mem_of_getElem? (i := 579) (by decide +kernel), List.mem_of_getElem? (i := 580) (by decide +kernel)⟩
theorem lw_p19 : lw_okq (⟨"LetterAlgebraModel", "codes", "()I"⟩, 19) := ⟨⟨by decide +kernel, by decide +kernel⟩, List.mem_of_getElem? (i := 506) (by decide +kernel), List.mem_of_getElem? (i := 583) (by decide +kernel), List.mem_of_getElem? (i := 584) (by decide +kernel)⟩
theorem lw_p20 : lw_okq (⟨"LetterAlgebraModel", "accepted", "(I)Z"⟩, 19) := ⟨⟨by decide +kernel, by decide +kernel⟩, List.mem_of_getElem? (i := 506) (by decide +kernel), List.mem_of_getElem? (i := 587) (by decide +kernel), List.mem_of_getElem? (i := 588) (by decide +kernel)⟩
theorem lw_p21 : lw_okq (⟨"LetterAlgebraModel", "isGood", "(II)Z"⟩, 19) := ⟨⟨by decide +kernel, by decide +kernel⟩, List.mem_of_getElem? (i := 506) (by decide +kernel), List.mem_of_getElem? (i := 591) (by decide +kernel), List.mem_of_getElem? (i := 592) (by decide +kernel)⟩
theorem lw_p22 : lw_okq (⟨"LetterAlgebraModel", "nextCode", "(II)I"⟩, 19) := ⟨⟨by decide +kernel, by decide +kernel⟩, List.mem_of_getElem? (i := 506) (by decide +kernel), List.mem_of_getElem? (i := 595) (by decide +kernel), List.mem_of_getElem? (i := 596) (by decide +kernel)⟩
theorem lw_p23 : lw_okq (⟨"LetterAlgebraModel", "step", "(III)I"⟩, 19) := ⟨⟨by decide +kernel, by decide +kernel⟩, List.mem_of_getElem? (i := 506) (by decide +kernel), List.mem_of_getElem? (i := 599) (by decide +kernel), List.mem_of_getElem? (i := 600) (by decide +kernel)⟩
theorem lw_p24 : lw_okq (⟨"LetterAlgebraModel", "chained", "(II)I"⟩, 19) := ⟨⟨by decide +kernel, by decide +kernel⟩, List.mem_of_getElem? (i := 506) (by decide +kernel), List.mem_of_getElem? (i := 603) (by decide +kernel), List.mem_of_getElem? (i := 604) (by decide +kernel)⟩
theorem lw_p25 : lw_okq (⟨"LetterAlgebraModel", "image", "(III)I"⟩, 19) := ⟨⟨by decide +kernel, by decide +kernel⟩, List.mem_of_getElem? (i := 506) (by decide +kernel), List.mem_of_getElem? (i := 607) (by decide +kernel), List.mem_of_getElem? (i := 608) (by decide +kernel)⟩
theorem lw_p26 : lw_okq (⟨"LetterAlgebraModel", "starred", "(II)I"⟩, 19) := ⟨⟨by decide +kernel, by decide +kernel⟩, List.mem_of_getElem? (i := 506) (by decide +kernel), List.mem_of_getElem? (i := 611) (by decide +kernel), List.mem_of_getElem? (i := 612) (by decide +kernel)⟩
theorem lw_p27 : lw_okq (⟨"LetterAlgebraModel", "said", "()I"⟩, 19) := ⟨⟨by decide +kernel, by decide +kernel⟩, List.mem_of_getElem? (i := 506) (by decide +kernel), List.mem_of_getElem? (i := 615) (by decide +kernel), List.mem_of_getElem? (i := 616) (by decide +kernel)⟩
theorem lw_p28 : lw_okq (⟨"LetterAlgebraModel", "startCode", "()I"⟩, 19) := ⟨⟨by decide +kernel, by decide +kernel⟩, List.mem_of_getElem? (i := 506) (by decide +kernel), List.mem_of_getElem? (i := 619) (by decide +kernel), List.mem_of_getElem? (i := 620) (by decide +kernel)⟩
theorem lw_p29 : lw_okq (⟨"LetterAlgebraModel", "both", "(III)I"⟩, 19) := ⟨⟨by decide +kernel, by decide +kernel⟩, List.mem_of_getElem? (i := 506) (by decide +kernel), List.mem_of_getElem? (i := 627) (by decide +kernel), List.mem_of_getElem? (i := 628) (by decide +kernel)⟩
theorem lw_p30 : lw_okq (⟨"LetterAlgebraModel", "isIn", "(I)Z"⟩, 19) := ⟨⟨by decide +kernel, by decide +kernel⟩, List.mem_of_getElem? (i := 506) (by decide +kernel), List.mem_of_getElem? (i := 631) (by decide +kernel), List.mem_of_getElem? (i := 632) (by decide +kernel)⟩
theorem lw_p31 : lw_okq (⟨"LetterAlgebraModel", "isState", "(II)Z"⟩, 19) := ⟨⟨by decide +kernel, by decide +kernel⟩, List.mem_of_getElem? (i := 506) (by decide +kernel), List.mem_of_getElem? (i := 667) (by decide +kernel), List.mem_of_getElem? (i := 668) (by decide +kernel)⟩
def lw_privs_2 : List (MethodName × Nat) := [(⟨"LetterAlgebra$Algebra", "isFirstOfClass", "(II)Z"⟩, 10), (⟨"LetterAlgebraModel", "make", "(III)I"⟩, 19), (⟨"LetterAlgebraModel", "listen", "()V"⟩, 19), (⟨"LetterAlgebraModel", "codes", "()I"⟩, 19), (⟨"LetterAlgebraModel", "accepted", "(I)Z"⟩, 19), (⟨"LetterAlgebraModel", "isGood", "(II)Z"⟩, 19), (⟨"LetterAlgebraModel", "nextCode", "(II)I"⟩, 19), (⟨"LetterAlgebraModel", "step", "(III)I"⟩, 19), (⟨"LetterAlgebraModel", "chained", "(II)I"⟩, 19), (⟨"LetterAlgebraModel", "image", "(III)I"⟩, 19), (⟨"LetterAlgebraModel", "starred", "(II)I"⟩, 19), (⟨"LetterAlgebraModel", "said", "()I"⟩, 19), (⟨"LetterAlgebraModel", "startCode", "()I"⟩, 19), (⟨"LetterAlgebraModel", "both", "(III)I"⟩, 19), (⟨"LetterAlgebraModel", "isIn", "(I)Z"⟩, 19), (⟨"LetterAlgebraModel", "isState", "(II)Z"⟩, 19)]
theorem lw_r2 : ∀ q ∈ lw_privs_2, lw_okq q := List.forall_mem_cons.mpr ⟨lw_p16, List.forall_mem_cons.mpr ⟨lw_p17, List.forall_mem_cons.mpr ⟨lw_p18, List.forall_mem_cons.mpr ⟨lw_p19, List.forall_mem_cons.mpr ⟨lw_p20, List.forall_mem_cons.mpr ⟨lw_p21, List.forall_mem_cons.mpr ⟨lw_p22, List.forall_mem_cons.mpr ⟨lw_p23, List.forall_mem_cons.mpr ⟨lw_p24, List.forall_mem_cons.mpr ⟨lw_p25, List.forall_mem_cons.mpr ⟨lw_p26, List.forall_mem_cons.mpr ⟨lw_p27, List.forall_mem_cons.mpr ⟨lw_p28, List.forall_mem_cons.mpr ⟨lw_p29, List.forall_mem_cons.mpr ⟨lw_p30, List.forall_mem_cons.mpr ⟨lw_p31, fun _ h => absurd h List.not_mem_nil⟩⟩⟩⟩⟩⟩⟩⟩⟩⟩⟩⟩⟩⟩⟩⟩
theorem lw_p32 : lw_okq (⟨"LetterAlgebraModel", "grow", "(I)I"⟩, 19) := ⟨⟨by decide +kernel, by decide +kernel⟩, List.mem_of_getElem? (i := 506) (by decide +kernel), List.mem_of_getElem? (i := 687) (by decide +kernel), List.mem_of_getElem? (i := 688) (by decide +kernel)⟩
theorem lw_p33 : lw_okq (⟨"LetterAlgebraModel", "behind", "(IIII)I"⟩, 19) := ⟨⟨by decide +kernel, by decide +kernel⟩, List.mem_of_getElem? (i := 506) (by decide +kernel), List.mem_of_getElem? (i := 694) (by decide +kernel), List.mem_of_getElem? (i := 695) (by decide +kernel)⟩
theorem lw_p34 : lw_okq (⟨"LetterAlgebraModel", "find", "(II)I"⟩, 19) := ⟨⟨by decide +kernel, by decide +kernel⟩, List.mem_of_getElem? (i := 506) (by decide +kernel), List.mem_of_getElem? (i := 698) (by decide +kernel), List.mem_of_getElem? (i := 699) (by decide +kernel)⟩
theorem lw_p35 : lw_okq (⟨"LetterAlgebraModel", "isElement", "(I)Z"⟩, 19) := ⟨⟨by decide +kernel, by decide +kernel⟩, List.mem_of_getElem? (i := 506) (by decide +kernel), List.mem_of_getElem? (i := 711) (by decide +kernel), List.mem_of_getElem? (i := 712) (by decide +kernel)⟩
theorem lw_p36 : lw_okq (⟨"LetterAlgebraModel", "rightOf", "(I)J"⟩, 19) := ⟨⟨by decide +kernel, by decide +kernel⟩, List.mem_of_getElem? (i := 506) (by decide +kernel), List.mem_of_getElem? (i := 724) (by decide +kernel), List.mem_of_getElem? (i := 725) (by decide +kernel)⟩
theorem lw_p37 : lw_okq (⟨"LetterAlgebraModel", "leftOf", "(I)J"⟩, 19) := ⟨⟨by decide +kernel, by decide +kernel⟩, List.mem_of_getElem? (i := 506) (by decide +kernel), List.mem_of_getElem? (i := 728) (by decide +kernel), List.mem_of_getElem? (i := 729) (by decide +kernel)⟩
theorem lw_p38 : lw_okq (⟨"LetterAlgebraModel", "aroundOf", "(I)J"⟩, 19) := ⟨⟨by decide +kernel, by decide +kernel⟩, List.mem_of_getElem? (i := 506) (by decide +kernel), List.mem_of_getElem? (i := 732) (by decide +kernel), List.mem_of_getElem? (i := 733) (by decide +kernel)⟩
theorem lw_p39 : lw_okq (⟨"LetterAlgebraModel", "against", "(III)Z"⟩, 19) := ⟨⟨by decide +kernel, by decide +kernel⟩, List.mem_of_getElem? (i := 506) (by decide +kernel), List.mem_of_getElem? (i := 745) (by decide +kernel), List.mem_of_getElem? (i := 746) (by decide +kernel)⟩
def lw_privs_3 : List (MethodName × Nat) := [(⟨"LetterAlgebraModel", "grow", "(I)I"⟩, 19), (⟨"LetterAlgebraModel", "behind", "(IIII)I"⟩, 19), (⟨"LetterAlgebraModel", "find", "(II)I"⟩, 19), (⟨"LetterAlgebraModel", "isElement", "(I)Z"⟩, 19), (⟨"LetterAlgebraModel", "rightOf", "(I)J"⟩, 19), (⟨"LetterAlgebraModel", "leftOf", "(I)J"⟩, 19), (⟨"LetterAlgebraModel", "aroundOf", "(I)J"⟩, 19), (⟨"LetterAlgebraModel", "against", "(III)Z"⟩, 19)]
theorem lw_r3 : ∀ q ∈ lw_privs_3, lw_okq q := List.forall_mem_cons.mpr ⟨lw_p32, List.forall_mem_cons.mpr ⟨lw_p33, List.forall_mem_cons.mpr ⟨lw_p34, List.forall_mem_cons.mpr ⟨lw_p35, List.forall_mem_cons.mpr ⟨lw_p36, List.forall_mem_cons.mpr ⟨lw_p37, List.forall_mem_cons.mpr ⟨lw_p38, List.forall_mem_cons.mpr ⟨lw_p39, fun _ h => absurd h List.not_mem_nil⟩⟩⟩⟩⟩⟩⟩⟩
def lw_privs : List (MethodName × Nat) := lw_privs_1 ++ (lw_privs_2 ++ (lw_privs_3))
def lw_tbl : List Cond := k2_sels lw_privs ++ tables_1
theorem lw_privs_ok : ∀ q ∈ lw_privs, lw_okq q := by
  show ∀ q ∈ lw_privs_1 ++ (lw_privs_2 ++ (lw_privs_3)), lw_okq q
  exact List.forall_mem_append.mpr ⟨lw_r1, List.forall_mem_append.mpr ⟨lw_r2, lw_r3⟩⟩
end
section
/-! printed by wip/whole/names.py: the words of the tables that every state keeps, and those that need a reader of their own -/
def zp_G : List Cond := lw_tbl.filter goodWord
theorem zp_good : ∀ w ∈ zp_G, (w.onTables && w.keeps) = true ∨ ∃ ty, w = .arrayClass ty := fun w hw => good_of_word (List.mem_filter.mp hw).2
theorem zp_in {w : Cond} (i : Nat) (h : tables_1[i]? = some w) (hg : goodWord w = true) : w ∈ zp_G := List.mem_filter.mpr ⟨List.mem_append_right _ (List.mem_of_getElem? h), hg⟩
theorem zp_inp {w : Cond} (i : Nat) (h : (k2_sels lw_privs)[i]? = some w) (hg : goodWord w = true) : w ∈ zp_G := List.mem_filter.mpr ⟨List.mem_append_left _ (List.mem_of_getElem? h), hg⟩
def R_Au : String := "LetterAlgebra$Automaton"
def F_Au : u_T := fun k => match k with
  | 0 => ("LetterAlgebra$Automaton", "size", "I", false)
  | 1 => ("LetterAlgebra$Automaton", "acceptingSet", "I", false)
  | _ => ("LetterAlgebra$Automaton", "steps", "[I", true)
def t_Au : Nat → FieldType := fun k => match k with
  | 0 => .int
  | 1 => .int
  | _ => .array .int
def R_LA : String := "LetterAlgebra"
def F_LA : u_T := fun k => match k with
  | 0 => ("LetterAlgebra", "languages", "[LLetterAlgebra$Automaton;", true)
  | 1 => ("LetterAlgebra", "languageCount", "I", false)
  | 2 => ("LetterAlgebra", "reducer", "LLetterAlgebra$Reducer;", true)
  | _ => ("LetterAlgebra", "algebra", "LLetterAlgebra$Algebra;", true)
def t_LA : Nat → FieldType := fun k => match k with
  | 0 => .array (.object "LetterAlgebra$Automaton")
  | 1 => .int
  | 2 => .object "LetterAlgebra$Reducer"
  | _ => .object "LetterAlgebra$Algebra"
def R_Ba : String := "LetterAlgebra$BasicMachine"
def F_Ba : u_T := fun k => match k with
  | _ => ("LetterAlgebra$BasicMachine", "kind", "I", true)
def t_Ba : Nat → FieldType := fun k => match k with
  | _ => .int
def R_Pa : String := "LetterAlgebra$PairMachine"
def F_Pa : u_T := fun k => match k with
  | 0 => ("LetterAlgebra$PairMachine", "first", "LLetterAlgebra$Automaton;", true)
  | 1 => ("LetterAlgebra$PairMachine", "second", "LLetterAlgebra$Automaton;", true)
  | _ => ("LetterAlgebra$PairMachine", "needsBoth", "Z", true)
def t_Pa : Nat → FieldType := fun k => match k with
  | 0 => .object "LetterAlgebra$Automaton"
  | 1 => .object "LetterAlgebra$Automaton"
  | _ => .boolean
def R_Ch : String := "LetterAlgebra$ChainMachine"
def F_Ch : u_T := fun k => match k with
  | 0 => ("LetterAlgebra$ChainMachine", "first", "LLetterAlgebra$Automaton;", true)
  | _ => ("LetterAlgebra$ChainMachine", "second", "LLetterAlgebra$Automaton;", true)
def t_Ch : Nat → FieldType := fun k => match k with
  | 0 => .object "LetterAlgebra$Automaton"
  | _ => .object "LetterAlgebra$Automaton"
def R_St : String := "LetterAlgebra$StarMachine"
def F_St : u_T := fun k => match k with
  | _ => ("LetterAlgebra$StarMachine", "part", "LLetterAlgebra$Automaton;", true)
def t_St : Nat → FieldType := fun k => match k with
  | _ => .object "LetterAlgebra$Automaton"
def R_In : String := "LetterAlgebra$InverseMachine"
def F_In : u_T := fun k => match k with
  | _ => ("LetterAlgebra$InverseMachine", "inner", "LLetterAlgebra$Automaton;", true)
def t_In : Nat → FieldType := fun k => match k with
  | _ => .object "LetterAlgebra$Automaton"
def R_Re : String := "LetterAlgebra$Reducer"
def F_Re : u_T := fun k => match k with
  | 0 => ("LetterAlgebra$Reducer", "numberOfCode", "[I", true)
  | 1 => ("LetterAlgebra$Reducer", "codes", "[I", true)
  | 2 => ("LetterAlgebra$Reducer", "steps", "[I", true)
  | 3 => ("LetterAlgebra$Reducer", "size", "I", false)
  | 4 => ("LetterAlgebra$Reducer", "parts", "[I", false)
  | 5 => ("LetterAlgebra$Reducer", "finerParts", "[I", false)
  | _ => ("LetterAlgebra$Reducer", "firstOfPart", "[I", true)
def t_Re : Nat → FieldType := fun k => match k with
  | 0 => .array .int
  | 1 => .array .int
  | 2 => .array .int
  | 3 => .int
  | 4 => .array .int
  | 5 => .array .int
  | _ => .array .int
def R_Al : String := "LetterAlgebra$Algebra"
def F_Al : u_T := fun k => match k with
  | 0 => ("LetterAlgebra$Algebra", "maps", "[I", true)
  | 1 => ("LetterAlgebra$Algebra", "longer", "[I", true)
  | 2 => ("LetterAlgebra$Algebra", "shorter", "[I", true)
  | 3 => ("LetterAlgebra$Algebra", "lastLetters", "[I", true)
  | 4 => ("LetterAlgebra$Algebra", "size", "I", false)
  | 5 => ("LetterAlgebra$Algebra", "leastWords", "[J", true)
  | 6 => ("LetterAlgebra$Algebra", "products", "[I", true)
  | 7 => ("LetterAlgebra$Algebra", "rightProducts", "[J", true)
  | 8 => ("LetterAlgebra$Algebra", "leftProducts", "[J", true)
  | _ => ("LetterAlgebra$Algebra", "bothSidesProducts", "[J", true)
def t_Al : Nat → FieldType := fun k => match k with
  | 0 => .array .int
  | 1 => .array .int
  | 2 => .array .int
  | 3 => .array .int
  | 4 => .int
  | 5 => .array .long
  | 6 => .array .int
  | 7 => .array .long
  | 8 => .array .long
  | _ => .array .long
def R_Mo : String := "LetterAlgebraModel"
def F_Mo : u_T := fun k => match k with
  | 0 => ("LetterAlgebraModel", "count", "I", false)
  | 1 => ("LetterAlgebraModel", "size", "[I", true)
  | 2 => ("LetterAlgebraModel", "go", "[I", true)
  | 3 => ("LetterAlgebraModel", "good", "[I", true)
  | 4 => ("LetterAlgebraModel", "op", "I", false)
  | 5 => ("LetterAlgebraModel", "first", "I", false)
  | 6 => ("LetterAlgebraModel", "second", "I", false)
  | 7 => ("LetterAlgebraModel", "says", "[J", true)
  | 8 => ("LetterAlgebraModel", "more", "[J", true)
  | 9 => ("LetterAlgebraModel", "met", "[I", true)
  | 10 => ("LetterAlgebraModel", "line", "[I", true)
  | 11 => ("LetterAlgebraModel", "seen", "[Z", true)
  | 12 => ("LetterAlgebraModel", "states", "I", false)
  | 13 => ("LetterAlgebraModel", "elements", "I", false)
  | 14 => ("LetterAlgebraModel", "does", "[I", true)
  | 15 => ("LetterAlgebraModel", "words", "[J", true)
  | 16 => ("LetterAlgebraModel", "found", "[I", true)
  | 17 => ("LetterAlgebraModel", "foundWord", "[J", true)
  | _ => ("LetterAlgebraModel", "products", "[I", true)
def t_Mo : Nat → FieldType := fun k => match k with
  | 0 => .int
  | 1 => .array .int
  | 2 => .array .int
  | 3 => .array .int
  | 4 => .int
  | 5 => .int
  | 6 => .int
  | 7 => .array .long
  | 8 => .array .long
  | 9 => .array .int
  | 10 => .array .int
  | 11 => .array .boolean
  | 12 => .int
  | 13 => .int
  | 14 => .array .int
  | 15 => .array .long
  | 16 => .array .int
  | 17 => .array .long
  | _ => .array .int
def zp_classes : List vw_C := [(R_Au, F_Au, 3), (R_LA, F_LA, 4), (R_Ba, F_Ba, 1), (R_Pa, F_Pa, 3), (R_Ch, F_Ch, 2), (R_St, F_St, 1), (R_In, F_In, 1), (R_Re, F_Re, 7), (R_Al, F_Al, 10), (R_Mo, F_Mo, 19)]
def zp_tys : List FieldType := [.int, .long, .boolean, .object "LetterAlgebra$Automaton"]
def zp_N : List Cond := [Cond.methodLinkNest "LetterAlgebra" 17 ⟨"LetterAlgebra$Reducer", "<init>", "()V"⟩ "LetterAlgebra", Cond.methodLinkNest "LetterAlgebra" 24 ⟨"LetterAlgebra$Algebra", "<init>", "()V"⟩ "LetterAlgebra", Cond.fieldLinkNest "LetterAlgebra" 85 "LetterAlgebra$Algebra" "size" "I" "LetterAlgebra", Cond.fieldLinkNest "LetterAlgebra" 93 "LetterAlgebra$Algebra" "leastWords" "[J" "LetterAlgebra", Cond.methodLinkNest "LetterAlgebra" 29 ⟨"LetterAlgebra$Automaton", "<init>", "()V"⟩ "LetterAlgebra", Cond.fieldLinkNest "LetterAlgebra$Reducer" 82 "LetterAlgebra$Automaton" "size" "I" "LetterAlgebra", Cond.fieldLinkNest "LetterAlgebra" 65 "LetterAlgebra$Automaton" "size" "I" "LetterAlgebra", Cond.fieldLinkNest "LetterAlgebra$Reducer" 85 "LetterAlgebra$Automaton" "acceptingSet" "I" "LetterAlgebra", Cond.fieldLinkNest "LetterAlgebra$Reducer" 88 "LetterAlgebra$Automaton" "steps" "[I" "LetterAlgebra"]
def zp_F : List (String × MethodName × MethodName) := [("LetterAlgebra$BasicMachine", ⟨"LetterAlgebra$Machine", "startCode", "()I"⟩, ⟨"LetterAlgebra$BasicMachine", "startCode", "()I"⟩), ("LetterAlgebra$ChainMachine", ⟨"LetterAlgebra$Machine", "startCode", "()I"⟩, ⟨"LetterAlgebra$ChainMachine", "startCode", "()I"⟩), ("LetterAlgebra$InverseMachine", ⟨"LetterAlgebra$Machine", "startCode", "()I"⟩, ⟨"LetterAlgebra$InverseMachine", "startCode", "()I"⟩), ("LetterAlgebra$PairMachine", ⟨"LetterAlgebra$Machine", "startCode", "()I"⟩, ⟨"LetterAlgebra$PairMachine", "startCode", "()I"⟩), ("LetterAlgebra$StarMachine", ⟨"LetterAlgebra$Machine", "startCode", "()I"⟩, ⟨"LetterAlgebra$StarMachine", "startCode", "()I"⟩), ("LetterAlgebra$BasicMachine", ⟨"LetterAlgebra$Machine", "stepCode", "(II)I"⟩, ⟨"LetterAlgebra$BasicMachine", "stepCode", "(II)I"⟩), ("LetterAlgebra$ChainMachine", ⟨"LetterAlgebra$Machine", "stepCode", "(II)I"⟩, ⟨"LetterAlgebra$ChainMachine", "stepCode", "(II)I"⟩), ("LetterAlgebra$InverseMachine", ⟨"LetterAlgebra$Machine", "stepCode", "(II)I"⟩, ⟨"LetterAlgebra$InverseMachine", "stepCode", "(II)I"⟩), ("LetterAlgebra$PairMachine", ⟨"LetterAlgebra$Machine", "stepCode", "(II)I"⟩, ⟨"LetterAlgebra$PairMachine", "stepCode", "(II)I"⟩), ("LetterAlgebra$StarMachine", ⟨"LetterAlgebra$Machine", "stepCode", "(II)I"⟩, ⟨"LetterAlgebra$StarMachine", "stepCode", "(II)I"⟩), ("LetterAlgebra$BasicMachine", ⟨"LetterAlgebra$Machine", "isAcceptingCode", "(I)Z"⟩, ⟨"LetterAlgebra$BasicMachine", "isAcceptingCode", "(I)Z"⟩), ("LetterAlgebra$ChainMachine", ⟨"LetterAlgebra$Machine", "isAcceptingCode", "(I)Z"⟩, ⟨"LetterAlgebra$ChainMachine", "isAcceptingCode", "(I)Z"⟩), ("LetterAlgebra$InverseMachine", ⟨"LetterAlgebra$Machine", "isAcceptingCode", "(I)Z"⟩, ⟨"LetterAlgebra$InverseMachine", "isAcceptingCode", "(I)Z"⟩), ("LetterAlgebra$PairMachine", ⟨"LetterAlgebra$Machine", "isAcceptingCode", "(I)Z"⟩, ⟨"LetterAlgebra$PairMachine", "isAcceptingCode", "(I)Z"⟩), ("LetterAlgebra$StarMachine", ⟨"LetterAlgebra$Machine", "isAcceptingCode", "(I)Z"⟩, ⟨"LetterAlgebra$StarMachine", "isAcceptingCode", "(I)Z"⟩)]
def zp_A : List String := ["LetterAlgebra$Automaton"]
theorem zp_Fk : ∀ q ∈ zp_F, q.2.1.cls ≠ "java/lang/invoke/MethodHandle" ∧ q.2.1.cls ≠ "java/lang/invoke/VarHandle" := by decide +kernel
end
section
/-- what stays while one body runs: program, launch, env, room, state at entry, method, arguments, frames below, method's record, code -/
abbrev zv_C : Type := Program × Launch × Env × Room × State × MethodId × Array Value × List Frame × Method × Code
/-- what stays while the law runs: its first heap, class numbers and slots, array classes -/
abbrev zv_D : Type := Heap × va_G × (Nat → ClassId)
abbrev zv_M : Type := Nat → Option va_E
def zv_tys (Δ : zv_D) : List (ClassId × FieldType) := zp_tys.mapIdx (fun k t => (Δ.2.2 k, t))
def zv_H (Δ : zv_D) (hp : zv_M) (sz : Nat) (H : Heap) : Prop :=
  H.size = sz ∧ Δ.1.size ≤ sz ∧ (∀ q : Nat, q < Δ.1.size → H[q]? = Δ.1[q]?) ∧ ∀ (a : Nat) (e : va_E), hp a = some e → Δ.1.size ≤ a ∧ va_at Δ.2.1 zp_classes (a, e) H
theorem zv_H.lt {Δ : zv_D} {hp : zv_M} {sz : Nat} {H : Heap} (h : zv_H Δ hp sz H) : ∀ (a : Nat) (e : va_E), hp a = some e → a < sz := fun a e he => by
  have := (h.2.2.2 a e he).2.lt
  rw [h.1] at this
  exact this
theorem zv_H.put {Δ : zv_D} {hp : zv_M} {sz : Nat} {H H1 : Heap} (h : zv_H Δ hp sz H) {a : Nat} {e0 e : va_E} (ha : hp a = some e0) (h1 : va_at Δ.2.1 zp_classes (a, e) H1) (hz : H1.size = H.size) (ho : ∀ q : Nat, q ≠ a → H1[q]? = H[q]?) : zv_H Δ (va_up hp a (some e)) sz H1 := by
  refine ⟨hz.trans h.1, h.2.1, fun q hq => ?_, fun b eb hb => ?_⟩
  · have hne : q ≠ a := fun x => by
      have := (h.2.2.2 a e0 ha).1
      omega
    rw [ho q hne]
    exact h.2.2.1 q hq
  · by_cases hba : b = a
    · subst hba
      simp only [va_up, if_true] at hb
      cases hb
      exact ⟨(h.2.2.2 b e0 ha).1, h1⟩
    · simp only [va_up, hba, if_false] at hb
      exact ⟨(h.2.2.2 b eb hb).1, (h.2.2.2 b eb hb).2.kept (ho b hba)⟩
theorem zv_H.push {Δ : zv_D} {hp : zv_M} {sz : Nat} {H H1 : Heap} (h : zv_H Δ hp sz H) {e : va_E} (h1 : va_at Δ.2.1 zp_classes (sz, e) H1) (hz : H1.size = sz + 1) (ho : ∀ q : Nat, q < sz → H1[q]? = H[q]?) : zv_H Δ (va_up hp sz (some e)) (sz + 1) H1 := by
  have hzs := h.2.1
  refine ⟨hz, by omega, fun q hq => ?_, fun b eb hb => ?_⟩
  · rw [ho q (by omega)]
    exact h.2.2.1 q hq
  · by_cases hba : b = sz
    · subst hba
      simp only [va_up, if_true] at hb
      cases hb
      exact ⟨hzs, h1⟩
    · simp only [va_up, hba, if_false] at hb
      exact ⟨(h.2.2.2 b eb hb).1, (h.2.2.2 b eb hb).2.kept (ho b (h.lt b eb hb))⟩
def zv_isN : Cond → Bool
  | .fieldLinkNest .. => true
  | .methodLinkNest .. => true
  | .castable .. => true
  | _ => false
theorem zp_Nk : ∀ w ∈ zp_N, zv_isN w = true := by decide +kernel
theorem zv_N_warm {w : Cond} {s U : State} (h : zv_isN w = true) (hW : s.WarmedH U.vm) (hZ : va_Nw w s) : va_Nw w U := by
  cases w <;> first | exact va_Nw.warmF hW hZ | exact va_Nw.warmM hW hZ | exact va_Nw.warmC hW hZ | exact (Bool.false_ne_true h).elim
theorem zv_N_same {w : Cond} {s U : State} (h : zv_isN w = true) (hW : s.vm = U.vm) (hZ : va_Nw w s) : va_Nw w U := by
  cases w <;> first | exact va_Nw.same rfl hW hZ | exact (Bool.false_ne_true h).elim
def zv_T (Δ : zv_D) (U : State) : Prop := va_K Δ.2.1 zp_classes (zv_tys Δ) U ∧ (∀ w ∈ zp_N, va_Nw w U) ∧ (∀ q ∈ zp_F, va_Fw q.1 q.2.1 q.2.2 U) ∧ ∀ C ∈ zp_A, va_AO C U
theorem zv_T.warm {Δ : zv_D} {s U : State} (hW : s.WarmedH U.vm) (h : zv_T Δ s) : zv_T Δ U :=
  ⟨va_K.moved hW.alike h.1, fun w hw => zv_N_warm (zp_Nk w hw) hW (h.2.1 w hw), fun q hq => va_Fw.moved (zp_Fk q hq) hW.alike (h.2.2.1 q hq), fun C hC => va_AO.moved hW.alike (h.2.2.2 C hC)⟩
theorem zv_T.same {Δ : zv_D} {s U : State} (hW : s.vm = U.vm) (h : zv_T Δ s) : zv_T Δ U :=
  have hA : s.vm.Alike U.vm := hW ▸ Vm.Alike.refl s.vm
  ⟨va_K.moved hA h.1, fun w hw => zv_N_same (zp_Nk w hw) hW (h.2.1 w hw), fun q hq => va_Fw.moved (zp_Fk q hq) hA (h.2.2.1 q hq), fun C hC => va_AO.moved hA (h.2.2.2 C hC)⟩
/-- the locals -/
def zv_L (lv : List (Option Value)) (ls : Array Slot) : Prop := ls.size = lv.length ∧ lv_wf ls ∧ ∀ (i : Nat) (v : Value), lv[i]? = some (some v) → ls[i]? = some (.val v)
def zv_prs (lv : List (Option Value)) : List (Nat × Value) := (List.range lv.length).filterMap (fun i => (lv[i]?.bind id).map (fun v => (i, v)))
theorem zv_prs_mem {lv : List (Option Value)} {i : Nat} {v : Value} (h : lv[i]? = some (some v)) : (i, v) ∈ zv_prs lv := by
  refine List.mem_filterMap.mpr ⟨i, List.mem_range.mpr (List.getElem?_eq_some_iff.mp h).1, ?_⟩
  rw [h]
  rfl
theorem zv_prs_of {lv : List (Option Value)} {q : Nat × Value} (h : q ∈ zv_prs lv) : lv[q.1]? = some (some q.2) := by
  obtain ⟨i, -, hi⟩ := List.mem_filterMap.mp h
  cases hx : lv[i]? with
  | none => rw [hx] at hi; cases hi
  | some w =>
    cases w with
    | none => rw [hx] at hi; cases hi
    | some v =>
      rw [hx] at hi
      cases hi
      exact hx
theorem zv_L.has {lv : List (Option Value)} {ls : Array Slot} (h : zv_L lv ls) : lv_has ls lv.length (zv_prs lv) := ⟨h.1, h.2.1, fun q hq => h.2.2 q.1 q.2 (zv_prs_of hq)⟩
def zv_kill (lv : List (Option Value)) : Nat → List (Option Value)
  | 0 => lv
  | j + 1 => match lv[j]? with
    | some (some (.long _)) => lv.set j none
    | some (some (.double _)) => lv.set j none
    | _ => lv
theorem zv_kill_len (lv : List (Option Value)) (i : Nat) : (zv_kill lv i).length = lv.length := by
  cases i with
  | zero => rfl
  | succ j => simp only [zv_kill]; split <;> simp
theorem zv_kill_at {lv : List (Option Value)} {i j : Nat} {v : Value} (h : (zv_kill lv i)[j]? = some (some v)) : lv[j]? = some (some v) ∧ ¬ (j + 1 = i ∧ v.category = 2) := by
  cases i with
  | zero => exact ⟨h, fun q => by omega⟩
  | succ k =>
    have key : ∀ l2 : List (Option Value), l2 = lv.set k none → l2[j]? = some (some v) → lv[j]? = some (some v) ∧ ¬ (j + 1 = k + 1 ∧ v.category = 2) := by
      intro l2 e h2
      subst e
      by_cases hj : j = k
      · subst hj
        by_cases hl : j < lv.length
        · rw [List.getElem?_set_self hl] at h2; cases h2
        · rw [List.getElem?_eq_none (by simpa using hl)] at h2; cases h2
      · rw [List.getElem?_set_ne (Ne.symm hj)] at h2
        exact ⟨h2, fun q => hj (by omega)⟩
    cases hx : lv[k]? with
    | none =>
      have e : zv_kill lv (k + 1) = lv := by simp only [zv_kill, hx]
      rw [e] at h
      refine ⟨h, fun q => ?_⟩
      have hj : j = k := by omega
      rw [hj, hx] at h
      cases h
    | some w =>
      cases w with
      | none =>
        have e : zv_kill lv (k + 1) = lv := by simp only [zv_kill, hx]
        rw [e] at h
        refine ⟨h, fun q => ?_⟩
        have hj : j = k := by omega
        rw [hj, hx] at h
        cases h
      | some w =>
        by_cases h2 : w.category = 2
        · have e : zv_kill lv (k + 1) = lv.set k none := by cases w <;> first | (simp only [zv_kill, hx]; done) | (exact absurd h2 (by simp [Value.category]))
          exact key _ e h
        · have e : zv_kill lv (k + 1) = lv := by cases w <;> first | (simp only [zv_kill, hx]; done) | (exact absurd rfl h2)
          rw [e] at h
          refine ⟨h, fun q => ?_⟩
          have hj : j = k := by omega
          rw [hj, hx] at h
          cases h
          exact h2 q.2
/-- a value of one slot is stored, a value of two -/
def zv_s1 (lv : List (Option Value)) (i : Nat) (v : Value) : List (Option Value) := (zv_kill lv i).set i (some v)
def zv_s2 (lv : List (Option Value)) (i : Nat) (v : Value) : List (Option Value) := ((zv_kill lv i).set i (some v)).set (i + 1) none
theorem zv_s1_has {lv : List (Option Value)} {i : Nat} {v : Value} {ls : Array Slot} (h : lv_has ls lv.length ((i, v) :: (zv_prs lv).filter (fun q => !(q.1 == i) && !(q.1 + 1 == i && q.2.category == 2)))) : zv_L (zv_s1 lv i v) ls := by
  refine ⟨by rw [h.1]; simp [zv_s1, zv_kill_len], h.2.1, fun j w hj => ?_⟩
  by_cases hji : j = i
  · subst hji
    have hl : j < (zv_kill lv j).length := by
      have := (List.getElem?_eq_some_iff.mp hj).1
      simpa [zv_s1] using this
    rw [zv_s1, List.getElem?_set_self hl] at hj
    cases hj
    exact h.2.2 (j, v) List.mem_cons_self
  · rw [zv_s1, List.getElem?_set_ne (Ne.symm hji)] at hj
    obtain ⟨h1, h2⟩ := zv_kill_at hj
    refine h.2.2 (j, w) (List.mem_cons_of_mem _ (List.mem_filter.mpr ⟨zv_prs_mem h1, ?_⟩))
    simp only [Bool.and_eq_true, Bool.not_eq_true', beq_eq_false_iff_ne, ne_eq, Bool.and_eq_false_iff]
    refine ⟨hji, ?_⟩
    by_cases h3 : j + 1 = i
    · exact Or.inr (fun h4 => h2 ⟨h3, h4⟩)
    · exact Or.inl h3
theorem zv_s2_has {lv : List (Option Value)} {i : Nat} {v : Value} {ls : Array Slot} (h : lv_has ls lv.length ((i, v) :: (zv_prs lv).filter (fun q => !(q.1 == i) && (!(q.1 == i + 1) && !(q.1 + 1 == i && q.2.category == 2))))) : zv_L (zv_s2 lv i v) ls := by
  refine ⟨by rw [h.1]; simp [zv_s2, zv_kill_len], h.2.1, fun j w hj => ?_⟩
  by_cases hj1 : j = i + 1
  · subst hj1
    by_cases hl : i + 1 < ((zv_kill lv i).set i (some v)).length
    · rw [zv_s2, List.getElem?_set_self hl] at hj; cases hj
    · rw [zv_s2, List.getElem?_eq_none (by simpa using hl)] at hj; cases hj
  rw [zv_s2, List.getElem?_set_ne (Ne.symm hj1)] at hj
  by_cases hji : j = i
  · subst hji
    have hl : j < (zv_kill lv j).length := by
      have := (List.getElem?_eq_some_iff.mp hj).1
      simpa using this
    rw [List.getElem?_set_self hl] at hj
    cases hj
    exact h.2.2 (j, v) List.mem_cons_self
  · rw [List.getElem?_set_ne (Ne.symm hji)] at hj
    obtain ⟨h1, h2⟩ := zv_kill_at hj
    refine h.2.2 (j, w) (List.mem_cons_of_mem _ (List.mem_filter.mpr ⟨zv_prs_mem h1, ?_⟩))
    simp only [Bool.and_eq_true, Bool.not_eq_true', beq_eq_false_iff_ne, ne_eq, Bool.and_eq_false_iff]
    refine ⟨hji, hj1, ?_⟩
    by_cases h3 : j + 1 = i
    · exact Or.inr (fun h4 => h2 ⟨h3, h4⟩)
    · exact Or.inl h3
/-- what is known of a class: its fields' types, and that their names differ -/
def zv_cls (ci : Nat) (C : String) (T : u_T) (N : Nat) : Prop := zp_classes[ci]? = some (C, T, N) ∧ (∀ w ∈ u_ws C T N, w ∈ zp_G) ∧ (∃ ty : Nat → FieldType, ∀ k, k < N → parseFieldDescriptor (T k).2.2.1 = some (ty k)) ∧ ∀ a, a < N → ∀ b, b < N → a ≠ b → (T a).2.1 ≠ (T b).2.1
/-- the judgement: from every heap that the picture describes the machine comes to a state with Q -/
def zv_V (Δ : zv_D) (Γ : zv_C) (Q : State → Prop) (pc : Nat) (lv : List (Option Value)) (st : List Value) (hp : zv_M) (sz ce sl : Nat) : Prop :=
  ∀ (H : Heap) (locs : List Loc) (ls : Array Slot), zv_H Δ hp sz H → (∀ q ∈ locs, Δ.1.size ≤ q.base) → zv_L lv ls →
    W Γ.1 Γ.2.1 Γ.2.2.1 Γ.2.2.2.1 Γ.2.2.2.2.1 Γ.2.2.2.2.2.1 Γ.2.2.2.2.2.2.1 Γ.2.2.2.2.2.2.2.1 Γ.2.2.2.2.2.2.2.2.1 Γ.2.2.2.2.2.2.2.2.2 H locs ce sl Q (F0 Γ.2.2.2.2.2.1 pc ls st)
/-- what a body knows of itself -/
def zv_F (Δ : zv_D) (Γ : zv_C) (own nm : String) (cc : ByteArray) (nL : Nat) (ret : Option FieldType) (R : Room) : Prop :=
  Γ.1.tables.exec = Jvm.exec ∧ Γ.2.2.2.2.2.2.2.2.2.code = cc ∧ Γ.2.2.2.2.2.2.2.2.2.maxLocals = nL ∧ Γ.2.2.2.2.1.vm.findClass own = some Γ.2.2.2.2.2.1.cls ∧ (∀ w ∈ zp_G, w.before Γ.2.2.2.2.2.2.1 Γ.2.2.2.2.1 = true) ∧ zv_T Δ Γ.2.2.2.2.1 ∧ Γ.2.2.2.2.2.2.2.2.1.sig.returnType = ret ∧ Γ.2.2.2.2.2.2.2.2.1.locks = false ∧ Γ.2.2.2.2.2.2.2.2.1.name = nm ∧ Γ.2.2.2.1 = R
section ZV
variable {Δ : zv_D} {Γ : zv_C} {Q : State → Prop} {own nm : String} {cc : ByteArray} {nL : Nat} {ret : Option FieldType} {R : Room} {pc : Nat} {lv : List (Option Value)} {st : List Value} {hp : zv_M} {sz ce sl : Nat}
theorem zv_iadd (F : zv_F Δ Γ own nm cc nL ret R) {x y : Int32} (hd : decode cc pc = .ok (.iadd, 1)) (k : zv_V Δ Γ Q (pc + 1) lv (.int (x + y) :: st) hp sz ce sl) : zv_V Δ Γ Q (pc) lv (.int y :: .int x :: st) hp sz ce sl := by
  obtain ⟨p, l, e, R0, s, m, args, below, meth, c⟩ := Γ
  obtain ⟨hx, hb, hml, hown, hts, hT, hr, hlk, hnm, hR⟩ := F
  intro H locs ls hH hlo hL
  exact lv_iadd hx hb hd (k H locs ls hH hlo hL)
theorem zv_isub (F : zv_F Δ Γ own nm cc nL ret R) {x y : Int32} (hd : decode cc pc = .ok (.isub, 1)) (k : zv_V Δ Γ Q (pc + 1) lv (.int (x - y) :: st) hp sz ce sl) : zv_V Δ Γ Q (pc) lv (.int y :: .int x :: st) hp sz ce sl := by
  obtain ⟨p, l, e, R0, s, m, args, below, meth, c⟩ := Γ
  obtain ⟨hx, hb, hml, hown, hts, hT, hr, hlk, hnm, hR⟩ := F
  intro H locs ls hH hlo hL
  exact lv_isub hx hb hd (k H locs ls hH hlo hL)
theorem zv_imul (F : zv_F Δ Γ own nm cc nL ret R) {x y : Int32} (hd : decode cc pc = .ok (.imul, 1)) (k : zv_V Δ Γ Q (pc + 1) lv (.int (x * y) :: st) hp sz ce sl) : zv_V Δ Γ Q (pc) lv (.int y :: .int x :: st) hp sz ce sl := by
  obtain ⟨p, l, e, R0, s, m, args, below, meth, c⟩ := Γ
  obtain ⟨hx, hb, hml, hown, hts, hT, hr, hlk, hnm, hR⟩ := F
  intro H locs ls hH hlo hL
  exact lv_imul hx hb hd (k H locs ls hH hlo hL)
theorem zv_iand (F : zv_F Δ Γ own nm cc nL ret R) {x y : Int32} (hd : decode cc pc = .ok (.iand, 1)) (k : zv_V Δ Γ Q (pc + 1) lv (.int (x &&& y) :: st) hp sz ce sl) : zv_V Δ Γ Q (pc) lv (.int y :: .int x :: st) hp sz ce sl := by
  obtain ⟨p, l, e, R0, s, m, args, below, meth, c⟩ := Γ
  obtain ⟨hx, hb, hml, hown, hts, hT, hr, hlk, hnm, hR⟩ := F
  intro H locs ls hH hlo hL
  exact lv_iand hx hb hd (k H locs ls hH hlo hL)
theorem zv_ior (F : zv_F Δ Γ own nm cc nL ret R) {x y : Int32} (hd : decode cc pc = .ok (.ior, 1)) (k : zv_V Δ Γ Q (pc + 1) lv (.int (x ||| y) :: st) hp sz ce sl) : zv_V Δ Γ Q (pc) lv (.int y :: .int x :: st) hp sz ce sl := by
  obtain ⟨p, l, e, R0, s, m, args, below, meth, c⟩ := Γ
  obtain ⟨hx, hb, hml, hown, hts, hT, hr, hlk, hnm, hR⟩ := F
  intro H locs ls hH hlo hL
  exact lv_ior hx hb hd (k H locs ls hH hlo hL)
theorem zv_ixor (F : zv_F Δ Γ own nm cc nL ret R) {x y : Int32} (hd : decode cc pc = .ok (.ixor, 1)) (k : zv_V Δ Γ Q (pc + 1) lv (.int (x ^^^ y) :: st) hp sz ce sl) : zv_V Δ Γ Q (pc) lv (.int y :: .int x :: st) hp sz ce sl := by
  obtain ⟨p, l, e, R0, s, m, args, below, meth, c⟩ := Γ
  obtain ⟨hx, hb, hml, hown, hts, hT, hr, hlk, hnm, hR⟩ := F
  intro H locs ls hH hlo hL
  exact lv_ixor hx hb hd (k H locs ls hH hlo hL)
theorem zv_ishl (F : zv_F Δ Γ own nm cc nL ret R) {x y : Int32} (hd : decode cc pc = .ok (.ishl, 1)) (k : zv_V Δ Γ Q (pc + 1) lv (.int (x <<< (y &&& 31)) :: st) hp sz ce sl) : zv_V Δ Γ Q (pc) lv (.int y :: .int x :: st) hp sz ce sl := by
  obtain ⟨p, l, e, R0, s, m, args, below, meth, c⟩ := Γ
  obtain ⟨hx, hb, hml, hown, hts, hT, hr, hlk, hnm, hR⟩ := F
  intro H locs ls hH hlo hL
  exact lv_ishl hx hb hd (k H locs ls hH hlo hL)
theorem zv_ishr (F : zv_F Δ Γ own nm cc nL ret R) {x y : Int32} (hd : decode cc pc = .ok (.ishr, 1)) (k : zv_V Δ Γ Q (pc + 1) lv (.int (x >>> (y &&& 31)) :: st) hp sz ce sl) : zv_V Δ Γ Q (pc) lv (.int y :: .int x :: st) hp sz ce sl := by
  obtain ⟨p, l, e, R0, s, m, args, below, meth, c⟩ := Γ
  obtain ⟨hx, hb, hml, hown, hts, hT, hr, hlk, hnm, hR⟩ := F
  intro H locs ls hH hlo hL
  exact lv_ishr hx hb hd (k H locs ls hH hlo hL)
theorem zv_idiv (F : zv_F Δ Γ own nm cc nL ret R) {x y : Int32} (hd : decode cc pc = .ok (.idiv, 1)) (hne : ¬ y = 0) (k : zv_V Δ Γ Q (pc + 1) lv (.int (x / y) :: st) hp sz ce sl) : zv_V Δ Γ Q (pc) lv (.int y :: .int x :: st) hp sz ce sl := by
  obtain ⟨p, l, e, R0, s, m, args, below, meth, c⟩ := Γ
  obtain ⟨hx, hb, hml, hown, hts, hT, hr, hlk, hnm, hR⟩ := F
  intro H locs ls hH hlo hL
  exact lv_idiv hx hb hd hne (k H locs ls hH hlo hL)
theorem zv_irem (F : zv_F Δ Γ own nm cc nL ret R) {x y : Int32} (hd : decode cc pc = .ok (.irem, 1)) (hne : ¬ y = 0) (k : zv_V Δ Γ Q (pc + 1) lv (.int (x - x / y * y) :: st) hp sz ce sl) : zv_V Δ Γ Q (pc) lv (.int y :: .int x :: st) hp sz ce sl := by
  obtain ⟨p, l, e, R0, s, m, args, below, meth, c⟩ := Γ
  obtain ⟨hx, hb, hml, hown, hts, hT, hr, hlk, hnm, hR⟩ := F
  intro H locs ls hH hlo hL
  exact lv_irem hx hb hd hne (k H locs ls hH hlo hL)
theorem zv_ineg (F : zv_F Δ Γ own nm cc nL ret R) {x : Int32} (hd : decode cc pc = .ok (.ineg, 1)) (k : zv_V Δ Γ Q (pc + 1) lv (.int (-x) :: st) hp sz ce sl) : zv_V Δ Γ Q (pc) lv (.int x :: st) hp sz ce sl := by
  obtain ⟨p, l, e, R0, s, m, args, below, meth, c⟩ := Γ
  obtain ⟨hx, hb, hml, hown, hts, hT, hr, hlk, hnm, hR⟩ := F
  intro H locs ls hH hlo hL
  exact lv_ineg hx hb hd (k H locs ls hH hlo hL)
theorem zv_iushr (F : zv_F Δ Γ own nm cc nL ret R) {x y : Int32} (hd : decode cc pc = .ok (.iushr, 1)) (k : zv_V Δ Γ Q (pc + 1) lv (.int ((x.toUInt32 >>> (y.toUInt32 &&& Int32.toUInt32 31)).toInt32) :: st) hp sz ce sl) : zv_V Δ Γ Q (pc) lv (.int y :: .int x :: st) hp sz ce sl := by
  obtain ⟨p, l, e, R0, s, m, args, below, meth, c⟩ := Γ
  obtain ⟨hx, hb, hml, hown, hts, hT, hr, hlk, hnm, hR⟩ := F
  intro H locs ls hH hlo hL
  exact lv_iushr hx hb hd rfl (k H locs ls hH hlo hL)
theorem zv_ladd (F : zv_F Δ Γ own nm cc nL ret R) {x y : Int64} (hd : decode cc pc = .ok (.ladd, 1)) (k : zv_V Δ Γ Q (pc + 1) lv (.long (x + y) :: st) hp sz ce sl) : zv_V Δ Γ Q (pc) lv (.long y :: .long x :: st) hp sz ce sl := by
  obtain ⟨p, l, e, R0, s, m, args, below, meth, c⟩ := Γ
  obtain ⟨hx, hb, hml, hown, hts, hT, hr, hlk, hnm, hR⟩ := F
  intro H locs ls hH hlo hL
  exact lv_ladd hx hb hd (k H locs ls hH hlo hL)
theorem zv_lsub (F : zv_F Δ Γ own nm cc nL ret R) {x y : Int64} (hd : decode cc pc = .ok (.lsub, 1)) (k : zv_V Δ Γ Q (pc + 1) lv (.long (x - y) :: st) hp sz ce sl) : zv_V Δ Γ Q (pc) lv (.long y :: .long x :: st) hp sz ce sl := by
  obtain ⟨p, l, e, R0, s, m, args, below, meth, c⟩ := Γ
  obtain ⟨hx, hb, hml, hown, hts, hT, hr, hlk, hnm, hR⟩ := F
  intro H locs ls hH hlo hL
  exact lv_lsub hx hb hd (k H locs ls hH hlo hL)
theorem zv_lmul (F : zv_F Δ Γ own nm cc nL ret R) {x y : Int64} (hd : decode cc pc = .ok (.lmul, 1)) (k : zv_V Δ Γ Q (pc + 1) lv (.long (x * y) :: st) hp sz ce sl) : zv_V Δ Γ Q (pc) lv (.long y :: .long x :: st) hp sz ce sl := by
  obtain ⟨p, l, e, R0, s, m, args, below, meth, c⟩ := Γ
  obtain ⟨hx, hb, hml, hown, hts, hT, hr, hlk, hnm, hR⟩ := F
  intro H locs ls hH hlo hL
  exact lv_lmul hx hb hd (k H locs ls hH hlo hL)
theorem zv_land (F : zv_F Δ Γ own nm cc nL ret R) {x y : Int64} (hd : decode cc pc = .ok (.land, 1)) (k : zv_V Δ Γ Q (pc + 1) lv (.long (x &&& y) :: st) hp sz ce sl) : zv_V Δ Γ Q (pc) lv (.long y :: .long x :: st) hp sz ce sl := by
  obtain ⟨p, l, e, R0, s, m, args, below, meth, c⟩ := Γ
  obtain ⟨hx, hb, hml, hown, hts, hT, hr, hlk, hnm, hR⟩ := F
  intro H locs ls hH hlo hL
  exact lv_land hx hb hd (k H locs ls hH hlo hL)
theorem zv_lor (F : zv_F Δ Γ own nm cc nL ret R) {x y : Int64} (hd : decode cc pc = .ok (.lor, 1)) (k : zv_V Δ Γ Q (pc + 1) lv (.long (x ||| y) :: st) hp sz ce sl) : zv_V Δ Γ Q (pc) lv (.long y :: .long x :: st) hp sz ce sl := by
  obtain ⟨p, l, e, R0, s, m, args, below, meth, c⟩ := Γ
  obtain ⟨hx, hb, hml, hown, hts, hT, hr, hlk, hnm, hR⟩ := F
  intro H locs ls hH hlo hL
  exact lv_lor hx hb hd (k H locs ls hH hlo hL)
theorem zv_lxor (F : zv_F Δ Γ own nm cc nL ret R) {x y : Int64} (hd : decode cc pc = .ok (.lxor, 1)) (k : zv_V Δ Γ Q (pc + 1) lv (.long (x ^^^ y) :: st) hp sz ce sl) : zv_V Δ Γ Q (pc) lv (.long y :: .long x :: st) hp sz ce sl := by
  obtain ⟨p, l, e, R0, s, m, args, below, meth, c⟩ := Γ
  obtain ⟨hx, hb, hml, hown, hts, hT, hr, hlk, hnm, hR⟩ := F
  intro H locs ls hH hlo hL
  exact lv_lxor hx hb hd (k H locs ls hH hlo hL)
theorem zv_lshl (F : zv_F Δ Γ own nm cc nL ret R) {x : Int64} {y : Int32} (hd : decode cc pc = .ok (.lshl, 1)) (k : zv_V Δ Γ Q (pc + 1) lv (.long (x <<< (y.toInt64 &&& 63)) :: st) hp sz ce sl) : zv_V Δ Γ Q (pc) lv (.int y :: .long x :: st) hp sz ce sl := by
  obtain ⟨p, l, e, R0, s, m, args, below, meth, c⟩ := Γ
  obtain ⟨hx, hb, hml, hown, hts, hT, hr, hlk, hnm, hR⟩ := F
  intro H locs ls hH hlo hL
  exact lv_lshl hx hb hd rfl (k H locs ls hH hlo hL)
theorem zv_lshr (F : zv_F Δ Γ own nm cc nL ret R) {x : Int64} {y : Int32} (hd : decode cc pc = .ok (.lshr, 1)) (k : zv_V Δ Γ Q (pc + 1) lv (.long (x >>> (y.toInt64 &&& 63)) :: st) hp sz ce sl) : zv_V Δ Γ Q (pc) lv (.int y :: .long x :: st) hp sz ce sl := by
  obtain ⟨p, l, e, R0, s, m, args, below, meth, c⟩ := Γ
  obtain ⟨hx, hb, hml, hown, hts, hT, hr, hlk, hnm, hR⟩ := F
  intro H locs ls hH hlo hL
  exact lv_lshr hx hb hd rfl (k H locs ls hH hlo hL)
theorem zv_lushr (F : zv_F Δ Γ own nm cc nL ret R) {x : Int64} {y : Int32} (hd : decode cc pc = .ok (.lushr, 1)) (k : zv_V Δ Γ Q (pc + 1) lv (.long ((x.toUInt64 >>> (y.toInt64.toUInt64 &&& Int64.toUInt64 63)).toInt64) :: st) hp sz ce sl) : zv_V Δ Γ Q (pc) lv (.int y :: .long x :: st) hp sz ce sl := by
  obtain ⟨p, l, e, R0, s, m, args, below, meth, c⟩ := Γ
  obtain ⟨hx, hb, hml, hown, hts, hT, hr, hlk, hnm, hR⟩ := F
  intro H locs ls hH hlo hL
  exact lv_lushr hx hb hd rfl (k H locs ls hH hlo hL)
theorem zv_lcmp (F : zv_F Δ Γ own nm cc nL ret R) {x y : Int64} (hd : decode cc pc = .ok (.lcmp, 1)) (k : zv_V Δ Γ Q (pc + 1) lv (.int (lg_cmp x y) :: st) hp sz ce sl) : zv_V Δ Γ Q (pc) lv (.long y :: .long x :: st) hp sz ce sl := by
  obtain ⟨p, l, e, R0, s, m, args, below, meth, c⟩ := Γ
  obtain ⟨hx, hb, hml, hown, hts, hT, hr, hlk, hnm, hR⟩ := F
  intro H locs ls hH hlo hL
  exact W.lcmp hx hb hd (k H locs ls hH hlo hL)
theorem zv_i2l (F : zv_F Δ Γ own nm cc nL ret R) {x : Int32} (hd : decode cc pc = .ok (.i2l, 1)) (k : zv_V Δ Γ Q (pc + 1) lv (.long x.toInt64 :: st) hp sz ce sl) : zv_V Δ Γ Q (pc) lv (.int x :: st) hp sz ce sl := by
  obtain ⟨p, l, e, R0, s, m, args, below, meth, c⟩ := Γ
  obtain ⟨hx, hb, hml, hown, hts, hT, hr, hlk, hnm, hR⟩ := F
  intro H locs ls hH hlo hL
  exact lv_i2l hx hb hd rfl (k H locs ls hH hlo hL)
theorem zv_l2i (F : zv_F Δ Γ own nm cc nL ret R) {x : Int64} (hd : decode cc pc = .ok (.l2i, 1)) (k : zv_V Δ Γ Q (pc + 1) lv (.int x.toInt32 :: st) hp sz ce sl) : zv_V Δ Γ Q (pc) lv (.long x :: st) hp sz ce sl := by
  obtain ⟨p, l, e, R0, s, m, args, below, meth, c⟩ := Γ
  obtain ⟨hx, hb, hml, hown, hts, hT, hr, hlk, hnm, hR⟩ := F
  intro H locs ls hH hlo hL
  exact lv_l2i hx hb hd rfl (k H locs ls hH hlo hL)
theorem zv_iconst (F : zv_F Δ Γ own nm cc nL ret R) {n : Int} {v : Int32} (hd : decode cc pc = .ok (.iconst n, 1)) (hv : Int32.ofInt n = v) (k : zv_V Δ Γ Q (pc + 1) lv (.int v :: st) hp sz ce sl) : zv_V Δ Γ Q (pc) lv (st) hp sz ce sl := by
  obtain ⟨p, l, e, R0, s, m, args, below, meth, c⟩ := Γ
  obtain ⟨hx, hb, hml, hown, hts, hT, hr, hlk, hnm, hR⟩ := F
  intro H locs ls hH hlo hL
  exact lv_iconst hx hb hd hv (k H locs ls hH hlo hL)
theorem zv_bipush (F : zv_F Δ Γ own nm cc nL ret R) {n : Int} {v : Int32} (hd : decode cc pc = .ok (.bipush n, 2)) (hv : (Int8.ofInt n).toInt32 = v) (k : zv_V Δ Γ Q (pc + 2) lv (.int v :: st) hp sz ce sl) : zv_V Δ Γ Q (pc) lv (st) hp sz ce sl := by
  obtain ⟨p, l, e, R0, s, m, args, below, meth, c⟩ := Γ
  obtain ⟨hx, hb, hml, hown, hts, hT, hr, hlk, hnm, hR⟩ := F
  intro H locs ls hH hlo hL
  exact lv_bipush hx hb hd hv (k H locs ls hH hlo hL)
theorem zv_sipush (F : zv_F Δ Γ own nm cc nL ret R) {n : Int} {v : Int32} (hd : decode cc pc = .ok (.sipush n, 3)) (hv : (Int16.ofInt n).toInt32 = v) (k : zv_V Δ Γ Q (pc + 3) lv (.int v :: st) hp sz ce sl) : zv_V Δ Γ Q (pc) lv (st) hp sz ce sl := by
  obtain ⟨p, l, e, R0, s, m, args, below, meth, c⟩ := Γ
  obtain ⟨hx, hb, hml, hown, hts, hT, hr, hlk, hnm, hR⟩ := F
  intro H locs ls hH hlo hL
  exact lv_sipush hx hb hd hv (k H locs ls hH hlo hL)
theorem zv_lconst (F : zv_F Δ Γ own nm cc nL ret R) {n : Fin 2} {v : Int64} (hd : decode cc pc = .ok (.lconst n, 1)) (hv : Int64.ofNat (n : Nat) = v) (k : zv_V Δ Γ Q (pc + 1) lv (.long v :: st) hp sz ce sl) : zv_V Δ Γ Q (pc) lv (st) hp sz ce sl := by
  obtain ⟨p, l, e, R0, s, m, args, below, meth, c⟩ := Γ
  obtain ⟨hx, hb, hml, hown, hts, hT, hr, hlk, hnm, hR⟩ := F
  intro H locs ls hH hlo hL
  exact lv_lconst hx hb hd hv (k H locs ls hH hlo hL)
theorem zv_null (F : zv_F Δ Γ own nm cc nL ret R) (hd : decode cc pc = .ok (.aconst_null, 1)) (k : zv_V Δ Γ Q (pc + 1) lv (.null :: st) hp sz ce sl) : zv_V Δ Γ Q (pc) lv (st) hp sz ce sl := by
  obtain ⟨p, l, e, R0, s, m, args, below, meth, c⟩ := Γ
  obtain ⟨hx, hb, hml, hown, hts, hT, hr, hlk, hnm, hR⟩ := F
  intro H locs ls hH hlo hL
  exact lv_null hx hb hd (k H locs ls hH hlo hL)
theorem zv_dup (F : zv_F Δ Γ own nm cc nL ret R) {va : Value} (hd : decode cc pc = .ok (.dup, 1)) (hva : va.category = 1) (k : zv_V Δ Γ Q (pc + 1) lv (va :: va :: st) hp sz ce sl) : zv_V Δ Γ Q (pc) lv (va :: st) hp sz ce sl := by
  obtain ⟨p, l, e, R0, s, m, args, below, meth, c⟩ := Γ
  obtain ⟨hx, hb, hml, hown, hts, hT, hr, hlk, hnm, hR⟩ := F
  intro H locs ls hH hlo hL
  exact lv_dup hx hb hd hva (k H locs ls hH hlo hL)
theorem zv_pop (F : zv_F Δ Γ own nm cc nL ret R) {va : Value} (hd : decode cc pc = .ok (.pop, 1)) (hva : va.category = 1) (k : zv_V Δ Γ Q (pc + 1) lv (st) hp sz ce sl) : zv_V Δ Γ Q (pc) lv (va :: st) hp sz ce sl := by
  obtain ⟨p, l, e, R0, s, m, args, below, meth, c⟩ := Γ
  obtain ⟨hx, hb, hml, hown, hts, hT, hr, hlk, hnm, hR⟩ := F
  intro H locs ls hH hlo hL
  exact lv_pop hx hb hd hva (k H locs ls hH hlo hL)
theorem zv_dup_x1 (F : zv_F Δ Γ own nm cc nL ret R) {va vb : Value} (hd : decode cc pc = .ok (.dup_x1, 1)) (hva : va.category = 1) (hvb : vb.category = 1) (k : zv_V Δ Γ Q (pc + 1) lv (va :: vb :: va :: st) hp sz ce sl) : zv_V Δ Γ Q (pc) lv (va :: vb :: st) hp sz ce sl := by
  obtain ⟨p, l, e, R0, s, m, args, below, meth, c⟩ := Γ
  obtain ⟨hx, hb, hml, hown, hts, hT, hr, hlk, hnm, hR⟩ := F
  intro H locs ls hH hlo hL
  exact lv_dup_x1 hx hb hd hva hvb (k H locs ls hH hlo hL)
theorem zv_dup_x2 (F : zv_F Δ Γ own nm cc nL ret R) {va vb vd : Value} (hd : decode cc pc = .ok (.dup_x2, 1)) (hva : va.category = 1) (hvb : vb.category = 1) (hvd : vd.category = 1) (k : zv_V Δ Γ Q (pc + 1) lv (va :: vb :: vd :: va :: st) hp sz ce sl) : zv_V Δ Γ Q (pc) lv (va :: vb :: vd :: st) hp sz ce sl := by
  obtain ⟨p, l, e, R0, s, m, args, below, meth, c⟩ := Γ
  obtain ⟨hx, hb, hml, hown, hts, hT, hr, hlk, hnm, hR⟩ := F
  intro H locs ls hH hlo hL
  exact lv_dup_x2 hx hb hd hva hvb hvd (k H locs ls hH hlo hL)
theorem zv_dup2 (F : zv_F Δ Γ own nm cc nL ret R) {va vb : Value} (hd : decode cc pc = .ok (.dup2, 1)) (hva : va.category = 1) (hvb : vb.category = 1) (k : zv_V Δ Γ Q (pc + 1) lv (va :: vb :: va :: vb :: st) hp sz ce sl) : zv_V Δ Γ Q (pc) lv (va :: vb :: st) hp sz ce sl := by
  obtain ⟨p, l, e, R0, s, m, args, below, meth, c⟩ := Γ
  obtain ⟨hx, hb, hml, hown, hts, hT, hr, hlk, hnm, hR⟩ := F
  intro H locs ls hH hlo hL
  exact lv_dup2_11 hx hb hd hva hvb (k H locs ls hH hlo hL)
theorem zv_dup2l (F : zv_F Δ Γ own nm cc nL ret R) {va : Value} (hd : decode cc pc = .ok (.dup2, 1)) (hva : va.category = 2) (k : zv_V Δ Γ Q (pc + 1) lv (va :: va :: st) hp sz ce sl) : zv_V Δ Γ Q (pc) lv (va :: st) hp sz ce sl := by
  obtain ⟨p, l, e, R0, s, m, args, below, meth, c⟩ := Γ
  obtain ⟨hx, hb, hml, hown, hts, hT, hr, hlk, hnm, hR⟩ := F
  intro H locs ls hH hlo hL
  exact lv_dup2_2 hx hb hd hva (k H locs ls hH hlo hL)
theorem zv_pop2l (F : zv_F Δ Γ own nm cc nL ret R) {va : Value} (hd : decode cc pc = .ok (.pop2, 1)) (hva : va.category = 2) (k : zv_V Δ Γ Q (pc + 1) lv (st) hp sz ce sl) : zv_V Δ Γ Q (pc) lv (va :: st) hp sz ce sl := by
  obtain ⟨p, l, e, R0, s, m, args, below, meth, c⟩ := Γ
  obtain ⟨hx, hb, hml, hown, hts, hT, hr, hlk, hnm, hR⟩ := F
  intro H locs ls hH hlo hL
  exact lv_pop2_2 hx hb hd hva (k H locs ls hH hlo hL)
theorem zv_dup2_x1l (F : zv_F Δ Γ own nm cc nL ret R) {va vb : Value} (hd : decode cc pc = .ok (.dup2_x1, 1)) (hva : va.category = 2) (hvb : vb.category = 1) (k : zv_V Δ Γ Q (pc + 1) lv (va :: vb :: va :: st) hp sz ce sl) : zv_V Δ Γ Q (pc) lv (va :: vb :: st) hp sz ce sl := by
  obtain ⟨p, l, e, R0, s, m, args, below, meth, c⟩ := Γ
  obtain ⟨hx, hb, hml, hown, hts, hT, hr, hlk, hnm, hR⟩ := F
  intro H locs ls hH hlo hL
  exact lv_dup2_x1_2 hx hb hd hva hvb (k H locs ls hH hlo hL)
theorem zv_dup2_x2l (F : zv_F Δ Γ own nm cc nL ret R) {va vb vd : Value} (hd : decode cc pc = .ok (.dup2_x2, 1)) (hva : va.category = 2) (hvb : vb.category = 1) (hvd : vd.category = 1) (k : zv_V Δ Γ Q (pc + 1) lv (va :: vb :: vd :: va :: st) hp sz ce sl) : zv_V Δ Γ Q (pc) lv (va :: vb :: vd :: st) hp sz ce sl := by
  obtain ⟨p, l, e, R0, s, m, args, below, meth, c⟩ := Γ
  obtain ⟨hx, hb, hml, hown, hts, hT, hr, hlk, hnm, hR⟩ := F
  intro H locs ls hH hlo hL
  exact lv_dup2_x2_2 hx hb hd hva hvb hvd (k H locs ls hH hlo hL)
theorem zv_ldc (F : zv_F Δ Γ own nm cc nL ret R) {index : Nat} {v : Int32} (hd : decode cc pc = .ok (.ldc index, 2)) (hc : Cond.constant own index v ∈ zp_G) (k : zv_V Δ Γ Q (pc + 2) lv (.int v :: st) hp sz ce sl) : zv_V Δ Γ Q (pc) lv (st) hp sz ce sl := by
  obtain ⟨p, l, e, R0, s, m, args, below, meth, c⟩ := Γ
  obtain ⟨hx, hb, hml, hown, hts, hT, hr, hlk, hnm, hR⟩ := F
  intro H locs ls hH hlo hL
  exact lv_ldc hx hb hown (hts _ hc) hd (k H locs ls hH hlo hL)
theorem zv_ldc2 (F : zv_F Δ Γ own nm cc nL ret R) {index : Nat} {v : Int64} (hd : decode cc pc = .ok (.ldc2_w index, 3)) (hc : Cond.constantLong own index v ∈ zp_G) (k : zv_V Δ Γ Q (pc + 3) lv (.long v :: st) hp sz ce sl) : zv_V Δ Γ Q (pc) lv (st) hp sz ce sl := by
  obtain ⟨p, l, e, R0, s, m, args, below, meth, c⟩ := Γ
  obtain ⟨hx, hb, hml, hown, hts, hT, hr, hlk, hnm, hR⟩ := F
  intro H locs ls hH hlo hL
  exact lv_ldc2 hx hb hown (hts _ hc) hd (k H locs ls hH hlo hL)
theorem zv_iload_n (F : zv_F Δ Γ own nm cc nL ret R) {j : Fin 4} {x : Int32} (hd : decode cc pc = .ok (.iload_n j, 1)) (hl : lv[(j : Nat)]? = some (some (.int x))) (k : zv_V Δ Γ Q (pc + 1) lv (.int x :: st) hp sz ce sl) : zv_V Δ Γ Q (pc) lv (st) hp sz ce sl := by
  obtain ⟨p, l, e, R0, s, m, args, below, meth, c⟩ := Γ
  obtain ⟨hx, hb, hml, hown, hts, hT, hr, hlk, hnm, hR⟩ := F
  intro H locs ls hH hlo hL
  exact lv_iload_n hx hb hd rfl (hL.2.2 _ _ hl) (k H locs ls hH hlo hL)
theorem zv_iload (F : zv_F Δ Γ own nm cc nL ret R) {j : Nat} {x : Int32} (hd : decode cc pc = .ok (.iload j, 2)) (hl : lv[j]? = some (some (.int x))) (k : zv_V Δ Γ Q (pc + 2) lv (.int x :: st) hp sz ce sl) : zv_V Δ Γ Q (pc) lv (st) hp sz ce sl := by
  obtain ⟨p, l, e, R0, s, m, args, below, meth, c⟩ := Γ
  obtain ⟨hx, hb, hml, hown, hts, hT, hr, hlk, hnm, hR⟩ := F
  intro H locs ls hH hlo hL
  exact lv_iload hx hb hd (hL.2.2 _ _ hl) (k H locs ls hH hlo hL)
theorem zv_lload_n (F : zv_F Δ Γ own nm cc nL ret R) {j : Fin 4} {x : Int64} (hd : decode cc pc = .ok (.lload_n j, 1)) (hl : lv[(j : Nat)]? = some (some (.long x))) (k : zv_V Δ Γ Q (pc + 1) lv (.long x :: st) hp sz ce sl) : zv_V Δ Γ Q (pc) lv (st) hp sz ce sl := by
  obtain ⟨p, l, e, R0, s, m, args, below, meth, c⟩ := Γ
  obtain ⟨hx, hb, hml, hown, hts, hT, hr, hlk, hnm, hR⟩ := F
  intro H locs ls hH hlo hL
  exact lv_lload_n hx hb hd rfl (hL.2.2 _ _ hl) (k H locs ls hH hlo hL)
theorem zv_lload (F : zv_F Δ Γ own nm cc nL ret R) {j : Nat} {x : Int64} (hd : decode cc pc = .ok (.lload j, 2)) (hl : lv[j]? = some (some (.long x))) (k : zv_V Δ Γ Q (pc + 2) lv (.long x :: st) hp sz ce sl) : zv_V Δ Γ Q (pc) lv (st) hp sz ce sl := by
  obtain ⟨p, l, e, R0, s, m, args, below, meth, c⟩ := Γ
  obtain ⟨hx, hb, hml, hown, hts, hT, hr, hlk, hnm, hR⟩ := F
  intro H locs ls hH hlo hL
  exact lv_lload hx hb hd (hL.2.2 _ _ hl) (k H locs ls hH hlo hL)
theorem zv_aload_n (F : zv_F Δ Γ own nm cc nL ret R) {j : Fin 4} {x : Nat} (hd : decode cc pc = .ok (.aload_n j, 1)) (hl : lv[(j : Nat)]? = some (some (.ref x))) (k : zv_V Δ Γ Q (pc + 1) lv (.ref x :: st) hp sz ce sl) : zv_V Δ Γ Q (pc) lv (st) hp sz ce sl := by
  obtain ⟨p, l, e, R0, s, m, args, below, meth, c⟩ := Γ
  obtain ⟨hx, hb, hml, hown, hts, hT, hr, hlk, hnm, hR⟩ := F
  intro H locs ls hH hlo hL
  exact lv_aload_n hx hb hd rfl (hL.2.2 _ _ hl) (k H locs ls hH hlo hL)
theorem zv_aload (F : zv_F Δ Γ own nm cc nL ret R) {j : Nat} {x : Nat} (hd : decode cc pc = .ok (.aload j, 2)) (hl : lv[j]? = some (some (.ref x))) (k : zv_V Δ Γ Q (pc + 2) lv (.ref x :: st) hp sz ce sl) : zv_V Δ Γ Q (pc) lv (st) hp sz ce sl := by
  obtain ⟨p, l, e, R0, s, m, args, below, meth, c⟩ := Γ
  obtain ⟨hx, hb, hml, hown, hts, hT, hr, hlk, hnm, hR⟩ := F
  intro H locs ls hH hlo hL
  exact lv_aload hx hb hd (hL.2.2 _ _ hl) (k H locs ls hH hlo hL)
theorem zv_istore_n (F : zv_F Δ Γ own nm cc nL ret R) {j : Fin 4} {x : Int32} (hd : decode cc pc = .ok (.istore_n j, 1)) (hj : (j : Nat) < lv.length) (k : zv_V Δ Γ Q (pc + 1) (zv_s1 lv j (.int x)) st hp sz ce sl) : zv_V Δ Γ Q (pc) lv (.int x :: st) hp sz ce sl := by
  obtain ⟨p, l, e, R0, s, m, args, below, meth, c⟩ := Γ
  obtain ⟨hx, hb, hml, hown, hts, hT, hr, hlk, hnm, hR⟩ := F
  intro H locs ls hH hlo hL
  exact lv_istore_n hx hb hd rfl hL.has hj rfl (fun ls2 h2 => k H locs ls2 hH hlo (zv_s1_has h2))
theorem zv_istore (F : zv_F Δ Γ own nm cc nL ret R) {j : Nat} {x : Int32} (hd : decode cc pc = .ok (.istore j, 2)) (hj : (j : Nat) < lv.length) (k : zv_V Δ Γ Q (pc + 2) (zv_s1 lv j (.int x)) st hp sz ce sl) : zv_V Δ Γ Q (pc) lv (.int x :: st) hp sz ce sl := by
  obtain ⟨p, l, e, R0, s, m, args, below, meth, c⟩ := Γ
  obtain ⟨hx, hb, hml, hown, hts, hT, hr, hlk, hnm, hR⟩ := F
  intro H locs ls hH hlo hL
  exact lv_istore hx hb hd hL.has hj rfl (fun ls2 h2 => k H locs ls2 hH hlo (zv_s1_has h2))
theorem zv_lstore_n (F : zv_F Δ Γ own nm cc nL ret R) {j : Fin 4} {x : Int64} (hd : decode cc pc = .ok (.lstore_n j, 1)) (hj : (j : Nat) + 1 < lv.length) (k : zv_V Δ Γ Q (pc + 1) (zv_s2 lv j (.long x)) st hp sz ce sl) : zv_V Δ Γ Q (pc) lv (.long x :: st) hp sz ce sl := by
  obtain ⟨p, l, e, R0, s, m, args, below, meth, c⟩ := Γ
  obtain ⟨hx, hb, hml, hown, hts, hT, hr, hlk, hnm, hR⟩ := F
  intro H locs ls hH hlo hL
  exact lv_lstore_n hx hb hd rfl hL.has hj rfl (fun ls2 h2 => k H locs ls2 hH hlo (zv_s2_has h2))
theorem zv_lstore (F : zv_F Δ Γ own nm cc nL ret R) {j : Nat} {x : Int64} (hd : decode cc pc = .ok (.lstore j, 2)) (hj : (j : Nat) + 1 < lv.length) (k : zv_V Δ Γ Q (pc + 2) (zv_s2 lv j (.long x)) st hp sz ce sl) : zv_V Δ Γ Q (pc) lv (.long x :: st) hp sz ce sl := by
  obtain ⟨p, l, e, R0, s, m, args, below, meth, c⟩ := Γ
  obtain ⟨hx, hb, hml, hown, hts, hT, hr, hlk, hnm, hR⟩ := F
  intro H locs ls hH hlo hL
  exact lv_lstore hx hb hd hL.has hj rfl (fun ls2 h2 => k H locs ls2 hH hlo (zv_s2_has h2))
theorem zv_astore_n (F : zv_F Δ Γ own nm cc nL ret R) {j : Fin 4} {x : Nat} (hd : decode cc pc = .ok (.astore_n j, 1)) (hj : (j : Nat) < lv.length) (k : zv_V Δ Γ Q (pc + 1) (zv_s1 lv j (.ref x)) st hp sz ce sl) : zv_V Δ Γ Q (pc) lv (.ref x :: st) hp sz ce sl := by
  obtain ⟨p, l, e, R0, s, m, args, below, meth, c⟩ := Γ
  obtain ⟨hx, hb, hml, hown, hts, hT, hr, hlk, hnm, hR⟩ := F
  intro H locs ls hH hlo hL
  exact lv_astore_n hx hb hd rfl hL.has hj rfl (fun ls2 h2 => k H locs ls2 hH hlo (zv_s1_has h2))
theorem zv_astore (F : zv_F Δ Γ own nm cc nL ret R) {j : Nat} {x : Nat} (hd : decode cc pc = .ok (.astore j, 2)) (hj : (j : Nat) < lv.length) (k : zv_V Δ Γ Q (pc + 2) (zv_s1 lv j (.ref x)) st hp sz ce sl) : zv_V Δ Γ Q (pc) lv (.ref x :: st) hp sz ce sl := by
  obtain ⟨p, l, e, R0, s, m, args, below, meth, c⟩ := Γ
  obtain ⟨hx, hb, hml, hown, hts, hT, hr, hlk, hnm, hR⟩ := F
  intro H locs ls hH hlo hL
  exact lv_astore hx hb hd hL.has hj rfl (fun ls2 h2 => k H locs ls2 hH hlo (zv_s1_has h2))
theorem zv_iinc (F : zv_F Δ Γ own nm cc nL ret R) {j : Nat} {n : Int} {x v : Int32} (hd : decode cc pc = .ok (.iinc j n, 3)) (hl : lv[j]? = some (some (.int x))) (hv : x + Int32.ofInt n = v) (k : zv_V Δ Γ Q (pc + 3) (zv_s1 lv j (.int v)) st hp sz ce sl) : zv_V Δ Γ Q (pc) lv (st) hp sz ce sl := by
  obtain ⟨p, l, e, R0, s, m, args, below, meth, c⟩ := Γ
  obtain ⟨hx, hb, hml, hown, hts, hT, hr, hlk, hnm, hR⟩ := F
  intro H locs ls hH hlo hL
  obtain ⟨kk, hkk⟩ := List.getElem?_of_mem (zv_prs_mem hl)
  exact lv_iinc hx hb hd hL.has hkk hv (List.getElem?_eq_some_iff.mp hl).1 rfl (fun ls2 h2 => k H locs ls2 hH hlo (zv_s1_has h2))
theorem zv_icmp_eq (F : zv_F Δ Γ own nm cc nL ret R) {x y : Int32} {off : Int} {tgt : Nat} (hd : decode cc pc = .ok (.if_icmp .eq off, 3)) (ht : (pc : Int) + off = (tgt : Int)) (kt : x = y → zv_V Δ Γ Q (tgt) lv (st) hp sz ce sl) (kf : ¬ x = y → zv_V Δ Γ Q (pc + 3) lv (st) hp sz ce sl) : zv_V Δ Γ Q (pc) lv (.int y :: .int x :: st) hp sz ce sl := by
  obtain ⟨p, l, e, R0, s, m, args, below, meth, c⟩ := Γ
  obtain ⟨hx, hb, hml, hown, hts, hT, hr, hlk, hnm, hR⟩ := F
  intro H locs ls hH hlo hL
  exact lv_icmp_eq hx hb hd ht (fun h => kt h H locs ls hH hlo hL) (fun h => kf h H locs ls hH hlo hL)
theorem zv_icmp_ne (F : zv_F Δ Γ own nm cc nL ret R) {x y : Int32} {off : Int} {tgt : Nat} (hd : decode cc pc = .ok (.if_icmp .ne off, 3)) (ht : (pc : Int) + off = (tgt : Int)) (kt : ¬ x = y → zv_V Δ Γ Q (tgt) lv (st) hp sz ce sl) (kf : x = y → zv_V Δ Γ Q (pc + 3) lv (st) hp sz ce sl) : zv_V Δ Γ Q (pc) lv (.int y :: .int x :: st) hp sz ce sl := by
  obtain ⟨p, l, e, R0, s, m, args, below, meth, c⟩ := Γ
  obtain ⟨hx, hb, hml, hown, hts, hT, hr, hlk, hnm, hR⟩ := F
  intro H locs ls hH hlo hL
  exact lv_icmp_ne hx hb hd ht (fun h => kt h H locs ls hH hlo hL) (fun h => kf h H locs ls hH hlo hL)
theorem zv_icmp_lt (F : zv_F Δ Γ own nm cc nL ret R) {x y : Int32} {off : Int} {tgt : Nat} (hd : decode cc pc = .ok (.if_icmp .lt off, 3)) (ht : (pc : Int) + off = (tgt : Int)) (kt : x < y → zv_V Δ Γ Q (tgt) lv (st) hp sz ce sl) (kf : ¬ x < y → zv_V Δ Γ Q (pc + 3) lv (st) hp sz ce sl) : zv_V Δ Γ Q (pc) lv (.int y :: .int x :: st) hp sz ce sl := by
  obtain ⟨p, l, e, R0, s, m, args, below, meth, c⟩ := Γ
  obtain ⟨hx, hb, hml, hown, hts, hT, hr, hlk, hnm, hR⟩ := F
  intro H locs ls hH hlo hL
  exact lv_icmp_lt hx hb hd ht (fun h => kt h H locs ls hH hlo hL) (fun h => kf h H locs ls hH hlo hL)
theorem zv_icmp_ge (F : zv_F Δ Γ own nm cc nL ret R) {x y : Int32} {off : Int} {tgt : Nat} (hd : decode cc pc = .ok (.if_icmp .ge off, 3)) (ht : (pc : Int) + off = (tgt : Int)) (kt : y ≤ x → zv_V Δ Γ Q (tgt) lv (st) hp sz ce sl) (kf : ¬ y ≤ x → zv_V Δ Γ Q (pc + 3) lv (st) hp sz ce sl) : zv_V Δ Γ Q (pc) lv (.int y :: .int x :: st) hp sz ce sl := by
  obtain ⟨p, l, e, R0, s, m, args, below, meth, c⟩ := Γ
  obtain ⟨hx, hb, hml, hown, hts, hT, hr, hlk, hnm, hR⟩ := F
  intro H locs ls hH hlo hL
  exact lv_icmp_ge hx hb hd ht (fun h => kt h H locs ls hH hlo hL) (fun h => kf h H locs ls hH hlo hL)
theorem zv_icmp_gt (F : zv_F Δ Γ own nm cc nL ret R) {x y : Int32} {off : Int} {tgt : Nat} (hd : decode cc pc = .ok (.if_icmp .gt off, 3)) (ht : (pc : Int) + off = (tgt : Int)) (kt : y < x → zv_V Δ Γ Q (tgt) lv (st) hp sz ce sl) (kf : ¬ y < x → zv_V Δ Γ Q (pc + 3) lv (st) hp sz ce sl) : zv_V Δ Γ Q (pc) lv (.int y :: .int x :: st) hp sz ce sl := by
  obtain ⟨p, l, e, R0, s, m, args, below, meth, c⟩ := Γ
  obtain ⟨hx, hb, hml, hown, hts, hT, hr, hlk, hnm, hR⟩ := F
  intro H locs ls hH hlo hL
  exact lv_icmp_gt hx hb hd ht (fun h => kt h H locs ls hH hlo hL) (fun h => kf h H locs ls hH hlo hL)
theorem zv_icmp_le (F : zv_F Δ Γ own nm cc nL ret R) {x y : Int32} {off : Int} {tgt : Nat} (hd : decode cc pc = .ok (.if_icmp .le off, 3)) (ht : (pc : Int) + off = (tgt : Int)) (kt : x ≤ y → zv_V Δ Γ Q (tgt) lv (st) hp sz ce sl) (kf : ¬ x ≤ y → zv_V Δ Γ Q (pc + 3) lv (st) hp sz ce sl) : zv_V Δ Γ Q (pc) lv (.int y :: .int x :: st) hp sz ce sl := by
  obtain ⟨p, l, e, R0, s, m, args, below, meth, c⟩ := Γ
  obtain ⟨hx, hb, hml, hown, hts, hT, hr, hlk, hnm, hR⟩ := F
  intro H locs ls hH hlo hL
  exact lv_icmp_le hx hb hd ht (fun h => kt h H locs ls hH hlo hL) (fun h => kf h H locs ls hH hlo hL)
theorem zv_if_eq (F : zv_F Δ Γ own nm cc nL ret R) {x : Int32} {off : Int} {tgt : Nat} (hd : decode cc pc = .ok (.ifCond .eq off, 3)) (ht : (pc : Int) + off = (tgt : Int)) (kt : x = 0 → zv_V Δ Γ Q (tgt) lv (st) hp sz ce sl) (kf : ¬ x = 0 → zv_V Δ Γ Q (pc + 3) lv (st) hp sz ce sl) : zv_V Δ Γ Q (pc) lv (.int x :: st) hp sz ce sl := by
  obtain ⟨p, l, e, R0, s, m, args, below, meth, c⟩ := Γ
  obtain ⟨hx, hb, hml, hown, hts, hT, hr, hlk, hnm, hR⟩ := F
  intro H locs ls hH hlo hL
  exact lv_if_eq hx hb hd ht (fun h => kt h H locs ls hH hlo hL) (fun h => kf h H locs ls hH hlo hL)
theorem zv_if_ne (F : zv_F Δ Γ own nm cc nL ret R) {x : Int32} {off : Int} {tgt : Nat} (hd : decode cc pc = .ok (.ifCond .ne off, 3)) (ht : (pc : Int) + off = (tgt : Int)) (kt : ¬ x = 0 → zv_V Δ Γ Q (tgt) lv (st) hp sz ce sl) (kf : x = 0 → zv_V Δ Γ Q (pc + 3) lv (st) hp sz ce sl) : zv_V Δ Γ Q (pc) lv (.int x :: st) hp sz ce sl := by
  obtain ⟨p, l, e, R0, s, m, args, below, meth, c⟩ := Γ
  obtain ⟨hx, hb, hml, hown, hts, hT, hr, hlk, hnm, hR⟩ := F
  intro H locs ls hH hlo hL
  exact lv_if_ne hx hb hd ht (fun h => kt h H locs ls hH hlo hL) (fun h => kf h H locs ls hH hlo hL)
theorem zv_if_lt (F : zv_F Δ Γ own nm cc nL ret R) {x : Int32} {off : Int} {tgt : Nat} (hd : decode cc pc = .ok (.ifCond .lt off, 3)) (ht : (pc : Int) + off = (tgt : Int)) (kt : x < 0 → zv_V Δ Γ Q (tgt) lv (st) hp sz ce sl) (kf : ¬ x < 0 → zv_V Δ Γ Q (pc + 3) lv (st) hp sz ce sl) : zv_V Δ Γ Q (pc) lv (.int x :: st) hp sz ce sl := by
  obtain ⟨p, l, e, R0, s, m, args, below, meth, c⟩ := Γ
  obtain ⟨hx, hb, hml, hown, hts, hT, hr, hlk, hnm, hR⟩ := F
  intro H locs ls hH hlo hL
  exact lv_if_lt hx hb hd ht (fun h => kt h H locs ls hH hlo hL) (fun h => kf h H locs ls hH hlo hL)
theorem zv_if_ge (F : zv_F Δ Γ own nm cc nL ret R) {x : Int32} {off : Int} {tgt : Nat} (hd : decode cc pc = .ok (.ifCond .ge off, 3)) (ht : (pc : Int) + off = (tgt : Int)) (kt : 0 ≤ x → zv_V Δ Γ Q (tgt) lv (st) hp sz ce sl) (kf : ¬ 0 ≤ x → zv_V Δ Γ Q (pc + 3) lv (st) hp sz ce sl) : zv_V Δ Γ Q (pc) lv (.int x :: st) hp sz ce sl := by
  obtain ⟨p, l, e, R0, s, m, args, below, meth, c⟩ := Γ
  obtain ⟨hx, hb, hml, hown, hts, hT, hr, hlk, hnm, hR⟩ := F
  intro H locs ls hH hlo hL
  exact lv_if_ge hx hb hd ht (fun h => kt h H locs ls hH hlo hL) (fun h => kf h H locs ls hH hlo hL)
theorem zv_if_gt (F : zv_F Δ Γ own nm cc nL ret R) {x : Int32} {off : Int} {tgt : Nat} (hd : decode cc pc = .ok (.ifCond .gt off, 3)) (ht : (pc : Int) + off = (tgt : Int)) (kt : 0 < x → zv_V Δ Γ Q (tgt) lv (st) hp sz ce sl) (kf : ¬ 0 < x → zv_V Δ Γ Q (pc + 3) lv (st) hp sz ce sl) : zv_V Δ Γ Q (pc) lv (.int x :: st) hp sz ce sl := by
  obtain ⟨p, l, e, R0, s, m, args, below, meth, c⟩ := Γ
  obtain ⟨hx, hb, hml, hown, hts, hT, hr, hlk, hnm, hR⟩ := F
  intro H locs ls hH hlo hL
  exact lv_if_gt hx hb hd ht (fun h => kt h H locs ls hH hlo hL) (fun h => kf h H locs ls hH hlo hL)
theorem zv_if_le (F : zv_F Δ Γ own nm cc nL ret R) {x : Int32} {off : Int} {tgt : Nat} (hd : decode cc pc = .ok (.ifCond .le off, 3)) (ht : (pc : Int) + off = (tgt : Int)) (kt : x ≤ 0 → zv_V Δ Γ Q (tgt) lv (st) hp sz ce sl) (kf : ¬ x ≤ 0 → zv_V Δ Γ Q (pc + 3) lv (st) hp sz ce sl) : zv_V Δ Γ Q (pc) lv (.int x :: st) hp sz ce sl := by
  obtain ⟨p, l, e, R0, s, m, args, below, meth, c⟩ := Γ
  obtain ⟨hx, hb, hml, hown, hts, hT, hr, hlk, hnm, hR⟩ := F
  intro H locs ls hH hlo hL
  exact lv_if_le hx hb hd ht (fun h => kt h H locs ls hH hlo hL) (fun h => kf h H locs ls hH hlo hL)
theorem zv_goto (F : zv_F Δ Γ own nm cc nL ret R) {off : Int} {tgt : Nat} (hd : decode cc pc = .ok (.goto off, 3)) (ht : (pc : Int) + off = (tgt : Int)) (k : zv_V Δ Γ Q (tgt) lv (st) hp sz ce sl) : zv_V Δ Γ Q (pc) lv (st) hp sz ce sl := by
  obtain ⟨p, l, e, R0, s, m, args, below, meth, c⟩ := Γ
  obtain ⟨hx, hb, hml, hown, hts, hT, hr, hlk, hnm, hR⟩ := F
  intro H locs ls hH hlo hL
  exact lv_goto hx hb hd ht (k H locs ls hH hlo hL)
theorem zv_tableOut (F : zv_F Δ Γ own nm cc nL ret R) {dflt lo hi : Int} {offs : Array Int} {len : Nat} {x : Int32} {tgt : Nat} (hd : decode cc pc = .ok (.tableswitch dflt lo hi offs, len)) (h : x.toInt < lo ∨ hi < x.toInt) (ht : (pc : Int) + dflt = (tgt : Int)) (k : zv_V Δ Γ Q (tgt) lv (st) hp sz ce sl) : zv_V Δ Γ Q (pc) lv (.int x :: st) hp sz ce sl := by
  obtain ⟨p, l, e, R0, s, m, args, below, meth, c⟩ := Γ
  obtain ⟨hx, hb, hml, hown, hts, hT, hr, hlk, hnm, hR⟩ := F
  intro H locs ls hH hlo hL
  exact lv_tableOut hx hb hd h ht (k H locs ls hH hlo hL)
theorem zv_tableIn (F : zv_F Δ Γ own nm cc nL ret R) {dflt lo hi : Int} {offs : Array Int} {len : Nat} {x : Int32} {off : Int} {tgt : Nat} (hd : decode cc pc = .ok (.tableswitch dflt lo hi offs, len)) (h1 : ¬ x.toInt < lo) (h2 : ¬ hi < x.toInt) (ho : offs[(x.toInt - lo).toNat]? = some off) (ht : (pc : Int) + off = (tgt : Int)) (k : zv_V Δ Γ Q (tgt) lv (st) hp sz ce sl) : zv_V Δ Γ Q (pc) lv (.int x :: st) hp sz ce sl := by
  obtain ⟨p, l, e, R0, s, m, args, below, meth, c⟩ := Γ
  obtain ⟨hx, hb, hml, hown, hts, hT, hr, hlk, hnm, hR⟩ := F
  intro H locs ls hH hlo hL
  exact lv_tableIn hx hb hd h1 h2 ho ht (k H locs ls hH hlo hL)
theorem zv_H.one {Δ : zv_D} {hp : zv_M} {sz : Nat} {H : Heap} (h : zv_H Δ hp sz H) {a : Nat} {e : va_E} (ha : hp a = some e) : va_P Δ.2.1 zp_classes [(a, e)] H := by
  intro k q hk
  cases k with
  | zero => cases hk; exact (h.2.2.2 a e ha).2
  | succ k => simp at hk
theorem zv_get (F : zv_F Δ Γ own nm cc nL ret R) {ref C : String} {T : u_T} {N ci index a : Nat} {fs : List Value} {v : Value} (hd : decode cc pc = .ok (.getfield index, 3)) (ha : hp a = some (.inr (ci, fs))) (hc : zv_cls ci C T N) (j : Nat) (hj : j < N) (hlink : Cond.fieldLink own index ref (T j).2.1 (T j).2.2.1 ∈ zp_G) (href : (T j).1 = ref) (hv : fs[j]? = some v) (k : zv_V Δ Γ Q (pc + 3) lv (v :: st) hp sz ce sl) : zv_V Δ Γ Q (pc) lv (.ref a :: st) hp sz ce sl := by
  obtain ⟨p, l, e, R0, s, m, args, below, meth, c⟩ := Γ
  obtain ⟨hx, hb, hml, hown, hts, hT, hr, hlk, hnm, hR⟩ := F
  intro H locs ls hH hlo hL
  exact va_get hx hb hts hc.2.1 hown hT.1 (hH.one ha) 0 rfl hc.1 j hj (hts _ hlink) (fun x h => by rw [← href]; exact h) hv hd (k H locs ls hH hlo hL)
theorem zv_getN (F : zv_F Δ Γ own nm cc nL ret R) {ref C host : String} {T : u_T} {N ci index a : Nat} {fs : List Value} {v : Value} (hd : decode cc pc = .ok (.getfield index, 3)) (ha : hp a = some (.inr (ci, fs))) (hc : zv_cls ci C T N) (j : Nat) (hj : j < N) (hlink : Cond.fieldLinkNest own index ref (T j).2.1 (T j).2.2.1 host ∈ zp_N) (href : (T j).1 = ref) (hv : fs[j]? = some v) (k : zv_V Δ Γ Q (pc + 3) lv (v :: st) hp sz ce sl) : zv_V Δ Γ Q (pc) lv (.ref a :: st) hp sz ce sl := by
  obtain ⟨p, l, e, R0, s, m, args, below, meth, c⟩ := Γ
  obtain ⟨hx, hb, hml, hown, hts, hT, hr, hlk, hnm, hR⟩ := F
  intro H locs ls hH hlo hL
  exact va_getN hx hb hts hc.2.1 hown hT.1 (hH.one ha) 0 rfl hc.1 j hj (va_Nw.use rfl (hT.2.1 _ hlink)) (fun x h => by rw [← href]; exact h) hv hd (k H locs ls hH hlo hL)
theorem zv_iald (F : zv_F Δ Γ own nm cc nL ret R) {a t0 n : Nat} {cA : ClassId} {f : Nat → Int32} {i : Int32} (hd : decode cc pc = .ok (.iaload, 1)) (ha : hp a = some (.inl (cA, n, .inl f))) (ht : (zv_tys Δ)[t0]? = some (cA, .int)) (hin : vp_in i n) (k : zv_V Δ Γ Q (pc + 1) lv (.int (f i.toNatClampNeg) :: st) hp sz ce sl) : zv_V Δ Γ Q (pc) lv (.int i :: .ref a :: st) hp sz ce sl := by
  obtain ⟨p, l, e, R0, s, m, args, below, meth, c⟩ := Γ
  obtain ⟨hx, hb, hml, hown, hts, hT, hr, hlk, hnm, hR⟩ := F
  intro H locs ls hH hlo hL
  exact va_iald hx hb hT.1 (hH.one ha) 0 t0 rfl ht hin hd (k H locs ls hH hlo hL)
theorem zv_zald (F : zv_F Δ Γ own nm cc nL ret R) {a t0 n : Nat} {cA : ClassId} {f : Nat → Int32} {i : Int32} (hd : decode cc pc = .ok (.baload, 1)) (ha : hp a = some (.inl (cA, n, .inl f))) (ht : (zv_tys Δ)[t0]? = some (cA, .boolean)) (hin : vp_in i n) (k : zv_V Δ Γ Q (pc + 1) lv (.int (f i.toNatClampNeg) :: st) hp sz ce sl) : zv_V Δ Γ Q (pc) lv (.int i :: .ref a :: st) hp sz ce sl := by
  obtain ⟨p, l, e, R0, s, m, args, below, meth, c⟩ := Γ
  obtain ⟨hx, hb, hml, hown, hts, hT, hr, hlk, hnm, hR⟩ := F
  intro H locs ls hH hlo hL
  exact va_zald hx hb hT.1 (hH.one ha) 0 t0 rfl ht hin hd (k H locs ls hH hlo hL)
theorem zv_lald (F : zv_F Δ Γ own nm cc nL ret R) {a t0 n : Nat} {cA : ClassId} {f : Nat → Int64} {i : Int32} (hd : decode cc pc = .ok (.laload, 1)) (ha : hp a = some (.inl (cA, n, .inr (.inl f)))) (ht : (zv_tys Δ)[t0]? = some (cA, .long)) (hin : vp_in i n) (k : zv_V Δ Γ Q (pc + 1) lv (.long (f i.toNatClampNeg) :: st) hp sz ce sl) : zv_V Δ Γ Q (pc) lv (.int i :: .ref a :: st) hp sz ce sl := by
  obtain ⟨p, l, e, R0, s, m, args, below, meth, c⟩ := Γ
  obtain ⟨hx, hb, hml, hown, hts, hT, hr, hlk, hnm, hR⟩ := F
  intro H locs ls hH hlo hL
  exact va_lald hx hb hT.1 (hH.one ha) 0 t0 rfl ht hin hd (k H locs ls hH hlo hL)
theorem zv_aald (F : zv_F Δ Γ own nm cc nL ret R) {a t0 n b : Nat} {cA : ClassId} {C : String} {f : Nat → Option Nat} {i : Int32} (hd : decode cc pc = .ok (.aaload, 1)) (ha : hp a = some (.inl (cA, n, .inr (.inr (.inr (.inr f)))))) (ht : (zv_tys Δ)[t0]? = some (cA, .object C)) (hin : vp_in i n) (hb1 : f i.toNatClampNeg = some b) (k : zv_V Δ Γ Q (pc + 1) lv (.ref b :: st) hp sz ce sl) : zv_V Δ Γ Q (pc) lv (.int i :: .ref a :: st) hp sz ce sl := by
  obtain ⟨p, l, e, R0, s, m, args, below, meth, c⟩ := Γ
  obtain ⟨hx, hb, hml, hown, hts, hT, hr, hlk, hnm, hR⟩ := F
  intro H locs ls hH hlo hL
  refine va_aldq hx hb hT.1 (hH.one ha) 0 t0 rfl ht hin hd ?_
  rw [hb1]
  exact k H locs ls hH hlo hL
theorem zv_alen (F : zv_F Δ Γ own nm cc nL ret R) {a t0 : Nat} {cA : ClassId} {x : vp_A} {ty : FieldType} {v : Int32} (hd : decode cc pc = .ok (.arraylength, 1)) (ha : hp a = some (.inl (cA, x))) (ht : (zv_tys Δ)[t0]? = some (cA, ty)) (hv : Int32.ofNat x.1 = v) (k : zv_V Δ Γ Q (pc + 1) lv (.int v :: st) hp sz ce sl) : zv_V Δ Γ Q (pc) lv (.ref a :: st) hp sz ce sl := by
  obtain ⟨p, l, e, R0, s, m, args, below, meth, c⟩ := Γ
  obtain ⟨hx, hb, hml, hown, hts, hT, hr, hlk, hnm, hR⟩ := F
  intro H locs ls hH hlo hL
  exact va_alen hx hb hT.1 (hH.one ha) 0 t0 rfl ht hv hd (k H locs ls hH hlo hL)
theorem zv_sld (F : zv_F Δ Γ own nm cc nL ret R) {b N : Nat} {xs : Nat → Int32} {i : Int32} (hd : decode cc pc = .ok (.iaload, 1)) (hX : va_X b N xs Γ.2.2.2.2.1 Δ.1) (hbl : b < Δ.1.size) (hin : vp_in i N) (k : zv_V Δ Γ Q (pc + 1) lv (.int (xs i.toNatClampNeg) :: st) hp sz ce sl) : zv_V Δ Γ Q (pc) lv (.int i :: .ref b :: st) hp sz ce sl := by
  obtain ⟨p, l, e, R0, s, m, args, below, meth, c⟩ := Γ
  obtain ⟨hx, hb, hml, hown, hts, hT, hr, hlk, hnm, hR⟩ := F
  intro H locs ls hH hlo hL
  exact va_sld (A := fun q => Δ.1.size ≤ q) hx hb hX hbl (by omega) ⟨by rw [hH.1]; exact hH.2.1, fun q hq _ => hH.2.2.1 q hq, hlo⟩ hin hd (k H locs ls hH hlo hL)
theorem zv_slen (F : zv_F Δ Γ own nm cc nL ret R) {b N : Nat} {xs : Nat → Int32} (hd : decode cc pc = .ok (.arraylength, 1)) (hX : va_X b N xs Γ.2.2.2.2.1 Δ.1) (hbl : b < Δ.1.size) (k : zv_V Δ Γ Q (pc + 1) lv (.int (Int32.ofNat N) :: st) hp sz ce sl) : zv_V Δ Γ Q (pc) lv (.ref b :: st) hp sz ce sl := by
  obtain ⟨p, l, e, R0, s, m, args, below, meth, c⟩ := Γ
  obtain ⟨hx, hb, hml, hown, hts, hT, hr, hlk, hnm, hR⟩ := F
  intro H locs ls hH hlo hL
  exact va_slen (A := fun q => Δ.1.size ≤ q) hx hb hX hbl (by omega) ⟨by rw [hH.1]; exact hH.2.1, fun q hq _ => hH.2.2.1 q hq, hlo⟩ hd (k H locs ls hH hlo hL)
theorem zv_put (F : zv_F Δ Γ own nm cc nL ret R) {ref C : String} {T : u_T} {N ci index a : Nat} {fs : List Value} {v : Value} {ty : FieldType} (hd : decode cc pc = .ok (.putfield index, 3)) (ha : hp a = some (.inr (ci, fs))) (hc : zv_cls ci C T N) (j : Nat) (hj : j < N) (hlink : Cond.fieldLink own index ref (T j).2.1 (T j).2.2.1 ∈ zp_G) (href : (T j).1 = ref) (hfin : (T j).2.2.2 = false) (hty1 : parseFieldDescriptor (T j).2.2.1 = some ty) (hn : narrow ty v = v) (hfit : fits ty v = true) (hl : j < fs.length) (k : ∀ hp1 : zv_M, hp1 = va_up hp a (some (.inr (ci, fs.set j v))) → zv_V Δ Γ Q (pc + 3) lv st hp1 sz ce sl) : zv_V Δ Γ Q (pc) lv (v :: .ref a :: st) hp sz ce sl := by
  obtain ⟨p, l, e, R0, s, m, args, below, meth, c⟩ := Γ
  obtain ⟨hx, hb, hml, hown, hts, hT, hr, hlk, hnm, hR⟩ := F
  intro H locs ls hH hlo hL
  obtain ⟨hc1, hin, ⟨ty0, hty⟩, hnn⟩ := hc
  have hap := va_apart (own := own) hts hin ty0 hty hnn hT.1 hc1
  obtain ⟨r0, g1, cell, q1, q2, q3, q4⟩ := (hH.2.2.2 a _ ha).2
  have hr0 : r0 = (C, T, N) := Option.some.inj (g1.symm.trans hc1)
  subst hr0
  obtain ⟨hS, hfc, kC, hkC, hkind⟩ := hT.1.1 ci _ hc1
  obtain ⟨cf, kf, fi, f, hi, hsl⟩ := hS j hj
  have hlay := hts _ (hin _ (u_in_lay hj))
  unfold u_lay at hlay
  rw [if_neg (by rw [hfin]; decide)] at hlay
  have hst := (u_facts hfc hkC (u_lays hts hin hj) hi).1
  have h6 := u_store hfc hkC hkind hlay hi hty1 hn hfit
  refine W.putK hx hb (f := f) ⟨hown, hts _ hlink, ⟨_, _, _, by rw [← href]; exact hi⟩, hst⟩ (by rw [q2]; exact h6) q1 q3 (by rw [hsl]; exact k2_hasslot (q4 j hj)) rfl rfl hd fun H1 e1 e2 e3 => ?_
  rw [hsl] at e1 ⊢
  exact k _ rfl H1 _ ls (hH.put ha ⟨_, hc1, t_OB.to (V := updV (vp_V fs) j v) ⟨_, e1, q2, q3, t_set q4 hap hj v⟩ (fun i _ => vp_updV_set hl v i)⟩ e2 e3) (fun q hq => by
    rcases List.mem_append.mp hq with h9 | h9
    · exact hlo q h9
    · rw [List.mem_singleton.mp h9]
      exact (hH.2.2.2 a _ ha).1) hL
theorem zv_putN (F : zv_F Δ Γ own nm cc nL ret R) {ref C host : String} {T : u_T} {N ci index a : Nat} {fs : List Value} {v : Value} {ty : FieldType} (hd : decode cc pc = .ok (.putfield index, 3)) (ha : hp a = some (.inr (ci, fs))) (hc : zv_cls ci C T N) (j : Nat) (hj : j < N) (hlink : Cond.fieldLinkNest own index ref (T j).2.1 (T j).2.2.1 host ∈ zp_N) (href : (T j).1 = ref) (hfin : (T j).2.2.2 = false) (hty1 : parseFieldDescriptor (T j).2.2.1 = some ty) (hn : narrow ty v = v) (hfit : fits ty v = true) (hl : j < fs.length) (k : ∀ hp1 : zv_M, hp1 = va_up hp a (some (.inr (ci, fs.set j v))) → zv_V Δ Γ Q (pc + 3) lv st hp1 sz ce sl) : zv_V Δ Γ Q (pc) lv (v :: .ref a :: st) hp sz ce sl := by
  obtain ⟨p, l, e, R0, s, m, args, below, meth, c⟩ := Γ
  obtain ⟨hx, hb, hml, hown, hts, hT, hr, hlk, hnm, hR⟩ := F
  intro H locs ls hH hlo hL
  obtain ⟨hc1, hin, ⟨ty0, hty⟩, hnn⟩ := hc
  have hap := va_apart (own := own) hts hin ty0 hty hnn hT.1 hc1
  obtain ⟨r0, g1, cell, q1, q2, q3, q4⟩ := (hH.2.2.2 a _ ha).2
  have hr0 : r0 = (C, T, N) := Option.some.inj (g1.symm.trans hc1)
  subst hr0
  obtain ⟨hS, hfc, kC, hkC, hkind⟩ := hT.1.1 ci _ hc1
  obtain ⟨cf, kf, fi, f, hi, hsl⟩ := hS j hj
  have hlay := hts _ (hin _ (u_in_lay hj))
  unfold u_lay at hlay
  rw [if_neg (by rw [hfin]; decide)] at hlay
  have hst := (u_facts hfc hkC (u_lays hts hin hj) hi).1
  have h6 := u_store hfc hkC hkind hlay hi hty1 hn hfit
  refine va_WputK hx hb (f := f) hown (va_Nw.use rfl (hT.2.1 _ hlink)) (by rw [← href]; exact hi) hst (by rw [q2]; exact h6) q1 q3 (by rw [hsl]; exact k2_hasslot (q4 j hj)) rfl rfl hd fun H1 e1 e2 e3 => ?_
  rw [hsl] at e1 ⊢
  exact k _ rfl H1 _ ls (hH.put ha ⟨_, hc1, t_OB.to (V := updV (vp_V fs) j v) ⟨_, e1, q2, q3, t_set q4 hap hj v⟩ (fun i _ => vp_updV_set hl v i)⟩ e2 e3) (fun q hq => by
    rcases List.mem_append.mp hq with h9 | h9
    · exact hlo q h9
    · rw [List.mem_singleton.mp h9]
      exact (hH.2.2.2 a _ ha).1) hL
theorem zv_putF (F : zv_F Δ Γ own nm cc nL ret R) {ref C : String} {T : u_T} {N ci index a : Nat} {fs : List Value} {v : Value} {ty : FieldType} (hd : decode cc pc = .ok (.putfield index, 3)) (ha : hp a = some (.inr (ci, fs))) (hc : zv_cls ci C T N) (j : Nat) (hj : j < N) (hlink : Cond.fieldLink own index ref (T j).2.1 (T j).2.2.1 ∈ zp_G) (href : (T j).1 = ref) (hfin : (T j).2.2.2 = true) (hini : nm = "<init>") (hdecl : (T j).1 = own) (hty1 : parseFieldDescriptor (T j).2.2.1 = some ty) (hn : narrow ty v = v) (hfit : fits ty v = true) (hl : j < fs.length) (k : ∀ hp1 : zv_M, hp1 = va_up hp a (some (.inr (ci, fs.set j v))) → zv_V Δ Γ Q (pc + 3) lv st hp1 sz ce sl) : zv_V Δ Γ Q (pc) lv (v :: .ref a :: st) hp sz ce sl := by
  obtain ⟨p, l, e, R0, s, m, args, below, meth, c⟩ := Γ
  obtain ⟨hx, hb, hml, hown, hts, hT, hr, hlk, hnm, hR⟩ := F
  intro H locs ls hH hlo hL
  obtain ⟨hc1, hin, ⟨ty0, hty⟩, hnn⟩ := hc
  have hap := va_apart (own := own) hts hin ty0 hty hnn hT.1 hc1
  obtain ⟨r0, g1, cell, q1, q2, q3, q4⟩ := (hH.2.2.2 a _ ha).2
  have hr0 : r0 = (C, T, N) := Option.some.inj (g1.symm.trans hc1)
  subst hr0
  obtain ⟨hS, hfc, kC, hkC, hkind⟩ := hT.1.1 ci _ hc1
  obtain ⟨cf, kf, fi, f, hi, hsl⟩ := hS j hj
  have hlay := hts _ (hin _ (u_in_lay hj))
  unfold u_lay at hlay
  rw [if_pos hfin] at hlay
  have hst := (u_facts hfc hkC (u_lays hts hin hj) hi).1
  have hcf : m.cls = cf := by
    obtain ⟨_, _, c', _, _, _, -, -, hf', -, -, -, hown2, -⟩ := Cond.laysFinal_spec hlay
    have e1 : c' = cf := by have := hi.symm.trans hf'; simp at this; exact this.1.symm
    rw [hdecl] at hown2
    rw [← e1]; exact Option.some.inj (hown.symm.trans hown2)
  have h6 := u_fits hfc hkC hkind (Or.inr hlay) hi hty1 hn hfit
  refine W.putFinK hx hb hown (hts _ hlink) (by rw [← href]; exact hi) hst hcf (hnm.trans hini) (by rw [q2]; exact h6) q1 q3 (by rw [hsl]; exact k2_hasslot (q4 j hj)) rfl rfl hd fun H1 e1 e2 e3 => ?_
  rw [hsl] at e1 ⊢
  exact k _ rfl H1 _ ls (hH.put ha ⟨_, hc1, t_OB.to (V := updV (vp_V fs) j v) ⟨_, e1, q2, q3, t_set q4 hap hj v⟩ (fun i _ => vp_updV_set hl v i)⟩ e2 e3) (fun q hq => by
    rcases List.mem_append.mp hq with h9 | h9
    · exact hlo q h9
    · rw [List.mem_singleton.mp h9]
      exact (hH.2.2.2 a _ ha).1) hL
theorem zv_iast (F : zv_F Δ Γ own nm cc nL ret R) {a t0 n : Nat} {cA : ClassId} {f : Nat → Int32} {i : Int32} {x : Int32} (hd : decode cc pc = .ok (.iastore, 1)) (ha : hp a = some (.inl (cA, n, .inl f))) (ht : (zv_tys Δ)[t0]? = some (cA, .int)) (hin : vp_in i n) (k : ∀ hp1 : zv_M, hp1 = va_up hp a (some (.inl (cA, n, .inl (upd f i.toNatClampNeg x)))) → zv_V Δ Γ Q (pc + 1) lv st hp1 sz ce sl) : zv_V Δ Γ Q (pc) lv (.int x :: .int i :: .ref a :: st) hp sz ce sl := by
  obtain ⟨p, l, e, R0, s, m, args, below, meth, c⟩ := Γ
  obtain ⟨hx, hb, hml, hown, hts, hT, hr, hlk, hnm, hR⟩ := F
  intro H locs ls hH hlo hL
  have hcell : H[a]? = some (vp_cell cA (n, .inl f)) := (hH.2.2.2 a _ ha).2
  refine W.iast hx hb hcell ((hT.1.2 t0 _ ht).1 n _) (fun q => by cases q) (by show ¬ (i < 0 ∨ (arrV _ _ _).slots.size ≤ _); rw [arrV_size]; exact hin) rfl rfl hd fun H1 e1 e2 e3 => ?_
  refine k _ rfl H1 _ ls (hH.put ha ?_ e2 e3) (fun q hq => by
    rcases List.mem_append.mp hq with h9 | h9
    · exact hlo q h9
    · rw [List.mem_singleton.mp h9]
      exact (hH.2.2.2 a _ ha).1) hL
  show H1[a]? = some (vp_cell _ _)
  rw [e1, vp_cell_i, vp_cell_i, arrV_store]
  congr 2
  funext q
  by_cases hq : q = i.toNatClampNeg
  · subst hq
    simp [updV, upd]
    try rfl
  · simp [updV, upd, hq]
theorem zv_zast (F : zv_F Δ Γ own nm cc nL ret R) {a t0 n : Nat} {cA : ClassId} {f : Nat → Int32} {i : Int32} {x : Int32} (hd : decode cc pc = .ok (.bastore, 1)) (ha : hp a = some (.inl (cA, n, .inl f))) (ht : (zv_tys Δ)[t0]? = some (cA, .boolean)) (hin : vp_in i n) (k : ∀ hp1 : zv_M, hp1 = va_up hp a (some (.inl (cA, n, .inl (upd f i.toNatClampNeg (vp_nar .boolean x))))) → zv_V Δ Γ Q (pc + 1) lv st hp1 sz ce sl) : zv_V Δ Γ Q (pc) lv (.int x :: .int i :: .ref a :: st) hp sz ce sl := by
  obtain ⟨p, l, e, R0, s, m, args, below, meth, c⟩ := Γ
  obtain ⟨hx, hb, hml, hown, hts, hT, hr, hlk, hnm, hR⟩ := F
  intro H locs ls hH hlo hL
  have hcell : H[a]? = some (vp_cell cA (n, .inl f)) := (hH.2.2.2 a _ ha).2
  refine W.zast hx hb hcell ((hT.1.2 t0 _ ht).1 n _) (fun q => by cases q) (by show ¬ (i < 0 ∨ (arrV _ _ _).slots.size ≤ _); rw [arrV_size]; exact hin) rfl rfl hd fun H1 e1 e2 e3 => ?_
  refine k _ rfl H1 _ ls (hH.put ha ?_ e2 e3) (fun q hq => by
    rcases List.mem_append.mp hq with h9 | h9
    · exact hlo q h9
    · rw [List.mem_singleton.mp h9]
      exact (hH.2.2.2 a _ ha).1) hL
  show H1[a]? = some (vp_cell _ _)
  rw [e1, vp_cell_i, vp_cell_i, arrV_store]
  congr 2
  funext q
  by_cases hq : q = i.toNatClampNeg
  · subst hq
    simp [updV, upd, vp_nar]
    try rfl
  · simp [updV, upd, vp_nar, hq]
theorem zv_last (F : zv_F Δ Γ own nm cc nL ret R) {a t0 n : Nat} {cA : ClassId} {f : Nat → Int64} {i : Int32} {x : Int64} (hd : decode cc pc = .ok (.lastore, 1)) (ha : hp a = some (.inl (cA, n, .inr (.inl f)))) (ht : (zv_tys Δ)[t0]? = some (cA, .long)) (hin : vp_in i n) (k : ∀ hp1 : zv_M, hp1 = va_up hp a (some (.inl (cA, n, .inr (.inl (vp_updL f i.toNatClampNeg x))))) → zv_V Δ Γ Q (pc + 1) lv st hp1 sz ce sl) : zv_V Δ Γ Q (pc) lv (.long x :: .int i :: .ref a :: st) hp sz ce sl := by
  obtain ⟨p, l, e, R0, s, m, args, below, meth, c⟩ := Γ
  obtain ⟨hx, hb, hml, hown, hts, hT, hr, hlk, hnm, hR⟩ := F
  intro H locs ls hH hlo hL
  have hcell : H[a]? = some (vp_cell cA (n, .inr (.inl f))) := (hH.2.2.2 a _ ha).2
  refine W.last hx hb hcell ((hT.1.2 t0 _ ht).1 n _) (fun q => by cases q) (by show ¬ (i < 0 ∨ (arrV _ _ _).slots.size ≤ _); rw [arrV_size]; exact hin) rfl rfl hd fun H1 e1 e2 e3 => ?_
  refine k _ rfl H1 _ ls (hH.put ha ?_ e2 e3) (fun q hq => by
    rcases List.mem_append.mp hq with h9 | h9
    · exact hlo q h9
    · rw [List.mem_singleton.mp h9]
      exact (hH.2.2.2 a _ ha).1) hL
  show H1[a]? = some (vp_cell _ _)
  rw [e1, vp_cell_l, vp_cell_l, arrV_store]
  congr 2
  funext q
  by_cases hq : q = i.toNatClampNeg
  · subst hq
    simp [updV, vp_updL]
    try rfl
  · simp [updV, vp_updL, hq]
theorem zv_aast (F : zv_F Δ Γ own nm cc nL ret R) {a t0 n v ci : Nat} {cA : ClassId} {r : vw_C} {vs : List Value} {f : Nat → Option Nat} {i : Int32} (hd : decode cc pc = .ok (.aastore, 1)) (ha : hp a = some (.inl (cA, n, .inr (.inr (.inr (.inr f)))))) (ht : (zv_tys Δ)[t0]? = some (cA, .object r.1)) (hv : hp v = some (.inr (ci, vs))) (hc : zp_classes[ci]? = some r) (hin : vp_in i n) (k : ∀ hp1 : zv_M, hp1 = va_up hp a (some (.inl (cA, n, .inr (.inr (.inr (.inr (va_up f i.toNatClampNeg (some v)))))))) → zv_V Δ Γ Q (pc + 1) lv st hp1 sz ce sl) : zv_V Δ Γ Q (pc) lv (.ref v :: .int i :: .ref a :: st) hp sz ce sl := by
  obtain ⟨p, l, e, R0, s, m, args, below, meth, c⟩ := Γ
  obtain ⟨hx, hb, hml, hown, hts, hT, hr, hlk, hnm, hR⟩ := F
  intro H locs ls hH hlo hL
  have hlt : i.toNatClampNeg < n := Nat.not_le.mp fun q => hin (Or.inr q)
  have h0 : ¬ i < 0 := fun q => hin (Or.inl q)
  obtain ⟨r', hr', cellV, g1, g2, g3, -⟩ := (hH.2.2.2 v _ hv).2
  have hcell : H[a]? = some (vp_cell cA (n, .inr (.inr (.inr (.inr f))))) := (hH.2.2.2 a _ ha).2
  have hcls := (hT.1.1 ci r hc).2
  obtain ⟨kA, comp, k1, k2, k3, -⟩ := (hT.1.2 t0 _ ht).2
  have hcomp : comp = Δ.2.1.1 ci := Option.some.inj (k3.symm.trans hcls.1)
  subst hcomp
  obtain ⟨kC, hkC, -⟩ := hcls.2
  refine W.aast hx hb hcell (fun q h => by cases h) (fun h => by cases h) k1 k2 rfl hkC ⟨h0, by show _ < (arrV _ _ _).slots.size; rw [arrV_size]; exact hlt⟩ g1 (fun q h => by rw [g3] at h; cases h) (by rw [g2]; exact hkC) (by rw [g2]; exact va_assign hcls) rfl rfl hd fun H1 e1 e2 e3 => ?_
  refine k _ rfl H1 _ ls (hH.put ha ?_ e2 e3) (fun q hq => by
    rcases List.mem_append.mp hq with h9 | h9
    · exact hlo q h9
    · rw [List.mem_singleton.mp h9]
      exact (hH.2.2.2 a _ ha).1) hL
  show H1[a]? = some (vp_cell _ _)
  rw [e1, vp_cell_q, vp_cell_q, arrV_store]
  congr 2
  funext q
  by_cases hq : q = i.toNatClampNeg
  · subst hq
    simp [updV, va_up, va_rf]
  · simp [updV, va_up, hq]
theorem zv_new (F : zv_F Δ Γ own nm cc nL ret R) {C : String} {T : u_T} {N ci index : Nat} {fs : List Value} (hd : decode cc pc = .ok (.new index, 3)) (hc : zv_cls ci C T N) (ty : Nat → FieldType) (hty : ∀ j, j < N → parseFieldDescriptor (T j).2.2.1 = some (ty j)) (hfs : ∀ j, j < N → defaultValue (ty j) = vp_V fs j) (h1 : Cond.classLink own index C ∈ zp_G) (h2 : Cond.instantiable C N ∈ zp_G) (h3 : Cond.initialized C ∈ zp_G) (hce : ce + 1 ≤ R.cells) (hsl : sl + N ≤ R.slots) (k : ∀ hp1 : zv_M, (∀ (a : Nat) (e : va_E), hp a = some e → a < sz) → hp1 = va_up hp sz (some (.inr (ci, fs))) → zv_V Δ Γ Q (pc + 3) lv (.ref sz :: st) hp1 (sz + 1) (ce + 1) (sl + N)) : zv_V Δ Γ Q (pc) lv (st) hp sz ce sl := by
  obtain ⟨p, l, e, R0, s, m, args, below, meth, c⟩ := Γ
  obtain ⟨hx, hb, hml, hown, hts, hT, hr, hlk, hnm, hR⟩ := F
  intro H locs ls hH hlo hL
  have hKn := hT.1.1 ci _ hc.1
  have hR' : R0 = R := hR
  subst hR'
  refine W.newcK hx hb hown (hts _ h1) (hts _ h2) (hts _ h3) rfl hd hce hsl hKn.2.1 hH.1 fun H1 kC hkC e1 z1 o1 => ?_
  exact k _ hH.lt rfl H1 locs ls (hH.push ⟨_, hc.1, (u_born ty hts hc.2.1 hKn hkC e1 hty).to hfs⟩ z1 o1) hlo hL
theorem zv_newa (F : zv_F Δ Γ own nm cc nL ret R) {atype : ArrayType} {ty : FieldType} {n : Int32} {N t0 : Nat} {a0 : vp_A} {cA : ClassId} (hd : decode cc pc = .ok (.newarray atype, 2)) (hw : Cond.arrayClass ty ∈ zp_G) (hty : newarray.typeOf atype = ty) (ht : (zv_tys Δ)[t0]? = some (cA, ty)) (hprim : ∀ U : State, va_RA U cA ty → U.vm.findClass ("[" ++ ty.toString) = some cA) (ha : ∀ cB : ClassId, vp_cell cB a0 = arrV cB N (fun _ => defaultValue ty)) (hn : ¬ n < 0) (hN : n.toNatClampNeg = N) (hbytes : N * componentBytes ty ≤ 536870912) (hce : ce + 1 ≤ R.cells) (hsl : sl + N ≤ R.slots) (k : ∀ hp1 : zv_M, (∀ (a : Nat) (e : va_E), hp a = some e → a < sz) → hp1 = va_up hp sz (some (.inl (cA, a0))) → zv_V Δ Γ Q (pc + 2) lv (.ref sz :: st) hp1 (sz + 1) (ce + 1) (sl + N)) : zv_V Δ Γ Q (pc) lv (.int n :: st) hp sz ce sl := by
  obtain ⟨p, l, e, R0, s, m, args, below, meth, c⟩ := Γ
  obtain ⟨hx, hb, hml, hown, hts, hT, hr, hlk, hnm, hR⟩ := F
  intro H locs ls hH hlo hL
  have hR' : R0 = R := hR
  subst hR'
  subst hty
  refine va_newaK hx hb (hts _ hw) rfl hd rfl hn hN hbytes hce hsl hH.1 fun H1 cB e1 z1 o1 hAr hNm => ?_
  have hcB : cB = cA := Option.some.inj (hNm.symm.trans (hprim s (hT.1.2 t0 _ ht).2))
  subst hcB
  refine k _ hH.lt rfl H1 locs ls (hH.push ?_ z1 o1) hlo hL
  show H1[sz]? = some (vp_cell _ _)
  rw [ha]
  exact e1
theorem zv_newq (F : zv_F Δ Γ own nm cc nL ret R) {C : String} {index : Nat} {n : Int32} {N t0 : Nat} {cA : ClassId} (hd : decode cc pc = .ok (.anewarray index, 3)) (h1 : Cond.classLink own index C ∈ zp_G) (hA : C ∈ zp_A) (ht : (zv_tys Δ)[t0]? = some (cA, .object C)) (hn : ¬ n < 0) (hN : n.toNatClampNeg = N) (hbytes : N * 4 ≤ 536870912) (hce : ce + 1 ≤ R.cells) (hsl : sl + N ≤ R.slots) (k : ∀ hp1 : zv_M, (∀ (a : Nat) (e : va_E), hp a = some e → a < sz) → hp1 = va_up hp sz (some (.inl (cA, N, .inr (.inr (.inr (.inr (fun _ => none))))))) → zv_V Δ Γ Q (pc + 3) lv (.ref sz :: st) hp1 (sz + 1) (ce + 1) (sl + N)) : zv_V Δ Γ Q (pc) lv (.int n :: st) hp sz ce sl := by
  obtain ⟨p, l, e, R0, s, m, args, below, meth, c⟩ := Γ
  obtain ⟨hx, hb, hml, hown, hts, hT, hr, hlk, hnm, hR⟩ := F
  intro H locs ls hH hlo hL
  have hR' : R0 = R := hR
  subst hR'
  subst hN
  refine W.anew hx hb hown (hts _ h1) (va_AO.use (hT.2.2.2 C hA)) rfl hd rfl hn hbytes hce hsl fun cB kA comp f1 f2 f3 f4 => ?_
  obtain ⟨kA2, comp2, b1, b2, b3, b4⟩ := (hT.1.2 t0 _ ht).2
  have hcB : cB = cA := Option.some.inj (f1.symm.trans b4)
  subst hcB
  have hsz := hH.1
  generalize hH1 : H.push ({ cls := cB, slots := Array.replicate n.toNatClampNeg .null, vm := .none } : Cell) = H1
  have z1 : H1.size = sz + 1 := by rw [← hH1, Array.size_push, hsz]
  have e1 : H1[sz]? = some (arrV cB n.toNatClampNeg (fun _ => .null)) := by rw [← hH1, ← hsz, Array.getElem?_push_size, ← arrV_new]
  have o1 : ∀ q : Nat, q < sz → H1[q]? = H[q]? := fun q hq => by rw [← hH1, Array.getElem?_push, if_neg (by rw [hsz]; exact Nat.ne_of_lt hq)]
  rw [hsz]
  refine k _ hH.lt rfl H1 locs ls (hH.push ?_ z1 o1) hlo hL
  show H1[sz]? = some (vp_cell _ _)
  rw [vp_cell_q]
  exact e1
end ZV
def zv_room (d mc ms : Nat) : Room := { frames := d, cells := mc, slots := ms, locals := 39 * d }
def zv_Q (Δ : zv_D) (post : Option Value → zv_M → Nat → Prop) : Array Value → State → Outcome → State → Prop := fun _ _ oc t => ∃ (r : Option Value) (hp1 : zv_M) (sz1 : Nat), oc = .returned r ∧ post r hp1 sz1 ∧ zv_H Δ hp1 sz1 t.heap
def zv_Pc (Δ : zv_D) (av : List Value) (hp : zv_M) (sz : Nat) : Array Value → State → Prop := va_Pc av (fun U => zv_H Δ hp sz U.heap ∧ zv_T Δ U)
/-- a contract: from the picture hp the method returns, and the answer and the new picture have post; at most mc cells of ms slots are new -/
def zv_E (l : Launch) (Δ : zv_D) (d : Nat) (y : MethodName) (bytes : ByteArray) (maxL : Nat) (ret : Option FieldType) (av : List Value) (hp : zv_M) (sz mc ms : Nat) (post : Option Value → zv_M → Nat → Prop) : Prop :=
  Met l y (Cond.code y bytes maxL ret :: zp_G) (zv_room d mc ms) (zv_Pc Δ av hp sz) (zv_Q Δ post) mc ms (fun q => Δ.1.size ≤ q)
theorem zv_blind {Δ : zv_D} {av : List Value} {hp : zv_M} {sz : Nat} : FrameBlind (zv_Pc Δ av hp sz) := fun a U g mk q => ⟨q.1, q.2.1, zv_T.same (s := U) (U := U.calling g mk a) rfl q.2.2⟩
def zv_args : List Value → Nat → List (Option Value)
  | [], n => List.replicate n none
  | v :: l, n => if v.category = 2 then some v :: none :: zv_args l (n - 2) else some v :: zv_args l (n - 1)

theorem zv_args_len : ∀ (av : List Value) (n : Nat), (lg_sl av).length ≤ n → (zv_args av n).length = n
  | [], n, _ => by simp [zv_args]
  | v :: l, n, h => by
    by_cases hc : v.category = 2
    · have h2 : (lg_sl l).length + 2 ≤ n := by simp [lg_sl, hc] at h ⊢; omega
      simp only [zv_args, hc, if_true, List.length_cons]
      rw [zv_args_len l (n - 2) (by omega)]
      omega
    · have h2 : (lg_sl l).length + 1 ≤ n := by simp [lg_sl, hc] at h ⊢; omega
      simp only [zv_args, hc, if_false, List.length_cons]
      rw [zv_args_len l (n - 1) (by omega)]
      omega
theorem zv_args_mem : ∀ (av : List Value) (n k i : Nat) (v : Value), (zv_args av n)[i]? = some (some v) → (k + i, v) ∈ lv_args k av
  | [], n, k, i, v, h => by
    simp only [zv_args, List.getElem?_replicate] at h
    split at h <;> simp at h
  | w :: l, n, k, i, v, h => by
    by_cases hc : w.category = 2
    · simp only [zv_args, hc, if_true] at h
      simp only [lv_args, hc, if_true]
      match i, h with
      | 0, h => simp at h; subst h; exact List.mem_cons_self
      | 1, h => simp at h
      | j + 2, h =>
        have h2 : (zv_args l (n - 2))[j]? = some (some v) := by simpa using h
        have := zv_args_mem l (n - 2) (k + 2) j v h2
        rw [show k + (j + 2) = k + 2 + j by omega]
        exact List.mem_cons_of_mem _ this
    · simp only [zv_args, hc, if_false] at h
      simp only [lv_args, hc, if_false]
      match i, h with
      | 0, h => simp at h; subst h; exact List.mem_cons_self
      | j + 1, h =>
        have h2 : (zv_args l (n - 1))[j]? = some (some v) := by simpa using h
        have := zv_args_mem l (n - 1) (k + 1) j v h2
        rw [show k + (j + 1) = k + 1 + j by omega]
        exact List.mem_cons_of_mem _ this
def zv_QQ (Δ : zv_D) (Γ : zv_C) (mc ms : Nat) (post : Option Value → zv_M → Nat → Prop) : State → Prop := MQ Γ.2.2.2.2.2.2.2.1 (zv_Q Δ post) Γ.2.2.2.2.2.2.1 Γ.2.2.2.2.1 mc ms (fun q => Δ.1.size ≤ q)
/-- a contract out of the walk of the body -/
theorem zv_E.intro {l : Launch} {Δ : zv_D} {d : Nat} {y : MethodName} {bytes : ByteArray} {maxL : Nat} {ret : Option FieldType} {av : List Value} {hp : zv_M} {sz mc ms : Nat} {post : Option Value → zv_M → Nat → Prop} (hy : plainName y.cls = true) (hlen : (lg_sl av).length ≤ maxL) {lv0 : List (Option Value)} (hlv : zv_args av maxL = lv0)
    (body : ∀ Γ : zv_C, Γ.2.1 = l → zv_F Δ Γ y.cls y.name bytes maxL ret (zv_room d mc ms) → zv_V Δ Γ (zv_QQ Δ Γ mc ms post) 0 lv0 [] hp sz 0 0) : zv_E l Δ d y bytes maxL ret av hp sz mc ms post := by
  refine Met.ofW (cc := bytes) (maxL := maxL) (ret := ret) hy rfl ?_
  intro p e s m args below meth c s₁ B hml hv
  obtain ⟨rfl, hH, hT⟩ := hv
  have hts := atoms_spec B.pre
  have hF : zv_F Δ (p, l, e, zv_room d mc ms, s, m, av.toArray, below, meth, c) y.cls y.name bytes maxL ret (zv_room d mc ms) :=
    ⟨B.exec, B.bytes, hml, findClass_of_methodNamed B.named, fun w hw => hts w (List.mem_cons_of_mem _ hw), hT, B.returns, B.notSynchronized, (name_of_methodNamed B.named B.method).1, rfl⟩
  have hl := lv_entry av (n := maxL) hlen
  rw [lg_entry_eq]
  subst hlv
  exact body _ rfl hF s.heap [] _ hH (fun q h => by cases h) ⟨by rw [hl.1, zv_args_len av maxL hlen], hl.2.1, fun i v h => hl.2.2 (i, v) (by have := zv_args_mem av maxL 0 i v h; simpa using this)⟩
section ZR
variable {Δ : zv_D} {Γ : zv_C} {own nm : String} {cc : ByteArray} {nL : Nat} {ret : Option FieldType} {R : Room} {pc : Nat} {lv : List (Option Value)} {hp : zv_M} {sz ce sl mc ms : Nat} {post : Option Value → zv_M → Nat → Prop}
theorem zv_iret (F : zv_F Δ Γ own nm cc nL (some .int) R) {v : Int32} (hd : decode cc pc = .ok (.ireturn, 1)) (hc : ce ≤ mc) (hs : sl ≤ ms) (hq : post (some (.int v)) hp sz) : zv_V Δ Γ (zv_QQ Δ Γ mc ms post) pc lv [.int v] hp sz ce sl := by
  obtain ⟨p, l, e, R0, s, m, args, below, meth, c⟩ := Γ
  obtain ⟨hx, hb, hml, hown, hts, hT, hr, hlk, hnm, hR⟩ := F
  intro H locs ls hH hlo hL
  refine W.widen hc hs ?_
  exact W.iret hx hb hr (fun t ht hW => ⟨_, hp, sz, rfl, hq, by rw [ht]; exact hH⟩) hlo hd hlk
theorem zv_zret (F : zv_F Δ Γ own nm cc nL (some .boolean) R) {v : Int32} (hd : decode cc pc = .ok (.ireturn, 1)) (hc : ce ≤ mc) (hs : sl ≤ ms) (hn : narrow .boolean (.int v) = .int v) (hq : post (some (.int v)) hp sz) : zv_V Δ Γ (zv_QQ Δ Γ mc ms post) pc lv [.int v] hp sz ce sl := by
  obtain ⟨p, l, e, R0, s, m, args, below, meth, c⟩ := Γ
  obtain ⟨hx, hb, hml, hown, hts, hT, hr, hlk, hnm, hR⟩ := F
  intro H locs ls hH hlo hL
  refine W.widen hc hs ?_
  exact W.zret hx hb hr hn (fun t ht hW => ⟨_, hp, sz, rfl, hq, by rw [ht]; exact hH⟩) hlo hd hlk
theorem zv_lret (F : zv_F Δ Γ own nm cc nL (some .long) R) {v : Int64} (hd : decode cc pc = .ok (.lreturn, 1)) (hc : ce ≤ mc) (hs : sl ≤ ms) (hq : post (some (.long v)) hp sz) : zv_V Δ Γ (zv_QQ Δ Γ mc ms post) pc lv [.long v] hp sz ce sl := by
  obtain ⟨p, l, e, R0, s, m, args, below, meth, c⟩ := Γ
  obtain ⟨hx, hb, hml, hown, hts, hT, hr, hlk, hnm, hR⟩ := F
  intro H locs ls hH hlo hL
  refine W.widen hc hs ?_
  exact W.lret hx hb hr (fun t ht hW => ⟨_, hp, sz, rfl, hq, by rw [ht]; exact hH⟩) hlo hd hlk
theorem zv_vret (F : zv_F Δ Γ own nm cc nL (none) R) (hd : decode cc pc = .ok (.return_, 1)) (hc : ce ≤ mc) (hs : sl ≤ ms) (hq : post (none) hp sz) : zv_V Δ Γ (zv_QQ Δ Γ mc ms post) pc lv [] hp sz ce sl := by
  obtain ⟨p, l, e, R0, s, m, args, below, meth, c⟩ := Γ
  obtain ⟨hx, hb, hml, hown, hts, hT, hr, hlk, hnm, hR⟩ := F
  intro H locs ls hH hlo hL
  refine W.widen hc hs ?_
  exact W.vret hx hb hr (fun t ht hW => ⟨_, hp, sz, rfl, hq, by rw [ht]; exact hH⟩) hlo hd hlk
end ZR
def zv_y (y : MethodName) (bytes : ByteArray) (maxL : Nat) (ret : Option FieldType) (n : Nat) : Prop :=
  Cond.code y bytes maxL ret ∈ zp_G ∧ Cond.initialized y.cls ∈ zp_G ∧ (y.cls ≠ "java/lang/invoke/MethodHandle" ∧ y.cls ≠ "java/lang/invoke/VarHandle" ∧ (parseMethodDescriptor y.desc).map (fun d => d.parameters.length) = some n)
theorem zv_gd {y : MethodName} {bytes : ByteArray} {maxL : Nat} {ret : Option FieldType} (h : Cond.code y bytes maxL ret ∈ zp_G) {ts : List Cond} (ht : ∀ w ∈ ts, w ∈ zp_G) : GoodIn zp_G (ts ++ Cond.code y bytes maxL ret :: zp_G) := fun w hw => by
  have hm : w ∈ zp_G := by
    rcases List.mem_append.mp hw with h1 | h1
    · exact ht w h1
    · rcases List.mem_cons.mp h1 with h2 | h2
      · rw [h2]; exact h
      · exact h2
  exact ⟨hm, zp_good w hm⟩
section ZCALL
variable {Δ : zv_D} {Γ : zv_C} {Q : State → Prop} {own nm : String} {cc : ByteArray} {nL : Nat} {ret : Option FieldType} {R : Room} {pc : Nat} {lv : List (Option Value)} {st : List Value} {hp : zv_M} {sz ce sl : Nat}
variable {y : MethodName} {bytes : ByteArray} {maxL n d mc ms index b : Nat} {ret1 : Option FieldType} {As rest : List Value} {post : Option Value → zv_M → Nat → Prop}
theorem zv_of_run {Qa : State → Outcome → State → Prop}
    (hr : ∀ (H : Heap) (locs : List Loc) (ls : Array Slot), zv_H Δ hp sz H → zv_L lv ls → va_Run Γ.1 Γ.2.1 Γ.2.2.1 Γ.2.2.2.1 Γ.2.2.2.2.1 Γ.2.2.2.2.2.1 Γ.2.2.2.2.2.2.1 Γ.2.2.2.2.2.2.2.1 Γ.2.2.2.2.2.2.2.2.1 Γ.2.2.2.2.2.2.2.2.2 H locs ce sl mc ms (F0 Γ.2.2.2.2.2.1 pc ls st) rest Qa (fun q => Δ.1.size ≤ q))
    (hq : ∀ (s1 : State) (oc : Outcome) (t : State), Qa s1 oc t → ∃ (r : Option Value) (hp1 : zv_M) (sz1 : Nat), oc = .returned r ∧ post r hp1 sz1 ∧ zv_H Δ hp1 sz1 t.heap)
    (k : ∀ (r : Option Value) (hp1 : zv_M) (sz1 : Nat), post r hp1 sz1 → zv_V Δ Γ Q (pc + 3) lv (r.toList ++ rest) hp1 sz1 (ce + mc) (sl + ms)) : zv_V Δ Γ Q pc lv st hp sz ce sl := by
  intro H locs ls hH hlo hL T hT X
  obtain ⟨v, s1, t, T1, L, h0, X1, hLf, e1, e2, hqa, goes⟩ := hr H locs ls hH hL T hT X
  obtain ⟨r, hp1, sz1, hv, hpost, hH1⟩ := hq s1 _ t hqa
  cases hv
  obtain ⟨t2, a1, b1⟩ := k _ hp1 sz1 hpost T1.heap (locs ++ L) ls (by rw [e1]; exact hH1) (fun q h => by
    rcases List.mem_append.mp h with h1 | h1
    · exact hlo q h1
    · exact hLf q h1) hL T1 rfl X1
  exact ⟨t2, goes t2 a1, b1⟩
theorem zv_of_run5 {Qa : State → Outcome → State → Prop}
    (hr : ∀ (H : Heap) (locs : List Loc) (ls : Array Slot), zv_H Δ hp sz H → zv_L lv ls → va_Run5 Γ.1 Γ.2.1 Γ.2.2.1 Γ.2.2.2.1 Γ.2.2.2.2.1 Γ.2.2.2.2.2.1 Γ.2.2.2.2.2.2.1 Γ.2.2.2.2.2.2.2.1 Γ.2.2.2.2.2.2.2.2.1 Γ.2.2.2.2.2.2.2.2.2 H locs ce sl mc ms (F0 Γ.2.2.2.2.2.1 pc ls st) rest Qa (fun q => Δ.1.size ≤ q))
    (hq : ∀ (s1 : State) (oc : Outcome) (t : State), Qa s1 oc t → ∃ (r : Option Value) (hp1 : zv_M) (sz1 : Nat), oc = .returned r ∧ post r hp1 sz1 ∧ zv_H Δ hp1 sz1 t.heap)
    (k : ∀ (r : Option Value) (hp1 : zv_M) (sz1 : Nat), post r hp1 sz1 → zv_V Δ Γ Q (pc + 5) lv (r.toList ++ rest) hp1 sz1 (ce + mc) (sl + ms)) : zv_V Δ Γ Q pc lv st hp sz ce sl := by
  intro H locs ls hH hlo hL T hT X
  obtain ⟨v, s1, t, T1, L, h0, X1, hLf, e1, e2, hqa, goes⟩ := hr H locs ls hH hL T hT X
  obtain ⟨r, hp1, sz1, hv, hpost, hH1⟩ := hq s1 _ t hqa
  cases hv
  obtain ⟨t2, a1, b1⟩ := k _ hp1 sz1 hpost T1.heap (locs ++ L) ls (by rw [e1]; exact hH1) (fun q h => by
    rcases List.mem_append.mp h with h1 | h1
    · exact hlo q h1
    · exact hLf q h1) hL T1 rfl X1
  exact ⟨t2, goes t2 a1, b1⟩
theorem zv_callV (F : zv_F Δ Γ own nm cc nL ret R) (hlv : lv.length = nL) {ci N : Nat} {T : u_T} {fs : List Value} (ho : hp b = some (.inr (ci, fs))) (hC : zp_classes[ci]? = some (y.cls, T, N)) (hd : decode cc pc = .ok (.invokevirtual index, 3)) (E : zv_E Γ.2.1 Δ d y bytes maxL ret1 (.ref b :: As) hp sz mc ms post) (hy : zv_y y bytes maxL ret1 n) (hi : Cond.instanceMethod y ∈ zp_G) (hse : Cond.selects y.cls y y ∈ zp_G) (hlk : Cond.methodLink own index y ∈ zp_G) (hn : As.length = n) (hroom : d + 1 ≤ R.frames ∧ 8 + (maxL + 11) + 39 * d ≤ R.locals) (hrest : (rest.map fun v => v.category).sum ≤ 8) (hf : ce + mc ≤ R.cells ∧ sl + ms ≤ R.slots) (k : ∀ (r : Option Value) (hp1 : zv_M) (sz1 : Nat), post r hp1 sz1 → zv_V Δ Γ Q (pc + 3) lv (r.toList ++ rest) hp1 sz1 (ce + mc) (sl + ms)) : zv_V Δ Γ Q pc lv (As.reverse ++ .ref b :: rest) hp sz ce sl := by
  obtain ⟨p, l, e, R0, s, m, args, below, meth, c⟩ := Γ
  obtain ⟨hx, hb0, hml, hown, hts, hT, hr, hlk0, hnm, hR⟩ := F
  have hR' : R0 = R := hR
  subst hR'
  exact zv_of_run (fun H locs ls hH hL => va_runV (C := y.cls) ⟨hx, hb0, hml, hown, hts⟩ E (⟨callB_of n hts (zv_gd hy.1 (ts := []) (fun w h => by cases h)) rfl rfl rfl (hts _ hy.2.1) (hts _ hlk) hy.2.2 hroom, hts _ hi, hts _ hse⟩) ⟨zv_blind, va_recv (q0 := 0) hT.1 (hH.one ho) hC rfl, fun U hU hW => ⟨rfl, by rw [hU]; exact hH, hT.warm hW⟩⟩ rfl hn (hL.1.trans hlv) rfl (lv_room hrest) hd hf) (fun s1 oc t h => h) k
theorem zv_callVN (F : zv_F Δ Γ own nm cc nL ret R) (hlv : lv.length = nL) {ci N : Nat} {T : u_T} {fs : List Value} (ho : hp b = some (.inr (ci, fs))) (hC : zp_classes[ci]? = some (y.cls, T, N)) (hd : decode cc pc = .ok (.invokevirtual index, 3)) (E : zv_E Γ.2.1 Δ d y bytes maxL ret1 (.ref b :: As) hp sz mc ms post) (hy : zv_y y bytes maxL ret1 n) (hi : Cond.instanceMethod y ∈ zp_G) (hse : Cond.selects y.cls y y ∈ zp_G) {host : String} (hlk : Cond.methodLinkNest own index y host ∈ zp_N) (hn : As.length = n) (hroom : d + 1 ≤ R.frames ∧ 8 + (maxL + 11) + 39 * d ≤ R.locals) (hrest : (rest.map fun v => v.category).sum ≤ 8) (hf : ce + mc ≤ R.cells ∧ sl + ms ≤ R.slots) (k : ∀ (r : Option Value) (hp1 : zv_M) (sz1 : Nat), post r hp1 sz1 → zv_V Δ Γ Q (pc + 3) lv (r.toList ++ rest) hp1 sz1 (ce + mc) (sl + ms)) : zv_V Δ Γ Q pc lv (As.reverse ++ .ref b :: rest) hp sz ce sl := by
  obtain ⟨p, l, e, R0, s, m, args, below, meth, c⟩ := Γ
  obtain ⟨hx, hb0, hml, hown, hts, hT, hr, hlk0, hnm, hR⟩ := F
  have hR' : R0 = R := hR
  subst hR'
  exact zv_of_run (fun H locs ls hH hL => va_runVN (C := y.cls) ⟨hx, hb0, hml, hown, hts⟩ E (⟨va_cnB n hts (zv_gd hy.1 (ts := []) (fun w h => by cases h)) rfl rfl rfl (hT.2.1 _ hlk) (hts _ hy.2.1) hy.2.2 hroom, hts _ hi, hts _ hse⟩) ⟨zv_blind, va_recv (q0 := 0) hT.1 (hH.one ho) hC rfl, fun U hU hW => ⟨rfl, by rw [hU]; exact hH, hT.warm hW⟩⟩ rfl hn (hL.1.trans hlv) rfl (lv_room hrest) hd hf) (fun s1 oc t h => h) k
theorem zv_callS (F : zv_F Δ Γ own nm cc nL ret R) (hlv : lv.length = nL) (hd : decode cc pc = .ok (.invokestatic index, 3)) (E : zv_E Γ.2.1 Δ d y bytes maxL ret1 As hp sz mc ms post) (hy : zv_y y bytes maxL ret1 n) (hi : Cond.static y ∈ zp_G) (hlk : Cond.methodLink own index y ∈ zp_G) (hn : As.length = n) (hroom : d + 1 ≤ R.frames ∧ 8 + (maxL + 11) + 39 * d ≤ R.locals) (hrest : (rest.map fun v => v.category).sum ≤ 8) (hf : ce + mc ≤ R.cells ∧ sl + ms ≤ R.slots) (k : ∀ (r : Option Value) (hp1 : zv_M) (sz1 : Nat), post r hp1 sz1 → zv_V Δ Γ Q (pc + 3) lv (r.toList ++ rest) hp1 sz1 (ce + mc) (sl + ms)) : zv_V Δ Γ Q pc lv (As.reverse ++ rest) hp sz ce sl := by
  obtain ⟨p, l, e, R0, s, m, args, below, meth, c⟩ := Γ
  obtain ⟨hx, hb0, hml, hown, hts, hT, hr, hlk0, hnm, hR⟩ := F
  have hR' : R0 = R := hR
  subst hR'
  exact zv_of_run (fun H locs ls hH hL => va_runS ⟨hx, hb0, hml, hown, hts⟩ E (⟨callB_of n hts (zv_gd hy.1 (ts := []) (fun w h => by cases h)) rfl rfl rfl (hts _ hy.2.1) (hts _ hlk) hy.2.2 hroom, hts _ hi⟩) ⟨zv_blind, fun U hU hW => ⟨rfl, by rw [hU]; exact hH, hT.warm hW⟩⟩ rfl hn (hL.1.trans hlv) rfl (lv_room hrest) hd hf) (fun s1 oc t h => h) k
theorem zv_callSN (F : zv_F Δ Γ own nm cc nL ret R) (hlv : lv.length = nL) (hd : decode cc pc = .ok (.invokestatic index, 3)) (E : zv_E Γ.2.1 Δ d y bytes maxL ret1 As hp sz mc ms post) (hy : zv_y y bytes maxL ret1 n) (hi : Cond.static y ∈ zp_G) {host : String} (hlk : Cond.methodLinkNest own index y host ∈ zp_N) (hn : As.length = n) (hroom : d + 1 ≤ R.frames ∧ 8 + (maxL + 11) + 39 * d ≤ R.locals) (hrest : (rest.map fun v => v.category).sum ≤ 8) (hf : ce + mc ≤ R.cells ∧ sl + ms ≤ R.slots) (k : ∀ (r : Option Value) (hp1 : zv_M) (sz1 : Nat), post r hp1 sz1 → zv_V Δ Γ Q (pc + 3) lv (r.toList ++ rest) hp1 sz1 (ce + mc) (sl + ms)) : zv_V Δ Γ Q pc lv (As.reverse ++ rest) hp sz ce sl := by
  obtain ⟨p, l, e, R0, s, m, args, below, meth, c⟩ := Γ
  obtain ⟨hx, hb0, hml, hown, hts, hT, hr, hlk0, hnm, hR⟩ := F
  have hR' : R0 = R := hR
  subst hR'
  exact zv_of_run (fun H locs ls hH hL => va_runSN ⟨hx, hb0, hml, hown, hts⟩ E (⟨va_cnB n hts (zv_gd hy.1 (ts := []) (fun w h => by cases h)) rfl rfl rfl (hT.2.1 _ hlk) (hts _ hy.2.1) hy.2.2 hroom, hts _ hi, trivial⟩) ⟨zv_blind, fun U hU hW => ⟨rfl, by rw [hU]; exact hH, hT.warm hW⟩⟩ rfl hn (hL.1.trans hlv) rfl (lv_room hrest) hd hf) (fun s1 oc t h => h) k
theorem zv_callI (F : zv_F Δ Γ own nm cc nL ret R) (hlv : lv.length = nL) (hd : decode cc pc = .ok (.invokespecial index, 3)) (E : zv_E Γ.2.1 Δ d y bytes maxL none (.ref b :: As) hp sz mc ms post) (hy : zv_y y bytes maxL none n) (hi : Cond.instanceMethod y ∈ zp_G) (hin : y.name = "<init>") (hlk : Cond.methodLink own index y ∈ zp_G) (hn : As.length = n) (hroom : d + 1 ≤ R.frames ∧ 8 + (maxL + 11) + 39 * d ≤ R.locals) (hrest : (rest.map fun v => v.category).sum ≤ 8) (hf : ce + mc ≤ R.cells ∧ sl + ms ≤ R.slots) (k : ∀ (r : Option Value) (hp1 : zv_M) (sz1 : Nat), post r hp1 sz1 → zv_V Δ Γ Q (pc + 3) lv (r.toList ++ rest) hp1 sz1 (ce + mc) (sl + ms)) : zv_V Δ Γ Q pc lv (As.reverse ++ .ref b :: rest) hp sz ce sl := by
  obtain ⟨p, l, e, R0, s, m, args, below, meth, c⟩ := Γ
  obtain ⟨hx, hb0, hml, hown, hts, hT, hr, hlk0, hnm, hR⟩ := F
  have hR' : R0 = R := hR
  subst hR'
  exact zv_of_run (fun H locs ls hH hL => va_runI ⟨hx, hb0, hml, hown, hts⟩ E (cwI n hts (zv_gd hy.1 (ts := []) (fun w h => by cases h)) rfl rfl rfl (hts _ hy.2.1) (hts _ hlk) (hts _ hi) hin hy.2.2 hroom) ⟨zv_blind, fun U hU hW => ⟨rfl, by rw [hU]; exact hH, hT.warm hW⟩⟩ rfl hn (hL.1.trans hlv) rfl (lv_room hrest) hd hf) (fun s1 oc t h => h) k
theorem zv_callIN (F : zv_F Δ Γ own nm cc nL ret R) (hlv : lv.length = nL) (hd : decode cc pc = .ok (.invokespecial index, 3)) (E : zv_E Γ.2.1 Δ d y bytes maxL none (.ref b :: As) hp sz mc ms post) (hy : zv_y y bytes maxL none n) (hi : Cond.instanceMethod y ∈ zp_G) (hin : y.name = "<init>") {host : String} (hlk : Cond.methodLinkNest own index y host ∈ zp_N) (hn : As.length = n) (hroom : d + 1 ≤ R.frames ∧ 8 + (maxL + 11) + 39 * d ≤ R.locals) (hrest : (rest.map fun v => v.category).sum ≤ 8) (hf : ce + mc ≤ R.cells ∧ sl + ms ≤ R.slots) (k : ∀ (r : Option Value) (hp1 : zv_M) (sz1 : Nat), post r hp1 sz1 → zv_V Δ Γ Q (pc + 3) lv (r.toList ++ rest) hp1 sz1 (ce + mc) (sl + ms)) : zv_V Δ Γ Q pc lv (As.reverse ++ .ref b :: rest) hp sz ce sl := by
  obtain ⟨p, l, e, R0, s, m, args, below, meth, c⟩ := Γ
  obtain ⟨hx, hb0, hml, hown, hts, hT, hr, hlk0, hnm, hR⟩ := F
  have hR' : R0 = R := hR
  subst hR'
  exact zv_of_run (fun H locs ls hH hL => va_runIN ⟨hx, hb0, hml, hown, hts⟩ E (⟨va_cnB n hts (zv_gd hy.1 (ts := []) (fun w h => by cases h)) rfl rfl rfl (hT.2.1 _ hlk) (hts _ hy.2.1) hy.2.2 hroom, hin, hts _ hi⟩) ⟨zv_blind, fun U hU hW => ⟨rfl, by rw [hU]; exact hH, hT.warm hW⟩⟩ rfl hn (hL.1.trans hlv) rfl (lv_room hrest) hd hf) (fun s1 oc t h => h) k
theorem zv_callF (F : zv_F Δ Γ own nm cc nL ret R) (hlv : lv.length = nL) {count : Nat} (hd : decode cc pc = .ok (.invokeinterface index count, 5)) (E : zv_E Γ.2.1 Δ d y bytes maxL ret1 (.ref b :: As) hp sz mc ms post) (hy : zv_y y bytes maxL ret1 n) {C : String} {x : MethodName} (hF : (C, x, y) ∈ zp_F) (hi : Cond.instanceMethod y ∈ zp_G) (hse : Cond.selects C x y ∈ zp_G) (hlk : Cond.methodLink own index x ∈ zp_G) (hxd : x.cls ≠ "java/lang/invoke/MethodHandle" ∧ x.cls ≠ "java/lang/invoke/VarHandle" ∧ (parseMethodDescriptor x.desc).map (fun d => d.parameters.length) = some n) {T : u_T} {N ci : Nat} {fs : List Value} (ho : hp b = some (.inr (ci, fs))) (hC : zp_classes[ci]? = some (C, T, N)) (hn : As.length = n) (hroom : d + 1 ≤ R.frames ∧ 8 + (maxL + 11) + 39 * d ≤ R.locals) (hrest : (rest.map fun v => v.category).sum ≤ 8) (hf : ce + mc ≤ R.cells ∧ sl + ms ≤ R.slots) (k : ∀ (r : Option Value) (hp1 : zv_M) (sz1 : Nat), post r hp1 sz1 → zv_V Δ Γ Q (pc + 5) lv (r.toList ++ rest) hp1 sz1 (ce + mc) (sl + ms)) : zv_V Δ Γ Q pc lv (As.reverse ++ .ref b :: rest) hp sz ce sl := by
  obtain ⟨p, l, e, R0, s, m, args, below, meth, c⟩ := Γ
  obtain ⟨hx, hb0, hml, hown, hts, hT, hr, hlk0, hnm, hR⟩ := F
  have hR' : R0 = R := hR
  subst hR'
  exact zv_of_run5 (fun H locs ls hH hL => va_runF (hT.1.1 _ _ hC).2 ⟨hx, hb0, hml, hown, hts⟩ E (va_cwF n hts (zv_gd hy.1 (ts := [.methodLink own index x, .selects C x y, .instanceMethod y, .initialized y.cls]) (by simp only [List.mem_cons, List.not_mem_nil, or_false]; rintro w (rfl | rfl | rfl | rfl) <;> first | assumption | exact hy.2.1)) rfl rfl rfl (hT.2.2.1 _ hF) hxd hroom) ⟨zv_blind, va_recv (q0 := 0) hT.1 (hH.one ho) hC rfl, fun U hU hW => ⟨rfl, by rw [hU]; exact hH, hT.warm hW⟩⟩ rfl hn (hL.1.trans hlv) rfl (lv_room hrest) hd hf) (fun s1 oc t h => h) k
theorem zv_obj (F : zv_F Δ Γ own nm cc nL ret R) (hlv : lv.length = nL) {a : Nat} (hd : decode cc pc = .ok (.invokespecial index, 3)) (h1 : Cond.methodLink own index Lib.objectInit ∈ zp_G) (h2 : Cond.instanceMethod Lib.objectInit ∈ zp_G) (h3 : Cond.code Lib.objectInit ⟨#[0xb1]⟩ 1 none ∈ zp_G) (hroom : 1 ≤ R.frames ∧ (rest.map fun v => v.category).sum + 12 ≤ R.locals) (k : zv_V Δ Γ Q (pc + 3) lv rest hp sz ce sl) : zv_V Δ Γ Q pc lv (.ref a :: rest) hp sz ce sl := by
  obtain ⟨p, l, e, R0, s, m, args, below, meth, c⟩ := Γ
  obtain ⟨hx, hb0, hml, hown, hts, hT, hr, hlk, hnm, hR⟩ := F
  have hR' : R0 = R := hR
  subst hR'
  intro H locs ls hH hlo hL
  refine W.objInit hx hb0 hown (hts _ h1) (hts _ h2) (hts _ h3) rfl (by show ls.size = _; rw [hml, ← hlv]; exact hL.1) rfl hd hroom.1 (by show 2 * 0 + _ + 12 ≤ R0.locals; have h9 := hroom.2; omega) ?_
  exact k H locs ls hH hlo hL
end ZCALL
end
section
/-- int arrays and long arrays by natural numbers -/
def zn_I (Δ : zv_D) (n : Nat) (g : Nat → Nat) : va_E := .inl (Δ.2.2 0, n, .inl (fun j => nI (g j)))
def zn_J (Δ : zv_D) (n : Nat) (g : Nat → Nat) : va_E := .inl (Δ.2.2 1, n, .inr (.inl (fun j => lN (g j))))
theorem zn_inj {a b : Nat} (ha : a < 4294967296) (hb : b < 4294967296) : nI a = nI b ↔ a = b := by
  refine ⟨fun h => ?_, fun h => by rw [h]⟩
  have h2 := congrArg (fun x : Int32 => x.toBitVec.toNat) h
  simpa [pk_tn (n := a) (by omega), pk_tn (n := b) (by omega)] using h2
theorem zn_of (x : Int32) : ∃ n : Nat, n < 4294967296 ∧ x = nI n := by
  refine ⟨x.toBitVec.toNat, x.toBitVec.isLt, ?_⟩
  apply Int32.toBitVec_inj.mp
  apply BitVec.eq_of_toNat_eq
  rw [pk_tn (by have := x.toBitVec.isLt; omega)]
theorem zn_sh : ∀ q, q < 32 → ((nI q &&& 31).toBitVec.smod 32).toNat = q := by decide +kernel
theorem zn_upd (g : Nat → Nat) (i v : Nat) : upd (fun j => nI (g j)) i (nI v) = fun j => nI (va_up g i v j) := by
  funext j
  by_cases h : j = i <;> simp [upd, va_up, h]
theorem zn_updL (g : Nat → Nat) (i v : Nat) : vp_updL (fun j => lN (g j)) i (lN v) = fun j => lN (va_up g i v j) := by
  funext j
  by_cases h : j = i <;> simp [vp_updL, va_up, h]
section ZN
variable {Δ : zv_D} {Γ : zv_C} {Q : State → Prop} {own nm : String} {cc : ByteArray} {nL : Nat} {ret : Option FieldType} {R : Room} {pc : Nat} {lv : List (Option Value)} {st : List Value} {hp : zv_M} {sz ce sl : Nat} {x y : Nat}
theorem zn_iconst (F : zv_F Δ Γ own nm cc nL ret R) {n : Int} (hd : decode cc pc = .ok (.iconst n, 1)) (hv : Int32.ofInt n = nI x) (k : zv_V Δ Γ Q (pc + 1) lv (.int (nI x) :: st) hp sz ce sl) : zv_V Δ Γ Q (pc) lv (st) hp sz ce sl := zv_iconst F hd hv k
theorem zn_bipush (F : zv_F Δ Γ own nm cc nL ret R) {n : Int} (hd : decode cc pc = .ok (.bipush n, 2)) (hv : (Int8.ofInt n).toInt32 = nI x) (k : zv_V Δ Γ Q (pc + 2) lv (.int (nI x) :: st) hp sz ce sl) : zv_V Δ Γ Q (pc) lv (st) hp sz ce sl := zv_bipush F hd hv k
theorem zn_sipush (F : zv_F Δ Γ own nm cc nL ret R) {n : Int} (hd : decode cc pc = .ok (.sipush n, 3)) (hv : (Int16.ofInt n).toInt32 = nI x) (k : zv_V Δ Γ Q (pc + 3) lv (.int (nI x) :: st) hp sz ce sl) : zv_V Δ Γ Q (pc) lv (st) hp sz ce sl := zv_sipush F hd hv k
theorem zn_lconst (F : zv_F Δ Γ own nm cc nL ret R) {n : Fin 2} (hd : decode cc pc = .ok (.lconst n, 1)) (hv : Int64.ofNat (n : Nat) = lN x) (k : zv_V Δ Γ Q (pc + 1) lv (.long (lN x) :: st) hp sz ce sl) : zv_V Δ Γ Q (pc) lv (st) hp sz ce sl := zv_lconst F hd hv k
theorem zn_iadd (F : zv_F Δ Γ own nm cc nL ret R) (hd : decode cc pc = .ok (.iadd, 1)) (k : zv_V Δ Γ Q (pc + 1) lv (.int (nI (x + y)) :: st) hp sz ce sl) : zv_V Δ Γ Q (pc) lv (.int (nI y) :: .int (nI x) :: st) hp sz ce sl := zv_iadd F hd (by rw [nI_add]; exact k)
theorem zn_imul (F : zv_F Δ Γ own nm cc nL ret R) (hd : decode cc pc = .ok (.imul, 1)) (k : zv_V Δ Γ Q (pc + 1) lv (.int (nI (x * y)) :: st) hp sz ce sl) : zv_V Δ Γ Q (pc) lv (.int (nI y) :: .int (nI x) :: st) hp sz ce sl := zv_imul F hd (by rw [pk_mul]; exact k)
theorem zn_isub (F : zv_F Δ Γ own nm cc nL ret R) (hd : decode cc pc = .ok (.isub, 1)) (h : y ≤ x) (k : zv_V Δ Γ Q (pc + 1) lv (.int (nI (x - y)) :: st) hp sz ce sl) : zv_V Δ Γ Q (pc) lv (.int (nI y) :: .int (nI x) :: st) hp sz ce sl := zv_isub F hd (by rw [pk_sub h]; exact k)
theorem zn_idiv (F : zv_F Δ Γ own nm cc nL ret R) (hd : decode cc pc = .ok (.idiv, 1)) (hx : x < 2147483648) (h0 : 0 < y) (hy : y < 2147483648) (k : zv_V Δ Γ Q (pc + 1) lv (.int (nI (x / y)) :: st) hp sz ce sl) : zv_V Δ Γ Q (pc) lv (.int (nI y) :: .int (nI x) :: st) hp sz ce sl := zv_idiv F hd (nI_ne0 h0 (by omega)) (by rw [pk_div (by omega) h0 (by omega)]; exact k)
theorem zn_irem (F : zv_F Δ Γ own nm cc nL ret R) (hd : decode cc pc = .ok (.irem, 1)) (hx : x < 2147483648) (h0 : 0 < y) (hy : y < 2147483648) (k : zv_V Δ Γ Q (pc + 1) lv (.int (nI (x % y)) :: st) hp sz ce sl) : zv_V Δ Γ Q (pc) lv (.int (nI y) :: .int (nI x) :: st) hp sz ce sl := zv_irem F hd (nI_ne0 h0 (by omega)) (by rw [pk_rem (by omega) h0 (by omega)]; exact k)
theorem zn_ishr (F : zv_F Δ Γ own nm cc nL ret R) (hd : decode cc pc = .ok (.ishr, 1)) (hx : x < 2147483648) (hy : y < 32) (k : zv_V Δ Γ Q (pc + 1) lv (.int (nI (x / 2 ^ y)) :: st) hp sz ce sl) : zv_V Δ Γ Q (pc) lv (.int (nI y) :: .int (nI x) :: st) hp sz ce sl := zv_ishr F hd (by rw [pk_shrN (by omega) _ y (zn_sh y hy)]; exact k)
theorem zn_ishl (F : zv_F Δ Γ own nm cc nL ret R) (hd : decode cc pc = .ok (.ishl, 1)) (hx : x * 2 ^ y < 4294967296) (hy : y < 32) (k : zv_V Δ Γ Q (pc + 1) lv (.int (nI (x * 2 ^ y)) :: st) hp sz ce sl) : zv_V Δ Γ Q (pc) lv (.int (nI y) :: .int (nI x) :: st) hp sz ce sl := zv_ishl F hd (by rw [pk_shlN _ y (zn_sh y hy) (by omega)]; exact k)
theorem zn_i2l (F : zv_F Δ Γ own nm cc nL ret R) (hd : decode cc pc = .ok (.i2l, 1)) (hx : x < 2147483648) (k : zv_V Δ Γ Q (pc + 1) lv (.long (lN x) :: st) hp sz ce sl) : zv_V Δ Γ Q (pc) lv (.int (nI x) :: st) hp sz ce sl := zv_i2l F hd (by rw [nI_l (by omega)]; exact k)
theorem zn_l2i (F : zv_F Δ Γ own nm cc nL ret R) (hd : decode cc pc = .ok (.l2i, 1)) (k : zv_V Δ Γ Q (pc + 1) lv (.int (nI x) :: st) hp sz ce sl) : zv_V Δ Γ Q (pc) lv (.long (lN x) :: st) hp sz ce sl := zv_l2i F hd (by rw [lN_i]; exact k)
theorem zn_ladd (F : zv_F Δ Γ own nm cc nL ret R) (hd : decode cc pc = .ok (.ladd, 1)) (k : zv_V Δ Γ Q (pc + 1) lv (.long (lN (x + y)) :: st) hp sz ce sl) : zv_V Δ Γ Q (pc) lv (.long (lN y) :: .long (lN x) :: st) hp sz ce sl := zv_ladd F hd (by rw [lN_add]; exact k)
theorem zn_lmul (F : zv_F Δ Γ own nm cc nL ret R) (hd : decode cc pc = .ok (.lmul, 1)) (k : zv_V Δ Γ Q (pc + 1) lv (.long (lN (x * y)) :: st) hp sz ce sl) : zv_V Δ Γ Q (pc) lv (.long (lN y) :: .long (lN x) :: st) hp sz ce sl := zv_lmul F hd (by rw [lN_mul]; exact k)
theorem zn_and (a b : Nat) : nI a &&& nI b = nI (a &&& b) := by
  apply Int32.toBitVec_inj.mp
  apply BitVec.eq_of_toNat_eq
  simp [nI]
theorem zn_or (a b : Nat) : nI a ||| nI b = nI (a ||| b) := by
  apply Int32.toBitVec_inj.mp
  apply BitVec.eq_of_toNat_eq
  simp [nI]
theorem zn_iand (F : zv_F Δ Γ own nm cc nL ret R) (hd : decode cc pc = .ok (.iand, 1)) (k : zv_V Δ Γ Q (pc + 1) lv (.int (nI (x &&& y)) :: st) hp sz ce sl) : zv_V Δ Γ Q (pc) lv (.int (nI y) :: .int (nI x) :: st) hp sz ce sl := zv_iand F hd (by rw [zn_and]; exact k)
theorem zn_ior (F : zv_F Δ Γ own nm cc nL ret R) (hd : decode cc pc = .ok (.ior, 1)) (k : zv_V Δ Γ Q (pc + 1) lv (.int (nI (x ||| y)) :: st) hp sz ce sl) : zv_V Δ Γ Q (pc) lv (.int (nI y) :: .int (nI x) :: st) hp sz ce sl := zv_ior F hd (by rw [zn_or]; exact k)
theorem zn_icmp_lt (F : zv_F Δ Γ own nm cc nL ret R) {off : Int} {tgt : Nat} (hd : decode cc pc = .ok (.if_icmp .lt off, 3)) (ht : (pc : Int) + off = (tgt : Int)) (hx : x < 2147483648) (hy : y < 2147483648) (kt : x < y → zv_V Δ Γ Q (tgt) lv (st) hp sz ce sl) (kf : y ≤ x → zv_V Δ Γ Q (pc + 3) lv (st) hp sz ce sl) : zv_V Δ Γ Q (pc) lv (.int (nI y) :: .int (nI x) :: st) hp sz ce sl := zv_icmp_lt F hd ht (fun h => kt ((nI_ltI (by omega) (by omega)).mp h)) (fun h => kf (Nat.le_of_not_lt fun g => h ((nI_ltI (by omega) (by omega)).mpr g)))
theorem zn_icmp_ge (F : zv_F Δ Γ own nm cc nL ret R) {off : Int} {tgt : Nat} (hd : decode cc pc = .ok (.if_icmp .ge off, 3)) (ht : (pc : Int) + off = (tgt : Int)) (hx : x < 2147483648) (hy : y < 2147483648) (kt : y ≤ x → zv_V Δ Γ Q (tgt) lv (st) hp sz ce sl) (kf : x < y → zv_V Δ Γ Q (pc + 3) lv (st) hp sz ce sl) : zv_V Δ Γ Q (pc) lv (.int (nI y) :: .int (nI x) :: st) hp sz ce sl := zv_icmp_ge F hd ht (fun h => kt ((nI_leI (by omega) (by omega)).mp h)) (fun h => kf (Nat.lt_of_not_le fun g => h ((nI_leI (by omega) (by omega)).mpr g)))
theorem zn_icmp_gt (F : zv_F Δ Γ own nm cc nL ret R) {off : Int} {tgt : Nat} (hd : decode cc pc = .ok (.if_icmp .gt off, 3)) (ht : (pc : Int) + off = (tgt : Int)) (hx : x < 2147483648) (hy : y < 2147483648) (kt : y < x → zv_V Δ Γ Q (tgt) lv (st) hp sz ce sl) (kf : x ≤ y → zv_V Δ Γ Q (pc + 3) lv (st) hp sz ce sl) : zv_V Δ Γ Q (pc) lv (.int (nI y) :: .int (nI x) :: st) hp sz ce sl := zv_icmp_gt F hd ht (fun h => kt ((nI_ltI (by omega) (by omega)).mp h)) (fun h => kf (Nat.le_of_not_lt fun g => h ((nI_ltI (by omega) (by omega)).mpr g)))
theorem zn_icmp_le (F : zv_F Δ Γ own nm cc nL ret R) {off : Int} {tgt : Nat} (hd : decode cc pc = .ok (.if_icmp .le off, 3)) (ht : (pc : Int) + off = (tgt : Int)) (hx : x < 2147483648) (hy : y < 2147483648) (kt : x ≤ y → zv_V Δ Γ Q (tgt) lv (st) hp sz ce sl) (kf : y < x → zv_V Δ Γ Q (pc + 3) lv (st) hp sz ce sl) : zv_V Δ Γ Q (pc) lv (.int (nI y) :: .int (nI x) :: st) hp sz ce sl := zv_icmp_le F hd ht (fun h => kt ((nI_leI (by omega) (by omega)).mp h)) (fun h => kf (Nat.lt_of_not_le fun g => h ((nI_leI (by omega) (by omega)).mpr g)))
theorem zn_icmp_eq (F : zv_F Δ Γ own nm cc nL ret R) {off : Int} {tgt : Nat} (hd : decode cc pc = .ok (.if_icmp .eq off, 3)) (ht : (pc : Int) + off = (tgt : Int)) (hx : x < 4294967296) (hy : y < 4294967296) (kt : x = y → zv_V Δ Γ Q (tgt) lv (st) hp sz ce sl) (kf : ¬ x = y → zv_V Δ Γ Q (pc + 3) lv (st) hp sz ce sl) : zv_V Δ Γ Q (pc) lv (.int (nI y) :: .int (nI x) :: st) hp sz ce sl := zv_icmp_eq F hd ht (fun h => kt ((zn_inj (by omega) (by omega)).mp h)) (fun h => kf (fun g => h ((zn_inj (by omega) (by omega)).mpr g)))
theorem zn_icmp_ne (F : zv_F Δ Γ own nm cc nL ret R) {off : Int} {tgt : Nat} (hd : decode cc pc = .ok (.if_icmp .ne off, 3)) (ht : (pc : Int) + off = (tgt : Int)) (hx : x < 4294967296) (hy : y < 4294967296) (kt : ¬ x = y → zv_V Δ Γ Q (tgt) lv (st) hp sz ce sl) (kf : x = y → zv_V Δ Γ Q (pc + 3) lv (st) hp sz ce sl) : zv_V Δ Γ Q (pc) lv (.int (nI y) :: .int (nI x) :: st) hp sz ce sl := zv_icmp_ne F hd ht (fun h => kt (fun g => h ((zn_inj (by omega) (by omega)).mpr g))) (fun h => kf ((zn_inj (by omega) (by omega)).mp h))
theorem zn_if_eq (F : zv_F Δ Γ own nm cc nL ret R) {off : Int} {tgt : Nat} (hd : decode cc pc = .ok (.ifCond .eq off, 3)) (ht : (pc : Int) + off = (tgt : Int)) (hx : x < 4294967296) (kt : x = 0 → zv_V Δ Γ Q (tgt) lv (st) hp sz ce sl) (kf : ¬ x = 0 → zv_V Δ Γ Q (pc + 3) lv (st) hp sz ce sl) : zv_V Δ Γ Q (pc) lv (.int (nI x) :: st) hp sz ce sl := zv_if_eq F hd ht (fun h => kt ((zn_inj (b := 0) (by omega) (by omega)).mp h)) (fun h => kf (fun g => h ((zn_inj (b := 0) (by omega) (by omega)).mpr g)))
theorem zn_if_ne (F : zv_F Δ Γ own nm cc nL ret R) {off : Int} {tgt : Nat} (hd : decode cc pc = .ok (.ifCond .ne off, 3)) (ht : (pc : Int) + off = (tgt : Int)) (hx : x < 4294967296) (kt : ¬ x = 0 → zv_V Δ Γ Q (tgt) lv (st) hp sz ce sl) (kf : x = 0 → zv_V Δ Γ Q (pc + 3) lv (st) hp sz ce sl) : zv_V Δ Γ Q (pc) lv (.int (nI x) :: st) hp sz ce sl := zv_if_ne F hd ht (fun h => kt (fun g => h ((zn_inj (b := 0) (by omega) (by omega)).mpr g))) (fun h => kf ((zn_inj (b := 0) (by omega) (by omega)).mp h))
theorem zn_iald (F : zv_F Δ Γ own nm cc nL ret R) {a n i : Nat} {g : Nat → Nat} (hd : decode cc pc = .ok (.iaload, 1)) (ha : hp a = some (zn_I Δ n g)) (hn : n < 2147483648) (hi : i < n) (k : zv_V Δ Γ Q (pc + 1) lv (.int (nI (g i)) :: st) hp sz ce sl) : zv_V Δ Γ Q pc lv (.int (nI i) :: .ref a :: st) hp sz ce sl :=
  zv_iald F (t0 := 0) hd ha rfl (vp_in_nI hi (by omega)) (by rw [nI_clamp (by omega)]; exact k)
theorem zn_lald (F : zv_F Δ Γ own nm cc nL ret R) {a n i : Nat} {g : Nat → Nat} (hd : decode cc pc = .ok (.laload, 1)) (ha : hp a = some (zn_J Δ n g)) (hn : n < 2147483648) (hi : i < n) (k : zv_V Δ Γ Q (pc + 1) lv (.long (lN (g i)) :: st) hp sz ce sl) : zv_V Δ Γ Q pc lv (.int (nI i) :: .ref a :: st) hp sz ce sl :=
  zv_lald F (t0 := 1) hd ha rfl (vp_in_nI hi (by omega)) (by rw [nI_clamp (by omega)]; exact k)
theorem zn_iast (F : zv_F Δ Γ own nm cc nL ret R) {a n i v : Nat} {g : Nat → Nat} (hd : decode cc pc = .ok (.iastore, 1)) (ha : hp a = some (zn_I Δ n g)) (hn : n < 2147483648) (hi : i < n) (k : ∀ hp1 : zv_M, hp1 = va_up hp a (some (zn_I Δ n (va_up g i v))) → zv_V Δ Γ Q (pc + 1) lv st hp1 sz ce sl) : zv_V Δ Γ Q pc lv (.int (nI v) :: .int (nI i) :: .ref a :: st) hp sz ce sl :=
  zv_iast F (t0 := 0) hd ha rfl (vp_in_nI hi (by omega)) (fun hp1 e => k hp1 (by rw [e, nI_clamp (by omega), zn_upd]; rfl))
theorem zn_last (F : zv_F Δ Γ own nm cc nL ret R) {a n i v : Nat} {g : Nat → Nat} (hd : decode cc pc = .ok (.lastore, 1)) (ha : hp a = some (zn_J Δ n g)) (hn : n < 2147483648) (hi : i < n) (k : ∀ hp1 : zv_M, hp1 = va_up hp a (some (zn_J Δ n (va_up g i v))) → zv_V Δ Γ Q (pc + 1) lv st hp1 sz ce sl) : zv_V Δ Γ Q pc lv (.long (lN v) :: .int (nI i) :: .ref a :: st) hp sz ce sl :=
  zv_last F (t0 := 1) hd ha rfl (vp_in_nI hi (by omega)) (fun hp1 e => k hp1 (by rw [e, nI_clamp (by omega), zn_updL]; rfl))
theorem zn_iinc (F : zv_F Δ Γ own nm cc nL ret R) {j : Nat} (hd : decode cc pc = .ok (.iinc j 1, 3)) (hl : lv[j]? = some (some (.int (nI x)))) (k : zv_V Δ Γ Q (pc + 3) (zv_s1 lv j (.int (nI (x + 1)))) st hp sz ce sl) : zv_V Δ Γ Q pc lv st hp sz ce sl :=
  zv_iinc F hd hl (by rw [nI_succ]; rfl) k
end ZN
end
section
theorem zv_ne {hp hp1 : zv_M} {a b : Nat} {x : Option va_E} (e : hp1 = va_up hp a x) (h : b ≠ a) : hp1 b = hp b := by
  rw [e]
  simp only [va_up, h, if_false]
theorem zv_eq {hp hp1 : zv_M} {a : Nat} {x : Option va_E} (e : hp1 = va_up hp a x) : hp1 a = x := by
  rw [e]
  simp only [va_up, if_true]
theorem zn_nb (b : Bool) : narrow .boolean (.int (nI b.toNat)) = .int (nI b.toNat) := by
  cases b <;> rfl
theorem zn_bt {b : Bool} (h : b = true) : (some (.int (nI 1)) : Option Value) = some (.int (nI b.toNat)) := by
  rw [h]
  rfl
theorem zn_bf {b : Bool} (h : b = false) : (some (.int (nI 0)) : Option Value) = some (.int (nI b.toNat)) := by
  rw [h]
  rfl
theorem zn_rt {a b : Nat} (h : a = b) : (some (.int (nI a)) : Option Value) = some (.int (nI b)) := by rw [h]
theorem zn_rl {a b : Nat} (h : a = b) : (some (.long (lN a)) : Option Value) = some (.long (lN b)) := by rw [h]
theorem zn_lt0 {x : Nat} (hx : x < 4294967296) : nI x < 0 ↔ 2147483648 ≤ x := by
  have e : (nI x < 0) ↔ (nI x).toInt < 0 := Int32.lt_iff_toInt_lt
  rw [e]
  have e2 : (nI x).toInt = (BitVec.ofNat 32 x).toInt := rfl
  rw [e2, BitVec.toInt_eq_toNat_cond]
  simp only [BitVec.toNat_ofNat]
  rw [Nat.mod_eq_of_lt (by omega)]
  split <;> omega
def zv_P (l : Launch) (Δ : zv_D) (d : Nat) (y : MethodName) (bytes : ByteArray) (maxL : Nat) (ret : Option FieldType) (av : List Value) (hp : zv_M) (sz : Nat) (v : Value) : Prop :=
  zv_E l Δ d y bytes maxL ret av hp sz 0 0 (fun r hp1 sz1 => r = some v ∧ hp1 = hp ∧ sz1 = sz)
section ZB
variable {Δ : zv_D} {Γ : zv_C} {Q : State → Prop} {own nm : String} {cc : ByteArray} {nL : Nat} {ret : Option FieldType} {R : Room} {pc : Nat} {lv : List (Option Value)} {st : List Value} {hp : zv_M} {sz ce sl : Nat} {x y : Nat} {b : Bool}
theorem zn_if_lt (F : zv_F Δ Γ own nm cc nL ret R) {off : Int} {tgt : Nat} (hd : decode cc pc = .ok (.ifCond .lt off, 3)) (ht : (pc : Int) + off = (tgt : Int)) (hx : x < 4294967296) (kt : 2147483648 ≤ x → zv_V Δ Γ Q (tgt) lv (st) hp sz ce sl) (kf : x < 2147483648 → zv_V Δ Γ Q (pc + 3) lv (st) hp sz ce sl) : zv_V Δ Γ Q (pc) lv (.int (nI x) :: st) hp sz ce sl := zv_if_lt F hd ht (fun h => kt ((zn_lt0 hx).mp h)) (fun h => kf (Nat.lt_of_not_le fun g => h ((zn_lt0 hx).mpr g)))
theorem zn_if_le (F : zv_F Δ Γ own nm cc nL ret R) {off : Int} {tgt : Nat} (hd : decode cc pc = .ok (.ifCond .le off, 3)) (ht : (pc : Int) + off = (tgt : Int)) (hx : x < 2147483648) (kt : x = 0 → zv_V Δ Γ Q (tgt) lv (st) hp sz ce sl) (kf : 0 < x → zv_V Δ Γ Q (pc + 3) lv (st) hp sz ce sl) : zv_V Δ Γ Q (pc) lv (.int (nI x) :: st) hp sz ce sl := zv_if_le F hd ht (fun h => kt (by have h2 := (nI_leI (a := x) (b := 0) (by omega) (by omega)).mp h; omega)) (fun h => kf (Nat.pos_of_ne_zero fun g => h (by subst g; exact (nI_leI (a := 0) (b := 0) (by omega) (by omega)).mpr (Nat.le_refl _))))
theorem zn_b0 {b : Bool} (h : nI b.toNat = 0) : b = false := by
  cases b
  · rfl
  · exact absurd h (by decide)
theorem zn_b1 {b : Bool} (h : ¬ nI b.toNat = 0) : b = true := by
  cases b
  · exact absurd rfl h
  · rfl
theorem zn_bif_eq (F : zv_F Δ Γ own nm cc nL ret R) {off : Int} {tgt : Nat} (hd : decode cc pc = .ok (.ifCond .eq off, 3)) (ht : (pc : Int) + off = (tgt : Int)) (kt : b = false → zv_V Δ Γ Q (tgt) lv (st) hp sz ce sl) (kf : b = true → zv_V Δ Γ Q (pc + 3) lv (st) hp sz ce sl) : zv_V Δ Γ Q (pc) lv (.int (nI b.toNat) :: st) hp sz ce sl := zv_if_eq F hd ht (fun h => kt (zn_b0 h)) (fun h => kf (zn_b1 h))
theorem zn_bif_ne (F : zv_F Δ Γ own nm cc nL ret R) {off : Int} {tgt : Nat} (hd : decode cc pc = .ok (.ifCond .ne off, 3)) (ht : (pc : Int) + off = (tgt : Int)) (kt : b = true → zv_V Δ Γ Q (tgt) lv (st) hp sz ce sl) (kf : b = false → zv_V Δ Γ Q (pc + 3) lv (st) hp sz ce sl) : zv_V Δ Γ Q (pc) lv (.int (nI b.toNat) :: st) hp sz ce sl := zv_if_ne F hd ht (fun h => kt (zn_b1 h)) (fun h => kf (zn_b0 h))
theorem zn_lT (n : Nat) : (lN n).toBitVec.toNat = n % 18446744073709551616 := rfl
theorem zn_linj {a b : Nat} (ha : a < 18446744073709551616) (hb : b < 18446744073709551616) : lN a = lN b ↔ a = b := by
  refine ⟨fun h => ?_, fun h => by rw [h]⟩
  have h2 := congrArg (fun x : Int64 => x.toBitVec.toNat) h
  simp only [zn_lT] at h2
  rw [Nat.mod_eq_of_lt ha, Nat.mod_eq_of_lt hb] at h2
  exact h2
theorem zn_ofL (x : Int64) : ∃ n : Nat, n < 18446744073709551616 ∧ x = lN n := by
  refine ⟨x.toBitVec.toNat, x.toBitVec.isLt, ?_⟩
  apply Int64.toBitVec_inj.mp
  apply BitVec.eq_of_toNat_eq
  rw [zn_lT, Nat.mod_eq_of_lt x.toBitVec.isLt]
theorem zn_lsh : ∀ q, q < 64 → (((nI q).toInt64 &&& 63).toBitVec.smod 64).toNat = q := by decide +kernel
theorem zn_lush : ∀ q, q < 64 → ((nI q).toInt64.toUInt64 &&& Int64.toUInt64 63).toNat % 64 = q := by decide +kernel
theorem zn_shlL (x : Nat) {y : Nat} (hy : y < 64) : lN x <<< ((nI y).toInt64 &&& 63) = lN (x * 2 ^ y) := by
  apply Int64.toBitVec_inj.mp
  apply BitVec.eq_of_toNat_eq
  show ((lN x).toBitVec <<< (((nI y).toInt64 &&& 63).toBitVec.smod 64).toNat).toNat = _
  rw [zn_lsh y hy, BitVec.toNat_shiftLeft, Nat.shiftLeft_eq, zn_lT, zn_lT]
  exact Nat.mod_mul_mod x (2 ^ y) _
theorem zn_ushrL {x y : Nat} (hx : x < 18446744073709551616) (hy : y < 64) : ((lN x).toUInt64 >>> ((nI y).toInt64.toUInt64 &&& Int64.toUInt64 63)).toInt64 = lN (x / 2 ^ y) := by
  apply Int64.toBitVec_inj.mp
  apply BitVec.eq_of_toNat_eq
  show ((lN x).toUInt64 >>> ((nI y).toInt64.toUInt64 &&& Int64.toUInt64 63)).toNat = _
  rw [UInt64.toNat_shiftRight, zn_lush y hy, Nat.shiftRight_eq_div_pow, zn_lT]
  have e : (lN x).toUInt64.toNat = x := by
    show (lN x).toBitVec.toNat = x
    rw [zn_lT, Nat.mod_eq_of_lt hx]
  rw [e, Nat.mod_eq_of_lt (Nat.lt_of_le_of_lt (Nat.div_le_self _ _) hx)]
theorem zn_landL (a b : Nat) : lN a &&& lN b = lN (a &&& b) := by
  apply Int64.toBitVec_inj.mp
  apply BitVec.eq_of_toNat_eq
  simp [lN]
theorem zn_lorL (a b : Nat) : lN a ||| lN b = lN (a ||| b) := by
  apply Int64.toBitVec_inj.mp
  apply BitVec.eq_of_toNat_eq
  simp [lN]
theorem zn_lshl (F : zv_F Δ Γ own nm cc nL ret R) (hd : decode cc pc = .ok (.lshl, 1)) (hy : y < 64) (k : zv_V Δ Γ Q (pc + 1) lv (.long (lN (x * 2 ^ y)) :: st) hp sz ce sl) : zv_V Δ Γ Q pc lv (.int (nI y) :: .long (lN x) :: st) hp sz ce sl :=
  zv_lshl F hd (by rw [zn_shlL x hy]; exact k)
theorem zn_lushr (F : zv_F Δ Γ own nm cc nL ret R) (hd : decode cc pc = .ok (.lushr, 1)) (hx : x < 18446744073709551616) (hy : y < 64) (k : zv_V Δ Γ Q (pc + 1) lv (.long (lN (x / 2 ^ y)) :: st) hp sz ce sl) : zv_V Δ Γ Q pc lv (.int (nI y) :: .long (lN x) :: st) hp sz ce sl :=
  zv_lushr F hd (by rw [zn_ushrL hx hy]; exact k)
theorem zn_land (F : zv_F Δ Γ own nm cc nL ret R) (hd : decode cc pc = .ok (.land, 1)) (k : zv_V Δ Γ Q (pc + 1) lv (.long (lN (x &&& y)) :: st) hp sz ce sl) : zv_V Δ Γ Q pc lv (.long (lN y) :: .long (lN x) :: st) hp sz ce sl :=
  zv_land F hd (by rw [zn_landL]; exact k)
theorem zn_lor (F : zv_F Δ Γ own nm cc nL ret R) (hd : decode cc pc = .ok (.lor, 1)) (k : zv_V Δ Γ Q (pc + 1) lv (.long (lN (x ||| y)) :: st) hp sz ce sl) : zv_V Δ Γ Q pc lv (.long (lN y) :: .long (lN x) :: st) hp sz ce sl :=
  zv_lor F hd (by rw [zn_lorL]; exact k)
theorem zn_lcmp (F : zv_F Δ Γ own nm cc nL ret R) (hd : decode cc pc = .ok (.lcmp, 1)) (hx : x < 18446744073709551616) (hy : y < 18446744073709551616) (k : ∀ w : Nat, w < 4294967296 → (w = 0 ↔ x = y) → zv_V Δ Γ Q (pc + 1) lv (.int (nI w) :: st) hp sz ce sl) : zv_V Δ Γ Q pc lv (.long (lN y) :: .long (lN x) :: st) hp sz ce sl := by
  obtain ⟨w, hw, e⟩ := zn_of (lg_cmp (lN x) (lN y))
  refine zv_lcmp F hd ?_
  rw [e]
  refine k w hw ?_
  have h1 : lg_cmp (lN x) (lN y) = 0 ↔ lN x = lN y := lg_cmp_eq (lN x) (lN y)
  rw [e] at h1
  have h2 : nI w = 0 ↔ w = 0 := zn_inj (b := 0) hw (by decide)
  rw [← h2, h1]
  exact zn_linj hx hy
theorem zn_ldc2 (F : zv_F Δ Γ own nm cc nL ret R) {index : Nat} {v : Int64} (hd : decode cc pc = .ok (.ldc2_w index, 3)) (hc : Cond.constantLong own index v ∈ zp_G) (hv : v = lN x) (k : zv_V Δ Γ Q (pc + 3) lv (.long (lN x) :: st) hp sz ce sl) : zv_V Δ Γ Q pc lv st hp sz ce sl :=
  zv_ldc2 F hd (by rw [← hv]; exact hc) k
theorem zn_alen (F : zv_F Δ Γ own nm cc nL ret R) {a n : Nat} {g : Nat → Nat} (hd : decode cc pc = .ok (.arraylength, 1)) (ha : hp a = some (zn_I Δ n g)) (k : zv_V Δ Γ Q (pc + 1) lv (.int (nI n) :: st) hp sz ce sl) : zv_V Δ Γ Q pc lv (.ref a :: st) hp sz ce sl :=
  zv_alen (t0 := 0) F hd ha rfl rfl k
/-- forgetting locals -/
def zv_le : List (Option Value) → List (Option Value) → Prop
  | [], [] => True
  | none :: l, _ :: l2 => zv_le l l2
  | some v :: l, some w :: l2 => v = w ∧ zv_le l l2
  | _, _ => False
theorem zv_le_len : ∀ {l l2 : List (Option Value)}, zv_le l l2 → l.length = l2.length
  | [], [], _ => rfl
  | none :: l, _ :: l2, h => by simp only [List.length_cons]; rw [zv_le_len (l := l) (l2 := l2) h]
  | some v :: l, some w :: l2, h => by simp only [List.length_cons]; rw [zv_le_len (l := l) (l2 := l2) h.2]
  | [], _ :: _, h => h.elim
  | some _ :: _, [], h => h.elim
  | some _ :: _, none :: _, h => h.elim
  | none :: _, [], h => h.elim
theorem zv_le_at : ∀ {l l2 : List (Option Value)} {i : Nat} {v : Value}, zv_le l l2 → l[i]? = some (some v) → l2[i]? = some (some v)
  | [], [], i, v, _, h => by simp at h
  | none :: l, _ :: l2, 0, v, _, h => by simp at h
  | none :: l, _ :: l2, i + 1, v, h1, h => by
    have h1 : zv_le l l2 := h1
    simpa using zv_le_at (i := i) h1 (by simpa using h)
  | some w :: l, some w2 :: l2, 0, v, h1, h => by
    have e : w = w2 := h1.1
    subst e
    simpa using h
  | some w :: l, some w2 :: l2, i + 1, v, h1, h => by
    have h1 : w = w2 ∧ zv_le l l2 := h1
    simpa using zv_le_at (i := i) h1.2 (by simpa using h)
  | [], _ :: _, _, _, h, _ => h.elim
  | some _ :: _, [], _, _, h, _ => h.elim
  | some _ :: _, none :: _, _, _, h, _ => h.elim
  | none :: _, [], _, _, h, _ => h.elim
theorem zv_weak {lv2 : List (Option Value)} (h : zv_le lv2 lv) (k : zv_V Δ Γ Q pc lv2 st hp sz ce sl) : zv_V Δ Γ Q pc lv st hp sz ce sl := by
  intro H locs ls hH hlo hL
  exact k H locs ls hH hlo ⟨by rw [zv_le_len h]; exact hL.1, hL.2.1, fun i v hi => hL.2.2 i v (zv_le_at h hi)⟩
end ZB
section ZP
variable {Δ : zv_D} {Γ : zv_C} {Q : State → Prop} {own nm : String} {cc : ByteArray} {nL : Nat} {ret : Option FieldType} {R : Room} {pc : Nat} {lv : List (Option Value)} {hp : zv_M} {sz ce sl : Nat}
variable {y : MethodName} {bytes : ByteArray} {maxL d mc ms index b : Nat} {ret1 : Option FieldType} {rest : List Value} {post : Option Value → zv_M → Nat → Prop} {v v1 v2 v3 v4 : Value}
theorem zv_pV0 (F : zv_F Δ Γ own nm cc nL ret R) (hlv : lv.length = nL) {ci N : Nat} {T : u_T} {fs : List Value} (ho : hp b = some (.inr (ci, fs))) (hC : zp_classes[ci]? = some (y.cls, T, N)) (hd : decode cc pc = .ok (.invokevirtual index, 3)) (E : zv_P Γ.2.1 Δ d y bytes maxL ret1 [.ref b] hp sz v) (hy : zv_y y bytes maxL ret1 0) (hi : Cond.instanceMethod y ∈ zp_G) (hse : Cond.selects y.cls y y ∈ zp_G) (hlk : Cond.methodLink own index y ∈ zp_G) (hroom : d + 1 ≤ R.frames ∧ 8 + (maxL + 11) + 39 * d ≤ R.locals) (hrest : (rest.map fun v => v.category).sum ≤ 8) (hf : ce ≤ R.cells ∧ sl ≤ R.slots) (k : zv_V Δ Γ Q (pc + 3) lv (v :: rest) hp sz ce sl) : zv_V Δ Γ Q pc lv (.ref b :: rest) hp sz ce sl :=
  zv_callV (As := []) F hlv ho hC hd E hy hi hse hlk rfl hroom hrest hf (fun r hp1 sz1 q => by obtain ⟨rfl, rfl, rfl⟩ := q; exact k)
theorem zv_mV0 (F : zv_F Δ Γ own nm cc nL ret R) (hlv : lv.length = nL) {ci N : Nat} {T : u_T} {fs : List Value} (ho : hp b = some (.inr (ci, fs))) (hC : zp_classes[ci]? = some (y.cls, T, N)) (hd : decode cc pc = .ok (.invokevirtual index, 3)) (E : zv_E Γ.2.1 Δ d y bytes maxL ret1 [.ref b] hp sz mc ms post) (hy : zv_y y bytes maxL ret1 0) (hi : Cond.instanceMethod y ∈ zp_G) (hse : Cond.selects y.cls y y ∈ zp_G) (hlk : Cond.methodLink own index y ∈ zp_G) (hroom : d + 1 ≤ R.frames ∧ 8 + (maxL + 11) + 39 * d ≤ R.locals) (hrest : (rest.map fun v => v.category).sum ≤ 8) (hf : ce + mc ≤ R.cells ∧ sl + ms ≤ R.slots) (k : ∀ (r : Option Value) (hp1 : zv_M) (sz1 : Nat), post r hp1 sz1 → zv_V Δ Γ Q (pc + 3) lv (r.toList ++ rest) hp1 sz1 (ce + mc) (sl + ms)) : zv_V Δ Γ Q pc lv (.ref b :: rest) hp sz ce sl :=
  zv_callV (As := []) F hlv ho hC hd E hy hi hse hlk rfl hroom hrest hf k
theorem zv_pVN0 (F : zv_F Δ Γ own nm cc nL ret R) (hlv : lv.length = nL) {ci N : Nat} {T : u_T} {fs : List Value} (ho : hp b = some (.inr (ci, fs))) (hC : zp_classes[ci]? = some (y.cls, T, N)) (hd : decode cc pc = .ok (.invokevirtual index, 3)) (E : zv_P Γ.2.1 Δ d y bytes maxL ret1 [.ref b] hp sz v) (hy : zv_y y bytes maxL ret1 0) (hi : Cond.instanceMethod y ∈ zp_G) (hse : Cond.selects y.cls y y ∈ zp_G) {host : String} (hlk : Cond.methodLinkNest own index y host ∈ zp_N) (hroom : d + 1 ≤ R.frames ∧ 8 + (maxL + 11) + 39 * d ≤ R.locals) (hrest : (rest.map fun v => v.category).sum ≤ 8) (hf : ce ≤ R.cells ∧ sl ≤ R.slots) (k : zv_V Δ Γ Q (pc + 3) lv (v :: rest) hp sz ce sl) : zv_V Δ Γ Q pc lv (.ref b :: rest) hp sz ce sl :=
  zv_callVN (As := []) F hlv ho hC hd E hy hi hse hlk rfl hroom hrest hf (fun r hp1 sz1 q => by obtain ⟨rfl, rfl, rfl⟩ := q; exact k)
theorem zv_mVN0 (F : zv_F Δ Γ own nm cc nL ret R) (hlv : lv.length = nL) {ci N : Nat} {T : u_T} {fs : List Value} (ho : hp b = some (.inr (ci, fs))) (hC : zp_classes[ci]? = some (y.cls, T, N)) (hd : decode cc pc = .ok (.invokevirtual index, 3)) (E : zv_E Γ.2.1 Δ d y bytes maxL ret1 [.ref b] hp sz mc ms post) (hy : zv_y y bytes maxL ret1 0) (hi : Cond.instanceMethod y ∈ zp_G) (hse : Cond.selects y.cls y y ∈ zp_G) {host : String} (hlk : Cond.methodLinkNest own index y host ∈ zp_N) (hroom : d + 1 ≤ R.frames ∧ 8 + (maxL + 11) + 39 * d ≤ R.locals) (hrest : (rest.map fun v => v.category).sum ≤ 8) (hf : ce + mc ≤ R.cells ∧ sl + ms ≤ R.slots) (k : ∀ (r : Option Value) (hp1 : zv_M) (sz1 : Nat), post r hp1 sz1 → zv_V Δ Γ Q (pc + 3) lv (r.toList ++ rest) hp1 sz1 (ce + mc) (sl + ms)) : zv_V Δ Γ Q pc lv (.ref b :: rest) hp sz ce sl :=
  zv_callVN (As := []) F hlv ho hC hd E hy hi hse hlk rfl hroom hrest hf k
theorem zv_pV1 (F : zv_F Δ Γ own nm cc nL ret R) (hlv : lv.length = nL) {ci N : Nat} {T : u_T} {fs : List Value} (ho : hp b = some (.inr (ci, fs))) (hC : zp_classes[ci]? = some (y.cls, T, N)) (hd : decode cc pc = .ok (.invokevirtual index, 3)) (E : zv_P Γ.2.1 Δ d y bytes maxL ret1 [.ref b, v1] hp sz v) (hy : zv_y y bytes maxL ret1 1) (hi : Cond.instanceMethod y ∈ zp_G) (hse : Cond.selects y.cls y y ∈ zp_G) (hlk : Cond.methodLink own index y ∈ zp_G) (hroom : d + 1 ≤ R.frames ∧ 8 + (maxL + 11) + 39 * d ≤ R.locals) (hrest : (rest.map fun v => v.category).sum ≤ 8) (hf : ce ≤ R.cells ∧ sl ≤ R.slots) (k : zv_V Δ Γ Q (pc + 3) lv (v :: rest) hp sz ce sl) : zv_V Δ Γ Q pc lv (v1 :: .ref b :: rest) hp sz ce sl :=
  zv_callV (As := [v1]) F hlv ho hC hd E hy hi hse hlk rfl hroom hrest hf (fun r hp1 sz1 q => by obtain ⟨rfl, rfl, rfl⟩ := q; exact k)
theorem zv_mV1 (F : zv_F Δ Γ own nm cc nL ret R) (hlv : lv.length = nL) {ci N : Nat} {T : u_T} {fs : List Value} (ho : hp b = some (.inr (ci, fs))) (hC : zp_classes[ci]? = some (y.cls, T, N)) (hd : decode cc pc = .ok (.invokevirtual index, 3)) (E : zv_E Γ.2.1 Δ d y bytes maxL ret1 [.ref b, v1] hp sz mc ms post) (hy : zv_y y bytes maxL ret1 1) (hi : Cond.instanceMethod y ∈ zp_G) (hse : Cond.selects y.cls y y ∈ zp_G) (hlk : Cond.methodLink own index y ∈ zp_G) (hroom : d + 1 ≤ R.frames ∧ 8 + (maxL + 11) + 39 * d ≤ R.locals) (hrest : (rest.map fun v => v.category).sum ≤ 8) (hf : ce + mc ≤ R.cells ∧ sl + ms ≤ R.slots) (k : ∀ (r : Option Value) (hp1 : zv_M) (sz1 : Nat), post r hp1 sz1 → zv_V Δ Γ Q (pc + 3) lv (r.toList ++ rest) hp1 sz1 (ce + mc) (sl + ms)) : zv_V Δ Γ Q pc lv (v1 :: .ref b :: rest) hp sz ce sl :=
  zv_callV (As := [v1]) F hlv ho hC hd E hy hi hse hlk rfl hroom hrest hf k
theorem zv_pVN1 (F : zv_F Δ Γ own nm cc nL ret R) (hlv : lv.length = nL) {ci N : Nat} {T : u_T} {fs : List Value} (ho : hp b = some (.inr (ci, fs))) (hC : zp_classes[ci]? = some (y.cls, T, N)) (hd : decode cc pc = .ok (.invokevirtual index, 3)) (E : zv_P Γ.2.1 Δ d y bytes maxL ret1 [.ref b, v1] hp sz v) (hy : zv_y y bytes maxL ret1 1) (hi : Cond.instanceMethod y ∈ zp_G) (hse : Cond.selects y.cls y y ∈ zp_G) {host : String} (hlk : Cond.methodLinkNest own index y host ∈ zp_N) (hroom : d + 1 ≤ R.frames ∧ 8 + (maxL + 11) + 39 * d ≤ R.locals) (hrest : (rest.map fun v => v.category).sum ≤ 8) (hf : ce ≤ R.cells ∧ sl ≤ R.slots) (k : zv_V Δ Γ Q (pc + 3) lv (v :: rest) hp sz ce sl) : zv_V Δ Γ Q pc lv (v1 :: .ref b :: rest) hp sz ce sl :=
  zv_callVN (As := [v1]) F hlv ho hC hd E hy hi hse hlk rfl hroom hrest hf (fun r hp1 sz1 q => by obtain ⟨rfl, rfl, rfl⟩ := q; exact k)
theorem zv_mVN1 (F : zv_F Δ Γ own nm cc nL ret R) (hlv : lv.length = nL) {ci N : Nat} {T : u_T} {fs : List Value} (ho : hp b = some (.inr (ci, fs))) (hC : zp_classes[ci]? = some (y.cls, T, N)) (hd : decode cc pc = .ok (.invokevirtual index, 3)) (E : zv_E Γ.2.1 Δ d y bytes maxL ret1 [.ref b, v1] hp sz mc ms post) (hy : zv_y y bytes maxL ret1 1) (hi : Cond.instanceMethod y ∈ zp_G) (hse : Cond.selects y.cls y y ∈ zp_G) {host : String} (hlk : Cond.methodLinkNest own index y host ∈ zp_N) (hroom : d + 1 ≤ R.frames ∧ 8 + (maxL + 11) + 39 * d ≤ R.locals) (hrest : (rest.map fun v => v.category).sum ≤ 8) (hf : ce + mc ≤ R.cells ∧ sl + ms ≤ R.slots) (k : ∀ (r : Option Value) (hp1 : zv_M) (sz1 : Nat), post r hp1 sz1 → zv_V Δ Γ Q (pc + 3) lv (r.toList ++ rest) hp1 sz1 (ce + mc) (sl + ms)) : zv_V Δ Γ Q pc lv (v1 :: .ref b :: rest) hp sz ce sl :=
  zv_callVN (As := [v1]) F hlv ho hC hd E hy hi hse hlk rfl hroom hrest hf k
theorem zv_pV2 (F : zv_F Δ Γ own nm cc nL ret R) (hlv : lv.length = nL) {ci N : Nat} {T : u_T} {fs : List Value} (ho : hp b = some (.inr (ci, fs))) (hC : zp_classes[ci]? = some (y.cls, T, N)) (hd : decode cc pc = .ok (.invokevirtual index, 3)) (E : zv_P Γ.2.1 Δ d y bytes maxL ret1 [.ref b, v1, v2] hp sz v) (hy : zv_y y bytes maxL ret1 2) (hi : Cond.instanceMethod y ∈ zp_G) (hse : Cond.selects y.cls y y ∈ zp_G) (hlk : Cond.methodLink own index y ∈ zp_G) (hroom : d + 1 ≤ R.frames ∧ 8 + (maxL + 11) + 39 * d ≤ R.locals) (hrest : (rest.map fun v => v.category).sum ≤ 8) (hf : ce ≤ R.cells ∧ sl ≤ R.slots) (k : zv_V Δ Γ Q (pc + 3) lv (v :: rest) hp sz ce sl) : zv_V Δ Γ Q pc lv (v2 :: v1 :: .ref b :: rest) hp sz ce sl :=
  zv_callV (As := [v1, v2]) F hlv ho hC hd E hy hi hse hlk rfl hroom hrest hf (fun r hp1 sz1 q => by obtain ⟨rfl, rfl, rfl⟩ := q; exact k)
theorem zv_mV2 (F : zv_F Δ Γ own nm cc nL ret R) (hlv : lv.length = nL) {ci N : Nat} {T : u_T} {fs : List Value} (ho : hp b = some (.inr (ci, fs))) (hC : zp_classes[ci]? = some (y.cls, T, N)) (hd : decode cc pc = .ok (.invokevirtual index, 3)) (E : zv_E Γ.2.1 Δ d y bytes maxL ret1 [.ref b, v1, v2] hp sz mc ms post) (hy : zv_y y bytes maxL ret1 2) (hi : Cond.instanceMethod y ∈ zp_G) (hse : Cond.selects y.cls y y ∈ zp_G) (hlk : Cond.methodLink own index y ∈ zp_G) (hroom : d + 1 ≤ R.frames ∧ 8 + (maxL + 11) + 39 * d ≤ R.locals) (hrest : (rest.map fun v => v.category).sum ≤ 8) (hf : ce + mc ≤ R.cells ∧ sl + ms ≤ R.slots) (k : ∀ (r : Option Value) (hp1 : zv_M) (sz1 : Nat), post r hp1 sz1 → zv_V Δ Γ Q (pc + 3) lv (r.toList ++ rest) hp1 sz1 (ce + mc) (sl + ms)) : zv_V Δ Γ Q pc lv (v2 :: v1 :: .ref b :: rest) hp sz ce sl :=
  zv_callV (As := [v1, v2]) F hlv ho hC hd E hy hi hse hlk rfl hroom hrest hf k
theorem zv_pVN2 (F : zv_F Δ Γ own nm cc nL ret R) (hlv : lv.length = nL) {ci N : Nat} {T : u_T} {fs : List Value} (ho : hp b = some (.inr (ci, fs))) (hC : zp_classes[ci]? = some (y.cls, T, N)) (hd : decode cc pc = .ok (.invokevirtual index, 3)) (E : zv_P Γ.2.1 Δ d y bytes maxL ret1 [.ref b, v1, v2] hp sz v) (hy : zv_y y bytes maxL ret1 2) (hi : Cond.instanceMethod y ∈ zp_G) (hse : Cond.selects y.cls y y ∈ zp_G) {host : String} (hlk : Cond.methodLinkNest own index y host ∈ zp_N) (hroom : d + 1 ≤ R.frames ∧ 8 + (maxL + 11) + 39 * d ≤ R.locals) (hrest : (rest.map fun v => v.category).sum ≤ 8) (hf : ce ≤ R.cells ∧ sl ≤ R.slots) (k : zv_V Δ Γ Q (pc + 3) lv (v :: rest) hp sz ce sl) : zv_V Δ Γ Q pc lv (v2 :: v1 :: .ref b :: rest) hp sz ce sl :=
  zv_callVN (As := [v1, v2]) F hlv ho hC hd E hy hi hse hlk rfl hroom hrest hf (fun r hp1 sz1 q => by obtain ⟨rfl, rfl, rfl⟩ := q; exact k)
theorem zv_mVN2 (F : zv_F Δ Γ own nm cc nL ret R) (hlv : lv.length = nL) {ci N : Nat} {T : u_T} {fs : List Value} (ho : hp b = some (.inr (ci, fs))) (hC : zp_classes[ci]? = some (y.cls, T, N)) (hd : decode cc pc = .ok (.invokevirtual index, 3)) (E : zv_E Γ.2.1 Δ d y bytes maxL ret1 [.ref b, v1, v2] hp sz mc ms post) (hy : zv_y y bytes maxL ret1 2) (hi : Cond.instanceMethod y ∈ zp_G) (hse : Cond.selects y.cls y y ∈ zp_G) {host : String} (hlk : Cond.methodLinkNest own index y host ∈ zp_N) (hroom : d + 1 ≤ R.frames ∧ 8 + (maxL + 11) + 39 * d ≤ R.locals) (hrest : (rest.map fun v => v.category).sum ≤ 8) (hf : ce + mc ≤ R.cells ∧ sl + ms ≤ R.slots) (k : ∀ (r : Option Value) (hp1 : zv_M) (sz1 : Nat), post r hp1 sz1 → zv_V Δ Γ Q (pc + 3) lv (r.toList ++ rest) hp1 sz1 (ce + mc) (sl + ms)) : zv_V Δ Γ Q pc lv (v2 :: v1 :: .ref b :: rest) hp sz ce sl :=
  zv_callVN (As := [v1, v2]) F hlv ho hC hd E hy hi hse hlk rfl hroom hrest hf k
theorem zv_pV3 (F : zv_F Δ Γ own nm cc nL ret R) (hlv : lv.length = nL) {ci N : Nat} {T : u_T} {fs : List Value} (ho : hp b = some (.inr (ci, fs))) (hC : zp_classes[ci]? = some (y.cls, T, N)) (hd : decode cc pc = .ok (.invokevirtual index, 3)) (E : zv_P Γ.2.1 Δ d y bytes maxL ret1 [.ref b, v1, v2, v3] hp sz v) (hy : zv_y y bytes maxL ret1 3) (hi : Cond.instanceMethod y ∈ zp_G) (hse : Cond.selects y.cls y y ∈ zp_G) (hlk : Cond.methodLink own index y ∈ zp_G) (hroom : d + 1 ≤ R.frames ∧ 8 + (maxL + 11) + 39 * d ≤ R.locals) (hrest : (rest.map fun v => v.category).sum ≤ 8) (hf : ce ≤ R.cells ∧ sl ≤ R.slots) (k : zv_V Δ Γ Q (pc + 3) lv (v :: rest) hp sz ce sl) : zv_V Δ Γ Q pc lv (v3 :: v2 :: v1 :: .ref b :: rest) hp sz ce sl :=
  zv_callV (As := [v1, v2, v3]) F hlv ho hC hd E hy hi hse hlk rfl hroom hrest hf (fun r hp1 sz1 q => by obtain ⟨rfl, rfl, rfl⟩ := q; exact k)
theorem zv_mV3 (F : zv_F Δ Γ own nm cc nL ret R) (hlv : lv.length = nL) {ci N : Nat} {T : u_T} {fs : List Value} (ho : hp b = some (.inr (ci, fs))) (hC : zp_classes[ci]? = some (y.cls, T, N)) (hd : decode cc pc = .ok (.invokevirtual index, 3)) (E : zv_E Γ.2.1 Δ d y bytes maxL ret1 [.ref b, v1, v2, v3] hp sz mc ms post) (hy : zv_y y bytes maxL ret1 3) (hi : Cond.instanceMethod y ∈ zp_G) (hse : Cond.selects y.cls y y ∈ zp_G) (hlk : Cond.methodLink own index y ∈ zp_G) (hroom : d + 1 ≤ R.frames ∧ 8 + (maxL + 11) + 39 * d ≤ R.locals) (hrest : (rest.map fun v => v.category).sum ≤ 8) (hf : ce + mc ≤ R.cells ∧ sl + ms ≤ R.slots) (k : ∀ (r : Option Value) (hp1 : zv_M) (sz1 : Nat), post r hp1 sz1 → zv_V Δ Γ Q (pc + 3) lv (r.toList ++ rest) hp1 sz1 (ce + mc) (sl + ms)) : zv_V Δ Γ Q pc lv (v3 :: v2 :: v1 :: .ref b :: rest) hp sz ce sl :=
  zv_callV (As := [v1, v2, v3]) F hlv ho hC hd E hy hi hse hlk rfl hroom hrest hf k
theorem zv_pVN3 (F : zv_F Δ Γ own nm cc nL ret R) (hlv : lv.length = nL) {ci N : Nat} {T : u_T} {fs : List Value} (ho : hp b = some (.inr (ci, fs))) (hC : zp_classes[ci]? = some (y.cls, T, N)) (hd : decode cc pc = .ok (.invokevirtual index, 3)) (E : zv_P Γ.2.1 Δ d y bytes maxL ret1 [.ref b, v1, v2, v3] hp sz v) (hy : zv_y y bytes maxL ret1 3) (hi : Cond.instanceMethod y ∈ zp_G) (hse : Cond.selects y.cls y y ∈ zp_G) {host : String} (hlk : Cond.methodLinkNest own index y host ∈ zp_N) (hroom : d + 1 ≤ R.frames ∧ 8 + (maxL + 11) + 39 * d ≤ R.locals) (hrest : (rest.map fun v => v.category).sum ≤ 8) (hf : ce ≤ R.cells ∧ sl ≤ R.slots) (k : zv_V Δ Γ Q (pc + 3) lv (v :: rest) hp sz ce sl) : zv_V Δ Γ Q pc lv (v3 :: v2 :: v1 :: .ref b :: rest) hp sz ce sl :=
  zv_callVN (As := [v1, v2, v3]) F hlv ho hC hd E hy hi hse hlk rfl hroom hrest hf (fun r hp1 sz1 q => by obtain ⟨rfl, rfl, rfl⟩ := q; exact k)
theorem zv_mVN3 (F : zv_F Δ Γ own nm cc nL ret R) (hlv : lv.length = nL) {ci N : Nat} {T : u_T} {fs : List Value} (ho : hp b = some (.inr (ci, fs))) (hC : zp_classes[ci]? = some (y.cls, T, N)) (hd : decode cc pc = .ok (.invokevirtual index, 3)) (E : zv_E Γ.2.1 Δ d y bytes maxL ret1 [.ref b, v1, v2, v3] hp sz mc ms post) (hy : zv_y y bytes maxL ret1 3) (hi : Cond.instanceMethod y ∈ zp_G) (hse : Cond.selects y.cls y y ∈ zp_G) {host : String} (hlk : Cond.methodLinkNest own index y host ∈ zp_N) (hroom : d + 1 ≤ R.frames ∧ 8 + (maxL + 11) + 39 * d ≤ R.locals) (hrest : (rest.map fun v => v.category).sum ≤ 8) (hf : ce + mc ≤ R.cells ∧ sl + ms ≤ R.slots) (k : ∀ (r : Option Value) (hp1 : zv_M) (sz1 : Nat), post r hp1 sz1 → zv_V Δ Γ Q (pc + 3) lv (r.toList ++ rest) hp1 sz1 (ce + mc) (sl + ms)) : zv_V Δ Γ Q pc lv (v3 :: v2 :: v1 :: .ref b :: rest) hp sz ce sl :=
  zv_callVN (As := [v1, v2, v3]) F hlv ho hC hd E hy hi hse hlk rfl hroom hrest hf k
theorem zv_pS0 (F : zv_F Δ Γ own nm cc nL ret R) (hlv : lv.length = nL) (hd : decode cc pc = .ok (.invokestatic index, 3)) (E : zv_P Γ.2.1 Δ d y bytes maxL ret1 [] hp sz v) (hy : zv_y y bytes maxL ret1 0) (hi : Cond.static y ∈ zp_G) (hlk : Cond.methodLink own index y ∈ zp_G) (hroom : d + 1 ≤ R.frames ∧ 8 + (maxL + 11) + 39 * d ≤ R.locals) (hrest : (rest.map fun v => v.category).sum ≤ 8) (hf : ce ≤ R.cells ∧ sl ≤ R.slots) (k : zv_V Δ Γ Q (pc + 3) lv (v :: rest) hp sz ce sl) : zv_V Δ Γ Q pc lv (rest) hp sz ce sl :=
  zv_callS (As := []) F hlv hd E hy hi hlk rfl hroom hrest hf (fun r hp1 sz1 q => by obtain ⟨rfl, rfl, rfl⟩ := q; exact k)
theorem zv_mS0 (F : zv_F Δ Γ own nm cc nL ret R) (hlv : lv.length = nL) (hd : decode cc pc = .ok (.invokestatic index, 3)) (E : zv_E Γ.2.1 Δ d y bytes maxL ret1 [] hp sz mc ms post) (hy : zv_y y bytes maxL ret1 0) (hi : Cond.static y ∈ zp_G) (hlk : Cond.methodLink own index y ∈ zp_G) (hroom : d + 1 ≤ R.frames ∧ 8 + (maxL + 11) + 39 * d ≤ R.locals) (hrest : (rest.map fun v => v.category).sum ≤ 8) (hf : ce + mc ≤ R.cells ∧ sl + ms ≤ R.slots) (k : ∀ (r : Option Value) (hp1 : zv_M) (sz1 : Nat), post r hp1 sz1 → zv_V Δ Γ Q (pc + 3) lv (r.toList ++ rest) hp1 sz1 (ce + mc) (sl + ms)) : zv_V Δ Γ Q pc lv (rest) hp sz ce sl :=
  zv_callS (As := []) F hlv hd E hy hi hlk rfl hroom hrest hf k
theorem zv_pS1 (F : zv_F Δ Γ own nm cc nL ret R) (hlv : lv.length = nL) (hd : decode cc pc = .ok (.invokestatic index, 3)) (E : zv_P Γ.2.1 Δ d y bytes maxL ret1 [v1] hp sz v) (hy : zv_y y bytes maxL ret1 1) (hi : Cond.static y ∈ zp_G) (hlk : Cond.methodLink own index y ∈ zp_G) (hroom : d + 1 ≤ R.frames ∧ 8 + (maxL + 11) + 39 * d ≤ R.locals) (hrest : (rest.map fun v => v.category).sum ≤ 8) (hf : ce ≤ R.cells ∧ sl ≤ R.slots) (k : zv_V Δ Γ Q (pc + 3) lv (v :: rest) hp sz ce sl) : zv_V Δ Γ Q pc lv (v1 :: rest) hp sz ce sl :=
  zv_callS (As := [v1]) F hlv hd E hy hi hlk rfl hroom hrest hf (fun r hp1 sz1 q => by obtain ⟨rfl, rfl, rfl⟩ := q; exact k)
theorem zv_mS1 (F : zv_F Δ Γ own nm cc nL ret R) (hlv : lv.length = nL) (hd : decode cc pc = .ok (.invokestatic index, 3)) (E : zv_E Γ.2.1 Δ d y bytes maxL ret1 [v1] hp sz mc ms post) (hy : zv_y y bytes maxL ret1 1) (hi : Cond.static y ∈ zp_G) (hlk : Cond.methodLink own index y ∈ zp_G) (hroom : d + 1 ≤ R.frames ∧ 8 + (maxL + 11) + 39 * d ≤ R.locals) (hrest : (rest.map fun v => v.category).sum ≤ 8) (hf : ce + mc ≤ R.cells ∧ sl + ms ≤ R.slots) (k : ∀ (r : Option Value) (hp1 : zv_M) (sz1 : Nat), post r hp1 sz1 → zv_V Δ Γ Q (pc + 3) lv (r.toList ++ rest) hp1 sz1 (ce + mc) (sl + ms)) : zv_V Δ Γ Q pc lv (v1 :: rest) hp sz ce sl :=
  zv_callS (As := [v1]) F hlv hd E hy hi hlk rfl hroom hrest hf k
theorem zv_pS2 (F : zv_F Δ Γ own nm cc nL ret R) (hlv : lv.length = nL) (hd : decode cc pc = .ok (.invokestatic index, 3)) (E : zv_P Γ.2.1 Δ d y bytes maxL ret1 [v1, v2] hp sz v) (hy : zv_y y bytes maxL ret1 2) (hi : Cond.static y ∈ zp_G) (hlk : Cond.methodLink own index y ∈ zp_G) (hroom : d + 1 ≤ R.frames ∧ 8 + (maxL + 11) + 39 * d ≤ R.locals) (hrest : (rest.map fun v => v.category).sum ≤ 8) (hf : ce ≤ R.cells ∧ sl ≤ R.slots) (k : zv_V Δ Γ Q (pc + 3) lv (v :: rest) hp sz ce sl) : zv_V Δ Γ Q pc lv (v2 :: v1 :: rest) hp sz ce sl :=
  zv_callS (As := [v1, v2]) F hlv hd E hy hi hlk rfl hroom hrest hf (fun r hp1 sz1 q => by obtain ⟨rfl, rfl, rfl⟩ := q; exact k)
theorem zv_mS2 (F : zv_F Δ Γ own nm cc nL ret R) (hlv : lv.length = nL) (hd : decode cc pc = .ok (.invokestatic index, 3)) (E : zv_E Γ.2.1 Δ d y bytes maxL ret1 [v1, v2] hp sz mc ms post) (hy : zv_y y bytes maxL ret1 2) (hi : Cond.static y ∈ zp_G) (hlk : Cond.methodLink own index y ∈ zp_G) (hroom : d + 1 ≤ R.frames ∧ 8 + (maxL + 11) + 39 * d ≤ R.locals) (hrest : (rest.map fun v => v.category).sum ≤ 8) (hf : ce + mc ≤ R.cells ∧ sl + ms ≤ R.slots) (k : ∀ (r : Option Value) (hp1 : zv_M) (sz1 : Nat), post r hp1 sz1 → zv_V Δ Γ Q (pc + 3) lv (r.toList ++ rest) hp1 sz1 (ce + mc) (sl + ms)) : zv_V Δ Γ Q pc lv (v2 :: v1 :: rest) hp sz ce sl :=
  zv_callS (As := [v1, v2]) F hlv hd E hy hi hlk rfl hroom hrest hf k
theorem zv_mI0 (F : zv_F Δ Γ own nm cc nL ret R) (hlv : lv.length = nL) (hd : decode cc pc = .ok (.invokespecial index, 3)) (E : zv_E Γ.2.1 Δ d y bytes maxL none [.ref b] hp sz mc ms post) (hy : zv_y y bytes maxL none 0) (hi : Cond.instanceMethod y ∈ zp_G) (hin : y.name = "<init>") (hlk : Cond.methodLink own index y ∈ zp_G) (hroom : d + 1 ≤ R.frames ∧ 8 + (maxL + 11) + 39 * d ≤ R.locals) (hrest : (rest.map fun v => v.category).sum ≤ 8) (hf : ce + mc ≤ R.cells ∧ sl + ms ≤ R.slots) (k : ∀ (r : Option Value) (hp1 : zv_M) (sz1 : Nat), post r hp1 sz1 → zv_V Δ Γ Q (pc + 3) lv (r.toList ++ rest) hp1 sz1 (ce + mc) (sl + ms)) : zv_V Δ Γ Q pc lv (.ref b :: rest) hp sz ce sl :=
  zv_callI (As := []) F hlv hd E hy hi hin hlk rfl hroom hrest hf k
theorem zv_mIN0 (F : zv_F Δ Γ own nm cc nL ret R) (hlv : lv.length = nL) (hd : decode cc pc = .ok (.invokespecial index, 3)) (E : zv_E Γ.2.1 Δ d y bytes maxL none [.ref b] hp sz mc ms post) (hy : zv_y y bytes maxL none 0) (hi : Cond.instanceMethod y ∈ zp_G) (hin : y.name = "<init>") {host : String} (hlk : Cond.methodLinkNest own index y host ∈ zp_N) (hroom : d + 1 ≤ R.frames ∧ 8 + (maxL + 11) + 39 * d ≤ R.locals) (hrest : (rest.map fun v => v.category).sum ≤ 8) (hf : ce + mc ≤ R.cells ∧ sl + ms ≤ R.slots) (k : ∀ (r : Option Value) (hp1 : zv_M) (sz1 : Nat), post r hp1 sz1 → zv_V Δ Γ Q (pc + 3) lv (r.toList ++ rest) hp1 sz1 (ce + mc) (sl + ms)) : zv_V Δ Γ Q pc lv (.ref b :: rest) hp sz ce sl :=
  zv_callIN (As := []) F hlv hd E hy hi hin hlk rfl hroom hrest hf k
theorem zv_mI1 (F : zv_F Δ Γ own nm cc nL ret R) (hlv : lv.length = nL) (hd : decode cc pc = .ok (.invokespecial index, 3)) (E : zv_E Γ.2.1 Δ d y bytes maxL none [.ref b, v1] hp sz mc ms post) (hy : zv_y y bytes maxL none 1) (hi : Cond.instanceMethod y ∈ zp_G) (hin : y.name = "<init>") (hlk : Cond.methodLink own index y ∈ zp_G) (hroom : d + 1 ≤ R.frames ∧ 8 + (maxL + 11) + 39 * d ≤ R.locals) (hrest : (rest.map fun v => v.category).sum ≤ 8) (hf : ce + mc ≤ R.cells ∧ sl + ms ≤ R.slots) (k : ∀ (r : Option Value) (hp1 : zv_M) (sz1 : Nat), post r hp1 sz1 → zv_V Δ Γ Q (pc + 3) lv (r.toList ++ rest) hp1 sz1 (ce + mc) (sl + ms)) : zv_V Δ Γ Q pc lv (v1 :: .ref b :: rest) hp sz ce sl :=
  zv_callI (As := [v1]) F hlv hd E hy hi hin hlk rfl hroom hrest hf k
theorem zv_mIN1 (F : zv_F Δ Γ own nm cc nL ret R) (hlv : lv.length = nL) (hd : decode cc pc = .ok (.invokespecial index, 3)) (E : zv_E Γ.2.1 Δ d y bytes maxL none [.ref b, v1] hp sz mc ms post) (hy : zv_y y bytes maxL none 1) (hi : Cond.instanceMethod y ∈ zp_G) (hin : y.name = "<init>") {host : String} (hlk : Cond.methodLinkNest own index y host ∈ zp_N) (hroom : d + 1 ≤ R.frames ∧ 8 + (maxL + 11) + 39 * d ≤ R.locals) (hrest : (rest.map fun v => v.category).sum ≤ 8) (hf : ce + mc ≤ R.cells ∧ sl + ms ≤ R.slots) (k : ∀ (r : Option Value) (hp1 : zv_M) (sz1 : Nat), post r hp1 sz1 → zv_V Δ Γ Q (pc + 3) lv (r.toList ++ rest) hp1 sz1 (ce + mc) (sl + ms)) : zv_V Δ Γ Q pc lv (v1 :: .ref b :: rest) hp sz ce sl :=
  zv_callIN (As := [v1]) F hlv hd E hy hi hin hlk rfl hroom hrest hf k
theorem zv_mI2 (F : zv_F Δ Γ own nm cc nL ret R) (hlv : lv.length = nL) (hd : decode cc pc = .ok (.invokespecial index, 3)) (E : zv_E Γ.2.1 Δ d y bytes maxL none [.ref b, v1, v2] hp sz mc ms post) (hy : zv_y y bytes maxL none 2) (hi : Cond.instanceMethod y ∈ zp_G) (hin : y.name = "<init>") (hlk : Cond.methodLink own index y ∈ zp_G) (hroom : d + 1 ≤ R.frames ∧ 8 + (maxL + 11) + 39 * d ≤ R.locals) (hrest : (rest.map fun v => v.category).sum ≤ 8) (hf : ce + mc ≤ R.cells ∧ sl + ms ≤ R.slots) (k : ∀ (r : Option Value) (hp1 : zv_M) (sz1 : Nat), post r hp1 sz1 → zv_V Δ Γ Q (pc + 3) lv (r.toList ++ rest) hp1 sz1 (ce + mc) (sl + ms)) : zv_V Δ Γ Q pc lv (v2 :: v1 :: .ref b :: rest) hp sz ce sl :=
  zv_callI (As := [v1, v2]) F hlv hd E hy hi hin hlk rfl hroom hrest hf k
theorem zv_mIN2 (F : zv_F Δ Γ own nm cc nL ret R) (hlv : lv.length = nL) (hd : decode cc pc = .ok (.invokespecial index, 3)) (E : zv_E Γ.2.1 Δ d y bytes maxL none [.ref b, v1, v2] hp sz mc ms post) (hy : zv_y y bytes maxL none 2) (hi : Cond.instanceMethod y ∈ zp_G) (hin : y.name = "<init>") {host : String} (hlk : Cond.methodLinkNest own index y host ∈ zp_N) (hroom : d + 1 ≤ R.frames ∧ 8 + (maxL + 11) + 39 * d ≤ R.locals) (hrest : (rest.map fun v => v.category).sum ≤ 8) (hf : ce + mc ≤ R.cells ∧ sl + ms ≤ R.slots) (k : ∀ (r : Option Value) (hp1 : zv_M) (sz1 : Nat), post r hp1 sz1 → zv_V Δ Γ Q (pc + 3) lv (r.toList ++ rest) hp1 sz1 (ce + mc) (sl + ms)) : zv_V Δ Γ Q pc lv (v2 :: v1 :: .ref b :: rest) hp sz ce sl :=
  zv_callIN (As := [v1, v2]) F hlv hd E hy hi hin hlk rfl hroom hrest hf k
theorem zv_mI3 (F : zv_F Δ Γ own nm cc nL ret R) (hlv : lv.length = nL) (hd : decode cc pc = .ok (.invokespecial index, 3)) (E : zv_E Γ.2.1 Δ d y bytes maxL none [.ref b, v1, v2, v3] hp sz mc ms post) (hy : zv_y y bytes maxL none 3) (hi : Cond.instanceMethod y ∈ zp_G) (hin : y.name = "<init>") (hlk : Cond.methodLink own index y ∈ zp_G) (hroom : d + 1 ≤ R.frames ∧ 8 + (maxL + 11) + 39 * d ≤ R.locals) (hrest : (rest.map fun v => v.category).sum ≤ 8) (hf : ce + mc ≤ R.cells ∧ sl + ms ≤ R.slots) (k : ∀ (r : Option Value) (hp1 : zv_M) (sz1 : Nat), post r hp1 sz1 → zv_V Δ Γ Q (pc + 3) lv (r.toList ++ rest) hp1 sz1 (ce + mc) (sl + ms)) : zv_V Δ Γ Q pc lv (v3 :: v2 :: v1 :: .ref b :: rest) hp sz ce sl :=
  zv_callI (As := [v1, v2, v3]) F hlv hd E hy hi hin hlk rfl hroom hrest hf k
theorem zv_mIN3 (F : zv_F Δ Γ own nm cc nL ret R) (hlv : lv.length = nL) (hd : decode cc pc = .ok (.invokespecial index, 3)) (E : zv_E Γ.2.1 Δ d y bytes maxL none [.ref b, v1, v2, v3] hp sz mc ms post) (hy : zv_y y bytes maxL none 3) (hi : Cond.instanceMethod y ∈ zp_G) (hin : y.name = "<init>") {host : String} (hlk : Cond.methodLinkNest own index y host ∈ zp_N) (hroom : d + 1 ≤ R.frames ∧ 8 + (maxL + 11) + 39 * d ≤ R.locals) (hrest : (rest.map fun v => v.category).sum ≤ 8) (hf : ce + mc ≤ R.cells ∧ sl + ms ≤ R.slots) (k : ∀ (r : Option Value) (hp1 : zv_M) (sz1 : Nat), post r hp1 sz1 → zv_V Δ Γ Q (pc + 3) lv (r.toList ++ rest) hp1 sz1 (ce + mc) (sl + ms)) : zv_V Δ Γ Q pc lv (v3 :: v2 :: v1 :: .ref b :: rest) hp sz ce sl :=
  zv_callIN (As := [v1, v2, v3]) F hlv hd E hy hi hin hlk rfl hroom hrest hf k
end ZP
end
section
theorem n_Au : ∀ a, a < 3 → ∀ b, b < 3 → a ≠ b → (F_Au a).2.1 ≠ (F_Au b).2.1 := by decide +kernel
theorem t_Au_ok : ∀ k, k < 3 → parseFieldDescriptor (F_Au k).2.2.1 = some (t_Au k) := by decide +kernel
theorem k_Au : zv_cls 0 R_Au F_Au 3 := ⟨rfl, fun w hw => by
  rcases List.mem_map.mp hw with ⟨k, hk, rfl⟩
  have hk := List.mem_range.mp hk
  match k, hk with
  | 0, _ => exact zp_in 103 (by decide +kernel) (by decide +kernel)
  | 1, _ => exact zp_in 105 (by decide +kernel) (by decide +kernel)
  | 2, _ => exact zp_in 107 (by decide +kernel) (by decide +kernel)
  | k + 3, h => omega, ⟨t_Au, t_Au_ok⟩, n_Au⟩
theorem nw_Au : ∀ j, j < 3 → defaultValue (t_Au j) = vp_V [.int (nI 0), .int (nI 0), .null] j
  | 0, _ => rfl
  | 1, _ => rfl
  | 2, _ => rfl
  | j + 3, h => absurd h (by omega)
theorem ki_Au : Cond.instantiable R_Au 3 ∈ zp_G := zp_in 91 (by decide +kernel) (by decide +kernel)
theorem kz_Au : Cond.initialized R_Au ∈ zp_G := zp_in 4 (by decide +kernel) (by decide +kernel)
theorem n_LA : ∀ a, a < 4 → ∀ b, b < 4 → a ≠ b → (F_LA a).2.1 ≠ (F_LA b).2.1 := by decide +kernel
theorem t_LA_ok : ∀ k, k < 4 → parseFieldDescriptor (F_LA k).2.2.1 = some (t_LA k) := by decide +kernel
theorem k_LA : zv_cls 1 R_LA F_LA 4 := ⟨rfl, fun w hw => by
  rcases List.mem_map.mp hw with ⟨k, hk, rfl⟩
  have hk := List.mem_range.mp hk
  match k, hk with
  | 0, _ => exact zp_in 114 (by decide +kernel) (by decide +kernel)
  | 1, _ => exact zp_in 116 (by decide +kernel) (by decide +kernel)
  | 2, _ => exact zp_in 118 (by decide +kernel) (by decide +kernel)
  | 3, _ => exact zp_in 120 (by decide +kernel) (by decide +kernel)
  | k + 4, h => omega, ⟨t_LA, t_LA_ok⟩, n_LA⟩
theorem nw_LA : ∀ j, j < 4 → defaultValue (t_LA j) = vp_V [.null, .int (nI 0), .null, .null] j
  | 0, _ => rfl
  | 1, _ => rfl
  | 2, _ => rfl
  | 3, _ => rfl
  | j + 4, h => absurd h (by omega)
theorem ki_LA : Cond.instantiable R_LA 4 ∈ zp_G := zp_in 13 (by decide +kernel) (by decide +kernel)
theorem kz_LA : Cond.initialized R_LA ∈ zp_G := zp_in 1 (by decide +kernel) (by decide +kernel)
theorem n_Ba : ∀ a, a < 1 → ∀ b, b < 1 → a ≠ b → (F_Ba a).2.1 ≠ (F_Ba b).2.1 := by decide +kernel
theorem t_Ba_ok : ∀ k, k < 1 → parseFieldDescriptor (F_Ba k).2.2.1 = some (t_Ba k) := by decide +kernel
theorem k_Ba : zv_cls 2 R_Ba F_Ba 1 := ⟨rfl, fun w hw => by
  rcases List.mem_map.mp hw with ⟨k, hk, rfl⟩
  have hk := List.mem_range.mp hk
  match k, hk with
  | 0, _ => exact zp_in 134 (by decide +kernel) (by decide +kernel)
  | k + 1, h => omega, ⟨t_Ba, t_Ba_ok⟩, n_Ba⟩
theorem nw_Ba : ∀ j, j < 1 → defaultValue (t_Ba j) = vp_V [.int (nI 0)] j
  | 0, _ => rfl
  | j + 1, h => absurd h (by omega)
theorem ki_Ba : Cond.instantiable R_Ba 1 ∈ zp_G := zp_in 128 (by decide +kernel) (by decide +kernel)
theorem kz_Ba : Cond.initialized R_Ba ∈ zp_G := zp_in 6 (by decide +kernel) (by decide +kernel)
theorem n_Pa : ∀ a, a < 3 → ∀ b, b < 3 → a ≠ b → (F_Pa a).2.1 ≠ (F_Pa b).2.1 := by decide +kernel
theorem t_Pa_ok : ∀ k, k < 3 → parseFieldDescriptor (F_Pa k).2.2.1 = some (t_Pa k) := by decide +kernel
theorem k_Pa : zv_cls 3 R_Pa F_Pa 3 := ⟨rfl, fun w hw => by
  rcases List.mem_map.mp hw with ⟨k, hk, rfl⟩
  have hk := List.mem_range.mp hk
  match k, hk with
  | 0, _ => exact zp_in 317 (by decide +kernel) (by decide +kernel)
  | 1, _ => exact zp_in 319 (by decide +kernel) (by decide +kernel)
  | 2, _ => exact zp_in 321 (by decide +kernel) (by decide +kernel)
  | k + 3, h => omega, ⟨t_Pa, t_Pa_ok⟩, n_Pa⟩
theorem nw_Pa : ∀ j, j < 3 → defaultValue (t_Pa j) = vp_V [.null, .null, .int (nI 0)] j
  | 0, _ => rfl
  | 1, _ => rfl
  | 2, _ => rfl
  | j + 3, h => absurd h (by omega)
theorem ki_Pa : Cond.instantiable R_Pa 3 ∈ zp_G := zp_in 309 (by decide +kernel) (by decide +kernel)
theorem kz_Pa : Cond.initialized R_Pa ∈ zp_G := zp_in 8 (by decide +kernel) (by decide +kernel)
theorem n_Ch : ∀ a, a < 2 → ∀ b, b < 2 → a ≠ b → (F_Ch a).2.1 ≠ (F_Ch b).2.1 := by decide +kernel
theorem t_Ch_ok : ∀ k, k < 2 → parseFieldDescriptor (F_Ch k).2.2.1 = some (t_Ch k) := by decide +kernel
theorem k_Ch : zv_cls 4 R_Ch F_Ch 2 := ⟨rfl, fun w hw => by
  rcases List.mem_map.mp hw with ⟨k, hk, rfl⟩
  have hk := List.mem_range.mp hk
  match k, hk with
  | 0, _ => exact zp_in 339 (by decide +kernel) (by decide +kernel)
  | 1, _ => exact zp_in 341 (by decide +kernel) (by decide +kernel)
  | k + 2, h => omega, ⟨t_Ch, t_Ch_ok⟩, n_Ch⟩
theorem nw_Ch : ∀ j, j < 2 → defaultValue (t_Ch j) = vp_V [.null, .null] j
  | 0, _ => rfl
  | 1, _ => rfl
  | j + 2, h => absurd h (by omega)
theorem ki_Ch : Cond.instantiable R_Ch 2 ∈ zp_G := zp_in 171 (by decide +kernel) (by decide +kernel)
theorem kz_Ch : Cond.initialized R_Ch ∈ zp_G := zp_in 9 (by decide +kernel) (by decide +kernel)
theorem n_St : ∀ a, a < 1 → ∀ b, b < 1 → a ≠ b → (F_St a).2.1 ≠ (F_St b).2.1 := by decide +kernel
theorem t_St_ok : ∀ k, k < 1 → parseFieldDescriptor (F_St k).2.2.1 = some (t_St k) := by decide +kernel
theorem k_St : zv_cls 5 R_St F_St 1 := ⟨rfl, fun w hw => by
  rcases List.mem_map.mp hw with ⟨k, hk, rfl⟩
  have hk := List.mem_range.mp hk
  match k, hk with
  | 0, _ => exact zp_in 355 (by decide +kernel) (by decide +kernel)
  | k + 1, h => omega, ⟨t_St, t_St_ok⟩, n_St⟩
theorem nw_St : ∀ j, j < 1 → defaultValue (t_St j) = vp_V [.null] j
  | 0, _ => rfl
  | j + 1, h => absurd h (by omega)
theorem ki_St : Cond.instantiable R_St 1 ∈ zp_G := zp_in 349 (by decide +kernel) (by decide +kernel)
theorem kz_St : Cond.initialized R_St ∈ zp_G := zp_in 10 (by decide +kernel) (by decide +kernel)
theorem n_In : ∀ a, a < 1 → ∀ b, b < 1 → a ≠ b → (F_In a).2.1 ≠ (F_In b).2.1 := by decide +kernel
theorem t_In_ok : ∀ k, k < 1 → parseFieldDescriptor (F_In k).2.2.1 = some (t_In k) := by decide +kernel
theorem k_In : zv_cls 6 R_In F_In 1 := ⟨rfl, fun w hw => by
  rcases List.mem_map.mp hw with ⟨k, hk, rfl⟩
  have hk := List.mem_range.mp hk
  match k, hk with
  | 0, _ => exact zp_in 369 (by decide +kernel) (by decide +kernel)
  | k + 1, h => omega, ⟨t_In, t_In_ok⟩, n_In⟩
theorem nw_In : ∀ j, j < 1 → defaultValue (t_In j) = vp_V [.null] j
  | 0, _ => rfl
  | j + 1, h => absurd h (by omega)
theorem ki_In : Cond.instantiable R_In 1 ∈ zp_G := zp_in 363 (by decide +kernel) (by decide +kernel)
theorem kz_In : Cond.initialized R_In ∈ zp_G := zp_in 11 (by decide +kernel) (by decide +kernel)
theorem n_Re : ∀ a, a < 7 → ∀ b, b < 7 → a ≠ b → (F_Re a).2.1 ≠ (F_Re b).2.1 := by decide +kernel
theorem t_Re_ok : ∀ k, k < 7 → parseFieldDescriptor (F_Re k).2.2.1 = some (t_Re k) := by decide +kernel
theorem k_Re : zv_cls 7 R_Re F_Re 7 := ⟨rfl, fun w hw => by
  rcases List.mem_map.mp hw with ⟨k, hk, rfl⟩
  have hk := List.mem_range.mp hk
  match k, hk with
  | 0, _ => exact zp_in 35 (by decide +kernel) (by decide +kernel)
  | 1, _ => exact zp_in 37 (by decide +kernel) (by decide +kernel)
  | 2, _ => exact zp_in 39 (by decide +kernel) (by decide +kernel)
  | 3, _ => exact zp_in 41 (by decide +kernel) (by decide +kernel)
  | 4, _ => exact zp_in 43 (by decide +kernel) (by decide +kernel)
  | 5, _ => exact zp_in 45 (by decide +kernel) (by decide +kernel)
  | 6, _ => exact zp_in 47 (by decide +kernel) (by decide +kernel)
  | k + 7, h => omega, ⟨t_Re, t_Re_ok⟩, n_Re⟩
theorem nw_Re : ∀ j, j < 7 → defaultValue (t_Re j) = vp_V [.null, .null, .null, .int (nI 0), .null, .null, .null] j
  | 0, _ => rfl
  | 1, _ => rfl
  | 2, _ => rfl
  | 3, _ => rfl
  | 4, _ => rfl
  | 5, _ => rfl
  | 6, _ => rfl
  | j + 7, h => absurd h (by omega)
theorem ki_Re : Cond.instantiable R_Re 7 ∈ zp_G := zp_in 23 (by decide +kernel) (by decide +kernel)
theorem kz_Re : Cond.initialized R_Re ∈ zp_G := zp_in 2 (by decide +kernel) (by decide +kernel)
theorem n_Al : ∀ a, a < 10 → ∀ b, b < 10 → a ≠ b → (F_Al a).2.1 ≠ (F_Al b).2.1 := by decide +kernel
theorem t_Al_ok : ∀ k, k < 10 → parseFieldDescriptor (F_Al k).2.2.1 = some (t_Al k) := by decide +kernel
theorem k_Al : zv_cls 8 R_Al F_Al 10 := ⟨rfl, fun w hw => by
  rcases List.mem_map.mp hw with ⟨k, hk, rfl⟩
  have hk := List.mem_range.mp hk
  match k, hk with
  | 0, _ => exact zp_in 69 (by decide +kernel) (by decide +kernel)
  | 1, _ => exact zp_in 71 (by decide +kernel) (by decide +kernel)
  | 2, _ => exact zp_in 73 (by decide +kernel) (by decide +kernel)
  | 3, _ => exact zp_in 75 (by decide +kernel) (by decide +kernel)
  | 4, _ => exact zp_in 77 (by decide +kernel) (by decide +kernel)
  | 5, _ => exact zp_in 79 (by decide +kernel) (by decide +kernel)
  | 6, _ => exact zp_in 81 (by decide +kernel) (by decide +kernel)
  | 7, _ => exact zp_in 83 (by decide +kernel) (by decide +kernel)
  | 8, _ => exact zp_in 85 (by decide +kernel) (by decide +kernel)
  | 9, _ => exact zp_in 87 (by decide +kernel) (by decide +kernel)
  | k + 10, h => omega, ⟨t_Al, t_Al_ok⟩, n_Al⟩
theorem nw_Al : ∀ j, j < 10 → defaultValue (t_Al j) = vp_V [.null, .null, .null, .null, .int (nI 0), .null, .null, .null, .null, .null] j
  | 0, _ => rfl
  | 1, _ => rfl
  | 2, _ => rfl
  | 3, _ => rfl
  | 4, _ => rfl
  | 5, _ => rfl
  | 6, _ => rfl
  | 7, _ => rfl
  | 8, _ => rfl
  | 9, _ => rfl
  | j + 10, h => absurd h (by omega)
theorem ki_Al : Cond.instantiable R_Al 10 ∈ zp_G := zp_in 52 (by decide +kernel) (by decide +kernel)
theorem kz_Al : Cond.initialized R_Al ∈ zp_G := zp_in 3 (by decide +kernel) (by decide +kernel)
theorem n_Mo : ∀ a, a < 19 → ∀ b, b < 19 → a ≠ b → (F_Mo a).2.1 ≠ (F_Mo b).2.1 := by decide +kernel
theorem t_Mo_ok : ∀ k, k < 19 → parseFieldDescriptor (F_Mo k).2.2.1 = some (t_Mo k) := by decide +kernel
theorem k_Mo : zv_cls 9 R_Mo F_Mo 19 := ⟨rfl, fun w hw => by
  rcases List.mem_map.mp hw with ⟨k, hk, rfl⟩
  have hk := List.mem_range.mp hk
  match k, hk with
  | 0, _ => exact zp_in 530 (by decide +kernel) (by decide +kernel)
  | 1, _ => exact zp_in 532 (by decide +kernel) (by decide +kernel)
  | 2, _ => exact zp_in 534 (by decide +kernel) (by decide +kernel)
  | 3, _ => exact zp_in 536 (by decide +kernel) (by decide +kernel)
  | 4, _ => exact zp_in 538 (by decide +kernel) (by decide +kernel)
  | 5, _ => exact zp_in 540 (by decide +kernel) (by decide +kernel)
  | 6, _ => exact zp_in 542 (by decide +kernel) (by decide +kernel)
  | 7, _ => exact zp_in 544 (by decide +kernel) (by decide +kernel)
  | 8, _ => exact zp_in 546 (by decide +kernel) (by decide +kernel)
  | 9, _ => exact zp_in 548 (by decide +kernel) (by decide +kernel)
  | 10, _ => exact zp_in 550 (by decide +kernel) (by decide +kernel)
  | 11, _ => exact zp_in 552 (by decide +kernel) (by decide +kernel)
  | 12, _ => exact zp_in 554 (by decide +kernel) (by decide +kernel)
  | 13, _ => exact zp_in 556 (by decide +kernel) (by decide +kernel)
  | 14, _ => exact zp_in 558 (by decide +kernel) (by decide +kernel)
  | 15, _ => exact zp_in 560 (by decide +kernel) (by decide +kernel)
  | 16, _ => exact zp_in 562 (by decide +kernel) (by decide +kernel)
  | 17, _ => exact zp_in 564 (by decide +kernel) (by decide +kernel)
  | 18, _ => exact zp_in 566 (by decide +kernel) (by decide +kernel)
  | k + 19, h => omega, ⟨t_Mo, t_Mo_ok⟩, n_Mo⟩
theorem nw_Mo : ∀ j, j < 19 → defaultValue (t_Mo j) = vp_V [.int (nI 0), .null, .null, .null, .int (nI 0), .int (nI 0), .int (nI 0), .null, .null, .null, .null, .null, .int (nI 0), .int (nI 0), .null, .null, .null, .null, .null] j
  | 0, _ => rfl
  | 1, _ => rfl
  | 2, _ => rfl
  | 3, _ => rfl
  | 4, _ => rfl
  | 5, _ => rfl
  | 6, _ => rfl
  | 7, _ => rfl
  | 8, _ => rfl
  | 9, _ => rfl
  | 10, _ => rfl
  | 11, _ => rfl
  | 12, _ => rfl
  | 13, _ => rfl
  | 14, _ => rfl
  | 15, _ => rfl
  | 16, _ => rfl
  | 17, _ => rfl
  | 18, _ => rfl
  | j + 19, h => absurd h (by omega)
theorem ki_Mo : Cond.instantiable R_Mo 19 ∈ zp_G := zp_in 506 (by decide +kernel) (by decide +kernel)
theorem kz_Mo : Cond.initialized R_Mo ∈ zp_G := zp_in 5 (by decide +kernel) (by decide +kernel)
theorem ko_i : Cond.instanceMethod Lib.objectInit ∈ zp_G := zp_in 18 (by decide +kernel) (by decide +kernel)
theorem ko_c : Cond.code Lib.objectInit ⟨#[0xb1]⟩ 1 none ∈ zp_G := zp_in 19 (by decide +kernel) (by decide +kernel)
abbrev b_LA_init : ByteArray := prog_1_method_1_code
def y_LA_init : MethodName := ⟨"LetterAlgebra", "<init>", "()V"⟩
theorem Y_LA_init : zv_y y_LA_init b_LA_init 2 (none) 0 := ⟨zp_in 16 (by decide +kernel) (by decide +kernel), zp_in 1 (by decide +kernel) (by decide +kernel), by decide +kernel⟩
theorem Yi_LA_init : Cond.instanceMethod y_LA_init ∈ zp_G := zp_in 15 (by decide +kernel) (by decide +kernel)
abbrev b_Re_init : ByteArray := prog_9_method_1_code
def y_Re_init : MethodName := ⟨"LetterAlgebra$Reducer", "<init>", "()V"⟩
theorem Y_Re_init : zv_y y_Re_init b_Re_init 1 (none) 0 := ⟨zp_in 26 (by decide +kernel) (by decide +kernel), zp_in 2 (by decide +kernel) (by decide +kernel), by decide +kernel⟩
theorem Yi_Re_init : Cond.instanceMethod y_Re_init ∈ zp_G := zp_in 25 (by decide +kernel) (by decide +kernel)
abbrev b_Al_init : ByteArray := prog_2_method_1_code
def y_Al_init : MethodName := ⟨"LetterAlgebra$Algebra", "<init>", "()V"⟩
theorem Y_Al_init : zv_y y_Al_init b_Al_init 1 (none) 0 := ⟨zp_in 55 (by decide +kernel) (by decide +kernel), zp_in 3 (by decide +kernel) (by decide +kernel), by decide +kernel⟩
theorem Yi_Al_init : Cond.instanceMethod y_Al_init ∈ zp_G := zp_in 54 (by decide +kernel) (by decide +kernel)
abbrev b_Au_init : ByteArray := prog_3_method_1_code
def y_Au_init : MethodName := ⟨"LetterAlgebra$Automaton", "<init>", "()V"⟩
theorem Y_Au_init : zv_y y_Au_init b_Au_init 1 (none) 0 := ⟨zp_in 94 (by decide +kernel) (by decide +kernel), zp_in 4 (by decide +kernel) (by decide +kernel), by decide +kernel⟩
theorem Yi_Au_init : Cond.instanceMethod y_Au_init ∈ zp_G := zp_in 93 (by decide +kernel) (by decide +kernel)
abbrev b_LA_basic : ByteArray := prog_1_method_2_code
def y_LA_basic : MethodName := ⟨"LetterAlgebra", "basic", "(I)I"⟩
theorem Y_LA_basic : zv_y y_LA_basic b_LA_basic 2 ((some (FieldType.int))) 1 := ⟨zp_in 126 (by decide +kernel) (by decide +kernel), zp_in 1 (by decide +kernel) (by decide +kernel), by decide +kernel⟩
theorem Yi_LA_basic : Cond.instanceMethod y_LA_basic ∈ zp_G := zp_in 124 (by decide +kernel) (by decide +kernel)
theorem Yv_LA_basic : Cond.selects y_LA_basic.cls y_LA_basic y_LA_basic ∈ zp_G := zp_in 125 (by decide +kernel) (by decide +kernel)
abbrev b_Ba_init : ByteArray := prog_4_method_1_code
def y_Ba_init : MethodName := ⟨"LetterAlgebra$BasicMachine", "<init>", "(I)V"⟩
theorem Y_Ba_init : zv_y y_Ba_init b_Ba_init 2 (none) 1 := ⟨zp_in 131 (by decide +kernel) (by decide +kernel), zp_in 6 (by decide +kernel) (by decide +kernel), by decide +kernel⟩
theorem Yi_Ba_init : Cond.instanceMethod y_Ba_init ∈ zp_G := zp_in 130 (by decide +kernel) (by decide +kernel)
abbrev b_LA_add : ByteArray := prog_1_method_24_code
def y_LA_add : MethodName := ⟨"LetterAlgebra", "add", "(LLetterAlgebra$Machine;)I"⟩
theorem Y_LA_add : zv_y y_LA_add b_LA_add 2 ((some (FieldType.int))) 1 := ⟨zp_in 140 (by decide +kernel) (by decide +kernel), zp_in 1 (by decide +kernel) (by decide +kernel), by decide +kernel⟩
theorem Yi_LA_add : Cond.instanceMethod y_LA_add ∈ zp_G := zp_in 139 (by decide +kernel) (by decide +kernel)
theorem Yv_LA_add : Cond.selects y_LA_add.cls y_LA_add y_LA_add ∈ zp_G := zp_inp 0 (by decide +kernel) (by decide +kernel)
abbrev b_Re_reduce : ByteArray := prog_9_method_2_code
def y_Re_reduce : MethodName := ⟨"LetterAlgebra$Reducer", "reduce", "(LLetterAlgebra$Machine;LLetterAlgebra$Automaton;)Z"⟩
theorem Y_Re_reduce : zv_y y_Re_reduce b_Re_reduce 4 ((some (FieldType.boolean))) 2 := ⟨zp_in 144 (by decide +kernel) (by decide +kernel), zp_in 2 (by decide +kernel) (by decide +kernel), by decide +kernel⟩
theorem Yi_Re_reduce : Cond.instanceMethod y_Re_reduce ∈ zp_G := zp_in 142 (by decide +kernel) (by decide +kernel)
theorem Yv_Re_reduce : Cond.selects y_Re_reduce.cls y_Re_reduce y_Re_reduce ∈ zp_G := zp_in 143 (by decide +kernel) (by decide +kernel)
abbrev b_Re_explore : ByteArray := prog_9_method_3_code
def y_Re_explore : MethodName := ⟨"LetterAlgebra$Reducer", "explore", "(LLetterAlgebra$Machine;)V"⟩
theorem Y_Re_explore : zv_y y_Re_explore b_Re_explore 4 (none) 1 := ⟨zp_in 148 (by decide +kernel) (by decide +kernel), zp_in 2 (by decide +kernel) (by decide +kernel), by decide +kernel⟩
theorem Yi_Re_explore : Cond.instanceMethod y_Re_explore ∈ zp_G := zp_in 147 (by decide +kernel) (by decide +kernel)
theorem Yv_Re_explore : Cond.selects y_Re_explore.cls y_Re_explore y_Re_explore ∈ zp_G := zp_inp 1 (by decide +kernel) (by decide +kernel)
abbrev b_Ar_fill : ByteArray := prog_13_method_103_code
def y_Ar_fill : MethodName := ⟨"java/util/Arrays", "fill", "([II)V"⟩
theorem Y_Ar_fill : zv_y y_Ar_fill b_Ar_fill 4 (none) 2 := ⟨zp_in 151 (by decide +kernel) (by decide +kernel), zp_in 7 (by decide +kernel) (by decide +kernel), by decide +kernel⟩
theorem Ys_Ar_fill : Cond.static y_Ar_fill ∈ zp_G := zp_in 150 (by decide +kernel) (by decide +kernel)
abbrev b_Ba_startCode : ByteArray := prog_4_method_2_code
def y_Ba_startCode : MethodName := ⟨"LetterAlgebra$BasicMachine", "startCode", "()I"⟩
theorem Y_Ba_startCode : zv_y y_Ba_startCode b_Ba_startCode 1 ((some (FieldType.int))) 0 := ⟨zp_in 161 (by decide +kernel) (by decide +kernel), zp_in 6 (by decide +kernel) (by decide +kernel), by decide +kernel⟩
theorem Yi_Ba_startCode : Cond.instanceMethod y_Ba_startCode ∈ zp_G := zp_in 159 (by decide +kernel) (by decide +kernel)
abbrev b_Ch_startCode : ByteArray := prog_5_method_2_code
def y_Ch_startCode : MethodName := ⟨"LetterAlgebra$ChainMachine", "startCode", "()I"⟩
theorem Y_Ch_startCode : zv_y y_Ch_startCode b_Ch_startCode 1 ((some (FieldType.int))) 0 := ⟨zp_in 167 (by decide +kernel) (by decide +kernel), zp_in 9 (by decide +kernel) (by decide +kernel), by decide +kernel⟩
theorem Yi_Ch_startCode : Cond.instanceMethod y_Ch_startCode ∈ zp_G := zp_in 165 (by decide +kernel) (by decide +kernel)
abbrev b_Ch_codeOf : ByteArray := prog_5_method_5_code
def y_Ch_codeOf : MethodName := ⟨"LetterAlgebra$ChainMachine", "codeOf", "(II)I"⟩
theorem Y_Ch_codeOf : zv_y y_Ch_codeOf b_Ch_codeOf 4 ((some (FieldType.int))) 2 := ⟨zp_in 172 (by decide +kernel) (by decide +kernel), zp_in 9 (by decide +kernel) (by decide +kernel), by decide +kernel⟩
theorem Yi_Ch_codeOf : Cond.instanceMethod y_Ch_codeOf ∈ zp_G := zp_in 170 (by decide +kernel) (by decide +kernel)
theorem Yv_Ch_codeOf : Cond.selects y_Ch_codeOf.cls y_Ch_codeOf y_Ch_codeOf ∈ zp_G := zp_inp 2 (by decide +kernel) (by decide +kernel)
abbrev b_Au_isAccepting : ByteArray := prog_3_method_4_code
def y_Au_isAccepting : MethodName := ⟨"LetterAlgebra$Automaton", "isAccepting", "(I)Z"⟩
theorem Y_Au_isAccepting : zv_y y_Au_isAccepting b_Au_isAccepting 2 ((some (FieldType.boolean))) 1 := ⟨zp_in 176 (by decide +kernel) (by decide +kernel), zp_in 4 (by decide +kernel) (by decide +kernel), by decide +kernel⟩
theorem Yi_Au_isAccepting : Cond.instanceMethod y_Au_isAccepting ∈ zp_G := zp_in 174 (by decide +kernel) (by decide +kernel)
theorem Yv_Au_isAccepting : Cond.selects y_Au_isAccepting.cls y_Au_isAccepting y_Au_isAccepting ∈ zp_G := zp_in 175 (by decide +kernel) (by decide +kernel)
abbrev b_In_startCode : ByteArray := prog_6_method_2_code
def y_In_startCode : MethodName := ⟨"LetterAlgebra$InverseMachine", "startCode", "()I"⟩
theorem Y_In_startCode : zv_y y_In_startCode b_In_startCode 1 ((some (FieldType.int))) 0 := ⟨zp_in 182 (by decide +kernel) (by decide +kernel), zp_in 11 (by decide +kernel) (by decide +kernel), by decide +kernel⟩
theorem Yi_In_startCode : Cond.instanceMethod y_In_startCode ∈ zp_G := zp_in 180 (by decide +kernel) (by decide +kernel)
abbrev b_Pa_startCode : ByteArray := prog_8_method_2_code
def y_Pa_startCode : MethodName := ⟨"LetterAlgebra$PairMachine", "startCode", "()I"⟩
theorem Y_Pa_startCode : zv_y y_Pa_startCode b_Pa_startCode 1 ((some (FieldType.int))) 0 := ⟨zp_in 188 (by decide +kernel) (by decide +kernel), zp_in 8 (by decide +kernel) (by decide +kernel), by decide +kernel⟩
theorem Yi_Pa_startCode : Cond.instanceMethod y_Pa_startCode ∈ zp_G := zp_in 186 (by decide +kernel) (by decide +kernel)
abbrev b_St_startCode : ByteArray := prog_10_method_2_code
def y_St_startCode : MethodName := ⟨"LetterAlgebra$StarMachine", "startCode", "()I"⟩
theorem Y_St_startCode : zv_y y_St_startCode b_St_startCode 1 ((some (FieldType.int))) 0 := ⟨zp_in 194 (by decide +kernel) (by decide +kernel), zp_in 10 (by decide +kernel) (by decide +kernel), by decide +kernel⟩
theorem Yi_St_startCode : Cond.instanceMethod y_St_startCode ∈ zp_G := zp_in 192 (by decide +kernel) (by decide +kernel)
abbrev b_Re_numberFor : ByteArray := prog_9_method_4_code
def y_Re_numberFor : MethodName := ⟨"LetterAlgebra$Reducer", "numberFor", "(I)I"⟩
theorem Y_Re_numberFor : zv_y y_Re_numberFor b_Re_numberFor 2 ((some (FieldType.int))) 1 := ⟨zp_in 198 (by decide +kernel) (by decide +kernel), zp_in 2 (by decide +kernel) (by decide +kernel), by decide +kernel⟩
theorem Yi_Re_numberFor : Cond.instanceMethod y_Re_numberFor ∈ zp_G := zp_in 197 (by decide +kernel) (by decide +kernel)
theorem Yv_Re_numberFor : Cond.selects y_Re_numberFor.cls y_Re_numberFor y_Re_numberFor ∈ zp_G := zp_inp 3 (by decide +kernel) (by decide +kernel)
abbrev b_Ba_stepCode : ByteArray := prog_4_method_3_code
def y_Ba_stepCode : MethodName := ⟨"LetterAlgebra$BasicMachine", "stepCode", "(II)I"⟩
theorem Y_Ba_stepCode : zv_y y_Ba_stepCode b_Ba_stepCode 3 ((some (FieldType.int))) 2 := ⟨zp_in 207 (by decide +kernel) (by decide +kernel), zp_in 6 (by decide +kernel) (by decide +kernel), by decide +kernel⟩
theorem Yi_Ba_stepCode : Cond.instanceMethod y_Ba_stepCode ∈ zp_G := zp_in 205 (by decide +kernel) (by decide +kernel)
abbrev b_Ch_stepCode : ByteArray := prog_5_method_3_code
def y_Ch_stepCode : MethodName := ⟨"LetterAlgebra$ChainMachine", "stepCode", "(II)I"⟩
theorem Y_Ch_stepCode : zv_y y_Ch_stepCode b_Ch_stepCode 5 ((some (FieldType.int))) 2 := ⟨zp_in 212 (by decide +kernel) (by decide +kernel), zp_in 9 (by decide +kernel) (by decide +kernel), by decide +kernel⟩
theorem Yi_Ch_stepCode : Cond.instanceMethod y_Ch_stepCode ∈ zp_G := zp_in 210 (by decide +kernel) (by decide +kernel)
abbrev b_Au_step : ByteArray := prog_3_method_3_code
def y_Au_step : MethodName := ⟨"LetterAlgebra$Automaton", "step", "(II)I"⟩
theorem Y_Au_step : zv_y y_Au_step b_Au_step 3 ((some (FieldType.int))) 2 := ⟨zp_in 216 (by decide +kernel) (by decide +kernel), zp_in 4 (by decide +kernel) (by decide +kernel), by decide +kernel⟩
theorem Yi_Au_step : Cond.instanceMethod y_Au_step ∈ zp_G := zp_in 214 (by decide +kernel) (by decide +kernel)
theorem Yv_Au_step : Cond.selects y_Au_step.cls y_Au_step y_Au_step ∈ zp_G := zp_in 215 (by decide +kernel) (by decide +kernel)
abbrev b_Au_stepSet : ByteArray := prog_3_method_6_code
def y_Au_stepSet : MethodName := ⟨"LetterAlgebra$Automaton", "stepSet", "(II)I"⟩
theorem Y_Au_stepSet : zv_y y_Au_stepSet b_Au_stepSet 5 ((some (FieldType.int))) 2 := ⟨zp_in 220 (by decide +kernel) (by decide +kernel), zp_in 4 (by decide +kernel) (by decide +kernel), by decide +kernel⟩
theorem Yi_Au_stepSet : Cond.instanceMethod y_Au_stepSet ∈ zp_G := zp_in 218 (by decide +kernel) (by decide +kernel)
theorem Yv_Au_stepSet : Cond.selects y_Au_stepSet.cls y_Au_stepSet y_Au_stepSet ∈ zp_G := zp_in 219 (by decide +kernel) (by decide +kernel)
abbrev b_In_stepCode : ByteArray := prog_6_method_3_code
def y_In_stepCode : MethodName := ⟨"LetterAlgebra$InverseMachine", "stepCode", "(II)I"⟩
theorem Y_In_stepCode : zv_y y_In_stepCode b_In_stepCode 3 ((some (FieldType.int))) 2 := ⟨zp_in 226 (by decide +kernel) (by decide +kernel), zp_in 11 (by decide +kernel) (by decide +kernel), by decide +kernel⟩
theorem Yi_In_stepCode : Cond.instanceMethod y_In_stepCode ∈ zp_G := zp_in 224 (by decide +kernel) (by decide +kernel)
abbrev b_Pa_stepCode : ByteArray := prog_8_method_3_code
def y_Pa_stepCode : MethodName := ⟨"LetterAlgebra$PairMachine", "stepCode", "(II)I"⟩
theorem Y_Pa_stepCode : zv_y y_Pa_stepCode b_Pa_stepCode 5 ((some (FieldType.int))) 2 := ⟨zp_in 232 (by decide +kernel) (by decide +kernel), zp_in 8 (by decide +kernel) (by decide +kernel), by decide +kernel⟩
theorem Yi_Pa_stepCode : Cond.instanceMethod y_Pa_stepCode ∈ zp_G := zp_in 230 (by decide +kernel) (by decide +kernel)
abbrev b_St_stepCode : ByteArray := prog_10_method_3_code
def y_St_stepCode : MethodName := ⟨"LetterAlgebra$StarMachine", "stepCode", "(II)I"⟩
theorem Y_St_stepCode : zv_y y_St_stepCode b_St_stepCode 4 ((some (FieldType.int))) 2 := ⟨zp_in 238 (by decide +kernel) (by decide +kernel), zp_in 10 (by decide +kernel) (by decide +kernel), by decide +kernel⟩
theorem Yi_St_stepCode : Cond.instanceMethod y_St_stepCode ∈ zp_G := zp_in 236 (by decide +kernel) (by decide +kernel)
abbrev b_Au_acceptsAnyOf : ByteArray := prog_3_method_5_code
def y_Au_acceptsAnyOf : MethodName := ⟨"LetterAlgebra$Automaton", "acceptsAnyOf", "(I)Z"⟩
theorem Y_Au_acceptsAnyOf : zv_y y_Au_acceptsAnyOf b_Au_acceptsAnyOf 2 ((some (FieldType.boolean))) 1 := ⟨zp_in 243 (by decide +kernel) (by decide +kernel), zp_in 4 (by decide +kernel) (by decide +kernel), by decide +kernel⟩
theorem Yi_Au_acceptsAnyOf : Cond.instanceMethod y_Au_acceptsAnyOf ∈ zp_G := zp_in 241 (by decide +kernel) (by decide +kernel)
theorem Yv_Au_acceptsAnyOf : Cond.selects y_Au_acceptsAnyOf.cls y_Au_acceptsAnyOf y_Au_acceptsAnyOf ∈ zp_G := zp_in 242 (by decide +kernel) (by decide +kernel)
abbrev b_Re_partByAcceptance : ByteArray := prog_9_method_5_code
def y_Re_partByAcceptance : MethodName := ⟨"LetterAlgebra$Reducer", "partByAcceptance", "(LLetterAlgebra$Machine;)V"⟩
theorem Y_Re_partByAcceptance : zv_y y_Re_partByAcceptance b_Re_partByAcceptance 3 (none) 1 := ⟨zp_in 247 (by decide +kernel) (by decide +kernel), zp_in 2 (by decide +kernel) (by decide +kernel), by decide +kernel⟩
theorem Yi_Re_partByAcceptance : Cond.instanceMethod y_Re_partByAcceptance ∈ zp_G := zp_in 246 (by decide +kernel) (by decide +kernel)
theorem Yv_Re_partByAcceptance : Cond.selects y_Re_partByAcceptance.cls y_Re_partByAcceptance y_Re_partByAcceptance ∈ zp_G := zp_inp 4 (by decide +kernel) (by decide +kernel)
abbrev b_Ba_isAcceptingCode : ByteArray := prog_4_method_4_code
def y_Ba_isAcceptingCode : MethodName := ⟨"LetterAlgebra$BasicMachine", "isAcceptingCode", "(I)Z"⟩
theorem Y_Ba_isAcceptingCode : zv_y y_Ba_isAcceptingCode b_Ba_isAcceptingCode 2 ((some (FieldType.boolean))) 1 := ⟨zp_in 256 (by decide +kernel) (by decide +kernel), zp_in 6 (by decide +kernel) (by decide +kernel), by decide +kernel⟩
theorem Yi_Ba_isAcceptingCode : Cond.instanceMethod y_Ba_isAcceptingCode ∈ zp_G := zp_in 254 (by decide +kernel) (by decide +kernel)
abbrev b_Ch_isAcceptingCode : ByteArray := prog_5_method_4_code
def y_Ch_isAcceptingCode : MethodName := ⟨"LetterAlgebra$ChainMachine", "isAcceptingCode", "(I)Z"⟩
theorem Y_Ch_isAcceptingCode : zv_y y_Ch_isAcceptingCode b_Ch_isAcceptingCode 2 ((some (FieldType.boolean))) 1 := ⟨zp_in 261 (by decide +kernel) (by decide +kernel), zp_in 9 (by decide +kernel) (by decide +kernel), by decide +kernel⟩
theorem Yi_Ch_isAcceptingCode : Cond.instanceMethod y_Ch_isAcceptingCode ∈ zp_G := zp_in 259 (by decide +kernel) (by decide +kernel)
abbrev b_In_isAcceptingCode : ByteArray := prog_6_method_4_code
def y_In_isAcceptingCode : MethodName := ⟨"LetterAlgebra$InverseMachine", "isAcceptingCode", "(I)Z"⟩
theorem Y_In_isAcceptingCode : zv_y y_In_isAcceptingCode b_In_isAcceptingCode 2 ((some (FieldType.boolean))) 1 := ⟨zp_in 267 (by decide +kernel) (by decide +kernel), zp_in 11 (by decide +kernel) (by decide +kernel), by decide +kernel⟩
theorem Yi_In_isAcceptingCode : Cond.instanceMethod y_In_isAcceptingCode ∈ zp_G := zp_in 265 (by decide +kernel) (by decide +kernel)
abbrev b_Pa_isAcceptingCode : ByteArray := prog_8_method_4_code
def y_Pa_isAcceptingCode : MethodName := ⟨"LetterAlgebra$PairMachine", "isAcceptingCode", "(I)Z"⟩
theorem Y_Pa_isAcceptingCode : zv_y y_Pa_isAcceptingCode b_Pa_isAcceptingCode 4 ((some (FieldType.boolean))) 1 := ⟨zp_in 273 (by decide +kernel) (by decide +kernel), zp_in 8 (by decide +kernel) (by decide +kernel), by decide +kernel⟩
theorem Yi_Pa_isAcceptingCode : Cond.instanceMethod y_Pa_isAcceptingCode ∈ zp_G := zp_in 271 (by decide +kernel) (by decide +kernel)
abbrev b_St_isAcceptingCode : ByteArray := prog_10_method_4_code
def y_St_isAcceptingCode : MethodName := ⟨"LetterAlgebra$StarMachine", "isAcceptingCode", "(I)Z"⟩
theorem Y_St_isAcceptingCode : zv_y y_St_isAcceptingCode b_St_isAcceptingCode 2 ((some (FieldType.boolean))) 1 := ⟨zp_in 279 (by decide +kernel) (by decide +kernel), zp_in 10 (by decide +kernel) (by decide +kernel), by decide +kernel⟩
theorem Yi_St_isAcceptingCode : Cond.instanceMethod y_St_isAcceptingCode ∈ zp_G := zp_in 277 (by decide +kernel) (by decide +kernel)
abbrev b_Re_refine : ByteArray := prog_9_method_6_code
def y_Re_refine : MethodName := ⟨"LetterAlgebra$Reducer", "refine", "()I"⟩
theorem Y_Re_refine : zv_y y_Re_refine b_Re_refine 4 ((some (FieldType.int))) 0 := ⟨zp_in 283 (by decide +kernel) (by decide +kernel), zp_in 2 (by decide +kernel) (by decide +kernel), by decide +kernel⟩
theorem Yi_Re_refine : Cond.instanceMethod y_Re_refine ∈ zp_G := zp_in 282 (by decide +kernel) (by decide +kernel)
theorem Yv_Re_refine : Cond.selects y_Re_refine.cls y_Re_refine y_Re_refine ∈ zp_G := zp_inp 5 (by decide +kernel) (by decide +kernel)
abbrev b_Re_split : ByteArray := prog_9_method_7_code
def y_Re_split : MethodName := ⟨"LetterAlgebra$Reducer", "split", "()I"⟩
theorem Y_Re_split : zv_y y_Re_split b_Re_split 4 ((some (FieldType.int))) 0 := ⟨zp_in 287 (by decide +kernel) (by decide +kernel), zp_in 2 (by decide +kernel) (by decide +kernel), by decide +kernel⟩
theorem Yi_Re_split : Cond.instanceMethod y_Re_split ∈ zp_G := zp_in 286 (by decide +kernel) (by decide +kernel)
theorem Yv_Re_split : Cond.selects y_Re_split.cls y_Re_split y_Re_split ∈ zp_G := zp_inp 6 (by decide +kernel) (by decide +kernel)
abbrev b_Re_partLike : ByteArray := prog_9_method_8_code
def y_Re_partLike : MethodName := ⟨"LetterAlgebra$Reducer", "partLike", "(II)I"⟩
theorem Y_Re_partLike : zv_y y_Re_partLike b_Re_partLike 4 ((some (FieldType.int))) 2 := ⟨zp_in 291 (by decide +kernel) (by decide +kernel), zp_in 2 (by decide +kernel) (by decide +kernel), by decide +kernel⟩
theorem Yi_Re_partLike : Cond.instanceMethod y_Re_partLike ∈ zp_G := zp_in 290 (by decide +kernel) (by decide +kernel)
theorem Yv_Re_partLike : Cond.selects y_Re_partLike.cls y_Re_partLike y_Re_partLike ∈ zp_G := zp_inp 7 (by decide +kernel) (by decide +kernel)
abbrev b_Re_goAlike : ByteArray := prog_9_method_9_code
def y_Re_goAlike : MethodName := ⟨"LetterAlgebra$Reducer", "goAlike", "(II)Z"⟩
theorem Y_Re_goAlike : zv_y y_Re_goAlike b_Re_goAlike 3 ((some (FieldType.boolean))) 2 := ⟨zp_in 295 (by decide +kernel) (by decide +kernel), zp_in 2 (by decide +kernel) (by decide +kernel), by decide +kernel⟩
theorem Yi_Re_goAlike : Cond.instanceMethod y_Re_goAlike ∈ zp_G := zp_in 294 (by decide +kernel) (by decide +kernel)
theorem Yv_Re_goAlike : Cond.selects y_Re_goAlike.cls y_Re_goAlike y_Re_goAlike ∈ zp_G := zp_inp 8 (by decide +kernel) (by decide +kernel)
abbrev b_Re_write : ByteArray := prog_9_method_10_code
def y_Re_write : MethodName := ⟨"LetterAlgebra$Reducer", "write", "(LLetterAlgebra$Machine;ILLetterAlgebra$Automaton;)V"⟩
theorem Y_Re_write : zv_y y_Re_write b_Re_write 7 (none) 3 := ⟨zp_in 299 (by decide +kernel) (by decide +kernel), zp_in 2 (by decide +kernel) (by decide +kernel), by decide +kernel⟩
theorem Yi_Re_write : Cond.instanceMethod y_Re_write ∈ zp_G := zp_in 298 (by decide +kernel) (by decide +kernel)
theorem Yv_Re_write : Cond.selects y_Re_write.cls y_Re_write y_Re_write ∈ zp_G := zp_inp 9 (by decide +kernel) (by decide +kernel)
abbrev b_LA_unite : ByteArray := prog_1_method_3_code
def y_LA_unite : MethodName := ⟨"LetterAlgebra", "unite", "(II)I"⟩
theorem Y_LA_unite : zv_y y_LA_unite b_LA_unite 3 ((some (FieldType.int))) 2 := ⟨zp_in 303 (by decide +kernel) (by decide +kernel), zp_in 1 (by decide +kernel) (by decide +kernel), by decide +kernel⟩
theorem Yi_LA_unite : Cond.instanceMethod y_LA_unite ∈ zp_G := zp_in 301 (by decide +kernel) (by decide +kernel)
theorem Yv_LA_unite : Cond.selects y_LA_unite.cls y_LA_unite y_LA_unite ∈ zp_G := zp_in 302 (by decide +kernel) (by decide +kernel)
abbrev b_LA_isListed : ByteArray := prog_1_method_22_code
def y_LA_isListed : MethodName := ⟨"LetterAlgebra", "isListed", "(I)Z"⟩
theorem Y_LA_isListed : zv_y y_LA_isListed b_LA_isListed 2 ((some (FieldType.boolean))) 1 := ⟨zp_in 307 (by decide +kernel) (by decide +kernel), zp_in 1 (by decide +kernel) (by decide +kernel), by decide +kernel⟩
theorem Yi_LA_isListed : Cond.instanceMethod y_LA_isListed ∈ zp_G := zp_in 306 (by decide +kernel) (by decide +kernel)
theorem Yv_LA_isListed : Cond.selects y_LA_isListed.cls y_LA_isListed y_LA_isListed ∈ zp_G := zp_inp 10 (by decide +kernel) (by decide +kernel)
abbrev b_Pa_init : ByteArray := prog_8_method_1_code
def y_Pa_init : MethodName := ⟨"LetterAlgebra$PairMachine", "<init>", "(LLetterAlgebra$Automaton;LLetterAlgebra$Automaton;Z)V"⟩
theorem Y_Pa_init : zv_y y_Pa_init b_Pa_init 4 (none) 3 := ⟨zp_in 312 (by decide +kernel) (by decide +kernel), zp_in 8 (by decide +kernel) (by decide +kernel), by decide +kernel⟩
theorem Yi_Pa_init : Cond.instanceMethod y_Pa_init ∈ zp_G := zp_in 311 (by decide +kernel) (by decide +kernel)
abbrev b_LA_meet : ByteArray := prog_1_method_4_code
def y_LA_meet : MethodName := ⟨"LetterAlgebra", "meet", "(II)I"⟩
theorem Y_LA_meet : zv_y y_LA_meet b_LA_meet 3 ((some (FieldType.int))) 2 := ⟨zp_in 327 (by decide +kernel) (by decide +kernel), zp_in 1 (by decide +kernel) (by decide +kernel), by decide +kernel⟩
theorem Yi_LA_meet : Cond.instanceMethod y_LA_meet ∈ zp_G := zp_in 325 (by decide +kernel) (by decide +kernel)
theorem Yv_LA_meet : Cond.selects y_LA_meet.cls y_LA_meet y_LA_meet ∈ zp_G := zp_in 326 (by decide +kernel) (by decide +kernel)
abbrev b_LA_chain : ByteArray := prog_1_method_5_code
def y_LA_chain : MethodName := ⟨"LetterAlgebra", "chain", "(II)I"⟩
theorem Y_LA_chain : zv_y y_LA_chain b_LA_chain 3 ((some (FieldType.int))) 2 := ⟨zp_in 331 (by decide +kernel) (by decide +kernel), zp_in 1 (by decide +kernel) (by decide +kernel), by decide +kernel⟩
theorem Yi_LA_chain : Cond.instanceMethod y_LA_chain ∈ zp_G := zp_in 329 (by decide +kernel) (by decide +kernel)
theorem Yv_LA_chain : Cond.selects y_LA_chain.cls y_LA_chain y_LA_chain ∈ zp_G := zp_in 330 (by decide +kernel) (by decide +kernel)
abbrev b_Ch_init : ByteArray := prog_5_method_1_code
def y_Ch_init : MethodName := ⟨"LetterAlgebra$ChainMachine", "<init>", "(LLetterAlgebra$Automaton;LLetterAlgebra$Automaton;)V"⟩
theorem Y_Ch_init : zv_y y_Ch_init b_Ch_init 3 (none) 2 := ⟨zp_in 335 (by decide +kernel) (by decide +kernel), zp_in 9 (by decide +kernel) (by decide +kernel), by decide +kernel⟩
theorem Yi_Ch_init : Cond.instanceMethod y_Ch_init ∈ zp_G := zp_in 334 (by decide +kernel) (by decide +kernel)
abbrev b_LA_star : ByteArray := prog_1_method_6_code
def y_LA_star : MethodName := ⟨"LetterAlgebra", "star", "(I)I"⟩
theorem Y_LA_star : zv_y y_LA_star b_LA_star 2 ((some (FieldType.int))) 1 := ⟨zp_in 347 (by decide +kernel) (by decide +kernel), zp_in 1 (by decide +kernel) (by decide +kernel), by decide +kernel⟩
theorem Yi_LA_star : Cond.instanceMethod y_LA_star ∈ zp_G := zp_in 345 (by decide +kernel) (by decide +kernel)
theorem Yv_LA_star : Cond.selects y_LA_star.cls y_LA_star y_LA_star ∈ zp_G := zp_in 346 (by decide +kernel) (by decide +kernel)
abbrev b_St_init : ByteArray := prog_10_method_1_code
def y_St_init : MethodName := ⟨"LetterAlgebra$StarMachine", "<init>", "(LLetterAlgebra$Automaton;)V"⟩
theorem Y_St_init : zv_y y_St_init b_St_init 2 (none) 1 := ⟨zp_in 352 (by decide +kernel) (by decide +kernel), zp_in 10 (by decide +kernel) (by decide +kernel), by decide +kernel⟩
theorem Yi_St_init : Cond.instanceMethod y_St_init ∈ zp_G := zp_in 351 (by decide +kernel) (by decide +kernel)
abbrev b_LA_invert : ByteArray := prog_1_method_7_code
def y_LA_invert : MethodName := ⟨"LetterAlgebra", "invert", "(I)I"⟩
theorem Y_LA_invert : zv_y y_LA_invert b_LA_invert 2 ((some (FieldType.int))) 1 := ⟨zp_in 361 (by decide +kernel) (by decide +kernel), zp_in 1 (by decide +kernel) (by decide +kernel), by decide +kernel⟩
theorem Yi_LA_invert : Cond.instanceMethod y_LA_invert ∈ zp_G := zp_in 359 (by decide +kernel) (by decide +kernel)
theorem Yv_LA_invert : Cond.selects y_LA_invert.cls y_LA_invert y_LA_invert ∈ zp_G := zp_in 360 (by decide +kernel) (by decide +kernel)
abbrev b_In_init : ByteArray := prog_6_method_1_code
def y_In_init : MethodName := ⟨"LetterAlgebra$InverseMachine", "<init>", "(LLetterAlgebra$Automaton;)V"⟩
theorem Y_In_init : zv_y y_In_init b_In_init 2 (none) 1 := ⟨zp_in 366 (by decide +kernel) (by decide +kernel), zp_in 11 (by decide +kernel) (by decide +kernel), by decide +kernel⟩
theorem Yi_In_init : Cond.instanceMethod y_In_init ∈ zp_G := zp_in 365 (by decide +kernel) (by decide +kernel)
abbrev b_LA_forget : ByteArray := prog_1_method_8_code
def y_LA_forget : MethodName := ⟨"LetterAlgebra", "forget", "()Z"⟩
theorem Y_LA_forget : zv_y y_LA_forget b_LA_forget 1 ((some (FieldType.boolean))) 0 := ⟨zp_in 375 (by decide +kernel) (by decide +kernel), zp_in 1 (by decide +kernel) (by decide +kernel), by decide +kernel⟩
theorem Yi_LA_forget : Cond.instanceMethod y_LA_forget ∈ zp_G := zp_in 373 (by decide +kernel) (by decide +kernel)
theorem Yv_LA_forget : Cond.selects y_LA_forget.cls y_LA_forget y_LA_forget ∈ zp_G := zp_in 374 (by decide +kernel) (by decide +kernel)
abbrev b_LA_count : ByteArray := prog_1_method_9_code
def y_LA_count : MethodName := ⟨"LetterAlgebra", "count", "()I"⟩
theorem Y_LA_count : zv_y y_LA_count b_LA_count 1 ((some (FieldType.int))) 0 := ⟨zp_in 379 (by decide +kernel) (by decide +kernel), zp_in 1 (by decide +kernel) (by decide +kernel), by decide +kernel⟩
theorem Yi_LA_count : Cond.instanceMethod y_LA_count ∈ zp_G := zp_in 377 (by decide +kernel) (by decide +kernel)
theorem Yv_LA_count : Cond.selects y_LA_count.cls y_LA_count y_LA_count ∈ zp_G := zp_in 378 (by decide +kernel) (by decide +kernel)
abbrev b_LA_states : ByteArray := prog_1_method_10_code
def y_LA_states : MethodName := ⟨"LetterAlgebra", "states", "(I)I"⟩
theorem Y_LA_states : zv_y y_LA_states b_LA_states 2 ((some (FieldType.int))) 1 := ⟨zp_in 383 (by decide +kernel) (by decide +kernel), zp_in 1 (by decide +kernel) (by decide +kernel), by decide +kernel⟩
theorem Yi_LA_states : Cond.instanceMethod y_LA_states ∈ zp_G := zp_in 381 (by decide +kernel) (by decide +kernel)
theorem Yv_LA_states : Cond.selects y_LA_states.cls y_LA_states y_LA_states ∈ zp_G := zp_in 382 (by decide +kernel) (by decide +kernel)
abbrev b_LA_next : ByteArray := prog_1_method_11_code
def y_LA_next : MethodName := ⟨"LetterAlgebra", "next", "(III)I"⟩
theorem Y_LA_next : zv_y y_LA_next b_LA_next 4 ((some (FieldType.int))) 3 := ⟨zp_in 387 (by decide +kernel) (by decide +kernel), zp_in 1 (by decide +kernel) (by decide +kernel), by decide +kernel⟩
theorem Yi_LA_next : Cond.instanceMethod y_LA_next ∈ zp_G := zp_in 385 (by decide +kernel) (by decide +kernel)
theorem Yv_LA_next : Cond.selects y_LA_next.cls y_LA_next y_LA_next ∈ zp_G := zp_in 386 (by decide +kernel) (by decide +kernel)
abbrev b_Au_hasState : ByteArray := prog_3_method_2_code
def y_Au_hasState : MethodName := ⟨"LetterAlgebra$Automaton", "hasState", "(I)Z"⟩
theorem Y_Au_hasState : zv_y y_Au_hasState b_Au_hasState 2 ((some (FieldType.boolean))) 1 := ⟨zp_in 391 (by decide +kernel) (by decide +kernel), zp_in 4 (by decide +kernel) (by decide +kernel), by decide +kernel⟩
theorem Yi_Au_hasState : Cond.instanceMethod y_Au_hasState ∈ zp_G := zp_in 389 (by decide +kernel) (by decide +kernel)
theorem Yv_Au_hasState : Cond.selects y_Au_hasState.cls y_Au_hasState y_Au_hasState ∈ zp_G := zp_in 390 (by decide +kernel) (by decide +kernel)
abbrev b_LA_accepts : ByteArray := prog_1_method_12_code
def y_LA_accepts : MethodName := ⟨"LetterAlgebra", "accepts", "(II)Z"⟩
theorem Y_LA_accepts : zv_y y_LA_accepts b_LA_accepts 3 ((some (FieldType.boolean))) 2 := ⟨zp_in 396 (by decide +kernel) (by decide +kernel), zp_in 1 (by decide +kernel) (by decide +kernel), by decide +kernel⟩
theorem Yi_LA_accepts : Cond.instanceMethod y_LA_accepts ∈ zp_G := zp_in 394 (by decide +kernel) (by decide +kernel)
theorem Yv_LA_accepts : Cond.selects y_LA_accepts.cls y_LA_accepts y_LA_accepts ∈ zp_G := zp_in 395 (by decide +kernel) (by decide +kernel)
abbrev b_LA_contains : ByteArray := prog_1_method_13_code
def y_LA_contains : MethodName := ⟨"LetterAlgebra", "contains", "(IJI)Z"⟩
theorem Y_LA_contains : zv_y y_LA_contains b_LA_contains 8 ((some (FieldType.boolean))) 3 := ⟨zp_in 401 (by decide +kernel) (by decide +kernel), zp_in 1 (by decide +kernel) (by decide +kernel), by decide +kernel⟩
theorem Yi_LA_contains : Cond.instanceMethod y_LA_contains ∈ zp_G := zp_in 399 (by decide +kernel) (by decide +kernel)
theorem Yv_LA_contains : Cond.selects y_LA_contains.cls y_LA_contains y_LA_contains ∈ zp_G := zp_in 400 (by decide +kernel) (by decide +kernel)
abbrev b_LA_same : ByteArray := prog_1_method_14_code
def y_LA_same : MethodName := ⟨"LetterAlgebra", "same", "(II)Z"⟩
theorem Y_LA_same : zv_y y_LA_same b_LA_same 3 ((some (FieldType.boolean))) 2 := ⟨zp_in 405 (by decide +kernel) (by decide +kernel), zp_in 1 (by decide +kernel) (by decide +kernel), by decide +kernel⟩
theorem Yi_LA_same : Cond.instanceMethod y_LA_same ∈ zp_G := zp_in 403 (by decide +kernel) (by decide +kernel)
theorem Yv_LA_same : Cond.selects y_LA_same.cls y_LA_same y_LA_same ∈ zp_G := zp_in 404 (by decide +kernel) (by decide +kernel)
abbrev b_Au_isLike : ByteArray := prog_3_method_9_code
def y_Au_isLike : MethodName := ⟨"LetterAlgebra$Automaton", "isLike", "(LLetterAlgebra$Automaton;)Z"⟩
theorem Y_Au_isLike : zv_y y_Au_isLike b_Au_isLike 3 ((some (FieldType.boolean))) 1 := ⟨zp_in 409 (by decide +kernel) (by decide +kernel), zp_in 4 (by decide +kernel) (by decide +kernel), by decide +kernel⟩
theorem Yi_Au_isLike : Cond.instanceMethod y_Au_isLike ∈ zp_G := zp_in 407 (by decide +kernel) (by decide +kernel)
theorem Yv_Au_isLike : Cond.selects y_Au_isLike.cls y_Au_isLike y_Au_isLike ∈ zp_G := zp_in 408 (by decide +kernel) (by decide +kernel)
abbrev b_LA_study : ByteArray := prog_1_method_15_code
def y_LA_study : MethodName := ⟨"LetterAlgebra", "study", "(I)I"⟩
theorem Y_LA_study : zv_y y_LA_study b_LA_study 2 ((some (FieldType.int))) 1 := ⟨zp_in 413 (by decide +kernel) (by decide +kernel), zp_in 1 (by decide +kernel) (by decide +kernel), by decide +kernel⟩
theorem Yi_LA_study : Cond.instanceMethod y_LA_study ∈ zp_G := zp_in 411 (by decide +kernel) (by decide +kernel)
theorem Yv_LA_study : Cond.selects y_LA_study.cls y_LA_study y_LA_study ∈ zp_G := zp_in 412 (by decide +kernel) (by decide +kernel)
abbrev b_Al_workOut : ByteArray := prog_2_method_5_code
def y_Al_workOut : MethodName := ⟨"LetterAlgebra$Algebra", "workOut", "(LLetterAlgebra$Automaton;)Z"⟩
theorem Y_Al_workOut : zv_y y_Al_workOut b_Al_workOut 3 ((some (FieldType.boolean))) 1 := ⟨zp_in 417 (by decide +kernel) (by decide +kernel), zp_in 3 (by decide +kernel) (by decide +kernel), by decide +kernel⟩
theorem Yi_Al_workOut : Cond.instanceMethod y_Al_workOut ∈ zp_G := zp_in 415 (by decide +kernel) (by decide +kernel)
theorem Yv_Al_workOut : Cond.selects y_Al_workOut.cls y_Al_workOut y_Al_workOut ∈ zp_G := zp_in 416 (by decide +kernel) (by decide +kernel)
abbrev b_Al_search : ByteArray := prog_2_method_6_code
def y_Al_search : MethodName := ⟨"LetterAlgebra$Algebra", "search", "(LLetterAlgebra$Automaton;)I"⟩
theorem Y_Al_search : zv_y y_Al_search b_Al_search 7 ((some (FieldType.int))) 1 := ⟨zp_in 421 (by decide +kernel) (by decide +kernel), zp_in 3 (by decide +kernel) (by decide +kernel), by decide +kernel⟩
theorem Yi_Al_search : Cond.instanceMethod y_Al_search ∈ zp_G := zp_in 420 (by decide +kernel) (by decide +kernel)
theorem Yv_Al_search : Cond.selects y_Al_search.cls y_Al_search y_Al_search ∈ zp_G := zp_inp 11 (by decide +kernel) (by decide +kernel)
abbrev b_Au_emptyWordMap : ByteArray := prog_3_method_7_code
def y_Au_emptyWordMap : MethodName := ⟨"LetterAlgebra$Automaton", "emptyWordMap", "()I"⟩
theorem Y_Au_emptyWordMap : zv_y y_Au_emptyWordMap b_Au_emptyWordMap 3 ((some (FieldType.int))) 0 := ⟨zp_in 425 (by decide +kernel) (by decide +kernel), zp_in 4 (by decide +kernel) (by decide +kernel), by decide +kernel⟩
theorem Yi_Au_emptyWordMap : Cond.instanceMethod y_Au_emptyWordMap ∈ zp_G := zp_in 423 (by decide +kernel) (by decide +kernel)
theorem Yv_Au_emptyWordMap : Cond.selects y_Au_emptyWordMap.cls y_Au_emptyWordMap y_Au_emptyWordMap ∈ zp_G := zp_in 424 (by decide +kernel) (by decide +kernel)
abbrev b_Au_stepMap : ByteArray := prog_3_method_8_code
def y_Au_stepMap : MethodName := ⟨"LetterAlgebra$Automaton", "stepMap", "(II)I"⟩
theorem Y_Au_stepMap : zv_y y_Au_stepMap b_Au_stepMap 5 ((some (FieldType.int))) 2 := ⟨zp_in 429 (by decide +kernel) (by decide +kernel), zp_in 4 (by decide +kernel) (by decide +kernel), by decide +kernel⟩
theorem Yi_Au_stepMap : Cond.instanceMethod y_Au_stepMap ∈ zp_G := zp_in 427 (by decide +kernel) (by decide +kernel)
theorem Yv_Au_stepMap : Cond.selects y_Au_stepMap.cls y_Au_stepMap y_Au_stepMap ∈ zp_G := zp_in 428 (by decide +kernel) (by decide +kernel)
abbrev b_Al_placeOf : ByteArray := prog_2_method_7_code
def y_Al_placeOf : MethodName := ⟨"LetterAlgebra$Algebra", "placeOf", "(II)I"⟩
theorem Y_Al_placeOf : zv_y y_Al_placeOf b_Al_placeOf 4 ((some (FieldType.int))) 2 := ⟨zp_in 433 (by decide +kernel) (by decide +kernel), zp_in 3 (by decide +kernel) (by decide +kernel), by decide +kernel⟩
theorem Yi_Al_placeOf : Cond.instanceMethod y_Al_placeOf ∈ zp_G := zp_in 432 (by decide +kernel) (by decide +kernel)
theorem Yv_Al_placeOf : Cond.selects y_Al_placeOf.cls y_Al_placeOf y_Al_placeOf ∈ zp_G := zp_inp 12 (by decide +kernel) (by decide +kernel)
abbrev b_Al_keepWords : ByteArray := prog_2_method_8_code
def y_Al_keepWords : MethodName := ⟨"LetterAlgebra$Algebra", "keepWords", "()V"⟩
theorem Y_Al_keepWords : zv_y y_Al_keepWords b_Al_keepWords 2 (none) 0 := ⟨zp_in 437 (by decide +kernel) (by decide +kernel), zp_in 3 (by decide +kernel) (by decide +kernel), by decide +kernel⟩
theorem Yi_Al_keepWords : Cond.instanceMethod y_Al_keepWords ∈ zp_G := zp_in 436 (by decide +kernel) (by decide +kernel)
theorem Yv_Al_keepWords : Cond.selects y_Al_keepWords.cls y_Al_keepWords y_Al_keepWords ∈ zp_G := zp_inp 13 (by decide +kernel) (by decide +kernel)
abbrev b_Al_keepProducts : ByteArray := prog_2_method_9_code
def y_Al_keepProducts : MethodName := ⟨"LetterAlgebra$Algebra", "keepProducts", "()V"⟩
theorem Y_Al_keepProducts : zv_y y_Al_keepProducts b_Al_keepProducts 4 (none) 0 := ⟨zp_in 442 (by decide +kernel) (by decide +kernel), zp_in 3 (by decide +kernel) (by decide +kernel), by decide +kernel⟩
theorem Yi_Al_keepProducts : Cond.instanceMethod y_Al_keepProducts ∈ zp_G := zp_in 441 (by decide +kernel) (by decide +kernel)
theorem Yv_Al_keepProducts : Cond.selects y_Al_keepProducts.cls y_Al_keepProducts y_Al_keepProducts ∈ zp_G := zp_inp 14 (by decide +kernel) (by decide +kernel)
abbrev b_Al_keepSets : ByteArray := prog_2_method_10_code
def y_Al_keepSets : MethodName := ⟨"LetterAlgebra$Algebra", "keepSets", "()V"⟩
theorem Y_Al_keepSets : zv_y y_Al_keepSets b_Al_keepSets 3 (none) 0 := ⟨zp_in 446 (by decide +kernel) (by decide +kernel), zp_in 3 (by decide +kernel) (by decide +kernel), by decide +kernel⟩
theorem Yi_Al_keepSets : Cond.instanceMethod y_Al_keepSets ∈ zp_G := zp_in 445 (by decide +kernel) (by decide +kernel)
theorem Yv_Al_keepSets : Cond.selects y_Al_keepSets.cls y_Al_keepSets y_Al_keepSets ∈ zp_G := zp_inp 15 (by decide +kernel) (by decide +kernel)
abbrev b_Al_multiply : ByteArray := prog_2_method_4_code
def y_Al_multiply : MethodName := ⟨"LetterAlgebra$Algebra", "multiply", "(II)I"⟩
theorem Y_Al_multiply : zv_y y_Al_multiply b_Al_multiply 3 ((some (FieldType.int))) 2 := ⟨zp_in 450 (by decide +kernel) (by decide +kernel), zp_in 3 (by decide +kernel) (by decide +kernel), by decide +kernel⟩
theorem Yi_Al_multiply : Cond.instanceMethod y_Al_multiply ∈ zp_G := zp_in 448 (by decide +kernel) (by decide +kernel)
theorem Yv_Al_multiply : Cond.selects y_Al_multiply.cls y_Al_multiply y_Al_multiply ∈ zp_G := zp_in 449 (by decide +kernel) (by decide +kernel)
abbrev b_LA_elements : ByteArray := prog_1_method_16_code
def y_LA_elements : MethodName := ⟨"LetterAlgebra", "elements", "()I"⟩
theorem Y_LA_elements : zv_y y_LA_elements b_LA_elements 1 ((some (FieldType.int))) 0 := ⟨zp_in 454 (by decide +kernel) (by decide +kernel), zp_in 1 (by decide +kernel) (by decide +kernel), by decide +kernel⟩
theorem Yi_LA_elements : Cond.instanceMethod y_LA_elements ∈ zp_G := zp_in 452 (by decide +kernel) (by decide +kernel)
theorem Yv_LA_elements : Cond.selects y_LA_elements.cls y_LA_elements y_LA_elements ∈ zp_G := zp_in 453 (by decide +kernel) (by decide +kernel)
abbrev b_Al_isWorkedOut : ByteArray := prog_2_method_2_code
def y_Al_isWorkedOut : MethodName := ⟨"LetterAlgebra$Algebra", "isWorkedOut", "()Z"⟩
theorem Y_Al_isWorkedOut : zv_y y_Al_isWorkedOut b_Al_isWorkedOut 1 ((some (FieldType.boolean))) 0 := ⟨zp_in 458 (by decide +kernel) (by decide +kernel), zp_in 3 (by decide +kernel) (by decide +kernel), by decide +kernel⟩
theorem Yi_Al_isWorkedOut : Cond.instanceMethod y_Al_isWorkedOut ∈ zp_G := zp_in 456 (by decide +kernel) (by decide +kernel)
theorem Yv_Al_isWorkedOut : Cond.selects y_Al_isWorkedOut.cls y_Al_isWorkedOut y_Al_isWorkedOut ∈ zp_G := zp_in 457 (by decide +kernel) (by decide +kernel)
abbrev b_LA_word : ByteArray := prog_1_method_17_code
def y_LA_word : MethodName := ⟨"LetterAlgebra", "word", "(I)J"⟩
theorem Y_LA_word : zv_y y_LA_word b_LA_word 2 ((some (FieldType.long))) 1 := ⟨zp_in 462 (by decide +kernel) (by decide +kernel), zp_in 1 (by decide +kernel) (by decide +kernel), by decide +kernel⟩
theorem Yi_LA_word : Cond.instanceMethod y_LA_word ∈ zp_G := zp_in 460 (by decide +kernel) (by decide +kernel)
theorem Yv_LA_word : Cond.selects y_LA_word.cls y_LA_word y_LA_word ∈ zp_G := zp_in 461 (by decide +kernel) (by decide +kernel)
abbrev b_Al_hasElement : ByteArray := prog_2_method_3_code
def y_Al_hasElement : MethodName := ⟨"LetterAlgebra$Algebra", "hasElement", "(I)Z"⟩
theorem Y_Al_hasElement : zv_y y_Al_hasElement b_Al_hasElement 2 ((some (FieldType.boolean))) 1 := ⟨zp_in 466 (by decide +kernel) (by decide +kernel), zp_in 3 (by decide +kernel) (by decide +kernel), by decide +kernel⟩
theorem Yi_Al_hasElement : Cond.instanceMethod y_Al_hasElement ∈ zp_G := zp_in 464 (by decide +kernel) (by decide +kernel)
theorem Yv_Al_hasElement : Cond.selects y_Al_hasElement.cls y_Al_hasElement y_Al_hasElement ∈ zp_G := zp_in 465 (by decide +kernel) (by decide +kernel)
abbrev b_LA_product : ByteArray := prog_1_method_18_code
def y_LA_product : MethodName := ⟨"LetterAlgebra", "product", "(II)I"⟩
theorem Y_LA_product : zv_y y_LA_product b_LA_product 3 ((some (FieldType.int))) 2 := ⟨zp_in 471 (by decide +kernel) (by decide +kernel), zp_in 1 (by decide +kernel) (by decide +kernel), by decide +kernel⟩
theorem Yi_LA_product : Cond.instanceMethod y_LA_product ∈ zp_G := zp_in 469 (by decide +kernel) (by decide +kernel)
theorem Yv_LA_product : Cond.selects y_LA_product.cls y_LA_product y_LA_product ∈ zp_G := zp_in 470 (by decide +kernel) (by decide +kernel)
abbrev b_LA_related : ByteArray := prog_1_method_19_code
def y_LA_related : MethodName := ⟨"LetterAlgebra", "related", "(III)Z"⟩
theorem Y_LA_related : zv_y y_LA_related b_LA_related 4 ((some (FieldType.boolean))) 3 := ⟨zp_in 476 (by decide +kernel) (by decide +kernel), zp_in 1 (by decide +kernel) (by decide +kernel), by decide +kernel⟩
theorem Yi_LA_related : Cond.instanceMethod y_LA_related ∈ zp_G := zp_in 474 (by decide +kernel) (by decide +kernel)
theorem Yv_LA_related : Cond.selects y_LA_related.cls y_LA_related y_LA_related ∈ zp_G := zp_in 475 (by decide +kernel) (by decide +kernel)
abbrev b_LA_isRelation : ByteArray := prog_1_method_23_code
def y_LA_isRelation : MethodName := ⟨"LetterAlgebra", "isRelation", "(I)Z"⟩
theorem Y_LA_isRelation : zv_y y_LA_isRelation b_LA_isRelation 1 ((some (FieldType.boolean))) 1 := ⟨zp_in 479 (by decide +kernel) (by decide +kernel), zp_in 1 (by decide +kernel) (by decide +kernel), by decide +kernel⟩
theorem Ys_LA_isRelation : Cond.static y_LA_isRelation ∈ zp_G := zp_in 478 (by decide +kernel) (by decide +kernel)
abbrev b_Al_areRelated : ByteArray := prog_2_method_11_code
def y_Al_areRelated : MethodName := ⟨"LetterAlgebra$Algebra", "areRelated", "(III)Z"⟩
theorem Y_Al_areRelated : zv_y y_Al_areRelated b_Al_areRelated 4 ((some (FieldType.boolean))) 3 := ⟨zp_in 483 (by decide +kernel) (by decide +kernel), zp_in 3 (by decide +kernel) (by decide +kernel), by decide +kernel⟩
theorem Yi_Al_areRelated : Cond.instanceMethod y_Al_areRelated ∈ zp_G := zp_in 481 (by decide +kernel) (by decide +kernel)
theorem Yv_Al_areRelated : Cond.selects y_Al_areRelated.cls y_Al_areRelated y_Al_areRelated ∈ zp_G := zp_in 482 (by decide +kernel) (by decide +kernel)
abbrev b_LA_classes : ByteArray := prog_1_method_20_code
def y_LA_classes : MethodName := ⟨"LetterAlgebra", "classes", "(I)I"⟩
theorem Y_LA_classes : zv_y y_LA_classes b_LA_classes 2 ((some (FieldType.int))) 1 := ⟨zp_in 487 (by decide +kernel) (by decide +kernel), zp_in 1 (by decide +kernel) (by decide +kernel), by decide +kernel⟩
theorem Yi_LA_classes : Cond.instanceMethod y_LA_classes ∈ zp_G := zp_in 485 (by decide +kernel) (by decide +kernel)
theorem Yv_LA_classes : Cond.selects y_LA_classes.cls y_LA_classes y_LA_classes ∈ zp_G := zp_in 486 (by decide +kernel) (by decide +kernel)
abbrev b_Al_countClasses : ByteArray := prog_2_method_12_code
def y_Al_countClasses : MethodName := ⟨"LetterAlgebra$Algebra", "countClasses", "(I)I"⟩
theorem Y_Al_countClasses : zv_y y_Al_countClasses b_Al_countClasses 4 ((some (FieldType.int))) 1 := ⟨zp_in 491 (by decide +kernel) (by decide +kernel), zp_in 3 (by decide +kernel) (by decide +kernel), by decide +kernel⟩
theorem Yi_Al_countClasses : Cond.instanceMethod y_Al_countClasses ∈ zp_G := zp_in 489 (by decide +kernel) (by decide +kernel)
theorem Yv_Al_countClasses : Cond.selects y_Al_countClasses.cls y_Al_countClasses y_Al_countClasses ∈ zp_G := zp_in 490 (by decide +kernel) (by decide +kernel)
abbrev b_Al_isFirstOfClass : ByteArray := prog_2_method_13_code
def y_Al_isFirstOfClass : MethodName := ⟨"LetterAlgebra$Algebra", "isFirstOfClass", "(II)Z"⟩
theorem Y_Al_isFirstOfClass : zv_y y_Al_isFirstOfClass b_Al_isFirstOfClass 4 ((some (FieldType.boolean))) 2 := ⟨zp_in 495 (by decide +kernel) (by decide +kernel), zp_in 3 (by decide +kernel) (by decide +kernel), by decide +kernel⟩
theorem Yi_Al_isFirstOfClass : Cond.instanceMethod y_Al_isFirstOfClass ∈ zp_G := zp_in 494 (by decide +kernel) (by decide +kernel)
theorem Yv_Al_isFirstOfClass : Cond.selects y_Al_isFirstOfClass.cls y_Al_isFirstOfClass y_Al_isFirstOfClass ∈ zp_G := zp_inp 16 (by decide +kernel) (by decide +kernel)
abbrev b_LA_witness : ByteArray := prog_1_method_21_code
def y_LA_witness : MethodName := ⟨"LetterAlgebra", "witness", "(I)I"⟩
theorem Y_LA_witness : zv_y y_LA_witness b_LA_witness 4 ((some (FieldType.int))) 1 := ⟨zp_in 500 (by decide +kernel) (by decide +kernel), zp_in 1 (by decide +kernel) (by decide +kernel), by decide +kernel⟩
theorem Yi_LA_witness : Cond.instanceMethod y_LA_witness ∈ zp_G := zp_in 498 (by decide +kernel) (by decide +kernel)
theorem Yv_LA_witness : Cond.selects y_LA_witness.cls y_LA_witness y_LA_witness ∈ zp_G := zp_in 499 (by decide +kernel) (by decide +kernel)
abbrev b_Al_isAgainst : ByteArray := prog_2_method_14_code
def y_Al_isAgainst : MethodName := ⟨"LetterAlgebra$Algebra", "isAgainst", "(III)Z"⟩
theorem Y_Al_isAgainst : zv_y y_Al_isAgainst b_Al_isAgainst 4 ((some (FieldType.boolean))) 3 := ⟨zp_in 504 (by decide +kernel) (by decide +kernel), zp_in 3 (by decide +kernel) (by decide +kernel), by decide +kernel⟩
theorem Yi_Al_isAgainst : Cond.instanceMethod y_Al_isAgainst ∈ zp_G := zp_in 502 (by decide +kernel) (by decide +kernel)
theorem Yv_Al_isAgainst : Cond.selects y_Al_isAgainst.cls y_Al_isAgainst y_Al_isAgainst ∈ zp_G := zp_in 503 (by decide +kernel) (by decide +kernel)
abbrev b_Mo_init : ByteArray := prog_12_method_1_code
def y_Mo_init : MethodName := ⟨"LetterAlgebraModel", "<init>", "()V"⟩
theorem Y_Mo_init : zv_y y_Mo_init b_Mo_init 1 (none) 0 := ⟨zp_in 509 (by decide +kernel) (by decide +kernel), zp_in 5 (by decide +kernel) (by decide +kernel), by decide +kernel⟩
theorem Yi_Mo_init : Cond.instanceMethod y_Mo_init ∈ zp_G := zp_in 508 (by decide +kernel) (by decide +kernel)
abbrev b_Mo_basic : ByteArray := prog_12_method_15_code
def y_Mo_basic : MethodName := ⟨"LetterAlgebraModel", "basic", "(I)I"⟩
theorem Y_Mo_basic : zv_y y_Mo_basic b_Mo_basic 2 ((some (FieldType.int))) 1 := ⟨zp_in 573 (by decide +kernel) (by decide +kernel), zp_in 5 (by decide +kernel) (by decide +kernel), by decide +kernel⟩
theorem Yi_Mo_basic : Cond.instanceMethod y_Mo_basic ∈ zp_G := zp_in 571 (by decide +kernel) (by decide +kernel)
theorem Yv_Mo_basic : Cond.selects y_Mo_basic.cls y_Mo_basic y_Mo_basic ∈ zp_G := zp_in 572 (by decide +kernel) (by decide +kernel)
abbrev b_Mo_make : ByteArray := prog_12_method_14_code
def y_Mo_make : MethodName := ⟨"LetterAlgebraModel", "make", "(III)I"⟩
theorem Y_Mo_make : zv_y y_Mo_make b_Mo_make 10 ((some (FieldType.int))) 3 := ⟨zp_in 577 (by decide +kernel) (by decide +kernel), zp_in 5 (by decide +kernel) (by decide +kernel), by decide +kernel⟩
theorem Yi_Mo_make : Cond.instanceMethod y_Mo_make ∈ zp_G := zp_in 576 (by decide +kernel) (by decide +kernel)
theorem Yv_Mo_make : Cond.selects y_Mo_make.cls y_Mo_make y_Mo_make ∈ zp_G := zp_inp 17 (by decide +kernel) (by decide +kernel)
abbrev b_Mo_listen : ByteArray := prog_12_method_12_code
def y_Mo_listen : MethodName := ⟨"LetterAlgebraModel", "listen", "()V"⟩
theorem Y_Mo_listen : zv_y y_Mo_listen b_Mo_listen 9 (none) 0 := ⟨zp_in 581 (by decide +kernel) (by decide +kernel), zp_in 5 (by decide +kernel) (by decide +kernel), by decide +kernel⟩
theorem Yi_Mo_listen : Cond.instanceMethod y_Mo_listen ∈ zp_G := zp_in 580 (by decide +kernel) (by decide +kernel)
theorem Yv_Mo_listen : Cond.selects y_Mo_listen.cls y_Mo_listen y_Mo_listen ∈ zp_G := zp_inp 18 (by decide +kernel) (by decide +kernel)
abbrev b_Mo_codes : ByteArray := prog_12_method_11_code
def y_Mo_codes : MethodName := ⟨"LetterAlgebraModel", "codes", "()I"⟩
theorem Y_Mo_codes : zv_y y_Mo_codes b_Mo_codes 1 ((some (FieldType.int))) 0 := ⟨zp_in 585 (by decide +kernel) (by decide +kernel), zp_in 5 (by decide +kernel) (by decide +kernel), by decide +kernel⟩
theorem Yi_Mo_codes : Cond.instanceMethod y_Mo_codes ∈ zp_G := zp_in 584 (by decide +kernel) (by decide +kernel)
theorem Yv_Mo_codes : Cond.selects y_Mo_codes.cls y_Mo_codes y_Mo_codes ∈ zp_G := zp_inp 19 (by decide +kernel) (by decide +kernel)
abbrev b_Mo_accepted : ByteArray := prog_12_method_7_code
def y_Mo_accepted : MethodName := ⟨"LetterAlgebraModel", "accepted", "(I)Z"⟩
theorem Y_Mo_accepted : zv_y y_Mo_accepted b_Mo_accepted 2 ((some (FieldType.boolean))) 1 := ⟨zp_in 589 (by decide +kernel) (by decide +kernel), zp_in 5 (by decide +kernel) (by decide +kernel), by decide +kernel⟩
theorem Yi_Mo_accepted : Cond.instanceMethod y_Mo_accepted ∈ zp_G := zp_in 588 (by decide +kernel) (by decide +kernel)
theorem Yv_Mo_accepted : Cond.selects y_Mo_accepted.cls y_Mo_accepted y_Mo_accepted ∈ zp_G := zp_inp 20 (by decide +kernel) (by decide +kernel)
abbrev b_Mo_isGood : ByteArray := prog_12_method_4_code
def y_Mo_isGood : MethodName := ⟨"LetterAlgebraModel", "isGood", "(II)Z"⟩
theorem Y_Mo_isGood : zv_y y_Mo_isGood b_Mo_isGood 3 ((some (FieldType.boolean))) 2 := ⟨zp_in 593 (by decide +kernel) (by decide +kernel), zp_in 5 (by decide +kernel) (by decide +kernel), by decide +kernel⟩
theorem Yi_Mo_isGood : Cond.instanceMethod y_Mo_isGood ∈ zp_G := zp_in 592 (by decide +kernel) (by decide +kernel)
theorem Yv_Mo_isGood : Cond.selects y_Mo_isGood.cls y_Mo_isGood y_Mo_isGood ∈ zp_G := zp_inp 21 (by decide +kernel) (by decide +kernel)
abbrev b_Mo_nextCode : ByteArray := prog_12_method_10_code
def y_Mo_nextCode : MethodName := ⟨"LetterAlgebraModel", "nextCode", "(II)I"⟩
theorem Y_Mo_nextCode : zv_y y_Mo_nextCode b_Mo_nextCode 3 ((some (FieldType.int))) 2 := ⟨zp_in 597 (by decide +kernel) (by decide +kernel), zp_in 5 (by decide +kernel) (by decide +kernel), by decide +kernel⟩
theorem Yi_Mo_nextCode : Cond.instanceMethod y_Mo_nextCode ∈ zp_G := zp_in 596 (by decide +kernel) (by decide +kernel)
theorem Yv_Mo_nextCode : Cond.selects y_Mo_nextCode.cls y_Mo_nextCode y_Mo_nextCode ∈ zp_G := zp_inp 22 (by decide +kernel) (by decide +kernel)
abbrev b_Mo_step : ByteArray := prog_12_method_3_code
def y_Mo_step : MethodName := ⟨"LetterAlgebraModel", "step", "(III)I"⟩
theorem Y_Mo_step : zv_y y_Mo_step b_Mo_step 4 ((some (FieldType.int))) 3 := ⟨zp_in 601 (by decide +kernel) (by decide +kernel), zp_in 5 (by decide +kernel) (by decide +kernel), by decide +kernel⟩
theorem Yi_Mo_step : Cond.instanceMethod y_Mo_step ∈ zp_G := zp_in 600 (by decide +kernel) (by decide +kernel)
theorem Yv_Mo_step : Cond.selects y_Mo_step.cls y_Mo_step y_Mo_step ∈ zp_G := zp_inp 23 (by decide +kernel) (by decide +kernel)
abbrev b_Mo_chained : ByteArray := prog_12_method_8_code
def y_Mo_chained : MethodName := ⟨"LetterAlgebraModel", "chained", "(II)I"⟩
theorem Y_Mo_chained : zv_y y_Mo_chained b_Mo_chained 5 ((some (FieldType.int))) 2 := ⟨zp_in 605 (by decide +kernel) (by decide +kernel), zp_in 5 (by decide +kernel) (by decide +kernel), by decide +kernel⟩
theorem Yi_Mo_chained : Cond.instanceMethod y_Mo_chained ∈ zp_G := zp_in 604 (by decide +kernel) (by decide +kernel)
theorem Yv_Mo_chained : Cond.selects y_Mo_chained.cls y_Mo_chained y_Mo_chained ∈ zp_G := zp_inp 24 (by decide +kernel) (by decide +kernel)
abbrev b_Mo_image : ByteArray := prog_12_method_5_code
def y_Mo_image : MethodName := ⟨"LetterAlgebraModel", "image", "(III)I"⟩
theorem Y_Mo_image : zv_y y_Mo_image b_Mo_image 6 ((some (FieldType.int))) 3 := ⟨zp_in 609 (by decide +kernel) (by decide +kernel), zp_in 5 (by decide +kernel) (by decide +kernel), by decide +kernel⟩
theorem Yi_Mo_image : Cond.instanceMethod y_Mo_image ∈ zp_G := zp_in 608 (by decide +kernel) (by decide +kernel)
theorem Yv_Mo_image : Cond.selects y_Mo_image.cls y_Mo_image y_Mo_image ∈ zp_G := zp_inp 25 (by decide +kernel) (by decide +kernel)
abbrev b_Mo_starred : ByteArray := prog_12_method_9_code
def y_Mo_starred : MethodName := ⟨"LetterAlgebraModel", "starred", "(II)I"⟩
theorem Y_Mo_starred : zv_y y_Mo_starred b_Mo_starred 4 ((some (FieldType.int))) 2 := ⟨zp_in 613 (by decide +kernel) (by decide +kernel), zp_in 5 (by decide +kernel) (by decide +kernel), by decide +kernel⟩
theorem Yi_Mo_starred : Cond.instanceMethod y_Mo_starred ∈ zp_G := zp_in 612 (by decide +kernel) (by decide +kernel)
theorem Yv_Mo_starred : Cond.selects y_Mo_starred.cls y_Mo_starred y_Mo_starred ∈ zp_G := zp_inp 26 (by decide +kernel) (by decide +kernel)
abbrev b_Mo_said : ByteArray := prog_12_method_13_code
def y_Mo_said : MethodName := ⟨"LetterAlgebraModel", "said", "()I"⟩
theorem Y_Mo_said : zv_y y_Mo_said b_Mo_said 7 ((some (FieldType.int))) 0 := ⟨zp_in 617 (by decide +kernel) (by decide +kernel), zp_in 5 (by decide +kernel) (by decide +kernel), by decide +kernel⟩
theorem Yi_Mo_said : Cond.instanceMethod y_Mo_said ∈ zp_G := zp_in 616 (by decide +kernel) (by decide +kernel)
theorem Yv_Mo_said : Cond.selects y_Mo_said.cls y_Mo_said y_Mo_said ∈ zp_G := zp_inp 27 (by decide +kernel) (by decide +kernel)
abbrev b_Mo_startCode : ByteArray := prog_12_method_6_code
def y_Mo_startCode : MethodName := ⟨"LetterAlgebraModel", "startCode", "()I"⟩
theorem Y_Mo_startCode : zv_y y_Mo_startCode b_Mo_startCode 1 ((some (FieldType.int))) 0 := ⟨zp_in 621 (by decide +kernel) (by decide +kernel), zp_in 5 (by decide +kernel) (by decide +kernel), by decide +kernel⟩
theorem Yi_Mo_startCode : Cond.instanceMethod y_Mo_startCode ∈ zp_G := zp_in 620 (by decide +kernel) (by decide +kernel)
theorem Yv_Mo_startCode : Cond.selects y_Mo_startCode.cls y_Mo_startCode y_Mo_startCode ∈ zp_G := zp_inp 28 (by decide +kernel) (by decide +kernel)
abbrev b_Mo_unite : ByteArray := prog_12_method_17_code
def y_Mo_unite : MethodName := ⟨"LetterAlgebraModel", "unite", "(II)I"⟩
theorem Y_Mo_unite : zv_y y_Mo_unite b_Mo_unite 3 ((some (FieldType.int))) 2 := ⟨zp_in 625 (by decide +kernel) (by decide +kernel), zp_in 5 (by decide +kernel) (by decide +kernel), by decide +kernel⟩
theorem Yi_Mo_unite : Cond.instanceMethod y_Mo_unite ∈ zp_G := zp_in 623 (by decide +kernel) (by decide +kernel)
theorem Yv_Mo_unite : Cond.selects y_Mo_unite.cls y_Mo_unite y_Mo_unite ∈ zp_G := zp_in 624 (by decide +kernel) (by decide +kernel)
abbrev b_Mo_both : ByteArray := prog_12_method_16_code
def y_Mo_both : MethodName := ⟨"LetterAlgebraModel", "both", "(III)I"⟩
theorem Y_Mo_both : zv_y y_Mo_both b_Mo_both 4 ((some (FieldType.int))) 3 := ⟨zp_in 629 (by decide +kernel) (by decide +kernel), zp_in 5 (by decide +kernel) (by decide +kernel), by decide +kernel⟩
theorem Yi_Mo_both : Cond.instanceMethod y_Mo_both ∈ zp_G := zp_in 628 (by decide +kernel) (by decide +kernel)
theorem Yv_Mo_both : Cond.selects y_Mo_both.cls y_Mo_both y_Mo_both ∈ zp_G := zp_inp 29 (by decide +kernel) (by decide +kernel)
abbrev b_Mo_isIn : ByteArray := prog_12_method_2_code
def y_Mo_isIn : MethodName := ⟨"LetterAlgebraModel", "isIn", "(I)Z"⟩
theorem Y_Mo_isIn : zv_y y_Mo_isIn b_Mo_isIn 2 ((some (FieldType.boolean))) 1 := ⟨zp_in 633 (by decide +kernel) (by decide +kernel), zp_in 5 (by decide +kernel) (by decide +kernel), by decide +kernel⟩
theorem Yi_Mo_isIn : Cond.instanceMethod y_Mo_isIn ∈ zp_G := zp_in 632 (by decide +kernel) (by decide +kernel)
theorem Yv_Mo_isIn : Cond.selects y_Mo_isIn.cls y_Mo_isIn y_Mo_isIn ∈ zp_G := zp_inp 30 (by decide +kernel) (by decide +kernel)
abbrev b_Mo_meet : ByteArray := prog_12_method_18_code
def y_Mo_meet : MethodName := ⟨"LetterAlgebraModel", "meet", "(II)I"⟩
theorem Y_Mo_meet : zv_y y_Mo_meet b_Mo_meet 3 ((some (FieldType.int))) 2 := ⟨zp_in 637 (by decide +kernel) (by decide +kernel), zp_in 5 (by decide +kernel) (by decide +kernel), by decide +kernel⟩
theorem Yi_Mo_meet : Cond.instanceMethod y_Mo_meet ∈ zp_G := zp_in 635 (by decide +kernel) (by decide +kernel)
theorem Yv_Mo_meet : Cond.selects y_Mo_meet.cls y_Mo_meet y_Mo_meet ∈ zp_G := zp_in 636 (by decide +kernel) (by decide +kernel)
abbrev b_Mo_chain : ByteArray := prog_12_method_19_code
def y_Mo_chain : MethodName := ⟨"LetterAlgebraModel", "chain", "(II)I"⟩
theorem Y_Mo_chain : zv_y y_Mo_chain b_Mo_chain 3 ((some (FieldType.int))) 2 := ⟨zp_in 641 (by decide +kernel) (by decide +kernel), zp_in 5 (by decide +kernel) (by decide +kernel), by decide +kernel⟩
theorem Yi_Mo_chain : Cond.instanceMethod y_Mo_chain ∈ zp_G := zp_in 639 (by decide +kernel) (by decide +kernel)
theorem Yv_Mo_chain : Cond.selects y_Mo_chain.cls y_Mo_chain y_Mo_chain ∈ zp_G := zp_in 640 (by decide +kernel) (by decide +kernel)
abbrev b_Mo_star : ByteArray := prog_12_method_20_code
def y_Mo_star : MethodName := ⟨"LetterAlgebraModel", "star", "(I)I"⟩
theorem Y_Mo_star : zv_y y_Mo_star b_Mo_star 2 ((some (FieldType.int))) 1 := ⟨zp_in 645 (by decide +kernel) (by decide +kernel), zp_in 5 (by decide +kernel) (by decide +kernel), by decide +kernel⟩
theorem Yi_Mo_star : Cond.instanceMethod y_Mo_star ∈ zp_G := zp_in 643 (by decide +kernel) (by decide +kernel)
theorem Yv_Mo_star : Cond.selects y_Mo_star.cls y_Mo_star y_Mo_star ∈ zp_G := zp_in 644 (by decide +kernel) (by decide +kernel)
abbrev b_Mo_invert : ByteArray := prog_12_method_21_code
def y_Mo_invert : MethodName := ⟨"LetterAlgebraModel", "invert", "(I)I"⟩
theorem Y_Mo_invert : zv_y y_Mo_invert b_Mo_invert 2 ((some (FieldType.int))) 1 := ⟨zp_in 649 (by decide +kernel) (by decide +kernel), zp_in 5 (by decide +kernel) (by decide +kernel), by decide +kernel⟩
theorem Yi_Mo_invert : Cond.instanceMethod y_Mo_invert ∈ zp_G := zp_in 647 (by decide +kernel) (by decide +kernel)
theorem Yv_Mo_invert : Cond.selects y_Mo_invert.cls y_Mo_invert y_Mo_invert ∈ zp_G := zp_in 648 (by decide +kernel) (by decide +kernel)
abbrev b_Mo_forget : ByteArray := prog_12_method_22_code
def y_Mo_forget : MethodName := ⟨"LetterAlgebraModel", "forget", "()Z"⟩
theorem Y_Mo_forget : zv_y y_Mo_forget b_Mo_forget 1 ((some (FieldType.boolean))) 0 := ⟨zp_in 653 (by decide +kernel) (by decide +kernel), zp_in 5 (by decide +kernel) (by decide +kernel), by decide +kernel⟩
theorem Yi_Mo_forget : Cond.instanceMethod y_Mo_forget ∈ zp_G := zp_in 651 (by decide +kernel) (by decide +kernel)
theorem Yv_Mo_forget : Cond.selects y_Mo_forget.cls y_Mo_forget y_Mo_forget ∈ zp_G := zp_in 652 (by decide +kernel) (by decide +kernel)
abbrev b_Mo_count : ByteArray := prog_12_method_23_code
def y_Mo_count : MethodName := ⟨"LetterAlgebraModel", "count", "()I"⟩
theorem Y_Mo_count : zv_y y_Mo_count b_Mo_count 1 ((some (FieldType.int))) 0 := ⟨zp_in 657 (by decide +kernel) (by decide +kernel), zp_in 5 (by decide +kernel) (by decide +kernel), by decide +kernel⟩
theorem Yi_Mo_count : Cond.instanceMethod y_Mo_count ∈ zp_G := zp_in 655 (by decide +kernel) (by decide +kernel)
theorem Yv_Mo_count : Cond.selects y_Mo_count.cls y_Mo_count y_Mo_count ∈ zp_G := zp_in 656 (by decide +kernel) (by decide +kernel)
abbrev b_Mo_states : ByteArray := prog_12_method_24_code
def y_Mo_states : MethodName := ⟨"LetterAlgebraModel", "states", "(I)I"⟩
theorem Y_Mo_states : zv_y y_Mo_states b_Mo_states 2 ((some (FieldType.int))) 1 := ⟨zp_in 661 (by decide +kernel) (by decide +kernel), zp_in 5 (by decide +kernel) (by decide +kernel), by decide +kernel⟩
theorem Yi_Mo_states : Cond.instanceMethod y_Mo_states ∈ zp_G := zp_in 659 (by decide +kernel) (by decide +kernel)
theorem Yv_Mo_states : Cond.selects y_Mo_states.cls y_Mo_states y_Mo_states ∈ zp_G := zp_in 660 (by decide +kernel) (by decide +kernel)
abbrev b_Mo_next : ByteArray := prog_12_method_26_code
def y_Mo_next : MethodName := ⟨"LetterAlgebraModel", "next", "(III)I"⟩
theorem Y_Mo_next : zv_y y_Mo_next b_Mo_next 4 ((some (FieldType.int))) 3 := ⟨zp_in 665 (by decide +kernel) (by decide +kernel), zp_in 5 (by decide +kernel) (by decide +kernel), by decide +kernel⟩
theorem Yi_Mo_next : Cond.instanceMethod y_Mo_next ∈ zp_G := zp_in 663 (by decide +kernel) (by decide +kernel)
theorem Yv_Mo_next : Cond.selects y_Mo_next.cls y_Mo_next y_Mo_next ∈ zp_G := zp_in 664 (by decide +kernel) (by decide +kernel)
abbrev b_Mo_isState : ByteArray := prog_12_method_25_code
def y_Mo_isState : MethodName := ⟨"LetterAlgebraModel", "isState", "(II)Z"⟩
theorem Y_Mo_isState : zv_y y_Mo_isState b_Mo_isState 3 ((some (FieldType.boolean))) 2 := ⟨zp_in 669 (by decide +kernel) (by decide +kernel), zp_in 5 (by decide +kernel) (by decide +kernel), by decide +kernel⟩
theorem Yi_Mo_isState : Cond.instanceMethod y_Mo_isState ∈ zp_G := zp_in 668 (by decide +kernel) (by decide +kernel)
theorem Yv_Mo_isState : Cond.selects y_Mo_isState.cls y_Mo_isState y_Mo_isState ∈ zp_G := zp_inp 31 (by decide +kernel) (by decide +kernel)
abbrev b_Mo_accepts : ByteArray := prog_12_method_27_code
def y_Mo_accepts : MethodName := ⟨"LetterAlgebraModel", "accepts", "(II)Z"⟩
theorem Y_Mo_accepts : zv_y y_Mo_accepts b_Mo_accepts 3 ((some (FieldType.boolean))) 2 := ⟨zp_in 673 (by decide +kernel) (by decide +kernel), zp_in 5 (by decide +kernel) (by decide +kernel), by decide +kernel⟩
theorem Yi_Mo_accepts : Cond.instanceMethod y_Mo_accepts ∈ zp_G := zp_in 671 (by decide +kernel) (by decide +kernel)
theorem Yv_Mo_accepts : Cond.selects y_Mo_accepts.cls y_Mo_accepts y_Mo_accepts ∈ zp_G := zp_in 672 (by decide +kernel) (by decide +kernel)
abbrev b_Mo_contains : ByteArray := prog_12_method_28_code
def y_Mo_contains : MethodName := ⟨"LetterAlgebraModel", "contains", "(IJI)Z"⟩
theorem Y_Mo_contains : zv_y y_Mo_contains b_Mo_contains 7 ((some (FieldType.boolean))) 3 := ⟨zp_in 677 (by decide +kernel) (by decide +kernel), zp_in 5 (by decide +kernel) (by decide +kernel), by decide +kernel⟩
theorem Yi_Mo_contains : Cond.instanceMethod y_Mo_contains ∈ zp_G := zp_in 675 (by decide +kernel) (by decide +kernel)
theorem Yv_Mo_contains : Cond.selects y_Mo_contains.cls y_Mo_contains y_Mo_contains ∈ zp_G := zp_in 676 (by decide +kernel) (by decide +kernel)
abbrev b_Mo_same : ByteArray := prog_12_method_29_code
def y_Mo_same : MethodName := ⟨"LetterAlgebraModel", "same", "(II)Z"⟩
theorem Y_Mo_same : zv_y y_Mo_same b_Mo_same 7 ((some (FieldType.boolean))) 2 := ⟨zp_in 681 (by decide +kernel) (by decide +kernel), zp_in 5 (by decide +kernel) (by decide +kernel), by decide +kernel⟩
theorem Yi_Mo_same : Cond.instanceMethod y_Mo_same ∈ zp_G := zp_in 679 (by decide +kernel) (by decide +kernel)
theorem Yv_Mo_same : Cond.selects y_Mo_same.cls y_Mo_same y_Mo_same ∈ zp_G := zp_in 680 (by decide +kernel) (by decide +kernel)
abbrev b_Mo_study : ByteArray := prog_12_method_34_code
def y_Mo_study : MethodName := ⟨"LetterAlgebraModel", "study", "(I)I"⟩
theorem Y_Mo_study : zv_y y_Mo_study b_Mo_study 8 ((some (FieldType.int))) 1 := ⟨zp_in 685 (by decide +kernel) (by decide +kernel), zp_in 5 (by decide +kernel) (by decide +kernel), by decide +kernel⟩
theorem Yi_Mo_study : Cond.instanceMethod y_Mo_study ∈ zp_G := zp_in 683 (by decide +kernel) (by decide +kernel)
theorem Yv_Mo_study : Cond.selects y_Mo_study.cls y_Mo_study y_Mo_study ∈ zp_G := zp_in 684 (by decide +kernel) (by decide +kernel)
abbrev b_Mo_grow : ByteArray := prog_12_method_33_code
def y_Mo_grow : MethodName := ⟨"LetterAlgebraModel", "grow", "(I)I"⟩
theorem Y_Mo_grow : zv_y y_Mo_grow b_Mo_grow 7 ((some (FieldType.int))) 1 := ⟨zp_in 689 (by decide +kernel) (by decide +kernel), zp_in 5 (by decide +kernel) (by decide +kernel), by decide +kernel⟩
theorem Yi_Mo_grow : Cond.instanceMethod y_Mo_grow ∈ zp_G := zp_in 688 (by decide +kernel) (by decide +kernel)
theorem Yv_Mo_grow : Cond.selects y_Mo_grow.cls y_Mo_grow y_Mo_grow ∈ zp_G := zp_inp 32 (by decide +kernel) (by decide +kernel)
abbrev b_Mo_power : ByteArray := prog_12_method_30_code
def y_Mo_power : MethodName := ⟨"LetterAlgebraModel", "power", "(I)I"⟩
theorem Y_Mo_power : zv_y y_Mo_power b_Mo_power 3 ((some (FieldType.int))) 1 := ⟨zp_in 692 (by decide +kernel) (by decide +kernel), zp_in 5 (by decide +kernel) (by decide +kernel), by decide +kernel⟩
theorem Ys_Mo_power : Cond.static y_Mo_power ∈ zp_G := zp_in 691 (by decide +kernel) (by decide +kernel)
abbrev b_Mo_behind : ByteArray := prog_12_method_31_code
def y_Mo_behind : MethodName := ⟨"LetterAlgebraModel", "behind", "(IIII)I"⟩
theorem Y_Mo_behind : zv_y y_Mo_behind b_Mo_behind 8 ((some (FieldType.int))) 4 := ⟨zp_in 696 (by decide +kernel) (by decide +kernel), zp_in 5 (by decide +kernel) (by decide +kernel), by decide +kernel⟩
theorem Yi_Mo_behind : Cond.instanceMethod y_Mo_behind ∈ zp_G := zp_in 695 (by decide +kernel) (by decide +kernel)
theorem Yv_Mo_behind : Cond.selects y_Mo_behind.cls y_Mo_behind y_Mo_behind ∈ zp_G := zp_inp 33 (by decide +kernel) (by decide +kernel)
abbrev b_Mo_find : ByteArray := prog_12_method_32_code
def y_Mo_find : MethodName := ⟨"LetterAlgebraModel", "find", "(II)I"⟩
theorem Y_Mo_find : zv_y y_Mo_find b_Mo_find 4 ((some (FieldType.int))) 2 := ⟨zp_in 700 (by decide +kernel) (by decide +kernel), zp_in 5 (by decide +kernel) (by decide +kernel), by decide +kernel⟩
theorem Yi_Mo_find : Cond.instanceMethod y_Mo_find ∈ zp_G := zp_in 699 (by decide +kernel) (by decide +kernel)
theorem Yv_Mo_find : Cond.selects y_Mo_find.cls y_Mo_find y_Mo_find ∈ zp_G := zp_inp 34 (by decide +kernel) (by decide +kernel)
abbrev b_Mo_elements : ByteArray := prog_12_method_36_code
def y_Mo_elements : MethodName := ⟨"LetterAlgebraModel", "elements", "()I"⟩
theorem Y_Mo_elements : zv_y y_Mo_elements b_Mo_elements 1 ((some (FieldType.int))) 0 := ⟨zp_in 705 (by decide +kernel) (by decide +kernel), zp_in 5 (by decide +kernel) (by decide +kernel), by decide +kernel⟩
theorem Yi_Mo_elements : Cond.instanceMethod y_Mo_elements ∈ zp_G := zp_in 703 (by decide +kernel) (by decide +kernel)
theorem Yv_Mo_elements : Cond.selects y_Mo_elements.cls y_Mo_elements y_Mo_elements ∈ zp_G := zp_in 704 (by decide +kernel) (by decide +kernel)
abbrev b_Mo_word : ByteArray := prog_12_method_37_code
def y_Mo_word : MethodName := ⟨"LetterAlgebraModel", "word", "(I)J"⟩
theorem Y_Mo_word : zv_y y_Mo_word b_Mo_word 2 ((some (FieldType.long))) 1 := ⟨zp_in 709 (by decide +kernel) (by decide +kernel), zp_in 5 (by decide +kernel) (by decide +kernel), by decide +kernel⟩
theorem Yi_Mo_word : Cond.instanceMethod y_Mo_word ∈ zp_G := zp_in 707 (by decide +kernel) (by decide +kernel)
theorem Yv_Mo_word : Cond.selects y_Mo_word.cls y_Mo_word y_Mo_word ∈ zp_G := zp_in 708 (by decide +kernel) (by decide +kernel)
abbrev b_Mo_isElement : ByteArray := prog_12_method_35_code
def y_Mo_isElement : MethodName := ⟨"LetterAlgebraModel", "isElement", "(I)Z"⟩
theorem Y_Mo_isElement : zv_y y_Mo_isElement b_Mo_isElement 2 ((some (FieldType.boolean))) 1 := ⟨zp_in 713 (by decide +kernel) (by decide +kernel), zp_in 5 (by decide +kernel) (by decide +kernel), by decide +kernel⟩
theorem Yi_Mo_isElement : Cond.instanceMethod y_Mo_isElement ∈ zp_G := zp_in 712 (by decide +kernel) (by decide +kernel)
theorem Yv_Mo_isElement : Cond.selects y_Mo_isElement.cls y_Mo_isElement y_Mo_isElement ∈ zp_G := zp_inp 35 (by decide +kernel) (by decide +kernel)
abbrev b_Mo_product : ByteArray := prog_12_method_38_code
def y_Mo_product : MethodName := ⟨"LetterAlgebraModel", "product", "(II)I"⟩
theorem Y_Mo_product : zv_y y_Mo_product b_Mo_product 3 ((some (FieldType.int))) 2 := ⟨zp_in 718 (by decide +kernel) (by decide +kernel), zp_in 5 (by decide +kernel) (by decide +kernel), by decide +kernel⟩
theorem Yi_Mo_product : Cond.instanceMethod y_Mo_product ∈ zp_G := zp_in 716 (by decide +kernel) (by decide +kernel)
theorem Yv_Mo_product : Cond.selects y_Mo_product.cls y_Mo_product y_Mo_product ∈ zp_G := zp_in 717 (by decide +kernel) (by decide +kernel)
abbrev b_Mo_related : ByteArray := prog_12_method_42_code
def y_Mo_related : MethodName := ⟨"LetterAlgebraModel", "related", "(III)Z"⟩
theorem Y_Mo_related : zv_y y_Mo_related b_Mo_related 6 ((some (FieldType.boolean))) 3 := ⟨zp_in 722 (by decide +kernel) (by decide +kernel), zp_in 5 (by decide +kernel) (by decide +kernel), by decide +kernel⟩
theorem Yi_Mo_related : Cond.instanceMethod y_Mo_related ∈ zp_G := zp_in 720 (by decide +kernel) (by decide +kernel)
theorem Yv_Mo_related : Cond.selects y_Mo_related.cls y_Mo_related y_Mo_related ∈ zp_G := zp_in 721 (by decide +kernel) (by decide +kernel)
abbrev b_Mo_rightOf : ByteArray := prog_12_method_39_code
def y_Mo_rightOf : MethodName := ⟨"LetterAlgebraModel", "rightOf", "(I)J"⟩
theorem Y_Mo_rightOf : zv_y y_Mo_rightOf b_Mo_rightOf 5 ((some (FieldType.long))) 1 := ⟨zp_in 726 (by decide +kernel) (by decide +kernel), zp_in 5 (by decide +kernel) (by decide +kernel), by decide +kernel⟩
theorem Yi_Mo_rightOf : Cond.instanceMethod y_Mo_rightOf ∈ zp_G := zp_in 725 (by decide +kernel) (by decide +kernel)
theorem Yv_Mo_rightOf : Cond.selects y_Mo_rightOf.cls y_Mo_rightOf y_Mo_rightOf ∈ zp_G := zp_inp 36 (by decide +kernel) (by decide +kernel)
abbrev b_Mo_leftOf : ByteArray := prog_12_method_40_code
def y_Mo_leftOf : MethodName := ⟨"LetterAlgebraModel", "leftOf", "(I)J"⟩
theorem Y_Mo_leftOf : zv_y y_Mo_leftOf b_Mo_leftOf 5 ((some (FieldType.long))) 1 := ⟨zp_in 730 (by decide +kernel) (by decide +kernel), zp_in 5 (by decide +kernel) (by decide +kernel), by decide +kernel⟩
theorem Yi_Mo_leftOf : Cond.instanceMethod y_Mo_leftOf ∈ zp_G := zp_in 729 (by decide +kernel) (by decide +kernel)
theorem Yv_Mo_leftOf : Cond.selects y_Mo_leftOf.cls y_Mo_leftOf y_Mo_leftOf ∈ zp_G := zp_inp 37 (by decide +kernel) (by decide +kernel)
abbrev b_Mo_aroundOf : ByteArray := prog_12_method_41_code
def y_Mo_aroundOf : MethodName := ⟨"LetterAlgebraModel", "aroundOf", "(I)J"⟩
theorem Y_Mo_aroundOf : zv_y y_Mo_aroundOf b_Mo_aroundOf 5 ((some (FieldType.long))) 1 := ⟨zp_in 734 (by decide +kernel) (by decide +kernel), zp_in 5 (by decide +kernel) (by decide +kernel), by decide +kernel⟩
theorem Yi_Mo_aroundOf : Cond.instanceMethod y_Mo_aroundOf ∈ zp_G := zp_in 733 (by decide +kernel) (by decide +kernel)
theorem Yv_Mo_aroundOf : Cond.selects y_Mo_aroundOf.cls y_Mo_aroundOf y_Mo_aroundOf ∈ zp_G := zp_inp 38 (by decide +kernel) (by decide +kernel)
abbrev b_Mo_classes : ByteArray := prog_12_method_43_code
def y_Mo_classes : MethodName := ⟨"LetterAlgebraModel", "classes", "(I)I"⟩
theorem Y_Mo_classes : zv_y y_Mo_classes b_Mo_classes 6 ((some (FieldType.int))) 1 := ⟨zp_in 738 (by decide +kernel) (by decide +kernel), zp_in 5 (by decide +kernel) (by decide +kernel), by decide +kernel⟩
theorem Yi_Mo_classes : Cond.instanceMethod y_Mo_classes ∈ zp_G := zp_in 736 (by decide +kernel) (by decide +kernel)
theorem Yv_Mo_classes : Cond.selects y_Mo_classes.cls y_Mo_classes y_Mo_classes ∈ zp_G := zp_in 737 (by decide +kernel) (by decide +kernel)
abbrev b_Mo_witness : ByteArray := prog_12_method_45_code
def y_Mo_witness : MethodName := ⟨"LetterAlgebraModel", "witness", "(I)I"⟩
theorem Y_Mo_witness : zv_y y_Mo_witness b_Mo_witness 4 ((some (FieldType.int))) 1 := ⟨zp_in 743 (by decide +kernel) (by decide +kernel), zp_in 5 (by decide +kernel) (by decide +kernel), by decide +kernel⟩
theorem Yi_Mo_witness : Cond.instanceMethod y_Mo_witness ∈ zp_G := zp_in 741 (by decide +kernel) (by decide +kernel)
theorem Yv_Mo_witness : Cond.selects y_Mo_witness.cls y_Mo_witness y_Mo_witness ∈ zp_G := zp_in 742 (by decide +kernel) (by decide +kernel)
abbrev b_Mo_against : ByteArray := prog_12_method_44_code
def y_Mo_against : MethodName := ⟨"LetterAlgebraModel", "against", "(III)Z"⟩
theorem Y_Mo_against : zv_y y_Mo_against b_Mo_against 4 ((some (FieldType.boolean))) 3 := ⟨zp_in 747 (by decide +kernel) (by decide +kernel), zp_in 5 (by decide +kernel) (by decide +kernel), by decide +kernel⟩
theorem Yi_Mo_against : Cond.instanceMethod y_Mo_against ∈ zp_G := zp_in 746 (by decide +kernel) (by decide +kernel)
theorem Yv_Mo_against : Cond.selects y_Mo_against.cls y_Mo_against y_Mo_against ∈ zp_G := zp_inp 39 (by decide +kernel) (by decide +kernel)
theorem ln_Lw_7 : Cond.classLink "LetterAlgebraLaw" 7 "LetterAlgebra" ∈ zp_G := zp_in 12 (by decide +kernel) (by decide +kernel)
theorem ln_Lw_9 : Cond.methodLink "LetterAlgebraLaw" 9 ⟨"LetterAlgebra", "<init>", "()V"⟩ ∈ zp_G := zp_in 14 (by decide +kernel) (by decide +kernel)
theorem ln_LA_3 : Cond.methodLink "LetterAlgebra" 3 ⟨"java/lang/Object", "<init>", "()V"⟩ ∈ zp_G := zp_in 17 (by decide +kernel) (by decide +kernel)
theorem ln_LA_9 : Cond.classLink "LetterAlgebra" 9 "LetterAlgebra$Automaton" ∈ zp_G := zp_in 20 (by decide +kernel) (by decide +kernel)
theorem ln_LA_15 : Cond.classLink "LetterAlgebra" 15 "LetterAlgebra$Reducer" ∈ zp_G := zp_in 22 (by decide +kernel) (by decide +kernel)
theorem ln_LA_17 : Cond.methodLinkNest "LetterAlgebra" 17 ⟨"LetterAlgebra$Reducer", "<init>", "()V"⟩ "LetterAlgebra" ∈ zp_N := List.mem_of_getElem? (i := 0) rfl
theorem ln_Re_3 : Cond.methodLink "LetterAlgebra$Reducer" 3 ⟨"java/lang/Object", "<init>", "()V"⟩ ∈ zp_G := zp_in 27 (by decide +kernel) (by decide +kernel)
theorem ln_Re_9 : Cond.fieldLink "LetterAlgebra$Reducer" 9 "LetterAlgebra$Reducer" "numberOfCode" "[I" ∈ zp_G := zp_in 28 (by decide +kernel) (by decide +kernel)
theorem ln_Re_15 : Cond.fieldLink "LetterAlgebra$Reducer" 15 "LetterAlgebra$Reducer" "codes" "[I" ∈ zp_G := zp_in 29 (by decide +kernel) (by decide +kernel)
theorem ln_Re_18 : Cond.fieldLink "LetterAlgebra$Reducer" 18 "LetterAlgebra$Reducer" "steps" "[I" ∈ zp_G := zp_in 30 (by decide +kernel) (by decide +kernel)
theorem ln_Re_51 : Cond.fieldLink "LetterAlgebra$Reducer" 51 "LetterAlgebra$Reducer" "size" "I" ∈ zp_G := zp_in 31 (by decide +kernel) (by decide +kernel)
theorem ln_Re_21 : Cond.fieldLink "LetterAlgebra$Reducer" 21 "LetterAlgebra$Reducer" "parts" "[I" ∈ zp_G := zp_in 32 (by decide +kernel) (by decide +kernel)
theorem ln_Re_24 : Cond.fieldLink "LetterAlgebra$Reducer" 24 "LetterAlgebra$Reducer" "finerParts" "[I" ∈ zp_G := zp_in 33 (by decide +kernel) (by decide +kernel)
theorem ln_Re_27 : Cond.fieldLink "LetterAlgebra$Reducer" 27 "LetterAlgebra$Reducer" "firstOfPart" "[I" ∈ zp_G := zp_in 34 (by decide +kernel) (by decide +kernel)
theorem ln_LA_22 : Cond.classLink "LetterAlgebra" 22 "LetterAlgebra$Algebra" ∈ zp_G := zp_in 51 (by decide +kernel) (by decide +kernel)
theorem ln_LA_24 : Cond.methodLinkNest "LetterAlgebra" 24 ⟨"LetterAlgebra$Algebra", "<init>", "()V"⟩ "LetterAlgebra" ∈ zp_N := List.mem_of_getElem? (i := 1) rfl
theorem ln_Al_3 : Cond.methodLink "LetterAlgebra$Algebra" 3 ⟨"java/lang/Object", "<init>", "()V"⟩ ∈ zp_G := zp_in 56 (by decide +kernel) (by decide +kernel)
theorem ln_Al_9 : Cond.fieldLink "LetterAlgebra$Algebra" 9 "LetterAlgebra$Algebra" "maps" "[I" ∈ zp_G := zp_in 57 (by decide +kernel) (by decide +kernel)
theorem ln_Al_15 : Cond.fieldLink "LetterAlgebra$Algebra" 15 "LetterAlgebra$Algebra" "longer" "[I" ∈ zp_G := zp_in 58 (by decide +kernel) (by decide +kernel)
theorem ln_Al_18 : Cond.fieldLink "LetterAlgebra$Algebra" 18 "LetterAlgebra$Algebra" "shorter" "[I" ∈ zp_G := zp_in 59 (by decide +kernel) (by decide +kernel)
theorem ln_Al_21 : Cond.fieldLink "LetterAlgebra$Algebra" 21 "LetterAlgebra$Algebra" "lastLetters" "[I" ∈ zp_G := zp_in 60 (by decide +kernel) (by decide +kernel)
theorem ln_Al_40 : Cond.fieldLink "LetterAlgebra$Algebra" 40 "LetterAlgebra$Algebra" "size" "I" ∈ zp_G := zp_in 61 (by decide +kernel) (by decide +kernel)
theorem ln_LA_85 : Cond.fieldLinkNest "LetterAlgebra" 85 "LetterAlgebra$Algebra" "size" "I" "LetterAlgebra" ∈ zp_N := List.mem_of_getElem? (i := 2) rfl
theorem ln_Al_24 : Cond.fieldLink "LetterAlgebra$Algebra" 24 "LetterAlgebra$Algebra" "leastWords" "[J" ∈ zp_G := zp_in 63 (by decide +kernel) (by decide +kernel)
theorem ln_LA_93 : Cond.fieldLinkNest "LetterAlgebra" 93 "LetterAlgebra$Algebra" "leastWords" "[J" "LetterAlgebra" ∈ zp_N := List.mem_of_getElem? (i := 3) rfl
theorem ln_Al_28 : Cond.fieldLink "LetterAlgebra$Algebra" 28 "LetterAlgebra$Algebra" "products" "[I" ∈ zp_G := zp_in 65 (by decide +kernel) (by decide +kernel)
theorem ln_Al_31 : Cond.fieldLink "LetterAlgebra$Algebra" 31 "LetterAlgebra$Algebra" "rightProducts" "[J" ∈ zp_G := zp_in 66 (by decide +kernel) (by decide +kernel)
theorem ln_Al_34 : Cond.fieldLink "LetterAlgebra$Algebra" 34 "LetterAlgebra$Algebra" "leftProducts" "[J" ∈ zp_G := zp_in 67 (by decide +kernel) (by decide +kernel)
theorem ln_Al_37 : Cond.fieldLink "LetterAlgebra$Algebra" 37 "LetterAlgebra$Algebra" "bothSidesProducts" "[J" ∈ zp_G := zp_in 68 (by decide +kernel) (by decide +kernel)
theorem ln_LA_29 : Cond.methodLinkNest "LetterAlgebra" 29 ⟨"LetterAlgebra$Automaton", "<init>", "()V"⟩ "LetterAlgebra" ∈ zp_N := List.mem_of_getElem? (i := 4) rfl
theorem ln_Au_3 : Cond.methodLink "LetterAlgebra$Automaton" 3 ⟨"java/lang/Object", "<init>", "()V"⟩ ∈ zp_G := zp_in 95 (by decide +kernel) (by decide +kernel)
theorem ln_Au_15 : Cond.fieldLink "LetterAlgebra$Automaton" 15 "LetterAlgebra$Automaton" "size" "I" ∈ zp_G := zp_in 96 (by decide +kernel) (by decide +kernel)
theorem ln_Re_82 : Cond.fieldLinkNest "LetterAlgebra$Reducer" 82 "LetterAlgebra$Automaton" "size" "I" "LetterAlgebra" ∈ zp_N := List.mem_of_getElem? (i := 5) rfl
theorem ln_LA_65 : Cond.fieldLinkNest "LetterAlgebra" 65 "LetterAlgebra$Automaton" "size" "I" "LetterAlgebra" ∈ zp_N := List.mem_of_getElem? (i := 6) rfl
theorem ln_Au_19 : Cond.fieldLink "LetterAlgebra$Automaton" 19 "LetterAlgebra$Automaton" "acceptingSet" "I" ∈ zp_G := zp_in 99 (by decide +kernel) (by decide +kernel)
theorem ln_Re_85 : Cond.fieldLinkNest "LetterAlgebra$Reducer" 85 "LetterAlgebra$Automaton" "acceptingSet" "I" "LetterAlgebra" ∈ zp_N := List.mem_of_getElem? (i := 7) rfl
theorem ln_Au_9 : Cond.fieldLink "LetterAlgebra$Automaton" 9 "LetterAlgebra$Automaton" "steps" "[I" ∈ zp_G := zp_in 101 (by decide +kernel) (by decide +kernel)
theorem ln_Re_88 : Cond.fieldLinkNest "LetterAlgebra$Reducer" 88 "LetterAlgebra$Automaton" "steps" "[I" "LetterAlgebra" ∈ zp_N := List.mem_of_getElem? (i := 8) rfl
theorem ln_LA_11 : Cond.fieldLink "LetterAlgebra" 11 "LetterAlgebra" "languages" "[LLetterAlgebra$Automaton;" ∈ zp_G := zp_in 110 (by decide +kernel) (by decide +kernel)
theorem ln_LA_61 : Cond.fieldLink "LetterAlgebra" 61 "LetterAlgebra" "languageCount" "I" ∈ zp_G := zp_in 111 (by decide +kernel) (by decide +kernel)
theorem ln_LA_18 : Cond.fieldLink "LetterAlgebra" 18 "LetterAlgebra" "reducer" "LLetterAlgebra$Reducer;" ∈ zp_G := zp_in 112 (by decide +kernel) (by decide +kernel)
theorem ln_LA_25 : Cond.fieldLink "LetterAlgebra" 25 "LetterAlgebra" "algebra" "LLetterAlgebra$Algebra;" ∈ zp_G := zp_in 113 (by decide +kernel) (by decide +kernel)
theorem ln_Lw_13 : Cond.methodLink "LetterAlgebraLaw" 13 ⟨"LetterAlgebra", "basic", "(I)I"⟩ ∈ zp_G := zp_in 123 (by decide +kernel) (by decide +kernel)
theorem ln_LA_30 : Cond.classLink "LetterAlgebra" 30 "LetterAlgebra$BasicMachine" ∈ zp_G := zp_in 127 (by decide +kernel) (by decide +kernel)
theorem ln_LA_32 : Cond.methodLink "LetterAlgebra" 32 ⟨"LetterAlgebra$BasicMachine", "<init>", "(I)V"⟩ ∈ zp_G := zp_in 129 (by decide +kernel) (by decide +kernel)
theorem ln_Ba_3 : Cond.methodLink "LetterAlgebra$BasicMachine" 3 ⟨"java/lang/Object", "<init>", "()V"⟩ ∈ zp_G := zp_in 132 (by decide +kernel) (by decide +kernel)
theorem ln_Ba_9 : Cond.fieldLink "LetterAlgebra$BasicMachine" 9 "LetterAlgebra$BasicMachine" "kind" "I" ∈ zp_G := zp_in 133 (by decide +kernel) (by decide +kernel)
theorem ln_LA_35 : Cond.methodLink "LetterAlgebra" 35 ⟨"LetterAlgebra", "add", "(LLetterAlgebra$Machine;)I"⟩ ∈ zp_G := zp_in 137 (by decide +kernel) (by decide +kernel)
theorem ln_LA_116 : Cond.methodLink "LetterAlgebra" 116 ⟨"LetterAlgebra$Reducer", "reduce", "(LLetterAlgebra$Machine;LLetterAlgebra$Automaton;)Z"⟩ ∈ zp_G := zp_in 141 (by decide +kernel) (by decide +kernel)
theorem ln_Re_30 : Cond.methodLink "LetterAlgebra$Reducer" 30 ⟨"LetterAlgebra$Reducer", "explore", "(LLetterAlgebra$Machine;)V"⟩ ∈ zp_G := zp_in 145 (by decide +kernel) (by decide +kernel)
theorem ln_Re_45 : Cond.methodLink "LetterAlgebra$Reducer" 45 ⟨"java/util/Arrays", "fill", "([II)V"⟩ ∈ zp_G := zp_in 149 (by decide +kernel) (by decide +kernel)
theorem ln_Re_55 : Cond.methodLink "LetterAlgebra$Reducer" 55 ⟨"LetterAlgebra$Machine", "startCode", "()I"⟩ ∈ zp_G := zp_in 153 (by decide +kernel) (by decide +kernel)
theorem ln_Ch_18 : Cond.methodLink "LetterAlgebra$ChainMachine" 18 ⟨"LetterAlgebra$ChainMachine", "codeOf", "(II)I"⟩ ∈ zp_G := zp_in 168 (by decide +kernel) (by decide +kernel)
theorem ln_Ch_34 : Cond.methodLink "LetterAlgebra$ChainMachine" 34 ⟨"LetterAlgebra$Automaton", "isAccepting", "(I)Z"⟩ ∈ zp_G := zp_in 173 (by decide +kernel) (by decide +kernel)
theorem ln_Re_60 : Cond.methodLink "LetterAlgebra$Reducer" 60 ⟨"LetterAlgebra$Reducer", "numberFor", "(I)I"⟩ ∈ zp_G := zp_in 195 (by decide +kernel) (by decide +kernel)
theorem ln_Re_64 : Cond.methodLink "LetterAlgebra$Reducer" 64 ⟨"LetterAlgebra$Machine", "stepCode", "(II)I"⟩ ∈ zp_G := zp_in 200 (by decide +kernel) (by decide +kernel)
theorem ln_Ch_22 : Cond.methodLink "LetterAlgebra$ChainMachine" 22 ⟨"LetterAlgebra$Automaton", "step", "(II)I"⟩ ∈ zp_G := zp_in 213 (by decide +kernel) (by decide +kernel)
theorem ln_Ch_27 : Cond.methodLink "LetterAlgebra$ChainMachine" 27 ⟨"LetterAlgebra$Automaton", "stepSet", "(II)I"⟩ ∈ zp_G := zp_in 217 (by decide +kernel) (by decide +kernel)
theorem ln_Au_22 : Cond.methodLink "LetterAlgebra$Automaton" 22 ⟨"LetterAlgebra$Automaton", "step", "(II)I"⟩ ∈ zp_G := zp_in 221 (by decide +kernel) (by decide +kernel)
theorem ln_In_13 : Cond.methodLink "LetterAlgebra$InverseMachine" 13 ⟨"LetterAlgebra$Automaton", "step", "(II)I"⟩ ∈ zp_G := zp_in 227 (by decide +kernel) (by decide +kernel)
theorem ln_Pa_22 : Cond.methodLink "LetterAlgebra$PairMachine" 22 ⟨"LetterAlgebra$Automaton", "step", "(II)I"⟩ ∈ zp_G := zp_in 233 (by decide +kernel) (by decide +kernel)
theorem ln_St_15 : Cond.methodLink "LetterAlgebra$StarMachine" 15 ⟨"LetterAlgebra$Automaton", "stepSet", "(II)I"⟩ ∈ zp_G := zp_in 239 (by decide +kernel) (by decide +kernel)
theorem ln_St_21 : Cond.methodLink "LetterAlgebra$StarMachine" 21 ⟨"LetterAlgebra$Automaton", "acceptsAnyOf", "(I)Z"⟩ ∈ zp_G := zp_in 240 (by decide +kernel) (by decide +kernel)
theorem ln_Re_34 : Cond.methodLink "LetterAlgebra$Reducer" 34 ⟨"LetterAlgebra$Reducer", "partByAcceptance", "(LLetterAlgebra$Machine;)V"⟩ ∈ zp_G := zp_in 244 (by decide +kernel) (by decide +kernel)
theorem ln_Re_68 : Cond.methodLink "LetterAlgebra$Reducer" 68 ⟨"LetterAlgebra$Machine", "isAcceptingCode", "(I)Z"⟩ ∈ zp_G := zp_in 249 (by decide +kernel) (by decide +kernel)
theorem ln_Ch_30 : Cond.methodLink "LetterAlgebra$ChainMachine" 30 ⟨"LetterAlgebra$Automaton", "acceptsAnyOf", "(I)Z"⟩ ∈ zp_G := zp_in 262 (by decide +kernel) (by decide +kernel)
theorem ln_In_19 : Cond.methodLink "LetterAlgebra$InverseMachine" 19 ⟨"LetterAlgebra$Automaton", "isAccepting", "(I)Z"⟩ ∈ zp_G := zp_in 268 (by decide +kernel) (by decide +kernel)
theorem ln_Pa_28 : Cond.methodLink "LetterAlgebra$PairMachine" 28 ⟨"LetterAlgebra$Automaton", "isAccepting", "(I)Z"⟩ ∈ zp_G := zp_in 274 (by decide +kernel) (by decide +kernel)
theorem ln_Re_37 : Cond.methodLink "LetterAlgebra$Reducer" 37 ⟨"LetterAlgebra$Reducer", "refine", "()I"⟩ ∈ zp_G := zp_in 280 (by decide +kernel) (by decide +kernel)
theorem ln_Re_72 : Cond.methodLink "LetterAlgebra$Reducer" 72 ⟨"LetterAlgebra$Reducer", "split", "()I"⟩ ∈ zp_G := zp_in 284 (by decide +kernel) (by decide +kernel)
theorem ln_Re_75 : Cond.methodLink "LetterAlgebra$Reducer" 75 ⟨"LetterAlgebra$Reducer", "partLike", "(II)I"⟩ ∈ zp_G := zp_in 288 (by decide +kernel) (by decide +kernel)
theorem ln_Re_78 : Cond.methodLink "LetterAlgebra$Reducer" 78 ⟨"LetterAlgebra$Reducer", "goAlike", "(II)Z"⟩ ∈ zp_G := zp_in 292 (by decide +kernel) (by decide +kernel)
theorem ln_Re_41 : Cond.methodLink "LetterAlgebra$Reducer" 41 ⟨"LetterAlgebra$Reducer", "write", "(LLetterAlgebra$Machine;ILLetterAlgebra$Automaton;)V"⟩ ∈ zp_G := zp_in 296 (by decide +kernel) (by decide +kernel)
theorem ln_Lw_18 : Cond.methodLink "LetterAlgebraLaw" 18 ⟨"LetterAlgebra", "unite", "(II)I"⟩ ∈ zp_G := zp_in 300 (by decide +kernel) (by decide +kernel)
theorem ln_LA_39 : Cond.methodLink "LetterAlgebra" 39 ⟨"LetterAlgebra", "isListed", "(I)Z"⟩ ∈ zp_G := zp_in 304 (by decide +kernel) (by decide +kernel)
theorem ln_LA_43 : Cond.classLink "LetterAlgebra" 43 "LetterAlgebra$PairMachine" ∈ zp_G := zp_in 308 (by decide +kernel) (by decide +kernel)
theorem ln_LA_45 : Cond.methodLink "LetterAlgebra" 45 ⟨"LetterAlgebra$PairMachine", "<init>", "(LLetterAlgebra$Automaton;LLetterAlgebra$Automaton;Z)V"⟩ ∈ zp_G := zp_in 310 (by decide +kernel) (by decide +kernel)
theorem ln_Pa_3 : Cond.methodLink "LetterAlgebra$PairMachine" 3 ⟨"java/lang/Object", "<init>", "()V"⟩ ∈ zp_G := zp_in 313 (by decide +kernel) (by decide +kernel)
theorem ln_Pa_9 : Cond.fieldLink "LetterAlgebra$PairMachine" 9 "LetterAlgebra$PairMachine" "first" "LLetterAlgebra$Automaton;" ∈ zp_G := zp_in 314 (by decide +kernel) (by decide +kernel)
theorem ln_Pa_15 : Cond.fieldLink "LetterAlgebra$PairMachine" 15 "LetterAlgebra$PairMachine" "second" "LLetterAlgebra$Automaton;" ∈ zp_G := zp_in 315 (by decide +kernel) (by decide +kernel)
theorem ln_Pa_18 : Cond.fieldLink "LetterAlgebra$PairMachine" 18 "LetterAlgebra$PairMachine" "needsBoth" "Z" ∈ zp_G := zp_in 316 (by decide +kernel) (by decide +kernel)
theorem ln_Lw_23 : Cond.methodLink "LetterAlgebraLaw" 23 ⟨"LetterAlgebra", "meet", "(II)I"⟩ ∈ zp_G := zp_in 324 (by decide +kernel) (by decide +kernel)
theorem ln_Lw_27 : Cond.methodLink "LetterAlgebraLaw" 27 ⟨"LetterAlgebra", "chain", "(II)I"⟩ ∈ zp_G := zp_in 328 (by decide +kernel) (by decide +kernel)
theorem ln_LA_48 : Cond.classLink "LetterAlgebra" 48 "LetterAlgebra$ChainMachine" ∈ zp_G := zp_in 332 (by decide +kernel) (by decide +kernel)
theorem ln_LA_50 : Cond.methodLink "LetterAlgebra" 50 ⟨"LetterAlgebra$ChainMachine", "<init>", "(LLetterAlgebra$Automaton;LLetterAlgebra$Automaton;)V"⟩ ∈ zp_G := zp_in 333 (by decide +kernel) (by decide +kernel)
theorem ln_Ch_3 : Cond.methodLink "LetterAlgebra$ChainMachine" 3 ⟨"java/lang/Object", "<init>", "()V"⟩ ∈ zp_G := zp_in 336 (by decide +kernel) (by decide +kernel)
theorem ln_Ch_9 : Cond.fieldLink "LetterAlgebra$ChainMachine" 9 "LetterAlgebra$ChainMachine" "first" "LLetterAlgebra$Automaton;" ∈ zp_G := zp_in 337 (by decide +kernel) (by decide +kernel)
theorem ln_Ch_15 : Cond.fieldLink "LetterAlgebra$ChainMachine" 15 "LetterAlgebra$ChainMachine" "second" "LLetterAlgebra$Automaton;" ∈ zp_G := zp_in 338 (by decide +kernel) (by decide +kernel)
theorem ln_Lw_31 : Cond.methodLink "LetterAlgebraLaw" 31 ⟨"LetterAlgebra", "star", "(I)I"⟩ ∈ zp_G := zp_in 344 (by decide +kernel) (by decide +kernel)
theorem ln_LA_53 : Cond.classLink "LetterAlgebra" 53 "LetterAlgebra$StarMachine" ∈ zp_G := zp_in 348 (by decide +kernel) (by decide +kernel)
theorem ln_LA_55 : Cond.methodLink "LetterAlgebra" 55 ⟨"LetterAlgebra$StarMachine", "<init>", "(LLetterAlgebra$Automaton;)V"⟩ ∈ zp_G := zp_in 350 (by decide +kernel) (by decide +kernel)
theorem ln_St_3 : Cond.methodLink "LetterAlgebra$StarMachine" 3 ⟨"java/lang/Object", "<init>", "()V"⟩ ∈ zp_G := zp_in 353 (by decide +kernel) (by decide +kernel)
theorem ln_St_9 : Cond.fieldLink "LetterAlgebra$StarMachine" 9 "LetterAlgebra$StarMachine" "part" "LLetterAlgebra$Automaton;" ∈ zp_G := zp_in 354 (by decide +kernel) (by decide +kernel)
theorem ln_Lw_35 : Cond.methodLink "LetterAlgebraLaw" 35 ⟨"LetterAlgebra", "invert", "(I)I"⟩ ∈ zp_G := zp_in 358 (by decide +kernel) (by decide +kernel)
theorem ln_LA_58 : Cond.classLink "LetterAlgebra" 58 "LetterAlgebra$InverseMachine" ∈ zp_G := zp_in 362 (by decide +kernel) (by decide +kernel)
theorem ln_LA_60 : Cond.methodLink "LetterAlgebra" 60 ⟨"LetterAlgebra$InverseMachine", "<init>", "(LLetterAlgebra$Automaton;)V"⟩ ∈ zp_G := zp_in 364 (by decide +kernel) (by decide +kernel)
theorem ln_In_1 : Cond.methodLink "LetterAlgebra$InverseMachine" 1 ⟨"java/lang/Object", "<init>", "()V"⟩ ∈ zp_G := zp_in 367 (by decide +kernel) (by decide +kernel)
theorem ln_In_7 : Cond.fieldLink "LetterAlgebra$InverseMachine" 7 "LetterAlgebra$InverseMachine" "inner" "LLetterAlgebra$Automaton;" ∈ zp_G := zp_in 368 (by decide +kernel) (by decide +kernel)
theorem ln_Lw_39 : Cond.methodLink "LetterAlgebraLaw" 39 ⟨"LetterAlgebra", "forget", "()Z"⟩ ∈ zp_G := zp_in 372 (by decide +kernel) (by decide +kernel)
theorem ln_Lw_44 : Cond.methodLink "LetterAlgebraLaw" 44 ⟨"LetterAlgebra", "count", "()I"⟩ ∈ zp_G := zp_in 376 (by decide +kernel) (by decide +kernel)
theorem ln_Lw_49 : Cond.methodLink "LetterAlgebraLaw" 49 ⟨"LetterAlgebra", "states", "(I)I"⟩ ∈ zp_G := zp_in 380 (by decide +kernel) (by decide +kernel)
theorem ln_Lw_53 : Cond.methodLink "LetterAlgebraLaw" 53 ⟨"LetterAlgebra", "next", "(III)I"⟩ ∈ zp_G := zp_in 384 (by decide +kernel) (by decide +kernel)
theorem ln_LA_68 : Cond.methodLink "LetterAlgebra" 68 ⟨"LetterAlgebra$Automaton", "hasState", "(I)Z"⟩ ∈ zp_G := zp_in 388 (by decide +kernel) (by decide +kernel)
theorem ln_LA_71 : Cond.methodLink "LetterAlgebra" 71 ⟨"LetterAlgebra$Automaton", "step", "(II)I"⟩ ∈ zp_G := zp_in 392 (by decide +kernel) (by decide +kernel)
theorem ln_Lw_58 : Cond.methodLink "LetterAlgebraLaw" 58 ⟨"LetterAlgebra", "accepts", "(II)Z"⟩ ∈ zp_G := zp_in 393 (by decide +kernel) (by decide +kernel)
theorem ln_LA_75 : Cond.methodLink "LetterAlgebra" 75 ⟨"LetterAlgebra$Automaton", "isAccepting", "(I)Z"⟩ ∈ zp_G := zp_in 397 (by decide +kernel) (by decide +kernel)
theorem ln_Lw_65 : Cond.methodLink "LetterAlgebraLaw" 65 ⟨"LetterAlgebra", "contains", "(IJI)Z"⟩ ∈ zp_G := zp_in 398 (by decide +kernel) (by decide +kernel)
theorem ln_Lw_70 : Cond.methodLink "LetterAlgebraLaw" 70 ⟨"LetterAlgebra", "same", "(II)Z"⟩ ∈ zp_G := zp_in 402 (by decide +kernel) (by decide +kernel)
theorem ln_LA_78 : Cond.methodLink "LetterAlgebra" 78 ⟨"LetterAlgebra$Automaton", "isLike", "(LLetterAlgebra$Automaton;)Z"⟩ ∈ zp_G := zp_in 406 (by decide +kernel) (by decide +kernel)
theorem ln_Lw_74 : Cond.methodLink "LetterAlgebraLaw" 74 ⟨"LetterAlgebra", "study", "(I)I"⟩ ∈ zp_G := zp_in 410 (by decide +kernel) (by decide +kernel)
theorem ln_LA_82 : Cond.methodLink "LetterAlgebra" 82 ⟨"LetterAlgebra$Algebra", "workOut", "(LLetterAlgebra$Automaton;)Z"⟩ ∈ zp_G := zp_in 414 (by decide +kernel) (by decide +kernel)
theorem ln_Al_44 : Cond.methodLink "LetterAlgebra$Algebra" 44 ⟨"LetterAlgebra$Algebra", "search", "(LLetterAlgebra$Automaton;)I"⟩ ∈ zp_G := zp_in 418 (by decide +kernel) (by decide +kernel)
theorem ln_Al_57 : Cond.methodLink "LetterAlgebra$Algebra" 57 ⟨"LetterAlgebra$Automaton", "emptyWordMap", "()I"⟩ ∈ zp_G := zp_in 422 (by decide +kernel) (by decide +kernel)
theorem ln_Al_63 : Cond.methodLink "LetterAlgebra$Algebra" 63 ⟨"LetterAlgebra$Automaton", "stepMap", "(II)I"⟩ ∈ zp_G := zp_in 426 (by decide +kernel) (by decide +kernel)
theorem ln_Al_67 : Cond.methodLink "LetterAlgebra$Algebra" 67 ⟨"LetterAlgebra$Algebra", "placeOf", "(II)I"⟩ ∈ zp_G := zp_in 430 (by decide +kernel) (by decide +kernel)
theorem ln_Al_48 : Cond.methodLink "LetterAlgebra$Algebra" 48 ⟨"LetterAlgebra$Algebra", "keepWords", "()V"⟩ ∈ zp_G := zp_in 434 (by decide +kernel) (by decide +kernel)
theorem ln_Al_70 : Cond.constantLong "LetterAlgebra$Algebra" 70 (2 : Int64) ∈ zp_G := zp_in 438 (by decide +kernel) (by decide +kernel)
theorem ln_Al_51 : Cond.methodLink "LetterAlgebra$Algebra" 51 ⟨"LetterAlgebra$Algebra", "keepProducts", "()V"⟩ ∈ zp_G := zp_in 439 (by decide +kernel) (by decide +kernel)
theorem ln_Al_54 : Cond.methodLink "LetterAlgebra$Algebra" 54 ⟨"LetterAlgebra$Algebra", "keepSets", "()V"⟩ ∈ zp_G := zp_in 443 (by decide +kernel) (by decide +kernel)
theorem ln_Al_72 : Cond.methodLink "LetterAlgebra$Algebra" 72 ⟨"LetterAlgebra$Algebra", "multiply", "(II)I"⟩ ∈ zp_G := zp_in 447 (by decide +kernel) (by decide +kernel)
theorem ln_Lw_78 : Cond.methodLink "LetterAlgebraLaw" 78 ⟨"LetterAlgebra", "elements", "()I"⟩ ∈ zp_G := zp_in 451 (by decide +kernel) (by decide +kernel)
theorem ln_LA_86 : Cond.methodLink "LetterAlgebra" 86 ⟨"LetterAlgebra$Algebra", "isWorkedOut", "()Z"⟩ ∈ zp_G := zp_in 455 (by decide +kernel) (by decide +kernel)
theorem ln_Lw_82 : Cond.methodLink "LetterAlgebraLaw" 82 ⟨"LetterAlgebra", "word", "(I)J"⟩ ∈ zp_G := zp_in 459 (by decide +kernel) (by decide +kernel)
theorem ln_LA_90 : Cond.methodLink "LetterAlgebra" 90 ⟨"LetterAlgebra$Algebra", "hasElement", "(I)Z"⟩ ∈ zp_G := zp_in 463 (by decide +kernel) (by decide +kernel)
theorem ln_LA_97 : Cond.constantLong "LetterAlgebra" 97 (-1 : Int64) ∈ zp_G := zp_in 467 (by decide +kernel) (by decide +kernel)
theorem ln_Lw_87 : Cond.methodLink "LetterAlgebraLaw" 87 ⟨"LetterAlgebra", "product", "(II)I"⟩ ∈ zp_G := zp_in 468 (by decide +kernel) (by decide +kernel)
theorem ln_LA_99 : Cond.methodLink "LetterAlgebra" 99 ⟨"LetterAlgebra$Algebra", "multiply", "(II)I"⟩ ∈ zp_G := zp_in 472 (by decide +kernel) (by decide +kernel)
theorem ln_Lw_91 : Cond.methodLink "LetterAlgebraLaw" 91 ⟨"LetterAlgebra", "related", "(III)Z"⟩ ∈ zp_G := zp_in 473 (by decide +kernel) (by decide +kernel)
theorem ln_LA_102 : Cond.methodLink "LetterAlgebra" 102 ⟨"LetterAlgebra", "isRelation", "(I)Z"⟩ ∈ zp_G := zp_in 477 (by decide +kernel) (by decide +kernel)
theorem ln_LA_105 : Cond.methodLink "LetterAlgebra" 105 ⟨"LetterAlgebra$Algebra", "areRelated", "(III)Z"⟩ ∈ zp_G := zp_in 480 (by decide +kernel) (by decide +kernel)
theorem ln_Lw_96 : Cond.methodLink "LetterAlgebraLaw" 96 ⟨"LetterAlgebra", "classes", "(I)I"⟩ ∈ zp_G := zp_in 484 (by decide +kernel) (by decide +kernel)
theorem ln_LA_109 : Cond.methodLink "LetterAlgebra" 109 ⟨"LetterAlgebra$Algebra", "countClasses", "(I)I"⟩ ∈ zp_G := zp_in 488 (by decide +kernel) (by decide +kernel)
theorem ln_Al_75 : Cond.methodLink "LetterAlgebra$Algebra" 75 ⟨"LetterAlgebra$Algebra", "isFirstOfClass", "(II)Z"⟩ ∈ zp_G := zp_in 492 (by decide +kernel) (by decide +kernel)
theorem ln_Al_79 : Cond.methodLink "LetterAlgebra$Algebra" 79 ⟨"LetterAlgebra$Algebra", "areRelated", "(III)Z"⟩ ∈ zp_G := zp_in 496 (by decide +kernel) (by decide +kernel)
theorem ln_Lw_100 : Cond.methodLink "LetterAlgebraLaw" 100 ⟨"LetterAlgebra", "witness", "(I)I"⟩ ∈ zp_G := zp_in 497 (by decide +kernel) (by decide +kernel)
theorem ln_LA_113 : Cond.methodLink "LetterAlgebra" 113 ⟨"LetterAlgebra$Algebra", "isAgainst", "(III)Z"⟩ ∈ zp_G := zp_in 501 (by decide +kernel) (by decide +kernel)
theorem ln_Lw_10 : Cond.classLink "LetterAlgebraLaw" 10 "LetterAlgebraModel" ∈ zp_G := zp_in 505 (by decide +kernel) (by decide +kernel)
theorem ln_Lw_12 : Cond.methodLink "LetterAlgebraLaw" 12 ⟨"LetterAlgebraModel", "<init>", "()V"⟩ ∈ zp_G := zp_in 507 (by decide +kernel) (by decide +kernel)
theorem ln_Mo_1 : Cond.methodLink "LetterAlgebraModel" 1 ⟨"java/lang/Object", "<init>", "()V"⟩ ∈ zp_G := zp_in 510 (by decide +kernel) (by decide +kernel)
theorem ln_Mo_51 : Cond.fieldLink "LetterAlgebraModel" 51 "LetterAlgebraModel" "count" "I" ∈ zp_G := zp_in 511 (by decide +kernel) (by decide +kernel)
theorem ln_Mo_7 : Cond.fieldLink "LetterAlgebraModel" 7 "LetterAlgebraModel" "size" "[I" ∈ zp_G := zp_in 512 (by decide +kernel) (by decide +kernel)
theorem ln_Mo_13 : Cond.fieldLink "LetterAlgebraModel" 13 "LetterAlgebraModel" "go" "[I" ∈ zp_G := zp_in 513 (by decide +kernel) (by decide +kernel)
theorem ln_Mo_16 : Cond.fieldLink "LetterAlgebraModel" 16 "LetterAlgebraModel" "good" "[I" ∈ zp_G := zp_in 514 (by decide +kernel) (by decide +kernel)
theorem ln_Mo_59 : Cond.fieldLink "LetterAlgebraModel" 59 "LetterAlgebraModel" "op" "I" ∈ zp_G := zp_in 515 (by decide +kernel) (by decide +kernel)
theorem ln_Mo_62 : Cond.fieldLink "LetterAlgebraModel" 62 "LetterAlgebraModel" "first" "I" ∈ zp_G := zp_in 516 (by decide +kernel) (by decide +kernel)
theorem ln_Mo_69 : Cond.fieldLink "LetterAlgebraModel" 69 "LetterAlgebraModel" "second" "I" ∈ zp_G := zp_in 517 (by decide +kernel) (by decide +kernel)
theorem ln_Mo_19 : Cond.fieldLink "LetterAlgebraModel" 19 "LetterAlgebraModel" "says" "[J" ∈ zp_G := zp_in 518 (by decide +kernel) (by decide +kernel)
theorem ln_Mo_23 : Cond.fieldLink "LetterAlgebraModel" 23 "LetterAlgebraModel" "more" "[J" ∈ zp_G := zp_in 519 (by decide +kernel) (by decide +kernel)
theorem ln_Mo_26 : Cond.fieldLink "LetterAlgebraModel" 26 "LetterAlgebraModel" "met" "[I" ∈ zp_G := zp_in 520 (by decide +kernel) (by decide +kernel)
theorem ln_Mo_29 : Cond.fieldLink "LetterAlgebraModel" 29 "LetterAlgebraModel" "line" "[I" ∈ zp_G := zp_in 521 (by decide +kernel) (by decide +kernel)
theorem ln_Mo_32 : Cond.fieldLink "LetterAlgebraModel" 32 "LetterAlgebraModel" "seen" "[Z" ∈ zp_G := zp_in 522 (by decide +kernel) (by decide +kernel)
theorem ln_Mo_133 : Cond.fieldLink "LetterAlgebraModel" 133 "LetterAlgebraModel" "states" "I" ∈ zp_G := zp_in 523 (by decide +kernel) (by decide +kernel)
theorem ln_Mo_130 : Cond.fieldLink "LetterAlgebraModel" 130 "LetterAlgebraModel" "elements" "I" ∈ zp_G := zp_in 524 (by decide +kernel) (by decide +kernel)
theorem ln_Mo_36 : Cond.fieldLink "LetterAlgebraModel" 36 "LetterAlgebraModel" "does" "[I" ∈ zp_G := zp_in 525 (by decide +kernel) (by decide +kernel)
theorem ln_Mo_39 : Cond.fieldLink "LetterAlgebraModel" 39 "LetterAlgebraModel" "words" "[J" ∈ zp_G := zp_in 526 (by decide +kernel) (by decide +kernel)
theorem ln_Mo_42 : Cond.fieldLink "LetterAlgebraModel" 42 "LetterAlgebraModel" "found" "[I" ∈ zp_G := zp_in 527 (by decide +kernel) (by decide +kernel)
theorem ln_Mo_45 : Cond.fieldLink "LetterAlgebraModel" 45 "LetterAlgebraModel" "foundWord" "[J" ∈ zp_G := zp_in 528 (by decide +kernel) (by decide +kernel)
theorem ln_Mo_48 : Cond.fieldLink "LetterAlgebraModel" 48 "LetterAlgebraModel" "products" "[I" ∈ zp_G := zp_in 529 (by decide +kernel) (by decide +kernel)
theorem ln_Lw_17 : Cond.methodLink "LetterAlgebraLaw" 17 ⟨"LetterAlgebraModel", "basic", "(I)I"⟩ ∈ zp_G := zp_in 570 (by decide +kernel) (by decide +kernel)
theorem ln_Mo_102 : Cond.methodLink "LetterAlgebraModel" 102 ⟨"LetterAlgebraModel", "make", "(III)I"⟩ ∈ zp_G := zp_in 574 (by decide +kernel) (by decide +kernel)
theorem ln_Mo_96 : Cond.methodLink "LetterAlgebraModel" 96 ⟨"LetterAlgebraModel", "listen", "()V"⟩ ∈ zp_G := zp_in 578 (by decide +kernel) (by decide +kernel)
theorem ln_Mo_82 : Cond.methodLink "LetterAlgebraModel" 82 ⟨"LetterAlgebraModel", "codes", "()I"⟩ ∈ zp_G := zp_in 582 (by decide +kernel) (by decide +kernel)
theorem ln_Mo_86 : Cond.methodLink "LetterAlgebraModel" 86 ⟨"LetterAlgebraModel", "accepted", "(I)Z"⟩ ∈ zp_G := zp_in 586 (by decide +kernel) (by decide +kernel)
theorem ln_Mo_65 : Cond.methodLink "LetterAlgebraModel" 65 ⟨"LetterAlgebraModel", "isGood", "(II)Z"⟩ ∈ zp_G := zp_in 590 (by decide +kernel) (by decide +kernel)
theorem ln_Mo_90 : Cond.methodLink "LetterAlgebraModel" 90 ⟨"LetterAlgebraModel", "nextCode", "(II)I"⟩ ∈ zp_G := zp_in 594 (by decide +kernel) (by decide +kernel)
theorem ln_Mo_55 : Cond.methodLink "LetterAlgebraModel" 55 ⟨"LetterAlgebraModel", "step", "(III)I"⟩ ∈ zp_G := zp_in 598 (by decide +kernel) (by decide +kernel)
theorem ln_Mo_75 : Cond.methodLink "LetterAlgebraModel" 75 ⟨"LetterAlgebraModel", "chained", "(II)I"⟩ ∈ zp_G := zp_in 602 (by decide +kernel) (by decide +kernel)
theorem ln_Mo_72 : Cond.methodLink "LetterAlgebraModel" 72 ⟨"LetterAlgebraModel", "image", "(III)I"⟩ ∈ zp_G := zp_in 606 (by decide +kernel) (by decide +kernel)
theorem ln_Mo_79 : Cond.methodLink "LetterAlgebraModel" 79 ⟨"LetterAlgebraModel", "starred", "(II)I"⟩ ∈ zp_G := zp_in 610 (by decide +kernel) (by decide +kernel)
theorem ln_Mo_99 : Cond.methodLink "LetterAlgebraModel" 99 ⟨"LetterAlgebraModel", "said", "()I"⟩ ∈ zp_G := zp_in 614 (by decide +kernel) (by decide +kernel)
theorem ln_Mo_93 : Cond.methodLink "LetterAlgebraModel" 93 ⟨"LetterAlgebraModel", "startCode", "()I"⟩ ∈ zp_G := zp_in 618 (by decide +kernel) (by decide +kernel)
theorem ln_Lw_22 : Cond.methodLink "LetterAlgebraLaw" 22 ⟨"LetterAlgebraModel", "unite", "(II)I"⟩ ∈ zp_G := zp_in 622 (by decide +kernel) (by decide +kernel)
theorem ln_Mo_108 : Cond.methodLink "LetterAlgebraModel" 108 ⟨"LetterAlgebraModel", "both", "(III)I"⟩ ∈ zp_G := zp_in 626 (by decide +kernel) (by decide +kernel)
theorem ln_Mo_105 : Cond.methodLink "LetterAlgebraModel" 105 ⟨"LetterAlgebraModel", "isIn", "(I)Z"⟩ ∈ zp_G := zp_in 630 (by decide +kernel) (by decide +kernel)
theorem ln_Lw_26 : Cond.methodLink "LetterAlgebraLaw" 26 ⟨"LetterAlgebraModel", "meet", "(II)I"⟩ ∈ zp_G := zp_in 634 (by decide +kernel) (by decide +kernel)
theorem ln_Lw_30 : Cond.methodLink "LetterAlgebraLaw" 30 ⟨"LetterAlgebraModel", "chain", "(II)I"⟩ ∈ zp_G := zp_in 638 (by decide +kernel) (by decide +kernel)
theorem ln_Lw_34 : Cond.methodLink "LetterAlgebraLaw" 34 ⟨"LetterAlgebraModel", "star", "(I)I"⟩ ∈ zp_G := zp_in 642 (by decide +kernel) (by decide +kernel)
theorem ln_Lw_38 : Cond.methodLink "LetterAlgebraLaw" 38 ⟨"LetterAlgebraModel", "invert", "(I)I"⟩ ∈ zp_G := zp_in 646 (by decide +kernel) (by decide +kernel)
theorem ln_Lw_43 : Cond.methodLink "LetterAlgebraLaw" 43 ⟨"LetterAlgebraModel", "forget", "()Z"⟩ ∈ zp_G := zp_in 650 (by decide +kernel) (by decide +kernel)
theorem ln_Lw_48 : Cond.methodLink "LetterAlgebraLaw" 48 ⟨"LetterAlgebraModel", "count", "()I"⟩ ∈ zp_G := zp_in 654 (by decide +kernel) (by decide +kernel)
theorem ln_Lw_52 : Cond.methodLink "LetterAlgebraLaw" 52 ⟨"LetterAlgebraModel", "states", "(I)I"⟩ ∈ zp_G := zp_in 658 (by decide +kernel) (by decide +kernel)
theorem ln_Lw_57 : Cond.methodLink "LetterAlgebraLaw" 57 ⟨"LetterAlgebraModel", "next", "(III)I"⟩ ∈ zp_G := zp_in 662 (by decide +kernel) (by decide +kernel)
theorem ln_Mo_111 : Cond.methodLink "LetterAlgebraModel" 111 ⟨"LetterAlgebraModel", "isState", "(II)Z"⟩ ∈ zp_G := zp_in 666 (by decide +kernel) (by decide +kernel)
theorem ln_Lw_62 : Cond.methodLink "LetterAlgebraLaw" 62 ⟨"LetterAlgebraModel", "accepts", "(II)Z"⟩ ∈ zp_G := zp_in 670 (by decide +kernel) (by decide +kernel)
theorem ln_Lw_69 : Cond.methodLink "LetterAlgebraLaw" 69 ⟨"LetterAlgebraModel", "contains", "(IJI)Z"⟩ ∈ zp_G := zp_in 674 (by decide +kernel) (by decide +kernel)
theorem ln_Lw_73 : Cond.methodLink "LetterAlgebraLaw" 73 ⟨"LetterAlgebraModel", "same", "(II)Z"⟩ ∈ zp_G := zp_in 678 (by decide +kernel) (by decide +kernel)
theorem ln_Lw_77 : Cond.methodLink "LetterAlgebraLaw" 77 ⟨"LetterAlgebraModel", "study", "(I)I"⟩ ∈ zp_G := zp_in 682 (by decide +kernel) (by decide +kernel)
theorem ln_Mo_127 : Cond.methodLink "LetterAlgebraModel" 127 ⟨"LetterAlgebraModel", "grow", "(I)I"⟩ ∈ zp_G := zp_in 686 (by decide +kernel) (by decide +kernel)
theorem ln_Mo_114 : Cond.methodLink "LetterAlgebraModel" 114 ⟨"LetterAlgebraModel", "power", "(I)I"⟩ ∈ zp_G := zp_in 690 (by decide +kernel) (by decide +kernel)
theorem ln_Mo_118 : Cond.methodLink "LetterAlgebraModel" 118 ⟨"LetterAlgebraModel", "behind", "(IIII)I"⟩ ∈ zp_G := zp_in 693 (by decide +kernel) (by decide +kernel)
theorem ln_Mo_122 : Cond.methodLink "LetterAlgebraModel" 122 ⟨"LetterAlgebraModel", "find", "(II)I"⟩ ∈ zp_G := zp_in 697 (by decide +kernel) (by decide +kernel)
theorem ln_Mo_125 : Cond.constantLong "LetterAlgebraModel" 125 (2 : Int64) ∈ zp_G := zp_in 701 (by decide +kernel) (by decide +kernel)
theorem ln_Lw_81 : Cond.methodLink "LetterAlgebraLaw" 81 ⟨"LetterAlgebraModel", "elements", "()I"⟩ ∈ zp_G := zp_in 702 (by decide +kernel) (by decide +kernel)
theorem ln_Lw_86 : Cond.methodLink "LetterAlgebraLaw" 86 ⟨"LetterAlgebraModel", "word", "(I)J"⟩ ∈ zp_G := zp_in 706 (by decide +kernel) (by decide +kernel)
theorem ln_Mo_136 : Cond.methodLink "LetterAlgebraModel" 136 ⟨"LetterAlgebraModel", "isElement", "(I)Z"⟩ ∈ zp_G := zp_in 710 (by decide +kernel) (by decide +kernel)
theorem ln_Mo_139 : Cond.constantLong "LetterAlgebraModel" 139 (-1 : Int64) ∈ zp_G := zp_in 714 (by decide +kernel) (by decide +kernel)
theorem ln_Lw_90 : Cond.methodLink "LetterAlgebraLaw" 90 ⟨"LetterAlgebraModel", "product", "(II)I"⟩ ∈ zp_G := zp_in 715 (by decide +kernel) (by decide +kernel)
theorem ln_Lw_95 : Cond.methodLink "LetterAlgebraLaw" 95 ⟨"LetterAlgebraModel", "related", "(III)Z"⟩ ∈ zp_G := zp_in 719 (by decide +kernel) (by decide +kernel)
theorem ln_Mo_141 : Cond.methodLink "LetterAlgebraModel" 141 ⟨"LetterAlgebraModel", "rightOf", "(I)J"⟩ ∈ zp_G := zp_in 723 (by decide +kernel) (by decide +kernel)
theorem ln_Mo_145 : Cond.methodLink "LetterAlgebraModel" 145 ⟨"LetterAlgebraModel", "leftOf", "(I)J"⟩ ∈ zp_G := zp_in 727 (by decide +kernel) (by decide +kernel)
theorem ln_Mo_148 : Cond.methodLink "LetterAlgebraModel" 148 ⟨"LetterAlgebraModel", "aroundOf", "(I)J"⟩ ∈ zp_G := zp_in 731 (by decide +kernel) (by decide +kernel)
theorem ln_Lw_99 : Cond.methodLink "LetterAlgebraLaw" 99 ⟨"LetterAlgebraModel", "classes", "(I)I"⟩ ∈ zp_G := zp_in 735 (by decide +kernel) (by decide +kernel)
theorem ln_Mo_151 : Cond.methodLink "LetterAlgebraModel" 151 ⟨"LetterAlgebraModel", "related", "(III)Z"⟩ ∈ zp_G := zp_in 739 (by decide +kernel) (by decide +kernel)
theorem ln_Lw_103 : Cond.methodLink "LetterAlgebraLaw" 103 ⟨"LetterAlgebraModel", "witness", "(I)I"⟩ ∈ zp_G := zp_in 740 (by decide +kernel) (by decide +kernel)
theorem ln_Mo_155 : Cond.methodLink "LetterAlgebraModel" 155 ⟨"LetterAlgebraModel", "against", "(III)Z"⟩ ∈ zp_G := zp_in 744 (by decide +kernel) (by decide +kernel)
theorem ln_Lw_63 : Cond.constantLong "LetterAlgebraLaw" 63 (4294967295 : Int64) ∈ zp_G := zp_in 748 (by decide +kernel) (by decide +kernel)
theorem Fs_Ba_startCode : Cond.selects "LetterAlgebra$BasicMachine" ⟨"LetterAlgebra$Machine", "startCode", "()I"⟩ y_Ba_startCode ∈ zp_G := zp_in 157 (by decide +kernel) (by decide +kernel)
theorem Ff_Ba_startCode : ("LetterAlgebra$BasicMachine", ⟨"LetterAlgebra$Machine", "startCode", "()I"⟩, y_Ba_startCode) ∈ zp_F := List.mem_of_getElem? (i := 0) rfl
theorem Fs_Ch_startCode : Cond.selects "LetterAlgebra$ChainMachine" ⟨"LetterAlgebra$Machine", "startCode", "()I"⟩ y_Ch_startCode ∈ zp_G := zp_in 163 (by decide +kernel) (by decide +kernel)
theorem Ff_Ch_startCode : ("LetterAlgebra$ChainMachine", ⟨"LetterAlgebra$Machine", "startCode", "()I"⟩, y_Ch_startCode) ∈ zp_F := List.mem_of_getElem? (i := 1) rfl
theorem Fs_In_startCode : Cond.selects "LetterAlgebra$InverseMachine" ⟨"LetterAlgebra$Machine", "startCode", "()I"⟩ y_In_startCode ∈ zp_G := zp_in 178 (by decide +kernel) (by decide +kernel)
theorem Ff_In_startCode : ("LetterAlgebra$InverseMachine", ⟨"LetterAlgebra$Machine", "startCode", "()I"⟩, y_In_startCode) ∈ zp_F := List.mem_of_getElem? (i := 2) rfl
theorem Fs_Pa_startCode : Cond.selects "LetterAlgebra$PairMachine" ⟨"LetterAlgebra$Machine", "startCode", "()I"⟩ y_Pa_startCode ∈ zp_G := zp_in 184 (by decide +kernel) (by decide +kernel)
theorem Ff_Pa_startCode : ("LetterAlgebra$PairMachine", ⟨"LetterAlgebra$Machine", "startCode", "()I"⟩, y_Pa_startCode) ∈ zp_F := List.mem_of_getElem? (i := 3) rfl
theorem Fs_St_startCode : Cond.selects "LetterAlgebra$StarMachine" ⟨"LetterAlgebra$Machine", "startCode", "()I"⟩ y_St_startCode ∈ zp_G := zp_in 190 (by decide +kernel) (by decide +kernel)
theorem Ff_St_startCode : ("LetterAlgebra$StarMachine", ⟨"LetterAlgebra$Machine", "startCode", "()I"⟩, y_St_startCode) ∈ zp_F := List.mem_of_getElem? (i := 4) rfl
theorem Fs_Ba_stepCode : Cond.selects "LetterAlgebra$BasicMachine" ⟨"LetterAlgebra$Machine", "stepCode", "(II)I"⟩ y_Ba_stepCode ∈ zp_G := zp_in 203 (by decide +kernel) (by decide +kernel)
theorem Ff_Ba_stepCode : ("LetterAlgebra$BasicMachine", ⟨"LetterAlgebra$Machine", "stepCode", "(II)I"⟩, y_Ba_stepCode) ∈ zp_F := List.mem_of_getElem? (i := 5) rfl
theorem Fs_Ch_stepCode : Cond.selects "LetterAlgebra$ChainMachine" ⟨"LetterAlgebra$Machine", "stepCode", "(II)I"⟩ y_Ch_stepCode ∈ zp_G := zp_in 208 (by decide +kernel) (by decide +kernel)
theorem Ff_Ch_stepCode : ("LetterAlgebra$ChainMachine", ⟨"LetterAlgebra$Machine", "stepCode", "(II)I"⟩, y_Ch_stepCode) ∈ zp_F := List.mem_of_getElem? (i := 6) rfl
theorem Fs_In_stepCode : Cond.selects "LetterAlgebra$InverseMachine" ⟨"LetterAlgebra$Machine", "stepCode", "(II)I"⟩ y_In_stepCode ∈ zp_G := zp_in 222 (by decide +kernel) (by decide +kernel)
theorem Ff_In_stepCode : ("LetterAlgebra$InverseMachine", ⟨"LetterAlgebra$Machine", "stepCode", "(II)I"⟩, y_In_stepCode) ∈ zp_F := List.mem_of_getElem? (i := 7) rfl
theorem Fs_Pa_stepCode : Cond.selects "LetterAlgebra$PairMachine" ⟨"LetterAlgebra$Machine", "stepCode", "(II)I"⟩ y_Pa_stepCode ∈ zp_G := zp_in 228 (by decide +kernel) (by decide +kernel)
theorem Ff_Pa_stepCode : ("LetterAlgebra$PairMachine", ⟨"LetterAlgebra$Machine", "stepCode", "(II)I"⟩, y_Pa_stepCode) ∈ zp_F := List.mem_of_getElem? (i := 8) rfl
theorem Fs_St_stepCode : Cond.selects "LetterAlgebra$StarMachine" ⟨"LetterAlgebra$Machine", "stepCode", "(II)I"⟩ y_St_stepCode ∈ zp_G := zp_in 234 (by decide +kernel) (by decide +kernel)
theorem Ff_St_stepCode : ("LetterAlgebra$StarMachine", ⟨"LetterAlgebra$Machine", "stepCode", "(II)I"⟩, y_St_stepCode) ∈ zp_F := List.mem_of_getElem? (i := 9) rfl
theorem Fs_Ba_isAcceptingCode : Cond.selects "LetterAlgebra$BasicMachine" ⟨"LetterAlgebra$Machine", "isAcceptingCode", "(I)Z"⟩ y_Ba_isAcceptingCode ∈ zp_G := zp_in 252 (by decide +kernel) (by decide +kernel)
theorem Ff_Ba_isAcceptingCode : ("LetterAlgebra$BasicMachine", ⟨"LetterAlgebra$Machine", "isAcceptingCode", "(I)Z"⟩, y_Ba_isAcceptingCode) ∈ zp_F := List.mem_of_getElem? (i := 10) rfl
theorem Fs_Ch_isAcceptingCode : Cond.selects "LetterAlgebra$ChainMachine" ⟨"LetterAlgebra$Machine", "isAcceptingCode", "(I)Z"⟩ y_Ch_isAcceptingCode ∈ zp_G := zp_in 257 (by decide +kernel) (by decide +kernel)
theorem Ff_Ch_isAcceptingCode : ("LetterAlgebra$ChainMachine", ⟨"LetterAlgebra$Machine", "isAcceptingCode", "(I)Z"⟩, y_Ch_isAcceptingCode) ∈ zp_F := List.mem_of_getElem? (i := 11) rfl
theorem Fs_In_isAcceptingCode : Cond.selects "LetterAlgebra$InverseMachine" ⟨"LetterAlgebra$Machine", "isAcceptingCode", "(I)Z"⟩ y_In_isAcceptingCode ∈ zp_G := zp_in 263 (by decide +kernel) (by decide +kernel)
theorem Ff_In_isAcceptingCode : ("LetterAlgebra$InverseMachine", ⟨"LetterAlgebra$Machine", "isAcceptingCode", "(I)Z"⟩, y_In_isAcceptingCode) ∈ zp_F := List.mem_of_getElem? (i := 12) rfl
theorem Fs_Pa_isAcceptingCode : Cond.selects "LetterAlgebra$PairMachine" ⟨"LetterAlgebra$Machine", "isAcceptingCode", "(I)Z"⟩ y_Pa_isAcceptingCode ∈ zp_G := zp_in 269 (by decide +kernel) (by decide +kernel)
theorem Ff_Pa_isAcceptingCode : ("LetterAlgebra$PairMachine", ⟨"LetterAlgebra$Machine", "isAcceptingCode", "(I)Z"⟩, y_Pa_isAcceptingCode) ∈ zp_F := List.mem_of_getElem? (i := 13) rfl
theorem Fs_St_isAcceptingCode : Cond.selects "LetterAlgebra$StarMachine" ⟨"LetterAlgebra$Machine", "isAcceptingCode", "(I)Z"⟩ y_St_isAcceptingCode ∈ zp_G := zp_in 275 (by decide +kernel) (by decide +kernel)
theorem Ff_St_isAcceptingCode : ("LetterAlgebra$StarMachine", ⟨"LetterAlgebra$Machine", "isAcceptingCode", "(I)Z"⟩, y_St_isAcceptingCode) ∈ zp_F := List.mem_of_getElem? (i := 14) rfl
theorem ka_int : Cond.arrayClass .int ∈ zp_G := zp_in 50 (by decide +kernel) (by decide +kernel)
theorem ka_long : Cond.arrayClass .long ∈ zp_G := zp_in 90 (by decide +kernel) (by decide +kernel)
theorem ka_boolean : Cond.arrayClass .boolean ∈ zp_G := zp_in 569 (by decide +kernel) (by decide +kernel)
end
section
theorem d_LA_init_0 : decode b_LA_init 0 = .ok (.aload_n 0, 1) := by decide +kernel
theorem d_LA_init_1 : decode b_LA_init 1 = .ok (.invokespecial 3, 3) := by decide +kernel
theorem d_LA_init_4 : decode b_LA_init 4 = .ok (.aload_n 0, 1) := by decide +kernel
theorem d_LA_init_5 : decode b_LA_init 5 = .ok (.bipush 12, 2) := by decide +kernel
theorem d_LA_init_7 : decode b_LA_init 7 = .ok (.anewarray 9, 3) := by decide +kernel
theorem d_LA_init_10 : decode b_LA_init 10 = .ok (.putfield 11, 3) := by decide +kernel
theorem d_LA_init_13 : decode b_LA_init 13 = .ok (.aload_n 0, 1) := by decide +kernel
theorem d_LA_init_14 : decode b_LA_init 14 = .ok (.new 15, 3) := by decide +kernel
theorem d_LA_init_17 : decode b_LA_init 17 = .ok (.dup, 1) := by decide +kernel
theorem d_LA_init_18 : decode b_LA_init 18 = .ok (.invokespecial 17, 3) := by decide +kernel
theorem d_LA_init_21 : decode b_LA_init 21 = .ok (.putfield 18, 3) := by decide +kernel
theorem d_LA_init_24 : decode b_LA_init 24 = .ok (.aload_n 0, 1) := by decide +kernel
theorem d_LA_init_25 : decode b_LA_init 25 = .ok (.new 22, 3) := by decide +kernel
theorem d_LA_init_28 : decode b_LA_init 28 = .ok (.dup, 1) := by decide +kernel
theorem d_LA_init_29 : decode b_LA_init 29 = .ok (.invokespecial 24, 3) := by decide +kernel
theorem d_LA_init_32 : decode b_LA_init 32 = .ok (.putfield 25, 3) := by decide +kernel
theorem d_LA_init_35 : decode b_LA_init 35 = .ok (.iconst 0, 1) := by decide +kernel
theorem d_LA_init_36 : decode b_LA_init 36 = .ok (.istore_n 1, 1) := by decide +kernel
theorem d_LA_init_37 : decode b_LA_init 37 = .ok (.iload_n 1, 1) := by decide +kernel
theorem d_LA_init_38 : decode b_LA_init 38 = .ok (.bipush 12, 2) := by decide +kernel
theorem d_LA_init_40 : decode b_LA_init 40 = .ok (.if_icmp .ge 22, 3) := by decide +kernel
theorem d_LA_init_43 : decode b_LA_init 43 = .ok (.aload_n 0, 1) := by decide +kernel
theorem d_LA_init_44 : decode b_LA_init 44 = .ok (.getfield 11, 3) := by decide +kernel
theorem d_LA_init_47 : decode b_LA_init 47 = .ok (.iload_n 1, 1) := by decide +kernel
theorem d_LA_init_48 : decode b_LA_init 48 = .ok (.new 9, 3) := by decide +kernel
theorem d_LA_init_51 : decode b_LA_init 51 = .ok (.dup, 1) := by decide +kernel
theorem d_LA_init_52 : decode b_LA_init 52 = .ok (.invokespecial 29, 3) := by decide +kernel
theorem d_LA_init_55 : decode b_LA_init 55 = .ok (.aastore, 1) := by decide +kernel
theorem d_LA_init_56 : decode b_LA_init 56 = .ok (.iinc 1 1, 3) := by decide +kernel
theorem d_LA_init_59 : decode b_LA_init 59 = .ok (.goto (-22), 3) := by decide +kernel
theorem d_LA_init_62 : decode b_LA_init 62 = .ok (.return_, 1) := by decide +kernel
theorem d_Re_init_0 : decode b_Re_init 0 = .ok (.aload_n 0, 1) := by decide +kernel
theorem d_Re_init_1 : decode b_Re_init 1 = .ok (.invokespecial 3, 3) := by decide +kernel
theorem d_Re_init_4 : decode b_Re_init 4 = .ok (.aload_n 0, 1) := by decide +kernel
theorem d_Re_init_5 : decode b_Re_init 5 = .ok (.sipush 384, 3) := by decide +kernel
theorem d_Re_init_8 : decode b_Re_init 8 = .ok (.newarray .int, 2) := by decide +kernel
theorem d_Re_init_10 : decode b_Re_init 10 = .ok (.putfield 9, 3) := by decide +kernel
theorem d_Re_init_13 : decode b_Re_init 13 = .ok (.aload_n 0, 1) := by decide +kernel
theorem d_Re_init_14 : decode b_Re_init 14 = .ok (.sipush 384, 3) := by decide +kernel
theorem d_Re_init_17 : decode b_Re_init 17 = .ok (.newarray .int, 2) := by decide +kernel
theorem d_Re_init_19 : decode b_Re_init 19 = .ok (.putfield 15, 3) := by decide +kernel
theorem d_Re_init_22 : decode b_Re_init 22 = .ok (.aload_n 0, 1) := by decide +kernel
theorem d_Re_init_23 : decode b_Re_init 23 = .ok (.sipush 768, 3) := by decide +kernel
theorem d_Re_init_26 : decode b_Re_init 26 = .ok (.newarray .int, 2) := by decide +kernel
theorem d_Re_init_28 : decode b_Re_init 28 = .ok (.putfield 18, 3) := by decide +kernel
theorem d_Re_init_31 : decode b_Re_init 31 = .ok (.aload_n 0, 1) := by decide +kernel
theorem d_Re_init_32 : decode b_Re_init 32 = .ok (.sipush 384, 3) := by decide +kernel
theorem d_Re_init_35 : decode b_Re_init 35 = .ok (.newarray .int, 2) := by decide +kernel
theorem d_Re_init_37 : decode b_Re_init 37 = .ok (.putfield 21, 3) := by decide +kernel
theorem d_Re_init_40 : decode b_Re_init 40 = .ok (.aload_n 0, 1) := by decide +kernel
theorem d_Re_init_41 : decode b_Re_init 41 = .ok (.sipush 384, 3) := by decide +kernel
theorem d_Re_init_44 : decode b_Re_init 44 = .ok (.newarray .int, 2) := by decide +kernel
theorem d_Re_init_46 : decode b_Re_init 46 = .ok (.putfield 24, 3) := by decide +kernel
theorem d_Re_init_49 : decode b_Re_init 49 = .ok (.aload_n 0, 1) := by decide +kernel
theorem d_Re_init_50 : decode b_Re_init 50 = .ok (.bipush 6, 2) := by decide +kernel
theorem d_Re_init_52 : decode b_Re_init 52 = .ok (.newarray .int, 2) := by decide +kernel
theorem d_Re_init_54 : decode b_Re_init 54 = .ok (.putfield 27, 3) := by decide +kernel
theorem d_Re_init_57 : decode b_Re_init 57 = .ok (.return_, 1) := by decide +kernel
theorem d_Al_init_0 : decode b_Al_init 0 = .ok (.aload_n 0, 1) := by decide +kernel
theorem d_Al_init_1 : decode b_Al_init 1 = .ok (.invokespecial 3, 3) := by decide +kernel
theorem d_Al_init_4 : decode b_Al_init 4 = .ok (.aload_n 0, 1) := by decide +kernel
theorem d_Al_init_5 : decode b_Al_init 5 = .ok (.bipush 60, 2) := by decide +kernel
theorem d_Al_init_7 : decode b_Al_init 7 = .ok (.newarray .int, 2) := by decide +kernel
theorem d_Al_init_9 : decode b_Al_init 9 = .ok (.putfield 9, 3) := by decide +kernel
theorem d_Al_init_12 : decode b_Al_init 12 = .ok (.aload_n 0, 1) := by decide +kernel
theorem d_Al_init_13 : decode b_Al_init 13 = .ok (.bipush 120, 2) := by decide +kernel
theorem d_Al_init_15 : decode b_Al_init 15 = .ok (.newarray .int, 2) := by decide +kernel
theorem d_Al_init_17 : decode b_Al_init 17 = .ok (.putfield 15, 3) := by decide +kernel
theorem d_Al_init_20 : decode b_Al_init 20 = .ok (.aload_n 0, 1) := by decide +kernel
theorem d_Al_init_21 : decode b_Al_init 21 = .ok (.bipush 60, 2) := by decide +kernel
theorem d_Al_init_23 : decode b_Al_init 23 = .ok (.newarray .int, 2) := by decide +kernel
theorem d_Al_init_25 : decode b_Al_init 25 = .ok (.putfield 18, 3) := by decide +kernel
theorem d_Al_init_28 : decode b_Al_init 28 = .ok (.aload_n 0, 1) := by decide +kernel
theorem d_Al_init_29 : decode b_Al_init 29 = .ok (.bipush 60, 2) := by decide +kernel
theorem d_Al_init_31 : decode b_Al_init 31 = .ok (.newarray .int, 2) := by decide +kernel
theorem d_Al_init_33 : decode b_Al_init 33 = .ok (.putfield 21, 3) := by decide +kernel
theorem d_Al_init_36 : decode b_Al_init 36 = .ok (.aload_n 0, 1) := by decide +kernel
theorem d_Al_init_37 : decode b_Al_init 37 = .ok (.bipush 60, 2) := by decide +kernel
theorem d_Al_init_39 : decode b_Al_init 39 = .ok (.newarray .long, 2) := by decide +kernel
theorem d_Al_init_41 : decode b_Al_init 41 = .ok (.putfield 24, 3) := by decide +kernel
theorem d_Al_init_44 : decode b_Al_init 44 = .ok (.aload_n 0, 1) := by decide +kernel
theorem d_Al_init_45 : decode b_Al_init 45 = .ok (.sipush 3600, 3) := by decide +kernel
theorem d_Al_init_48 : decode b_Al_init 48 = .ok (.newarray .int, 2) := by decide +kernel
theorem d_Al_init_50 : decode b_Al_init 50 = .ok (.putfield 28, 3) := by decide +kernel
theorem d_Al_init_53 : decode b_Al_init 53 = .ok (.aload_n 0, 1) := by decide +kernel
theorem d_Al_init_54 : decode b_Al_init 54 = .ok (.bipush 60, 2) := by decide +kernel
theorem d_Al_init_56 : decode b_Al_init 56 = .ok (.newarray .long, 2) := by decide +kernel
theorem d_Al_init_58 : decode b_Al_init 58 = .ok (.putfield 31, 3) := by decide +kernel
theorem d_Al_init_61 : decode b_Al_init 61 = .ok (.aload_n 0, 1) := by decide +kernel
theorem d_Al_init_62 : decode b_Al_init 62 = .ok (.bipush 60, 2) := by decide +kernel
theorem d_Al_init_64 : decode b_Al_init 64 = .ok (.newarray .long, 2) := by decide +kernel
theorem d_Al_init_66 : decode b_Al_init 66 = .ok (.putfield 34, 3) := by decide +kernel
theorem d_Al_init_69 : decode b_Al_init 69 = .ok (.aload_n 0, 1) := by decide +kernel
theorem d_Al_init_70 : decode b_Al_init 70 = .ok (.bipush 60, 2) := by decide +kernel
theorem d_Al_init_72 : decode b_Al_init 72 = .ok (.newarray .long, 2) := by decide +kernel
theorem d_Al_init_74 : decode b_Al_init 74 = .ok (.putfield 37, 3) := by decide +kernel
theorem d_Al_init_77 : decode b_Al_init 77 = .ok (.return_, 1) := by decide +kernel
theorem d_Au_init_0 : decode b_Au_init 0 = .ok (.aload_n 0, 1) := by decide +kernel
theorem d_Au_init_1 : decode b_Au_init 1 = .ok (.invokespecial 3, 3) := by decide +kernel
theorem d_Au_init_4 : decode b_Au_init 4 = .ok (.aload_n 0, 1) := by decide +kernel
theorem d_Au_init_5 : decode b_Au_init 5 = .ok (.bipush 12, 2) := by decide +kernel
theorem d_Au_init_7 : decode b_Au_init 7 = .ok (.newarray .int, 2) := by decide +kernel
theorem d_Au_init_9 : decode b_Au_init 9 = .ok (.putfield 9, 3) := by decide +kernel
theorem d_Au_init_12 : decode b_Au_init 12 = .ok (.return_, 1) := by decide +kernel
theorem d_LA_basic_0 : decode b_LA_basic 0 = .ok (.iload_n 1, 1) := by decide +kernel
theorem d_LA_basic_1 : decode b_LA_basic 1 = .ok (.ifCond .lt 8, 3) := by decide +kernel
theorem d_LA_basic_4 : decode b_LA_basic 4 = .ok (.iload_n 1, 1) := by decide +kernel
theorem d_LA_basic_5 : decode b_LA_basic 5 = .ok (.iconst 4, 1) := by decide +kernel
theorem d_LA_basic_6 : decode b_LA_basic 6 = .ok (.if_icmp .lt 5, 3) := by decide +kernel
theorem d_LA_basic_9 : decode b_LA_basic 9 = .ok (.iconst (-1), 1) := by decide +kernel
theorem d_LA_basic_10 : decode b_LA_basic 10 = .ok (.ireturn, 1) := by decide +kernel
theorem d_LA_basic_11 : decode b_LA_basic 11 = .ok (.aload_n 0, 1) := by decide +kernel
theorem d_LA_basic_12 : decode b_LA_basic 12 = .ok (.new 30, 3) := by decide +kernel
theorem d_LA_basic_15 : decode b_LA_basic 15 = .ok (.dup, 1) := by decide +kernel
theorem d_LA_basic_16 : decode b_LA_basic 16 = .ok (.iload_n 1, 1) := by decide +kernel
theorem d_LA_basic_17 : decode b_LA_basic 17 = .ok (.invokespecial 32, 3) := by decide +kernel
theorem d_LA_basic_20 : decode b_LA_basic 20 = .ok (.invokevirtual 35, 3) := by decide +kernel
theorem d_LA_basic_23 : decode b_LA_basic 23 = .ok (.ireturn, 1) := by decide +kernel
theorem d_Ba_init_0 : decode b_Ba_init 0 = .ok (.aload_n 0, 1) := by decide +kernel
theorem d_Ba_init_1 : decode b_Ba_init 1 = .ok (.invokespecial 3, 3) := by decide +kernel
theorem d_Ba_init_4 : decode b_Ba_init 4 = .ok (.aload_n 0, 1) := by decide +kernel
theorem d_Ba_init_5 : decode b_Ba_init 5 = .ok (.iload_n 1, 1) := by decide +kernel
theorem d_Ba_init_6 : decode b_Ba_init 6 = .ok (.putfield 9, 3) := by decide +kernel
theorem d_Ba_init_9 : decode b_Ba_init 9 = .ok (.return_, 1) := by decide +kernel
theorem d_LA_add_0 : decode b_LA_add 0 = .ok (.aload_n 0, 1) := by decide +kernel
theorem d_LA_add_1 : decode b_LA_add 1 = .ok (.getfield 61, 3) := by decide +kernel
theorem d_LA_add_4 : decode b_LA_add 4 = .ok (.bipush 12, 2) := by decide +kernel
theorem d_LA_add_6 : decode b_LA_add 6 = .ok (.if_icmp .lt 6, 3) := by decide +kernel
theorem d_LA_add_9 : decode b_LA_add 9 = .ok (.bipush (-2), 2) := by decide +kernel
theorem d_LA_add_11 : decode b_LA_add 11 = .ok (.ireturn, 1) := by decide +kernel
theorem d_LA_add_12 : decode b_LA_add 12 = .ok (.aload_n 0, 1) := by decide +kernel
theorem d_LA_add_13 : decode b_LA_add 13 = .ok (.getfield 18, 3) := by decide +kernel
theorem d_LA_add_16 : decode b_LA_add 16 = .ok (.aload_n 1, 1) := by decide +kernel
theorem d_LA_add_17 : decode b_LA_add 17 = .ok (.aload_n 0, 1) := by decide +kernel
theorem d_LA_add_18 : decode b_LA_add 18 = .ok (.getfield 11, 3) := by decide +kernel
theorem d_LA_add_21 : decode b_LA_add 21 = .ok (.aload_n 0, 1) := by decide +kernel
theorem d_LA_add_22 : decode b_LA_add 22 = .ok (.getfield 61, 3) := by decide +kernel
theorem d_LA_add_25 : decode b_LA_add 25 = .ok (.aaload, 1) := by decide +kernel
theorem d_LA_add_26 : decode b_LA_add 26 = .ok (.invokevirtual 116, 3) := by decide +kernel
theorem d_LA_add_29 : decode b_LA_add 29 = .ok (.ifCond .ne 6, 3) := by decide +kernel
theorem d_LA_add_32 : decode b_LA_add 32 = .ok (.bipush (-3), 2) := by decide +kernel
theorem d_LA_add_34 : decode b_LA_add 34 = .ok (.ireturn, 1) := by decide +kernel
theorem d_LA_add_35 : decode b_LA_add 35 = .ok (.aload_n 0, 1) := by decide +kernel
theorem d_LA_add_36 : decode b_LA_add 36 = .ok (.dup, 1) := by decide +kernel
theorem d_LA_add_37 : decode b_LA_add 37 = .ok (.getfield 61, 3) := by decide +kernel
theorem d_LA_add_40 : decode b_LA_add 40 = .ok (.iconst 1, 1) := by decide +kernel
theorem d_LA_add_41 : decode b_LA_add 41 = .ok (.iadd, 1) := by decide +kernel
theorem d_LA_add_42 : decode b_LA_add 42 = .ok (.putfield 61, 3) := by decide +kernel
theorem d_LA_add_45 : decode b_LA_add 45 = .ok (.aload_n 0, 1) := by decide +kernel
theorem d_LA_add_46 : decode b_LA_add 46 = .ok (.getfield 61, 3) := by decide +kernel
theorem d_LA_add_49 : decode b_LA_add 49 = .ok (.iconst 1, 1) := by decide +kernel
theorem d_LA_add_50 : decode b_LA_add 50 = .ok (.isub, 1) := by decide +kernel
theorem d_LA_add_51 : decode b_LA_add 51 = .ok (.ireturn, 1) := by decide +kernel
theorem d_Re_reduce_0 : decode b_Re_reduce 0 = .ok (.aload_n 0, 1) := by decide +kernel
theorem d_Re_reduce_1 : decode b_Re_reduce 1 = .ok (.aload_n 1, 1) := by decide +kernel
theorem d_Re_reduce_2 : decode b_Re_reduce 2 = .ok (.invokevirtual 30, 3) := by decide +kernel
theorem d_Re_reduce_5 : decode b_Re_reduce 5 = .ok (.aload_n 0, 1) := by decide +kernel
theorem d_Re_reduce_6 : decode b_Re_reduce 6 = .ok (.aload_n 1, 1) := by decide +kernel
theorem d_Re_reduce_7 : decode b_Re_reduce 7 = .ok (.invokevirtual 34, 3) := by decide +kernel
theorem d_Re_reduce_10 : decode b_Re_reduce 10 = .ok (.aload_n 0, 1) := by decide +kernel
theorem d_Re_reduce_11 : decode b_Re_reduce 11 = .ok (.invokevirtual 37, 3) := by decide +kernel
theorem d_Re_reduce_14 : decode b_Re_reduce 14 = .ok (.istore_n 3, 1) := by decide +kernel
theorem d_Re_reduce_15 : decode b_Re_reduce 15 = .ok (.iload_n 3, 1) := by decide +kernel
theorem d_Re_reduce_16 : decode b_Re_reduce 16 = .ok (.iconst (-1), 1) := by decide +kernel
theorem d_Re_reduce_17 : decode b_Re_reduce 17 = .ok (.if_icmp .ne 5, 3) := by decide +kernel
theorem d_Re_reduce_20 : decode b_Re_reduce 20 = .ok (.iconst 0, 1) := by decide +kernel
theorem d_Re_reduce_21 : decode b_Re_reduce 21 = .ok (.ireturn, 1) := by decide +kernel
theorem d_Re_reduce_22 : decode b_Re_reduce 22 = .ok (.aload_n 0, 1) := by decide +kernel
theorem d_Re_reduce_23 : decode b_Re_reduce 23 = .ok (.aload_n 1, 1) := by decide +kernel
theorem d_Re_reduce_24 : decode b_Re_reduce 24 = .ok (.iload_n 3, 1) := by decide +kernel
theorem d_Re_reduce_25 : decode b_Re_reduce 25 = .ok (.aload_n 2, 1) := by decide +kernel
theorem d_Re_reduce_26 : decode b_Re_reduce 26 = .ok (.invokevirtual 41, 3) := by decide +kernel
theorem d_Re_reduce_29 : decode b_Re_reduce 29 = .ok (.iconst 1, 1) := by decide +kernel
theorem d_Re_reduce_30 : decode b_Re_reduce 30 = .ok (.ireturn, 1) := by decide +kernel
theorem d_Re_explore_0 : decode b_Re_explore 0 = .ok (.aload_n 0, 1) := by decide +kernel
theorem d_Re_explore_1 : decode b_Re_explore 1 = .ok (.getfield 9, 3) := by decide +kernel
theorem d_Re_explore_4 : decode b_Re_explore 4 = .ok (.iconst (-1), 1) := by decide +kernel
theorem d_Re_explore_5 : decode b_Re_explore 5 = .ok (.invokestatic 45, 3) := by decide +kernel
theorem d_Re_explore_8 : decode b_Re_explore 8 = .ok (.aload_n 0, 1) := by decide +kernel
theorem d_Re_explore_9 : decode b_Re_explore 9 = .ok (.iconst 0, 1) := by decide +kernel
theorem d_Re_explore_10 : decode b_Re_explore 10 = .ok (.putfield 51, 3) := by decide +kernel
theorem d_Re_explore_13 : decode b_Re_explore 13 = .ok (.aload_n 0, 1) := by decide +kernel
theorem d_Re_explore_14 : decode b_Re_explore 14 = .ok (.aload_n 1, 1) := by decide +kernel
theorem d_Re_explore_15 : decode b_Re_explore 15 = .ok (.invokeinterface 55 1, 5) := by decide +kernel
theorem d_Re_explore_20 : decode b_Re_explore 20 = .ok (.invokevirtual 60, 3) := by decide +kernel
theorem d_Re_explore_23 : decode b_Re_explore 23 = .ok (.pop, 1) := by decide +kernel
theorem d_Re_explore_24 : decode b_Re_explore 24 = .ok (.iconst 0, 1) := by decide +kernel
theorem d_Re_explore_25 : decode b_Re_explore 25 = .ok (.istore_n 2, 1) := by decide +kernel
theorem d_Re_explore_26 : decode b_Re_explore 26 = .ok (.iload_n 2, 1) := by decide +kernel
theorem d_Re_explore_27 : decode b_Re_explore 27 = .ok (.aload_n 0, 1) := by decide +kernel
theorem d_Re_explore_28 : decode b_Re_explore 28 = .ok (.getfield 51, 3) := by decide +kernel
theorem d_Re_explore_31 : decode b_Re_explore 31 = .ok (.if_icmp .ge 56, 3) := by decide +kernel
theorem d_Re_explore_34 : decode b_Re_explore 34 = .ok (.iload_n 2, 1) := by decide +kernel
theorem d_Re_explore_35 : decode b_Re_explore 35 = .ok (.sipush 384, 3) := by decide +kernel
theorem d_Re_explore_38 : decode b_Re_explore 38 = .ok (.if_icmp .ge 49, 3) := by decide +kernel
theorem d_Re_explore_41 : decode b_Re_explore 41 = .ok (.iconst 0, 1) := by decide +kernel
theorem d_Re_explore_42 : decode b_Re_explore 42 = .ok (.istore_n 3, 1) := by decide +kernel
theorem d_Re_explore_43 : decode b_Re_explore 43 = .ok (.iload_n 3, 1) := by decide +kernel
theorem d_Re_explore_44 : decode b_Re_explore 44 = .ok (.iconst 2, 1) := by decide +kernel
theorem d_Re_explore_45 : decode b_Re_explore 45 = .ok (.if_icmp .ge 36, 3) := by decide +kernel
theorem d_Re_explore_48 : decode b_Re_explore 48 = .ok (.aload_n 0, 1) := by decide +kernel
theorem d_Re_explore_49 : decode b_Re_explore 49 = .ok (.getfield 18, 3) := by decide +kernel
theorem d_Re_explore_52 : decode b_Re_explore 52 = .ok (.iconst 2, 1) := by decide +kernel
theorem d_Re_explore_53 : decode b_Re_explore 53 = .ok (.iload_n 2, 1) := by decide +kernel
theorem d_Re_explore_54 : decode b_Re_explore 54 = .ok (.imul, 1) := by decide +kernel
theorem d_Re_explore_55 : decode b_Re_explore 55 = .ok (.iload_n 3, 1) := by decide +kernel
theorem d_Re_explore_56 : decode b_Re_explore 56 = .ok (.iadd, 1) := by decide +kernel
theorem d_Re_explore_57 : decode b_Re_explore 57 = .ok (.aload_n 0, 1) := by decide +kernel
theorem d_Re_explore_58 : decode b_Re_explore 58 = .ok (.aload_n 1, 1) := by decide +kernel
theorem d_Re_explore_59 : decode b_Re_explore 59 = .ok (.aload_n 0, 1) := by decide +kernel
theorem d_Re_explore_60 : decode b_Re_explore 60 = .ok (.getfield 15, 3) := by decide +kernel
theorem d_Re_explore_63 : decode b_Re_explore 63 = .ok (.iload_n 2, 1) := by decide +kernel
theorem d_Re_explore_64 : decode b_Re_explore 64 = .ok (.iaload, 1) := by decide +kernel
theorem d_Re_explore_65 : decode b_Re_explore 65 = .ok (.iload_n 3, 1) := by decide +kernel
theorem d_Re_explore_66 : decode b_Re_explore 66 = .ok (.invokeinterface 64 3, 5) := by decide +kernel
theorem d_Re_explore_71 : decode b_Re_explore 71 = .ok (.invokevirtual 60, 3) := by decide +kernel
theorem d_Re_explore_74 : decode b_Re_explore 74 = .ok (.iastore, 1) := by decide +kernel
theorem d_Re_explore_75 : decode b_Re_explore 75 = .ok (.iinc 3 1, 3) := by decide +kernel
theorem d_Re_explore_78 : decode b_Re_explore 78 = .ok (.goto (-35), 3) := by decide +kernel
theorem d_Re_explore_81 : decode b_Re_explore 81 = .ok (.iinc 2 1, 3) := by decide +kernel
theorem d_Re_explore_84 : decode b_Re_explore 84 = .ok (.goto (-58), 3) := by decide +kernel
theorem d_Re_explore_87 : decode b_Re_explore 87 = .ok (.return_, 1) := by decide +kernel
theorem d_Ar_fill_0 : decode b_Ar_fill 0 = .ok (.iconst 0, 1) := by decide +kernel
theorem d_Ar_fill_1 : decode b_Ar_fill 1 = .ok (.istore_n 2, 1) := by decide +kernel
theorem d_Ar_fill_2 : decode b_Ar_fill 2 = .ok (.aload_n 0, 1) := by decide +kernel
theorem d_Ar_fill_3 : decode b_Ar_fill 3 = .ok (.arraylength, 1) := by decide +kernel
theorem d_Ar_fill_4 : decode b_Ar_fill 4 = .ok (.istore_n 3, 1) := by decide +kernel
theorem d_Ar_fill_5 : decode b_Ar_fill 5 = .ok (.iload_n 2, 1) := by decide +kernel
theorem d_Ar_fill_6 : decode b_Ar_fill 6 = .ok (.iload_n 3, 1) := by decide +kernel
theorem d_Ar_fill_7 : decode b_Ar_fill 7 = .ok (.if_icmp .ge 13, 3) := by decide +kernel
theorem d_Ar_fill_10 : decode b_Ar_fill 10 = .ok (.aload_n 0, 1) := by decide +kernel
theorem d_Ar_fill_11 : decode b_Ar_fill 11 = .ok (.iload_n 2, 1) := by decide +kernel
theorem d_Ar_fill_12 : decode b_Ar_fill 12 = .ok (.iload_n 1, 1) := by decide +kernel
theorem d_Ar_fill_13 : decode b_Ar_fill 13 = .ok (.iastore, 1) := by decide +kernel
theorem d_Ar_fill_14 : decode b_Ar_fill 14 = .ok (.iinc 2 1, 3) := by decide +kernel
theorem d_Ar_fill_17 : decode b_Ar_fill 17 = .ok (.goto (-12), 3) := by decide +kernel
theorem d_Ar_fill_20 : decode b_Ar_fill 20 = .ok (.return_, 1) := by decide +kernel
theorem d_Ba_startCode_0 : decode b_Ba_startCode 0 = .ok (.iconst 0, 1) := by decide +kernel
theorem d_Ba_startCode_1 : decode b_Ba_startCode 1 = .ok (.ireturn, 1) := by decide +kernel
theorem d_Ch_startCode_0 : decode b_Ch_startCode 0 = .ok (.aload_n 0, 1) := by decide +kernel
theorem d_Ch_startCode_1 : decode b_Ch_startCode 1 = .ok (.iconst 0, 1) := by decide +kernel
theorem d_Ch_startCode_2 : decode b_Ch_startCode 2 = .ok (.iconst 0, 1) := by decide +kernel
theorem d_Ch_startCode_3 : decode b_Ch_startCode 3 = .ok (.invokevirtual 18, 3) := by decide +kernel
theorem d_Ch_startCode_6 : decode b_Ch_startCode 6 = .ok (.ireturn, 1) := by decide +kernel
theorem d_Ch_codeOf_0 : decode b_Ch_codeOf 0 = .ok (.aload_n 0, 1) := by decide +kernel
theorem d_Ch_codeOf_1 : decode b_Ch_codeOf 1 = .ok (.getfield 9, 3) := by decide +kernel
theorem d_Ch_codeOf_4 : decode b_Ch_codeOf 4 = .ok (.iload_n 1, 1) := by decide +kernel
theorem d_Ch_codeOf_5 : decode b_Ch_codeOf 5 = .ok (.invokevirtual 34, 3) := by decide +kernel
theorem d_Ch_codeOf_8 : decode b_Ch_codeOf 8 = .ok (.ifCond .eq 9, 3) := by decide +kernel
theorem d_Ch_codeOf_11 : decode b_Ch_codeOf 11 = .ok (.iload_n 2, 1) := by decide +kernel
theorem d_Ch_codeOf_12 : decode b_Ch_codeOf 12 = .ok (.iconst 1, 1) := by decide +kernel
theorem d_Ch_codeOf_13 : decode b_Ch_codeOf 13 = .ok (.ior, 1) := by decide +kernel
theorem d_Ch_codeOf_14 : decode b_Ch_codeOf 14 = .ok (.goto 4, 3) := by decide +kernel
theorem d_Ch_codeOf_17 : decode b_Ch_codeOf 17 = .ok (.iload_n 2, 1) := by decide +kernel
theorem d_Ch_codeOf_18 : decode b_Ch_codeOf 18 = .ok (.istore_n 3, 1) := by decide +kernel
theorem d_Ch_codeOf_19 : decode b_Ch_codeOf 19 = .ok (.bipush 64, 2) := by decide +kernel
theorem d_Ch_codeOf_21 : decode b_Ch_codeOf 21 = .ok (.iload_n 1, 1) := by decide +kernel
theorem d_Ch_codeOf_22 : decode b_Ch_codeOf 22 = .ok (.imul, 1) := by decide +kernel
theorem d_Ch_codeOf_23 : decode b_Ch_codeOf 23 = .ok (.iload_n 3, 1) := by decide +kernel
theorem d_Ch_codeOf_24 : decode b_Ch_codeOf 24 = .ok (.iadd, 1) := by decide +kernel
theorem d_Ch_codeOf_25 : decode b_Ch_codeOf 25 = .ok (.ireturn, 1) := by decide +kernel
theorem d_Au_isAccepting_0 : decode b_Au_isAccepting 0 = .ok (.aload_n 0, 1) := by decide +kernel
theorem d_Au_isAccepting_1 : decode b_Au_isAccepting 1 = .ok (.getfield 19, 3) := by decide +kernel
theorem d_Au_isAccepting_4 : decode b_Au_isAccepting 4 = .ok (.iload_n 1, 1) := by decide +kernel
theorem d_Au_isAccepting_5 : decode b_Au_isAccepting 5 = .ok (.ishr, 1) := by decide +kernel
theorem d_Au_isAccepting_6 : decode b_Au_isAccepting 6 = .ok (.iconst 1, 1) := by decide +kernel
theorem d_Au_isAccepting_7 : decode b_Au_isAccepting 7 = .ok (.iand, 1) := by decide +kernel
theorem d_Au_isAccepting_8 : decode b_Au_isAccepting 8 = .ok (.ifCond .eq 7, 3) := by decide +kernel
theorem d_Au_isAccepting_11 : decode b_Au_isAccepting 11 = .ok (.iconst 1, 1) := by decide +kernel
theorem d_Au_isAccepting_12 : decode b_Au_isAccepting 12 = .ok (.goto 4, 3) := by decide +kernel
theorem d_Au_isAccepting_15 : decode b_Au_isAccepting 15 = .ok (.iconst 0, 1) := by decide +kernel
theorem d_Au_isAccepting_16 : decode b_Au_isAccepting 16 = .ok (.ireturn, 1) := by decide +kernel
theorem d_In_startCode_0 : decode b_In_startCode 0 = .ok (.iconst 0, 1) := by decide +kernel
theorem d_In_startCode_1 : decode b_In_startCode 1 = .ok (.ireturn, 1) := by decide +kernel
theorem d_Pa_startCode_0 : decode b_Pa_startCode 0 = .ok (.iconst 0, 1) := by decide +kernel
theorem d_Pa_startCode_1 : decode b_Pa_startCode 1 = .ok (.ireturn, 1) := by decide +kernel
theorem d_St_startCode_0 : decode b_St_startCode 0 = .ok (.bipush 64, 2) := by decide +kernel
theorem d_St_startCode_2 : decode b_St_startCode 2 = .ok (.ireturn, 1) := by decide +kernel
theorem d_Re_numberFor_0 : decode b_Re_numberFor 0 = .ok (.aload_n 0, 1) := by decide +kernel
theorem d_Re_numberFor_1 : decode b_Re_numberFor 1 = .ok (.getfield 9, 3) := by decide +kernel
theorem d_Re_numberFor_4 : decode b_Re_numberFor 4 = .ok (.iload_n 1, 1) := by decide +kernel
theorem d_Re_numberFor_5 : decode b_Re_numberFor 5 = .ok (.iaload, 1) := by decide +kernel
theorem d_Re_numberFor_6 : decode b_Re_numberFor 6 = .ok (.iconst (-1), 1) := by decide +kernel
theorem d_Re_numberFor_7 : decode b_Re_numberFor 7 = .ok (.if_icmp .ne 33, 3) := by decide +kernel
theorem d_Re_numberFor_10 : decode b_Re_numberFor 10 = .ok (.aload_n 0, 1) := by decide +kernel
theorem d_Re_numberFor_11 : decode b_Re_numberFor 11 = .ok (.getfield 9, 3) := by decide +kernel
theorem d_Re_numberFor_14 : decode b_Re_numberFor 14 = .ok (.iload_n 1, 1) := by decide +kernel
theorem d_Re_numberFor_15 : decode b_Re_numberFor 15 = .ok (.aload_n 0, 1) := by decide +kernel
theorem d_Re_numberFor_16 : decode b_Re_numberFor 16 = .ok (.getfield 51, 3) := by decide +kernel
theorem d_Re_numberFor_19 : decode b_Re_numberFor 19 = .ok (.iastore, 1) := by decide +kernel
theorem d_Re_numberFor_20 : decode b_Re_numberFor 20 = .ok (.aload_n 0, 1) := by decide +kernel
theorem d_Re_numberFor_21 : decode b_Re_numberFor 21 = .ok (.getfield 15, 3) := by decide +kernel
theorem d_Re_numberFor_24 : decode b_Re_numberFor 24 = .ok (.aload_n 0, 1) := by decide +kernel
theorem d_Re_numberFor_25 : decode b_Re_numberFor 25 = .ok (.getfield 51, 3) := by decide +kernel
theorem d_Re_numberFor_28 : decode b_Re_numberFor 28 = .ok (.iload_n 1, 1) := by decide +kernel
theorem d_Re_numberFor_29 : decode b_Re_numberFor 29 = .ok (.iastore, 1) := by decide +kernel
theorem d_Re_numberFor_30 : decode b_Re_numberFor 30 = .ok (.aload_n 0, 1) := by decide +kernel
theorem d_Re_numberFor_31 : decode b_Re_numberFor 31 = .ok (.dup, 1) := by decide +kernel
theorem d_Re_numberFor_32 : decode b_Re_numberFor 32 = .ok (.getfield 51, 3) := by decide +kernel
theorem d_Re_numberFor_35 : decode b_Re_numberFor 35 = .ok (.iconst 1, 1) := by decide +kernel
theorem d_Re_numberFor_36 : decode b_Re_numberFor 36 = .ok (.iadd, 1) := by decide +kernel
theorem d_Re_numberFor_37 : decode b_Re_numberFor 37 = .ok (.putfield 51, 3) := by decide +kernel
theorem d_Re_numberFor_40 : decode b_Re_numberFor 40 = .ok (.aload_n 0, 1) := by decide +kernel
theorem d_Re_numberFor_41 : decode b_Re_numberFor 41 = .ok (.getfield 9, 3) := by decide +kernel
theorem d_Re_numberFor_44 : decode b_Re_numberFor 44 = .ok (.iload_n 1, 1) := by decide +kernel
theorem d_Re_numberFor_45 : decode b_Re_numberFor 45 = .ok (.iaload, 1) := by decide +kernel
theorem d_Re_numberFor_46 : decode b_Re_numberFor 46 = .ok (.ireturn, 1) := by decide +kernel
theorem d_Ba_stepCode_0 : decode b_Ba_stepCode 0 = .ok (.iload_n 1, 1) := by decide +kernel
theorem d_Ba_stepCode_1 : decode b_Ba_stepCode 1 = .ok (.ifCond .ne 15, 3) := by decide +kernel
theorem d_Ba_stepCode_4 : decode b_Ba_stepCode 4 = .ok (.iload_n 2, 1) := by decide +kernel
theorem d_Ba_stepCode_5 : decode b_Ba_stepCode 5 = .ok (.aload_n 0, 1) := by decide +kernel
theorem d_Ba_stepCode_6 : decode b_Ba_stepCode 6 = .ok (.getfield 9, 3) := by decide +kernel
theorem d_Ba_stepCode_9 : decode b_Ba_stepCode 9 = .ok (.if_icmp .ne 7, 3) := by decide +kernel
theorem d_Ba_stepCode_12 : decode b_Ba_stepCode 12 = .ok (.iconst 1, 1) := by decide +kernel
theorem d_Ba_stepCode_13 : decode b_Ba_stepCode 13 = .ok (.goto 4, 3) := by decide +kernel
theorem d_Ba_stepCode_16 : decode b_Ba_stepCode 16 = .ok (.iconst 2, 1) := by decide +kernel
theorem d_Ba_stepCode_17 : decode b_Ba_stepCode 17 = .ok (.ireturn, 1) := by decide +kernel
theorem d_Ch_stepCode_0 : decode b_Ch_stepCode 0 = .ok (.aload_n 0, 1) := by decide +kernel
theorem d_Ch_stepCode_1 : decode b_Ch_stepCode 1 = .ok (.getfield 9, 3) := by decide +kernel
theorem d_Ch_stepCode_4 : decode b_Ch_stepCode 4 = .ok (.iload_n 1, 1) := by decide +kernel
theorem d_Ch_stepCode_5 : decode b_Ch_stepCode 5 = .ok (.bipush 64, 2) := by decide +kernel
theorem d_Ch_stepCode_7 : decode b_Ch_stepCode 7 = .ok (.idiv, 1) := by decide +kernel
theorem d_Ch_stepCode_8 : decode b_Ch_stepCode 8 = .ok (.iload_n 2, 1) := by decide +kernel
theorem d_Ch_stepCode_9 : decode b_Ch_stepCode 9 = .ok (.invokevirtual 22, 3) := by decide +kernel
theorem d_Ch_stepCode_12 : decode b_Ch_stepCode 12 = .ok (.istore_n 3, 1) := by decide +kernel
theorem d_Ch_stepCode_13 : decode b_Ch_stepCode 13 = .ok (.aload_n 0, 1) := by decide +kernel
theorem d_Ch_stepCode_14 : decode b_Ch_stepCode 14 = .ok (.getfield 15, 3) := by decide +kernel
theorem d_Ch_stepCode_17 : decode b_Ch_stepCode 17 = .ok (.iload_n 1, 1) := by decide +kernel
theorem d_Ch_stepCode_18 : decode b_Ch_stepCode 18 = .ok (.bipush 64, 2) := by decide +kernel
theorem d_Ch_stepCode_20 : decode b_Ch_stepCode 20 = .ok (.irem, 1) := by decide +kernel
theorem d_Ch_stepCode_21 : decode b_Ch_stepCode 21 = .ok (.iload_n 2, 1) := by decide +kernel
theorem d_Ch_stepCode_22 : decode b_Ch_stepCode 22 = .ok (.invokevirtual 27, 3) := by decide +kernel
theorem d_Ch_stepCode_25 : decode b_Ch_stepCode 25 = .ok (.istore 4, 2) := by decide +kernel
theorem d_Ch_stepCode_27 : decode b_Ch_stepCode 27 = .ok (.aload_n 0, 1) := by decide +kernel
theorem d_Ch_stepCode_28 : decode b_Ch_stepCode 28 = .ok (.iload_n 3, 1) := by decide +kernel
theorem d_Ch_stepCode_29 : decode b_Ch_stepCode 29 = .ok (.iload 4, 2) := by decide +kernel
theorem d_Ch_stepCode_31 : decode b_Ch_stepCode 31 = .ok (.invokevirtual 18, 3) := by decide +kernel
theorem d_Ch_stepCode_34 : decode b_Ch_stepCode 34 = .ok (.ireturn, 1) := by decide +kernel
theorem d_Au_step_0 : decode b_Au_step 0 = .ok (.aload_n 0, 1) := by decide +kernel
theorem d_Au_step_1 : decode b_Au_step 1 = .ok (.getfield 9, 3) := by decide +kernel
theorem d_Au_step_4 : decode b_Au_step 4 = .ok (.iconst 2, 1) := by decide +kernel
theorem d_Au_step_5 : decode b_Au_step 5 = .ok (.iload_n 1, 1) := by decide +kernel
theorem d_Au_step_6 : decode b_Au_step 6 = .ok (.imul, 1) := by decide +kernel
theorem d_Au_step_7 : decode b_Au_step 7 = .ok (.iload_n 2, 1) := by decide +kernel
theorem d_Au_step_8 : decode b_Au_step 8 = .ok (.iadd, 1) := by decide +kernel
theorem d_Au_step_9 : decode b_Au_step 9 = .ok (.iaload, 1) := by decide +kernel
theorem d_Au_step_10 : decode b_Au_step 10 = .ok (.ireturn, 1) := by decide +kernel
theorem d_Au_stepSet_0 : decode b_Au_stepSet 0 = .ok (.iconst 0, 1) := by decide +kernel
theorem d_Au_stepSet_1 : decode b_Au_stepSet 1 = .ok (.istore_n 3, 1) := by decide +kernel
theorem d_Au_stepSet_2 : decode b_Au_stepSet 2 = .ok (.iconst 0, 1) := by decide +kernel
theorem d_Au_stepSet_3 : decode b_Au_stepSet 3 = .ok (.istore 4, 2) := by decide +kernel
theorem d_Au_stepSet_5 : decode b_Au_stepSet 5 = .ok (.iload 4, 2) := by decide +kernel
theorem d_Au_stepSet_7 : decode b_Au_stepSet 7 = .ok (.aload_n 0, 1) := by decide +kernel
theorem d_Au_stepSet_8 : decode b_Au_stepSet 8 = .ok (.getfield 15, 3) := by decide +kernel
theorem d_Au_stepSet_11 : decode b_Au_stepSet 11 = .ok (.if_icmp .ge 30, 3) := by decide +kernel
theorem d_Au_stepSet_14 : decode b_Au_stepSet 14 = .ok (.iload_n 1, 1) := by decide +kernel
theorem d_Au_stepSet_15 : decode b_Au_stepSet 15 = .ok (.iload 4, 2) := by decide +kernel
theorem d_Au_stepSet_17 : decode b_Au_stepSet 17 = .ok (.ishr, 1) := by decide +kernel
theorem d_Au_stepSet_18 : decode b_Au_stepSet 18 = .ok (.iconst 1, 1) := by decide +kernel
theorem d_Au_stepSet_19 : decode b_Au_stepSet 19 = .ok (.iand, 1) := by decide +kernel
theorem d_Au_stepSet_20 : decode b_Au_stepSet 20 = .ok (.ifCond .eq 15, 3) := by decide +kernel
theorem d_Au_stepSet_23 : decode b_Au_stepSet 23 = .ok (.iload_n 3, 1) := by decide +kernel
theorem d_Au_stepSet_24 : decode b_Au_stepSet 24 = .ok (.iconst 1, 1) := by decide +kernel
theorem d_Au_stepSet_25 : decode b_Au_stepSet 25 = .ok (.aload_n 0, 1) := by decide +kernel
theorem d_Au_stepSet_26 : decode b_Au_stepSet 26 = .ok (.iload 4, 2) := by decide +kernel
theorem d_Au_stepSet_28 : decode b_Au_stepSet 28 = .ok (.iload_n 2, 1) := by decide +kernel
theorem d_Au_stepSet_29 : decode b_Au_stepSet 29 = .ok (.invokevirtual 22, 3) := by decide +kernel
theorem d_Au_stepSet_32 : decode b_Au_stepSet 32 = .ok (.ishl, 1) := by decide +kernel
theorem d_Au_stepSet_33 : decode b_Au_stepSet 33 = .ok (.ior, 1) := by decide +kernel
theorem d_Au_stepSet_34 : decode b_Au_stepSet 34 = .ok (.istore_n 3, 1) := by decide +kernel
theorem d_Au_stepSet_35 : decode b_Au_stepSet 35 = .ok (.iinc 4 1, 3) := by decide +kernel
theorem d_Au_stepSet_38 : decode b_Au_stepSet 38 = .ok (.goto (-33), 3) := by decide +kernel
theorem d_Au_stepSet_41 : decode b_Au_stepSet 41 = .ok (.iload_n 3, 1) := by decide +kernel
theorem d_Au_stepSet_42 : decode b_Au_stepSet 42 = .ok (.ireturn, 1) := by decide +kernel
theorem d_In_stepCode_0 : decode b_In_stepCode 0 = .ok (.aload_n 0, 1) := by decide +kernel
theorem d_In_stepCode_1 : decode b_In_stepCode 1 = .ok (.getfield 7, 3) := by decide +kernel
theorem d_In_stepCode_4 : decode b_In_stepCode 4 = .ok (.iload_n 1, 1) := by decide +kernel
theorem d_In_stepCode_5 : decode b_In_stepCode 5 = .ok (.iload_n 2, 1) := by decide +kernel
theorem d_In_stepCode_6 : decode b_In_stepCode 6 = .ok (.invokevirtual 13, 3) := by decide +kernel
theorem d_In_stepCode_9 : decode b_In_stepCode 9 = .ok (.ireturn, 1) := by decide +kernel
theorem d_Pa_stepCode_0 : decode b_Pa_stepCode 0 = .ok (.aload_n 0, 1) := by decide +kernel
theorem d_Pa_stepCode_1 : decode b_Pa_stepCode 1 = .ok (.getfield 9, 3) := by decide +kernel
theorem d_Pa_stepCode_4 : decode b_Pa_stepCode 4 = .ok (.iload_n 1, 1) := by decide +kernel
theorem d_Pa_stepCode_5 : decode b_Pa_stepCode 5 = .ok (.bipush 6, 2) := by decide +kernel
theorem d_Pa_stepCode_7 : decode b_Pa_stepCode 7 = .ok (.idiv, 1) := by decide +kernel
theorem d_Pa_stepCode_8 : decode b_Pa_stepCode 8 = .ok (.iload_n 2, 1) := by decide +kernel
theorem d_Pa_stepCode_9 : decode b_Pa_stepCode 9 = .ok (.invokevirtual 22, 3) := by decide +kernel
theorem d_Pa_stepCode_12 : decode b_Pa_stepCode 12 = .ok (.istore_n 3, 1) := by decide +kernel
theorem d_Pa_stepCode_13 : decode b_Pa_stepCode 13 = .ok (.aload_n 0, 1) := by decide +kernel
theorem d_Pa_stepCode_14 : decode b_Pa_stepCode 14 = .ok (.getfield 15, 3) := by decide +kernel
theorem d_Pa_stepCode_17 : decode b_Pa_stepCode 17 = .ok (.iload_n 1, 1) := by decide +kernel
theorem d_Pa_stepCode_18 : decode b_Pa_stepCode 18 = .ok (.bipush 6, 2) := by decide +kernel
theorem d_Pa_stepCode_20 : decode b_Pa_stepCode 20 = .ok (.irem, 1) := by decide +kernel
theorem d_Pa_stepCode_21 : decode b_Pa_stepCode 21 = .ok (.iload_n 2, 1) := by decide +kernel
theorem d_Pa_stepCode_22 : decode b_Pa_stepCode 22 = .ok (.invokevirtual 22, 3) := by decide +kernel
theorem d_Pa_stepCode_25 : decode b_Pa_stepCode 25 = .ok (.istore 4, 2) := by decide +kernel
theorem d_Pa_stepCode_27 : decode b_Pa_stepCode 27 = .ok (.bipush 6, 2) := by decide +kernel
theorem d_Pa_stepCode_29 : decode b_Pa_stepCode 29 = .ok (.iload_n 3, 1) := by decide +kernel
theorem d_Pa_stepCode_30 : decode b_Pa_stepCode 30 = .ok (.imul, 1) := by decide +kernel
theorem d_Pa_stepCode_31 : decode b_Pa_stepCode 31 = .ok (.iload 4, 2) := by decide +kernel
theorem d_Pa_stepCode_33 : decode b_Pa_stepCode 33 = .ok (.iadd, 1) := by decide +kernel
theorem d_Pa_stepCode_34 : decode b_Pa_stepCode 34 = .ok (.ireturn, 1) := by decide +kernel
end
section
theorem d_St_stepCode_0 : decode b_St_stepCode 0 = .ok (.aload_n 0, 1) := by decide +kernel
theorem d_St_stepCode_1 : decode b_St_stepCode 1 = .ok (.getfield 9, 3) := by decide +kernel
theorem d_St_stepCode_4 : decode b_St_stepCode 4 = .ok (.iload_n 1, 1) := by decide +kernel
theorem d_St_stepCode_5 : decode b_St_stepCode 5 = .ok (.bipush 64, 2) := by decide +kernel
theorem d_St_stepCode_7 : decode b_St_stepCode 7 = .ok (.if_icmp .ne 7, 3) := by decide +kernel
theorem d_St_stepCode_10 : decode b_St_stepCode 10 = .ok (.iconst 1, 1) := by decide +kernel
theorem d_St_stepCode_11 : decode b_St_stepCode 11 = .ok (.goto 4, 3) := by decide +kernel
theorem d_St_stepCode_14 : decode b_St_stepCode 14 = .ok (.iload_n 1, 1) := by decide +kernel
theorem d_St_stepCode_15 : decode b_St_stepCode 15 = .ok (.iload_n 2, 1) := by decide +kernel
theorem d_St_stepCode_16 : decode b_St_stepCode 16 = .ok (.invokevirtual 15, 3) := by decide +kernel
theorem d_St_stepCode_19 : decode b_St_stepCode 19 = .ok (.istore_n 3, 1) := by decide +kernel
theorem d_St_stepCode_20 : decode b_St_stepCode 20 = .ok (.aload_n 0, 1) := by decide +kernel
theorem d_St_stepCode_21 : decode b_St_stepCode 21 = .ok (.getfield 9, 3) := by decide +kernel
theorem d_St_stepCode_24 : decode b_St_stepCode 24 = .ok (.iload_n 3, 1) := by decide +kernel
theorem d_St_stepCode_25 : decode b_St_stepCode 25 = .ok (.invokevirtual 21, 3) := by decide +kernel
theorem d_St_stepCode_28 : decode b_St_stepCode 28 = .ok (.ifCond .eq 9, 3) := by decide +kernel
theorem d_St_stepCode_31 : decode b_St_stepCode 31 = .ok (.iload_n 3, 1) := by decide +kernel
theorem d_St_stepCode_32 : decode b_St_stepCode 32 = .ok (.iconst 1, 1) := by decide +kernel
theorem d_St_stepCode_33 : decode b_St_stepCode 33 = .ok (.ior, 1) := by decide +kernel
theorem d_St_stepCode_34 : decode b_St_stepCode 34 = .ok (.goto 4, 3) := by decide +kernel
theorem d_St_stepCode_37 : decode b_St_stepCode 37 = .ok (.iload_n 3, 1) := by decide +kernel
theorem d_St_stepCode_38 : decode b_St_stepCode 38 = .ok (.ireturn, 1) := by decide +kernel
theorem d_Au_acceptsAnyOf_0 : decode b_Au_acceptsAnyOf 0 = .ok (.aload_n 0, 1) := by decide +kernel
theorem d_Au_acceptsAnyOf_1 : decode b_Au_acceptsAnyOf 1 = .ok (.getfield 19, 3) := by decide +kernel
theorem d_Au_acceptsAnyOf_4 : decode b_Au_acceptsAnyOf 4 = .ok (.iload_n 1, 1) := by decide +kernel
theorem d_Au_acceptsAnyOf_5 : decode b_Au_acceptsAnyOf 5 = .ok (.iand, 1) := by decide +kernel
theorem d_Au_acceptsAnyOf_6 : decode b_Au_acceptsAnyOf 6 = .ok (.ifCond .eq 7, 3) := by decide +kernel
theorem d_Au_acceptsAnyOf_9 : decode b_Au_acceptsAnyOf 9 = .ok (.iconst 1, 1) := by decide +kernel
theorem d_Au_acceptsAnyOf_10 : decode b_Au_acceptsAnyOf 10 = .ok (.goto 4, 3) := by decide +kernel
theorem d_Au_acceptsAnyOf_13 : decode b_Au_acceptsAnyOf 13 = .ok (.iconst 0, 1) := by decide +kernel
theorem d_Au_acceptsAnyOf_14 : decode b_Au_acceptsAnyOf 14 = .ok (.ireturn, 1) := by decide +kernel
theorem d_Re_partByAcceptance_0 : decode b_Re_partByAcceptance 0 = .ok (.iconst 0, 1) := by decide +kernel
theorem d_Re_partByAcceptance_1 : decode b_Re_partByAcceptance 1 = .ok (.istore_n 2, 1) := by decide +kernel
theorem d_Re_partByAcceptance_2 : decode b_Re_partByAcceptance 2 = .ok (.iload_n 2, 1) := by decide +kernel
theorem d_Re_partByAcceptance_3 : decode b_Re_partByAcceptance 3 = .ok (.aload_n 0, 1) := by decide +kernel
theorem d_Re_partByAcceptance_4 : decode b_Re_partByAcceptance 4 = .ok (.getfield 51, 3) := by decide +kernel
theorem d_Re_partByAcceptance_7 : decode b_Re_partByAcceptance 7 = .ok (.if_icmp .ge 35, 3) := by decide +kernel
theorem d_Re_partByAcceptance_10 : decode b_Re_partByAcceptance 10 = .ok (.aload_n 0, 1) := by decide +kernel
theorem d_Re_partByAcceptance_11 : decode b_Re_partByAcceptance 11 = .ok (.getfield 21, 3) := by decide +kernel
theorem d_Re_partByAcceptance_14 : decode b_Re_partByAcceptance 14 = .ok (.iload_n 2, 1) := by decide +kernel
theorem d_Re_partByAcceptance_15 : decode b_Re_partByAcceptance 15 = .ok (.aload_n 1, 1) := by decide +kernel
theorem d_Re_partByAcceptance_16 : decode b_Re_partByAcceptance 16 = .ok (.aload_n 0, 1) := by decide +kernel
theorem d_Re_partByAcceptance_17 : decode b_Re_partByAcceptance 17 = .ok (.getfield 15, 3) := by decide +kernel
theorem d_Re_partByAcceptance_20 : decode b_Re_partByAcceptance 20 = .ok (.iload_n 2, 1) := by decide +kernel
theorem d_Re_partByAcceptance_21 : decode b_Re_partByAcceptance 21 = .ok (.iaload, 1) := by decide +kernel
theorem d_Re_partByAcceptance_22 : decode b_Re_partByAcceptance 22 = .ok (.invokeinterface 68 2, 5) := by decide +kernel
theorem d_Re_partByAcceptance_27 : decode b_Re_partByAcceptance 27 = .ok (.ifCond .eq 7, 3) := by decide +kernel
theorem d_Re_partByAcceptance_30 : decode b_Re_partByAcceptance 30 = .ok (.iconst 1, 1) := by decide +kernel
theorem d_Re_partByAcceptance_31 : decode b_Re_partByAcceptance 31 = .ok (.goto 4, 3) := by decide +kernel
theorem d_Re_partByAcceptance_34 : decode b_Re_partByAcceptance 34 = .ok (.iconst 0, 1) := by decide +kernel
theorem d_Re_partByAcceptance_35 : decode b_Re_partByAcceptance 35 = .ok (.iastore, 1) := by decide +kernel
theorem d_Re_partByAcceptance_36 : decode b_Re_partByAcceptance 36 = .ok (.iinc 2 1, 3) := by decide +kernel
theorem d_Re_partByAcceptance_39 : decode b_Re_partByAcceptance 39 = .ok (.goto (-37), 3) := by decide +kernel
theorem d_Re_partByAcceptance_42 : decode b_Re_partByAcceptance 42 = .ok (.return_, 1) := by decide +kernel
theorem d_Ba_isAcceptingCode_0 : decode b_Ba_isAcceptingCode 0 = .ok (.aload_n 0, 1) := by decide +kernel
theorem d_Ba_isAcceptingCode_1 : decode b_Ba_isAcceptingCode 1 = .ok (.getfield 9, 3) := by decide +kernel
theorem d_Ba_isAcceptingCode_4 : decode b_Ba_isAcceptingCode 4 = .ok (.iconst 2, 1) := by decide +kernel
theorem d_Ba_isAcceptingCode_5 : decode b_Ba_isAcceptingCode 5 = .ok (.if_icmp .ge 16, 3) := by decide +kernel
theorem d_Ba_isAcceptingCode_8 : decode b_Ba_isAcceptingCode 8 = .ok (.iload_n 1, 1) := by decide +kernel
theorem d_Ba_isAcceptingCode_9 : decode b_Ba_isAcceptingCode 9 = .ok (.iconst 1, 1) := by decide +kernel
theorem d_Ba_isAcceptingCode_10 : decode b_Ba_isAcceptingCode 10 = .ok (.if_icmp .ne 7, 3) := by decide +kernel
theorem d_Ba_isAcceptingCode_13 : decode b_Ba_isAcceptingCode 13 = .ok (.iconst 1, 1) := by decide +kernel
theorem d_Ba_isAcceptingCode_14 : decode b_Ba_isAcceptingCode 14 = .ok (.goto 24, 3) := by decide +kernel
theorem d_Ba_isAcceptingCode_17 : decode b_Ba_isAcceptingCode 17 = .ok (.iconst 0, 1) := by decide +kernel
theorem d_Ba_isAcceptingCode_18 : decode b_Ba_isAcceptingCode 18 = .ok (.goto 20, 3) := by decide +kernel
theorem d_Ba_isAcceptingCode_21 : decode b_Ba_isAcceptingCode 21 = .ok (.aload_n 0, 1) := by decide +kernel
theorem d_Ba_isAcceptingCode_22 : decode b_Ba_isAcceptingCode 22 = .ok (.getfield 9, 3) := by decide +kernel
theorem d_Ba_isAcceptingCode_25 : decode b_Ba_isAcceptingCode 25 = .ok (.iconst 2, 1) := by decide +kernel
theorem d_Ba_isAcceptingCode_26 : decode b_Ba_isAcceptingCode 26 = .ok (.if_icmp .ne 11, 3) := by decide +kernel
theorem d_Ba_isAcceptingCode_29 : decode b_Ba_isAcceptingCode 29 = .ok (.iload_n 1, 1) := by decide +kernel
theorem d_Ba_isAcceptingCode_30 : decode b_Ba_isAcceptingCode 30 = .ok (.ifCond .ne 7, 3) := by decide +kernel
theorem d_Ba_isAcceptingCode_33 : decode b_Ba_isAcceptingCode 33 = .ok (.iconst 1, 1) := by decide +kernel
theorem d_Ba_isAcceptingCode_34 : decode b_Ba_isAcceptingCode 34 = .ok (.goto 4, 3) := by decide +kernel
theorem d_Ba_isAcceptingCode_37 : decode b_Ba_isAcceptingCode 37 = .ok (.iconst 0, 1) := by decide +kernel
theorem d_Ba_isAcceptingCode_38 : decode b_Ba_isAcceptingCode 38 = .ok (.ireturn, 1) := by decide +kernel
theorem d_Ch_isAcceptingCode_0 : decode b_Ch_isAcceptingCode 0 = .ok (.aload_n 0, 1) := by decide +kernel
theorem d_Ch_isAcceptingCode_1 : decode b_Ch_isAcceptingCode 1 = .ok (.getfield 15, 3) := by decide +kernel
theorem d_Ch_isAcceptingCode_4 : decode b_Ch_isAcceptingCode 4 = .ok (.iload_n 1, 1) := by decide +kernel
theorem d_Ch_isAcceptingCode_5 : decode b_Ch_isAcceptingCode 5 = .ok (.bipush 64, 2) := by decide +kernel
theorem d_Ch_isAcceptingCode_7 : decode b_Ch_isAcceptingCode 7 = .ok (.irem, 1) := by decide +kernel
theorem d_Ch_isAcceptingCode_8 : decode b_Ch_isAcceptingCode 8 = .ok (.invokevirtual 30, 3) := by decide +kernel
theorem d_Ch_isAcceptingCode_11 : decode b_Ch_isAcceptingCode 11 = .ok (.ireturn, 1) := by decide +kernel
theorem d_In_isAcceptingCode_0 : decode b_In_isAcceptingCode 0 = .ok (.aload_n 0, 1) := by decide +kernel
theorem d_In_isAcceptingCode_1 : decode b_In_isAcceptingCode 1 = .ok (.getfield 7, 3) := by decide +kernel
theorem d_In_isAcceptingCode_4 : decode b_In_isAcceptingCode 4 = .ok (.iload_n 1, 1) := by decide +kernel
theorem d_In_isAcceptingCode_5 : decode b_In_isAcceptingCode 5 = .ok (.invokevirtual 19, 3) := by decide +kernel
theorem d_In_isAcceptingCode_8 : decode b_In_isAcceptingCode 8 = .ok (.ifCond .ne 7, 3) := by decide +kernel
theorem d_In_isAcceptingCode_11 : decode b_In_isAcceptingCode 11 = .ok (.iconst 1, 1) := by decide +kernel
theorem d_In_isAcceptingCode_12 : decode b_In_isAcceptingCode 12 = .ok (.goto 4, 3) := by decide +kernel
theorem d_In_isAcceptingCode_15 : decode b_In_isAcceptingCode 15 = .ok (.iconst 0, 1) := by decide +kernel
theorem d_In_isAcceptingCode_16 : decode b_In_isAcceptingCode 16 = .ok (.ireturn, 1) := by decide +kernel
theorem d_Pa_isAcceptingCode_0 : decode b_Pa_isAcceptingCode 0 = .ok (.aload_n 0, 1) := by decide +kernel
theorem d_Pa_isAcceptingCode_1 : decode b_Pa_isAcceptingCode 1 = .ok (.getfield 9, 3) := by decide +kernel
theorem d_Pa_isAcceptingCode_4 : decode b_Pa_isAcceptingCode 4 = .ok (.iload_n 1, 1) := by decide +kernel
theorem d_Pa_isAcceptingCode_5 : decode b_Pa_isAcceptingCode 5 = .ok (.bipush 6, 2) := by decide +kernel
theorem d_Pa_isAcceptingCode_7 : decode b_Pa_isAcceptingCode 7 = .ok (.idiv, 1) := by decide +kernel
theorem d_Pa_isAcceptingCode_8 : decode b_Pa_isAcceptingCode 8 = .ok (.invokevirtual 28, 3) := by decide +kernel
theorem d_Pa_isAcceptingCode_11 : decode b_Pa_isAcceptingCode 11 = .ok (.istore_n 2, 1) := by decide +kernel
theorem d_Pa_isAcceptingCode_12 : decode b_Pa_isAcceptingCode 12 = .ok (.aload_n 0, 1) := by decide +kernel
theorem d_Pa_isAcceptingCode_13 : decode b_Pa_isAcceptingCode 13 = .ok (.getfield 15, 3) := by decide +kernel
theorem d_Pa_isAcceptingCode_16 : decode b_Pa_isAcceptingCode 16 = .ok (.iload_n 1, 1) := by decide +kernel
theorem d_Pa_isAcceptingCode_17 : decode b_Pa_isAcceptingCode 17 = .ok (.bipush 6, 2) := by decide +kernel
theorem d_Pa_isAcceptingCode_19 : decode b_Pa_isAcceptingCode 19 = .ok (.irem, 1) := by decide +kernel
theorem d_Pa_isAcceptingCode_20 : decode b_Pa_isAcceptingCode 20 = .ok (.invokevirtual 28, 3) := by decide +kernel
theorem d_Pa_isAcceptingCode_23 : decode b_Pa_isAcceptingCode 23 = .ok (.istore_n 3, 1) := by decide +kernel
theorem d_Pa_isAcceptingCode_24 : decode b_Pa_isAcceptingCode 24 = .ok (.aload_n 0, 1) := by decide +kernel
theorem d_Pa_isAcceptingCode_25 : decode b_Pa_isAcceptingCode 25 = .ok (.getfield 18, 3) := by decide +kernel
theorem d_Pa_isAcceptingCode_28 : decode b_Pa_isAcceptingCode 28 = .ok (.ifCond .eq 19, 3) := by decide +kernel
theorem d_Pa_isAcceptingCode_31 : decode b_Pa_isAcceptingCode 31 = .ok (.iload_n 2, 1) := by decide +kernel
theorem d_Pa_isAcceptingCode_32 : decode b_Pa_isAcceptingCode 32 = .ok (.ifCond .eq 11, 3) := by decide +kernel
theorem d_Pa_isAcceptingCode_35 : decode b_Pa_isAcceptingCode 35 = .ok (.iload_n 3, 1) := by decide +kernel
theorem d_Pa_isAcceptingCode_36 : decode b_Pa_isAcceptingCode 36 = .ok (.ifCond .eq 7, 3) := by decide +kernel
theorem d_Pa_isAcceptingCode_39 : decode b_Pa_isAcceptingCode 39 = .ok (.iconst 1, 1) := by decide +kernel
theorem d_Pa_isAcceptingCode_40 : decode b_Pa_isAcceptingCode 40 = .ok (.goto 20, 3) := by decide +kernel
theorem d_Pa_isAcceptingCode_43 : decode b_Pa_isAcceptingCode 43 = .ok (.iconst 0, 1) := by decide +kernel
theorem d_Pa_isAcceptingCode_44 : decode b_Pa_isAcceptingCode 44 = .ok (.goto 16, 3) := by decide +kernel
theorem d_Pa_isAcceptingCode_47 : decode b_Pa_isAcceptingCode 47 = .ok (.iload_n 2, 1) := by decide +kernel
theorem d_Pa_isAcceptingCode_48 : decode b_Pa_isAcceptingCode 48 = .ok (.ifCond .ne 7, 3) := by decide +kernel
theorem d_Pa_isAcceptingCode_51 : decode b_Pa_isAcceptingCode 51 = .ok (.iload_n 3, 1) := by decide +kernel
theorem d_Pa_isAcceptingCode_52 : decode b_Pa_isAcceptingCode 52 = .ok (.ifCond .eq 7, 3) := by decide +kernel
theorem d_Pa_isAcceptingCode_55 : decode b_Pa_isAcceptingCode 55 = .ok (.iconst 1, 1) := by decide +kernel
theorem d_Pa_isAcceptingCode_56 : decode b_Pa_isAcceptingCode 56 = .ok (.goto 4, 3) := by decide +kernel
theorem d_Pa_isAcceptingCode_59 : decode b_Pa_isAcceptingCode 59 = .ok (.iconst 0, 1) := by decide +kernel
theorem d_Pa_isAcceptingCode_60 : decode b_Pa_isAcceptingCode 60 = .ok (.ireturn, 1) := by decide +kernel
theorem d_St_isAcceptingCode_0 : decode b_St_isAcceptingCode 0 = .ok (.iload_n 1, 1) := by decide +kernel
theorem d_St_isAcceptingCode_1 : decode b_St_isAcceptingCode 1 = .ok (.bipush 64, 2) := by decide +kernel
theorem d_St_isAcceptingCode_3 : decode b_St_isAcceptingCode 3 = .ok (.if_icmp .eq 14, 3) := by decide +kernel
theorem d_St_isAcceptingCode_6 : decode b_St_isAcceptingCode 6 = .ok (.aload_n 0, 1) := by decide +kernel
theorem d_St_isAcceptingCode_7 : decode b_St_isAcceptingCode 7 = .ok (.getfield 9, 3) := by decide +kernel
theorem d_St_isAcceptingCode_10 : decode b_St_isAcceptingCode 10 = .ok (.iload_n 1, 1) := by decide +kernel
theorem d_St_isAcceptingCode_11 : decode b_St_isAcceptingCode 11 = .ok (.invokevirtual 21, 3) := by decide +kernel
theorem d_St_isAcceptingCode_14 : decode b_St_isAcceptingCode 14 = .ok (.ifCond .eq 7, 3) := by decide +kernel
theorem d_St_isAcceptingCode_17 : decode b_St_isAcceptingCode 17 = .ok (.iconst 1, 1) := by decide +kernel
theorem d_St_isAcceptingCode_18 : decode b_St_isAcceptingCode 18 = .ok (.goto 4, 3) := by decide +kernel
theorem d_St_isAcceptingCode_21 : decode b_St_isAcceptingCode 21 = .ok (.iconst 0, 1) := by decide +kernel
theorem d_St_isAcceptingCode_22 : decode b_St_isAcceptingCode 22 = .ok (.ireturn, 1) := by decide +kernel
theorem d_Re_refine_0 : decode b_Re_refine 0 = .ok (.iconst 0, 1) := by decide +kernel
theorem d_Re_refine_1 : decode b_Re_refine 1 = .ok (.istore_n 1, 1) := by decide +kernel
theorem d_Re_refine_2 : decode b_Re_refine 2 = .ok (.iconst 0, 1) := by decide +kernel
theorem d_Re_refine_3 : decode b_Re_refine 3 = .ok (.istore_n 2, 1) := by decide +kernel
theorem d_Re_refine_4 : decode b_Re_refine 4 = .ok (.iload_n 2, 1) := by decide +kernel
theorem d_Re_refine_5 : decode b_Re_refine 5 = .ok (.bipush 6, 2) := by decide +kernel
theorem d_Re_refine_7 : decode b_Re_refine 7 = .ok (.if_icmp .gt 28, 3) := by decide +kernel
theorem d_Re_refine_10 : decode b_Re_refine 10 = .ok (.aload_n 0, 1) := by decide +kernel
theorem d_Re_refine_11 : decode b_Re_refine 11 = .ok (.invokevirtual 72, 3) := by decide +kernel
theorem d_Re_refine_14 : decode b_Re_refine 14 = .ok (.istore_n 3, 1) := by decide +kernel
theorem d_Re_refine_15 : decode b_Re_refine 15 = .ok (.iload_n 3, 1) := by decide +kernel
theorem d_Re_refine_16 : decode b_Re_refine 16 = .ok (.iconst (-1), 1) := by decide +kernel
theorem d_Re_refine_17 : decode b_Re_refine 17 = .ok (.if_icmp .eq 8, 3) := by decide +kernel
theorem d_Re_refine_20 : decode b_Re_refine 20 = .ok (.iload_n 3, 1) := by decide +kernel
theorem d_Re_refine_21 : decode b_Re_refine 21 = .ok (.iload_n 1, 1) := by decide +kernel
theorem d_Re_refine_22 : decode b_Re_refine 22 = .ok (.if_icmp .ne 5, 3) := by decide +kernel
theorem d_Re_refine_25 : decode b_Re_refine 25 = .ok (.iload_n 3, 1) := by decide +kernel
theorem d_Re_refine_26 : decode b_Re_refine 26 = .ok (.ireturn, 1) := by decide +kernel
theorem d_Re_refine_27 : decode b_Re_refine 27 = .ok (.iload_n 3, 1) := by decide +kernel
theorem d_Re_refine_28 : decode b_Re_refine 28 = .ok (.istore_n 1, 1) := by decide +kernel
theorem d_Re_refine_29 : decode b_Re_refine 29 = .ok (.iinc 2 1, 3) := by decide +kernel
theorem d_Re_refine_32 : decode b_Re_refine 32 = .ok (.goto (-28), 3) := by decide +kernel
theorem d_Re_refine_35 : decode b_Re_refine 35 = .ok (.iconst (-1), 1) := by decide +kernel
theorem d_Re_refine_36 : decode b_Re_refine 36 = .ok (.ireturn, 1) := by decide +kernel
theorem d_Re_split_0 : decode b_Re_split 0 = .ok (.iconst 0, 1) := by decide +kernel
theorem d_Re_split_1 : decode b_Re_split 1 = .ok (.istore_n 1, 1) := by decide +kernel
theorem d_Re_split_2 : decode b_Re_split 2 = .ok (.iconst 0, 1) := by decide +kernel
theorem d_Re_split_3 : decode b_Re_split 3 = .ok (.istore_n 2, 1) := by decide +kernel
theorem d_Re_split_4 : decode b_Re_split 4 = .ok (.iload_n 2, 1) := by decide +kernel
theorem d_Re_split_5 : decode b_Re_split 5 = .ok (.aload_n 0, 1) := by decide +kernel
theorem d_Re_split_6 : decode b_Re_split 6 = .ok (.getfield 51, 3) := by decide +kernel
theorem d_Re_split_9 : decode b_Re_split 9 = .ok (.if_icmp .ge 46, 3) := by decide +kernel
theorem d_Re_split_12 : decode b_Re_split 12 = .ok (.aload_n 0, 1) := by decide +kernel
theorem d_Re_split_13 : decode b_Re_split 13 = .ok (.iload_n 2, 1) := by decide +kernel
theorem d_Re_split_14 : decode b_Re_split 14 = .ok (.iload_n 1, 1) := by decide +kernel
theorem d_Re_split_15 : decode b_Re_split 15 = .ok (.invokevirtual 75, 3) := by decide +kernel
theorem d_Re_split_18 : decode b_Re_split 18 = .ok (.istore_n 3, 1) := by decide +kernel
theorem d_Re_split_19 : decode b_Re_split 19 = .ok (.iload_n 3, 1) := by decide +kernel
theorem d_Re_split_20 : decode b_Re_split 20 = .ok (.bipush 6, 2) := by decide +kernel
theorem d_Re_split_22 : decode b_Re_split 22 = .ok (.if_icmp .ne 5, 3) := by decide +kernel
theorem d_Re_split_25 : decode b_Re_split 25 = .ok (.iconst (-1), 1) := by decide +kernel
theorem d_Re_split_26 : decode b_Re_split 26 = .ok (.ireturn, 1) := by decide +kernel
theorem d_Re_split_27 : decode b_Re_split 27 = .ok (.iload_n 3, 1) := by decide +kernel
theorem d_Re_split_28 : decode b_Re_split 28 = .ok (.iload_n 1, 1) := by decide +kernel
theorem d_Re_split_29 : decode b_Re_split 29 = .ok (.if_icmp .ne 13, 3) := by decide +kernel
theorem d_Re_split_32 : decode b_Re_split 32 = .ok (.aload_n 0, 1) := by decide +kernel
theorem d_Re_split_33 : decode b_Re_split 33 = .ok (.getfield 27, 3) := by decide +kernel
theorem d_Re_split_36 : decode b_Re_split 36 = .ok (.iload_n 1, 1) := by decide +kernel
theorem d_Re_split_37 : decode b_Re_split 37 = .ok (.iload_n 2, 1) := by decide +kernel
theorem d_Re_split_38 : decode b_Re_split 38 = .ok (.iastore, 1) := by decide +kernel
theorem d_Re_split_39 : decode b_Re_split 39 = .ok (.iinc 1 1, 3) := by decide +kernel
theorem d_Re_split_42 : decode b_Re_split 42 = .ok (.aload_n 0, 1) := by decide +kernel
theorem d_Re_split_43 : decode b_Re_split 43 = .ok (.getfield 24, 3) := by decide +kernel
theorem d_Re_split_46 : decode b_Re_split 46 = .ok (.iload_n 2, 1) := by decide +kernel
theorem d_Re_split_47 : decode b_Re_split 47 = .ok (.iload_n 3, 1) := by decide +kernel
theorem d_Re_split_48 : decode b_Re_split 48 = .ok (.iastore, 1) := by decide +kernel
theorem d_Re_split_49 : decode b_Re_split 49 = .ok (.iinc 2 1, 3) := by decide +kernel
theorem d_Re_split_52 : decode b_Re_split 52 = .ok (.goto (-48), 3) := by decide +kernel
theorem d_Re_split_55 : decode b_Re_split 55 = .ok (.aload_n 0, 1) := by decide +kernel
theorem d_Re_split_56 : decode b_Re_split 56 = .ok (.getfield 21, 3) := by decide +kernel
theorem d_Re_split_59 : decode b_Re_split 59 = .ok (.astore_n 2, 1) := by decide +kernel
theorem d_Re_split_60 : decode b_Re_split 60 = .ok (.aload_n 0, 1) := by decide +kernel
theorem d_Re_split_61 : decode b_Re_split 61 = .ok (.aload_n 0, 1) := by decide +kernel
theorem d_Re_split_62 : decode b_Re_split 62 = .ok (.getfield 24, 3) := by decide +kernel
theorem d_Re_split_65 : decode b_Re_split 65 = .ok (.putfield 21, 3) := by decide +kernel
theorem d_Re_split_68 : decode b_Re_split 68 = .ok (.aload_n 0, 1) := by decide +kernel
theorem d_Re_split_69 : decode b_Re_split 69 = .ok (.aload_n 2, 1) := by decide +kernel
theorem d_Re_split_70 : decode b_Re_split 70 = .ok (.putfield 24, 3) := by decide +kernel
theorem d_Re_split_73 : decode b_Re_split 73 = .ok (.iload_n 1, 1) := by decide +kernel
theorem d_Re_split_74 : decode b_Re_split 74 = .ok (.ireturn, 1) := by decide +kernel
theorem d_Re_partLike_0 : decode b_Re_partLike 0 = .ok (.iconst 0, 1) := by decide +kernel
theorem d_Re_partLike_1 : decode b_Re_partLike 1 = .ok (.istore_n 3, 1) := by decide +kernel
theorem d_Re_partLike_2 : decode b_Re_partLike 2 = .ok (.iload_n 3, 1) := by decide +kernel
theorem d_Re_partLike_3 : decode b_Re_partLike 3 = .ok (.iload_n 2, 1) := by decide +kernel
theorem d_Re_partLike_4 : decode b_Re_partLike 4 = .ok (.if_icmp .ge 25, 3) := by decide +kernel
theorem d_Re_partLike_7 : decode b_Re_partLike 7 = .ok (.aload_n 0, 1) := by decide +kernel
theorem d_Re_partLike_8 : decode b_Re_partLike 8 = .ok (.iload_n 1, 1) := by decide +kernel
theorem d_Re_partLike_9 : decode b_Re_partLike 9 = .ok (.aload_n 0, 1) := by decide +kernel
theorem d_Re_partLike_10 : decode b_Re_partLike 10 = .ok (.getfield 27, 3) := by decide +kernel
theorem d_Re_partLike_13 : decode b_Re_partLike 13 = .ok (.iload_n 3, 1) := by decide +kernel
theorem d_Re_partLike_14 : decode b_Re_partLike 14 = .ok (.iaload, 1) := by decide +kernel
theorem d_Re_partLike_15 : decode b_Re_partLike 15 = .ok (.invokevirtual 78, 3) := by decide +kernel
theorem d_Re_partLike_18 : decode b_Re_partLike 18 = .ok (.ifCond .eq 5, 3) := by decide +kernel
theorem d_Re_partLike_21 : decode b_Re_partLike 21 = .ok (.iload_n 3, 1) := by decide +kernel
theorem d_Re_partLike_22 : decode b_Re_partLike 22 = .ok (.ireturn, 1) := by decide +kernel
theorem d_Re_partLike_23 : decode b_Re_partLike 23 = .ok (.iinc 3 1, 3) := by decide +kernel
theorem d_Re_partLike_26 : decode b_Re_partLike 26 = .ok (.goto (-24), 3) := by decide +kernel
theorem d_Re_partLike_29 : decode b_Re_partLike 29 = .ok (.iload_n 2, 1) := by decide +kernel
theorem d_Re_partLike_30 : decode b_Re_partLike 30 = .ok (.ireturn, 1) := by decide +kernel
theorem d_Re_goAlike_0 : decode b_Re_goAlike 0 = .ok (.aload_n 0, 1) := by decide +kernel
theorem d_Re_goAlike_1 : decode b_Re_goAlike 1 = .ok (.getfield 21, 3) := by decide +kernel
theorem d_Re_goAlike_4 : decode b_Re_goAlike 4 = .ok (.iload_n 1, 1) := by decide +kernel
theorem d_Re_goAlike_5 : decode b_Re_goAlike 5 = .ok (.iaload, 1) := by decide +kernel
theorem d_Re_goAlike_6 : decode b_Re_goAlike 6 = .ok (.aload_n 0, 1) := by decide +kernel
theorem d_Re_goAlike_7 : decode b_Re_goAlike 7 = .ok (.getfield 21, 3) := by decide +kernel
theorem d_Re_goAlike_10 : decode b_Re_goAlike 10 = .ok (.iload_n 2, 1) := by decide +kernel
theorem d_Re_goAlike_11 : decode b_Re_goAlike 11 = .ok (.iaload, 1) := by decide +kernel
theorem d_Re_goAlike_12 : decode b_Re_goAlike 12 = .ok (.if_icmp .ne 69, 3) := by decide +kernel
theorem d_Re_goAlike_15 : decode b_Re_goAlike 15 = .ok (.aload_n 0, 1) := by decide +kernel
theorem d_Re_goAlike_16 : decode b_Re_goAlike 16 = .ok (.getfield 21, 3) := by decide +kernel
theorem d_Re_goAlike_19 : decode b_Re_goAlike 19 = .ok (.aload_n 0, 1) := by decide +kernel
theorem d_Re_goAlike_20 : decode b_Re_goAlike 20 = .ok (.getfield 18, 3) := by decide +kernel
theorem d_Re_goAlike_23 : decode b_Re_goAlike 23 = .ok (.iconst 2, 1) := by decide +kernel
theorem d_Re_goAlike_24 : decode b_Re_goAlike 24 = .ok (.iload_n 1, 1) := by decide +kernel
theorem d_Re_goAlike_25 : decode b_Re_goAlike 25 = .ok (.imul, 1) := by decide +kernel
theorem d_Re_goAlike_26 : decode b_Re_goAlike 26 = .ok (.iaload, 1) := by decide +kernel
theorem d_Re_goAlike_27 : decode b_Re_goAlike 27 = .ok (.iaload, 1) := by decide +kernel
theorem d_Re_goAlike_28 : decode b_Re_goAlike 28 = .ok (.aload_n 0, 1) := by decide +kernel
theorem d_Re_goAlike_29 : decode b_Re_goAlike 29 = .ok (.getfield 21, 3) := by decide +kernel
theorem d_Re_goAlike_32 : decode b_Re_goAlike 32 = .ok (.aload_n 0, 1) := by decide +kernel
theorem d_Re_goAlike_33 : decode b_Re_goAlike 33 = .ok (.getfield 18, 3) := by decide +kernel
theorem d_Re_goAlike_36 : decode b_Re_goAlike 36 = .ok (.iconst 2, 1) := by decide +kernel
theorem d_Re_goAlike_37 : decode b_Re_goAlike 37 = .ok (.iload_n 2, 1) := by decide +kernel
theorem d_Re_goAlike_38 : decode b_Re_goAlike 38 = .ok (.imul, 1) := by decide +kernel
theorem d_Re_goAlike_39 : decode b_Re_goAlike 39 = .ok (.iaload, 1) := by decide +kernel
theorem d_Re_goAlike_40 : decode b_Re_goAlike 40 = .ok (.iaload, 1) := by decide +kernel
theorem d_Re_goAlike_41 : decode b_Re_goAlike 41 = .ok (.if_icmp .ne 40, 3) := by decide +kernel
theorem d_Re_goAlike_44 : decode b_Re_goAlike 44 = .ok (.aload_n 0, 1) := by decide +kernel
theorem d_Re_goAlike_45 : decode b_Re_goAlike 45 = .ok (.getfield 21, 3) := by decide +kernel
theorem d_Re_goAlike_48 : decode b_Re_goAlike 48 = .ok (.aload_n 0, 1) := by decide +kernel
theorem d_Re_goAlike_49 : decode b_Re_goAlike 49 = .ok (.getfield 18, 3) := by decide +kernel
theorem d_Re_goAlike_52 : decode b_Re_goAlike 52 = .ok (.iconst 2, 1) := by decide +kernel
theorem d_Re_goAlike_53 : decode b_Re_goAlike 53 = .ok (.iload_n 1, 1) := by decide +kernel
theorem d_Re_goAlike_54 : decode b_Re_goAlike 54 = .ok (.imul, 1) := by decide +kernel
theorem d_Re_goAlike_55 : decode b_Re_goAlike 55 = .ok (.iconst 1, 1) := by decide +kernel
theorem d_Re_goAlike_56 : decode b_Re_goAlike 56 = .ok (.iadd, 1) := by decide +kernel
theorem d_Re_goAlike_57 : decode b_Re_goAlike 57 = .ok (.iaload, 1) := by decide +kernel
theorem d_Re_goAlike_58 : decode b_Re_goAlike 58 = .ok (.iaload, 1) := by decide +kernel
theorem d_Re_goAlike_59 : decode b_Re_goAlike 59 = .ok (.aload_n 0, 1) := by decide +kernel
theorem d_Re_goAlike_60 : decode b_Re_goAlike 60 = .ok (.getfield 21, 3) := by decide +kernel
theorem d_Re_goAlike_63 : decode b_Re_goAlike 63 = .ok (.aload_n 0, 1) := by decide +kernel
theorem d_Re_goAlike_64 : decode b_Re_goAlike 64 = .ok (.getfield 18, 3) := by decide +kernel
theorem d_Re_goAlike_67 : decode b_Re_goAlike 67 = .ok (.iconst 2, 1) := by decide +kernel
theorem d_Re_goAlike_68 : decode b_Re_goAlike 68 = .ok (.iload_n 2, 1) := by decide +kernel
theorem d_Re_goAlike_69 : decode b_Re_goAlike 69 = .ok (.imul, 1) := by decide +kernel
theorem d_Re_goAlike_70 : decode b_Re_goAlike 70 = .ok (.iconst 1, 1) := by decide +kernel
theorem d_Re_goAlike_71 : decode b_Re_goAlike 71 = .ok (.iadd, 1) := by decide +kernel
theorem d_Re_goAlike_72 : decode b_Re_goAlike 72 = .ok (.iaload, 1) := by decide +kernel
theorem d_Re_goAlike_73 : decode b_Re_goAlike 73 = .ok (.iaload, 1) := by decide +kernel
theorem d_Re_goAlike_74 : decode b_Re_goAlike 74 = .ok (.if_icmp .ne 7, 3) := by decide +kernel
theorem d_Re_goAlike_77 : decode b_Re_goAlike 77 = .ok (.iconst 1, 1) := by decide +kernel
theorem d_Re_goAlike_78 : decode b_Re_goAlike 78 = .ok (.goto 4, 3) := by decide +kernel
theorem d_Re_goAlike_81 : decode b_Re_goAlike 81 = .ok (.iconst 0, 1) := by decide +kernel
theorem d_Re_goAlike_82 : decode b_Re_goAlike 82 = .ok (.ireturn, 1) := by decide +kernel
theorem d_Re_write_0 : decode b_Re_write 0 = .ok (.aload_n 3, 1) := by decide +kernel
theorem d_Re_write_1 : decode b_Re_write 1 = .ok (.iload_n 2, 1) := by decide +kernel
theorem d_Re_write_2 : decode b_Re_write 2 = .ok (.putfield 82, 3) := by decide +kernel
theorem d_Re_write_5 : decode b_Re_write 5 = .ok (.aload_n 3, 1) := by decide +kernel
theorem d_Re_write_6 : decode b_Re_write 6 = .ok (.iconst 0, 1) := by decide +kernel
theorem d_Re_write_7 : decode b_Re_write 7 = .ok (.putfield 85, 3) := by decide +kernel
theorem d_Re_write_10 : decode b_Re_write 10 = .ok (.iconst 0, 1) := by decide +kernel
theorem d_Re_write_11 : decode b_Re_write 11 = .ok (.istore 4, 2) := by decide +kernel
theorem d_Re_write_13 : decode b_Re_write 13 = .ok (.iload 4, 2) := by decide +kernel
theorem d_Re_write_15 : decode b_Re_write 15 = .ok (.iload_n 2, 1) := by decide +kernel
theorem d_Re_write_16 : decode b_Re_write 16 = .ok (.if_icmp .ge 91, 3) := by decide +kernel
theorem d_Re_write_19 : decode b_Re_write 19 = .ok (.aload_n 0, 1) := by decide +kernel
theorem d_Re_write_20 : decode b_Re_write 20 = .ok (.getfield 27, 3) := by decide +kernel
theorem d_Re_write_23 : decode b_Re_write 23 = .ok (.iload 4, 2) := by decide +kernel
theorem d_Re_write_25 : decode b_Re_write 25 = .ok (.iaload, 1) := by decide +kernel
theorem d_Re_write_26 : decode b_Re_write 26 = .ok (.istore 5, 2) := by decide +kernel
theorem d_Re_write_28 : decode b_Re_write 28 = .ok (.iconst 0, 1) := by decide +kernel
theorem d_Re_write_29 : decode b_Re_write 29 = .ok (.istore 6, 2) := by decide +kernel
theorem d_Re_write_31 : decode b_Re_write 31 = .ok (.iload 6, 2) := by decide +kernel
theorem d_Re_write_33 : decode b_Re_write 33 = .ok (.iconst 2, 1) := by decide +kernel
theorem d_Re_write_34 : decode b_Re_write 34 = .ok (.if_icmp .ge 38, 3) := by decide +kernel
theorem d_Re_write_37 : decode b_Re_write 37 = .ok (.aload_n 3, 1) := by decide +kernel
theorem d_Re_write_38 : decode b_Re_write 38 = .ok (.getfield 88, 3) := by decide +kernel
theorem d_Re_write_41 : decode b_Re_write 41 = .ok (.iconst 2, 1) := by decide +kernel
theorem d_Re_write_42 : decode b_Re_write 42 = .ok (.iload 4, 2) := by decide +kernel
theorem d_Re_write_44 : decode b_Re_write 44 = .ok (.imul, 1) := by decide +kernel
theorem d_Re_write_45 : decode b_Re_write 45 = .ok (.iload 6, 2) := by decide +kernel
theorem d_Re_write_47 : decode b_Re_write 47 = .ok (.iadd, 1) := by decide +kernel
theorem d_Re_write_48 : decode b_Re_write 48 = .ok (.aload_n 0, 1) := by decide +kernel
theorem d_Re_write_49 : decode b_Re_write 49 = .ok (.getfield 21, 3) := by decide +kernel
theorem d_Re_write_52 : decode b_Re_write 52 = .ok (.aload_n 0, 1) := by decide +kernel
theorem d_Re_write_53 : decode b_Re_write 53 = .ok (.getfield 18, 3) := by decide +kernel
theorem d_Re_write_56 : decode b_Re_write 56 = .ok (.iconst 2, 1) := by decide +kernel
theorem d_Re_write_57 : decode b_Re_write 57 = .ok (.iload 5, 2) := by decide +kernel
theorem d_Re_write_59 : decode b_Re_write 59 = .ok (.imul, 1) := by decide +kernel
theorem d_Re_write_60 : decode b_Re_write 60 = .ok (.iload 6, 2) := by decide +kernel
theorem d_Re_write_62 : decode b_Re_write 62 = .ok (.iadd, 1) := by decide +kernel
theorem d_Re_write_63 : decode b_Re_write 63 = .ok (.iaload, 1) := by decide +kernel
theorem d_Re_write_64 : decode b_Re_write 64 = .ok (.iaload, 1) := by decide +kernel
theorem d_Re_write_65 : decode b_Re_write 65 = .ok (.iastore, 1) := by decide +kernel
theorem d_Re_write_66 : decode b_Re_write 66 = .ok (.iinc 6 1, 3) := by decide +kernel
theorem d_Re_write_69 : decode b_Re_write 69 = .ok (.goto (-38), 3) := by decide +kernel
theorem d_Re_write_72 : decode b_Re_write 72 = .ok (.aload_n 1, 1) := by decide +kernel
theorem d_Re_write_73 : decode b_Re_write 73 = .ok (.aload_n 0, 1) := by decide +kernel
theorem d_Re_write_74 : decode b_Re_write 74 = .ok (.getfield 15, 3) := by decide +kernel
theorem d_Re_write_77 : decode b_Re_write 77 = .ok (.iload 5, 2) := by decide +kernel
theorem d_Re_write_79 : decode b_Re_write 79 = .ok (.iaload, 1) := by decide +kernel
theorem d_Re_write_80 : decode b_Re_write 80 = .ok (.invokeinterface 68 2, 5) := by decide +kernel
theorem d_Re_write_85 : decode b_Re_write 85 = .ok (.ifCond .eq 16, 3) := by decide +kernel
theorem d_Re_write_88 : decode b_Re_write 88 = .ok (.aload_n 3, 1) := by decide +kernel
theorem d_Re_write_89 : decode b_Re_write 89 = .ok (.dup, 1) := by decide +kernel
theorem d_Re_write_90 : decode b_Re_write 90 = .ok (.getfield 85, 3) := by decide +kernel
theorem d_Re_write_93 : decode b_Re_write 93 = .ok (.iconst 1, 1) := by decide +kernel
theorem d_Re_write_94 : decode b_Re_write 94 = .ok (.iload 4, 2) := by decide +kernel
theorem d_Re_write_96 : decode b_Re_write 96 = .ok (.ishl, 1) := by decide +kernel
theorem d_Re_write_97 : decode b_Re_write 97 = .ok (.ior, 1) := by decide +kernel
theorem d_Re_write_98 : decode b_Re_write 98 = .ok (.putfield 85, 3) := by decide +kernel
theorem d_Re_write_101 : decode b_Re_write 101 = .ok (.iinc 4 1, 3) := by decide +kernel
theorem d_Re_write_104 : decode b_Re_write 104 = .ok (.goto (-91), 3) := by decide +kernel
theorem d_Re_write_107 : decode b_Re_write 107 = .ok (.return_, 1) := by decide +kernel
theorem d_LA_unite_0 : decode b_LA_unite 0 = .ok (.aload_n 0, 1) := by decide +kernel
theorem d_LA_unite_1 : decode b_LA_unite 1 = .ok (.iload_n 1, 1) := by decide +kernel
theorem d_LA_unite_2 : decode b_LA_unite 2 = .ok (.invokevirtual 39, 3) := by decide +kernel
theorem d_LA_unite_5 : decode b_LA_unite 5 = .ok (.ifCond .eq 11, 3) := by decide +kernel
theorem d_LA_unite_8 : decode b_LA_unite 8 = .ok (.aload_n 0, 1) := by decide +kernel
theorem d_LA_unite_9 : decode b_LA_unite 9 = .ok (.iload_n 2, 1) := by decide +kernel
theorem d_LA_unite_10 : decode b_LA_unite 10 = .ok (.invokevirtual 39, 3) := by decide +kernel
theorem d_LA_unite_13 : decode b_LA_unite 13 = .ok (.ifCond .ne 5, 3) := by decide +kernel
theorem d_LA_unite_16 : decode b_LA_unite 16 = .ok (.iconst (-1), 1) := by decide +kernel
theorem d_LA_unite_17 : decode b_LA_unite 17 = .ok (.ireturn, 1) := by decide +kernel
theorem d_LA_unite_18 : decode b_LA_unite 18 = .ok (.aload_n 0, 1) := by decide +kernel
theorem d_LA_unite_19 : decode b_LA_unite 19 = .ok (.new 43, 3) := by decide +kernel
theorem d_LA_unite_22 : decode b_LA_unite 22 = .ok (.dup, 1) := by decide +kernel
theorem d_LA_unite_23 : decode b_LA_unite 23 = .ok (.aload_n 0, 1) := by decide +kernel
theorem d_LA_unite_24 : decode b_LA_unite 24 = .ok (.getfield 11, 3) := by decide +kernel
theorem d_LA_unite_27 : decode b_LA_unite 27 = .ok (.iload_n 1, 1) := by decide +kernel
theorem d_LA_unite_28 : decode b_LA_unite 28 = .ok (.aaload, 1) := by decide +kernel
theorem d_LA_unite_29 : decode b_LA_unite 29 = .ok (.aload_n 0, 1) := by decide +kernel
theorem d_LA_unite_30 : decode b_LA_unite 30 = .ok (.getfield 11, 3) := by decide +kernel
theorem d_LA_unite_33 : decode b_LA_unite 33 = .ok (.iload_n 2, 1) := by decide +kernel
theorem d_LA_unite_34 : decode b_LA_unite 34 = .ok (.aaload, 1) := by decide +kernel
theorem d_LA_unite_35 : decode b_LA_unite 35 = .ok (.iconst 0, 1) := by decide +kernel
theorem d_LA_unite_36 : decode b_LA_unite 36 = .ok (.invokespecial 45, 3) := by decide +kernel
theorem d_LA_unite_39 : decode b_LA_unite 39 = .ok (.invokevirtual 35, 3) := by decide +kernel
theorem d_LA_unite_42 : decode b_LA_unite 42 = .ok (.ireturn, 1) := by decide +kernel
theorem d_LA_isListed_0 : decode b_LA_isListed 0 = .ok (.iload_n 1, 1) := by decide +kernel
theorem d_LA_isListed_1 : decode b_LA_isListed 1 = .ok (.ifCond .lt 15, 3) := by decide +kernel
theorem d_LA_isListed_4 : decode b_LA_isListed 4 = .ok (.iload_n 1, 1) := by decide +kernel
theorem d_LA_isListed_5 : decode b_LA_isListed 5 = .ok (.aload_n 0, 1) := by decide +kernel
theorem d_LA_isListed_6 : decode b_LA_isListed 6 = .ok (.getfield 61, 3) := by decide +kernel
theorem d_LA_isListed_9 : decode b_LA_isListed 9 = .ok (.if_icmp .ge 7, 3) := by decide +kernel
theorem d_LA_isListed_12 : decode b_LA_isListed 12 = .ok (.iconst 1, 1) := by decide +kernel
theorem d_LA_isListed_13 : decode b_LA_isListed 13 = .ok (.goto 4, 3) := by decide +kernel
theorem d_LA_isListed_16 : decode b_LA_isListed 16 = .ok (.iconst 0, 1) := by decide +kernel
theorem d_LA_isListed_17 : decode b_LA_isListed 17 = .ok (.ireturn, 1) := by decide +kernel
theorem d_Pa_init_0 : decode b_Pa_init 0 = .ok (.aload_n 0, 1) := by decide +kernel
theorem d_Pa_init_1 : decode b_Pa_init 1 = .ok (.invokespecial 3, 3) := by decide +kernel
theorem d_Pa_init_4 : decode b_Pa_init 4 = .ok (.aload_n 0, 1) := by decide +kernel
theorem d_Pa_init_5 : decode b_Pa_init 5 = .ok (.aload_n 1, 1) := by decide +kernel
theorem d_Pa_init_6 : decode b_Pa_init 6 = .ok (.putfield 9, 3) := by decide +kernel
theorem d_Pa_init_9 : decode b_Pa_init 9 = .ok (.aload_n 0, 1) := by decide +kernel
theorem d_Pa_init_10 : decode b_Pa_init 10 = .ok (.aload_n 2, 1) := by decide +kernel
theorem d_Pa_init_11 : decode b_Pa_init 11 = .ok (.putfield 15, 3) := by decide +kernel
theorem d_Pa_init_14 : decode b_Pa_init 14 = .ok (.aload_n 0, 1) := by decide +kernel
theorem d_Pa_init_15 : decode b_Pa_init 15 = .ok (.iload_n 3, 1) := by decide +kernel
theorem d_Pa_init_16 : decode b_Pa_init 16 = .ok (.putfield 18, 3) := by decide +kernel
theorem d_Pa_init_19 : decode b_Pa_init 19 = .ok (.return_, 1) := by decide +kernel
theorem d_LA_meet_0 : decode b_LA_meet 0 = .ok (.aload_n 0, 1) := by decide +kernel
theorem d_LA_meet_1 : decode b_LA_meet 1 = .ok (.iload_n 1, 1) := by decide +kernel
theorem d_LA_meet_2 : decode b_LA_meet 2 = .ok (.invokevirtual 39, 3) := by decide +kernel
theorem d_LA_meet_5 : decode b_LA_meet 5 = .ok (.ifCond .eq 11, 3) := by decide +kernel
theorem d_LA_meet_8 : decode b_LA_meet 8 = .ok (.aload_n 0, 1) := by decide +kernel
theorem d_LA_meet_9 : decode b_LA_meet 9 = .ok (.iload_n 2, 1) := by decide +kernel
theorem d_LA_meet_10 : decode b_LA_meet 10 = .ok (.invokevirtual 39, 3) := by decide +kernel
theorem d_LA_meet_13 : decode b_LA_meet 13 = .ok (.ifCond .ne 5, 3) := by decide +kernel
theorem d_LA_meet_16 : decode b_LA_meet 16 = .ok (.iconst (-1), 1) := by decide +kernel
theorem d_LA_meet_17 : decode b_LA_meet 17 = .ok (.ireturn, 1) := by decide +kernel
theorem d_LA_meet_18 : decode b_LA_meet 18 = .ok (.aload_n 0, 1) := by decide +kernel
theorem d_LA_meet_19 : decode b_LA_meet 19 = .ok (.new 43, 3) := by decide +kernel
theorem d_LA_meet_22 : decode b_LA_meet 22 = .ok (.dup, 1) := by decide +kernel
theorem d_LA_meet_23 : decode b_LA_meet 23 = .ok (.aload_n 0, 1) := by decide +kernel
theorem d_LA_meet_24 : decode b_LA_meet 24 = .ok (.getfield 11, 3) := by decide +kernel
theorem d_LA_meet_27 : decode b_LA_meet 27 = .ok (.iload_n 1, 1) := by decide +kernel
theorem d_LA_meet_28 : decode b_LA_meet 28 = .ok (.aaload, 1) := by decide +kernel
theorem d_LA_meet_29 : decode b_LA_meet 29 = .ok (.aload_n 0, 1) := by decide +kernel
theorem d_LA_meet_30 : decode b_LA_meet 30 = .ok (.getfield 11, 3) := by decide +kernel
theorem d_LA_meet_33 : decode b_LA_meet 33 = .ok (.iload_n 2, 1) := by decide +kernel
theorem d_LA_meet_34 : decode b_LA_meet 34 = .ok (.aaload, 1) := by decide +kernel
theorem d_LA_meet_35 : decode b_LA_meet 35 = .ok (.iconst 1, 1) := by decide +kernel
theorem d_LA_meet_36 : decode b_LA_meet 36 = .ok (.invokespecial 45, 3) := by decide +kernel
theorem d_LA_meet_39 : decode b_LA_meet 39 = .ok (.invokevirtual 35, 3) := by decide +kernel
theorem d_LA_meet_42 : decode b_LA_meet 42 = .ok (.ireturn, 1) := by decide +kernel
end
section
theorem d_LA_chain_0 : decode b_LA_chain 0 = .ok (.aload_n 0, 1) := by decide +kernel
theorem d_LA_chain_1 : decode b_LA_chain 1 = .ok (.iload_n 1, 1) := by decide +kernel
theorem d_LA_chain_2 : decode b_LA_chain 2 = .ok (.invokevirtual 39, 3) := by decide +kernel
theorem d_LA_chain_5 : decode b_LA_chain 5 = .ok (.ifCond .eq 11, 3) := by decide +kernel
theorem d_LA_chain_8 : decode b_LA_chain 8 = .ok (.aload_n 0, 1) := by decide +kernel
theorem d_LA_chain_9 : decode b_LA_chain 9 = .ok (.iload_n 2, 1) := by decide +kernel
theorem d_LA_chain_10 : decode b_LA_chain 10 = .ok (.invokevirtual 39, 3) := by decide +kernel
theorem d_LA_chain_13 : decode b_LA_chain 13 = .ok (.ifCond .ne 5, 3) := by decide +kernel
theorem d_LA_chain_16 : decode b_LA_chain 16 = .ok (.iconst (-1), 1) := by decide +kernel
theorem d_LA_chain_17 : decode b_LA_chain 17 = .ok (.ireturn, 1) := by decide +kernel
theorem d_LA_chain_18 : decode b_LA_chain 18 = .ok (.aload_n 0, 1) := by decide +kernel
theorem d_LA_chain_19 : decode b_LA_chain 19 = .ok (.new 48, 3) := by decide +kernel
theorem d_LA_chain_22 : decode b_LA_chain 22 = .ok (.dup, 1) := by decide +kernel
theorem d_LA_chain_23 : decode b_LA_chain 23 = .ok (.aload_n 0, 1) := by decide +kernel
theorem d_LA_chain_24 : decode b_LA_chain 24 = .ok (.getfield 11, 3) := by decide +kernel
theorem d_LA_chain_27 : decode b_LA_chain 27 = .ok (.iload_n 1, 1) := by decide +kernel
theorem d_LA_chain_28 : decode b_LA_chain 28 = .ok (.aaload, 1) := by decide +kernel
theorem d_LA_chain_29 : decode b_LA_chain 29 = .ok (.aload_n 0, 1) := by decide +kernel
theorem d_LA_chain_30 : decode b_LA_chain 30 = .ok (.getfield 11, 3) := by decide +kernel
theorem d_LA_chain_33 : decode b_LA_chain 33 = .ok (.iload_n 2, 1) := by decide +kernel
theorem d_LA_chain_34 : decode b_LA_chain 34 = .ok (.aaload, 1) := by decide +kernel
theorem d_LA_chain_35 : decode b_LA_chain 35 = .ok (.invokespecial 50, 3) := by decide +kernel
theorem d_LA_chain_38 : decode b_LA_chain 38 = .ok (.invokevirtual 35, 3) := by decide +kernel
theorem d_LA_chain_41 : decode b_LA_chain 41 = .ok (.ireturn, 1) := by decide +kernel
theorem d_Ch_init_0 : decode b_Ch_init 0 = .ok (.aload_n 0, 1) := by decide +kernel
theorem d_Ch_init_1 : decode b_Ch_init 1 = .ok (.invokespecial 3, 3) := by decide +kernel
theorem d_Ch_init_4 : decode b_Ch_init 4 = .ok (.aload_n 0, 1) := by decide +kernel
theorem d_Ch_init_5 : decode b_Ch_init 5 = .ok (.aload_n 1, 1) := by decide +kernel
theorem d_Ch_init_6 : decode b_Ch_init 6 = .ok (.putfield 9, 3) := by decide +kernel
theorem d_Ch_init_9 : decode b_Ch_init 9 = .ok (.aload_n 0, 1) := by decide +kernel
theorem d_Ch_init_10 : decode b_Ch_init 10 = .ok (.aload_n 2, 1) := by decide +kernel
theorem d_Ch_init_11 : decode b_Ch_init 11 = .ok (.putfield 15, 3) := by decide +kernel
theorem d_Ch_init_14 : decode b_Ch_init 14 = .ok (.return_, 1) := by decide +kernel
theorem d_LA_star_0 : decode b_LA_star 0 = .ok (.aload_n 0, 1) := by decide +kernel
theorem d_LA_star_1 : decode b_LA_star 1 = .ok (.iload_n 1, 1) := by decide +kernel
theorem d_LA_star_2 : decode b_LA_star 2 = .ok (.invokevirtual 39, 3) := by decide +kernel
theorem d_LA_star_5 : decode b_LA_star 5 = .ok (.ifCond .ne 5, 3) := by decide +kernel
theorem d_LA_star_8 : decode b_LA_star 8 = .ok (.iconst (-1), 1) := by decide +kernel
theorem d_LA_star_9 : decode b_LA_star 9 = .ok (.ireturn, 1) := by decide +kernel
theorem d_LA_star_10 : decode b_LA_star 10 = .ok (.aload_n 0, 1) := by decide +kernel
theorem d_LA_star_11 : decode b_LA_star 11 = .ok (.new 53, 3) := by decide +kernel
theorem d_LA_star_14 : decode b_LA_star 14 = .ok (.dup, 1) := by decide +kernel
theorem d_LA_star_15 : decode b_LA_star 15 = .ok (.aload_n 0, 1) := by decide +kernel
theorem d_LA_star_16 : decode b_LA_star 16 = .ok (.getfield 11, 3) := by decide +kernel
theorem d_LA_star_19 : decode b_LA_star 19 = .ok (.iload_n 1, 1) := by decide +kernel
theorem d_LA_star_20 : decode b_LA_star 20 = .ok (.aaload, 1) := by decide +kernel
theorem d_LA_star_21 : decode b_LA_star 21 = .ok (.invokespecial 55, 3) := by decide +kernel
theorem d_LA_star_24 : decode b_LA_star 24 = .ok (.invokevirtual 35, 3) := by decide +kernel
theorem d_LA_star_27 : decode b_LA_star 27 = .ok (.ireturn, 1) := by decide +kernel
theorem d_St_init_0 : decode b_St_init 0 = .ok (.aload_n 0, 1) := by decide +kernel
theorem d_St_init_1 : decode b_St_init 1 = .ok (.invokespecial 3, 3) := by decide +kernel
theorem d_St_init_4 : decode b_St_init 4 = .ok (.aload_n 0, 1) := by decide +kernel
theorem d_St_init_5 : decode b_St_init 5 = .ok (.aload_n 1, 1) := by decide +kernel
theorem d_St_init_6 : decode b_St_init 6 = .ok (.putfield 9, 3) := by decide +kernel
theorem d_St_init_9 : decode b_St_init 9 = .ok (.return_, 1) := by decide +kernel
theorem d_LA_invert_0 : decode b_LA_invert 0 = .ok (.aload_n 0, 1) := by decide +kernel
theorem d_LA_invert_1 : decode b_LA_invert 1 = .ok (.iload_n 1, 1) := by decide +kernel
theorem d_LA_invert_2 : decode b_LA_invert 2 = .ok (.invokevirtual 39, 3) := by decide +kernel
theorem d_LA_invert_5 : decode b_LA_invert 5 = .ok (.ifCond .ne 5, 3) := by decide +kernel
theorem d_LA_invert_8 : decode b_LA_invert 8 = .ok (.iconst (-1), 1) := by decide +kernel
theorem d_LA_invert_9 : decode b_LA_invert 9 = .ok (.ireturn, 1) := by decide +kernel
theorem d_LA_invert_10 : decode b_LA_invert 10 = .ok (.aload_n 0, 1) := by decide +kernel
theorem d_LA_invert_11 : decode b_LA_invert 11 = .ok (.new 58, 3) := by decide +kernel
theorem d_LA_invert_14 : decode b_LA_invert 14 = .ok (.dup, 1) := by decide +kernel
theorem d_LA_invert_15 : decode b_LA_invert 15 = .ok (.aload_n 0, 1) := by decide +kernel
theorem d_LA_invert_16 : decode b_LA_invert 16 = .ok (.getfield 11, 3) := by decide +kernel
theorem d_LA_invert_19 : decode b_LA_invert 19 = .ok (.iload_n 1, 1) := by decide +kernel
theorem d_LA_invert_20 : decode b_LA_invert 20 = .ok (.aaload, 1) := by decide +kernel
theorem d_LA_invert_21 : decode b_LA_invert 21 = .ok (.invokespecial 60, 3) := by decide +kernel
theorem d_LA_invert_24 : decode b_LA_invert 24 = .ok (.invokevirtual 35, 3) := by decide +kernel
theorem d_LA_invert_27 : decode b_LA_invert 27 = .ok (.ireturn, 1) := by decide +kernel
theorem d_In_init_0 : decode b_In_init 0 = .ok (.aload_n 0, 1) := by decide +kernel
theorem d_In_init_1 : decode b_In_init 1 = .ok (.invokespecial 1, 3) := by decide +kernel
theorem d_In_init_4 : decode b_In_init 4 = .ok (.aload_n 0, 1) := by decide +kernel
theorem d_In_init_5 : decode b_In_init 5 = .ok (.aload_n 1, 1) := by decide +kernel
theorem d_In_init_6 : decode b_In_init 6 = .ok (.putfield 7, 3) := by decide +kernel
theorem d_In_init_9 : decode b_In_init 9 = .ok (.return_, 1) := by decide +kernel
theorem d_LA_forget_0 : decode b_LA_forget 0 = .ok (.aload_n 0, 1) := by decide +kernel
theorem d_LA_forget_1 : decode b_LA_forget 1 = .ok (.getfield 61, 3) := by decide +kernel
theorem d_LA_forget_4 : decode b_LA_forget 4 = .ok (.ifCond .ne 5, 3) := by decide +kernel
theorem d_LA_forget_7 : decode b_LA_forget 7 = .ok (.iconst 0, 1) := by decide +kernel
theorem d_LA_forget_8 : decode b_LA_forget 8 = .ok (.ireturn, 1) := by decide +kernel
theorem d_LA_forget_9 : decode b_LA_forget 9 = .ok (.aload_n 0, 1) := by decide +kernel
theorem d_LA_forget_10 : decode b_LA_forget 10 = .ok (.dup, 1) := by decide +kernel
theorem d_LA_forget_11 : decode b_LA_forget 11 = .ok (.getfield 61, 3) := by decide +kernel
theorem d_LA_forget_14 : decode b_LA_forget 14 = .ok (.iconst 1, 1) := by decide +kernel
theorem d_LA_forget_15 : decode b_LA_forget 15 = .ok (.isub, 1) := by decide +kernel
theorem d_LA_forget_16 : decode b_LA_forget 16 = .ok (.putfield 61, 3) := by decide +kernel
theorem d_LA_forget_19 : decode b_LA_forget 19 = .ok (.iconst 1, 1) := by decide +kernel
theorem d_LA_forget_20 : decode b_LA_forget 20 = .ok (.ireturn, 1) := by decide +kernel
theorem d_LA_count_0 : decode b_LA_count 0 = .ok (.aload_n 0, 1) := by decide +kernel
theorem d_LA_count_1 : decode b_LA_count 1 = .ok (.getfield 61, 3) := by decide +kernel
theorem d_LA_count_4 : decode b_LA_count 4 = .ok (.ireturn, 1) := by decide +kernel
theorem d_LA_states_0 : decode b_LA_states 0 = .ok (.aload_n 0, 1) := by decide +kernel
theorem d_LA_states_1 : decode b_LA_states 1 = .ok (.iload_n 1, 1) := by decide +kernel
theorem d_LA_states_2 : decode b_LA_states 2 = .ok (.invokevirtual 39, 3) := by decide +kernel
theorem d_LA_states_5 : decode b_LA_states 5 = .ok (.ifCond .eq 15, 3) := by decide +kernel
theorem d_LA_states_8 : decode b_LA_states 8 = .ok (.aload_n 0, 1) := by decide +kernel
theorem d_LA_states_9 : decode b_LA_states 9 = .ok (.getfield 11, 3) := by decide +kernel
theorem d_LA_states_12 : decode b_LA_states 12 = .ok (.iload_n 1, 1) := by decide +kernel
theorem d_LA_states_13 : decode b_LA_states 13 = .ok (.aaload, 1) := by decide +kernel
theorem d_LA_states_14 : decode b_LA_states 14 = .ok (.getfield 65, 3) := by decide +kernel
theorem d_LA_states_17 : decode b_LA_states 17 = .ok (.goto 4, 3) := by decide +kernel
theorem d_LA_states_20 : decode b_LA_states 20 = .ok (.iconst (-1), 1) := by decide +kernel
theorem d_LA_states_21 : decode b_LA_states 21 = .ok (.ireturn, 1) := by decide +kernel
theorem d_LA_next_0 : decode b_LA_next 0 = .ok (.aload_n 0, 1) := by decide +kernel
theorem d_LA_next_1 : decode b_LA_next 1 = .ok (.iload_n 1, 1) := by decide +kernel
theorem d_LA_next_2 : decode b_LA_next 2 = .ok (.invokevirtual 39, 3) := by decide +kernel
theorem d_LA_next_5 : decode b_LA_next 5 = .ok (.ifCond .eq 25, 3) := by decide +kernel
theorem d_LA_next_8 : decode b_LA_next 8 = .ok (.aload_n 0, 1) := by decide +kernel
theorem d_LA_next_9 : decode b_LA_next 9 = .ok (.getfield 11, 3) := by decide +kernel
theorem d_LA_next_12 : decode b_LA_next 12 = .ok (.iload_n 1, 1) := by decide +kernel
theorem d_LA_next_13 : decode b_LA_next 13 = .ok (.aaload, 1) := by decide +kernel
theorem d_LA_next_14 : decode b_LA_next 14 = .ok (.iload_n 2, 1) := by decide +kernel
theorem d_LA_next_15 : decode b_LA_next 15 = .ok (.invokevirtual 68, 3) := by decide +kernel
theorem d_LA_next_18 : decode b_LA_next 18 = .ok (.ifCond .eq 12, 3) := by decide +kernel
theorem d_LA_next_21 : decode b_LA_next 21 = .ok (.iload_n 3, 1) := by decide +kernel
theorem d_LA_next_22 : decode b_LA_next 22 = .ok (.ifCond .lt 8, 3) := by decide +kernel
theorem d_LA_next_25 : decode b_LA_next 25 = .ok (.iload_n 3, 1) := by decide +kernel
theorem d_LA_next_26 : decode b_LA_next 26 = .ok (.iconst 2, 1) := by decide +kernel
theorem d_LA_next_27 : decode b_LA_next 27 = .ok (.if_icmp .lt 5, 3) := by decide +kernel
theorem d_LA_next_30 : decode b_LA_next 30 = .ok (.iconst (-1), 1) := by decide +kernel
theorem d_LA_next_31 : decode b_LA_next 31 = .ok (.ireturn, 1) := by decide +kernel
theorem d_LA_next_32 : decode b_LA_next 32 = .ok (.aload_n 0, 1) := by decide +kernel
theorem d_LA_next_33 : decode b_LA_next 33 = .ok (.getfield 11, 3) := by decide +kernel
theorem d_LA_next_36 : decode b_LA_next 36 = .ok (.iload_n 1, 1) := by decide +kernel
theorem d_LA_next_37 : decode b_LA_next 37 = .ok (.aaload, 1) := by decide +kernel
theorem d_LA_next_38 : decode b_LA_next 38 = .ok (.iload_n 2, 1) := by decide +kernel
theorem d_LA_next_39 : decode b_LA_next 39 = .ok (.iload_n 3, 1) := by decide +kernel
theorem d_LA_next_40 : decode b_LA_next 40 = .ok (.invokevirtual 71, 3) := by decide +kernel
theorem d_LA_next_43 : decode b_LA_next 43 = .ok (.ireturn, 1) := by decide +kernel
theorem d_Au_hasState_0 : decode b_Au_hasState 0 = .ok (.iload_n 1, 1) := by decide +kernel
theorem d_Au_hasState_1 : decode b_Au_hasState 1 = .ok (.ifCond .lt 15, 3) := by decide +kernel
theorem d_Au_hasState_4 : decode b_Au_hasState 4 = .ok (.iload_n 1, 1) := by decide +kernel
theorem d_Au_hasState_5 : decode b_Au_hasState 5 = .ok (.aload_n 0, 1) := by decide +kernel
theorem d_Au_hasState_6 : decode b_Au_hasState 6 = .ok (.getfield 15, 3) := by decide +kernel
theorem d_Au_hasState_9 : decode b_Au_hasState 9 = .ok (.if_icmp .ge 7, 3) := by decide +kernel
theorem d_Au_hasState_12 : decode b_Au_hasState 12 = .ok (.iconst 1, 1) := by decide +kernel
theorem d_Au_hasState_13 : decode b_Au_hasState 13 = .ok (.goto 4, 3) := by decide +kernel
theorem d_Au_hasState_16 : decode b_Au_hasState 16 = .ok (.iconst 0, 1) := by decide +kernel
theorem d_Au_hasState_17 : decode b_Au_hasState 17 = .ok (.ireturn, 1) := by decide +kernel
theorem d_LA_accepts_0 : decode b_LA_accepts 0 = .ok (.aload_n 0, 1) := by decide +kernel
theorem d_LA_accepts_1 : decode b_LA_accepts 1 = .ok (.iload_n 1, 1) := by decide +kernel
theorem d_LA_accepts_2 : decode b_LA_accepts 2 = .ok (.invokevirtual 39, 3) := by decide +kernel
theorem d_LA_accepts_5 : decode b_LA_accepts 5 = .ok (.ifCond .eq 33, 3) := by decide +kernel
theorem d_LA_accepts_8 : decode b_LA_accepts 8 = .ok (.aload_n 0, 1) := by decide +kernel
theorem d_LA_accepts_9 : decode b_LA_accepts 9 = .ok (.getfield 11, 3) := by decide +kernel
theorem d_LA_accepts_12 : decode b_LA_accepts 12 = .ok (.iload_n 1, 1) := by decide +kernel
theorem d_LA_accepts_13 : decode b_LA_accepts 13 = .ok (.aaload, 1) := by decide +kernel
theorem d_LA_accepts_14 : decode b_LA_accepts 14 = .ok (.iload_n 2, 1) := by decide +kernel
theorem d_LA_accepts_15 : decode b_LA_accepts 15 = .ok (.invokevirtual 68, 3) := by decide +kernel
theorem d_LA_accepts_18 : decode b_LA_accepts 18 = .ok (.ifCond .eq 20, 3) := by decide +kernel
theorem d_LA_accepts_21 : decode b_LA_accepts 21 = .ok (.aload_n 0, 1) := by decide +kernel
theorem d_LA_accepts_22 : decode b_LA_accepts 22 = .ok (.getfield 11, 3) := by decide +kernel
theorem d_LA_accepts_25 : decode b_LA_accepts 25 = .ok (.iload_n 1, 1) := by decide +kernel
theorem d_LA_accepts_26 : decode b_LA_accepts 26 = .ok (.aaload, 1) := by decide +kernel
theorem d_LA_accepts_27 : decode b_LA_accepts 27 = .ok (.iload_n 2, 1) := by decide +kernel
theorem d_LA_accepts_28 : decode b_LA_accepts 28 = .ok (.invokevirtual 75, 3) := by decide +kernel
theorem d_LA_accepts_31 : decode b_LA_accepts 31 = .ok (.ifCond .eq 7, 3) := by decide +kernel
theorem d_LA_accepts_34 : decode b_LA_accepts 34 = .ok (.iconst 1, 1) := by decide +kernel
theorem d_LA_accepts_35 : decode b_LA_accepts 35 = .ok (.goto 4, 3) := by decide +kernel
theorem d_LA_accepts_38 : decode b_LA_accepts 38 = .ok (.iconst 0, 1) := by decide +kernel
theorem d_LA_accepts_39 : decode b_LA_accepts 39 = .ok (.ireturn, 1) := by decide +kernel
theorem d_LA_contains_0 : decode b_LA_contains 0 = .ok (.aload_n 0, 1) := by decide +kernel
theorem d_LA_contains_1 : decode b_LA_contains 1 = .ok (.iload_n 1, 1) := by decide +kernel
theorem d_LA_contains_2 : decode b_LA_contains 2 = .ok (.invokevirtual 39, 3) := by decide +kernel
theorem d_LA_contains_5 : decode b_LA_contains 5 = .ok (.ifCond .eq 15, 3) := by decide +kernel
theorem d_LA_contains_8 : decode b_LA_contains 8 = .ok (.iload 4, 2) := by decide +kernel
theorem d_LA_contains_10 : decode b_LA_contains 10 = .ok (.ifCond .lt 10, 3) := by decide +kernel
theorem d_LA_contains_13 : decode b_LA_contains 13 = .ok (.iload 4, 2) := by decide +kernel
theorem d_LA_contains_15 : decode b_LA_contains 15 = .ok (.bipush 64, 2) := by decide +kernel
theorem d_LA_contains_17 : decode b_LA_contains 17 = .ok (.if_icmp .le 5, 3) := by decide +kernel
theorem d_LA_contains_20 : decode b_LA_contains 20 = .ok (.iconst 0, 1) := by decide +kernel
theorem d_LA_contains_21 : decode b_LA_contains 21 = .ok (.ireturn, 1) := by decide +kernel
theorem d_LA_contains_22 : decode b_LA_contains 22 = .ok (.aload_n 0, 1) := by decide +kernel
theorem d_LA_contains_23 : decode b_LA_contains 23 = .ok (.getfield 11, 3) := by decide +kernel
theorem d_LA_contains_26 : decode b_LA_contains 26 = .ok (.iload_n 1, 1) := by decide +kernel
theorem d_LA_contains_27 : decode b_LA_contains 27 = .ok (.aaload, 1) := by decide +kernel
theorem d_LA_contains_28 : decode b_LA_contains 28 = .ok (.astore 5, 2) := by decide +kernel
theorem d_LA_contains_30 : decode b_LA_contains 30 = .ok (.iconst 0, 1) := by decide +kernel
theorem d_LA_contains_31 : decode b_LA_contains 31 = .ok (.istore 6, 2) := by decide +kernel
theorem d_LA_contains_33 : decode b_LA_contains 33 = .ok (.iconst 0, 1) := by decide +kernel
theorem d_LA_contains_34 : decode b_LA_contains 34 = .ok (.istore 7, 2) := by decide +kernel
theorem d_LA_contains_36 : decode b_LA_contains 36 = .ok (.iload 7, 2) := by decide +kernel
theorem d_LA_contains_38 : decode b_LA_contains 38 = .ok (.iload 4, 2) := by decide +kernel
theorem d_LA_contains_40 : decode b_LA_contains 40 = .ok (.if_icmp .ge 25, 3) := by decide +kernel
theorem d_LA_contains_43 : decode b_LA_contains 43 = .ok (.aload 5, 2) := by decide +kernel
theorem d_LA_contains_45 : decode b_LA_contains 45 = .ok (.iload 6, 2) := by decide +kernel
theorem d_LA_contains_47 : decode b_LA_contains 47 = .ok (.lload_n 2, 1) := by decide +kernel
theorem d_LA_contains_48 : decode b_LA_contains 48 = .ok (.iload 7, 2) := by decide +kernel
theorem d_LA_contains_50 : decode b_LA_contains 50 = .ok (.lushr, 1) := by decide +kernel
theorem d_LA_contains_51 : decode b_LA_contains 51 = .ok (.l2i, 1) := by decide +kernel
theorem d_LA_contains_52 : decode b_LA_contains 52 = .ok (.iconst 1, 1) := by decide +kernel
theorem d_LA_contains_53 : decode b_LA_contains 53 = .ok (.iand, 1) := by decide +kernel
theorem d_LA_contains_54 : decode b_LA_contains 54 = .ok (.invokevirtual 71, 3) := by decide +kernel
theorem d_LA_contains_57 : decode b_LA_contains 57 = .ok (.istore 6, 2) := by decide +kernel
theorem d_LA_contains_59 : decode b_LA_contains 59 = .ok (.iinc 7 1, 3) := by decide +kernel
theorem d_LA_contains_62 : decode b_LA_contains 62 = .ok (.goto (-26), 3) := by decide +kernel
theorem d_LA_contains_65 : decode b_LA_contains 65 = .ok (.aload 5, 2) := by decide +kernel
theorem d_LA_contains_67 : decode b_LA_contains 67 = .ok (.iload 6, 2) := by decide +kernel
theorem d_LA_contains_69 : decode b_LA_contains 69 = .ok (.invokevirtual 75, 3) := by decide +kernel
theorem d_LA_contains_72 : decode b_LA_contains 72 = .ok (.ireturn, 1) := by decide +kernel
theorem d_LA_same_0 : decode b_LA_same 0 = .ok (.aload_n 0, 1) := by decide +kernel
theorem d_LA_same_1 : decode b_LA_same 1 = .ok (.iload_n 1, 1) := by decide +kernel
theorem d_LA_same_2 : decode b_LA_same 2 = .ok (.invokevirtual 39, 3) := by decide +kernel
theorem d_LA_same_5 : decode b_LA_same 5 = .ok (.ifCond .eq 33, 3) := by decide +kernel
theorem d_LA_same_8 : decode b_LA_same 8 = .ok (.aload_n 0, 1) := by decide +kernel
theorem d_LA_same_9 : decode b_LA_same 9 = .ok (.iload_n 2, 1) := by decide +kernel
theorem d_LA_same_10 : decode b_LA_same 10 = .ok (.invokevirtual 39, 3) := by decide +kernel
theorem d_LA_same_13 : decode b_LA_same 13 = .ok (.ifCond .eq 25, 3) := by decide +kernel
theorem d_LA_same_16 : decode b_LA_same 16 = .ok (.aload_n 0, 1) := by decide +kernel
theorem d_LA_same_17 : decode b_LA_same 17 = .ok (.getfield 11, 3) := by decide +kernel
theorem d_LA_same_20 : decode b_LA_same 20 = .ok (.iload_n 1, 1) := by decide +kernel
theorem d_LA_same_21 : decode b_LA_same 21 = .ok (.aaload, 1) := by decide +kernel
theorem d_LA_same_22 : decode b_LA_same 22 = .ok (.aload_n 0, 1) := by decide +kernel
theorem d_LA_same_23 : decode b_LA_same 23 = .ok (.getfield 11, 3) := by decide +kernel
theorem d_LA_same_26 : decode b_LA_same 26 = .ok (.iload_n 2, 1) := by decide +kernel
theorem d_LA_same_27 : decode b_LA_same 27 = .ok (.aaload, 1) := by decide +kernel
theorem d_LA_same_28 : decode b_LA_same 28 = .ok (.invokevirtual 78, 3) := by decide +kernel
theorem d_LA_same_31 : decode b_LA_same 31 = .ok (.ifCond .eq 7, 3) := by decide +kernel
theorem d_LA_same_34 : decode b_LA_same 34 = .ok (.iconst 1, 1) := by decide +kernel
theorem d_LA_same_35 : decode b_LA_same 35 = .ok (.goto 4, 3) := by decide +kernel
theorem d_LA_same_38 : decode b_LA_same 38 = .ok (.iconst 0, 1) := by decide +kernel
theorem d_LA_same_39 : decode b_LA_same 39 = .ok (.ireturn, 1) := by decide +kernel
theorem d_Au_isLike_0 : decode b_Au_isLike 0 = .ok (.aload_n 0, 1) := by decide +kernel
theorem d_Au_isLike_1 : decode b_Au_isLike 1 = .ok (.getfield 15, 3) := by decide +kernel
theorem d_Au_isLike_4 : decode b_Au_isLike 4 = .ok (.aload_n 1, 1) := by decide +kernel
theorem d_Au_isLike_5 : decode b_Au_isLike 5 = .ok (.getfield 15, 3) := by decide +kernel
theorem d_Au_isLike_8 : decode b_Au_isLike 8 = .ok (.if_icmp .ne 14, 3) := by decide +kernel
theorem d_Au_isLike_11 : decode b_Au_isLike 11 = .ok (.aload_n 0, 1) := by decide +kernel
theorem d_Au_isLike_12 : decode b_Au_isLike 12 = .ok (.getfield 19, 3) := by decide +kernel
theorem d_Au_isLike_15 : decode b_Au_isLike 15 = .ok (.aload_n 1, 1) := by decide +kernel
theorem d_Au_isLike_16 : decode b_Au_isLike 16 = .ok (.getfield 19, 3) := by decide +kernel
theorem d_Au_isLike_19 : decode b_Au_isLike 19 = .ok (.if_icmp .eq 5, 3) := by decide +kernel
theorem d_Au_isLike_22 : decode b_Au_isLike 22 = .ok (.iconst 0, 1) := by decide +kernel
theorem d_Au_isLike_23 : decode b_Au_isLike 23 = .ok (.ireturn, 1) := by decide +kernel
theorem d_Au_isLike_24 : decode b_Au_isLike 24 = .ok (.iconst 0, 1) := by decide +kernel
theorem d_Au_isLike_25 : decode b_Au_isLike 25 = .ok (.istore_n 2, 1) := by decide +kernel
theorem d_Au_isLike_26 : decode b_Au_isLike 26 = .ok (.iload_n 2, 1) := by decide +kernel
theorem d_Au_isLike_27 : decode b_Au_isLike 27 = .ok (.iconst 2, 1) := by decide +kernel
theorem d_Au_isLike_28 : decode b_Au_isLike 28 = .ok (.aload_n 0, 1) := by decide +kernel
theorem d_Au_isLike_29 : decode b_Au_isLike 29 = .ok (.getfield 15, 3) := by decide +kernel
theorem d_Au_isLike_32 : decode b_Au_isLike 32 = .ok (.imul, 1) := by decide +kernel
theorem d_Au_isLike_33 : decode b_Au_isLike 33 = .ok (.if_icmp .ge 26, 3) := by decide +kernel
theorem d_Au_isLike_36 : decode b_Au_isLike 36 = .ok (.aload_n 0, 1) := by decide +kernel
theorem d_Au_isLike_37 : decode b_Au_isLike 37 = .ok (.getfield 9, 3) := by decide +kernel
theorem d_Au_isLike_40 : decode b_Au_isLike 40 = .ok (.iload_n 2, 1) := by decide +kernel
theorem d_Au_isLike_41 : decode b_Au_isLike 41 = .ok (.iaload, 1) := by decide +kernel
theorem d_Au_isLike_42 : decode b_Au_isLike 42 = .ok (.aload_n 1, 1) := by decide +kernel
theorem d_Au_isLike_43 : decode b_Au_isLike 43 = .ok (.getfield 9, 3) := by decide +kernel
theorem d_Au_isLike_46 : decode b_Au_isLike 46 = .ok (.iload_n 2, 1) := by decide +kernel
theorem d_Au_isLike_47 : decode b_Au_isLike 47 = .ok (.iaload, 1) := by decide +kernel
theorem d_Au_isLike_48 : decode b_Au_isLike 48 = .ok (.if_icmp .eq 5, 3) := by decide +kernel
theorem d_Au_isLike_51 : decode b_Au_isLike 51 = .ok (.iconst 0, 1) := by decide +kernel
theorem d_Au_isLike_52 : decode b_Au_isLike 52 = .ok (.ireturn, 1) := by decide +kernel
theorem d_Au_isLike_53 : decode b_Au_isLike 53 = .ok (.iinc 2 1, 3) := by decide +kernel
theorem d_Au_isLike_56 : decode b_Au_isLike 56 = .ok (.goto (-30), 3) := by decide +kernel
theorem d_Au_isLike_59 : decode b_Au_isLike 59 = .ok (.iconst 1, 1) := by decide +kernel
theorem d_Au_isLike_60 : decode b_Au_isLike 60 = .ok (.ireturn, 1) := by decide +kernel
theorem d_LA_study_0 : decode b_LA_study 0 = .ok (.aload_n 0, 1) := by decide +kernel
theorem d_LA_study_1 : decode b_LA_study 1 = .ok (.iload_n 1, 1) := by decide +kernel
theorem d_LA_study_2 : decode b_LA_study 2 = .ok (.invokevirtual 39, 3) := by decide +kernel
theorem d_LA_study_5 : decode b_LA_study 5 = .ok (.ifCond .ne 5, 3) := by decide +kernel
theorem d_LA_study_8 : decode b_LA_study 8 = .ok (.iconst (-1), 1) := by decide +kernel
theorem d_LA_study_9 : decode b_LA_study 9 = .ok (.ireturn, 1) := by decide +kernel
theorem d_LA_study_10 : decode b_LA_study 10 = .ok (.aload_n 0, 1) := by decide +kernel
theorem d_LA_study_11 : decode b_LA_study 11 = .ok (.getfield 25, 3) := by decide +kernel
theorem d_LA_study_14 : decode b_LA_study 14 = .ok (.aload_n 0, 1) := by decide +kernel
theorem d_LA_study_15 : decode b_LA_study 15 = .ok (.getfield 11, 3) := by decide +kernel
theorem d_LA_study_18 : decode b_LA_study 18 = .ok (.iload_n 1, 1) := by decide +kernel
theorem d_LA_study_19 : decode b_LA_study 19 = .ok (.aaload, 1) := by decide +kernel
theorem d_LA_study_20 : decode b_LA_study 20 = .ok (.invokevirtual 82, 3) := by decide +kernel
theorem d_LA_study_23 : decode b_LA_study 23 = .ok (.ifCond .eq 13, 3) := by decide +kernel
theorem d_LA_study_26 : decode b_LA_study 26 = .ok (.aload_n 0, 1) := by decide +kernel
theorem d_LA_study_27 : decode b_LA_study 27 = .ok (.getfield 25, 3) := by decide +kernel
theorem d_LA_study_30 : decode b_LA_study 30 = .ok (.getfield 85, 3) := by decide +kernel
theorem d_LA_study_33 : decode b_LA_study 33 = .ok (.goto 5, 3) := by decide +kernel
theorem d_LA_study_36 : decode b_LA_study 36 = .ok (.bipush (-3), 2) := by decide +kernel
theorem d_LA_study_38 : decode b_LA_study 38 = .ok (.ireturn, 1) := by decide +kernel
theorem d_Al_workOut_0 : decode b_Al_workOut 0 = .ok (.aload_n 0, 1) := by decide +kernel
theorem d_Al_workOut_1 : decode b_Al_workOut 1 = .ok (.aload_n 1, 1) := by decide +kernel
theorem d_Al_workOut_2 : decode b_Al_workOut 2 = .ok (.invokevirtual 44, 3) := by decide +kernel
theorem d_Al_workOut_5 : decode b_Al_workOut 5 = .ok (.istore_n 2, 1) := by decide +kernel
theorem d_Al_workOut_6 : decode b_Al_workOut 6 = .ok (.iload_n 2, 1) := by decide +kernel
theorem d_Al_workOut_7 : decode b_Al_workOut 7 = .ok (.bipush 60, 2) := by decide +kernel
theorem d_Al_workOut_9 : decode b_Al_workOut 9 = .ok (.if_icmp .le 5, 3) := by decide +kernel
theorem d_Al_workOut_12 : decode b_Al_workOut 12 = .ok (.iconst 0, 1) := by decide +kernel
theorem d_Al_workOut_13 : decode b_Al_workOut 13 = .ok (.ireturn, 1) := by decide +kernel
theorem d_Al_workOut_14 : decode b_Al_workOut 14 = .ok (.aload_n 0, 1) := by decide +kernel
theorem d_Al_workOut_15 : decode b_Al_workOut 15 = .ok (.iload_n 2, 1) := by decide +kernel
theorem d_Al_workOut_16 : decode b_Al_workOut 16 = .ok (.putfield 40, 3) := by decide +kernel
theorem d_Al_workOut_19 : decode b_Al_workOut 19 = .ok (.aload_n 0, 1) := by decide +kernel
theorem d_Al_workOut_20 : decode b_Al_workOut 20 = .ok (.invokevirtual 48, 3) := by decide +kernel
theorem d_Al_workOut_23 : decode b_Al_workOut 23 = .ok (.aload_n 0, 1) := by decide +kernel
theorem d_Al_workOut_24 : decode b_Al_workOut 24 = .ok (.invokevirtual 51, 3) := by decide +kernel
theorem d_Al_workOut_27 : decode b_Al_workOut 27 = .ok (.aload_n 0, 1) := by decide +kernel
theorem d_Al_workOut_28 : decode b_Al_workOut 28 = .ok (.invokevirtual 54, 3) := by decide +kernel
theorem d_Al_workOut_31 : decode b_Al_workOut 31 = .ok (.iconst 1, 1) := by decide +kernel
theorem d_Al_workOut_32 : decode b_Al_workOut 32 = .ok (.ireturn, 1) := by decide +kernel
theorem d_Al_search_0 : decode b_Al_search 0 = .ok (.aload_n 0, 1) := by decide +kernel
theorem d_Al_search_1 : decode b_Al_search 1 = .ok (.getfield 9, 3) := by decide +kernel
theorem d_Al_search_4 : decode b_Al_search 4 = .ok (.iconst 0, 1) := by decide +kernel
theorem d_Al_search_5 : decode b_Al_search 5 = .ok (.aload_n 1, 1) := by decide +kernel
theorem d_Al_search_6 : decode b_Al_search 6 = .ok (.invokevirtual 57, 3) := by decide +kernel
theorem d_Al_search_9 : decode b_Al_search 9 = .ok (.iastore, 1) := by decide +kernel
theorem d_Al_search_10 : decode b_Al_search 10 = .ok (.iconst 1, 1) := by decide +kernel
theorem d_Al_search_11 : decode b_Al_search 11 = .ok (.istore_n 2, 1) := by decide +kernel
theorem d_Al_search_12 : decode b_Al_search 12 = .ok (.iconst 0, 1) := by decide +kernel
theorem d_Al_search_13 : decode b_Al_search 13 = .ok (.istore_n 3, 1) := by decide +kernel
theorem d_Al_search_14 : decode b_Al_search 14 = .ok (.iload_n 3, 1) := by decide +kernel
theorem d_Al_search_15 : decode b_Al_search 15 = .ok (.iload_n 2, 1) := by decide +kernel
theorem d_Al_search_16 : decode b_Al_search 16 = .ok (.if_icmp .ge 108, 3) := by decide +kernel
theorem d_Al_search_19 : decode b_Al_search 19 = .ok (.iload_n 3, 1) := by decide +kernel
theorem d_Al_search_20 : decode b_Al_search 20 = .ok (.bipush 60, 2) := by decide +kernel
theorem d_Al_search_22 : decode b_Al_search 22 = .ok (.if_icmp .ge 102, 3) := by decide +kernel
theorem d_Al_search_25 : decode b_Al_search 25 = .ok (.iconst 0, 1) := by decide +kernel
theorem d_Al_search_26 : decode b_Al_search 26 = .ok (.istore 4, 2) := by decide +kernel
theorem d_Al_search_28 : decode b_Al_search 28 = .ok (.iload 4, 2) := by decide +kernel
theorem d_Al_search_30 : decode b_Al_search 30 = .ok (.iconst 2, 1) := by decide +kernel
theorem d_Al_search_31 : decode b_Al_search 31 = .ok (.if_icmp .ge 87, 3) := by decide +kernel
theorem d_Al_search_34 : decode b_Al_search 34 = .ok (.aload_n 1, 1) := by decide +kernel
theorem d_Al_search_35 : decode b_Al_search 35 = .ok (.aload_n 0, 1) := by decide +kernel
theorem d_Al_search_36 : decode b_Al_search 36 = .ok (.getfield 9, 3) := by decide +kernel
theorem d_Al_search_39 : decode b_Al_search 39 = .ok (.iload_n 3, 1) := by decide +kernel
theorem d_Al_search_40 : decode b_Al_search 40 = .ok (.iaload, 1) := by decide +kernel
theorem d_Al_search_41 : decode b_Al_search 41 = .ok (.iload 4, 2) := by decide +kernel
theorem d_Al_search_43 : decode b_Al_search 43 = .ok (.invokevirtual 63, 3) := by decide +kernel
theorem d_Al_search_46 : decode b_Al_search 46 = .ok (.istore 5, 2) := by decide +kernel
theorem d_Al_search_48 : decode b_Al_search 48 = .ok (.aload_n 0, 1) := by decide +kernel
theorem d_Al_search_49 : decode b_Al_search 49 = .ok (.iload 5, 2) := by decide +kernel
theorem d_Al_search_51 : decode b_Al_search 51 = .ok (.iload_n 2, 1) := by decide +kernel
theorem d_Al_search_52 : decode b_Al_search 52 = .ok (.invokevirtual 67, 3) := by decide +kernel
theorem d_Al_search_55 : decode b_Al_search 55 = .ok (.istore 6, 2) := by decide +kernel
theorem d_Al_search_57 : decode b_Al_search 57 = .ok (.iload 6, 2) := by decide +kernel
theorem d_Al_search_59 : decode b_Al_search 59 = .ok (.bipush 60, 2) := by decide +kernel
theorem d_Al_search_61 : decode b_Al_search 61 = .ok (.if_icmp .ne 6, 3) := by decide +kernel
theorem d_Al_search_64 : decode b_Al_search 64 = .ok (.bipush 61, 2) := by decide +kernel
theorem d_Al_search_66 : decode b_Al_search 66 = .ok (.ireturn, 1) := by decide +kernel
theorem d_Al_search_67 : decode b_Al_search 67 = .ok (.iload 6, 2) := by decide +kernel
theorem d_Al_search_69 : decode b_Al_search 69 = .ok (.iload_n 2, 1) := by decide +kernel
theorem d_Al_search_70 : decode b_Al_search 70 = .ok (.if_icmp .ne 29, 3) := by decide +kernel
theorem d_Al_search_73 : decode b_Al_search 73 = .ok (.aload_n 0, 1) := by decide +kernel
theorem d_Al_search_74 : decode b_Al_search 74 = .ok (.getfield 9, 3) := by decide +kernel
theorem d_Al_search_77 : decode b_Al_search 77 = .ok (.iload_n 2, 1) := by decide +kernel
theorem d_Al_search_78 : decode b_Al_search 78 = .ok (.iload 5, 2) := by decide +kernel
theorem d_Al_search_80 : decode b_Al_search 80 = .ok (.iastore, 1) := by decide +kernel
theorem d_Al_search_81 : decode b_Al_search 81 = .ok (.aload_n 0, 1) := by decide +kernel
theorem d_Al_search_82 : decode b_Al_search 82 = .ok (.getfield 18, 3) := by decide +kernel
theorem d_Al_search_85 : decode b_Al_search 85 = .ok (.iload_n 2, 1) := by decide +kernel
theorem d_Al_search_86 : decode b_Al_search 86 = .ok (.iload_n 3, 1) := by decide +kernel
theorem d_Al_search_87 : decode b_Al_search 87 = .ok (.iastore, 1) := by decide +kernel
theorem d_Al_search_88 : decode b_Al_search 88 = .ok (.aload_n 0, 1) := by decide +kernel
theorem d_Al_search_89 : decode b_Al_search 89 = .ok (.getfield 21, 3) := by decide +kernel
theorem d_Al_search_92 : decode b_Al_search 92 = .ok (.iload_n 2, 1) := by decide +kernel
theorem d_Al_search_93 : decode b_Al_search 93 = .ok (.iload 4, 2) := by decide +kernel
theorem d_Al_search_95 : decode b_Al_search 95 = .ok (.iastore, 1) := by decide +kernel
theorem d_Al_search_96 : decode b_Al_search 96 = .ok (.iinc 2 1, 3) := by decide +kernel
theorem d_Al_search_99 : decode b_Al_search 99 = .ok (.aload_n 0, 1) := by decide +kernel
theorem d_Al_search_100 : decode b_Al_search 100 = .ok (.getfield 15, 3) := by decide +kernel
theorem d_Al_search_103 : decode b_Al_search 103 = .ok (.iconst 2, 1) := by decide +kernel
theorem d_Al_search_104 : decode b_Al_search 104 = .ok (.iload_n 3, 1) := by decide +kernel
theorem d_Al_search_105 : decode b_Al_search 105 = .ok (.imul, 1) := by decide +kernel
theorem d_Al_search_106 : decode b_Al_search 106 = .ok (.iload 4, 2) := by decide +kernel
theorem d_Al_search_108 : decode b_Al_search 108 = .ok (.iadd, 1) := by decide +kernel
theorem d_Al_search_109 : decode b_Al_search 109 = .ok (.iload 6, 2) := by decide +kernel
theorem d_Al_search_111 : decode b_Al_search 111 = .ok (.iastore, 1) := by decide +kernel
theorem d_Al_search_112 : decode b_Al_search 112 = .ok (.iinc 4 1, 3) := by decide +kernel
theorem d_Al_search_115 : decode b_Al_search 115 = .ok (.goto (-87), 3) := by decide +kernel
theorem d_Al_search_118 : decode b_Al_search 118 = .ok (.iinc 3 1, 3) := by decide +kernel
theorem d_Al_search_121 : decode b_Al_search 121 = .ok (.goto (-107), 3) := by decide +kernel
theorem d_Al_search_124 : decode b_Al_search 124 = .ok (.iload_n 2, 1) := by decide +kernel
theorem d_Al_search_125 : decode b_Al_search 125 = .ok (.ireturn, 1) := by decide +kernel
theorem d_Au_emptyWordMap_0 : decode b_Au_emptyWordMap 0 = .ok (.iconst 0, 1) := by decide +kernel
theorem d_Au_emptyWordMap_1 : decode b_Au_emptyWordMap 1 = .ok (.istore_n 1, 1) := by decide +kernel
theorem d_Au_emptyWordMap_2 : decode b_Au_emptyWordMap 2 = .ok (.iconst 0, 1) := by decide +kernel
theorem d_Au_emptyWordMap_3 : decode b_Au_emptyWordMap 3 = .ok (.istore_n 2, 1) := by decide +kernel
theorem d_Au_emptyWordMap_4 : decode b_Au_emptyWordMap 4 = .ok (.iload_n 2, 1) := by decide +kernel
theorem d_Au_emptyWordMap_5 : decode b_Au_emptyWordMap 5 = .ok (.aload_n 0, 1) := by decide +kernel
theorem d_Au_emptyWordMap_6 : decode b_Au_emptyWordMap 6 = .ok (.getfield 15, 3) := by decide +kernel
theorem d_Au_emptyWordMap_9 : decode b_Au_emptyWordMap 9 = .ok (.if_icmp .ge 17, 3) := by decide +kernel
theorem d_Au_emptyWordMap_12 : decode b_Au_emptyWordMap 12 = .ok (.iload_n 1, 1) := by decide +kernel
theorem d_Au_emptyWordMap_13 : decode b_Au_emptyWordMap 13 = .ok (.iload_n 2, 1) := by decide +kernel
theorem d_Au_emptyWordMap_14 : decode b_Au_emptyWordMap 14 = .ok (.iconst 3, 1) := by decide +kernel
theorem d_Au_emptyWordMap_15 : decode b_Au_emptyWordMap 15 = .ok (.iload_n 2, 1) := by decide +kernel
theorem d_Au_emptyWordMap_16 : decode b_Au_emptyWordMap 16 = .ok (.imul, 1) := by decide +kernel
theorem d_Au_emptyWordMap_17 : decode b_Au_emptyWordMap 17 = .ok (.ishl, 1) := by decide +kernel
theorem d_Au_emptyWordMap_18 : decode b_Au_emptyWordMap 18 = .ok (.ior, 1) := by decide +kernel
theorem d_Au_emptyWordMap_19 : decode b_Au_emptyWordMap 19 = .ok (.istore_n 1, 1) := by decide +kernel
theorem d_Au_emptyWordMap_20 : decode b_Au_emptyWordMap 20 = .ok (.iinc 2 1, 3) := by decide +kernel
theorem d_Au_emptyWordMap_23 : decode b_Au_emptyWordMap 23 = .ok (.goto (-19), 3) := by decide +kernel
theorem d_Au_emptyWordMap_26 : decode b_Au_emptyWordMap 26 = .ok (.iload_n 1, 1) := by decide +kernel
theorem d_Au_emptyWordMap_27 : decode b_Au_emptyWordMap 27 = .ok (.ireturn, 1) := by decide +kernel
theorem d_Au_stepMap_0 : decode b_Au_stepMap 0 = .ok (.iconst 0, 1) := by decide +kernel
theorem d_Au_stepMap_1 : decode b_Au_stepMap 1 = .ok (.istore_n 3, 1) := by decide +kernel
theorem d_Au_stepMap_2 : decode b_Au_stepMap 2 = .ok (.iconst 0, 1) := by decide +kernel
theorem d_Au_stepMap_3 : decode b_Au_stepMap 3 = .ok (.istore 4, 2) := by decide +kernel
theorem d_Au_stepMap_5 : decode b_Au_stepMap 5 = .ok (.iload 4, 2) := by decide +kernel
theorem d_Au_stepMap_7 : decode b_Au_stepMap 7 = .ok (.aload_n 0, 1) := by decide +kernel
theorem d_Au_stepMap_8 : decode b_Au_stepMap 8 = .ok (.getfield 15, 3) := by decide +kernel
theorem d_Au_stepMap_11 : decode b_Au_stepMap 11 = .ok (.if_icmp .ge 31, 3) := by decide +kernel
theorem d_Au_stepMap_14 : decode b_Au_stepMap 14 = .ok (.iload_n 3, 1) := by decide +kernel
theorem d_Au_stepMap_15 : decode b_Au_stepMap 15 = .ok (.aload_n 0, 1) := by decide +kernel
theorem d_Au_stepMap_16 : decode b_Au_stepMap 16 = .ok (.iload_n 1, 1) := by decide +kernel
theorem d_Au_stepMap_17 : decode b_Au_stepMap 17 = .ok (.iconst 3, 1) := by decide +kernel
theorem d_Au_stepMap_18 : decode b_Au_stepMap 18 = .ok (.iload 4, 2) := by decide +kernel
theorem d_Au_stepMap_20 : decode b_Au_stepMap 20 = .ok (.imul, 1) := by decide +kernel
theorem d_Au_stepMap_21 : decode b_Au_stepMap 21 = .ok (.ishr, 1) := by decide +kernel
theorem d_Au_stepMap_22 : decode b_Au_stepMap 22 = .ok (.bipush 7, 2) := by decide +kernel
theorem d_Au_stepMap_24 : decode b_Au_stepMap 24 = .ok (.iand, 1) := by decide +kernel
theorem d_Au_stepMap_25 : decode b_Au_stepMap 25 = .ok (.iload_n 2, 1) := by decide +kernel
theorem d_Au_stepMap_26 : decode b_Au_stepMap 26 = .ok (.invokevirtual 22, 3) := by decide +kernel
theorem d_Au_stepMap_29 : decode b_Au_stepMap 29 = .ok (.iconst 3, 1) := by decide +kernel
theorem d_Au_stepMap_30 : decode b_Au_stepMap 30 = .ok (.iload 4, 2) := by decide +kernel
theorem d_Au_stepMap_32 : decode b_Au_stepMap 32 = .ok (.imul, 1) := by decide +kernel
theorem d_Au_stepMap_33 : decode b_Au_stepMap 33 = .ok (.ishl, 1) := by decide +kernel
theorem d_Au_stepMap_34 : decode b_Au_stepMap 34 = .ok (.ior, 1) := by decide +kernel
theorem d_Au_stepMap_35 : decode b_Au_stepMap 35 = .ok (.istore_n 3, 1) := by decide +kernel
theorem d_Au_stepMap_36 : decode b_Au_stepMap 36 = .ok (.iinc 4 1, 3) := by decide +kernel
theorem d_Au_stepMap_39 : decode b_Au_stepMap 39 = .ok (.goto (-34), 3) := by decide +kernel
theorem d_Au_stepMap_42 : decode b_Au_stepMap 42 = .ok (.iload_n 3, 1) := by decide +kernel
theorem d_Au_stepMap_43 : decode b_Au_stepMap 43 = .ok (.ireturn, 1) := by decide +kernel
end
section
theorem d_Al_placeOf_0 : decode b_Al_placeOf 0 = .ok (.iconst 0, 1) := by decide +kernel
theorem d_Al_placeOf_1 : decode b_Al_placeOf 1 = .ok (.istore_n 3, 1) := by decide +kernel
theorem d_Al_placeOf_2 : decode b_Al_placeOf 2 = .ok (.iload_n 3, 1) := by decide +kernel
theorem d_Al_placeOf_3 : decode b_Al_placeOf 3 = .ok (.iload_n 2, 1) := by decide +kernel
theorem d_Al_placeOf_4 : decode b_Al_placeOf 4 = .ok (.if_icmp .ge 21, 3) := by decide +kernel
theorem d_Al_placeOf_7 : decode b_Al_placeOf 7 = .ok (.aload_n 0, 1) := by decide +kernel
theorem d_Al_placeOf_8 : decode b_Al_placeOf 8 = .ok (.getfield 9, 3) := by decide +kernel
theorem d_Al_placeOf_11 : decode b_Al_placeOf 11 = .ok (.iload_n 3, 1) := by decide +kernel
theorem d_Al_placeOf_12 : decode b_Al_placeOf 12 = .ok (.iaload, 1) := by decide +kernel
theorem d_Al_placeOf_13 : decode b_Al_placeOf 13 = .ok (.iload_n 1, 1) := by decide +kernel
theorem d_Al_placeOf_14 : decode b_Al_placeOf 14 = .ok (.if_icmp .ne 5, 3) := by decide +kernel
theorem d_Al_placeOf_17 : decode b_Al_placeOf 17 = .ok (.iload_n 3, 1) := by decide +kernel
theorem d_Al_placeOf_18 : decode b_Al_placeOf 18 = .ok (.ireturn, 1) := by decide +kernel
theorem d_Al_placeOf_19 : decode b_Al_placeOf 19 = .ok (.iinc 3 1, 3) := by decide +kernel
theorem d_Al_placeOf_22 : decode b_Al_placeOf 22 = .ok (.goto (-20), 3) := by decide +kernel
theorem d_Al_placeOf_25 : decode b_Al_placeOf 25 = .ok (.iload_n 2, 1) := by decide +kernel
theorem d_Al_placeOf_26 : decode b_Al_placeOf 26 = .ok (.ireturn, 1) := by decide +kernel
theorem d_Al_keepWords_0 : decode b_Al_keepWords 0 = .ok (.aload_n 0, 1) := by decide +kernel
theorem d_Al_keepWords_1 : decode b_Al_keepWords 1 = .ok (.getfield 24, 3) := by decide +kernel
theorem d_Al_keepWords_4 : decode b_Al_keepWords 4 = .ok (.iconst 0, 1) := by decide +kernel
theorem d_Al_keepWords_5 : decode b_Al_keepWords 5 = .ok (.lconst 1, 1) := by decide +kernel
theorem d_Al_keepWords_6 : decode b_Al_keepWords 6 = .ok (.lastore, 1) := by decide +kernel
theorem d_Al_keepWords_7 : decode b_Al_keepWords 7 = .ok (.iconst 1, 1) := by decide +kernel
theorem d_Al_keepWords_8 : decode b_Al_keepWords 8 = .ok (.istore_n 1, 1) := by decide +kernel
theorem d_Al_keepWords_9 : decode b_Al_keepWords 9 = .ok (.iload_n 1, 1) := by decide +kernel
theorem d_Al_keepWords_10 : decode b_Al_keepWords 10 = .ok (.aload_n 0, 1) := by decide +kernel
theorem d_Al_keepWords_11 : decode b_Al_keepWords 11 = .ok (.getfield 40, 3) := by decide +kernel
theorem d_Al_keepWords_14 : decode b_Al_keepWords 14 = .ok (.if_icmp .ge 38, 3) := by decide +kernel
theorem d_Al_keepWords_17 : decode b_Al_keepWords 17 = .ok (.aload_n 0, 1) := by decide +kernel
theorem d_Al_keepWords_18 : decode b_Al_keepWords 18 = .ok (.getfield 24, 3) := by decide +kernel
theorem d_Al_keepWords_21 : decode b_Al_keepWords 21 = .ok (.iload_n 1, 1) := by decide +kernel
theorem d_Al_keepWords_22 : decode b_Al_keepWords 22 = .ok (.ldc2_w 70, 3) := by decide +kernel
theorem d_Al_keepWords_25 : decode b_Al_keepWords 25 = .ok (.aload_n 0, 1) := by decide +kernel
theorem d_Al_keepWords_26 : decode b_Al_keepWords 26 = .ok (.getfield 24, 3) := by decide +kernel
theorem d_Al_keepWords_29 : decode b_Al_keepWords 29 = .ok (.aload_n 0, 1) := by decide +kernel
theorem d_Al_keepWords_30 : decode b_Al_keepWords 30 = .ok (.getfield 18, 3) := by decide +kernel
theorem d_Al_keepWords_33 : decode b_Al_keepWords 33 = .ok (.iload_n 1, 1) := by decide +kernel
theorem d_Al_keepWords_34 : decode b_Al_keepWords 34 = .ok (.iaload, 1) := by decide +kernel
theorem d_Al_keepWords_35 : decode b_Al_keepWords 35 = .ok (.laload, 1) := by decide +kernel
theorem d_Al_keepWords_36 : decode b_Al_keepWords 36 = .ok (.lmul, 1) := by decide +kernel
theorem d_Al_keepWords_37 : decode b_Al_keepWords 37 = .ok (.aload_n 0, 1) := by decide +kernel
theorem d_Al_keepWords_38 : decode b_Al_keepWords 38 = .ok (.getfield 21, 3) := by decide +kernel
theorem d_Al_keepWords_41 : decode b_Al_keepWords 41 = .ok (.iload_n 1, 1) := by decide +kernel
theorem d_Al_keepWords_42 : decode b_Al_keepWords 42 = .ok (.iaload, 1) := by decide +kernel
theorem d_Al_keepWords_43 : decode b_Al_keepWords 43 = .ok (.i2l, 1) := by decide +kernel
theorem d_Al_keepWords_44 : decode b_Al_keepWords 44 = .ok (.ladd, 1) := by decide +kernel
theorem d_Al_keepWords_45 : decode b_Al_keepWords 45 = .ok (.lastore, 1) := by decide +kernel
theorem d_Al_keepWords_46 : decode b_Al_keepWords 46 = .ok (.iinc 1 1, 3) := by decide +kernel
theorem d_Al_keepWords_49 : decode b_Al_keepWords 49 = .ok (.goto (-40), 3) := by decide +kernel
theorem d_Al_keepWords_52 : decode b_Al_keepWords 52 = .ok (.return_, 1) := by decide +kernel
theorem d_Al_keepProducts_0 : decode b_Al_keepProducts 0 = .ok (.iconst 0, 1) := by decide +kernel
theorem d_Al_keepProducts_1 : decode b_Al_keepProducts 1 = .ok (.istore_n 1, 1) := by decide +kernel
theorem d_Al_keepProducts_2 : decode b_Al_keepProducts 2 = .ok (.iload_n 1, 1) := by decide +kernel
theorem d_Al_keepProducts_3 : decode b_Al_keepProducts 3 = .ok (.aload_n 0, 1) := by decide +kernel
theorem d_Al_keepProducts_4 : decode b_Al_keepProducts 4 = .ok (.getfield 40, 3) := by decide +kernel
theorem d_Al_keepProducts_7 : decode b_Al_keepProducts 7 = .ok (.if_icmp .ge 72, 3) := by decide +kernel
theorem d_Al_keepProducts_10 : decode b_Al_keepProducts 10 = .ok (.bipush 60, 2) := by decide +kernel
theorem d_Al_keepProducts_12 : decode b_Al_keepProducts 12 = .ok (.iload_n 1, 1) := by decide +kernel
theorem d_Al_keepProducts_13 : decode b_Al_keepProducts 13 = .ok (.imul, 1) := by decide +kernel
theorem d_Al_keepProducts_14 : decode b_Al_keepProducts 14 = .ok (.istore_n 2, 1) := by decide +kernel
theorem d_Al_keepProducts_15 : decode b_Al_keepProducts 15 = .ok (.aload_n 0, 1) := by decide +kernel
theorem d_Al_keepProducts_16 : decode b_Al_keepProducts 16 = .ok (.getfield 28, 3) := by decide +kernel
theorem d_Al_keepProducts_19 : decode b_Al_keepProducts 19 = .ok (.iload_n 2, 1) := by decide +kernel
theorem d_Al_keepProducts_20 : decode b_Al_keepProducts 20 = .ok (.iload_n 1, 1) := by decide +kernel
theorem d_Al_keepProducts_21 : decode b_Al_keepProducts 21 = .ok (.iastore, 1) := by decide +kernel
theorem d_Al_keepProducts_22 : decode b_Al_keepProducts 22 = .ok (.iconst 1, 1) := by decide +kernel
theorem d_Al_keepProducts_23 : decode b_Al_keepProducts 23 = .ok (.istore_n 3, 1) := by decide +kernel
theorem d_Al_keepProducts_24 : decode b_Al_keepProducts 24 = .ok (.iload_n 3, 1) := by decide +kernel
theorem d_Al_keepProducts_25 : decode b_Al_keepProducts 25 = .ok (.aload_n 0, 1) := by decide +kernel
theorem d_Al_keepProducts_26 : decode b_Al_keepProducts 26 = .ok (.getfield 40, 3) := by decide +kernel
theorem d_Al_keepProducts_29 : decode b_Al_keepProducts 29 = .ok (.if_icmp .ge 44, 3) := by decide +kernel
theorem d_Al_keepProducts_32 : decode b_Al_keepProducts 32 = .ok (.aload_n 0, 1) := by decide +kernel
theorem d_Al_keepProducts_33 : decode b_Al_keepProducts 33 = .ok (.getfield 28, 3) := by decide +kernel
theorem d_Al_keepProducts_36 : decode b_Al_keepProducts 36 = .ok (.iload_n 2, 1) := by decide +kernel
theorem d_Al_keepProducts_37 : decode b_Al_keepProducts 37 = .ok (.iload_n 3, 1) := by decide +kernel
theorem d_Al_keepProducts_38 : decode b_Al_keepProducts 38 = .ok (.iadd, 1) := by decide +kernel
theorem d_Al_keepProducts_39 : decode b_Al_keepProducts 39 = .ok (.aload_n 0, 1) := by decide +kernel
theorem d_Al_keepProducts_40 : decode b_Al_keepProducts 40 = .ok (.getfield 15, 3) := by decide +kernel
theorem d_Al_keepProducts_43 : decode b_Al_keepProducts 43 = .ok (.iconst 2, 1) := by decide +kernel
theorem d_Al_keepProducts_44 : decode b_Al_keepProducts 44 = .ok (.aload_n 0, 1) := by decide +kernel
theorem d_Al_keepProducts_45 : decode b_Al_keepProducts 45 = .ok (.getfield 28, 3) := by decide +kernel
theorem d_Al_keepProducts_48 : decode b_Al_keepProducts 48 = .ok (.iload_n 2, 1) := by decide +kernel
theorem d_Al_keepProducts_49 : decode b_Al_keepProducts 49 = .ok (.aload_n 0, 1) := by decide +kernel
theorem d_Al_keepProducts_50 : decode b_Al_keepProducts 50 = .ok (.getfield 18, 3) := by decide +kernel
theorem d_Al_keepProducts_53 : decode b_Al_keepProducts 53 = .ok (.iload_n 3, 1) := by decide +kernel
theorem d_Al_keepProducts_54 : decode b_Al_keepProducts 54 = .ok (.iaload, 1) := by decide +kernel
theorem d_Al_keepProducts_55 : decode b_Al_keepProducts 55 = .ok (.iadd, 1) := by decide +kernel
theorem d_Al_keepProducts_56 : decode b_Al_keepProducts 56 = .ok (.iaload, 1) := by decide +kernel
theorem d_Al_keepProducts_57 : decode b_Al_keepProducts 57 = .ok (.imul, 1) := by decide +kernel
theorem d_Al_keepProducts_58 : decode b_Al_keepProducts 58 = .ok (.aload_n 0, 1) := by decide +kernel
theorem d_Al_keepProducts_59 : decode b_Al_keepProducts 59 = .ok (.getfield 21, 3) := by decide +kernel
theorem d_Al_keepProducts_62 : decode b_Al_keepProducts 62 = .ok (.iload_n 3, 1) := by decide +kernel
theorem d_Al_keepProducts_63 : decode b_Al_keepProducts 63 = .ok (.iaload, 1) := by decide +kernel
theorem d_Al_keepProducts_64 : decode b_Al_keepProducts 64 = .ok (.iadd, 1) := by decide +kernel
theorem d_Al_keepProducts_65 : decode b_Al_keepProducts 65 = .ok (.iaload, 1) := by decide +kernel
theorem d_Al_keepProducts_66 : decode b_Al_keepProducts 66 = .ok (.iastore, 1) := by decide +kernel
theorem d_Al_keepProducts_67 : decode b_Al_keepProducts 67 = .ok (.iinc 3 1, 3) := by decide +kernel
theorem d_Al_keepProducts_70 : decode b_Al_keepProducts 70 = .ok (.goto (-46), 3) := by decide +kernel
theorem d_Al_keepProducts_73 : decode b_Al_keepProducts 73 = .ok (.iinc 1 1, 3) := by decide +kernel
theorem d_Al_keepProducts_76 : decode b_Al_keepProducts 76 = .ok (.goto (-74), 3) := by decide +kernel
theorem d_Al_keepProducts_79 : decode b_Al_keepProducts 79 = .ok (.return_, 1) := by decide +kernel
theorem d_Al_keepSets_0 : decode b_Al_keepSets 0 = .ok (.iconst 0, 1) := by decide +kernel
theorem d_Al_keepSets_1 : decode b_Al_keepSets 1 = .ok (.istore_n 1, 1) := by decide +kernel
theorem d_Al_keepSets_2 : decode b_Al_keepSets 2 = .ok (.iload_n 1, 1) := by decide +kernel
theorem d_Al_keepSets_3 : decode b_Al_keepSets 3 = .ok (.aload_n 0, 1) := by decide +kernel
theorem d_Al_keepSets_4 : decode b_Al_keepSets 4 = .ok (.getfield 40, 3) := by decide +kernel
theorem d_Al_keepSets_7 : decode b_Al_keepSets 7 = .ok (.if_icmp .ge 73, 3) := by decide +kernel
theorem d_Al_keepSets_10 : decode b_Al_keepSets 10 = .ok (.aload_n 0, 1) := by decide +kernel
theorem d_Al_keepSets_11 : decode b_Al_keepSets 11 = .ok (.getfield 31, 3) := by decide +kernel
theorem d_Al_keepSets_14 : decode b_Al_keepSets 14 = .ok (.iload_n 1, 1) := by decide +kernel
theorem d_Al_keepSets_15 : decode b_Al_keepSets 15 = .ok (.lconst 0, 1) := by decide +kernel
theorem d_Al_keepSets_16 : decode b_Al_keepSets 16 = .ok (.lastore, 1) := by decide +kernel
theorem d_Al_keepSets_17 : decode b_Al_keepSets 17 = .ok (.aload_n 0, 1) := by decide +kernel
theorem d_Al_keepSets_18 : decode b_Al_keepSets 18 = .ok (.getfield 34, 3) := by decide +kernel
theorem d_Al_keepSets_21 : decode b_Al_keepSets 21 = .ok (.iload_n 1, 1) := by decide +kernel
theorem d_Al_keepSets_22 : decode b_Al_keepSets 22 = .ok (.lconst 0, 1) := by decide +kernel
theorem d_Al_keepSets_23 : decode b_Al_keepSets 23 = .ok (.lastore, 1) := by decide +kernel
theorem d_Al_keepSets_24 : decode b_Al_keepSets 24 = .ok (.iconst 0, 1) := by decide +kernel
theorem d_Al_keepSets_25 : decode b_Al_keepSets 25 = .ok (.istore_n 2, 1) := by decide +kernel
theorem d_Al_keepSets_26 : decode b_Al_keepSets 26 = .ok (.iload_n 2, 1) := by decide +kernel
theorem d_Al_keepSets_27 : decode b_Al_keepSets 27 = .ok (.aload_n 0, 1) := by decide +kernel
theorem d_Al_keepSets_28 : decode b_Al_keepSets 28 = .ok (.getfield 40, 3) := by decide +kernel
theorem d_Al_keepSets_31 : decode b_Al_keepSets 31 = .ok (.if_icmp .ge 43, 3) := by decide +kernel
theorem d_Al_keepSets_34 : decode b_Al_keepSets 34 = .ok (.aload_n 0, 1) := by decide +kernel
theorem d_Al_keepSets_35 : decode b_Al_keepSets 35 = .ok (.getfield 31, 3) := by decide +kernel
theorem d_Al_keepSets_38 : decode b_Al_keepSets 38 = .ok (.iload_n 1, 1) := by decide +kernel
theorem d_Al_keepSets_39 : decode b_Al_keepSets 39 = .ok (.dup2, 1) := by decide +kernel
theorem d_Al_keepSets_40 : decode b_Al_keepSets 40 = .ok (.laload, 1) := by decide +kernel
theorem d_Al_keepSets_41 : decode b_Al_keepSets 41 = .ok (.lconst 1, 1) := by decide +kernel
theorem d_Al_keepSets_42 : decode b_Al_keepSets 42 = .ok (.aload_n 0, 1) := by decide +kernel
theorem d_Al_keepSets_43 : decode b_Al_keepSets 43 = .ok (.iload_n 1, 1) := by decide +kernel
theorem d_Al_keepSets_44 : decode b_Al_keepSets 44 = .ok (.iload_n 2, 1) := by decide +kernel
theorem d_Al_keepSets_45 : decode b_Al_keepSets 45 = .ok (.invokevirtual 72, 3) := by decide +kernel
theorem d_Al_keepSets_48 : decode b_Al_keepSets 48 = .ok (.lshl, 1) := by decide +kernel
theorem d_Al_keepSets_49 : decode b_Al_keepSets 49 = .ok (.lor, 1) := by decide +kernel
theorem d_Al_keepSets_50 : decode b_Al_keepSets 50 = .ok (.lastore, 1) := by decide +kernel
theorem d_Al_keepSets_51 : decode b_Al_keepSets 51 = .ok (.aload_n 0, 1) := by decide +kernel
theorem d_Al_keepSets_52 : decode b_Al_keepSets 52 = .ok (.getfield 34, 3) := by decide +kernel
theorem d_Al_keepSets_55 : decode b_Al_keepSets 55 = .ok (.iload_n 1, 1) := by decide +kernel
theorem d_Al_keepSets_56 : decode b_Al_keepSets 56 = .ok (.dup2, 1) := by decide +kernel
theorem d_Al_keepSets_57 : decode b_Al_keepSets 57 = .ok (.laload, 1) := by decide +kernel
theorem d_Al_keepSets_58 : decode b_Al_keepSets 58 = .ok (.lconst 1, 1) := by decide +kernel
theorem d_Al_keepSets_59 : decode b_Al_keepSets 59 = .ok (.aload_n 0, 1) := by decide +kernel
theorem d_Al_keepSets_60 : decode b_Al_keepSets 60 = .ok (.iload_n 2, 1) := by decide +kernel
theorem d_Al_keepSets_61 : decode b_Al_keepSets 61 = .ok (.iload_n 1, 1) := by decide +kernel
theorem d_Al_keepSets_62 : decode b_Al_keepSets 62 = .ok (.invokevirtual 72, 3) := by decide +kernel
theorem d_Al_keepSets_65 : decode b_Al_keepSets 65 = .ok (.lshl, 1) := by decide +kernel
theorem d_Al_keepSets_66 : decode b_Al_keepSets 66 = .ok (.lor, 1) := by decide +kernel
theorem d_Al_keepSets_67 : decode b_Al_keepSets 67 = .ok (.lastore, 1) := by decide +kernel
theorem d_Al_keepSets_68 : decode b_Al_keepSets 68 = .ok (.iinc 2 1, 3) := by decide +kernel
theorem d_Al_keepSets_71 : decode b_Al_keepSets 71 = .ok (.goto (-45), 3) := by decide +kernel
theorem d_Al_keepSets_74 : decode b_Al_keepSets 74 = .ok (.iinc 1 1, 3) := by decide +kernel
theorem d_Al_keepSets_77 : decode b_Al_keepSets 77 = .ok (.goto (-75), 3) := by decide +kernel
theorem d_Al_keepSets_80 : decode b_Al_keepSets 80 = .ok (.iconst 0, 1) := by decide +kernel
theorem d_Al_keepSets_81 : decode b_Al_keepSets 81 = .ok (.istore_n 1, 1) := by decide +kernel
theorem d_Al_keepSets_82 : decode b_Al_keepSets 82 = .ok (.iload_n 1, 1) := by decide +kernel
theorem d_Al_keepSets_83 : decode b_Al_keepSets 83 = .ok (.aload_n 0, 1) := by decide +kernel
theorem d_Al_keepSets_84 : decode b_Al_keepSets 84 = .ok (.getfield 40, 3) := by decide +kernel
theorem d_Al_keepSets_87 : decode b_Al_keepSets 87 = .ok (.if_icmp .ge 52, 3) := by decide +kernel
theorem d_Al_keepSets_90 : decode b_Al_keepSets 90 = .ok (.aload_n 0, 1) := by decide +kernel
theorem d_Al_keepSets_91 : decode b_Al_keepSets 91 = .ok (.getfield 37, 3) := by decide +kernel
theorem d_Al_keepSets_94 : decode b_Al_keepSets 94 = .ok (.iload_n 1, 1) := by decide +kernel
theorem d_Al_keepSets_95 : decode b_Al_keepSets 95 = .ok (.lconst 0, 1) := by decide +kernel
theorem d_Al_keepSets_96 : decode b_Al_keepSets 96 = .ok (.lastore, 1) := by decide +kernel
theorem d_Al_keepSets_97 : decode b_Al_keepSets 97 = .ok (.iconst 0, 1) := by decide +kernel
theorem d_Al_keepSets_98 : decode b_Al_keepSets 98 = .ok (.istore_n 2, 1) := by decide +kernel
theorem d_Al_keepSets_99 : decode b_Al_keepSets 99 = .ok (.iload_n 2, 1) := by decide +kernel
theorem d_Al_keepSets_100 : decode b_Al_keepSets 100 = .ok (.aload_n 0, 1) := by decide +kernel
theorem d_Al_keepSets_101 : decode b_Al_keepSets 101 = .ok (.getfield 40, 3) := by decide +kernel
theorem d_Al_keepSets_104 : decode b_Al_keepSets 104 = .ok (.if_icmp .ge 29, 3) := by decide +kernel
theorem d_Al_keepSets_107 : decode b_Al_keepSets 107 = .ok (.aload_n 0, 1) := by decide +kernel
theorem d_Al_keepSets_108 : decode b_Al_keepSets 108 = .ok (.getfield 37, 3) := by decide +kernel
theorem d_Al_keepSets_111 : decode b_Al_keepSets 111 = .ok (.iload_n 1, 1) := by decide +kernel
theorem d_Al_keepSets_112 : decode b_Al_keepSets 112 = .ok (.dup2, 1) := by decide +kernel
theorem d_Al_keepSets_113 : decode b_Al_keepSets 113 = .ok (.laload, 1) := by decide +kernel
theorem d_Al_keepSets_114 : decode b_Al_keepSets 114 = .ok (.aload_n 0, 1) := by decide +kernel
theorem d_Al_keepSets_115 : decode b_Al_keepSets 115 = .ok (.getfield 31, 3) := by decide +kernel
theorem d_Al_keepSets_118 : decode b_Al_keepSets 118 = .ok (.aload_n 0, 1) := by decide +kernel
theorem d_Al_keepSets_119 : decode b_Al_keepSets 119 = .ok (.iload_n 2, 1) := by decide +kernel
theorem d_Al_keepSets_120 : decode b_Al_keepSets 120 = .ok (.iload_n 1, 1) := by decide +kernel
theorem d_Al_keepSets_121 : decode b_Al_keepSets 121 = .ok (.invokevirtual 72, 3) := by decide +kernel
theorem d_Al_keepSets_124 : decode b_Al_keepSets 124 = .ok (.laload, 1) := by decide +kernel
theorem d_Al_keepSets_125 : decode b_Al_keepSets 125 = .ok (.lor, 1) := by decide +kernel
theorem d_Al_keepSets_126 : decode b_Al_keepSets 126 = .ok (.lastore, 1) := by decide +kernel
theorem d_Al_keepSets_127 : decode b_Al_keepSets 127 = .ok (.iinc 2 1, 3) := by decide +kernel
theorem d_Al_keepSets_130 : decode b_Al_keepSets 130 = .ok (.goto (-31), 3) := by decide +kernel
theorem d_Al_keepSets_133 : decode b_Al_keepSets 133 = .ok (.iinc 1 1, 3) := by decide +kernel
theorem d_Al_keepSets_136 : decode b_Al_keepSets 136 = .ok (.goto (-54), 3) := by decide +kernel
theorem d_Al_keepSets_139 : decode b_Al_keepSets 139 = .ok (.return_, 1) := by decide +kernel
theorem d_Al_multiply_0 : decode b_Al_multiply 0 = .ok (.aload_n 0, 1) := by decide +kernel
theorem d_Al_multiply_1 : decode b_Al_multiply 1 = .ok (.getfield 28, 3) := by decide +kernel
theorem d_Al_multiply_4 : decode b_Al_multiply 4 = .ok (.bipush 60, 2) := by decide +kernel
theorem d_Al_multiply_6 : decode b_Al_multiply 6 = .ok (.iload_n 1, 1) := by decide +kernel
theorem d_Al_multiply_7 : decode b_Al_multiply 7 = .ok (.imul, 1) := by decide +kernel
theorem d_Al_multiply_8 : decode b_Al_multiply 8 = .ok (.iload_n 2, 1) := by decide +kernel
theorem d_Al_multiply_9 : decode b_Al_multiply 9 = .ok (.iadd, 1) := by decide +kernel
theorem d_Al_multiply_10 : decode b_Al_multiply 10 = .ok (.iaload, 1) := by decide +kernel
theorem d_Al_multiply_11 : decode b_Al_multiply 11 = .ok (.ireturn, 1) := by decide +kernel
theorem d_LA_elements_0 : decode b_LA_elements 0 = .ok (.aload_n 0, 1) := by decide +kernel
theorem d_LA_elements_1 : decode b_LA_elements 1 = .ok (.getfield 25, 3) := by decide +kernel
theorem d_LA_elements_4 : decode b_LA_elements 4 = .ok (.invokevirtual 86, 3) := by decide +kernel
theorem d_LA_elements_7 : decode b_LA_elements 7 = .ok (.ifCond .eq 13, 3) := by decide +kernel
theorem d_LA_elements_10 : decode b_LA_elements 10 = .ok (.aload_n 0, 1) := by decide +kernel
theorem d_LA_elements_11 : decode b_LA_elements 11 = .ok (.getfield 25, 3) := by decide +kernel
theorem d_LA_elements_14 : decode b_LA_elements 14 = .ok (.getfield 85, 3) := by decide +kernel
theorem d_LA_elements_17 : decode b_LA_elements 17 = .ok (.goto 4, 3) := by decide +kernel
theorem d_LA_elements_20 : decode b_LA_elements 20 = .ok (.iconst (-1), 1) := by decide +kernel
theorem d_LA_elements_21 : decode b_LA_elements 21 = .ok (.ireturn, 1) := by decide +kernel
theorem d_Al_isWorkedOut_0 : decode b_Al_isWorkedOut 0 = .ok (.aload_n 0, 1) := by decide +kernel
theorem d_Al_isWorkedOut_1 : decode b_Al_isWorkedOut 1 = .ok (.getfield 40, 3) := by decide +kernel
theorem d_Al_isWorkedOut_4 : decode b_Al_isWorkedOut 4 = .ok (.ifCond .le 7, 3) := by decide +kernel
theorem d_Al_isWorkedOut_7 : decode b_Al_isWorkedOut 7 = .ok (.iconst 1, 1) := by decide +kernel
theorem d_Al_isWorkedOut_8 : decode b_Al_isWorkedOut 8 = .ok (.goto 4, 3) := by decide +kernel
theorem d_Al_isWorkedOut_11 : decode b_Al_isWorkedOut 11 = .ok (.iconst 0, 1) := by decide +kernel
theorem d_Al_isWorkedOut_12 : decode b_Al_isWorkedOut 12 = .ok (.ireturn, 1) := by decide +kernel
theorem d_LA_word_0 : decode b_LA_word 0 = .ok (.aload_n 0, 1) := by decide +kernel
theorem d_LA_word_1 : decode b_LA_word 1 = .ok (.getfield 25, 3) := by decide +kernel
theorem d_LA_word_4 : decode b_LA_word 4 = .ok (.iload_n 1, 1) := by decide +kernel
theorem d_LA_word_5 : decode b_LA_word 5 = .ok (.invokevirtual 90, 3) := by decide +kernel
theorem d_LA_word_8 : decode b_LA_word 8 = .ok (.ifCond .eq 15, 3) := by decide +kernel
theorem d_LA_word_11 : decode b_LA_word 11 = .ok (.aload_n 0, 1) := by decide +kernel
theorem d_LA_word_12 : decode b_LA_word 12 = .ok (.getfield 25, 3) := by decide +kernel
theorem d_LA_word_15 : decode b_LA_word 15 = .ok (.getfield 93, 3) := by decide +kernel
theorem d_LA_word_18 : decode b_LA_word 18 = .ok (.iload_n 1, 1) := by decide +kernel
theorem d_LA_word_19 : decode b_LA_word 19 = .ok (.laload, 1) := by decide +kernel
theorem d_LA_word_20 : decode b_LA_word 20 = .ok (.goto 6, 3) := by decide +kernel
theorem d_LA_word_23 : decode b_LA_word 23 = .ok (.ldc2_w 97, 3) := by decide +kernel
theorem d_LA_word_26 : decode b_LA_word 26 = .ok (.lreturn, 1) := by decide +kernel
theorem d_Al_hasElement_0 : decode b_Al_hasElement 0 = .ok (.iload_n 1, 1) := by decide +kernel
theorem d_Al_hasElement_1 : decode b_Al_hasElement 1 = .ok (.ifCond .lt 15, 3) := by decide +kernel
theorem d_Al_hasElement_4 : decode b_Al_hasElement 4 = .ok (.iload_n 1, 1) := by decide +kernel
theorem d_Al_hasElement_5 : decode b_Al_hasElement 5 = .ok (.aload_n 0, 1) := by decide +kernel
theorem d_Al_hasElement_6 : decode b_Al_hasElement 6 = .ok (.getfield 40, 3) := by decide +kernel
theorem d_Al_hasElement_9 : decode b_Al_hasElement 9 = .ok (.if_icmp .ge 7, 3) := by decide +kernel
theorem d_Al_hasElement_12 : decode b_Al_hasElement 12 = .ok (.iconst 1, 1) := by decide +kernel
theorem d_Al_hasElement_13 : decode b_Al_hasElement 13 = .ok (.goto 4, 3) := by decide +kernel
theorem d_Al_hasElement_16 : decode b_Al_hasElement 16 = .ok (.iconst 0, 1) := by decide +kernel
theorem d_Al_hasElement_17 : decode b_Al_hasElement 17 = .ok (.ireturn, 1) := by decide +kernel
theorem d_LA_product_0 : decode b_LA_product 0 = .ok (.aload_n 0, 1) := by decide +kernel
theorem d_LA_product_1 : decode b_LA_product 1 = .ok (.getfield 25, 3) := by decide +kernel
theorem d_LA_product_4 : decode b_LA_product 4 = .ok (.iload_n 1, 1) := by decide +kernel
theorem d_LA_product_5 : decode b_LA_product 5 = .ok (.invokevirtual 90, 3) := by decide +kernel
theorem d_LA_product_8 : decode b_LA_product 8 = .ok (.ifCond .eq 14, 3) := by decide +kernel
theorem d_LA_product_11 : decode b_LA_product 11 = .ok (.aload_n 0, 1) := by decide +kernel
theorem d_LA_product_12 : decode b_LA_product 12 = .ok (.getfield 25, 3) := by decide +kernel
theorem d_LA_product_15 : decode b_LA_product 15 = .ok (.iload_n 2, 1) := by decide +kernel
theorem d_LA_product_16 : decode b_LA_product 16 = .ok (.invokevirtual 90, 3) := by decide +kernel
theorem d_LA_product_19 : decode b_LA_product 19 = .ok (.ifCond .ne 5, 3) := by decide +kernel
theorem d_LA_product_22 : decode b_LA_product 22 = .ok (.iconst (-1), 1) := by decide +kernel
theorem d_LA_product_23 : decode b_LA_product 23 = .ok (.ireturn, 1) := by decide +kernel
theorem d_LA_product_24 : decode b_LA_product 24 = .ok (.aload_n 0, 1) := by decide +kernel
theorem d_LA_product_25 : decode b_LA_product 25 = .ok (.getfield 25, 3) := by decide +kernel
theorem d_LA_product_28 : decode b_LA_product 28 = .ok (.iload_n 1, 1) := by decide +kernel
theorem d_LA_product_29 : decode b_LA_product 29 = .ok (.iload_n 2, 1) := by decide +kernel
theorem d_LA_product_30 : decode b_LA_product 30 = .ok (.invokevirtual 99, 3) := by decide +kernel
theorem d_LA_product_33 : decode b_LA_product 33 = .ok (.ireturn, 1) := by decide +kernel
theorem d_LA_related_0 : decode b_LA_related 0 = .ok (.iload_n 1, 1) := by decide +kernel
theorem d_LA_related_1 : decode b_LA_related 1 = .ok (.invokestatic 102, 3) := by decide +kernel
theorem d_LA_related_4 : decode b_LA_related 4 = .ok (.ifCond .eq 42, 3) := by decide +kernel
theorem d_LA_related_7 : decode b_LA_related 7 = .ok (.aload_n 0, 1) := by decide +kernel
theorem d_LA_related_8 : decode b_LA_related 8 = .ok (.getfield 25, 3) := by decide +kernel
theorem d_LA_related_11 : decode b_LA_related 11 = .ok (.iload_n 2, 1) := by decide +kernel
theorem d_LA_related_12 : decode b_LA_related 12 = .ok (.invokevirtual 90, 3) := by decide +kernel
theorem d_LA_related_15 : decode b_LA_related 15 = .ok (.ifCond .eq 31, 3) := by decide +kernel
theorem d_LA_related_18 : decode b_LA_related 18 = .ok (.aload_n 0, 1) := by decide +kernel
theorem d_LA_related_19 : decode b_LA_related 19 = .ok (.getfield 25, 3) := by decide +kernel
theorem d_LA_related_22 : decode b_LA_related 22 = .ok (.iload_n 3, 1) := by decide +kernel
theorem d_LA_related_23 : decode b_LA_related 23 = .ok (.invokevirtual 90, 3) := by decide +kernel
theorem d_LA_related_26 : decode b_LA_related 26 = .ok (.ifCond .eq 20, 3) := by decide +kernel
theorem d_LA_related_29 : decode b_LA_related 29 = .ok (.aload_n 0, 1) := by decide +kernel
theorem d_LA_related_30 : decode b_LA_related 30 = .ok (.getfield 25, 3) := by decide +kernel
theorem d_LA_related_33 : decode b_LA_related 33 = .ok (.iload_n 1, 1) := by decide +kernel
theorem d_LA_related_34 : decode b_LA_related 34 = .ok (.iload_n 2, 1) := by decide +kernel
theorem d_LA_related_35 : decode b_LA_related 35 = .ok (.iload_n 3, 1) := by decide +kernel
theorem d_LA_related_36 : decode b_LA_related 36 = .ok (.invokevirtual 105, 3) := by decide +kernel
theorem d_LA_related_39 : decode b_LA_related 39 = .ok (.ifCond .eq 7, 3) := by decide +kernel
theorem d_LA_related_42 : decode b_LA_related 42 = .ok (.iconst 1, 1) := by decide +kernel
theorem d_LA_related_43 : decode b_LA_related 43 = .ok (.goto 4, 3) := by decide +kernel
theorem d_LA_related_46 : decode b_LA_related 46 = .ok (.iconst 0, 1) := by decide +kernel
theorem d_LA_related_47 : decode b_LA_related 47 = .ok (.ireturn, 1) := by decide +kernel
theorem d_LA_isRelation_0 : decode b_LA_isRelation 0 = .ok (.iload_n 0, 1) := by decide +kernel
theorem d_LA_isRelation_1 : decode b_LA_isRelation 1 = .ok (.ifCond .lt 12, 3) := by decide +kernel
theorem d_LA_isRelation_4 : decode b_LA_isRelation 4 = .ok (.iload_n 0, 1) := by decide +kernel
theorem d_LA_isRelation_5 : decode b_LA_isRelation 5 = .ok (.iconst 4, 1) := by decide +kernel
theorem d_LA_isRelation_6 : decode b_LA_isRelation 6 = .ok (.if_icmp .ge 7, 3) := by decide +kernel
theorem d_LA_isRelation_9 : decode b_LA_isRelation 9 = .ok (.iconst 1, 1) := by decide +kernel
theorem d_LA_isRelation_10 : decode b_LA_isRelation 10 = .ok (.goto 4, 3) := by decide +kernel
theorem d_LA_isRelation_13 : decode b_LA_isRelation 13 = .ok (.iconst 0, 1) := by decide +kernel
theorem d_LA_isRelation_14 : decode b_LA_isRelation 14 = .ok (.ireturn, 1) := by decide +kernel
theorem d_Al_areRelated_0 : decode b_Al_areRelated 0 = .ok (.iload_n 1, 1) := by decide +kernel
theorem d_Al_areRelated_1 : decode b_Al_areRelated 1 = .ok (.tableswitch 135 0 3 #[31, 53, 75, 97], 31) := by decide +kernel
theorem d_Al_areRelated_32 : decode b_Al_areRelated 32 = .ok (.aload_n 0, 1) := by decide +kernel
theorem d_Al_areRelated_33 : decode b_Al_areRelated 33 = .ok (.getfield 31, 3) := by decide +kernel
theorem d_Al_areRelated_36 : decode b_Al_areRelated 36 = .ok (.iload_n 2, 1) := by decide +kernel
theorem d_Al_areRelated_37 : decode b_Al_areRelated 37 = .ok (.laload, 1) := by decide +kernel
theorem d_Al_areRelated_38 : decode b_Al_areRelated 38 = .ok (.aload_n 0, 1) := by decide +kernel
theorem d_Al_areRelated_39 : decode b_Al_areRelated 39 = .ok (.getfield 31, 3) := by decide +kernel
theorem d_Al_areRelated_42 : decode b_Al_areRelated 42 = .ok (.iload_n 3, 1) := by decide +kernel
theorem d_Al_areRelated_43 : decode b_Al_areRelated 43 = .ok (.laload, 1) := by decide +kernel
theorem d_Al_areRelated_44 : decode b_Al_areRelated 44 = .ok (.lcmp, 1) := by decide +kernel
theorem d_Al_areRelated_45 : decode b_Al_areRelated 45 = .ok (.ifCond .ne 7, 3) := by decide +kernel
theorem d_Al_areRelated_48 : decode b_Al_areRelated 48 = .ok (.iconst 1, 1) := by decide +kernel
theorem d_Al_areRelated_49 : decode b_Al_areRelated 49 = .ok (.goto 4, 3) := by decide +kernel
theorem d_Al_areRelated_52 : decode b_Al_areRelated 52 = .ok (.iconst 0, 1) := by decide +kernel
theorem d_Al_areRelated_53 : decode b_Al_areRelated 53 = .ok (.ireturn, 1) := by decide +kernel
theorem d_Al_areRelated_54 : decode b_Al_areRelated 54 = .ok (.aload_n 0, 1) := by decide +kernel
theorem d_Al_areRelated_55 : decode b_Al_areRelated 55 = .ok (.getfield 34, 3) := by decide +kernel
theorem d_Al_areRelated_58 : decode b_Al_areRelated 58 = .ok (.iload_n 2, 1) := by decide +kernel
theorem d_Al_areRelated_59 : decode b_Al_areRelated 59 = .ok (.laload, 1) := by decide +kernel
theorem d_Al_areRelated_60 : decode b_Al_areRelated 60 = .ok (.aload_n 0, 1) := by decide +kernel
theorem d_Al_areRelated_61 : decode b_Al_areRelated 61 = .ok (.getfield 34, 3) := by decide +kernel
theorem d_Al_areRelated_64 : decode b_Al_areRelated 64 = .ok (.iload_n 3, 1) := by decide +kernel
theorem d_Al_areRelated_65 : decode b_Al_areRelated 65 = .ok (.laload, 1) := by decide +kernel
theorem d_Al_areRelated_66 : decode b_Al_areRelated 66 = .ok (.lcmp, 1) := by decide +kernel
theorem d_Al_areRelated_67 : decode b_Al_areRelated 67 = .ok (.ifCond .ne 7, 3) := by decide +kernel
theorem d_Al_areRelated_70 : decode b_Al_areRelated 70 = .ok (.iconst 1, 1) := by decide +kernel
theorem d_Al_areRelated_71 : decode b_Al_areRelated 71 = .ok (.goto 4, 3) := by decide +kernel
theorem d_Al_areRelated_74 : decode b_Al_areRelated 74 = .ok (.iconst 0, 1) := by decide +kernel
theorem d_Al_areRelated_75 : decode b_Al_areRelated 75 = .ok (.ireturn, 1) := by decide +kernel
theorem d_Al_areRelated_76 : decode b_Al_areRelated 76 = .ok (.aload_n 0, 1) := by decide +kernel
theorem d_Al_areRelated_77 : decode b_Al_areRelated 77 = .ok (.getfield 37, 3) := by decide +kernel
theorem d_Al_areRelated_80 : decode b_Al_areRelated 80 = .ok (.iload_n 2, 1) := by decide +kernel
theorem d_Al_areRelated_81 : decode b_Al_areRelated 81 = .ok (.laload, 1) := by decide +kernel
theorem d_Al_areRelated_82 : decode b_Al_areRelated 82 = .ok (.aload_n 0, 1) := by decide +kernel
theorem d_Al_areRelated_83 : decode b_Al_areRelated 83 = .ok (.getfield 37, 3) := by decide +kernel
theorem d_Al_areRelated_86 : decode b_Al_areRelated 86 = .ok (.iload_n 3, 1) := by decide +kernel
theorem d_Al_areRelated_87 : decode b_Al_areRelated 87 = .ok (.laload, 1) := by decide +kernel
theorem d_Al_areRelated_88 : decode b_Al_areRelated 88 = .ok (.lcmp, 1) := by decide +kernel
theorem d_Al_areRelated_89 : decode b_Al_areRelated 89 = .ok (.ifCond .ne 7, 3) := by decide +kernel
theorem d_Al_areRelated_92 : decode b_Al_areRelated 92 = .ok (.iconst 1, 1) := by decide +kernel
theorem d_Al_areRelated_93 : decode b_Al_areRelated 93 = .ok (.goto 4, 3) := by decide +kernel
theorem d_Al_areRelated_96 : decode b_Al_areRelated 96 = .ok (.iconst 0, 1) := by decide +kernel
theorem d_Al_areRelated_97 : decode b_Al_areRelated 97 = .ok (.ireturn, 1) := by decide +kernel
theorem d_Al_areRelated_98 : decode b_Al_areRelated 98 = .ok (.aload_n 0, 1) := by decide +kernel
theorem d_Al_areRelated_99 : decode b_Al_areRelated 99 = .ok (.getfield 31, 3) := by decide +kernel
theorem d_Al_areRelated_102 : decode b_Al_areRelated 102 = .ok (.iload_n 2, 1) := by decide +kernel
theorem d_Al_areRelated_103 : decode b_Al_areRelated 103 = .ok (.laload, 1) := by decide +kernel
theorem d_Al_areRelated_104 : decode b_Al_areRelated 104 = .ok (.aload_n 0, 1) := by decide +kernel
theorem d_Al_areRelated_105 : decode b_Al_areRelated 105 = .ok (.getfield 31, 3) := by decide +kernel
theorem d_Al_areRelated_108 : decode b_Al_areRelated 108 = .ok (.iload_n 3, 1) := by decide +kernel
theorem d_Al_areRelated_109 : decode b_Al_areRelated 109 = .ok (.laload, 1) := by decide +kernel
theorem d_Al_areRelated_110 : decode b_Al_areRelated 110 = .ok (.lcmp, 1) := by decide +kernel
theorem d_Al_areRelated_111 : decode b_Al_areRelated 111 = .ok (.ifCond .ne 23, 3) := by decide +kernel
theorem d_Al_areRelated_114 : decode b_Al_areRelated 114 = .ok (.aload_n 0, 1) := by decide +kernel
theorem d_Al_areRelated_115 : decode b_Al_areRelated 115 = .ok (.getfield 34, 3) := by decide +kernel
theorem d_Al_areRelated_118 : decode b_Al_areRelated 118 = .ok (.iload_n 2, 1) := by decide +kernel
theorem d_Al_areRelated_119 : decode b_Al_areRelated 119 = .ok (.laload, 1) := by decide +kernel
theorem d_Al_areRelated_120 : decode b_Al_areRelated 120 = .ok (.aload_n 0, 1) := by decide +kernel
theorem d_Al_areRelated_121 : decode b_Al_areRelated 121 = .ok (.getfield 34, 3) := by decide +kernel
theorem d_Al_areRelated_124 : decode b_Al_areRelated 124 = .ok (.iload_n 3, 1) := by decide +kernel
theorem d_Al_areRelated_125 : decode b_Al_areRelated 125 = .ok (.laload, 1) := by decide +kernel
theorem d_Al_areRelated_126 : decode b_Al_areRelated 126 = .ok (.lcmp, 1) := by decide +kernel
theorem d_Al_areRelated_127 : decode b_Al_areRelated 127 = .ok (.ifCond .ne 7, 3) := by decide +kernel
theorem d_Al_areRelated_130 : decode b_Al_areRelated 130 = .ok (.iconst 1, 1) := by decide +kernel
theorem d_Al_areRelated_131 : decode b_Al_areRelated 131 = .ok (.goto 4, 3) := by decide +kernel
theorem d_Al_areRelated_134 : decode b_Al_areRelated 134 = .ok (.iconst 0, 1) := by decide +kernel
theorem d_Al_areRelated_135 : decode b_Al_areRelated 135 = .ok (.ireturn, 1) := by decide +kernel
theorem d_Al_areRelated_136 : decode b_Al_areRelated 136 = .ok (.iconst 0, 1) := by decide +kernel
theorem d_Al_areRelated_137 : decode b_Al_areRelated 137 = .ok (.ireturn, 1) := by decide +kernel
theorem d_LA_classes_0 : decode b_LA_classes 0 = .ok (.iload_n 1, 1) := by decide +kernel
theorem d_LA_classes_1 : decode b_LA_classes 1 = .ok (.invokestatic 102, 3) := by decide +kernel
theorem d_LA_classes_4 : decode b_LA_classes 4 = .ok (.ifCond .eq 13, 3) := by decide +kernel
theorem d_LA_classes_7 : decode b_LA_classes 7 = .ok (.aload_n 0, 1) := by decide +kernel
theorem d_LA_classes_8 : decode b_LA_classes 8 = .ok (.getfield 25, 3) := by decide +kernel
theorem d_LA_classes_11 : decode b_LA_classes 11 = .ok (.invokevirtual 86, 3) := by decide +kernel
theorem d_LA_classes_14 : decode b_LA_classes 14 = .ok (.ifCond .ne 5, 3) := by decide +kernel
theorem d_LA_classes_17 : decode b_LA_classes 17 = .ok (.iconst (-1), 1) := by decide +kernel
theorem d_LA_classes_18 : decode b_LA_classes 18 = .ok (.ireturn, 1) := by decide +kernel
theorem d_LA_classes_19 : decode b_LA_classes 19 = .ok (.aload_n 0, 1) := by decide +kernel
theorem d_LA_classes_20 : decode b_LA_classes 20 = .ok (.getfield 25, 3) := by decide +kernel
theorem d_LA_classes_23 : decode b_LA_classes 23 = .ok (.iload_n 1, 1) := by decide +kernel
theorem d_LA_classes_24 : decode b_LA_classes 24 = .ok (.invokevirtual 109, 3) := by decide +kernel
theorem d_LA_classes_27 : decode b_LA_classes 27 = .ok (.ireturn, 1) := by decide +kernel
theorem d_Al_countClasses_0 : decode b_Al_countClasses 0 = .ok (.iconst 0, 1) := by decide +kernel
theorem d_Al_countClasses_1 : decode b_Al_countClasses 1 = .ok (.istore_n 2, 1) := by decide +kernel
theorem d_Al_countClasses_2 : decode b_Al_countClasses 2 = .ok (.iconst 0, 1) := by decide +kernel
theorem d_Al_countClasses_3 : decode b_Al_countClasses 3 = .ok (.istore_n 3, 1) := by decide +kernel
theorem d_Al_countClasses_4 : decode b_Al_countClasses 4 = .ok (.iload_n 3, 1) := by decide +kernel
theorem d_Al_countClasses_5 : decode b_Al_countClasses 5 = .ok (.aload_n 0, 1) := by decide +kernel
theorem d_Al_countClasses_6 : decode b_Al_countClasses 6 = .ok (.getfield 40, 3) := by decide +kernel
theorem d_Al_countClasses_9 : decode b_Al_countClasses 9 = .ok (.if_icmp .ge 21, 3) := by decide +kernel
theorem d_Al_countClasses_12 : decode b_Al_countClasses 12 = .ok (.aload_n 0, 1) := by decide +kernel
theorem d_Al_countClasses_13 : decode b_Al_countClasses 13 = .ok (.iload_n 1, 1) := by decide +kernel
theorem d_Al_countClasses_14 : decode b_Al_countClasses 14 = .ok (.iload_n 3, 1) := by decide +kernel
theorem d_Al_countClasses_15 : decode b_Al_countClasses 15 = .ok (.invokevirtual 75, 3) := by decide +kernel
theorem d_Al_countClasses_18 : decode b_Al_countClasses 18 = .ok (.ifCond .eq 6, 3) := by decide +kernel
theorem d_Al_countClasses_21 : decode b_Al_countClasses 21 = .ok (.iinc 2 1, 3) := by decide +kernel
theorem d_Al_countClasses_24 : decode b_Al_countClasses 24 = .ok (.iinc 3 1, 3) := by decide +kernel
theorem d_Al_countClasses_27 : decode b_Al_countClasses 27 = .ok (.goto (-23), 3) := by decide +kernel
theorem d_Al_countClasses_30 : decode b_Al_countClasses 30 = .ok (.iload_n 2, 1) := by decide +kernel
theorem d_Al_countClasses_31 : decode b_Al_countClasses 31 = .ok (.ireturn, 1) := by decide +kernel
theorem d_Al_isFirstOfClass_0 : decode b_Al_isFirstOfClass 0 = .ok (.iconst 0, 1) := by decide +kernel
theorem d_Al_isFirstOfClass_1 : decode b_Al_isFirstOfClass 1 = .ok (.istore_n 3, 1) := by decide +kernel
theorem d_Al_isFirstOfClass_2 : decode b_Al_isFirstOfClass 2 = .ok (.iload_n 3, 1) := by decide +kernel
theorem d_Al_isFirstOfClass_3 : decode b_Al_isFirstOfClass 3 = .ok (.iload_n 2, 1) := by decide +kernel
theorem d_Al_isFirstOfClass_4 : decode b_Al_isFirstOfClass 4 = .ok (.if_icmp .ge 21, 3) := by decide +kernel
theorem d_Al_isFirstOfClass_7 : decode b_Al_isFirstOfClass 7 = .ok (.aload_n 0, 1) := by decide +kernel
theorem d_Al_isFirstOfClass_8 : decode b_Al_isFirstOfClass 8 = .ok (.iload_n 1, 1) := by decide +kernel
theorem d_Al_isFirstOfClass_9 : decode b_Al_isFirstOfClass 9 = .ok (.iload_n 3, 1) := by decide +kernel
theorem d_Al_isFirstOfClass_10 : decode b_Al_isFirstOfClass 10 = .ok (.iload_n 2, 1) := by decide +kernel
theorem d_Al_isFirstOfClass_11 : decode b_Al_isFirstOfClass 11 = .ok (.invokevirtual 79, 3) := by decide +kernel
theorem d_Al_isFirstOfClass_14 : decode b_Al_isFirstOfClass 14 = .ok (.ifCond .eq 5, 3) := by decide +kernel
theorem d_Al_isFirstOfClass_17 : decode b_Al_isFirstOfClass 17 = .ok (.iconst 0, 1) := by decide +kernel
theorem d_Al_isFirstOfClass_18 : decode b_Al_isFirstOfClass 18 = .ok (.ireturn, 1) := by decide +kernel
theorem d_Al_isFirstOfClass_19 : decode b_Al_isFirstOfClass 19 = .ok (.iinc 3 1, 3) := by decide +kernel
theorem d_Al_isFirstOfClass_22 : decode b_Al_isFirstOfClass 22 = .ok (.goto (-20), 3) := by decide +kernel
theorem d_Al_isFirstOfClass_25 : decode b_Al_isFirstOfClass 25 = .ok (.iconst 1, 1) := by decide +kernel
theorem d_Al_isFirstOfClass_26 : decode b_Al_isFirstOfClass 26 = .ok (.ireturn, 1) := by decide +kernel
end
section
theorem d_LA_witness_0 : decode b_LA_witness 0 = .ok (.iload_n 1, 1) := by decide +kernel
theorem d_LA_witness_1 : decode b_LA_witness 1 = .ok (.ifCond .lt 18, 3) := by decide +kernel
theorem d_LA_witness_4 : decode b_LA_witness 4 = .ok (.iload_n 1, 1) := by decide +kernel
theorem d_LA_witness_5 : decode b_LA_witness 5 = .ok (.iconst 5, 1) := by decide +kernel
theorem d_LA_witness_6 : decode b_LA_witness 6 = .ok (.if_icmp .gt 13, 3) := by decide +kernel
theorem d_LA_witness_9 : decode b_LA_witness 9 = .ok (.aload_n 0, 1) := by decide +kernel
theorem d_LA_witness_10 : decode b_LA_witness 10 = .ok (.getfield 25, 3) := by decide +kernel
theorem d_LA_witness_13 : decode b_LA_witness 13 = .ok (.invokevirtual 86, 3) := by decide +kernel
theorem d_LA_witness_16 : decode b_LA_witness 16 = .ok (.ifCond .ne 6, 3) := by decide +kernel
theorem d_LA_witness_19 : decode b_LA_witness 19 = .ok (.bipush (-2), 2) := by decide +kernel
theorem d_LA_witness_21 : decode b_LA_witness 21 = .ok (.ireturn, 1) := by decide +kernel
theorem d_LA_witness_22 : decode b_LA_witness 22 = .ok (.iconst 0, 1) := by decide +kernel
theorem d_LA_witness_23 : decode b_LA_witness 23 = .ok (.istore_n 2, 1) := by decide +kernel
theorem d_LA_witness_24 : decode b_LA_witness 24 = .ok (.iload_n 2, 1) := by decide +kernel
theorem d_LA_witness_25 : decode b_LA_witness 25 = .ok (.aload_n 0, 1) := by decide +kernel
theorem d_LA_witness_26 : decode b_LA_witness 26 = .ok (.getfield 25, 3) := by decide +kernel
theorem d_LA_witness_29 : decode b_LA_witness 29 = .ok (.getfield 85, 3) := by decide +kernel
theorem d_LA_witness_32 : decode b_LA_witness 32 = .ok (.if_icmp .ge 48, 3) := by decide +kernel
theorem d_LA_witness_35 : decode b_LA_witness 35 = .ok (.iconst 0, 1) := by decide +kernel
theorem d_LA_witness_36 : decode b_LA_witness 36 = .ok (.istore_n 3, 1) := by decide +kernel
theorem d_LA_witness_37 : decode b_LA_witness 37 = .ok (.iload_n 3, 1) := by decide +kernel
theorem d_LA_witness_38 : decode b_LA_witness 38 = .ok (.aload_n 0, 1) := by decide +kernel
theorem d_LA_witness_39 : decode b_LA_witness 39 = .ok (.getfield 25, 3) := by decide +kernel
theorem d_LA_witness_42 : decode b_LA_witness 42 = .ok (.getfield 85, 3) := by decide +kernel
theorem d_LA_witness_45 : decode b_LA_witness 45 = .ok (.if_icmp .ge 29, 3) := by decide +kernel
theorem d_LA_witness_48 : decode b_LA_witness 48 = .ok (.aload_n 0, 1) := by decide +kernel
theorem d_LA_witness_49 : decode b_LA_witness 49 = .ok (.getfield 25, 3) := by decide +kernel
theorem d_LA_witness_52 : decode b_LA_witness 52 = .ok (.iload_n 1, 1) := by decide +kernel
theorem d_LA_witness_53 : decode b_LA_witness 53 = .ok (.iload_n 2, 1) := by decide +kernel
theorem d_LA_witness_54 : decode b_LA_witness 54 = .ok (.iload_n 3, 1) := by decide +kernel
theorem d_LA_witness_55 : decode b_LA_witness 55 = .ok (.invokevirtual 113, 3) := by decide +kernel
theorem d_LA_witness_58 : decode b_LA_witness 58 = .ok (.ifCond .eq 10, 3) := by decide +kernel
theorem d_LA_witness_61 : decode b_LA_witness 61 = .ok (.bipush 64, 2) := by decide +kernel
theorem d_LA_witness_63 : decode b_LA_witness 63 = .ok (.iload_n 2, 1) := by decide +kernel
theorem d_LA_witness_64 : decode b_LA_witness 64 = .ok (.imul, 1) := by decide +kernel
theorem d_LA_witness_65 : decode b_LA_witness 65 = .ok (.iload_n 3, 1) := by decide +kernel
theorem d_LA_witness_66 : decode b_LA_witness 66 = .ok (.iadd, 1) := by decide +kernel
theorem d_LA_witness_67 : decode b_LA_witness 67 = .ok (.ireturn, 1) := by decide +kernel
theorem d_LA_witness_68 : decode b_LA_witness 68 = .ok (.iinc 3 1, 3) := by decide +kernel
theorem d_LA_witness_71 : decode b_LA_witness 71 = .ok (.goto (-34), 3) := by decide +kernel
theorem d_LA_witness_74 : decode b_LA_witness 74 = .ok (.iinc 2 1, 3) := by decide +kernel
theorem d_LA_witness_77 : decode b_LA_witness 77 = .ok (.goto (-53), 3) := by decide +kernel
theorem d_LA_witness_80 : decode b_LA_witness 80 = .ok (.iconst (-1), 1) := by decide +kernel
theorem d_LA_witness_81 : decode b_LA_witness 81 = .ok (.ireturn, 1) := by decide +kernel
theorem d_Al_isAgainst_0 : decode b_Al_isAgainst 0 = .ok (.iload_n 1, 1) := by decide +kernel
theorem d_Al_isAgainst_1 : decode b_Al_isAgainst 1 = .ok (.tableswitch 168 0 5 #[39, 60, 81, 102, 123, 144], 39) := by decide +kernel
theorem d_Al_isAgainst_40 : decode b_Al_isAgainst 40 = .ok (.aload_n 0, 1) := by decide +kernel
theorem d_Al_isAgainst_41 : decode b_Al_isAgainst 41 = .ok (.iload_n 2, 1) := by decide +kernel
theorem d_Al_isAgainst_42 : decode b_Al_isAgainst 42 = .ok (.iload_n 3, 1) := by decide +kernel
theorem d_Al_isAgainst_43 : decode b_Al_isAgainst 43 = .ok (.invokevirtual 72, 3) := by decide +kernel
theorem d_Al_isAgainst_46 : decode b_Al_isAgainst 46 = .ok (.aload_n 0, 1) := by decide +kernel
theorem d_Al_isAgainst_47 : decode b_Al_isAgainst 47 = .ok (.iload_n 3, 1) := by decide +kernel
theorem d_Al_isAgainst_48 : decode b_Al_isAgainst 48 = .ok (.iload_n 2, 1) := by decide +kernel
theorem d_Al_isAgainst_49 : decode b_Al_isAgainst 49 = .ok (.invokevirtual 72, 3) := by decide +kernel
theorem d_Al_isAgainst_52 : decode b_Al_isAgainst 52 = .ok (.if_icmp .eq 7, 3) := by decide +kernel
theorem d_Al_isAgainst_55 : decode b_Al_isAgainst 55 = .ok (.iconst 1, 1) := by decide +kernel
theorem d_Al_isAgainst_56 : decode b_Al_isAgainst 56 = .ok (.goto 4, 3) := by decide +kernel
theorem d_Al_isAgainst_59 : decode b_Al_isAgainst 59 = .ok (.iconst 0, 1) := by decide +kernel
theorem d_Al_isAgainst_60 : decode b_Al_isAgainst 60 = .ok (.ireturn, 1) := by decide +kernel
theorem d_Al_isAgainst_61 : decode b_Al_isAgainst 61 = .ok (.iload_n 2, 1) := by decide +kernel
theorem d_Al_isAgainst_62 : decode b_Al_isAgainst 62 = .ok (.iload_n 3, 1) := by decide +kernel
theorem d_Al_isAgainst_63 : decode b_Al_isAgainst 63 = .ok (.if_icmp .eq 17, 3) := by decide +kernel
theorem d_Al_isAgainst_66 : decode b_Al_isAgainst 66 = .ok (.aload_n 0, 1) := by decide +kernel
theorem d_Al_isAgainst_67 : decode b_Al_isAgainst 67 = .ok (.iconst 3, 1) := by decide +kernel
theorem d_Al_isAgainst_68 : decode b_Al_isAgainst 68 = .ok (.iload_n 2, 1) := by decide +kernel
theorem d_Al_isAgainst_69 : decode b_Al_isAgainst 69 = .ok (.iload_n 3, 1) := by decide +kernel
theorem d_Al_isAgainst_70 : decode b_Al_isAgainst 70 = .ok (.invokevirtual 79, 3) := by decide +kernel
theorem d_Al_isAgainst_73 : decode b_Al_isAgainst 73 = .ok (.ifCond .eq 7, 3) := by decide +kernel
theorem d_Al_isAgainst_76 : decode b_Al_isAgainst 76 = .ok (.iconst 1, 1) := by decide +kernel
theorem d_Al_isAgainst_77 : decode b_Al_isAgainst 77 = .ok (.goto 4, 3) := by decide +kernel
theorem d_Al_isAgainst_80 : decode b_Al_isAgainst 80 = .ok (.iconst 0, 1) := by decide +kernel
theorem d_Al_isAgainst_81 : decode b_Al_isAgainst 81 = .ok (.ireturn, 1) := by decide +kernel
theorem d_Al_isAgainst_82 : decode b_Al_isAgainst 82 = .ok (.iload_n 2, 1) := by decide +kernel
theorem d_Al_isAgainst_83 : decode b_Al_isAgainst 83 = .ok (.iload_n 3, 1) := by decide +kernel
theorem d_Al_isAgainst_84 : decode b_Al_isAgainst 84 = .ok (.if_icmp .eq 17, 3) := by decide +kernel
theorem d_Al_isAgainst_87 : decode b_Al_isAgainst 87 = .ok (.aload_n 0, 1) := by decide +kernel
theorem d_Al_isAgainst_88 : decode b_Al_isAgainst 88 = .ok (.iconst 0, 1) := by decide +kernel
theorem d_Al_isAgainst_89 : decode b_Al_isAgainst 89 = .ok (.iload_n 2, 1) := by decide +kernel
theorem d_Al_isAgainst_90 : decode b_Al_isAgainst 90 = .ok (.iload_n 3, 1) := by decide +kernel
theorem d_Al_isAgainst_91 : decode b_Al_isAgainst 91 = .ok (.invokevirtual 79, 3) := by decide +kernel
theorem d_Al_isAgainst_94 : decode b_Al_isAgainst 94 = .ok (.ifCond .eq 7, 3) := by decide +kernel
theorem d_Al_isAgainst_97 : decode b_Al_isAgainst 97 = .ok (.iconst 1, 1) := by decide +kernel
theorem d_Al_isAgainst_98 : decode b_Al_isAgainst 98 = .ok (.goto 4, 3) := by decide +kernel
theorem d_Al_isAgainst_101 : decode b_Al_isAgainst 101 = .ok (.iconst 0, 1) := by decide +kernel
theorem d_Al_isAgainst_102 : decode b_Al_isAgainst 102 = .ok (.ireturn, 1) := by decide +kernel
theorem d_Al_isAgainst_103 : decode b_Al_isAgainst 103 = .ok (.iload_n 2, 1) := by decide +kernel
theorem d_Al_isAgainst_104 : decode b_Al_isAgainst 104 = .ok (.iload_n 3, 1) := by decide +kernel
theorem d_Al_isAgainst_105 : decode b_Al_isAgainst 105 = .ok (.if_icmp .eq 17, 3) := by decide +kernel
theorem d_Al_isAgainst_108 : decode b_Al_isAgainst 108 = .ok (.aload_n 0, 1) := by decide +kernel
theorem d_Al_isAgainst_109 : decode b_Al_isAgainst 109 = .ok (.iconst 1, 1) := by decide +kernel
theorem d_Al_isAgainst_110 : decode b_Al_isAgainst 110 = .ok (.iload_n 2, 1) := by decide +kernel
theorem d_Al_isAgainst_111 : decode b_Al_isAgainst 111 = .ok (.iload_n 3, 1) := by decide +kernel
theorem d_Al_isAgainst_112 : decode b_Al_isAgainst 112 = .ok (.invokevirtual 79, 3) := by decide +kernel
theorem d_Al_isAgainst_115 : decode b_Al_isAgainst 115 = .ok (.ifCond .eq 7, 3) := by decide +kernel
theorem d_Al_isAgainst_118 : decode b_Al_isAgainst 118 = .ok (.iconst 1, 1) := by decide +kernel
theorem d_Al_isAgainst_119 : decode b_Al_isAgainst 119 = .ok (.goto 4, 3) := by decide +kernel
theorem d_Al_isAgainst_122 : decode b_Al_isAgainst 122 = .ok (.iconst 0, 1) := by decide +kernel
theorem d_Al_isAgainst_123 : decode b_Al_isAgainst 123 = .ok (.ireturn, 1) := by decide +kernel
theorem d_Al_isAgainst_124 : decode b_Al_isAgainst 124 = .ok (.iload_n 2, 1) := by decide +kernel
theorem d_Al_isAgainst_125 : decode b_Al_isAgainst 125 = .ok (.iload_n 3, 1) := by decide +kernel
theorem d_Al_isAgainst_126 : decode b_Al_isAgainst 126 = .ok (.if_icmp .eq 17, 3) := by decide +kernel
theorem d_Al_isAgainst_129 : decode b_Al_isAgainst 129 = .ok (.aload_n 0, 1) := by decide +kernel
theorem d_Al_isAgainst_130 : decode b_Al_isAgainst 130 = .ok (.iconst 2, 1) := by decide +kernel
theorem d_Al_isAgainst_131 : decode b_Al_isAgainst 131 = .ok (.iload_n 2, 1) := by decide +kernel
theorem d_Al_isAgainst_132 : decode b_Al_isAgainst 132 = .ok (.iload_n 3, 1) := by decide +kernel
theorem d_Al_isAgainst_133 : decode b_Al_isAgainst 133 = .ok (.invokevirtual 79, 3) := by decide +kernel
theorem d_Al_isAgainst_136 : decode b_Al_isAgainst 136 = .ok (.ifCond .eq 7, 3) := by decide +kernel
theorem d_Al_isAgainst_139 : decode b_Al_isAgainst 139 = .ok (.iconst 1, 1) := by decide +kernel
theorem d_Al_isAgainst_140 : decode b_Al_isAgainst 140 = .ok (.goto 4, 3) := by decide +kernel
theorem d_Al_isAgainst_143 : decode b_Al_isAgainst 143 = .ok (.iconst 0, 1) := by decide +kernel
theorem d_Al_isAgainst_144 : decode b_Al_isAgainst 144 = .ok (.ireturn, 1) := by decide +kernel
theorem d_Al_isAgainst_145 : decode b_Al_isAgainst 145 = .ok (.iload_n 2, 1) := by decide +kernel
theorem d_Al_isAgainst_146 : decode b_Al_isAgainst 146 = .ok (.iload_n 3, 1) := by decide +kernel
theorem d_Al_isAgainst_147 : decode b_Al_isAgainst 147 = .ok (.if_icmp .ne 20, 3) := by decide +kernel
theorem d_Al_isAgainst_150 : decode b_Al_isAgainst 150 = .ok (.aload_n 0, 1) := by decide +kernel
theorem d_Al_isAgainst_151 : decode b_Al_isAgainst 151 = .ok (.getfield 31, 3) := by decide +kernel
theorem d_Al_isAgainst_154 : decode b_Al_isAgainst 154 = .ok (.iload_n 2, 1) := by decide +kernel
theorem d_Al_isAgainst_155 : decode b_Al_isAgainst 155 = .ok (.laload, 1) := by decide +kernel
theorem d_Al_isAgainst_156 : decode b_Al_isAgainst 156 = .ok (.lconst 1, 1) := by decide +kernel
theorem d_Al_isAgainst_157 : decode b_Al_isAgainst 157 = .ok (.land, 1) := by decide +kernel
theorem d_Al_isAgainst_158 : decode b_Al_isAgainst 158 = .ok (.lconst 0, 1) := by decide +kernel
theorem d_Al_isAgainst_159 : decode b_Al_isAgainst 159 = .ok (.lcmp, 1) := by decide +kernel
theorem d_Al_isAgainst_160 : decode b_Al_isAgainst 160 = .ok (.ifCond .ne 7, 3) := by decide +kernel
theorem d_Al_isAgainst_163 : decode b_Al_isAgainst 163 = .ok (.iconst 1, 1) := by decide +kernel
theorem d_Al_isAgainst_164 : decode b_Al_isAgainst 164 = .ok (.goto 4, 3) := by decide +kernel
theorem d_Al_isAgainst_167 : decode b_Al_isAgainst 167 = .ok (.iconst 0, 1) := by decide +kernel
theorem d_Al_isAgainst_168 : decode b_Al_isAgainst 168 = .ok (.ireturn, 1) := by decide +kernel
theorem d_Al_isAgainst_169 : decode b_Al_isAgainst 169 = .ok (.iconst 0, 1) := by decide +kernel
theorem d_Al_isAgainst_170 : decode b_Al_isAgainst 170 = .ok (.ireturn, 1) := by decide +kernel
theorem d_Mo_init_0 : decode b_Mo_init 0 = .ok (.aload_n 0, 1) := by decide +kernel
theorem d_Mo_init_1 : decode b_Mo_init 1 = .ok (.invokespecial 1, 3) := by decide +kernel
theorem d_Mo_init_4 : decode b_Mo_init 4 = .ok (.aload_n 0, 1) := by decide +kernel
theorem d_Mo_init_5 : decode b_Mo_init 5 = .ok (.bipush 12, 2) := by decide +kernel
theorem d_Mo_init_7 : decode b_Mo_init 7 = .ok (.newarray .int, 2) := by decide +kernel
theorem d_Mo_init_9 : decode b_Mo_init 9 = .ok (.putfield 7, 3) := by decide +kernel
theorem d_Mo_init_12 : decode b_Mo_init 12 = .ok (.aload_n 0, 1) := by decide +kernel
theorem d_Mo_init_13 : decode b_Mo_init 13 = .ok (.sipush 144, 3) := by decide +kernel
theorem d_Mo_init_16 : decode b_Mo_init 16 = .ok (.newarray .int, 2) := by decide +kernel
theorem d_Mo_init_18 : decode b_Mo_init 18 = .ok (.putfield 13, 3) := by decide +kernel
theorem d_Mo_init_21 : decode b_Mo_init 21 = .ok (.aload_n 0, 1) := by decide +kernel
theorem d_Mo_init_22 : decode b_Mo_init 22 = .ok (.bipush 12, 2) := by decide +kernel
theorem d_Mo_init_24 : decode b_Mo_init 24 = .ok (.newarray .int, 2) := by decide +kernel
theorem d_Mo_init_26 : decode b_Mo_init 26 = .ok (.putfield 16, 3) := by decide +kernel
theorem d_Mo_init_29 : decode b_Mo_init 29 = .ok (.aload_n 0, 1) := by decide +kernel
theorem d_Mo_init_30 : decode b_Mo_init 30 = .ok (.sipush 384, 3) := by decide +kernel
theorem d_Mo_init_33 : decode b_Mo_init 33 = .ok (.newarray .long, 2) := by decide +kernel
theorem d_Mo_init_35 : decode b_Mo_init 35 = .ok (.putfield 19, 3) := by decide +kernel
theorem d_Mo_init_38 : decode b_Mo_init 38 = .ok (.aload_n 0, 1) := by decide +kernel
theorem d_Mo_init_39 : decode b_Mo_init 39 = .ok (.sipush 384, 3) := by decide +kernel
theorem d_Mo_init_42 : decode b_Mo_init 42 = .ok (.newarray .long, 2) := by decide +kernel
theorem d_Mo_init_44 : decode b_Mo_init 44 = .ok (.putfield 23, 3) := by decide +kernel
theorem d_Mo_init_47 : decode b_Mo_init 47 = .ok (.aload_n 0, 1) := by decide +kernel
theorem d_Mo_init_48 : decode b_Mo_init 48 = .ok (.bipush 7, 2) := by decide +kernel
theorem d_Mo_init_50 : decode b_Mo_init 50 = .ok (.newarray .int, 2) := by decide +kernel
theorem d_Mo_init_52 : decode b_Mo_init 52 = .ok (.putfield 26, 3) := by decide +kernel
theorem d_Mo_init_55 : decode b_Mo_init 55 = .ok (.aload_n 0, 1) := by decide +kernel
theorem d_Mo_init_56 : decode b_Mo_init 56 = .ok (.sipush 384, 3) := by decide +kernel
theorem d_Mo_init_59 : decode b_Mo_init 59 = .ok (.newarray .int, 2) := by decide +kernel
theorem d_Mo_init_61 : decode b_Mo_init 61 = .ok (.putfield 29, 3) := by decide +kernel
theorem d_Mo_init_64 : decode b_Mo_init 64 = .ok (.aload_n 0, 1) := by decide +kernel
theorem d_Mo_init_65 : decode b_Mo_init 65 = .ok (.sipush 384, 3) := by decide +kernel
theorem d_Mo_init_68 : decode b_Mo_init 68 = .ok (.newarray .boolean, 2) := by decide +kernel
theorem d_Mo_init_70 : decode b_Mo_init 70 = .ok (.putfield 32, 3) := by decide +kernel
theorem d_Mo_init_73 : decode b_Mo_init 73 = .ok (.aload_n 0, 1) := by decide +kernel
theorem d_Mo_init_74 : decode b_Mo_init 74 = .ok (.bipush 60, 2) := by decide +kernel
theorem d_Mo_init_76 : decode b_Mo_init 76 = .ok (.newarray .int, 2) := by decide +kernel
theorem d_Mo_init_78 : decode b_Mo_init 78 = .ok (.putfield 36, 3) := by decide +kernel
theorem d_Mo_init_81 : decode b_Mo_init 81 = .ok (.aload_n 0, 1) := by decide +kernel
theorem d_Mo_init_82 : decode b_Mo_init 82 = .ok (.bipush 60, 2) := by decide +kernel
theorem d_Mo_init_84 : decode b_Mo_init 84 = .ok (.newarray .long, 2) := by decide +kernel
theorem d_Mo_init_86 : decode b_Mo_init 86 = .ok (.putfield 39, 3) := by decide +kernel
theorem d_Mo_init_89 : decode b_Mo_init 89 = .ok (.aload_n 0, 1) := by decide +kernel
theorem d_Mo_init_90 : decode b_Mo_init 90 = .ok (.bipush 61, 2) := by decide +kernel
theorem d_Mo_init_92 : decode b_Mo_init 92 = .ok (.newarray .int, 2) := by decide +kernel
theorem d_Mo_init_94 : decode b_Mo_init 94 = .ok (.putfield 42, 3) := by decide +kernel
theorem d_Mo_init_97 : decode b_Mo_init 97 = .ok (.aload_n 0, 1) := by decide +kernel
theorem d_Mo_init_98 : decode b_Mo_init 98 = .ok (.bipush 61, 2) := by decide +kernel
theorem d_Mo_init_100 : decode b_Mo_init 100 = .ok (.newarray .long, 2) := by decide +kernel
theorem d_Mo_init_102 : decode b_Mo_init 102 = .ok (.putfield 45, 3) := by decide +kernel
theorem d_Mo_init_105 : decode b_Mo_init 105 = .ok (.aload_n 0, 1) := by decide +kernel
theorem d_Mo_init_106 : decode b_Mo_init 106 = .ok (.sipush 3600, 3) := by decide +kernel
theorem d_Mo_init_109 : decode b_Mo_init 109 = .ok (.newarray .int, 2) := by decide +kernel
theorem d_Mo_init_111 : decode b_Mo_init 111 = .ok (.putfield 48, 3) := by decide +kernel
theorem d_Mo_init_114 : decode b_Mo_init 114 = .ok (.return_, 1) := by decide +kernel
theorem d_Mo_basic_0 : decode b_Mo_basic 0 = .ok (.iload_n 1, 1) := by decide +kernel
theorem d_Mo_basic_1 : decode b_Mo_basic 1 = .ok (.ifCond .lt 8, 3) := by decide +kernel
theorem d_Mo_basic_4 : decode b_Mo_basic 4 = .ok (.iload_n 1, 1) := by decide +kernel
theorem d_Mo_basic_5 : decode b_Mo_basic 5 = .ok (.iconst 3, 1) := by decide +kernel
theorem d_Mo_basic_6 : decode b_Mo_basic 6 = .ok (.if_icmp .le 7, 3) := by decide +kernel
theorem d_Mo_basic_9 : decode b_Mo_basic 9 = .ok (.iconst (-1), 1) := by decide +kernel
theorem d_Mo_basic_10 : decode b_Mo_basic 10 = .ok (.goto 10, 3) := by decide +kernel
theorem d_Mo_basic_13 : decode b_Mo_basic 13 = .ok (.aload_n 0, 1) := by decide +kernel
theorem d_Mo_basic_14 : decode b_Mo_basic 14 = .ok (.iconst 0, 1) := by decide +kernel
theorem d_Mo_basic_15 : decode b_Mo_basic 15 = .ok (.iload_n 1, 1) := by decide +kernel
theorem d_Mo_basic_16 : decode b_Mo_basic 16 = .ok (.iconst 0, 1) := by decide +kernel
theorem d_Mo_basic_17 : decode b_Mo_basic 17 = .ok (.invokevirtual 102, 3) := by decide +kernel
theorem d_Mo_basic_20 : decode b_Mo_basic 20 = .ok (.ireturn, 1) := by decide +kernel
theorem d_Mo_make_0 : decode b_Mo_make 0 = .ok (.aload_n 0, 1) := by decide +kernel
theorem d_Mo_make_1 : decode b_Mo_make 1 = .ok (.getfield 51, 3) := by decide +kernel
theorem d_Mo_make_4 : decode b_Mo_make 4 = .ok (.bipush 12, 2) := by decide +kernel
theorem d_Mo_make_6 : decode b_Mo_make 6 = .ok (.if_icmp .lt 6, 3) := by decide +kernel
theorem d_Mo_make_9 : decode b_Mo_make 9 = .ok (.bipush (-2), 2) := by decide +kernel
theorem d_Mo_make_11 : decode b_Mo_make 11 = .ok (.ireturn, 1) := by decide +kernel
theorem d_Mo_make_12 : decode b_Mo_make 12 = .ok (.aload_n 0, 1) := by decide +kernel
theorem d_Mo_make_13 : decode b_Mo_make 13 = .ok (.iload_n 1, 1) := by decide +kernel
theorem d_Mo_make_14 : decode b_Mo_make 14 = .ok (.putfield 59, 3) := by decide +kernel
theorem d_Mo_make_17 : decode b_Mo_make 17 = .ok (.aload_n 0, 1) := by decide +kernel
theorem d_Mo_make_18 : decode b_Mo_make 18 = .ok (.iload_n 2, 1) := by decide +kernel
theorem d_Mo_make_19 : decode b_Mo_make 19 = .ok (.putfield 62, 3) := by decide +kernel
theorem d_Mo_make_22 : decode b_Mo_make 22 = .ok (.aload_n 0, 1) := by decide +kernel
theorem d_Mo_make_23 : decode b_Mo_make 23 = .ok (.iload_n 3, 1) := by decide +kernel
theorem d_Mo_make_24 : decode b_Mo_make 24 = .ok (.putfield 69, 3) := by decide +kernel
theorem d_Mo_make_27 : decode b_Mo_make 27 = .ok (.aload_n 0, 1) := by decide +kernel
theorem d_Mo_make_28 : decode b_Mo_make 28 = .ok (.invokevirtual 96, 3) := by decide +kernel
theorem d_Mo_make_31 : decode b_Mo_make 31 = .ok (.aload_n 0, 1) := by decide +kernel
theorem d_Mo_make_32 : decode b_Mo_make 32 = .ok (.invokevirtual 99, 3) := by decide +kernel
theorem d_Mo_make_35 : decode b_Mo_make 35 = .ok (.bipush 6, 2) := by decide +kernel
theorem d_Mo_make_37 : decode b_Mo_make 37 = .ok (.if_icmp .le 6, 3) := by decide +kernel
theorem d_Mo_make_40 : decode b_Mo_make 40 = .ok (.bipush (-3), 2) := by decide +kernel
theorem d_Mo_make_42 : decode b_Mo_make 42 = .ok (.ireturn, 1) := by decide +kernel
theorem d_Mo_make_43 : decode b_Mo_make 43 = .ok (.iconst 1, 1) := by decide +kernel
theorem d_Mo_make_44 : decode b_Mo_make 44 = .ok (.istore 4, 2) := by decide +kernel
theorem d_Mo_make_46 : decode b_Mo_make 46 = .ok (.aload_n 0, 1) := by decide +kernel
theorem d_Mo_make_47 : decode b_Mo_make 47 = .ok (.getfield 26, 3) := by decide +kernel
theorem d_Mo_make_50 : decode b_Mo_make 50 = .ok (.iconst 0, 1) := by decide +kernel
theorem d_Mo_make_51 : decode b_Mo_make 51 = .ok (.aload_n 0, 1) := by decide +kernel
theorem d_Mo_make_52 : decode b_Mo_make 52 = .ok (.invokevirtual 93, 3) := by decide +kernel
theorem d_Mo_make_55 : decode b_Mo_make 55 = .ok (.iastore, 1) := by decide +kernel
theorem d_Mo_make_56 : decode b_Mo_make 56 = .ok (.iconst 0, 1) := by decide +kernel
theorem d_Mo_make_57 : decode b_Mo_make 57 = .ok (.istore 5, 2) := by decide +kernel
theorem d_Mo_make_59 : decode b_Mo_make 59 = .ok (.iconst 0, 1) := by decide +kernel
theorem d_Mo_make_60 : decode b_Mo_make 60 = .ok (.istore 6, 2) := by decide +kernel
theorem d_Mo_make_62 : decode b_Mo_make 62 = .ok (.iload 6, 2) := by decide +kernel
theorem d_Mo_make_64 : decode b_Mo_make 64 = .ok (.iload 4, 2) := by decide +kernel
theorem d_Mo_make_66 : decode b_Mo_make 66 = .ok (.if_icmp .ge 140, 3) := by decide +kernel
theorem d_Mo_make_69 : decode b_Mo_make 69 = .ok (.iconst 0, 1) := by decide +kernel
theorem d_Mo_make_70 : decode b_Mo_make 70 = .ok (.istore 7, 2) := by decide +kernel
theorem d_Mo_make_72 : decode b_Mo_make 72 = .ok (.iload 7, 2) := by decide +kernel
theorem d_Mo_make_74 : decode b_Mo_make 74 = .ok (.iconst 2, 1) := by decide +kernel
theorem d_Mo_make_75 : decode b_Mo_make 75 = .ok (.if_icmp .ge 97, 3) := by decide +kernel
theorem d_Mo_make_78 : decode b_Mo_make 78 = .ok (.aload_n 0, 1) := by decide +kernel
theorem d_Mo_make_79 : decode b_Mo_make 79 = .ok (.aload_n 0, 1) := by decide +kernel
theorem d_Mo_make_80 : decode b_Mo_make 80 = .ok (.getfield 26, 3) := by decide +kernel
theorem d_Mo_make_83 : decode b_Mo_make 83 = .ok (.iload 6, 2) := by decide +kernel
theorem d_Mo_make_85 : decode b_Mo_make 85 = .ok (.iaload, 1) := by decide +kernel
theorem d_Mo_make_86 : decode b_Mo_make 86 = .ok (.iload 7, 2) := by decide +kernel
theorem d_Mo_make_88 : decode b_Mo_make 88 = .ok (.invokevirtual 90, 3) := by decide +kernel
theorem d_Mo_make_91 : decode b_Mo_make 91 = .ok (.istore 8, 2) := by decide +kernel
theorem d_Mo_make_93 : decode b_Mo_make 93 = .ok (.iconst 0, 1) := by decide +kernel
theorem d_Mo_make_94 : decode b_Mo_make 94 = .ok (.istore 9, 2) := by decide +kernel
theorem d_Mo_make_96 : decode b_Mo_make 96 = .ok (.iload 9, 2) := by decide +kernel
theorem d_Mo_make_98 : decode b_Mo_make 98 = .ok (.iload 4, 2) := by decide +kernel
theorem d_Mo_make_100 : decode b_Mo_make 100 = .ok (.if_icmp .ge 32, 3) := by decide +kernel
theorem d_Mo_make_103 : decode b_Mo_make 103 = .ok (.aload_n 0, 1) := by decide +kernel
theorem d_Mo_make_104 : decode b_Mo_make 104 = .ok (.getfield 19, 3) := by decide +kernel
theorem d_Mo_make_107 : decode b_Mo_make 107 = .ok (.aload_n 0, 1) := by decide +kernel
theorem d_Mo_make_108 : decode b_Mo_make 108 = .ok (.getfield 26, 3) := by decide +kernel
theorem d_Mo_make_111 : decode b_Mo_make 111 = .ok (.iload 9, 2) := by decide +kernel
theorem d_Mo_make_113 : decode b_Mo_make 113 = .ok (.iaload, 1) := by decide +kernel
theorem d_Mo_make_114 : decode b_Mo_make 114 = .ok (.laload, 1) := by decide +kernel
theorem d_Mo_make_115 : decode b_Mo_make 115 = .ok (.aload_n 0, 1) := by decide +kernel
theorem d_Mo_make_116 : decode b_Mo_make 116 = .ok (.getfield 19, 3) := by decide +kernel
theorem d_Mo_make_119 : decode b_Mo_make 119 = .ok (.iload 8, 2) := by decide +kernel
theorem d_Mo_make_121 : decode b_Mo_make 121 = .ok (.laload, 1) := by decide +kernel
theorem d_Mo_make_122 : decode b_Mo_make 122 = .ok (.lcmp, 1) := by decide +kernel
theorem d_Mo_make_123 : decode b_Mo_make 123 = .ok (.ifCond .eq 9, 3) := by decide +kernel
theorem d_Mo_make_126 : decode b_Mo_make 126 = .ok (.iinc 9 1, 3) := by decide +kernel
theorem d_Mo_make_129 : decode b_Mo_make 129 = .ok (.goto (-33), 3) := by decide +kernel
theorem d_Mo_make_132 : decode b_Mo_make 132 = .ok (.iload 9, 2) := by decide +kernel
theorem d_Mo_make_134 : decode b_Mo_make 134 = .ok (.iload 4, 2) := by decide +kernel
theorem d_Mo_make_136 : decode b_Mo_make 136 = .ok (.if_icmp .ne 15, 3) := by decide +kernel
theorem d_Mo_make_139 : decode b_Mo_make 139 = .ok (.aload_n 0, 1) := by decide +kernel
theorem d_Mo_make_140 : decode b_Mo_make 140 = .ok (.getfield 26, 3) := by decide +kernel
theorem d_Mo_make_143 : decode b_Mo_make 143 = .ok (.iload 4, 2) := by decide +kernel
theorem d_Mo_make_145 : decode b_Mo_make 145 = .ok (.iload 8, 2) := by decide +kernel
theorem d_Mo_make_147 : decode b_Mo_make 147 = .ok (.iastore, 1) := by decide +kernel
theorem d_Mo_make_148 : decode b_Mo_make 148 = .ok (.iinc 4 1, 3) := by decide +kernel
theorem d_Mo_make_151 : decode b_Mo_make 151 = .ok (.aload_n 0, 1) := by decide +kernel
theorem d_Mo_make_152 : decode b_Mo_make 152 = .ok (.getfield 23, 3) := by decide +kernel
theorem d_Mo_make_155 : decode b_Mo_make 155 = .ok (.iconst 2, 1) := by decide +kernel
theorem d_Mo_make_156 : decode b_Mo_make 156 = .ok (.iload 6, 2) := by decide +kernel
theorem d_Mo_make_158 : decode b_Mo_make 158 = .ok (.imul, 1) := by decide +kernel
theorem d_Mo_make_159 : decode b_Mo_make 159 = .ok (.iload 7, 2) := by decide +kernel
theorem d_Mo_make_161 : decode b_Mo_make 161 = .ok (.iadd, 1) := by decide +kernel
theorem d_Mo_make_162 : decode b_Mo_make 162 = .ok (.iload 9, 2) := by decide +kernel
theorem d_Mo_make_164 : decode b_Mo_make 164 = .ok (.i2l, 1) := by decide +kernel
theorem d_Mo_make_165 : decode b_Mo_make 165 = .ok (.lastore, 1) := by decide +kernel
theorem d_Mo_make_166 : decode b_Mo_make 166 = .ok (.iinc 7 1, 3) := by decide +kernel
theorem d_Mo_make_169 : decode b_Mo_make 169 = .ok (.goto (-97), 3) := by decide +kernel
theorem d_Mo_make_172 : decode b_Mo_make 172 = .ok (.aload_n 0, 1) := by decide +kernel
theorem d_Mo_make_173 : decode b_Mo_make 173 = .ok (.aload_n 0, 1) := by decide +kernel
theorem d_Mo_make_174 : decode b_Mo_make 174 = .ok (.getfield 26, 3) := by decide +kernel
theorem d_Mo_make_177 : decode b_Mo_make 177 = .ok (.iload 6, 2) := by decide +kernel
theorem d_Mo_make_179 : decode b_Mo_make 179 = .ok (.iaload, 1) := by decide +kernel
theorem d_Mo_make_180 : decode b_Mo_make 180 = .ok (.invokevirtual 86, 3) := by decide +kernel
theorem d_Mo_make_183 : decode b_Mo_make 183 = .ok (.ifCond .eq 13, 3) := by decide +kernel
theorem d_Mo_make_186 : decode b_Mo_make 186 = .ok (.iload 5, 2) := by decide +kernel
theorem d_Mo_make_188 : decode b_Mo_make 188 = .ok (.iconst 1, 1) := by decide +kernel
theorem d_Mo_make_189 : decode b_Mo_make 189 = .ok (.iload 6, 2) := by decide +kernel
theorem d_Mo_make_191 : decode b_Mo_make 191 = .ok (.ishl, 1) := by decide +kernel
theorem d_Mo_make_192 : decode b_Mo_make 192 = .ok (.ior, 1) := by decide +kernel
theorem d_Mo_make_193 : decode b_Mo_make 193 = .ok (.goto 5, 3) := by decide +kernel
theorem d_Mo_make_196 : decode b_Mo_make 196 = .ok (.iload 5, 2) := by decide +kernel
theorem d_Mo_make_198 : decode b_Mo_make 198 = .ok (.istore 5, 2) := by decide +kernel
theorem d_Mo_make_200 : decode b_Mo_make 200 = .ok (.iinc 6 1, 3) := by decide +kernel
theorem d_Mo_make_203 : decode b_Mo_make 203 = .ok (.goto (-141), 3) := by decide +kernel
theorem d_Mo_make_206 : decode b_Mo_make 206 = .ok (.iconst 0, 1) := by decide +kernel
theorem d_Mo_make_207 : decode b_Mo_make 207 = .ok (.istore 6, 2) := by decide +kernel
theorem d_Mo_make_209 : decode b_Mo_make 209 = .ok (.iload 6, 2) := by decide +kernel
theorem d_Mo_make_211 : decode b_Mo_make 211 = .ok (.iconst 2, 1) := by decide +kernel
theorem d_Mo_make_212 : decode b_Mo_make 212 = .ok (.iload 4, 2) := by decide +kernel
theorem d_Mo_make_214 : decode b_Mo_make 214 = .ok (.imul, 1) := by decide +kernel
theorem d_Mo_make_215 : decode b_Mo_make 215 = .ok (.if_icmp .ge 32, 3) := by decide +kernel
theorem d_Mo_make_218 : decode b_Mo_make 218 = .ok (.aload_n 0, 1) := by decide +kernel
theorem d_Mo_make_219 : decode b_Mo_make 219 = .ok (.getfield 13, 3) := by decide +kernel
theorem d_Mo_make_222 : decode b_Mo_make 222 = .ok (.bipush 12, 2) := by decide +kernel
theorem d_Mo_make_224 : decode b_Mo_make 224 = .ok (.aload_n 0, 1) := by decide +kernel
theorem d_Mo_make_225 : decode b_Mo_make 225 = .ok (.getfield 51, 3) := by decide +kernel
theorem d_Mo_make_228 : decode b_Mo_make 228 = .ok (.imul, 1) := by decide +kernel
theorem d_Mo_make_229 : decode b_Mo_make 229 = .ok (.iload 6, 2) := by decide +kernel
theorem d_Mo_make_231 : decode b_Mo_make 231 = .ok (.iadd, 1) := by decide +kernel
theorem d_Mo_make_232 : decode b_Mo_make 232 = .ok (.aload_n 0, 1) := by decide +kernel
theorem d_Mo_make_233 : decode b_Mo_make 233 = .ok (.getfield 23, 3) := by decide +kernel
theorem d_Mo_make_236 : decode b_Mo_make 236 = .ok (.iload 6, 2) := by decide +kernel
theorem d_Mo_make_238 : decode b_Mo_make 238 = .ok (.laload, 1) := by decide +kernel
theorem d_Mo_make_239 : decode b_Mo_make 239 = .ok (.l2i, 1) := by decide +kernel
theorem d_Mo_make_240 : decode b_Mo_make 240 = .ok (.iastore, 1) := by decide +kernel
theorem d_Mo_make_241 : decode b_Mo_make 241 = .ok (.iinc 6 1, 3) := by decide +kernel
theorem d_Mo_make_244 : decode b_Mo_make 244 = .ok (.goto (-35), 3) := by decide +kernel
theorem d_Mo_make_247 : decode b_Mo_make 247 = .ok (.aload_n 0, 1) := by decide +kernel
theorem d_Mo_make_248 : decode b_Mo_make 248 = .ok (.getfield 7, 3) := by decide +kernel
theorem d_Mo_make_251 : decode b_Mo_make 251 = .ok (.aload_n 0, 1) := by decide +kernel
theorem d_Mo_make_252 : decode b_Mo_make 252 = .ok (.getfield 51, 3) := by decide +kernel
theorem d_Mo_make_255 : decode b_Mo_make 255 = .ok (.iload 4, 2) := by decide +kernel
theorem d_Mo_make_257 : decode b_Mo_make 257 = .ok (.iastore, 1) := by decide +kernel
theorem d_Mo_make_258 : decode b_Mo_make 258 = .ok (.aload_n 0, 1) := by decide +kernel
theorem d_Mo_make_259 : decode b_Mo_make 259 = .ok (.getfield 16, 3) := by decide +kernel
theorem d_Mo_make_262 : decode b_Mo_make 262 = .ok (.aload_n 0, 1) := by decide +kernel
theorem d_Mo_make_263 : decode b_Mo_make 263 = .ok (.getfield 51, 3) := by decide +kernel
theorem d_Mo_make_266 : decode b_Mo_make 266 = .ok (.iload 5, 2) := by decide +kernel
theorem d_Mo_make_268 : decode b_Mo_make 268 = .ok (.iastore, 1) := by decide +kernel
theorem d_Mo_make_269 : decode b_Mo_make 269 = .ok (.aload_n 0, 1) := by decide +kernel
theorem d_Mo_make_270 : decode b_Mo_make 270 = .ok (.dup, 1) := by decide +kernel
theorem d_Mo_make_271 : decode b_Mo_make 271 = .ok (.getfield 51, 3) := by decide +kernel
theorem d_Mo_make_274 : decode b_Mo_make 274 = .ok (.iconst 1, 1) := by decide +kernel
theorem d_Mo_make_275 : decode b_Mo_make 275 = .ok (.iadd, 1) := by decide +kernel
theorem d_Mo_make_276 : decode b_Mo_make 276 = .ok (.putfield 51, 3) := by decide +kernel
theorem d_Mo_make_279 : decode b_Mo_make 279 = .ok (.aload_n 0, 1) := by decide +kernel
theorem d_Mo_make_280 : decode b_Mo_make 280 = .ok (.getfield 51, 3) := by decide +kernel
theorem d_Mo_make_283 : decode b_Mo_make 283 = .ok (.iconst 1, 1) := by decide +kernel
theorem d_Mo_make_284 : decode b_Mo_make 284 = .ok (.isub, 1) := by decide +kernel
theorem d_Mo_make_285 : decode b_Mo_make 285 = .ok (.ireturn, 1) := by decide +kernel
theorem d_Mo_listen_0 : decode b_Mo_listen 0 = .ok (.aload_n 0, 1) := by decide +kernel
theorem d_Mo_listen_1 : decode b_Mo_listen 1 = .ok (.invokevirtual 82, 3) := by decide +kernel
theorem d_Mo_listen_4 : decode b_Mo_listen 4 = .ok (.istore_n 1, 1) := by decide +kernel
theorem d_Mo_listen_5 : decode b_Mo_listen 5 = .ok (.iconst 1, 1) := by decide +kernel
theorem d_Mo_listen_6 : decode b_Mo_listen 6 = .ok (.istore_n 2, 1) := by decide +kernel
theorem d_Mo_listen_7 : decode b_Mo_listen 7 = .ok (.iconst 0, 1) := by decide +kernel
theorem d_Mo_listen_8 : decode b_Mo_listen 8 = .ok (.istore_n 3, 1) := by decide +kernel
theorem d_Mo_listen_9 : decode b_Mo_listen 9 = .ok (.iload_n 3, 1) := by decide +kernel
theorem d_Mo_listen_10 : decode b_Mo_listen 10 = .ok (.iload_n 1, 1) := by decide +kernel
theorem d_Mo_listen_11 : decode b_Mo_listen 11 = .ok (.if_icmp .ge 28, 3) := by decide +kernel
theorem d_Mo_listen_14 : decode b_Mo_listen 14 = .ok (.aload_n 0, 1) := by decide +kernel
theorem d_Mo_listen_15 : decode b_Mo_listen 15 = .ok (.getfield 19, 3) := by decide +kernel
theorem d_Mo_listen_18 : decode b_Mo_listen 18 = .ok (.iload_n 3, 1) := by decide +kernel
theorem d_Mo_listen_19 : decode b_Mo_listen 19 = .ok (.aload_n 0, 1) := by decide +kernel
theorem d_Mo_listen_20 : decode b_Mo_listen 20 = .ok (.iload_n 3, 1) := by decide +kernel
theorem d_Mo_listen_21 : decode b_Mo_listen 21 = .ok (.invokevirtual 86, 3) := by decide +kernel
theorem d_Mo_listen_24 : decode b_Mo_listen 24 = .ok (.ifCond .eq 7, 3) := by decide +kernel
theorem d_Mo_listen_27 : decode b_Mo_listen 27 = .ok (.lconst 1, 1) := by decide +kernel
theorem d_Mo_listen_28 : decode b_Mo_listen 28 = .ok (.goto 4, 3) := by decide +kernel
theorem d_Mo_listen_31 : decode b_Mo_listen 31 = .ok (.lconst 0, 1) := by decide +kernel
theorem d_Mo_listen_32 : decode b_Mo_listen 32 = .ok (.lastore, 1) := by decide +kernel
theorem d_Mo_listen_33 : decode b_Mo_listen 33 = .ok (.iinc 3 1, 3) := by decide +kernel
theorem d_Mo_listen_36 : decode b_Mo_listen 36 = .ok (.goto (-27), 3) := by decide +kernel
theorem d_Mo_listen_39 : decode b_Mo_listen 39 = .ok (.iconst 0, 1) := by decide +kernel
theorem d_Mo_listen_40 : decode b_Mo_listen 40 = .ok (.istore_n 3, 1) := by decide +kernel
theorem d_Mo_listen_41 : decode b_Mo_listen 41 = .ok (.iload_n 3, 1) := by decide +kernel
theorem d_Mo_listen_42 : decode b_Mo_listen 42 = .ok (.iconst 5, 1) := by decide +kernel
theorem d_Mo_listen_43 : decode b_Mo_listen 43 = .ok (.if_icmp .ge 120, 3) := by decide +kernel
theorem d_Mo_listen_46 : decode b_Mo_listen 46 = .ok (.iconst 0, 1) := by decide +kernel
theorem d_Mo_listen_47 : decode b_Mo_listen 47 = .ok (.istore 4, 2) := by decide +kernel
theorem d_Mo_listen_49 : decode b_Mo_listen 49 = .ok (.iload 4, 2) := by decide +kernel
theorem d_Mo_listen_51 : decode b_Mo_listen 51 = .ok (.iload_n 1, 1) := by decide +kernel
theorem d_Mo_listen_52 : decode b_Mo_listen 52 = .ok (.if_icmp .ge 70, 3) := by decide +kernel
theorem d_Mo_listen_55 : decode b_Mo_listen 55 = .ok (.aload_n 0, 1) := by decide +kernel
theorem d_Mo_listen_56 : decode b_Mo_listen 56 = .ok (.getfield 19, 3) := by decide +kernel
theorem d_Mo_listen_59 : decode b_Mo_listen 59 = .ok (.aload_n 0, 1) := by decide +kernel
theorem d_Mo_listen_60 : decode b_Mo_listen 60 = .ok (.iload 4, 2) := by decide +kernel
theorem d_Mo_listen_62 : decode b_Mo_listen 62 = .ok (.iconst 0, 1) := by decide +kernel
theorem d_Mo_listen_63 : decode b_Mo_listen 63 = .ok (.invokevirtual 90, 3) := by decide +kernel
theorem d_Mo_listen_66 : decode b_Mo_listen 66 = .ok (.laload, 1) := by decide +kernel
theorem d_Mo_listen_67 : decode b_Mo_listen 67 = .ok (.lstore 5, 2) := by decide +kernel
theorem d_Mo_listen_69 : decode b_Mo_listen 69 = .ok (.aload_n 0, 1) := by decide +kernel
theorem d_Mo_listen_70 : decode b_Mo_listen 70 = .ok (.getfield 19, 3) := by decide +kernel
theorem d_Mo_listen_73 : decode b_Mo_listen 73 = .ok (.aload_n 0, 1) := by decide +kernel
theorem d_Mo_listen_74 : decode b_Mo_listen 74 = .ok (.iload 4, 2) := by decide +kernel
theorem d_Mo_listen_76 : decode b_Mo_listen 76 = .ok (.iconst 1, 1) := by decide +kernel
theorem d_Mo_listen_77 : decode b_Mo_listen 77 = .ok (.invokevirtual 90, 3) := by decide +kernel
theorem d_Mo_listen_80 : decode b_Mo_listen 80 = .ok (.laload, 1) := by decide +kernel
theorem d_Mo_listen_81 : decode b_Mo_listen 81 = .ok (.lstore 7, 2) := by decide +kernel
theorem d_Mo_listen_83 : decode b_Mo_listen 83 = .ok (.aload_n 0, 1) := by decide +kernel
theorem d_Mo_listen_84 : decode b_Mo_listen 84 = .ok (.getfield 23, 3) := by decide +kernel
theorem d_Mo_listen_87 : decode b_Mo_listen 87 = .ok (.iload 4, 2) := by decide +kernel
theorem d_Mo_listen_89 : decode b_Mo_listen 89 = .ok (.aload_n 0, 1) := by decide +kernel
theorem d_Mo_listen_90 : decode b_Mo_listen 90 = .ok (.iload 4, 2) := by decide +kernel
theorem d_Mo_listen_92 : decode b_Mo_listen 92 = .ok (.invokevirtual 86, 3) := by decide +kernel
theorem d_Mo_listen_95 : decode b_Mo_listen 95 = .ok (.ifCond .eq 7, 3) := by decide +kernel
theorem d_Mo_listen_98 : decode b_Mo_listen 98 = .ok (.lconst 1, 1) := by decide +kernel
theorem d_Mo_listen_99 : decode b_Mo_listen 99 = .ok (.goto 4, 3) := by decide +kernel
theorem d_Mo_listen_102 : decode b_Mo_listen 102 = .ok (.lconst 0, 1) := by decide +kernel
theorem d_Mo_listen_103 : decode b_Mo_listen 103 = .ok (.lload 5, 2) := by decide +kernel
theorem d_Mo_listen_105 : decode b_Mo_listen 105 = .ok (.iconst 1, 1) := by decide +kernel
theorem d_Mo_listen_106 : decode b_Mo_listen 106 = .ok (.lshl, 1) := by decide +kernel
theorem d_Mo_listen_107 : decode b_Mo_listen 107 = .ok (.lor, 1) := by decide +kernel
theorem d_Mo_listen_108 : decode b_Mo_listen 108 = .ok (.lload 7, 2) := by decide +kernel
theorem d_Mo_listen_110 : decode b_Mo_listen 110 = .ok (.iconst 1, 1) := by decide +kernel
theorem d_Mo_listen_111 : decode b_Mo_listen 111 = .ok (.iload_n 2, 1) := by decide +kernel
theorem d_Mo_listen_112 : decode b_Mo_listen 112 = .ok (.iadd, 1) := by decide +kernel
theorem d_Mo_listen_113 : decode b_Mo_listen 113 = .ok (.lshl, 1) := by decide +kernel
theorem d_Mo_listen_114 : decode b_Mo_listen 114 = .ok (.lor, 1) := by decide +kernel
theorem d_Mo_listen_115 : decode b_Mo_listen 115 = .ok (.lastore, 1) := by decide +kernel
theorem d_Mo_listen_116 : decode b_Mo_listen 116 = .ok (.iinc 4 1, 3) := by decide +kernel
theorem d_Mo_listen_119 : decode b_Mo_listen 119 = .ok (.goto (-70), 3) := by decide +kernel
theorem d_Mo_listen_122 : decode b_Mo_listen 122 = .ok (.iconst 0, 1) := by decide +kernel
theorem d_Mo_listen_123 : decode b_Mo_listen 123 = .ok (.istore 4, 2) := by decide +kernel
theorem d_Mo_listen_125 : decode b_Mo_listen 125 = .ok (.iload 4, 2) := by decide +kernel
theorem d_Mo_listen_127 : decode b_Mo_listen 127 = .ok (.iload_n 1, 1) := by decide +kernel
theorem d_Mo_listen_128 : decode b_Mo_listen 128 = .ok (.if_icmp .ge 23, 3) := by decide +kernel
theorem d_Mo_listen_131 : decode b_Mo_listen 131 = .ok (.aload_n 0, 1) := by decide +kernel
theorem d_Mo_listen_132 : decode b_Mo_listen 132 = .ok (.getfield 19, 3) := by decide +kernel
theorem d_Mo_listen_135 : decode b_Mo_listen 135 = .ok (.iload 4, 2) := by decide +kernel
theorem d_Mo_listen_137 : decode b_Mo_listen 137 = .ok (.aload_n 0, 1) := by decide +kernel
theorem d_Mo_listen_138 : decode b_Mo_listen 138 = .ok (.getfield 23, 3) := by decide +kernel
theorem d_Mo_listen_141 : decode b_Mo_listen 141 = .ok (.iload 4, 2) := by decide +kernel
theorem d_Mo_listen_143 : decode b_Mo_listen 143 = .ok (.laload, 1) := by decide +kernel
theorem d_Mo_listen_144 : decode b_Mo_listen 144 = .ok (.lastore, 1) := by decide +kernel
theorem d_Mo_listen_145 : decode b_Mo_listen 145 = .ok (.iinc 4 1, 3) := by decide +kernel
theorem d_Mo_listen_148 : decode b_Mo_listen 148 = .ok (.goto (-23), 3) := by decide +kernel
theorem d_Mo_listen_151 : decode b_Mo_listen 151 = .ok (.iconst 2, 1) := by decide +kernel
theorem d_Mo_listen_152 : decode b_Mo_listen 152 = .ok (.iload_n 2, 1) := by decide +kernel
theorem d_Mo_listen_153 : decode b_Mo_listen 153 = .ok (.imul, 1) := by decide +kernel
theorem d_Mo_listen_154 : decode b_Mo_listen 154 = .ok (.iconst 1, 1) := by decide +kernel
theorem d_Mo_listen_155 : decode b_Mo_listen 155 = .ok (.iadd, 1) := by decide +kernel
theorem d_Mo_listen_156 : decode b_Mo_listen 156 = .ok (.istore_n 2, 1) := by decide +kernel
theorem d_Mo_listen_157 : decode b_Mo_listen 157 = .ok (.iinc 3 1, 3) := by decide +kernel
theorem d_Mo_listen_160 : decode b_Mo_listen 160 = .ok (.goto (-119), 3) := by decide +kernel
theorem d_Mo_listen_163 : decode b_Mo_listen 163 = .ok (.return_, 1) := by decide +kernel
end
section
theorem d_Mo_codes_0 : decode b_Mo_codes 0 = .ok (.aload_n 0, 1) := by decide +kernel
theorem d_Mo_codes_1 : decode b_Mo_codes 1 = .ok (.getfield 59, 3) := by decide +kernel
theorem d_Mo_codes_4 : decode b_Mo_codes 4 = .ok (.ifCond .ne 7, 3) := by decide +kernel
theorem d_Mo_codes_7 : decode b_Mo_codes 7 = .ok (.iconst 3, 1) := by decide +kernel
theorem d_Mo_codes_8 : decode b_Mo_codes 8 = .ok (.goto 53, 3) := by decide +kernel
theorem d_Mo_codes_11 : decode b_Mo_codes 11 = .ok (.aload_n 0, 1) := by decide +kernel
theorem d_Mo_codes_12 : decode b_Mo_codes 12 = .ok (.getfield 59, 3) := by decide +kernel
theorem d_Mo_codes_15 : decode b_Mo_codes 15 = .ok (.iconst 1, 1) := by decide +kernel
theorem d_Mo_codes_16 : decode b_Mo_codes 16 = .ok (.if_icmp .eq 11, 3) := by decide +kernel
theorem d_Mo_codes_19 : decode b_Mo_codes 19 = .ok (.aload_n 0, 1) := by decide +kernel
theorem d_Mo_codes_20 : decode b_Mo_codes 20 = .ok (.getfield 59, 3) := by decide +kernel
theorem d_Mo_codes_23 : decode b_Mo_codes 23 = .ok (.iconst 2, 1) := by decide +kernel
theorem d_Mo_codes_24 : decode b_Mo_codes 24 = .ok (.if_icmp .ne 8, 3) := by decide +kernel
theorem d_Mo_codes_27 : decode b_Mo_codes 27 = .ok (.bipush 36, 2) := by decide +kernel
theorem d_Mo_codes_29 : decode b_Mo_codes 29 = .ok (.goto 32, 3) := by decide +kernel
theorem d_Mo_codes_32 : decode b_Mo_codes 32 = .ok (.aload_n 0, 1) := by decide +kernel
theorem d_Mo_codes_33 : decode b_Mo_codes 33 = .ok (.getfield 59, 3) := by decide +kernel
theorem d_Mo_codes_36 : decode b_Mo_codes 36 = .ok (.iconst 3, 1) := by decide +kernel
theorem d_Mo_codes_37 : decode b_Mo_codes 37 = .ok (.if_icmp .ne 9, 3) := by decide +kernel
theorem d_Mo_codes_40 : decode b_Mo_codes 40 = .ok (.sipush 384, 3) := by decide +kernel
theorem d_Mo_codes_43 : decode b_Mo_codes 43 = .ok (.goto 18, 3) := by decide +kernel
theorem d_Mo_codes_46 : decode b_Mo_codes 46 = .ok (.aload_n 0, 1) := by decide +kernel
theorem d_Mo_codes_47 : decode b_Mo_codes 47 = .ok (.getfield 59, 3) := by decide +kernel
theorem d_Mo_codes_50 : decode b_Mo_codes 50 = .ok (.iconst 4, 1) := by decide +kernel
theorem d_Mo_codes_51 : decode b_Mo_codes 51 = .ok (.if_icmp .ne 8, 3) := by decide +kernel
theorem d_Mo_codes_54 : decode b_Mo_codes 54 = .ok (.bipush 65, 2) := by decide +kernel
theorem d_Mo_codes_56 : decode b_Mo_codes 56 = .ok (.goto 5, 3) := by decide +kernel
theorem d_Mo_codes_59 : decode b_Mo_codes 59 = .ok (.bipush 6, 2) := by decide +kernel
theorem d_Mo_codes_61 : decode b_Mo_codes 61 = .ok (.ireturn, 1) := by decide +kernel
theorem d_Mo_accepted_0 : decode b_Mo_accepted 0 = .ok (.aload_n 0, 1) := by decide +kernel
theorem d_Mo_accepted_1 : decode b_Mo_accepted 1 = .ok (.getfield 59, 3) := by decide +kernel
theorem d_Mo_accepted_4 : decode b_Mo_accepted 4 = .ok (.tableswitch 196 0 4 #[36, 75, 111, 147, 170], 36) := by decide +kernel
theorem d_Mo_accepted_40 : decode b_Mo_accepted 40 = .ok (.aload_n 0, 1) := by decide +kernel
theorem d_Mo_accepted_41 : decode b_Mo_accepted 41 = .ok (.getfield 62, 3) := by decide +kernel
theorem d_Mo_accepted_44 : decode b_Mo_accepted 44 = .ok (.iconst 2, 1) := by decide +kernel
theorem d_Mo_accepted_45 : decode b_Mo_accepted 45 = .ok (.if_icmp .ge 16, 3) := by decide +kernel
theorem d_Mo_accepted_48 : decode b_Mo_accepted 48 = .ok (.iload_n 1, 1) := by decide +kernel
theorem d_Mo_accepted_49 : decode b_Mo_accepted 49 = .ok (.iconst 1, 1) := by decide +kernel
theorem d_Mo_accepted_50 : decode b_Mo_accepted 50 = .ok (.if_icmp .ne 7, 3) := by decide +kernel
theorem d_Mo_accepted_53 : decode b_Mo_accepted 53 = .ok (.iconst 1, 1) := by decide +kernel
theorem d_Mo_accepted_54 : decode b_Mo_accepted 54 = .ok (.goto 24, 3) := by decide +kernel
theorem d_Mo_accepted_57 : decode b_Mo_accepted 57 = .ok (.iconst 0, 1) := by decide +kernel
theorem d_Mo_accepted_58 : decode b_Mo_accepted 58 = .ok (.goto 20, 3) := by decide +kernel
theorem d_Mo_accepted_61 : decode b_Mo_accepted 61 = .ok (.aload_n 0, 1) := by decide +kernel
theorem d_Mo_accepted_62 : decode b_Mo_accepted 62 = .ok (.getfield 62, 3) := by decide +kernel
theorem d_Mo_accepted_65 : decode b_Mo_accepted 65 = .ok (.iconst 2, 1) := by decide +kernel
theorem d_Mo_accepted_66 : decode b_Mo_accepted 66 = .ok (.if_icmp .ne 11, 3) := by decide +kernel
theorem d_Mo_accepted_69 : decode b_Mo_accepted 69 = .ok (.iload_n 1, 1) := by decide +kernel
theorem d_Mo_accepted_70 : decode b_Mo_accepted 70 = .ok (.ifCond .ne 7, 3) := by decide +kernel
theorem d_Mo_accepted_73 : decode b_Mo_accepted 73 = .ok (.iconst 1, 1) := by decide +kernel
theorem d_Mo_accepted_74 : decode b_Mo_accepted 74 = .ok (.goto 4, 3) := by decide +kernel
theorem d_Mo_accepted_77 : decode b_Mo_accepted 77 = .ok (.iconst 0, 1) := by decide +kernel
theorem d_Mo_accepted_78 : decode b_Mo_accepted 78 = .ok (.ireturn, 1) := by decide +kernel
theorem d_Mo_accepted_79 : decode b_Mo_accepted 79 = .ok (.aload_n 0, 1) := by decide +kernel
theorem d_Mo_accepted_80 : decode b_Mo_accepted 80 = .ok (.aload_n 0, 1) := by decide +kernel
theorem d_Mo_accepted_81 : decode b_Mo_accepted 81 = .ok (.getfield 62, 3) := by decide +kernel
theorem d_Mo_accepted_84 : decode b_Mo_accepted 84 = .ok (.iload_n 1, 1) := by decide +kernel
theorem d_Mo_accepted_85 : decode b_Mo_accepted 85 = .ok (.bipush 6, 2) := by decide +kernel
theorem d_Mo_accepted_87 : decode b_Mo_accepted 87 = .ok (.idiv, 1) := by decide +kernel
theorem d_Mo_accepted_88 : decode b_Mo_accepted 88 = .ok (.invokevirtual 65, 3) := by decide +kernel
theorem d_Mo_accepted_91 : decode b_Mo_accepted 91 = .ok (.ifCond .ne 18, 3) := by decide +kernel
theorem d_Mo_accepted_94 : decode b_Mo_accepted 94 = .ok (.aload_n 0, 1) := by decide +kernel
theorem d_Mo_accepted_95 : decode b_Mo_accepted 95 = .ok (.aload_n 0, 1) := by decide +kernel
theorem d_Mo_accepted_96 : decode b_Mo_accepted 96 = .ok (.getfield 69, 3) := by decide +kernel
theorem d_Mo_accepted_99 : decode b_Mo_accepted 99 = .ok (.iload_n 1, 1) := by decide +kernel
theorem d_Mo_accepted_100 : decode b_Mo_accepted 100 = .ok (.bipush 6, 2) := by decide +kernel
theorem d_Mo_accepted_102 : decode b_Mo_accepted 102 = .ok (.irem, 1) := by decide +kernel
theorem d_Mo_accepted_103 : decode b_Mo_accepted 103 = .ok (.invokevirtual 65, 3) := by decide +kernel
theorem d_Mo_accepted_106 : decode b_Mo_accepted 106 = .ok (.ifCond .eq 7, 3) := by decide +kernel
theorem d_Mo_accepted_109 : decode b_Mo_accepted 109 = .ok (.iconst 1, 1) := by decide +kernel
theorem d_Mo_accepted_110 : decode b_Mo_accepted 110 = .ok (.goto 4, 3) := by decide +kernel
theorem d_Mo_accepted_113 : decode b_Mo_accepted 113 = .ok (.iconst 0, 1) := by decide +kernel
theorem d_Mo_accepted_114 : decode b_Mo_accepted 114 = .ok (.ireturn, 1) := by decide +kernel
theorem d_Mo_accepted_115 : decode b_Mo_accepted 115 = .ok (.aload_n 0, 1) := by decide +kernel
theorem d_Mo_accepted_116 : decode b_Mo_accepted 116 = .ok (.aload_n 0, 1) := by decide +kernel
theorem d_Mo_accepted_117 : decode b_Mo_accepted 117 = .ok (.getfield 62, 3) := by decide +kernel
theorem d_Mo_accepted_120 : decode b_Mo_accepted 120 = .ok (.iload_n 1, 1) := by decide +kernel
theorem d_Mo_accepted_121 : decode b_Mo_accepted 121 = .ok (.bipush 6, 2) := by decide +kernel
theorem d_Mo_accepted_123 : decode b_Mo_accepted 123 = .ok (.idiv, 1) := by decide +kernel
theorem d_Mo_accepted_124 : decode b_Mo_accepted 124 = .ok (.invokevirtual 65, 3) := by decide +kernel
theorem d_Mo_accepted_127 : decode b_Mo_accepted 127 = .ok (.ifCond .eq 22, 3) := by decide +kernel
theorem d_Mo_accepted_130 : decode b_Mo_accepted 130 = .ok (.aload_n 0, 1) := by decide +kernel
theorem d_Mo_accepted_131 : decode b_Mo_accepted 131 = .ok (.aload_n 0, 1) := by decide +kernel
theorem d_Mo_accepted_132 : decode b_Mo_accepted 132 = .ok (.getfield 69, 3) := by decide +kernel
theorem d_Mo_accepted_135 : decode b_Mo_accepted 135 = .ok (.iload_n 1, 1) := by decide +kernel
theorem d_Mo_accepted_136 : decode b_Mo_accepted 136 = .ok (.bipush 6, 2) := by decide +kernel
theorem d_Mo_accepted_138 : decode b_Mo_accepted 138 = .ok (.irem, 1) := by decide +kernel
theorem d_Mo_accepted_139 : decode b_Mo_accepted 139 = .ok (.invokevirtual 65, 3) := by decide +kernel
theorem d_Mo_accepted_142 : decode b_Mo_accepted 142 = .ok (.ifCond .eq 7, 3) := by decide +kernel
theorem d_Mo_accepted_145 : decode b_Mo_accepted 145 = .ok (.iconst 1, 1) := by decide +kernel
theorem d_Mo_accepted_146 : decode b_Mo_accepted 146 = .ok (.goto 4, 3) := by decide +kernel
theorem d_Mo_accepted_149 : decode b_Mo_accepted 149 = .ok (.iconst 0, 1) := by decide +kernel
theorem d_Mo_accepted_150 : decode b_Mo_accepted 150 = .ok (.ireturn, 1) := by decide +kernel
theorem d_Mo_accepted_151 : decode b_Mo_accepted 151 = .ok (.iload_n 1, 1) := by decide +kernel
theorem d_Mo_accepted_152 : decode b_Mo_accepted 152 = .ok (.bipush 64, 2) := by decide +kernel
theorem d_Mo_accepted_154 : decode b_Mo_accepted 154 = .ok (.irem, 1) := by decide +kernel
theorem d_Mo_accepted_155 : decode b_Mo_accepted 155 = .ok (.aload_n 0, 1) := by decide +kernel
theorem d_Mo_accepted_156 : decode b_Mo_accepted 156 = .ok (.getfield 16, 3) := by decide +kernel
theorem d_Mo_accepted_159 : decode b_Mo_accepted 159 = .ok (.aload_n 0, 1) := by decide +kernel
theorem d_Mo_accepted_160 : decode b_Mo_accepted 160 = .ok (.getfield 69, 3) := by decide +kernel
theorem d_Mo_accepted_163 : decode b_Mo_accepted 163 = .ok (.iaload, 1) := by decide +kernel
theorem d_Mo_accepted_164 : decode b_Mo_accepted 164 = .ok (.iand, 1) := by decide +kernel
theorem d_Mo_accepted_165 : decode b_Mo_accepted 165 = .ok (.ifCond .eq 7, 3) := by decide +kernel
theorem d_Mo_accepted_168 : decode b_Mo_accepted 168 = .ok (.iconst 1, 1) := by decide +kernel
theorem d_Mo_accepted_169 : decode b_Mo_accepted 169 = .ok (.goto 4, 3) := by decide +kernel
theorem d_Mo_accepted_172 : decode b_Mo_accepted 172 = .ok (.iconst 0, 1) := by decide +kernel
theorem d_Mo_accepted_173 : decode b_Mo_accepted 173 = .ok (.ireturn, 1) := by decide +kernel
theorem d_Mo_accepted_174 : decode b_Mo_accepted 174 = .ok (.iload_n 1, 1) := by decide +kernel
theorem d_Mo_accepted_175 : decode b_Mo_accepted 175 = .ok (.bipush 64, 2) := by decide +kernel
theorem d_Mo_accepted_177 : decode b_Mo_accepted 177 = .ok (.if_icmp .eq 17, 3) := by decide +kernel
theorem d_Mo_accepted_180 : decode b_Mo_accepted 180 = .ok (.iload_n 1, 1) := by decide +kernel
theorem d_Mo_accepted_181 : decode b_Mo_accepted 181 = .ok (.aload_n 0, 1) := by decide +kernel
theorem d_Mo_accepted_182 : decode b_Mo_accepted 182 = .ok (.getfield 16, 3) := by decide +kernel
theorem d_Mo_accepted_185 : decode b_Mo_accepted 185 = .ok (.aload_n 0, 1) := by decide +kernel
theorem d_Mo_accepted_186 : decode b_Mo_accepted 186 = .ok (.getfield 62, 3) := by decide +kernel
theorem d_Mo_accepted_189 : decode b_Mo_accepted 189 = .ok (.iaload, 1) := by decide +kernel
theorem d_Mo_accepted_190 : decode b_Mo_accepted 190 = .ok (.iand, 1) := by decide +kernel
theorem d_Mo_accepted_191 : decode b_Mo_accepted 191 = .ok (.ifCond .eq 7, 3) := by decide +kernel
theorem d_Mo_accepted_194 : decode b_Mo_accepted 194 = .ok (.iconst 1, 1) := by decide +kernel
theorem d_Mo_accepted_195 : decode b_Mo_accepted 195 = .ok (.goto 4, 3) := by decide +kernel
theorem d_Mo_accepted_198 : decode b_Mo_accepted 198 = .ok (.iconst 0, 1) := by decide +kernel
theorem d_Mo_accepted_199 : decode b_Mo_accepted 199 = .ok (.ireturn, 1) := by decide +kernel
theorem d_Mo_accepted_200 : decode b_Mo_accepted 200 = .ok (.aload_n 0, 1) := by decide +kernel
theorem d_Mo_accepted_201 : decode b_Mo_accepted 201 = .ok (.aload_n 0, 1) := by decide +kernel
theorem d_Mo_accepted_202 : decode b_Mo_accepted 202 = .ok (.getfield 62, 3) := by decide +kernel
theorem d_Mo_accepted_205 : decode b_Mo_accepted 205 = .ok (.iload_n 1, 1) := by decide +kernel
theorem d_Mo_accepted_206 : decode b_Mo_accepted 206 = .ok (.invokevirtual 65, 3) := by decide +kernel
theorem d_Mo_accepted_209 : decode b_Mo_accepted 209 = .ok (.ifCond .ne 7, 3) := by decide +kernel
theorem d_Mo_accepted_212 : decode b_Mo_accepted 212 = .ok (.iconst 1, 1) := by decide +kernel
theorem d_Mo_accepted_213 : decode b_Mo_accepted 213 = .ok (.goto 4, 3) := by decide +kernel
theorem d_Mo_accepted_216 : decode b_Mo_accepted 216 = .ok (.iconst 0, 1) := by decide +kernel
theorem d_Mo_accepted_217 : decode b_Mo_accepted 217 = .ok (.ireturn, 1) := by decide +kernel
theorem d_Mo_isGood_0 : decode b_Mo_isGood 0 = .ok (.aload_n 0, 1) := by decide +kernel
theorem d_Mo_isGood_1 : decode b_Mo_isGood 1 = .ok (.getfield 16, 3) := by decide +kernel
theorem d_Mo_isGood_4 : decode b_Mo_isGood 4 = .ok (.iload_n 1, 1) := by decide +kernel
theorem d_Mo_isGood_5 : decode b_Mo_isGood 5 = .ok (.iaload, 1) := by decide +kernel
theorem d_Mo_isGood_6 : decode b_Mo_isGood 6 = .ok (.iload_n 2, 1) := by decide +kernel
theorem d_Mo_isGood_7 : decode b_Mo_isGood 7 = .ok (.ishr, 1) := by decide +kernel
theorem d_Mo_isGood_8 : decode b_Mo_isGood 8 = .ok (.iconst 1, 1) := by decide +kernel
theorem d_Mo_isGood_9 : decode b_Mo_isGood 9 = .ok (.iand, 1) := by decide +kernel
theorem d_Mo_isGood_10 : decode b_Mo_isGood 10 = .ok (.iconst 1, 1) := by decide +kernel
theorem d_Mo_isGood_11 : decode b_Mo_isGood 11 = .ok (.if_icmp .ne 7, 3) := by decide +kernel
theorem d_Mo_isGood_14 : decode b_Mo_isGood 14 = .ok (.iconst 1, 1) := by decide +kernel
theorem d_Mo_isGood_15 : decode b_Mo_isGood 15 = .ok (.goto 4, 3) := by decide +kernel
theorem d_Mo_isGood_18 : decode b_Mo_isGood 18 = .ok (.iconst 0, 1) := by decide +kernel
theorem d_Mo_isGood_19 : decode b_Mo_isGood 19 = .ok (.ireturn, 1) := by decide +kernel
theorem d_Mo_nextCode_0 : decode b_Mo_nextCode 0 = .ok (.aload_n 0, 1) := by decide +kernel
theorem d_Mo_nextCode_1 : decode b_Mo_nextCode 1 = .ok (.getfield 59, 3) := by decide +kernel
theorem d_Mo_nextCode_4 : decode b_Mo_nextCode 4 = .ok (.tableswitch 99 0 4 #[36, 54, 54, 85, 92], 36) := by decide +kernel
theorem d_Mo_nextCode_40 : decode b_Mo_nextCode 40 = .ok (.iload_n 1, 1) := by decide +kernel
theorem d_Mo_nextCode_41 : decode b_Mo_nextCode 41 = .ok (.ifCond .ne 15, 3) := by decide +kernel
theorem d_Mo_nextCode_44 : decode b_Mo_nextCode 44 = .ok (.aload_n 0, 1) := by decide +kernel
theorem d_Mo_nextCode_45 : decode b_Mo_nextCode 45 = .ok (.getfield 62, 3) := by decide +kernel
theorem d_Mo_nextCode_48 : decode b_Mo_nextCode 48 = .ok (.iload_n 2, 1) := by decide +kernel
theorem d_Mo_nextCode_49 : decode b_Mo_nextCode 49 = .ok (.if_icmp .ne 7, 3) := by decide +kernel
theorem d_Mo_nextCode_52 : decode b_Mo_nextCode 52 = .ok (.iconst 1, 1) := by decide +kernel
theorem d_Mo_nextCode_53 : decode b_Mo_nextCode 53 = .ok (.goto 4, 3) := by decide +kernel
theorem d_Mo_nextCode_56 : decode b_Mo_nextCode 56 = .ok (.iconst 2, 1) := by decide +kernel
theorem d_Mo_nextCode_57 : decode b_Mo_nextCode 57 = .ok (.ireturn, 1) := by decide +kernel
theorem d_Mo_nextCode_58 : decode b_Mo_nextCode 58 = .ok (.bipush 6, 2) := by decide +kernel
theorem d_Mo_nextCode_60 : decode b_Mo_nextCode 60 = .ok (.aload_n 0, 1) := by decide +kernel
theorem d_Mo_nextCode_61 : decode b_Mo_nextCode 61 = .ok (.aload_n 0, 1) := by decide +kernel
theorem d_Mo_nextCode_62 : decode b_Mo_nextCode 62 = .ok (.getfield 62, 3) := by decide +kernel
theorem d_Mo_nextCode_65 : decode b_Mo_nextCode 65 = .ok (.iload_n 1, 1) := by decide +kernel
theorem d_Mo_nextCode_66 : decode b_Mo_nextCode 66 = .ok (.bipush 6, 2) := by decide +kernel
theorem d_Mo_nextCode_68 : decode b_Mo_nextCode 68 = .ok (.idiv, 1) := by decide +kernel
theorem d_Mo_nextCode_69 : decode b_Mo_nextCode 69 = .ok (.iload_n 2, 1) := by decide +kernel
theorem d_Mo_nextCode_70 : decode b_Mo_nextCode 70 = .ok (.invokevirtual 55, 3) := by decide +kernel
theorem d_Mo_nextCode_73 : decode b_Mo_nextCode 73 = .ok (.imul, 1) := by decide +kernel
theorem d_Mo_nextCode_74 : decode b_Mo_nextCode 74 = .ok (.aload_n 0, 1) := by decide +kernel
theorem d_Mo_nextCode_75 : decode b_Mo_nextCode 75 = .ok (.aload_n 0, 1) := by decide +kernel
theorem d_Mo_nextCode_76 : decode b_Mo_nextCode 76 = .ok (.getfield 69, 3) := by decide +kernel
theorem d_Mo_nextCode_79 : decode b_Mo_nextCode 79 = .ok (.iload_n 1, 1) := by decide +kernel
theorem d_Mo_nextCode_80 : decode b_Mo_nextCode 80 = .ok (.bipush 6, 2) := by decide +kernel
theorem d_Mo_nextCode_82 : decode b_Mo_nextCode 82 = .ok (.irem, 1) := by decide +kernel
theorem d_Mo_nextCode_83 : decode b_Mo_nextCode 83 = .ok (.iload_n 2, 1) := by decide +kernel
theorem d_Mo_nextCode_84 : decode b_Mo_nextCode 84 = .ok (.invokevirtual 55, 3) := by decide +kernel
theorem d_Mo_nextCode_87 : decode b_Mo_nextCode 87 = .ok (.iadd, 1) := by decide +kernel
theorem d_Mo_nextCode_88 : decode b_Mo_nextCode 88 = .ok (.ireturn, 1) := by decide +kernel
theorem d_Mo_nextCode_89 : decode b_Mo_nextCode 89 = .ok (.aload_n 0, 1) := by decide +kernel
theorem d_Mo_nextCode_90 : decode b_Mo_nextCode 90 = .ok (.iload_n 1, 1) := by decide +kernel
theorem d_Mo_nextCode_91 : decode b_Mo_nextCode 91 = .ok (.iload_n 2, 1) := by decide +kernel
theorem d_Mo_nextCode_92 : decode b_Mo_nextCode 92 = .ok (.invokevirtual 75, 3) := by decide +kernel
theorem d_Mo_nextCode_95 : decode b_Mo_nextCode 95 = .ok (.ireturn, 1) := by decide +kernel
theorem d_Mo_nextCode_96 : decode b_Mo_nextCode 96 = .ok (.aload_n 0, 1) := by decide +kernel
theorem d_Mo_nextCode_97 : decode b_Mo_nextCode 97 = .ok (.iload_n 1, 1) := by decide +kernel
theorem d_Mo_nextCode_98 : decode b_Mo_nextCode 98 = .ok (.iload_n 2, 1) := by decide +kernel
theorem d_Mo_nextCode_99 : decode b_Mo_nextCode 99 = .ok (.invokevirtual 79, 3) := by decide +kernel
theorem d_Mo_nextCode_102 : decode b_Mo_nextCode 102 = .ok (.ireturn, 1) := by decide +kernel
theorem d_Mo_nextCode_103 : decode b_Mo_nextCode 103 = .ok (.aload_n 0, 1) := by decide +kernel
theorem d_Mo_nextCode_104 : decode b_Mo_nextCode 104 = .ok (.aload_n 0, 1) := by decide +kernel
theorem d_Mo_nextCode_105 : decode b_Mo_nextCode 105 = .ok (.getfield 62, 3) := by decide +kernel
theorem d_Mo_nextCode_108 : decode b_Mo_nextCode 108 = .ok (.iload_n 1, 1) := by decide +kernel
theorem d_Mo_nextCode_109 : decode b_Mo_nextCode 109 = .ok (.iload_n 2, 1) := by decide +kernel
theorem d_Mo_nextCode_110 : decode b_Mo_nextCode 110 = .ok (.invokevirtual 55, 3) := by decide +kernel
theorem d_Mo_nextCode_113 : decode b_Mo_nextCode 113 = .ok (.ireturn, 1) := by decide +kernel
theorem d_Mo_step_0 : decode b_Mo_step 0 = .ok (.aload_n 0, 1) := by decide +kernel
theorem d_Mo_step_1 : decode b_Mo_step 1 = .ok (.getfield 13, 3) := by decide +kernel
theorem d_Mo_step_4 : decode b_Mo_step 4 = .ok (.bipush 12, 2) := by decide +kernel
theorem d_Mo_step_6 : decode b_Mo_step 6 = .ok (.iload_n 1, 1) := by decide +kernel
theorem d_Mo_step_7 : decode b_Mo_step 7 = .ok (.imul, 1) := by decide +kernel
theorem d_Mo_step_8 : decode b_Mo_step 8 = .ok (.iconst 2, 1) := by decide +kernel
theorem d_Mo_step_9 : decode b_Mo_step 9 = .ok (.iload_n 2, 1) := by decide +kernel
theorem d_Mo_step_10 : decode b_Mo_step 10 = .ok (.imul, 1) := by decide +kernel
theorem d_Mo_step_11 : decode b_Mo_step 11 = .ok (.iadd, 1) := by decide +kernel
theorem d_Mo_step_12 : decode b_Mo_step 12 = .ok (.iload_n 3, 1) := by decide +kernel
theorem d_Mo_step_13 : decode b_Mo_step 13 = .ok (.iadd, 1) := by decide +kernel
theorem d_Mo_step_14 : decode b_Mo_step 14 = .ok (.iaload, 1) := by decide +kernel
theorem d_Mo_step_15 : decode b_Mo_step 15 = .ok (.ireturn, 1) := by decide +kernel
theorem d_Mo_chained_0 : decode b_Mo_chained 0 = .ok (.aload_n 0, 1) := by decide +kernel
theorem d_Mo_chained_1 : decode b_Mo_chained 1 = .ok (.aload_n 0, 1) := by decide +kernel
theorem d_Mo_chained_2 : decode b_Mo_chained 2 = .ok (.getfield 62, 3) := by decide +kernel
theorem d_Mo_chained_5 : decode b_Mo_chained 5 = .ok (.iload_n 1, 1) := by decide +kernel
theorem d_Mo_chained_6 : decode b_Mo_chained 6 = .ok (.bipush 64, 2) := by decide +kernel
theorem d_Mo_chained_8 : decode b_Mo_chained 8 = .ok (.idiv, 1) := by decide +kernel
theorem d_Mo_chained_9 : decode b_Mo_chained 9 = .ok (.iload_n 2, 1) := by decide +kernel
theorem d_Mo_chained_10 : decode b_Mo_chained 10 = .ok (.invokevirtual 55, 3) := by decide +kernel
theorem d_Mo_chained_13 : decode b_Mo_chained 13 = .ok (.istore_n 3, 1) := by decide +kernel
theorem d_Mo_chained_14 : decode b_Mo_chained 14 = .ok (.aload_n 0, 1) := by decide +kernel
theorem d_Mo_chained_15 : decode b_Mo_chained 15 = .ok (.aload_n 0, 1) := by decide +kernel
theorem d_Mo_chained_16 : decode b_Mo_chained 16 = .ok (.getfield 69, 3) := by decide +kernel
theorem d_Mo_chained_19 : decode b_Mo_chained 19 = .ok (.iload_n 1, 1) := by decide +kernel
theorem d_Mo_chained_20 : decode b_Mo_chained 20 = .ok (.bipush 64, 2) := by decide +kernel
theorem d_Mo_chained_22 : decode b_Mo_chained 22 = .ok (.irem, 1) := by decide +kernel
theorem d_Mo_chained_23 : decode b_Mo_chained 23 = .ok (.iload_n 2, 1) := by decide +kernel
theorem d_Mo_chained_24 : decode b_Mo_chained 24 = .ok (.invokevirtual 72, 3) := by decide +kernel
theorem d_Mo_chained_27 : decode b_Mo_chained 27 = .ok (.istore 4, 2) := by decide +kernel
theorem d_Mo_chained_29 : decode b_Mo_chained 29 = .ok (.bipush 64, 2) := by decide +kernel
theorem d_Mo_chained_31 : decode b_Mo_chained 31 = .ok (.iload_n 3, 1) := by decide +kernel
theorem d_Mo_chained_32 : decode b_Mo_chained 32 = .ok (.imul, 1) := by decide +kernel
theorem d_Mo_chained_33 : decode b_Mo_chained 33 = .ok (.aload_n 0, 1) := by decide +kernel
theorem d_Mo_chained_34 : decode b_Mo_chained 34 = .ok (.aload_n 0, 1) := by decide +kernel
theorem d_Mo_chained_35 : decode b_Mo_chained 35 = .ok (.getfield 62, 3) := by decide +kernel
theorem d_Mo_chained_38 : decode b_Mo_chained 38 = .ok (.iload_n 3, 1) := by decide +kernel
theorem d_Mo_chained_39 : decode b_Mo_chained 39 = .ok (.invokevirtual 65, 3) := by decide +kernel
theorem d_Mo_chained_42 : decode b_Mo_chained 42 = .ok (.ifCond .eq 10, 3) := by decide +kernel
theorem d_Mo_chained_45 : decode b_Mo_chained 45 = .ok (.iload 4, 2) := by decide +kernel
theorem d_Mo_chained_47 : decode b_Mo_chained 47 = .ok (.iconst 1, 1) := by decide +kernel
theorem d_Mo_chained_48 : decode b_Mo_chained 48 = .ok (.ior, 1) := by decide +kernel
theorem d_Mo_chained_49 : decode b_Mo_chained 49 = .ok (.goto 5, 3) := by decide +kernel
theorem d_Mo_chained_52 : decode b_Mo_chained 52 = .ok (.iload 4, 2) := by decide +kernel
theorem d_Mo_chained_54 : decode b_Mo_chained 54 = .ok (.iadd, 1) := by decide +kernel
theorem d_Mo_chained_55 : decode b_Mo_chained 55 = .ok (.ireturn, 1) := by decide +kernel
theorem d_Mo_image_0 : decode b_Mo_image 0 = .ok (.iconst 0, 1) := by decide +kernel
theorem d_Mo_image_1 : decode b_Mo_image 1 = .ok (.istore 4, 2) := by decide +kernel
theorem d_Mo_image_3 : decode b_Mo_image 3 = .ok (.iconst 0, 1) := by decide +kernel
theorem d_Mo_image_4 : decode b_Mo_image 4 = .ok (.istore 5, 2) := by decide +kernel
theorem d_Mo_image_6 : decode b_Mo_image 6 = .ok (.iload 5, 2) := by decide +kernel
theorem d_Mo_image_8 : decode b_Mo_image 8 = .ok (.bipush 6, 2) := by decide +kernel
theorem d_Mo_image_10 : decode b_Mo_image 10 = .ok (.if_icmp .ge 39, 3) := by decide +kernel
theorem d_Mo_image_13 : decode b_Mo_image 13 = .ok (.iload_n 2, 1) := by decide +kernel
theorem d_Mo_image_14 : decode b_Mo_image 14 = .ok (.iload 5, 2) := by decide +kernel
theorem d_Mo_image_16 : decode b_Mo_image 16 = .ok (.ishr, 1) := by decide +kernel
theorem d_Mo_image_17 : decode b_Mo_image 17 = .ok (.iconst 1, 1) := by decide +kernel
theorem d_Mo_image_18 : decode b_Mo_image 18 = .ok (.iand, 1) := by decide +kernel
theorem d_Mo_image_19 : decode b_Mo_image 19 = .ok (.iconst 1, 1) := by decide +kernel
theorem d_Mo_image_20 : decode b_Mo_image 20 = .ok (.if_icmp .ne 19, 3) := by decide +kernel
theorem d_Mo_image_23 : decode b_Mo_image 23 = .ok (.iload 4, 2) := by decide +kernel
theorem d_Mo_image_25 : decode b_Mo_image 25 = .ok (.iconst 1, 1) := by decide +kernel
theorem d_Mo_image_26 : decode b_Mo_image 26 = .ok (.aload_n 0, 1) := by decide +kernel
theorem d_Mo_image_27 : decode b_Mo_image 27 = .ok (.iload_n 1, 1) := by decide +kernel
theorem d_Mo_image_28 : decode b_Mo_image 28 = .ok (.iload 5, 2) := by decide +kernel
theorem d_Mo_image_30 : decode b_Mo_image 30 = .ok (.iload_n 3, 1) := by decide +kernel
theorem d_Mo_image_31 : decode b_Mo_image 31 = .ok (.invokevirtual 55, 3) := by decide +kernel
theorem d_Mo_image_34 : decode b_Mo_image 34 = .ok (.ishl, 1) := by decide +kernel
theorem d_Mo_image_35 : decode b_Mo_image 35 = .ok (.ior, 1) := by decide +kernel
theorem d_Mo_image_36 : decode b_Mo_image 36 = .ok (.goto 5, 3) := by decide +kernel
theorem d_Mo_image_39 : decode b_Mo_image 39 = .ok (.iload 4, 2) := by decide +kernel
theorem d_Mo_image_41 : decode b_Mo_image 41 = .ok (.istore 4, 2) := by decide +kernel
theorem d_Mo_image_43 : decode b_Mo_image 43 = .ok (.iinc 5 1, 3) := by decide +kernel
theorem d_Mo_image_46 : decode b_Mo_image 46 = .ok (.goto (-40), 3) := by decide +kernel
theorem d_Mo_image_49 : decode b_Mo_image 49 = .ok (.iload 4, 2) := by decide +kernel
theorem d_Mo_image_51 : decode b_Mo_image 51 = .ok (.ireturn, 1) := by decide +kernel
theorem d_Mo_starred_0 : decode b_Mo_starred 0 = .ok (.aload_n 0, 1) := by decide +kernel
theorem d_Mo_starred_1 : decode b_Mo_starred 1 = .ok (.aload_n 0, 1) := by decide +kernel
theorem d_Mo_starred_2 : decode b_Mo_starred 2 = .ok (.getfield 62, 3) := by decide +kernel
theorem d_Mo_starred_5 : decode b_Mo_starred 5 = .ok (.iload_n 1, 1) := by decide +kernel
theorem d_Mo_starred_6 : decode b_Mo_starred 6 = .ok (.bipush 64, 2) := by decide +kernel
theorem d_Mo_starred_8 : decode b_Mo_starred 8 = .ok (.if_icmp .ne 7, 3) := by decide +kernel
theorem d_Mo_starred_11 : decode b_Mo_starred 11 = .ok (.iconst 1, 1) := by decide +kernel
theorem d_Mo_starred_12 : decode b_Mo_starred 12 = .ok (.goto 4, 3) := by decide +kernel
theorem d_Mo_starred_15 : decode b_Mo_starred 15 = .ok (.iload_n 1, 1) := by decide +kernel
theorem d_Mo_starred_16 : decode b_Mo_starred 16 = .ok (.iload_n 2, 1) := by decide +kernel
theorem d_Mo_starred_17 : decode b_Mo_starred 17 = .ok (.invokevirtual 72, 3) := by decide +kernel
theorem d_Mo_starred_20 : decode b_Mo_starred 20 = .ok (.istore_n 3, 1) := by decide +kernel
theorem d_Mo_starred_21 : decode b_Mo_starred 21 = .ok (.iload_n 3, 1) := by decide +kernel
theorem d_Mo_starred_22 : decode b_Mo_starred 22 = .ok (.aload_n 0, 1) := by decide +kernel
theorem d_Mo_starred_23 : decode b_Mo_starred 23 = .ok (.getfield 16, 3) := by decide +kernel
theorem d_Mo_starred_26 : decode b_Mo_starred 26 = .ok (.aload_n 0, 1) := by decide +kernel
theorem d_Mo_starred_27 : decode b_Mo_starred 27 = .ok (.getfield 62, 3) := by decide +kernel
theorem d_Mo_starred_30 : decode b_Mo_starred 30 = .ok (.iaload, 1) := by decide +kernel
theorem d_Mo_starred_31 : decode b_Mo_starred 31 = .ok (.iand, 1) := by decide +kernel
theorem d_Mo_starred_32 : decode b_Mo_starred 32 = .ok (.ifCond .eq 9, 3) := by decide +kernel
theorem d_Mo_starred_35 : decode b_Mo_starred 35 = .ok (.iload_n 3, 1) := by decide +kernel
theorem d_Mo_starred_36 : decode b_Mo_starred 36 = .ok (.iconst 1, 1) := by decide +kernel
theorem d_Mo_starred_37 : decode b_Mo_starred 37 = .ok (.ior, 1) := by decide +kernel
theorem d_Mo_starred_38 : decode b_Mo_starred 38 = .ok (.goto 4, 3) := by decide +kernel
theorem d_Mo_starred_41 : decode b_Mo_starred 41 = .ok (.iload_n 3, 1) := by decide +kernel
theorem d_Mo_starred_42 : decode b_Mo_starred 42 = .ok (.ireturn, 1) := by decide +kernel
theorem d_Mo_said_0 : decode b_Mo_said 0 = .ok (.iconst 0, 1) := by decide +kernel
theorem d_Mo_said_1 : decode b_Mo_said 1 = .ok (.istore_n 1, 1) := by decide +kernel
theorem d_Mo_said_2 : decode b_Mo_said 2 = .ok (.iload_n 1, 1) := by decide +kernel
theorem d_Mo_said_3 : decode b_Mo_said 3 = .ok (.sipush 384, 3) := by decide +kernel
theorem d_Mo_said_6 : decode b_Mo_said 6 = .ok (.if_icmp .ge 16, 3) := by decide +kernel
theorem d_Mo_said_9 : decode b_Mo_said 9 = .ok (.aload_n 0, 1) := by decide +kernel
theorem d_Mo_said_10 : decode b_Mo_said 10 = .ok (.getfield 32, 3) := by decide +kernel
theorem d_Mo_said_13 : decode b_Mo_said 13 = .ok (.iload_n 1, 1) := by decide +kernel
theorem d_Mo_said_14 : decode b_Mo_said 14 = .ok (.iconst 0, 1) := by decide +kernel
theorem d_Mo_said_15 : decode b_Mo_said 15 = .ok (.bastore, 1) := by decide +kernel
theorem d_Mo_said_16 : decode b_Mo_said 16 = .ok (.iinc 1 1, 3) := by decide +kernel
theorem d_Mo_said_19 : decode b_Mo_said 19 = .ok (.goto (-17), 3) := by decide +kernel
theorem d_Mo_said_22 : decode b_Mo_said 22 = .ok (.aload_n 0, 1) := by decide +kernel
theorem d_Mo_said_23 : decode b_Mo_said 23 = .ok (.getfield 29, 3) := by decide +kernel
theorem d_Mo_said_26 : decode b_Mo_said 26 = .ok (.iconst 0, 1) := by decide +kernel
theorem d_Mo_said_27 : decode b_Mo_said 27 = .ok (.aload_n 0, 1) := by decide +kernel
theorem d_Mo_said_28 : decode b_Mo_said 28 = .ok (.invokevirtual 93, 3) := by decide +kernel
theorem d_Mo_said_31 : decode b_Mo_said 31 = .ok (.iastore, 1) := by decide +kernel
theorem d_Mo_said_32 : decode b_Mo_said 32 = .ok (.aload_n 0, 1) := by decide +kernel
theorem d_Mo_said_33 : decode b_Mo_said 33 = .ok (.getfield 32, 3) := by decide +kernel
theorem d_Mo_said_36 : decode b_Mo_said 36 = .ok (.aload_n 0, 1) := by decide +kernel
theorem d_Mo_said_37 : decode b_Mo_said 37 = .ok (.getfield 29, 3) := by decide +kernel
theorem d_Mo_said_40 : decode b_Mo_said 40 = .ok (.iconst 0, 1) := by decide +kernel
theorem d_Mo_said_41 : decode b_Mo_said 41 = .ok (.iaload, 1) := by decide +kernel
theorem d_Mo_said_42 : decode b_Mo_said 42 = .ok (.iconst 1, 1) := by decide +kernel
theorem d_Mo_said_43 : decode b_Mo_said 43 = .ok (.bastore, 1) := by decide +kernel
theorem d_Mo_said_44 : decode b_Mo_said 44 = .ok (.iconst 1, 1) := by decide +kernel
theorem d_Mo_said_45 : decode b_Mo_said 45 = .ok (.istore_n 1, 1) := by decide +kernel
theorem d_Mo_said_46 : decode b_Mo_said 46 = .ok (.iconst 0, 1) := by decide +kernel
theorem d_Mo_said_47 : decode b_Mo_said 47 = .ok (.istore_n 2, 1) := by decide +kernel
theorem d_Mo_said_48 : decode b_Mo_said 48 = .ok (.iconst 0, 1) := by decide +kernel
theorem d_Mo_said_49 : decode b_Mo_said 49 = .ok (.istore_n 3, 1) := by decide +kernel
theorem d_Mo_said_50 : decode b_Mo_said 50 = .ok (.iload_n 3, 1) := by decide +kernel
theorem d_Mo_said_51 : decode b_Mo_said 51 = .ok (.iload_n 1, 1) := by decide +kernel
theorem d_Mo_said_52 : decode b_Mo_said 52 = .ok (.if_icmp .ge 141, 3) := by decide +kernel
theorem d_Mo_said_55 : decode b_Mo_said 55 = .ok (.iconst 0, 1) := by decide +kernel
theorem d_Mo_said_56 : decode b_Mo_said 56 = .ok (.istore 4, 2) := by decide +kernel
theorem d_Mo_said_58 : decode b_Mo_said 58 = .ok (.iload 4, 2) := by decide +kernel
theorem d_Mo_said_60 : decode b_Mo_said 60 = .ok (.iload_n 2, 1) := by decide +kernel
theorem d_Mo_said_61 : decode b_Mo_said 61 = .ok (.if_icmp .ge 36, 3) := by decide +kernel
theorem d_Mo_said_64 : decode b_Mo_said 64 = .ok (.aload_n 0, 1) := by decide +kernel
theorem d_Mo_said_65 : decode b_Mo_said 65 = .ok (.getfield 19, 3) := by decide +kernel
theorem d_Mo_said_68 : decode b_Mo_said 68 = .ok (.aload_n 0, 1) := by decide +kernel
theorem d_Mo_said_69 : decode b_Mo_said 69 = .ok (.getfield 26, 3) := by decide +kernel
theorem d_Mo_said_72 : decode b_Mo_said 72 = .ok (.iload 4, 2) := by decide +kernel
theorem d_Mo_said_74 : decode b_Mo_said 74 = .ok (.iaload, 1) := by decide +kernel
theorem d_Mo_said_75 : decode b_Mo_said 75 = .ok (.laload, 1) := by decide +kernel
theorem d_Mo_said_76 : decode b_Mo_said 76 = .ok (.aload_n 0, 1) := by decide +kernel
theorem d_Mo_said_77 : decode b_Mo_said 77 = .ok (.getfield 19, 3) := by decide +kernel
theorem d_Mo_said_80 : decode b_Mo_said 80 = .ok (.aload_n 0, 1) := by decide +kernel
theorem d_Mo_said_81 : decode b_Mo_said 81 = .ok (.getfield 29, 3) := by decide +kernel
theorem d_Mo_said_84 : decode b_Mo_said 84 = .ok (.iload_n 3, 1) := by decide +kernel
theorem d_Mo_said_85 : decode b_Mo_said 85 = .ok (.iaload, 1) := by decide +kernel
theorem d_Mo_said_86 : decode b_Mo_said 86 = .ok (.laload, 1) := by decide +kernel
theorem d_Mo_said_87 : decode b_Mo_said 87 = .ok (.lcmp, 1) := by decide +kernel
theorem d_Mo_said_88 : decode b_Mo_said 88 = .ok (.ifCond .eq 9, 3) := by decide +kernel
theorem d_Mo_said_91 : decode b_Mo_said 91 = .ok (.iinc 4 1, 3) := by decide +kernel
theorem d_Mo_said_94 : decode b_Mo_said 94 = .ok (.goto (-36), 3) := by decide +kernel
theorem d_Mo_said_97 : decode b_Mo_said 97 = .ok (.iload 4, 2) := by decide +kernel
theorem d_Mo_said_99 : decode b_Mo_said 99 = .ok (.bipush 6, 2) := by decide +kernel
theorem d_Mo_said_101 : decode b_Mo_said 101 = .ok (.if_icmp .ne 6, 3) := by decide +kernel
theorem d_Mo_said_104 : decode b_Mo_said 104 = .ok (.bipush 7, 2) := by decide +kernel
theorem d_Mo_said_106 : decode b_Mo_said 106 = .ok (.ireturn, 1) := by decide +kernel
theorem d_Mo_said_107 : decode b_Mo_said 107 = .ok (.iload 4, 2) := by decide +kernel
theorem d_Mo_said_109 : decode b_Mo_said 109 = .ok (.iload_n 2, 1) := by decide +kernel
theorem d_Mo_said_110 : decode b_Mo_said 110 = .ok (.if_icmp .ne 19, 3) := by decide +kernel
theorem d_Mo_said_113 : decode b_Mo_said 113 = .ok (.aload_n 0, 1) := by decide +kernel
theorem d_Mo_said_114 : decode b_Mo_said 114 = .ok (.getfield 26, 3) := by decide +kernel
theorem d_Mo_said_117 : decode b_Mo_said 117 = .ok (.iload 4, 2) := by decide +kernel
theorem d_Mo_said_119 : decode b_Mo_said 119 = .ok (.aload_n 0, 1) := by decide +kernel
theorem d_Mo_said_120 : decode b_Mo_said 120 = .ok (.getfield 29, 3) := by decide +kernel
theorem d_Mo_said_123 : decode b_Mo_said 123 = .ok (.iload_n 3, 1) := by decide +kernel
theorem d_Mo_said_124 : decode b_Mo_said 124 = .ok (.iaload, 1) := by decide +kernel
theorem d_Mo_said_125 : decode b_Mo_said 125 = .ok (.iastore, 1) := by decide +kernel
theorem d_Mo_said_126 : decode b_Mo_said 126 = .ok (.iinc 2 1, 3) := by decide +kernel
theorem d_Mo_said_129 : decode b_Mo_said 129 = .ok (.iconst 0, 1) := by decide +kernel
theorem d_Mo_said_130 : decode b_Mo_said 130 = .ok (.istore 5, 2) := by decide +kernel
theorem d_Mo_said_132 : decode b_Mo_said 132 = .ok (.iload 5, 2) := by decide +kernel
theorem d_Mo_said_134 : decode b_Mo_said 134 = .ok (.iconst 2, 1) := by decide +kernel
theorem d_Mo_said_135 : decode b_Mo_said 135 = .ok (.if_icmp .ge 52, 3) := by decide +kernel
theorem d_Mo_said_138 : decode b_Mo_said 138 = .ok (.aload_n 0, 1) := by decide +kernel
theorem d_Mo_said_139 : decode b_Mo_said 139 = .ok (.aload_n 0, 1) := by decide +kernel
theorem d_Mo_said_140 : decode b_Mo_said 140 = .ok (.getfield 29, 3) := by decide +kernel
theorem d_Mo_said_143 : decode b_Mo_said 143 = .ok (.iload_n 3, 1) := by decide +kernel
theorem d_Mo_said_144 : decode b_Mo_said 144 = .ok (.iaload, 1) := by decide +kernel
theorem d_Mo_said_145 : decode b_Mo_said 145 = .ok (.iload 5, 2) := by decide +kernel
theorem d_Mo_said_147 : decode b_Mo_said 147 = .ok (.invokevirtual 90, 3) := by decide +kernel
theorem d_Mo_said_150 : decode b_Mo_said 150 = .ok (.istore 6, 2) := by decide +kernel
theorem d_Mo_said_152 : decode b_Mo_said 152 = .ok (.aload_n 0, 1) := by decide +kernel
theorem d_Mo_said_153 : decode b_Mo_said 153 = .ok (.getfield 32, 3) := by decide +kernel
theorem d_Mo_said_156 : decode b_Mo_said 156 = .ok (.iload 6, 2) := by decide +kernel
theorem d_Mo_said_158 : decode b_Mo_said 158 = .ok (.baload, 1) := by decide +kernel
theorem d_Mo_said_159 : decode b_Mo_said 159 = .ok (.ifCond .ne 22, 3) := by decide +kernel
theorem d_Mo_said_162 : decode b_Mo_said 162 = .ok (.aload_n 0, 1) := by decide +kernel
theorem d_Mo_said_163 : decode b_Mo_said 163 = .ok (.getfield 32, 3) := by decide +kernel
theorem d_Mo_said_166 : decode b_Mo_said 166 = .ok (.iload 6, 2) := by decide +kernel
theorem d_Mo_said_168 : decode b_Mo_said 168 = .ok (.iconst 1, 1) := by decide +kernel
theorem d_Mo_said_169 : decode b_Mo_said 169 = .ok (.bastore, 1) := by decide +kernel
theorem d_Mo_said_170 : decode b_Mo_said 170 = .ok (.aload_n 0, 1) := by decide +kernel
theorem d_Mo_said_171 : decode b_Mo_said 171 = .ok (.getfield 29, 3) := by decide +kernel
theorem d_Mo_said_174 : decode b_Mo_said 174 = .ok (.iload_n 1, 1) := by decide +kernel
theorem d_Mo_said_175 : decode b_Mo_said 175 = .ok (.iload 6, 2) := by decide +kernel
theorem d_Mo_said_177 : decode b_Mo_said 177 = .ok (.iastore, 1) := by decide +kernel
theorem d_Mo_said_178 : decode b_Mo_said 178 = .ok (.iinc 1 1, 3) := by decide +kernel
theorem d_Mo_said_181 : decode b_Mo_said 181 = .ok (.iinc 5 1, 3) := by decide +kernel
theorem d_Mo_said_184 : decode b_Mo_said 184 = .ok (.goto (-52), 3) := by decide +kernel
theorem d_Mo_said_187 : decode b_Mo_said 187 = .ok (.iinc 3 1, 3) := by decide +kernel
theorem d_Mo_said_190 : decode b_Mo_said 190 = .ok (.goto (-140), 3) := by decide +kernel
theorem d_Mo_said_193 : decode b_Mo_said 193 = .ok (.iload_n 2, 1) := by decide +kernel
theorem d_Mo_said_194 : decode b_Mo_said 194 = .ok (.ireturn, 1) := by decide +kernel
end
section
theorem d_Mo_startCode_0 : decode b_Mo_startCode 0 = .ok (.aload_n 0, 1) := by decide +kernel
theorem d_Mo_startCode_1 : decode b_Mo_startCode 1 = .ok (.getfield 59, 3) := by decide +kernel
theorem d_Mo_startCode_4 : decode b_Mo_startCode 4 = .ok (.iconst 3, 1) := by decide +kernel
theorem d_Mo_startCode_5 : decode b_Mo_startCode 5 = .ok (.if_icmp .ne 23, 3) := by decide +kernel
theorem d_Mo_startCode_8 : decode b_Mo_startCode 8 = .ok (.aload_n 0, 1) := by decide +kernel
theorem d_Mo_startCode_9 : decode b_Mo_startCode 9 = .ok (.aload_n 0, 1) := by decide +kernel
theorem d_Mo_startCode_10 : decode b_Mo_startCode 10 = .ok (.getfield 62, 3) := by decide +kernel
theorem d_Mo_startCode_13 : decode b_Mo_startCode 13 = .ok (.iconst 0, 1) := by decide +kernel
theorem d_Mo_startCode_14 : decode b_Mo_startCode 14 = .ok (.invokevirtual 65, 3) := by decide +kernel
theorem d_Mo_startCode_17 : decode b_Mo_startCode 17 = .ok (.ifCond .eq 7, 3) := by decide +kernel
theorem d_Mo_startCode_20 : decode b_Mo_startCode 20 = .ok (.iconst 1, 1) := by decide +kernel
theorem d_Mo_startCode_21 : decode b_Mo_startCode 21 = .ok (.goto 21, 3) := by decide +kernel
theorem d_Mo_startCode_24 : decode b_Mo_startCode 24 = .ok (.iconst 0, 1) := by decide +kernel
theorem d_Mo_startCode_25 : decode b_Mo_startCode 25 = .ok (.goto 17, 3) := by decide +kernel
theorem d_Mo_startCode_28 : decode b_Mo_startCode 28 = .ok (.aload_n 0, 1) := by decide +kernel
theorem d_Mo_startCode_29 : decode b_Mo_startCode 29 = .ok (.getfield 59, 3) := by decide +kernel
theorem d_Mo_startCode_32 : decode b_Mo_startCode 32 = .ok (.iconst 4, 1) := by decide +kernel
theorem d_Mo_startCode_33 : decode b_Mo_startCode 33 = .ok (.if_icmp .ne 8, 3) := by decide +kernel
theorem d_Mo_startCode_36 : decode b_Mo_startCode 36 = .ok (.bipush 64, 2) := by decide +kernel
theorem d_Mo_startCode_38 : decode b_Mo_startCode 38 = .ok (.goto 4, 3) := by decide +kernel
theorem d_Mo_startCode_41 : decode b_Mo_startCode 41 = .ok (.iconst 0, 1) := by decide +kernel
theorem d_Mo_startCode_42 : decode b_Mo_startCode 42 = .ok (.ireturn, 1) := by decide +kernel
theorem d_Mo_unite_0 : decode b_Mo_unite 0 = .ok (.aload_n 0, 1) := by decide +kernel
theorem d_Mo_unite_1 : decode b_Mo_unite 1 = .ok (.iconst 1, 1) := by decide +kernel
theorem d_Mo_unite_2 : decode b_Mo_unite 2 = .ok (.iload_n 1, 1) := by decide +kernel
theorem d_Mo_unite_3 : decode b_Mo_unite 3 = .ok (.iload_n 2, 1) := by decide +kernel
theorem d_Mo_unite_4 : decode b_Mo_unite 4 = .ok (.invokevirtual 108, 3) := by decide +kernel
theorem d_Mo_unite_7 : decode b_Mo_unite 7 = .ok (.ireturn, 1) := by decide +kernel
theorem d_Mo_both_0 : decode b_Mo_both 0 = .ok (.aload_n 0, 1) := by decide +kernel
theorem d_Mo_both_1 : decode b_Mo_both 1 = .ok (.iload_n 2, 1) := by decide +kernel
theorem d_Mo_both_2 : decode b_Mo_both 2 = .ok (.invokevirtual 105, 3) := by decide +kernel
theorem d_Mo_both_5 : decode b_Mo_both 5 = .ok (.ifCond .eq 21, 3) := by decide +kernel
theorem d_Mo_both_8 : decode b_Mo_both 8 = .ok (.aload_n 0, 1) := by decide +kernel
theorem d_Mo_both_9 : decode b_Mo_both 9 = .ok (.iload_n 3, 1) := by decide +kernel
theorem d_Mo_both_10 : decode b_Mo_both 10 = .ok (.invokevirtual 105, 3) := by decide +kernel
theorem d_Mo_both_13 : decode b_Mo_both 13 = .ok (.ifCond .eq 13, 3) := by decide +kernel
theorem d_Mo_both_16 : decode b_Mo_both 16 = .ok (.aload_n 0, 1) := by decide +kernel
theorem d_Mo_both_17 : decode b_Mo_both 17 = .ok (.iload_n 1, 1) := by decide +kernel
theorem d_Mo_both_18 : decode b_Mo_both 18 = .ok (.iload_n 2, 1) := by decide +kernel
theorem d_Mo_both_19 : decode b_Mo_both 19 = .ok (.iload_n 3, 1) := by decide +kernel
theorem d_Mo_both_20 : decode b_Mo_both 20 = .ok (.invokevirtual 102, 3) := by decide +kernel
theorem d_Mo_both_23 : decode b_Mo_both 23 = .ok (.goto 4, 3) := by decide +kernel
theorem d_Mo_both_26 : decode b_Mo_both 26 = .ok (.iconst (-1), 1) := by decide +kernel
theorem d_Mo_both_27 : decode b_Mo_both 27 = .ok (.ireturn, 1) := by decide +kernel
theorem d_Mo_isIn_0 : decode b_Mo_isIn 0 = .ok (.iload_n 1, 1) := by decide +kernel
theorem d_Mo_isIn_1 : decode b_Mo_isIn 1 = .ok (.ifCond .lt 15, 3) := by decide +kernel
theorem d_Mo_isIn_4 : decode b_Mo_isIn 4 = .ok (.iload_n 1, 1) := by decide +kernel
theorem d_Mo_isIn_5 : decode b_Mo_isIn 5 = .ok (.aload_n 0, 1) := by decide +kernel
theorem d_Mo_isIn_6 : decode b_Mo_isIn 6 = .ok (.getfield 51, 3) := by decide +kernel
theorem d_Mo_isIn_9 : decode b_Mo_isIn 9 = .ok (.if_icmp .ge 7, 3) := by decide +kernel
theorem d_Mo_isIn_12 : decode b_Mo_isIn 12 = .ok (.iconst 1, 1) := by decide +kernel
theorem d_Mo_isIn_13 : decode b_Mo_isIn 13 = .ok (.goto 4, 3) := by decide +kernel
theorem d_Mo_isIn_16 : decode b_Mo_isIn 16 = .ok (.iconst 0, 1) := by decide +kernel
theorem d_Mo_isIn_17 : decode b_Mo_isIn 17 = .ok (.ireturn, 1) := by decide +kernel
theorem d_Mo_meet_0 : decode b_Mo_meet 0 = .ok (.aload_n 0, 1) := by decide +kernel
theorem d_Mo_meet_1 : decode b_Mo_meet 1 = .ok (.iconst 2, 1) := by decide +kernel
theorem d_Mo_meet_2 : decode b_Mo_meet 2 = .ok (.iload_n 1, 1) := by decide +kernel
theorem d_Mo_meet_3 : decode b_Mo_meet 3 = .ok (.iload_n 2, 1) := by decide +kernel
theorem d_Mo_meet_4 : decode b_Mo_meet 4 = .ok (.invokevirtual 108, 3) := by decide +kernel
theorem d_Mo_meet_7 : decode b_Mo_meet 7 = .ok (.ireturn, 1) := by decide +kernel
theorem d_Mo_chain_0 : decode b_Mo_chain 0 = .ok (.aload_n 0, 1) := by decide +kernel
theorem d_Mo_chain_1 : decode b_Mo_chain 1 = .ok (.iconst 3, 1) := by decide +kernel
theorem d_Mo_chain_2 : decode b_Mo_chain 2 = .ok (.iload_n 1, 1) := by decide +kernel
theorem d_Mo_chain_3 : decode b_Mo_chain 3 = .ok (.iload_n 2, 1) := by decide +kernel
theorem d_Mo_chain_4 : decode b_Mo_chain 4 = .ok (.invokevirtual 108, 3) := by decide +kernel
theorem d_Mo_chain_7 : decode b_Mo_chain 7 = .ok (.ireturn, 1) := by decide +kernel
theorem d_Mo_star_0 : decode b_Mo_star 0 = .ok (.aload_n 0, 1) := by decide +kernel
theorem d_Mo_star_1 : decode b_Mo_star 1 = .ok (.iconst 4, 1) := by decide +kernel
theorem d_Mo_star_2 : decode b_Mo_star 2 = .ok (.iload_n 1, 1) := by decide +kernel
theorem d_Mo_star_3 : decode b_Mo_star 3 = .ok (.iload_n 1, 1) := by decide +kernel
theorem d_Mo_star_4 : decode b_Mo_star 4 = .ok (.invokevirtual 108, 3) := by decide +kernel
theorem d_Mo_star_7 : decode b_Mo_star 7 = .ok (.ireturn, 1) := by decide +kernel
theorem d_Mo_invert_0 : decode b_Mo_invert 0 = .ok (.aload_n 0, 1) := by decide +kernel
theorem d_Mo_invert_1 : decode b_Mo_invert 1 = .ok (.iconst 5, 1) := by decide +kernel
theorem d_Mo_invert_2 : decode b_Mo_invert 2 = .ok (.iload_n 1, 1) := by decide +kernel
theorem d_Mo_invert_3 : decode b_Mo_invert 3 = .ok (.iload_n 1, 1) := by decide +kernel
theorem d_Mo_invert_4 : decode b_Mo_invert 4 = .ok (.invokevirtual 108, 3) := by decide +kernel
theorem d_Mo_invert_7 : decode b_Mo_invert 7 = .ok (.ireturn, 1) := by decide +kernel
theorem d_Mo_forget_0 : decode b_Mo_forget 0 = .ok (.aload_n 0, 1) := by decide +kernel
theorem d_Mo_forget_1 : decode b_Mo_forget 1 = .ok (.getfield 51, 3) := by decide +kernel
theorem d_Mo_forget_4 : decode b_Mo_forget 4 = .ok (.ifCond .ne 5, 3) := by decide +kernel
theorem d_Mo_forget_7 : decode b_Mo_forget 7 = .ok (.iconst 0, 1) := by decide +kernel
theorem d_Mo_forget_8 : decode b_Mo_forget 8 = .ok (.ireturn, 1) := by decide +kernel
theorem d_Mo_forget_9 : decode b_Mo_forget 9 = .ok (.aload_n 0, 1) := by decide +kernel
theorem d_Mo_forget_10 : decode b_Mo_forget 10 = .ok (.dup, 1) := by decide +kernel
theorem d_Mo_forget_11 : decode b_Mo_forget 11 = .ok (.getfield 51, 3) := by decide +kernel
theorem d_Mo_forget_14 : decode b_Mo_forget 14 = .ok (.iconst 1, 1) := by decide +kernel
theorem d_Mo_forget_15 : decode b_Mo_forget 15 = .ok (.isub, 1) := by decide +kernel
theorem d_Mo_forget_16 : decode b_Mo_forget 16 = .ok (.putfield 51, 3) := by decide +kernel
theorem d_Mo_forget_19 : decode b_Mo_forget 19 = .ok (.iconst 1, 1) := by decide +kernel
theorem d_Mo_forget_20 : decode b_Mo_forget 20 = .ok (.ireturn, 1) := by decide +kernel
theorem d_Mo_count_0 : decode b_Mo_count 0 = .ok (.aload_n 0, 1) := by decide +kernel
theorem d_Mo_count_1 : decode b_Mo_count 1 = .ok (.getfield 51, 3) := by decide +kernel
theorem d_Mo_count_4 : decode b_Mo_count 4 = .ok (.ireturn, 1) := by decide +kernel
theorem d_Mo_states_0 : decode b_Mo_states 0 = .ok (.aload_n 0, 1) := by decide +kernel
theorem d_Mo_states_1 : decode b_Mo_states 1 = .ok (.iload_n 1, 1) := by decide +kernel
theorem d_Mo_states_2 : decode b_Mo_states 2 = .ok (.invokevirtual 105, 3) := by decide +kernel
theorem d_Mo_states_5 : decode b_Mo_states 5 = .ok (.ifCond .eq 12, 3) := by decide +kernel
theorem d_Mo_states_8 : decode b_Mo_states 8 = .ok (.aload_n 0, 1) := by decide +kernel
theorem d_Mo_states_9 : decode b_Mo_states 9 = .ok (.getfield 7, 3) := by decide +kernel
theorem d_Mo_states_12 : decode b_Mo_states 12 = .ok (.iload_n 1, 1) := by decide +kernel
theorem d_Mo_states_13 : decode b_Mo_states 13 = .ok (.iaload, 1) := by decide +kernel
theorem d_Mo_states_14 : decode b_Mo_states 14 = .ok (.goto 4, 3) := by decide +kernel
theorem d_Mo_states_17 : decode b_Mo_states 17 = .ok (.iconst (-1), 1) := by decide +kernel
theorem d_Mo_states_18 : decode b_Mo_states 18 = .ok (.ireturn, 1) := by decide +kernel
theorem d_Mo_next_0 : decode b_Mo_next 0 = .ok (.aload_n 0, 1) := by decide +kernel
theorem d_Mo_next_1 : decode b_Mo_next 1 = .ok (.iload_n 1, 1) := by decide +kernel
theorem d_Mo_next_2 : decode b_Mo_next 2 = .ok (.iload_n 2, 1) := by decide +kernel
theorem d_Mo_next_3 : decode b_Mo_next 3 = .ok (.invokevirtual 111, 3) := by decide +kernel
theorem d_Mo_next_6 : decode b_Mo_next 6 = .ok (.ifCond .eq 22, 3) := by decide +kernel
theorem d_Mo_next_9 : decode b_Mo_next 9 = .ok (.iload_n 3, 1) := by decide +kernel
theorem d_Mo_next_10 : decode b_Mo_next 10 = .ok (.ifCond .eq 8, 3) := by decide +kernel
theorem d_Mo_next_13 : decode b_Mo_next 13 = .ok (.iload_n 3, 1) := by decide +kernel
theorem d_Mo_next_14 : decode b_Mo_next 14 = .ok (.iconst 1, 1) := by decide +kernel
theorem d_Mo_next_15 : decode b_Mo_next 15 = .ok (.if_icmp .ne 13, 3) := by decide +kernel
theorem d_Mo_next_18 : decode b_Mo_next 18 = .ok (.aload_n 0, 1) := by decide +kernel
theorem d_Mo_next_19 : decode b_Mo_next 19 = .ok (.iload_n 1, 1) := by decide +kernel
theorem d_Mo_next_20 : decode b_Mo_next 20 = .ok (.iload_n 2, 1) := by decide +kernel
theorem d_Mo_next_21 : decode b_Mo_next 21 = .ok (.iload_n 3, 1) := by decide +kernel
theorem d_Mo_next_22 : decode b_Mo_next 22 = .ok (.invokevirtual 55, 3) := by decide +kernel
theorem d_Mo_next_25 : decode b_Mo_next 25 = .ok (.goto 4, 3) := by decide +kernel
theorem d_Mo_next_28 : decode b_Mo_next 28 = .ok (.iconst (-1), 1) := by decide +kernel
theorem d_Mo_next_29 : decode b_Mo_next 29 = .ok (.ireturn, 1) := by decide +kernel
theorem d_Mo_isState_0 : decode b_Mo_isState 0 = .ok (.aload_n 0, 1) := by decide +kernel
theorem d_Mo_isState_1 : decode b_Mo_isState 1 = .ok (.iload_n 1, 1) := by decide +kernel
theorem d_Mo_isState_2 : decode b_Mo_isState 2 = .ok (.invokevirtual 105, 3) := by decide +kernel
theorem d_Mo_isState_5 : decode b_Mo_isState 5 = .ok (.ifCond .eq 21, 3) := by decide +kernel
theorem d_Mo_isState_8 : decode b_Mo_isState 8 = .ok (.iload_n 2, 1) := by decide +kernel
theorem d_Mo_isState_9 : decode b_Mo_isState 9 = .ok (.ifCond .lt 17, 3) := by decide +kernel
theorem d_Mo_isState_12 : decode b_Mo_isState 12 = .ok (.iload_n 2, 1) := by decide +kernel
theorem d_Mo_isState_13 : decode b_Mo_isState 13 = .ok (.aload_n 0, 1) := by decide +kernel
theorem d_Mo_isState_14 : decode b_Mo_isState 14 = .ok (.getfield 7, 3) := by decide +kernel
theorem d_Mo_isState_17 : decode b_Mo_isState 17 = .ok (.iload_n 1, 1) := by decide +kernel
theorem d_Mo_isState_18 : decode b_Mo_isState 18 = .ok (.iaload, 1) := by decide +kernel
theorem d_Mo_isState_19 : decode b_Mo_isState 19 = .ok (.if_icmp .ge 7, 3) := by decide +kernel
theorem d_Mo_isState_22 : decode b_Mo_isState 22 = .ok (.iconst 1, 1) := by decide +kernel
theorem d_Mo_isState_23 : decode b_Mo_isState 23 = .ok (.goto 4, 3) := by decide +kernel
theorem d_Mo_isState_26 : decode b_Mo_isState 26 = .ok (.iconst 0, 1) := by decide +kernel
theorem d_Mo_isState_27 : decode b_Mo_isState 27 = .ok (.ireturn, 1) := by decide +kernel
theorem d_Mo_accepts_0 : decode b_Mo_accepts 0 = .ok (.aload_n 0, 1) := by decide +kernel
theorem d_Mo_accepts_1 : decode b_Mo_accepts 1 = .ok (.iload_n 1, 1) := by decide +kernel
theorem d_Mo_accepts_2 : decode b_Mo_accepts 2 = .ok (.iload_n 2, 1) := by decide +kernel
theorem d_Mo_accepts_3 : decode b_Mo_accepts 3 = .ok (.invokevirtual 111, 3) := by decide +kernel
theorem d_Mo_accepts_6 : decode b_Mo_accepts 6 = .ok (.ifCond .eq 16, 3) := by decide +kernel
theorem d_Mo_accepts_9 : decode b_Mo_accepts 9 = .ok (.aload_n 0, 1) := by decide +kernel
theorem d_Mo_accepts_10 : decode b_Mo_accepts 10 = .ok (.iload_n 1, 1) := by decide +kernel
theorem d_Mo_accepts_11 : decode b_Mo_accepts 11 = .ok (.iload_n 2, 1) := by decide +kernel
theorem d_Mo_accepts_12 : decode b_Mo_accepts 12 = .ok (.invokevirtual 65, 3) := by decide +kernel
theorem d_Mo_accepts_15 : decode b_Mo_accepts 15 = .ok (.ifCond .eq 7, 3) := by decide +kernel
theorem d_Mo_accepts_18 : decode b_Mo_accepts 18 = .ok (.iconst 1, 1) := by decide +kernel
theorem d_Mo_accepts_19 : decode b_Mo_accepts 19 = .ok (.goto 4, 3) := by decide +kernel
theorem d_Mo_accepts_22 : decode b_Mo_accepts 22 = .ok (.iconst 0, 1) := by decide +kernel
theorem d_Mo_accepts_23 : decode b_Mo_accepts 23 = .ok (.ireturn, 1) := by decide +kernel
theorem d_Mo_contains_0 : decode b_Mo_contains 0 = .ok (.aload_n 0, 1) := by decide +kernel
theorem d_Mo_contains_1 : decode b_Mo_contains 1 = .ok (.iload_n 1, 1) := by decide +kernel
theorem d_Mo_contains_2 : decode b_Mo_contains 2 = .ok (.invokevirtual 105, 3) := by decide +kernel
theorem d_Mo_contains_5 : decode b_Mo_contains 5 = .ok (.ifCond .eq 15, 3) := by decide +kernel
theorem d_Mo_contains_8 : decode b_Mo_contains 8 = .ok (.iload 4, 2) := by decide +kernel
theorem d_Mo_contains_10 : decode b_Mo_contains 10 = .ok (.ifCond .lt 10, 3) := by decide +kernel
theorem d_Mo_contains_13 : decode b_Mo_contains 13 = .ok (.iload 4, 2) := by decide +kernel
theorem d_Mo_contains_15 : decode b_Mo_contains 15 = .ok (.bipush 64, 2) := by decide +kernel
theorem d_Mo_contains_17 : decode b_Mo_contains 17 = .ok (.if_icmp .le 5, 3) := by decide +kernel
theorem d_Mo_contains_20 : decode b_Mo_contains 20 = .ok (.iconst 0, 1) := by decide +kernel
theorem d_Mo_contains_21 : decode b_Mo_contains 21 = .ok (.ireturn, 1) := by decide +kernel
theorem d_Mo_contains_22 : decode b_Mo_contains 22 = .ok (.iconst 0, 1) := by decide +kernel
theorem d_Mo_contains_23 : decode b_Mo_contains 23 = .ok (.istore 5, 2) := by decide +kernel
theorem d_Mo_contains_25 : decode b_Mo_contains 25 = .ok (.iconst 0, 1) := by decide +kernel
theorem d_Mo_contains_26 : decode b_Mo_contains 26 = .ok (.istore 6, 2) := by decide +kernel
theorem d_Mo_contains_28 : decode b_Mo_contains 28 = .ok (.iload 6, 2) := by decide +kernel
theorem d_Mo_contains_30 : decode b_Mo_contains 30 = .ok (.iload 4, 2) := by decide +kernel
theorem d_Mo_contains_32 : decode b_Mo_contains 32 = .ok (.if_icmp .ge 25, 3) := by decide +kernel
theorem d_Mo_contains_35 : decode b_Mo_contains 35 = .ok (.aload_n 0, 1) := by decide +kernel
theorem d_Mo_contains_36 : decode b_Mo_contains 36 = .ok (.iload_n 1, 1) := by decide +kernel
theorem d_Mo_contains_37 : decode b_Mo_contains 37 = .ok (.iload 5, 2) := by decide +kernel
theorem d_Mo_contains_39 : decode b_Mo_contains 39 = .ok (.lload_n 2, 1) := by decide +kernel
theorem d_Mo_contains_40 : decode b_Mo_contains 40 = .ok (.iload 6, 2) := by decide +kernel
theorem d_Mo_contains_42 : decode b_Mo_contains 42 = .ok (.lushr, 1) := by decide +kernel
theorem d_Mo_contains_43 : decode b_Mo_contains 43 = .ok (.lconst 1, 1) := by decide +kernel
theorem d_Mo_contains_44 : decode b_Mo_contains 44 = .ok (.land, 1) := by decide +kernel
theorem d_Mo_contains_45 : decode b_Mo_contains 45 = .ok (.l2i, 1) := by decide +kernel
theorem d_Mo_contains_46 : decode b_Mo_contains 46 = .ok (.invokevirtual 55, 3) := by decide +kernel
theorem d_Mo_contains_49 : decode b_Mo_contains 49 = .ok (.istore 5, 2) := by decide +kernel
theorem d_Mo_contains_51 : decode b_Mo_contains 51 = .ok (.iinc 6 1, 3) := by decide +kernel
theorem d_Mo_contains_54 : decode b_Mo_contains 54 = .ok (.goto (-26), 3) := by decide +kernel
theorem d_Mo_contains_57 : decode b_Mo_contains 57 = .ok (.aload_n 0, 1) := by decide +kernel
theorem d_Mo_contains_58 : decode b_Mo_contains 58 = .ok (.iload_n 1, 1) := by decide +kernel
theorem d_Mo_contains_59 : decode b_Mo_contains 59 = .ok (.iload 5, 2) := by decide +kernel
theorem d_Mo_contains_61 : decode b_Mo_contains 61 = .ok (.invokevirtual 65, 3) := by decide +kernel
theorem d_Mo_contains_64 : decode b_Mo_contains 64 = .ok (.ireturn, 1) := by decide +kernel
theorem d_Mo_same_0 : decode b_Mo_same 0 = .ok (.aload_n 0, 1) := by decide +kernel
theorem d_Mo_same_1 : decode b_Mo_same 1 = .ok (.iload_n 1, 1) := by decide +kernel
theorem d_Mo_same_2 : decode b_Mo_same 2 = .ok (.invokevirtual 105, 3) := by decide +kernel
theorem d_Mo_same_5 : decode b_Mo_same 5 = .ok (.ifCond .eq 11, 3) := by decide +kernel
theorem d_Mo_same_8 : decode b_Mo_same 8 = .ok (.aload_n 0, 1) := by decide +kernel
theorem d_Mo_same_9 : decode b_Mo_same 9 = .ok (.iload_n 2, 1) := by decide +kernel
theorem d_Mo_same_10 : decode b_Mo_same 10 = .ok (.invokevirtual 105, 3) := by decide +kernel
theorem d_Mo_same_13 : decode b_Mo_same 13 = .ok (.ifCond .ne 5, 3) := by decide +kernel
theorem d_Mo_same_16 : decode b_Mo_same 16 = .ok (.iconst 0, 1) := by decide +kernel
theorem d_Mo_same_17 : decode b_Mo_same 17 = .ok (.ireturn, 1) := by decide +kernel
theorem d_Mo_same_18 : decode b_Mo_same 18 = .ok (.lconst 1, 1) := by decide +kernel
theorem d_Mo_same_19 : decode b_Mo_same 19 = .ok (.lstore_n 3, 1) := by decide +kernel
theorem d_Mo_same_20 : decode b_Mo_same 20 = .ok (.iconst 0, 1) := by decide +kernel
theorem d_Mo_same_21 : decode b_Mo_same 21 = .ok (.istore 5, 2) := by decide +kernel
theorem d_Mo_same_23 : decode b_Mo_same 23 = .ok (.iload 5, 2) := by decide +kernel
theorem d_Mo_same_25 : decode b_Mo_same 25 = .ok (.bipush 36, 2) := by decide +kernel
theorem d_Mo_same_27 : decode b_Mo_same 27 = .ok (.if_icmp .ge 121, 3) := by decide +kernel
theorem d_Mo_same_30 : decode b_Mo_same 30 = .ok (.iconst 0, 1) := by decide +kernel
theorem d_Mo_same_31 : decode b_Mo_same 31 = .ok (.istore 6, 2) := by decide +kernel
theorem d_Mo_same_33 : decode b_Mo_same 33 = .ok (.iload 6, 2) := by decide +kernel
theorem d_Mo_same_35 : decode b_Mo_same 35 = .ok (.bipush 36, 2) := by decide +kernel
theorem d_Mo_same_37 : decode b_Mo_same 37 = .ok (.if_icmp .ge 105, 3) := by decide +kernel
theorem d_Mo_same_40 : decode b_Mo_same 40 = .ok (.lload_n 3, 1) := by decide +kernel
theorem d_Mo_same_41 : decode b_Mo_same 41 = .ok (.iload 6, 2) := by decide +kernel
theorem d_Mo_same_43 : decode b_Mo_same 43 = .ok (.lshr, 1) := by decide +kernel
theorem d_Mo_same_44 : decode b_Mo_same 44 = .ok (.lconst 1, 1) := by decide +kernel
theorem d_Mo_same_45 : decode b_Mo_same 45 = .ok (.land, 1) := by decide +kernel
theorem d_Mo_same_46 : decode b_Mo_same 46 = .ok (.lconst 1, 1) := by decide +kernel
theorem d_Mo_same_47 : decode b_Mo_same 47 = .ok (.lcmp, 1) := by decide +kernel
theorem d_Mo_same_48 : decode b_Mo_same 48 = .ok (.ifCond .ne 88, 3) := by decide +kernel
theorem d_Mo_same_51 : decode b_Mo_same 51 = .ok (.aload_n 0, 1) := by decide +kernel
theorem d_Mo_same_52 : decode b_Mo_same 52 = .ok (.iload_n 1, 1) := by decide +kernel
theorem d_Mo_same_53 : decode b_Mo_same 53 = .ok (.iload 6, 2) := by decide +kernel
theorem d_Mo_same_55 : decode b_Mo_same 55 = .ok (.bipush 6, 2) := by decide +kernel
theorem d_Mo_same_57 : decode b_Mo_same 57 = .ok (.idiv, 1) := by decide +kernel
theorem d_Mo_same_58 : decode b_Mo_same 58 = .ok (.invokevirtual 65, 3) := by decide +kernel
theorem d_Mo_same_61 : decode b_Mo_same 61 = .ok (.aload_n 0, 1) := by decide +kernel
theorem d_Mo_same_62 : decode b_Mo_same 62 = .ok (.iload_n 2, 1) := by decide +kernel
theorem d_Mo_same_63 : decode b_Mo_same 63 = .ok (.iload 6, 2) := by decide +kernel
theorem d_Mo_same_65 : decode b_Mo_same 65 = .ok (.bipush 6, 2) := by decide +kernel
theorem d_Mo_same_67 : decode b_Mo_same 67 = .ok (.irem, 1) := by decide +kernel
theorem d_Mo_same_68 : decode b_Mo_same 68 = .ok (.invokevirtual 65, 3) := by decide +kernel
theorem d_Mo_same_71 : decode b_Mo_same 71 = .ok (.if_icmp .eq 5, 3) := by decide +kernel
theorem d_Mo_same_74 : decode b_Mo_same 74 = .ok (.iconst 0, 1) := by decide +kernel
theorem d_Mo_same_75 : decode b_Mo_same 75 = .ok (.ireturn, 1) := by decide +kernel
theorem d_Mo_same_76 : decode b_Mo_same 76 = .ok (.lload_n 3, 1) := by decide +kernel
theorem d_Mo_same_77 : decode b_Mo_same 77 = .ok (.lconst 1, 1) := by decide +kernel
theorem d_Mo_same_78 : decode b_Mo_same 78 = .ok (.bipush 6, 2) := by decide +kernel
theorem d_Mo_same_80 : decode b_Mo_same 80 = .ok (.aload_n 0, 1) := by decide +kernel
theorem d_Mo_same_81 : decode b_Mo_same 81 = .ok (.iload_n 1, 1) := by decide +kernel
theorem d_Mo_same_82 : decode b_Mo_same 82 = .ok (.iload 6, 2) := by decide +kernel
theorem d_Mo_same_84 : decode b_Mo_same 84 = .ok (.bipush 6, 2) := by decide +kernel
theorem d_Mo_same_86 : decode b_Mo_same 86 = .ok (.idiv, 1) := by decide +kernel
theorem d_Mo_same_87 : decode b_Mo_same 87 = .ok (.iconst 0, 1) := by decide +kernel
theorem d_Mo_same_88 : decode b_Mo_same 88 = .ok (.invokevirtual 55, 3) := by decide +kernel
theorem d_Mo_same_91 : decode b_Mo_same 91 = .ok (.imul, 1) := by decide +kernel
theorem d_Mo_same_92 : decode b_Mo_same 92 = .ok (.aload_n 0, 1) := by decide +kernel
theorem d_Mo_same_93 : decode b_Mo_same 93 = .ok (.iload_n 2, 1) := by decide +kernel
theorem d_Mo_same_94 : decode b_Mo_same 94 = .ok (.iload 6, 2) := by decide +kernel
theorem d_Mo_same_96 : decode b_Mo_same 96 = .ok (.bipush 6, 2) := by decide +kernel
theorem d_Mo_same_98 : decode b_Mo_same 98 = .ok (.irem, 1) := by decide +kernel
theorem d_Mo_same_99 : decode b_Mo_same 99 = .ok (.iconst 0, 1) := by decide +kernel
theorem d_Mo_same_100 : decode b_Mo_same 100 = .ok (.invokevirtual 55, 3) := by decide +kernel
theorem d_Mo_same_103 : decode b_Mo_same 103 = .ok (.iadd, 1) := by decide +kernel
theorem d_Mo_same_104 : decode b_Mo_same 104 = .ok (.lshl, 1) := by decide +kernel
theorem d_Mo_same_105 : decode b_Mo_same 105 = .ok (.lor, 1) := by decide +kernel
theorem d_Mo_same_106 : decode b_Mo_same 106 = .ok (.lconst 1, 1) := by decide +kernel
theorem d_Mo_same_107 : decode b_Mo_same 107 = .ok (.bipush 6, 2) := by decide +kernel
theorem d_Mo_same_109 : decode b_Mo_same 109 = .ok (.aload_n 0, 1) := by decide +kernel
theorem d_Mo_same_110 : decode b_Mo_same 110 = .ok (.iload_n 1, 1) := by decide +kernel
theorem d_Mo_same_111 : decode b_Mo_same 111 = .ok (.iload 6, 2) := by decide +kernel
theorem d_Mo_same_113 : decode b_Mo_same 113 = .ok (.bipush 6, 2) := by decide +kernel
theorem d_Mo_same_115 : decode b_Mo_same 115 = .ok (.idiv, 1) := by decide +kernel
theorem d_Mo_same_116 : decode b_Mo_same 116 = .ok (.iconst 1, 1) := by decide +kernel
theorem d_Mo_same_117 : decode b_Mo_same 117 = .ok (.invokevirtual 55, 3) := by decide +kernel
theorem d_Mo_same_120 : decode b_Mo_same 120 = .ok (.imul, 1) := by decide +kernel
theorem d_Mo_same_121 : decode b_Mo_same 121 = .ok (.aload_n 0, 1) := by decide +kernel
theorem d_Mo_same_122 : decode b_Mo_same 122 = .ok (.iload_n 2, 1) := by decide +kernel
theorem d_Mo_same_123 : decode b_Mo_same 123 = .ok (.iload 6, 2) := by decide +kernel
theorem d_Mo_same_125 : decode b_Mo_same 125 = .ok (.bipush 6, 2) := by decide +kernel
theorem d_Mo_same_127 : decode b_Mo_same 127 = .ok (.irem, 1) := by decide +kernel
theorem d_Mo_same_128 : decode b_Mo_same 128 = .ok (.iconst 1, 1) := by decide +kernel
theorem d_Mo_same_129 : decode b_Mo_same 129 = .ok (.invokevirtual 55, 3) := by decide +kernel
theorem d_Mo_same_132 : decode b_Mo_same 132 = .ok (.iadd, 1) := by decide +kernel
theorem d_Mo_same_133 : decode b_Mo_same 133 = .ok (.lshl, 1) := by decide +kernel
theorem d_Mo_same_134 : decode b_Mo_same 134 = .ok (.lor, 1) := by decide +kernel
theorem d_Mo_same_135 : decode b_Mo_same 135 = .ok (.lstore_n 3, 1) := by decide +kernel
theorem d_Mo_same_136 : decode b_Mo_same 136 = .ok (.iinc 6 1, 3) := by decide +kernel
theorem d_Mo_same_139 : decode b_Mo_same 139 = .ok (.goto (-106), 3) := by decide +kernel
theorem d_Mo_same_142 : decode b_Mo_same 142 = .ok (.iinc 5 1, 3) := by decide +kernel
theorem d_Mo_same_145 : decode b_Mo_same 145 = .ok (.goto (-122), 3) := by decide +kernel
theorem d_Mo_same_148 : decode b_Mo_same 148 = .ok (.iconst 1, 1) := by decide +kernel
theorem d_Mo_same_149 : decode b_Mo_same 149 = .ok (.ireturn, 1) := by decide +kernel
theorem d_Mo_study_0 : decode b_Mo_study 0 = .ok (.aload_n 0, 1) := by decide +kernel
theorem d_Mo_study_1 : decode b_Mo_study 1 = .ok (.iload_n 1, 1) := by decide +kernel
theorem d_Mo_study_2 : decode b_Mo_study 2 = .ok (.invokevirtual 105, 3) := by decide +kernel
theorem d_Mo_study_5 : decode b_Mo_study 5 = .ok (.ifCond .ne 5, 3) := by decide +kernel
theorem d_Mo_study_8 : decode b_Mo_study 8 = .ok (.iconst (-1), 1) := by decide +kernel
theorem d_Mo_study_9 : decode b_Mo_study 9 = .ok (.ireturn, 1) := by decide +kernel
theorem d_Mo_study_10 : decode b_Mo_study 10 = .ok (.aload_n 0, 1) := by decide +kernel
theorem d_Mo_study_11 : decode b_Mo_study 11 = .ok (.iload_n 1, 1) := by decide +kernel
theorem d_Mo_study_12 : decode b_Mo_study 12 = .ok (.invokevirtual 127, 3) := by decide +kernel
theorem d_Mo_study_15 : decode b_Mo_study 15 = .ok (.istore_n 2, 1) := by decide +kernel
theorem d_Mo_study_16 : decode b_Mo_study 16 = .ok (.iload_n 2, 1) := by decide +kernel
theorem d_Mo_study_17 : decode b_Mo_study 17 = .ok (.bipush 60, 2) := by decide +kernel
theorem d_Mo_study_19 : decode b_Mo_study 19 = .ok (.if_icmp .le 6, 3) := by decide +kernel
theorem d_Mo_study_22 : decode b_Mo_study 22 = .ok (.bipush (-3), 2) := by decide +kernel
theorem d_Mo_study_24 : decode b_Mo_study 24 = .ok (.ireturn, 1) := by decide +kernel
theorem d_Mo_study_25 : decode b_Mo_study 25 = .ok (.aload_n 0, 1) := by decide +kernel
theorem d_Mo_study_26 : decode b_Mo_study 26 = .ok (.iload_n 2, 1) := by decide +kernel
theorem d_Mo_study_27 : decode b_Mo_study 27 = .ok (.putfield 130, 3) := by decide +kernel
theorem d_Mo_study_30 : decode b_Mo_study 30 = .ok (.aload_n 0, 1) := by decide +kernel
theorem d_Mo_study_31 : decode b_Mo_study 31 = .ok (.aload_n 0, 1) := by decide +kernel
theorem d_Mo_study_32 : decode b_Mo_study 32 = .ok (.getfield 7, 3) := by decide +kernel
theorem d_Mo_study_35 : decode b_Mo_study 35 = .ok (.iload_n 1, 1) := by decide +kernel
theorem d_Mo_study_36 : decode b_Mo_study 36 = .ok (.iaload, 1) := by decide +kernel
theorem d_Mo_study_37 : decode b_Mo_study 37 = .ok (.putfield 133, 3) := by decide +kernel
theorem d_Mo_study_40 : decode b_Mo_study 40 = .ok (.iconst 0, 1) := by decide +kernel
theorem d_Mo_study_41 : decode b_Mo_study 41 = .ok (.istore_n 3, 1) := by decide +kernel
theorem d_Mo_study_42 : decode b_Mo_study 42 = .ok (.iload_n 3, 1) := by decide +kernel
theorem d_Mo_study_43 : decode b_Mo_study 43 = .ok (.aload_n 0, 1) := by decide +kernel
theorem d_Mo_study_44 : decode b_Mo_study 44 = .ok (.getfield 130, 3) := by decide +kernel
theorem d_Mo_study_47 : decode b_Mo_study 47 = .ok (.if_icmp .ge 33, 3) := by decide +kernel
theorem d_Mo_study_50 : decode b_Mo_study 50 = .ok (.aload_n 0, 1) := by decide +kernel
theorem d_Mo_study_51 : decode b_Mo_study 51 = .ok (.getfield 36, 3) := by decide +kernel
theorem d_Mo_study_54 : decode b_Mo_study 54 = .ok (.iload_n 3, 1) := by decide +kernel
theorem d_Mo_study_55 : decode b_Mo_study 55 = .ok (.aload_n 0, 1) := by decide +kernel
theorem d_Mo_study_56 : decode b_Mo_study 56 = .ok (.getfield 42, 3) := by decide +kernel
theorem d_Mo_study_59 : decode b_Mo_study 59 = .ok (.iload_n 3, 1) := by decide +kernel
theorem d_Mo_study_60 : decode b_Mo_study 60 = .ok (.iaload, 1) := by decide +kernel
theorem d_Mo_study_61 : decode b_Mo_study 61 = .ok (.iastore, 1) := by decide +kernel
theorem d_Mo_study_62 : decode b_Mo_study 62 = .ok (.aload_n 0, 1) := by decide +kernel
theorem d_Mo_study_63 : decode b_Mo_study 63 = .ok (.getfield 39, 3) := by decide +kernel
theorem d_Mo_study_66 : decode b_Mo_study 66 = .ok (.iload_n 3, 1) := by decide +kernel
theorem d_Mo_study_67 : decode b_Mo_study 67 = .ok (.aload_n 0, 1) := by decide +kernel
theorem d_Mo_study_68 : decode b_Mo_study 68 = .ok (.getfield 45, 3) := by decide +kernel
theorem d_Mo_study_71 : decode b_Mo_study 71 = .ok (.iload_n 3, 1) := by decide +kernel
theorem d_Mo_study_72 : decode b_Mo_study 72 = .ok (.laload, 1) := by decide +kernel
theorem d_Mo_study_73 : decode b_Mo_study 73 = .ok (.lastore, 1) := by decide +kernel
theorem d_Mo_study_74 : decode b_Mo_study 74 = .ok (.iinc 3 1, 3) := by decide +kernel
theorem d_Mo_study_77 : decode b_Mo_study 77 = .ok (.goto (-35), 3) := by decide +kernel
theorem d_Mo_study_80 : decode b_Mo_study 80 = .ok (.iconst 0, 1) := by decide +kernel
theorem d_Mo_study_81 : decode b_Mo_study 81 = .ok (.istore_n 3, 1) := by decide +kernel
theorem d_Mo_study_82 : decode b_Mo_study 82 = .ok (.iload_n 3, 1) := by decide +kernel
theorem d_Mo_study_83 : decode b_Mo_study 83 = .ok (.aload_n 0, 1) := by decide +kernel
theorem d_Mo_study_84 : decode b_Mo_study 84 = .ok (.getfield 130, 3) := by decide +kernel
theorem d_Mo_study_87 : decode b_Mo_study 87 = .ok (.if_icmp .ge 114, 3) := by decide +kernel
theorem d_Mo_study_90 : decode b_Mo_study 90 = .ok (.iconst 0, 1) := by decide +kernel
theorem d_Mo_study_91 : decode b_Mo_study 91 = .ok (.istore 4, 2) := by decide +kernel
theorem d_Mo_study_93 : decode b_Mo_study 93 = .ok (.iload 4, 2) := by decide +kernel
theorem d_Mo_study_95 : decode b_Mo_study 95 = .ok (.aload_n 0, 1) := by decide +kernel
theorem d_Mo_study_96 : decode b_Mo_study 96 = .ok (.getfield 130, 3) := by decide +kernel
theorem d_Mo_study_99 : decode b_Mo_study 99 = .ok (.if_icmp .ge 96, 3) := by decide +kernel
theorem d_Mo_study_102 : decode b_Mo_study 102 = .ok (.iconst 0, 1) := by decide +kernel
theorem d_Mo_study_103 : decode b_Mo_study 103 = .ok (.istore 5, 2) := by decide +kernel
theorem d_Mo_study_105 : decode b_Mo_study 105 = .ok (.iconst 0, 1) := by decide +kernel
theorem d_Mo_study_106 : decode b_Mo_study 106 = .ok (.istore 6, 2) := by decide +kernel
theorem d_Mo_study_108 : decode b_Mo_study 108 = .ok (.iload 6, 2) := by decide +kernel
theorem d_Mo_study_110 : decode b_Mo_study 110 = .ok (.aload_n 0, 1) := by decide +kernel
theorem d_Mo_study_111 : decode b_Mo_study 111 = .ok (.getfield 133, 3) := by decide +kernel
theorem d_Mo_study_114 : decode b_Mo_study 114 = .ok (.if_icmp .ge 53, 3) := by decide +kernel
theorem d_Mo_study_117 : decode b_Mo_study 117 = .ok (.aload_n 0, 1) := by decide +kernel
theorem d_Mo_study_118 : decode b_Mo_study 118 = .ok (.getfield 36, 3) := by decide +kernel
theorem d_Mo_study_121 : decode b_Mo_study 121 = .ok (.iload_n 3, 1) := by decide +kernel
theorem d_Mo_study_122 : decode b_Mo_study 122 = .ok (.iaload, 1) := by decide +kernel
theorem d_Mo_study_123 : decode b_Mo_study 123 = .ok (.iload 6, 2) := by decide +kernel
theorem d_Mo_study_125 : decode b_Mo_study 125 = .ok (.invokestatic 114, 3) := by decide +kernel
theorem d_Mo_study_128 : decode b_Mo_study 128 = .ok (.idiv, 1) := by decide +kernel
theorem d_Mo_study_129 : decode b_Mo_study 129 = .ok (.bipush 6, 2) := by decide +kernel
theorem d_Mo_study_131 : decode b_Mo_study 131 = .ok (.irem, 1) := by decide +kernel
theorem d_Mo_study_132 : decode b_Mo_study 132 = .ok (.istore 7, 2) := by decide +kernel
theorem d_Mo_study_134 : decode b_Mo_study 134 = .ok (.iload 5, 2) := by decide +kernel
theorem d_Mo_study_136 : decode b_Mo_study 136 = .ok (.aload_n 0, 1) := by decide +kernel
theorem d_Mo_study_137 : decode b_Mo_study 137 = .ok (.getfield 36, 3) := by decide +kernel
theorem d_Mo_study_140 : decode b_Mo_study 140 = .ok (.iload 4, 2) := by decide +kernel
theorem d_Mo_study_142 : decode b_Mo_study 142 = .ok (.iaload, 1) := by decide +kernel
theorem d_Mo_study_143 : decode b_Mo_study 143 = .ok (.iload 7, 2) := by decide +kernel
theorem d_Mo_study_145 : decode b_Mo_study 145 = .ok (.invokestatic 114, 3) := by decide +kernel
theorem d_Mo_study_148 : decode b_Mo_study 148 = .ok (.idiv, 1) := by decide +kernel
theorem d_Mo_study_149 : decode b_Mo_study 149 = .ok (.bipush 6, 2) := by decide +kernel
theorem d_Mo_study_151 : decode b_Mo_study 151 = .ok (.irem, 1) := by decide +kernel
theorem d_Mo_study_152 : decode b_Mo_study 152 = .ok (.iload 6, 2) := by decide +kernel
theorem d_Mo_study_154 : decode b_Mo_study 154 = .ok (.invokestatic 114, 3) := by decide +kernel
theorem d_Mo_study_157 : decode b_Mo_study 157 = .ok (.imul, 1) := by decide +kernel
theorem d_Mo_study_158 : decode b_Mo_study 158 = .ok (.iadd, 1) := by decide +kernel
theorem d_Mo_study_159 : decode b_Mo_study 159 = .ok (.istore 5, 2) := by decide +kernel
theorem d_Mo_study_161 : decode b_Mo_study 161 = .ok (.iinc 6 1, 3) := by decide +kernel
theorem d_Mo_study_164 : decode b_Mo_study 164 = .ok (.goto (-56), 3) := by decide +kernel
theorem d_Mo_study_167 : decode b_Mo_study 167 = .ok (.aload_n 0, 1) := by decide +kernel
theorem d_Mo_study_168 : decode b_Mo_study 168 = .ok (.getfield 48, 3) := by decide +kernel
theorem d_Mo_study_171 : decode b_Mo_study 171 = .ok (.bipush 60, 2) := by decide +kernel
theorem d_Mo_study_173 : decode b_Mo_study 173 = .ok (.iload_n 3, 1) := by decide +kernel
theorem d_Mo_study_174 : decode b_Mo_study 174 = .ok (.imul, 1) := by decide +kernel
theorem d_Mo_study_175 : decode b_Mo_study 175 = .ok (.iload 4, 2) := by decide +kernel
theorem d_Mo_study_177 : decode b_Mo_study 177 = .ok (.iadd, 1) := by decide +kernel
theorem d_Mo_study_178 : decode b_Mo_study 178 = .ok (.aload_n 0, 1) := by decide +kernel
theorem d_Mo_study_179 : decode b_Mo_study 179 = .ok (.iload 5, 2) := by decide +kernel
theorem d_Mo_study_181 : decode b_Mo_study 181 = .ok (.aload_n 0, 1) := by decide +kernel
theorem d_Mo_study_182 : decode b_Mo_study 182 = .ok (.getfield 130, 3) := by decide +kernel
theorem d_Mo_study_185 : decode b_Mo_study 185 = .ok (.invokevirtual 122, 3) := by decide +kernel
theorem d_Mo_study_188 : decode b_Mo_study 188 = .ok (.iastore, 1) := by decide +kernel
theorem d_Mo_study_189 : decode b_Mo_study 189 = .ok (.iinc 4 1, 3) := by decide +kernel
theorem d_Mo_study_192 : decode b_Mo_study 192 = .ok (.goto (-99), 3) := by decide +kernel
theorem d_Mo_study_195 : decode b_Mo_study 195 = .ok (.iinc 3 1, 3) := by decide +kernel
theorem d_Mo_study_198 : decode b_Mo_study 198 = .ok (.goto (-116), 3) := by decide +kernel
theorem d_Mo_study_201 : decode b_Mo_study 201 = .ok (.aload_n 0, 1) := by decide +kernel
theorem d_Mo_study_202 : decode b_Mo_study 202 = .ok (.getfield 130, 3) := by decide +kernel
theorem d_Mo_study_205 : decode b_Mo_study 205 = .ok (.ireturn, 1) := by decide +kernel
theorem d_Mo_grow_0 : decode b_Mo_grow 0 = .ok (.aload_n 0, 1) := by decide +kernel
theorem d_Mo_grow_1 : decode b_Mo_grow 1 = .ok (.getfield 7, 3) := by decide +kernel
theorem d_Mo_grow_4 : decode b_Mo_grow 4 = .ok (.iload_n 1, 1) := by decide +kernel
theorem d_Mo_grow_5 : decode b_Mo_grow 5 = .ok (.iaload, 1) := by decide +kernel
theorem d_Mo_grow_6 : decode b_Mo_grow 6 = .ok (.istore_n 2, 1) := by decide +kernel
theorem d_Mo_grow_7 : decode b_Mo_grow 7 = .ok (.iconst 1, 1) := by decide +kernel
theorem d_Mo_grow_8 : decode b_Mo_grow 8 = .ok (.istore_n 3, 1) := by decide +kernel
theorem d_Mo_grow_9 : decode b_Mo_grow 9 = .ok (.aload_n 0, 1) := by decide +kernel
theorem d_Mo_grow_10 : decode b_Mo_grow 10 = .ok (.getfield 42, 3) := by decide +kernel
theorem d_Mo_grow_13 : decode b_Mo_grow 13 = .ok (.iconst 0, 1) := by decide +kernel
theorem d_Mo_grow_14 : decode b_Mo_grow 14 = .ok (.iconst 0, 1) := by decide +kernel
theorem d_Mo_grow_15 : decode b_Mo_grow 15 = .ok (.iastore, 1) := by decide +kernel
theorem d_Mo_grow_16 : decode b_Mo_grow 16 = .ok (.iconst 0, 1) := by decide +kernel
theorem d_Mo_grow_17 : decode b_Mo_grow 17 = .ok (.istore 4, 2) := by decide +kernel
theorem d_Mo_grow_19 : decode b_Mo_grow 19 = .ok (.iload 4, 2) := by decide +kernel
theorem d_Mo_grow_21 : decode b_Mo_grow 21 = .ok (.iload_n 2, 1) := by decide +kernel
theorem d_Mo_grow_22 : decode b_Mo_grow 22 = .ok (.if_icmp .ge 30, 3) := by decide +kernel
theorem d_Mo_grow_25 : decode b_Mo_grow 25 = .ok (.aload_n 0, 1) := by decide +kernel
theorem d_Mo_grow_26 : decode b_Mo_grow 26 = .ok (.getfield 42, 3) := by decide +kernel
theorem d_Mo_grow_29 : decode b_Mo_grow 29 = .ok (.iconst 0, 1) := by decide +kernel
theorem d_Mo_grow_30 : decode b_Mo_grow 30 = .ok (.aload_n 0, 1) := by decide +kernel
theorem d_Mo_grow_31 : decode b_Mo_grow 31 = .ok (.getfield 42, 3) := by decide +kernel
theorem d_Mo_grow_34 : decode b_Mo_grow 34 = .ok (.iconst 0, 1) := by decide +kernel
theorem d_Mo_grow_35 : decode b_Mo_grow 35 = .ok (.iaload, 1) := by decide +kernel
theorem d_Mo_grow_36 : decode b_Mo_grow 36 = .ok (.iload 4, 2) := by decide +kernel
theorem d_Mo_grow_38 : decode b_Mo_grow 38 = .ok (.iload 4, 2) := by decide +kernel
theorem d_Mo_grow_40 : decode b_Mo_grow 40 = .ok (.invokestatic 114, 3) := by decide +kernel
theorem d_Mo_grow_43 : decode b_Mo_grow 43 = .ok (.imul, 1) := by decide +kernel
theorem d_Mo_grow_44 : decode b_Mo_grow 44 = .ok (.iadd, 1) := by decide +kernel
theorem d_Mo_grow_45 : decode b_Mo_grow 45 = .ok (.iastore, 1) := by decide +kernel
theorem d_Mo_grow_46 : decode b_Mo_grow 46 = .ok (.iinc 4 1, 3) := by decide +kernel
theorem d_Mo_grow_49 : decode b_Mo_grow 49 = .ok (.goto (-30), 3) := by decide +kernel
theorem d_Mo_grow_52 : decode b_Mo_grow 52 = .ok (.aload_n 0, 1) := by decide +kernel
theorem d_Mo_grow_53 : decode b_Mo_grow 53 = .ok (.getfield 45, 3) := by decide +kernel
theorem d_Mo_grow_56 : decode b_Mo_grow 56 = .ok (.iconst 0, 1) := by decide +kernel
theorem d_Mo_grow_57 : decode b_Mo_grow 57 = .ok (.lconst 1, 1) := by decide +kernel
theorem d_Mo_grow_58 : decode b_Mo_grow 58 = .ok (.lastore, 1) := by decide +kernel
theorem d_Mo_grow_59 : decode b_Mo_grow 59 = .ok (.iconst 0, 1) := by decide +kernel
theorem d_Mo_grow_60 : decode b_Mo_grow 60 = .ok (.istore 4, 2) := by decide +kernel
theorem d_Mo_grow_62 : decode b_Mo_grow 62 = .ok (.iload 4, 2) := by decide +kernel
theorem d_Mo_grow_64 : decode b_Mo_grow 64 = .ok (.iload_n 3, 1) := by decide +kernel
theorem d_Mo_grow_65 : decode b_Mo_grow 65 = .ok (.if_icmp .ge 96, 3) := by decide +kernel
theorem d_Mo_grow_68 : decode b_Mo_grow 68 = .ok (.iload_n 3, 1) := by decide +kernel
theorem d_Mo_grow_69 : decode b_Mo_grow 69 = .ok (.bipush 61, 2) := by decide +kernel
theorem d_Mo_grow_71 : decode b_Mo_grow 71 = .ok (.if_icmp .ge 90, 3) := by decide +kernel
theorem d_Mo_grow_74 : decode b_Mo_grow 74 = .ok (.iconst 0, 1) := by decide +kernel
theorem d_Mo_grow_75 : decode b_Mo_grow 75 = .ok (.istore 5, 2) := by decide +kernel
theorem d_Mo_grow_77 : decode b_Mo_grow 77 = .ok (.iload 5, 2) := by decide +kernel
theorem d_Mo_grow_79 : decode b_Mo_grow 79 = .ok (.iconst 2, 1) := by decide +kernel
theorem d_Mo_grow_80 : decode b_Mo_grow 80 = .ok (.if_icmp .ge 75, 3) := by decide +kernel
theorem d_Mo_grow_83 : decode b_Mo_grow 83 = .ok (.iload_n 3, 1) := by decide +kernel
theorem d_Mo_grow_84 : decode b_Mo_grow 84 = .ok (.bipush 61, 2) := by decide +kernel
theorem d_Mo_grow_86 : decode b_Mo_grow 86 = .ok (.if_icmp .ge 69, 3) := by decide +kernel
theorem d_Mo_grow_89 : decode b_Mo_grow 89 = .ok (.aload_n 0, 1) := by decide +kernel
theorem d_Mo_grow_90 : decode b_Mo_grow 90 = .ok (.aload_n 0, 1) := by decide +kernel
theorem d_Mo_grow_91 : decode b_Mo_grow 91 = .ok (.getfield 42, 3) := by decide +kernel
theorem d_Mo_grow_94 : decode b_Mo_grow 94 = .ok (.iload 4, 2) := by decide +kernel
theorem d_Mo_grow_96 : decode b_Mo_grow 96 = .ok (.iaload, 1) := by decide +kernel
theorem d_Mo_grow_97 : decode b_Mo_grow 97 = .ok (.iload_n 1, 1) := by decide +kernel
theorem d_Mo_grow_98 : decode b_Mo_grow 98 = .ok (.iload_n 2, 1) := by decide +kernel
theorem d_Mo_grow_99 : decode b_Mo_grow 99 = .ok (.iload 5, 2) := by decide +kernel
theorem d_Mo_grow_101 : decode b_Mo_grow 101 = .ok (.invokevirtual 118, 3) := by decide +kernel
theorem d_Mo_grow_104 : decode b_Mo_grow 104 = .ok (.istore 6, 2) := by decide +kernel
theorem d_Mo_grow_106 : decode b_Mo_grow 106 = .ok (.aload_n 0, 1) := by decide +kernel
theorem d_Mo_grow_107 : decode b_Mo_grow 107 = .ok (.iload 6, 2) := by decide +kernel
theorem d_Mo_grow_109 : decode b_Mo_grow 109 = .ok (.iload_n 3, 1) := by decide +kernel
theorem d_Mo_grow_110 : decode b_Mo_grow 110 = .ok (.invokevirtual 122, 3) := by decide +kernel
theorem d_Mo_grow_113 : decode b_Mo_grow 113 = .ok (.iload_n 3, 1) := by decide +kernel
theorem d_Mo_grow_114 : decode b_Mo_grow 114 = .ok (.if_icmp .ne 35, 3) := by decide +kernel
theorem d_Mo_grow_117 : decode b_Mo_grow 117 = .ok (.aload_n 0, 1) := by decide +kernel
theorem d_Mo_grow_118 : decode b_Mo_grow 118 = .ok (.getfield 42, 3) := by decide +kernel
theorem d_Mo_grow_121 : decode b_Mo_grow 121 = .ok (.iload_n 3, 1) := by decide +kernel
theorem d_Mo_grow_122 : decode b_Mo_grow 122 = .ok (.iload 6, 2) := by decide +kernel
theorem d_Mo_grow_124 : decode b_Mo_grow 124 = .ok (.iastore, 1) := by decide +kernel
theorem d_Mo_grow_125 : decode b_Mo_grow 125 = .ok (.aload_n 0, 1) := by decide +kernel
theorem d_Mo_grow_126 : decode b_Mo_grow 126 = .ok (.getfield 45, 3) := by decide +kernel
theorem d_Mo_grow_129 : decode b_Mo_grow 129 = .ok (.iload_n 3, 1) := by decide +kernel
theorem d_Mo_grow_130 : decode b_Mo_grow 130 = .ok (.ldc2_w 125, 3) := by decide +kernel
theorem d_Mo_grow_133 : decode b_Mo_grow 133 = .ok (.aload_n 0, 1) := by decide +kernel
theorem d_Mo_grow_134 : decode b_Mo_grow 134 = .ok (.getfield 45, 3) := by decide +kernel
theorem d_Mo_grow_137 : decode b_Mo_grow 137 = .ok (.iload 4, 2) := by decide +kernel
theorem d_Mo_grow_139 : decode b_Mo_grow 139 = .ok (.laload, 1) := by decide +kernel
theorem d_Mo_grow_140 : decode b_Mo_grow 140 = .ok (.lmul, 1) := by decide +kernel
theorem d_Mo_grow_141 : decode b_Mo_grow 141 = .ok (.iload 5, 2) := by decide +kernel
theorem d_Mo_grow_143 : decode b_Mo_grow 143 = .ok (.i2l, 1) := by decide +kernel
theorem d_Mo_grow_144 : decode b_Mo_grow 144 = .ok (.ladd, 1) := by decide +kernel
theorem d_Mo_grow_145 : decode b_Mo_grow 145 = .ok (.lastore, 1) := by decide +kernel
theorem d_Mo_grow_146 : decode b_Mo_grow 146 = .ok (.iinc 3 1, 3) := by decide +kernel
theorem d_Mo_grow_149 : decode b_Mo_grow 149 = .ok (.iinc 5 1, 3) := by decide +kernel
theorem d_Mo_grow_152 : decode b_Mo_grow 152 = .ok (.goto (-75), 3) := by decide +kernel
theorem d_Mo_grow_155 : decode b_Mo_grow 155 = .ok (.iinc 4 1, 3) := by decide +kernel
theorem d_Mo_grow_158 : decode b_Mo_grow 158 = .ok (.goto (-96), 3) := by decide +kernel
theorem d_Mo_grow_161 : decode b_Mo_grow 161 = .ok (.iload_n 3, 1) := by decide +kernel
theorem d_Mo_grow_162 : decode b_Mo_grow 162 = .ok (.ireturn, 1) := by decide +kernel
end
section
theorem d_Mo_power_0 : decode b_Mo_power 0 = .ok (.iconst 1, 1) := by decide +kernel
theorem d_Mo_power_1 : decode b_Mo_power 1 = .ok (.istore_n 1, 1) := by decide +kernel
theorem d_Mo_power_2 : decode b_Mo_power 2 = .ok (.iconst 0, 1) := by decide +kernel
theorem d_Mo_power_3 : decode b_Mo_power 3 = .ok (.istore_n 2, 1) := by decide +kernel
theorem d_Mo_power_4 : decode b_Mo_power 4 = .ok (.iload_n 2, 1) := by decide +kernel
theorem d_Mo_power_5 : decode b_Mo_power 5 = .ok (.iload_n 0, 1) := by decide +kernel
theorem d_Mo_power_6 : decode b_Mo_power 6 = .ok (.if_icmp .ge 14, 3) := by decide +kernel
theorem d_Mo_power_9 : decode b_Mo_power 9 = .ok (.bipush 6, 2) := by decide +kernel
theorem d_Mo_power_11 : decode b_Mo_power 11 = .ok (.iload_n 1, 1) := by decide +kernel
theorem d_Mo_power_12 : decode b_Mo_power 12 = .ok (.imul, 1) := by decide +kernel
theorem d_Mo_power_13 : decode b_Mo_power 13 = .ok (.istore_n 1, 1) := by decide +kernel
theorem d_Mo_power_14 : decode b_Mo_power 14 = .ok (.iinc 2 1, 3) := by decide +kernel
theorem d_Mo_power_17 : decode b_Mo_power 17 = .ok (.goto (-13), 3) := by decide +kernel
theorem d_Mo_power_20 : decode b_Mo_power 20 = .ok (.iload_n 1, 1) := by decide +kernel
theorem d_Mo_power_21 : decode b_Mo_power 21 = .ok (.ireturn, 1) := by decide +kernel
theorem d_Mo_behind_0 : decode b_Mo_behind 0 = .ok (.iconst 0, 1) := by decide +kernel
theorem d_Mo_behind_1 : decode b_Mo_behind 1 = .ok (.istore 5, 2) := by decide +kernel
theorem d_Mo_behind_3 : decode b_Mo_behind 3 = .ok (.iconst 0, 1) := by decide +kernel
theorem d_Mo_behind_4 : decode b_Mo_behind 4 = .ok (.istore 6, 2) := by decide +kernel
theorem d_Mo_behind_6 : decode b_Mo_behind 6 = .ok (.iload 6, 2) := by decide +kernel
theorem d_Mo_behind_8 : decode b_Mo_behind 8 = .ok (.iload_n 3, 1) := by decide +kernel
theorem d_Mo_behind_9 : decode b_Mo_behind 9 = .ok (.if_icmp .ge 41, 3) := by decide +kernel
theorem d_Mo_behind_12 : decode b_Mo_behind 12 = .ok (.iload_n 1, 1) := by decide +kernel
theorem d_Mo_behind_13 : decode b_Mo_behind 13 = .ok (.iload 6, 2) := by decide +kernel
theorem d_Mo_behind_15 : decode b_Mo_behind 15 = .ok (.invokestatic 114, 3) := by decide +kernel
theorem d_Mo_behind_18 : decode b_Mo_behind 18 = .ok (.idiv, 1) := by decide +kernel
theorem d_Mo_behind_19 : decode b_Mo_behind 19 = .ok (.bipush 6, 2) := by decide +kernel
theorem d_Mo_behind_21 : decode b_Mo_behind 21 = .ok (.irem, 1) := by decide +kernel
theorem d_Mo_behind_22 : decode b_Mo_behind 22 = .ok (.istore 7, 2) := by decide +kernel
theorem d_Mo_behind_24 : decode b_Mo_behind 24 = .ok (.iload 5, 2) := by decide +kernel
theorem d_Mo_behind_26 : decode b_Mo_behind 26 = .ok (.aload_n 0, 1) := by decide +kernel
theorem d_Mo_behind_27 : decode b_Mo_behind 27 = .ok (.iload_n 2, 1) := by decide +kernel
theorem d_Mo_behind_28 : decode b_Mo_behind 28 = .ok (.iload 7, 2) := by decide +kernel
theorem d_Mo_behind_30 : decode b_Mo_behind 30 = .ok (.iload 4, 2) := by decide +kernel
theorem d_Mo_behind_32 : decode b_Mo_behind 32 = .ok (.invokevirtual 55, 3) := by decide +kernel
theorem d_Mo_behind_35 : decode b_Mo_behind 35 = .ok (.iload 6, 2) := by decide +kernel
theorem d_Mo_behind_37 : decode b_Mo_behind 37 = .ok (.invokestatic 114, 3) := by decide +kernel
theorem d_Mo_behind_40 : decode b_Mo_behind 40 = .ok (.imul, 1) := by decide +kernel
theorem d_Mo_behind_41 : decode b_Mo_behind 41 = .ok (.iadd, 1) := by decide +kernel
theorem d_Mo_behind_42 : decode b_Mo_behind 42 = .ok (.istore 5, 2) := by decide +kernel
theorem d_Mo_behind_44 : decode b_Mo_behind 44 = .ok (.iinc 6 1, 3) := by decide +kernel
theorem d_Mo_behind_47 : decode b_Mo_behind 47 = .ok (.goto (-41), 3) := by decide +kernel
theorem d_Mo_behind_50 : decode b_Mo_behind 50 = .ok (.iload 5, 2) := by decide +kernel
theorem d_Mo_behind_52 : decode b_Mo_behind 52 = .ok (.ireturn, 1) := by decide +kernel
theorem d_Mo_find_0 : decode b_Mo_find 0 = .ok (.iconst 0, 1) := by decide +kernel
theorem d_Mo_find_1 : decode b_Mo_find 1 = .ok (.istore_n 3, 1) := by decide +kernel
theorem d_Mo_find_2 : decode b_Mo_find 2 = .ok (.iload_n 3, 1) := by decide +kernel
theorem d_Mo_find_3 : decode b_Mo_find 3 = .ok (.iload_n 2, 1) := by decide +kernel
theorem d_Mo_find_4 : decode b_Mo_find 4 = .ok (.if_icmp .ge 19, 3) := by decide +kernel
theorem d_Mo_find_7 : decode b_Mo_find 7 = .ok (.aload_n 0, 1) := by decide +kernel
theorem d_Mo_find_8 : decode b_Mo_find 8 = .ok (.getfield 42, 3) := by decide +kernel
theorem d_Mo_find_11 : decode b_Mo_find 11 = .ok (.iload_n 3, 1) := by decide +kernel
theorem d_Mo_find_12 : decode b_Mo_find 12 = .ok (.iaload, 1) := by decide +kernel
theorem d_Mo_find_13 : decode b_Mo_find 13 = .ok (.iload_n 1, 1) := by decide +kernel
theorem d_Mo_find_14 : decode b_Mo_find 14 = .ok (.if_icmp .eq 9, 3) := by decide +kernel
theorem d_Mo_find_17 : decode b_Mo_find 17 = .ok (.iinc 3 1, 3) := by decide +kernel
theorem d_Mo_find_20 : decode b_Mo_find 20 = .ok (.goto (-18), 3) := by decide +kernel
theorem d_Mo_find_23 : decode b_Mo_find 23 = .ok (.iload_n 3, 1) := by decide +kernel
theorem d_Mo_find_24 : decode b_Mo_find 24 = .ok (.ireturn, 1) := by decide +kernel
theorem d_Mo_elements_0 : decode b_Mo_elements 0 = .ok (.aload_n 0, 1) := by decide +kernel
theorem d_Mo_elements_1 : decode b_Mo_elements 1 = .ok (.getfield 130, 3) := by decide +kernel
theorem d_Mo_elements_4 : decode b_Mo_elements 4 = .ok (.ifCond .ne 7, 3) := by decide +kernel
theorem d_Mo_elements_7 : decode b_Mo_elements 7 = .ok (.iconst (-1), 1) := by decide +kernel
theorem d_Mo_elements_8 : decode b_Mo_elements 8 = .ok (.goto 7, 3) := by decide +kernel
theorem d_Mo_elements_11 : decode b_Mo_elements 11 = .ok (.aload_n 0, 1) := by decide +kernel
theorem d_Mo_elements_12 : decode b_Mo_elements 12 = .ok (.getfield 130, 3) := by decide +kernel
theorem d_Mo_elements_15 : decode b_Mo_elements 15 = .ok (.ireturn, 1) := by decide +kernel
theorem d_Mo_word_0 : decode b_Mo_word 0 = .ok (.aload_n 0, 1) := by decide +kernel
theorem d_Mo_word_1 : decode b_Mo_word 1 = .ok (.iload_n 1, 1) := by decide +kernel
theorem d_Mo_word_2 : decode b_Mo_word 2 = .ok (.invokevirtual 136, 3) := by decide +kernel
theorem d_Mo_word_5 : decode b_Mo_word 5 = .ok (.ifCond .eq 12, 3) := by decide +kernel
theorem d_Mo_word_8 : decode b_Mo_word 8 = .ok (.aload_n 0, 1) := by decide +kernel
theorem d_Mo_word_9 : decode b_Mo_word 9 = .ok (.getfield 39, 3) := by decide +kernel
theorem d_Mo_word_12 : decode b_Mo_word 12 = .ok (.iload_n 1, 1) := by decide +kernel
theorem d_Mo_word_13 : decode b_Mo_word 13 = .ok (.laload, 1) := by decide +kernel
theorem d_Mo_word_14 : decode b_Mo_word 14 = .ok (.goto 6, 3) := by decide +kernel
theorem d_Mo_word_17 : decode b_Mo_word 17 = .ok (.ldc2_w 139, 3) := by decide +kernel
theorem d_Mo_word_20 : decode b_Mo_word 20 = .ok (.lreturn, 1) := by decide +kernel
theorem d_Mo_isElement_0 : decode b_Mo_isElement 0 = .ok (.iload_n 1, 1) := by decide +kernel
theorem d_Mo_isElement_1 : decode b_Mo_isElement 1 = .ok (.ifCond .lt 15, 3) := by decide +kernel
theorem d_Mo_isElement_4 : decode b_Mo_isElement 4 = .ok (.iload_n 1, 1) := by decide +kernel
theorem d_Mo_isElement_5 : decode b_Mo_isElement 5 = .ok (.aload_n 0, 1) := by decide +kernel
theorem d_Mo_isElement_6 : decode b_Mo_isElement 6 = .ok (.getfield 130, 3) := by decide +kernel
theorem d_Mo_isElement_9 : decode b_Mo_isElement 9 = .ok (.if_icmp .ge 7, 3) := by decide +kernel
theorem d_Mo_isElement_12 : decode b_Mo_isElement 12 = .ok (.iconst 1, 1) := by decide +kernel
theorem d_Mo_isElement_13 : decode b_Mo_isElement 13 = .ok (.goto 4, 3) := by decide +kernel
theorem d_Mo_isElement_16 : decode b_Mo_isElement 16 = .ok (.iconst 0, 1) := by decide +kernel
theorem d_Mo_isElement_17 : decode b_Mo_isElement 17 = .ok (.ireturn, 1) := by decide +kernel
theorem d_Mo_product_0 : decode b_Mo_product 0 = .ok (.aload_n 0, 1) := by decide +kernel
theorem d_Mo_product_1 : decode b_Mo_product 1 = .ok (.iload_n 1, 1) := by decide +kernel
theorem d_Mo_product_2 : decode b_Mo_product 2 = .ok (.invokevirtual 136, 3) := by decide +kernel
theorem d_Mo_product_5 : decode b_Mo_product 5 = .ok (.ifCond .eq 25, 3) := by decide +kernel
theorem d_Mo_product_8 : decode b_Mo_product 8 = .ok (.aload_n 0, 1) := by decide +kernel
theorem d_Mo_product_9 : decode b_Mo_product 9 = .ok (.iload_n 2, 1) := by decide +kernel
theorem d_Mo_product_10 : decode b_Mo_product 10 = .ok (.invokevirtual 136, 3) := by decide +kernel
theorem d_Mo_product_13 : decode b_Mo_product 13 = .ok (.ifCond .eq 17, 3) := by decide +kernel
theorem d_Mo_product_16 : decode b_Mo_product 16 = .ok (.aload_n 0, 1) := by decide +kernel
theorem d_Mo_product_17 : decode b_Mo_product 17 = .ok (.getfield 48, 3) := by decide +kernel
theorem d_Mo_product_20 : decode b_Mo_product 20 = .ok (.bipush 60, 2) := by decide +kernel
theorem d_Mo_product_22 : decode b_Mo_product 22 = .ok (.iload_n 1, 1) := by decide +kernel
theorem d_Mo_product_23 : decode b_Mo_product 23 = .ok (.imul, 1) := by decide +kernel
theorem d_Mo_product_24 : decode b_Mo_product 24 = .ok (.iload_n 2, 1) := by decide +kernel
theorem d_Mo_product_25 : decode b_Mo_product 25 = .ok (.iadd, 1) := by decide +kernel
theorem d_Mo_product_26 : decode b_Mo_product 26 = .ok (.iaload, 1) := by decide +kernel
theorem d_Mo_product_27 : decode b_Mo_product 27 = .ok (.goto 4, 3) := by decide +kernel
theorem d_Mo_product_30 : decode b_Mo_product 30 = .ok (.iconst (-1), 1) := by decide +kernel
theorem d_Mo_product_31 : decode b_Mo_product 31 = .ok (.ireturn, 1) := by decide +kernel
theorem d_Mo_related_0 : decode b_Mo_related 0 = .ok (.iload_n 1, 1) := by decide +kernel
theorem d_Mo_related_1 : decode b_Mo_related 1 = .ok (.ifCond .lt 24, 3) := by decide +kernel
theorem d_Mo_related_4 : decode b_Mo_related 4 = .ok (.iload_n 1, 1) := by decide +kernel
theorem d_Mo_related_5 : decode b_Mo_related 5 = .ok (.iconst 3, 1) := by decide +kernel
theorem d_Mo_related_6 : decode b_Mo_related 6 = .ok (.if_icmp .gt 19, 3) := by decide +kernel
theorem d_Mo_related_9 : decode b_Mo_related 9 = .ok (.aload_n 0, 1) := by decide +kernel
theorem d_Mo_related_10 : decode b_Mo_related 10 = .ok (.iload_n 2, 1) := by decide +kernel
theorem d_Mo_related_11 : decode b_Mo_related 11 = .ok (.invokevirtual 136, 3) := by decide +kernel
theorem d_Mo_related_14 : decode b_Mo_related 14 = .ok (.ifCond .eq 11, 3) := by decide +kernel
theorem d_Mo_related_17 : decode b_Mo_related 17 = .ok (.aload_n 0, 1) := by decide +kernel
theorem d_Mo_related_18 : decode b_Mo_related 18 = .ok (.iload_n 3, 1) := by decide +kernel
theorem d_Mo_related_19 : decode b_Mo_related 19 = .ok (.invokevirtual 136, 3) := by decide +kernel
theorem d_Mo_related_22 : decode b_Mo_related 22 = .ok (.ifCond .ne 5, 3) := by decide +kernel
theorem d_Mo_related_25 : decode b_Mo_related 25 = .ok (.iconst 0, 1) := by decide +kernel
theorem d_Mo_related_26 : decode b_Mo_related 26 = .ok (.ireturn, 1) := by decide +kernel
theorem d_Mo_related_27 : decode b_Mo_related 27 = .ok (.aload_n 0, 1) := by decide +kernel
theorem d_Mo_related_28 : decode b_Mo_related 28 = .ok (.iload_n 2, 1) := by decide +kernel
theorem d_Mo_related_29 : decode b_Mo_related 29 = .ok (.invokevirtual 141, 3) := by decide +kernel
theorem d_Mo_related_32 : decode b_Mo_related 32 = .ok (.aload_n 0, 1) := by decide +kernel
theorem d_Mo_related_33 : decode b_Mo_related 33 = .ok (.iload_n 3, 1) := by decide +kernel
theorem d_Mo_related_34 : decode b_Mo_related 34 = .ok (.invokevirtual 141, 3) := by decide +kernel
theorem d_Mo_related_37 : decode b_Mo_related 37 = .ok (.lcmp, 1) := by decide +kernel
theorem d_Mo_related_38 : decode b_Mo_related 38 = .ok (.ifCond .ne 7, 3) := by decide +kernel
theorem d_Mo_related_41 : decode b_Mo_related 41 = .ok (.iconst 1, 1) := by decide +kernel
theorem d_Mo_related_42 : decode b_Mo_related 42 = .ok (.goto 4, 3) := by decide +kernel
theorem d_Mo_related_45 : decode b_Mo_related 45 = .ok (.iconst 0, 1) := by decide +kernel
theorem d_Mo_related_46 : decode b_Mo_related 46 = .ok (.istore 4, 2) := by decide +kernel
theorem d_Mo_related_48 : decode b_Mo_related 48 = .ok (.aload_n 0, 1) := by decide +kernel
theorem d_Mo_related_49 : decode b_Mo_related 49 = .ok (.iload_n 2, 1) := by decide +kernel
theorem d_Mo_related_50 : decode b_Mo_related 50 = .ok (.invokevirtual 145, 3) := by decide +kernel
theorem d_Mo_related_53 : decode b_Mo_related 53 = .ok (.aload_n 0, 1) := by decide +kernel
theorem d_Mo_related_54 : decode b_Mo_related 54 = .ok (.iload_n 3, 1) := by decide +kernel
theorem d_Mo_related_55 : decode b_Mo_related 55 = .ok (.invokevirtual 145, 3) := by decide +kernel
theorem d_Mo_related_58 : decode b_Mo_related 58 = .ok (.lcmp, 1) := by decide +kernel
theorem d_Mo_related_59 : decode b_Mo_related 59 = .ok (.ifCond .ne 7, 3) := by decide +kernel
theorem d_Mo_related_62 : decode b_Mo_related 62 = .ok (.iconst 1, 1) := by decide +kernel
theorem d_Mo_related_63 : decode b_Mo_related 63 = .ok (.goto 4, 3) := by decide +kernel
theorem d_Mo_related_66 : decode b_Mo_related 66 = .ok (.iconst 0, 1) := by decide +kernel
theorem d_Mo_related_67 : decode b_Mo_related 67 = .ok (.istore 5, 2) := by decide +kernel
theorem d_Mo_related_69 : decode b_Mo_related 69 = .ok (.iload_n 1, 1) := by decide +kernel
theorem d_Mo_related_70 : decode b_Mo_related 70 = .ok (.iconst 2, 1) := by decide +kernel
theorem d_Mo_related_71 : decode b_Mo_related 71 = .ok (.if_icmp .ne 23, 3) := by decide +kernel
theorem d_Mo_related_74 : decode b_Mo_related 74 = .ok (.aload_n 0, 1) := by decide +kernel
theorem d_Mo_related_75 : decode b_Mo_related 75 = .ok (.iload_n 2, 1) := by decide +kernel
theorem d_Mo_related_76 : decode b_Mo_related 76 = .ok (.invokevirtual 148, 3) := by decide +kernel
theorem d_Mo_related_79 : decode b_Mo_related 79 = .ok (.aload_n 0, 1) := by decide +kernel
theorem d_Mo_related_80 : decode b_Mo_related 80 = .ok (.iload_n 3, 1) := by decide +kernel
theorem d_Mo_related_81 : decode b_Mo_related 81 = .ok (.invokevirtual 148, 3) := by decide +kernel
theorem d_Mo_related_84 : decode b_Mo_related 84 = .ok (.lcmp, 1) := by decide +kernel
theorem d_Mo_related_85 : decode b_Mo_related 85 = .ok (.ifCond .ne 7, 3) := by decide +kernel
theorem d_Mo_related_88 : decode b_Mo_related 88 = .ok (.iconst 1, 1) := by decide +kernel
theorem d_Mo_related_89 : decode b_Mo_related 89 = .ok (.goto 4, 3) := by decide +kernel
theorem d_Mo_related_92 : decode b_Mo_related 92 = .ok (.iconst 0, 1) := by decide +kernel
theorem d_Mo_related_93 : decode b_Mo_related 93 = .ok (.ireturn, 1) := by decide +kernel
theorem d_Mo_related_94 : decode b_Mo_related 94 = .ok (.iload_n 1, 1) := by decide +kernel
theorem d_Mo_related_95 : decode b_Mo_related 95 = .ok (.ifCond .ne 8, 3) := by decide +kernel
theorem d_Mo_related_98 : decode b_Mo_related 98 = .ok (.iload 4, 2) := by decide +kernel
theorem d_Mo_related_100 : decode b_Mo_related 100 = .ok (.goto 28, 3) := by decide +kernel
theorem d_Mo_related_103 : decode b_Mo_related 103 = .ok (.iload_n 1, 1) := by decide +kernel
theorem d_Mo_related_104 : decode b_Mo_related 104 = .ok (.iconst 1, 1) := by decide +kernel
theorem d_Mo_related_105 : decode b_Mo_related 105 = .ok (.if_icmp .ne 8, 3) := by decide +kernel
theorem d_Mo_related_108 : decode b_Mo_related 108 = .ok (.iload 5, 2) := by decide +kernel
theorem d_Mo_related_110 : decode b_Mo_related 110 = .ok (.goto 18, 3) := by decide +kernel
theorem d_Mo_related_113 : decode b_Mo_related 113 = .ok (.iload 4, 2) := by decide +kernel
theorem d_Mo_related_115 : decode b_Mo_related 115 = .ok (.ifCond .eq 12, 3) := by decide +kernel
theorem d_Mo_related_118 : decode b_Mo_related 118 = .ok (.iload 5, 2) := by decide +kernel
theorem d_Mo_related_120 : decode b_Mo_related 120 = .ok (.ifCond .eq 7, 3) := by decide +kernel
theorem d_Mo_related_123 : decode b_Mo_related 123 = .ok (.iconst 1, 1) := by decide +kernel
theorem d_Mo_related_124 : decode b_Mo_related 124 = .ok (.goto 4, 3) := by decide +kernel
theorem d_Mo_related_127 : decode b_Mo_related 127 = .ok (.iconst 0, 1) := by decide +kernel
theorem d_Mo_related_128 : decode b_Mo_related 128 = .ok (.ireturn, 1) := by decide +kernel
theorem d_Mo_rightOf_0 : decode b_Mo_rightOf 0 = .ok (.lconst 0, 1) := by decide +kernel
theorem d_Mo_rightOf_1 : decode b_Mo_rightOf 1 = .ok (.lstore_n 2, 1) := by decide +kernel
theorem d_Mo_rightOf_2 : decode b_Mo_rightOf 2 = .ok (.iconst 0, 1) := by decide +kernel
theorem d_Mo_rightOf_3 : decode b_Mo_rightOf 3 = .ok (.istore 4, 2) := by decide +kernel
theorem d_Mo_rightOf_5 : decode b_Mo_rightOf 5 = .ok (.iload 4, 2) := by decide +kernel
theorem d_Mo_rightOf_7 : decode b_Mo_rightOf 7 = .ok (.aload_n 0, 1) := by decide +kernel
theorem d_Mo_rightOf_8 : decode b_Mo_rightOf 8 = .ok (.getfield 130, 3) := by decide +kernel
theorem d_Mo_rightOf_11 : decode b_Mo_rightOf 11 = .ok (.if_icmp .ge 26, 3) := by decide +kernel
theorem d_Mo_rightOf_14 : decode b_Mo_rightOf 14 = .ok (.lload_n 2, 1) := by decide +kernel
theorem d_Mo_rightOf_15 : decode b_Mo_rightOf 15 = .ok (.lconst 1, 1) := by decide +kernel
theorem d_Mo_rightOf_16 : decode b_Mo_rightOf 16 = .ok (.aload_n 0, 1) := by decide +kernel
theorem d_Mo_rightOf_17 : decode b_Mo_rightOf 17 = .ok (.getfield 48, 3) := by decide +kernel
theorem d_Mo_rightOf_20 : decode b_Mo_rightOf 20 = .ok (.bipush 60, 2) := by decide +kernel
theorem d_Mo_rightOf_22 : decode b_Mo_rightOf 22 = .ok (.iload_n 1, 1) := by decide +kernel
theorem d_Mo_rightOf_23 : decode b_Mo_rightOf 23 = .ok (.imul, 1) := by decide +kernel
theorem d_Mo_rightOf_24 : decode b_Mo_rightOf 24 = .ok (.iload 4, 2) := by decide +kernel
theorem d_Mo_rightOf_26 : decode b_Mo_rightOf 26 = .ok (.iadd, 1) := by decide +kernel
theorem d_Mo_rightOf_27 : decode b_Mo_rightOf 27 = .ok (.iaload, 1) := by decide +kernel
theorem d_Mo_rightOf_28 : decode b_Mo_rightOf 28 = .ok (.lshl, 1) := by decide +kernel
theorem d_Mo_rightOf_29 : decode b_Mo_rightOf 29 = .ok (.lor, 1) := by decide +kernel
theorem d_Mo_rightOf_30 : decode b_Mo_rightOf 30 = .ok (.lstore_n 2, 1) := by decide +kernel
theorem d_Mo_rightOf_31 : decode b_Mo_rightOf 31 = .ok (.iinc 4 1, 3) := by decide +kernel
theorem d_Mo_rightOf_34 : decode b_Mo_rightOf 34 = .ok (.goto (-29), 3) := by decide +kernel
theorem d_Mo_rightOf_37 : decode b_Mo_rightOf 37 = .ok (.lload_n 2, 1) := by decide +kernel
theorem d_Mo_rightOf_38 : decode b_Mo_rightOf 38 = .ok (.lreturn, 1) := by decide +kernel
theorem d_Mo_leftOf_0 : decode b_Mo_leftOf 0 = .ok (.lconst 0, 1) := by decide +kernel
theorem d_Mo_leftOf_1 : decode b_Mo_leftOf 1 = .ok (.lstore_n 2, 1) := by decide +kernel
theorem d_Mo_leftOf_2 : decode b_Mo_leftOf 2 = .ok (.iconst 0, 1) := by decide +kernel
theorem d_Mo_leftOf_3 : decode b_Mo_leftOf 3 = .ok (.istore 4, 2) := by decide +kernel
theorem d_Mo_leftOf_5 : decode b_Mo_leftOf 5 = .ok (.iload 4, 2) := by decide +kernel
theorem d_Mo_leftOf_7 : decode b_Mo_leftOf 7 = .ok (.aload_n 0, 1) := by decide +kernel
theorem d_Mo_leftOf_8 : decode b_Mo_leftOf 8 = .ok (.getfield 130, 3) := by decide +kernel
theorem d_Mo_leftOf_11 : decode b_Mo_leftOf 11 = .ok (.if_icmp .ge 26, 3) := by decide +kernel
theorem d_Mo_leftOf_14 : decode b_Mo_leftOf 14 = .ok (.lload_n 2, 1) := by decide +kernel
theorem d_Mo_leftOf_15 : decode b_Mo_leftOf 15 = .ok (.lconst 1, 1) := by decide +kernel
theorem d_Mo_leftOf_16 : decode b_Mo_leftOf 16 = .ok (.aload_n 0, 1) := by decide +kernel
theorem d_Mo_leftOf_17 : decode b_Mo_leftOf 17 = .ok (.getfield 48, 3) := by decide +kernel
theorem d_Mo_leftOf_20 : decode b_Mo_leftOf 20 = .ok (.bipush 60, 2) := by decide +kernel
theorem d_Mo_leftOf_22 : decode b_Mo_leftOf 22 = .ok (.iload 4, 2) := by decide +kernel
theorem d_Mo_leftOf_24 : decode b_Mo_leftOf 24 = .ok (.imul, 1) := by decide +kernel
theorem d_Mo_leftOf_25 : decode b_Mo_leftOf 25 = .ok (.iload_n 1, 1) := by decide +kernel
theorem d_Mo_leftOf_26 : decode b_Mo_leftOf 26 = .ok (.iadd, 1) := by decide +kernel
theorem d_Mo_leftOf_27 : decode b_Mo_leftOf 27 = .ok (.iaload, 1) := by decide +kernel
theorem d_Mo_leftOf_28 : decode b_Mo_leftOf 28 = .ok (.lshl, 1) := by decide +kernel
theorem d_Mo_leftOf_29 : decode b_Mo_leftOf 29 = .ok (.lor, 1) := by decide +kernel
theorem d_Mo_leftOf_30 : decode b_Mo_leftOf 30 = .ok (.lstore_n 2, 1) := by decide +kernel
theorem d_Mo_leftOf_31 : decode b_Mo_leftOf 31 = .ok (.iinc 4 1, 3) := by decide +kernel
theorem d_Mo_leftOf_34 : decode b_Mo_leftOf 34 = .ok (.goto (-29), 3) := by decide +kernel
theorem d_Mo_leftOf_37 : decode b_Mo_leftOf 37 = .ok (.lload_n 2, 1) := by decide +kernel
theorem d_Mo_leftOf_38 : decode b_Mo_leftOf 38 = .ok (.lreturn, 1) := by decide +kernel
theorem d_Mo_aroundOf_0 : decode b_Mo_aroundOf 0 = .ok (.lconst 0, 1) := by decide +kernel
theorem d_Mo_aroundOf_1 : decode b_Mo_aroundOf 1 = .ok (.lstore_n 2, 1) := by decide +kernel
theorem d_Mo_aroundOf_2 : decode b_Mo_aroundOf 2 = .ok (.iconst 0, 1) := by decide +kernel
theorem d_Mo_aroundOf_3 : decode b_Mo_aroundOf 3 = .ok (.istore 4, 2) := by decide +kernel
theorem d_Mo_aroundOf_5 : decode b_Mo_aroundOf 5 = .ok (.iload 4, 2) := by decide +kernel
theorem d_Mo_aroundOf_7 : decode b_Mo_aroundOf 7 = .ok (.aload_n 0, 1) := by decide +kernel
theorem d_Mo_aroundOf_8 : decode b_Mo_aroundOf 8 = .ok (.getfield 130, 3) := by decide +kernel
theorem d_Mo_aroundOf_11 : decode b_Mo_aroundOf 11 = .ok (.if_icmp .ge 28, 3) := by decide +kernel
theorem d_Mo_aroundOf_14 : decode b_Mo_aroundOf 14 = .ok (.lload_n 2, 1) := by decide +kernel
theorem d_Mo_aroundOf_15 : decode b_Mo_aroundOf 15 = .ok (.aload_n 0, 1) := by decide +kernel
theorem d_Mo_aroundOf_16 : decode b_Mo_aroundOf 16 = .ok (.aload_n 0, 1) := by decide +kernel
theorem d_Mo_aroundOf_17 : decode b_Mo_aroundOf 17 = .ok (.getfield 48, 3) := by decide +kernel
theorem d_Mo_aroundOf_20 : decode b_Mo_aroundOf 20 = .ok (.bipush 60, 2) := by decide +kernel
theorem d_Mo_aroundOf_22 : decode b_Mo_aroundOf 22 = .ok (.iload 4, 2) := by decide +kernel
theorem d_Mo_aroundOf_24 : decode b_Mo_aroundOf 24 = .ok (.imul, 1) := by decide +kernel
theorem d_Mo_aroundOf_25 : decode b_Mo_aroundOf 25 = .ok (.iload_n 1, 1) := by decide +kernel
theorem d_Mo_aroundOf_26 : decode b_Mo_aroundOf 26 = .ok (.iadd, 1) := by decide +kernel
theorem d_Mo_aroundOf_27 : decode b_Mo_aroundOf 27 = .ok (.iaload, 1) := by decide +kernel
theorem d_Mo_aroundOf_28 : decode b_Mo_aroundOf 28 = .ok (.invokevirtual 141, 3) := by decide +kernel
theorem d_Mo_aroundOf_31 : decode b_Mo_aroundOf 31 = .ok (.lor, 1) := by decide +kernel
theorem d_Mo_aroundOf_32 : decode b_Mo_aroundOf 32 = .ok (.lstore_n 2, 1) := by decide +kernel
theorem d_Mo_aroundOf_33 : decode b_Mo_aroundOf 33 = .ok (.iinc 4 1, 3) := by decide +kernel
theorem d_Mo_aroundOf_36 : decode b_Mo_aroundOf 36 = .ok (.goto (-31), 3) := by decide +kernel
theorem d_Mo_aroundOf_39 : decode b_Mo_aroundOf 39 = .ok (.lload_n 2, 1) := by decide +kernel
theorem d_Mo_aroundOf_40 : decode b_Mo_aroundOf 40 = .ok (.lreturn, 1) := by decide +kernel
theorem d_Mo_classes_0 : decode b_Mo_classes 0 = .ok (.iload_n 1, 1) := by decide +kernel
theorem d_Mo_classes_1 : decode b_Mo_classes 1 = .ok (.ifCond .lt 15, 3) := by decide +kernel
theorem d_Mo_classes_4 : decode b_Mo_classes 4 = .ok (.iload_n 1, 1) := by decide +kernel
theorem d_Mo_classes_5 : decode b_Mo_classes 5 = .ok (.iconst 3, 1) := by decide +kernel
theorem d_Mo_classes_6 : decode b_Mo_classes 6 = .ok (.if_icmp .gt 10, 3) := by decide +kernel
theorem d_Mo_classes_9 : decode b_Mo_classes 9 = .ok (.aload_n 0, 1) := by decide +kernel
theorem d_Mo_classes_10 : decode b_Mo_classes 10 = .ok (.getfield 130, 3) := by decide +kernel
theorem d_Mo_classes_13 : decode b_Mo_classes 13 = .ok (.ifCond .ne 5, 3) := by decide +kernel
theorem d_Mo_classes_16 : decode b_Mo_classes 16 = .ok (.iconst (-1), 1) := by decide +kernel
theorem d_Mo_classes_17 : decode b_Mo_classes 17 = .ok (.ireturn, 1) := by decide +kernel
theorem d_Mo_classes_18 : decode b_Mo_classes 18 = .ok (.iconst 0, 1) := by decide +kernel
theorem d_Mo_classes_19 : decode b_Mo_classes 19 = .ok (.istore_n 2, 1) := by decide +kernel
theorem d_Mo_classes_20 : decode b_Mo_classes 20 = .ok (.iconst 0, 1) := by decide +kernel
theorem d_Mo_classes_21 : decode b_Mo_classes 21 = .ok (.istore_n 3, 1) := by decide +kernel
theorem d_Mo_classes_22 : decode b_Mo_classes 22 = .ok (.iload_n 3, 1) := by decide +kernel
theorem d_Mo_classes_23 : decode b_Mo_classes 23 = .ok (.aload_n 0, 1) := by decide +kernel
theorem d_Mo_classes_24 : decode b_Mo_classes 24 = .ok (.getfield 130, 3) := by decide +kernel
theorem d_Mo_classes_27 : decode b_Mo_classes 27 = .ok (.if_icmp .ge 63, 3) := by decide +kernel
theorem d_Mo_classes_30 : decode b_Mo_classes 30 = .ok (.iconst 1, 1) := by decide +kernel
theorem d_Mo_classes_31 : decode b_Mo_classes 31 = .ok (.istore 4, 2) := by decide +kernel
theorem d_Mo_classes_33 : decode b_Mo_classes 33 = .ok (.iconst 0, 1) := by decide +kernel
theorem d_Mo_classes_34 : decode b_Mo_classes 34 = .ok (.istore 5, 2) := by decide +kernel
theorem d_Mo_classes_36 : decode b_Mo_classes 36 = .ok (.iload 5, 2) := by decide +kernel
theorem d_Mo_classes_38 : decode b_Mo_classes 38 = .ok (.iload_n 3, 1) := by decide +kernel
theorem d_Mo_classes_39 : decode b_Mo_classes 39 = .ok (.if_icmp .ge 32, 3) := by decide +kernel
theorem d_Mo_classes_42 : decode b_Mo_classes 42 = .ok (.iload 4, 2) := by decide +kernel
theorem d_Mo_classes_44 : decode b_Mo_classes 44 = .ok (.ifCond .eq 27, 3) := by decide +kernel
theorem d_Mo_classes_47 : decode b_Mo_classes 47 = .ok (.aload_n 0, 1) := by decide +kernel
theorem d_Mo_classes_48 : decode b_Mo_classes 48 = .ok (.iload_n 1, 1) := by decide +kernel
theorem d_Mo_classes_49 : decode b_Mo_classes 49 = .ok (.iload_n 3, 1) := by decide +kernel
theorem d_Mo_classes_50 : decode b_Mo_classes 50 = .ok (.iload 5, 2) := by decide +kernel
theorem d_Mo_classes_52 : decode b_Mo_classes 52 = .ok (.invokevirtual 151, 3) := by decide +kernel
theorem d_Mo_classes_55 : decode b_Mo_classes 55 = .ok (.ifCond .ne 7, 3) := by decide +kernel
theorem d_Mo_classes_58 : decode b_Mo_classes 58 = .ok (.iconst 1, 1) := by decide +kernel
theorem d_Mo_classes_59 : decode b_Mo_classes 59 = .ok (.goto 4, 3) := by decide +kernel
theorem d_Mo_classes_62 : decode b_Mo_classes 62 = .ok (.iconst 0, 1) := by decide +kernel
theorem d_Mo_classes_63 : decode b_Mo_classes 63 = .ok (.istore 4, 2) := by decide +kernel
theorem d_Mo_classes_65 : decode b_Mo_classes 65 = .ok (.iinc 5 1, 3) := by decide +kernel
theorem d_Mo_classes_68 : decode b_Mo_classes 68 = .ok (.goto (-32), 3) := by decide +kernel
theorem d_Mo_classes_71 : decode b_Mo_classes 71 = .ok (.iload 4, 2) := by decide +kernel
theorem d_Mo_classes_73 : decode b_Mo_classes 73 = .ok (.ifCond .eq 9, 3) := by decide +kernel
theorem d_Mo_classes_76 : decode b_Mo_classes 76 = .ok (.iload_n 2, 1) := by decide +kernel
theorem d_Mo_classes_77 : decode b_Mo_classes 77 = .ok (.iconst 1, 1) := by decide +kernel
theorem d_Mo_classes_78 : decode b_Mo_classes 78 = .ok (.iadd, 1) := by decide +kernel
theorem d_Mo_classes_79 : decode b_Mo_classes 79 = .ok (.goto 4, 3) := by decide +kernel
theorem d_Mo_classes_82 : decode b_Mo_classes 82 = .ok (.iload_n 2, 1) := by decide +kernel
theorem d_Mo_classes_83 : decode b_Mo_classes 83 = .ok (.istore_n 2, 1) := by decide +kernel
theorem d_Mo_classes_84 : decode b_Mo_classes 84 = .ok (.iinc 3 1, 3) := by decide +kernel
theorem d_Mo_classes_87 : decode b_Mo_classes 87 = .ok (.goto (-65), 3) := by decide +kernel
theorem d_Mo_classes_90 : decode b_Mo_classes 90 = .ok (.iload_n 2, 1) := by decide +kernel
theorem d_Mo_classes_91 : decode b_Mo_classes 91 = .ok (.ireturn, 1) := by decide +kernel
theorem d_Mo_witness_0 : decode b_Mo_witness 0 = .ok (.iload_n 1, 1) := by decide +kernel
theorem d_Mo_witness_1 : decode b_Mo_witness 1 = .ok (.ifCond .lt 15, 3) := by decide +kernel
theorem d_Mo_witness_4 : decode b_Mo_witness 4 = .ok (.iload_n 1, 1) := by decide +kernel
theorem d_Mo_witness_5 : decode b_Mo_witness 5 = .ok (.iconst 5, 1) := by decide +kernel
theorem d_Mo_witness_6 : decode b_Mo_witness 6 = .ok (.if_icmp .gt 10, 3) := by decide +kernel
theorem d_Mo_witness_9 : decode b_Mo_witness 9 = .ok (.aload_n 0, 1) := by decide +kernel
theorem d_Mo_witness_10 : decode b_Mo_witness 10 = .ok (.getfield 130, 3) := by decide +kernel
theorem d_Mo_witness_13 : decode b_Mo_witness 13 = .ok (.ifCond .ne 6, 3) := by decide +kernel
theorem d_Mo_witness_16 : decode b_Mo_witness 16 = .ok (.bipush (-2), 2) := by decide +kernel
theorem d_Mo_witness_18 : decode b_Mo_witness 18 = .ok (.ireturn, 1) := by decide +kernel
theorem d_Mo_witness_19 : decode b_Mo_witness 19 = .ok (.iconst 0, 1) := by decide +kernel
theorem d_Mo_witness_20 : decode b_Mo_witness 20 = .ok (.istore_n 2, 1) := by decide +kernel
theorem d_Mo_witness_21 : decode b_Mo_witness 21 = .ok (.iload_n 2, 1) := by decide +kernel
theorem d_Mo_witness_22 : decode b_Mo_witness 22 = .ok (.aload_n 0, 1) := by decide +kernel
theorem d_Mo_witness_23 : decode b_Mo_witness 23 = .ok (.getfield 130, 3) := by decide +kernel
theorem d_Mo_witness_26 : decode b_Mo_witness 26 = .ok (.if_icmp .ge 42, 3) := by decide +kernel
theorem d_Mo_witness_29 : decode b_Mo_witness 29 = .ok (.iconst 0, 1) := by decide +kernel
theorem d_Mo_witness_30 : decode b_Mo_witness 30 = .ok (.istore_n 3, 1) := by decide +kernel
theorem d_Mo_witness_31 : decode b_Mo_witness 31 = .ok (.iload_n 3, 1) := by decide +kernel
theorem d_Mo_witness_32 : decode b_Mo_witness 32 = .ok (.aload_n 0, 1) := by decide +kernel
theorem d_Mo_witness_33 : decode b_Mo_witness 33 = .ok (.getfield 130, 3) := by decide +kernel
theorem d_Mo_witness_36 : decode b_Mo_witness 36 = .ok (.if_icmp .ge 26, 3) := by decide +kernel
theorem d_Mo_witness_39 : decode b_Mo_witness 39 = .ok (.aload_n 0, 1) := by decide +kernel
theorem d_Mo_witness_40 : decode b_Mo_witness 40 = .ok (.iload_n 1, 1) := by decide +kernel
theorem d_Mo_witness_41 : decode b_Mo_witness 41 = .ok (.iload_n 2, 1) := by decide +kernel
theorem d_Mo_witness_42 : decode b_Mo_witness 42 = .ok (.iload_n 3, 1) := by decide +kernel
theorem d_Mo_witness_43 : decode b_Mo_witness 43 = .ok (.invokevirtual 155, 3) := by decide +kernel
theorem d_Mo_witness_46 : decode b_Mo_witness 46 = .ok (.ifCond .eq 10, 3) := by decide +kernel
theorem d_Mo_witness_49 : decode b_Mo_witness 49 = .ok (.bipush 64, 2) := by decide +kernel
theorem d_Mo_witness_51 : decode b_Mo_witness 51 = .ok (.iload_n 2, 1) := by decide +kernel
theorem d_Mo_witness_52 : decode b_Mo_witness 52 = .ok (.imul, 1) := by decide +kernel
theorem d_Mo_witness_53 : decode b_Mo_witness 53 = .ok (.iload_n 3, 1) := by decide +kernel
theorem d_Mo_witness_54 : decode b_Mo_witness 54 = .ok (.iadd, 1) := by decide +kernel
theorem d_Mo_witness_55 : decode b_Mo_witness 55 = .ok (.ireturn, 1) := by decide +kernel
theorem d_Mo_witness_56 : decode b_Mo_witness 56 = .ok (.iinc 3 1, 3) := by decide +kernel
theorem d_Mo_witness_59 : decode b_Mo_witness 59 = .ok (.goto (-28), 3) := by decide +kernel
theorem d_Mo_witness_62 : decode b_Mo_witness 62 = .ok (.iinc 2 1, 3) := by decide +kernel
theorem d_Mo_witness_65 : decode b_Mo_witness 65 = .ok (.goto (-44), 3) := by decide +kernel
theorem d_Mo_witness_68 : decode b_Mo_witness 68 = .ok (.iconst (-1), 1) := by decide +kernel
theorem d_Mo_witness_69 : decode b_Mo_witness 69 = .ok (.ireturn, 1) := by decide +kernel
theorem d_Mo_against_0 : decode b_Mo_against 0 = .ok (.iload_n 1, 1) := by decide +kernel
theorem d_Mo_against_1 : decode b_Mo_against 1 = .ok (.lookupswitch 110 #[(0, 35), (1, 66), (5, 87)], 35) := by decide +kernel
theorem d_Mo_against_36 : decode b_Mo_against 36 = .ok (.aload_n 0, 1) := by decide +kernel
theorem d_Mo_against_37 : decode b_Mo_against 37 = .ok (.getfield 48, 3) := by decide +kernel
theorem d_Mo_against_40 : decode b_Mo_against 40 = .ok (.bipush 60, 2) := by decide +kernel
theorem d_Mo_against_42 : decode b_Mo_against 42 = .ok (.iload_n 2, 1) := by decide +kernel
theorem d_Mo_against_43 : decode b_Mo_against 43 = .ok (.imul, 1) := by decide +kernel
theorem d_Mo_against_44 : decode b_Mo_against 44 = .ok (.iload_n 3, 1) := by decide +kernel
theorem d_Mo_against_45 : decode b_Mo_against 45 = .ok (.iadd, 1) := by decide +kernel
theorem d_Mo_against_46 : decode b_Mo_against 46 = .ok (.iaload, 1) := by decide +kernel
theorem d_Mo_against_47 : decode b_Mo_against 47 = .ok (.aload_n 0, 1) := by decide +kernel
theorem d_Mo_against_48 : decode b_Mo_against 48 = .ok (.getfield 48, 3) := by decide +kernel
theorem d_Mo_against_51 : decode b_Mo_against 51 = .ok (.bipush 60, 2) := by decide +kernel
theorem d_Mo_against_53 : decode b_Mo_against 53 = .ok (.iload_n 3, 1) := by decide +kernel
theorem d_Mo_against_54 : decode b_Mo_against 54 = .ok (.imul, 1) := by decide +kernel
theorem d_Mo_against_55 : decode b_Mo_against 55 = .ok (.iload_n 2, 1) := by decide +kernel
theorem d_Mo_against_56 : decode b_Mo_against 56 = .ok (.iadd, 1) := by decide +kernel
theorem d_Mo_against_57 : decode b_Mo_against 57 = .ok (.iaload, 1) := by decide +kernel
theorem d_Mo_against_58 : decode b_Mo_against 58 = .ok (.if_icmp .eq 7, 3) := by decide +kernel
theorem d_Mo_against_61 : decode b_Mo_against 61 = .ok (.iconst 1, 1) := by decide +kernel
theorem d_Mo_against_62 : decode b_Mo_against 62 = .ok (.goto 4, 3) := by decide +kernel
theorem d_Mo_against_65 : decode b_Mo_against 65 = .ok (.iconst 0, 1) := by decide +kernel
theorem d_Mo_against_66 : decode b_Mo_against 66 = .ok (.ireturn, 1) := by decide +kernel
theorem d_Mo_against_67 : decode b_Mo_against 67 = .ok (.iload_n 2, 1) := by decide +kernel
theorem d_Mo_against_68 : decode b_Mo_against 68 = .ok (.iload_n 3, 1) := by decide +kernel
theorem d_Mo_against_69 : decode b_Mo_against 69 = .ok (.if_icmp .eq 17, 3) := by decide +kernel
theorem d_Mo_against_72 : decode b_Mo_against 72 = .ok (.aload_n 0, 1) := by decide +kernel
theorem d_Mo_against_73 : decode b_Mo_against 73 = .ok (.iconst 3, 1) := by decide +kernel
theorem d_Mo_against_74 : decode b_Mo_against 74 = .ok (.iload_n 2, 1) := by decide +kernel
theorem d_Mo_against_75 : decode b_Mo_against 75 = .ok (.iload_n 3, 1) := by decide +kernel
theorem d_Mo_against_76 : decode b_Mo_against 76 = .ok (.invokevirtual 151, 3) := by decide +kernel
theorem d_Mo_against_79 : decode b_Mo_against 79 = .ok (.ifCond .eq 7, 3) := by decide +kernel
theorem d_Mo_against_82 : decode b_Mo_against 82 = .ok (.iconst 1, 1) := by decide +kernel
theorem d_Mo_against_83 : decode b_Mo_against 83 = .ok (.goto 4, 3) := by decide +kernel
theorem d_Mo_against_86 : decode b_Mo_against 86 = .ok (.iconst 0, 1) := by decide +kernel
theorem d_Mo_against_87 : decode b_Mo_against 87 = .ok (.ireturn, 1) := by decide +kernel
theorem d_Mo_against_88 : decode b_Mo_against 88 = .ok (.iload_n 2, 1) := by decide +kernel
theorem d_Mo_against_89 : decode b_Mo_against 89 = .ok (.iload_n 3, 1) := by decide +kernel
theorem d_Mo_against_90 : decode b_Mo_against 90 = .ok (.if_icmp .ne 19, 3) := by decide +kernel
theorem d_Mo_against_93 : decode b_Mo_against 93 = .ok (.aload_n 0, 1) := by decide +kernel
theorem d_Mo_against_94 : decode b_Mo_against 94 = .ok (.iload_n 2, 1) := by decide +kernel
theorem d_Mo_against_95 : decode b_Mo_against 95 = .ok (.invokevirtual 141, 3) := by decide +kernel
theorem d_Mo_against_98 : decode b_Mo_against 98 = .ok (.lconst 1, 1) := by decide +kernel
theorem d_Mo_against_99 : decode b_Mo_against 99 = .ok (.land, 1) := by decide +kernel
theorem d_Mo_against_100 : decode b_Mo_against 100 = .ok (.lconst 0, 1) := by decide +kernel
theorem d_Mo_against_101 : decode b_Mo_against 101 = .ok (.lcmp, 1) := by decide +kernel
theorem d_Mo_against_102 : decode b_Mo_against 102 = .ok (.ifCond .ne 7, 3) := by decide +kernel
theorem d_Mo_against_105 : decode b_Mo_against 105 = .ok (.iconst 1, 1) := by decide +kernel
theorem d_Mo_against_106 : decode b_Mo_against 106 = .ok (.goto 4, 3) := by decide +kernel
theorem d_Mo_against_109 : decode b_Mo_against 109 = .ok (.iconst 0, 1) := by decide +kernel
theorem d_Mo_against_110 : decode b_Mo_against 110 = .ok (.ireturn, 1) := by decide +kernel
theorem d_Mo_against_111 : decode b_Mo_against 111 = .ok (.iload_n 2, 1) := by decide +kernel
theorem d_Mo_against_112 : decode b_Mo_against 112 = .ok (.iload_n 3, 1) := by decide +kernel
theorem d_Mo_against_113 : decode b_Mo_against 113 = .ok (.if_icmp .eq 19, 3) := by decide +kernel
theorem d_Mo_against_116 : decode b_Mo_against 116 = .ok (.aload_n 0, 1) := by decide +kernel
theorem d_Mo_against_117 : decode b_Mo_against 117 = .ok (.iload_n 1, 1) := by decide +kernel
theorem d_Mo_against_118 : decode b_Mo_against 118 = .ok (.iconst 2, 1) := by decide +kernel
theorem d_Mo_against_119 : decode b_Mo_against 119 = .ok (.isub, 1) := by decide +kernel
theorem d_Mo_against_120 : decode b_Mo_against 120 = .ok (.iload_n 2, 1) := by decide +kernel
theorem d_Mo_against_121 : decode b_Mo_against 121 = .ok (.iload_n 3, 1) := by decide +kernel
theorem d_Mo_against_122 : decode b_Mo_against 122 = .ok (.invokevirtual 151, 3) := by decide +kernel
theorem d_Mo_against_125 : decode b_Mo_against 125 = .ok (.ifCond .eq 7, 3) := by decide +kernel
theorem d_Mo_against_128 : decode b_Mo_against 128 = .ok (.iconst 1, 1) := by decide +kernel
theorem d_Mo_against_129 : decode b_Mo_against 129 = .ok (.goto 4, 3) := by decide +kernel
theorem d_Mo_against_132 : decode b_Mo_against 132 = .ok (.iconst 0, 1) := by decide +kernel
theorem d_Mo_against_133 : decode b_Mo_against 133 = .ok (.ireturn, 1) := by decide +kernel
end
section
-- numbering as met: a table g of steps over two letters, slot 2 * s + b; run from 0. DRAFT, never compiled yet (2026-11-15).
def bf_run (g : Nat → Nat) (w : List Bool) : Nat := w.foldl (fun s b => g (2 * s + b.toNat)) 0
theorem bf_run_snoc (g : Nat → Nat) (w : List Bool) (b : Bool) : bf_run g (w ++ [b]) = g (2 * bf_run g w + b.toNat) := by
  simp [bf_run, List.foldl_append]
/-- the greatest state met in the slots below k -/
def bf_max (g : Nat → Nat) : Nat → Nat
  | 0 => 0
  | k + 1 => max (bf_max g k) (g k)
theorem bf_max_ge {g : Nat → Nat} {j : Nat} : ∀ {k : Nat}, j < k → g j ≤ bf_max g k
  | 0, h => by omega
  | k + 1, h => by
    simp only [bf_max]
    by_cases hj : j = k
    · subst hj; omega
    · have := bf_max_ge (g := g) (j := j) (k := k) (by omega)
      omega
theorem bf_max_le {g : Nat → Nat} {n : Nat} : ∀ {k : Nat}, (∀ j, j < k → g j ≤ n) → bf_max g k ≤ n
  | 0, _ => by simp [bf_max]
  | k + 1, h => by
    have h1 := bf_max_le (g := g) (n := n) (k := k) (fun j hj => h j (by omega))
    have h2 := h k (by omega)
    simp only [bf_max]
    omega
theorem bf_max_congr {g g' : Nat → Nat} : ∀ {k : Nat}, (∀ j, j < k → g j = g' j) → bf_max g k = bf_max g' k
  | 0, _ => rfl
  | k + 1, h => by
    simp only [bf_max]
    rw [bf_max_congr (k := k) (fun j hj => h j (by omega)), h k (by omega)]
theorem bf_hit {g : Nat → Nat} {t : Nat} (ht : 0 < t) : ∀ {k : Nat}, (∀ j, j < k → g j ≤ bf_max g j + 1) → t ≤ bf_max g k → ∃ j, j < k ∧ g j = t
  | 0, _, h => by simp [bf_max] at h; omega
  | k + 1, hs, h => by
    simp only [bf_max] at h
    by_cases h1 : t ≤ bf_max g k
    · obtain ⟨j, hj, e⟩ := bf_hit ht (k := k) (fun j hj => hs j (by omega)) h1
      exact ⟨j, by omega, e⟩
    · have h2 := hs k (by omega)
      exact ⟨k, by omega, by omega⟩
/-- numbered as met, n states -/
def bf_num (n : Nat) (g : Nat → Nat) : Prop := 0 < n ∧ (∀ k, k < 2 * n → g k < n ∧ g k ≤ bf_max g k + 1) ∧ ∀ t, t < n → t ≤ bf_max g (2 * t)
/-- a state met below slot k has a word over those slots -/
theorem bf_word {n : Nat} {g : Nat → Nat} (h : bf_num n g) : ∀ (k : Nat), k ≤ 2 * n → ∀ t, t ≤ bf_max g k → ∃ w : List Bool, ∀ g' : Nat → Nat, (∀ j, j < k → g' j = g j) → bf_run g' w = t := by
  intro k
  induction k using Nat.strongRecOn with
  | ind k ih =>
    intro hk t ht
    by_cases h0 : t = 0
    · subst h0
      exact ⟨[], fun g' _ => rfl⟩
    · obtain ⟨j, hj, e⟩ := bf_hit (g := g) (by omega : 0 < t) (k := k) (fun j hj => (h.2.1 j (by omega)).2) ht
      have hs := h.2.2 (j / 2) (by omega)
      obtain ⟨w, hw⟩ := ih (2 * (j / 2)) (by omega) (by omega) (j / 2) hs
      by_cases hb : j % 2 = 1
      · refine ⟨w ++ [true], fun g' hg => ?_⟩
        rw [bf_run_snoc, hw g' (fun i hi => hg i (by omega))]
        have e2 : 2 * (j / 2) + true.toNat = j := by simp; omega
        rw [e2, hg j hj]
        exact e
      · refine ⟨w ++ [false], fun g' hg => ?_⟩
        rw [bf_run_snoc, hw g' (fun i hi => hg i (by omega))]
        have e2 : 2 * (j / 2) + false.toNat = j := by simp; omega
        rw [e2, hg j hj]
        exact e
theorem bf_run_lt {n : Nat} {g : Nat → Nat} (h : bf_num n g) (w : List Bool) : bf_run g w < n := by
  have key : ∀ (w : List Bool) (s : Nat), s < n → w.foldl (fun s b => g (2 * s + b.toNat)) s < n := by
    intro w
    induction w with
    | nil => intro s hs; exact hs
    | cons b w ih =>
      intro s hs
      have hb : b.toNat < 2 := by cases b <;> decide
      exact ih _ (h.2.1 (2 * s + b.toNat) (by omega)).1
  exact key w 0 h.1
/-- every state is met -/
theorem bf_all {n : Nat} {g : Nat → Nat} (h : bf_num n g) {t : Nat} (ht : t < n) : ∃ w : List Bool, bf_run g w = t := by
  obtain ⟨w, hw⟩ := bf_word h (2 * t) (by omega) t (h.2.2 t ht)
  exact ⟨w, hw g (fun _ _ => rfl)⟩
/-- the numbering is one alone: two tables, numbered as met, that tell words apart alike, are alike -/
theorem bf_same {n1 n2 : Nat} {g1 g2 : Nat → Nat} (h1 : bf_num n1 g1) (h2 : bf_num n2 g2) (hE : ∀ u v : List Bool, bf_run g1 u = bf_run g1 v ↔ bf_run g2 u = bf_run g2 v) : n1 = n2 ∧ ∀ k, k < 2 * n1 → g1 k = g2 k := by
  have key : ∀ k, k < 2 * n1 → k < 2 * n2 → g1 k = g2 k := by
    intro k
    induction k using Nat.strongRecOn with
    | ind k ih =>
      intro hk1 hk2
      have agree : ∀ j, j < k → g2 j = g1 j := fun j hj => (ih j hj (by omega) (by omega)).symm
      have hm : bf_max g2 k = bf_max g1 k := bf_max_congr agree
      obtain ⟨u, hu⟩ := bf_word h1 (2 * (k / 2)) (by omega) (k / 2) (h1.2.2 (k / 2) (by omega))
      have hu1 := hu g1 (fun _ _ => rfl)
      have hu2 := hu g2 (fun j hj => agree j (by omega))
      obtain ⟨b, hb⟩ : ∃ b : Bool, 2 * (k / 2) + b.toNat = k := by
        by_cases hb : k % 2 = 1
        · exact ⟨true, by simp; omega⟩
        · exact ⟨false, by simp; omega⟩
      have e1 : bf_run g1 (u ++ [b]) = g1 k := by rw [bf_run_snoc, hu1, hb]
      have e2 : bf_run g2 (u ++ [b]) = g2 k := by rw [bf_run_snoc, hu2, hb]
      have l1 := (h1.2.1 k hk1).2
      have l2 := (h2.2.1 k hk2).2
      by_cases c1 : g1 k ≤ bf_max g1 k
      · obtain ⟨w, hw⟩ := bf_word h1 k (by omega) (g1 k) c1
        have w1 := hw g1 (fun _ _ => rfl)
        have w2 := hw g2 agree
        have := (hE (u ++ [b]) w).mp (by rw [e1, w1])
        rw [e2, w2] at this
        exact this.symm
      · by_cases c2 : g2 k ≤ bf_max g1 k
        · obtain ⟨w, hw⟩ := bf_word h1 k (by omega) (g2 k) c2
          have w1 := hw g1 (fun _ _ => rfl)
          have w2 := hw g2 agree
          have := (hE (u ++ [b]) w).mpr (by rw [e2, w2])
          rw [e1, w1] at this
          exact this
        · omega
  have le : ∀ {n1 n2 : Nat} {g1 g2 : Nat → Nat}, bf_num n1 g1 → bf_num n2 g2 → (∀ k, k < 2 * n1 → k < 2 * n2 → g1 k = g2 k) → n2 ≤ n1 := by
    intro n1 n2 g1 g2 h1 h2 hk
    refine Nat.le_of_not_lt fun hlt => ?_
    have a := h2.2.2 n1 hlt
    have b : bf_max g2 (2 * n1) ≤ n1 - 1 := bf_max_le fun j hj => by
      rw [← hk j hj (by omega)]
      have := (h1.2.1 j hj).1
      omega
    have := h1.1
    omega
  have a := le h1 h2 key
  have b := le h2 h1 (fun k q1 q2 => (key k q2 q1).symm)
  have hn : n1 = n2 := by omega
  exact ⟨hn, fun k hk => key k hk (by omega)⟩
end
section
-- least automata: partitions split until nothing more splits. Behind bfs.lean.txt. DRAFT, never compiled yet (2026-11-15).
def bf_from (g : Nat → Nat) (s : Nat) (w : List Bool) : Nat := w.foldl (fun s b => g (2 * s + b.toNat)) s
theorem bf_from_0 (g : Nat → Nat) (w : List Bool) : bf_from g 0 w = bf_run g w := rfl
theorem bf_from_cons (g : Nat → Nat) (s : Nat) (b : Bool) (w : List Bool) : bf_from g s (b :: w) = bf_from g (g (2 * s + b.toNat)) w := rfl
theorem bf_run_app (g : Nat → Nat) (u v : List Bool) : bf_run g (u ++ v) = bf_from g (bf_run g u) v := by
  simp [bf_run, bf_from, List.foldl_append]
theorem bf_from_lt {n : Nat} {g : Nat → Nat} (h : ∀ k, k < 2 * n → g k < n) : ∀ (w : List Bool) (s : Nat), s < n → bf_from g s w < n
  | [], s, hs => hs
  | b :: w, s, hs => by
    have hb : b.toNat < 2 := by cases b <;> decide
    exact bf_from_lt h w _ (h (2 * s + b.toNat) (by omega))
/-- the least automaton of a language: numbered as met, right, and no two states alike -/
def le_A (L : List Bool → Prop) (n : Nat) (g : Nat → Nat) (a : Nat → Bool) : Prop :=
  bf_num n g ∧ (∀ w, a (bf_run g w) = true ↔ L w) ∧ ∀ s t, s < n → t < n → (∀ w, a (bf_from g s w) = a (bf_from g t w)) → s = t
/-- two words lead to one state just when nothing behind them tells them apart -/
theorem le_ner {L : List Bool → Prop} {n : Nat} {g : Nat → Nat} {a : Nat → Bool} (h : le_A L n g a) (u v : List Bool) : bf_run g u = bf_run g v ↔ ∀ x, (L (u ++ x) ↔ L (v ++ x)) := by
  constructor
  · intro e x
    rw [← h.2.1, ← h.2.1, bf_run_app, bf_run_app, e]
  · intro e
    refine h.2.2 _ _ (bf_run_lt h.1 u) (bf_run_lt h.1 v) fun w => ?_
    rw [← bf_run_app, ← bf_run_app]
    exact Bool.eq_iff_iff.mpr ((h.2.1 _).trans ((e w).trans (h.2.1 _).symm))
/-- it is one alone -/
theorem le_same {L : List Bool → Prop} {n1 n2 : Nat} {g1 g2 : Nat → Nat} {a1 a2 : Nat → Bool} (h1 : le_A L n1 g1 a1) (h2 : le_A L n2 g2 a2) : n1 = n2 ∧ (∀ k, k < 2 * n1 → g1 k = g2 k) ∧ ∀ s, s < n1 → a1 s = a2 s := by
  obtain ⟨hn, hg⟩ := bf_same h1.1 h2.1 (fun u v => (le_ner h1 u v).trans (le_ner h2 u v).symm)
  refine ⟨hn, hg, fun s hs => ?_⟩
  obtain ⟨w, hw⟩ := bf_word h1.1 (2 * s) (by omega) s (h1.1.2.2 s hs)
  have e1 := hw g1 (fun _ _ => rfl)
  have e2 := hw g2 (fun j hj => (hg j (by omega)).symm)
  have r1 := h1.2.1 w
  have r2 := h2.2.1 w
  rw [e1] at r1
  rw [e2] at r2
  exact Bool.eq_iff_iff.mpr (r1.trans r2.symm)
/-- words that are told apart in pairs: no automaton of fewer states has the language -/
def le_big (L : List Bool → Prop) (m : Nat) : Prop := ∃ u : Nat → List Bool, ∀ i j, i < m → j < m → (∀ x, L (u i ++ x) ↔ L (u j ++ x)) → i = j
theorem le_pig : ∀ (n m : Nat) (f : Nat → Nat), (∀ i, i < m → f i < n) → (∀ i j, i < m → j < m → f i = f j → i = j) → m ≤ n
  | 0, m, f, h, _ => by
    refine Nat.le_of_not_lt fun hm => ?_
    have := h 0 (by omega)
    omega
  | n + 1, m, f, h, inj => by
    by_cases hx : ∃ i, i < m ∧ f i = n
    · obtain ⟨i0, hi0, e0⟩ := hx
      -- leave i0 out: move the last one into its place
      have := le_pig n (m - 1) (fun i => if i = i0 then f (m - 1) else f i) (fun i hi => by
        show (if i = i0 then f (m - 1) else f i) < n
        by_cases c : i = i0
        · rw [if_pos c]
          have a := h (m - 1) (by omega)
          have b : f (m - 1) ≠ n := fun e => by
            have := inj (m - 1) i0 (by omega) hi0 (by rw [e, e0])
            omega
          omega
        · rw [if_neg c]
          have a := h i (by omega)
          have b : f i ≠ n := fun e => c (inj i i0 (by omega) hi0 (by rw [e, e0]))
          omega) (fun i j hi hj e => by
        by_cases c : i = i0
        · by_cases d : j = i0
          · rw [c, d]
          · simp only [c, d, if_true, if_false] at e
            have := inj (m - 1) j (by omega) (by omega) e
            omega
        · by_cases d : j = i0
          · simp only [c, d, if_true, if_false] at e
            have := inj i (m - 1) (by omega) (by omega) e
            omega
          · simp only [c, d, if_false] at e
            exact inj i j (by omega) (by omega) e)
      omega
    · have := le_pig n m f (fun i hi => by
        have a := h i hi
        have b : f i ≠ n := fun e => hx ⟨i, hi, e⟩
        omega) inj
      omega
theorem le_big_not {L : List Bool → Prop} {n m : Nat} {g : Nat → Nat} {a : Nat → Bool} (h : le_A L n g a) (hb : le_big L m) : m ≤ n := by
  obtain ⟨u, hu⟩ := hb
  exact le_pig n m (fun i => bf_run g (u i)) (fun i _ => bf_run_lt h.1 _) (fun i j hi hj e => hu i j hi hj ((le_ner h _ _).mp e))
/-- two states go alike under a partition -/
def mo_al (g P : Nat → Nat) (s t : Nat) : Prop := P s = P t ∧ P (g (2 * s)) = P (g (2 * t)) ∧ P (g (2 * s + 1)) = P (g (2 * t + 1))
/-- parts numbered by their first states -/
def mo_fst (N c : Nat) (P f : Nat → Nat) : Prop := (∀ s, s < N → P s < c ∧ f (P s) ≤ s) ∧ (∀ p, p < c → f p < N ∧ P (f p) = p) ∧ ∀ p q, p < q → q < c → f p < f q
def mo_sp (N : Nat) (g P : Nat → Nat) (c : Nat) (P' f : Nat → Nat) : Prop := mo_fst N c P' f ∧ ∀ s t, s < N → t < N → (P' s = P' t ↔ mo_al g P s t)
theorem mo_below {N c : Nat} {P f : Nat → Nat} (h : mo_fst N c P f) {s p : Nat} (hp : p < c) (hs : s < f p) : P s < p := by
  have hN := (h.2.1 p hp).1
  have h1 := h.1 s (by omega)
  refine Nat.lt_of_not_le fun hle => ?_
  rcases Nat.eq_or_lt_of_le hle with e | e
  · rw [← e] at h1
    omega
  · have := h.2.2 p (P s) e h1.1
    omega
/-- a finer partition with as many parts is the same one, number for number -/
theorem mo_stable {N c : Nat} {P f P' f' : Nat → Nat} (h : mo_fst N c P f) (h' : mo_fst N c P' f') (hf : ∀ s t, s < N → t < N → P' s = P' t → P s = P t) : ∀ s, s < N → P' s = P s := by
  -- the first states of P' and of P agree, from part 0 on
  have inj : ∀ p q, p < c → q < c → P (f' p) = P (f' q) → p = q := by
    -- the map p ↦ P (f' p) is onto the c parts of P, so it is one to one
    intro p q hp hq e
    refine Classical.byContradiction fun hne => ?_
    -- a choice of a part of P' for each part of P misses one
    have hon : ∀ r, r < c → ∃ p', p' < c ∧ P (f' p') = r := fun r hr => by
      have a := h.2.1 r hr
      have b := h'.1 (f r) a.1
      refine ⟨P' (f r), b.1, ?_⟩
      have d := h'.2.1 (P' (f r)) b.1
      rw [hf _ _ d.1 a.1 d.2]
      exact a.2
    let F : Nat → Nat := fun r => if hr : r < c then Classical.choose (hon r hr) else 0
    have hF : ∀ r, r < c → F r < c ∧ P (f' (F r)) = r := fun r hr => by
      have := Classical.choose_spec (hon r hr)
      simp only [F, hr, dif_pos]
      exact this
    -- F is one to one into the parts without p or without q
    have hmiss : (∀ r, r < c → F r ≠ p) ∨ (∀ r, r < c → F r ≠ q) := by
      by_cases hx : ∃ r, r < c ∧ F r = p
      · right
        obtain ⟨r, hr, er⟩ := hx
        intro r2 hr2 er2
        have a := (hF r hr).2
        have b := (hF r2 hr2).2
        rw [er] at a
        rw [er2] at b
        have : r = r2 := by rw [← a, ← b, e]
        subst this
        exact hne (by rw [← er, ← er2])
      · left
        exact fun r hr er => hx ⟨r, hr, er⟩
    have hinj : ∀ i j, i < c → j < c → F i = F j → i = j := fun i j hi hj e2 => by
      rw [← (hF i hi).2, ← (hF j hj).2, e2]
    have go : ∀ z, z < c → (∀ r, r < c → F r ≠ z) → False := fun z hz hm => by
      have := le_pig (c - 1) c (fun r => if F r = c - 1 then z else F r) (fun i hi => by
        have a := (hF i hi).1
        have b := hm i hi
        show (if F i = c - 1 then z else F i) < c - 1
        by_cases d : F i = c - 1
        · rw [if_pos d]; omega
        · rw [if_neg d]; omega) (fun i j hi hj e2 => by
        have bi := hm i hi
        have bj := hm j hj
        by_cases di : F i = c - 1
        · by_cases dj : F j = c - 1
          · exact hinj i j hi hj (by rw [di, dj])
          · simp only [di, dj, if_true, if_false] at e2
            exact absurd e2.symm bj
        · by_cases dj : F j = c - 1
          · simp only [di, dj, if_true, if_false] at e2
            exact absurd e2 bi
          · simp only [di, dj, if_false] at e2
            exact hinj i j hi hj e2)
      omega
    rcases hmiss with hm | hm
    · exact go p hp hm
    · exact go q hq hm
  have conv : ∀ s t, s < N → t < N → P s = P t → P' s = P' t := fun s t hs ht e => by
    have a := h'.1 s hs
    have b := h'.1 t ht
    refine inj _ _ a.1 b.1 ?_
    have a2 := h'.2.1 _ a.1
    have b2 := h'.2.1 _ b.1
    rw [hf _ _ a2.1 hs a2.2, hf _ _ b2.1 ht b2.2, e]
  -- numbered by first states, so the numbers agree
  have fs : ∀ p, p < c → f' p = f p := by
    intro p
    induction p using Nat.strongRecOn with
    | ind p ih =>
      intro hp
      have a := h.2.1 p hp
      have a' := h'.2.1 p hp
      -- f p is in a part of P' that is none below p, and f' p in none of P below p
      have n1 : P' (f p) ≥ p := Nat.le_of_not_lt fun hlt => by
        have b := h'.2.1 (P' (f p)) (by omega)
        have e := hf _ _ b.1 a.1 b.2
        rw [ih _ hlt (by omega), (h.2.1 _ (by omega)).2, a.2] at e
        omega
      have n2 : P (f' p) ≥ p := Nat.le_of_not_lt fun hlt => by
        have b := h.2.1 (P (f' p)) (by omega)
        have e := conv _ _ b.1 a'.1 b.2
        rw [← ih _ hlt (by omega), (h'.2.1 _ (by omega)).2, a'.2] at e
        omega
      have l1 : f' p ≤ f p := by
        have b := h'.1 (f p) a.1
        rcases Nat.eq_or_lt_of_le n1 with e | e
        · rw [← e] at b; exact b.2
        · have := h'.2.2 p _ e b.1
          omega
      have l2 : f p ≤ f' p := by
        have b := h.1 (f' p) a'.1
        rcases Nat.eq_or_lt_of_le n2 with e | e
        · rw [← e] at b; exact b.2
        · have := h.2.2 p _ e b.1
          omega
      omega
  intro s hs
  have a := h'.1 s hs
  have b := h'.2.1 _ a.1
  have e := hf _ _ b.1 hs b.2
  rw [fs _ a.1, (h.2.1 _ a.1).2] at e
  exact e
/-- alike in k steps -/
def mo_eq (g A : Nat → Nat) : Nat → Nat → Nat → Prop
  | 0, s, t => A s = A t
  | k + 1, s, t => mo_eq g A k s t ∧ mo_eq g A k (g (2 * s)) (g (2 * t)) ∧ mo_eq g A k (g (2 * s + 1)) (g (2 * t + 1))
theorem mo_eq_sp {N c k : Nat} {g A P P' f : Nat → Nat} (hg : ∀ j, j < 2 * N → g j < N) (hP : ∀ s t, s < N → t < N → (P s = P t ↔ mo_eq g A k s t)) (h : mo_sp N g P c P' f) : ∀ s t, s < N → t < N → (P' s = P' t ↔ mo_eq g A (k + 1) s t) := by
  intro s t hs ht
  rw [h.2 s t hs ht]
  unfold mo_al mo_eq
  rw [hP s t hs ht, hP _ _ (hg _ (by omega)) (hg _ (by omega)), hP _ _ (hg _ (by omega)) (hg _ (by omega))]
theorem mo_tell {g A : Nat → Nat} : ∀ (k s t : Nat), (∀ w, A (bf_from g s w) = A (bf_from g t w)) → mo_eq g A k s t
  | 0, s, t, h => h []
  | k + 1, s, t, h => ⟨mo_tell k s t h, mo_tell k _ _ (fun w => h (false :: w)), mo_tell k _ _ (fun w => h (true :: w))⟩
/-- a partition that splits no more tells nothing alike apart -/
theorem mo_keep {N : Nat} {g A P : Nat → Nat} (hg : ∀ j, j < 2 * N → g j < N) (hA : ∀ s t, s < N → t < N → P s = P t → A s = A t) (hs : ∀ s t, s < N → t < N → P s = P t → mo_al g P s t) : ∀ (w : List Bool) (s t : Nat), s < N → t < N → P s = P t → A (bf_from g s w) = A (bf_from g t w)
  | [], s, t, h1, h2, e => hA s t h1 h2 e
  | b :: w, s, t, h1, h2, e => by
    have a := hs s t h1 h2 e
    rw [bf_from_cons, bf_from_cons]
    cases b with
    | false => exact mo_keep hg hA hs w _ _ (hg _ (by simp; omega)) (hg _ (by simp; omega)) a.2.1
    | true => exact mo_keep hg hA hs w _ _ (hg _ (by simp; omega)) (hg _ (by simp; omega)) a.2.2
/-- the automaton of the parts is the least one -/
theorem mo_least {N c : Nat} {g P f : Nat → Nat} {a : Nat → Bool} {L : List Bool → Prop} (hn : bf_num N g) (hL : ∀ w, a (bf_run g w) = true ↔ L w) (hP : mo_fst N c P f) (hs : ∀ s t, s < N → t < N → P s = P t → mo_al g P s t) (ha : ∀ s t, s < N → t < N → P s = P t → a s = a t) (hd : ∀ s t, s < N → t < N → (∀ w, a (bf_from g s w) = a (bf_from g t w)) → P s = P t)
    {G : Nat → Nat} (hG : ∀ p, p < c → G (2 * p) = P (g (2 * f p)) ∧ G (2 * p + 1) = P (g (2 * f p + 1))) {b : Nat → Bool} (hb : ∀ p, p < c → b p = a (f p)) : le_A L c G b := by
  have hg : ∀ j, j < 2 * N → g j < N := fun j hj => (hn.2.1 j hj).1
  -- a slot of the parts: over any state of the part
  have slot : ∀ (s : Nat) (e : Bool), s < N → G (2 * P s + e.toNat) = P (g (2 * s + e.toNat)) := by
    intro s e hs'
    have q := hP.1 s hs'
    have r := hP.2.1 _ q.1
    have al := hs _ _ r.1 hs' r.2
    cases e with
    | false => exact ((hG _ q.1).1).trans al.2.1
    | true => exact ((hG _ q.1).2).trans al.2.2
  have p0 : P 0 = 0 := by
    have q := hP.1 0 hn.1
    have r := hP.2.1 _ q.1
    have z : f (P 0) = 0 := by omega
    refine Classical.byContradiction fun hne => ?_
    have := hP.2.2 0 (P 0) (by omega) q.1
    omega
  have run : ∀ w, bf_run G w = P (bf_run g w) := by
    have key : ∀ (w : List Bool) (s : Nat), s < N → bf_from G (P s) w = P (bf_from g s w) := by
      intro w
      induction w with
      | nil => intro s _; rfl
      | cons e w ih =>
        intro s hs'
        have he : e.toNat < 2 := by cases e <;> decide
        rw [bf_from_cons, bf_from_cons, slot s e hs']
        exact ih _ (hg _ (by omega))
    intro w
    have := key w 0 hn.1
    rw [p0] at this
    exact this
  have c0 : 0 < c := by
    have := (hP.1 0 hn.1).1
    omega
  -- every slot of G below 2 p + e is met over states in order
  have met : ∀ (p : Nat) (e : Bool), p < c → ∀ t, t ≤ bf_max g (2 * f p + e.toNat) → P t ≤ bf_max G (2 * p + e.toNat) := by
    intro p e hp t ht
    have he : e.toNat < 2 := by cases e <;> decide
    have hfp := (hP.2.1 p hp).1
    by_cases ht0 : t = 0
    · subst ht0; rw [p0]; omega
    · obtain ⟨j, hj, ej⟩ := bf_hit (g := g) (by omega : 0 < t) (k := 2 * f p + e.toNat) (fun i hi => (hn.2.1 i (by omega)).2) ht
      obtain ⟨e2, he2⟩ : ∃ e2 : Bool, 2 * (j / 2) + e2.toNat = j := by
        by_cases hb : j % 2 = 1
        · exact ⟨true, by simp; omega⟩
        · exact ⟨false, by simp; omega⟩
      have hj2 : j / 2 < N := by omega
      have sl := slot (j / 2) e2 hj2
      rw [he2, ej] at sl
      rw [← sl]
      have he2' : e2.toNat < 2 := by cases e2 <;> decide
      refine bf_max_ge ?_
      by_cases hlt : j / 2 < f p
      · have := mo_below hP hp hlt
        omega
      · have : j / 2 = f p := by omega
        rw [this, (hP.2.1 p hp).2]
        omega
  refine ⟨⟨c0, fun k hk => ?_, fun p hp => ?_⟩, fun w => ?_, fun s t hs' ht' hw => ?_⟩
  · -- slot k
    obtain ⟨e, he⟩ : ∃ e : Bool, 2 * (k / 2) + e.toNat = k := by
      by_cases hb : k % 2 = 1
      · exact ⟨true, by simp; omega⟩
      · exact ⟨false, by simp; omega⟩
    have he2 : e.toNat < 2 := by cases e <;> decide
    have hp : k / 2 < c := by omega
    have r := hP.2.1 _ hp
    have sl := slot (f (k / 2)) e r.1
    rw [r.2, he] at sl
    have hin := hg (2 * f (k / 2) + e.toNat) (by omega)
    refine ⟨by rw [sl]; exact (hP.1 _ hin).1, ?_⟩
    rw [sl]
    have num := (hn.2.1 (2 * f (k / 2) + e.toNat) (by omega)).2
    -- the part before it has its first state before this one
    by_cases hq : P (g (2 * f (k / 2) + e.toNat)) = 0
    · omega
    · have q := hP.1 _ hin
      have fl := hP.2.2 (P (g (2 * f (k / 2) + e.toNat)) - 1) _ (by omega) q.1
      have m := met (k / 2) e hp (f (P (g (2 * f (k / 2) + e.toNat)) - 1)) (by omega)
      rw [(hP.2.1 _ (by omega)).2, he] at m
      omega
  · -- part p is met before its own slots
    by_cases hp0 : p = 0
    · omega
    · have r := hP.2.1 p hp
      have mm := hn.2.2 (f p) r.1
      have := met p false hp (f p) (by simpa using mm)
      rw [r.2] at this
      simpa using this
  · rw [run, hb _ (hP.1 _ (bf_run_lt hn w)).1]
    have q := hP.1 _ (bf_run_lt hn w)
    have r := hP.2.1 _ q.1
    rw [ha _ _ r.1 (bf_run_lt hn w) r.2]
    exact hL w
  · have rs := hP.2.1 s hs'
    have rt := hP.2.1 t ht'
    rw [← rs.2, ← rt.2]
    refine hd _ _ rs.1 rt.1 fun w => ?_
    have key : ∀ (w : List Bool) (s : Nat), s < N → b (bf_from G (P s) w) = a (bf_from g s w) := by
      intro w
      induction w with
      | nil =>
        intro s hs2
        have q := hP.1 s hs2
        have r := hP.2.1 _ q.1
        show b (P s) = a s
        rw [hb _ q.1]
        exact ha _ _ r.1 hs2 r.2
      | cons e w ih =>
        intro s hs2
        have he : e.toNat < 2 := by cases e <;> decide
        rw [bf_from_cons, bf_from_cons, slot s e hs2]
        exact ih _ (hg _ (by omega))
    have k1 := key w (f s) rs.1
    have k2 := key w (f t) rt.1
    rw [rs.2] at k1
    rw [rt.2] at k2
    rw [← k1, ← k2]
    exact hw w
end
section
-- first place where something holds; numbering while it grows; bits of a set; parts while they are split. Behind least.lean.txt. Own work.
def zf_ff (p : Nat → Bool) : Nat → Nat → Nat
  | k, 0 => k
  | k, m + 1 => if p k = true then k else zf_ff p (k + 1) m
theorem zf_spec (p : Nat → Bool) : ∀ (m k : Nat), k ≤ zf_ff p k m ∧ zf_ff p k m ≤ k + m ∧ (∀ i, k ≤ i → i < zf_ff p k m → p i = false) ∧ (zf_ff p k m < k + m → p (zf_ff p k m) = true)
  | 0, k => by
    simp only [zf_ff]
    exact ⟨Nat.le_refl _, Nat.le_refl _, fun i h1 h2 => by omega, fun h => by omega⟩
  | m + 1, k => by
    simp only [zf_ff]
    by_cases h : p k = true
    · rw [if_pos h]
      exact ⟨Nat.le_refl _, by omega, fun i h1 h2 => by omega, fun _ => h⟩
    · rw [if_neg h]
      obtain ⟨a1, a2, a3, a4⟩ := zf_spec p m (k + 1)
      refine ⟨by omega, by omega, fun i h1 h2 => ?_, fun h2 => a4 (by omega)⟩
      by_cases e : i = k
      · rw [e]
        exact Bool.eq_false_iff.mpr h
      · exact a3 i (by omega) h2
theorem zf_hit {p : Nat → Bool} {k m : Nat} (h : p k = true) (hm : 0 < m) : zf_ff p k m = k := by
  obtain ⟨m', rfl⟩ : ∃ m', m = m' + 1 := ⟨m - 1, by omega⟩
  simp only [zf_ff]
  rw [if_pos h]
theorem zf_miss {p : Nat → Bool} {k m : Nat} (h : p k = false) (hm : 0 < m) : zf_ff p k m = zf_ff p (k + 1) (m - 1) := by
  obtain ⟨m', rfl⟩ : ∃ m', m = m' + 1 := ⟨m - 1, by omega⟩
  simp only [zf_ff]
  rw [if_neg (by rw [h]; decide)]
  rfl
def bf_inv (m j : Nat) (g : Nat → Nat) : Prop := m = bf_max g j + 1 ∧ (∀ i, i < j → g i ≤ bf_max g i + 1) ∧ ∀ t, 2 * t < j → t ≤ bf_max g (2 * t)
theorem bf_inv_0 (g : Nat → Nat) : bf_inv 1 0 g := ⟨rfl, fun i h => by omega, fun t h => by omega⟩
theorem bf_inv_step {m j v m' : Nat} {g g' : Nat → Nat} (h : bf_inv m j g) (hj : j < 2 * m) (hg : ∀ i, i < j → g' i = g i) (hgj : g' j = v) (hm : (v < m ∧ m' = m) ∨ (v = m ∧ m' = m + 1)) : bf_inv m' (j + 1) g' := by
  have c : ∀ k, k ≤ j → bf_max g' k = bf_max g k := fun k hk => bf_max_congr (fun i hi => hg i (by omega))
  have h1 := h.1
  refine ⟨?_, fun i hi => ?_, fun t ht => ?_⟩
  · simp only [bf_max]
    rw [c j (Nat.le_refl _), hgj]
    omega
  · by_cases e : i = j
    · subst e
      rw [c i (Nat.le_refl _), hgj]
      omega
    · rw [hg i (by omega), c i (by omega)]
      exact h.2.1 i (by omega)
  · rw [c (2 * t) (by omega)]
    by_cases e : 2 * t < j
    · exact h.2.2 t e
    · have e2 : 2 * t = j := by omega
      rw [e2]
      omega
theorem bf_inv_end {m : Nat} {g : Nat → Nat} (h : bf_inv m (2 * m) g) (hm : 0 < m) : bf_num m g := by
  have h1 := h.1
  refine ⟨hm, fun k hk => ⟨?_, h.2.1 k hk⟩, fun t ht => h.2.2 t (by omega)⟩
  have := bf_max_ge (g := g) hk
  omega
/-- a set of states as bits -/
def re_ab (a : Nat → Bool) : Nat → Nat
  | 0 => 0
  | p + 1 => if a p = true then re_ab a p ||| 2 ^ p else re_ab a p
theorem re_ab_lt (a : Nat → Bool) : ∀ n, re_ab a n < 2 ^ n
  | 0 => by simp [re_ab]
  | p + 1 => by
    have h1 := re_ab_lt a p
    have h2 : 2 ^ p < 2 ^ (p + 1) := Nat.pow_lt_pow_right (by decide) (by omega)
    unfold re_ab
    split
    · exact Nat.or_lt_two_pow (by omega) h2
    · omega
theorem re_ab_tb (a : Nat → Bool) : ∀ n p, (re_ab a n).testBit p = (decide (p < n) && a p)
  | 0, p => by simp [re_ab]
  | n + 1, p => by
    have ih := re_ab_tb a n p
    unfold re_ab
    by_cases h : a n = true
    · rw [if_pos h, Nat.testBit_or, ih, Nat.testBit_two_pow]
      by_cases e : p = n
      · subst e
        simp [h]
      · have e1 : decide (n = p) = false := decide_eq_false (fun z => e z.symm)
        rw [e1, Bool.or_false]
        congr 1
        exact decide_eq_decide.mpr ⟨fun _ => by omega, fun _ => by omega⟩
    · rw [if_neg h, ih]
      by_cases e : p = n
      · subst e
        simp [h]
      · congr 1
        exact decide_eq_decide.mpr ⟨fun _ => by omega, fun _ => by omega⟩
theorem re_ab_bit {a : Nat → Bool} {n p : Nat} (hp : p < n) : re_ab a n / 2 ^ p % 2 = 1 ↔ a p = true := by
  have h := re_ab_tb a n p
  rw [Nat.testBit_eq_decide_div_mod_eq, decide_eq_true hp, Bool.true_and] at h
  rw [← h]
  exact (decide_eq_true_iff).symm
theorem re_ab_congr {a b : Nat → Bool} : ∀ {n : Nat}, (∀ p, p < n → a p = b p) → re_ab a n = re_ab b n
  | 0, _ => rfl
  | n + 1, h => by
    unfold re_ab
    rw [re_ab_congr (n := n) (fun p hp => h p (by omega)), h n (by omega)]
theorem mo_al_refl {g P : Nat → Nat} (s : Nat) : mo_al g P s s := ⟨rfl, rfl, rfl⟩
theorem mo_al_symm {g P : Nat → Nat} {s t : Nat} (h : mo_al g P s t) : mo_al g P t s := ⟨h.1.symm, h.2.1.symm, h.2.2.symm⟩
theorem mo_al_trans {g P : Nat → Nat} {s t u : Nat} (h : mo_al g P s t) (k : mo_al g P t u) : mo_al g P s u := ⟨h.1.trans k.1, h.2.1.trans k.2.1, h.2.2.trans k.2.2⟩
theorem mo_sp_0 {g P P' f : Nat → Nat} : mo_sp 0 g P 0 P' f := ⟨⟨fun s h => by omega, fun p h => by omega, fun p q _ h => by omega⟩, fun s t h => by omega⟩
theorem mo_sp_step {s c v c' : Nat} {g P P' f P2 f2 : Nat → Nat} (h : mo_sp s g P c P' f) (hno : ∀ p, p < v → ¬ mo_al g P s (f p)) (hyes : v < c → mo_al g P s (f v)) (hP : ∀ x, x < s → P2 x = P' x) (hPs : P2 s = v) (hf : ∀ p, p < c → f2 p = f p) (hfc : v = c → f2 c = s) (hc : (v < c ∧ c' = c) ∨ (v = c ∧ c' = c + 1)) : mo_sp (s + 1) g P c' P2 f2 := by
  obtain ⟨⟨a1, a2, a3⟩, a4⟩ := h
  have key : ∀ y, y < s → (v = P' y ↔ mo_al g P s y) := by
    intro y hy
    have b1 := a1 y hy
    have b2 := a2 _ b1.1
    have b3 : mo_al g P y (f (P' y)) := (a4 y _ hy b2.1).mp b2.2.symm
    constructor
    · intro e
      have := hyes (by omega)
      rw [e] at this
      exact mo_al_trans this (mo_al_symm b3)
    · intro hal
      have h1 := mo_al_trans hal b3
      have h2 : ¬ P' y < v := fun z => hno _ z h1
      have hvc : v < c := by omega
      have h3 := hyes hvc
      have h4 := a2 v hvc
      have h5 := (a4 _ _ h4.1 b2.1).mpr (mo_al_trans (mo_al_symm h3) h1)
      rw [h4.2, b2.2] at h5
      exact h5
  refine ⟨⟨fun x hx => ?_, fun p hp => ?_, fun p q hpq hq => ?_⟩, fun x y hx hy => ?_⟩
  · by_cases e : x = s
    · subst e
      rw [hPs]
      rcases hc with ⟨c1, c2⟩ | ⟨c1, c2⟩
      · have := a2 v c1
        rw [hf v c1]
        omega
      · rw [c1, hfc c1]
        omega
    · have := a1 x (by omega)
      rw [hP x (by omega), hf _ this.1]
      omega
  · by_cases e : p = c
    · have hv : v = c := by omega
      subst e
      rw [hfc hv, hPs]
      omega
    · have h1 := a2 p (by omega)
      rw [hf p (by omega), hP _ h1.1]
      exact ⟨by omega, h1.2⟩
  · by_cases e : q = c
    · have hv : v = c := by omega
      subst e
      have := a2 p (by omega)
      rw [hfc hv, hf p (by omega)]
      exact this.1
    · rw [hf p (by omega), hf q (by omega)]
      exact a3 p q hpq (by omega)
  · by_cases e1 : x = s
    · by_cases e2 : y = s
      · rw [e1, e2]
        exact ⟨fun _ => mo_al_refl _, fun _ => rfl⟩
      · rw [e1, hPs, hP y (by omega)]
        exact key y (by omega)
    · by_cases e2 : y = s
      · rw [e2, hPs, hP x (by omega)]
        constructor
        · intro e
          exact mo_al_symm ((key x (by omega)).mp e.symm)
        · intro e
          exact ((key x (by omega)).mpr (mo_al_symm e)).symm
      · rw [hP x (by omega), hP y (by omega)]
        exact a4 x y (by omega) (by omega)
theorem mo_le {N c c' : Nat} {P f P' f' : Nat → Nat} (h : mo_fst N c P f) (h' : mo_fst N c' P' f') (hf : ∀ s t, s < N → t < N → P' s = P' t → P s = P t) : c ≤ c' :=
  le_pig c' c (fun p => P' (f p)) (fun i hi => (h'.1 _ (h.2.1 i hi).1).1) (fun i j hi hj e => by
    have := hf _ _ (h.2.1 i hi).1 (h.2.1 j hj).1 e
    rw [(h.2.1 i hi).2, (h.2.1 j hj).2] at this
    exact this)
/-- states told apart, so the language is large -/
theorem mo_big {N k m : Nat} {g A : Nat → Nat} {L : List Bool → Prop} (hn : bf_num N g) (hL : ∀ w, A (bf_run g w) = 1 ↔ L w) (hA : ∀ s, s < N → A s < 2) {u : Nat → Nat} (hu : ∀ i, i < m → u i < N) (hd : ∀ i j, i < m → j < m → mo_eq g A k (u i) (u j) → i = j) : le_big L m := by
  refine ⟨fun i => if h : u i < N then Classical.choose (bf_all hn h) else [], fun i j hi hj hx => ?_⟩
  have e1 := Classical.choose_spec (bf_all hn (hu i hi))
  have e2 := Classical.choose_spec (bf_all hn (hu j hj))
  refine hd i j hi hj (mo_tell k _ _ fun w => ?_)
  have := hx w
  simp only [hu i hi, hu j hj, dif_pos] at this
  rw [← hL, ← hL, bf_run_app, bf_run_app, e1, e2] at this
  have hg : ∀ k, k < 2 * N → g k < N := fun k hk => (hn.2.1 k hk).1
  have b1 := hA _ (bf_from_lt hg w _ (hu i hi))
  have b2 := hA _ (bf_from_lt hg w _ (hu j hj))
  omega
/-- six first states and one more that goes like none of them -/
theorem re_seven {N c : Nat} {g P P' f : Nat → Nat} (h : mo_sp N g P c P' f) (hc : c = 6) {s : Nat} (hno : ∀ p, p < 6 → ¬ mo_al g P s (f p)) : ∀ i j, i < 7 → j < 7 → mo_al g P (if i < 6 then f i else s) (if j < 6 then f j else s) → i = j := by
  subst hc
  intro i j hi hj hal
  by_cases e1 : i < 6
  · by_cases e2 : j < 6
    · simp only [e1, e2, if_true] at hal
      have a := h.1.2.1 i e1
      have b := h.1.2.1 j e2
      have := (h.2 _ _ a.1 b.1).mpr hal
      rw [a.2, b.2] at this
      exact this
    · simp only [e1, e2, if_true, if_false] at hal
      exact absurd (mo_al_symm hal) (hno i e1)
  · by_cases e2 : j < 6
    · simp only [e1, e2, if_true, if_false] at hal
      exact absurd hal (hno j e2)
    · omega
end
section
section ZNEW
variable {Δ : zv_D} {Γ : zv_C} {Q : State → Prop} {own nm : String} {cc : ByteArray} {nL : Nat} {ret : Option FieldType} {R : Room} {pc : Nat} {lv : List (Option Value)} {st : List Value} {hp : zv_M} {sz ce sl n : Nat}
theorem zn_n0 {n : Nat} (h : n < 2147483648) : ¬ nI n < 0 := fun q => by
  have := (zn_lt0 (x := n) (by omega)).mp q
  omega
theorem zn_newI (F : zv_F Δ Γ own nm cc nL ret R) (hd : decode cc pc = .ok (.newarray .int, 2)) (hn : n < 100000) (hce : ce + 1 ≤ R.cells) (hsl : sl + n ≤ R.slots) (k : ∀ hp1 : zv_M, (∀ (a : Nat) (e : va_E), hp a = some e → a < sz) → hp1 = va_up hp sz (some (zn_I Δ n (fun _ => 0))) → zv_V Δ Γ Q (pc + 2) lv (.ref sz :: st) hp1 (sz + 1) (ce + 1) (sl + n)) : zv_V Δ Γ Q pc lv (.int (nI n) :: st) hp sz ce sl :=
  zv_newa (ty := .int) (t0 := 0) (N := n) (a0 := (n, .inl (fun _ => nI 0))) F hd ka_int rfl rfl (fun U h => h) (fun cB => rfl) (zn_n0 (by omega)) (nI_clamp (by omega)) (by show n * 4 ≤ _; omega) hce hsl (fun hp1 hl e => k hp1 hl e)
theorem zn_newJ (F : zv_F Δ Γ own nm cc nL ret R) (hd : decode cc pc = .ok (.newarray .long, 2)) (hn : n < 100000) (hce : ce + 1 ≤ R.cells) (hsl : sl + n ≤ R.slots) (k : ∀ hp1 : zv_M, (∀ (a : Nat) (e : va_E), hp a = some e → a < sz) → hp1 = va_up hp sz (some (zn_J Δ n (fun _ => 0))) → zv_V Δ Γ Q (pc + 2) lv (.ref sz :: st) hp1 (sz + 1) (ce + 1) (sl + n)) : zv_V Δ Γ Q pc lv (.int (nI n) :: st) hp sz ce sl :=
  zv_newa (ty := .long) (t0 := 1) (N := n) (a0 := (n, .inr (.inl (fun _ => lN 0)))) F hd ka_long rfl rfl (fun U h => h) (fun cB => rfl) (zn_n0 (by omega)) (nI_clamp (by omega)) (by show n * 8 ≤ _; omega) hce hsl (fun hp1 hl e => k hp1 hl e)
end ZNEW
end
section
def au_at (Δ : zv_D) (hp : zv_M) (a n acc : Nat) (g : Nat → Nat) : Prop := hp a = some (.inr (0, [.int (nI n), .int (nI acc), .ref (a + 1)])) ∧ hp (a + 1) = some (zn_I Δ 12 g)
def au_ok (n acc : Nat) (g : Nat → Nat) : Prop := n ≤ 6 ∧ acc < 64 ∧ ∀ j, j < 12 → g j < 6
theorem zn_p2 {v : Nat} (h : v < 32) : 1 * 2 ^ v < 4294967296 := by
  rw [Nat.one_mul]
  exact Nat.lt_of_lt_of_le (Nat.pow_lt_pow_right (by decide) h) (by decide)
theorem au_and7 (x : Nat) : x &&& 7 = x % 8 := Nat.and_two_pow_sub_one_eq_mod x 3
theorem au_sh {v q : Nat} (hv : v < 8) (hq : q < 6) : v * 2 ^ (3 * q) < 262144 := by
  match q, hq with
  | 0, _ => omega
  | 1, _ => omega
  | 2, _ => omega
  | 3, _ => omega
  | 4, _ => omega
  | 5, _ => omega
theorem Au_step_ok {l : Launch} {Δ : zv_D} {hp : zv_M} {sz : Nat} {a n acc q c : Nat} {g : Nat → Nat} (hA : au_at Δ hp a n acc g) (hq : 2 * q + c < 12) : zv_P l Δ 0 y_Au_step b_Au_step 3 ((some (FieldType.int))) [.ref a, .int (nI q), .int (nI c)] hp sz (.int (nI (g (2 * q + c)))) := by
  refine zv_E.intro (lv0 := [some (.ref a), some (.int (nI q)), some (.int (nI c))]) rfl (Nat.le_of_ble_eq_true rfl) rfl ?_
  intro Γ hl F
  clear hl
  obtain ⟨f1, f2⟩ := hA
  refine zv_aload_n F d_Au_step_0 rfl ?_
  refine zv_get F d_Au_step_1 (by assumption) k_Au 2 (Nat.le_of_ble_eq_true rfl) ln_Au_9 rfl (by rfl) ?_
  refine zn_iconst (x := 2) F d_Au_step_4 (by decide) ?_
  refine zv_iload_n F d_Au_step_5 rfl ?_
  refine zn_imul F d_Au_step_6 ?_
  refine zv_iload_n F d_Au_step_7 rfl ?_
  refine zn_iadd F d_Au_step_8 ?_
  refine zn_iald F d_Au_step_9 (by assumption) (by omega) (by omega) ?_
  exact zv_iret F d_Au_step_10 (Nat.le_of_ble_eq_true rfl) (Nat.le_of_ble_eq_true rfl) ⟨rfl, rfl, rfl⟩
theorem Au_hasState_ok {l : Launch} {Δ : zv_D} {hp : zv_M} {sz : Nat} {a n acc x : Nat} {g : Nat → Nat} (hA : au_at Δ hp a n acc g) (hn : n ≤ 6) (hx : x < 4294967296) : zv_P l Δ 0 y_Au_hasState b_Au_hasState 2 ((some (FieldType.boolean))) [.ref a, .int (nI x)] hp sz (.int (nI (decide (x < n)).toNat)) := by
  refine zv_E.intro (lv0 := [some (.ref a), some (.int (nI x))]) rfl (Nat.le_of_ble_eq_true rfl) rfl ?_
  intro Γ hl F
  clear hl
  obtain ⟨f1, f2⟩ := hA
  refine zv_iload_n F d_Au_hasState_0 rfl ?_
  refine zn_if_lt (tgt := 16) F d_Au_hasState_1 rfl (by omega) (fun h1 => ?_) (fun h1 => ?_)
  · refine zn_iconst (x := 0) F d_Au_hasState_16 (by decide) ?_
    exact zv_zret F d_Au_hasState_17 (Nat.le_of_ble_eq_true rfl) (Nat.le_of_ble_eq_true rfl) (by first | rfl | exact zn_nb _) (by first | exact ⟨zn_bt (decide_eq_true (by omega)), rfl, rfl⟩ | exact ⟨zn_bf (decide_eq_false (by omega)), rfl, rfl⟩)
  · refine zv_iload_n F d_Au_hasState_4 rfl ?_
    refine zv_aload_n F d_Au_hasState_5 rfl ?_
    refine zv_get F d_Au_hasState_6 (by assumption) k_Au 0 (Nat.le_of_ble_eq_true rfl) ln_Au_15 rfl (by rfl) ?_
    refine zn_icmp_ge (tgt := 16) F d_Au_hasState_9 rfl (by omega) (by omega) (fun h9 => ?_) (fun h9 => ?_)
    · refine zn_iconst (x := 0) F d_Au_hasState_16 (by decide) ?_
      exact zv_zret F d_Au_hasState_17 (Nat.le_of_ble_eq_true rfl) (Nat.le_of_ble_eq_true rfl) (by first | rfl | exact zn_nb _) (by first | exact ⟨zn_bt (decide_eq_true (by omega)), rfl, rfl⟩ | exact ⟨zn_bf (decide_eq_false (by omega)), rfl, rfl⟩)
    · refine zn_iconst (x := 1) F d_Au_hasState_12 (by decide) ?_
      refine zv_goto (tgt := 17) F d_Au_hasState_13 rfl ?_
      exact zv_zret F d_Au_hasState_17 (Nat.le_of_ble_eq_true rfl) (Nat.le_of_ble_eq_true rfl) (by first | rfl | exact zn_nb _) (by first | exact ⟨zn_bt (decide_eq_true (by omega)), rfl, rfl⟩ | exact ⟨zn_bf (decide_eq_false (by omega)), rfl, rfl⟩)
theorem Au_isAccepting_ok {l : Launch} {Δ : zv_D} {hp : zv_M} {sz : Nat} {a n acc q : Nat} {g : Nat → Nat} (hA : au_at Δ hp a n acc g) (ha : acc < 64) (hq : q < 32) : zv_P l Δ 0 y_Au_isAccepting b_Au_isAccepting 2 ((some (FieldType.boolean))) [.ref a, .int (nI q)] hp sz (.int (nI (decide (acc / 2 ^ q % 2 = 1)).toNat)) := by
  refine zv_E.intro (lv0 := [some (.ref a), some (.int (nI q))]) rfl (Nat.le_of_ble_eq_true rfl) rfl ?_
  intro Γ hl F
  clear hl
  obtain ⟨f1, f2⟩ := hA
  refine zv_aload_n F d_Au_isAccepting_0 rfl ?_
  refine zv_get F d_Au_isAccepting_1 (by assumption) k_Au 1 (Nat.le_of_ble_eq_true rfl) ln_Au_19 rfl (by rfl) ?_
  refine zv_iload_n F d_Au_isAccepting_4 rfl ?_
  refine zn_ishr F d_Au_isAccepting_5 (by omega) (by omega) ?_
  refine zn_iconst (x := 1) F d_Au_isAccepting_6 (by decide) ?_
  refine zn_iand F d_Au_isAccepting_7 ?_
  rw [Nat.and_one_is_mod]
  first | refine zn_bif_eq (tgt := 15) F d_Au_isAccepting_8 rfl (fun h8 => ?_) (fun h8 => ?_) | refine zn_if_eq (tgt := 15) F d_Au_isAccepting_8 rfl (by omega) (fun h8 => ?_) (fun h8 => ?_)
  · refine zn_iconst (x := 0) F d_Au_isAccepting_15 (by decide) ?_
    exact zv_zret F d_Au_isAccepting_16 (Nat.le_of_ble_eq_true rfl) (Nat.le_of_ble_eq_true rfl) (by first | rfl | exact zn_nb _) (by first | exact ⟨zn_bt (decide_eq_true (by omega)), rfl, rfl⟩ | exact ⟨zn_bf (decide_eq_false (by omega)), rfl, rfl⟩)
  · refine zn_iconst (x := 1) F d_Au_isAccepting_11 (by decide) ?_
    refine zv_goto (tgt := 16) F d_Au_isAccepting_12 rfl ?_
    exact zv_zret F d_Au_isAccepting_16 (Nat.le_of_ble_eq_true rfl) (Nat.le_of_ble_eq_true rfl) (by first | rfl | exact zn_nb _) (by first | exact ⟨zn_bt (decide_eq_true (by omega)), rfl, rfl⟩ | exact ⟨zn_bf (decide_eq_false (by omega)), rfl, rfl⟩)
theorem Au_acceptsAnyOf_ok {l : Launch} {Δ : zv_D} {hp : zv_M} {sz : Nat} {a n acc set : Nat} {g : Nat → Nat} (hA : au_at Δ hp a n acc g) (ha : acc < 64) : zv_P l Δ 0 y_Au_acceptsAnyOf b_Au_acceptsAnyOf 2 ((some (FieldType.boolean))) [.ref a, .int (nI set)] hp sz (.int (nI (decide (¬ (acc &&& set) = 0)).toNat)) := by
  refine zv_E.intro (lv0 := [some (.ref a), some (.int (nI set))]) rfl (Nat.le_of_ble_eq_true rfl) rfl ?_
  intro Γ hl F
  clear hl
  obtain ⟨f1, f2⟩ := hA
  have hb : acc &&& set ≤ acc := Nat.and_le_left
  refine zv_aload_n F d_Au_acceptsAnyOf_0 rfl ?_
  refine zv_get F d_Au_acceptsAnyOf_1 (by assumption) k_Au 1 (Nat.le_of_ble_eq_true rfl) ln_Au_19 rfl (by rfl) ?_
  refine zv_iload_n F d_Au_acceptsAnyOf_4 rfl ?_
  refine zn_iand F d_Au_acceptsAnyOf_5 ?_
  first | refine zn_bif_eq (tgt := 13) F d_Au_acceptsAnyOf_6 rfl (fun h6 => ?_) (fun h6 => ?_) | refine zn_if_eq (tgt := 13) F d_Au_acceptsAnyOf_6 rfl (by omega) (fun h6 => ?_) (fun h6 => ?_)
  · refine zn_iconst (x := 0) F d_Au_acceptsAnyOf_13 (by decide) ?_
    exact zv_zret F d_Au_acceptsAnyOf_14 (Nat.le_of_ble_eq_true rfl) (Nat.le_of_ble_eq_true rfl) (by first | rfl | exact zn_nb _) (by first | exact ⟨zn_bt (decide_eq_true h6), rfl, rfl⟩ | exact ⟨zn_bf (decide_eq_false (fun z => z h6)), rfl, rfl⟩)
  · refine zn_iconst (x := 1) F d_Au_acceptsAnyOf_9 (by decide) ?_
    refine zv_goto (tgt := 14) F d_Au_acceptsAnyOf_10 rfl ?_
    exact zv_zret F d_Au_acceptsAnyOf_14 (Nat.le_of_ble_eq_true rfl) (Nat.le_of_ble_eq_true rfl) (by first | rfl | exact zn_nb _) (by first | exact ⟨zn_bt (decide_eq_true h6), rfl, rfl⟩ | exact ⟨zn_bf (decide_eq_false (fun z => z h6)), rfl, rfl⟩)
def au_ss (g : Nat → Nat) (set c : Nat) : Nat → Nat
  | 0 => 0
  | q + 1 => if set / 2 ^ q % 2 = 1 then au_ss g set c q ||| 2 ^ g (2 * q + c) else au_ss g set c q
theorem au_ss_lt {g : Nat → Nat} (hg : ∀ j, j < 12 → g j < 6) {set c : Nat} (hc : c < 2) : ∀ n, n ≤ 6 → au_ss g set c n < 64
  | 0, _ => by simp [au_ss]
  | q + 1, h => by
    have h1 := au_ss_lt hg (set := set) hc q (by omega)
    have h2 := hg (2 * q + c) (by omega)
    unfold au_ss
    split
    · exact Nat.or_lt_two_pow (n := 6) h1 (Nat.pow_lt_pow_right (by decide) h2)
    · exact h1
theorem Au_stepSet_ok {l : Launch} {Δ : zv_D} {hp : zv_M} {sz : Nat} {a n acc set c : Nat} {g : Nat → Nat} (hA : au_at Δ hp a n acc g) (ho : au_ok n acc g) (hs : set < 128) (hc : c < 2) : zv_P l Δ 1 y_Au_stepSet b_Au_stepSet 5 ((some (FieldType.int))) [.ref a, .int (nI set), .int (nI c)] hp sz (.int (nI (au_ss g set c n))) := by
  refine zv_E.intro (lv0 := [some (.ref a), some (.int (nI set)), some (.int (nI c)), none, none]) rfl (Nat.le_of_ble_eq_true rfl) rfl ?_
  intro Γ hl F
  clear hl
  have hA' := hA
  obtain ⟨f1, f2⟩ := hA
  obtain ⟨hn, ha, hg⟩ := ho
  have loop : ∀ (m q : Nat), m = n - q → q ≤ n → zv_V Δ Γ (zv_QQ Δ Γ 0 0 (fun r hp1 sz1 => r = some (.int (nI (au_ss g set c n))) ∧ hp1 = hp ∧ sz1 = sz)) 5 [some (.ref a), some (.int (nI set)), some (.int (nI c)), some (.int (nI (au_ss g set c q))), some (.int (nI q))] [] hp sz 0 0 := by
    intro m
    induction m using Nat.strongRecOn with
    | ind m ih =>
      intro q hm hq
      refine zv_iload F d_Au_stepSet_5 rfl ?_
      refine zv_aload_n F d_Au_stepSet_7 rfl ?_
      refine zv_get F d_Au_stepSet_8 (by assumption) k_Au 0 (Nat.le_of_ble_eq_true rfl) ln_Au_15 rfl (by rfl) ?_
      refine zn_icmp_ge (tgt := 41) F d_Au_stepSet_11 rfl (by omega) (by omega) (fun h11 => ?_) (fun h11 => ?_)
      · refine zv_iload_n F d_Au_stepSet_41 rfl ?_
        exact zv_iret F d_Au_stepSet_42 (Nat.le_of_ble_eq_true rfl) (Nat.le_of_ble_eq_true rfl) ⟨zn_rt (by rw [show q = n by omega]), rfl, rfl⟩
      · refine zv_iload_n F d_Au_stepSet_14 rfl ?_
        refine zv_iload F d_Au_stepSet_15 rfl ?_
        refine zn_ishr F d_Au_stepSet_17 (by omega) (by omega) ?_
        refine zn_iconst (x := 1) F d_Au_stepSet_18 (by decide) ?_
        refine zn_iand F d_Au_stepSet_19 ?_
        rw [Nat.and_one_is_mod]
        first | refine zn_bif_eq (tgt := 35) F d_Au_stepSet_20 rfl (fun h20 => ?_) (fun h20 => ?_) | refine zn_if_eq (tgt := 35) F d_Au_stepSet_20 rfl (by omega) (fun h20 => ?_) (fun h20 => ?_)
        · have es : au_ss g set c (q + 1) = au_ss g set c q := by rw [au_ss, if_neg (by omega)]
          refine zn_iinc F d_Au_stepSet_35 rfl ?_
          simp only [zv_s1, zv_s2, zv_kill, List.set_cons_zero, List.set_cons_succ, List.getElem?_cons_zero, List.getElem?_cons_succ]
          refine zv_goto (tgt := 5) F d_Au_stepSet_38 rfl ?_
          have z := ih (n - (q + 1)) (by omega) (q + 1) rfl (by omega)
          rw [es] at z
          exact z
        · have es : au_ss g set c (q + 1) = au_ss g set c q ||| 2 ^ g (2 * q + c) := by rw [au_ss, if_pos (by omega)]
          have hv := hg (2 * q + c) (by omega)
          refine zv_iload_n F d_Au_stepSet_23 rfl ?_
          refine zn_iconst (x := 1) F d_Au_stepSet_24 (by decide) ?_
          refine zv_aload_n F d_Au_stepSet_25 rfl ?_
          refine zv_iload F d_Au_stepSet_26 rfl ?_
          refine zv_iload_n F d_Au_stepSet_28 rfl ?_
          refine zv_pV2 F rfl (by assumption) k_Au.1 d_Au_stepSet_29 (Au_step_ok hA' (by omega)) Y_Au_step Yi_Au_step Yv_Au_step ln_Au_22 ⟨(Nat.le_of_ble_eq_true rfl), (Nat.le_of_ble_eq_true rfl)⟩ (Nat.le_of_ble_eq_true rfl) ⟨(Nat.le_of_ble_eq_true rfl), (Nat.le_of_ble_eq_true rfl)⟩ ?_
          refine zn_ishl F d_Au_stepSet_32 (zn_p2 (by omega)) (by omega) ?_
          rw [Nat.one_mul]
          refine zn_ior F d_Au_stepSet_33 ?_
          refine zv_istore_n F d_Au_stepSet_34 (Nat.le_of_ble_eq_true rfl) ?_
          simp only [zv_s1, zv_s2, zv_kill, List.set_cons_zero, List.set_cons_succ, List.getElem?_cons_zero, List.getElem?_cons_succ]
          refine zn_iinc F d_Au_stepSet_35 rfl ?_
          simp only [zv_s1, zv_s2, zv_kill, List.set_cons_zero, List.set_cons_succ, List.getElem?_cons_zero, List.getElem?_cons_succ]
          refine zv_goto (tgt := 5) F d_Au_stepSet_38 rfl ?_
          have z := ih (n - (q + 1)) (by omega) (q + 1) rfl (by omega)
          rw [es] at z
          exact z
  refine zn_iconst (x := 0) F d_Au_stepSet_0 (by decide) ?_
  refine zv_istore_n F d_Au_stepSet_1 (Nat.le_of_ble_eq_true rfl) ?_
  simp only [zv_s1, zv_s2, zv_kill, List.set_cons_zero, List.set_cons_succ, List.getElem?_cons_zero, List.getElem?_cons_succ]
  refine zn_iconst (x := 0) F d_Au_stepSet_2 (by decide) ?_
  refine zv_istore F d_Au_stepSet_3 (Nat.le_of_ble_eq_true rfl) ?_
  simp only [zv_s1, zv_s2, zv_kill, List.set_cons_zero, List.set_cons_succ, List.getElem?_cons_zero, List.getElem?_cons_succ]
  exact loop _ 0 rfl (Nat.zero_le _)
/-- three bits for each state -/
def au_pk (f : Nat → Nat) : Nat → Nat
  | 0 => 0
  | q + 1 => au_pk f q ||| f q * 2 ^ (3 * q)
theorem Au_emptyWordMap_ok {l : Launch} {Δ : zv_D} {hp : zv_M} {sz : Nat} {a n acc : Nat} {g : Nat → Nat} (hA : au_at Δ hp a n acc g) (hn : n ≤ 6) : zv_P l Δ 0 y_Au_emptyWordMap b_Au_emptyWordMap 3 ((some (FieldType.int))) [.ref a] hp sz (.int (nI (au_pk (fun q => q) n))) := by
  refine zv_E.intro (lv0 := [some (.ref a), none, none]) rfl (Nat.le_of_ble_eq_true rfl) rfl ?_
  intro Γ hl F
  clear hl
  obtain ⟨f1, f2⟩ := hA
  have loop : ∀ (m q : Nat), m = n - q → q ≤ n → zv_V Δ Γ (zv_QQ Δ Γ 0 0 (fun r hp1 sz1 => r = some (.int (nI (au_pk (fun q => q) n))) ∧ hp1 = hp ∧ sz1 = sz)) 4 [some (.ref a), some (.int (nI (au_pk (fun q => q) q))), some (.int (nI q))] [] hp sz 0 0 := by
    intro m
    induction m using Nat.strongRecOn with
    | ind m ih =>
      intro q hm hq
      refine zv_iload_n F d_Au_emptyWordMap_4 rfl ?_
      refine zv_aload_n F d_Au_emptyWordMap_5 rfl ?_
      refine zv_get F d_Au_emptyWordMap_6 (by assumption) k_Au 0 (Nat.le_of_ble_eq_true rfl) ln_Au_15 rfl (by rfl) ?_
      refine zn_icmp_ge (tgt := 26) F d_Au_emptyWordMap_9 rfl (by omega) (by omega) (fun h9 => ?_) (fun h9 => ?_)
      · refine zv_iload_n F d_Au_emptyWordMap_26 rfl ?_
        exact zv_iret F d_Au_emptyWordMap_27 (Nat.le_of_ble_eq_true rfl) (Nat.le_of_ble_eq_true rfl) ⟨zn_rt (by rw [show q = n by omega]), rfl, rfl⟩
      · refine zv_iload_n F d_Au_emptyWordMap_12 rfl ?_
        refine zv_iload_n F d_Au_emptyWordMap_13 rfl ?_
        refine zn_iconst (x := 3) F d_Au_emptyWordMap_14 (by decide) ?_
        refine zv_iload_n F d_Au_emptyWordMap_15 rfl ?_
        refine zn_imul F d_Au_emptyWordMap_16 ?_
        refine zn_ishl F d_Au_emptyWordMap_17 (Nat.lt_of_lt_of_le (au_sh (by omega) (by omega)) (by decide)) (by omega) ?_
        refine zn_ior F d_Au_emptyWordMap_18 ?_
        refine zv_istore_n F d_Au_emptyWordMap_19 (Nat.le_of_ble_eq_true rfl) ?_
        simp only [zv_s1, zv_s2, zv_kill, List.set_cons_zero, List.set_cons_succ, List.getElem?_cons_zero, List.getElem?_cons_succ]
        refine zn_iinc F d_Au_emptyWordMap_20 rfl ?_
        simp only [zv_s1, zv_s2, zv_kill, List.set_cons_zero, List.set_cons_succ, List.getElem?_cons_zero, List.getElem?_cons_succ]
        refine zv_goto (tgt := 4) F d_Au_emptyWordMap_23 rfl ?_
        exact ih (n - (q + 1)) (by omega) (q + 1) rfl (by omega)
  refine zn_iconst (x := 0) F d_Au_emptyWordMap_0 (by decide) ?_
  refine zv_istore_n F d_Au_emptyWordMap_1 (Nat.le_of_ble_eq_true rfl) ?_
  simp only [zv_s1, zv_s2, zv_kill, List.set_cons_zero, List.set_cons_succ, List.getElem?_cons_zero, List.getElem?_cons_succ]
  refine zn_iconst (x := 0) F d_Au_emptyWordMap_2 (by decide) ?_
  refine zv_istore_n F d_Au_emptyWordMap_3 (Nat.le_of_ble_eq_true rfl) ?_
  simp only [zv_s1, zv_s2, zv_kill, List.set_cons_zero, List.set_cons_succ, List.getElem?_cons_zero, List.getElem?_cons_succ]
  exact loop _ 0 rfl (Nat.zero_le _)
theorem Au_stepMap_ok {l : Launch} {Δ : zv_D} {hp : zv_M} {sz : Nat} {a n acc map c : Nat} {g : Nat → Nat} (hA : au_at Δ hp a n acc g) (ho : au_ok n acc g) (hm : map < 2147483648) (hd : ∀ q, q < n → map / 2 ^ (3 * q) % 8 < 6) (hc : c < 2) : zv_P l Δ 1 y_Au_stepMap b_Au_stepMap 5 ((some (FieldType.int))) [.ref a, .int (nI map), .int (nI c)] hp sz (.int (nI (au_pk (fun q => g (2 * (map / 2 ^ (3 * q) % 8) + c)) n))) := by
  refine zv_E.intro (lv0 := [some (.ref a), some (.int (nI map)), some (.int (nI c)), none, none]) rfl (Nat.le_of_ble_eq_true rfl) rfl ?_
  intro Γ hl F
  clear hl
  have hA' := hA
  obtain ⟨f1, f2⟩ := hA
  obtain ⟨hn, ha, hg⟩ := ho
  have loop : ∀ (m q : Nat), m = n - q → q ≤ n → zv_V Δ Γ (zv_QQ Δ Γ 0 0 (fun r hp1 sz1 => r = some (.int (nI (au_pk (fun q => g (2 * (map / 2 ^ (3 * q) % 8) + c)) n))) ∧ hp1 = hp ∧ sz1 = sz)) 5 [some (.ref a), some (.int (nI map)), some (.int (nI c)), some (.int (nI (au_pk (fun q => g (2 * (map / 2 ^ (3 * q) % 8) + c)) q))), some (.int (nI q))] [] hp sz 0 0 := by
    intro m
    induction m using Nat.strongRecOn with
    | ind m ih =>
      intro q hm2 hq
      refine zv_iload F d_Au_stepMap_5 rfl ?_
      refine zv_aload_n F d_Au_stepMap_7 rfl ?_
      refine zv_get F d_Au_stepMap_8 (by assumption) k_Au 0 (Nat.le_of_ble_eq_true rfl) ln_Au_15 rfl (by rfl) ?_
      refine zn_icmp_ge (tgt := 42) F d_Au_stepMap_11 rfl (by omega) (by omega) (fun h11 => ?_) (fun h11 => ?_)
      · refine zv_iload_n F d_Au_stepMap_42 rfl ?_
        exact zv_iret F d_Au_stepMap_43 (Nat.le_of_ble_eq_true rfl) (Nat.le_of_ble_eq_true rfl) ⟨zn_rt (by rw [show q = n by omega]), rfl, rfl⟩
      · have hdq := hd q h11
        have hv := hg (2 * (map / 2 ^ (3 * q) % 8) + c) (by omega)
        refine zv_iload_n F d_Au_stepMap_14 rfl ?_
        refine zv_aload_n F d_Au_stepMap_15 rfl ?_
        refine zv_iload_n F d_Au_stepMap_16 rfl ?_
        refine zn_iconst (x := 3) F d_Au_stepMap_17 (by decide) ?_
        refine zv_iload F d_Au_stepMap_18 rfl ?_
        refine zn_imul F d_Au_stepMap_20 ?_
        refine zn_ishr F d_Au_stepMap_21 (by omega) (by omega) ?_
        refine zn_bipush (x := 7) F d_Au_stepMap_22 (by decide) ?_
        refine zn_iand F d_Au_stepMap_24 ?_
        rw [au_and7]
        refine zv_iload_n F d_Au_stepMap_25 rfl ?_
        refine zv_pV2 F rfl (by assumption) k_Au.1 d_Au_stepMap_26 (Au_step_ok hA' (by omega)) Y_Au_step Yi_Au_step Yv_Au_step ln_Au_22 ⟨(Nat.le_of_ble_eq_true rfl), (Nat.le_of_ble_eq_true rfl)⟩ (Nat.le_of_ble_eq_true rfl) ⟨(Nat.le_of_ble_eq_true rfl), (Nat.le_of_ble_eq_true rfl)⟩ ?_
        refine zn_iconst (x := 3) F d_Au_stepMap_29 (by decide) ?_
        refine zv_iload F d_Au_stepMap_30 rfl ?_
        refine zn_imul F d_Au_stepMap_32 ?_
        refine zn_ishl F d_Au_stepMap_33 (Nat.lt_of_lt_of_le (au_sh (by omega) (by omega)) (by decide)) (by omega) ?_
        refine zn_ior F d_Au_stepMap_34 ?_
        refine zv_istore_n F d_Au_stepMap_35 (Nat.le_of_ble_eq_true rfl) ?_
        simp only [zv_s1, zv_s2, zv_kill, List.set_cons_zero, List.set_cons_succ, List.getElem?_cons_zero, List.getElem?_cons_succ]
        refine zn_iinc F d_Au_stepMap_36 rfl ?_
        simp only [zv_s1, zv_s2, zv_kill, List.set_cons_zero, List.set_cons_succ, List.getElem?_cons_zero, List.getElem?_cons_succ]
        refine zv_goto (tgt := 5) F d_Au_stepMap_39 rfl ?_
        exact ih (n - (q + 1)) (by omega) (q + 1) rfl (by omega)
  refine zn_iconst (x := 0) F d_Au_stepMap_0 (by decide) ?_
  refine zv_istore_n F d_Au_stepMap_1 (Nat.le_of_ble_eq_true rfl) ?_
  simp only [zv_s1, zv_s2, zv_kill, List.set_cons_zero, List.set_cons_succ, List.getElem?_cons_zero, List.getElem?_cons_succ]
  refine zn_iconst (x := 0) F d_Au_stepMap_2 (by decide) ?_
  refine zv_istore F d_Au_stepMap_3 (Nat.le_of_ble_eq_true rfl) ?_
  simp only [zv_s1, zv_s2, zv_kill, List.set_cons_zero, List.set_cons_succ, List.getElem?_cons_zero, List.getElem?_cons_succ]
  exact loop _ 0 rfl (Nat.zero_le _)
theorem Au_isLike_ok {l : Launch} {Δ : zv_D} {hp : zv_M} {sz : Nat} {a n acc b n2 acc2 : Nat} {g g2 : Nat → Nat} (hA : au_at Δ hp a n acc g) (ho : au_ok n acc g) (hB : au_at Δ hp b n2 acc2 g2) (ho2 : au_ok n2 acc2 g2) (r0 : Bool) (hr : r0 = true ↔ n = n2 ∧ acc = acc2 ∧ ∀ s, s < 2 * n → g s = g2 s) : zv_P l Δ 0 y_Au_isLike b_Au_isLike 3 ((some (FieldType.boolean))) [.ref a, .ref b] hp sz (.int (nI r0.toNat)) := by
  refine zv_E.intro (lv0 := [some (.ref a), some (.ref b), none]) rfl (Nat.le_of_ble_eq_true rfl) rfl ?_
  intro Γ hl F
  clear hl
  obtain ⟨f1, f2⟩ := hA
  obtain ⟨f3, f4⟩ := hB
  obtain ⟨hn, ha, hg⟩ := ho
  obtain ⟨hn2, ha2, hg2⟩ := ho2
  have no : ∀ {z : Prop}, (r0 = true → z) → ¬ z → r0 = false := fun h1 h2 => by
    cases r0
    · rfl
    · exact absurd (h1 rfl) h2
  have loop : ∀ (m q : Nat), m = 2 * n - q → q ≤ 2 * n → n = n2 → acc = acc2 → (∀ s, s < q → g s = g2 s) → zv_V Δ Γ (zv_QQ Δ Γ 0 0 (fun r hp1 sz1 => r = some (.int (nI r0.toNat)) ∧ hp1 = hp ∧ sz1 = sz)) 26 [some (.ref a), some (.ref b), some (.int (nI q))] [] hp sz 0 0 := by
    intro m
    induction m using Nat.strongRecOn with
    | ind m ih =>
      intro q hm hq e1 e2 e3
      refine zv_iload_n F d_Au_isLike_26 rfl ?_
      refine zn_iconst (x := 2) F d_Au_isLike_27 (by decide) ?_
      refine zv_aload_n F d_Au_isLike_28 rfl ?_
      refine zv_get F d_Au_isLike_29 (by assumption) k_Au 0 (Nat.le_of_ble_eq_true rfl) ln_Au_15 rfl (by rfl) ?_
      refine zn_imul F d_Au_isLike_32 ?_
      refine zn_icmp_ge (tgt := 59) F d_Au_isLike_33 rfl (by omega) (by omega) (fun h33 => ?_) (fun h33 => ?_)
      · have hT := hr.mpr ⟨e1, e2, fun s hs => e3 s (by omega)⟩
        refine zn_iconst (x := 1) F d_Au_isLike_59 (by decide) ?_
        exact zv_zret F d_Au_isLike_60 (Nat.le_of_ble_eq_true rfl) (Nat.le_of_ble_eq_true rfl) (by first | rfl | exact zn_nb _) ⟨zn_bt hT, rfl, rfl⟩
      · have b1 := hg q (by omega)
        have b2 := hg2 q (by omega)
        refine zv_aload_n F d_Au_isLike_36 rfl ?_
        refine zv_get F d_Au_isLike_37 (by assumption) k_Au 2 (Nat.le_of_ble_eq_true rfl) ln_Au_9 rfl (by rfl) ?_
        refine zv_iload_n F d_Au_isLike_40 rfl ?_
        refine zn_iald F d_Au_isLike_41 (by assumption) (by omega) (by omega) ?_
        refine zv_aload_n F d_Au_isLike_42 rfl ?_
        refine zv_get F d_Au_isLike_43 (by assumption) k_Au 2 (Nat.le_of_ble_eq_true rfl) ln_Au_9 rfl (by rfl) ?_
        refine zv_iload_n F d_Au_isLike_46 rfl ?_
        refine zn_iald F d_Au_isLike_47 (by assumption) (by omega) (by omega) ?_
        refine zn_icmp_eq (tgt := 53) F d_Au_isLike_48 rfl (by omega) (by omega) (fun h48 => ?_) (fun h48 => ?_)
        · refine zn_iinc F d_Au_isLike_53 rfl ?_
          simp only [zv_s1, zv_s2, zv_kill, List.set_cons_zero, List.set_cons_succ, List.getElem?_cons_zero, List.getElem?_cons_succ]
          refine zv_goto (tgt := 26) F d_Au_isLike_56 rfl ?_
          exact ih (2 * n - (q + 1)) (by omega) (q + 1) rfl (by omega) e1 e2 (fun s hs => by by_cases h : s = q; rw [h]; assumption; exact e3 s (by omega))
        · refine zn_iconst (x := 0) F d_Au_isLike_51 (by decide) ?_
          exact zv_zret F d_Au_isLike_52 (Nat.le_of_ble_eq_true rfl) (Nat.le_of_ble_eq_true rfl) (by first | rfl | exact zn_nb _) ⟨zn_bf (no (fun h => (hr.mp h).2.2 q (by omega)) (by assumption)), rfl, rfl⟩
  refine zv_aload_n F d_Au_isLike_0 rfl ?_
  refine zv_get F d_Au_isLike_1 (by assumption) k_Au 0 (Nat.le_of_ble_eq_true rfl) ln_Au_15 rfl (by rfl) ?_
  refine zv_aload_n F d_Au_isLike_4 rfl ?_
  refine zv_get F d_Au_isLike_5 (by assumption) k_Au 0 (Nat.le_of_ble_eq_true rfl) ln_Au_15 rfl (by rfl) ?_
  refine zn_icmp_ne (tgt := 22) F d_Au_isLike_8 rfl (by omega) (by omega) (fun h8 => ?_) (fun h8 => ?_)
  · refine zn_iconst (x := 0) F d_Au_isLike_22 (by decide) ?_
    exact zv_zret F d_Au_isLike_23 (Nat.le_of_ble_eq_true rfl) (Nat.le_of_ble_eq_true rfl) (by first | rfl | exact zn_nb _) ⟨zn_bf (by first | exact no (fun h => (hr.mp h).1) (by assumption) | exact no (fun h => (hr.mp h).2.1) (by assumption)), rfl, rfl⟩
  · refine zv_aload_n F d_Au_isLike_11 rfl ?_
    refine zv_get F d_Au_isLike_12 (by assumption) k_Au 1 (Nat.le_of_ble_eq_true rfl) ln_Au_19 rfl (by rfl) ?_
    refine zv_aload_n F d_Au_isLike_15 rfl ?_
    refine zv_get F d_Au_isLike_16 (by assumption) k_Au 1 (Nat.le_of_ble_eq_true rfl) ln_Au_19 rfl (by rfl) ?_
    refine zn_icmp_eq (tgt := 24) F d_Au_isLike_19 rfl (by omega) (by omega) (fun h19 => ?_) (fun h19 => ?_)
    · refine zn_iconst (x := 0) F d_Au_isLike_24 (by decide) ?_
      refine zv_istore_n F d_Au_isLike_25 (Nat.le_of_ble_eq_true rfl) ?_
      simp only [zv_s1, zv_s2, zv_kill, List.set_cons_zero, List.set_cons_succ, List.getElem?_cons_zero, List.getElem?_cons_succ]
      exact loop _ 0 rfl (Nat.zero_le _) (by assumption) (by assumption) (fun s hs => by omega)
    · refine zn_iconst (x := 0) F d_Au_isLike_22 (by decide) ?_
      exact zv_zret F d_Au_isLike_23 (Nat.le_of_ble_eq_true rfl) (Nat.le_of_ble_eq_true rfl) (by first | rfl | exact zn_nb _) ⟨zn_bf (by first | exact no (fun h => (hr.mp h).1) (by assumption) | exact no (fun h => (hr.mp h).2.1) (by assumption)), rfl, rfl⟩
end
section
def pm_ba (k code c : Nat) : Nat := if code = 0 ∧ c = k then 1 else 2
def pm_baA (k code : Nat) : Bool := decide ((k < 2 ∧ code = 1) ∨ (k = 2 ∧ code = 0))
def pm_tb (a q : Nat) : Bool := decide (a / 2 ^ q % 2 = 1)
def pm_pa (g1 g2 : Nat → Nat) (code c : Nat) : Nat := 6 * g1 (2 * (code / 6) + c) + g2 (2 * (code % 6) + c)
def pm_paA (both : Bool) (a1 a2 code : Nat) : Bool := if both = true then (pm_tb a1 (code / 6) && pm_tb a2 (code % 6)) else (pm_tb a1 (code / 6) || pm_tb a2 (code % 6))
def pm_of (a1 p set : Nat) : Nat := 64 * p + (if a1 / 2 ^ p % 2 = 1 then set ||| 1 else set)
def pm_ch (a1 : Nat) (g1 g2 : Nat → Nat) (n2 code c : Nat) : Nat := pm_of a1 (g1 (2 * (code / 64) + c)) (au_ss g2 (code % 64) c n2)
def pm_chA (a2 code : Nat) : Bool := decide (¬ (a2 &&& (code % 64)) = 0)
def pm_sf (a s : Nat) : Nat := if ¬ (a &&& s) = 0 then s ||| 1 else s
def pm_st (a : Nat) (g : Nat → Nat) (n code c : Nat) : Nat := pm_sf a (au_ss g (if code = 64 then 1 else code) c n)
def pm_stA (a code : Nat) : Bool := decide (code = 64 ∨ ¬ (a &&& code) = 0)
def pm_in (g : Nat → Nat) (code c : Nat) : Nat := g (2 * code + c)
def pm_inA (a code : Nat) : Bool := !pm_tb a code
theorem Ba_startCode_ok {l : Launch} {Δ : zv_D} {hp : zv_M} {sz : Nat} {b : Nat} : zv_P l Δ 2 y_Ba_startCode b_Ba_startCode 1 ((some (FieldType.int))) [.ref b] hp sz (.int (nI 0)) := by
  refine zv_E.intro (lv0 := [some (.ref b)]) rfl (Nat.le_of_ble_eq_true rfl) rfl ?_
  intro Γ hl F
  clear hl
  refine zn_iconst (x := 0) F d_Ba_startCode_0 (by decide) ?_
  exact zv_iret F d_Ba_startCode_1 (Nat.le_of_ble_eq_true rfl) (Nat.le_of_ble_eq_true rfl) ⟨rfl, rfl, rfl⟩
theorem Ba_stepCode_ok {l : Launch} {Δ : zv_D} {hp : zv_M} {sz : Nat} {b k code c : Nat} (hB : hp b = some (.inr (2, [.int (nI k)]))) (hk : k < 4) (hx : code < 384) (hc : c < 2) : zv_P l Δ 2 y_Ba_stepCode b_Ba_stepCode 3 ((some (FieldType.int))) [.ref b, .int (nI code), .int (nI c)] hp sz (.int (nI (pm_ba k code c))) := by
  refine zv_E.intro (lv0 := [some (.ref b), some (.int (nI code)), some (.int (nI c))]) rfl (Nat.le_of_ble_eq_true rfl) rfl ?_
  intro Γ hl F
  clear hl
  refine zv_iload_n F d_Ba_stepCode_0 rfl ?_
  first | refine zn_bif_ne (tgt := 16) F d_Ba_stepCode_1 rfl (fun h1 => ?_) (fun h1 => ?_) | refine zn_if_ne (tgt := 16) F d_Ba_stepCode_1 rfl (by omega) (fun h1 => ?_) (fun h1 => ?_)
  · refine zn_iconst (x := 2) F d_Ba_stepCode_16 (by decide) ?_
    exact zv_iret F d_Ba_stepCode_17 (Nat.le_of_ble_eq_true rfl) (Nat.le_of_ble_eq_true rfl) ⟨zn_rt (by unfold pm_ba; first | rw [if_pos (by omega)] | rw [if_neg (by omega)]), rfl, rfl⟩
  · refine zv_iload_n F d_Ba_stepCode_4 rfl ?_
    refine zv_aload_n F d_Ba_stepCode_5 rfl ?_
    refine zv_get F d_Ba_stepCode_6 (by assumption) k_Ba 0 (Nat.le_of_ble_eq_true rfl) ln_Ba_9 rfl (by rfl) ?_
    refine zn_icmp_ne (tgt := 16) F d_Ba_stepCode_9 rfl (by omega) (by omega) (fun h9 => ?_) (fun h9 => ?_)
    · refine zn_iconst (x := 2) F d_Ba_stepCode_16 (by decide) ?_
      exact zv_iret F d_Ba_stepCode_17 (Nat.le_of_ble_eq_true rfl) (Nat.le_of_ble_eq_true rfl) ⟨zn_rt (by unfold pm_ba; first | rw [if_pos (by omega)] | rw [if_neg (by omega)]), rfl, rfl⟩
    · refine zn_iconst (x := 1) F d_Ba_stepCode_12 (by decide) ?_
      refine zv_goto (tgt := 17) F d_Ba_stepCode_13 rfl ?_
      exact zv_iret F d_Ba_stepCode_17 (Nat.le_of_ble_eq_true rfl) (Nat.le_of_ble_eq_true rfl) ⟨zn_rt (by unfold pm_ba; first | rw [if_pos (by omega)] | rw [if_neg (by omega)]), rfl, rfl⟩
theorem Ba_isAcceptingCode_ok {l : Launch} {Δ : zv_D} {hp : zv_M} {sz : Nat} {b k code : Nat} (hB : hp b = some (.inr (2, [.int (nI k)]))) (hk : k < 4) (hx : code < 384) : zv_P l Δ 2 y_Ba_isAcceptingCode b_Ba_isAcceptingCode 2 ((some (FieldType.boolean))) [.ref b, .int (nI code)] hp sz (.int (nI (pm_baA k code).toNat)) := by
  refine zv_E.intro (lv0 := [some (.ref b), some (.int (nI code))]) rfl (Nat.le_of_ble_eq_true rfl) rfl ?_
  intro Γ hl F
  clear hl
  unfold pm_baA
  refine zv_aload_n F d_Ba_isAcceptingCode_0 rfl ?_
  refine zv_get F d_Ba_isAcceptingCode_1 (by assumption) k_Ba 0 (Nat.le_of_ble_eq_true rfl) ln_Ba_9 rfl (by rfl) ?_
  refine zn_iconst (x := 2) F d_Ba_isAcceptingCode_4 (by decide) ?_
  refine zn_icmp_ge (tgt := 21) F d_Ba_isAcceptingCode_5 rfl (by omega) (by omega) (fun h5 => ?_) (fun h5 => ?_)
  · refine zv_aload_n F d_Ba_isAcceptingCode_21 rfl ?_
    refine zv_get F d_Ba_isAcceptingCode_22 (by assumption) k_Ba 0 (Nat.le_of_ble_eq_true rfl) ln_Ba_9 rfl (by rfl) ?_
    refine zn_iconst (x := 2) F d_Ba_isAcceptingCode_25 (by decide) ?_
    refine zn_icmp_ne (tgt := 37) F d_Ba_isAcceptingCode_26 rfl (by omega) (by omega) (fun h26 => ?_) (fun h26 => ?_)
    · refine zn_iconst (x := 0) F d_Ba_isAcceptingCode_37 (by decide) ?_
      exact zv_zret F d_Ba_isAcceptingCode_38 (Nat.le_of_ble_eq_true rfl) (Nat.le_of_ble_eq_true rfl) (by first | rfl | exact zn_nb _) (by first | exact ⟨zn_bt (decide_eq_true (by omega)), rfl, rfl⟩ | exact ⟨zn_bf (decide_eq_false (by omega)), rfl, rfl⟩)
    · refine zv_iload_n F d_Ba_isAcceptingCode_29 rfl ?_
      first | refine zn_bif_ne (tgt := 37) F d_Ba_isAcceptingCode_30 rfl (fun h30 => ?_) (fun h30 => ?_) | refine zn_if_ne (tgt := 37) F d_Ba_isAcceptingCode_30 rfl (by omega) (fun h30 => ?_) (fun h30 => ?_)
      · refine zn_iconst (x := 0) F d_Ba_isAcceptingCode_37 (by decide) ?_
        exact zv_zret F d_Ba_isAcceptingCode_38 (Nat.le_of_ble_eq_true rfl) (Nat.le_of_ble_eq_true rfl) (by first | rfl | exact zn_nb _) (by first | exact ⟨zn_bt (decide_eq_true (by omega)), rfl, rfl⟩ | exact ⟨zn_bf (decide_eq_false (by omega)), rfl, rfl⟩)
      · refine zn_iconst (x := 1) F d_Ba_isAcceptingCode_33 (by decide) ?_
        refine zv_goto (tgt := 38) F d_Ba_isAcceptingCode_34 rfl ?_
        exact zv_zret F d_Ba_isAcceptingCode_38 (Nat.le_of_ble_eq_true rfl) (Nat.le_of_ble_eq_true rfl) (by first | rfl | exact zn_nb _) (by first | exact ⟨zn_bt (decide_eq_true (by omega)), rfl, rfl⟩ | exact ⟨zn_bf (decide_eq_false (by omega)), rfl, rfl⟩)
  · refine zv_iload_n F d_Ba_isAcceptingCode_8 rfl ?_
    refine zn_iconst (x := 1) F d_Ba_isAcceptingCode_9 (by decide) ?_
    refine zn_icmp_ne (tgt := 17) F d_Ba_isAcceptingCode_10 rfl (by omega) (by omega) (fun h10 => ?_) (fun h10 => ?_)
    · refine zn_iconst (x := 0) F d_Ba_isAcceptingCode_17 (by decide) ?_
      refine zv_goto (tgt := 38) F d_Ba_isAcceptingCode_18 rfl ?_
      exact zv_zret F d_Ba_isAcceptingCode_38 (Nat.le_of_ble_eq_true rfl) (Nat.le_of_ble_eq_true rfl) (by first | rfl | exact zn_nb _) (by first | exact ⟨zn_bt (decide_eq_true (by omega)), rfl, rfl⟩ | exact ⟨zn_bf (decide_eq_false (by omega)), rfl, rfl⟩)
    · refine zn_iconst (x := 1) F d_Ba_isAcceptingCode_13 (by decide) ?_
      refine zv_goto (tgt := 38) F d_Ba_isAcceptingCode_14 rfl ?_
      exact zv_zret F d_Ba_isAcceptingCode_38 (Nat.le_of_ble_eq_true rfl) (Nat.le_of_ble_eq_true rfl) (by first | rfl | exact zn_nb _) (by first | exact ⟨zn_bt (decide_eq_true (by omega)), rfl, rfl⟩ | exact ⟨zn_bf (decide_eq_false (by omega)), rfl, rfl⟩)
theorem Pa_startCode_ok {l : Launch} {Δ : zv_D} {hp : zv_M} {sz : Nat} {b : Nat} : zv_P l Δ 2 y_Pa_startCode b_Pa_startCode 1 ((some (FieldType.int))) [.ref b] hp sz (.int (nI 0)) := by
  refine zv_E.intro (lv0 := [some (.ref b)]) rfl (Nat.le_of_ble_eq_true rfl) rfl ?_
  intro Γ hl F
  clear hl
  refine zn_iconst (x := 0) F d_Pa_startCode_0 (by decide) ?_
  exact zv_iret F d_Pa_startCode_1 (Nat.le_of_ble_eq_true rfl) (Nat.le_of_ble_eq_true rfl) ⟨rfl, rfl, rfl⟩
theorem Pa_stepCode_ok {l : Launch} {Δ : zv_D} {hp : zv_M} {sz : Nat} {b a1 a2 n1 n2 c1 c2 code c : Nat} {both : Bool} {g1 g2 : Nat → Nat} (hB : hp b = some (.inr (3, [.ref a1, .ref a2, .int (nI both.toNat)]))) (hA1 : au_at Δ hp a1 n1 c1 g1) (hA2 : au_at Δ hp a2 n2 c2 g2) (hx : code < 36) (hc : c < 2) : zv_P l Δ 2 y_Pa_stepCode b_Pa_stepCode 5 ((some (FieldType.int))) [.ref b, .int (nI code), .int (nI c)] hp sz (.int (nI (pm_pa g1 g2 code c))) := by
  refine zv_E.intro (lv0 := [some (.ref b), some (.int (nI code)), some (.int (nI c)), none, none]) rfl (Nat.le_of_ble_eq_true rfl) rfl ?_
  intro Γ hl F
  clear hl
  have f1 := hA1.1
  have f2 := hA2.1
  refine zv_aload_n F d_Pa_stepCode_0 rfl ?_
  refine zv_get F d_Pa_stepCode_1 (by assumption) k_Pa 0 (Nat.le_of_ble_eq_true rfl) ln_Pa_9 rfl (by rfl) ?_
  refine zv_iload_n F d_Pa_stepCode_4 rfl ?_
  refine zn_bipush (x := 6) F d_Pa_stepCode_5 (by decide) ?_
  refine zn_idiv F d_Pa_stepCode_7 (by omega) (by omega) (by omega) ?_
  refine zv_iload_n F d_Pa_stepCode_8 rfl ?_
  refine zv_pV2 F rfl (by assumption) k_Au.1 d_Pa_stepCode_9 (Au_step_ok hA1 (by omega)) Y_Au_step Yi_Au_step Yv_Au_step ln_Pa_22 ⟨(Nat.le_of_ble_eq_true rfl), (Nat.le_of_ble_eq_true rfl)⟩ (Nat.le_of_ble_eq_true rfl) ⟨(Nat.le_of_ble_eq_true rfl), (Nat.le_of_ble_eq_true rfl)⟩ ?_
  refine zv_istore_n F d_Pa_stepCode_12 (Nat.le_of_ble_eq_true rfl) ?_
  simp only [zv_s1, zv_s2, zv_kill, List.set_cons_zero, List.set_cons_succ, List.getElem?_cons_zero, List.getElem?_cons_succ]
  refine zv_aload_n F d_Pa_stepCode_13 rfl ?_
  refine zv_get F d_Pa_stepCode_14 (by assumption) k_Pa 1 (Nat.le_of_ble_eq_true rfl) ln_Pa_15 rfl (by rfl) ?_
  refine zv_iload_n F d_Pa_stepCode_17 rfl ?_
  refine zn_bipush (x := 6) F d_Pa_stepCode_18 (by decide) ?_
  refine zn_irem F d_Pa_stepCode_20 (by omega) (by omega) (by omega) ?_
  refine zv_iload_n F d_Pa_stepCode_21 rfl ?_
  refine zv_pV2 F rfl (by assumption) k_Au.1 d_Pa_stepCode_22 (Au_step_ok hA2 (by omega)) Y_Au_step Yi_Au_step Yv_Au_step ln_Pa_22 ⟨(Nat.le_of_ble_eq_true rfl), (Nat.le_of_ble_eq_true rfl)⟩ (Nat.le_of_ble_eq_true rfl) ⟨(Nat.le_of_ble_eq_true rfl), (Nat.le_of_ble_eq_true rfl)⟩ ?_
  refine zv_istore F d_Pa_stepCode_25 (Nat.le_of_ble_eq_true rfl) ?_
  simp only [zv_s1, zv_s2, zv_kill, List.set_cons_zero, List.set_cons_succ, List.getElem?_cons_zero, List.getElem?_cons_succ]
  refine zn_bipush (x := 6) F d_Pa_stepCode_27 (by decide) ?_
  refine zv_iload_n F d_Pa_stepCode_29 rfl ?_
  refine zn_imul F d_Pa_stepCode_30 ?_
  refine zv_iload F d_Pa_stepCode_31 rfl ?_
  refine zn_iadd F d_Pa_stepCode_33 ?_
  exact zv_iret F d_Pa_stepCode_34 (Nat.le_of_ble_eq_true rfl) (Nat.le_of_ble_eq_true rfl) ⟨rfl, rfl, rfl⟩
theorem Pa_isAcceptingCode_ok {l : Launch} {Δ : zv_D} {hp : zv_M} {sz : Nat} {b a1 a2 n1 n2 c1 c2 code : Nat} {both : Bool} {g1 g2 : Nat → Nat} (hB : hp b = some (.inr (3, [.ref a1, .ref a2, .int (nI both.toNat)]))) (hA1 : au_at Δ hp a1 n1 c1 g1) (hA2 : au_at Δ hp a2 n2 c2 g2) (hc1 : c1 < 64) (hc2 : c2 < 64) (hx : code < 36) : zv_P l Δ 2 y_Pa_isAcceptingCode b_Pa_isAcceptingCode 4 ((some (FieldType.boolean))) [.ref b, .int (nI code)] hp sz (.int (nI (pm_paA both c1 c2 code).toNat)) := by
  refine zv_E.intro (lv0 := [some (.ref b), some (.int (nI code)), none, none]) rfl (Nat.le_of_ble_eq_true rfl) rfl ?_
  intro Γ hl F
  clear hl
  have f1 := hA1.1
  have f2 := hA2.1
  refine zv_aload_n F d_Pa_isAcceptingCode_0 rfl ?_
  refine zv_get F d_Pa_isAcceptingCode_1 (by assumption) k_Pa 0 (Nat.le_of_ble_eq_true rfl) ln_Pa_9 rfl (by rfl) ?_
  refine zv_iload_n F d_Pa_isAcceptingCode_4 rfl ?_
  refine zn_bipush (x := 6) F d_Pa_isAcceptingCode_5 (by decide) ?_
  refine zn_idiv F d_Pa_isAcceptingCode_7 (by omega) (by omega) (by omega) ?_
  refine zv_pV1 F rfl (by assumption) k_Au.1 d_Pa_isAcceptingCode_8 (Au_isAccepting_ok hA1 hc1 (by omega)) Y_Au_isAccepting Yi_Au_isAccepting Yv_Au_isAccepting ln_Pa_28 ⟨(Nat.le_of_ble_eq_true rfl), (Nat.le_of_ble_eq_true rfl)⟩ (Nat.le_of_ble_eq_true rfl) ⟨(Nat.le_of_ble_eq_true rfl), (Nat.le_of_ble_eq_true rfl)⟩ ?_
  refine zv_istore_n F d_Pa_isAcceptingCode_11 (Nat.le_of_ble_eq_true rfl) ?_
  simp only [zv_s1, zv_s2, zv_kill, List.set_cons_zero, List.set_cons_succ, List.getElem?_cons_zero, List.getElem?_cons_succ]
  refine zv_aload_n F d_Pa_isAcceptingCode_12 rfl ?_
  refine zv_get F d_Pa_isAcceptingCode_13 (by assumption) k_Pa 1 (Nat.le_of_ble_eq_true rfl) ln_Pa_15 rfl (by rfl) ?_
  refine zv_iload_n F d_Pa_isAcceptingCode_16 rfl ?_
  refine zn_bipush (x := 6) F d_Pa_isAcceptingCode_17 (by decide) ?_
  refine zn_irem F d_Pa_isAcceptingCode_19 (by omega) (by omega) (by omega) ?_
  refine zv_pV1 F rfl (by assumption) k_Au.1 d_Pa_isAcceptingCode_20 (Au_isAccepting_ok hA2 hc2 (by omega)) Y_Au_isAccepting Yi_Au_isAccepting Yv_Au_isAccepting ln_Pa_28 ⟨(Nat.le_of_ble_eq_true rfl), (Nat.le_of_ble_eq_true rfl)⟩ (Nat.le_of_ble_eq_true rfl) ⟨(Nat.le_of_ble_eq_true rfl), (Nat.le_of_ble_eq_true rfl)⟩ ?_
  refine zv_istore_n F d_Pa_isAcceptingCode_23 (Nat.le_of_ble_eq_true rfl) ?_
  simp only [zv_s1, zv_s2, zv_kill, List.set_cons_zero, List.set_cons_succ, List.getElem?_cons_zero, List.getElem?_cons_succ]
  refine zv_aload_n F d_Pa_isAcceptingCode_24 rfl ?_
  refine zv_get F d_Pa_isAcceptingCode_25 (by assumption) k_Pa 2 (Nat.le_of_ble_eq_true rfl) ln_Pa_18 rfl (by rfl) ?_
  first | refine zn_bif_eq (tgt := 47) F d_Pa_isAcceptingCode_28 rfl (fun h28 => ?_) (fun h28 => ?_) | refine zn_if_eq (tgt := 47) F d_Pa_isAcceptingCode_28 rfl (by omega) (fun h28 => ?_) (fun h28 => ?_)
  · refine zv_iload_n F d_Pa_isAcceptingCode_47 rfl ?_
    first | refine zn_bif_ne (tgt := 55) F d_Pa_isAcceptingCode_48 rfl (fun h48 => ?_) (fun h48 => ?_) | refine zn_if_ne (tgt := 55) F d_Pa_isAcceptingCode_48 rfl (by omega) (fun h48 => ?_) (fun h48 => ?_)
    · refine zn_iconst (x := 1) F d_Pa_isAcceptingCode_55 (by decide) ?_
      refine zv_goto (tgt := 60) F d_Pa_isAcceptingCode_56 rfl ?_
      exact zv_zret F d_Pa_isAcceptingCode_60 (Nat.le_of_ble_eq_true rfl) (Nat.le_of_ble_eq_true rfl) (by first | rfl | exact zn_nb _) (by first | exact ⟨zn_bt (by simp [pm_paA, pm_tb, *]), rfl, rfl⟩ | exact ⟨zn_bf (by simp [pm_paA, pm_tb, *]), rfl, rfl⟩)
    · refine zv_iload_n F d_Pa_isAcceptingCode_51 rfl ?_
      first | refine zn_bif_eq (tgt := 59) F d_Pa_isAcceptingCode_52 rfl (fun h52 => ?_) (fun h52 => ?_) | refine zn_if_eq (tgt := 59) F d_Pa_isAcceptingCode_52 rfl (by omega) (fun h52 => ?_) (fun h52 => ?_)
      · refine zn_iconst (x := 0) F d_Pa_isAcceptingCode_59 (by decide) ?_
        exact zv_zret F d_Pa_isAcceptingCode_60 (Nat.le_of_ble_eq_true rfl) (Nat.le_of_ble_eq_true rfl) (by first | rfl | exact zn_nb _) (by first | exact ⟨zn_bt (by simp [pm_paA, pm_tb, *]), rfl, rfl⟩ | exact ⟨zn_bf (by simp [pm_paA, pm_tb, *]), rfl, rfl⟩)
      · refine zn_iconst (x := 1) F d_Pa_isAcceptingCode_55 (by decide) ?_
        refine zv_goto (tgt := 60) F d_Pa_isAcceptingCode_56 rfl ?_
        exact zv_zret F d_Pa_isAcceptingCode_60 (Nat.le_of_ble_eq_true rfl) (Nat.le_of_ble_eq_true rfl) (by first | rfl | exact zn_nb _) (by first | exact ⟨zn_bt (by simp [pm_paA, pm_tb, *]), rfl, rfl⟩ | exact ⟨zn_bf (by simp [pm_paA, pm_tb, *]), rfl, rfl⟩)
  · refine zv_iload_n F d_Pa_isAcceptingCode_31 rfl ?_
    first | refine zn_bif_eq (tgt := 43) F d_Pa_isAcceptingCode_32 rfl (fun h32 => ?_) (fun h32 => ?_) | refine zn_if_eq (tgt := 43) F d_Pa_isAcceptingCode_32 rfl (by omega) (fun h32 => ?_) (fun h32 => ?_)
    · refine zn_iconst (x := 0) F d_Pa_isAcceptingCode_43 (by decide) ?_
      refine zv_goto (tgt := 60) F d_Pa_isAcceptingCode_44 rfl ?_
      exact zv_zret F d_Pa_isAcceptingCode_60 (Nat.le_of_ble_eq_true rfl) (Nat.le_of_ble_eq_true rfl) (by first | rfl | exact zn_nb _) (by first | exact ⟨zn_bt (by simp [pm_paA, pm_tb, *]), rfl, rfl⟩ | exact ⟨zn_bf (by simp [pm_paA, pm_tb, *]), rfl, rfl⟩)
    · refine zv_iload_n F d_Pa_isAcceptingCode_35 rfl ?_
      first | refine zn_bif_eq (tgt := 43) F d_Pa_isAcceptingCode_36 rfl (fun h36 => ?_) (fun h36 => ?_) | refine zn_if_eq (tgt := 43) F d_Pa_isAcceptingCode_36 rfl (by omega) (fun h36 => ?_) (fun h36 => ?_)
      · refine zn_iconst (x := 0) F d_Pa_isAcceptingCode_43 (by decide) ?_
        refine zv_goto (tgt := 60) F d_Pa_isAcceptingCode_44 rfl ?_
        exact zv_zret F d_Pa_isAcceptingCode_60 (Nat.le_of_ble_eq_true rfl) (Nat.le_of_ble_eq_true rfl) (by first | rfl | exact zn_nb _) (by first | exact ⟨zn_bt (by simp [pm_paA, pm_tb, *]), rfl, rfl⟩ | exact ⟨zn_bf (by simp [pm_paA, pm_tb, *]), rfl, rfl⟩)
      · refine zn_iconst (x := 1) F d_Pa_isAcceptingCode_39 (by decide) ?_
        refine zv_goto (tgt := 60) F d_Pa_isAcceptingCode_40 rfl ?_
        exact zv_zret F d_Pa_isAcceptingCode_60 (Nat.le_of_ble_eq_true rfl) (Nat.le_of_ble_eq_true rfl) (by first | rfl | exact zn_nb _) (by first | exact ⟨zn_bt (by simp [pm_paA, pm_tb, *]), rfl, rfl⟩ | exact ⟨zn_bf (by simp [pm_paA, pm_tb, *]), rfl, rfl⟩)
theorem Ch_codeOf_ok {l : Launch} {Δ : zv_D} {hp : zv_M} {sz : Nat} {b a1 a2 n1 c1 p set : Nat} {g1 : Nat → Nat} (hB : hp b = some (.inr (4, [.ref a1, .ref a2]))) (hA1 : au_at Δ hp a1 n1 c1 g1) (hc1 : c1 < 64) (hp6 : p < 6) : zv_P l Δ 1 y_Ch_codeOf b_Ch_codeOf 4 ((some (FieldType.int))) [.ref b, .int (nI p), .int (nI set)] hp sz (.int (nI (pm_of c1 p set))) := by
  refine zv_E.intro (lv0 := [some (.ref b), some (.int (nI p)), some (.int (nI set)), none]) rfl (Nat.le_of_ble_eq_true rfl) rfl ?_
  intro Γ hl F
  clear hl
  have f1 := hA1.1
  refine zv_aload_n F d_Ch_codeOf_0 rfl ?_
  refine zv_get F d_Ch_codeOf_1 (by assumption) k_Ch 0 (Nat.le_of_ble_eq_true rfl) ln_Ch_9 rfl (by rfl) ?_
  refine zv_iload_n F d_Ch_codeOf_4 rfl ?_
  refine zv_pV1 F rfl (by assumption) k_Au.1 d_Ch_codeOf_5 (Au_isAccepting_ok hA1 hc1 (by omega)) Y_Au_isAccepting Yi_Au_isAccepting Yv_Au_isAccepting ln_Ch_34 ⟨(Nat.le_of_ble_eq_true rfl), (Nat.le_of_ble_eq_true rfl)⟩ (Nat.le_of_ble_eq_true rfl) ⟨(Nat.le_of_ble_eq_true rfl), (Nat.le_of_ble_eq_true rfl)⟩ ?_
  first | refine zn_bif_eq (tgt := 17) F d_Ch_codeOf_8 rfl (fun h8 => ?_) (fun h8 => ?_) | refine zn_if_eq (tgt := 17) F d_Ch_codeOf_8 rfl (by omega) (fun h8 => ?_) (fun h8 => ?_)
  · refine zv_iload_n F d_Ch_codeOf_17 rfl ?_
    refine zv_istore_n F d_Ch_codeOf_18 (Nat.le_of_ble_eq_true rfl) ?_
    simp only [zv_s1, zv_s2, zv_kill, List.set_cons_zero, List.set_cons_succ, List.getElem?_cons_zero, List.getElem?_cons_succ]
    refine zn_bipush (x := 64) F d_Ch_codeOf_19 (by decide) ?_
    refine zv_iload_n F d_Ch_codeOf_21 rfl ?_
    refine zn_imul F d_Ch_codeOf_22 ?_
    refine zv_iload_n F d_Ch_codeOf_23 rfl ?_
    refine zn_iadd F d_Ch_codeOf_24 ?_
    exact zv_iret F d_Ch_codeOf_25 (Nat.le_of_ble_eq_true rfl) (Nat.le_of_ble_eq_true rfl) ⟨zn_rt (by unfold pm_of; first | rw [if_pos (of_decide_eq_true h8)] | rw [if_neg (of_decide_eq_false h8)]), rfl, rfl⟩
  · refine zv_iload_n F d_Ch_codeOf_11 rfl ?_
    refine zn_iconst (x := 1) F d_Ch_codeOf_12 (by decide) ?_
    refine zn_ior F d_Ch_codeOf_13 ?_
    refine zv_goto (tgt := 18) F d_Ch_codeOf_14 rfl ?_
    refine zv_istore_n F d_Ch_codeOf_18 (Nat.le_of_ble_eq_true rfl) ?_
    simp only [zv_s1, zv_s2, zv_kill, List.set_cons_zero, List.set_cons_succ, List.getElem?_cons_zero, List.getElem?_cons_succ]
    refine zn_bipush (x := 64) F d_Ch_codeOf_19 (by decide) ?_
    refine zv_iload_n F d_Ch_codeOf_21 rfl ?_
    refine zn_imul F d_Ch_codeOf_22 ?_
    refine zv_iload_n F d_Ch_codeOf_23 rfl ?_
    refine zn_iadd F d_Ch_codeOf_24 ?_
    exact zv_iret F d_Ch_codeOf_25 (Nat.le_of_ble_eq_true rfl) (Nat.le_of_ble_eq_true rfl) ⟨zn_rt (by unfold pm_of; first | rw [if_pos (of_decide_eq_true h8)] | rw [if_neg (of_decide_eq_false h8)]), rfl, rfl⟩
theorem Ch_startCode_ok {l : Launch} {Δ : zv_D} {hp : zv_M} {sz : Nat} {b a1 a2 n1 c1 : Nat} {g1 : Nat → Nat} (hB : hp b = some (.inr (4, [.ref a1, .ref a2]))) (hA1 : au_at Δ hp a1 n1 c1 g1) (hc1 : c1 < 64) : zv_P l Δ 2 y_Ch_startCode b_Ch_startCode 1 ((some (FieldType.int))) [.ref b] hp sz (.int (nI (pm_of c1 0 0))) := by
  refine zv_E.intro (lv0 := [some (.ref b)]) rfl (Nat.le_of_ble_eq_true rfl) rfl ?_
  intro Γ hl F
  clear hl
  refine zv_aload_n F d_Ch_startCode_0 rfl ?_
  refine zn_iconst (x := 0) F d_Ch_startCode_1 (by decide) ?_
  refine zn_iconst (x := 0) F d_Ch_startCode_2 (by decide) ?_
  refine zv_pV2 F rfl (by assumption) k_Ch.1 d_Ch_startCode_3 (Ch_codeOf_ok hB hA1 hc1 (by decide)) Y_Ch_codeOf Yi_Ch_codeOf Yv_Ch_codeOf ln_Ch_18 ⟨(Nat.le_of_ble_eq_true rfl), (Nat.le_of_ble_eq_true rfl)⟩ (Nat.le_of_ble_eq_true rfl) ⟨(Nat.le_of_ble_eq_true rfl), (Nat.le_of_ble_eq_true rfl)⟩ ?_
  exact zv_iret F d_Ch_startCode_6 (Nat.le_of_ble_eq_true rfl) (Nat.le_of_ble_eq_true rfl) ⟨rfl, rfl, rfl⟩
theorem Ch_stepCode_ok {l : Launch} {Δ : zv_D} {hp : zv_M} {sz : Nat} {b a1 a2 n1 n2 c1 c2 code c : Nat} {g1 g2 : Nat → Nat} (hB : hp b = some (.inr (4, [.ref a1, .ref a2]))) (hA1 : au_at Δ hp a1 n1 c1 g1) (ho1 : au_ok n1 c1 g1) (hA2 : au_at Δ hp a2 n2 c2 g2) (ho2 : au_ok n2 c2 g2) (hx : code < 384) (hc : c < 2) : zv_P l Δ 2 y_Ch_stepCode b_Ch_stepCode 5 ((some (FieldType.int))) [.ref b, .int (nI code), .int (nI c)] hp sz (.int (nI (pm_ch c1 g1 g2 n2 code c))) := by
  refine zv_E.intro (lv0 := [some (.ref b), some (.int (nI code)), some (.int (nI c)), none, none]) rfl (Nat.le_of_ble_eq_true rfl) rfl ?_
  intro Γ hl F
  clear hl
  have f1 := hA1.1
  have f2 := hA2.1
  have h1 := ho1.2.2 (2 * (code / 64) + c) (by omega)
  refine zv_aload_n F d_Ch_stepCode_0 rfl ?_
  refine zv_get F d_Ch_stepCode_1 (by assumption) k_Ch 0 (Nat.le_of_ble_eq_true rfl) ln_Ch_9 rfl (by rfl) ?_
  refine zv_iload_n F d_Ch_stepCode_4 rfl ?_
  refine zn_bipush (x := 64) F d_Ch_stepCode_5 (by decide) ?_
  refine zn_idiv F d_Ch_stepCode_7 (by omega) (by omega) (by omega) ?_
  refine zv_iload_n F d_Ch_stepCode_8 rfl ?_
  refine zv_pV2 F rfl (by assumption) k_Au.1 d_Ch_stepCode_9 (Au_step_ok hA1 (by omega)) Y_Au_step Yi_Au_step Yv_Au_step ln_Ch_22 ⟨(Nat.le_of_ble_eq_true rfl), (Nat.le_of_ble_eq_true rfl)⟩ (Nat.le_of_ble_eq_true rfl) ⟨(Nat.le_of_ble_eq_true rfl), (Nat.le_of_ble_eq_true rfl)⟩ ?_
  refine zv_istore_n F d_Ch_stepCode_12 (Nat.le_of_ble_eq_true rfl) ?_
  simp only [zv_s1, zv_s2, zv_kill, List.set_cons_zero, List.set_cons_succ, List.getElem?_cons_zero, List.getElem?_cons_succ]
  refine zv_aload_n F d_Ch_stepCode_13 rfl ?_
  refine zv_get F d_Ch_stepCode_14 (by assumption) k_Ch 1 (Nat.le_of_ble_eq_true rfl) ln_Ch_15 rfl (by rfl) ?_
  refine zv_iload_n F d_Ch_stepCode_17 rfl ?_
  refine zn_bipush (x := 64) F d_Ch_stepCode_18 (by decide) ?_
  refine zn_irem F d_Ch_stepCode_20 (by omega) (by omega) (by omega) ?_
  refine zv_iload_n F d_Ch_stepCode_21 rfl ?_
  refine zv_pV2 F rfl (by assumption) k_Au.1 d_Ch_stepCode_22 (Au_stepSet_ok hA2 ho2 (by omega) hc) Y_Au_stepSet Yi_Au_stepSet Yv_Au_stepSet ln_Ch_27 ⟨(Nat.le_of_ble_eq_true rfl), (Nat.le_of_ble_eq_true rfl)⟩ (Nat.le_of_ble_eq_true rfl) ⟨(Nat.le_of_ble_eq_true rfl), (Nat.le_of_ble_eq_true rfl)⟩ ?_
  refine zv_istore F d_Ch_stepCode_25 (Nat.le_of_ble_eq_true rfl) ?_
  simp only [zv_s1, zv_s2, zv_kill, List.set_cons_zero, List.set_cons_succ, List.getElem?_cons_zero, List.getElem?_cons_succ]
  refine zv_aload_n F d_Ch_stepCode_27 rfl ?_
  refine zv_iload_n F d_Ch_stepCode_28 rfl ?_
  refine zv_iload F d_Ch_stepCode_29 rfl ?_
  refine zv_pV2 F rfl (by assumption) k_Ch.1 d_Ch_stepCode_31 (Ch_codeOf_ok hB hA1 ho1.2.1 h1) Y_Ch_codeOf Yi_Ch_codeOf Yv_Ch_codeOf ln_Ch_18 ⟨(Nat.le_of_ble_eq_true rfl), (Nat.le_of_ble_eq_true rfl)⟩ (Nat.le_of_ble_eq_true rfl) ⟨(Nat.le_of_ble_eq_true rfl), (Nat.le_of_ble_eq_true rfl)⟩ ?_
  exact zv_iret F d_Ch_stepCode_34 (Nat.le_of_ble_eq_true rfl) (Nat.le_of_ble_eq_true rfl) ⟨rfl, rfl, rfl⟩
theorem Ch_isAcceptingCode_ok {l : Launch} {Δ : zv_D} {hp : zv_M} {sz : Nat} {b a1 a2 n2 c2 code : Nat} {g2 : Nat → Nat} (hB : hp b = some (.inr (4, [.ref a1, .ref a2]))) (hA2 : au_at Δ hp a2 n2 c2 g2) (hc2 : c2 < 64) (hx : code < 384) : zv_P l Δ 2 y_Ch_isAcceptingCode b_Ch_isAcceptingCode 2 ((some (FieldType.boolean))) [.ref b, .int (nI code)] hp sz (.int (nI (pm_chA c2 code).toNat)) := by
  refine zv_E.intro (lv0 := [some (.ref b), some (.int (nI code))]) rfl (Nat.le_of_ble_eq_true rfl) rfl ?_
  intro Γ hl F
  clear hl
  have f2 := hA2.1
  refine zv_aload_n F d_Ch_isAcceptingCode_0 rfl ?_
  refine zv_get F d_Ch_isAcceptingCode_1 (by assumption) k_Ch 1 (Nat.le_of_ble_eq_true rfl) ln_Ch_15 rfl (by rfl) ?_
  refine zv_iload_n F d_Ch_isAcceptingCode_4 rfl ?_
  refine zn_bipush (x := 64) F d_Ch_isAcceptingCode_5 (by decide) ?_
  refine zn_irem F d_Ch_isAcceptingCode_7 (by omega) (by omega) (by omega) ?_
  refine zv_pV1 F rfl (by assumption) k_Au.1 d_Ch_isAcceptingCode_8 (Au_acceptsAnyOf_ok hA2 hc2) Y_Au_acceptsAnyOf Yi_Au_acceptsAnyOf Yv_Au_acceptsAnyOf ln_Ch_30 ⟨(Nat.le_of_ble_eq_true rfl), (Nat.le_of_ble_eq_true rfl)⟩ (Nat.le_of_ble_eq_true rfl) ⟨(Nat.le_of_ble_eq_true rfl), (Nat.le_of_ble_eq_true rfl)⟩ ?_
  exact zv_zret F d_Ch_isAcceptingCode_11 (Nat.le_of_ble_eq_true rfl) (Nat.le_of_ble_eq_true rfl) (by first | rfl | exact zn_nb _) ⟨rfl, rfl, rfl⟩
theorem St_startCode_ok {l : Launch} {Δ : zv_D} {hp : zv_M} {sz : Nat} {b : Nat} : zv_P l Δ 2 y_St_startCode b_St_startCode 1 ((some (FieldType.int))) [.ref b] hp sz (.int (nI 64)) := by
  refine zv_E.intro (lv0 := [some (.ref b)]) rfl (Nat.le_of_ble_eq_true rfl) rfl ?_
  intro Γ hl F
  clear hl
  refine zn_bipush (x := 64) F d_St_startCode_0 (by decide) ?_
  exact zv_iret F d_St_startCode_2 (Nat.le_of_ble_eq_true rfl) (Nat.le_of_ble_eq_true rfl) ⟨rfl, rfl, rfl⟩
theorem St_stepCode_ok {l : Launch} {Δ : zv_D} {hp : zv_M} {sz : Nat} {b a n acc code c : Nat} {g : Nat → Nat} (hB : hp b = some (.inr (5, [.ref a]))) (hA : au_at Δ hp a n acc g) (ho : au_ok n acc g) (hx : code ≤ 64) (hc : c < 2) : zv_P l Δ 2 y_St_stepCode b_St_stepCode 4 ((some (FieldType.int))) [.ref b, .int (nI code), .int (nI c)] hp sz (.int (nI (pm_st acc g n code c))) := by
  refine zv_E.intro (lv0 := [some (.ref b), some (.int (nI code)), some (.int (nI c)), none]) rfl (Nat.le_of_ble_eq_true rfl) rfl ?_
  intro Γ hl F
  clear hl
  have f1 := hA.1
  refine zv_aload_n F d_St_stepCode_0 rfl ?_
  refine zv_get F d_St_stepCode_1 (by assumption) k_St 0 (Nat.le_of_ble_eq_true rfl) ln_St_9 rfl (by rfl) ?_
  refine zv_iload_n F d_St_stepCode_4 rfl ?_
  refine zn_bipush (x := 64) F d_St_stepCode_5 (by decide) ?_
  refine zn_icmp_ne (tgt := 14) F d_St_stepCode_7 rfl (by omega) (by omega) (fun h7 => ?_) (fun h7 => ?_)
  · have es : (if code = 64 then 1 else code) = code := if_neg h7
    refine zv_iload_n F d_St_stepCode_14 rfl ?_
    refine zv_iload_n F d_St_stepCode_15 rfl ?_
    refine zv_pV2 F rfl (by assumption) k_Au.1 d_St_stepCode_16 (Au_stepSet_ok hA ho (by omega) hc) Y_Au_stepSet Yi_Au_stepSet Yv_Au_stepSet ln_St_15 ⟨(Nat.le_of_ble_eq_true rfl), (Nat.le_of_ble_eq_true rfl)⟩ (Nat.le_of_ble_eq_true rfl) ⟨(Nat.le_of_ble_eq_true rfl), (Nat.le_of_ble_eq_true rfl)⟩ ?_
    refine zv_istore_n F d_St_stepCode_19 (Nat.le_of_ble_eq_true rfl) ?_
    simp only [zv_s1, zv_s2, zv_kill, List.set_cons_zero, List.set_cons_succ, List.getElem?_cons_zero, List.getElem?_cons_succ]
    refine zv_aload_n F d_St_stepCode_20 rfl ?_
    refine zv_get F d_St_stepCode_21 (by assumption) k_St 0 (Nat.le_of_ble_eq_true rfl) ln_St_9 rfl (by rfl) ?_
    refine zv_iload_n F d_St_stepCode_24 rfl ?_
    refine zv_pV1 F rfl (by assumption) k_Au.1 d_St_stepCode_25 (Au_acceptsAnyOf_ok hA ho.2.1) Y_Au_acceptsAnyOf Yi_Au_acceptsAnyOf Yv_Au_acceptsAnyOf ln_St_21 ⟨(Nat.le_of_ble_eq_true rfl), (Nat.le_of_ble_eq_true rfl)⟩ (Nat.le_of_ble_eq_true rfl) ⟨(Nat.le_of_ble_eq_true rfl), (Nat.le_of_ble_eq_true rfl)⟩ ?_
    first | refine zn_bif_eq (tgt := 37) F d_St_stepCode_28 rfl (fun h28 => ?_) (fun h28 => ?_) | refine zn_if_eq (tgt := 37) F d_St_stepCode_28 rfl (by omega) (fun h28 => ?_) (fun h28 => ?_)
    · refine zv_iload_n F d_St_stepCode_37 rfl ?_
      exact zv_iret F d_St_stepCode_38 (Nat.le_of_ble_eq_true rfl) (Nat.le_of_ble_eq_true rfl) ⟨zn_rt (by unfold pm_st pm_sf; rw [es]; first | rw [if_pos (of_decide_eq_true h28)] | rw [if_neg (of_decide_eq_false h28)]), rfl, rfl⟩
    · refine zv_iload_n F d_St_stepCode_31 rfl ?_
      refine zn_iconst (x := 1) F d_St_stepCode_32 (by decide) ?_
      refine zn_ior F d_St_stepCode_33 ?_
      refine zv_goto (tgt := 38) F d_St_stepCode_34 rfl ?_
      exact zv_iret F d_St_stepCode_38 (Nat.le_of_ble_eq_true rfl) (Nat.le_of_ble_eq_true rfl) ⟨zn_rt (by unfold pm_st pm_sf; rw [es]; first | rw [if_pos (of_decide_eq_true h28)] | rw [if_neg (of_decide_eq_false h28)]), rfl, rfl⟩
  · have es : (if code = 64 then 1 else code) = 1 := if_pos h7
    refine zn_iconst (x := 1) F d_St_stepCode_10 (by decide) ?_
    refine zv_goto (tgt := 15) F d_St_stepCode_11 rfl ?_
    refine zv_iload_n F d_St_stepCode_15 rfl ?_
    refine zv_pV2 F rfl (by assumption) k_Au.1 d_St_stepCode_16 (Au_stepSet_ok hA ho (by omega) hc) Y_Au_stepSet Yi_Au_stepSet Yv_Au_stepSet ln_St_15 ⟨(Nat.le_of_ble_eq_true rfl), (Nat.le_of_ble_eq_true rfl)⟩ (Nat.le_of_ble_eq_true rfl) ⟨(Nat.le_of_ble_eq_true rfl), (Nat.le_of_ble_eq_true rfl)⟩ ?_
    refine zv_istore_n F d_St_stepCode_19 (Nat.le_of_ble_eq_true rfl) ?_
    simp only [zv_s1, zv_s2, zv_kill, List.set_cons_zero, List.set_cons_succ, List.getElem?_cons_zero, List.getElem?_cons_succ]
    refine zv_aload_n F d_St_stepCode_20 rfl ?_
    refine zv_get F d_St_stepCode_21 (by assumption) k_St 0 (Nat.le_of_ble_eq_true rfl) ln_St_9 rfl (by rfl) ?_
    refine zv_iload_n F d_St_stepCode_24 rfl ?_
    refine zv_pV1 F rfl (by assumption) k_Au.1 d_St_stepCode_25 (Au_acceptsAnyOf_ok hA ho.2.1) Y_Au_acceptsAnyOf Yi_Au_acceptsAnyOf Yv_Au_acceptsAnyOf ln_St_21 ⟨(Nat.le_of_ble_eq_true rfl), (Nat.le_of_ble_eq_true rfl)⟩ (Nat.le_of_ble_eq_true rfl) ⟨(Nat.le_of_ble_eq_true rfl), (Nat.le_of_ble_eq_true rfl)⟩ ?_
    first | refine zn_bif_eq (tgt := 37) F d_St_stepCode_28 rfl (fun h28 => ?_) (fun h28 => ?_) | refine zn_if_eq (tgt := 37) F d_St_stepCode_28 rfl (by omega) (fun h28 => ?_) (fun h28 => ?_)
    · refine zv_iload_n F d_St_stepCode_37 rfl ?_
      exact zv_iret F d_St_stepCode_38 (Nat.le_of_ble_eq_true rfl) (Nat.le_of_ble_eq_true rfl) ⟨zn_rt (by unfold pm_st pm_sf; rw [es]; first | rw [if_pos (of_decide_eq_true h28)] | rw [if_neg (of_decide_eq_false h28)]), rfl, rfl⟩
    · refine zv_iload_n F d_St_stepCode_31 rfl ?_
      refine zn_iconst (x := 1) F d_St_stepCode_32 (by decide) ?_
      refine zn_ior F d_St_stepCode_33 ?_
      refine zv_goto (tgt := 38) F d_St_stepCode_34 rfl ?_
      exact zv_iret F d_St_stepCode_38 (Nat.le_of_ble_eq_true rfl) (Nat.le_of_ble_eq_true rfl) ⟨zn_rt (by unfold pm_st pm_sf; rw [es]; first | rw [if_pos (of_decide_eq_true h28)] | rw [if_neg (of_decide_eq_false h28)]), rfl, rfl⟩
theorem St_isAcceptingCode_ok {l : Launch} {Δ : zv_D} {hp : zv_M} {sz : Nat} {b a n acc code : Nat} {g : Nat → Nat} (hB : hp b = some (.inr (5, [.ref a]))) (hA : au_at Δ hp a n acc g) (ha : acc < 64) (hx : code ≤ 64) : zv_P l Δ 2 y_St_isAcceptingCode b_St_isAcceptingCode 2 ((some (FieldType.boolean))) [.ref b, .int (nI code)] hp sz (.int (nI (pm_stA acc code).toNat)) := by
  refine zv_E.intro (lv0 := [some (.ref b), some (.int (nI code))]) rfl (Nat.le_of_ble_eq_true rfl) rfl ?_
  intro Γ hl F
  clear hl
  have f1 := hA.1
  refine zv_iload_n F d_St_isAcceptingCode_0 rfl ?_
  refine zn_bipush (x := 64) F d_St_isAcceptingCode_1 (by decide) ?_
  refine zn_icmp_eq (tgt := 17) F d_St_isAcceptingCode_3 rfl (by omega) (by omega) (fun h3 => ?_) (fun h3 => ?_)
  · refine zn_iconst (x := 1) F d_St_isAcceptingCode_17 (by decide) ?_
    refine zv_goto (tgt := 22) F d_St_isAcceptingCode_18 rfl ?_
    exact zv_zret F d_St_isAcceptingCode_22 (Nat.le_of_ble_eq_true rfl) (Nat.le_of_ble_eq_true rfl) (by first | rfl | exact zn_nb _) (by first | exact ⟨zn_bt (decide_eq_true (Or.inl h3)), rfl, rfl⟩ | exact ⟨zn_bt (decide_eq_true (Or.inr (of_decide_eq_true h14))), rfl, rfl⟩ | exact ⟨zn_bf (decide_eq_false (fun z => z.elim h3 (of_decide_eq_false h14))), rfl, rfl⟩)
  · refine zv_aload_n F d_St_isAcceptingCode_6 rfl ?_
    refine zv_get F d_St_isAcceptingCode_7 (by assumption) k_St 0 (Nat.le_of_ble_eq_true rfl) ln_St_9 rfl (by rfl) ?_
    refine zv_iload_n F d_St_isAcceptingCode_10 rfl ?_
    refine zv_pV1 F rfl (by assumption) k_Au.1 d_St_isAcceptingCode_11 (Au_acceptsAnyOf_ok hA ha) Y_Au_acceptsAnyOf Yi_Au_acceptsAnyOf Yv_Au_acceptsAnyOf ln_St_21 ⟨(Nat.le_of_ble_eq_true rfl), (Nat.le_of_ble_eq_true rfl)⟩ (Nat.le_of_ble_eq_true rfl) ⟨(Nat.le_of_ble_eq_true rfl), (Nat.le_of_ble_eq_true rfl)⟩ ?_
    first | refine zn_bif_eq (tgt := 21) F d_St_isAcceptingCode_14 rfl (fun h14 => ?_) (fun h14 => ?_) | refine zn_if_eq (tgt := 21) F d_St_isAcceptingCode_14 rfl (by omega) (fun h14 => ?_) (fun h14 => ?_)
    · refine zn_iconst (x := 0) F d_St_isAcceptingCode_21 (by decide) ?_
      exact zv_zret F d_St_isAcceptingCode_22 (Nat.le_of_ble_eq_true rfl) (Nat.le_of_ble_eq_true rfl) (by first | rfl | exact zn_nb _) (by first | exact ⟨zn_bt (decide_eq_true (Or.inl h3)), rfl, rfl⟩ | exact ⟨zn_bt (decide_eq_true (Or.inr (of_decide_eq_true h14))), rfl, rfl⟩ | exact ⟨zn_bf (decide_eq_false (fun z => z.elim h3 (of_decide_eq_false h14))), rfl, rfl⟩)
    · refine zn_iconst (x := 1) F d_St_isAcceptingCode_17 (by decide) ?_
      refine zv_goto (tgt := 22) F d_St_isAcceptingCode_18 rfl ?_
      exact zv_zret F d_St_isAcceptingCode_22 (Nat.le_of_ble_eq_true rfl) (Nat.le_of_ble_eq_true rfl) (by first | rfl | exact zn_nb _) (by first | exact ⟨zn_bt (decide_eq_true (Or.inl h3)), rfl, rfl⟩ | exact ⟨zn_bt (decide_eq_true (Or.inr (of_decide_eq_true h14))), rfl, rfl⟩ | exact ⟨zn_bf (decide_eq_false (fun z => z.elim h3 (of_decide_eq_false h14))), rfl, rfl⟩)
theorem In_startCode_ok {l : Launch} {Δ : zv_D} {hp : zv_M} {sz : Nat} {b : Nat} : zv_P l Δ 2 y_In_startCode b_In_startCode 1 ((some (FieldType.int))) [.ref b] hp sz (.int (nI 0)) := by
  refine zv_E.intro (lv0 := [some (.ref b)]) rfl (Nat.le_of_ble_eq_true rfl) rfl ?_
  intro Γ hl F
  clear hl
  refine zn_iconst (x := 0) F d_In_startCode_0 (by decide) ?_
  exact zv_iret F d_In_startCode_1 (Nat.le_of_ble_eq_true rfl) (Nat.le_of_ble_eq_true rfl) ⟨rfl, rfl, rfl⟩
theorem In_stepCode_ok {l : Launch} {Δ : zv_D} {hp : zv_M} {sz : Nat} {b a n acc code c : Nat} {g : Nat → Nat} (hB : hp b = some (.inr (6, [.ref a]))) (hA : au_at Δ hp a n acc g) (hx : code < 6) (hc : c < 2) : zv_P l Δ 2 y_In_stepCode b_In_stepCode 3 ((some (FieldType.int))) [.ref b, .int (nI code), .int (nI c)] hp sz (.int (nI (pm_in g code c))) := by
  refine zv_E.intro (lv0 := [some (.ref b), some (.int (nI code)), some (.int (nI c))]) rfl (Nat.le_of_ble_eq_true rfl) rfl ?_
  intro Γ hl F
  clear hl
  have f1 := hA.1
  refine zv_aload_n F d_In_stepCode_0 rfl ?_
  refine zv_get F d_In_stepCode_1 (by assumption) k_In 0 (Nat.le_of_ble_eq_true rfl) ln_In_7 rfl (by rfl) ?_
  refine zv_iload_n F d_In_stepCode_4 rfl ?_
  refine zv_iload_n F d_In_stepCode_5 rfl ?_
  refine zv_pV2 F rfl (by assumption) k_Au.1 d_In_stepCode_6 (Au_step_ok hA (by omega)) Y_Au_step Yi_Au_step Yv_Au_step ln_In_13 ⟨(Nat.le_of_ble_eq_true rfl), (Nat.le_of_ble_eq_true rfl)⟩ (Nat.le_of_ble_eq_true rfl) ⟨(Nat.le_of_ble_eq_true rfl), (Nat.le_of_ble_eq_true rfl)⟩ ?_
  exact zv_iret F d_In_stepCode_9 (Nat.le_of_ble_eq_true rfl) (Nat.le_of_ble_eq_true rfl) ⟨rfl, rfl, rfl⟩
theorem In_isAcceptingCode_ok {l : Launch} {Δ : zv_D} {hp : zv_M} {sz : Nat} {b a n acc code : Nat} {g : Nat → Nat} (hB : hp b = some (.inr (6, [.ref a]))) (hA : au_at Δ hp a n acc g) (ha : acc < 64) (hx : code < 6) : zv_P l Δ 2 y_In_isAcceptingCode b_In_isAcceptingCode 2 ((some (FieldType.boolean))) [.ref b, .int (nI code)] hp sz (.int (nI (pm_inA acc code).toNat)) := by
  refine zv_E.intro (lv0 := [some (.ref b), some (.int (nI code))]) rfl (Nat.le_of_ble_eq_true rfl) rfl ?_
  intro Γ hl F
  clear hl
  have f1 := hA.1
  refine zv_aload_n F d_In_isAcceptingCode_0 rfl ?_
  refine zv_get F d_In_isAcceptingCode_1 (by assumption) k_In 0 (Nat.le_of_ble_eq_true rfl) ln_In_7 rfl (by rfl) ?_
  refine zv_iload_n F d_In_isAcceptingCode_4 rfl ?_
  refine zv_pV1 F rfl (by assumption) k_Au.1 d_In_isAcceptingCode_5 (Au_isAccepting_ok hA ha (by omega)) Y_Au_isAccepting Yi_Au_isAccepting Yv_Au_isAccepting ln_In_19 ⟨(Nat.le_of_ble_eq_true rfl), (Nat.le_of_ble_eq_true rfl)⟩ (Nat.le_of_ble_eq_true rfl) ⟨(Nat.le_of_ble_eq_true rfl), (Nat.le_of_ble_eq_true rfl)⟩ ?_
  first | refine zn_bif_ne (tgt := 15) F d_In_isAcceptingCode_8 rfl (fun h8 => ?_) (fun h8 => ?_) | refine zn_if_ne (tgt := 15) F d_In_isAcceptingCode_8 rfl (by omega) (fun h8 => ?_) (fun h8 => ?_)
  · refine zn_iconst (x := 0) F d_In_isAcceptingCode_15 (by decide) ?_
    exact zv_zret F d_In_isAcceptingCode_16 (Nat.le_of_ble_eq_true rfl) (Nat.le_of_ble_eq_true rfl) (by first | rfl | exact zn_nb _) (by first | exact ⟨zn_bt (by simp [pm_inA, pm_tb, *]), rfl, rfl⟩ | exact ⟨zn_bf (by simp [pm_inA, pm_tb, *]), rfl, rfl⟩)
  · refine zn_iconst (x := 1) F d_In_isAcceptingCode_11 (by decide) ?_
    refine zv_goto (tgt := 16) F d_In_isAcceptingCode_12 rfl ?_
    exact zv_zret F d_In_isAcceptingCode_16 (Nat.le_of_ble_eq_true rfl) (Nat.le_of_ble_eq_true rfl) (by first | rfl | exact zn_nb _) (by first | exact ⟨zn_bt (by simp [pm_inA, pm_tb, *]), rfl, rfl⟩ | exact ⟨zn_bf (by simp [pm_inA, pm_tb, *]), rfl, rfl⟩)
end
section
def x_start : MethodName := ⟨"LetterAlgebra$Machine", "startCode", "()I"⟩
def x_step : MethodName := ⟨"LetterAlgebra$Machine", "stepCode", "(II)I"⟩
def x_acc : MethodName := ⟨"LetterAlgebra$Machine", "isAcceptingCode", "(I)Z"⟩
/-- an interface call that is pure -/
def mc_call (l : Launch) (Δ : zv_D) (x : MethodName) (ret : Option FieldType) (n : Nat) (hp : zv_M) (b : Nat) (As : List Value) (sz : Nat) (v : Value) : Prop :=
  ∃ (C : String) (y : MethodName) (bytes : ByteArray) (maxL ci N : Nat) (T : u_T) (fs : List Value), (C, x, y) ∈ zp_F ∧ Cond.instanceMethod y ∈ zp_G ∧ Cond.selects C x y ∈ zp_G ∧ hp b = some (.inr (ci, fs)) ∧ zp_classes[ci]? = some (C, T, N) ∧ zv_y y bytes maxL ret n ∧ maxL ≤ 8 ∧ zv_P l Δ 2 y bytes maxL ret (.ref b :: As) hp sz v
theorem zv_callM {Δ : zv_D} {Γ : zv_C} {Q : State → Prop} {own nm : String} {cc : ByteArray} {nL : Nat} {ret : Option FieldType} {R : Room} {pc : Nat} {lv : List (Option Value)} {hp : zv_M} {sz ce sl : Nat} {x : MethodName} {n index count b : Nat} {ret1 : Option FieldType} {As rest st : List Value} {v : Value}
    (F : zv_F Δ Γ own nm cc nL ret R) (hlv : lv.length = nL) (hd : decode cc pc = .ok (.invokeinterface index count, 5)) (E : mc_call Γ.2.1 Δ x ret1 n hp b As sz v) (hlk : Cond.methodLink own index x ∈ zp_G) (hxd : x.cls ≠ "java/lang/invoke/MethodHandle" ∧ x.cls ≠ "java/lang/invoke/VarHandle" ∧ (parseMethodDescriptor x.desc).map (fun d => d.parameters.length) = some n) (hn : As.length = n) (hst : As.reverse ++ .ref b :: rest = st) (hroom : 3 ≤ R.frames ∧ 105 ≤ R.locals) (hrest : (rest.map fun v => v.category).sum ≤ 8) (hf : ce ≤ R.cells ∧ sl ≤ R.slots) (k : zv_V Δ Γ Q (pc + 5) lv (v :: rest) hp sz ce sl) : zv_V Δ Γ Q pc lv st hp sz ce sl := by
  obtain ⟨C, y, bytes, maxL, ci, N, T, fs, h1, h2, h3, h4, h5, h6, h7, E⟩ := E
  subst hst
  exact zv_callF F hlv hd E h6 h1 h2 h3 hlk hxd h4 h5 hn ⟨hroom.1, by omega⟩ hrest hf (fun r hp1 sz1 q => by obtain ⟨rfl, rfl, rfl⟩ := q; exact k)
/-- a machine at b: it reads the cells of S alone -/
def mc_M (Δ : zv_D) (hp : zv_M) (b : Nat) (S : Nat → Prop) (δ : Nat → Nat → Nat) (ac : Nat → Bool) (s0 : Nat) (Bd : Nat → Prop) : Prop :=
  (Bd s0 ∧ (∀ code, Bd code → code < 384) ∧ ∀ code c, Bd code → c < 2 → Bd (δ code c)) ∧ ∀ (l : Launch) (hp' : zv_M) (sz : Nat), (∀ q, S q → hp' q = hp q) →
    mc_call l Δ x_start (some .int) 0 hp' b [] sz (.int (nI s0)) ∧ (∀ code c, Bd code → c < 2 → mc_call l Δ x_step (some .int) 2 hp' b [.int (nI code), .int (nI c)] sz (.int (nI (δ code c)))) ∧ ∀ code, Bd code → mc_call l Δ x_acc (some .boolean) 1 hp' b [.int (nI code)] sz (.int (nI (ac code).toNat))
theorem mc_M.moved {Δ : zv_D} {hp hp1 : zv_M} {b : Nat} {S : Nat → Prop} {δ : Nat → Nat → Nat} {ac : Nat → Bool} {s0 : Nat} {Bd : Nat → Prop} (h : mc_M Δ hp b S δ ac s0 Bd) (e : ∀ q, S q → hp1 q = hp q) : mc_M Δ hp1 b S δ ac s0 Bd :=
  ⟨h.1, fun l hp' sz h2 => h.2 l hp' sz (fun q hq => (h2 q hq).trans (e q hq))⟩
theorem mc_ba {Δ : zv_D} {hp : zv_M} {b k : Nat} (hB : hp b = some (.inr (2, [.int (nI k)]))) (hk : k < 4) : mc_M Δ hp b (fun q => q = b) (pm_ba k) (pm_baA k) 0 (fun code => code < 3) := by
  refine ⟨⟨by decide, fun code h => by omega, fun code c _ _ => by unfold pm_ba; split <;> omega⟩, fun l hp' sz h => ?_⟩
  have hB' := (h b rfl).trans hB
  exact ⟨⟨_, _, _, _, _, _, _, _, Ff_Ba_startCode, Yi_Ba_startCode, Fs_Ba_startCode, hB', k_Ba.1, Y_Ba_startCode, by decide, Ba_startCode_ok⟩,
    fun code c h1 h2 => ⟨_, _, _, _, _, _, _, _, Ff_Ba_stepCode, Yi_Ba_stepCode, Fs_Ba_stepCode, hB', k_Ba.1, Y_Ba_stepCode, by decide, Ba_stepCode_ok hB' hk (by omega) h2⟩,
    fun code h1 => ⟨_, _, _, _, _, _, _, _, Ff_Ba_isAcceptingCode, Yi_Ba_isAcceptingCode, Fs_Ba_isAcceptingCode, hB', k_Ba.1, Y_Ba_isAcceptingCode, by decide, Ba_isAcceptingCode_ok hB' hk (by omega)⟩⟩
theorem au_at.moved {Δ : zv_D} {hp hp1 : zv_M} {a n acc : Nat} {g : Nat → Nat} (h : au_at Δ hp a n acc g) (e1 : hp1 a = hp a) (e2 : hp1 (a + 1) = hp (a + 1)) : au_at Δ hp1 a n acc g := ⟨e1.trans h.1, e2.trans h.2⟩
theorem mc_pa {Δ : zv_D} {hp : zv_M} {b a1 a2 n1 n2 c1 c2 : Nat} {both : Bool} {g1 g2 : Nat → Nat} (hB : hp b = some (.inr (3, [.ref a1, .ref a2, .int (nI both.toNat)]))) (hA1 : au_at Δ hp a1 n1 c1 g1) (ho1 : au_ok n1 c1 g1) (hA2 : au_at Δ hp a2 n2 c2 g2) (ho2 : au_ok n2 c2 g2) : mc_M Δ hp b (fun q => q = b ∨ q = a1 ∨ q = a1 + 1 ∨ q = a2 ∨ q = a2 + 1) (pm_pa g1 g2) (pm_paA both c1 c2) 0 (fun code => code < 36) := by
  refine ⟨⟨by decide, fun code h => by omega, fun code c h1 h2 => ?_⟩, fun l hp' sz h => ?_⟩
  · have q1 := ho1.2.2 (2 * (code / 6) + c) (by omega)
    have q2 := ho2.2.2 (2 * (code % 6) + c) (by omega)
    unfold pm_pa
    omega
  have hB' := (h b (Or.inl rfl)).trans hB
  have hA1' := hA1.moved (h a1 (by omega)) (h (a1 + 1) (by omega))
  have hA2' := hA2.moved (h a2 (by omega)) (h (a2 + 1) (by omega))
  exact ⟨⟨_, _, _, _, _, _, _, _, Ff_Pa_startCode, Yi_Pa_startCode, Fs_Pa_startCode, hB', k_Pa.1, Y_Pa_startCode, by decide, Pa_startCode_ok⟩,
    fun code c h1 h2 => ⟨_, _, _, _, _, _, _, _, Ff_Pa_stepCode, Yi_Pa_stepCode, Fs_Pa_stepCode, hB', k_Pa.1, Y_Pa_stepCode, by decide, Pa_stepCode_ok hB' hA1' hA2' h1 h2⟩,
    fun code h1 => ⟨_, _, _, _, _, _, _, _, Ff_Pa_isAcceptingCode, Yi_Pa_isAcceptingCode, Fs_Pa_isAcceptingCode, hB', k_Pa.1, Y_Pa_isAcceptingCode, by decide, Pa_isAcceptingCode_ok hB' hA1' hA2' ho1.2.1 ho2.2.1 h1⟩⟩
theorem pm_or1 {s : Nat} (h : s < 64) : s ||| 1 < 64 := Nat.or_lt_two_pow (n := 6) h (by decide)
theorem pm_of_lt {a p set : Nat} (hp6 : p < 6) (hs : set < 64) : pm_of a p set < 384 := by
  have := pm_or1 hs
  unfold pm_of
  split <;> omega
theorem mc_ch {Δ : zv_D} {hp : zv_M} {b a1 a2 n1 n2 c1 c2 : Nat} {g1 g2 : Nat → Nat} (hB : hp b = some (.inr (4, [.ref a1, .ref a2]))) (hA1 : au_at Δ hp a1 n1 c1 g1) (ho1 : au_ok n1 c1 g1) (hA2 : au_at Δ hp a2 n2 c2 g2) (ho2 : au_ok n2 c2 g2) : mc_M Δ hp b (fun q => q = b ∨ q = a1 ∨ q = a1 + 1 ∨ q = a2 ∨ q = a2 + 1) (pm_ch c1 g1 g2 n2) (pm_chA c2) (pm_of c1 0 0) (fun code => code < 384) := by
  refine ⟨⟨pm_of_lt (by decide) (by decide), fun code h => h, fun code c h1 h2 => pm_of_lt (ho1.2.2 (2 * (code / 64) + c) (by omega)) (au_ss_lt ho2.2.2 h2 n2 ho2.1)⟩, fun l hp' sz h => ?_⟩
  have hB' := (h b (Or.inl rfl)).trans hB
  have hA1' := hA1.moved (h a1 (by omega)) (h (a1 + 1) (by omega))
  have hA2' := hA2.moved (h a2 (by omega)) (h (a2 + 1) (by omega))
  exact ⟨⟨_, _, _, _, _, _, _, _, Ff_Ch_startCode, Yi_Ch_startCode, Fs_Ch_startCode, hB', k_Ch.1, Y_Ch_startCode, by decide, Ch_startCode_ok hB' hA1' ho1.2.1⟩,
    fun code c h1 h2 => ⟨_, _, _, _, _, _, _, _, Ff_Ch_stepCode, Yi_Ch_stepCode, Fs_Ch_stepCode, hB', k_Ch.1, Y_Ch_stepCode, by decide, Ch_stepCode_ok hB' hA1' ho1 hA2' ho2 h1 h2⟩,
    fun code h1 => ⟨_, _, _, _, _, _, _, _, Ff_Ch_isAcceptingCode, Yi_Ch_isAcceptingCode, Fs_Ch_isAcceptingCode, hB', k_Ch.1, Y_Ch_isAcceptingCode, by decide, Ch_isAcceptingCode_ok hB' hA2' ho2.2.1 h1⟩⟩
theorem pm_sf_lt {a s : Nat} (hs : s < 64) : pm_sf a s < 64 := by
  have := pm_or1 hs
  unfold pm_sf
  split <;> omega
theorem mc_st {Δ : zv_D} {hp : zv_M} {b a n acc : Nat} {g : Nat → Nat} (hB : hp b = some (.inr (5, [.ref a]))) (hA : au_at Δ hp a n acc g) (ho : au_ok n acc g) : mc_M Δ hp b (fun q => q = b ∨ q = a ∨ q = a + 1) (pm_st acc g n) (pm_stA acc) 64 (fun code => code ≤ 64) := by
  refine ⟨⟨by decide, fun code h => by omega, fun code c h1 h2 => Nat.le_of_lt (pm_sf_lt (au_ss_lt ho.2.2 h2 n ho.1))⟩, fun l hp' sz h => ?_⟩
  have hB' := (h b (Or.inl rfl)).trans hB
  have hA' := hA.moved (h a (by omega)) (h (a + 1) (by omega))
  exact ⟨⟨_, _, _, _, _, _, _, _, Ff_St_startCode, Yi_St_startCode, Fs_St_startCode, hB', k_St.1, Y_St_startCode, by decide, St_startCode_ok⟩,
    fun code c h1 h2 => ⟨_, _, _, _, _, _, _, _, Ff_St_stepCode, Yi_St_stepCode, Fs_St_stepCode, hB', k_St.1, Y_St_stepCode, by decide, St_stepCode_ok hB' hA' ho h1 h2⟩,
    fun code h1 => ⟨_, _, _, _, _, _, _, _, Ff_St_isAcceptingCode, Yi_St_isAcceptingCode, Fs_St_isAcceptingCode, hB', k_St.1, Y_St_isAcceptingCode, by decide, St_isAcceptingCode_ok hB' hA' ho.2.1 h1⟩⟩
theorem mc_in {Δ : zv_D} {hp : zv_M} {b a n acc : Nat} {g : Nat → Nat} (hB : hp b = some (.inr (6, [.ref a]))) (hA : au_at Δ hp a n acc g) (ho : au_ok n acc g) : mc_M Δ hp b (fun q => q = b ∨ q = a ∨ q = a + 1) (pm_in g) (pm_inA acc) 0 (fun code => code < 6) := by
  refine ⟨⟨by decide, fun code h => by omega, fun code c h1 h2 => ho.2.2 (2 * code + c) (by omega)⟩, fun l hp' sz h => ?_⟩
  have hB' := (h b (Or.inl rfl)).trans hB
  have hA' := hA.moved (h a (by omega)) (h (a + 1) (by omega))
  exact ⟨⟨_, _, _, _, _, _, _, _, Ff_In_startCode, Yi_In_startCode, Fs_In_startCode, hB', k_In.1, Y_In_startCode, by decide, In_startCode_ok⟩,
    fun code c h1 h2 => ⟨_, _, _, _, _, _, _, _, Ff_In_stepCode, Yi_In_stepCode, Fs_In_stepCode, hB', k_In.1, Y_In_stepCode, by decide, In_stepCode_ok hB' hA' h1 h2⟩,
    fun code h1 => ⟨_, _, _, _, _, _, _, _, Ff_In_isAcceptingCode, Yi_In_isAcceptingCode, Fs_In_isAcceptingCode, hB', k_In.1, Y_In_isAcceptingCode, by decide, In_isAcceptingCode_ok hB' hA' ho.2.1 h1⟩⟩
end
section
theorem Ar_fill_ok {l : Launch} {Δ : zv_D} {hp : zv_M} {sz : Nat} {a n v : Nat} {g : Nat → Nat} (f1 : hp a = some (zn_I Δ n g)) (hn : n < 2147483648) : zv_E l Δ 0 y_Ar_fill b_Ar_fill 4 (none) [.ref a, .int (nI v)] hp sz 0 0 (fun r hp1 sz1 => ∃ g1 : Nat → Nat, r = none ∧ sz1 = sz ∧ hp1 a = some (zn_I Δ n g1) ∧ (∀ j, j < n → g1 j = v) ∧ ∀ b, b ≠ a → hp1 b = hp b) := by
  refine zv_E.intro (lv0 := [some (.ref a), some (.int (nI v)), none, none]) rfl (Nat.le_of_ble_eq_true rfl) rfl ?_
  intro Γ hl F
  clear hl
  have loop : ∀ (m i : Nat) (h' : zv_M) (g1 : Nat → Nat), m = n - i → i ≤ n → h' a = some (zn_I Δ n g1) → (∀ j, j < i → g1 j = v) → (∀ b, b ≠ a → h' b = hp b) → zv_V Δ Γ (zv_QQ Δ Γ 0 0 (fun r hp1 sz1 => ∃ g1 : Nat → Nat, r = none ∧ sz1 = sz ∧ hp1 a = some (zn_I Δ n g1) ∧ (∀ j, j < n → g1 j = v) ∧ ∀ b, b ≠ a → hp1 b = hp b)) 5 [some (.ref a), some (.int (nI v)), some (.int (nI i)), some (.int (nI n))] [] h' sz 0 0 := by
    intro m
    induction m using Nat.strongRecOn with
    | ind m ih =>
      intro i h' g1 hm hi f1 hg fr
      refine zv_iload_n F d_Ar_fill_5 rfl ?_
      refine zv_iload_n F d_Ar_fill_6 rfl ?_
      refine zn_icmp_ge (tgt := 20) F d_Ar_fill_7 rfl (by omega) (by omega) (fun h7 => ?_) (fun h7 => ?_)
      · exact zv_vret F d_Ar_fill_20 (Nat.le_of_ble_eq_true rfl) (Nat.le_of_ble_eq_true rfl) ⟨g1, rfl, rfl, f1, fun j hj => hg j (by omega), fr⟩
      · refine zv_aload_n F d_Ar_fill_10 rfl ?_
        refine zv_iload_n F d_Ar_fill_11 rfl ?_
        refine zv_iload_n F d_Ar_fill_12 rfl ?_
        refine zn_iast F d_Ar_fill_13 (by assumption) (by omega) (by omega) (fun hp13 e13 => ?_)
        replace f1 := zv_eq e13
        replace fr := fun b hb => (zv_ne (b := b) e13 (by omega)).trans (fr b hb)
        refine zn_iinc F d_Ar_fill_14 rfl ?_
        simp only [zv_s1, zv_s2, zv_kill, List.set_cons_zero, List.set_cons_succ, List.getElem?_cons_zero, List.getElem?_cons_succ]
        refine zv_goto (tgt := 5) F d_Ar_fill_17 rfl ?_
        exact zv_weak (by repeat' (first | exact True.intro | refine And.intro rfl ?_)) (ih (n - (i + 1)) (by omega) (i + 1) _ _ rfl (by omega) f1 (fun j hj => by by_cases e : j = i; simp [va_up, e]; simp only [va_up, e, if_false]; exact hg j (by omega)) fr)
  refine zn_iconst (x := 0) F d_Ar_fill_0 (by decide) ?_
  refine zv_istore_n F d_Ar_fill_1 (Nat.le_of_ble_eq_true rfl) ?_
  simp only [zv_s1, zv_s2, zv_kill, List.set_cons_zero, List.set_cons_succ, List.getElem?_cons_zero, List.getElem?_cons_succ]
  refine zv_aload_n F d_Ar_fill_2 rfl ?_
  refine zn_alen F d_Ar_fill_3 f1 ?_
  refine zv_istore_n F d_Ar_fill_4 (Nat.le_of_ble_eq_true rfl) ?_
  simp only [zv_s1, zv_s2, zv_kill, List.set_cons_zero, List.set_cons_succ, List.getElem?_cons_zero, List.getElem?_cons_succ]
  exact zv_weak (by repeat' (first | exact True.intro | refine And.intro rfl ?_)) (loop _ 0 _ _ rfl (Nat.zero_le _) f1 (fun j hj => by omega) (fun b _ => rfl))
def re_obj (o N pA pB : Nat) : va_E := .inr (7, [.ref (o + 1), .ref (o + 2), .ref (o + 3), .int (nI N), .ref pA, .ref pB, .ref (o + 6)])
def re_inv (N : Nat) (nc cd : Nat → Nat) : Prop := N ≤ 384 ∧ (∀ x, x < 384 → nc x = 4294967295 ∨ (nc x < N ∧ cd (nc x) = x)) ∧ ∀ s, s < N → cd s < 384 ∧ nc (cd s) = s
theorem re_inv_new {N x : Nat} {nc cd : Nat → Nat} (h : re_inv N nc cd) (hx : x < 384) (hn : nc x = 4294967295) : N < 384 ∧ re_inv (N + 1) (va_up nc x N) (va_up cd N x) := by
  obtain ⟨h1, h2, h3⟩ := h
  have ne : ∀ s, s < N → cd s ≠ x := fun s hs e => by
    have := (h3 s hs).2
    rw [e, hn] at this
    omega
  have hlt : N < 384 := le_pig 384 (N + 1) (va_up cd N x) (fun i hi => by
      by_cases e : i = N
      · simp only [va_up, e, if_true]; exact hx
      · simp only [va_up, e, if_false]; exact (h3 i (by omega)).1) (fun i j hi hj e => by
      by_cases ei : i = N
      · by_cases ej : j = N
        · omega
        · simp only [va_up, ei, ej, if_true, if_false] at e
          exact absurd e.symm (ne j (by omega))
      · by_cases ej : j = N
        · simp only [va_up, ei, ej, if_true, if_false] at e
          exact absurd e (ne i (by omega))
        · simp only [va_up, ei, ej, if_false] at e
          have q := (h3 i (by omega)).2
          rw [e, (h3 j (by omega)).2] at q
          exact q.symm)
  refine ⟨hlt, by omega, fun y hy => ?_, fun s hs => ?_⟩
  · by_cases e : y = x
    · right
      simp [va_up, e]
    · simp only [va_up, e, if_false]
      rcases h2 y hy with q | q
      · exact Or.inl q
      · right
        have e2 : nc y ≠ N := by omega
        simp only [e2, if_false]
        exact ⟨by omega, q.2⟩
  · by_cases e : s = N
    · simp [va_up, e]
      exact hx
    · have q := h3 s (by omega)
      have e2 := ne s (by omega)
      simp only [va_up, e, e2, if_false]
      exact q
theorem Re_numberFor_ok {l : Launch} {Δ : zv_D} {hp : zv_M} {sz : Nat} {o N pA pB x : Nat} {nc cd : Nat → Nat} (f0 : hp o = some (re_obj o N pA pB)) (f1 : hp (o + 1) = some (zn_I Δ 384 nc)) (f2 : hp (o + 2) = some (zn_I Δ 384 cd)) (hi : re_inv N nc cd) (hx : x < 384) : zv_E l Δ 0 y_Re_numberFor b_Re_numberFor 2 ((some (FieldType.int))) [.ref o, .int (nI x)] hp sz 0 0 (fun r hp1 sz1 => ∃ (v N1 : Nat) (nc1 cd1 : Nat → Nat), r = some (.int (nI v)) ∧ sz1 = sz ∧ hp1 o = some (re_obj o N1 pA pB) ∧ hp1 (o + 1) = some (zn_I Δ 384 nc1) ∧ hp1 (o + 2) = some (zn_I Δ 384 cd1) ∧ re_inv N1 nc1 cd1 ∧ (∀ s, s < N → cd1 s = cd s) ∧ cd1 v = x ∧ ((v < N ∧ N1 = N) ∨ (v = N ∧ N1 = N + 1)) ∧ ∀ b, b ≠ o ∧ b ≠ o + 1 ∧ b ≠ o + 2 → hp1 b = hp b) := by
  refine zv_E.intro (lv0 := [some (.ref o), some (.int (nI x))]) rfl (Nat.le_of_ble_eq_true rfl) rfl ?_
  intro Γ hl F
  clear hl
  have hN := hi.1
  have hq := hi.2.1 x hx
  have fr : ∀ b, b ≠ o ∧ b ≠ o + 1 ∧ b ≠ o + 2 → hp b = hp b := fun b _ => rfl
  refine zv_aload_n F d_Re_numberFor_0 rfl ?_
  refine zv_get F d_Re_numberFor_1 (by assumption) k_Re 0 (Nat.le_of_ble_eq_true rfl) ln_Re_9 rfl (by rfl) ?_
  refine zv_iload_n F d_Re_numberFor_4 rfl ?_
  refine zn_iald F d_Re_numberFor_5 (by assumption) (by omega) (by omega) ?_
  refine zn_iconst (x := 4294967295) F d_Re_numberFor_6 (by decide) ?_
  refine zn_icmp_ne (tgt := 40) F d_Re_numberFor_7 rfl (by omega) (by omega) (fun h7 => ?_) (fun h7 => ?_)
  · have hold : nc x < N ∧ cd (nc x) = x := by omega
    refine zv_aload_n F d_Re_numberFor_40 rfl ?_
    refine zv_get F d_Re_numberFor_41 (by assumption) k_Re 0 (Nat.le_of_ble_eq_true rfl) ln_Re_9 rfl (by rfl) ?_
    refine zv_iload_n F d_Re_numberFor_44 rfl ?_
    refine zn_iald F d_Re_numberFor_45 (by assumption) (by omega) (by omega) ?_
    exact zv_iret F d_Re_numberFor_46 (Nat.le_of_ble_eq_true rfl) (Nat.le_of_ble_eq_true rfl) (by first | exact ⟨nc x, N, nc, cd, rfl, rfl, f0, f1, f2, hi, fun s _ => rfl, hold.2, Or.inl ⟨hold.1, rfl⟩, fr⟩ | exact ⟨N, N + 1, va_up nc x N, va_up cd N x, by simp [va_up], rfl, f0, f1, f2, hnew, fun s hs => by simp only [va_up]; rw [if_neg (by omega)], by simp [va_up], Or.inr ⟨rfl, rfl⟩, fr⟩)
  · obtain ⟨hN4, hnew⟩ := re_inv_new hi hx h7
    refine zv_aload_n F d_Re_numberFor_10 rfl ?_
    refine zv_get F d_Re_numberFor_11 (by assumption) k_Re 0 (Nat.le_of_ble_eq_true rfl) ln_Re_9 rfl (by rfl) ?_
    refine zv_iload_n F d_Re_numberFor_14 rfl ?_
    refine zv_aload_n F d_Re_numberFor_15 rfl ?_
    refine zv_get F d_Re_numberFor_16 (by assumption) k_Re 3 (Nat.le_of_ble_eq_true rfl) ln_Re_51 rfl (by rfl) ?_
    refine zn_iast F d_Re_numberFor_19 (by assumption) (by omega) (by omega) (fun hp19 e19 => ?_)
    replace f0 := (zv_ne e19 (by omega)).trans f0
    replace f1 := zv_eq e19
    replace f2 := (zv_ne e19 (by omega)).trans f2
    replace fr := fun b hb => (zv_ne (b := b) e19 (by omega)).trans (fr b hb)
    refine zv_aload_n F d_Re_numberFor_20 rfl ?_
    refine zv_get F d_Re_numberFor_21 (by assumption) k_Re 1 (Nat.le_of_ble_eq_true rfl) ln_Re_15 rfl (by rfl) ?_
    refine zv_aload_n F d_Re_numberFor_24 rfl ?_
    refine zv_get F d_Re_numberFor_25 (by assumption) k_Re 3 (Nat.le_of_ble_eq_true rfl) ln_Re_51 rfl (by rfl) ?_
    refine zv_iload_n F d_Re_numberFor_28 rfl ?_
    refine zn_iast F d_Re_numberFor_29 (by assumption) (by omega) (by omega) (fun hp29 e29 => ?_)
    replace f0 := (zv_ne e29 (by omega)).trans f0
    replace f1 := (zv_ne e29 (by omega)).trans f1
    replace f2 := zv_eq e29
    replace fr := fun b hb => (zv_ne (b := b) e29 (by omega)).trans (fr b hb)
    refine zv_aload_n F d_Re_numberFor_30 rfl ?_
    refine zv_dup F d_Re_numberFor_31 rfl ?_
    refine zv_get F d_Re_numberFor_32 (by assumption) k_Re 3 (Nat.le_of_ble_eq_true rfl) ln_Re_51 rfl (by rfl) ?_
    refine zn_iconst (x := 1) F d_Re_numberFor_35 (by decide) ?_
    refine zn_iadd F d_Re_numberFor_36 ?_
    refine zv_put F d_Re_numberFor_37 (by assumption) k_Re 3 (Nat.le_of_ble_eq_true rfl) ln_Re_51 rfl rfl rfl (by rfl) (by rfl) (Nat.le_of_ble_eq_true rfl) (fun hp37 e37 => ?_)
    replace f0 := zv_eq e37
    replace f1 := (zv_ne e37 (by omega)).trans f1
    replace f2 := (zv_ne e37 (by omega)).trans f2
    replace fr := fun b hb => (zv_ne (b := b) e37 (by omega)).trans (fr b hb)
    refine zv_aload_n F d_Re_numberFor_40 rfl ?_
    refine zv_get F d_Re_numberFor_41 (by assumption) k_Re 0 (Nat.le_of_ble_eq_true rfl) ln_Re_9 rfl (by rfl) ?_
    refine zv_iload_n F d_Re_numberFor_44 rfl ?_
    refine zn_iald F d_Re_numberFor_45 (by assumption) (by omega) (by omega) ?_
    exact zv_iret F d_Re_numberFor_46 (Nat.le_of_ble_eq_true rfl) (Nat.le_of_ble_eq_true rfl) (by first | exact ⟨nc x, N, nc, cd, rfl, rfl, f0, f1, f2, hi, fun s _ => rfl, hold.2, Or.inl ⟨hold.1, rfl⟩, fr⟩ | exact ⟨N, N + 1, va_up nc x N, va_up cd N x, by simp [va_up], rfl, f0, f1, f2, hnew, fun s hs => by simp only [va_up]; rw [if_neg (by omega)], by simp [va_up], Or.inr ⟨rfl, rfl⟩, fr⟩)
def re_ex (Δ : zv_D) (hp0 hp : zv_M) (o pA pB : Nat) (δ : Nat → Nat → Nat) (s0 : Nat) (Bd : Nat → Prop) (j N : Nat) (nc cd tg : Nat → Nat) : Prop :=
  hp o = some (re_obj o N pA pB) ∧ hp (o + 1) = some (zn_I Δ 384 nc) ∧ hp (o + 2) = some (zn_I Δ 384 cd) ∧ hp (o + 3) = some (zn_I Δ 768 tg) ∧ (∀ b, b ≠ o ∧ b ≠ o + 1 ∧ b ≠ o + 2 ∧ b ≠ o + 3 → hp b = hp0 b) ∧
  re_inv N nc cd ∧ bf_inv N j tg ∧ cd 0 = s0 ∧ (∀ s, s < N → Bd (cd s)) ∧ ∀ i, i < j → tg i < N ∧ cd (tg i) = δ (cd (i / 2)) (i % 2)
/-- one slot more -/
theorem re_ex_step {Δ : zv_D} {hp0 hp hp1 hp2 : zv_M} {o pA pB s0 j N v N1 : Nat} {δ : Nat → Nat → Nat} {Bd : Nat → Prop} {nc cd tg nc1 cd1 : Nat → Nat} (h : re_ex Δ hp0 hp o pA pB δ s0 Bd j N nc cd tg) (hj : j < 2 * N)
    (q : hp1 o = some (re_obj o N1 pA pB) ∧ hp1 (o + 1) = some (zn_I Δ 384 nc1) ∧ hp1 (o + 2) = some (zn_I Δ 384 cd1) ∧ re_inv N1 nc1 cd1 ∧ (∀ s, s < N → cd1 s = cd s) ∧ cd1 v = δ (cd (j / 2)) (j % 2) ∧ ((v < N ∧ N1 = N) ∨ (v = N ∧ N1 = N + 1)) ∧ ∀ b, b ≠ o ∧ b ≠ o + 1 ∧ b ≠ o + 2 → hp1 b = hp b) (hB : Bd (δ (cd (j / 2)) (j % 2)))
    (e : hp2 = va_up hp1 (o + 3) (some (zn_I Δ 768 (va_up tg j v)))) : re_ex Δ hp0 hp2 o pA pB δ s0 Bd (j + 1) N1 nc1 cd1 (va_up tg j v) := by
  obtain ⟨f0, f1, f2, f3, fr, hi, hb, h0, hBd, ht⟩ := h
  obtain ⟨q0, q1, q2, qi, qc, qv, qn, qf⟩ := q
  have N0 : 0 < N := by have := hb.1; omega
  refine ⟨(zv_ne e (by omega)).trans q0, (zv_ne e (by omega)).trans q1, (zv_ne e (by omega)).trans q2, zv_eq e, fun b hb2 => (zv_ne e (by omega)).trans ((qf b ⟨hb2.1, hb2.2.1, hb2.2.2.1⟩).trans (fr b hb2)), qi, bf_inv_step hb hj (fun i hi2 => by simp only [va_up]; rw [if_neg (by omega)]) (by simp only [va_up, if_true]) qn, (qc 0 N0).trans h0, fun s hs => ?_, fun i hi2 => ?_⟩
  · by_cases c : s < N
    · rw [qc s c]; exact hBd s c
    · have : s = v := by omega
      rw [this, qv]
      exact hB
  · by_cases c : i = j
    · subst c
      simp only [va_up, if_true]
      refine ⟨by omega, ?_⟩
      rw [qv, qc (i / 2) (by omega)]
    · simp only [va_up, c, if_false]
      have z := ht i (by omega)
      refine ⟨by omega, ?_⟩
      rw [qc _ z.1, qc (i / 2) (by omega)]
      exact z.2
theorem Re_explore_ok {l : Launch} {Δ : zv_D} {hp : zv_M} {sz : Nat} {o b N pA pB s0 : Nat} {S : Nat → Prop} {δ : Nat → Nat → Nat} {ac : Nat → Bool} {Bd : Nat → Prop} {nc cd tg : Nat → Nat} (f0 : hp o = some (re_obj o N pA pB)) (f1 : hp (o + 1) = some (zn_I Δ 384 nc)) (f2 : hp (o + 2) = some (zn_I Δ 384 cd)) (f3 : hp (o + 3) = some (zn_I Δ 768 tg)) (hM : mc_M Δ hp b S δ ac s0 Bd) (hS : ∀ q, S q → q < o ∨ o + 7 ≤ q) : zv_E l Δ 3 y_Re_explore b_Re_explore 4 (none) [.ref o, .ref b] hp sz 0 0 (fun r hp1 sz1 => ∃ (N1 : Nat) (nc1 cd1 tg1 : Nat → Nat), r = none ∧ sz1 = sz ∧ re_ex Δ hp hp1 o pA pB δ s0 Bd (2 * N1) N1 nc1 cd1 tg1) := by
  refine zv_E.intro (lv0 := [some (.ref o), some (.ref b), none, none]) rfl (Nat.le_of_ble_eq_true rfl) rfl ?_
  intro Γ hl F
  clear hl
  have outer : ∀ (m s N : Nat) (h' : zv_M) (nc cd tg : Nat → Nat), m = 384 - s → s ≤ N → re_ex Δ hp h' o pA pB δ s0 Bd (2 * s) N nc cd tg → zv_V Δ Γ (zv_QQ Δ Γ 0 0 (fun r hp1 sz1 => ∃ (N1 : Nat) (nc1 cd1 tg1 : Nat → Nat), r = none ∧ sz1 = sz ∧ re_ex Δ hp hp1 o pA pB δ s0 Bd (2 * N1) N1 nc1 cd1 tg1)) 26 [some (.ref o), some (.ref b), some (.int (nI s)), none] [] h' sz 0 0 := by
    intro m
    induction m using Nat.strongRecOn with
    | ind m ih =>
      intro s N h' nc cd tg hm hs X
      have inner : ∀ (m2 c N : Nat) (h' : zv_M) (nc cd tg : Nat → Nat), m2 = 2 - c → c ≤ 2 → s < N → re_ex Δ hp h' o pA pB δ s0 Bd (2 * s + c) N nc cd tg → zv_V Δ Γ (zv_QQ Δ Γ 0 0 (fun r hp1 sz1 => ∃ (N1 : Nat) (nc1 cd1 tg1 : Nat → Nat), r = none ∧ sz1 = sz ∧ re_ex Δ hp hp1 o pA pB δ s0 Bd (2 * N1) N1 nc1 cd1 tg1)) 43 [some (.ref o), some (.ref b), some (.int (nI s)), some (.int (nI c))] [] h' sz 0 0 := by
        intro m2
        induction m2 using Nat.strongRecOn with
        | ind m2 ih2 =>
          intro c N h' nc cd tg hm2 hc hsN X
          have X0 := X
          obtain ⟨f0, f1, f2, f3, fr, hi, hb, h0, hBd, ht⟩ := X
          have hN := hi.1
          have hBs := hBd s hsN
          have hj2 : (2 * s + c) / 2 = s ∨ c = 2 := by omega
          refine zv_iload_n F d_Re_explore_43 rfl ?_
          refine zn_iconst (x := 2) F d_Re_explore_44 (by decide) ?_
          refine zn_icmp_ge (tgt := 81) F d_Re_explore_45 rfl (by omega) (by omega) (fun h45 => ?_) (fun h45 => ?_)
          · have ec : c = 2 := by omega
            subst ec
            refine zn_iinc F d_Re_explore_81 rfl ?_
            simp only [zv_s1, zv_s2, zv_kill, List.set_cons_zero, List.set_cons_succ, List.getElem?_cons_zero, List.getElem?_cons_succ]
            refine zv_goto (tgt := 26) F d_Re_explore_84 rfl ?_
            exact zv_weak (by repeat' (first | exact True.intro | refine And.intro rfl ?_)) (ih (384 - (s + 1)) (by omega) (s + 1) N _ _ _ _ rfl (by omega) X0)
          · have ej : (2 * s + c) / 2 = s := by omega
            have em : (2 * s + c) % 2 = c := by omega
            have hBn := hM.1.2.2 (cd s) c hBs (by omega)
            refine zv_aload_n F d_Re_explore_48 rfl ?_
            refine zv_get F d_Re_explore_49 (by assumption) k_Re 2 (Nat.le_of_ble_eq_true rfl) ln_Re_18 rfl (by rfl) ?_
            refine zn_iconst (x := 2) F d_Re_explore_52 (by decide) ?_
            refine zv_iload_n F d_Re_explore_53 rfl ?_
            refine zn_imul F d_Re_explore_54 ?_
            refine zv_iload_n F d_Re_explore_55 rfl ?_
            refine zn_iadd F d_Re_explore_56 ?_
            refine zv_aload_n F d_Re_explore_57 rfl ?_
            refine zv_aload_n F d_Re_explore_58 rfl ?_
            refine zv_aload_n F d_Re_explore_59 rfl ?_
            refine zv_get F d_Re_explore_60 (by assumption) k_Re 1 (Nat.le_of_ble_eq_true rfl) ln_Re_15 rfl (by rfl) ?_
            refine zv_iload_n F d_Re_explore_63 rfl ?_
            refine zn_iald F d_Re_explore_64 (by assumption) (by omega) (by omega) ?_
            refine zv_iload_n F d_Re_explore_65 rfl ?_
            refine zv_callM F rfl d_Re_explore_66 ((hM.2 _ h' _ (fun q hq => fr q (by have := hS q hq; omega))).2.1 (cd s) c hBs (by omega)) ln_Re_64 (by decide) rfl rfl ⟨(Nat.le_of_ble_eq_true rfl), (Nat.le_of_ble_eq_true rfl)⟩ (Nat.le_of_ble_eq_true rfl) ⟨(Nat.le_of_ble_eq_true rfl), (Nat.le_of_ble_eq_true rfl)⟩ ?_
            refine zv_mV1 F rfl (by assumption) k_Re.1 d_Re_explore_71 (Re_numberFor_ok f0 f1 f2 hi (hM.1.2.1 _ hBn)) Y_Re_numberFor Yi_Re_numberFor Yv_Re_numberFor ln_Re_60 ⟨(Nat.le_of_ble_eq_true rfl), (Nat.le_of_ble_eq_true rfl)⟩ (Nat.le_of_ble_eq_true rfl) ⟨(Nat.le_of_ble_eq_true rfl), (Nat.le_of_ble_eq_true rfl)⟩ (fun r hp71 sz71 q71 => ?_)
            obtain ⟨v, N1, nc1, cd1, rfl, rfl, q⟩ := q71
            have f3' := (q.2.2.2.2.2.2.2 (o + 3) (by omega)).trans f3
            try simp only [Option.toList, List.cons_append, List.nil_append]
            refine zn_iast F d_Re_explore_74 f3' (by omega) (by omega) (fun hp74 e74 => ?_)
            refine zn_iinc F d_Re_explore_75 rfl ?_
            simp only [zv_s1, zv_s2, zv_kill, List.set_cons_zero, List.set_cons_succ, List.getElem?_cons_zero, List.getElem?_cons_succ]
            refine zv_goto (tgt := 43) F d_Re_explore_78 rfl ?_
            exact zv_weak (by repeat' (first | exact True.intro | refine And.intro rfl ?_)) (ih2 (2 - (c + 1)) (by omega) (c + 1) N1 _ _ _ _ rfl (by omega) (by omega) (re_ex_step (j := 2 * s + c) X0 (by omega) (by rw [ej, em]; exact q) (by rw [ej, em]; exact hBn) e74))
      have X0 := X
      obtain ⟨f0, f1, f2, f3, fr, hi, hb, h0, hBd, ht⟩ := X
      have hN := hi.1
      refine zv_iload_n F d_Re_explore_26 rfl ?_
      refine zv_aload_n F d_Re_explore_27 rfl ?_
      refine zv_get F d_Re_explore_28 (by assumption) k_Re 3 (Nat.le_of_ble_eq_true rfl) ln_Re_51 rfl (by rfl) ?_
      refine zn_icmp_ge (tgt := 87) F d_Re_explore_31 rfl (by omega) (by omega) (fun h31 => ?_) (fun h31 => ?_)
      · exact zv_vret F d_Re_explore_87 (Nat.le_of_ble_eq_true rfl) (Nat.le_of_ble_eq_true rfl) ⟨N, nc, cd, tg, rfl, rfl, by have e : s = N := (by omega); rw [e] at X0; exact X0⟩
      · refine zv_iload_n F d_Re_explore_34 rfl ?_
        refine zn_sipush (x := 384) F d_Re_explore_35 (by decide) ?_
        refine zn_icmp_ge (tgt := 87) F d_Re_explore_38 rfl (by omega) (by omega) (fun h38 => ?_) (fun h38 => ?_)
        · exact zv_vret F d_Re_explore_87 (Nat.le_of_ble_eq_true rfl) (Nat.le_of_ble_eq_true rfl) ⟨N, nc, cd, tg, rfl, rfl, by have e : s = N := (by omega); rw [e] at X0; exact X0⟩
        · refine zn_iconst (x := 0) F d_Re_explore_41 (by decide) ?_
          refine zv_istore_n F d_Re_explore_42 (Nat.le_of_ble_eq_true rfl) ?_
          simp only [zv_s1, zv_s2, zv_kill, List.set_cons_zero, List.set_cons_succ, List.getElem?_cons_zero, List.getElem?_cons_succ]
          exact zv_weak (by repeat' (first | exact True.intro | refine And.intro rfl ?_)) (inner _ 0 N _ _ _ _ rfl (by omega) (by omega) X0)
  refine zv_aload_n F d_Re_explore_0 rfl ?_
  refine zv_get F d_Re_explore_1 (by assumption) k_Re 0 (Nat.le_of_ble_eq_true rfl) ln_Re_9 rfl (by rfl) ?_
  refine zn_iconst (x := 4294967295) F d_Re_explore_4 (by decide) ?_
  refine zv_mS2 F rfl d_Re_explore_5 (Ar_fill_ok f1 (by decide)) Y_Ar_fill Ys_Ar_fill ln_Re_45 ⟨(Nat.le_of_ble_eq_true rfl), (Nat.le_of_ble_eq_true rfl)⟩ (Nat.le_of_ble_eq_true rfl) ⟨(Nat.le_of_ble_eq_true rfl), (Nat.le_of_ble_eq_true rfl)⟩ (fun r hp5 sz5 q5 => ?_)
  obtain ⟨nc1, rfl, rfl, f1', hnc, fr⟩ := q5
  replace f1 := f1'
  replace f0 := (fr o (by omega)).trans f0
  replace f2 := (fr (o + 2) (by omega)).trans f2
  replace f3 := (fr (o + 3) (by omega)).trans f3
  try simp only [Option.toList, List.cons_append, List.nil_append]
  refine zv_aload_n F d_Re_explore_8 rfl ?_
  refine zn_iconst (x := 0) F d_Re_explore_9 (by decide) ?_
  refine zv_put F d_Re_explore_10 (by assumption) k_Re 3 (Nat.le_of_ble_eq_true rfl) ln_Re_51 rfl rfl rfl (by rfl) (by rfl) (Nat.le_of_ble_eq_true rfl) (fun hp10 e10 => ?_)
  replace f0 := zv_eq e10
  replace f1 := (zv_ne e10 (by omega)).trans f1
  replace f2 := (zv_ne e10 (by omega)).trans f2
  replace f3 := (zv_ne e10 (by omega)).trans f3
  refine zv_aload_n F d_Re_explore_13 rfl ?_
  refine zv_aload_n F d_Re_explore_14 rfl ?_
  refine zv_callM F rfl d_Re_explore_15 ((hM.2 _ hp10 _ (fun q hq => by have := hS q hq; exact (zv_ne e10 (by omega)).trans (fr q (by omega)))).1) ln_Re_55 (by decide) rfl rfl ⟨(Nat.le_of_ble_eq_true rfl), (Nat.le_of_ble_eq_true rfl)⟩ (Nat.le_of_ble_eq_true rfl) ⟨(Nat.le_of_ble_eq_true rfl), (Nat.le_of_ble_eq_true rfl)⟩ ?_
  refine zv_mV1 F rfl (by assumption) k_Re.1 d_Re_explore_20 (Re_numberFor_ok f0 f1 f2 (⟨by decide, fun x hx => Or.inl (hnc x hx), fun s hs => by omega⟩ : re_inv 0 nc1 cd) (hM.1.2.1 _ hM.1.1)) Y_Re_numberFor Yi_Re_numberFor Yv_Re_numberFor ln_Re_60 ⟨(Nat.le_of_ble_eq_true rfl), (Nat.le_of_ble_eq_true rfl)⟩ (Nat.le_of_ble_eq_true rfl) ⟨(Nat.le_of_ble_eq_true rfl), (Nat.le_of_ble_eq_true rfl)⟩ (fun r hp20 sz20 q20 => ?_)
  obtain ⟨v, N1, nc2, cd2, rfl, rfl, q0, q1, q2, qi, qc, qv, qn, qf⟩ := q20
  try simp only [Option.toList, List.cons_append, List.nil_append]
  refine zv_pop F d_Re_explore_23 rfl ?_
  refine zn_iconst (x := 0) F d_Re_explore_24 (by decide) ?_
  refine zv_istore_n F d_Re_explore_25 (Nat.le_of_ble_eq_true rfl) ?_
  simp only [zv_s1, zv_s2, zv_kill, List.set_cons_zero, List.set_cons_succ, List.getElem?_cons_zero, List.getElem?_cons_succ]
  refine zv_weak (by repeat' (first | exact True.intro | refine And.intro rfl ?_)) (outer _ 0 N1 hp20 nc2 cd2 tg rfl (Nat.zero_le _) ⟨q0, q1, q2, (qf (o + 3) (by omega)).trans f3, fun b hb => (qf b ⟨hb.1, hb.2.1, hb.2.2.1⟩).trans ((zv_ne e10 (by omega)).trans (fr b (by omega))), qi, ?_, ?_, ?_, fun i hi => by omega⟩)
  · have e1 : N1 = 1 := by omega
    rw [e1]; exact bf_inv_0 tg
  · have e1 : v = 0 := by omega
    rw [← e1]; exact qv
  · intro s hs
    have e1 : s = v := by omega
    rw [e1, qv]; exact hM.1.1
end
section
def re_pp (o pA pB : Nat) : Prop := (pA = o + 4 ∧ pB = o + 5) ∨ (pA = o + 5 ∧ pB = o + 4)
theorem Re_partByAcceptance_ok {l : Launch} {Δ : zv_D} {hp : zv_M} {sz : Nat} {o b N pA pB s0 : Nat} {S : Nat → Prop} {δ : Nat → Nat → Nat} {ac : Nat → Bool} {Bd : Nat → Prop} {cd P : Nat → Nat} (hpp : re_pp o pA pB) (f0 : hp o = some (re_obj o N pA pB)) (f2 : hp (o + 2) = some (zn_I Δ 384 cd)) (f4 : hp pA = some (zn_I Δ 384 P)) (hN : N ≤ 384) (hB : ∀ s, s < N → Bd (cd s)) (hM : mc_M Δ hp b S δ ac s0 Bd) (hS : ∀ q, S q → q < o ∨ o + 7 ≤ q) : zv_E l Δ 3 y_Re_partByAcceptance b_Re_partByAcceptance 3 (none) [.ref o, .ref b] hp sz 0 0 (fun r hp1 sz1 => ∃ P1 : Nat → Nat, r = none ∧ sz1 = sz ∧ hp1 pA = some (zn_I Δ 384 P1) ∧ (∀ s, s < N → P1 s = (ac (cd s)).toNat) ∧ ∀ b, b ≠ pA → hp1 b = hp b) := by
  refine zv_E.intro (lv0 := [some (.ref o), some (.ref b), none]) rfl (Nat.le_of_ble_eq_true rfl) rfl ?_
  intro Γ hl F
  clear hl
  unfold re_pp at hpp
  have loop : ∀ (m s : Nat) (h' : zv_M) (P : Nat → Nat), m = N - s → s ≤ N → h' pA = some (zn_I Δ 384 P) → (∀ i, i < s → P i = (ac (cd i)).toNat) → (∀ b, b ≠ pA → h' b = hp b) → zv_V Δ Γ (zv_QQ Δ Γ 0 0 (fun r hp1 sz1 => ∃ P1 : Nat → Nat, r = none ∧ sz1 = sz ∧ hp1 pA = some (zn_I Δ 384 P1) ∧ (∀ s, s < N → P1 s = (ac (cd s)).toNat) ∧ ∀ b, b ≠ pA → hp1 b = hp b)) 2 [some (.ref o), some (.ref b), some (.int (nI s))] [] h' sz 0 0 := by
    intro m
    induction m using Nat.strongRecOn with
    | ind m ih =>
      intro s h' P hm hs f4 hP fr
      have f0 := (fr o (by omega)).trans f0
      have f2 := (fr (o + 2) (by omega)).trans f2
      refine zv_iload_n F d_Re_partByAcceptance_2 rfl ?_
      refine zv_aload_n F d_Re_partByAcceptance_3 rfl ?_
      refine zv_get F d_Re_partByAcceptance_4 (by assumption) k_Re 3 (Nat.le_of_ble_eq_true rfl) ln_Re_51 rfl (by rfl) ?_
      refine zn_icmp_ge (tgt := 42) F d_Re_partByAcceptance_7 rfl (by omega) (by omega) (fun h7 => ?_) (fun h7 => ?_)
      · exact zv_vret F d_Re_partByAcceptance_42 (Nat.le_of_ble_eq_true rfl) (Nat.le_of_ble_eq_true rfl) ⟨P, rfl, rfl, f4, fun i hi => hP i (by omega), fr⟩
      · refine zv_aload_n F d_Re_partByAcceptance_10 rfl ?_
        refine zv_get F d_Re_partByAcceptance_11 (by assumption) k_Re 4 (Nat.le_of_ble_eq_true rfl) ln_Re_21 rfl (by rfl) ?_
        refine zv_iload_n F d_Re_partByAcceptance_14 rfl ?_
        refine zv_aload_n F d_Re_partByAcceptance_15 rfl ?_
        refine zv_aload_n F d_Re_partByAcceptance_16 rfl ?_
        refine zv_get F d_Re_partByAcceptance_17 (by assumption) k_Re 1 (Nat.le_of_ble_eq_true rfl) ln_Re_15 rfl (by rfl) ?_
        refine zv_iload_n F d_Re_partByAcceptance_20 rfl ?_
        refine zn_iald F d_Re_partByAcceptance_21 (by assumption) (by omega) (by omega) ?_
        refine zv_callM F rfl d_Re_partByAcceptance_22 ((hM.2 _ h' _ (fun q hq => fr q (by have := hS q hq; omega))).2.2 (cd s) (hB s (by omega))) ln_Re_68 (by decide) rfl rfl ⟨(Nat.le_of_ble_eq_true rfl), (Nat.le_of_ble_eq_true rfl)⟩ (Nat.le_of_ble_eq_true rfl) ⟨(Nat.le_of_ble_eq_true rfl), (Nat.le_of_ble_eq_true rfl)⟩ ?_
        first | refine zn_bif_eq (tgt := 34) F d_Re_partByAcceptance_27 rfl (fun h27 => ?_) (fun h27 => ?_) | refine zn_if_eq (tgt := 34) F d_Re_partByAcceptance_27 rfl (by omega) (fun h27 => ?_) (fun h27 => ?_)
        · refine zn_iconst (x := 0) F d_Re_partByAcceptance_34 (by decide) ?_
          refine zn_iast F d_Re_partByAcceptance_35 (by assumption) (by omega) (by omega) (fun hp35 e35 => ?_)
          replace f4 := zv_eq e35
          replace fr := fun b hb => (zv_ne (b := b) e35 (by omega)).trans (fr b hb)
          refine zn_iinc F d_Re_partByAcceptance_36 rfl ?_
          simp only [zv_s1, zv_s2, zv_kill, List.set_cons_zero, List.set_cons_succ, List.getElem?_cons_zero, List.getElem?_cons_succ]
          refine zv_goto (tgt := 2) F d_Re_partByAcceptance_39 rfl ?_
          exact zv_weak (by repeat' (first | exact True.intro | refine And.intro rfl ?_)) (ih (N - (s + 1)) (by omega) (s + 1) _ _ rfl (by omega) f4 (fun i hi => by by_cases e : i = s; simp only [va_up, e, if_true]; rw [h27]; rfl; simp only [va_up, e, if_false]; exact hP i (by omega)) fr)
        · refine zn_iconst (x := 1) F d_Re_partByAcceptance_30 (by decide) ?_
          refine zv_goto (tgt := 35) F d_Re_partByAcceptance_31 rfl ?_
          refine zn_iast F d_Re_partByAcceptance_35 (by assumption) (by omega) (by omega) (fun hp35 e35 => ?_)
          replace f4 := zv_eq e35
          replace fr := fun b hb => (zv_ne (b := b) e35 (by omega)).trans (fr b hb)
          refine zn_iinc F d_Re_partByAcceptance_36 rfl ?_
          simp only [zv_s1, zv_s2, zv_kill, List.set_cons_zero, List.set_cons_succ, List.getElem?_cons_zero, List.getElem?_cons_succ]
          refine zv_goto (tgt := 2) F d_Re_partByAcceptance_39 rfl ?_
          exact zv_weak (by repeat' (first | exact True.intro | refine And.intro rfl ?_)) (ih (N - (s + 1)) (by omega) (s + 1) _ _ rfl (by omega) f4 (fun i hi => by by_cases e : i = s; simp only [va_up, e, if_true]; rw [h27]; rfl; simp only [va_up, e, if_false]; exact hP i (by omega)) fr)
  refine zn_iconst (x := 0) F d_Re_partByAcceptance_0 (by decide) ?_
  refine zv_istore_n F d_Re_partByAcceptance_1 (Nat.le_of_ble_eq_true rfl) ?_
  simp only [zv_s1, zv_s2, zv_kill, List.set_cons_zero, List.set_cons_succ, List.getElem?_cons_zero, List.getElem?_cons_succ]
  exact zv_weak (by repeat' (first | exact True.intro | refine And.intro rfl ?_)) (loop _ 0 _ P rfl (Nat.zero_le _) f4 (fun i hi => by omega) (fun b _ => rfl))
theorem Re_goAlike_ok {l : Launch} {Δ : zv_D} {hp : zv_M} {sz : Nat} {o N pA pB s t : Nat} {tg P : Nat → Nat} (f0 : hp o = some (re_obj o N pA pB)) (f3 : hp (o + 3) = some (zn_I Δ 768 tg)) (f4 : hp pA = some (zn_I Δ 384 P)) (hN : N ≤ 384) (htg : ∀ j, j < 2 * N → tg j < N) (hPb : ∀ s, s < N → P s < 4294967296) (hs : s < N) (ht : t < N) : zv_P l Δ 0 y_Re_goAlike b_Re_goAlike 3 ((some (FieldType.boolean))) [.ref o, .int (nI s), .int (nI t)] hp sz (.int (nI (decide (P s = P t ∧ P (tg (2 * s)) = P (tg (2 * t)) ∧ P (tg (2 * s + 1)) = P (tg (2 * t + 1)))).toNat)) := by
  refine zv_E.intro (lv0 := [some (.ref o), some (.int (nI s)), some (.int (nI t))]) rfl (Nat.le_of_ble_eq_true rfl) rfl ?_
  intro Γ hl F
  clear hl
  have a1 := htg (2 * s) (by omega)
  have a2 := htg (2 * t) (by omega)
  have a3 := htg (2 * s + 1) (by omega)
  have a4 := htg (2 * t + 1) (by omega)
  have b1 := hPb s hs
  have b2 := hPb t ht
  have b3 := hPb _ a1
  have b4 := hPb _ a2
  have b5 := hPb _ a3
  have b6 := hPb _ a4
  refine zv_aload_n F d_Re_goAlike_0 rfl ?_
  refine zv_get F d_Re_goAlike_1 (by assumption) k_Re 4 (Nat.le_of_ble_eq_true rfl) ln_Re_21 rfl (by rfl) ?_
  refine zv_iload_n F d_Re_goAlike_4 rfl ?_
  refine zn_iald F d_Re_goAlike_5 (by assumption) (by omega) (by omega) ?_
  refine zv_aload_n F d_Re_goAlike_6 rfl ?_
  refine zv_get F d_Re_goAlike_7 (by assumption) k_Re 4 (Nat.le_of_ble_eq_true rfl) ln_Re_21 rfl (by rfl) ?_
  refine zv_iload_n F d_Re_goAlike_10 rfl ?_
  refine zn_iald F d_Re_goAlike_11 (by assumption) (by omega) (by omega) ?_
  refine zn_icmp_ne (tgt := 81) F d_Re_goAlike_12 rfl (by omega) (by omega) (fun h12 => ?_) (fun h12 => ?_)
  · refine zn_iconst (x := 0) F d_Re_goAlike_81 (by decide) ?_
    exact zv_zret F d_Re_goAlike_82 (Nat.le_of_ble_eq_true rfl) (Nat.le_of_ble_eq_true rfl) (by first | rfl | exact zn_nb _) (by first | exact ⟨zn_bt (decide_eq_true (by omega)), rfl, rfl⟩ | exact ⟨zn_bf (decide_eq_false (by omega)), rfl, rfl⟩)
  · refine zv_aload_n F d_Re_goAlike_15 rfl ?_
    refine zv_get F d_Re_goAlike_16 (by assumption) k_Re 4 (Nat.le_of_ble_eq_true rfl) ln_Re_21 rfl (by rfl) ?_
    refine zv_aload_n F d_Re_goAlike_19 rfl ?_
    refine zv_get F d_Re_goAlike_20 (by assumption) k_Re 2 (Nat.le_of_ble_eq_true rfl) ln_Re_18 rfl (by rfl) ?_
    refine zn_iconst (x := 2) F d_Re_goAlike_23 (by decide) ?_
    refine zv_iload_n F d_Re_goAlike_24 rfl ?_
    refine zn_imul F d_Re_goAlike_25 ?_
    refine zn_iald F d_Re_goAlike_26 (by assumption) (by omega) (by omega) ?_
    refine zn_iald F d_Re_goAlike_27 (by assumption) (by omega) (by omega) ?_
    refine zv_aload_n F d_Re_goAlike_28 rfl ?_
    refine zv_get F d_Re_goAlike_29 (by assumption) k_Re 4 (Nat.le_of_ble_eq_true rfl) ln_Re_21 rfl (by rfl) ?_
    refine zv_aload_n F d_Re_goAlike_32 rfl ?_
    refine zv_get F d_Re_goAlike_33 (by assumption) k_Re 2 (Nat.le_of_ble_eq_true rfl) ln_Re_18 rfl (by rfl) ?_
    refine zn_iconst (x := 2) F d_Re_goAlike_36 (by decide) ?_
    refine zv_iload_n F d_Re_goAlike_37 rfl ?_
    refine zn_imul F d_Re_goAlike_38 ?_
    refine zn_iald F d_Re_goAlike_39 (by assumption) (by omega) (by omega) ?_
    refine zn_iald F d_Re_goAlike_40 (by assumption) (by omega) (by omega) ?_
    refine zn_icmp_ne (tgt := 81) F d_Re_goAlike_41 rfl (by omega) (by omega) (fun h41 => ?_) (fun h41 => ?_)
    · refine zn_iconst (x := 0) F d_Re_goAlike_81 (by decide) ?_
      exact zv_zret F d_Re_goAlike_82 (Nat.le_of_ble_eq_true rfl) (Nat.le_of_ble_eq_true rfl) (by first | rfl | exact zn_nb _) (by first | exact ⟨zn_bt (decide_eq_true (by omega)), rfl, rfl⟩ | exact ⟨zn_bf (decide_eq_false (by omega)), rfl, rfl⟩)
    · refine zv_aload_n F d_Re_goAlike_44 rfl ?_
      refine zv_get F d_Re_goAlike_45 (by assumption) k_Re 4 (Nat.le_of_ble_eq_true rfl) ln_Re_21 rfl (by rfl) ?_
      refine zv_aload_n F d_Re_goAlike_48 rfl ?_
      refine zv_get F d_Re_goAlike_49 (by assumption) k_Re 2 (Nat.le_of_ble_eq_true rfl) ln_Re_18 rfl (by rfl) ?_
      refine zn_iconst (x := 2) F d_Re_goAlike_52 (by decide) ?_
      refine zv_iload_n F d_Re_goAlike_53 rfl ?_
      refine zn_imul F d_Re_goAlike_54 ?_
      refine zn_iconst (x := 1) F d_Re_goAlike_55 (by decide) ?_
      refine zn_iadd F d_Re_goAlike_56 ?_
      refine zn_iald F d_Re_goAlike_57 (by assumption) (by omega) (by omega) ?_
      refine zn_iald F d_Re_goAlike_58 (by assumption) (by omega) (by omega) ?_
      refine zv_aload_n F d_Re_goAlike_59 rfl ?_
      refine zv_get F d_Re_goAlike_60 (by assumption) k_Re 4 (Nat.le_of_ble_eq_true rfl) ln_Re_21 rfl (by rfl) ?_
      refine zv_aload_n F d_Re_goAlike_63 rfl ?_
      refine zv_get F d_Re_goAlike_64 (by assumption) k_Re 2 (Nat.le_of_ble_eq_true rfl) ln_Re_18 rfl (by rfl) ?_
      refine zn_iconst (x := 2) F d_Re_goAlike_67 (by decide) ?_
      refine zv_iload_n F d_Re_goAlike_68 rfl ?_
      refine zn_imul F d_Re_goAlike_69 ?_
      refine zn_iconst (x := 1) F d_Re_goAlike_70 (by decide) ?_
      refine zn_iadd F d_Re_goAlike_71 ?_
      refine zn_iald F d_Re_goAlike_72 (by assumption) (by omega) (by omega) ?_
      refine zn_iald F d_Re_goAlike_73 (by assumption) (by omega) (by omega) ?_
      refine zn_icmp_ne (tgt := 81) F d_Re_goAlike_74 rfl (by omega) (by omega) (fun h74 => ?_) (fun h74 => ?_)
      · refine zn_iconst (x := 0) F d_Re_goAlike_81 (by decide) ?_
        exact zv_zret F d_Re_goAlike_82 (Nat.le_of_ble_eq_true rfl) (Nat.le_of_ble_eq_true rfl) (by first | rfl | exact zn_nb _) (by first | exact ⟨zn_bt (decide_eq_true (by omega)), rfl, rfl⟩ | exact ⟨zn_bf (decide_eq_false (by omega)), rfl, rfl⟩)
      · refine zn_iconst (x := 1) F d_Re_goAlike_77 (by decide) ?_
        refine zv_goto (tgt := 82) F d_Re_goAlike_78 rfl ?_
        exact zv_zret F d_Re_goAlike_82 (Nat.le_of_ble_eq_true rfl) (Nat.le_of_ble_eq_true rfl) (by first | rfl | exact zn_nb _) (by first | exact ⟨zn_bt (decide_eq_true (by omega)), rfl, rfl⟩ | exact ⟨zn_bf (decide_eq_false (by omega)), rfl, rfl⟩)
def re_al (tg P fo : Nat → Nat) (s p : Nat) : Bool := decide (P s = P (fo p) ∧ P (tg (2 * s)) = P (tg (2 * fo p)) ∧ P (tg (2 * s + 1)) = P (tg (2 * fo p + 1)))
theorem re_al_iff {tg P fo : Nat → Nat} {s p : Nat} : re_al tg P fo s p = true ↔ mo_al tg P s (fo p) := decide_eq_true_iff
theorem Re_partLike_ok {l : Launch} {Δ : zv_D} {hp : zv_M} {sz : Nat} {o N pA pB s c : Nat} {tg P fo : Nat → Nat} (f0 : hp o = some (re_obj o N pA pB)) (f3 : hp (o + 3) = some (zn_I Δ 768 tg)) (f4 : hp pA = some (zn_I Δ 384 P)) (f6 : hp (o + 6) = some (zn_I Δ 6 fo)) (hN : N ≤ 384) (htg : ∀ j, j < 2 * N → tg j < N) (hPb : ∀ s, s < N → P s < 4294967296) (hs : s < N) (hc : c ≤ 6) (hfo : ∀ p, p < c → fo p < N) : zv_P l Δ 1 y_Re_partLike b_Re_partLike 4 ((some (FieldType.int))) [.ref o, .int (nI s), .int (nI c)] hp sz (.int (nI (zf_ff (re_al tg P fo s) 0 c))) := by
  refine zv_E.intro (lv0 := [some (.ref o), some (.int (nI s)), some (.int (nI c)), none]) rfl (Nat.le_of_ble_eq_true rfl) rfl ?_
  intro Γ hl F
  clear hl
  have loop : ∀ (m q : Nat), m = c - q → q ≤ c → zf_ff (re_al tg P fo s) 0 c = zf_ff (re_al tg P fo s) q (c - q) → zv_V Δ Γ (zv_QQ Δ Γ 0 0 (fun r hp1 sz1 => r = some (.int (nI (zf_ff (re_al tg P fo s) 0 c))) ∧ hp1 = hp ∧ sz1 = sz)) 2 [some (.ref o), some (.int (nI s)), some (.int (nI c)), some (.int (nI q))] [] hp sz 0 0 := by
    intro m
    induction m using Nat.strongRecOn with
    | ind m ih =>
      intro q hm hq he
      refine zv_iload_n F d_Re_partLike_2 rfl ?_
      refine zv_iload_n F d_Re_partLike_3 rfl ?_
      refine zn_icmp_ge (tgt := 29) F d_Re_partLike_4 rfl (by omega) (by omega) (fun h4 => ?_) (fun h4 => ?_)
      · refine zv_iload_n F d_Re_partLike_29 rfl ?_
        exact zv_iret F d_Re_partLike_30 (Nat.le_of_ble_eq_true rfl) (Nat.le_of_ble_eq_true rfl) ⟨zn_rt (by rw [he, show c - q = 0 by omega]; simp only [zf_ff]; omega), rfl, rfl⟩
      · have hfq := hfo q h4
        refine zv_aload_n F d_Re_partLike_7 rfl ?_
        refine zv_iload_n F d_Re_partLike_8 rfl ?_
        refine zv_aload_n F d_Re_partLike_9 rfl ?_
        refine zv_get F d_Re_partLike_10 (by assumption) k_Re 6 (Nat.le_of_ble_eq_true rfl) ln_Re_27 rfl (by rfl) ?_
        refine zv_iload_n F d_Re_partLike_13 rfl ?_
        refine zn_iald F d_Re_partLike_14 (by assumption) (by omega) (by omega) ?_
        refine zv_pV2 F rfl (by assumption) k_Re.1 d_Re_partLike_15 (Re_goAlike_ok f0 f3 f4 hN htg hPb hs hfq) Y_Re_goAlike Yi_Re_goAlike Yv_Re_goAlike ln_Re_78 ⟨(Nat.le_of_ble_eq_true rfl), (Nat.le_of_ble_eq_true rfl)⟩ (Nat.le_of_ble_eq_true rfl) ⟨(Nat.le_of_ble_eq_true rfl), (Nat.le_of_ble_eq_true rfl)⟩ ?_
        first | refine zn_bif_eq (tgt := 23) F d_Re_partLike_18 rfl (fun h18 => ?_) (fun h18 => ?_) | refine zn_if_eq (tgt := 23) F d_Re_partLike_18 rfl (by omega) (fun h18 => ?_) (fun h18 => ?_)
        · refine zn_iinc F d_Re_partLike_23 rfl ?_
          simp only [zv_s1, zv_s2, zv_kill, List.set_cons_zero, List.set_cons_succ, List.getElem?_cons_zero, List.getElem?_cons_succ]
          refine zv_goto (tgt := 2) F d_Re_partLike_26 rfl ?_
          exact zv_weak (by repeat' (first | exact True.intro | refine And.intro rfl ?_)) (ih (c - (q + 1)) (by omega) (q + 1) rfl (by omega) (by rw [he, zf_miss h18 (by omega)]; rfl))
        · refine zv_iload_n F d_Re_partLike_21 rfl ?_
          exact zv_iret F d_Re_partLike_22 (Nat.le_of_ble_eq_true rfl) (Nat.le_of_ble_eq_true rfl) ⟨zn_rt (by rw [he, zf_hit h18 (by omega)]), rfl, rfl⟩
  refine zn_iconst (x := 0) F d_Re_partLike_0 (by decide) ?_
  refine zv_istore_n F d_Re_partLike_1 (Nat.le_of_ble_eq_true rfl) ?_
  simp only [zv_s1, zv_s2, zv_kill, List.set_cons_zero, List.set_cons_succ, List.getElem?_cons_zero, List.getElem?_cons_succ]
  exact zv_weak (by repeat' (first | exact True.intro | refine And.intro rfl ?_)) (loop _ 0 rfl (Nat.zero_le _) (by rw [Nat.sub_zero]))
def re_sp (Δ : zv_D) (hp hp1 : zv_M) (o N pA pB : Nat) (tg P : Nat → Nat) (v : Nat) : Prop :=
  ∃ (P3 fo1 : Nat → Nat), hp1 (o + 6) = some (zn_I Δ 6 fo1) ∧ hp1 pB = some (zn_I Δ 384 P3) ∧ (∀ b, b ≠ o ∧ b ≠ pB ∧ b ≠ o + 6 → hp1 b = hp b) ∧
   ((v = 4294967295 ∧ hp1 o = some (re_obj o N pA pB) ∧ ∃ u : Nat → Nat, (∀ i, i < 7 → u i < N) ∧ ∀ i j, i < 7 → j < 7 → mo_al tg P (u i) (u j) → i = j) ∨ (v ≤ 6 ∧ hp1 o = some (re_obj o N pB pA) ∧ mo_sp N tg P v P3 fo1))
theorem Re_split_ok {l : Launch} {Δ : zv_D} {hp : zv_M} {sz : Nat} {o N pA pB : Nat} {tg P P2 fo : Nat → Nat} (hpp : re_pp o pA pB) (f0 : hp o = some (re_obj o N pA pB)) (f3 : hp (o + 3) = some (zn_I Δ 768 tg)) (f4 : hp pA = some (zn_I Δ 384 P)) (f5 : hp pB = some (zn_I Δ 384 P2)) (f6 : hp (o + 6) = some (zn_I Δ 6 fo)) (hN : N ≤ 384) (htg : ∀ j, j < 2 * N → tg j < N) (hPb : ∀ s, s < N → P s < 4294967296) : zv_E l Δ 2 y_Re_split b_Re_split 4 ((some (FieldType.int))) [.ref o] hp sz 0 0 (fun r hp1 sz1 => ∃ v : Nat, r = some (.int (nI v)) ∧ sz1 = sz ∧ re_sp Δ hp hp1 o N pA pB tg P v) := by
  refine zv_E.intro (lv0 := [some (.ref o), none, none, none]) rfl (Nat.le_of_ble_eq_true rfl) rfl ?_
  intro Γ hl F
  clear hl
  unfold re_pp at hpp
  have loop : ∀ (m s c : Nat) (h' : zv_M) (P3 fo1 : Nat → Nat), m = N - s → s ≤ N → c ≤ 6 → h' pB = some (zn_I Δ 384 P3) → h' (o + 6) = some (zn_I Δ 6 fo1) → mo_sp s tg P c P3 fo1 → (∀ b, b ≠ pB ∧ b ≠ o + 6 → h' b = hp b) → zv_V Δ Γ (zv_QQ Δ Γ 0 0 (fun r hp1 sz1 => ∃ v : Nat, r = some (.int (nI v)) ∧ sz1 = sz ∧ re_sp Δ hp hp1 o N pA pB tg P v)) 4 [some (.ref o), some (.int (nI c)), some (.int (nI s)), none] [] h' sz 0 0 := by
    intro m
    induction m using Nat.strongRecOn with
    | ind m ih =>
      intro s c h' P3 fo1 hm hs hc f5 f6 hsp fr
      have f0 := (fr o (by omega)).trans f0
      have f3 := (fr (o + 3) (by omega)).trans f3
      have f4 := (fr pA (by omega)).trans f4
      have fr2 : ∀ b, b ≠ o ∧ b ≠ pB ∧ b ≠ o + 6 → h' b = hp b := fun b hb => fr b ⟨hb.2.1, hb.2.2⟩
      obtain ⟨z1, z2, z3, z4⟩ := zf_spec (re_al tg P fo1 s) c 0
      have hno : ∀ p, p < zf_ff (re_al tg P fo1 s) 0 c → ¬ mo_al tg P s (fo1 p) := fun p hp2 hal => by
        have := z3 p (Nat.zero_le _) hp2
        rw [re_al_iff.mpr hal] at this
        cases this
      have hyes : zf_ff (re_al tg P fo1 s) 0 c < c → mo_al tg P s (fo1 (zf_ff (re_al tg P fo1 s) 0 c)) := fun h => re_al_iff.mp (z4 (by omega))
      generalize hv : zf_ff (re_al tg P fo1 s) 0 c = v at z1 z2 z3 z4 hno hyes
      refine zv_iload_n F d_Re_split_4 rfl ?_
      refine zv_aload_n F d_Re_split_5 rfl ?_
      refine zv_get F d_Re_split_6 (by assumption) k_Re 3 (Nat.le_of_ble_eq_true rfl) ln_Re_51 rfl (by rfl) ?_
      refine zn_icmp_ge (tgt := 55) F d_Re_split_9 rfl (by omega) (by omega) (fun h9 => ?_) (fun h9 => ?_)
      · refine zv_aload_n F d_Re_split_55 rfl ?_
        refine zv_get F d_Re_split_56 (by assumption) k_Re 4 (Nat.le_of_ble_eq_true rfl) ln_Re_21 rfl (by rfl) ?_
        refine zv_astore_n F d_Re_split_59 (Nat.le_of_ble_eq_true rfl) ?_
        simp only [zv_s1, zv_s2, zv_kill, List.set_cons_zero, List.set_cons_succ, List.getElem?_cons_zero, List.getElem?_cons_succ]
        refine zv_aload_n F d_Re_split_60 rfl ?_
        refine zv_aload_n F d_Re_split_61 rfl ?_
        refine zv_get F d_Re_split_62 (by assumption) k_Re 5 (Nat.le_of_ble_eq_true rfl) ln_Re_24 rfl (by rfl) ?_
        refine zv_put F d_Re_split_65 (by assumption) k_Re 4 (Nat.le_of_ble_eq_true rfl) ln_Re_21 rfl rfl rfl (by rfl) (by rfl) (Nat.le_of_ble_eq_true rfl) (fun hp65 e65 => ?_)
        replace f0 := zv_eq e65
        replace f3 := (zv_ne e65 (by omega)).trans f3
        replace f4 := (zv_ne e65 (by omega)).trans f4
        replace f5 := (zv_ne e65 (by omega)).trans f5
        replace f6 := (zv_ne e65 (by omega)).trans f6
        replace fr2 := fun b hb => (zv_ne (b := b) e65 (by omega)).trans (fr2 b hb)
        refine zv_aload_n F d_Re_split_68 rfl ?_
        refine zv_aload_n F d_Re_split_69 rfl ?_
        refine zv_put F d_Re_split_70 (by assumption) k_Re 5 (Nat.le_of_ble_eq_true rfl) ln_Re_24 rfl rfl rfl (by rfl) (by rfl) (Nat.le_of_ble_eq_true rfl) (fun hp70 e70 => ?_)
        replace f0 := zv_eq e70
        replace f3 := (zv_ne e70 (by omega)).trans f3
        replace f4 := (zv_ne e70 (by omega)).trans f4
        replace f5 := (zv_ne e70 (by omega)).trans f5
        replace f6 := (zv_ne e70 (by omega)).trans f6
        replace fr2 := fun b hb => (zv_ne (b := b) e70 (by omega)).trans (fr2 b hb)
        refine zv_iload_n F d_Re_split_73 rfl ?_
        exact zv_iret F d_Re_split_74 (Nat.le_of_ble_eq_true rfl) (Nat.le_of_ble_eq_true rfl) ⟨c, rfl, rfl, P3, fo1, f6, f5, fr2, Or.inr ⟨hc, f0, by have e : s = N := (by omega); rw [e] at hsp; exact hsp⟩⟩
      · refine zv_aload_n F d_Re_split_12 rfl ?_
        refine zv_iload_n F d_Re_split_13 rfl ?_
        refine zv_iload_n F d_Re_split_14 rfl ?_
        have hE := @Re_partLike_ok Γ.2.1 Δ h' sz o N pA pB s c tg P fo1 f0 f3 f4 f6 hN htg hPb (by omega) hc (fun p hp2 => by have := (hsp.1.2.1 p hp2).1; omega)
        rw [hv] at hE
        refine zv_pV2 F rfl (by assumption) k_Re.1 d_Re_split_15 (hE) Y_Re_partLike Yi_Re_partLike Yv_Re_partLike ln_Re_75 ⟨(Nat.le_of_ble_eq_true rfl), (Nat.le_of_ble_eq_true rfl)⟩ (Nat.le_of_ble_eq_true rfl) ⟨(Nat.le_of_ble_eq_true rfl), (Nat.le_of_ble_eq_true rfl)⟩ ?_
        refine zv_istore_n F d_Re_split_18 (Nat.le_of_ble_eq_true rfl) ?_
        simp only [zv_s1, zv_s2, zv_kill, List.set_cons_zero, List.set_cons_succ, List.getElem?_cons_zero, List.getElem?_cons_succ]
        refine zv_iload_n F d_Re_split_19 rfl ?_
        refine zn_bipush (x := 6) F d_Re_split_20 (by decide) ?_
        refine zn_icmp_ne (tgt := 27) F d_Re_split_22 rfl (by omega) (by omega) (fun h22 => ?_) (fun h22 => ?_)
        · refine zv_iload_n F d_Re_split_27 rfl ?_
          refine zv_iload_n F d_Re_split_28 rfl ?_
          refine zn_icmp_ne (tgt := 42) F d_Re_split_29 rfl (by omega) (by omega) (fun h29 => ?_) (fun h29 => ?_)
          · have hvc : v < c := by omega
            refine zv_aload_n F d_Re_split_42 rfl ?_
            refine zv_get F d_Re_split_43 (by assumption) k_Re 5 (Nat.le_of_ble_eq_true rfl) ln_Re_24 rfl (by rfl) ?_
            refine zv_iload_n F d_Re_split_46 rfl ?_
            refine zv_iload_n F d_Re_split_47 rfl ?_
            refine zn_iast F d_Re_split_48 (by assumption) (by omega) (by omega) (fun hp48 e48 => ?_)
            replace f0 := (zv_ne e48 (by omega)).trans f0
            replace f3 := (zv_ne e48 (by omega)).trans f3
            replace f4 := (zv_ne e48 (by omega)).trans f4
            replace f5 := zv_eq e48
            replace f6 := (zv_ne e48 (by omega)).trans f6
            replace fr := fun b hb => (zv_ne (b := b) e48 (by omega)).trans (fr b hb)
            replace fr2 := fun b hb => (zv_ne (b := b) e48 (by omega)).trans (fr2 b hb)
            refine zn_iinc F d_Re_split_49 rfl ?_
            simp only [zv_s1, zv_s2, zv_kill, List.set_cons_zero, List.set_cons_succ, List.getElem?_cons_zero, List.getElem?_cons_succ]
            refine zv_goto (tgt := 4) F d_Re_split_52 rfl ?_
            first | exact zv_weak (by repeat' (first | exact True.intro | refine And.intro rfl ?_)) (ih (N - (s + 1)) (by omega) (s + 1) c _ _ _ rfl (by omega) (by omega) f5 f6 (mo_sp_step hsp hno hyes (fun x hx => by simp only [va_up]; rw [if_neg (by omega)]) (by simp only [va_up, if_true]) (fun p _ => rfl) (fun e => absurd e (by omega)) (Or.inl ⟨hvc, rfl⟩)) fr) | exact zv_weak (by repeat' (first | exact True.intro | refine And.intro rfl ?_)) (ih (N - (s + 1)) (by omega) (s + 1) (c + 1) _ _ _ rfl (by omega) (by omega) f5 f6 (mo_sp_step hsp hno hyes (fun x hx => by simp only [va_up]; rw [if_neg (by omega)]) (by simp only [va_up, if_true]) (fun p hp2 => by simp only [va_up]; rw [if_neg (by omega)]) (fun e => by simp only [va_up, if_true]) (Or.inr ⟨h29, rfl⟩)) fr)
          · refine zv_aload_n F d_Re_split_32 rfl ?_
            refine zv_get F d_Re_split_33 (by assumption) k_Re 6 (Nat.le_of_ble_eq_true rfl) ln_Re_27 rfl (by rfl) ?_
            refine zv_iload_n F d_Re_split_36 rfl ?_
            refine zv_iload_n F d_Re_split_37 rfl ?_
            refine zn_iast F d_Re_split_38 (by assumption) (by omega) (by omega) (fun hp38 e38 => ?_)
            replace f0 := (zv_ne e38 (by omega)).trans f0
            replace f3 := (zv_ne e38 (by omega)).trans f3
            replace f4 := (zv_ne e38 (by omega)).trans f4
            replace f5 := (zv_ne e38 (by omega)).trans f5
            replace f6 := zv_eq e38
            replace fr := fun b hb => (zv_ne (b := b) e38 (by omega)).trans (fr b hb)
            replace fr2 := fun b hb => (zv_ne (b := b) e38 (by omega)).trans (fr2 b hb)
            refine zn_iinc F d_Re_split_39 rfl ?_
            simp only [zv_s1, zv_s2, zv_kill, List.set_cons_zero, List.set_cons_succ, List.getElem?_cons_zero, List.getElem?_cons_succ]
            refine zv_aload_n F d_Re_split_42 rfl ?_
            refine zv_get F d_Re_split_43 (by assumption) k_Re 5 (Nat.le_of_ble_eq_true rfl) ln_Re_24 rfl (by rfl) ?_
            refine zv_iload_n F d_Re_split_46 rfl ?_
            refine zv_iload_n F d_Re_split_47 rfl ?_
            refine zn_iast F d_Re_split_48 (by assumption) (by omega) (by omega) (fun hp48 e48 => ?_)
            replace f0 := (zv_ne e48 (by omega)).trans f0
            replace f3 := (zv_ne e48 (by omega)).trans f3
            replace f4 := (zv_ne e48 (by omega)).trans f4
            replace f5 := zv_eq e48
            replace f6 := (zv_ne e48 (by omega)).trans f6
            replace fr := fun b hb => (zv_ne (b := b) e48 (by omega)).trans (fr b hb)
            replace fr2 := fun b hb => (zv_ne (b := b) e48 (by omega)).trans (fr2 b hb)
            refine zn_iinc F d_Re_split_49 rfl ?_
            simp only [zv_s1, zv_s2, zv_kill, List.set_cons_zero, List.set_cons_succ, List.getElem?_cons_zero, List.getElem?_cons_succ]
            refine zv_goto (tgt := 4) F d_Re_split_52 rfl ?_
            first | exact zv_weak (by repeat' (first | exact True.intro | refine And.intro rfl ?_)) (ih (N - (s + 1)) (by omega) (s + 1) c _ _ _ rfl (by omega) (by omega) f5 f6 (mo_sp_step hsp hno hyes (fun x hx => by simp only [va_up]; rw [if_neg (by omega)]) (by simp only [va_up, if_true]) (fun p _ => rfl) (fun e => absurd e (by omega)) (Or.inl ⟨hvc, rfl⟩)) fr) | exact zv_weak (by repeat' (first | exact True.intro | refine And.intro rfl ?_)) (ih (N - (s + 1)) (by omega) (s + 1) (c + 1) _ _ _ rfl (by omega) (by omega) f5 f6 (mo_sp_step hsp hno hyes (fun x hx => by simp only [va_up]; rw [if_neg (by omega)]) (by simp only [va_up, if_true]) (fun p hp2 => by simp only [va_up]; rw [if_neg (by omega)]) (fun e => by simp only [va_up, if_true]) (Or.inr ⟨h29, rfl⟩)) fr)
        · refine zn_iconst (x := 4294967295) F d_Re_split_25 (by decide) ?_
          exact zv_iret F d_Re_split_26 (Nat.le_of_ble_eq_true rfl) (Nat.le_of_ble_eq_true rfl) ⟨4294967295, rfl, rfl, P3, fo1, f6, f5, fr2, Or.inl ⟨rfl, f0, fun i => if i < 6 then fo1 i else s, fun i hi => by by_cases e : i < 6; simp only [e, if_true]; have := (hsp.1.2.1 i (by omega)).1; omega; simp only [e, if_false]; omega, re_seven hsp (by omega) (fun p hp2 => hno p (by omega))⟩⟩
  refine zn_iconst (x := 0) F d_Re_split_0 (by decide) ?_
  refine zv_istore_n F d_Re_split_1 (Nat.le_of_ble_eq_true rfl) ?_
  simp only [zv_s1, zv_s2, zv_kill, List.set_cons_zero, List.set_cons_succ, List.getElem?_cons_zero, List.getElem?_cons_succ]
  refine zn_iconst (x := 0) F d_Re_split_2 (by decide) ?_
  refine zv_istore_n F d_Re_split_3 (Nat.le_of_ble_eq_true rfl) ?_
  simp only [zv_s1, zv_s2, zv_kill, List.set_cons_zero, List.set_cons_succ, List.getElem?_cons_zero, List.getElem?_cons_succ]
  exact zv_weak (by repeat' (first | exact True.intro | refine And.intro rfl ?_)) (loop _ 0 0 _ P2 fo rfl (Nat.zero_le _) (by decide) f5 f6 mo_sp_0 (fun b _ => rfl))
end
section
theorem mo_eq_succ {N k : Nat} {g A P : Nat → Nat} (hg : ∀ j, j < 2 * N → g j < N) (hP : ∀ s t, s < N → t < N → (P s = P t ↔ mo_eq g A k s t)) {s t : Nat} (hs : s < N) (ht : t < N) (h : mo_eq g A (k + 1) s t) : mo_al g P s t :=
  ⟨(hP s t hs ht).mpr h.1, (hP _ _ (hg _ (by omega)) (hg _ (by omega))).mpr h.2.1, (hP _ _ (hg _ (by omega)) (hg _ (by omega))).mpr h.2.2⟩
def re_fin (N : Nat) (tg A P1 fo1 : Nat → Nat) (v : Nat) : Prop :=
  (v = 4294967295 ∧ ∃ (k : Nat) (u : Nat → Nat), (∀ i, i < 7 → u i < N) ∧ ∀ i j, i < 7 → j < 7 → mo_eq tg A k (u i) (u j) → i = j) ∨
  (v ≤ 6 ∧ mo_fst N v P1 fo1 ∧ (∀ s t, s < N → t < N → P1 s = P1 t → mo_al tg P1 s t) ∧ (∀ s t, s < N → t < N → P1 s = P1 t → A s = A t) ∧ ∀ s t, s < N → t < N → (∀ w, A (bf_from tg s w) = A (bf_from tg t w)) → P1 s = P1 t)
theorem mo_eq_A {g A : Nat → Nat} : ∀ {k s t : Nat}, mo_eq g A k s t → A s = A t
  | 0, _, _, h => h
  | k + 1, _, _, h => mo_eq_A (k := k) h.1
theorem Re_refine_ok {l : Launch} {Δ : zv_D} {hp : zv_M} {sz : Nat} {o N pA pB : Nat} {tg A P2 fo : Nat → Nat} (hpp : re_pp o pA pB) (f0 : hp o = some (re_obj o N pA pB)) (f3 : hp (o + 3) = some (zn_I Δ 768 tg)) (f4 : hp pA = some (zn_I Δ 384 A)) (f5 : hp pB = some (zn_I Δ 384 P2)) (f6 : hp (o + 6) = some (zn_I Δ 6 fo)) (hN : N ≤ 384) (hN0 : 0 < N) (htg : ∀ j, j < 2 * N → tg j < N) (hA : ∀ s, s < N → A s < 2) : zv_E l Δ 3 y_Re_refine b_Re_refine 4 ((some (FieldType.int))) [.ref o] hp sz 0 0 (fun r hp1 sz1 => ∃ (v pA1 pB1 : Nat) (P1 P3 fo1 : Nat → Nat), r = some (.int (nI v)) ∧ sz1 = sz ∧ re_pp o pA1 pB1 ∧ hp1 o = some (re_obj o N pA1 pB1) ∧ hp1 pA1 = some (zn_I Δ 384 P1) ∧ hp1 pB1 = some (zn_I Δ 384 P3) ∧ hp1 (o + 6) = some (zn_I Δ 6 fo1) ∧ (∀ b, b ≠ o ∧ b ≠ o + 4 ∧ b ≠ o + 5 ∧ b ≠ o + 6 → hp1 b = hp b) ∧ re_fin N tg A P1 fo1 v) := by
  refine zv_E.intro (lv0 := [some (.ref o), none, none, none]) rfl (Nat.le_of_ble_eq_true rfl) rfl ?_
  intro Γ hl F
  clear hl
  have loop : ∀ (m k c : Nat) (h' : zv_M) (pA pB : Nat) (P P2 fo : Nat → Nat), m = 7 - k → k ≤ 7 → c ≤ 6 → re_pp o pA pB → h' o = some (re_obj o N pA pB) → h' (o + 3) = some (zn_I Δ 768 tg) → h' pA = some (zn_I Δ 384 P) → h' pB = some (zn_I Δ 384 P2) → h' (o + 6) = some (zn_I Δ 6 fo) → (∀ b, b ≠ o ∧ b ≠ o + 4 ∧ b ≠ o + 5 ∧ b ≠ o + 6 → h' b = hp b) → (∀ s, s < N → P s < 4294967296) → (∀ s t, s < N → t < N → (P s = P t ↔ mo_eq tg A k s t)) → ((k = 0 ∧ c = 0) ∨ (0 < k ∧ k ≤ c ∧ mo_fst N c P fo)) → zv_V Δ Γ (zv_QQ Δ Γ 0 0 (fun r hp1 sz1 => ∃ (v pA1 pB1 : Nat) (P1 P3 fo1 : Nat → Nat), r = some (.int (nI v)) ∧ sz1 = sz ∧ re_pp o pA1 pB1 ∧ hp1 o = some (re_obj o N pA1 pB1) ∧ hp1 pA1 = some (zn_I Δ 384 P1) ∧ hp1 pB1 = some (zn_I Δ 384 P3) ∧ hp1 (o + 6) = some (zn_I Δ 6 fo1) ∧ (∀ b, b ≠ o ∧ b ≠ o + 4 ∧ b ≠ o + 5 ∧ b ≠ o + 6 → hp1 b = hp b) ∧ re_fin N tg A P1 fo1 v)) 4 [some (.ref o), some (.int (nI c)), some (.int (nI k)), none] [] h' sz 0 0 := by
    intro m
    induction m using Nat.strongRecOn with
    | ind m ih =>
      intro k c h' pA pB P P2 fo hm hk hc hpp f0 f3 f4 f5 f6 fr hPb hP hin
      have hpp2 := hpp
      unfold re_pp at hpp2
      refine zv_iload_n F d_Re_refine_4 rfl ?_
      refine zn_bipush (x := 6) F d_Re_refine_5 (by decide) ?_
      refine zn_icmp_gt (tgt := 35) F d_Re_refine_7 rfl (by omega) (by omega) (fun h7 => ?_) (fun h7 => ?_)
      · exact absurd h7 (by omega)
      · refine zv_aload_n F d_Re_refine_10 rfl ?_
        refine zv_mV0 F rfl (by assumption) k_Re.1 d_Re_refine_11 (Re_split_ok hpp f0 f3 f4 f5 f6 hN htg hPb) Y_Re_split Yi_Re_split Yv_Re_split ln_Re_72 ⟨(Nat.le_of_ble_eq_true rfl), (Nat.le_of_ble_eq_true rfl)⟩ (Nat.le_of_ble_eq_true rfl) ⟨(Nat.le_of_ble_eq_true rfl), (Nat.le_of_ble_eq_true rfl)⟩ (fun r hp11 sz11 q11 => ?_)
        obtain ⟨v, rfl, rfl, P3, fo1, g6, g5, gfr, hv⟩ := q11
        have g3 := (gfr (o + 3) (by omega)).trans f3
        have g4 := (gfr pA (by omega)).trans f4
        have gr : ∀ b, b ≠ o ∧ b ≠ o + 4 ∧ b ≠ o + 5 ∧ b ≠ o + 6 → hp11 b = hp b := fun b hb => (gfr b (by omega)).trans (fr b hb)
        have hv1 : v = 4294967295 ∨ v ≤ 6 := by rcases hv with h | h; exact Or.inl h.1; exact Or.inr h.1
        try simp only [Option.toList, List.cons_append, List.nil_append]
        refine zv_istore_n F d_Re_refine_14 (Nat.le_of_ble_eq_true rfl) ?_
        simp only [zv_s1, zv_s2, zv_kill, List.set_cons_zero, List.set_cons_succ, List.getElem?_cons_zero, List.getElem?_cons_succ]
        refine zv_iload_n F d_Re_refine_15 rfl ?_
        refine zn_iconst (x := 4294967295) F d_Re_refine_16 (by decide) ?_
        refine zn_icmp_eq (tgt := 25) F d_Re_refine_17 rfl (by omega) (by omega) (fun h17 => ?_) (fun h17 => ?_)
        · refine zv_iload_n F d_Re_refine_25 rfl ?_
          exact zv_iret F d_Re_refine_26 (Nat.le_of_ble_eq_true rfl) (Nat.le_of_ble_eq_true rfl) (by
            rcases hv with ⟨e, g0, u, u1, u2⟩ | ⟨e, g0, hsp⟩
            · exact ⟨v, pA, pB, P, P3, fo1, rfl, rfl, hpp, g0, g4, g5, g6, gr, Or.inl ⟨e, k + 1, u, u1, fun i j hi hj h => u2 i j hi hj (mo_eq_succ htg hP (u1 i hi) (u1 j hj) h)⟩⟩
            · have evc : v = c := by omega
              subst evc
              have hpos : 0 < v := by have := (hsp.1.1 0 hN0).1; omega
              have hf : mo_fst N v P fo := by rcases hin with z | z; omega; exact z.2.2
              have st := mo_stable hf hsp.1 (fun s t hs ht e2 => ((hsp.2 s t hs ht).mp e2).1)
              refine ⟨v, pB, pA, P3, P, fo1, rfl, rfl, by unfold re_pp; omega, g0, g5, g4, g6, gr, Or.inr ⟨by omega, hsp.1, fun s t hs ht e2 => ?_, fun s t hs ht e2 => ?_, fun s t hs ht hw => ?_⟩⟩
              · have al := (hsp.2 s t hs ht).mp e2
                refine ⟨e2, ?_, ?_⟩
                · rw [st _ (htg _ (by omega)), st _ (htg _ (by omega))]; exact al.2.1
                · rw [st _ (htg _ (by omega)), st _ (htg _ (by omega))]; exact al.2.2
              · exact mo_eq_A ((hP s t hs ht).mp ((hsp.2 s t hs ht).mp e2).1)
              · rw [st s hs, st t ht]; exact (hP s t hs ht).mpr (mo_tell k s t hw))
        · refine zv_iload_n F d_Re_refine_20 rfl ?_
          refine zv_iload_n F d_Re_refine_21 rfl ?_
          refine zn_icmp_ne (tgt := 27) F d_Re_refine_22 rfl (by omega) (by omega) (fun h22 => ?_) (fun h22 => ?_)
          · refine zv_iload_n F d_Re_refine_27 rfl ?_
            refine zv_istore_n F d_Re_refine_28 (Nat.le_of_ble_eq_true rfl) ?_
            simp only [zv_s1, zv_s2, zv_kill, List.set_cons_zero, List.set_cons_succ, List.getElem?_cons_zero, List.getElem?_cons_succ]
            refine zn_iinc F d_Re_refine_29 rfl ?_
            simp only [zv_s1, zv_s2, zv_kill, List.set_cons_zero, List.set_cons_succ, List.getElem?_cons_zero, List.getElem?_cons_succ]
            refine zv_goto (tgt := 4) F d_Re_refine_32 rfl ?_
            rcases hv with ⟨e, g0, u, u1, u2⟩ | ⟨e, g0, hsp⟩
            · exact absurd e (by assumption)
            · refine zv_weak (by repeat' (first | exact True.intro | refine And.intro rfl ?_)) (ih (7 - (k + 1)) (by omega) (k + 1) v _ pB pA P3 P fo1 rfl (by omega) e (by unfold re_pp; omega) g0 g3 g5 g4 g6 gr (fun s hs => by have := (hsp.1.1 s hs).1; omega) (mo_eq_sp htg hP hsp) (Or.inr ⟨by omega, ?_, hsp.1⟩))
              rcases hin with ⟨z1, z2⟩ | ⟨z1, z2, z3⟩
              · have := (hsp.1.1 0 hN0).1; omega
              · have := mo_le z3 hsp.1 (fun s t hs ht e2 => ((hsp.2 s t hs ht).mp e2).1); omega
          · refine zv_iload_n F d_Re_refine_25 rfl ?_
            exact zv_iret F d_Re_refine_26 (Nat.le_of_ble_eq_true rfl) (Nat.le_of_ble_eq_true rfl) (by
              rcases hv with ⟨e, g0, u, u1, u2⟩ | ⟨e, g0, hsp⟩
              · exact ⟨v, pA, pB, P, P3, fo1, rfl, rfl, hpp, g0, g4, g5, g6, gr, Or.inl ⟨e, k + 1, u, u1, fun i j hi hj h => u2 i j hi hj (mo_eq_succ htg hP (u1 i hi) (u1 j hj) h)⟩⟩
              · have evc : v = c := by omega
                subst evc
                have hpos : 0 < v := by have := (hsp.1.1 0 hN0).1; omega
                have hf : mo_fst N v P fo := by rcases hin with z | z; omega; exact z.2.2
                have st := mo_stable hf hsp.1 (fun s t hs ht e2 => ((hsp.2 s t hs ht).mp e2).1)
                refine ⟨v, pB, pA, P3, P, fo1, rfl, rfl, by unfold re_pp; omega, g0, g5, g4, g6, gr, Or.inr ⟨by omega, hsp.1, fun s t hs ht e2 => ?_, fun s t hs ht e2 => ?_, fun s t hs ht hw => ?_⟩⟩
                · have al := (hsp.2 s t hs ht).mp e2
                  refine ⟨e2, ?_, ?_⟩
                  · rw [st _ (htg _ (by omega)), st _ (htg _ (by omega))]; exact al.2.1
                  · rw [st _ (htg _ (by omega)), st _ (htg _ (by omega))]; exact al.2.2
                · exact mo_eq_A ((hP s t hs ht).mp ((hsp.2 s t hs ht).mp e2).1)
                · rw [st s hs, st t ht]; exact (hP s t hs ht).mpr (mo_tell k s t hw))
  refine zn_iconst (x := 0) F d_Re_refine_0 (by decide) ?_
  refine zv_istore_n F d_Re_refine_1 (Nat.le_of_ble_eq_true rfl) ?_
  simp only [zv_s1, zv_s2, zv_kill, List.set_cons_zero, List.set_cons_succ, List.getElem?_cons_zero, List.getElem?_cons_succ]
  refine zn_iconst (x := 0) F d_Re_refine_2 (by decide) ?_
  refine zv_istore_n F d_Re_refine_3 (Nat.le_of_ble_eq_true rfl) ?_
  simp only [zv_s1, zv_s2, zv_kill, List.set_cons_zero, List.set_cons_succ, List.getElem?_cons_zero, List.getElem?_cons_succ]
  exact zv_weak (by repeat' (first | exact True.intro | refine And.intro rfl ?_)) (loop _ 0 0 _ pA pB A P2 fo rfl (by decide) (by decide) hpp f0 f3 f4 f5 f6 (fun b _ => rfl) (fun s hs => by have := hA s hs; omega) (fun s t _ _ => Iff.rfl) (Or.inl ⟨rfl, rfl⟩))
def re_tgt (t n a : Nat) : va_E := .inr (0, [.int (nI n), .int (nI a), .ref (t + 1)])
theorem Re_write_ok {l : Launch} {Δ : zv_D} {hp : zv_M} {sz : Nat} {o b N pA pB s0 t c n0 a0 : Nat} {S : Nat → Prop} {δ : Nat → Nat → Nat} {ac : Nat → Bool} {Bd : Nat → Prop} {cd tg P fo g0 : Nat → Nat} (hpp : re_pp o pA pB) (f0 : hp o = some (re_obj o N pA pB)) (f2 : hp (o + 2) = some (zn_I Δ 384 cd)) (f3 : hp (o + 3) = some (zn_I Δ 768 tg)) (f4 : hp pA = some (zn_I Δ 384 P)) (f6 : hp (o + 6) = some (zn_I Δ 6 fo)) (t0 : hp t = some (re_tgt t n0 a0)) (t1 : hp (t + 1) = some (zn_I Δ 12 g0)) (ht : t + 1 < o ∨ o + 7 ≤ t) (hc : c ≤ 6) (hfo : ∀ p, p < c → fo p < N) (hN : N ≤ 384) (htg : ∀ j, j < 2 * N → tg j < N) (hB : ∀ s, s < N → Bd (cd s)) (hM : mc_M Δ hp b S δ ac s0 Bd) (hS : ∀ q, S q → q < o ∨ o + 7 ≤ q) (hS2 : ∀ q, S q → q ≠ t ∧ q ≠ t + 1) : zv_E l Δ 3 y_Re_write b_Re_write 7 (none) [.ref o, .ref b, .int (nI c), .ref t] hp sz 0 0 (fun r hp1 sz1 => ∃ g1 : Nat → Nat, r = none ∧ sz1 = sz ∧ hp1 t = some (re_tgt t c (re_ab (fun p => ac (cd (fo p))) c)) ∧ hp1 (t + 1) = some (zn_I Δ 12 g1) ∧ (∀ j, j < 2 * c → g1 j = P (tg (2 * fo (j / 2) + j % 2))) ∧ (∀ j, 2 * c ≤ j → g1 j = g0 j) ∧ ∀ q, q ≠ t ∧ q ≠ t + 1 → hp1 q = hp q) := by
  refine zv_E.intro (lv0 := [some (.ref o), some (.ref b), some (.int (nI c)), some (.ref t), none, none, none]) rfl (Nat.le_of_ble_eq_true rfl) rfl ?_
  intro Γ hl F
  clear hl
  unfold re_pp at hpp
  have outer : ∀ (m p : Nat) (h' : zv_M) (g1 : Nat → Nat), m = c - p → p ≤ c → h' t = some (re_tgt t c (re_ab (fun p => ac (cd (fo p))) p)) → h' (t + 1) = some (zn_I Δ 12 g1) → (∀ j, j < 2 * p → g1 j = P (tg (2 * fo (j / 2) + j % 2))) → (∀ j, 2 * p ≤ j → g1 j = g0 j) → (∀ q, q ≠ t ∧ q ≠ t + 1 → h' q = hp q) → zv_V Δ Γ (zv_QQ Δ Γ 0 0 (fun r hp1 sz1 => ∃ g1 : Nat → Nat, r = none ∧ sz1 = sz ∧ hp1 t = some (re_tgt t c (re_ab (fun p => ac (cd (fo p))) c)) ∧ hp1 (t + 1) = some (zn_I Δ 12 g1) ∧ (∀ j, j < 2 * c → g1 j = P (tg (2 * fo (j / 2) + j % 2))) ∧ (∀ j, 2 * c ≤ j → g1 j = g0 j) ∧ ∀ q, q ≠ t ∧ q ≠ t + 1 → hp1 q = hp q)) 13 [some (.ref o), some (.ref b), some (.int (nI c)), some (.ref t), some (.int (nI p)), none, none] [] h' sz 0 0 := by
    intro m
    induction m using Nat.strongRecOn with
    | ind m ih =>
      intro p h' g1 hm hp2 t0 t1 hg1 hg2 fr
      have inner : ∀ (m2 x : Nat) (h' : zv_M) (g1 : Nat → Nat), m2 = 2 - x → x ≤ 2 → p < c → h' t = some (re_tgt t c (re_ab (fun p => ac (cd (fo p))) p)) → h' (t + 1) = some (zn_I Δ 12 g1) → (∀ j, j < 2 * p + x → g1 j = P (tg (2 * fo (j / 2) + j % 2))) → (∀ j, 2 * p + x ≤ j → g1 j = g0 j) → (∀ q, q ≠ t ∧ q ≠ t + 1 → h' q = hp q) → zv_V Δ Γ (zv_QQ Δ Γ 0 0 (fun r hp1 sz1 => ∃ g1 : Nat → Nat, r = none ∧ sz1 = sz ∧ hp1 t = some (re_tgt t c (re_ab (fun p => ac (cd (fo p))) c)) ∧ hp1 (t + 1) = some (zn_I Δ 12 g1) ∧ (∀ j, j < 2 * c → g1 j = P (tg (2 * fo (j / 2) + j % 2))) ∧ (∀ j, 2 * c ≤ j → g1 j = g0 j) ∧ ∀ q, q ≠ t ∧ q ≠ t + 1 → hp1 q = hp q)) 31 [some (.ref o), some (.ref b), some (.int (nI c)), some (.ref t), some (.int (nI p)), some (.int (nI (fo p))), some (.int (nI x))] [] h' sz 0 0 := by
        intro m2
        induction m2 using Nat.strongRecOn with
        | ind m2 ih2 =>
          intro x h' g1 hm2 hx hpc t0 t1 hg1 hg2 fr
          have f0 := (fr o (by omega)).trans f0
          have f2 := (fr (o + 2) (by omega)).trans f2
          have f3 := (fr (o + 3) (by omega)).trans f3
          have f4 := (fr pA (by omega)).trans f4
          have hfp := hfo p hpc
          refine zv_iload F d_Re_write_31 rfl ?_
          refine zn_iconst (x := 2) F d_Re_write_33 (by decide) ?_
          refine zn_icmp_ge (tgt := 72) F d_Re_write_34 rfl (by omega) (by omega) (fun h34 => ?_) (fun h34 => ?_)
          · have ex : x = 2 := by omega
            subst ex
            refine zv_aload_n F d_Re_write_72 rfl ?_
            refine zv_aload_n F d_Re_write_73 rfl ?_
            refine zv_get F d_Re_write_74 (by assumption) k_Re 1 (Nat.le_of_ble_eq_true rfl) ln_Re_15 rfl (by rfl) ?_
            refine zv_iload F d_Re_write_77 rfl ?_
            refine zn_iald F d_Re_write_79 (by assumption) (by omega) (by omega) ?_
            refine zv_callM F rfl d_Re_write_80 ((hM.2 _ h' _ (fun q hq => fr q (hS2 q hq))).2.2 (cd (fo p)) (hB _ hfp)) ln_Re_68 (by decide) rfl rfl ⟨(Nat.le_of_ble_eq_true rfl), (Nat.le_of_ble_eq_true rfl)⟩ (Nat.le_of_ble_eq_true rfl) ⟨(Nat.le_of_ble_eq_true rfl), (Nat.le_of_ble_eq_true rfl)⟩ ?_
            first | refine zn_bif_eq (tgt := 101) F d_Re_write_85 rfl (fun h85 => ?_) (fun h85 => ?_) | refine zn_if_eq (tgt := 101) F d_Re_write_85 rfl (by omega) (fun h85 => ?_) (fun h85 => ?_)
            · have es : re_ab (fun p => ac (cd (fo p))) (p + 1) = re_ab (fun p => ac (cd (fo p))) p := by rw [re_ab, if_neg (by rw [h85]; decide)]
              refine zn_iinc F d_Re_write_101 rfl ?_
              simp only [zv_s1, zv_s2, zv_kill, List.set_cons_zero, List.set_cons_succ, List.getElem?_cons_zero, List.getElem?_cons_succ]
              refine zv_goto (tgt := 13) F d_Re_write_104 rfl ?_
              exact zv_weak (by repeat' (first | exact True.intro | refine And.intro rfl ?_)) (ih (c - (p + 1)) (by omega) (p + 1) _ g1 rfl (by omega) (by rw [es]; exact t0) t1 (fun j hj => hg1 j (by omega)) (fun j hj => hg2 j (by omega)) fr)
            · have es : re_ab (fun p => ac (cd (fo p))) (p + 1) = re_ab (fun p => ac (cd (fo p))) p ||| 2 ^ p := by rw [re_ab, if_pos h85]
              refine zv_aload_n F d_Re_write_88 rfl ?_
              refine zv_dup F d_Re_write_89 rfl ?_
              refine zv_getN F d_Re_write_90 (by assumption) k_Au 1 (Nat.le_of_ble_eq_true rfl) ln_Re_85 rfl (by rfl) ?_
              refine zn_iconst (x := 1) F d_Re_write_93 (by decide) ?_
              refine zv_iload F d_Re_write_94 rfl ?_
              refine zn_ishl F d_Re_write_96 (zn_p2 (by omega)) (by omega) ?_
              rw [Nat.one_mul]
              refine zn_ior F d_Re_write_97 ?_
              refine zv_putN F d_Re_write_98 (by assumption) k_Au 1 (Nat.le_of_ble_eq_true rfl) ln_Re_85 rfl rfl rfl (by rfl) (by rfl) (Nat.le_of_ble_eq_true rfl) (fun hp98 e98 => ?_)
              replace t0 := zv_eq e98
              replace t1 := (zv_ne e98 (by omega)).trans t1
              replace fr := fun b hb => (zv_ne (b := b) e98 (by omega)).trans (fr b hb)
              refine zn_iinc F d_Re_write_101 rfl ?_
              simp only [zv_s1, zv_s2, zv_kill, List.set_cons_zero, List.set_cons_succ, List.getElem?_cons_zero, List.getElem?_cons_succ]
              refine zv_goto (tgt := 13) F d_Re_write_104 rfl ?_
              exact zv_weak (by repeat' (first | exact True.intro | refine And.intro rfl ?_)) (ih (c - (p + 1)) (by omega) (p + 1) _ g1 rfl (by omega) (by rw [es]; exact t0) t1 (fun j hj => hg1 j (by omega)) (fun j hj => hg2 j (by omega)) fr)
          · have htx := htg (2 * fo p + x) (by omega)
            refine zv_aload_n F d_Re_write_37 rfl ?_
            refine zv_getN F d_Re_write_38 (by assumption) k_Au 2 (Nat.le_of_ble_eq_true rfl) ln_Re_88 rfl (by rfl) ?_
            refine zn_iconst (x := 2) F d_Re_write_41 (by decide) ?_
            refine zv_iload F d_Re_write_42 rfl ?_
            refine zn_imul F d_Re_write_44 ?_
            refine zv_iload F d_Re_write_45 rfl ?_
            refine zn_iadd F d_Re_write_47 ?_
            refine zv_aload_n F d_Re_write_48 rfl ?_
            refine zv_get F d_Re_write_49 (by assumption) k_Re 4 (Nat.le_of_ble_eq_true rfl) ln_Re_21 rfl (by rfl) ?_
            refine zv_aload_n F d_Re_write_52 rfl ?_
            refine zv_get F d_Re_write_53 (by assumption) k_Re 2 (Nat.le_of_ble_eq_true rfl) ln_Re_18 rfl (by rfl) ?_
            refine zn_iconst (x := 2) F d_Re_write_56 (by decide) ?_
            refine zv_iload F d_Re_write_57 rfl ?_
            refine zn_imul F d_Re_write_59 ?_
            refine zv_iload F d_Re_write_60 rfl ?_
            refine zn_iadd F d_Re_write_62 ?_
            refine zn_iald F d_Re_write_63 (by assumption) (by omega) (by omega) ?_
            refine zn_iald F d_Re_write_64 (by assumption) (by omega) (by omega) ?_
            refine zn_iast F d_Re_write_65 (by assumption) (by omega) (by omega) (fun hp65 e65 => ?_)
            replace t0 := (zv_ne e65 (by omega)).trans t0
            replace t1 := zv_eq e65
            replace fr := fun b hb => (zv_ne (b := b) e65 (by omega)).trans (fr b hb)
            refine zn_iinc F d_Re_write_66 rfl ?_
            simp only [zv_s1, zv_s2, zv_kill, List.set_cons_zero, List.set_cons_succ, List.getElem?_cons_zero, List.getElem?_cons_succ]
            refine zv_goto (tgt := 31) F d_Re_write_69 rfl ?_
            refine zv_weak (by repeat' (first | exact True.intro | refine And.intro rfl ?_)) (ih2 (2 - (x + 1)) (by omega) (x + 1) _ _ rfl (by omega) hpc t0 t1 (fun j hj => ?_) (fun j hj => ?_) fr)
            · by_cases e : j = 2 * p + x
              · simp only [va_up, e, if_true]; rw [show (2 * p + x) / 2 = p by omega, show (2 * p + x) % 2 = x by omega]
              · simp only [va_up, e, if_false]; exact hg1 j (by omega)
            · simp only [va_up]; rw [if_neg (by omega)]; exact hg2 j (by omega)
      have f0 := (fr o (by omega)).trans f0
      have f6 := (fr (o + 6) (by omega)).trans f6
      refine zv_iload F d_Re_write_13 rfl ?_
      refine zv_iload_n F d_Re_write_15 rfl ?_
      refine zn_icmp_ge (tgt := 107) F d_Re_write_16 rfl (by omega) (by omega) (fun h16 => ?_) (fun h16 => ?_)
      · exact zv_vret F d_Re_write_107 (Nat.le_of_ble_eq_true rfl) (Nat.le_of_ble_eq_true rfl) (by have e : p = c := (by omega); subst e; exact ⟨g1, rfl, rfl, t0, t1, hg1, hg2, fr⟩)
      · refine zv_aload_n F d_Re_write_19 rfl ?_
        refine zv_get F d_Re_write_20 (by assumption) k_Re 6 (Nat.le_of_ble_eq_true rfl) ln_Re_27 rfl (by rfl) ?_
        refine zv_iload F d_Re_write_23 rfl ?_
        refine zn_iald F d_Re_write_25 (by assumption) (by omega) (by omega) ?_
        refine zv_istore F d_Re_write_26 (Nat.le_of_ble_eq_true rfl) ?_
        simp only [zv_s1, zv_s2, zv_kill, List.set_cons_zero, List.set_cons_succ, List.getElem?_cons_zero, List.getElem?_cons_succ]
        refine zn_iconst (x := 0) F d_Re_write_28 (by decide) ?_
        refine zv_istore F d_Re_write_29 (Nat.le_of_ble_eq_true rfl) ?_
        simp only [zv_s1, zv_s2, zv_kill, List.set_cons_zero, List.set_cons_succ, List.getElem?_cons_zero, List.getElem?_cons_succ]
        exact zv_weak (by repeat' (first | exact True.intro | refine And.intro rfl ?_)) (inner _ 0 _ g1 rfl (by decide) (by omega) t0 t1 hg1 hg2 fr)
  have fr : ∀ q, q ≠ t ∧ q ≠ t + 1 → hp q = hp q := fun q _ => rfl
  refine zv_aload_n F d_Re_write_0 rfl ?_
  refine zv_iload_n F d_Re_write_1 rfl ?_
  refine zv_putN F d_Re_write_2 (by assumption) k_Au 0 (Nat.le_of_ble_eq_true rfl) ln_Re_82 rfl rfl rfl (by rfl) (by rfl) (Nat.le_of_ble_eq_true rfl) (fun hp2 e2 => ?_)
  replace t0 := zv_eq e2
  replace t1 := (zv_ne e2 (by omega)).trans t1
  replace fr := fun b hb => (zv_ne (b := b) e2 (by omega)).trans (fr b hb)
  refine zv_aload_n F d_Re_write_5 rfl ?_
  refine zn_iconst (x := 0) F d_Re_write_6 (by decide) ?_
  refine zv_putN F d_Re_write_7 (by assumption) k_Au 1 (Nat.le_of_ble_eq_true rfl) ln_Re_85 rfl rfl rfl (by rfl) (by rfl) (Nat.le_of_ble_eq_true rfl) (fun hp7 e7 => ?_)
  replace t0 := zv_eq e7
  replace t1 := (zv_ne e7 (by omega)).trans t1
  replace fr := fun b hb => (zv_ne (b := b) e7 (by omega)).trans (fr b hb)
  refine zn_iconst (x := 0) F d_Re_write_10 (by decide) ?_
  refine zv_istore F d_Re_write_11 (Nat.le_of_ble_eq_true rfl) ?_
  simp only [zv_s1, zv_s2, zv_kill, List.set_cons_zero, List.set_cons_succ, List.getElem?_cons_zero, List.getElem?_cons_succ]
  exact zv_weak (by repeat' (first | exact True.intro | refine And.intro rfl ?_)) (outer _ 0 _ g0 rfl (Nat.zero_le _) t0 t1 (fun j hj => by omega) (fun j _ => rfl) fr)
end
section
def mc_run (δ : Nat → Nat → Nat) (s0 : Nat) (w : List Bool) : Nat := w.foldl (fun x b => δ x b.toNat) s0
theorem mc_run_snoc (δ : Nat → Nat → Nat) (s0 : Nat) (w : List Bool) (b : Bool) : mc_run δ s0 (w ++ [b]) = δ (mc_run δ s0 w) b.toNat := by
  simp [mc_run, List.foldl_append]
theorem zf_snoc {p : List Bool → Prop} (h0 : p []) (hs : ∀ w b, p w → p (w ++ [b])) : ∀ w, p w := by
  have key : ∀ (n : Nat) (w : List Bool), w.length = n → p w := by
    intro n
    induction n with
    | zero => intro w hw; rw [List.eq_nil_of_length_eq_zero hw]; exact h0
    | succ n ih =>
      intro w hw
      have hne : w ≠ [] := fun e => by rw [e] at hw; simp at hw
      have e := List.dropLast_concat_getLast hne
      rw [← e]
      refine hs _ _ (ih _ ?_)
      rw [List.length_dropLast, hw]
      rfl
  exact fun w => key w.length w rfl
theorem re_run {N s0 : Nat} {δ : Nat → Nat → Nat} {cd tg : Nat → Nat} (hn : bf_num N tg) (h0 : cd 0 = s0) (ht : ∀ i, i < 2 * N → cd (tg i) = δ (cd (i / 2)) (i % 2)) : ∀ w, cd (bf_run tg w) = mc_run δ s0 w := by
  refine zf_snoc h0 fun w b ih => ?_
  have hb : b.toNat < 2 := by cases b <;> decide
  have hlt := bf_run_lt hn w
  rw [bf_run_snoc, mc_run_snoc, ht _ (by omega), ← ih, show (2 * bf_run tg w + b.toNat) / 2 = bf_run tg w by omega, show (2 * bf_run tg w + b.toNat) % 2 = b.toNat by omega]
def mc_L (δ : Nat → Nat → Nat) (ac : Nat → Bool) (s0 : Nat) (w : List Bool) : Prop := ac (mc_run δ s0 w) = true
def re_at (Δ : zv_D) (hp : zv_M) (o : Nat) : Prop := ∃ (N pA pB : Nat) (nc cd tg P P2 fo : Nat → Nat), re_pp o pA pB ∧ hp o = some (re_obj o N pA pB) ∧ hp (o + 1) = some (zn_I Δ 384 nc) ∧ hp (o + 2) = some (zn_I Δ 384 cd) ∧ hp (o + 3) = some (zn_I Δ 768 tg) ∧ hp pA = some (zn_I Δ 384 P) ∧ hp pB = some (zn_I Δ 384 P2) ∧ hp (o + 6) = some (zn_I Δ 6 fo)
/-- a least automaton in its cells -/
def au_L (Δ : zv_D) (hp : zv_M) (t : Nat) (L : List Bool → Prop) : Prop := ∃ (n ab : Nat) (g : Nat → Nat), au_at Δ hp t n ab g ∧ au_ok n ab g ∧ ab = re_ab (pm_tb ab) n ∧ le_A L n g (pm_tb ab)
theorem re_done {N c k : Nat} {tg A P fo cd : Nat → Nat} {ac : Nat → Bool} {δ : Nat → Nat → Nat} {s0 : Nat} (hn : bf_num N tg) (h0 : cd 0 = s0) (ht : ∀ i, i < 2 * N → cd (tg i) = δ (cd (i / 2)) (i % 2)) (hA : ∀ s, s < N → A s = (ac (cd s)).toNat) (hc : c ≤ 6) (hf : mo_fst N c P fo) (h1 : ∀ s t, s < N → t < N → P s = P t → mo_al tg P s t) (h2 : ∀ s t, s < N → t < N → P s = P t → A s = A t) (h3 : ∀ s t, s < N → t < N → (∀ w, A (bf_from tg s w) = A (bf_from tg t w)) → P s = P t) {g0 g1 : Nat → Nat} (hg0 : ∀ j, j < 12 → g0 j < 6) (hg1 : ∀ j, j < 2 * c → g1 j = P (tg (2 * fo (j / 2) + j % 2))) (hg2 : ∀ j, 2 * c ≤ j → g1 j = g0 j) :
    au_ok c (re_ab (fun p => ac (cd (fo p))) c) g1 ∧ re_ab (fun p => ac (cd (fo p))) c = re_ab (pm_tb (re_ab (fun p => ac (cd (fo p))) c)) c ∧ le_A (mc_L δ ac s0) c g1 (pm_tb (re_ab (fun p => ac (cd (fo p))) c)) := by
  have bit : ∀ p, p < c → pm_tb (re_ab (fun p => ac (cd (fo p))) c) p = ac (cd (fo p)) := fun p hp => by
    refine Bool.eq_iff_iff.mpr ?_
    unfold pm_tb
    rw [decide_eq_true_iff]
    exact re_ab_bit hp
  have hg : ∀ j, j < 2 * N → tg j < N := fun j hj => (hn.2.1 j hj).1
  have tn : ∀ {b1 b2 : Bool}, b1.toNat = b2.toNat → b1 = b2 := fun {b1 b2} h => by cases b1 <;> cases b2 <;> first | rfl | (exact absurd h (by decide))
  refine ⟨⟨hc, ?_, fun j hj => ?_⟩, re_ab_congr (fun p hp => (bit p hp).symm), ?_⟩
  · exact Nat.lt_of_lt_of_le (re_ab_lt _ c) (Nat.pow_le_pow_right (by decide) hc)
  · by_cases e : j < 2 * c
    · rw [hg1 j e]
      have q := (hf.2.1 (j / 2) (by omega)).1
      have := (hf.1 _ (hg (2 * fo (j / 2) + j % 2) (by omega))).1
      omega
    · rw [hg2 j (by omega)]
      exact hg0 j hj
  · refine mo_least (a := fun s => ac (cd s)) hn (fun w => ?_) hf h1 (fun s t hs ht2 e => tn (by rw [← hA s hs, ← hA t ht2]; exact h2 s t hs ht2 e)) (fun s t hs ht2 hw => h3 s t hs ht2 (fun w => by rw [hA _ (bf_from_lt hg w s hs), hA _ (bf_from_lt hg w t ht2), hw w])) (fun p hp => ?_) bit
    · show ac (cd (bf_run tg w)) = true ↔ _
      rw [re_run hn h0 ht]
      exact Iff.rfl
    · constructor
      · rw [hg1 _ (by omega), show 2 * p / 2 = p by omega, show 2 * p % 2 = 0 by omega]; rfl
      · rw [hg1 _ (by omega), show (2 * p + 1) / 2 = p by omega, show (2 * p + 1) % 2 = 1 by omega]
theorem Re_reduce_ok {l : Launch} {Δ : zv_D} {hp : zv_M} {sz : Nat} {o b s0 t n0 a0 : Nat} {S : Nat → Prop} {δ : Nat → Nat → Nat} {ac : Nat → Bool} {Bd : Nat → Prop} {g0 : Nat → Nat} (hR : re_at Δ hp o) (t0 : hp t = some (re_tgt t n0 a0)) (t1 : hp (t + 1) = some (zn_I Δ 12 g0)) (hg0 : ∀ j, j < 12 → g0 j < 6) (ht : t + 1 < o ∨ o + 7 ≤ t) (hM : mc_M Δ hp b S δ ac s0 Bd) (hS : ∀ q, S q → q < o ∨ o + 7 ≤ q) (hS2 : ∀ q, S q → q ≠ t ∧ q ≠ t + 1) : zv_E l Δ 4 y_Re_reduce b_Re_reduce 4 ((some (FieldType.boolean))) [.ref o, .ref b, .ref t] hp sz 0 0 (fun r hp1 sz1 => ∃ bb : Bool, r = some (.int (nI bb.toNat)) ∧ sz1 = sz ∧ re_at Δ hp1 o ∧ (∀ q, (q < o ∨ o + 7 ≤ q) ∧ q ≠ t ∧ q ≠ t + 1 → hp1 q = hp q) ∧ (bb = false → le_big (mc_L δ ac s0) 7 ∧ hp1 t = hp t ∧ hp1 (t + 1) = hp (t + 1)) ∧ (bb = true → au_L Δ hp1 t (mc_L δ ac s0))) := by
  refine zv_E.intro (lv0 := [some (.ref o), some (.ref b), some (.ref t), none]) rfl (Nat.le_of_ble_eq_true rfl) rfl ?_
  intro Γ hl F
  clear hl
  obtain ⟨N, pA, pB, nc, cd, tg, P, P2, fo, hpp, f0, f1, f2, f3, f4, f5, f6⟩ := hR
  have hpp2 := hpp
  unfold re_pp at hpp2
  refine zv_aload_n F d_Re_reduce_0 rfl ?_
  refine zv_aload_n F d_Re_reduce_1 rfl ?_
  refine zv_mV1 F rfl (by assumption) k_Re.1 d_Re_reduce_2 (Re_explore_ok f0 f1 f2 f3 hM hS) Y_Re_explore Yi_Re_explore Yv_Re_explore ln_Re_30 ⟨(Nat.le_of_ble_eq_true rfl), (Nat.le_of_ble_eq_true rfl)⟩ (Nat.le_of_ble_eq_true rfl) ⟨(Nat.le_of_ble_eq_true rfl), (Nat.le_of_ble_eq_true rfl)⟩ (fun r hp2 sz2 q2 => ?_)
  obtain ⟨N, nc, cd, tg, rfl, rfl, f0, f1, f2, f3, fr, hi, hb, h0, hBd, htr⟩ := q2
  replace f4 := (fr pA (by omega)).trans f4
  replace f5 := (fr pB (by omega)).trans f5
  replace f6 := (fr (o + 6) (by omega)).trans f6
  have hN := hi.1
  have hN0 : 0 < N := by have := hb.1; omega
  have hn := bf_inv_end hb hN0
  have htg : ∀ j, j < 2 * N → tg j < N := fun j hj => (htr j hj).1
  have M2 : mc_M Δ hp2 b S δ ac s0 Bd := hM.moved (fun q hq => fr q (by have := hS q hq; omega))
  try simp only [Option.toList, List.cons_append, List.nil_append]
  refine zv_aload_n F d_Re_reduce_5 rfl ?_
  refine zv_aload_n F d_Re_reduce_6 rfl ?_
  refine zv_mV1 F rfl (by assumption) k_Re.1 d_Re_reduce_7 (Re_partByAcceptance_ok hpp f0 f2 f4 hN hBd M2 hS) Y_Re_partByAcceptance Yi_Re_partByAcceptance Yv_Re_partByAcceptance ln_Re_34 ⟨(Nat.le_of_ble_eq_true rfl), (Nat.le_of_ble_eq_true rfl)⟩ (Nat.le_of_ble_eq_true rfl) ⟨(Nat.le_of_ble_eq_true rfl), (Nat.le_of_ble_eq_true rfl)⟩ (fun r hp7 sz7 q7 => ?_)
  obtain ⟨A, rfl, rfl, f4, hA, fr2⟩ := q7
  replace f0 := (fr2 o (by omega)).trans f0
  replace f1 := (fr2 (o + 1) (by omega)).trans f1
  replace f2 := (fr2 (o + 2) (by omega)).trans f2
  replace f3 := (fr2 (o + 3) (by omega)).trans f3
  replace f5 := (fr2 pB (by omega)).trans f5
  replace f6 := (fr2 (o + 6) (by omega)).trans f6
  have hA2 : ∀ s, s < N → A s < 2 := fun s hs => by rw [hA s hs]; cases ac (cd s) <;> decide
  try simp only [Option.toList, List.cons_append, List.nil_append]
  refine zv_aload_n F d_Re_reduce_10 rfl ?_
  refine zv_mV0 F rfl (by assumption) k_Re.1 d_Re_reduce_11 (Re_refine_ok hpp f0 f3 f4 f5 f6 hN hN0 htg hA2) Y_Re_refine Yi_Re_refine Yv_Re_refine ln_Re_37 ⟨(Nat.le_of_ble_eq_true rfl), (Nat.le_of_ble_eq_true rfl)⟩ (Nat.le_of_ble_eq_true rfl) ⟨(Nat.le_of_ble_eq_true rfl), (Nat.le_of_ble_eq_true rfl)⟩ (fun r hp11 sz11 q11 => ?_)
  obtain ⟨v, pA, pB, P, P2, fo, rfl, rfl, hpp, f0, f4, f5, f6, fr3, hfin⟩ := q11
  have hpp3 := hpp
  unfold re_pp at hpp3
  replace f1 := (fr3 (o + 1) (by omega)).trans f1
  replace f2 := (fr3 (o + 2) (by omega)).trans f2
  replace f3 := (fr3 (o + 3) (by omega)).trans f3
  have hv1 : v = 4294967295 ∨ v ≤ 6 := by rcases hfin with h | h; exact Or.inl h.1; exact Or.inr h.1
  have fo0 : ∀ q, (q < o ∨ o + 7 ≤ q) → hp11 q = hp q := fun q hq => (fr3 q (by omega)).trans ((fr2 q (by omega)).trans (fr q (by omega)))
  have M3 : mc_M Δ hp11 b S δ ac s0 Bd := hM.moved (fun q hq => fo0 q (hS q hq))
  try simp only [Option.toList, List.cons_append, List.nil_append]
  refine zv_istore_n F d_Re_reduce_14 (Nat.le_of_ble_eq_true rfl) ?_
  simp only [zv_s1, zv_s2, zv_kill, List.set_cons_zero, List.set_cons_succ, List.getElem?_cons_zero, List.getElem?_cons_succ]
  refine zv_iload_n F d_Re_reduce_15 rfl ?_
  refine zn_iconst (x := 4294967295) F d_Re_reduce_16 (by decide) ?_
  refine zn_icmp_ne (tgt := 22) F d_Re_reduce_17 rfl (by omega) (by omega) (fun h17 => ?_) (fun h17 => ?_)
  · refine zv_aload_n F d_Re_reduce_22 rfl ?_
    refine zv_aload_n F d_Re_reduce_23 rfl ?_
    refine zv_iload_n F d_Re_reduce_24 rfl ?_
    refine zv_aload_n F d_Re_reduce_25 rfl ?_
    obtain ⟨e6, hf, c1, c2, c3⟩ : v ≤ 6 ∧ mo_fst N v P fo ∧ (∀ s t, s < N → t < N → P s = P t → mo_al tg P s t) ∧ (∀ s t, s < N → t < N → P s = P t → A s = A t) ∧ ∀ s t, s < N → t < N → (∀ w, A (bf_from tg s w) = A (bf_from tg t w)) → P s = P t := by rcases hfin with h | h; exact absurd h.1 h17; exact h
    refine zv_mV3 F rfl (by assumption) k_Re.1 d_Re_reduce_26 (Re_write_ok hpp f0 f2 f3 f4 f6 ((fo0 t (by omega)).trans t0) ((fo0 (t + 1) (by omega)).trans t1) ht e6 (fun p hp2 => (hf.2.1 p hp2).1) hN htg hBd M3 hS hS2) Y_Re_write Yi_Re_write Yv_Re_write ln_Re_41 ⟨(Nat.le_of_ble_eq_true rfl), (Nat.le_of_ble_eq_true rfl)⟩ (Nat.le_of_ble_eq_true rfl) ⟨(Nat.le_of_ble_eq_true rfl), (Nat.le_of_ble_eq_true rfl)⟩ (fun r hp26 sz26 q26 => ?_)
    obtain ⟨g1, rfl, rfl, w0, w1, hg1, hg2, fr4⟩ := q26
    obtain ⟨d1, d2, d3⟩ := re_done (k := 0) hn h0 (fun i hi => (htr i hi).2) hA e6 hf c1 c2 c3 hg0 hg1 hg2
    try simp only [Option.toList, List.cons_append, List.nil_append]
    refine zn_iconst (x := 1) F d_Re_reduce_29 (by decide) ?_
    exact zv_zret F d_Re_reduce_30 (Nat.le_of_ble_eq_true rfl) (Nat.le_of_ble_eq_true rfl) (by first | rfl | exact zn_nb _) ⟨true, rfl, rfl, ⟨N, pA, pB, nc, cd, tg, P, P2, fo, hpp, (fr4 o (by omega)).trans f0, (fr4 (o + 1) (by omega)).trans f1, (fr4 (o + 2) (by omega)).trans f2, (fr4 (o + 3) (by omega)).trans f3, (fr4 pA (by omega)).trans f4, (fr4 pB (by omega)).trans f5, (fr4 (o + 6) (by omega)).trans f6⟩, fun q hq => (fr4 q hq.2).trans (fo0 q hq.1), (fun h => by cases h), fun _ => ⟨v, _, g1, ⟨w0, w1⟩, d1, d2, d3⟩⟩
  · refine zn_iconst (x := 0) F d_Re_reduce_20 (by decide) ?_
    exact zv_zret F d_Re_reduce_21 (Nat.le_of_ble_eq_true rfl) (Nat.le_of_ble_eq_true rfl) (by first | rfl | exact zn_nb _) (by
      rcases hfin with ⟨e, k, u, u1, u2⟩ | ⟨e, _⟩
      · refine ⟨false, rfl, rfl, ⟨N, pA, pB, nc, cd, tg, P, P2, fo, hpp, f0, f1, f2, f3, f4, f5, f6⟩, fun q hq => fo0 q hq.1, fun _ => ⟨mo_big (A := A) hn (fun w => ?_) hA2 u1 u2, fo0 t (by omega), fo0 (t + 1) (by omega)⟩, fun h => by cases h⟩
        rw [hA _ (bf_run_lt hn w), re_run hn h0 (fun i hi => (htr i hi).2)]
        unfold mc_L
        cases ac (mc_run δ s0 w) <;> decide
      · exact absurd e (by omega))
end
section
-- maps of states packed in three bits each; the algebra's table. Behind more.lean.txt and the automaton. Own work.
theorem au_pk_lt {f : Nat → Nat} : ∀ {n : Nat}, (∀ q, q < n → f q < 8) → au_pk f n < 2 ^ (3 * n)
  | 0, _ => by simp [au_pk]
  | n + 1, h => by
    have h1 := au_pk_lt (f := f) (n := n) (fun q hq => h q (by omega))
    have h2 := h n (by omega)
    have e : 2 ^ (3 * (n + 1)) = 8 * 2 ^ (3 * n) := by
      rw [show 3 * (n + 1) = 3 * n + 3 by omega, Nat.pow_add, Nat.mul_comm]
    have h3 : 2 ^ (3 * n) ≤ 2 ^ (3 * (n + 1)) := Nat.pow_le_pow_right (by decide) (by omega)
    unfold au_pk
    refine Nat.or_lt_two_pow (Nat.lt_of_lt_of_le h1 h3) ?_
    rw [e]
    exact (Nat.mul_lt_mul_right (Nat.two_pow_pos _)).mpr h2
theorem au_pk_succ {f : Nat → Nat} {n : Nat} (h : ∀ q, q < n → f q < 8) : au_pk f (n + 1) = 2 ^ (3 * n) * f n + au_pk f n := by
  rw [Nat.two_pow_add_eq_or_of_lt (au_pk_lt h), au_pk, Nat.or_comm, Nat.mul_comm]
theorem au_pk_at {f : Nat → Nat} : ∀ {n : Nat}, (∀ q, q < n → f q < 8) → ∀ q, q < n → au_pk f n / 2 ^ (3 * q) % 8 = f q
  | 0, _, q, hq => by omega
  | n + 1, h, q, hq => by
    have hl := au_pk_lt (f := f) (n := n) (fun q hq => h q (by omega))
    have hn := h n (by omega)
    rw [au_pk_succ (fun q hq => h q (by omega))]
    by_cases e : q = n
    · subst e
      rw [Nat.mul_add_div (Nat.two_pow_pos _), Nat.div_eq_of_lt hl, Nat.add_zero, Nat.mod_eq_of_lt hn]
    · have ih := au_pk_at (f := f) (n := n) (fun q hq => h q (by omega)) q (by omega)
      obtain ⟨k, hk⟩ : ∃ k, n = q + (k + 1) := ⟨n - q - 1, by omega⟩
      have e2 : 2 ^ (3 * n) * f n = 2 ^ (3 * q) * (8 * (2 ^ (3 * k) * f n)) := by
        rw [hk, show 3 * (q + (k + 1)) = 3 * q + (3 + 3 * k) by omega, Nat.pow_add, Nat.pow_add, show (2 : Nat) ^ 3 = 8 from rfl, Nat.mul_assoc, Nat.mul_assoc]
      rw [e2, Nat.mul_add_div (Nat.two_pow_pos _), Nat.mul_add_mod]
      exact ih
theorem au_pk_congr {f f2 : Nat → Nat} : ∀ {n : Nat}, (∀ q, q < n → f q = f2 q) → au_pk f n = au_pk f2 n
  | 0, _ => rfl
  | n + 1, h => by
    unfold au_pk
    rw [au_pk_congr (n := n) (fun q hq => h q (by omega)), h n (by omega)]
theorem au_pk_inj {f f2 : Nat → Nat} {n : Nat} (h : ∀ q, q < n → f q < 8) (h2 : ∀ q, q < n → f2 q < 8) : au_pk f n = au_pk f2 n ↔ ∀ q, q < n → f q = f2 q := by
  refine ⟨fun e q hq => ?_, au_pk_congr⟩
  have a := au_pk_at h q hq
  rw [e, au_pk_at h2 q hq] at a
  exact a.symm
/-- the table of the algebra: words that do the same -/
def al_T (n : Nat) (g : Nat → Nat) (e : Nat) (lg : Nat → Nat) : Prop := bf_num e lg ∧ ∀ u v, bf_run lg u = bf_run lg v ↔ ∀ q, q < n → bf_from g q u = bf_from g q v
def al_big (n : Nat) (g : Nat → Nat) (m : Nat) : Prop := ∃ u : Nat → List Bool, ∀ i j, i < m → j < m → (∀ q, q < n → bf_from g q (u i) = bf_from g q (u j)) → i = j
theorem al_T_same {n e1 e2 : Nat} {g lg1 lg2 : Nat → Nat} (h1 : al_T n g e1 lg1) (h2 : al_T n g e2 lg2) : e1 = e2 ∧ ∀ k, k < 2 * e1 → lg1 k = lg2 k :=
  bf_same h1.1 h2.1 (fun u v => (h1.2 u v).trans (h2.2 u v).symm)
theorem al_T_big {n e m : Nat} {g lg : Nat → Nat} (h : al_T n g e lg) (hb : al_big n g m) : m ≤ e := by
  obtain ⟨u, hu⟩ := hb
  exact le_pig e m (fun i => bf_run lg (u i)) (fun i _ => bf_run_lt h.1 _) (fun i j hi hj q => hu i j hi hj ((h.2 _ _).mp q))
/-- the least words as numbers -/
def al_W (e : Nat) (lg wd : Nat → Nat) : Prop := wd 0 = 1 ∧ ∀ k, 0 < k → k < e → ∃ j, lg j = k ∧ (∀ i, i < j → lg i ≠ k) ∧ j / 2 < k ∧ wd k = 2 * wd (j / 2) + j % 2
theorem al_W_same {e : Nat} {lg lg2 wd wd2 : Nat → Nat} (hl : ∀ k, k < 2 * e → lg k = lg2 k) (h : al_W e lg wd) (h2 : al_W e lg2 wd2) : ∀ k, k < e → wd k = wd2 k := by
  intro k
  induction k using Nat.strongRecOn with
  | ind k ih =>
    intro hk
    by_cases e0 : k = 0
    · rw [e0, h.1, h2.1]
    · obtain ⟨j, a1, a2, a3, a4⟩ := h.2 k (by omega) hk
      obtain ⟨j2, b1, b2, b3, b4⟩ := h2.2 k (by omega) hk
      have ej : j = j2 := by
        refine Nat.le_antisymm (Nat.le_of_not_lt fun z => ?_) (Nat.le_of_not_lt fun z => ?_)
        · exact a2 j2 z (by rw [hl j2 (by omega)]; exact b1)
        · exact b2 j z (by rw [← hl j (by omega)]; exact a1)
      subst ej
      rw [a4, b4, ih _ a3 (by omega)]
/-- products -/
def al_P (e : Nat) (lg pr : Nat → Nat) : Prop := ∀ u v, pr (60 * bf_run lg u + bf_run lg v) = bf_run lg (u ++ v)
theorem al_P_same {e : Nat} {lg lg2 pr pr2 : Nat → Nat} (hn : bf_num e lg) (hn2 : bf_num e lg2) (hl : ∀ k, k < 2 * e → lg k = lg2 k) (h : al_P e lg pr) (h2 : al_P e lg2 pr2) : ∀ j k, j < e → k < e → pr (60 * j + k) = pr2 (60 * j + k) := by
  intro j k hj hk
  have run : ∀ w, bf_run lg w = bf_run lg2 w := by
    intro w
    have key : ∀ (w : List Bool) (s : Nat), s < e → bf_from lg s w = bf_from lg2 s w := by
      intro w
      induction w with
      | nil => intro s _; rfl
      | cons b w ih =>
        intro s hs
        have hb : b.toNat < 2 := by cases b <;> decide
        rw [bf_from_cons, bf_from_cons, hl _ (by omega)]
        exact ih _ (hn2.2.1 _ (by omega)).1
    exact key w 0 hn.1
  obtain ⟨u, hu⟩ := bf_all hn hj
  obtain ⟨v, hv⟩ := bf_all hn hk
  have a := h u v
  have b := h2 u v
  rw [← run, ← run, ← run] at b
  rw [hu, hv] at a b
  rw [a, b]
/-- sets of elements as bits -/
def al_or (f : Nat → Nat) : Nat → Nat
  | 0 => 0
  | x + 1 => al_or f x ||| f x
theorem al_or_congr {f f2 : Nat → Nat} : ∀ {n : Nat}, (∀ q, q < n → f q = f2 q) → al_or f n = al_or f2 n
  | 0, _ => rfl
  | n + 1, h => by
    unfold al_or
    rw [al_or_congr (n := n) (fun q hq => h q (by omega)), h n (by omega)]
theorem al_or_lt {f : Nat → Nat} {k : Nat} : ∀ {n : Nat}, (∀ q, q < n → f q < 2 ^ k) → al_or f n < 2 ^ k
  | 0, _ => Nat.two_pow_pos _
  | n + 1, h => by
    unfold al_or
    exact Nat.or_lt_two_pow (al_or_lt (n := n) (fun q hq => h q (by omega))) (h n (by omega))
def al_r (e : Nat) (pr : Nat → Nat) (j : Nat) : Nat := al_or (fun x => 2 ^ pr (60 * j + x)) e
def al_l (e : Nat) (pr : Nat → Nat) (j : Nat) : Nat := al_or (fun x => 2 ^ pr (60 * x + j)) e
def al_b (e : Nat) (pr : Nat → Nat) (j : Nat) : Nat := al_or (fun x => al_r e pr (pr (60 * x + j))) e
end
section
/-- the search, at slot j with m elements found -/
def al_G (n : Nat) (g : Nat → Nat) (m j : Nat) (mp lg sh la : Nat → Nat) : Prop :=
  bf_inv m j lg ∧ (∃ ws : Nat → List Bool, ∀ k, k < m → mp k = au_pk (fun q => bf_from g q (ws k)) n) ∧ (∀ k k2, k < m → k2 < m → mp k = mp k2 → k = k2) ∧ mp 0 = au_pk (fun q => q) n ∧
  (∀ i, i < j → lg i < m ∧ mp (lg i) = au_pk (fun q => g (2 * (mp (i / 2) / 2 ^ (3 * q) % 8) + i % 2)) n) ∧ ∀ k, 0 < k → k < m → sh k < k ∧ la k < 2 ∧ 2 * sh k + la k < j ∧ lg (2 * sh k + la k) = k ∧ ∀ i, i < 2 * sh k + la k → lg i < k
theorem bf_from_snoc (g : Nat → Nat) (s : Nat) (w : List Bool) (b : Bool) : bf_from g s (w ++ [b]) = g (2 * bf_from g s w + b.toNat) := by
  simp [bf_from, List.foldl_append]
theorem al_dig {n m k : Nat} {g mp : Nat → Nat} {ws : Nat → List Bool} (hn : n ≤ 6) (hg : ∀ j, j < 2 * n → g j < n) (h : ∀ k, k < m → mp k = au_pk (fun q => bf_from g q (ws k)) n) (hk : k < m) : ∀ q, q < n → mp k / 2 ^ (3 * q) % 8 = bf_from g q (ws k) := by
  intro q hq
  rw [h k hk]
  exact au_pk_at (fun q hq => by have := bf_from_lt hg (ws k) q hq; omega) q hq
theorem al_b2 (c : Nat) (hc : c < 2) : ∃ b : Bool, b.toNat = c := by
  by_cases h : c = 1
  · exact ⟨true, h.symm⟩
  · exact ⟨false, by simp; omega⟩
theorem al_new {n m j : Nat} {g mp : Nat → Nat} {ws : Nat → List Bool} (hn : n ≤ 6) (hg : ∀ j, j < 2 * n → g j < n) (h : ∀ k, k < m → mp k = au_pk (fun q => bf_from g q (ws k)) n) (hj : j / 2 < m) : ∃ w : List Bool, au_pk (fun q => g (2 * (mp (j / 2) / 2 ^ (3 * q) % 8) + j % 2)) n = au_pk (fun q => bf_from g q w) n := by
  obtain ⟨b, hb⟩ := al_b2 (j % 2) (by omega)
  refine ⟨ws (j / 2) ++ [b], au_pk_congr fun q hq => ?_⟩
  rw [bf_from_snoc, al_dig hn hg h hj q hq, hb]
theorem al_G_0 {n : Nat} {g mp lg sh la : Nat → Nat} (h : mp 0 = au_pk (fun q => q) n) : al_G n g 1 0 mp lg sh la :=
  ⟨bf_inv_0 lg, ⟨fun _ => [], fun k hk => by rw [show k = 0 by omega]; exact h⟩, fun k k2 h1 h2 _ => by omega, h, fun i hi => by omega, fun k h1 h2 => by omega⟩
theorem al_G_old {n m j v : Nat} {g mp lg sh la : Nat → Nat} (h : al_G n g m j mp lg sh la) (hj : j < 2 * m) (hv : v < m) (hmv : mp v = au_pk (fun q => g (2 * (mp (j / 2) / 2 ^ (3 * q) % 8) + j % 2)) n) : al_G n g m (j + 1) mp (va_up lg j v) sh la := by
  obtain ⟨h1, h2, h3, h4, h5, h6⟩ := h
  have ne : ∀ i, i < j → va_up lg j v i = lg i := fun i hi => by simp only [va_up]; rw [if_neg (by omega)]
  refine ⟨bf_inv_step h1 hj ne (by simp only [va_up, if_true]) (Or.inl ⟨hv, rfl⟩), h2, h3, h4, fun i hi => ?_, fun k k1 k2 => ?_⟩
  · by_cases e : i = j
    · subst e
      simp only [va_up, if_true]
      exact ⟨hv, hmv⟩
    · rw [ne i (by omega)]
      exact h5 i (by omega)
  · obtain ⟨c1, c2, c3, c4, c5⟩ := h6 k k1 k2
    refine ⟨c1, c2, by omega, by rw [ne _ c3]; exact c4, fun i hi => ?_⟩
    rw [ne i (by omega)]
    exact c5 i hi
theorem al_G_new {n m j : Nat} {g mp lg sh la : Nat → Nat} (hn : n ≤ 6) (hg : ∀ j, j < 2 * n → g j < n) (h : al_G n g m j mp lg sh la) (hj : j < 2 * m) (hno : ∀ k, k < m → mp k ≠ au_pk (fun q => g (2 * (mp (j / 2) / 2 ^ (3 * q) % 8) + j % 2)) n) : al_G n g (m + 1) (j + 1) (va_up mp m (au_pk (fun q => g (2 * (mp (j / 2) / 2 ^ (3 * q) % 8) + j % 2)) n)) (va_up lg j m) (va_up sh m (j / 2)) (va_up la m (j % 2)) := by
  obtain ⟨h1, ⟨ws, h2⟩, h3, h4, h5, h6⟩ := h
  obtain ⟨w, hw⟩ := al_new hn hg h2 (show j / 2 < m by omega)
  generalize hM : au_pk (fun q => g (2 * (mp (j / 2) / 2 ^ (3 * q) % 8) + j % 2)) n = M at hno hw ⊢
  have ne : ∀ i, i < j → va_up lg j m i = lg i := fun i hi => by simp only [va_up]; rw [if_neg (by omega)]
  have nm : ∀ k, k < m → va_up mp m M k = mp k := fun k hk => by simp only [va_up]; rw [if_neg (by omega)]
  have nM : va_up mp m M m = M := by simp only [va_up, if_true]
  have m0 : 0 < m := by have := h1.1; omega
  refine ⟨bf_inv_step h1 hj ne (by simp only [va_up, if_true]) (Or.inr ⟨rfl, rfl⟩), ⟨va_up ws m w, fun k hk => ?_⟩, fun k k2 k1 k3 e => ?_, by rw [nm 0 m0]; exact h4, fun i hi => ?_, fun k k1 k2 => ?_⟩
  · by_cases e : k = m
    · subst e
      rw [nM]
      simp only [va_up, if_true]
      exact hw
    · rw [nm k (by omega)]
      simp only [va_up, e, if_false]
      exact h2 k (by omega)
  · by_cases e1 : k = m
    · by_cases e2 : k2 = m
      · omega
      · rw [e1, nM, nm k2 (by omega)] at e
        exact absurd e.symm (hno k2 (by omega))
    · by_cases e2 : k2 = m
      · rw [e2, nM, nm k (by omega)] at e
        exact absurd e (hno k (by omega))
      · rw [nm k (by omega), nm k2 (by omega)] at e
        exact h3 k k2 (by omega) (by omega) e
  · by_cases e : i = j
    · subst e
      have e1 : va_up lg i m i = m := by simp only [va_up, if_true]
      rw [e1, nM, nm _ (by omega)]
      exact ⟨by omega, hM.symm⟩
    · have := h5 i (by omega)
      rw [ne i (by omega), nm _ this.1, nm _ (by omega)]
      exact ⟨by omega, this.2⟩
  · by_cases e : k = m
    · subst e
      have e1 : va_up sh k (j / 2) k = j / 2 := by simp only [va_up, if_true]
      have e2 : va_up la k (j % 2) k = j % 2 := by simp only [va_up, if_true]
      rw [e1, e2, show 2 * (j / 2) + j % 2 = j by omega]
      refine ⟨by omega, by omega, by omega, by simp only [va_up, if_true], fun i hi => ?_⟩
      rw [ne i hi]
      exact (h5 i hi).1
    · obtain ⟨c1, c2, c3, c4, c5⟩ := h6 k k1 (by omega)
      have e1 : va_up sh m (j / 2) k = sh k := by simp only [va_up, e, if_false]
      have e2 : va_up la m (j % 2) k = la k := by simp only [va_up, e, if_false]
      rw [e1, e2]
      refine ⟨c1, c2, by omega, by rw [ne _ c3]; exact c4, fun i hi => ?_⟩
      rw [ne i (by omega)]
      exact c5 i hi
theorem al_G_big {n m j : Nat} {g mp lg sh la : Nat → Nat} (hn : n ≤ 6) (hg : ∀ j, j < 2 * n → g j < n) (h : al_G n g m j mp lg sh la) (hj : j < 2 * m) (hno : ∀ k, k < m → mp k ≠ au_pk (fun q => g (2 * (mp (j / 2) / 2 ^ (3 * q) % 8) + j % 2)) n) : al_big n g (m + 1) := by
  obtain ⟨h1, ⟨ws, h2⟩, h3, h4, h5, h6⟩ := h
  obtain ⟨w, hw⟩ := al_new hn hg h2 (show j / 2 < m by omega)
  rw [hw] at hno
  have no : ∀ k, k < m → ¬ ∀ q, q < n → bf_from g q (ws k) = bf_from g q w := fun k hk e => hno k hk (by rw [h2 k hk]; exact au_pk_congr e)
  refine ⟨va_up ws m w, fun k k2 k1 k3 e => ?_⟩
  by_cases e1 : k = m
  · by_cases e2 : k2 = m
    · omega
    · simp only [va_up, e1, e2, if_true, if_false] at e
      exact absurd (fun q hq => (e q hq).symm) (no k2 (by omega))
  · by_cases e2 : k2 = m
    · simp only [va_up, e1, e2, if_true, if_false] at e
      exact absurd e (no k (by omega))
    · simp only [va_up, e1, e2, if_false] at e
      exact h3 k k2 (by omega) (by omega) (by rw [h2 k (by omega), h2 k2 (by omega)]; exact au_pk_congr e)
def al_S (n : Nat) (g : Nat → Nat) (e : Nat) (lg sh la : Nat → Nat) : Prop := al_T n g e lg ∧ ∀ k, 0 < k → k < e → sh k < k ∧ la k < 2 ∧ lg (2 * sh k + la k) = k ∧ ∀ i, i < 2 * sh k + la k → lg i < k
theorem al_G_end {n m : Nat} {g mp lg sh la : Nat → Nat} (hn : n ≤ 6) (hg : ∀ j, j < 2 * n → g j < n) (h : al_G n g m (2 * m) mp lg sh la) : al_S n g m lg sh la := by
  obtain ⟨h1, ⟨ws, h2⟩, h3, h4, h5, h6⟩ := h
  have m0 : 0 < m := by have := h1.1; omega
  have hb := bf_inv_end h1 m0
  have b6 : ∀ (w : List Bool) (q : Nat), q < n → bf_from g q w < 8 := fun w q hq => by have := bf_from_lt hg w q hq; omega
  have run : ∀ w, mp (bf_run lg w) = au_pk (fun q => bf_from g q w) n := by
    refine zf_snoc h4 fun w b ih => ?_
    have hb2 : b.toNat < 2 := by cases b <;> decide
    have hlt := bf_run_lt hb w
    have q := (h5 (2 * bf_run lg w + b.toNat) (by omega)).2
    rw [show (2 * bf_run lg w + b.toNat) / 2 = bf_run lg w by omega, show (2 * bf_run lg w + b.toNat) % 2 = b.toNat by omega] at q
    rw [bf_run_snoc, q]
    refine au_pk_congr fun q hq => ?_
    rw [ih, au_pk_at (b6 w) q hq, bf_from_snoc]
  refine ⟨⟨hb, fun u v => ?_⟩, fun k k1 k2 => ?_⟩
  · rw [← au_pk_inj (b6 u) (b6 v), ← run, ← run]
    exact ⟨fun e => by rw [e], fun e => h3 _ _ (bf_run_lt hb u) (bf_run_lt hb v) e⟩
  · obtain ⟨c1, c2, c3, c4, c5⟩ := h6 k k1 k2
    exact ⟨c1, c2, c4, c5⟩
def al_obj (o e : Nat) : va_E := .inr (8, [.ref (o + 1), .ref (o + 2), .ref (o + 3), .ref (o + 4), .int (nI e), .ref (o + 5), .ref (o + 6), .ref (o + 7), .ref (o + 8), .ref (o + 9)])
theorem Al_placeOf_ok {l : Launch} {Δ : zv_D} {hp : zv_M} {sz : Nat} {o e0 m x : Nat} {mp : Nat → Nat} (a0 : hp o = some (al_obj o e0)) (a1 : hp (o + 1) = some (zn_I Δ 60 mp)) (hm : m ≤ 60) (hx : x < 4294967296) (hb : ∀ k, k < m → mp k < 4294967296) : zv_P l Δ 0 y_Al_placeOf b_Al_placeOf 4 ((some (FieldType.int))) [.ref o, .int (nI x), .int (nI m)] hp sz (.int (nI (zf_ff (fun k => decide (mp k = x)) 0 m))) := by
  refine zv_E.intro (lv0 := [some (.ref o), some (.int (nI x)), some (.int (nI m)), none]) rfl (Nat.le_of_ble_eq_true rfl) rfl ?_
  intro Γ hl F
  clear hl
  have loop : ∀ (z q : Nat), z = m - q → q ≤ m → zf_ff (fun k => decide (mp k = x)) 0 m = zf_ff (fun k => decide (mp k = x)) q (m - q) → zv_V Δ Γ (zv_QQ Δ Γ 0 0 (fun r hp1 sz1 => r = some (.int (nI (zf_ff (fun k => decide (mp k = x)) 0 m))) ∧ hp1 = hp ∧ sz1 = sz)) 2 [some (.ref o), some (.int (nI x)), some (.int (nI m)), some (.int (nI q))] [] hp sz 0 0 := by
    intro z
    induction z using Nat.strongRecOn with
    | ind z ih =>
      intro q hz hq he
      refine zv_iload_n F d_Al_placeOf_2 rfl ?_
      refine zv_iload_n F d_Al_placeOf_3 rfl ?_
      refine zn_icmp_ge (tgt := 25) F d_Al_placeOf_4 rfl (by omega) (by omega) (fun h4 => ?_) (fun h4 => ?_)
      · refine zv_iload_n F d_Al_placeOf_25 rfl ?_
        exact zv_iret F d_Al_placeOf_26 (Nat.le_of_ble_eq_true rfl) (Nat.le_of_ble_eq_true rfl) ⟨zn_rt (by rw [he, show m - q = 0 by omega]; simp only [zf_ff]; omega), rfl, rfl⟩
      · have hbq := hb q h4
        refine zv_aload_n F d_Al_placeOf_7 rfl ?_
        refine zv_get F d_Al_placeOf_8 (by assumption) k_Al 0 (Nat.le_of_ble_eq_true rfl) ln_Al_9 rfl (by rfl) ?_
        refine zv_iload_n F d_Al_placeOf_11 rfl ?_
        refine zn_iald F d_Al_placeOf_12 (by assumption) (by omega) (by omega) ?_
        refine zv_iload_n F d_Al_placeOf_13 rfl ?_
        refine zn_icmp_ne (tgt := 19) F d_Al_placeOf_14 rfl (by omega) (by omega) (fun h14 => ?_) (fun h14 => ?_)
        · refine zn_iinc F d_Al_placeOf_19 rfl ?_
          simp only [zv_s1, zv_s2, zv_kill, List.set_cons_zero, List.set_cons_succ, List.getElem?_cons_zero, List.getElem?_cons_succ]
          refine zv_goto (tgt := 2) F d_Al_placeOf_22 rfl ?_
          exact zv_weak (by repeat' (first | exact True.intro | refine And.intro rfl ?_)) (ih (m - (q + 1)) (by omega) (q + 1) rfl (by omega) (by rw [he, zf_miss (decide_eq_false h14) (by omega)]; rfl))
        · refine zv_iload_n F d_Al_placeOf_17 rfl ?_
          exact zv_iret F d_Al_placeOf_18 (Nat.le_of_ble_eq_true rfl) (Nat.le_of_ble_eq_true rfl) ⟨zn_rt (by rw [he, zf_hit (decide_eq_true h14) (by omega)]), rfl, rfl⟩
  refine zn_iconst (x := 0) F d_Al_placeOf_0 (by decide) ?_
  refine zv_istore_n F d_Al_placeOf_1 (Nat.le_of_ble_eq_true rfl) ?_
  simp only [zv_s1, zv_s2, zv_kill, List.set_cons_zero, List.set_cons_succ, List.getElem?_cons_zero, List.getElem?_cons_succ]
  exact zv_weak (by repeat' (first | exact True.intro | refine And.intro rfl ?_)) (loop _ 0 rfl (Nat.zero_le _) (by rw [Nat.sub_zero]))
end
section
theorem Al_search_ok {l : Launch} {Δ : zv_D} {hp : zv_M} {sz : Nat} {o a n acc e0 : Nat} {g mp lg sh la : Nat → Nat} (a0 : hp o = some (al_obj o e0)) (a1 : hp (o + 1) = some (zn_I Δ 60 mp)) (a2 : hp (o + 2) = some (zn_I Δ 120 lg)) (a3 : hp (o + 3) = some (zn_I Δ 60 sh)) (a4 : hp (o + 4) = some (zn_I Δ 60 la)) (hA : au_at Δ hp a n acc g) (ho : au_ok n acc g) (hg : ∀ j, j < 2 * n → g j < n) (hd : a + 1 < o ∨ o + 10 ≤ a) : zv_E l Δ 2 y_Al_search b_Al_search 7 ((some (FieldType.int))) [.ref o, .ref a] hp sz 0 0 (fun r hp1 sz1 => ∃ (v : Nat) (mp1 lg1 sh1 la1 : Nat → Nat), r = some (.int (nI v)) ∧ sz1 = sz ∧ hp1 (o + 1) = some (zn_I Δ 60 mp1) ∧ hp1 (o + 2) = some (zn_I Δ 120 lg1) ∧ hp1 (o + 3) = some (zn_I Δ 60 sh1) ∧ hp1 (o + 4) = some (zn_I Δ 60 la1) ∧ (∀ b, b ≠ o + 1 ∧ b ≠ o + 2 ∧ b ≠ o + 3 ∧ b ≠ o + 4 → hp1 b = hp b) ∧ ((v = 61 ∧ al_big n g 61) ∨ (v ≤ 60 ∧ 0 < v ∧ al_S n g v lg1 sh1 la1))) := by
  refine zv_E.intro (lv0 := [some (.ref o), some (.ref a), none, none, none, none, none]) rfl (Nat.le_of_ble_eq_true rfl) rfl ?_
  intro Γ hl F
  clear hl
  have hn := ho.1
  have outer : ∀ (z s m : Nat) (h' : zv_M) (mp lg sh la : Nat → Nat), z = 60 - s → s ≤ m → m ≤ 60 → h' (o + 1) = some (zn_I Δ 60 mp) → h' (o + 2) = some (zn_I Δ 120 lg) → h' (o + 3) = some (zn_I Δ 60 sh) → h' (o + 4) = some (zn_I Δ 60 la) → (∀ b, b ≠ o + 1 ∧ b ≠ o + 2 ∧ b ≠ o + 3 ∧ b ≠ o + 4 → h' b = hp b) → al_G n g m (2 * s) mp lg sh la → zv_V Δ Γ (zv_QQ Δ Γ 0 0 (fun r hp1 sz1 => ∃ (v : Nat) (mp1 lg1 sh1 la1 : Nat → Nat), r = some (.int (nI v)) ∧ sz1 = sz ∧ hp1 (o + 1) = some (zn_I Δ 60 mp1) ∧ hp1 (o + 2) = some (zn_I Δ 120 lg1) ∧ hp1 (o + 3) = some (zn_I Δ 60 sh1) ∧ hp1 (o + 4) = some (zn_I Δ 60 la1) ∧ (∀ b, b ≠ o + 1 ∧ b ≠ o + 2 ∧ b ≠ o + 3 ∧ b ≠ o + 4 → hp1 b = hp b) ∧ ((v = 61 ∧ al_big n g 61) ∨ (v ≤ 60 ∧ 0 < v ∧ al_S n g v lg1 sh1 la1)))) 14 [some (.ref o), some (.ref a), some (.int (nI m)), some (.int (nI s)), none, none, none] [] h' sz 0 0 := by
    intro z
    induction z using Nat.strongRecOn with
    | ind z ih =>
      intro s m h' mp lg sh la hz hs hm a1 a2 a3 a4 fr X
      have inner : ∀ (z2 c m : Nat) (h' : zv_M) (mp lg sh la : Nat → Nat), z2 = 2 - c → c ≤ 2 → s < m → m ≤ 60 → h' (o + 1) = some (zn_I Δ 60 mp) → h' (o + 2) = some (zn_I Δ 120 lg) → h' (o + 3) = some (zn_I Δ 60 sh) → h' (o + 4) = some (zn_I Δ 60 la) → (∀ b, b ≠ o + 1 ∧ b ≠ o + 2 ∧ b ≠ o + 3 ∧ b ≠ o + 4 → h' b = hp b) → al_G n g m (2 * s + c) mp lg sh la → zv_V Δ Γ (zv_QQ Δ Γ 0 0 (fun r hp1 sz1 => ∃ (v : Nat) (mp1 lg1 sh1 la1 : Nat → Nat), r = some (.int (nI v)) ∧ sz1 = sz ∧ hp1 (o + 1) = some (zn_I Δ 60 mp1) ∧ hp1 (o + 2) = some (zn_I Δ 120 lg1) ∧ hp1 (o + 3) = some (zn_I Δ 60 sh1) ∧ hp1 (o + 4) = some (zn_I Δ 60 la1) ∧ (∀ b, b ≠ o + 1 ∧ b ≠ o + 2 ∧ b ≠ o + 3 ∧ b ≠ o + 4 → hp1 b = hp b) ∧ ((v = 61 ∧ al_big n g 61) ∨ (v ≤ 60 ∧ 0 < v ∧ al_S n g v lg1 sh1 la1)))) 28 [some (.ref o), some (.ref a), some (.int (nI m)), some (.int (nI s)), some (.int (nI c)), none, none] [] h' sz 0 0 := by
        intro z2
        induction z2 using Nat.strongRecOn with
        | ind z2 ih2 =>
          intro c m h' mp lg sh la hz2 hc hsm hm a1 a2 a3 a4 fr X
          have a0 := (fr o (by omega)).trans a0
          have hA := hA.moved (fr a (by omega)) (fr (a + 1) (by omega))
          have f1 := hA.1
          obtain ⟨ws, hws⟩ := X.2.1
          have dig := al_dig hn hg hws hsm
          have b6 : ∀ (w : List Bool) (q : Nat), q < n → bf_from g q w < 8 := fun w q hq => by have := bf_from_lt hg w q hq; omega
          have big : ∀ (f : Nat → Nat), (∀ q, q < n → f q < 8) → au_pk f n < 262144 := fun f hf => Nat.lt_of_lt_of_le (au_pk_lt hf) (Nat.pow_le_pow_right (n := 2) (by decide) (show 3 * n ≤ 18 by omega))
          have hmb : ∀ k, k < m → mp k < 262144 := fun k hk => by rw [hws k hk]; exact big _ (b6 _)
          have hms := hmb s hsm
          refine zv_iload F d_Al_search_28 rfl ?_
          refine zn_iconst (x := 2) F d_Al_search_30 (by decide) ?_
          refine zn_icmp_ge (tgt := 118) F d_Al_search_31 rfl (by omega) (by omega) (fun h31 => ?_) (fun h31 => ?_)
          · have ec : c = 2 := by omega
            subst ec
            refine zn_iinc F d_Al_search_118 rfl ?_
            simp only [zv_s1, zv_s2, zv_kill, List.set_cons_zero, List.set_cons_succ, List.getElem?_cons_zero, List.getElem?_cons_succ]
            refine zv_goto (tgt := 14) F d_Al_search_121 rfl ?_
            exact zv_weak (by repeat' (first | exact True.intro | refine And.intro rfl ?_)) (ih (60 - (s + 1)) (by omega) (s + 1) m _ mp lg sh la rfl (by omega) hm a1 a2 a3 a4 fr X)
          · have hdg : ∀ q, q < n → mp s / 2 ^ (3 * q) % 8 < 6 := fun q hq => by rw [dig q hq]; have := bf_from_lt hg (ws s) q hq; omega
            have hMb : au_pk (fun q => g (2 * (mp s / 2 ^ (3 * q) % 8) + c)) n < 262144 := big _ (fun q hq => by have := ho.2.2 (2 * (mp s / 2 ^ (3 * q) % 8) + c) (by have := hdg q hq; omega); omega)
            have ej : (2 * s + c) / 2 = s := by omega
            have em : (2 * s + c) % 2 = c := by omega
            refine zv_aload_n F d_Al_search_34 rfl ?_
            refine zv_aload_n F d_Al_search_35 rfl ?_
            refine zv_get F d_Al_search_36 (by assumption) k_Al 0 (Nat.le_of_ble_eq_true rfl) ln_Al_9 rfl (by rfl) ?_
            refine zv_iload_n F d_Al_search_39 rfl ?_
            refine zn_iald F d_Al_search_40 (by assumption) (by omega) (by omega) ?_
            refine zv_iload F d_Al_search_41 rfl ?_
            refine zv_pV2 F rfl (by assumption) k_Au.1 d_Al_search_43 (Au_stepMap_ok hA ho (by omega) hdg (by omega)) Y_Au_stepMap Yi_Au_stepMap Yv_Au_stepMap ln_Al_63 ⟨(Nat.le_of_ble_eq_true rfl), (Nat.le_of_ble_eq_true rfl)⟩ (Nat.le_of_ble_eq_true rfl) ⟨(Nat.le_of_ble_eq_true rfl), (Nat.le_of_ble_eq_true rfl)⟩ ?_
            refine zv_istore F d_Al_search_46 (Nat.le_of_ble_eq_true rfl) ?_
            simp only [zv_s1, zv_s2, zv_kill, List.set_cons_zero, List.set_cons_succ, List.getElem?_cons_zero, List.getElem?_cons_succ]
            refine zv_aload_n F d_Al_search_48 rfl ?_
            refine zv_iload F d_Al_search_49 rfl ?_
            refine zv_iload_n F d_Al_search_51 rfl ?_
            obtain ⟨y1, y2, y3, y4⟩ := zf_spec (fun k => decide (mp k = au_pk (fun q => g (2 * (mp s / 2 ^ (3 * q) % 8) + c)) n)) m 0
            have hE := @Al_placeOf_ok Γ.2.1 Δ h' sz o e0 m (au_pk (fun q => g (2 * (mp s / 2 ^ (3 * q) % 8) + c)) n) mp a0 a1 hm (by omega) (fun k hk => by have := hmb k hk; omega)
            generalize hv : zf_ff (fun k => decide (mp k = au_pk (fun q => g (2 * (mp s / 2 ^ (3 * q) % 8) + c)) n)) 0 m = v at hE y1 y2 y3 y4
            have hno : ∀ k, k < v → mp k ≠ au_pk (fun q => g (2 * (mp ((2 * s + c) / 2) / 2 ^ (3 * q) % 8) + (2 * s + c) % 2)) n := fun k hk => by rw [ej, em]; exact of_decide_eq_false (y3 k (Nat.zero_le _) hk)
            refine zv_pV2 F rfl (by assumption) k_Al.1 d_Al_search_52 (hE) Y_Al_placeOf Yi_Al_placeOf Yv_Al_placeOf ln_Al_67 ⟨(Nat.le_of_ble_eq_true rfl), (Nat.le_of_ble_eq_true rfl)⟩ (Nat.le_of_ble_eq_true rfl) ⟨(Nat.le_of_ble_eq_true rfl), (Nat.le_of_ble_eq_true rfl)⟩ ?_
            refine zv_istore F d_Al_search_55 (Nat.le_of_ble_eq_true rfl) ?_
            simp only [zv_s1, zv_s2, zv_kill, List.set_cons_zero, List.set_cons_succ, List.getElem?_cons_zero, List.getElem?_cons_succ]
            refine zv_iload F d_Al_search_57 rfl ?_
            refine zn_bipush (x := 60) F d_Al_search_59 (by decide) ?_
            refine zn_icmp_ne (tgt := 67) F d_Al_search_61 rfl (by omega) (by omega) (fun h61 => ?_) (fun h61 => ?_)
            · refine zv_iload F d_Al_search_67 rfl ?_
              refine zv_iload_n F d_Al_search_69 rfl ?_
              refine zn_icmp_ne (tgt := 99) F d_Al_search_70 rfl (by omega) (by omega) (fun h70 => ?_) (fun h70 => ?_)
              · have hvm : v < m := by omega
                refine zv_aload_n F d_Al_search_99 rfl ?_
                refine zv_get F d_Al_search_100 (by assumption) k_Al 1 (Nat.le_of_ble_eq_true rfl) ln_Al_15 rfl (by rfl) ?_
                refine zn_iconst (x := 2) F d_Al_search_103 (by decide) ?_
                refine zv_iload_n F d_Al_search_104 rfl ?_
                refine zn_imul F d_Al_search_105 ?_
                refine zv_iload F d_Al_search_106 rfl ?_
                refine zn_iadd F d_Al_search_108 ?_
                refine zv_iload F d_Al_search_109 rfl ?_
                refine zn_iast F d_Al_search_111 (by assumption) (by omega) (by omega) (fun hp111 e111 => ?_)
                replace a0 := (zv_ne e111 (by omega)).trans a0
                replace a1 := (zv_ne e111 (by omega)).trans a1
                replace a2 := zv_eq e111
                replace a3 := (zv_ne e111 (by omega)).trans a3
                replace a4 := (zv_ne e111 (by omega)).trans a4
                replace fr := fun b hb => (zv_ne (b := b) e111 (by omega)).trans (fr b hb)
                refine zn_iinc F d_Al_search_112 rfl ?_
                simp only [zv_s1, zv_s2, zv_kill, List.set_cons_zero, List.set_cons_succ, List.getElem?_cons_zero, List.getElem?_cons_succ]
                refine zv_goto (tgt := 28) F d_Al_search_115 rfl ?_
                first | exact zv_weak (by repeat' (first | exact True.intro | refine And.intro rfl ?_)) (ih2 (2 - (c + 1)) (by omega) (c + 1) m _ mp (va_up lg (2 * s + c) v) sh la rfl (by omega) hsm hm a1 a2 a3 a4 fr (al_G_old (j := 2 * s + c) X (by omega) hvm (by rw [ej, em]; exact of_decide_eq_true (y4 (by omega))))) | (have X2 := al_G_new (j := 2 * s + c) hn hg X (by omega) (fun k hk => hno k (by omega)); rw [ej, em] at X2; rw [h70] at a2; exact zv_weak (by repeat' (first | exact True.intro | refine And.intro rfl ?_)) (ih2 (2 - (c + 1)) (by omega) (c + 1) (m + 1) _ _ _ _ _ rfl (by omega) (by omega) (by omega) a1 a2 a3 a4 fr X2))
              · refine zv_aload_n F d_Al_search_73 rfl ?_
                refine zv_get F d_Al_search_74 (by assumption) k_Al 0 (Nat.le_of_ble_eq_true rfl) ln_Al_9 rfl (by rfl) ?_
                refine zv_iload_n F d_Al_search_77 rfl ?_
                refine zv_iload F d_Al_search_78 rfl ?_
                refine zn_iast F d_Al_search_80 (by assumption) (by omega) (by omega) (fun hp80 e80 => ?_)
                replace a0 := (zv_ne e80 (by omega)).trans a0
                replace a1 := zv_eq e80
                replace a2 := (zv_ne e80 (by omega)).trans a2
                replace a3 := (zv_ne e80 (by omega)).trans a3
                replace a4 := (zv_ne e80 (by omega)).trans a4
                replace fr := fun b hb => (zv_ne (b := b) e80 (by omega)).trans (fr b hb)
                refine zv_aload_n F d_Al_search_81 rfl ?_
                refine zv_get F d_Al_search_82 (by assumption) k_Al 2 (Nat.le_of_ble_eq_true rfl) ln_Al_18 rfl (by rfl) ?_
                refine zv_iload_n F d_Al_search_85 rfl ?_
                refine zv_iload_n F d_Al_search_86 rfl ?_
                refine zn_iast F d_Al_search_87 (by assumption) (by omega) (by omega) (fun hp87 e87 => ?_)
                replace a0 := (zv_ne e87 (by omega)).trans a0
                replace a1 := (zv_ne e87 (by omega)).trans a1
                replace a2 := (zv_ne e87 (by omega)).trans a2
                replace a3 := zv_eq e87
                replace a4 := (zv_ne e87 (by omega)).trans a4
                replace fr := fun b hb => (zv_ne (b := b) e87 (by omega)).trans (fr b hb)
                refine zv_aload_n F d_Al_search_88 rfl ?_
                refine zv_get F d_Al_search_89 (by assumption) k_Al 3 (Nat.le_of_ble_eq_true rfl) ln_Al_21 rfl (by rfl) ?_
                refine zv_iload_n F d_Al_search_92 rfl ?_
                refine zv_iload F d_Al_search_93 rfl ?_
                refine zn_iast F d_Al_search_95 (by assumption) (by omega) (by omega) (fun hp95 e95 => ?_)
                replace a0 := (zv_ne e95 (by omega)).trans a0
                replace a1 := (zv_ne e95 (by omega)).trans a1
                replace a2 := (zv_ne e95 (by omega)).trans a2
                replace a3 := (zv_ne e95 (by omega)).trans a3
                replace a4 := zv_eq e95
                replace fr := fun b hb => (zv_ne (b := b) e95 (by omega)).trans (fr b hb)
                refine zn_iinc F d_Al_search_96 rfl ?_
                simp only [zv_s1, zv_s2, zv_kill, List.set_cons_zero, List.set_cons_succ, List.getElem?_cons_zero, List.getElem?_cons_succ]
                refine zv_aload_n F d_Al_search_99 rfl ?_
                refine zv_get F d_Al_search_100 (by assumption) k_Al 1 (Nat.le_of_ble_eq_true rfl) ln_Al_15 rfl (by rfl) ?_
                refine zn_iconst (x := 2) F d_Al_search_103 (by decide) ?_
                refine zv_iload_n F d_Al_search_104 rfl ?_
                refine zn_imul F d_Al_search_105 ?_
                refine zv_iload F d_Al_search_106 rfl ?_
                refine zn_iadd F d_Al_search_108 ?_
                refine zv_iload F d_Al_search_109 rfl ?_
                refine zn_iast F d_Al_search_111 (by assumption) (by omega) (by omega) (fun hp111 e111 => ?_)
                replace a0 := (zv_ne e111 (by omega)).trans a0
                replace a1 := (zv_ne e111 (by omega)).trans a1
                replace a2 := zv_eq e111
                replace a3 := (zv_ne e111 (by omega)).trans a3
                replace a4 := (zv_ne e111 (by omega)).trans a4
                replace fr := fun b hb => (zv_ne (b := b) e111 (by omega)).trans (fr b hb)
                refine zn_iinc F d_Al_search_112 rfl ?_
                simp only [zv_s1, zv_s2, zv_kill, List.set_cons_zero, List.set_cons_succ, List.getElem?_cons_zero, List.getElem?_cons_succ]
                refine zv_goto (tgt := 28) F d_Al_search_115 rfl ?_
                first | exact zv_weak (by repeat' (first | exact True.intro | refine And.intro rfl ?_)) (ih2 (2 - (c + 1)) (by omega) (c + 1) m _ mp (va_up lg (2 * s + c) v) sh la rfl (by omega) hsm hm a1 a2 a3 a4 fr (al_G_old (j := 2 * s + c) X (by omega) hvm (by rw [ej, em]; exact of_decide_eq_true (y4 (by omega))))) | (have X2 := al_G_new (j := 2 * s + c) hn hg X (by omega) (fun k hk => hno k (by omega)); rw [ej, em] at X2; rw [h70] at a2; exact zv_weak (by repeat' (first | exact True.intro | refine And.intro rfl ?_)) (ih2 (2 - (c + 1)) (by omega) (c + 1) (m + 1) _ _ _ _ _ rfl (by omega) (by omega) (by omega) a1 a2 a3 a4 fr X2))
            · refine zn_bipush (x := 61) F d_Al_search_64 (by decide) ?_
              exact zv_iret F d_Al_search_66 (Nat.le_of_ble_eq_true rfl) (Nat.le_of_ble_eq_true rfl) ⟨61, mp, lg, sh, la, rfl, rfl, a1, a2, a3, a4, fr, Or.inl ⟨rfl, by have em2 : m = 60 := (by omega); have := al_G_big (j := 2 * s + c) hn hg X (by omega) (fun k hk => hno k (by omega)); rw [em2] at this; exact this⟩⟩
      refine zv_iload_n F d_Al_search_14 rfl ?_
      refine zv_iload_n F d_Al_search_15 rfl ?_
      refine zn_icmp_ge (tgt := 124) F d_Al_search_16 rfl (by omega) (by omega) (fun h16 => ?_) (fun h16 => ?_)
      · refine zv_iload_n F d_Al_search_124 rfl ?_
        exact zv_iret F d_Al_search_125 (Nat.le_of_ble_eq_true rfl) (Nat.le_of_ble_eq_true rfl) (by have e : s = m := (by omega); subst e; exact ⟨s, mp, lg, sh, la, rfl, rfl, a1, a2, a3, a4, fr, Or.inr ⟨hm, by have := X.1.1; omega, al_G_end hn hg X⟩⟩)
      · refine zv_iload_n F d_Al_search_19 rfl ?_
        refine zn_bipush (x := 60) F d_Al_search_20 (by decide) ?_
        refine zn_icmp_ge (tgt := 124) F d_Al_search_22 rfl (by omega) (by omega) (fun h22 => ?_) (fun h22 => ?_)
        · refine zv_iload_n F d_Al_search_124 rfl ?_
          exact zv_iret F d_Al_search_125 (Nat.le_of_ble_eq_true rfl) (Nat.le_of_ble_eq_true rfl) (by have e : s = m := (by omega); subst e; exact ⟨s, mp, lg, sh, la, rfl, rfl, a1, a2, a3, a4, fr, Or.inr ⟨hm, by have := X.1.1; omega, al_G_end hn hg X⟩⟩)
        · refine zn_iconst (x := 0) F d_Al_search_25 (by decide) ?_
          refine zv_istore F d_Al_search_26 (Nat.le_of_ble_eq_true rfl) ?_
          simp only [zv_s1, zv_s2, zv_kill, List.set_cons_zero, List.set_cons_succ, List.getElem?_cons_zero, List.getElem?_cons_succ]
          exact zv_weak (by repeat' (first | exact True.intro | refine And.intro rfl ?_)) (inner _ 0 m _ mp lg sh la rfl (by decide) (by omega) hm a1 a2 a3 a4 fr X)
  have fr : ∀ b, b ≠ o + 1 ∧ b ≠ o + 2 ∧ b ≠ o + 3 ∧ b ≠ o + 4 → hp b = hp b := fun b _ => rfl
  have f1 := hA.1
  refine zv_aload_n F d_Al_search_0 rfl ?_
  refine zv_get F d_Al_search_1 (by assumption) k_Al 0 (Nat.le_of_ble_eq_true rfl) ln_Al_9 rfl (by rfl) ?_
  refine zn_iconst (x := 0) F d_Al_search_4 (by decide) ?_
  refine zv_aload_n F d_Al_search_5 rfl ?_
  refine zv_pV0 F rfl (by assumption) k_Au.1 d_Al_search_6 (Au_emptyWordMap_ok hA hn) Y_Au_emptyWordMap Yi_Au_emptyWordMap Yv_Au_emptyWordMap ln_Al_57 ⟨(Nat.le_of_ble_eq_true rfl), (Nat.le_of_ble_eq_true rfl)⟩ (Nat.le_of_ble_eq_true rfl) ⟨(Nat.le_of_ble_eq_true rfl), (Nat.le_of_ble_eq_true rfl)⟩ ?_
  refine zn_iast F d_Al_search_9 (by assumption) (by omega) (by omega) (fun hp9 e9 => ?_)
  replace a0 := (zv_ne e9 (by omega)).trans a0
  replace a1 := zv_eq e9
  replace a2 := (zv_ne e9 (by omega)).trans a2
  replace a3 := (zv_ne e9 (by omega)).trans a3
  replace a4 := (zv_ne e9 (by omega)).trans a4
  replace fr := fun b hb => (zv_ne (b := b) e9 (by omega)).trans (fr b hb)
  refine zn_iconst (x := 1) F d_Al_search_10 (by decide) ?_
  refine zv_istore_n F d_Al_search_11 (Nat.le_of_ble_eq_true rfl) ?_
  simp only [zv_s1, zv_s2, zv_kill, List.set_cons_zero, List.set_cons_succ, List.getElem?_cons_zero, List.getElem?_cons_succ]
  refine zn_iconst (x := 0) F d_Al_search_12 (by decide) ?_
  refine zv_istore_n F d_Al_search_13 (Nat.le_of_ble_eq_true rfl) ?_
  simp only [zv_s1, zv_s2, zv_kill, List.set_cons_zero, List.set_cons_succ, List.getElem?_cons_zero, List.getElem?_cons_succ]
  exact zv_weak (by repeat' (first | exact True.intro | refine And.intro rfl ?_)) (outer _ 0 1 _ _ lg sh la rfl (by decide) (by decide) a1 a2 a3 a4 fr (al_G_0 (by simp only [va_up, if_true])))
theorem Al_keepWords_ok {l : Launch} {Δ : zv_D} {hp : zv_M} {sz : Nat} {o e : Nat} {lg sh la wd : Nat → Nat} (a0 : hp o = some (al_obj o e)) (a3 : hp (o + 3) = some (zn_I Δ 60 sh)) (a4 : hp (o + 4) = some (zn_I Δ 60 la)) (a5 : hp (o + 5) = some (zn_J Δ 60 wd)) (he : e ≤ 60) (he0 : 0 < e) (hS : ∀ k, 0 < k → k < e → sh k < k ∧ la k < 2 ∧ lg (2 * sh k + la k) = k ∧ ∀ i, i < 2 * sh k + la k → lg i < k) : zv_E l Δ 0 y_Al_keepWords b_Al_keepWords 2 (none) [.ref o] hp sz 0 0 (fun r hp1 sz1 => ∃ wd1 : Nat → Nat, r = none ∧ sz1 = sz ∧ hp1 (o + 5) = some (zn_J Δ 60 wd1) ∧ (∀ b, b ≠ o + 5 → hp1 b = hp b) ∧ al_W e lg wd1) := by
  refine zv_E.intro (lv0 := [some (.ref o), none]) rfl (Nat.le_of_ble_eq_true rfl) rfl ?_
  intro Γ hl F
  clear hl
  have loop : ∀ (m k : Nat) (h' : zv_M) (wd : Nat → Nat), m = e - k → k ≤ e → 0 < k → h' (o + 5) = some (zn_J Δ 60 wd) → (∀ b, b ≠ o + 5 → h' b = hp b) → wd 0 = 1 → (∀ i, 0 < i → i < k → wd i = 2 * wd (sh i) + la i) → zv_V Δ Γ (zv_QQ Δ Γ 0 0 (fun r hp1 sz1 => ∃ wd1 : Nat → Nat, r = none ∧ sz1 = sz ∧ hp1 (o + 5) = some (zn_J Δ 60 wd1) ∧ (∀ b, b ≠ o + 5 → hp1 b = hp b) ∧ al_W e lg wd1)) 9 [some (.ref o), some (.int (nI k))] [] h' sz 0 0 := by
    intro m
    induction m using Nat.strongRecOn with
    | ind m ih =>
      intro k h' wd hm hk hk0 a5 fr h0 hw
      have a0 := (fr o (by omega)).trans a0
      have a3 := (fr (o + 3) (by omega)).trans a3
      have a4 := (fr (o + 4) (by omega)).trans a4
      refine zv_iload_n F d_Al_keepWords_9 rfl ?_
      refine zv_aload_n F d_Al_keepWords_10 rfl ?_
      refine zv_get F d_Al_keepWords_11 (by assumption) k_Al 4 (Nat.le_of_ble_eq_true rfl) ln_Al_40 rfl (by rfl) ?_
      refine zn_icmp_ge (tgt := 52) F d_Al_keepWords_14 rfl (by omega) (by omega) (fun h14 => ?_) (fun h14 => ?_)
      · exact zv_vret F d_Al_keepWords_52 (Nat.le_of_ble_eq_true rfl) (Nat.le_of_ble_eq_true rfl) ⟨wd, rfl, rfl, a5, fr, h0, fun i i1 i2 => by obtain ⟨s1, s2, s3, s4⟩ := hS i i1 i2; exact ⟨2 * sh i + la i, s3, fun x hx => Nat.ne_of_lt (s4 x hx), by omega, by rw [show (2 * sh i + la i) / 2 = sh i by omega, show (2 * sh i + la i) % 2 = la i by omega]; exact hw i i1 (by omega)⟩⟩
      · obtain ⟨s1, s2, s3, s4⟩ := hS k hk0 h14
        refine zv_aload_n F d_Al_keepWords_17 rfl ?_
        refine zv_get F d_Al_keepWords_18 (by assumption) k_Al 5 (Nat.le_of_ble_eq_true rfl) ln_Al_24 rfl (by rfl) ?_
        refine zv_iload_n F d_Al_keepWords_21 rfl ?_
        refine zn_ldc2 (x := 2) F d_Al_keepWords_22 ln_Al_70 (by decide) ?_
        refine zv_aload_n F d_Al_keepWords_25 rfl ?_
        refine zv_get F d_Al_keepWords_26 (by assumption) k_Al 5 (Nat.le_of_ble_eq_true rfl) ln_Al_24 rfl (by rfl) ?_
        refine zv_aload_n F d_Al_keepWords_29 rfl ?_
        refine zv_get F d_Al_keepWords_30 (by assumption) k_Al 2 (Nat.le_of_ble_eq_true rfl) ln_Al_18 rfl (by rfl) ?_
        refine zv_iload_n F d_Al_keepWords_33 rfl ?_
        refine zn_iald F d_Al_keepWords_34 (by assumption) (by omega) (by omega) ?_
        refine zn_lald F d_Al_keepWords_35 (by assumption) (by omega) (by omega) ?_
        refine zn_lmul F d_Al_keepWords_36 ?_
        refine zv_aload_n F d_Al_keepWords_37 rfl ?_
        refine zv_get F d_Al_keepWords_38 (by assumption) k_Al 3 (Nat.le_of_ble_eq_true rfl) ln_Al_21 rfl (by rfl) ?_
        refine zv_iload_n F d_Al_keepWords_41 rfl ?_
        refine zn_iald F d_Al_keepWords_42 (by assumption) (by omega) (by omega) ?_
        refine zn_i2l F d_Al_keepWords_43 (by omega) ?_
        refine zn_ladd F d_Al_keepWords_44 ?_
        refine zn_last F d_Al_keepWords_45 (by assumption) (by omega) (by omega) (fun hp45 e45 => ?_)
        replace a5 := zv_eq e45
        replace fr := fun b hb => (zv_ne (b := b) e45 (by omega)).trans (fr b hb)
        refine zn_iinc F d_Al_keepWords_46 rfl ?_
        simp only [zv_s1, zv_s2, zv_kill, List.set_cons_zero, List.set_cons_succ, List.getElem?_cons_zero, List.getElem?_cons_succ]
        refine zv_goto (tgt := 9) F d_Al_keepWords_49 rfl ?_
        refine zv_weak (by repeat' (first | exact True.intro | refine And.intro rfl ?_)) (ih (e - (k + 1)) (by omega) (k + 1) _ _ rfl (by omega) (by omega) a5 fr (by simp only [va_up]; rw [if_neg (by omega)]; exact h0) (fun i i1 i2 => ?_))
        by_cases c : i = k
        · subst c; simp only [va_up, if_true]; rw [if_neg (by omega)]
        · have := (hS i i1 (by omega)).1; simp only [va_up, c, if_false]; rw [if_neg (by omega)]; exact hw i i1 (by omega)
  have fr : ∀ b, b ≠ o + 5 → hp b = hp b := fun b _ => rfl
  refine zv_aload_n F d_Al_keepWords_0 rfl ?_
  refine zv_get F d_Al_keepWords_1 (by assumption) k_Al 5 (Nat.le_of_ble_eq_true rfl) ln_Al_24 rfl (by rfl) ?_
  refine zn_iconst (x := 0) F d_Al_keepWords_4 (by decide) ?_
  refine zn_lconst (x := 1) F d_Al_keepWords_5 (by decide) ?_
  refine zn_last F d_Al_keepWords_6 (by assumption) (by omega) (by omega) (fun hp6 e6 => ?_)
  replace a0 := (zv_ne e6 (by omega)).trans a0
  replace a3 := (zv_ne e6 (by omega)).trans a3
  replace a4 := (zv_ne e6 (by omega)).trans a4
  replace a5 := zv_eq e6
  replace fr := fun b hb => (zv_ne (b := b) e6 (by omega)).trans (fr b hb)
  refine zn_iconst (x := 1) F d_Al_keepWords_7 (by decide) ?_
  refine zv_istore_n F d_Al_keepWords_8 (Nat.le_of_ble_eq_true rfl) ?_
  simp only [zv_s1, zv_s2, zv_kill, List.set_cons_zero, List.set_cons_succ, List.getElem?_cons_zero, List.getElem?_cons_succ]
  exact zv_weak (by repeat' (first | exact True.intro | refine And.intro rfl ?_)) (loop _ 1 _ _ rfl (by omega) (by decide) a5 fr (by simp only [va_up, if_true]) (fun i i1 i2 => by omega))
theorem Al_multiply_ok {l : Launch} {Δ : zv_D} {hp : zv_M} {sz : Nat} {o e j k : Nat} {pr : Nat → Nat} (a0 : hp o = some (al_obj o e)) (a6 : hp (o + 6) = some (zn_I Δ 3600 pr)) (hj : j < 60) (hk : k < 60) : zv_P l Δ 0 y_Al_multiply b_Al_multiply 3 ((some (FieldType.int))) [.ref o, .int (nI j), .int (nI k)] hp sz (.int (nI (pr (60 * j + k)))) := by
  refine zv_E.intro (lv0 := [some (.ref o), some (.int (nI j)), some (.int (nI k))]) rfl (Nat.le_of_ble_eq_true rfl) rfl ?_
  intro Γ hl F
  clear hl
  refine zv_aload_n F d_Al_multiply_0 rfl ?_
  refine zv_get F d_Al_multiply_1 (by assumption) k_Al 6 (Nat.le_of_ble_eq_true rfl) ln_Al_28 rfl (by rfl) ?_
  refine zn_bipush (x := 60) F d_Al_multiply_4 (by decide) ?_
  refine zv_iload_n F d_Al_multiply_6 rfl ?_
  refine zn_imul F d_Al_multiply_7 ?_
  refine zv_iload_n F d_Al_multiply_8 rfl ?_
  refine zn_iadd F d_Al_multiply_9 ?_
  refine zn_iald F d_Al_multiply_10 (by assumption) (by omega) (by omega) ?_
  exact zv_iret F d_Al_multiply_11 (Nat.le_of_ble_eq_true rfl) (Nat.le_of_ble_eq_true rfl) ⟨rfl, rfl, rfl⟩
theorem Al_hasElement_ok {l : Launch} {Δ : zv_D} {hp : zv_M} {sz : Nat} {o e x : Nat} (a0 : hp o = some (al_obj o e)) (he : e ≤ 60) (hx : x < 4294967296) : zv_P l Δ 0 y_Al_hasElement b_Al_hasElement 2 ((some (FieldType.boolean))) [.ref o, .int (nI x)] hp sz (.int (nI (decide (x < e)).toNat)) := by
  refine zv_E.intro (lv0 := [some (.ref o), some (.int (nI x))]) rfl (Nat.le_of_ble_eq_true rfl) rfl ?_
  intro Γ hl F
  clear hl
  refine zv_iload_n F d_Al_hasElement_0 rfl ?_
  refine zn_if_lt (tgt := 16) F d_Al_hasElement_1 rfl (by omega) (fun h1 => ?_) (fun h1 => ?_)
  · refine zn_iconst (x := 0) F d_Al_hasElement_16 (by decide) ?_
    exact zv_zret F d_Al_hasElement_17 (Nat.le_of_ble_eq_true rfl) (Nat.le_of_ble_eq_true rfl) (by first | rfl | exact zn_nb _) (by first | exact ⟨zn_bt (decide_eq_true (by omega)), rfl, rfl⟩ | exact ⟨zn_bf (decide_eq_false (by omega)), rfl, rfl⟩)
  · refine zv_iload_n F d_Al_hasElement_4 rfl ?_
    refine zv_aload_n F d_Al_hasElement_5 rfl ?_
    refine zv_get F d_Al_hasElement_6 (by assumption) k_Al 4 (Nat.le_of_ble_eq_true rfl) ln_Al_40 rfl (by rfl) ?_
    refine zn_icmp_ge (tgt := 16) F d_Al_hasElement_9 rfl (by omega) (by omega) (fun h9 => ?_) (fun h9 => ?_)
    · refine zn_iconst (x := 0) F d_Al_hasElement_16 (by decide) ?_
      exact zv_zret F d_Al_hasElement_17 (Nat.le_of_ble_eq_true rfl) (Nat.le_of_ble_eq_true rfl) (by first | rfl | exact zn_nb _) (by first | exact ⟨zn_bt (decide_eq_true (by omega)), rfl, rfl⟩ | exact ⟨zn_bf (decide_eq_false (by omega)), rfl, rfl⟩)
    · refine zn_iconst (x := 1) F d_Al_hasElement_12 (by decide) ?_
      refine zv_goto (tgt := 17) F d_Al_hasElement_13 rfl ?_
      exact zv_zret F d_Al_hasElement_17 (Nat.le_of_ble_eq_true rfl) (Nat.le_of_ble_eq_true rfl) (by first | rfl | exact zn_nb _) (by first | exact ⟨zn_bt (decide_eq_true (by omega)), rfl, rfl⟩ | exact ⟨zn_bf (decide_eq_false (by omega)), rfl, rfl⟩)
theorem Al_isWorkedOut_ok {l : Launch} {Δ : zv_D} {hp : zv_M} {sz : Nat} {o e : Nat} (a0 : hp o = some (al_obj o e)) (he : e ≤ 60) : zv_P l Δ 0 y_Al_isWorkedOut b_Al_isWorkedOut 1 ((some (FieldType.boolean))) [.ref o] hp sz (.int (nI (decide (0 < e)).toNat)) := by
  refine zv_E.intro (lv0 := [some (.ref o)]) rfl (Nat.le_of_ble_eq_true rfl) rfl ?_
  intro Γ hl F
  clear hl
  refine zv_aload_n F d_Al_isWorkedOut_0 rfl ?_
  refine zv_get F d_Al_isWorkedOut_1 (by assumption) k_Al 4 (Nat.le_of_ble_eq_true rfl) ln_Al_40 rfl (by rfl) ?_
  refine zn_if_le (tgt := 11) F d_Al_isWorkedOut_4 rfl (by omega) (fun h4 => ?_) (fun h4 => ?_)
  · refine zn_iconst (x := 0) F d_Al_isWorkedOut_11 (by decide) ?_
    exact zv_zret F d_Al_isWorkedOut_12 (Nat.le_of_ble_eq_true rfl) (Nat.le_of_ble_eq_true rfl) (by first | rfl | exact zn_nb _) (by first | exact ⟨zn_bt (decide_eq_true (by omega)), rfl, rfl⟩ | exact ⟨zn_bf (decide_eq_false (by omega)), rfl, rfl⟩)
  · refine zn_iconst (x := 1) F d_Al_isWorkedOut_7 (by decide) ?_
    refine zv_goto (tgt := 12) F d_Al_isWorkedOut_8 rfl ?_
    exact zv_zret F d_Al_isWorkedOut_12 (Nat.le_of_ble_eq_true rfl) (Nat.le_of_ble_eq_true rfl) (by first | rfl | exact zn_nb _) (by first | exact ⟨zn_bt (decide_eq_true (by omega)), rfl, rfl⟩ | exact ⟨zn_bf (decide_eq_false (by omega)), rfl, rfl⟩)
theorem Al_keepProducts_ok {l : Launch} {Δ : zv_D} {hp : zv_M} {sz : Nat} {o e : Nat} {lg sh la pr : Nat → Nat} (a0 : hp o = some (al_obj o e)) (a2 : hp (o + 2) = some (zn_I Δ 120 lg)) (a3 : hp (o + 3) = some (zn_I Δ 60 sh)) (a4 : hp (o + 4) = some (zn_I Δ 60 la)) (a6 : hp (o + 6) = some (zn_I Δ 3600 pr)) (he : e ≤ 60) (hlg : ∀ i, i < 2 * e → lg i < e) (hS : ∀ k, 0 < k → k < e → sh k < k ∧ la k < 2) : zv_E l Δ 0 y_Al_keepProducts b_Al_keepProducts 4 (none) [.ref o] hp sz 0 0 (fun r hp1 sz1 => ∃ pr1 : Nat → Nat, r = none ∧ sz1 = sz ∧ hp1 (o + 6) = some (zn_I Δ 3600 pr1) ∧ (∀ b, b ≠ o + 6 → hp1 b = hp b) ∧ ∀ j, j < e → pr1 (60 * j) = j ∧ ∀ k, 0 < k → k < e → pr1 (60 * j + k) = lg (2 * pr1 (60 * j + sh k) + la k)) := by
  refine zv_E.intro (lv0 := [some (.ref o), none, none, none]) rfl (Nat.le_of_ble_eq_true rfl) rfl ?_
  intro Γ hl F
  clear hl
  have outer : ∀ (m j : Nat) (h' : zv_M) (pr : Nat → Nat), m = e - j → j ≤ e → h' (o + 6) = some (zn_I Δ 3600 pr) → (∀ b, b ≠ o + 6 → h' b = hp b) → (∀ i, i < j → pr (60 * i) = i ∧ ∀ k, 0 < k → k < e → pr (60 * i + k) = lg (2 * pr (60 * i + sh k) + la k)) → zv_V Δ Γ (zv_QQ Δ Γ 0 0 (fun r hp1 sz1 => ∃ pr1 : Nat → Nat, r = none ∧ sz1 = sz ∧ hp1 (o + 6) = some (zn_I Δ 3600 pr1) ∧ (∀ b, b ≠ o + 6 → hp1 b = hp b) ∧ ∀ j, j < e → pr1 (60 * j) = j ∧ ∀ k, 0 < k → k < e → pr1 (60 * j + k) = lg (2 * pr1 (60 * j + sh k) + la k))) 2 [some (.ref o), some (.int (nI j)), none, none] [] h' sz 0 0 := by
    intro m
    induction m using Nat.strongRecOn with
    | ind m ih =>
      intro j h' pr hm hj a6 fr hp2
      have inner : ∀ (m2 k : Nat) (h' : zv_M) (pr : Nat → Nat), m2 = e - k → k ≤ e → 0 < k → j < e → h' (o + 6) = some (zn_I Δ 3600 pr) → (∀ b, b ≠ o + 6 → h' b = hp b) → (∀ i, i < j → pr (60 * i) = i ∧ ∀ k, 0 < k → k < e → pr (60 * i + k) = lg (2 * pr (60 * i + sh k) + la k)) → pr (60 * j) = j → (∀ x, x < k → pr (60 * j + x) < e) → (∀ x, 0 < x → x < k → pr (60 * j + x) = lg (2 * pr (60 * j + sh x) + la x)) → zv_V Δ Γ (zv_QQ Δ Γ 0 0 (fun r hp1 sz1 => ∃ pr1 : Nat → Nat, r = none ∧ sz1 = sz ∧ hp1 (o + 6) = some (zn_I Δ 3600 pr1) ∧ (∀ b, b ≠ o + 6 → hp1 b = hp b) ∧ ∀ j, j < e → pr1 (60 * j) = j ∧ ∀ k, 0 < k → k < e → pr1 (60 * j + k) = lg (2 * pr1 (60 * j + sh k) + la k))) 24 [some (.ref o), some (.int (nI j)), some (.int (nI (60 * j))), some (.int (nI k))] [] h' sz 0 0 := by
        intro m2
        induction m2 using Nat.strongRecOn with
        | ind m2 ih2 =>
          intro k h' pr hm2 hk hk0 hje a6 fr hp2 hj0 hlt hpk
          have a0 := (fr o (by omega)).trans a0
          have a2 := (fr (o + 2) (by omega)).trans a2
          have a3 := (fr (o + 3) (by omega)).trans a3
          have a4 := (fr (o + 4) (by omega)).trans a4
          refine zv_iload_n F d_Al_keepProducts_24 rfl ?_
          refine zv_aload_n F d_Al_keepProducts_25 rfl ?_
          refine zv_get F d_Al_keepProducts_26 (by assumption) k_Al 4 (Nat.le_of_ble_eq_true rfl) ln_Al_40 rfl (by rfl) ?_
          refine zn_icmp_ge (tgt := 73) F d_Al_keepProducts_29 rfl (by omega) (by omega) (fun h29 => ?_) (fun h29 => ?_)
          · refine zn_iinc F d_Al_keepProducts_73 rfl ?_
            simp only [zv_s1, zv_s2, zv_kill, List.set_cons_zero, List.set_cons_succ, List.getElem?_cons_zero, List.getElem?_cons_succ]
            refine zv_goto (tgt := 2) F d_Al_keepProducts_76 rfl ?_
            exact zv_weak (by repeat' (first | exact True.intro | refine And.intro rfl ?_)) (ih (e - (j + 1)) (by omega) (j + 1) _ pr rfl (by omega) a6 fr (fun i hi => by by_cases c : i = j; rw [c]; exact ⟨hj0, fun k1 k2 k3 => hpk k1 k2 (by omega)⟩; exact hp2 i (by omega)))
          · obtain ⟨s1, s2⟩ := hS k hk0 h29
            have l1 := hlt (sh k) s1
            have l2 := hlg (2 * pr (60 * j + sh k) + la k) (by omega)
            refine zv_aload_n F d_Al_keepProducts_32 rfl ?_
            refine zv_get F d_Al_keepProducts_33 (by assumption) k_Al 6 (Nat.le_of_ble_eq_true rfl) ln_Al_28 rfl (by rfl) ?_
            refine zv_iload_n F d_Al_keepProducts_36 rfl ?_
            refine zv_iload_n F d_Al_keepProducts_37 rfl ?_
            refine zn_iadd F d_Al_keepProducts_38 ?_
            refine zv_aload_n F d_Al_keepProducts_39 rfl ?_
            refine zv_get F d_Al_keepProducts_40 (by assumption) k_Al 1 (Nat.le_of_ble_eq_true rfl) ln_Al_15 rfl (by rfl) ?_
            refine zn_iconst (x := 2) F d_Al_keepProducts_43 (by decide) ?_
            refine zv_aload_n F d_Al_keepProducts_44 rfl ?_
            refine zv_get F d_Al_keepProducts_45 (by assumption) k_Al 6 (Nat.le_of_ble_eq_true rfl) ln_Al_28 rfl (by rfl) ?_
            refine zv_iload_n F d_Al_keepProducts_48 rfl ?_
            refine zv_aload_n F d_Al_keepProducts_49 rfl ?_
            refine zv_get F d_Al_keepProducts_50 (by assumption) k_Al 2 (Nat.le_of_ble_eq_true rfl) ln_Al_18 rfl (by rfl) ?_
            refine zv_iload_n F d_Al_keepProducts_53 rfl ?_
            refine zn_iald F d_Al_keepProducts_54 (by assumption) (by omega) (by omega) ?_
            refine zn_iadd F d_Al_keepProducts_55 ?_
            refine zn_iald F d_Al_keepProducts_56 (by assumption) (by omega) (by omega) ?_
            refine zn_imul F d_Al_keepProducts_57 ?_
            refine zv_aload_n F d_Al_keepProducts_58 rfl ?_
            refine zv_get F d_Al_keepProducts_59 (by assumption) k_Al 3 (Nat.le_of_ble_eq_true rfl) ln_Al_21 rfl (by rfl) ?_
            refine zv_iload_n F d_Al_keepProducts_62 rfl ?_
            refine zn_iald F d_Al_keepProducts_63 (by assumption) (by omega) (by omega) ?_
            refine zn_iadd F d_Al_keepProducts_64 ?_
            refine zn_iald F d_Al_keepProducts_65 (by assumption) (by omega) (by omega) ?_
            refine zn_iast F d_Al_keepProducts_66 (by assumption) (by omega) (by omega) (fun hp66 e66 => ?_)
            replace a6 := zv_eq e66
            replace fr := fun b hb => (zv_ne (b := b) e66 (by omega)).trans (fr b hb)
            refine zn_iinc F d_Al_keepProducts_67 rfl ?_
            simp only [zv_s1, zv_s2, zv_kill, List.set_cons_zero, List.set_cons_succ, List.getElem?_cons_zero, List.getElem?_cons_succ]
            refine zv_goto (tgt := 24) F d_Al_keepProducts_70 rfl ?_
            have ne : ∀ x, x ≠ 60 * j + k → va_up pr (60 * j + k) (lg (2 * pr (60 * j + sh k) + la k)) x = pr x := fun x hx => by simp only [va_up, hx, if_false]
            have eq : va_up pr (60 * j + k) (lg (2 * pr (60 * j + sh k) + la k)) (60 * j + k) = lg (2 * pr (60 * j + sh k) + la k) := by simp only [va_up, if_true]
            refine zv_weak (by repeat' (first | exact True.intro | refine And.intro rfl ?_)) (ih2 (e - (k + 1)) (by omega) (k + 1) _ _ rfl (by omega) (by omega) hje a6 fr (fun i hi => ?_) (by rw [ne _ (by omega)]; exact hj0) (fun x hx => ?_) (fun x x1 x2 => ?_))
            · refine ⟨by rw [ne _ (by omega)]; exact (hp2 i hi).1, fun k2 k3 k4 => ?_⟩
              have := (hS k2 k3 k4).1
              rw [ne _ (by omega), ne _ (by omega)]; exact (hp2 i hi).2 k2 k3 k4
            · by_cases c : x = k
              · rw [c, eq]; exact l2
              · rw [ne _ (by omega)]; exact hlt x (by omega)
            · have := (hS x x1 (by omega)).1
              by_cases c : x = k
              · rw [c, eq, ne _ (by omega)]
              · rw [ne _ (by omega), ne _ (by omega)]; exact hpk x x1 (by omega)
      have a0 := (fr o (by omega)).trans a0
      refine zv_iload_n F d_Al_keepProducts_2 rfl ?_
      refine zv_aload_n F d_Al_keepProducts_3 rfl ?_
      refine zv_get F d_Al_keepProducts_4 (by assumption) k_Al 4 (Nat.le_of_ble_eq_true rfl) ln_Al_40 rfl (by rfl) ?_
      refine zn_icmp_ge (tgt := 79) F d_Al_keepProducts_7 rfl (by omega) (by omega) (fun h7 => ?_) (fun h7 => ?_)
      · exact zv_vret F d_Al_keepProducts_79 (Nat.le_of_ble_eq_true rfl) (Nat.le_of_ble_eq_true rfl) (by have c : j = e := (by omega); subst c; exact ⟨pr, rfl, rfl, a6, fr, hp2⟩)
      · refine zn_bipush (x := 60) F d_Al_keepProducts_10 (by decide) ?_
        refine zv_iload_n F d_Al_keepProducts_12 rfl ?_
        refine zn_imul F d_Al_keepProducts_13 ?_
        refine zv_istore_n F d_Al_keepProducts_14 (Nat.le_of_ble_eq_true rfl) ?_
        simp only [zv_s1, zv_s2, zv_kill, List.set_cons_zero, List.set_cons_succ, List.getElem?_cons_zero, List.getElem?_cons_succ]
        refine zv_aload_n F d_Al_keepProducts_15 rfl ?_
        refine zv_get F d_Al_keepProducts_16 (by assumption) k_Al 6 (Nat.le_of_ble_eq_true rfl) ln_Al_28 rfl (by rfl) ?_
        refine zv_iload_n F d_Al_keepProducts_19 rfl ?_
        refine zv_iload_n F d_Al_keepProducts_20 rfl ?_
        refine zn_iast F d_Al_keepProducts_21 (by assumption) (by omega) (by omega) (fun hp21 e21 => ?_)
        replace a6 := zv_eq e21
        replace fr := fun b hb => (zv_ne (b := b) e21 (by omega)).trans (fr b hb)
        refine zn_iconst (x := 1) F d_Al_keepProducts_22 (by decide) ?_
        refine zv_istore_n F d_Al_keepProducts_23 (Nat.le_of_ble_eq_true rfl) ?_
        simp only [zv_s1, zv_s2, zv_kill, List.set_cons_zero, List.set_cons_succ, List.getElem?_cons_zero, List.getElem?_cons_succ]
        have ne : ∀ x, x ≠ 60 * j → va_up pr (60 * j) j x = pr x := fun x hx => by simp only [va_up, hx, if_false]
        refine zv_weak (by repeat' (first | exact True.intro | refine And.intro rfl ?_)) (inner _ 1 _ _ rfl (by omega) (by decide) (by omega) a6 fr (fun i hi => ⟨by rw [ne _ (by omega)]; exact (hp2 i hi).1, fun k2 k3 k4 => ?_⟩) (by simp only [va_up, if_true]) (fun x hx => ?_) (fun x x1 x2 => by omega))
        · have := (hS k2 k3 k4).1
          rw [ne _ (by omega), ne _ (by omega)]; exact (hp2 i hi).2 k2 k3 k4
        · rw [show x = 0 by omega, Nat.add_zero]; simp only [va_up, if_true]; omega
  refine zn_iconst (x := 0) F d_Al_keepProducts_0 (by decide) ?_
  refine zv_istore_n F d_Al_keepProducts_1 (Nat.le_of_ble_eq_true rfl) ?_
  simp only [zv_s1, zv_s2, zv_kill, List.set_cons_zero, List.set_cons_succ, List.getElem?_cons_zero, List.getElem?_cons_succ]
  exact zv_weak (by repeat' (first | exact True.intro | refine And.intro rfl ?_)) (outer _ 0 _ pr rfl (Nat.zero_le _) a6 (fun b _ => rfl) (fun i hi => by omega))
end
section
theorem zv_63 {v : Nat} (h : v < 60) : 2 ^ v < 18446744073709551616 := Nat.lt_of_lt_of_le (Nat.pow_lt_pow_right (by decide) h) (by decide)
theorem Al_keepSets_ok {l : Launch} {Δ : zv_D} {hp : zv_M} {sz : Nat} {o e : Nat} {pr rs ls bs : Nat → Nat} (a0 : hp o = some (al_obj o e)) (a6 : hp (o + 6) = some (zn_I Δ 3600 pr)) (a7 : hp (o + 7) = some (zn_J Δ 60 rs)) (a8 : hp (o + 8) = some (zn_J Δ 60 ls)) (a9 : hp (o + 9) = some (zn_J Δ 60 bs)) (he : e ≤ 60) (hpr : ∀ j k, j < e → k < e → pr (60 * j + k) < e) : zv_E l Δ 1 y_Al_keepSets b_Al_keepSets 3 (none) [.ref o] hp sz 0 0 (fun r hp1 sz1 => ∃ rs1 ls1 bs1 : Nat → Nat, r = none ∧ sz1 = sz ∧ hp1 (o + 7) = some (zn_J Δ 60 rs1) ∧ hp1 (o + 8) = some (zn_J Δ 60 ls1) ∧ hp1 (o + 9) = some (zn_J Δ 60 bs1) ∧ (∀ b, b ≠ o + 7 ∧ b ≠ o + 8 ∧ b ≠ o + 9 → hp1 b = hp b) ∧ ∀ j, j < e → rs1 j = al_r e pr j ∧ ls1 j = al_l e pr j ∧ bs1 j = al_b e pr j) := by
  refine zv_E.intro (lv0 := [some (.ref o), none, none]) rfl (Nat.le_of_ble_eq_true rfl) rfl ?_
  intro Γ hl F
  clear hl
  have outer2 : ∀ (m j : Nat) (h' : zv_M) (rs ls bs : Nat → Nat), m = e - j → j ≤ e → h' (o + 7) = some (zn_J Δ 60 rs) → h' (o + 8) = some (zn_J Δ 60 ls) → h' (o + 9) = some (zn_J Δ 60 bs) → (∀ b, b ≠ o + 7 ∧ b ≠ o + 8 ∧ b ≠ o + 9 → h' b = hp b) → (∀ i, i < e → rs i = al_r e pr i ∧ ls i = al_l e pr i) → (∀ i, i < j → bs i = al_b e pr i) → zv_V Δ Γ (zv_QQ Δ Γ 0 0 (fun r hp1 sz1 => ∃ rs1 ls1 bs1 : Nat → Nat, r = none ∧ sz1 = sz ∧ hp1 (o + 7) = some (zn_J Δ 60 rs1) ∧ hp1 (o + 8) = some (zn_J Δ 60 ls1) ∧ hp1 (o + 9) = some (zn_J Δ 60 bs1) ∧ (∀ b, b ≠ o + 7 ∧ b ≠ o + 8 ∧ b ≠ o + 9 → hp1 b = hp b) ∧ ∀ j, j < e → rs1 j = al_r e pr j ∧ ls1 j = al_l e pr j ∧ bs1 j = al_b e pr j)) 82 [some (.ref o), some (.int (nI j)), none] [] h' sz 0 0 := by
    intro m
    induction m using Nat.strongRecOn with
    | ind m ih =>
      intro j h' rs ls bs hm hj a7 a8 a9 fr hrl hb
      have inner : ∀ (m2 x : Nat) (h' : zv_M) (bs : Nat → Nat), m2 = e - x → x ≤ e → j < e → h' (o + 7) = some (zn_J Δ 60 rs) → h' (o + 8) = some (zn_J Δ 60 ls) → h' (o + 9) = some (zn_J Δ 60 bs) → (∀ b, b ≠ o + 7 ∧ b ≠ o + 8 ∧ b ≠ o + 9 → h' b = hp b) → (∀ i, i < j → bs i = al_b e pr i) → bs j = al_or (fun x => al_r e pr (pr (60 * x + j))) x → zv_V Δ Γ (zv_QQ Δ Γ 0 0 (fun r hp1 sz1 => ∃ rs1 ls1 bs1 : Nat → Nat, r = none ∧ sz1 = sz ∧ hp1 (o + 7) = some (zn_J Δ 60 rs1) ∧ hp1 (o + 8) = some (zn_J Δ 60 ls1) ∧ hp1 (o + 9) = some (zn_J Δ 60 bs1) ∧ (∀ b, b ≠ o + 7 ∧ b ≠ o + 8 ∧ b ≠ o + 9 → hp1 b = hp b) ∧ ∀ j, j < e → rs1 j = al_r e pr j ∧ ls1 j = al_l e pr j ∧ bs1 j = al_b e pr j)) 99 [some (.ref o), some (.int (nI j)), some (.int (nI x))] [] h' sz 0 0 := by
        intro m2
        induction m2 using Nat.strongRecOn with
        | ind m2 ih2 =>
          intro x h' bs hm2 hx hje a7 a8 a9 fr hb hbj
          have a0 := (fr o (by omega)).trans a0
          have a6 := (fr (o + 6) (by omega)).trans a6
          refine zv_iload_n F d_Al_keepSets_99 rfl ?_
          refine zv_aload_n F d_Al_keepSets_100 rfl ?_
          refine zv_get F d_Al_keepSets_101 (by assumption) k_Al 4 (Nat.le_of_ble_eq_true rfl) ln_Al_40 rfl (by rfl) ?_
          refine zn_icmp_ge (tgt := 133) F d_Al_keepSets_104 rfl (by omega) (by omega) (fun h104 => ?_) (fun h104 => ?_)
          · refine zn_iinc F d_Al_keepSets_133 rfl ?_
            simp only [zv_s1, zv_s2, zv_kill, List.set_cons_zero, List.set_cons_succ, List.getElem?_cons_zero, List.getElem?_cons_succ]
            refine zv_goto (tgt := 82) F d_Al_keepSets_136 rfl ?_
            exact zv_weak (by repeat' (first | exact True.intro | refine And.intro rfl ?_)) (ih (e - (j + 1)) (by omega) (j + 1) _ rs ls bs rfl (by omega) a7 a8 a9 fr hrl (fun i hi => by by_cases c : i = j; rw [c, hbj, show x = e by omega]; rfl; exact hb i (by omega)))
          · have hpx := hpr x j h104 hje
            have hrx := (hrl _ hpx).1
            refine zv_aload_n F d_Al_keepSets_107 rfl ?_
            refine zv_get F d_Al_keepSets_108 (by assumption) k_Al 9 (Nat.le_of_ble_eq_true rfl) ln_Al_37 rfl (by rfl) ?_
            refine zv_iload_n F d_Al_keepSets_111 rfl ?_
            refine zv_dup2 F d_Al_keepSets_112 rfl rfl ?_
            refine zn_lald F d_Al_keepSets_113 (by assumption) (by omega) (by omega) ?_
            refine zv_aload_n F d_Al_keepSets_114 rfl ?_
            refine zv_get F d_Al_keepSets_115 (by assumption) k_Al 7 (Nat.le_of_ble_eq_true rfl) ln_Al_31 rfl (by rfl) ?_
            refine zv_aload_n F d_Al_keepSets_118 rfl ?_
            refine zv_iload_n F d_Al_keepSets_119 rfl ?_
            refine zv_iload_n F d_Al_keepSets_120 rfl ?_
            refine zv_pV2 F rfl (by assumption) k_Al.1 d_Al_keepSets_121 (Al_multiply_ok a0 a6 (by omega) (by omega)) Y_Al_multiply Yi_Al_multiply Yv_Al_multiply ln_Al_72 ⟨(Nat.le_of_ble_eq_true rfl), (Nat.le_of_ble_eq_true rfl)⟩ (Nat.le_of_ble_eq_true rfl) ⟨(Nat.le_of_ble_eq_true rfl), (Nat.le_of_ble_eq_true rfl)⟩ ?_
            refine zn_lald F d_Al_keepSets_124 (by assumption) (by omega) (by omega) ?_
            refine zn_lor F d_Al_keepSets_125 ?_
            refine zn_last F d_Al_keepSets_126 (by assumption) (by omega) (by omega) (fun hp126 e126 => ?_)
            replace a7 := (zv_ne e126 (by omega)).trans a7
            replace a8 := (zv_ne e126 (by omega)).trans a8
            replace a9 := zv_eq e126
            replace fr := fun b hb => (zv_ne (b := b) e126 (by omega)).trans (fr b hb)
            refine zn_iinc F d_Al_keepSets_127 rfl ?_
            simp only [zv_s1, zv_s2, zv_kill, List.set_cons_zero, List.set_cons_succ, List.getElem?_cons_zero, List.getElem?_cons_succ]
            refine zv_goto (tgt := 99) F d_Al_keepSets_130 rfl ?_
            exact zv_weak (by repeat' (first | exact True.intro | refine And.intro rfl ?_)) (ih2 (e - (x + 1)) (by omega) (x + 1) _ _ rfl (by omega) hje a7 a8 a9 fr (fun i hi => by simp only [va_up]; rw [if_neg (by omega)]; exact hb i hi) (by simp only [va_up, if_true]; rw [hbj, hrx]; rfl))
      have a0 := (fr o (by omega)).trans a0
      refine zv_iload_n F d_Al_keepSets_82 rfl ?_
      refine zv_aload_n F d_Al_keepSets_83 rfl ?_
      refine zv_get F d_Al_keepSets_84 (by assumption) k_Al 4 (Nat.le_of_ble_eq_true rfl) ln_Al_40 rfl (by rfl) ?_
      refine zn_icmp_ge (tgt := 139) F d_Al_keepSets_87 rfl (by omega) (by omega) (fun h87 => ?_) (fun h87 => ?_)
      · exact zv_vret F d_Al_keepSets_139 (Nat.le_of_ble_eq_true rfl) (Nat.le_of_ble_eq_true rfl) (by have c : j = e := (by omega); subst c; exact ⟨rs, ls, bs, rfl, rfl, a7, a8, a9, fr, fun i hi => ⟨(hrl i hi).1, (hrl i hi).2, hb i hi⟩⟩)
      · refine zv_aload_n F d_Al_keepSets_90 rfl ?_
        refine zv_get F d_Al_keepSets_91 (by assumption) k_Al 9 (Nat.le_of_ble_eq_true rfl) ln_Al_37 rfl (by rfl) ?_
        refine zv_iload_n F d_Al_keepSets_94 rfl ?_
        refine zn_lconst (x := 0) F d_Al_keepSets_95 (by decide) ?_
        refine zn_last F d_Al_keepSets_96 (by assumption) (by omega) (by omega) (fun hp96 e96 => ?_)
        replace a7 := (zv_ne e96 (by omega)).trans a7
        replace a8 := (zv_ne e96 (by omega)).trans a8
        replace a9 := zv_eq e96
        replace fr := fun b hb => (zv_ne (b := b) e96 (by omega)).trans (fr b hb)
        refine zn_iconst (x := 0) F d_Al_keepSets_97 (by decide) ?_
        refine zv_istore_n F d_Al_keepSets_98 (Nat.le_of_ble_eq_true rfl) ?_
        simp only [zv_s1, zv_s2, zv_kill, List.set_cons_zero, List.set_cons_succ, List.getElem?_cons_zero, List.getElem?_cons_succ]
        exact zv_weak (by repeat' (first | exact True.intro | refine And.intro rfl ?_)) (inner _ 0 _ _ rfl (Nat.zero_le _) (by omega) a7 a8 a9 fr (fun i hi => by simp only [va_up]; rw [if_neg (by omega)]; exact hb i hi) (by simp only [va_up, if_true]; rfl))
  have outer : ∀ (m j : Nat) (h' : zv_M) (rs ls : Nat → Nat), m = e - j → j ≤ e → h' (o + 7) = some (zn_J Δ 60 rs) → h' (o + 8) = some (zn_J Δ 60 ls) → h' (o + 9) = some (zn_J Δ 60 bs) → (∀ b, b ≠ o + 7 ∧ b ≠ o + 8 ∧ b ≠ o + 9 → h' b = hp b) → (∀ i, i < j → rs i = al_r e pr i ∧ ls i = al_l e pr i) → zv_V Δ Γ (zv_QQ Δ Γ 0 0 (fun r hp1 sz1 => ∃ rs1 ls1 bs1 : Nat → Nat, r = none ∧ sz1 = sz ∧ hp1 (o + 7) = some (zn_J Δ 60 rs1) ∧ hp1 (o + 8) = some (zn_J Δ 60 ls1) ∧ hp1 (o + 9) = some (zn_J Δ 60 bs1) ∧ (∀ b, b ≠ o + 7 ∧ b ≠ o + 8 ∧ b ≠ o + 9 → hp1 b = hp b) ∧ ∀ j, j < e → rs1 j = al_r e pr j ∧ ls1 j = al_l e pr j ∧ bs1 j = al_b e pr j)) 2 [some (.ref o), some (.int (nI j)), none] [] h' sz 0 0 := by
    intro m
    induction m using Nat.strongRecOn with
    | ind m ih =>
      intro j h' rs ls hm hj a7 a8 a9 fr hrl
      have inner : ∀ (m2 x : Nat) (h' : zv_M) (rs ls : Nat → Nat), m2 = e - x → x ≤ e → j < e → h' (o + 7) = some (zn_J Δ 60 rs) → h' (o + 8) = some (zn_J Δ 60 ls) → h' (o + 9) = some (zn_J Δ 60 bs) → (∀ b, b ≠ o + 7 ∧ b ≠ o + 8 ∧ b ≠ o + 9 → h' b = hp b) → (∀ i, i < j → rs i = al_r e pr i ∧ ls i = al_l e pr i) → rs j = al_or (fun x => 2 ^ pr (60 * j + x)) x → ls j = al_or (fun x => 2 ^ pr (60 * x + j)) x → zv_V Δ Γ (zv_QQ Δ Γ 0 0 (fun r hp1 sz1 => ∃ rs1 ls1 bs1 : Nat → Nat, r = none ∧ sz1 = sz ∧ hp1 (o + 7) = some (zn_J Δ 60 rs1) ∧ hp1 (o + 8) = some (zn_J Δ 60 ls1) ∧ hp1 (o + 9) = some (zn_J Δ 60 bs1) ∧ (∀ b, b ≠ o + 7 ∧ b ≠ o + 8 ∧ b ≠ o + 9 → hp1 b = hp b) ∧ ∀ j, j < e → rs1 j = al_r e pr j ∧ ls1 j = al_l e pr j ∧ bs1 j = al_b e pr j)) 26 [some (.ref o), some (.int (nI j)), some (.int (nI x))] [] h' sz 0 0 := by
        intro m2
        induction m2 using Nat.strongRecOn with
        | ind m2 ih2 =>
          intro x h' rs ls hm2 hx hje a7 a8 a9 fr hrl hr1 hl1
          have a0 := (fr o (by omega)).trans a0
          have a6 := (fr (o + 6) (by omega)).trans a6
          refine zv_iload_n F d_Al_keepSets_26 rfl ?_
          refine zv_aload_n F d_Al_keepSets_27 rfl ?_
          refine zv_get F d_Al_keepSets_28 (by assumption) k_Al 4 (Nat.le_of_ble_eq_true rfl) ln_Al_40 rfl (by rfl) ?_
          refine zn_icmp_ge (tgt := 74) F d_Al_keepSets_31 rfl (by omega) (by omega) (fun h31 => ?_) (fun h31 => ?_)
          · refine zn_iinc F d_Al_keepSets_74 rfl ?_
            simp only [zv_s1, zv_s2, zv_kill, List.set_cons_zero, List.set_cons_succ, List.getElem?_cons_zero, List.getElem?_cons_succ]
            refine zv_goto (tgt := 2) F d_Al_keepSets_77 rfl ?_
            exact zv_weak (by repeat' (first | exact True.intro | refine And.intro rfl ?_)) (ih (e - (j + 1)) (by omega) (j + 1) _ rs ls rfl (by omega) a7 a8 a9 fr (fun i hi => by by_cases c : i = j; rw [c, hr1, hl1, show x = e by omega]; exact ⟨rfl, rfl⟩; exact hrl i (by omega)))
          · have hp1 := hpr x j h31 hje
            have hp2 := hpr j x hje h31
            refine zv_aload_n F d_Al_keepSets_34 rfl ?_
            refine zv_get F d_Al_keepSets_35 (by assumption) k_Al 7 (Nat.le_of_ble_eq_true rfl) ln_Al_31 rfl (by rfl) ?_
            refine zv_iload_n F d_Al_keepSets_38 rfl ?_
            refine zv_dup2 F d_Al_keepSets_39 rfl rfl ?_
            refine zn_lald F d_Al_keepSets_40 (by assumption) (by omega) (by omega) ?_
            refine zn_lconst (x := 1) F d_Al_keepSets_41 (by decide) ?_
            refine zv_aload_n F d_Al_keepSets_42 rfl ?_
            refine zv_iload_n F d_Al_keepSets_43 rfl ?_
            refine zv_iload_n F d_Al_keepSets_44 rfl ?_
            refine zv_pV2 F rfl (by assumption) k_Al.1 d_Al_keepSets_45 (Al_multiply_ok a0 a6 (by omega) (by omega)) Y_Al_multiply Yi_Al_multiply Yv_Al_multiply ln_Al_72 ⟨(Nat.le_of_ble_eq_true rfl), (Nat.le_of_ble_eq_true rfl)⟩ (Nat.le_of_ble_eq_true rfl) ⟨(Nat.le_of_ble_eq_true rfl), (Nat.le_of_ble_eq_true rfl)⟩ ?_
            refine zn_lshl F d_Al_keepSets_48 (by omega) ?_
            rw [Nat.one_mul]
            refine zn_lor F d_Al_keepSets_49 ?_
            refine zn_last F d_Al_keepSets_50 (by assumption) (by omega) (by omega) (fun hp50 e50 => ?_)
            replace a0 := (zv_ne e50 (by omega)).trans a0
            replace a6 := (zv_ne e50 (by omega)).trans a6
            replace a7 := zv_eq e50
            replace a8 := (zv_ne e50 (by omega)).trans a8
            replace a9 := (zv_ne e50 (by omega)).trans a9
            replace fr := fun b hb => (zv_ne (b := b) e50 (by omega)).trans (fr b hb)
            refine zv_aload_n F d_Al_keepSets_51 rfl ?_
            refine zv_get F d_Al_keepSets_52 (by assumption) k_Al 8 (Nat.le_of_ble_eq_true rfl) ln_Al_34 rfl (by rfl) ?_
            refine zv_iload_n F d_Al_keepSets_55 rfl ?_
            refine zv_dup2 F d_Al_keepSets_56 rfl rfl ?_
            refine zn_lald F d_Al_keepSets_57 (by assumption) (by omega) (by omega) ?_
            refine zn_lconst (x := 1) F d_Al_keepSets_58 (by decide) ?_
            refine zv_aload_n F d_Al_keepSets_59 rfl ?_
            refine zv_iload_n F d_Al_keepSets_60 rfl ?_
            refine zv_iload_n F d_Al_keepSets_61 rfl ?_
            refine zv_pV2 F rfl (by assumption) k_Al.1 d_Al_keepSets_62 (Al_multiply_ok a0 a6 (by omega) (by omega)) Y_Al_multiply Yi_Al_multiply Yv_Al_multiply ln_Al_72 ⟨(Nat.le_of_ble_eq_true rfl), (Nat.le_of_ble_eq_true rfl)⟩ (Nat.le_of_ble_eq_true rfl) ⟨(Nat.le_of_ble_eq_true rfl), (Nat.le_of_ble_eq_true rfl)⟩ ?_
            refine zn_lshl F d_Al_keepSets_65 (by omega) ?_
            rw [Nat.one_mul]
            refine zn_lor F d_Al_keepSets_66 ?_
            refine zn_last F d_Al_keepSets_67 (by assumption) (by omega) (by omega) (fun hp67 e67 => ?_)
            replace a0 := (zv_ne e67 (by omega)).trans a0
            replace a6 := (zv_ne e67 (by omega)).trans a6
            replace a7 := (zv_ne e67 (by omega)).trans a7
            replace a8 := zv_eq e67
            replace a9 := (zv_ne e67 (by omega)).trans a9
            replace fr := fun b hb => (zv_ne (b := b) e67 (by omega)).trans (fr b hb)
            refine zn_iinc F d_Al_keepSets_68 rfl ?_
            simp only [zv_s1, zv_s2, zv_kill, List.set_cons_zero, List.set_cons_succ, List.getElem?_cons_zero, List.getElem?_cons_succ]
            refine zv_goto (tgt := 26) F d_Al_keepSets_71 rfl ?_
            exact zv_weak (by repeat' (first | exact True.intro | refine And.intro rfl ?_)) (ih2 (e - (x + 1)) (by omega) (x + 1) _ _ _ rfl (by omega) hje a7 a8 a9 fr (fun i hi => by simp only [va_up]; rw [if_neg (by omega), if_neg (by omega)]; exact hrl i hi) (by simp only [va_up, if_true]; rw [hr1]; rfl) (by simp only [va_up, if_true]; rw [hl1]; rfl))
      have a0 := (fr o (by omega)).trans a0
      refine zv_iload_n F d_Al_keepSets_2 rfl ?_
      refine zv_aload_n F d_Al_keepSets_3 rfl ?_
      refine zv_get F d_Al_keepSets_4 (by assumption) k_Al 4 (Nat.le_of_ble_eq_true rfl) ln_Al_40 rfl (by rfl) ?_
      refine zn_icmp_ge (tgt := 80) F d_Al_keepSets_7 rfl (by omega) (by omega) (fun h7 => ?_) (fun h7 => ?_)
      · refine zn_iconst (x := 0) F d_Al_keepSets_80 (by decide) ?_
        refine zv_istore_n F d_Al_keepSets_81 (Nat.le_of_ble_eq_true rfl) ?_
        simp only [zv_s1, zv_s2, zv_kill, List.set_cons_zero, List.set_cons_succ, List.getElem?_cons_zero, List.getElem?_cons_succ]
        exact zv_weak (by repeat' (first | exact True.intro | refine And.intro rfl ?_)) (outer2 _ 0 _ rs ls bs rfl (Nat.zero_le _) a7 a8 a9 fr (fun i hi => hrl i (by omega)) (fun i hi => by omega))
      · refine zv_aload_n F d_Al_keepSets_10 rfl ?_
        refine zv_get F d_Al_keepSets_11 (by assumption) k_Al 7 (Nat.le_of_ble_eq_true rfl) ln_Al_31 rfl (by rfl) ?_
        refine zv_iload_n F d_Al_keepSets_14 rfl ?_
        refine zn_lconst (x := 0) F d_Al_keepSets_15 (by decide) ?_
        refine zn_last F d_Al_keepSets_16 (by assumption) (by omega) (by omega) (fun hp16 e16 => ?_)
        replace a0 := (zv_ne e16 (by omega)).trans a0
        replace a7 := zv_eq e16
        replace a8 := (zv_ne e16 (by omega)).trans a8
        replace a9 := (zv_ne e16 (by omega)).trans a9
        replace fr := fun b hb => (zv_ne (b := b) e16 (by omega)).trans (fr b hb)
        refine zv_aload_n F d_Al_keepSets_17 rfl ?_
        refine zv_get F d_Al_keepSets_18 (by assumption) k_Al 8 (Nat.le_of_ble_eq_true rfl) ln_Al_34 rfl (by rfl) ?_
        refine zv_iload_n F d_Al_keepSets_21 rfl ?_
        refine zn_lconst (x := 0) F d_Al_keepSets_22 (by decide) ?_
        refine zn_last F d_Al_keepSets_23 (by assumption) (by omega) (by omega) (fun hp23 e23 => ?_)
        replace a0 := (zv_ne e23 (by omega)).trans a0
        replace a7 := (zv_ne e23 (by omega)).trans a7
        replace a8 := zv_eq e23
        replace a9 := (zv_ne e23 (by omega)).trans a9
        replace fr := fun b hb => (zv_ne (b := b) e23 (by omega)).trans (fr b hb)
        refine zn_iconst (x := 0) F d_Al_keepSets_24 (by decide) ?_
        refine zv_istore_n F d_Al_keepSets_25 (Nat.le_of_ble_eq_true rfl) ?_
        simp only [zv_s1, zv_s2, zv_kill, List.set_cons_zero, List.set_cons_succ, List.getElem?_cons_zero, List.getElem?_cons_succ]
        exact zv_weak (by repeat' (first | exact True.intro | refine And.intro rfl ?_)) (inner _ 0 _ _ _ rfl (Nat.zero_le _) (by omega) a7 a8 a9 fr (fun i hi => by simp only [va_up]; rw [if_neg (by omega), if_neg (by omega)]; exact hrl i hi) (by simp only [va_up, if_true]; rfl) (by simp only [va_up, if_true]; rfl))
  refine zn_iconst (x := 0) F d_Al_keepSets_0 (by decide) ?_
  refine zv_istore_n F d_Al_keepSets_1 (Nat.le_of_ble_eq_true rfl) ?_
  simp only [zv_s1, zv_s2, zv_kill, List.set_cons_zero, List.set_cons_succ, List.getElem?_cons_zero, List.getElem?_cons_succ]
  exact zv_weak (by repeat' (first | exact True.intro | refine And.intro rfl ?_)) (outer _ 0 _ rs ls rfl (Nat.zero_le _) a7 a8 a9 (fun b _ => rfl) (fun i hi => by omega))
def al_rl (rs ls bs : Nat → Nat) (w j k : Nat) : Bool := decide ((w = 0 ∧ rs j = rs k) ∨ (w = 1 ∧ ls j = ls k) ∨ (w = 2 ∧ bs j = bs k) ∨ (w = 3 ∧ rs j = rs k ∧ ls j = ls k))
def al_sb (e : Nat) (rs ls bs : Nat → Nat) : Prop := ∀ j, j < e → rs j < 18446744073709551616 ∧ ls j < 18446744073709551616 ∧ bs j < 18446744073709551616
theorem Al_areRelated_ok {l : Launch} {Δ : zv_D} {hp : zv_M} {sz : Nat} {o e w j k : Nat} {rs ls bs : Nat → Nat} (a0 : hp o = some (al_obj o e)) (a7 : hp (o + 7) = some (zn_J Δ 60 rs)) (a8 : hp (o + 8) = some (zn_J Δ 60 ls)) (a9 : hp (o + 9) = some (zn_J Δ 60 bs)) (he : e ≤ 60) (hb : al_sb e rs ls bs) (hw : w < 4) (hj : j < e) (hk : k < e) : zv_P l Δ 0 y_Al_areRelated b_Al_areRelated 4 ((some (FieldType.boolean))) [.ref o, .int (nI w), .int (nI j), .int (nI k)] hp sz (.int (nI (al_rl rs ls bs w j k).toNat)) := by
  refine zv_E.intro (lv0 := [some (.ref o), some (.int (nI w)), some (.int (nI j)), some (.int (nI k))]) rfl (Nat.le_of_ble_eq_true rfl) rfl ?_
  intro Γ hl F
  clear hl
  obtain ⟨r1, r2, r3⟩ := hb j hj
  obtain ⟨r4, r5, r6⟩ := hb k hk
  unfold al_rl
  rcases (show w = 0 ∨ w = 1 ∨ w = 2 ∨ w = 3 by omega) with rfl | rfl | rfl | rfl
  · skip
    refine zv_iload_n F d_Al_areRelated_0 rfl ?_
    refine zv_tableIn (tgt := 32) F d_Al_areRelated_1 (by decide) (by decide) (by rfl) rfl ?_
    refine zv_aload_n F d_Al_areRelated_32 rfl ?_
    refine zv_get F d_Al_areRelated_33 (by assumption) k_Al 7 (Nat.le_of_ble_eq_true rfl) ln_Al_31 rfl (by rfl) ?_
    refine zv_iload_n F d_Al_areRelated_36 rfl ?_
    refine zn_lald F d_Al_areRelated_37 (by assumption) (by omega) (by omega) ?_
    refine zv_aload_n F d_Al_areRelated_38 rfl ?_
    refine zv_get F d_Al_areRelated_39 (by assumption) k_Al 7 (Nat.le_of_ble_eq_true rfl) ln_Al_31 rfl (by rfl) ?_
    refine zv_iload_n F d_Al_areRelated_42 rfl ?_
    refine zn_lald F d_Al_areRelated_43 (by assumption) (by omega) (by omega) ?_
    refine zn_lcmp F d_Al_areRelated_44 (by omega) (by omega) (fun w44 b44 c44 => ?_)
    first | refine zn_bif_ne (tgt := 52) F d_Al_areRelated_45 rfl (fun h45 => ?_) (fun h45 => ?_) | refine zn_if_ne (tgt := 52) F d_Al_areRelated_45 rfl (by omega) (fun h45 => ?_) (fun h45 => ?_)
    · refine zn_iconst (x := 0) F d_Al_areRelated_52 (by decide) ?_
      exact zv_zret F d_Al_areRelated_53 (Nat.le_of_ble_eq_true rfl) (Nat.le_of_ble_eq_true rfl) (by first | rfl | exact zn_nb _) (by first | exact ⟨zn_bt (decide_eq_true (by omega)), rfl, rfl⟩ | exact ⟨zn_bf (decide_eq_false (by omega)), rfl, rfl⟩)
    · refine zn_iconst (x := 1) F d_Al_areRelated_48 (by decide) ?_
      refine zv_goto (tgt := 53) F d_Al_areRelated_49 rfl ?_
      exact zv_zret F d_Al_areRelated_53 (Nat.le_of_ble_eq_true rfl) (Nat.le_of_ble_eq_true rfl) (by first | rfl | exact zn_nb _) (by first | exact ⟨zn_bt (decide_eq_true (by omega)), rfl, rfl⟩ | exact ⟨zn_bf (decide_eq_false (by omega)), rfl, rfl⟩)
  · skip
    refine zv_iload_n F d_Al_areRelated_0 rfl ?_
    refine zv_tableIn (tgt := 54) F d_Al_areRelated_1 (by decide) (by decide) (by rfl) rfl ?_
    refine zv_aload_n F d_Al_areRelated_54 rfl ?_
    refine zv_get F d_Al_areRelated_55 (by assumption) k_Al 8 (Nat.le_of_ble_eq_true rfl) ln_Al_34 rfl (by rfl) ?_
    refine zv_iload_n F d_Al_areRelated_58 rfl ?_
    refine zn_lald F d_Al_areRelated_59 (by assumption) (by omega) (by omega) ?_
    refine zv_aload_n F d_Al_areRelated_60 rfl ?_
    refine zv_get F d_Al_areRelated_61 (by assumption) k_Al 8 (Nat.le_of_ble_eq_true rfl) ln_Al_34 rfl (by rfl) ?_
    refine zv_iload_n F d_Al_areRelated_64 rfl ?_
    refine zn_lald F d_Al_areRelated_65 (by assumption) (by omega) (by omega) ?_
    refine zn_lcmp F d_Al_areRelated_66 (by omega) (by omega) (fun w66 b66 c66 => ?_)
    first | refine zn_bif_ne (tgt := 74) F d_Al_areRelated_67 rfl (fun h67 => ?_) (fun h67 => ?_) | refine zn_if_ne (tgt := 74) F d_Al_areRelated_67 rfl (by omega) (fun h67 => ?_) (fun h67 => ?_)
    · refine zn_iconst (x := 0) F d_Al_areRelated_74 (by decide) ?_
      exact zv_zret F d_Al_areRelated_75 (Nat.le_of_ble_eq_true rfl) (Nat.le_of_ble_eq_true rfl) (by first | rfl | exact zn_nb _) (by first | exact ⟨zn_bt (decide_eq_true (by omega)), rfl, rfl⟩ | exact ⟨zn_bf (decide_eq_false (by omega)), rfl, rfl⟩)
    · refine zn_iconst (x := 1) F d_Al_areRelated_70 (by decide) ?_
      refine zv_goto (tgt := 75) F d_Al_areRelated_71 rfl ?_
      exact zv_zret F d_Al_areRelated_75 (Nat.le_of_ble_eq_true rfl) (Nat.le_of_ble_eq_true rfl) (by first | rfl | exact zn_nb _) (by first | exact ⟨zn_bt (decide_eq_true (by omega)), rfl, rfl⟩ | exact ⟨zn_bf (decide_eq_false (by omega)), rfl, rfl⟩)
  · skip
    refine zv_iload_n F d_Al_areRelated_0 rfl ?_
    refine zv_tableIn (tgt := 76) F d_Al_areRelated_1 (by decide) (by decide) (by rfl) rfl ?_
    refine zv_aload_n F d_Al_areRelated_76 rfl ?_
    refine zv_get F d_Al_areRelated_77 (by assumption) k_Al 9 (Nat.le_of_ble_eq_true rfl) ln_Al_37 rfl (by rfl) ?_
    refine zv_iload_n F d_Al_areRelated_80 rfl ?_
    refine zn_lald F d_Al_areRelated_81 (by assumption) (by omega) (by omega) ?_
    refine zv_aload_n F d_Al_areRelated_82 rfl ?_
    refine zv_get F d_Al_areRelated_83 (by assumption) k_Al 9 (Nat.le_of_ble_eq_true rfl) ln_Al_37 rfl (by rfl) ?_
    refine zv_iload_n F d_Al_areRelated_86 rfl ?_
    refine zn_lald F d_Al_areRelated_87 (by assumption) (by omega) (by omega) ?_
    refine zn_lcmp F d_Al_areRelated_88 (by omega) (by omega) (fun w88 b88 c88 => ?_)
    first | refine zn_bif_ne (tgt := 96) F d_Al_areRelated_89 rfl (fun h89 => ?_) (fun h89 => ?_) | refine zn_if_ne (tgt := 96) F d_Al_areRelated_89 rfl (by omega) (fun h89 => ?_) (fun h89 => ?_)
    · refine zn_iconst (x := 0) F d_Al_areRelated_96 (by decide) ?_
      exact zv_zret F d_Al_areRelated_97 (Nat.le_of_ble_eq_true rfl) (Nat.le_of_ble_eq_true rfl) (by first | rfl | exact zn_nb _) (by first | exact ⟨zn_bt (decide_eq_true (by omega)), rfl, rfl⟩ | exact ⟨zn_bf (decide_eq_false (by omega)), rfl, rfl⟩)
    · refine zn_iconst (x := 1) F d_Al_areRelated_92 (by decide) ?_
      refine zv_goto (tgt := 97) F d_Al_areRelated_93 rfl ?_
      exact zv_zret F d_Al_areRelated_97 (Nat.le_of_ble_eq_true rfl) (Nat.le_of_ble_eq_true rfl) (by first | rfl | exact zn_nb _) (by first | exact ⟨zn_bt (decide_eq_true (by omega)), rfl, rfl⟩ | exact ⟨zn_bf (decide_eq_false (by omega)), rfl, rfl⟩)
  · skip
    refine zv_iload_n F d_Al_areRelated_0 rfl ?_
    refine zv_tableIn (tgt := 98) F d_Al_areRelated_1 (by decide) (by decide) (by rfl) rfl ?_
    refine zv_aload_n F d_Al_areRelated_98 rfl ?_
    refine zv_get F d_Al_areRelated_99 (by assumption) k_Al 7 (Nat.le_of_ble_eq_true rfl) ln_Al_31 rfl (by rfl) ?_
    refine zv_iload_n F d_Al_areRelated_102 rfl ?_
    refine zn_lald F d_Al_areRelated_103 (by assumption) (by omega) (by omega) ?_
    refine zv_aload_n F d_Al_areRelated_104 rfl ?_
    refine zv_get F d_Al_areRelated_105 (by assumption) k_Al 7 (Nat.le_of_ble_eq_true rfl) ln_Al_31 rfl (by rfl) ?_
    refine zv_iload_n F d_Al_areRelated_108 rfl ?_
    refine zn_lald F d_Al_areRelated_109 (by assumption) (by omega) (by omega) ?_
    refine zn_lcmp F d_Al_areRelated_110 (by omega) (by omega) (fun w110 b110 c110 => ?_)
    first | refine zn_bif_ne (tgt := 134) F d_Al_areRelated_111 rfl (fun h111 => ?_) (fun h111 => ?_) | refine zn_if_ne (tgt := 134) F d_Al_areRelated_111 rfl (by omega) (fun h111 => ?_) (fun h111 => ?_)
    · refine zn_iconst (x := 0) F d_Al_areRelated_134 (by decide) ?_
      exact zv_zret F d_Al_areRelated_135 (Nat.le_of_ble_eq_true rfl) (Nat.le_of_ble_eq_true rfl) (by first | rfl | exact zn_nb _) (by first | exact ⟨zn_bt (decide_eq_true (by omega)), rfl, rfl⟩ | exact ⟨zn_bf (decide_eq_false (by omega)), rfl, rfl⟩)
    · refine zv_aload_n F d_Al_areRelated_114 rfl ?_
      refine zv_get F d_Al_areRelated_115 (by assumption) k_Al 8 (Nat.le_of_ble_eq_true rfl) ln_Al_34 rfl (by rfl) ?_
      refine zv_iload_n F d_Al_areRelated_118 rfl ?_
      refine zn_lald F d_Al_areRelated_119 (by assumption) (by omega) (by omega) ?_
      refine zv_aload_n F d_Al_areRelated_120 rfl ?_
      refine zv_get F d_Al_areRelated_121 (by assumption) k_Al 8 (Nat.le_of_ble_eq_true rfl) ln_Al_34 rfl (by rfl) ?_
      refine zv_iload_n F d_Al_areRelated_124 rfl ?_
      refine zn_lald F d_Al_areRelated_125 (by assumption) (by omega) (by omega) ?_
      refine zn_lcmp F d_Al_areRelated_126 (by omega) (by omega) (fun w126 b126 c126 => ?_)
      first | refine zn_bif_ne (tgt := 134) F d_Al_areRelated_127 rfl (fun h127 => ?_) (fun h127 => ?_) | refine zn_if_ne (tgt := 134) F d_Al_areRelated_127 rfl (by omega) (fun h127 => ?_) (fun h127 => ?_)
      · refine zn_iconst (x := 0) F d_Al_areRelated_134 (by decide) ?_
        exact zv_zret F d_Al_areRelated_135 (Nat.le_of_ble_eq_true rfl) (Nat.le_of_ble_eq_true rfl) (by first | rfl | exact zn_nb _) (by first | exact ⟨zn_bt (decide_eq_true (by omega)), rfl, rfl⟩ | exact ⟨zn_bf (decide_eq_false (by omega)), rfl, rfl⟩)
      · refine zn_iconst (x := 1) F d_Al_areRelated_130 (by decide) ?_
        refine zv_goto (tgt := 135) F d_Al_areRelated_131 rfl ?_
        exact zv_zret F d_Al_areRelated_135 (Nat.le_of_ble_eq_true rfl) (Nat.le_of_ble_eq_true rfl) (by first | rfl | exact zn_nb _) (by first | exact ⟨zn_bt (decide_eq_true (by omega)), rfl, rfl⟩ | exact ⟨zn_bf (decide_eq_false (by omega)), rfl, rfl⟩)
def al_fc (rs ls bs : Nat → Nat) (w k : Nat) : Bool := decide (zf_ff (fun j => al_rl rs ls bs w j k) 0 k = k)
theorem Al_isFirstOfClass_ok {l : Launch} {Δ : zv_D} {hp : zv_M} {sz : Nat} {o e w k : Nat} {rs ls bs : Nat → Nat} (a0 : hp o = some (al_obj o e)) (a7 : hp (o + 7) = some (zn_J Δ 60 rs)) (a8 : hp (o + 8) = some (zn_J Δ 60 ls)) (a9 : hp (o + 9) = some (zn_J Δ 60 bs)) (he : e ≤ 60) (hb : al_sb e rs ls bs) (hw : w < 4) (hk : k < e) : zv_P l Δ 1 y_Al_isFirstOfClass b_Al_isFirstOfClass 4 ((some (FieldType.boolean))) [.ref o, .int (nI w), .int (nI k)] hp sz (.int (nI (al_fc rs ls bs w k).toNat)) := by
  refine zv_E.intro (lv0 := [some (.ref o), some (.int (nI w)), some (.int (nI k)), none]) rfl (Nat.le_of_ble_eq_true rfl) rfl ?_
  intro Γ hl F
  clear hl
  unfold al_fc
  have loop : ∀ (z q : Nat), z = k - q → q ≤ k → zf_ff (fun j => al_rl rs ls bs w j k) 0 k = zf_ff (fun j => al_rl rs ls bs w j k) q (k - q) → zv_V Δ Γ (zv_QQ Δ Γ 0 0 (fun r hp1 sz1 => r = some (.int (nI (al_fc rs ls bs w k).toNat)) ∧ hp1 = hp ∧ sz1 = sz)) 2 [some (.ref o), some (.int (nI w)), some (.int (nI k)), some (.int (nI q))] [] hp sz 0 0 := by
    unfold al_fc
    intro z
    induction z using Nat.strongRecOn with
    | ind z ih =>
      intro q hz hq hE
      refine zv_iload_n F d_Al_isFirstOfClass_2 rfl ?_
      refine zv_iload_n F d_Al_isFirstOfClass_3 rfl ?_
      refine zn_icmp_ge (tgt := 25) F d_Al_isFirstOfClass_4 rfl (by omega) (by omega) (fun h4 => ?_) (fun h4 => ?_)
      · refine zn_iconst (x := 1) F d_Al_isFirstOfClass_25 (by decide) ?_
        exact zv_zret F d_Al_isFirstOfClass_26 (Nat.le_of_ble_eq_true rfl) (Nat.le_of_ble_eq_true rfl) (by first | rfl | exact zn_nb _) ⟨zn_bt (decide_eq_true (by rw [hE, show k - q = 0 by omega]; simp only [zf_ff]; omega)), rfl, rfl⟩
      · refine zv_aload_n F d_Al_isFirstOfClass_7 rfl ?_
        refine zv_iload_n F d_Al_isFirstOfClass_8 rfl ?_
        refine zv_iload_n F d_Al_isFirstOfClass_9 rfl ?_
        refine zv_iload_n F d_Al_isFirstOfClass_10 rfl ?_
        refine zv_pV3 F rfl (by assumption) k_Al.1 d_Al_isFirstOfClass_11 (Al_areRelated_ok a0 a7 a8 a9 he hb hw (by omega) hk) Y_Al_areRelated Yi_Al_areRelated Yv_Al_areRelated ln_Al_79 ⟨(Nat.le_of_ble_eq_true rfl), (Nat.le_of_ble_eq_true rfl)⟩ (Nat.le_of_ble_eq_true rfl) ⟨(Nat.le_of_ble_eq_true rfl), (Nat.le_of_ble_eq_true rfl)⟩ ?_
        first | refine zn_bif_eq (tgt := 19) F d_Al_isFirstOfClass_14 rfl (fun h14 => ?_) (fun h14 => ?_) | refine zn_if_eq (tgt := 19) F d_Al_isFirstOfClass_14 rfl (by omega) (fun h14 => ?_) (fun h14 => ?_)
        · refine zn_iinc F d_Al_isFirstOfClass_19 rfl ?_
          simp only [zv_s1, zv_s2, zv_kill, List.set_cons_zero, List.set_cons_succ, List.getElem?_cons_zero, List.getElem?_cons_succ]
          refine zv_goto (tgt := 2) F d_Al_isFirstOfClass_22 rfl ?_
          exact zv_weak (by repeat' (first | exact True.intro | refine And.intro rfl ?_)) (ih (k - (q + 1)) (by omega) (q + 1) rfl (by omega) (by rw [hE, zf_miss (p := fun j => al_rl rs ls bs w j k) (k := q) h14 (by omega)]; rfl))
        · refine zn_iconst (x := 0) F d_Al_isFirstOfClass_17 (by decide) ?_
          exact zv_zret F d_Al_isFirstOfClass_18 (Nat.le_of_ble_eq_true rfl) (Nat.le_of_ble_eq_true rfl) (by first | rfl | exact zn_nb _) ⟨zn_bf (decide_eq_false (by rw [hE, zf_hit (p := fun j => al_rl rs ls bs w j k) (k := q) h14 (by omega)]; omega)), rfl, rfl⟩
  unfold al_fc at loop
  refine zn_iconst (x := 0) F d_Al_isFirstOfClass_0 (by decide) ?_
  refine zv_istore_n F d_Al_isFirstOfClass_1 (Nat.le_of_ble_eq_true rfl) ?_
  simp only [zv_s1, zv_s2, zv_kill, List.set_cons_zero, List.set_cons_succ, List.getElem?_cons_zero, List.getElem?_cons_succ]
  exact zv_weak (by repeat' (first | exact True.intro | refine And.intro rfl ?_)) (loop _ 0 rfl (Nat.zero_le _) (by rw [Nat.sub_zero]))
def al_cc (p : Nat → Bool) : Nat → Nat
  | 0 => 0
  | k + 1 => if p k = true then al_cc p k + 1 else al_cc p k
theorem Al_countClasses_ok {l : Launch} {Δ : zv_D} {hp : zv_M} {sz : Nat} {o e w : Nat} {rs ls bs : Nat → Nat} (a0 : hp o = some (al_obj o e)) (a7 : hp (o + 7) = some (zn_J Δ 60 rs)) (a8 : hp (o + 8) = some (zn_J Δ 60 ls)) (a9 : hp (o + 9) = some (zn_J Δ 60 bs)) (he : e ≤ 60) (hb : al_sb e rs ls bs) (hw : w < 4) : zv_P l Δ 2 y_Al_countClasses b_Al_countClasses 4 ((some (FieldType.int))) [.ref o, .int (nI w)] hp sz (.int (nI (al_cc (al_fc rs ls bs w) e))) := by
  refine zv_E.intro (lv0 := [some (.ref o), some (.int (nI w)), none, none]) rfl (Nat.le_of_ble_eq_true rfl) rfl ?_
  intro Γ hl F
  clear hl
  have loop : ∀ (z q : Nat), z = e - q → q ≤ e → zv_V Δ Γ (zv_QQ Δ Γ 0 0 (fun r hp1 sz1 => r = some (.int (nI (al_cc (al_fc rs ls bs w) e))) ∧ hp1 = hp ∧ sz1 = sz)) 4 [some (.ref o), some (.int (nI w)), some (.int (nI (al_cc (al_fc rs ls bs w) q))), some (.int (nI q))] [] hp sz 0 0 := by
    intro z
    induction z using Nat.strongRecOn with
    | ind z ih =>
      intro q hz hq
      refine zv_iload_n F d_Al_countClasses_4 rfl ?_
      refine zv_aload_n F d_Al_countClasses_5 rfl ?_
      refine zv_get F d_Al_countClasses_6 (by assumption) k_Al 4 (Nat.le_of_ble_eq_true rfl) ln_Al_40 rfl (by rfl) ?_
      refine zn_icmp_ge (tgt := 30) F d_Al_countClasses_9 rfl (by omega) (by omega) (fun h9 => ?_) (fun h9 => ?_)
      · refine zv_iload_n F d_Al_countClasses_30 rfl ?_
        exact zv_iret F d_Al_countClasses_31 (Nat.le_of_ble_eq_true rfl) (Nat.le_of_ble_eq_true rfl) ⟨zn_rt (by rw [show q = e by omega]), rfl, rfl⟩
      · refine zv_aload_n F d_Al_countClasses_12 rfl ?_
        refine zv_iload_n F d_Al_countClasses_13 rfl ?_
        refine zv_iload_n F d_Al_countClasses_14 rfl ?_
        refine zv_pV2 F rfl (by assumption) k_Al.1 d_Al_countClasses_15 (Al_isFirstOfClass_ok a0 a7 a8 a9 he hb hw (by omega)) Y_Al_isFirstOfClass Yi_Al_isFirstOfClass Yv_Al_isFirstOfClass ln_Al_75 ⟨(Nat.le_of_ble_eq_true rfl), (Nat.le_of_ble_eq_true rfl)⟩ (Nat.le_of_ble_eq_true rfl) ⟨(Nat.le_of_ble_eq_true rfl), (Nat.le_of_ble_eq_true rfl)⟩ ?_
        first | refine zn_bif_eq (tgt := 24) F d_Al_countClasses_18 rfl (fun h18 => ?_) (fun h18 => ?_) | refine zn_if_eq (tgt := 24) F d_Al_countClasses_18 rfl (by omega) (fun h18 => ?_) (fun h18 => ?_)
        · have es : al_cc (al_fc rs ls bs w) (q + 1) = al_cc (al_fc rs ls bs w) q := by rw [al_cc, if_neg (by rw [h18]; decide)]
          refine zn_iinc F d_Al_countClasses_24 rfl ?_
          simp only [zv_s1, zv_s2, zv_kill, List.set_cons_zero, List.set_cons_succ, List.getElem?_cons_zero, List.getElem?_cons_succ]
          refine zv_goto (tgt := 4) F d_Al_countClasses_27 rfl ?_
          have y := ih (e - (q + 1)) (by omega) (q + 1) rfl (by omega)
          rw [es] at y
          exact y
        · have es : al_cc (al_fc rs ls bs w) (q + 1) = al_cc (al_fc rs ls bs w) q + 1 := by rw [al_cc, if_pos h18]
          refine zn_iinc F d_Al_countClasses_21 rfl ?_
          simp only [zv_s1, zv_s2, zv_kill, List.set_cons_zero, List.set_cons_succ, List.getElem?_cons_zero, List.getElem?_cons_succ]
          refine zn_iinc F d_Al_countClasses_24 rfl ?_
          simp only [zv_s1, zv_s2, zv_kill, List.set_cons_zero, List.set_cons_succ, List.getElem?_cons_zero, List.getElem?_cons_succ]
          refine zv_goto (tgt := 4) F d_Al_countClasses_27 rfl ?_
          have y := ih (e - (q + 1)) (by omega) (q + 1) rfl (by omega)
          rw [es] at y
          exact y
  refine zn_iconst (x := 0) F d_Al_countClasses_0 (by decide) ?_
  refine zv_istore_n F d_Al_countClasses_1 (Nat.le_of_ble_eq_true rfl) ?_
  simp only [zv_s1, zv_s2, zv_kill, List.set_cons_zero, List.set_cons_succ, List.getElem?_cons_zero, List.getElem?_cons_succ]
  refine zn_iconst (x := 0) F d_Al_countClasses_2 (by decide) ?_
  refine zv_istore_n F d_Al_countClasses_3 (Nat.le_of_ble_eq_true rfl) ?_
  simp only [zv_s1, zv_s2, zv_kill, List.set_cons_zero, List.set_cons_succ, List.getElem?_cons_zero, List.getElem?_cons_succ]
  exact loop _ 0 rfl (Nat.zero_le _)
def al_ag (pr rs ls bs : Nat → Nat) (w j k : Nat) : Bool := decide ((w = 0 ∧ ¬ pr (60 * j + k) = pr (60 * k + j)) ∨ (w = 1 ∧ ¬ j = k ∧ al_rl rs ls bs 3 j k = true) ∨ (w = 2 ∧ ¬ j = k ∧ al_rl rs ls bs 0 j k = true) ∨ (w = 3 ∧ ¬ j = k ∧ al_rl rs ls bs 1 j k = true) ∨ (w = 4 ∧ ¬ j = k ∧ al_rl rs ls bs 2 j k = true) ∨ (w = 5 ∧ j = k ∧ rs j % 2 = 0))
theorem Al_isAgainst_ok {l : Launch} {Δ : zv_D} {hp : zv_M} {sz : Nat} {o e w j k : Nat} {pr rs ls bs : Nat → Nat} (a0 : hp o = some (al_obj o e)) (a6 : hp (o + 6) = some (zn_I Δ 3600 pr)) (a7 : hp (o + 7) = some (zn_J Δ 60 rs)) (a8 : hp (o + 8) = some (zn_J Δ 60 ls)) (a9 : hp (o + 9) = some (zn_J Δ 60 bs)) (he : e ≤ 60) (hb : al_sb e rs ls bs) (hpr : ∀ j k, j < e → k < e → pr (60 * j + k) < e) (hw : w < 6) (hj : j < e) (hk : k < e) : zv_P l Δ 1 y_Al_isAgainst b_Al_isAgainst 4 ((some (FieldType.boolean))) [.ref o, .int (nI w), .int (nI j), .int (nI k)] hp sz (.int (nI (al_ag pr rs ls bs w j k).toNat)) := by
  refine zv_E.intro (lv0 := [some (.ref o), some (.int (nI w)), some (.int (nI j)), some (.int (nI k))]) rfl (Nat.le_of_ble_eq_true rfl) rfl ?_
  intro Γ hl F
  clear hl
  have p1 := hpr j k hj hk
  have p2 := hpr k j hk hj
  have r1 := (hb j hj).1
  unfold al_ag
  rcases (show w = 0 ∨ w = 1 ∨ w = 2 ∨ w = 3 ∨ w = 4 ∨ w = 5 by omega) with rfl | rfl | rfl | rfl | rfl | rfl
  · skip
    refine zv_iload_n F d_Al_isAgainst_0 rfl ?_
    refine zv_tableIn (tgt := 40) F d_Al_isAgainst_1 (by decide) (by decide) (by rfl) rfl ?_
    refine zv_aload_n F d_Al_isAgainst_40 rfl ?_
    refine zv_iload_n F d_Al_isAgainst_41 rfl ?_
    refine zv_iload_n F d_Al_isAgainst_42 rfl ?_
    refine zv_pV2 F rfl (by assumption) k_Al.1 d_Al_isAgainst_43 (Al_multiply_ok a0 a6 (by omega) (by omega)) Y_Al_multiply Yi_Al_multiply Yv_Al_multiply ln_Al_72 ⟨(Nat.le_of_ble_eq_true rfl), (Nat.le_of_ble_eq_true rfl)⟩ (Nat.le_of_ble_eq_true rfl) ⟨(Nat.le_of_ble_eq_true rfl), (Nat.le_of_ble_eq_true rfl)⟩ ?_
    refine zv_aload_n F d_Al_isAgainst_46 rfl ?_
    refine zv_iload_n F d_Al_isAgainst_47 rfl ?_
    refine zv_iload_n F d_Al_isAgainst_48 rfl ?_
    refine zv_pV2 F rfl (by assumption) k_Al.1 d_Al_isAgainst_49 (Al_multiply_ok a0 a6 (by omega) (by omega)) Y_Al_multiply Yi_Al_multiply Yv_Al_multiply ln_Al_72 ⟨(Nat.le_of_ble_eq_true rfl), (Nat.le_of_ble_eq_true rfl)⟩ (Nat.le_of_ble_eq_true rfl) ⟨(Nat.le_of_ble_eq_true rfl), (Nat.le_of_ble_eq_true rfl)⟩ ?_
    refine zn_icmp_eq (tgt := 59) F d_Al_isAgainst_52 rfl (by omega) (by omega) (fun h52 => ?_) (fun h52 => ?_)
    · refine zn_iconst (x := 0) F d_Al_isAgainst_59 (by decide) ?_
      exact zv_zret F d_Al_isAgainst_60 (Nat.le_of_ble_eq_true rfl) (Nat.le_of_ble_eq_true rfl) (by first | rfl | exact zn_nb _) (by first | exact ⟨zn_bt (decide_eq_true (by omega)), rfl, rfl⟩ | exact ⟨zn_bf (decide_eq_false (by omega)), rfl, rfl⟩)
    · refine zn_iconst (x := 1) F d_Al_isAgainst_55 (by decide) ?_
      refine zv_goto (tgt := 60) F d_Al_isAgainst_56 rfl ?_
      exact zv_zret F d_Al_isAgainst_60 (Nat.le_of_ble_eq_true rfl) (Nat.le_of_ble_eq_true rfl) (by first | rfl | exact zn_nb _) (by first | exact ⟨zn_bt (decide_eq_true (by omega)), rfl, rfl⟩ | exact ⟨zn_bf (decide_eq_false (by omega)), rfl, rfl⟩)
  · skip
    refine zv_iload_n F d_Al_isAgainst_0 rfl ?_
    refine zv_tableIn (tgt := 61) F d_Al_isAgainst_1 (by decide) (by decide) (by rfl) rfl ?_
    refine zv_iload_n F d_Al_isAgainst_61 rfl ?_
    refine zv_iload_n F d_Al_isAgainst_62 rfl ?_
    refine zn_icmp_eq (tgt := 80) F d_Al_isAgainst_63 rfl (by omega) (by omega) (fun h63 => ?_) (fun h63 => ?_)
    · refine zn_iconst (x := 0) F d_Al_isAgainst_80 (by decide) ?_
      exact zv_zret F d_Al_isAgainst_81 (Nat.le_of_ble_eq_true rfl) (Nat.le_of_ble_eq_true rfl) (by first | rfl | exact zn_nb _) (by first | exact ⟨zn_bt (decide_eq_true (by simp [*])), rfl, rfl⟩ | exact ⟨zn_bf (decide_eq_false (by simp [*])), rfl, rfl⟩)
    · refine zv_aload_n F d_Al_isAgainst_66 rfl ?_
      refine zn_iconst (x := 3) F d_Al_isAgainst_67 (by decide) ?_
      refine zv_iload_n F d_Al_isAgainst_68 rfl ?_
      refine zv_iload_n F d_Al_isAgainst_69 rfl ?_
      refine zv_pV3 F rfl (by assumption) k_Al.1 d_Al_isAgainst_70 (Al_areRelated_ok a0 a7 a8 a9 he hb (by decide) hj hk) Y_Al_areRelated Yi_Al_areRelated Yv_Al_areRelated ln_Al_79 ⟨(Nat.le_of_ble_eq_true rfl), (Nat.le_of_ble_eq_true rfl)⟩ (Nat.le_of_ble_eq_true rfl) ⟨(Nat.le_of_ble_eq_true rfl), (Nat.le_of_ble_eq_true rfl)⟩ ?_
      first | refine zn_bif_eq (tgt := 80) F d_Al_isAgainst_73 rfl (fun h73 => ?_) (fun h73 => ?_) | refine zn_if_eq (tgt := 80) F d_Al_isAgainst_73 rfl (by omega) (fun h73 => ?_) (fun h73 => ?_)
      · refine zn_iconst (x := 0) F d_Al_isAgainst_80 (by decide) ?_
        exact zv_zret F d_Al_isAgainst_81 (Nat.le_of_ble_eq_true rfl) (Nat.le_of_ble_eq_true rfl) (by first | rfl | exact zn_nb _) (by first | exact ⟨zn_bt (decide_eq_true (by simp [*])), rfl, rfl⟩ | exact ⟨zn_bf (decide_eq_false (by simp [*])), rfl, rfl⟩)
      · refine zn_iconst (x := 1) F d_Al_isAgainst_76 (by decide) ?_
        refine zv_goto (tgt := 81) F d_Al_isAgainst_77 rfl ?_
        exact zv_zret F d_Al_isAgainst_81 (Nat.le_of_ble_eq_true rfl) (Nat.le_of_ble_eq_true rfl) (by first | rfl | exact zn_nb _) (by first | exact ⟨zn_bt (decide_eq_true (by simp [*])), rfl, rfl⟩ | exact ⟨zn_bf (decide_eq_false (by simp [*])), rfl, rfl⟩)
  · skip
    refine zv_iload_n F d_Al_isAgainst_0 rfl ?_
    refine zv_tableIn (tgt := 82) F d_Al_isAgainst_1 (by decide) (by decide) (by rfl) rfl ?_
    refine zv_iload_n F d_Al_isAgainst_82 rfl ?_
    refine zv_iload_n F d_Al_isAgainst_83 rfl ?_
    refine zn_icmp_eq (tgt := 101) F d_Al_isAgainst_84 rfl (by omega) (by omega) (fun h84 => ?_) (fun h84 => ?_)
    · refine zn_iconst (x := 0) F d_Al_isAgainst_101 (by decide) ?_
      exact zv_zret F d_Al_isAgainst_102 (Nat.le_of_ble_eq_true rfl) (Nat.le_of_ble_eq_true rfl) (by first | rfl | exact zn_nb _) (by first | exact ⟨zn_bt (decide_eq_true (by simp [*])), rfl, rfl⟩ | exact ⟨zn_bf (decide_eq_false (by simp [*])), rfl, rfl⟩)
    · refine zv_aload_n F d_Al_isAgainst_87 rfl ?_
      refine zn_iconst (x := 0) F d_Al_isAgainst_88 (by decide) ?_
      refine zv_iload_n F d_Al_isAgainst_89 rfl ?_
      refine zv_iload_n F d_Al_isAgainst_90 rfl ?_
      refine zv_pV3 F rfl (by assumption) k_Al.1 d_Al_isAgainst_91 (Al_areRelated_ok a0 a7 a8 a9 he hb (by decide) hj hk) Y_Al_areRelated Yi_Al_areRelated Yv_Al_areRelated ln_Al_79 ⟨(Nat.le_of_ble_eq_true rfl), (Nat.le_of_ble_eq_true rfl)⟩ (Nat.le_of_ble_eq_true rfl) ⟨(Nat.le_of_ble_eq_true rfl), (Nat.le_of_ble_eq_true rfl)⟩ ?_
      first | refine zn_bif_eq (tgt := 101) F d_Al_isAgainst_94 rfl (fun h94 => ?_) (fun h94 => ?_) | refine zn_if_eq (tgt := 101) F d_Al_isAgainst_94 rfl (by omega) (fun h94 => ?_) (fun h94 => ?_)
      · refine zn_iconst (x := 0) F d_Al_isAgainst_101 (by decide) ?_
        exact zv_zret F d_Al_isAgainst_102 (Nat.le_of_ble_eq_true rfl) (Nat.le_of_ble_eq_true rfl) (by first | rfl | exact zn_nb _) (by first | exact ⟨zn_bt (decide_eq_true (by simp [*])), rfl, rfl⟩ | exact ⟨zn_bf (decide_eq_false (by simp [*])), rfl, rfl⟩)
      · refine zn_iconst (x := 1) F d_Al_isAgainst_97 (by decide) ?_
        refine zv_goto (tgt := 102) F d_Al_isAgainst_98 rfl ?_
        exact zv_zret F d_Al_isAgainst_102 (Nat.le_of_ble_eq_true rfl) (Nat.le_of_ble_eq_true rfl) (by first | rfl | exact zn_nb _) (by first | exact ⟨zn_bt (decide_eq_true (by simp [*])), rfl, rfl⟩ | exact ⟨zn_bf (decide_eq_false (by simp [*])), rfl, rfl⟩)
  · skip
    refine zv_iload_n F d_Al_isAgainst_0 rfl ?_
    refine zv_tableIn (tgt := 103) F d_Al_isAgainst_1 (by decide) (by decide) (by rfl) rfl ?_
    refine zv_iload_n F d_Al_isAgainst_103 rfl ?_
    refine zv_iload_n F d_Al_isAgainst_104 rfl ?_
    refine zn_icmp_eq (tgt := 122) F d_Al_isAgainst_105 rfl (by omega) (by omega) (fun h105 => ?_) (fun h105 => ?_)
    · refine zn_iconst (x := 0) F d_Al_isAgainst_122 (by decide) ?_
      exact zv_zret F d_Al_isAgainst_123 (Nat.le_of_ble_eq_true rfl) (Nat.le_of_ble_eq_true rfl) (by first | rfl | exact zn_nb _) (by first | exact ⟨zn_bt (decide_eq_true (by simp [*])), rfl, rfl⟩ | exact ⟨zn_bf (decide_eq_false (by simp [*])), rfl, rfl⟩)
    · refine zv_aload_n F d_Al_isAgainst_108 rfl ?_
      refine zn_iconst (x := 1) F d_Al_isAgainst_109 (by decide) ?_
      refine zv_iload_n F d_Al_isAgainst_110 rfl ?_
      refine zv_iload_n F d_Al_isAgainst_111 rfl ?_
      refine zv_pV3 F rfl (by assumption) k_Al.1 d_Al_isAgainst_112 (Al_areRelated_ok a0 a7 a8 a9 he hb (by decide) hj hk) Y_Al_areRelated Yi_Al_areRelated Yv_Al_areRelated ln_Al_79 ⟨(Nat.le_of_ble_eq_true rfl), (Nat.le_of_ble_eq_true rfl)⟩ (Nat.le_of_ble_eq_true rfl) ⟨(Nat.le_of_ble_eq_true rfl), (Nat.le_of_ble_eq_true rfl)⟩ ?_
      first | refine zn_bif_eq (tgt := 122) F d_Al_isAgainst_115 rfl (fun h115 => ?_) (fun h115 => ?_) | refine zn_if_eq (tgt := 122) F d_Al_isAgainst_115 rfl (by omega) (fun h115 => ?_) (fun h115 => ?_)
      · refine zn_iconst (x := 0) F d_Al_isAgainst_122 (by decide) ?_
        exact zv_zret F d_Al_isAgainst_123 (Nat.le_of_ble_eq_true rfl) (Nat.le_of_ble_eq_true rfl) (by first | rfl | exact zn_nb _) (by first | exact ⟨zn_bt (decide_eq_true (by simp [*])), rfl, rfl⟩ | exact ⟨zn_bf (decide_eq_false (by simp [*])), rfl, rfl⟩)
      · refine zn_iconst (x := 1) F d_Al_isAgainst_118 (by decide) ?_
        refine zv_goto (tgt := 123) F d_Al_isAgainst_119 rfl ?_
        exact zv_zret F d_Al_isAgainst_123 (Nat.le_of_ble_eq_true rfl) (Nat.le_of_ble_eq_true rfl) (by first | rfl | exact zn_nb _) (by first | exact ⟨zn_bt (decide_eq_true (by simp [*])), rfl, rfl⟩ | exact ⟨zn_bf (decide_eq_false (by simp [*])), rfl, rfl⟩)
  · skip
    refine zv_iload_n F d_Al_isAgainst_0 rfl ?_
    refine zv_tableIn (tgt := 124) F d_Al_isAgainst_1 (by decide) (by decide) (by rfl) rfl ?_
    refine zv_iload_n F d_Al_isAgainst_124 rfl ?_
    refine zv_iload_n F d_Al_isAgainst_125 rfl ?_
    refine zn_icmp_eq (tgt := 143) F d_Al_isAgainst_126 rfl (by omega) (by omega) (fun h126 => ?_) (fun h126 => ?_)
    · refine zn_iconst (x := 0) F d_Al_isAgainst_143 (by decide) ?_
      exact zv_zret F d_Al_isAgainst_144 (Nat.le_of_ble_eq_true rfl) (Nat.le_of_ble_eq_true rfl) (by first | rfl | exact zn_nb _) (by first | exact ⟨zn_bt (decide_eq_true (by simp [*])), rfl, rfl⟩ | exact ⟨zn_bf (decide_eq_false (by simp [*])), rfl, rfl⟩)
    · refine zv_aload_n F d_Al_isAgainst_129 rfl ?_
      refine zn_iconst (x := 2) F d_Al_isAgainst_130 (by decide) ?_
      refine zv_iload_n F d_Al_isAgainst_131 rfl ?_
      refine zv_iload_n F d_Al_isAgainst_132 rfl ?_
      refine zv_pV3 F rfl (by assumption) k_Al.1 d_Al_isAgainst_133 (Al_areRelated_ok a0 a7 a8 a9 he hb (by decide) hj hk) Y_Al_areRelated Yi_Al_areRelated Yv_Al_areRelated ln_Al_79 ⟨(Nat.le_of_ble_eq_true rfl), (Nat.le_of_ble_eq_true rfl)⟩ (Nat.le_of_ble_eq_true rfl) ⟨(Nat.le_of_ble_eq_true rfl), (Nat.le_of_ble_eq_true rfl)⟩ ?_
      first | refine zn_bif_eq (tgt := 143) F d_Al_isAgainst_136 rfl (fun h136 => ?_) (fun h136 => ?_) | refine zn_if_eq (tgt := 143) F d_Al_isAgainst_136 rfl (by omega) (fun h136 => ?_) (fun h136 => ?_)
      · refine zn_iconst (x := 0) F d_Al_isAgainst_143 (by decide) ?_
        exact zv_zret F d_Al_isAgainst_144 (Nat.le_of_ble_eq_true rfl) (Nat.le_of_ble_eq_true rfl) (by first | rfl | exact zn_nb _) (by first | exact ⟨zn_bt (decide_eq_true (by simp [*])), rfl, rfl⟩ | exact ⟨zn_bf (decide_eq_false (by simp [*])), rfl, rfl⟩)
      · refine zn_iconst (x := 1) F d_Al_isAgainst_139 (by decide) ?_
        refine zv_goto (tgt := 144) F d_Al_isAgainst_140 rfl ?_
        exact zv_zret F d_Al_isAgainst_144 (Nat.le_of_ble_eq_true rfl) (Nat.le_of_ble_eq_true rfl) (by first | rfl | exact zn_nb _) (by first | exact ⟨zn_bt (decide_eq_true (by simp [*])), rfl, rfl⟩ | exact ⟨zn_bf (decide_eq_false (by simp [*])), rfl, rfl⟩)
  · skip
    refine zv_iload_n F d_Al_isAgainst_0 rfl ?_
    refine zv_tableIn (tgt := 145) F d_Al_isAgainst_1 (by decide) (by decide) (by rfl) rfl ?_
    refine zv_iload_n F d_Al_isAgainst_145 rfl ?_
    refine zv_iload_n F d_Al_isAgainst_146 rfl ?_
    refine zn_icmp_ne (tgt := 167) F d_Al_isAgainst_147 rfl (by omega) (by omega) (fun h147 => ?_) (fun h147 => ?_)
    · refine zn_iconst (x := 0) F d_Al_isAgainst_167 (by decide) ?_
      exact zv_zret F d_Al_isAgainst_168 (Nat.le_of_ble_eq_true rfl) (Nat.le_of_ble_eq_true rfl) (by first | rfl | exact zn_nb _) (by first | exact ⟨zn_bt (decide_eq_true (by omega)), rfl, rfl⟩ | exact ⟨zn_bf (decide_eq_false (by omega)), rfl, rfl⟩)
    · refine zv_aload_n F d_Al_isAgainst_150 rfl ?_
      refine zv_get F d_Al_isAgainst_151 (by assumption) k_Al 7 (Nat.le_of_ble_eq_true rfl) ln_Al_31 rfl (by rfl) ?_
      refine zv_iload_n F d_Al_isAgainst_154 rfl ?_
      refine zn_lald F d_Al_isAgainst_155 (by assumption) (by omega) (by omega) ?_
      refine zn_lconst (x := 1) F d_Al_isAgainst_156 (by decide) ?_
      refine zn_land F d_Al_isAgainst_157 ?_
      rw [Nat.and_one_is_mod]
      refine zn_lconst (x := 0) F d_Al_isAgainst_158 (by decide) ?_
      refine zn_lcmp F d_Al_isAgainst_159 (by omega) (by omega) (fun w159 b159 c159 => ?_)
      first | refine zn_bif_ne (tgt := 167) F d_Al_isAgainst_160 rfl (fun h160 => ?_) (fun h160 => ?_) | refine zn_if_ne (tgt := 167) F d_Al_isAgainst_160 rfl (by omega) (fun h160 => ?_) (fun h160 => ?_)
      · refine zn_iconst (x := 0) F d_Al_isAgainst_167 (by decide) ?_
        exact zv_zret F d_Al_isAgainst_168 (Nat.le_of_ble_eq_true rfl) (Nat.le_of_ble_eq_true rfl) (by first | rfl | exact zn_nb _) (by first | exact ⟨zn_bt (decide_eq_true (by omega)), rfl, rfl⟩ | exact ⟨zn_bf (decide_eq_false (by omega)), rfl, rfl⟩)
      · refine zn_iconst (x := 1) F d_Al_isAgainst_163 (by decide) ?_
        refine zv_goto (tgt := 168) F d_Al_isAgainst_164 rfl ?_
        exact zv_zret F d_Al_isAgainst_168 (Nat.le_of_ble_eq_true rfl) (Nat.le_of_ble_eq_true rfl) (by first | rfl | exact zn_nb _) (by first | exact ⟨zn_bt (decide_eq_true (by omega)), rfl, rfl⟩ | exact ⟨zn_bf (decide_eq_false (by omega)), rfl, rfl⟩)
end
section
theorem bf_from_app (g : Nat → Nat) (s : Nat) (u v : List Bool) : bf_from g s (u ++ v) = bf_from g (bf_from g s u) v := by
  simp [bf_from, List.foldl_append]
theorem al_prod {n e : Nat} {g lg sh la pr : Nat → Nat} (hg : ∀ j, j < 2 * n → g j < n) (hS : al_S n g e lg sh la) (hp : ∀ j, j < e → pr (60 * j) = j ∧ ∀ k, 0 < k → k < e → pr (60 * j + k) = lg (2 * pr (60 * j + sh k) + la k)) : al_P e lg pr ∧ ∀ j k, j < e → k < e → pr (60 * j + k) < e := by
  obtain ⟨⟨hn, hT⟩, hs⟩ := hS
  have hlg : ∀ j, j < 2 * e → lg j < e := fun j hj => (hn.2.1 j hj).1
  have key : ∀ k, k < e → ∃ W : List Bool, bf_run lg W = k ∧ ∀ j, j < e → pr (60 * j + k) = bf_from lg j W := by
    intro k
    induction k using Nat.strongRecOn with
    | ind k ih =>
      intro hk
      by_cases k0 : k = 0
      · subst k0
        exact ⟨[], rfl, fun j hj => by rw [Nat.add_zero]; exact (hp j hj).1⟩
      · obtain ⟨c1, c2, c3, c4⟩ := hs k (by omega) hk
        obtain ⟨W, w1, w2⟩ := ih (sh k) c1 (by omega)
        obtain ⟨b, hb⟩ := al_b2 (la k) c2
        refine ⟨W ++ [b], ?_, fun j hj => ?_⟩
        · rw [bf_run_snoc, w1, hb]
          exact c3
        · rw [(hp j hj).2 k (by omega) hk, w2 j hj, bf_from_snoc, hb]
  refine ⟨fun u v => ?_, fun j k hj hk => ?_⟩
  · obtain ⟨W, w1, w2⟩ := key _ (bf_run_lt hn v)
    rw [w2 _ (bf_run_lt hn u), ← bf_run_app]
    refine (hT _ _).mpr fun q hq => ?_
    rw [bf_from_app, bf_from_app]
    exact (hT W v).mp w1 _ (bf_from_lt hg u q hq)
  · obtain ⟨W, w1, w2⟩ := key k hk
    rw [w2 j hj]
    exact bf_from_lt hlg W j hj
def al_at (Δ : zv_D) (hp : zv_M) (o e : Nat) (wd pr rs ls bs : Nat → Nat) : Prop := hp o = some (al_obj o e) ∧ (∃ mp lg sh la : Nat → Nat, hp (o + 1) = some (zn_I Δ 60 mp) ∧ hp (o + 2) = some (zn_I Δ 120 lg) ∧ hp (o + 3) = some (zn_I Δ 60 sh) ∧ hp (o + 4) = some (zn_I Δ 60 la)) ∧ hp (o + 5) = some (zn_J Δ 60 wd) ∧ hp (o + 6) = some (zn_I Δ 3600 pr) ∧ hp (o + 7) = some (zn_J Δ 60 rs) ∧ hp (o + 8) = some (zn_J Δ 60 ls) ∧ hp (o + 9) = some (zn_J Δ 60 bs)
/-- the algebra is that of the automaton -/
def al_ok (n : Nat) (g : Nat → Nat) (e : Nat) (wd pr : Nat → Nat) : Prop := e ≤ 60 ∧ 0 < e ∧ ∃ lg : Nat → Nat, al_T n g e lg ∧ al_W e lg wd ∧ al_P e lg pr ∧ ∀ j k, j < e → k < e → pr (60 * j + k) < e
def al_sets (e : Nat) (pr rs ls bs : Nat → Nat) : Prop := ∀ j, j < e → rs j = al_r e pr j ∧ ls j = al_l e pr j ∧ bs j = al_b e pr j
theorem al_sets_sb {e : Nat} {pr rs ls bs : Nat → Nat} (he : e ≤ 60) (hpr : ∀ j k, j < e → k < e → pr (60 * j + k) < e) (h : al_sets e pr rs ls bs) : al_sb e rs ls bs := by
  have p2 : ∀ v, v < e → 2 ^ v < 2 ^ 60 := fun v hv => Nat.pow_lt_pow_right (by decide) (by omega)
  have hr : ∀ j, j < e → al_r e pr j < 2 ^ 60 := fun j hj => al_or_lt (fun x hx => p2 _ (hpr j x hj hx))
  intro j hj
  obtain ⟨h1, h2, h3⟩ := h j hj
  have b1 := hr j hj
  have b2 : al_l e pr j < 2 ^ 60 := al_or_lt (fun x hx => p2 _ (hpr x j hx hj))
  have b3 : al_b e pr j < 2 ^ 60 := al_or_lt (fun x hx => hr _ (hpr x j hx hj))
  rw [h1, h2, h3]
  omega
theorem Al_workOut_ok {l : Launch} {Δ : zv_D} {hp : zv_M} {sz : Nat} {o a n acc e0 : Nat} {g wd pr rs ls bs : Nat → Nat} (hL : al_at Δ hp o e0 wd pr rs ls bs) (hA : au_at Δ hp a n acc g) (ho : au_ok n acc g) (hg : ∀ j, j < 2 * n → g j < n) (hd : a + 1 < o ∨ o + 10 ≤ a) : zv_E l Δ 3 y_Al_workOut b_Al_workOut 3 ((some (FieldType.boolean))) [.ref o, .ref a] hp sz 0 0 (fun r hp1 sz1 => ∃ bb : Bool, r = some (.int (nI bb.toNat)) ∧ sz1 = sz ∧ (∀ q, q < o ∨ o + 10 ≤ q → hp1 q = hp q) ∧ (bb = false → al_big n g 61 ∧ al_at Δ hp1 o e0 wd pr rs ls bs) ∧ (bb = true → ∃ (e : Nat) (wd1 pr1 rs1 ls1 bs1 : Nat → Nat), al_at Δ hp1 o e wd1 pr1 rs1 ls1 bs1 ∧ al_ok n g e wd1 pr1 ∧ al_sets e pr1 rs1 ls1 bs1)) := by
  refine zv_E.intro (lv0 := [some (.ref o), some (.ref a), none]) rfl (Nat.le_of_ble_eq_true rfl) rfl ?_
  intro Γ hl F
  clear hl
  obtain ⟨a0, ⟨mp, lg, sh, la, a1, a2, a3, a4⟩, a5, a6, a7, a8, a9⟩ := hL
  refine zv_aload_n F d_Al_workOut_0 rfl ?_
  refine zv_aload_n F d_Al_workOut_1 rfl ?_
  refine zv_mV1 F rfl (by assumption) k_Al.1 d_Al_workOut_2 (Al_search_ok a0 a1 a2 a3 a4 hA ho hg hd) Y_Al_search Yi_Al_search Yv_Al_search ln_Al_44 ⟨(Nat.le_of_ble_eq_true rfl), (Nat.le_of_ble_eq_true rfl)⟩ (Nat.le_of_ble_eq_true rfl) ⟨(Nat.le_of_ble_eq_true rfl), (Nat.le_of_ble_eq_true rfl)⟩ (fun r hp2 sz2 q2 => ?_)
  obtain ⟨v, mp, lg, sh, la, rfl, rfl, b1, b2, b3, b4, fr0, hv⟩ := q2
  have hv1 : v = 61 ∨ v ≤ 60 := by rcases hv with h | h; exact Or.inl h.1; exact Or.inr h.1
  replace a0 := (fr0 o (by omega)).trans a0
  replace a5 := (fr0 (o + 5) (by omega)).trans a5
  replace a6 := (fr0 (o + 6) (by omega)).trans a6
  replace a7 := (fr0 (o + 7) (by omega)).trans a7
  replace a8 := (fr0 (o + 8) (by omega)).trans a8
  replace a9 := (fr0 (o + 9) (by omega)).trans a9
  clear a1 a2 a3 a4
  have a1 := b1
  have a2 := b2
  have a3 := b3
  have a4 := b4
  have fr : ∀ q, q < o ∨ o + 10 ≤ q → hp2 q = hp q := fun q hq => fr0 q (by omega)
  try simp only [Option.toList, List.cons_append, List.nil_append]
  refine zv_istore_n F d_Al_workOut_5 (Nat.le_of_ble_eq_true rfl) ?_
  simp only [zv_s1, zv_s2, zv_kill, List.set_cons_zero, List.set_cons_succ, List.getElem?_cons_zero, List.getElem?_cons_succ]
  refine zv_iload_n F d_Al_workOut_6 rfl ?_
  refine zn_bipush (x := 60) F d_Al_workOut_7 (by decide) ?_
  refine zn_icmp_le (tgt := 14) F d_Al_workOut_9 rfl (by omega) (by omega) (fun h9 => ?_) (fun h9 => ?_)
  · obtain ⟨hv60, hv0, hS⟩ : v ≤ 60 ∧ 0 < v ∧ al_S n g v lg sh la := by rcases hv with h | h; exact absurd h.1 (by omega); exact h
    refine zv_aload_n F d_Al_workOut_14 rfl ?_
    refine zv_iload_n F d_Al_workOut_15 rfl ?_
    refine zv_put F d_Al_workOut_16 (by assumption) k_Al 4 (Nat.le_of_ble_eq_true rfl) ln_Al_40 rfl rfl rfl (by rfl) (by rfl) (Nat.le_of_ble_eq_true rfl) (fun hp16 e16 => ?_)
    replace a0 := zv_eq e16
    replace a1 := (zv_ne e16 (by omega)).trans a1
    replace a2 := (zv_ne e16 (by omega)).trans a2
    replace a3 := (zv_ne e16 (by omega)).trans a3
    replace a4 := (zv_ne e16 (by omega)).trans a4
    replace a5 := (zv_ne e16 (by omega)).trans a5
    replace a6 := (zv_ne e16 (by omega)).trans a6
    replace a7 := (zv_ne e16 (by omega)).trans a7
    replace a8 := (zv_ne e16 (by omega)).trans a8
    replace a9 := (zv_ne e16 (by omega)).trans a9
    replace fr := fun b hb => (zv_ne (b := b) e16 (by omega)).trans (fr b hb)
    refine zv_aload_n F d_Al_workOut_19 rfl ?_
    refine zv_mV0 F rfl (by assumption) k_Al.1 d_Al_workOut_20 (Al_keepWords_ok a0 a3 a4 a5 hv60 hv0 hS.2) Y_Al_keepWords Yi_Al_keepWords Yv_Al_keepWords ln_Al_48 ⟨(Nat.le_of_ble_eq_true rfl), (Nat.le_of_ble_eq_true rfl)⟩ (Nat.le_of_ble_eq_true rfl) ⟨(Nat.le_of_ble_eq_true rfl), (Nat.le_of_ble_eq_true rfl)⟩ (fun r hp20 sz20 q20 => ?_)
    obtain ⟨wd, rfl, rfl, c5, fr1, hW⟩ := q20
    replace a0 := (fr1 o (by omega)).trans a0
    replace a1 := (fr1 (o + 1) (by omega)).trans a1
    replace a2 := (fr1 (o + 2) (by omega)).trans a2
    replace a3 := (fr1 (o + 3) (by omega)).trans a3
    replace a4 := (fr1 (o + 4) (by omega)).trans a4
    replace a6 := (fr1 (o + 6) (by omega)).trans a6
    replace a7 := (fr1 (o + 7) (by omega)).trans a7
    replace a8 := (fr1 (o + 8) (by omega)).trans a8
    replace a9 := (fr1 (o + 9) (by omega)).trans a9
    replace fr : ∀ q, q < o ∨ o + 10 ≤ q → hp20 q = hp q := fun q hq => (fr1 q (by omega)).trans (fr q hq)
    try simp only [Option.toList, List.cons_append, List.nil_append]
    refine zv_aload_n F d_Al_workOut_23 rfl ?_
    refine zv_mV0 F rfl (by assumption) k_Al.1 d_Al_workOut_24 (Al_keepProducts_ok a0 a2 a3 a4 a6 hv60 (fun i hi => (hS.1.1.2.1 i hi).1) (fun k k1 k2 => ⟨(hS.2 k k1 k2).1, (hS.2 k k1 k2).2.1⟩)) Y_Al_keepProducts Yi_Al_keepProducts Yv_Al_keepProducts ln_Al_51 ⟨(Nat.le_of_ble_eq_true rfl), (Nat.le_of_ble_eq_true rfl)⟩ (Nat.le_of_ble_eq_true rfl) ⟨(Nat.le_of_ble_eq_true rfl), (Nat.le_of_ble_eq_true rfl)⟩ (fun r hp24 sz24 q24 => ?_)
    obtain ⟨pr, rfl, rfl, c6, fr2, hP⟩ := q24
    obtain ⟨hP1, hP2⟩ := al_prod hg hS hP
    replace a0 := (fr2 o (by omega)).trans a0
    replace a1 := (fr2 (o + 1) (by omega)).trans a1
    replace a2 := (fr2 (o + 2) (by omega)).trans a2
    replace a3 := (fr2 (o + 3) (by omega)).trans a3
    replace a4 := (fr2 (o + 4) (by omega)).trans a4
    replace c5 := (fr2 (o + 5) (by omega)).trans c5
    replace a7 := (fr2 (o + 7) (by omega)).trans a7
    replace a8 := (fr2 (o + 8) (by omega)).trans a8
    replace a9 := (fr2 (o + 9) (by omega)).trans a9
    replace fr : ∀ q, q < o ∨ o + 10 ≤ q → hp24 q = hp q := fun q hq => (fr2 q (by omega)).trans (fr q hq)
    try simp only [Option.toList, List.cons_append, List.nil_append]
    refine zv_aload_n F d_Al_workOut_27 rfl ?_
    refine zv_mV0 F rfl (by assumption) k_Al.1 d_Al_workOut_28 (Al_keepSets_ok a0 c6 a7 a8 a9 hv60 hP2) Y_Al_keepSets Yi_Al_keepSets Yv_Al_keepSets ln_Al_54 ⟨(Nat.le_of_ble_eq_true rfl), (Nat.le_of_ble_eq_true rfl)⟩ (Nat.le_of_ble_eq_true rfl) ⟨(Nat.le_of_ble_eq_true rfl), (Nat.le_of_ble_eq_true rfl)⟩ (fun r hp28 sz28 q28 => ?_)
    obtain ⟨rs, ls, bs, rfl, rfl, c7, c8, c9, fr3, hSe⟩ := q28
    try simp only [Option.toList, List.cons_append, List.nil_append]
    refine zn_iconst (x := 1) F d_Al_workOut_31 (by decide) ?_
    exact zv_zret F d_Al_workOut_32 (Nat.le_of_ble_eq_true rfl) (Nat.le_of_ble_eq_true rfl) (by first | rfl | exact zn_nb _) ⟨true, rfl, rfl, fun q hq => (fr3 q (by omega)).trans (fr q hq), (fun h => by cases h), fun _ => ⟨v, wd, pr, rs, ls, bs, ⟨(fr3 o (by omega)).trans a0, ⟨mp, lg, sh, la, (fr3 (o + 1) (by omega)).trans a1, (fr3 (o + 2) (by omega)).trans a2, (fr3 (o + 3) (by omega)).trans a3, (fr3 (o + 4) (by omega)).trans a4⟩, (fr3 (o + 5) (by omega)).trans c5, (fr3 (o + 6) (by omega)).trans c6, c7, c8, c9⟩, ⟨hv60, hv0, lg, hS.1, hW, hP1, hP2⟩, hSe⟩⟩
  · refine zn_iconst (x := 0) F d_Al_workOut_12 (by decide) ?_
    exact zv_zret F d_Al_workOut_13 (Nat.le_of_ble_eq_true rfl) (Nat.le_of_ble_eq_true rfl) (by first | rfl | exact zn_nb _) (by rcases hv with h | h; exact ⟨false, rfl, rfl, fr, fun _ => ⟨h.2, a0, ⟨mp, lg, sh, la, a1, a2, a3, a4⟩, a5, a6, a7, a8, a9⟩, fun h => by cases h⟩; exact absurd h.1 (by omega))
end
section
theorem Au_init_ok {l : Launch} {Δ : zv_D} {hp : zv_M} {sz : Nat} {a : Nat} (f0 : hp a = some (.inr (0, [.int (nI 0), .int (nI 0), .null]))) (ha : sz = a + 1) : zv_E l Δ 1 y_Au_init b_Au_init 1 (none) [.ref a] hp sz 1 12 (fun r hp1 sz1 => r = none ∧ sz1 = a + 2 ∧ au_at Δ hp1 a 0 0 (fun _ => 0) ∧ ∀ q, q < a → hp1 q = hp q) := by
  refine zv_E.intro (lv0 := [some (.ref a)]) rfl (Nat.le_of_ble_eq_true rfl) rfl ?_
  intro Γ hl F
  clear hl
  have fr : ∀ q, q < a → hp q = hp q := fun q _ => rfl
  subst ha
  refine zv_aload_n F d_Au_init_0 rfl ?_
  refine zv_obj F rfl d_Au_init_1 ln_Au_3 ko_i ko_c ⟨(Nat.le_of_ble_eq_true rfl), (Nat.le_of_ble_eq_true rfl)⟩ ?_
  refine zv_aload_n F d_Au_init_4 rfl ?_
  refine zn_bipush (x := 12) F d_Au_init_5 (by decide) ?_
  refine zn_newI F d_Au_init_7 (by decide) (Nat.le_of_ble_eq_true rfl) (Nat.le_of_ble_eq_true rfl) (fun hp7 l7 e7 => ?_)
  have l7_f0 := l7 _ _ f0
  replace f0 := (zv_ne e7 (by omega)).trans f0
  replace fr := fun b hb => (zv_ne (b := b) e7 (by omega)).trans (fr b hb)
  have f1 := zv_eq e7
  refine zv_putF F d_Au_init_9 (by assumption) k_Au 2 (Nat.le_of_ble_eq_true rfl) ln_Au_9 rfl rfl rfl rfl rfl (by rfl) (by rfl) (Nat.le_of_ble_eq_true rfl) (fun hp9 e9 => ?_)
  replace f0 := zv_eq e9
  replace fr := fun b hb => (zv_ne (b := b) e9 (by omega)).trans (fr b hb)
  replace f1 := (zv_ne e9 (by omega)).trans f1
  exact zv_vret F d_Au_init_12 (Nat.le_of_ble_eq_true rfl) (Nat.le_of_ble_eq_true rfl) ⟨rfl, rfl, ⟨f0, f1⟩, fr⟩
theorem Re_init_ok {l : Launch} {Δ : zv_D} {hp : zv_M} {sz : Nat} {a : Nat} (f0 : hp a = some (.inr (7, [.null, .null, .null, .int (nI 0), .null, .null, .null]))) (ha : sz = a + 1) : zv_E l Δ 1 y_Re_init b_Re_init 1 (none) [.ref a] hp sz 6 2310 (fun r hp1 sz1 => r = none ∧ sz1 = a + 7 ∧ re_at Δ hp1 a ∧ ∀ q, q < a → hp1 q = hp q) := by
  refine zv_E.intro (lv0 := [some (.ref a)]) rfl (Nat.le_of_ble_eq_true rfl) rfl ?_
  intro Γ hl F
  clear hl
  have fr : ∀ q, q < a → hp q = hp q := fun q _ => rfl
  subst ha
  refine zv_aload_n F d_Re_init_0 rfl ?_
  refine zv_obj F rfl d_Re_init_1 ln_Re_3 ko_i ko_c ⟨(Nat.le_of_ble_eq_true rfl), (Nat.le_of_ble_eq_true rfl)⟩ ?_
  refine zv_aload_n F d_Re_init_4 rfl ?_
  refine zn_sipush (x := 384) F d_Re_init_5 (by decide) ?_
  refine zn_newI F d_Re_init_8 (by decide) (Nat.le_of_ble_eq_true rfl) (Nat.le_of_ble_eq_true rfl) (fun hp8 l8 e8 => ?_)
  have l8_f0 := l8 _ _ f0
  replace f0 := (zv_ne e8 (by omega)).trans f0
  replace fr := fun b hb => (zv_ne (b := b) e8 (by omega)).trans (fr b hb)
  have f1 := zv_eq e8
  refine zv_putF F d_Re_init_10 (by assumption) k_Re 0 (Nat.le_of_ble_eq_true rfl) ln_Re_9 rfl rfl rfl rfl rfl (by rfl) (by rfl) (Nat.le_of_ble_eq_true rfl) (fun hp10 e10 => ?_)
  replace f0 := zv_eq e10
  replace fr := fun b hb => (zv_ne (b := b) e10 (by omega)).trans (fr b hb)
  replace f1 := (zv_ne e10 (by omega)).trans f1
  refine zv_aload_n F d_Re_init_13 rfl ?_
  refine zn_sipush (x := 384) F d_Re_init_14 (by decide) ?_
  refine zn_newI F d_Re_init_17 (by decide) (Nat.le_of_ble_eq_true rfl) (Nat.le_of_ble_eq_true rfl) (fun hp17 l17 e17 => ?_)
  have l17_f0 := l17 _ _ f0
  replace f0 := (zv_ne e17 (by omega)).trans f0
  replace fr := fun b hb => (zv_ne (b := b) e17 (by omega)).trans (fr b hb)
  have l17_f1 := l17 _ _ f1
  replace f1 := (zv_ne e17 (by omega)).trans f1
  have f2 := zv_eq e17
  refine zv_putF F d_Re_init_19 (by assumption) k_Re 1 (Nat.le_of_ble_eq_true rfl) ln_Re_15 rfl rfl rfl rfl rfl (by rfl) (by rfl) (Nat.le_of_ble_eq_true rfl) (fun hp19 e19 => ?_)
  replace f0 := zv_eq e19
  replace fr := fun b hb => (zv_ne (b := b) e19 (by omega)).trans (fr b hb)
  replace f1 := (zv_ne e19 (by omega)).trans f1
  replace f2 := (zv_ne e19 (by omega)).trans f2
  refine zv_aload_n F d_Re_init_22 rfl ?_
  refine zn_sipush (x := 768) F d_Re_init_23 (by decide) ?_
  refine zn_newI F d_Re_init_26 (by decide) (Nat.le_of_ble_eq_true rfl) (Nat.le_of_ble_eq_true rfl) (fun hp26 l26 e26 => ?_)
  have l26_f0 := l26 _ _ f0
  replace f0 := (zv_ne e26 (by omega)).trans f0
  replace fr := fun b hb => (zv_ne (b := b) e26 (by omega)).trans (fr b hb)
  have l26_f1 := l26 _ _ f1
  replace f1 := (zv_ne e26 (by omega)).trans f1
  have l26_f2 := l26 _ _ f2
  replace f2 := (zv_ne e26 (by omega)).trans f2
  have f3 := zv_eq e26
  refine zv_putF F d_Re_init_28 (by assumption) k_Re 2 (Nat.le_of_ble_eq_true rfl) ln_Re_18 rfl rfl rfl rfl rfl (by rfl) (by rfl) (Nat.le_of_ble_eq_true rfl) (fun hp28 e28 => ?_)
  replace f0 := zv_eq e28
  replace fr := fun b hb => (zv_ne (b := b) e28 (by omega)).trans (fr b hb)
  replace f1 := (zv_ne e28 (by omega)).trans f1
  replace f2 := (zv_ne e28 (by omega)).trans f2
  replace f3 := (zv_ne e28 (by omega)).trans f3
  refine zv_aload_n F d_Re_init_31 rfl ?_
  refine zn_sipush (x := 384) F d_Re_init_32 (by decide) ?_
  refine zn_newI F d_Re_init_35 (by decide) (Nat.le_of_ble_eq_true rfl) (Nat.le_of_ble_eq_true rfl) (fun hp35 l35 e35 => ?_)
  have l35_f0 := l35 _ _ f0
  replace f0 := (zv_ne e35 (by omega)).trans f0
  replace fr := fun b hb => (zv_ne (b := b) e35 (by omega)).trans (fr b hb)
  have l35_f1 := l35 _ _ f1
  replace f1 := (zv_ne e35 (by omega)).trans f1
  have l35_f2 := l35 _ _ f2
  replace f2 := (zv_ne e35 (by omega)).trans f2
  have l35_f3 := l35 _ _ f3
  replace f3 := (zv_ne e35 (by omega)).trans f3
  have f4 := zv_eq e35
  refine zv_put F d_Re_init_37 (by assumption) k_Re 4 (Nat.le_of_ble_eq_true rfl) ln_Re_21 rfl rfl rfl (by rfl) (by rfl) (Nat.le_of_ble_eq_true rfl) (fun hp37 e37 => ?_)
  replace f0 := zv_eq e37
  replace fr := fun b hb => (zv_ne (b := b) e37 (by omega)).trans (fr b hb)
  replace f1 := (zv_ne e37 (by omega)).trans f1
  replace f2 := (zv_ne e37 (by omega)).trans f2
  replace f3 := (zv_ne e37 (by omega)).trans f3
  replace f4 := (zv_ne e37 (by omega)).trans f4
  refine zv_aload_n F d_Re_init_40 rfl ?_
  refine zn_sipush (x := 384) F d_Re_init_41 (by decide) ?_
  refine zn_newI F d_Re_init_44 (by decide) (Nat.le_of_ble_eq_true rfl) (Nat.le_of_ble_eq_true rfl) (fun hp44 l44 e44 => ?_)
  have l44_f0 := l44 _ _ f0
  replace f0 := (zv_ne e44 (by omega)).trans f0
  replace fr := fun b hb => (zv_ne (b := b) e44 (by omega)).trans (fr b hb)
  have l44_f1 := l44 _ _ f1
  replace f1 := (zv_ne e44 (by omega)).trans f1
  have l44_f2 := l44 _ _ f2
  replace f2 := (zv_ne e44 (by omega)).trans f2
  have l44_f3 := l44 _ _ f3
  replace f3 := (zv_ne e44 (by omega)).trans f3
  have l44_f4 := l44 _ _ f4
  replace f4 := (zv_ne e44 (by omega)).trans f4
  have f5 := zv_eq e44
  refine zv_put F d_Re_init_46 (by assumption) k_Re 5 (Nat.le_of_ble_eq_true rfl) ln_Re_24 rfl rfl rfl (by rfl) (by rfl) (Nat.le_of_ble_eq_true rfl) (fun hp46 e46 => ?_)
  replace f0 := zv_eq e46
  replace fr := fun b hb => (zv_ne (b := b) e46 (by omega)).trans (fr b hb)
  replace f1 := (zv_ne e46 (by omega)).trans f1
  replace f2 := (zv_ne e46 (by omega)).trans f2
  replace f3 := (zv_ne e46 (by omega)).trans f3
  replace f4 := (zv_ne e46 (by omega)).trans f4
  replace f5 := (zv_ne e46 (by omega)).trans f5
  refine zv_aload_n F d_Re_init_49 rfl ?_
  refine zn_bipush (x := 6) F d_Re_init_50 (by decide) ?_
  refine zn_newI F d_Re_init_52 (by decide) (Nat.le_of_ble_eq_true rfl) (Nat.le_of_ble_eq_true rfl) (fun hp52 l52 e52 => ?_)
  have l52_f0 := l52 _ _ f0
  replace f0 := (zv_ne e52 (by omega)).trans f0
  replace fr := fun b hb => (zv_ne (b := b) e52 (by omega)).trans (fr b hb)
  have l52_f1 := l52 _ _ f1
  replace f1 := (zv_ne e52 (by omega)).trans f1
  have l52_f2 := l52 _ _ f2
  replace f2 := (zv_ne e52 (by omega)).trans f2
  have l52_f3 := l52 _ _ f3
  replace f3 := (zv_ne e52 (by omega)).trans f3
  have l52_f4 := l52 _ _ f4
  replace f4 := (zv_ne e52 (by omega)).trans f4
  have l52_f5 := l52 _ _ f5
  replace f5 := (zv_ne e52 (by omega)).trans f5
  have f6 := zv_eq e52
  refine zv_putF F d_Re_init_54 (by assumption) k_Re 6 (Nat.le_of_ble_eq_true rfl) ln_Re_27 rfl rfl rfl rfl rfl (by rfl) (by rfl) (Nat.le_of_ble_eq_true rfl) (fun hp54 e54 => ?_)
  replace f0 := zv_eq e54
  replace fr := fun b hb => (zv_ne (b := b) e54 (by omega)).trans (fr b hb)
  replace f1 := (zv_ne e54 (by omega)).trans f1
  replace f2 := (zv_ne e54 (by omega)).trans f2
  replace f3 := (zv_ne e54 (by omega)).trans f3
  replace f4 := (zv_ne e54 (by omega)).trans f4
  replace f5 := (zv_ne e54 (by omega)).trans f5
  replace f6 := (zv_ne e54 (by omega)).trans f6
  exact zv_vret F d_Re_init_57 (Nat.le_of_ble_eq_true rfl) (Nat.le_of_ble_eq_true rfl) ⟨rfl, rfl, ⟨0, a + 4, a + 5, _, _, _, _, _, _, Or.inl ⟨rfl, rfl⟩, f0, f1, f2, f3, f4, f5, f6⟩, fr⟩
theorem Al_init_ok {l : Launch} {Δ : zv_D} {hp : zv_M} {sz : Nat} {a : Nat} (f0 : hp a = some (.inr (8, [.null, .null, .null, .null, .int (nI 0), .null, .null, .null, .null, .null]))) (ha : sz = a + 1) : zv_E l Δ 1 y_Al_init b_Al_init 1 (none) [.ref a] hp sz 9 4140 (fun r hp1 sz1 => r = none ∧ sz1 = a + 10 ∧ al_at Δ hp1 a 0 (fun _ => 0) (fun _ => 0) (fun _ => 0) (fun _ => 0) (fun _ => 0) ∧ ∀ q, q < a → hp1 q = hp q) := by
  refine zv_E.intro (lv0 := [some (.ref a)]) rfl (Nat.le_of_ble_eq_true rfl) rfl ?_
  intro Γ hl F
  clear hl
  have fr : ∀ q, q < a → hp q = hp q := fun q _ => rfl
  subst ha
  refine zv_aload_n F d_Al_init_0 rfl ?_
  refine zv_obj F rfl d_Al_init_1 ln_Al_3 ko_i ko_c ⟨(Nat.le_of_ble_eq_true rfl), (Nat.le_of_ble_eq_true rfl)⟩ ?_
  refine zv_aload_n F d_Al_init_4 rfl ?_
  refine zn_bipush (x := 60) F d_Al_init_5 (by decide) ?_
  refine zn_newI F d_Al_init_7 (by decide) (Nat.le_of_ble_eq_true rfl) (Nat.le_of_ble_eq_true rfl) (fun hp7 l7 e7 => ?_)
  have l7_f0 := l7 _ _ f0
  replace f0 := (zv_ne e7 (by omega)).trans f0
  replace fr := fun b hb => (zv_ne (b := b) e7 (by omega)).trans (fr b hb)
  have f1 := zv_eq e7
  refine zv_putF F d_Al_init_9 (by assumption) k_Al 0 (Nat.le_of_ble_eq_true rfl) ln_Al_9 rfl rfl rfl rfl rfl (by rfl) (by rfl) (Nat.le_of_ble_eq_true rfl) (fun hp9 e9 => ?_)
  replace f0 := zv_eq e9
  replace fr := fun b hb => (zv_ne (b := b) e9 (by omega)).trans (fr b hb)
  replace f1 := (zv_ne e9 (by omega)).trans f1
  refine zv_aload_n F d_Al_init_12 rfl ?_
  refine zn_bipush (x := 120) F d_Al_init_13 (by decide) ?_
  refine zn_newI F d_Al_init_15 (by decide) (Nat.le_of_ble_eq_true rfl) (Nat.le_of_ble_eq_true rfl) (fun hp15 l15 e15 => ?_)
  have l15_f0 := l15 _ _ f0
  replace f0 := (zv_ne e15 (by omega)).trans f0
  replace fr := fun b hb => (zv_ne (b := b) e15 (by omega)).trans (fr b hb)
  have l15_f1 := l15 _ _ f1
  replace f1 := (zv_ne e15 (by omega)).trans f1
  have f2 := zv_eq e15
  refine zv_putF F d_Al_init_17 (by assumption) k_Al 1 (Nat.le_of_ble_eq_true rfl) ln_Al_15 rfl rfl rfl rfl rfl (by rfl) (by rfl) (Nat.le_of_ble_eq_true rfl) (fun hp17 e17 => ?_)
  replace f0 := zv_eq e17
  replace fr := fun b hb => (zv_ne (b := b) e17 (by omega)).trans (fr b hb)
  replace f1 := (zv_ne e17 (by omega)).trans f1
  replace f2 := (zv_ne e17 (by omega)).trans f2
  refine zv_aload_n F d_Al_init_20 rfl ?_
  refine zn_bipush (x := 60) F d_Al_init_21 (by decide) ?_
  refine zn_newI F d_Al_init_23 (by decide) (Nat.le_of_ble_eq_true rfl) (Nat.le_of_ble_eq_true rfl) (fun hp23 l23 e23 => ?_)
  have l23_f0 := l23 _ _ f0
  replace f0 := (zv_ne e23 (by omega)).trans f0
  replace fr := fun b hb => (zv_ne (b := b) e23 (by omega)).trans (fr b hb)
  have l23_f1 := l23 _ _ f1
  replace f1 := (zv_ne e23 (by omega)).trans f1
  have l23_f2 := l23 _ _ f2
  replace f2 := (zv_ne e23 (by omega)).trans f2
  have f3 := zv_eq e23
  refine zv_putF F d_Al_init_25 (by assumption) k_Al 2 (Nat.le_of_ble_eq_true rfl) ln_Al_18 rfl rfl rfl rfl rfl (by rfl) (by rfl) (Nat.le_of_ble_eq_true rfl) (fun hp25 e25 => ?_)
  replace f0 := zv_eq e25
  replace fr := fun b hb => (zv_ne (b := b) e25 (by omega)).trans (fr b hb)
  replace f1 := (zv_ne e25 (by omega)).trans f1
  replace f2 := (zv_ne e25 (by omega)).trans f2
  replace f3 := (zv_ne e25 (by omega)).trans f3
  refine zv_aload_n F d_Al_init_28 rfl ?_
  refine zn_bipush (x := 60) F d_Al_init_29 (by decide) ?_
  refine zn_newI F d_Al_init_31 (by decide) (Nat.le_of_ble_eq_true rfl) (Nat.le_of_ble_eq_true rfl) (fun hp31 l31 e31 => ?_)
  have l31_f0 := l31 _ _ f0
  replace f0 := (zv_ne e31 (by omega)).trans f0
  replace fr := fun b hb => (zv_ne (b := b) e31 (by omega)).trans (fr b hb)
  have l31_f1 := l31 _ _ f1
  replace f1 := (zv_ne e31 (by omega)).trans f1
  have l31_f2 := l31 _ _ f2
  replace f2 := (zv_ne e31 (by omega)).trans f2
  have l31_f3 := l31 _ _ f3
  replace f3 := (zv_ne e31 (by omega)).trans f3
  have f4 := zv_eq e31
  refine zv_putF F d_Al_init_33 (by assumption) k_Al 3 (Nat.le_of_ble_eq_true rfl) ln_Al_21 rfl rfl rfl rfl rfl (by rfl) (by rfl) (Nat.le_of_ble_eq_true rfl) (fun hp33 e33 => ?_)
  replace f0 := zv_eq e33
  replace fr := fun b hb => (zv_ne (b := b) e33 (by omega)).trans (fr b hb)
  replace f1 := (zv_ne e33 (by omega)).trans f1
  replace f2 := (zv_ne e33 (by omega)).trans f2
  replace f3 := (zv_ne e33 (by omega)).trans f3
  replace f4 := (zv_ne e33 (by omega)).trans f4
  refine zv_aload_n F d_Al_init_36 rfl ?_
  refine zn_bipush (x := 60) F d_Al_init_37 (by decide) ?_
  refine zn_newJ F d_Al_init_39 (by decide) (Nat.le_of_ble_eq_true rfl) (Nat.le_of_ble_eq_true rfl) (fun hp39 l39 e39 => ?_)
  have l39_f0 := l39 _ _ f0
  replace f0 := (zv_ne e39 (by omega)).trans f0
  replace fr := fun b hb => (zv_ne (b := b) e39 (by omega)).trans (fr b hb)
  have l39_f1 := l39 _ _ f1
  replace f1 := (zv_ne e39 (by omega)).trans f1
  have l39_f2 := l39 _ _ f2
  replace f2 := (zv_ne e39 (by omega)).trans f2
  have l39_f3 := l39 _ _ f3
  replace f3 := (zv_ne e39 (by omega)).trans f3
  have l39_f4 := l39 _ _ f4
  replace f4 := (zv_ne e39 (by omega)).trans f4
  have f5 := zv_eq e39
  refine zv_putF F d_Al_init_41 (by assumption) k_Al 5 (Nat.le_of_ble_eq_true rfl) ln_Al_24 rfl rfl rfl rfl rfl (by rfl) (by rfl) (Nat.le_of_ble_eq_true rfl) (fun hp41 e41 => ?_)
  replace f0 := zv_eq e41
  replace fr := fun b hb => (zv_ne (b := b) e41 (by omega)).trans (fr b hb)
  replace f1 := (zv_ne e41 (by omega)).trans f1
  replace f2 := (zv_ne e41 (by omega)).trans f2
  replace f3 := (zv_ne e41 (by omega)).trans f3
  replace f4 := (zv_ne e41 (by omega)).trans f4
  replace f5 := (zv_ne e41 (by omega)).trans f5
  refine zv_aload_n F d_Al_init_44 rfl ?_
  refine zn_sipush (x := 3600) F d_Al_init_45 (by decide) ?_
  refine zn_newI F d_Al_init_48 (by decide) (Nat.le_of_ble_eq_true rfl) (Nat.le_of_ble_eq_true rfl) (fun hp48 l48 e48 => ?_)
  have l48_f0 := l48 _ _ f0
  replace f0 := (zv_ne e48 (by omega)).trans f0
  replace fr := fun b hb => (zv_ne (b := b) e48 (by omega)).trans (fr b hb)
  have l48_f1 := l48 _ _ f1
  replace f1 := (zv_ne e48 (by omega)).trans f1
  have l48_f2 := l48 _ _ f2
  replace f2 := (zv_ne e48 (by omega)).trans f2
  have l48_f3 := l48 _ _ f3
  replace f3 := (zv_ne e48 (by omega)).trans f3
  have l48_f4 := l48 _ _ f4
  replace f4 := (zv_ne e48 (by omega)).trans f4
  have l48_f5 := l48 _ _ f5
  replace f5 := (zv_ne e48 (by omega)).trans f5
  have f6 := zv_eq e48
  refine zv_putF F d_Al_init_50 (by assumption) k_Al 6 (Nat.le_of_ble_eq_true rfl) ln_Al_28 rfl rfl rfl rfl rfl (by rfl) (by rfl) (Nat.le_of_ble_eq_true rfl) (fun hp50 e50 => ?_)
  replace f0 := zv_eq e50
  replace fr := fun b hb => (zv_ne (b := b) e50 (by omega)).trans (fr b hb)
  replace f1 := (zv_ne e50 (by omega)).trans f1
  replace f2 := (zv_ne e50 (by omega)).trans f2
  replace f3 := (zv_ne e50 (by omega)).trans f3
  replace f4 := (zv_ne e50 (by omega)).trans f4
  replace f5 := (zv_ne e50 (by omega)).trans f5
  replace f6 := (zv_ne e50 (by omega)).trans f6
  refine zv_aload_n F d_Al_init_53 rfl ?_
  refine zn_bipush (x := 60) F d_Al_init_54 (by decide) ?_
  refine zn_newJ F d_Al_init_56 (by decide) (Nat.le_of_ble_eq_true rfl) (Nat.le_of_ble_eq_true rfl) (fun hp56 l56 e56 => ?_)
  have l56_f0 := l56 _ _ f0
  replace f0 := (zv_ne e56 (by omega)).trans f0
  replace fr := fun b hb => (zv_ne (b := b) e56 (by omega)).trans (fr b hb)
  have l56_f1 := l56 _ _ f1
  replace f1 := (zv_ne e56 (by omega)).trans f1
  have l56_f2 := l56 _ _ f2
  replace f2 := (zv_ne e56 (by omega)).trans f2
  have l56_f3 := l56 _ _ f3
  replace f3 := (zv_ne e56 (by omega)).trans f3
  have l56_f4 := l56 _ _ f4
  replace f4 := (zv_ne e56 (by omega)).trans f4
  have l56_f5 := l56 _ _ f5
  replace f5 := (zv_ne e56 (by omega)).trans f5
  have l56_f6 := l56 _ _ f6
  replace f6 := (zv_ne e56 (by omega)).trans f6
  have f7 := zv_eq e56
  refine zv_putF F d_Al_init_58 (by assumption) k_Al 7 (Nat.le_of_ble_eq_true rfl) ln_Al_31 rfl rfl rfl rfl rfl (by rfl) (by rfl) (Nat.le_of_ble_eq_true rfl) (fun hp58 e58 => ?_)
  replace f0 := zv_eq e58
  replace fr := fun b hb => (zv_ne (b := b) e58 (by omega)).trans (fr b hb)
  replace f1 := (zv_ne e58 (by omega)).trans f1
  replace f2 := (zv_ne e58 (by omega)).trans f2
  replace f3 := (zv_ne e58 (by omega)).trans f3
  replace f4 := (zv_ne e58 (by omega)).trans f4
  replace f5 := (zv_ne e58 (by omega)).trans f5
  replace f6 := (zv_ne e58 (by omega)).trans f6
  replace f7 := (zv_ne e58 (by omega)).trans f7
  refine zv_aload_n F d_Al_init_61 rfl ?_
  refine zn_bipush (x := 60) F d_Al_init_62 (by decide) ?_
  refine zn_newJ F d_Al_init_64 (by decide) (Nat.le_of_ble_eq_true rfl) (Nat.le_of_ble_eq_true rfl) (fun hp64 l64 e64 => ?_)
  have l64_f0 := l64 _ _ f0
  replace f0 := (zv_ne e64 (by omega)).trans f0
  replace fr := fun b hb => (zv_ne (b := b) e64 (by omega)).trans (fr b hb)
  have l64_f1 := l64 _ _ f1
  replace f1 := (zv_ne e64 (by omega)).trans f1
  have l64_f2 := l64 _ _ f2
  replace f2 := (zv_ne e64 (by omega)).trans f2
  have l64_f3 := l64 _ _ f3
  replace f3 := (zv_ne e64 (by omega)).trans f3
  have l64_f4 := l64 _ _ f4
  replace f4 := (zv_ne e64 (by omega)).trans f4
  have l64_f5 := l64 _ _ f5
  replace f5 := (zv_ne e64 (by omega)).trans f5
  have l64_f6 := l64 _ _ f6
  replace f6 := (zv_ne e64 (by omega)).trans f6
  have l64_f7 := l64 _ _ f7
  replace f7 := (zv_ne e64 (by omega)).trans f7
  have f8 := zv_eq e64
  refine zv_putF F d_Al_init_66 (by assumption) k_Al 8 (Nat.le_of_ble_eq_true rfl) ln_Al_34 rfl rfl rfl rfl rfl (by rfl) (by rfl) (Nat.le_of_ble_eq_true rfl) (fun hp66 e66 => ?_)
  replace f0 := zv_eq e66
  replace fr := fun b hb => (zv_ne (b := b) e66 (by omega)).trans (fr b hb)
  replace f1 := (zv_ne e66 (by omega)).trans f1
  replace f2 := (zv_ne e66 (by omega)).trans f2
  replace f3 := (zv_ne e66 (by omega)).trans f3
  replace f4 := (zv_ne e66 (by omega)).trans f4
  replace f5 := (zv_ne e66 (by omega)).trans f5
  replace f6 := (zv_ne e66 (by omega)).trans f6
  replace f7 := (zv_ne e66 (by omega)).trans f7
  replace f8 := (zv_ne e66 (by omega)).trans f8
  refine zv_aload_n F d_Al_init_69 rfl ?_
  refine zn_bipush (x := 60) F d_Al_init_70 (by decide) ?_
  refine zn_newJ F d_Al_init_72 (by decide) (Nat.le_of_ble_eq_true rfl) (Nat.le_of_ble_eq_true rfl) (fun hp72 l72 e72 => ?_)
  have l72_f0 := l72 _ _ f0
  replace f0 := (zv_ne e72 (by omega)).trans f0
  replace fr := fun b hb => (zv_ne (b := b) e72 (by omega)).trans (fr b hb)
  have l72_f1 := l72 _ _ f1
  replace f1 := (zv_ne e72 (by omega)).trans f1
  have l72_f2 := l72 _ _ f2
  replace f2 := (zv_ne e72 (by omega)).trans f2
  have l72_f3 := l72 _ _ f3
  replace f3 := (zv_ne e72 (by omega)).trans f3
  have l72_f4 := l72 _ _ f4
  replace f4 := (zv_ne e72 (by omega)).trans f4
  have l72_f5 := l72 _ _ f5
  replace f5 := (zv_ne e72 (by omega)).trans f5
  have l72_f6 := l72 _ _ f6
  replace f6 := (zv_ne e72 (by omega)).trans f6
  have l72_f7 := l72 _ _ f7
  replace f7 := (zv_ne e72 (by omega)).trans f7
  have l72_f8 := l72 _ _ f8
  replace f8 := (zv_ne e72 (by omega)).trans f8
  have f9 := zv_eq e72
  refine zv_putF F d_Al_init_74 (by assumption) k_Al 9 (Nat.le_of_ble_eq_true rfl) ln_Al_37 rfl rfl rfl rfl rfl (by rfl) (by rfl) (Nat.le_of_ble_eq_true rfl) (fun hp74 e74 => ?_)
  replace f0 := zv_eq e74
  replace fr := fun b hb => (zv_ne (b := b) e74 (by omega)).trans (fr b hb)
  replace f1 := (zv_ne e74 (by omega)).trans f1
  replace f2 := (zv_ne e74 (by omega)).trans f2
  replace f3 := (zv_ne e74 (by omega)).trans f3
  replace f4 := (zv_ne e74 (by omega)).trans f4
  replace f5 := (zv_ne e74 (by omega)).trans f5
  replace f6 := (zv_ne e74 (by omega)).trans f6
  replace f7 := (zv_ne e74 (by omega)).trans f7
  replace f8 := (zv_ne e74 (by omega)).trans f8
  replace f9 := (zv_ne e74 (by omega)).trans f9
  exact zv_vret F d_Al_init_77 (Nat.le_of_ble_eq_true rfl) (Nat.le_of_ble_eq_true rfl) ⟨rfl, rfl, ⟨f0, ⟨_, _, _, _, f1, f2, f3, f4⟩, f5, f6, f7, f8, f9⟩, fr⟩
theorem Ba_init_ok {l : Launch} {Δ : zv_D} {hp : zv_M} {sz : Nat} {a k : Nat} (f0 : hp a = some (.inr (2, [.int (nI 0)]))) : zv_E l Δ 1 y_Ba_init b_Ba_init 2 (none) [.ref a, .int (nI k)] hp sz 0 0 (fun r hp1 sz1 => r = none ∧ sz1 = sz ∧ hp1 a = some (.inr (2, [.int (nI k)])) ∧ ∀ q, q ≠ a → hp1 q = hp q) := by
  refine zv_E.intro (lv0 := [some (.ref a), some (.int (nI k))]) rfl (Nat.le_of_ble_eq_true rfl) rfl ?_
  intro Γ hl F
  clear hl
  have fr : ∀ q, q ≠ a → hp q = hp q := fun q _ => rfl
  refine zv_aload_n F d_Ba_init_0 rfl ?_
  refine zv_obj F rfl d_Ba_init_1 ln_Ba_3 ko_i ko_c ⟨(Nat.le_of_ble_eq_true rfl), (Nat.le_of_ble_eq_true rfl)⟩ ?_
  refine zv_aload_n F d_Ba_init_4 rfl ?_
  refine zv_iload_n F d_Ba_init_5 rfl ?_
  refine zv_putF F d_Ba_init_6 (by assumption) k_Ba 0 (Nat.le_of_ble_eq_true rfl) ln_Ba_9 rfl rfl rfl rfl rfl (by rfl) (by rfl) (Nat.le_of_ble_eq_true rfl) (fun hp6 e6 => ?_)
  replace f0 := zv_eq e6
  replace fr := fun b hb => (zv_ne (b := b) e6 (by omega)).trans (fr b hb)
  exact zv_vret F d_Ba_init_9 (Nat.le_of_ble_eq_true rfl) (Nat.le_of_ble_eq_true rfl) ⟨rfl, rfl, f0, fr⟩
theorem Pa_init_ok {l : Launch} {Δ : zv_D} {hp : zv_M} {sz : Nat} {a a1 a2 : Nat} {b : Bool} (f0 : hp a = some (.inr (3, [.null, .null, .int (nI 0)]))) : zv_E l Δ 1 y_Pa_init b_Pa_init 4 (none) [.ref a, .ref a1, .ref a2, .int (nI b.toNat)] hp sz 0 0 (fun r hp1 sz1 => r = none ∧ sz1 = sz ∧ hp1 a = some (.inr (3, [.ref a1, .ref a2, .int (nI b.toNat)])) ∧ ∀ q, q ≠ a → hp1 q = hp q) := by
  refine zv_E.intro (lv0 := [some (.ref a), some (.ref a1), some (.ref a2), some (.int (nI b.toNat))]) rfl (Nat.le_of_ble_eq_true rfl) rfl ?_
  intro Γ hl F
  clear hl
  have fr : ∀ q, q ≠ a → hp q = hp q := fun q _ => rfl
  refine zv_aload_n F d_Pa_init_0 rfl ?_
  refine zv_obj F rfl d_Pa_init_1 ln_Pa_3 ko_i ko_c ⟨(Nat.le_of_ble_eq_true rfl), (Nat.le_of_ble_eq_true rfl)⟩ ?_
  refine zv_aload_n F d_Pa_init_4 rfl ?_
  refine zv_aload_n F d_Pa_init_5 rfl ?_
  refine zv_putF F d_Pa_init_6 (by assumption) k_Pa 0 (Nat.le_of_ble_eq_true rfl) ln_Pa_9 rfl rfl rfl rfl rfl (by rfl) (by rfl) (Nat.le_of_ble_eq_true rfl) (fun hp6 e6 => ?_)
  replace f0 := zv_eq e6
  replace fr := fun b hb => (zv_ne (b := b) e6 (by omega)).trans (fr b hb)
  refine zv_aload_n F d_Pa_init_9 rfl ?_
  refine zv_aload_n F d_Pa_init_10 rfl ?_
  refine zv_putF F d_Pa_init_11 (by assumption) k_Pa 1 (Nat.le_of_ble_eq_true rfl) ln_Pa_15 rfl rfl rfl rfl rfl (by rfl) (by rfl) (Nat.le_of_ble_eq_true rfl) (fun hp11 e11 => ?_)
  replace f0 := zv_eq e11
  replace fr := fun b hb => (zv_ne (b := b) e11 (by omega)).trans (fr b hb)
  refine zv_aload_n F d_Pa_init_14 rfl ?_
  refine zv_iload_n F d_Pa_init_15 rfl ?_
  refine zv_putF F d_Pa_init_16 (by assumption) k_Pa 2 (Nat.le_of_ble_eq_true rfl) ln_Pa_18 rfl rfl rfl rfl rfl (zn_nb b) (by cases b <;> rfl) (Nat.le_of_ble_eq_true rfl) (fun hp16 e16 => ?_)
  replace f0 := zv_eq e16
  replace fr := fun b hb => (zv_ne (b := b) e16 (by omega)).trans (fr b hb)
  exact zv_vret F d_Pa_init_19 (Nat.le_of_ble_eq_true rfl) (Nat.le_of_ble_eq_true rfl) ⟨rfl, rfl, f0, fr⟩
theorem Ch_init_ok {l : Launch} {Δ : zv_D} {hp : zv_M} {sz : Nat} {a a1 a2 : Nat} (f0 : hp a = some (.inr (4, [.null, .null]))) : zv_E l Δ 1 y_Ch_init b_Ch_init 3 (none) [.ref a, .ref a1, .ref a2] hp sz 0 0 (fun r hp1 sz1 => r = none ∧ sz1 = sz ∧ hp1 a = some (.inr (4, [.ref a1, .ref a2])) ∧ ∀ q, q ≠ a → hp1 q = hp q) := by
  refine zv_E.intro (lv0 := [some (.ref a), some (.ref a1), some (.ref a2)]) rfl (Nat.le_of_ble_eq_true rfl) rfl ?_
  intro Γ hl F
  clear hl
  have fr : ∀ q, q ≠ a → hp q = hp q := fun q _ => rfl
  refine zv_aload_n F d_Ch_init_0 rfl ?_
  refine zv_obj F rfl d_Ch_init_1 ln_Ch_3 ko_i ko_c ⟨(Nat.le_of_ble_eq_true rfl), (Nat.le_of_ble_eq_true rfl)⟩ ?_
  refine zv_aload_n F d_Ch_init_4 rfl ?_
  refine zv_aload_n F d_Ch_init_5 rfl ?_
  refine zv_putF F d_Ch_init_6 (by assumption) k_Ch 0 (Nat.le_of_ble_eq_true rfl) ln_Ch_9 rfl rfl rfl rfl rfl (by rfl) (by rfl) (Nat.le_of_ble_eq_true rfl) (fun hp6 e6 => ?_)
  replace f0 := zv_eq e6
  replace fr := fun b hb => (zv_ne (b := b) e6 (by omega)).trans (fr b hb)
  refine zv_aload_n F d_Ch_init_9 rfl ?_
  refine zv_aload_n F d_Ch_init_10 rfl ?_
  refine zv_putF F d_Ch_init_11 (by assumption) k_Ch 1 (Nat.le_of_ble_eq_true rfl) ln_Ch_15 rfl rfl rfl rfl rfl (by rfl) (by rfl) (Nat.le_of_ble_eq_true rfl) (fun hp11 e11 => ?_)
  replace f0 := zv_eq e11
  replace fr := fun b hb => (zv_ne (b := b) e11 (by omega)).trans (fr b hb)
  exact zv_vret F d_Ch_init_14 (Nat.le_of_ble_eq_true rfl) (Nat.le_of_ble_eq_true rfl) ⟨rfl, rfl, f0, fr⟩
theorem St_init_ok {l : Launch} {Δ : zv_D} {hp : zv_M} {sz : Nat} {a a1 : Nat} (f0 : hp a = some (.inr (5, [.null]))) : zv_E l Δ 1 y_St_init b_St_init 2 (none) [.ref a, .ref a1] hp sz 0 0 (fun r hp1 sz1 => r = none ∧ sz1 = sz ∧ hp1 a = some (.inr (5, [.ref a1])) ∧ ∀ q, q ≠ a → hp1 q = hp q) := by
  refine zv_E.intro (lv0 := [some (.ref a), some (.ref a1)]) rfl (Nat.le_of_ble_eq_true rfl) rfl ?_
  intro Γ hl F
  clear hl
  have fr : ∀ q, q ≠ a → hp q = hp q := fun q _ => rfl
  refine zv_aload_n F d_St_init_0 rfl ?_
  refine zv_obj F rfl d_St_init_1 ln_St_3 ko_i ko_c ⟨(Nat.le_of_ble_eq_true rfl), (Nat.le_of_ble_eq_true rfl)⟩ ?_
  refine zv_aload_n F d_St_init_4 rfl ?_
  refine zv_aload_n F d_St_init_5 rfl ?_
  refine zv_putF F d_St_init_6 (by assumption) k_St 0 (Nat.le_of_ble_eq_true rfl) ln_St_9 rfl rfl rfl rfl rfl (by rfl) (by rfl) (Nat.le_of_ble_eq_true rfl) (fun hp6 e6 => ?_)
  replace f0 := zv_eq e6
  replace fr := fun b hb => (zv_ne (b := b) e6 (by omega)).trans (fr b hb)
  exact zv_vret F d_St_init_9 (Nat.le_of_ble_eq_true rfl) (Nat.le_of_ble_eq_true rfl) ⟨rfl, rfl, f0, fr⟩
theorem In_init_ok {l : Launch} {Δ : zv_D} {hp : zv_M} {sz : Nat} {a a1 : Nat} (f0 : hp a = some (.inr (6, [.null]))) : zv_E l Δ 1 y_In_init b_In_init 2 (none) [.ref a, .ref a1] hp sz 0 0 (fun r hp1 sz1 => r = none ∧ sz1 = sz ∧ hp1 a = some (.inr (6, [.ref a1])) ∧ ∀ q, q ≠ a → hp1 q = hp q) := by
  refine zv_E.intro (lv0 := [some (.ref a), some (.ref a1)]) rfl (Nat.le_of_ble_eq_true rfl) rfl ?_
  intro Γ hl F
  clear hl
  have fr : ∀ q, q ≠ a → hp q = hp q := fun q _ => rfl
  refine zv_aload_n F d_In_init_0 rfl ?_
  refine zv_obj F rfl d_In_init_1 ln_In_1 ko_i ko_c ⟨(Nat.le_of_ble_eq_true rfl), (Nat.le_of_ble_eq_true rfl)⟩ ?_
  refine zv_aload_n F d_In_init_4 rfl ?_
  refine zv_aload_n F d_In_init_5 rfl ?_
  refine zv_putF F d_In_init_6 (by assumption) k_In 0 (Nat.le_of_ble_eq_true rfl) ln_In_7 rfl rfl rfl rfl rfl (by rfl) (by rfl) (Nat.le_of_ble_eq_true rfl) (fun hp6 e6 => ?_)
  replace f0 := zv_eq e6
  replace fr := fun b hb => (zv_ne (b := b) e6 (by omega)).trans (fr b hb)
  exact zv_vret F d_In_init_9 (Nat.le_of_ble_eq_true rfl) (Nat.le_of_ble_eq_true rfl) ⟨rfl, rfl, f0, fr⟩
end
