/-! printed by wip/whole/names.py: the words of the tables that every state keeps, and those that need a reader of their own -/
def zp_G : List Cond := lw_tbl.filter goodWord
theorem zp_good : ∀ w ∈ zp_G, (w.onTables && w.keeps) = true ∨ ∃ ty, w = .arrayClass ty := fun w hw => good_of_word (List.mem_filter.mp hw).2
theorem zp_in {w : Cond} (i : Nat) (h : tables_1[i]? = some w) (hg : goodWord w = true) : w ∈ zp_G := List.mem_filter.mpr ⟨List.mem_append_right _ (List.mem_of_getElem? h), hg⟩
theorem zp_inp {w : Cond} (i : Nat) (h : (k2_sels lw_privs)[i]? = some w) (hg : goodWord w = true) : w ∈ zp_G := List.mem_filter.mpr ⟨List.mem_append_left _ (List.mem_of_getElem? h), hg⟩
def R_Au : String := "LetterAlgebra$Automaton"
def F_Au : u_T := fun k => match k with
  | 0 => ("LetterAlgebra$Automaton", "size", "I", false)
  | 1 => ("LetterAlgebra$Automaton", "acceptingSet", "I", false)
  | _ => ("LetterAlgebra$Automaton", "steps", "[I", true)
def t_Au : Nat → FieldType := fun k => match k with
  | 0 => .int
  | 1 => .int
  | _ => .array .int
def R_LA : String := "LetterAlgebra"
def F_LA : u_T := fun k => match k with
  | 0 => ("LetterAlgebra", "languages", "[LLetterAlgebra$Automaton;", true)
  | 1 => ("LetterAlgebra", "languageCount", "I", false)
  | 2 => ("LetterAlgebra", "reducer", "LLetterAlgebra$Reducer;", true)
  | _ => ("LetterAlgebra", "algebra", "LLetterAlgebra$Algebra;", true)
def t_LA : Nat → FieldType := fun k => match k with
  | 0 => .array (.object "LetterAlgebra$Automaton")
  | 1 => .int
  | 2 => .object "LetterAlgebra$Reducer"
  | _ => .object "LetterAlgebra$Algebra"
def R_Ba : String := "LetterAlgebra$BasicMachine"
def F_Ba : u_T := fun k => match k with
  | _ => ("LetterAlgebra$BasicMachine", "kind", "I", true)
def t_Ba : Nat → FieldType := fun k => match k with
  | _ => .int
def R_Pa : String := "LetterAlgebra$PairMachine"
def F_Pa : u_T := fun k => match k with
  | 0 => ("LetterAlgebra$PairMachine", "first", "LLetterAlgebra$Automaton;", true)
  | 1 => ("LetterAlgebra$PairMachine", "second", "LLetterAlgebra$Automaton;", true)
  | _ => ("LetterAlgebra$PairMachine", "needsBoth", "Z", true)
def t_Pa : Nat → FieldType := fun k => match k with
  | 0 => .object "LetterAlgebra$Automaton"
  | 1 => .object "LetterAlgebra$Automaton"
  | _ => .boolean
def R_Ch : String := "LetterAlgebra$ChainMachine"
def F_Ch : u_T := fun k => match k with
  | 0 => ("LetterAlgebra$ChainMachine", "first", "LLetterAlgebra$Automaton;", true)
  | _ => ("LetterAlgebra$ChainMachine", "second", "LLetterAlgebra$Automaton;", true)
def t_Ch : Nat → FieldType := fun k => match k with
  | 0 => .object "LetterAlgebra$Automaton"
  | _ => .object "LetterAlgebra$Automaton"
def R_St : String := "LetterAlgebra$StarMachine"
def F_St : u_T := fun k => match k with
  | _ => ("LetterAlgebra$StarMachine", "part", "LLetterAlgebra$Automaton;", true)
def t_St : Nat → FieldType := fun k => match k with
  | _ => .object "LetterAlgebra$Automaton"
def R_In : String := "LetterAlgebra$InverseMachine"
def F_In : u_T := fun k => match k with
  | _ => ("LetterAlgebra$InverseMachine", "inner", "LLetterAlgebra$Automaton;", true)
def t_In : Nat → FieldType := fun k => match k with
  | _ => .object "LetterAlgebra$Automaton"
def R_Re : String := "LetterAlgebra$Reducer"
def F_Re : u_T := fun k => match k with
  | 0 => ("LetterAlgebra$Reducer", "numberOfCode", "[I", true)
  | 1 => ("LetterAlgebra$Reducer", "codes", "[I", true)
  | 2 => ("LetterAlgebra$Reducer", "steps", "[I", true)
  | 3 => ("LetterAlgebra$Reducer", "size", "I", false)
  | 4 => ("LetterAlgebra$Reducer", "parts", "[I", false)
  | 5 => ("LetterAlgebra$Reducer", "finerParts", "[I", false)
  | _ => ("LetterAlgebra$Reducer", "firstOfPart", "[I", true)
def t_Re : Nat → FieldType := fun k => match k with
  | 0 => .array .int
  | 1 => .array .int
  | 2 => .array .int
  | 3 => .int
  | 4 => .array .int
  | 5 => .array .int
  | _ => .array .int
def R_Al : String := "LetterAlgebra$Algebra"
def F_Al : u_T := fun k => match k with
  | 0 => ("LetterAlgebra$Algebra", "maps", "[I", true)
  | 1 => ("LetterAlgebra$Algebra", "longer", "[I", true)
  | 2 => ("LetterAlgebra$Algebra", "shorter", "[I", true)
  | 3 => ("LetterAlgebra$Algebra", "lastLetters", "[I", true)
  | 4 => ("LetterAlgebra$Algebra", "size", "I", false)
  | 5 => ("LetterAlgebra$Algebra", "leastWords", "[J", true)
  | 6 => ("LetterAlgebra$Algebra", "products", "[I", true)
  | 7 => ("LetterAlgebra$Algebra", "rightProducts", "[J", true)
  | 8 => ("LetterAlgebra$Algebra", "leftProducts", "[J", true)
  | _ => ("LetterAlgebra$Algebra", "bothSidesProducts", "[J", true)
def t_Al : Nat → FieldType := fun k => match k with
  | 0 => .array .int
  | 1 => .array .int
  | 2 => .array .int
  | 3 => .array .int
  | 4 => .int
  | 5 => .array .long
  | 6 => .array .int
  | 7 => .array .long
  | 8 => .array .long
  | _ => .array .long
def R_Mo : String := "LetterAlgebraModel"
def F_Mo : u_T := fun k => match k with
  | 0 => ("LetterAlgebraModel", "count", "I", false)
  | 1 => ("LetterAlgebraModel", "size", "[I", true)
  | 2 => ("LetterAlgebraModel", "go", "[I", true)
  | 3 => ("LetterAlgebraModel", "good", "[I", true)
  | 4 => ("LetterAlgebraModel", "op", "I", false)
  | 5 => ("LetterAlgebraModel", "first", "I", false)
  | 6 => ("LetterAlgebraModel", "second", "I", false)
  | 7 => ("LetterAlgebraModel", "says", "[J", true)
  | 8 => ("LetterAlgebraModel", "more", "[J", true)
  | 9 => ("LetterAlgebraModel", "met", "[I", true)
  | 10 => ("LetterAlgebraModel", "line", "[I", true)
  | 11 => ("LetterAlgebraModel", "seen", "[Z", true)
  | 12 => ("LetterAlgebraModel", "states", "I", false)
  | 13 => ("LetterAlgebraModel", "elements", "I", false)
  | 14 => ("LetterAlgebraModel", "does", "[I", true)
  | 15 => ("LetterAlgebraModel", "words", "[J", true)
  | 16 => ("LetterAlgebraModel", "found", "[I", true)
  | 17 => ("LetterAlgebraModel", "foundWord", "[J", true)
  | _ => ("LetterAlgebraModel", "products", "[I", true)
def t_Mo : Nat → FieldType := fun k => match k with
  | 0 => .int
  | 1 => .array .int
  | 2 => .array .int
  | 3 => .array .int
  | 4 => .int
  | 5 => .int
  | 6 => .int
  | 7 => .array .long
  | 8 => .array .long
  | 9 => .array .int
  | 10 => .array .int
  | 11 => .array .boolean
  | 12 => .int
  | 13 => .int
  | 14 => .array .int
  | 15 => .array .long
  | 16 => .array .int
  | 17 => .array .long
  | _ => .array .int
def zp_classes : List vw_C := [(R_Au, F_Au, 3), (R_LA, F_LA, 4), (R_Ba, F_Ba, 1), (R_Pa, F_Pa, 3), (R_Ch, F_Ch, 2), (R_St, F_St, 1), (R_In, F_In, 1), (R_Re, F_Re, 7), (R_Al, F_Al, 10), (R_Mo, F_Mo, 19)]
def zp_tys : List FieldType := [.int, .long, .boolean, .object "LetterAlgebra$Automaton"]
def zp_N : List Cond := [Cond.methodLinkNest "LetterAlgebra" 17 ⟨"LetterAlgebra$Reducer", "<init>", "()V"⟩ "LetterAlgebra", Cond.methodLinkNest "LetterAlgebra" 24 ⟨"LetterAlgebra$Algebra", "<init>", "()V"⟩ "LetterAlgebra", Cond.fieldLinkNest "LetterAlgebra" 85 "LetterAlgebra$Algebra" "size" "I" "LetterAlgebra", Cond.fieldLinkNest "LetterAlgebra" 93 "LetterAlgebra$Algebra" "leastWords" "[J" "LetterAlgebra", Cond.methodLinkNest "LetterAlgebra" 29 ⟨"LetterAlgebra$Automaton", "<init>", "()V"⟩ "LetterAlgebra", Cond.fieldLinkNest "LetterAlgebra$Reducer" 82 "LetterAlgebra$Automaton" "size" "I" "LetterAlgebra", Cond.fieldLinkNest "LetterAlgebra" 65 "LetterAlgebra$Automaton" "size" "I" "LetterAlgebra", Cond.fieldLinkNest "LetterAlgebra$Reducer" 85 "LetterAlgebra$Automaton" "acceptingSet" "I" "LetterAlgebra", Cond.fieldLinkNest "LetterAlgebra$Reducer" 88 "LetterAlgebra$Automaton" "steps" "[I" "LetterAlgebra"]
def zp_F : List (String × MethodName × MethodName) := [("LetterAlgebra$BasicMachine", ⟨"LetterAlgebra$Machine", "startCode", "()I"⟩, ⟨"LetterAlgebra$BasicMachine", "startCode", "()I"⟩), ("LetterAlgebra$ChainMachine", ⟨"LetterAlgebra$Machine", "startCode", "()I"⟩, ⟨"LetterAlgebra$ChainMachine", "startCode", "()I"⟩), ("LetterAlgebra$InverseMachine", ⟨"LetterAlgebra$Machine", "startCode", "()I"⟩, ⟨"LetterAlgebra$InverseMachine", "startCode", "()I"⟩), ("LetterAlgebra$PairMachine", ⟨"LetterAlgebra$Machine", "startCode", "()I"⟩, ⟨"LetterAlgebra$PairMachine", "startCode", "()I"⟩), ("LetterAlgebra$StarMachine", ⟨"LetterAlgebra$Machine", "startCode", "()I"⟩, ⟨"LetterAlgebra$StarMachine", "startCode", "()I"⟩), ("LetterAlgebra$BasicMachine", ⟨"LetterAlgebra$Machine", "stepCode", "(II)I"⟩, ⟨"LetterAlgebra$BasicMachine", "stepCode", "(II)I"⟩), ("LetterAlgebra$ChainMachine", ⟨"LetterAlgebra$Machine", "stepCode", "(II)I"⟩, ⟨"LetterAlgebra$ChainMachine", "stepCode", "(II)I"⟩), ("LetterAlgebra$InverseMachine", ⟨"LetterAlgebra$Machine", "stepCode", "(II)I"⟩, ⟨"LetterAlgebra$InverseMachine", "stepCode", "(II)I"⟩), ("LetterAlgebra$PairMachine", ⟨"LetterAlgebra$Machine", "stepCode", "(II)I"⟩, ⟨"LetterAlgebra$PairMachine", "stepCode", "(II)I"⟩), ("LetterAlgebra$StarMachine", ⟨"LetterAlgebra$Machine", "stepCode", "(II)I"⟩, ⟨"LetterAlgebra$StarMachine", "stepCode", "(II)I"⟩), ("LetterAlgebra$BasicMachine", ⟨"LetterAlgebra$Machine", "isAcceptingCode", "(I)Z"⟩, ⟨"LetterAlgebra$BasicMachine", "isAcceptingCode", "(I)Z"⟩), ("LetterAlgebra$ChainMachine", ⟨"LetterAlgebra$Machine", "isAcceptingCode", "(I)Z"⟩, ⟨"LetterAlgebra$ChainMachine", "isAcceptingCode", "(I)Z"⟩), ("LetterAlgebra$InverseMachine", ⟨"LetterAlgebra$Machine", "isAcceptingCode", "(I)Z"⟩, ⟨"LetterAlgebra$InverseMachine", "isAcceptingCode", "(I)Z"⟩), ("LetterAlgebra$PairMachine", ⟨"LetterAlgebra$Machine", "isAcceptingCode", "(I)Z"⟩, ⟨"LetterAlgebra$PairMachine", "isAcceptingCode", "(I)Z"⟩), ("LetterAlgebra$StarMachine", ⟨"LetterAlgebra$Machine", "isAcceptingCode", "(I)Z"⟩, ⟨"LetterAlgebra$StarMachine", "isAcceptingCode", "(I)Z"⟩)]
def zp_A : List String := ["LetterAlgebra$Automaton"]
theorem zp_Fk : ∀ q ∈ zp_F, q.2.1.cls ≠ "java/lang/invoke/MethodHandle" ∧ q.2.1.cls ≠ "java/lang/invoke/VarHandle" := by decide +kernel
