theorem nz_0 : Cond.methodLinkNest "LetterAlgebra" 17 ⟨"LetterAlgebra$Reducer", "<init>", "()V"⟩ "LetterAlgebra" ∈ tables_1 := List.mem_of_getElem? (i := 24) (by decide +kernel)
theorem nz_1 : Cond.methodLinkNest "LetterAlgebra" 24 ⟨"LetterAlgebra$Algebra", "<init>", "()V"⟩ "LetterAlgebra" ∈ tables_1 := List.mem_of_getElem? (i := 53) (by decide +kernel)
theorem nz_2 : Cond.fieldLinkNest "LetterAlgebra" 85 "LetterAlgebra$Algebra" "size" "I" "LetterAlgebra" ∈ tables_1 := List.mem_of_getElem? (i := 62) (by decide +kernel)
theorem nz_3 : Cond.fieldLinkNest "LetterAlgebra" 93 "LetterAlgebra$Algebra" "leastWords" "[J" "LetterAlgebra" ∈ tables_1 := List.mem_of_getElem? (i := 64) (by decide +kernel)
theorem nz_4 : Cond.methodLinkNest "LetterAlgebra" 29 ⟨"LetterAlgebra$Automaton", "<init>", "()V"⟩ "LetterAlgebra" ∈ tables_1 := List.mem_of_getElem? (i := 92) (by decide +kernel)
theorem nz_5 : Cond.fieldLinkNest "LetterAlgebra$Reducer" 82 "LetterAlgebra$Automaton" "size" "I" "LetterAlgebra" ∈ tables_1 := List.mem_of_getElem? (i := 97) (by decide +kernel)
theorem nz_6 : Cond.fieldLinkNest "LetterAlgebra" 65 "LetterAlgebra$Automaton" "size" "I" "LetterAlgebra" ∈ tables_1 := List.mem_of_getElem? (i := 98) (by decide +kernel)
theorem nz_7 : Cond.fieldLinkNest "LetterAlgebra$Reducer" 85 "LetterAlgebra$Automaton" "acceptingSet" "I" "LetterAlgebra" ∈ tables_1 := List.mem_of_getElem? (i := 100) (by decide +kernel)
theorem nz_8 : Cond.fieldLinkNest "LetterAlgebra$Reducer" 88 "LetterAlgebra$Automaton" "steps" "[I" "LetterAlgebra" ∈ tables_1 := List.mem_of_getElem? (i := 102) (by decide +kernel)
theorem zp_Nin : ∀ w ∈ zp_N, w ∈ tables_1 := List.forall_mem_cons.mpr ⟨nz_0, List.forall_mem_cons.mpr ⟨nz_1, List.forall_mem_cons.mpr ⟨nz_2, List.forall_mem_cons.mpr ⟨nz_3, List.forall_mem_cons.mpr ⟨nz_4, List.forall_mem_cons.mpr ⟨nz_5, List.forall_mem_cons.mpr ⟨nz_6, List.forall_mem_cons.mpr ⟨nz_7, List.forall_mem_cons.mpr ⟨nz_8, fun w h => absurd h List.not_mem_nil⟩⟩⟩⟩⟩⟩⟩⟩⟩
theorem zp_Non : ∀ w ∈ zp_N, w.onTables = true := by decide +kernel
theorem fz_0 {s : State} {A : Array Value} (hts : ∀ w ∈ tables_1, w.before A s = true) : va_Fw "LetterAlgebra$BasicMachine" ⟨"LetterAlgebra$Machine", "startCode", "()I"⟩ ⟨"LetterAlgebra$BasicMachine", "startCode", "()I"⟩ s := va_Fw.of (hts _ (List.mem_of_getElem? (i := 155) (by decide +kernel))) (hts _ (List.mem_of_getElem? (i := 154) (by decide +kernel))) (hts _ (List.mem_of_getElem? (i := 160) (by decide +kernel))) (hts _ (List.mem_of_getElem? (i := 158) (by decide +kernel))) (hts _ (List.mem_of_getElem? (i := 156) (by decide +kernel)))
theorem fz_1 {s : State} {A : Array Value} (hts : ∀ w ∈ tables_1, w.before A s = true) : va_Fw "LetterAlgebra$ChainMachine" ⟨"LetterAlgebra$Machine", "startCode", "()I"⟩ ⟨"LetterAlgebra$ChainMachine", "startCode", "()I"⟩ s := va_Fw.of (hts _ (List.mem_of_getElem? (i := 155) (by decide +kernel))) (hts _ (List.mem_of_getElem? (i := 154) (by decide +kernel))) (hts _ (List.mem_of_getElem? (i := 166) (by decide +kernel))) (hts _ (List.mem_of_getElem? (i := 164) (by decide +kernel))) (hts _ (List.mem_of_getElem? (i := 162) (by decide +kernel)))
theorem fz_2 {s : State} {A : Array Value} (hts : ∀ w ∈ tables_1, w.before A s = true) : va_Fw "LetterAlgebra$InverseMachine" ⟨"LetterAlgebra$Machine", "startCode", "()I"⟩ ⟨"LetterAlgebra$InverseMachine", "startCode", "()I"⟩ s := va_Fw.of (hts _ (List.mem_of_getElem? (i := 155) (by decide +kernel))) (hts _ (List.mem_of_getElem? (i := 154) (by decide +kernel))) (hts _ (List.mem_of_getElem? (i := 181) (by decide +kernel))) (hts _ (List.mem_of_getElem? (i := 179) (by decide +kernel))) (hts _ (List.mem_of_getElem? (i := 177) (by decide +kernel)))
theorem fz_3 {s : State} {A : Array Value} (hts : ∀ w ∈ tables_1, w.before A s = true) : va_Fw "LetterAlgebra$PairMachine" ⟨"LetterAlgebra$Machine", "startCode", "()I"⟩ ⟨"LetterAlgebra$PairMachine", "startCode", "()I"⟩ s := va_Fw.of (hts _ (List.mem_of_getElem? (i := 155) (by decide +kernel))) (hts _ (List.mem_of_getElem? (i := 154) (by decide +kernel))) (hts _ (List.mem_of_getElem? (i := 187) (by decide +kernel))) (hts _ (List.mem_of_getElem? (i := 185) (by decide +kernel))) (hts _ (List.mem_of_getElem? (i := 183) (by decide +kernel)))
theorem fz_4 {s : State} {A : Array Value} (hts : ∀ w ∈ tables_1, w.before A s = true) : va_Fw "LetterAlgebra$StarMachine" ⟨"LetterAlgebra$Machine", "startCode", "()I"⟩ ⟨"LetterAlgebra$StarMachine", "startCode", "()I"⟩ s := va_Fw.of (hts _ (List.mem_of_getElem? (i := 155) (by decide +kernel))) (hts _ (List.mem_of_getElem? (i := 154) (by decide +kernel))) (hts _ (List.mem_of_getElem? (i := 193) (by decide +kernel))) (hts _ (List.mem_of_getElem? (i := 191) (by decide +kernel))) (hts _ (List.mem_of_getElem? (i := 189) (by decide +kernel)))
theorem fz_5 {s : State} {A : Array Value} (hts : ∀ w ∈ tables_1, w.before A s = true) : va_Fw "LetterAlgebra$BasicMachine" ⟨"LetterAlgebra$Machine", "stepCode", "(II)I"⟩ ⟨"LetterAlgebra$BasicMachine", "stepCode", "(II)I"⟩ s := va_Fw.of (hts _ (List.mem_of_getElem? (i := 202) (by decide +kernel))) (hts _ (List.mem_of_getElem? (i := 201) (by decide +kernel))) (hts _ (List.mem_of_getElem? (i := 206) (by decide +kernel))) (hts _ (List.mem_of_getElem? (i := 204) (by decide +kernel))) (hts _ (List.mem_of_getElem? (i := 156) (by decide +kernel)))
theorem fz_6 {s : State} {A : Array Value} (hts : ∀ w ∈ tables_1, w.before A s = true) : va_Fw "LetterAlgebra$ChainMachine" ⟨"LetterAlgebra$Machine", "stepCode", "(II)I"⟩ ⟨"LetterAlgebra$ChainMachine", "stepCode", "(II)I"⟩ s := va_Fw.of (hts _ (List.mem_of_getElem? (i := 202) (by decide +kernel))) (hts _ (List.mem_of_getElem? (i := 201) (by decide +kernel))) (hts _ (List.mem_of_getElem? (i := 211) (by decide +kernel))) (hts _ (List.mem_of_getElem? (i := 209) (by decide +kernel))) (hts _ (List.mem_of_getElem? (i := 162) (by decide +kernel)))
theorem fz_7 {s : State} {A : Array Value} (hts : ∀ w ∈ tables_1, w.before A s = true) : va_Fw "LetterAlgebra$InverseMachine" ⟨"LetterAlgebra$Machine", "stepCode", "(II)I"⟩ ⟨"LetterAlgebra$InverseMachine", "stepCode", "(II)I"⟩ s := va_Fw.of (hts _ (List.mem_of_getElem? (i := 202) (by decide +kernel))) (hts _ (List.mem_of_getElem? (i := 201) (by decide +kernel))) (hts _ (List.mem_of_getElem? (i := 225) (by decide +kernel))) (hts _ (List.mem_of_getElem? (i := 223) (by decide +kernel))) (hts _ (List.mem_of_getElem? (i := 177) (by decide +kernel)))
theorem fz_8 {s : State} {A : Array Value} (hts : ∀ w ∈ tables_1, w.before A s = true) : va_Fw "LetterAlgebra$PairMachine" ⟨"LetterAlgebra$Machine", "stepCode", "(II)I"⟩ ⟨"LetterAlgebra$PairMachine", "stepCode", "(II)I"⟩ s := va_Fw.of (hts _ (List.mem_of_getElem? (i := 202) (by decide +kernel))) (hts _ (List.mem_of_getElem? (i := 201) (by decide +kernel))) (hts _ (List.mem_of_getElem? (i := 231) (by decide +kernel))) (hts _ (List.mem_of_getElem? (i := 229) (by decide +kernel))) (hts _ (List.mem_of_getElem? (i := 183) (by decide +kernel)))
theorem fz_9 {s : State} {A : Array Value} (hts : ∀ w ∈ tables_1, w.before A s = true) : va_Fw "LetterAlgebra$StarMachine" ⟨"LetterAlgebra$Machine", "stepCode", "(II)I"⟩ ⟨"LetterAlgebra$StarMachine", "stepCode", "(II)I"⟩ s := va_Fw.of (hts _ (List.mem_of_getElem? (i := 202) (by decide +kernel))) (hts _ (List.mem_of_getElem? (i := 201) (by decide +kernel))) (hts _ (List.mem_of_getElem? (i := 237) (by decide +kernel))) (hts _ (List.mem_of_getElem? (i := 235) (by decide +kernel))) (hts _ (List.mem_of_getElem? (i := 189) (by decide +kernel)))
theorem fz_10 {s : State} {A : Array Value} (hts : ∀ w ∈ tables_1, w.before A s = true) : va_Fw "LetterAlgebra$BasicMachine" ⟨"LetterAlgebra$Machine", "isAcceptingCode", "(I)Z"⟩ ⟨"LetterAlgebra$BasicMachine", "isAcceptingCode", "(I)Z"⟩ s := va_Fw.of (hts _ (List.mem_of_getElem? (i := 251) (by decide +kernel))) (hts _ (List.mem_of_getElem? (i := 250) (by decide +kernel))) (hts _ (List.mem_of_getElem? (i := 255) (by decide +kernel))) (hts _ (List.mem_of_getElem? (i := 253) (by decide +kernel))) (hts _ (List.mem_of_getElem? (i := 156) (by decide +kernel)))
theorem fz_11 {s : State} {A : Array Value} (hts : ∀ w ∈ tables_1, w.before A s = true) : va_Fw "LetterAlgebra$ChainMachine" ⟨"LetterAlgebra$Machine", "isAcceptingCode", "(I)Z"⟩ ⟨"LetterAlgebra$ChainMachine", "isAcceptingCode", "(I)Z"⟩ s := va_Fw.of (hts _ (List.mem_of_getElem? (i := 251) (by decide +kernel))) (hts _ (List.mem_of_getElem? (i := 250) (by decide +kernel))) (hts _ (List.mem_of_getElem? (i := 260) (by decide +kernel))) (hts _ (List.mem_of_getElem? (i := 258) (by decide +kernel))) (hts _ (List.mem_of_getElem? (i := 162) (by decide +kernel)))
theorem fz_12 {s : State} {A : Array Value} (hts : ∀ w ∈ tables_1, w.before A s = true) : va_Fw "LetterAlgebra$InverseMachine" ⟨"LetterAlgebra$Machine", "isAcceptingCode", "(I)Z"⟩ ⟨"LetterAlgebra$InverseMachine", "isAcceptingCode", "(I)Z"⟩ s := va_Fw.of (hts _ (List.mem_of_getElem? (i := 251) (by decide +kernel))) (hts _ (List.mem_of_getElem? (i := 250) (by decide +kernel))) (hts _ (List.mem_of_getElem? (i := 266) (by decide +kernel))) (hts _ (List.mem_of_getElem? (i := 264) (by decide +kernel))) (hts _ (List.mem_of_getElem? (i := 177) (by decide +kernel)))
theorem fz_13 {s : State} {A : Array Value} (hts : ∀ w ∈ tables_1, w.before A s = true) : va_Fw "LetterAlgebra$PairMachine" ⟨"LetterAlgebra$Machine", "isAcceptingCode", "(I)Z"⟩ ⟨"LetterAlgebra$PairMachine", "isAcceptingCode", "(I)Z"⟩ s := va_Fw.of (hts _ (List.mem_of_getElem? (i := 251) (by decide +kernel))) (hts _ (List.mem_of_getElem? (i := 250) (by decide +kernel))) (hts _ (List.mem_of_getElem? (i := 272) (by decide +kernel))) (hts _ (List.mem_of_getElem? (i := 270) (by decide +kernel))) (hts _ (List.mem_of_getElem? (i := 183) (by decide +kernel)))
theorem fz_14 {s : State} {A : Array Value} (hts : ∀ w ∈ tables_1, w.before A s = true) : va_Fw "LetterAlgebra$StarMachine" ⟨"LetterAlgebra$Machine", "isAcceptingCode", "(I)Z"⟩ ⟨"LetterAlgebra$StarMachine", "isAcceptingCode", "(I)Z"⟩ s := va_Fw.of (hts _ (List.mem_of_getElem? (i := 251) (by decide +kernel))) (hts _ (List.mem_of_getElem? (i := 250) (by decide +kernel))) (hts _ (List.mem_of_getElem? (i := 278) (by decide +kernel))) (hts _ (List.mem_of_getElem? (i := 276) (by decide +kernel))) (hts _ (List.mem_of_getElem? (i := 189) (by decide +kernel)))
theorem zp_Fin {s : State} {A : Array Value} (hts : ∀ w ∈ tables_1, w.before A s = true) : ∀ q ∈ zp_F, va_Fw q.1 q.2.1 q.2.2 s := List.forall_mem_cons.mpr ⟨fz_0 hts, List.forall_mem_cons.mpr ⟨fz_1 hts, List.forall_mem_cons.mpr ⟨fz_2 hts, List.forall_mem_cons.mpr ⟨fz_3 hts, List.forall_mem_cons.mpr ⟨fz_4 hts, List.forall_mem_cons.mpr ⟨fz_5 hts, List.forall_mem_cons.mpr ⟨fz_6 hts, List.forall_mem_cons.mpr ⟨fz_7 hts, List.forall_mem_cons.mpr ⟨fz_8 hts, List.forall_mem_cons.mpr ⟨fz_9 hts, List.forall_mem_cons.mpr ⟨fz_10 hts, List.forall_mem_cons.mpr ⟨fz_11 hts, List.forall_mem_cons.mpr ⟨fz_12 hts, List.forall_mem_cons.mpr ⟨fz_13 hts, List.forall_mem_cons.mpr ⟨fz_14 hts, fun w h => absurd h List.not_mem_nil⟩⟩⟩⟩⟩⟩⟩⟩⟩⟩⟩⟩⟩⟩⟩
theorem az_0 : Cond.arrayOver (.object "LetterAlgebra$Automaton") ∈ tables_1 := List.mem_of_getElem? (i := 21) (by decide +kernel)
theorem zc_all {s : State} {A : Array Value} (hG : ∀ w ∈ zp_G, w.before A s = true) : ∀ (c : Nat) (q : vw_C), zp_classes[c]? = some q → ∃ z : ClassId × (Nat → Nat), u_Kn s q.1 q.2.1 q.2.2 z.1 z.2
  | 0, q, h => by
    cases h
    obtain ⟨a, b, hk⟩ := u_known hG k_Au.2.1 (hG _ ki_Au)
    exact ⟨(a, b), hk⟩
  | 1, q, h => by
    cases h
    obtain ⟨a, b, hk⟩ := u_known hG k_LA.2.1 (hG _ ki_LA)
    exact ⟨(a, b), hk⟩
  | 2, q, h => by
    cases h
    obtain ⟨a, b, hk⟩ := u_known hG k_Ba.2.1 (hG _ ki_Ba)
    exact ⟨(a, b), hk⟩
  | 3, q, h => by
    cases h
    obtain ⟨a, b, hk⟩ := u_known hG k_Pa.2.1 (hG _ ki_Pa)
    exact ⟨(a, b), hk⟩
  | 4, q, h => by
    cases h
    obtain ⟨a, b, hk⟩ := u_known hG k_Ch.2.1 (hG _ ki_Ch)
    exact ⟨(a, b), hk⟩
  | 5, q, h => by
    cases h
    obtain ⟨a, b, hk⟩ := u_known hG k_St.2.1 (hG _ ki_St)
    exact ⟨(a, b), hk⟩
  | 6, q, h => by
    cases h
    obtain ⟨a, b, hk⟩ := u_known hG k_In.2.1 (hG _ ki_In)
    exact ⟨(a, b), hk⟩
  | 7, q, h => by
    cases h
    obtain ⟨a, b, hk⟩ := u_known hG k_Re.2.1 (hG _ ki_Re)
    exact ⟨(a, b), hk⟩
  | 8, q, h => by
    cases h
    obtain ⟨a, b, hk⟩ := u_known hG k_Al.2.1 (hG _ ki_Al)
    exact ⟨(a, b), hk⟩
  | 9, q, h => by
    cases h
    obtain ⟨a, b, hk⟩ := u_known hG k_Mo.2.1 (hG _ ki_Mo)
    exact ⟨(a, b), hk⟩
  | c + 10, q, h => by simp [zp_classes] at h
